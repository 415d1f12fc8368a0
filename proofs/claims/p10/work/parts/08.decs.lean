theorem dJ7_fill_53178_0 : decode cJ7_fill_53178 0 = .ok (.iconst 0, 1) := by decide +kernel
theorem dJ7_fill_53178_1 : decode cJ7_fill_53178 1 = .ok (.istore_n 2, 1) := by decide +kernel
theorem dJ7_fill_53178_10 : decode cJ7_fill_53178 10 = .ok (.aload_n 0, 1) := by decide +kernel
theorem dJ7_fill_53178_11 : decode cJ7_fill_53178 11 = .ok (.iload_n 2, 1) := by decide +kernel
theorem dJ7_fill_53178_12 : decode cJ7_fill_53178 12 = .ok (.iload_n 1, 1) := by decide +kernel
theorem dJ7_fill_53178_13 : decode cJ7_fill_53178 13 = .ok (.iastore, 1) := by decide +kernel
theorem dJ7_fill_53178_14 : decode cJ7_fill_53178 14 = .ok (.iinc 2 1, 3) := by decide +kernel
theorem dJ7_fill_53178_17 : decode cJ7_fill_53178 17 = .ok (.goto (-12), 3) := by decide +kernel
theorem dJ7_fill_53178_2 : decode cJ7_fill_53178 2 = .ok (.aload_n 0, 1) := by decide +kernel
theorem dJ7_fill_53178_20 : decode cJ7_fill_53178 20 = .ok (.return_, 1) := by decide +kernel
theorem dJ7_fill_53178_3 : decode cJ7_fill_53178 3 = .ok (.arraylength, 1) := by decide +kernel
theorem dJ7_fill_53178_4 : decode cJ7_fill_53178 4 = .ok (.istore_n 3, 1) := by decide +kernel
theorem dJ7_fill_53178_5 : decode cJ7_fill_53178 5 = .ok (.iload_n 2, 1) := by decide +kernel
theorem dJ7_fill_53178_6 : decode cJ7_fill_53178 6 = .ok (.iload_n 3, 1) := by decide +kernel
theorem dJ7_fill_53178_7 : decode cJ7_fill_53178 7 = .ok (.if_icmp .ge 13, 3) := by decide +kernel
theorem dJ7_fill_d0a16_0 : decode cJ7_fill_d0a16 0 = .ok (.iconst 0, 1) := by decide +kernel
theorem dJ7_fill_d0a16_1 : decode cJ7_fill_d0a16 1 = .ok (.istore_n 3, 1) := by decide +kernel
theorem dJ7_fill_d0a16_12 : decode cJ7_fill_d0a16 12 = .ok (.aload_n 0, 1) := by decide +kernel
theorem dJ7_fill_d0a16_13 : decode cJ7_fill_d0a16 13 = .ok (.iload_n 3, 1) := by decide +kernel
theorem dJ7_fill_d0a16_14 : decode cJ7_fill_d0a16 14 = .ok (.lload_n 1, 1) := by decide +kernel
theorem dJ7_fill_d0a16_15 : decode cJ7_fill_d0a16 15 = .ok (.lastore, 1) := by decide +kernel
theorem dJ7_fill_d0a16_16 : decode cJ7_fill_d0a16 16 = .ok (.iinc 3 1, 3) := by decide +kernel
theorem dJ7_fill_d0a16_19 : decode cJ7_fill_d0a16 19 = .ok (.goto (-13), 3) := by decide +kernel
theorem dJ7_fill_d0a16_2 : decode cJ7_fill_d0a16 2 = .ok (.aload_n 0, 1) := by decide +kernel
theorem dJ7_fill_d0a16_22 : decode cJ7_fill_d0a16 22 = .ok (.return_, 1) := by decide +kernel
theorem dJ7_fill_d0a16_3 : decode cJ7_fill_d0a16 3 = .ok (.arraylength, 1) := by decide +kernel
theorem dJ7_fill_d0a16_4 : decode cJ7_fill_d0a16 4 = .ok (.istore 4, 2) := by decide +kernel
theorem dJ7_fill_d0a16_6 : decode cJ7_fill_d0a16 6 = .ok (.iload_n 3, 1) := by decide +kernel
theorem dJ7_fill_d0a16_7 : decode cJ7_fill_d0a16 7 = .ok (.iload 4, 2) := by decide +kernel
theorem dJ7_fill_d0a16_9 : decode cJ7_fill_d0a16 9 = .ok (.if_icmp .ge 13, 3) := by decide +kernel
theorem dJ9_abs_067f4_0 : decode cJ9_abs_067f4 0 = .ok (.lload_n 0, 1) := by decide +kernel
theorem dJ9_abs_067f4_1 : decode cJ9_abs_067f4 1 = .ok (.lconst 0, 1) := by decide +kernel
theorem dJ9_abs_067f4_11 : decode cJ9_abs_067f4 11 = .ok (.lload_n 0, 1) := by decide +kernel
theorem dJ9_abs_067f4_12 : decode cJ9_abs_067f4 12 = .ok (.lreturn, 1) := by decide +kernel
theorem dJ9_abs_067f4_2 : decode cJ9_abs_067f4 2 = .ok (.lcmp, 1) := by decide +kernel
theorem dJ9_abs_067f4_3 : decode cJ9_abs_067f4 3 = .ok (.ifCond .ge 8, 3) := by decide +kernel
theorem dJ9_abs_067f4_6 : decode cJ9_abs_067f4 6 = .ok (.lload_n 0, 1) := by decide +kernel
theorem dJ9_abs_067f4_7 : decode cJ9_abs_067f4 7 = .ok (.lneg, 1) := by decide +kernel
theorem dJ9_abs_067f4_8 : decode cJ9_abs_067f4 8 = .ok (.goto 4, 3) := by decide +kernel
theorem dJ9_floorDiv_7cf53_0 : decode cJ9_floorDiv_7cf53 0 = .ok (.iload_n 0, 1) := by decide +kernel
theorem dJ9_floorDiv_7cf53_1 : decode cJ9_floorDiv_7cf53 1 = .ok (.iload_n 1, 1) := by decide +kernel
theorem dJ9_floorDiv_7cf53_10 : decode cJ9_floorDiv_7cf53 10 = .ok (.iload_n 2, 1) := by decide +kernel
theorem dJ9_floorDiv_7cf53_11 : decode cJ9_floorDiv_7cf53 11 = .ok (.iload_n 1, 1) := by decide +kernel
theorem dJ9_floorDiv_7cf53_12 : decode cJ9_floorDiv_7cf53 12 = .ok (.imul, 1) := by decide +kernel
theorem dJ9_floorDiv_7cf53_13 : decode cJ9_floorDiv_7cf53 13 = .ok (.iload_n 0, 1) := by decide +kernel
theorem dJ9_floorDiv_7cf53_14 : decode cJ9_floorDiv_7cf53 14 = .ok (.if_icmp .eq 7, 3) := by decide +kernel
theorem dJ9_floorDiv_7cf53_17 : decode cJ9_floorDiv_7cf53 17 = .ok (.iload_n 2, 1) := by decide +kernel
theorem dJ9_floorDiv_7cf53_18 : decode cJ9_floorDiv_7cf53 18 = .ok (.iconst 1, 1) := by decide +kernel
theorem dJ9_floorDiv_7cf53_19 : decode cJ9_floorDiv_7cf53 19 = .ok (.isub, 1) := by decide +kernel
theorem dJ9_floorDiv_7cf53_2 : decode cJ9_floorDiv_7cf53 2 = .ok (.idiv, 1) := by decide +kernel
theorem dJ9_floorDiv_7cf53_20 : decode cJ9_floorDiv_7cf53 20 = .ok (.ireturn, 1) := by decide +kernel
theorem dJ9_floorDiv_7cf53_21 : decode cJ9_floorDiv_7cf53 21 = .ok (.iload_n 2, 1) := by decide +kernel
theorem dJ9_floorDiv_7cf53_22 : decode cJ9_floorDiv_7cf53 22 = .ok (.ireturn, 1) := by decide +kernel
theorem dJ9_floorDiv_7cf53_3 : decode cJ9_floorDiv_7cf53 3 = .ok (.istore_n 2, 1) := by decide +kernel
theorem dJ9_floorDiv_7cf53_4 : decode cJ9_floorDiv_7cf53 4 = .ok (.iload_n 0, 1) := by decide +kernel
theorem dJ9_floorDiv_7cf53_5 : decode cJ9_floorDiv_7cf53 5 = .ok (.iload_n 1, 1) := by decide +kernel
theorem dJ9_floorDiv_7cf53_6 : decode cJ9_floorDiv_7cf53 6 = .ok (.ixor, 1) := by decide +kernel
theorem dJ9_floorDiv_7cf53_7 : decode cJ9_floorDiv_7cf53 7 = .ok (.ifCond .ge 14, 3) := by decide +kernel
theorem dJ9_floorDiv_f86c9_0 : decode cJ9_floorDiv_f86c9 0 = .ok (.lload_n 0, 1) := by decide +kernel
theorem dJ9_floorDiv_f86c9_1 : decode cJ9_floorDiv_f86c9 1 = .ok (.lload_n 2, 1) := by decide +kernel
theorem dJ9_floorDiv_f86c9_10 : decode cJ9_floorDiv_f86c9 10 = .ok (.ifCond .ge 17, 3) := by decide +kernel
theorem dJ9_floorDiv_f86c9_13 : decode cJ9_floorDiv_f86c9 13 = .ok (.lload 4, 2) := by decide +kernel
theorem dJ9_floorDiv_f86c9_15 : decode cJ9_floorDiv_f86c9 15 = .ok (.lload_n 2, 1) := by decide +kernel
theorem dJ9_floorDiv_f86c9_16 : decode cJ9_floorDiv_f86c9 16 = .ok (.lmul, 1) := by decide +kernel
theorem dJ9_floorDiv_f86c9_17 : decode cJ9_floorDiv_f86c9 17 = .ok (.lload_n 0, 1) := by decide +kernel
theorem dJ9_floorDiv_f86c9_18 : decode cJ9_floorDiv_f86c9 18 = .ok (.lcmp, 1) := by decide +kernel
theorem dJ9_floorDiv_f86c9_19 : decode cJ9_floorDiv_f86c9 19 = .ok (.ifCond .eq 8, 3) := by decide +kernel
theorem dJ9_floorDiv_f86c9_2 : decode cJ9_floorDiv_f86c9 2 = .ok (.ldiv, 1) := by decide +kernel
theorem dJ9_floorDiv_f86c9_22 : decode cJ9_floorDiv_f86c9 22 = .ok (.lload 4, 2) := by decide +kernel
theorem dJ9_floorDiv_f86c9_24 : decode cJ9_floorDiv_f86c9 24 = .ok (.lconst 1, 1) := by decide +kernel
theorem dJ9_floorDiv_f86c9_25 : decode cJ9_floorDiv_f86c9 25 = .ok (.lsub, 1) := by decide +kernel
theorem dJ9_floorDiv_f86c9_26 : decode cJ9_floorDiv_f86c9 26 = .ok (.lreturn, 1) := by decide +kernel
theorem dJ9_floorDiv_f86c9_27 : decode cJ9_floorDiv_f86c9 27 = .ok (.lload 4, 2) := by decide +kernel
theorem dJ9_floorDiv_f86c9_29 : decode cJ9_floorDiv_f86c9 29 = .ok (.lreturn, 1) := by decide +kernel
theorem dJ9_floorDiv_f86c9_3 : decode cJ9_floorDiv_f86c9 3 = .ok (.lstore 4, 2) := by decide +kernel
theorem dJ9_floorDiv_f86c9_5 : decode cJ9_floorDiv_f86c9 5 = .ok (.lload_n 0, 1) := by decide +kernel
theorem dJ9_floorDiv_f86c9_6 : decode cJ9_floorDiv_f86c9 6 = .ok (.lload_n 2, 1) := by decide +kernel
theorem dJ9_floorDiv_f86c9_7 : decode cJ9_floorDiv_f86c9 7 = .ok (.lxor, 1) := by decide +kernel
theorem dJ9_floorDiv_f86c9_8 : decode cJ9_floorDiv_f86c9 8 = .ok (.lconst 0, 1) := by decide +kernel
theorem dJ9_floorDiv_f86c9_9 : decode cJ9_floorDiv_f86c9 9 = .ok (.lcmp, 1) := by decide +kernel
theorem dX0_chooseEquation_0 : decode cX0_chooseEquation 0 = .ok (.aload_n 0, 1) := by decide +kernel
theorem dX0_chooseEquation_1 : decode cX0_chooseEquation 1 = .ok (.getfield 9, 3) := by decide +kernel
theorem dX0_chooseEquation_10 : decode cX0_chooseEquation 10 = .ok (.iload_n 1, 1) := by decide +kernel
theorem dX0_chooseEquation_11 : decode cX0_chooseEquation 11 = .ok (.aload_n 0, 1) := by decide +kernel
theorem dX0_chooseEquation_12 : decode cX0_chooseEquation 12 = .ok (.getfield 21, 3) := by decide +kernel
theorem dX0_chooseEquation_15 : decode cX0_chooseEquation 15 = .ok (.getfield 55, 3) := by decide +kernel
theorem dX0_chooseEquation_18 : decode cX0_chooseEquation 18 = .ok (.if_icmp .ge 68, 3) := by decide +kernel
theorem dX0_chooseEquation_21 : decode cX0_chooseEquation 21 = .ok (.iconst 0, 1) := by decide +kernel
theorem dX0_chooseEquation_22 : decode cX0_chooseEquation 22 = .ok (.istore_n 2, 1) := by decide +kernel
theorem dX0_chooseEquation_23 : decode cX0_chooseEquation 23 = .ok (.iload_n 2, 1) := by decide +kernel
theorem dX0_chooseEquation_24 : decode cX0_chooseEquation 24 = .ok (.aload_n 0, 1) := by decide +kernel
theorem dX0_chooseEquation_25 : decode cX0_chooseEquation 25 = .ok (.getfield 21, 3) := by decide +kernel
theorem dX0_chooseEquation_28 : decode cX0_chooseEquation 28 = .ok (.getfield 42, 3) := by decide +kernel
theorem dX0_chooseEquation_31 : decode cX0_chooseEquation 31 = .ok (.if_icmp .ge 49, 3) := by decide +kernel
theorem dX0_chooseEquation_34 : decode cX0_chooseEquation 34 = .ok (.aload_n 0, 1) := by decide +kernel
theorem dX0_chooseEquation_35 : decode cX0_chooseEquation 35 = .ok (.getfield 21, 3) := by decide +kernel
theorem dX0_chooseEquation_38 : decode cX0_chooseEquation 38 = .ok (.getfield 58, 3) := by decide +kernel
theorem dX0_chooseEquation_4 : decode cX0_chooseEquation 4 = .ok (.iconst 0, 1) := by decide +kernel
theorem dX0_chooseEquation_41 : decode cX0_chooseEquation 41 = .ok (.iload_n 1, 1) := by decide +kernel
theorem dX0_chooseEquation_42 : decode cX0_chooseEquation 42 = .ok (.aaload, 1) := by decide +kernel
theorem dX0_chooseEquation_43 : decode cX0_chooseEquation 43 = .ok (.iload_n 2, 1) := by decide +kernel
theorem dX0_chooseEquation_44 : decode cX0_chooseEquation 44 = .ok (.iaload, 1) := by decide +kernel
theorem dX0_chooseEquation_45 : decode cX0_chooseEquation 45 = .ok (.ifCond .eq 29, 3) := by decide +kernel
theorem dX0_chooseEquation_48 : decode cX0_chooseEquation 48 = .ok (.aload_n 0, 1) := by decide +kernel
theorem dX0_chooseEquation_49 : decode cX0_chooseEquation 49 = .ok (.getfield 21, 3) := by decide +kernel
theorem dX0_chooseEquation_5 : decode cX0_chooseEquation 5 = .ok (.invokestatic 32, 3) := by decide +kernel
theorem dX0_chooseEquation_52 : decode cX0_chooseEquation 52 = .ok (.getfield 58, 3) := by decide +kernel
theorem dX0_chooseEquation_55 : decode cX0_chooseEquation 55 = .ok (.iload_n 1, 1) := by decide +kernel
theorem dX0_chooseEquation_56 : decode cX0_chooseEquation 56 = .ok (.aaload, 1) := by decide +kernel
theorem dX0_chooseEquation_57 : decode cX0_chooseEquation 57 = .ok (.iconst 0, 1) := by decide +kernel
theorem dX0_chooseEquation_58 : decode cX0_chooseEquation 58 = .ok (.aload_n 0, 1) := by decide +kernel
theorem dX0_chooseEquation_59 : decode cX0_chooseEquation 59 = .ok (.getfield 9, 3) := by decide +kernel
theorem dX0_chooseEquation_62 : decode cX0_chooseEquation 62 = .ok (.iconst 0, 1) := by decide +kernel
theorem dX0_chooseEquation_63 : decode cX0_chooseEquation 63 = .ok (.aload_n 0, 1) := by decide +kernel
theorem dX0_chooseEquation_64 : decode cX0_chooseEquation 64 = .ok (.getfield 21, 3) := by decide +kernel
theorem dX0_chooseEquation_67 : decode cX0_chooseEquation 67 = .ok (.getfield 42, 3) := by decide +kernel
theorem dX0_chooseEquation_70 : decode cX0_chooseEquation 70 = .ok (.invokestatic 61, 3) := by decide +kernel
theorem dX0_chooseEquation_73 : decode cX0_chooseEquation 73 = .ok (.return_, 1) := by decide +kernel
theorem dX0_chooseEquation_74 : decode cX0_chooseEquation 74 = .ok (.iinc 2 1, 3) := by decide +kernel
theorem dX0_chooseEquation_77 : decode cX0_chooseEquation 77 = .ok (.goto (-54), 3) := by decide +kernel
theorem dX0_chooseEquation_8 : decode cX0_chooseEquation 8 = .ok (.iconst 0, 1) := by decide +kernel
theorem dX0_chooseEquation_80 : decode cX0_chooseEquation 80 = .ok (.iinc 1 1, 3) := by decide +kernel
theorem dX0_chooseEquation_83 : decode cX0_chooseEquation 83 = .ok (.goto (-73), 3) := by decide +kernel
theorem dX0_chooseEquation_86 : decode cX0_chooseEquation 86 = .ok (.return_, 1) := by decide +kernel
theorem dX0_chooseEquation_9 : decode cX0_chooseEquation 9 = .ok (.istore_n 1, 1) := by decide +kernel
theorem dX0_isLeast_0 : decode cX0_isLeast 0 = .ok (.lconst 1, 1) := by decide +kernel
theorem dX0_isLeast_1 : decode cX0_isLeast 1 = .ok (.lstore_n 2, 1) := by decide +kernel
theorem dX0_isLeast_100 : decode cX0_isLeast 100 = .ok (.istore 8, 2) := by decide +kernel
theorem dX0_isLeast_102 : decode cX0_isLeast 102 = .ok (.iconst 0, 1) := by decide +kernel
theorem dX0_isLeast_103 : decode cX0_isLeast 103 = .ok (.istore 11, 2) := by decide +kernel
theorem dX0_isLeast_105 : decode cX0_isLeast 105 = .ok (.iload 11, 2) := by decide +kernel
theorem dX0_isLeast_107 : decode cX0_isLeast 107 = .ok (.iload 8, 2) := by decide +kernel
theorem dX0_isLeast_109 : decode cX0_isLeast 109 = .ok (.if_icmp .ge 34, 3) := by decide +kernel
theorem dX0_isLeast_11 : decode cX0_isLeast 11 = .ok (.iload 7, 2) := by decide +kernel
theorem dX0_isLeast_112 : decode cX0_isLeast 112 = .ok (.iload 10, 2) := by decide +kernel
theorem dX0_isLeast_114 : decode cX0_isLeast 114 = .ok (.ifCond .eq 13, 3) := by decide +kernel
theorem dX0_isLeast_117 : decode cX0_isLeast 117 = .ok (.lload_n 2, 1) := by decide +kernel
theorem dX0_isLeast_118 : decode cX0_isLeast 118 = .ok (.lload_n 2, 1) := by decide +kernel
theorem dX0_isLeast_119 : decode cX0_isLeast 119 = .ok (.iload 9, 2) := by decide +kernel
theorem dX0_isLeast_121 : decode cX0_isLeast 121 = .ok (.lshl, 1) := by decide +kernel
theorem dX0_isLeast_122 : decode cX0_isLeast 122 = .ok (.lor, 1) := by decide +kernel
theorem dX0_isLeast_123 : decode cX0_isLeast 123 = .ok (.lstore_n 2, 1) := by decide +kernel
theorem dX0_isLeast_124 : decode cX0_isLeast 124 = .ok (.goto 13, 3) := by decide +kernel
theorem dX0_isLeast_127 : decode cX0_isLeast 127 = .ok (.lload 4, 2) := by decide +kernel
theorem dX0_isLeast_129 : decode cX0_isLeast 129 = .ok (.lload 4, 2) := by decide +kernel
theorem dX0_isLeast_13 : decode cX0_isLeast 13 = .ok (.aload_n 0, 1) := by decide +kernel
theorem dX0_isLeast_131 : decode cX0_isLeast 131 = .ok (.iload 9, 2) := by decide +kernel
theorem dX0_isLeast_133 : decode cX0_isLeast 133 = .ok (.lshl, 1) := by decide +kernel
theorem dX0_isLeast_134 : decode cX0_isLeast 134 = .ok (.lor, 1) := by decide +kernel
theorem dX0_isLeast_135 : decode cX0_isLeast 135 = .ok (.lstore 4, 2) := by decide +kernel
theorem dX0_isLeast_137 : decode cX0_isLeast 137 = .ok (.iinc 11 1, 3) := by decide +kernel
theorem dX0_isLeast_14 : decode cX0_isLeast 14 = .ok (.getfield 21, 3) := by decide +kernel
theorem dX0_isLeast_140 : decode cX0_isLeast 140 = .ok (.goto (-35), 3) := by decide +kernel
theorem dX0_isLeast_143 : decode cX0_isLeast 143 = .ok (.iinc 7 1, 3) := by decide +kernel
theorem dX0_isLeast_146 : decode cX0_isLeast 146 = .ok (.goto (-135), 3) := by decide +kernel
theorem dX0_isLeast_149 : decode cX0_isLeast 149 = .ok (.iload 6, 2) := by decide +kernel
theorem dX0_isLeast_151 : decode cX0_isLeast 151 = .ok (.ifCond .le 19, 3) := by decide +kernel
theorem dX0_isLeast_154 : decode cX0_isLeast 154 = .ok (.iload 6, 2) := by decide +kernel
theorem dX0_isLeast_156 : decode cX0_isLeast 156 = .ok (.iconst 1, 1) := by decide +kernel
theorem dX0_isLeast_157 : decode cX0_isLeast 157 = .ok (.if_icmp .ne 11, 3) := by decide +kernel
theorem dX0_isLeast_160 : decode cX0_isLeast 160 = .ok (.iload_n 1, 1) := by decide +kernel
theorem dX0_isLeast_161 : decode cX0_isLeast 161 = .ok (.ifCond .ne 7, 3) := by decide +kernel
theorem dX0_isLeast_164 : decode cX0_isLeast 164 = .ok (.iconst 1, 1) := by decide +kernel
theorem dX0_isLeast_165 : decode cX0_isLeast 165 = .ok (.goto 4, 3) := by decide +kernel
theorem dX0_isLeast_168 : decode cX0_isLeast 168 = .ok (.iconst 0, 1) := by decide +kernel
theorem dX0_isLeast_169 : decode cX0_isLeast 169 = .ok (.ireturn, 1) := by decide +kernel
theorem dX0_isLeast_17 : decode cX0_isLeast 17 = .ok (.getfield 42, 3) := by decide +kernel
theorem dX0_isLeast_170 : decode cX0_isLeast 170 = .ok (.iload_n 1, 1) := by decide +kernel
theorem dX0_isLeast_171 : decode cX0_isLeast 171 = .ok (.ifCond .le 20, 3) := by decide +kernel
theorem dX0_isLeast_174 : decode cX0_isLeast 174 = .ok (.lload_n 2, 1) := by decide +kernel
theorem dX0_isLeast_175 : decode cX0_isLeast 175 = .ok (.lload 4, 2) := by decide +kernel
theorem dX0_isLeast_177 : decode cX0_isLeast 177 = .ok (.land, 1) := by decide +kernel
theorem dX0_isLeast_178 : decode cX0_isLeast 178 = .ok (.lconst 1, 1) := by decide +kernel
theorem dX0_isLeast_179 : decode cX0_isLeast 179 = .ok (.lconst 1, 1) := by decide +kernel
theorem dX0_isLeast_180 : decode cX0_isLeast 180 = .ok (.iload_n 1, 1) := by decide +kernel
theorem dX0_isLeast_181 : decode cX0_isLeast 181 = .ok (.lshl, 1) := by decide +kernel
theorem dX0_isLeast_182 : decode cX0_isLeast 182 = .ok (.lor, 1) := by decide +kernel
theorem dX0_isLeast_183 : decode cX0_isLeast 183 = .ok (.lcmp, 1) := by decide +kernel
theorem dX0_isLeast_184 : decode cX0_isLeast 184 = .ok (.ifCond .ne 7, 3) := by decide +kernel
theorem dX0_isLeast_187 : decode cX0_isLeast 187 = .ok (.iconst 1, 1) := by decide +kernel
theorem dX0_isLeast_188 : decode cX0_isLeast 188 = .ok (.goto 4, 3) := by decide +kernel
theorem dX0_isLeast_191 : decode cX0_isLeast 191 = .ok (.iconst 0, 1) := by decide +kernel
theorem dX0_isLeast_192 : decode cX0_isLeast 192 = .ok (.ireturn, 1) := by decide +kernel
theorem dX0_isLeast_2 : decode cX0_isLeast 2 = .ok (.lconst 1, 1) := by decide +kernel
theorem dX0_isLeast_20 : decode cX0_isLeast 20 = .ok (.if_icmp .ge 129, 3) := by decide +kernel
theorem dX0_isLeast_23 : decode cX0_isLeast 23 = .ok (.aload_n 0, 1) := by decide +kernel
theorem dX0_isLeast_24 : decode cX0_isLeast 24 = .ok (.getfield 18, 3) := by decide +kernel
theorem dX0_isLeast_27 : decode cX0_isLeast 27 = .ok (.iload 7, 2) := by decide +kernel
theorem dX0_isLeast_29 : decode cX0_isLeast 29 = .ok (.iaload, 1) := by decide +kernel
theorem dX0_isLeast_3 : decode cX0_isLeast 3 = .ok (.lstore 4, 2) := by decide +kernel
theorem dX0_isLeast_30 : decode cX0_isLeast 30 = .ok (.invokestatic 67, 3) := by decide +kernel
theorem dX0_isLeast_33 : decode cX0_isLeast 33 = .ok (.istore 8, 2) := by decide +kernel
theorem dX0_isLeast_35 : decode cX0_isLeast 35 = .ok (.aload_n 0, 1) := by decide +kernel
theorem dX0_isLeast_36 : decode cX0_isLeast 36 = .ok (.getfield 9, 3) := by decide +kernel
theorem dX0_isLeast_39 : decode cX0_isLeast 39 = .ok (.iload 7, 2) := by decide +kernel
theorem dX0_isLeast_41 : decode cX0_isLeast 41 = .ok (.iaload, 1) := by decide +kernel
theorem dX0_isLeast_42 : decode cX0_isLeast 42 = .ok (.invokestatic 67, 3) := by decide +kernel
theorem dX0_isLeast_45 : decode cX0_isLeast 45 = .ok (.istore 9, 2) := by decide +kernel
theorem dX0_isLeast_47 : decode cX0_isLeast 47 = .ok (.aload_n 0, 1) := by decide +kernel
theorem dX0_isLeast_48 : decode cX0_isLeast 48 = .ok (.getfield 18, 3) := by decide +kernel
theorem dX0_isLeast_5 : decode cX0_isLeast 5 = .ok (.iconst 0, 1) := by decide +kernel
theorem dX0_isLeast_51 : decode cX0_isLeast 51 = .ok (.iload 7, 2) := by decide +kernel
theorem dX0_isLeast_53 : decode cX0_isLeast 53 = .ok (.iaload, 1) := by decide +kernel
theorem dX0_isLeast_54 : decode cX0_isLeast 54 = .ok (.ifCond .le 7, 3) := by decide +kernel
theorem dX0_isLeast_57 : decode cX0_isLeast 57 = .ok (.iconst 1, 1) := by decide +kernel
theorem dX0_isLeast_58 : decode cX0_isLeast 58 = .ok (.goto 4, 3) := by decide +kernel
theorem dX0_isLeast_6 : decode cX0_isLeast 6 = .ok (.istore 6, 2) := by decide +kernel
theorem dX0_isLeast_61 : decode cX0_isLeast 61 = .ok (.iconst 0, 1) := by decide +kernel
theorem dX0_isLeast_62 : decode cX0_isLeast 62 = .ok (.aload_n 0, 1) := by decide +kernel
theorem dX0_isLeast_63 : decode cX0_isLeast 63 = .ok (.getfield 9, 3) := by decide +kernel
theorem dX0_isLeast_66 : decode cX0_isLeast 66 = .ok (.iload 7, 2) := by decide +kernel
theorem dX0_isLeast_68 : decode cX0_isLeast 68 = .ok (.iaload, 1) := by decide +kernel
theorem dX0_isLeast_69 : decode cX0_isLeast 69 = .ok (.ifCond .le 7, 3) := by decide +kernel
theorem dX0_isLeast_72 : decode cX0_isLeast 72 = .ok (.iconst 1, 1) := by decide +kernel
theorem dX0_isLeast_73 : decode cX0_isLeast 73 = .ok (.goto 4, 3) := by decide +kernel
theorem dX0_isLeast_76 : decode cX0_isLeast 76 = .ok (.iconst 0, 1) := by decide +kernel
theorem dX0_isLeast_77 : decode cX0_isLeast 77 = .ok (.if_icmp .ne 7, 3) := by decide +kernel
theorem dX0_isLeast_8 : decode cX0_isLeast 8 = .ok (.iconst 0, 1) := by decide +kernel
theorem dX0_isLeast_80 : decode cX0_isLeast 80 = .ok (.iconst 1, 1) := by decide +kernel
theorem dX0_isLeast_81 : decode cX0_isLeast 81 = .ok (.goto 4, 3) := by decide +kernel
theorem dX0_isLeast_84 : decode cX0_isLeast 84 = .ok (.iconst 0, 1) := by decide +kernel
theorem dX0_isLeast_85 : decode cX0_isLeast 85 = .ok (.istore 10, 2) := by decide +kernel
theorem dX0_isLeast_87 : decode cX0_isLeast 87 = .ok (.iload 9, 2) := by decide +kernel
theorem dX0_isLeast_89 : decode cX0_isLeast 89 = .ok (.ifCond .ne 13, 3) := by decide +kernel
theorem dX0_isLeast_9 : decode cX0_isLeast 9 = .ok (.istore 7, 2) := by decide +kernel
theorem dX0_isLeast_92 : decode cX0_isLeast 92 = .ok (.iload 6, 2) := by decide +kernel
theorem dX0_isLeast_94 : decode cX0_isLeast 94 = .ok (.iload 8, 2) := by decide +kernel
theorem dX0_isLeast_96 : decode cX0_isLeast 96 = .ok (.iadd, 1) := by decide +kernel
theorem dX0_isLeast_97 : decode cX0_isLeast 97 = .ok (.istore 6, 2) := by decide +kernel
theorem dX0_isLeast_99 : decode cX0_isLeast 99 = .ok (.iconst 0, 1) := by decide +kernel
theorem dX0_reachOf_0 : decode cX0_reachOf 0 = .ok (.aload_n 0, 1) := by decide +kernel
theorem dX0_reachOf_1 : decode cX0_reachOf 1 = .ok (.getfield 9, 3) := by decide +kernel
theorem dX0_reachOf_10 : decode cX0_reachOf 10 = .ok (.ireturn, 1) := by decide +kernel
theorem dX0_reachOf_11 : decode cX0_reachOf 11 = .ok (.iconst 0, 1) := by decide +kernel
theorem dX0_reachOf_12 : decode cX0_reachOf 12 = .ok (.istore_n 2, 1) := by decide +kernel
theorem dX0_reachOf_13 : decode cX0_reachOf 13 = .ok (.iconst 0, 1) := by decide +kernel
theorem dX0_reachOf_14 : decode cX0_reachOf 14 = .ok (.istore_n 3, 1) := by decide +kernel
theorem dX0_reachOf_15 : decode cX0_reachOf 15 = .ok (.iload_n 3, 1) := by decide +kernel
theorem dX0_reachOf_16 : decode cX0_reachOf 16 = .ok (.aload_n 0, 1) := by decide +kernel
theorem dX0_reachOf_17 : decode cX0_reachOf 17 = .ok (.getfield 21, 3) := by decide +kernel
theorem dX0_reachOf_20 : decode cX0_reachOf 20 = .ok (.getfield 42, 3) := by decide +kernel
theorem dX0_reachOf_23 : decode cX0_reachOf 23 = .ok (.if_icmp .ge 28, 3) := by decide +kernel
theorem dX0_reachOf_26 : decode cX0_reachOf 26 = .ok (.iload_n 3, 1) := by decide +kernel
theorem dX0_reachOf_27 : decode cX0_reachOf 27 = .ok (.iload_n 1, 1) := by decide +kernel
theorem dX0_reachOf_28 : decode cX0_reachOf 28 = .ok (.if_icmp .eq 17, 3) := by decide +kernel
theorem dX0_reachOf_31 : decode cX0_reachOf 31 = .ok (.iload_n 2, 1) := by decide +kernel
theorem dX0_reachOf_32 : decode cX0_reachOf 32 = .ok (.aload_n 0, 1) := by decide +kernel
theorem dX0_reachOf_33 : decode cX0_reachOf 33 = .ok (.getfield 9, 3) := by decide +kernel
theorem dX0_reachOf_36 : decode cX0_reachOf 36 = .ok (.iload_n 3, 1) := by decide +kernel
theorem dX0_reachOf_37 : decode cX0_reachOf 37 = .ok (.iaload, 1) := by decide +kernel
theorem dX0_reachOf_38 : decode cX0_reachOf 38 = .ok (.invokestatic 67, 3) := by decide +kernel
theorem dX0_reachOf_4 : decode cX0_reachOf 4 = .ok (.iload_n 1, 1) := by decide +kernel
theorem dX0_reachOf_41 : decode cX0_reachOf 41 = .ok (.invokestatic 72, 3) := by decide +kernel
theorem dX0_reachOf_44 : decode cX0_reachOf 44 = .ok (.istore_n 2, 1) := by decide +kernel
theorem dX0_reachOf_45 : decode cX0_reachOf 45 = .ok (.iinc 3 1, 3) := by decide +kernel
theorem dX0_reachOf_48 : decode cX0_reachOf 48 = .ok (.goto (-33), 3) := by decide +kernel
theorem dX0_reachOf_5 : decode cX0_reachOf 5 = .ok (.iaload, 1) := by decide +kernel
theorem dX0_reachOf_51 : decode cX0_reachOf 51 = .ok (.iload_n 2, 1) := by decide +kernel
theorem dX0_reachOf_52 : decode cX0_reachOf 52 = .ok (.ireturn, 1) := by decide +kernel
theorem dX0_reachOf_6 : decode cX0_reachOf 6 = .ok (.ifCond .ne 5, 3) := by decide +kernel
theorem dX0_reachOf_9 : decode cX0_reachOf 9 = .ok (.iconst 1, 1) := by decide +kernel
theorem dX0_searchFrom_0 : decode cX0_searchFrom 0 = .ok (.iload_n 2, 1) := by decide +kernel
theorem dX0_searchFrom_1 : decode cX0_searchFrom 1 = .ok (.bipush 36, 2) := by decide +kernel
theorem dX0_searchFrom_12 : decode cX0_searchFrom 12 = .ok (.return_, 1) := by decide +kernel
theorem dX0_searchFrom_13 : decode cX0_searchFrom 13 = .ok (.iload_n 1, 1) := by decide +kernel
theorem dX0_searchFrom_14 : decode cX0_searchFrom 14 = .ok (.ifCond .lt 14, 3) := by decide +kernel
theorem dX0_searchFrom_17 : decode cX0_searchFrom 17 = .ok (.iload_n 1, 1) := by decide +kernel
theorem dX0_searchFrom_18 : decode cX0_searchFrom 18 = .ok (.aload_n 0, 1) := by decide +kernel
theorem dX0_searchFrom_19 : decode cX0_searchFrom 19 = .ok (.getfield 21, 3) := by decide +kernel
theorem dX0_searchFrom_22 : decode cX0_searchFrom 22 = .ok (.getfield 42, 3) := by decide +kernel
theorem dX0_searchFrom_25 : decode cX0_searchFrom 25 = .ok (.if_icmp .lt 30, 3) := by decide +kernel
theorem dX0_searchFrom_28 : decode cX0_searchFrom 28 = .ok (.iload_n 2, 1) := by decide +kernel
theorem dX0_searchFrom_29 : decode cX0_searchFrom 29 = .ok (.iload_n 3, 1) := by decide +kernel
theorem dX0_searchFrom_3 : decode cX0_searchFrom 3 = .ok (.if_icmp .gt 9, 3) := by decide +kernel
theorem dX0_searchFrom_30 : decode cX0_searchFrom 30 = .ok (.if_icmp .ne 24, 3) := by decide +kernel
theorem dX0_searchFrom_33 : decode cX0_searchFrom 33 = .ok (.aload_n 0, 1) := by decide +kernel
theorem dX0_searchFrom_34 : decode cX0_searchFrom 34 = .ok (.iload_n 2, 1) := by decide +kernel
theorem dX0_searchFrom_35 : decode cX0_searchFrom 35 = .ok (.invokevirtual 76, 3) := by decide +kernel
theorem dX0_searchFrom_38 : decode cX0_searchFrom 38 = .ok (.ifCond .eq 16, 3) := by decide +kernel
theorem dX0_searchFrom_41 : decode cX0_searchFrom 41 = .ok (.aload_n 0, 1) := by decide +kernel
theorem dX0_searchFrom_42 : decode cX0_searchFrom 42 = .ok (.getfield 25, 3) := by decide +kernel
theorem dX0_searchFrom_45 : decode cX0_searchFrom 45 = .ok (.aload_n 0, 1) := by decide +kernel
theorem dX0_searchFrom_46 : decode cX0_searchFrom 46 = .ok (.getfield 18, 3) := by decide +kernel
theorem dX0_searchFrom_49 : decode cX0_searchFrom 49 = .ok (.iconst 0, 1) := by decide +kernel
theorem dX0_searchFrom_50 : decode cX0_searchFrom 50 = .ok (.iconst 1, 1) := by decide +kernel
theorem dX0_searchFrom_51 : decode cX0_searchFrom 51 = .ok (.invokevirtual 80, 3) := by decide +kernel
theorem dX0_searchFrom_54 : decode cX0_searchFrom 54 = .ok (.return_, 1) := by decide +kernel
theorem dX0_searchFrom_55 : decode cX0_searchFrom 55 = .ok (.aload_n 0, 1) := by decide +kernel
theorem dX0_searchFrom_56 : decode cX0_searchFrom 56 = .ok (.iload_n 1, 1) := by decide +kernel
theorem dX0_searchFrom_57 : decode cX0_searchFrom 57 = .ok (.iload_n 2, 1) := by decide +kernel
theorem dX0_searchFrom_58 : decode cX0_searchFrom 58 = .ok (.iload_n 3, 1) := by decide +kernel
theorem dX0_searchFrom_59 : decode cX0_searchFrom 59 = .ok (.invokevirtual 86, 3) := by decide +kernel
theorem dX0_searchFrom_6 : decode cX0_searchFrom 6 = .ok (.iload_n 3, 1) := by decide +kernel
theorem dX0_searchFrom_62 : decode cX0_searchFrom 62 = .ok (.return_, 1) := by decide +kernel
theorem dX0_searchFrom_7 : decode cX0_searchFrom 7 = .ok (.bipush 36, 2) := by decide +kernel
theorem dX0_searchFrom_9 : decode cX0_searchFrom 9 = .ok (.if_icmp .le 4, 3) := by decide +kernel
theorem dX0_search_0 : decode cX0_search 0 = .ok (.aload_n 0, 1) := by decide +kernel
theorem dX0_search_1 : decode cX0_search 1 = .ok (.invokevirtual 29, 3) := by decide +kernel
theorem dX0_search_12 : decode cX0_search 12 = .ok (.aload_n 0, 1) := by decide +kernel
theorem dX0_search_13 : decode cX0_search 13 = .ok (.iconst (-1), 1) := by decide +kernel
theorem dX0_search_14 : decode cX0_search 14 = .ok (.putfield 38, 3) := by decide +kernel
theorem dX0_search_17 : decode cX0_search 17 = .ok (.iconst 0, 1) := by decide +kernel
theorem dX0_search_18 : decode cX0_search 18 = .ok (.istore_n 1, 1) := by decide +kernel
theorem dX0_search_19 : decode cX0_search 19 = .ok (.iload_n 1, 1) := by decide +kernel
theorem dX0_search_20 : decode cX0_search 20 = .ok (.aload_n 0, 1) := by decide +kernel
theorem dX0_search_21 : decode cX0_search 21 = .ok (.getfield 21, 3) := by decide +kernel
theorem dX0_search_24 : decode cX0_search 24 = .ok (.getfield 42, 3) := by decide +kernel
theorem dX0_search_27 : decode cX0_search 27 = .ok (.if_icmp .ge 34, 3) := by decide +kernel
theorem dX0_search_30 : decode cX0_search 30 = .ok (.aload_n 0, 1) := by decide +kernel
theorem dX0_search_31 : decode cX0_search 31 = .ok (.getfield 15, 3) := by decide +kernel
theorem dX0_search_34 : decode cX0_search 34 = .ok (.iload_n 1, 1) := by decide +kernel
theorem dX0_search_35 : decode cX0_search 35 = .ok (.aload_n 0, 1) := by decide +kernel
theorem dX0_search_36 : decode cX0_search 36 = .ok (.iload_n 1, 1) := by decide +kernel
theorem dX0_search_37 : decode cX0_search 37 = .ok (.invokevirtual 47, 3) := by decide +kernel
theorem dX0_search_4 : decode cX0_search 4 = .ok (.aload_n 0, 1) := by decide +kernel
theorem dX0_search_40 : decode cX0_search 40 = .ok (.iastore, 1) := by decide +kernel
theorem dX0_search_41 : decode cX0_search 41 = .ok (.aload_n 0, 1) := by decide +kernel
theorem dX0_search_42 : decode cX0_search 42 = .ok (.getfield 9, 3) := by decide +kernel
theorem dX0_search_45 : decode cX0_search 45 = .ok (.iload_n 1, 1) := by decide +kernel
theorem dX0_search_46 : decode cX0_search 46 = .ok (.iaload, 1) := by decide +kernel
theorem dX0_search_47 : decode cX0_search 47 = .ok (.ifCond .eq 8, 3) := by decide +kernel
theorem dX0_search_5 : decode cX0_search 5 = .ok (.getfield 18, 3) := by decide +kernel
theorem dX0_search_50 : decode cX0_search 50 = .ok (.aload_n 0, 1) := by decide +kernel
theorem dX0_search_51 : decode cX0_search 51 = .ok (.iload_n 1, 1) := by decide +kernel
theorem dX0_search_52 : decode cX0_search 52 = .ok (.putfield 38, 3) := by decide +kernel
theorem dX0_search_55 : decode cX0_search 55 = .ok (.iinc 1 1, 3) := by decide +kernel
theorem dX0_search_58 : decode cX0_search 58 = .ok (.goto (-39), 3) := by decide +kernel
theorem dX0_search_61 : decode cX0_search 61 = .ok (.aload_n 0, 1) := by decide +kernel
theorem dX0_search_62 : decode cX0_search 62 = .ok (.iconst 0, 1) := by decide +kernel
theorem dX0_search_63 : decode cX0_search 63 = .ok (.iconst 0, 1) := by decide +kernel
theorem dX0_search_64 : decode cX0_search 64 = .ok (.iconst 0, 1) := by decide +kernel
theorem dX0_search_65 : decode cX0_search 65 = .ok (.invokevirtual 51, 3) := by decide +kernel
theorem dX0_search_68 : decode cX0_search 68 = .ok (.return_, 1) := by decide +kernel
theorem dX0_search_8 : decode cX0_search 8 = .ok (.iconst 0, 1) := by decide +kernel
theorem dX0_search_9 : decode cX0_search 9 = .ok (.invokestatic 32, 3) := by decide +kernel
theorem dX0_tryNumbers_0 : decode cX0_tryNumbers 0 = .ok (.aload_n 0, 1) := by decide +kernel
theorem dX0_tryNumbers_1 : decode cX0_tryNumbers 1 = .ok (.getfield 9, 3) := by decide +kernel
theorem dX0_tryNumbers_101 : decode cX0_tryNumbers 101 = .ok (.iadd, 1) := by decide +kernel
theorem dX0_tryNumbers_102 : decode cX0_tryNumbers 102 = .ok (.iload_n 3, 1) := by decide +kernel
theorem dX0_tryNumbers_103 : decode cX0_tryNumbers 103 = .ok (.iload 8, 2) := by decide +kernel
theorem dX0_tryNumbers_105 : decode cX0_tryNumbers 105 = .ok (.ineg, 1) := by decide +kernel
theorem dX0_tryNumbers_106 : decode cX0_tryNumbers 106 = .ok (.iconst 0, 1) := by decide +kernel
theorem dX0_tryNumbers_107 : decode cX0_tryNumbers 107 = .ok (.invokestatic 72, 3) := by decide +kernel
theorem dX0_tryNumbers_110 : decode cX0_tryNumbers 110 = .ok (.iadd, 1) := by decide +kernel
theorem dX0_tryNumbers_111 : decode cX0_tryNumbers 111 = .ok (.invokevirtual 51, 3) := by decide +kernel
theorem dX0_tryNumbers_114 : decode cX0_tryNumbers 114 = .ok (.iinc 7 1, 3) := by decide +kernel
theorem dX0_tryNumbers_117 : decode cX0_tryNumbers 117 = .ok (.goto (-49), 3) := by decide +kernel
theorem dX0_tryNumbers_12 : decode cX0_tryNumbers 12 = .ok (.iload_n 1, 1) := by decide +kernel
theorem dX0_tryNumbers_120 : decode cX0_tryNumbers 120 = .ok (.return_, 1) := by decide +kernel
theorem dX0_tryNumbers_13 : decode cX0_tryNumbers 13 = .ok (.iaload, 1) := by decide +kernel
theorem dX0_tryNumbers_14 : decode cX0_tryNumbers 14 = .ok (.ineg, 1) := by decide +kernel
theorem dX0_tryNumbers_15 : decode cX0_tryNumbers 15 = .ok (.istore 5, 2) := by decide +kernel
theorem dX0_tryNumbers_17 : decode cX0_tryNumbers 17 = .ok (.aload_n 0, 1) := by decide +kernel
theorem dX0_tryNumbers_18 : decode cX0_tryNumbers 18 = .ok (.getfield 15, 3) := by decide +kernel
theorem dX0_tryNumbers_21 : decode cX0_tryNumbers 21 = .ok (.iload_n 1, 1) := by decide +kernel
theorem dX0_tryNumbers_22 : decode cX0_tryNumbers 22 = .ok (.iaload, 1) := by decide +kernel
theorem dX0_tryNumbers_23 : decode cX0_tryNumbers 23 = .ok (.istore 6, 2) := by decide +kernel
theorem dX0_tryNumbers_25 : decode cX0_tryNumbers 25 = .ok (.iload_n 1, 1) := by decide +kernel
theorem dX0_tryNumbers_26 : decode cX0_tryNumbers 26 = .ok (.aload_n 0, 1) := by decide +kernel
theorem dX0_tryNumbers_27 : decode cX0_tryNumbers 27 = .ok (.getfield 38, 3) := by decide +kernel
theorem dX0_tryNumbers_30 : decode cX0_tryNumbers 30 = .ok (.if_icmp .ne 34, 3) := by decide +kernel
theorem dX0_tryNumbers_33 : decode cX0_tryNumbers 33 = .ok (.iload 4, 2) := by decide +kernel
theorem dX0_tryNumbers_35 : decode cX0_tryNumbers 35 = .ok (.ifCond .eq 29, 3) := by decide +kernel
theorem dX0_tryNumbers_38 : decode cX0_tryNumbers 38 = .ok (.iload_n 3, 1) := by decide +kernel
theorem dX0_tryNumbers_39 : decode cX0_tryNumbers 39 = .ok (.iload_n 2, 1) := by decide +kernel
theorem dX0_tryNumbers_4 : decode cX0_tryNumbers 4 = .ok (.iload_n 1, 1) := by decide +kernel
theorem dX0_tryNumbers_40 : decode cX0_tryNumbers 40 = .ok (.isub, 1) := by decide +kernel
theorem dX0_tryNumbers_41 : decode cX0_tryNumbers 41 = .ok (.iload 4, 2) := by decide +kernel
theorem dX0_tryNumbers_43 : decode cX0_tryNumbers 43 = .ok (.idiv, 1) := by decide +kernel
theorem dX0_tryNumbers_44 : decode cX0_tryNumbers 44 = .ok (.istore 7, 2) := by decide +kernel
theorem dX0_tryNumbers_46 : decode cX0_tryNumbers 46 = .ok (.iload 5, 2) := by decide +kernel
theorem dX0_tryNumbers_48 : decode cX0_tryNumbers 48 = .ok (.iload 7, 2) := by decide +kernel
theorem dX0_tryNumbers_5 : decode cX0_tryNumbers 5 = .ok (.iaload, 1) := by decide +kernel
theorem dX0_tryNumbers_50 : decode cX0_tryNumbers 50 = .ok (.invokestatic 72, 3) := by decide +kernel
theorem dX0_tryNumbers_53 : decode cX0_tryNumbers 53 = .ok (.istore 5, 2) := by decide +kernel
theorem dX0_tryNumbers_55 : decode cX0_tryNumbers 55 = .ok (.iload 6, 2) := by decide +kernel
theorem dX0_tryNumbers_57 : decode cX0_tryNumbers 57 = .ok (.iload 7, 2) := by decide +kernel
theorem dX0_tryNumbers_59 : decode cX0_tryNumbers 59 = .ok (.invokestatic 89, 3) := by decide +kernel
theorem dX0_tryNumbers_6 : decode cX0_tryNumbers 6 = .ok (.istore 4, 2) := by decide +kernel
theorem dX0_tryNumbers_62 : decode cX0_tryNumbers 62 = .ok (.istore 6, 2) := by decide +kernel
theorem dX0_tryNumbers_64 : decode cX0_tryNumbers 64 = .ok (.iload 5, 2) := by decide +kernel
theorem dX0_tryNumbers_66 : decode cX0_tryNumbers 66 = .ok (.istore 7, 2) := by decide +kernel
theorem dX0_tryNumbers_68 : decode cX0_tryNumbers 68 = .ok (.iload 7, 2) := by decide +kernel
theorem dX0_tryNumbers_70 : decode cX0_tryNumbers 70 = .ok (.iload 6, 2) := by decide +kernel
theorem dX0_tryNumbers_72 : decode cX0_tryNumbers 72 = .ok (.if_icmp .gt 48, 3) := by decide +kernel
theorem dX0_tryNumbers_75 : decode cX0_tryNumbers 75 = .ok (.iload 4, 2) := by decide +kernel
theorem dX0_tryNumbers_77 : decode cX0_tryNumbers 77 = .ok (.iload 7, 2) := by decide +kernel
theorem dX0_tryNumbers_79 : decode cX0_tryNumbers 79 = .ok (.imul, 1) := by decide +kernel
theorem dX0_tryNumbers_8 : decode cX0_tryNumbers 8 = .ok (.aload_n 0, 1) := by decide +kernel
theorem dX0_tryNumbers_80 : decode cX0_tryNumbers 80 = .ok (.istore 8, 2) := by decide +kernel
theorem dX0_tryNumbers_82 : decode cX0_tryNumbers 82 = .ok (.aload_n 0, 1) := by decide +kernel
theorem dX0_tryNumbers_83 : decode cX0_tryNumbers 83 = .ok (.getfield 18, 3) := by decide +kernel
theorem dX0_tryNumbers_86 : decode cX0_tryNumbers 86 = .ok (.iload_n 1, 1) := by decide +kernel
theorem dX0_tryNumbers_87 : decode cX0_tryNumbers 87 = .ok (.iload 7, 2) := by decide +kernel
theorem dX0_tryNumbers_89 : decode cX0_tryNumbers 89 = .ok (.iastore, 1) := by decide +kernel
theorem dX0_tryNumbers_9 : decode cX0_tryNumbers 9 = .ok (.getfield 15, 3) := by decide +kernel
theorem dX0_tryNumbers_90 : decode cX0_tryNumbers 90 = .ok (.aload_n 0, 1) := by decide +kernel
theorem dX0_tryNumbers_91 : decode cX0_tryNumbers 91 = .ok (.iload_n 1, 1) := by decide +kernel
theorem dX0_tryNumbers_92 : decode cX0_tryNumbers 92 = .ok (.iconst 1, 1) := by decide +kernel
theorem dX0_tryNumbers_93 : decode cX0_tryNumbers 93 = .ok (.iadd, 1) := by decide +kernel
theorem dX0_tryNumbers_94 : decode cX0_tryNumbers 94 = .ok (.iload_n 2, 1) := by decide +kernel
theorem dX0_tryNumbers_95 : decode cX0_tryNumbers 95 = .ok (.iload 8, 2) := by decide +kernel
theorem dX0_tryNumbers_97 : decode cX0_tryNumbers 97 = .ok (.iconst 0, 1) := by decide +kernel
theorem dX0_tryNumbers_98 : decode cX0_tryNumbers 98 = .ok (.invokestatic 72, 3) := by decide +kernel
theorem dX1_impose_0 : decode cX1_impose 0 = .ok (.iconst 0, 1) := by decide +kernel
theorem dX1_impose_1 : decode cX1_impose 1 = .ok (.istore_n 2, 1) := by decide +kernel
theorem dX1_impose_10 : decode cX1_impose 10 = .ok (.aload_n 0, 1) := by decide +kernel
theorem dX1_impose_11 : decode cX1_impose 11 = .ok (.getfield 16, 3) := by decide +kernel
theorem dX1_impose_14 : decode cX1_impose 14 = .ok (.iload_n 2, 1) := by decide +kernel
theorem dX1_impose_15 : decode cX1_impose 15 = .ok (.lconst 0, 1) := by decide +kernel
theorem dX1_impose_16 : decode cX1_impose 16 = .ok (.lastore, 1) := by decide +kernel
theorem dX1_impose_17 : decode cX1_impose 17 = .ok (.iconst 0, 1) := by decide +kernel
theorem dX1_impose_18 : decode cX1_impose 18 = .ok (.istore_n 3, 1) := by decide +kernel
theorem dX1_impose_19 : decode cX1_impose 19 = .ok (.iload_n 3, 1) := by decide +kernel
theorem dX1_impose_2 : decode cX1_impose 2 = .ok (.iload_n 2, 1) := by decide +kernel
theorem dX1_impose_20 : decode cX1_impose 20 = .ok (.iconst 4, 1) := by decide +kernel
theorem dX1_impose_21 : decode cX1_impose 21 = .ok (.if_icmp .ge 31, 3) := by decide +kernel
theorem dX1_impose_24 : decode cX1_impose 24 = .ok (.aload_n 0, 1) := by decide +kernel
theorem dX1_impose_25 : decode cX1_impose 25 = .ok (.getfield 16, 3) := by decide +kernel
theorem dX1_impose_28 : decode cX1_impose 28 = .ok (.iload_n 2, 1) := by decide +kernel
theorem dX1_impose_29 : decode cX1_impose 29 = .ok (.dup2, 1) := by decide +kernel
theorem dX1_impose_3 : decode cX1_impose 3 = .ok (.aload_n 0, 1) := by decide +kernel
theorem dX1_impose_30 : decode cX1_impose 30 = .ok (.laload, 1) := by decide +kernel
theorem dX1_impose_31 : decode cX1_impose 31 = .ok (.aload_n 1, 1) := by decide +kernel
theorem dX1_impose_32 : decode cX1_impose 32 = .ok (.iload_n 3, 1) := by decide +kernel
theorem dX1_impose_33 : decode cX1_impose 33 = .ok (.iaload, 1) := by decide +kernel
theorem dX1_impose_34 : decode cX1_impose 34 = .ok (.i2l, 1) := by decide +kernel
theorem dX1_impose_35 : decode cX1_impose 35 = .ok (.aload_n 0, 1) := by decide +kernel
theorem dX1_impose_36 : decode cX1_impose 36 = .ok (.getfield 11, 3) := by decide +kernel
theorem dX1_impose_39 : decode cX1_impose 39 = .ok (.iload_n 2, 1) := by decide +kernel
theorem dX1_impose_4 : decode cX1_impose 4 = .ok (.getfield 30, 3) := by decide +kernel
theorem dX1_impose_40 : decode cX1_impose 40 = .ok (.aaload, 1) := by decide +kernel
theorem dX1_impose_41 : decode cX1_impose 41 = .ok (.iload_n 3, 1) := by decide +kernel
theorem dX1_impose_42 : decode cX1_impose 42 = .ok (.laload, 1) := by decide +kernel
theorem dX1_impose_43 : decode cX1_impose 43 = .ok (.lmul, 1) := by decide +kernel
theorem dX1_impose_44 : decode cX1_impose 44 = .ok (.ladd, 1) := by decide +kernel
theorem dX1_impose_45 : decode cX1_impose 45 = .ok (.lastore, 1) := by decide +kernel
theorem dX1_impose_46 : decode cX1_impose 46 = .ok (.iinc 3 1, 3) := by decide +kernel
theorem dX1_impose_49 : decode cX1_impose 49 = .ok (.goto (-30), 3) := by decide +kernel
theorem dX1_impose_52 : decode cX1_impose 52 = .ok (.iinc 2 1, 3) := by decide +kernel
theorem dX1_impose_55 : decode cX1_impose 55 = .ok (.goto (-53), 3) := by decide +kernel
theorem dX1_impose_58 : decode cX1_impose 58 = .ok (.iconst 0, 1) := by decide +kernel
theorem dX1_impose_59 : decode cX1_impose 59 = .ok (.istore_n 2, 1) := by decide +kernel
theorem dX1_impose_60 : decode cX1_impose 60 = .ok (.iload_n 2, 1) := by decide +kernel
theorem dX1_impose_61 : decode cX1_impose 61 = .ok (.bipush 100, 2) := by decide +kernel
theorem dX1_impose_63 : decode cX1_impose 63 = .ok (.if_icmp .ge 33, 3) := by decide +kernel
theorem dX1_impose_66 : decode cX1_impose 66 = .ok (.aload_n 0, 1) := by decide +kernel
theorem dX1_impose_67 : decode cX1_impose 67 = .ok (.invokevirtual 63, 3) := by decide +kernel
theorem dX1_impose_7 : decode cX1_impose 7 = .ok (.if_icmp .ge 51, 3) := by decide +kernel
theorem dX1_impose_70 : decode cX1_impose 70 = .ok (.istore_n 3, 1) := by decide +kernel
theorem dX1_impose_71 : decode cX1_impose 71 = .ok (.iload_n 3, 1) := by decide +kernel
theorem dX1_impose_72 : decode cX1_impose 72 = .ok (.ifCond .ge 4, 3) := by decide +kernel
theorem dX1_impose_75 : decode cX1_impose 75 = .ok (.return_, 1) := by decide +kernel
theorem dX1_impose_76 : decode cX1_impose 76 = .ok (.aload_n 0, 1) := by decide +kernel
theorem dX1_impose_77 : decode cX1_impose 77 = .ok (.iload_n 3, 1) := by decide +kernel
theorem dX1_impose_78 : decode cX1_impose 78 = .ok (.invokevirtual 67, 3) := by decide +kernel
theorem dX1_impose_81 : decode cX1_impose 81 = .ok (.ifCond .ne 9, 3) := by decide +kernel
theorem dX1_impose_84 : decode cX1_impose 84 = .ok (.aload_n 0, 1) := by decide +kernel
theorem dX1_impose_85 : decode cX1_impose 85 = .ok (.iload_n 3, 1) := by decide +kernel
theorem dX1_impose_86 : decode cX1_impose 86 = .ok (.invokevirtual 71, 3) := by decide +kernel
theorem dX1_impose_89 : decode cX1_impose 89 = .ok (.return_, 1) := by decide +kernel
theorem dX1_impose_90 : decode cX1_impose 90 = .ok (.iinc 2 1, 3) := by decide +kernel
theorem dX1_impose_93 : decode cX1_impose 93 = .ok (.goto (-33), 3) := by decide +kernel
theorem dX1_impose_96 : decode cX1_impose 96 = .ok (.return_, 1) := by decide +kernel
theorem dX1_leastSum_0 : decode cX1_leastSum 0 = .ok (.iconst (-1), 1) := by decide +kernel
theorem dX1_leastSum_1 : decode cX1_leastSum 1 = .ok (.istore_n 1, 1) := by decide +kernel
theorem dX1_leastSum_12 : decode cX1_leastSum 12 = .ok (.aload_n 0, 1) := by decide +kernel
theorem dX1_leastSum_13 : decode cX1_leastSum 13 = .ok (.getfield 16, 3) := by decide +kernel
theorem dX1_leastSum_16 : decode cX1_leastSum 16 = .ok (.iload_n 2, 1) := by decide +kernel
theorem dX1_leastSum_17 : decode cX1_leastSum 17 = .ok (.laload, 1) := by decide +kernel
theorem dX1_leastSum_18 : decode cX1_leastSum 18 = .ok (.lconst 0, 1) := by decide +kernel
theorem dX1_leastSum_19 : decode cX1_leastSum 19 = .ok (.lcmp, 1) := by decide +kernel
theorem dX1_leastSum_2 : decode cX1_leastSum 2 = .ok (.iconst 0, 1) := by decide +kernel
theorem dX1_leastSum_20 : decode cX1_leastSum 20 = .ok (.ifCond .eq 31, 3) := by decide +kernel
theorem dX1_leastSum_23 : decode cX1_leastSum 23 = .ok (.iload_n 1, 1) := by decide +kernel
theorem dX1_leastSum_24 : decode cX1_leastSum 24 = .ok (.ifCond .lt 25, 3) := by decide +kernel
theorem dX1_leastSum_27 : decode cX1_leastSum 27 = .ok (.aload_n 0, 1) := by decide +kernel
theorem dX1_leastSum_28 : decode cX1_leastSum 28 = .ok (.getfield 16, 3) := by decide +kernel
theorem dX1_leastSum_3 : decode cX1_leastSum 3 = .ok (.istore_n 2, 1) := by decide +kernel
theorem dX1_leastSum_31 : decode cX1_leastSum 31 = .ok (.iload_n 2, 1) := by decide +kernel
theorem dX1_leastSum_32 : decode cX1_leastSum 32 = .ok (.laload, 1) := by decide +kernel
theorem dX1_leastSum_33 : decode cX1_leastSum 33 = .ok (.invokestatic 75, 3) := by decide +kernel
theorem dX1_leastSum_36 : decode cX1_leastSum 36 = .ok (.aload_n 0, 1) := by decide +kernel
theorem dX1_leastSum_37 : decode cX1_leastSum 37 = .ok (.getfield 16, 3) := by decide +kernel
theorem dX1_leastSum_4 : decode cX1_leastSum 4 = .ok (.iload_n 2, 1) := by decide +kernel
theorem dX1_leastSum_40 : decode cX1_leastSum 40 = .ok (.iload_n 1, 1) := by decide +kernel
theorem dX1_leastSum_41 : decode cX1_leastSum 41 = .ok (.laload, 1) := by decide +kernel
theorem dX1_leastSum_42 : decode cX1_leastSum 42 = .ok (.invokestatic 75, 3) := by decide +kernel
theorem dX1_leastSum_45 : decode cX1_leastSum 45 = .ok (.lcmp, 1) := by decide +kernel
theorem dX1_leastSum_46 : decode cX1_leastSum 46 = .ok (.ifCond .ge 5, 3) := by decide +kernel
theorem dX1_leastSum_49 : decode cX1_leastSum 49 = .ok (.iload_n 2, 1) := by decide +kernel
theorem dX1_leastSum_5 : decode cX1_leastSum 5 = .ok (.aload_n 0, 1) := by decide +kernel
theorem dX1_leastSum_50 : decode cX1_leastSum 50 = .ok (.istore_n 1, 1) := by decide +kernel
theorem dX1_leastSum_51 : decode cX1_leastSum 51 = .ok (.iinc 2 1, 3) := by decide +kernel
theorem dX1_leastSum_54 : decode cX1_leastSum 54 = .ok (.goto (-50), 3) := by decide +kernel
theorem dX1_leastSum_57 : decode cX1_leastSum 57 = .ok (.iload_n 1, 1) := by decide +kernel
theorem dX1_leastSum_58 : decode cX1_leastSum 58 = .ok (.ireturn, 1) := by decide +kernel
theorem dX1_leastSum_6 : decode cX1_leastSum 6 = .ok (.getfield 30, 3) := by decide +kernel
theorem dX1_leastSum_9 : decode cX1_leastSum 9 = .ok (.if_icmp .ge 48, 3) := by decide +kernel
theorem dX1_reduceBy_0 : decode cX1_reduceBy 0 = .ok (.iconst 0, 1) := by decide +kernel
theorem dX1_reduceBy_1 : decode cX1_reduceBy 1 = .ok (.istore_n 2, 1) := by decide +kernel
theorem dX1_reduceBy_12 : decode cX1_reduceBy 12 = .ok (.iload_n 3, 1) := by decide +kernel
theorem dX1_reduceBy_13 : decode cX1_reduceBy 13 = .ok (.iload_n 1, 1) := by decide +kernel
theorem dX1_reduceBy_14 : decode cX1_reduceBy 14 = .ok (.if_icmp .eq 76, 3) := by decide +kernel
theorem dX1_reduceBy_17 : decode cX1_reduceBy 17 = .ok (.aload_n 0, 1) := by decide +kernel
theorem dX1_reduceBy_18 : decode cX1_reduceBy 18 = .ok (.getfield 16, 3) := by decide +kernel
theorem dX1_reduceBy_2 : decode cX1_reduceBy 2 = .ok (.iconst 0, 1) := by decide +kernel
theorem dX1_reduceBy_21 : decode cX1_reduceBy 21 = .ok (.iload_n 1, 1) := by decide +kernel
theorem dX1_reduceBy_22 : decode cX1_reduceBy 22 = .ok (.laload, 1) := by decide +kernel
theorem dX1_reduceBy_23 : decode cX1_reduceBy 23 = .ok (.lconst 0, 1) := by decide +kernel
theorem dX1_reduceBy_24 : decode cX1_reduceBy 24 = .ok (.lcmp, 1) := by decide +kernel
theorem dX1_reduceBy_25 : decode cX1_reduceBy 25 = .ok (.ifCond .eq 65, 3) := by decide +kernel
theorem dX1_reduceBy_28 : decode cX1_reduceBy 28 = .ok (.aload_n 0, 1) := by decide +kernel
theorem dX1_reduceBy_29 : decode cX1_reduceBy 29 = .ok (.getfield 16, 3) := by decide +kernel
theorem dX1_reduceBy_3 : decode cX1_reduceBy 3 = .ok (.istore_n 3, 1) := by decide +kernel
theorem dX1_reduceBy_32 : decode cX1_reduceBy 32 = .ok (.iload_n 3, 1) := by decide +kernel
theorem dX1_reduceBy_33 : decode cX1_reduceBy 33 = .ok (.laload, 1) := by decide +kernel
theorem dX1_reduceBy_34 : decode cX1_reduceBy 34 = .ok (.aload_n 0, 1) := by decide +kernel
theorem dX1_reduceBy_35 : decode cX1_reduceBy 35 = .ok (.getfield 16, 3) := by decide +kernel
theorem dX1_reduceBy_38 : decode cX1_reduceBy 38 = .ok (.iload_n 1, 1) := by decide +kernel
theorem dX1_reduceBy_39 : decode cX1_reduceBy 39 = .ok (.laload, 1) := by decide +kernel
theorem dX1_reduceBy_4 : decode cX1_reduceBy 4 = .ok (.iload_n 3, 1) := by decide +kernel
theorem dX1_reduceBy_40 : decode cX1_reduceBy 40 = .ok (.ldiv, 1) := by decide +kernel
theorem dX1_reduceBy_41 : decode cX1_reduceBy 41 = .ok (.lstore 4, 2) := by decide +kernel
theorem dX1_reduceBy_43 : decode cX1_reduceBy 43 = .ok (.aload_n 0, 1) := by decide +kernel
theorem dX1_reduceBy_44 : decode cX1_reduceBy 44 = .ok (.iload_n 3, 1) := by decide +kernel
theorem dX1_reduceBy_45 : decode cX1_reduceBy 45 = .ok (.iload_n 1, 1) := by decide +kernel
theorem dX1_reduceBy_46 : decode cX1_reduceBy 46 = .ok (.lload 4, 2) := by decide +kernel
theorem dX1_reduceBy_48 : decode cX1_reduceBy 48 = .ok (.invokevirtual 59, 3) := by decide +kernel
theorem dX1_reduceBy_5 : decode cX1_reduceBy 5 = .ok (.aload_n 0, 1) := by decide +kernel
theorem dX1_reduceBy_51 : decode cX1_reduceBy 51 = .ok (.aload_n 0, 1) := by decide +kernel
theorem dX1_reduceBy_52 : decode cX1_reduceBy 52 = .ok (.getfield 16, 3) := by decide +kernel
theorem dX1_reduceBy_55 : decode cX1_reduceBy 55 = .ok (.iload_n 3, 1) := by decide +kernel
theorem dX1_reduceBy_56 : decode cX1_reduceBy 56 = .ok (.dup2, 1) := by decide +kernel
theorem dX1_reduceBy_57 : decode cX1_reduceBy 57 = .ok (.laload, 1) := by decide +kernel
theorem dX1_reduceBy_58 : decode cX1_reduceBy 58 = .ok (.lload 4, 2) := by decide +kernel
theorem dX1_reduceBy_6 : decode cX1_reduceBy 6 = .ok (.getfield 30, 3) := by decide +kernel
theorem dX1_reduceBy_60 : decode cX1_reduceBy 60 = .ok (.aload_n 0, 1) := by decide +kernel
theorem dX1_reduceBy_61 : decode cX1_reduceBy 61 = .ok (.getfield 16, 3) := by decide +kernel
theorem dX1_reduceBy_64 : decode cX1_reduceBy 64 = .ok (.iload_n 1, 1) := by decide +kernel
theorem dX1_reduceBy_65 : decode cX1_reduceBy 65 = .ok (.laload, 1) := by decide +kernel
theorem dX1_reduceBy_66 : decode cX1_reduceBy 66 = .ok (.lmul, 1) := by decide +kernel
theorem dX1_reduceBy_67 : decode cX1_reduceBy 67 = .ok (.lsub, 1) := by decide +kernel
theorem dX1_reduceBy_68 : decode cX1_reduceBy 68 = .ok (.lastore, 1) := by decide +kernel
theorem dX1_reduceBy_69 : decode cX1_reduceBy 69 = .ok (.iload_n 2, 1) := by decide +kernel
theorem dX1_reduceBy_70 : decode cX1_reduceBy 70 = .ok (.ifCond .ne 14, 3) := by decide +kernel
theorem dX1_reduceBy_73 : decode cX1_reduceBy 73 = .ok (.aload_n 0, 1) := by decide +kernel
theorem dX1_reduceBy_74 : decode cX1_reduceBy 74 = .ok (.getfield 16, 3) := by decide +kernel
theorem dX1_reduceBy_77 : decode cX1_reduceBy 77 = .ok (.iload_n 3, 1) := by decide +kernel
theorem dX1_reduceBy_78 : decode cX1_reduceBy 78 = .ok (.laload, 1) := by decide +kernel
theorem dX1_reduceBy_79 : decode cX1_reduceBy 79 = .ok (.lconst 0, 1) := by decide +kernel
theorem dX1_reduceBy_80 : decode cX1_reduceBy 80 = .ok (.lcmp, 1) := by decide +kernel
theorem dX1_reduceBy_81 : decode cX1_reduceBy 81 = .ok (.ifCond .eq 7, 3) := by decide +kernel
theorem dX1_reduceBy_84 : decode cX1_reduceBy 84 = .ok (.iconst 1, 1) := by decide +kernel
theorem dX1_reduceBy_85 : decode cX1_reduceBy 85 = .ok (.goto 4, 3) := by decide +kernel
theorem dX1_reduceBy_88 : decode cX1_reduceBy 88 = .ok (.iconst 0, 1) := by decide +kernel
theorem dX1_reduceBy_89 : decode cX1_reduceBy 89 = .ok (.istore_n 2, 1) := by decide +kernel
theorem dX1_reduceBy_9 : decode cX1_reduceBy 9 = .ok (.if_icmp .ge 87, 3) := by decide +kernel
theorem dX1_reduceBy_90 : decode cX1_reduceBy 90 = .ok (.iinc 3 1, 3) := by decide +kernel
theorem dX1_reduceBy_93 : decode cX1_reduceBy 93 = .ok (.goto (-89), 3) := by decide +kernel
theorem dX1_reduceBy_96 : decode cX1_reduceBy 96 = .ok (.iload_n 2, 1) := by decide +kernel
theorem dX1_reduceBy_97 : decode cX1_reduceBy 97 = .ok (.ireturn, 1) := by decide +kernel
theorem dX1_removeVector_0 : decode cX1_removeVector 0 = .ok (.aload_n 0, 1) := by decide +kernel
theorem dX1_removeVector_1 : decode cX1_removeVector 1 = .ok (.dup, 1) := by decide +kernel
theorem dX1_removeVector_10 : decode cX1_removeVector 10 = .ok (.aload_n 0, 1) := by decide +kernel
theorem dX1_removeVector_11 : decode cX1_removeVector 11 = .ok (.getfield 11, 3) := by decide +kernel
theorem dX1_removeVector_14 : decode cX1_removeVector 14 = .ok (.iload_n 1, 1) := by decide +kernel
theorem dX1_removeVector_15 : decode cX1_removeVector 15 = .ok (.aaload, 1) := by decide +kernel
theorem dX1_removeVector_16 : decode cX1_removeVector 16 = .ok (.astore_n 2, 1) := by decide +kernel
theorem dX1_removeVector_17 : decode cX1_removeVector 17 = .ok (.aload_n 0, 1) := by decide +kernel
theorem dX1_removeVector_18 : decode cX1_removeVector 18 = .ok (.getfield 11, 3) := by decide +kernel
theorem dX1_removeVector_2 : decode cX1_removeVector 2 = .ok (.getfield 30, 3) := by decide +kernel
theorem dX1_removeVector_21 : decode cX1_removeVector 21 = .ok (.iload_n 1, 1) := by decide +kernel
theorem dX1_removeVector_22 : decode cX1_removeVector 22 = .ok (.aload_n 0, 1) := by decide +kernel
theorem dX1_removeVector_23 : decode cX1_removeVector 23 = .ok (.getfield 11, 3) := by decide +kernel
theorem dX1_removeVector_26 : decode cX1_removeVector 26 = .ok (.aload_n 0, 1) := by decide +kernel
theorem dX1_removeVector_27 : decode cX1_removeVector 27 = .ok (.getfield 30, 3) := by decide +kernel
theorem dX1_removeVector_30 : decode cX1_removeVector 30 = .ok (.aaload, 1) := by decide +kernel
theorem dX1_removeVector_31 : decode cX1_removeVector 31 = .ok (.aastore, 1) := by decide +kernel
theorem dX1_removeVector_32 : decode cX1_removeVector 32 = .ok (.aload_n 0, 1) := by decide +kernel
theorem dX1_removeVector_33 : decode cX1_removeVector 33 = .ok (.getfield 11, 3) := by decide +kernel
theorem dX1_removeVector_36 : decode cX1_removeVector 36 = .ok (.aload_n 0, 1) := by decide +kernel
theorem dX1_removeVector_37 : decode cX1_removeVector 37 = .ok (.getfield 30, 3) := by decide +kernel
theorem dX1_removeVector_40 : decode cX1_removeVector 40 = .ok (.aload_n 2, 1) := by decide +kernel
theorem dX1_removeVector_41 : decode cX1_removeVector 41 = .ok (.aastore, 1) := by decide +kernel
theorem dX1_removeVector_42 : decode cX1_removeVector 42 = .ok (.return_, 1) := by decide +kernel
theorem dX1_removeVector_5 : decode cX1_removeVector 5 = .ok (.iconst 1, 1) := by decide +kernel
theorem dX1_removeVector_6 : decode cX1_removeVector 6 = .ok (.isub, 1) := by decide +kernel
theorem dX1_removeVector_7 : decode cX1_removeVector 7 = .ok (.putfield 30, 3) := by decide +kernel
theorem dX1_solve_0 : decode cX1_solve 0 = .ok (.aload_n 0, 1) := by decide +kernel
theorem dX1_solve_1 : decode cX1_solve 1 = .ok (.aload_n 1, 1) := by decide +kernel
theorem dX1_solve_10 : decode cX1_solve 10 = .ok (.iload_n 2, 1) := by decide +kernel
theorem dX1_solve_11 : decode cX1_solve 11 = .ok (.iconst 4, 1) := by decide +kernel
theorem dX1_solve_12 : decode cX1_solve 12 = .ok (.if_icmp .ge 28, 3) := by decide +kernel
theorem dX1_solve_15 : decode cX1_solve 15 = .ok (.aload_n 0, 1) := by decide +kernel
theorem dX1_solve_16 : decode cX1_solve 16 = .ok (.getfield 11, 3) := by decide +kernel
theorem dX1_solve_19 : decode cX1_solve 19 = .ok (.iload_n 2, 1) := by decide +kernel
theorem dX1_solve_2 : decode cX1_solve 2 = .ok (.getfield 24, 3) := by decide +kernel
theorem dX1_solve_20 : decode cX1_solve 20 = .ok (.aaload, 1) := by decide +kernel
theorem dX1_solve_21 : decode cX1_solve 21 = .ok (.lconst 0, 1) := by decide +kernel
theorem dX1_solve_22 : decode cX1_solve 22 = .ok (.invokestatic 33, 3) := by decide +kernel
theorem dX1_solve_25 : decode cX1_solve 25 = .ok (.aload_n 0, 1) := by decide +kernel
theorem dX1_solve_26 : decode cX1_solve 26 = .ok (.getfield 11, 3) := by decide +kernel
theorem dX1_solve_29 : decode cX1_solve 29 = .ok (.iload_n 2, 1) := by decide +kernel
theorem dX1_solve_30 : decode cX1_solve 30 = .ok (.aaload, 1) := by decide +kernel
theorem dX1_solve_31 : decode cX1_solve 31 = .ok (.iload_n 2, 1) := by decide +kernel
theorem dX1_solve_32 : decode cX1_solve 32 = .ok (.lconst 1, 1) := by decide +kernel
theorem dX1_solve_33 : decode cX1_solve 33 = .ok (.lastore, 1) := by decide +kernel
theorem dX1_solve_34 : decode cX1_solve 34 = .ok (.iinc 2 1, 3) := by decide +kernel
theorem dX1_solve_37 : decode cX1_solve 37 = .ok (.goto (-27), 3) := by decide +kernel
theorem dX1_solve_40 : decode cX1_solve 40 = .ok (.iconst 0, 1) := by decide +kernel
theorem dX1_solve_41 : decode cX1_solve 41 = .ok (.istore_n 2, 1) := by decide +kernel
theorem dX1_solve_42 : decode cX1_solve 42 = .ok (.iload_n 2, 1) := by decide +kernel
theorem dX1_solve_43 : decode cX1_solve 43 = .ok (.aload_n 1, 1) := by decide +kernel
theorem dX1_solve_44 : decode cX1_solve 44 = .ok (.getfield 39, 3) := by decide +kernel
theorem dX1_solve_47 : decode cX1_solve 47 = .ok (.if_icmp .ge 19, 3) := by decide +kernel
theorem dX1_solve_5 : decode cX1_solve 5 = .ok (.putfield 30, 3) := by decide +kernel
theorem dX1_solve_50 : decode cX1_solve 50 = .ok (.aload_n 0, 1) := by decide +kernel
theorem dX1_solve_51 : decode cX1_solve 51 = .ok (.aload_n 1, 1) := by decide +kernel
theorem dX1_solve_52 : decode cX1_solve 52 = .ok (.getfield 42, 3) := by decide +kernel
theorem dX1_solve_55 : decode cX1_solve 55 = .ok (.iload_n 2, 1) := by decide +kernel
theorem dX1_solve_56 : decode cX1_solve 56 = .ok (.aaload, 1) := by decide +kernel
theorem dX1_solve_57 : decode cX1_solve 57 = .ok (.invokevirtual 46, 3) := by decide +kernel
theorem dX1_solve_60 : decode cX1_solve 60 = .ok (.iinc 2 1, 3) := by decide +kernel
theorem dX1_solve_63 : decode cX1_solve 63 = .ok (.goto (-21), 3) := by decide +kernel
theorem dX1_solve_66 : decode cX1_solve 66 = .ok (.return_, 1) := by decide +kernel
theorem dX1_solve_8 : decode cX1_solve 8 = .ok (.iconst 0, 1) := by decide +kernel
theorem dX1_solve_9 : decode cX1_solve 9 = .ok (.istore_n 2, 1) := by decide +kernel
theorem dX1_straighten_0 : decode cX1_straighten 0 = .ok (.iconst 0, 1) := by decide +kernel
theorem dX1_straighten_1 : decode cX1_straighten 1 = .ok (.istore_n 1, 1) := by decide +kernel
theorem dX1_straighten_11 : decode cX1_straighten 11 = .ok (.iconst 2, 1) := by decide +kernel
theorem dX1_straighten_12 : decode cX1_straighten 12 = .ok (.if_icmp .ne 32, 3) := by decide +kernel
theorem dX1_straighten_15 : decode cX1_straighten 15 = .ok (.aload_n 0, 1) := by decide +kernel
theorem dX1_straighten_16 : decode cX1_straighten 16 = .ok (.getfield 20, 3) := by decide +kernel
theorem dX1_straighten_19 : decode cX1_straighten 19 = .ok (.iconst 0, 1) := by decide +kernel
theorem dX1_straighten_2 : decode cX1_straighten 2 = .ok (.iload_n 1, 1) := by decide +kernel
theorem dX1_straighten_20 : decode cX1_straighten 20 = .ok (.invokestatic 50, 3) := by decide +kernel
theorem dX1_straighten_23 : decode cX1_straighten 23 = .ok (.aload_n 0, 1) := by decide +kernel
theorem dX1_straighten_24 : decode cX1_straighten 24 = .ok (.getfield 20, 3) := by decide +kernel
theorem dX1_straighten_27 : decode cX1_straighten 27 = .ok (.iload_n 1, 1) := by decide +kernel
theorem dX1_straighten_28 : decode cX1_straighten 28 = .ok (.iconst 1, 1) := by decide +kernel
theorem dX1_straighten_29 : decode cX1_straighten 29 = .ok (.iastore, 1) := by decide +kernel
theorem dX1_straighten_3 : decode cX1_straighten 3 = .ok (.iconst 4, 1) := by decide +kernel
theorem dX1_straighten_30 : decode cX1_straighten 30 = .ok (.aload_n 0, 1) := by decide +kernel
theorem dX1_straighten_31 : decode cX1_straighten 31 = .ok (.aload_n 0, 1) := by decide +kernel
theorem dX1_straighten_32 : decode cX1_straighten 32 = .ok (.getfield 20, 3) := by decide +kernel
theorem dX1_straighten_35 : decode cX1_straighten 35 = .ok (.invokevirtual 46, 3) := by decide +kernel
theorem dX1_straighten_38 : decode cX1_straighten 38 = .ok (.iinc 1 1, 3) := by decide +kernel
theorem dX1_straighten_4 : decode cX1_straighten 4 = .ok (.if_icmp .ge 40, 3) := by decide +kernel
theorem dX1_straighten_41 : decode cX1_straighten 41 = .ok (.goto (-39), 3) := by decide +kernel
theorem dX1_straighten_44 : decode cX1_straighten 44 = .ok (.iconst 0, 1) := by decide +kernel
theorem dX1_straighten_45 : decode cX1_straighten 45 = .ok (.istore_n 1, 1) := by decide +kernel
theorem dX1_straighten_46 : decode cX1_straighten 46 = .ok (.iload_n 1, 1) := by decide +kernel
theorem dX1_straighten_47 : decode cX1_straighten 47 = .ok (.iconst 4, 1) := by decide +kernel
theorem dX1_straighten_48 : decode cX1_straighten 48 = .ok (.if_icmp .ge 48, 3) := by decide +kernel
theorem dX1_straighten_51 : decode cX1_straighten 51 = .ok (.aload_n 0, 1) := by decide +kernel
theorem dX1_straighten_52 : decode cX1_straighten 52 = .ok (.getfield 11, 3) := by decide +kernel
theorem dX1_straighten_55 : decode cX1_straighten 55 = .ok (.iconst 0, 1) := by decide +kernel
theorem dX1_straighten_56 : decode cX1_straighten 56 = .ok (.aaload, 1) := by decide +kernel
theorem dX1_straighten_57 : decode cX1_straighten 57 = .ok (.iload_n 1, 1) := by decide +kernel
theorem dX1_straighten_58 : decode cX1_straighten 58 = .ok (.laload, 1) := by decide +kernel
theorem dX1_straighten_59 : decode cX1_straighten 59 = .ok (.lconst 0, 1) := by decide +kernel
theorem dX1_straighten_60 : decode cX1_straighten 60 = .ok (.lcmp, 1) := by decide +kernel
theorem dX1_straighten_61 : decode cX1_straighten 61 = .ok (.ifCond .eq 29, 3) := by decide +kernel
theorem dX1_straighten_64 : decode cX1_straighten 64 = .ok (.aload_n 0, 1) := by decide +kernel
theorem dX1_straighten_65 : decode cX1_straighten 65 = .ok (.iconst 1, 1) := by decide +kernel
theorem dX1_straighten_66 : decode cX1_straighten 66 = .ok (.iconst 0, 1) := by decide +kernel
theorem dX1_straighten_67 : decode cX1_straighten 67 = .ok (.aload_n 0, 1) := by decide +kernel
theorem dX1_straighten_68 : decode cX1_straighten 68 = .ok (.getfield 11, 3) := by decide +kernel
theorem dX1_straighten_7 : decode cX1_straighten 7 = .ok (.aload_n 0, 1) := by decide +kernel
theorem dX1_straighten_71 : decode cX1_straighten 71 = .ok (.iconst 1, 1) := by decide +kernel
theorem dX1_straighten_72 : decode cX1_straighten 72 = .ok (.aaload, 1) := by decide +kernel
theorem dX1_straighten_73 : decode cX1_straighten 73 = .ok (.iload_n 1, 1) := by decide +kernel
theorem dX1_straighten_74 : decode cX1_straighten 74 = .ok (.laload, 1) := by decide +kernel
theorem dX1_straighten_75 : decode cX1_straighten 75 = .ok (.aload_n 0, 1) := by decide +kernel
theorem dX1_straighten_76 : decode cX1_straighten 76 = .ok (.getfield 11, 3) := by decide +kernel
theorem dX1_straighten_79 : decode cX1_straighten 79 = .ok (.iconst 0, 1) := by decide +kernel
theorem dX1_straighten_8 : decode cX1_straighten 8 = .ok (.getfield 30, 3) := by decide +kernel
theorem dX1_straighten_80 : decode cX1_straighten 80 = .ok (.aaload, 1) := by decide +kernel
theorem dX1_straighten_81 : decode cX1_straighten 81 = .ok (.iload_n 1, 1) := by decide +kernel
theorem dX1_straighten_82 : decode cX1_straighten 82 = .ok (.laload, 1) := by decide +kernel
theorem dX1_straighten_83 : decode cX1_straighten 83 = .ok (.invokestatic 53, 3) := by decide +kernel
theorem dX1_straighten_86 : decode cX1_straighten 86 = .ok (.invokevirtual 59, 3) := by decide +kernel
theorem dX1_straighten_89 : decode cX1_straighten 89 = .ok (.return_, 1) := by decide +kernel
theorem dX1_straighten_90 : decode cX1_straighten 90 = .ok (.iinc 1 1, 3) := by decide +kernel
theorem dX1_straighten_93 : decode cX1_straighten 93 = .ok (.goto (-47), 3) := by decide +kernel
theorem dX1_straighten_96 : decode cX1_straighten 96 = .ok (.return_, 1) := by decide +kernel
theorem dX1_subtract_0 : decode cX1_subtract 0 = .ok (.iconst 0, 1) := by decide +kernel
theorem dX1_subtract_1 : decode cX1_subtract 1 = .ok (.istore 5, 2) := by decide +kernel
theorem dX1_subtract_10 : decode cX1_subtract 10 = .ok (.getfield 11, 3) := by decide +kernel
theorem dX1_subtract_13 : decode cX1_subtract 13 = .ok (.iload_n 1, 1) := by decide +kernel
theorem dX1_subtract_14 : decode cX1_subtract 14 = .ok (.aaload, 1) := by decide +kernel
theorem dX1_subtract_15 : decode cX1_subtract 15 = .ok (.iload 5, 2) := by decide +kernel
theorem dX1_subtract_17 : decode cX1_subtract 17 = .ok (.dup2, 1) := by decide +kernel
theorem dX1_subtract_18 : decode cX1_subtract 18 = .ok (.laload, 1) := by decide +kernel
theorem dX1_subtract_19 : decode cX1_subtract 19 = .ok (.lload_n 3, 1) := by decide +kernel
theorem dX1_subtract_20 : decode cX1_subtract 20 = .ok (.aload_n 0, 1) := by decide +kernel
theorem dX1_subtract_21 : decode cX1_subtract 21 = .ok (.getfield 11, 3) := by decide +kernel
theorem dX1_subtract_24 : decode cX1_subtract 24 = .ok (.iload_n 2, 1) := by decide +kernel
theorem dX1_subtract_25 : decode cX1_subtract 25 = .ok (.aaload, 1) := by decide +kernel
theorem dX1_subtract_26 : decode cX1_subtract 26 = .ok (.iload 5, 2) := by decide +kernel
theorem dX1_subtract_28 : decode cX1_subtract 28 = .ok (.laload, 1) := by decide +kernel
theorem dX1_subtract_29 : decode cX1_subtract 29 = .ok (.lmul, 1) := by decide +kernel
theorem dX1_subtract_3 : decode cX1_subtract 3 = .ok (.iload 5, 2) := by decide +kernel
theorem dX1_subtract_30 : decode cX1_subtract 30 = .ok (.lsub, 1) := by decide +kernel
theorem dX1_subtract_31 : decode cX1_subtract 31 = .ok (.lastore, 1) := by decide +kernel
theorem dX1_subtract_32 : decode cX1_subtract 32 = .ok (.iinc 5 1, 3) := by decide +kernel
theorem dX1_subtract_35 : decode cX1_subtract 35 = .ok (.goto (-32), 3) := by decide +kernel
theorem dX1_subtract_38 : decode cX1_subtract 38 = .ok (.return_, 1) := by decide +kernel
theorem dX1_subtract_5 : decode cX1_subtract 5 = .ok (.iconst 4, 1) := by decide +kernel
theorem dX1_subtract_6 : decode cX1_subtract 6 = .ok (.if_icmp .ge 32, 3) := by decide +kernel
theorem dX1_subtract_9 : decode cX1_subtract 9 = .ok (.aload_n 0, 1) := by decide +kernel
theorem dX2_addTimes_0 : decode cX2_addTimes 0 = .ok (.iconst 0, 1) := by decide +kernel
theorem dX2_addTimes_1 : decode cX2_addTimes 1 = .ok (.istore 4, 2) := by decide +kernel
theorem dX2_addTimes_10 : decode cX2_addTimes 10 = .ok (.iload 4, 2) := by decide +kernel
theorem dX2_addTimes_12 : decode cX2_addTimes 12 = .ok (.dup2, 1) := by decide +kernel
theorem dX2_addTimes_13 : decode cX2_addTimes 13 = .ok (.iaload, 1) := by decide +kernel
theorem dX2_addTimes_14 : decode cX2_addTimes 14 = .ok (.iload_n 2, 1) := by decide +kernel
theorem dX2_addTimes_15 : decode cX2_addTimes 15 = .ok (.aload_n 0, 1) := by decide +kernel
theorem dX2_addTimes_16 : decode cX2_addTimes 16 = .ok (.iload_n 1, 1) := by decide +kernel
theorem dX2_addTimes_17 : decode cX2_addTimes 17 = .ok (.iload 4, 2) := by decide +kernel
theorem dX2_addTimes_19 : decode cX2_addTimes 19 = .ok (.invokevirtual 98, 3) := by decide +kernel
theorem dX2_addTimes_22 : decode cX2_addTimes 22 = .ok (.imul, 1) := by decide +kernel
theorem dX2_addTimes_23 : decode cX2_addTimes 23 = .ok (.iadd, 1) := by decide +kernel
theorem dX2_addTimes_24 : decode cX2_addTimes 24 = .ok (.iastore, 1) := by decide +kernel
theorem dX2_addTimes_25 : decode cX2_addTimes 25 = .ok (.iinc 4 1, 3) := by decide +kernel
theorem dX2_addTimes_28 : decode cX2_addTimes 28 = .ok (.goto (-25), 3) := by decide +kernel
theorem dX2_addTimes_3 : decode cX2_addTimes 3 = .ok (.iload 4, 2) := by decide +kernel
theorem dX2_addTimes_31 : decode cX2_addTimes 31 = .ok (.return_, 1) := by decide +kernel
theorem dX2_addTimes_5 : decode cX2_addTimes 5 = .ok (.iconst 4, 1) := by decide +kernel
theorem dX2_addTimes_6 : decode cX2_addTimes 6 = .ok (.if_icmp .ge 25, 3) := by decide +kernel
theorem dX2_addTimes_9 : decode cX2_addTimes 9 = .ok (.aload_n 3, 1) := by decide +kernel
theorem dX2_at_0 : decode cX2_at 0 = .ok (.aload_n 0, 1) := by decide +kernel
theorem dX2_at_1 : decode cX2_at 1 = .ok (.getfield 12, 3) := by decide +kernel
theorem dX2_at_4 : decode cX2_at 4 = .ok (.iload_n 1, 1) := by decide +kernel
theorem dX2_at_5 : decode cX2_at 5 = .ok (.iload_n 2, 1) := by decide +kernel
theorem dX2_at_6 : decode cX2_at 6 = .ok (.invokevirtual 87, 3) := by decide +kernel
theorem dX2_at_9 : decode cX2_at 9 = .ok (.ireturn, 1) := by decide +kernel
theorem dX2_curveOf_0 : decode cX2_curveOf 0 = .ok (.lconst 0, 1) := by decide +kernel
theorem dX2_curveOf_1 : decode cX2_curveOf 1 = .ok (.lstore_n 2, 1) := by decide +kernel
theorem dX2_curveOf_11 : decode cX2_curveOf 11 = .ok (.getfield 110, 3) := by decide +kernel
theorem dX2_curveOf_14 : decode cX2_curveOf 14 = .ok (.if_icmp .ge 39, 3) := by decide +kernel
theorem dX2_curveOf_17 : decode cX2_curveOf 17 = .ok (.aload_n 0, 1) := by decide +kernel
theorem dX2_curveOf_18 : decode cX2_curveOf 18 = .ok (.iload_n 1, 1) := by decide +kernel
theorem dX2_curveOf_19 : decode cX2_curveOf 19 = .ok (.iload 4, 2) := by decide +kernel
theorem dX2_curveOf_2 : decode cX2_curveOf 2 = .ok (.iconst 0, 1) := by decide +kernel
theorem dX2_curveOf_21 : decode cX2_curveOf 21 = .ok (.invokevirtual 98, 3) := by decide +kernel
theorem dX2_curveOf_24 : decode cX2_curveOf 24 = .ok (.i2l, 1) := by decide +kernel
theorem dX2_curveOf_25 : decode cX2_curveOf 25 = .ok (.lstore 5, 2) := by decide +kernel
theorem dX2_curveOf_27 : decode cX2_curveOf 27 = .ok (.lload_n 2, 1) := by decide +kernel
theorem dX2_curveOf_28 : decode cX2_curveOf 28 = .ok (.aload_n 0, 1) := by decide +kernel
theorem dX2_curveOf_29 : decode cX2_curveOf 29 = .ok (.getfield 36, 3) := by decide +kernel
theorem dX2_curveOf_3 : decode cX2_curveOf 3 = .ok (.istore 4, 2) := by decide +kernel
theorem dX2_curveOf_32 : decode cX2_curveOf 32 = .ok (.getfield 127, 3) := by decide +kernel
theorem dX2_curveOf_35 : decode cX2_curveOf 35 = .ok (.iload 4, 2) := by decide +kernel
theorem dX2_curveOf_37 : decode cX2_curveOf 37 = .ok (.iaload, 1) := by decide +kernel
theorem dX2_curveOf_38 : decode cX2_curveOf 38 = .ok (.i2l, 1) := by decide +kernel
theorem dX2_curveOf_39 : decode cX2_curveOf 39 = .ok (.lload 5, 2) := by decide +kernel
theorem dX2_curveOf_41 : decode cX2_curveOf 41 = .ok (.lmul, 1) := by decide +kernel
theorem dX2_curveOf_42 : decode cX2_curveOf 42 = .ok (.lload 5, 2) := by decide +kernel
theorem dX2_curveOf_44 : decode cX2_curveOf 44 = .ok (.lmul, 1) := by decide +kernel
theorem dX2_curveOf_45 : decode cX2_curveOf 45 = .ok (.ladd, 1) := by decide +kernel
theorem dX2_curveOf_46 : decode cX2_curveOf 46 = .ok (.lstore_n 2, 1) := by decide +kernel
theorem dX2_curveOf_47 : decode cX2_curveOf 47 = .ok (.iinc 4 1, 3) := by decide +kernel
theorem dX2_curveOf_5 : decode cX2_curveOf 5 = .ok (.iload 4, 2) := by decide +kernel
theorem dX2_curveOf_50 : decode cX2_curveOf 50 = .ok (.goto (-45), 3) := by decide +kernel
theorem dX2_curveOf_53 : decode cX2_curveOf 53 = .ok (.lload_n 2, 1) := by decide +kernel
theorem dX2_curveOf_54 : decode cX2_curveOf 54 = .ok (.lreturn, 1) := by decide +kernel
theorem dX2_curveOf_7 : decode cX2_curveOf 7 = .ok (.aload_n 0, 1) := by decide +kernel
theorem dX2_curveOf_8 : decode cX2_curveOf 8 = .ok (.getfield 36, 3) := by decide +kernel
theorem dX2_findRoundSupports_0 : decode cX2_findRoundSupports 0 = .ok (.iconst 0, 1) := by decide +kernel
theorem dX2_findRoundSupports_1 : decode cX2_findRoundSupports 1 = .ok (.istore_n 1, 1) := by decide +kernel
theorem dX2_findRoundSupports_12 : decode cX2_findRoundSupports 12 = .ok (.if_icmp .ge 19, 3) := by decide +kernel
theorem dX2_findRoundSupports_15 : decode cX2_findRoundSupports 15 = .ok (.iload_n 1, 1) := by decide +kernel
theorem dX2_findRoundSupports_16 : decode cX2_findRoundSupports 16 = .ok (.iconst 1, 1) := by decide +kernel
theorem dX2_findRoundSupports_17 : decode cX2_findRoundSupports 17 = .ok (.aload_n 0, 1) := by decide +kernel
theorem dX2_findRoundSupports_18 : decode cX2_findRoundSupports 18 = .ok (.iload_n 2, 1) := by decide +kernel
theorem dX2_findRoundSupports_19 : decode cX2_findRoundSupports 19 = .ok (.invokevirtual 94, 3) := by decide +kernel
theorem dX2_findRoundSupports_2 : decode cX2_findRoundSupports 2 = .ok (.iconst 0, 1) := by decide +kernel
theorem dX2_findRoundSupports_22 : decode cX2_findRoundSupports 22 = .ok (.ishl, 1) := by decide +kernel
theorem dX2_findRoundSupports_23 : decode cX2_findRoundSupports 23 = .ok (.ior, 1) := by decide +kernel
theorem dX2_findRoundSupports_24 : decode cX2_findRoundSupports 24 = .ok (.istore_n 1, 1) := by decide +kernel
theorem dX2_findRoundSupports_25 : decode cX2_findRoundSupports 25 = .ok (.iinc 2 1, 3) := by decide +kernel
theorem dX2_findRoundSupports_28 : decode cX2_findRoundSupports 28 = .ok (.goto (-24), 3) := by decide +kernel
theorem dX2_findRoundSupports_3 : decode cX2_findRoundSupports 3 = .ok (.istore_n 2, 1) := by decide +kernel
theorem dX2_findRoundSupports_31 : decode cX2_findRoundSupports 31 = .ok (.aload_n 0, 1) := by decide +kernel
theorem dX2_findRoundSupports_32 : decode cX2_findRoundSupports 32 = .ok (.iconst 0, 1) := by decide +kernel
theorem dX2_findRoundSupports_33 : decode cX2_findRoundSupports 33 = .ok (.putfield 91, 3) := by decide +kernel
theorem dX2_findRoundSupports_36 : decode cX2_findRoundSupports 36 = .ok (.iconst 1, 1) := by decide +kernel
theorem dX2_findRoundSupports_37 : decode cX2_findRoundSupports 37 = .ok (.istore_n 2, 1) := by decide +kernel
theorem dX2_findRoundSupports_38 : decode cX2_findRoundSupports 38 = .ok (.iload_n 2, 1) := by decide +kernel
theorem dX2_findRoundSupports_39 : decode cX2_findRoundSupports 39 = .ok (.bipush 16, 2) := by decide +kernel
theorem dX2_findRoundSupports_4 : decode cX2_findRoundSupports 4 = .ok (.iload_n 2, 1) := by decide +kernel
theorem dX2_findRoundSupports_41 : decode cX2_findRoundSupports 41 = .ok (.if_icmp .ge 39, 3) := by decide +kernel
theorem dX2_findRoundSupports_44 : decode cX2_findRoundSupports 44 = .ok (.iload_n 1, 1) := by decide +kernel
theorem dX2_findRoundSupports_45 : decode cX2_findRoundSupports 45 = .ok (.iload_n 2, 1) := by decide +kernel
theorem dX2_findRoundSupports_46 : decode cX2_findRoundSupports 46 = .ok (.ishr, 1) := by decide +kernel
theorem dX2_findRoundSupports_47 : decode cX2_findRoundSupports 47 = .ok (.iconst 1, 1) := by decide +kernel
theorem dX2_findRoundSupports_48 : decode cX2_findRoundSupports 48 = .ok (.iand, 1) := by decide +kernel
theorem dX2_findRoundSupports_49 : decode cX2_findRoundSupports 49 = .ok (.iconst 1, 1) := by decide +kernel
theorem dX2_findRoundSupports_5 : decode cX2_findRoundSupports 5 = .ok (.aload_n 0, 1) := by decide +kernel
theorem dX2_findRoundSupports_50 : decode cX2_findRoundSupports 50 = .ok (.if_icmp .ne 24, 3) := by decide +kernel
theorem dX2_findRoundSupports_53 : decode cX2_findRoundSupports 53 = .ok (.aload_n 0, 1) := by decide +kernel
theorem dX2_findRoundSupports_54 : decode cX2_findRoundSupports 54 = .ok (.iload_n 1, 1) := by decide +kernel
theorem dX2_findRoundSupports_55 : decode cX2_findRoundSupports 55 = .ok (.iload_n 2, 1) := by decide +kernel
theorem dX2_findRoundSupports_56 : decode cX2_findRoundSupports 56 = .ok (.invokevirtual 130, 3) := by decide +kernel
theorem dX2_findRoundSupports_59 : decode cX2_findRoundSupports 59 = .ok (.ifCond .ne 15, 3) := by decide +kernel
theorem dX2_findRoundSupports_6 : decode cX2_findRoundSupports 6 = .ok (.getfield 12, 3) := by decide +kernel
theorem dX2_findRoundSupports_62 : decode cX2_findRoundSupports 62 = .ok (.aload_n 0, 1) := by decide +kernel
theorem dX2_findRoundSupports_63 : decode cX2_findRoundSupports 63 = .ok (.dup, 1) := by decide +kernel
theorem dX2_findRoundSupports_64 : decode cX2_findRoundSupports 64 = .ok (.getfield 91, 3) := by decide +kernel
theorem dX2_findRoundSupports_67 : decode cX2_findRoundSupports 67 = .ok (.iconst 1, 1) := by decide +kernel
theorem dX2_findRoundSupports_68 : decode cX2_findRoundSupports 68 = .ok (.iload_n 2, 1) := by decide +kernel
theorem dX2_findRoundSupports_69 : decode cX2_findRoundSupports 69 = .ok (.ishl, 1) := by decide +kernel
theorem dX2_findRoundSupports_70 : decode cX2_findRoundSupports 70 = .ok (.ior, 1) := by decide +kernel
theorem dX2_findRoundSupports_71 : decode cX2_findRoundSupports 71 = .ok (.putfield 91, 3) := by decide +kernel
theorem dX2_findRoundSupports_74 : decode cX2_findRoundSupports 74 = .ok (.iinc 2 1, 3) := by decide +kernel
theorem dX2_findRoundSupports_77 : decode cX2_findRoundSupports 77 = .ok (.goto (-39), 3) := by decide +kernel
theorem dX2_findRoundSupports_80 : decode cX2_findRoundSupports 80 = .ok (.return_, 1) := by decide +kernel
theorem dX2_findRoundSupports_9 : decode cX2_findRoundSupports 9 = .ok (.invokevirtual 84, 3) := by decide +kernel
theorem dX2_hasSmaller_0 : decode cX2_hasSmaller 0 = .ok (.iconst 1, 1) := by decide +kernel
theorem dX2_hasSmaller_1 : decode cX2_hasSmaller 1 = .ok (.istore_n 3, 1) := by decide +kernel
theorem dX2_hasSmaller_10 : decode cX2_hasSmaller 10 = .ok (.iconst 1, 1) := by decide +kernel
theorem dX2_hasSmaller_11 : decode cX2_hasSmaller 11 = .ok (.iand, 1) := by decide +kernel
theorem dX2_hasSmaller_12 : decode cX2_hasSmaller 12 = .ok (.iconst 1, 1) := by decide +kernel
theorem dX2_hasSmaller_13 : decode cX2_hasSmaller 13 = .ok (.if_icmp .ne 12, 3) := by decide +kernel
theorem dX2_hasSmaller_16 : decode cX2_hasSmaller 16 = .ok (.iload_n 3, 1) := by decide +kernel
theorem dX2_hasSmaller_17 : decode cX2_hasSmaller 17 = .ok (.iload_n 2, 1) := by decide +kernel
theorem dX2_hasSmaller_18 : decode cX2_hasSmaller 18 = .ok (.iand, 1) := by decide +kernel
theorem dX2_hasSmaller_19 : decode cX2_hasSmaller 19 = .ok (.iload_n 3, 1) := by decide +kernel
theorem dX2_hasSmaller_2 : decode cX2_hasSmaller 2 = .ok (.iload_n 3, 1) := by decide +kernel
theorem dX2_hasSmaller_20 : decode cX2_hasSmaller 20 = .ok (.if_icmp .ne 5, 3) := by decide +kernel
theorem dX2_hasSmaller_23 : decode cX2_hasSmaller 23 = .ok (.iconst 1, 1) := by decide +kernel
theorem dX2_hasSmaller_24 : decode cX2_hasSmaller 24 = .ok (.ireturn, 1) := by decide +kernel
theorem dX2_hasSmaller_25 : decode cX2_hasSmaller 25 = .ok (.iinc 3 1, 3) := by decide +kernel
theorem dX2_hasSmaller_28 : decode cX2_hasSmaller 28 = .ok (.goto (-26), 3) := by decide +kernel
theorem dX2_hasSmaller_3 : decode cX2_hasSmaller 3 = .ok (.iload_n 2, 1) := by decide +kernel
theorem dX2_hasSmaller_31 : decode cX2_hasSmaller 31 = .ok (.iconst 0, 1) := by decide +kernel
theorem dX2_hasSmaller_32 : decode cX2_hasSmaller 32 = .ok (.ireturn, 1) := by decide +kernel
theorem dX2_hasSmaller_4 : decode cX2_hasSmaller 4 = .ok (.if_icmp .ge 27, 3) := by decide +kernel
theorem dX2_hasSmaller_7 : decode cX2_hasSmaller 7 = .ok (.iload_n 1, 1) := by decide +kernel
theorem dX2_hasSmaller_8 : decode cX2_hasSmaller 8 = .ok (.iload_n 3, 1) := by decide +kernel
theorem dX2_hasSmaller_9 : decode cX2_hasSmaller 9 = .ok (.ishr, 1) := by decide +kernel
theorem dX2_howManyOf_0 : decode cX2_howManyOf 0 = .ok (.iconst 0, 1) := by decide +kernel
theorem dX2_howManyOf_1 : decode cX2_howManyOf 1 = .ok (.istore_n 2, 1) := by decide +kernel
theorem dX2_howManyOf_12 : decode cX2_howManyOf 12 = .ok (.if_icmp .ge 21, 3) := by decide +kernel
theorem dX2_howManyOf_15 : decode cX2_howManyOf 15 = .ok (.aload_n 0, 1) := by decide +kernel
theorem dX2_howManyOf_16 : decode cX2_howManyOf 16 = .ok (.iload_n 3, 1) := by decide +kernel
theorem dX2_howManyOf_17 : decode cX2_howManyOf 17 = .ok (.invokevirtual 99, 3) := by decide +kernel
theorem dX2_howManyOf_2 : decode cX2_howManyOf 2 = .ok (.iconst 0, 1) := by decide +kernel
theorem dX2_howManyOf_20 : decode cX2_howManyOf 20 = .ok (.iload_n 1, 1) := by decide +kernel
theorem dX2_howManyOf_21 : decode cX2_howManyOf 21 = .ok (.if_icmp .ne 6, 3) := by decide +kernel
theorem dX2_howManyOf_24 : decode cX2_howManyOf 24 = .ok (.iinc 2 1, 3) := by decide +kernel
theorem dX2_howManyOf_27 : decode cX2_howManyOf 27 = .ok (.iinc 3 1, 3) := by decide +kernel
theorem dX2_howManyOf_3 : decode cX2_howManyOf 3 = .ok (.istore_n 3, 1) := by decide +kernel
theorem dX2_howManyOf_30 : decode cX2_howManyOf 30 = .ok (.goto (-26), 3) := by decide +kernel
theorem dX2_howManyOf_33 : decode cX2_howManyOf 33 = .ok (.iload_n 2, 1) := by decide +kernel
theorem dX2_howManyOf_34 : decode cX2_howManyOf 34 = .ok (.ireturn, 1) := by decide +kernel
theorem dX2_howManyOf_4 : decode cX2_howManyOf 4 = .ok (.iload_n 3, 1) := by decide +kernel
theorem dX2_howManyOf_5 : decode cX2_howManyOf 5 = .ok (.aload_n 0, 1) := by decide +kernel
theorem dX2_howManyOf_6 : decode cX2_howManyOf 6 = .ok (.getfield 12, 3) := by decide +kernel
theorem dX2_howManyOf_9 : decode cX2_howManyOf 9 = .ok (.invokevirtual 84, 3) := by decide +kernel
theorem dX2_isStep_0 : decode cX2_isStep 0 = .ok (.iload_n 1, 1) := by decide +kernel
theorem dX2_isStep_1 : decode cX2_isStep 1 = .ok (.ifCond .lt 18, 3) := by decide +kernel
theorem dX2_isStep_12 : decode cX2_isStep 12 = .ok (.if_icmp .ge 7, 3) := by decide +kernel
theorem dX2_isStep_15 : decode cX2_isStep 15 = .ok (.iconst 1, 1) := by decide +kernel
theorem dX2_isStep_16 : decode cX2_isStep 16 = .ok (.goto 4, 3) := by decide +kernel
theorem dX2_isStep_19 : decode cX2_isStep 19 = .ok (.iconst 0, 1) := by decide +kernel
theorem dX2_isStep_20 : decode cX2_isStep 20 = .ok (.ireturn, 1) := by decide +kernel
theorem dX2_isStep_4 : decode cX2_isStep 4 = .ok (.iload_n 1, 1) := by decide +kernel
theorem dX2_isStep_5 : decode cX2_isStep 5 = .ok (.aload_n 0, 1) := by decide +kernel
theorem dX2_isStep_6 : decode cX2_isStep 6 = .ok (.getfield 12, 3) := by decide +kernel
theorem dX2_isStep_9 : decode cX2_isStep 9 = .ok (.invokevirtual 84, 3) := by decide +kernel
theorem dX2_kindOf_0 : decode cX2_kindOf 0 = .ok (.aload_n 0, 1) := by decide +kernel
theorem dX2_kindOf_1 : decode cX2_kindOf 1 = .ok (.getfield 91, 3) := by decide +kernel
theorem dX2_kindOf_10 : decode cX2_kindOf 10 = .ok (.iconst 1, 1) := by decide +kernel
theorem dX2_kindOf_11 : decode cX2_kindOf 11 = .ok (.iand, 1) := by decide +kernel
theorem dX2_kindOf_12 : decode cX2_kindOf 12 = .ok (.iconst 1, 1) := by decide +kernel
theorem dX2_kindOf_13 : decode cX2_kindOf 13 = .ok (.if_icmp .ne 5, 3) := by decide +kernel
theorem dX2_kindOf_16 : decode cX2_kindOf 16 = .ok (.iconst 3, 1) := by decide +kernel
theorem dX2_kindOf_17 : decode cX2_kindOf 17 = .ok (.ireturn, 1) := by decide +kernel
theorem dX2_kindOf_18 : decode cX2_kindOf 18 = .ok (.iconst 0, 1) := by decide +kernel
theorem dX2_kindOf_19 : decode cX2_kindOf 19 = .ok (.istore_n 2, 1) := by decide +kernel
theorem dX2_kindOf_20 : decode cX2_kindOf 20 = .ok (.iload_n 2, 1) := by decide +kernel
theorem dX2_kindOf_21 : decode cX2_kindOf 21 = .ok (.iconst 4, 1) := by decide +kernel
theorem dX2_kindOf_22 : decode cX2_kindOf 22 = .ok (.if_icmp .ge 20, 3) := by decide +kernel
theorem dX2_kindOf_25 : decode cX2_kindOf 25 = .ok (.aload_n 0, 1) := by decide +kernel
theorem dX2_kindOf_26 : decode cX2_kindOf 26 = .ok (.iload_n 1, 1) := by decide +kernel
theorem dX2_kindOf_27 : decode cX2_kindOf 27 = .ok (.iload_n 2, 1) := by decide +kernel
theorem dX2_kindOf_28 : decode cX2_kindOf 28 = .ok (.invokevirtual 98, 3) := by decide +kernel
theorem dX2_kindOf_31 : decode cX2_kindOf 31 = .ok (.ifCond .ge 5, 3) := by decide +kernel
theorem dX2_kindOf_34 : decode cX2_kindOf 34 = .ok (.iconst 1, 1) := by decide +kernel
theorem dX2_kindOf_35 : decode cX2_kindOf 35 = .ok (.ireturn, 1) := by decide +kernel
theorem dX2_kindOf_36 : decode cX2_kindOf 36 = .ok (.iinc 2 1, 3) := by decide +kernel
theorem dX2_kindOf_39 : decode cX2_kindOf 39 = .ok (.goto (-19), 3) := by decide +kernel
theorem dX2_kindOf_4 : decode cX2_kindOf 4 = .ok (.aload_n 0, 1) := by decide +kernel
theorem dX2_kindOf_42 : decode cX2_kindOf 42 = .ok (.iconst 2, 1) := by decide +kernel
theorem dX2_kindOf_43 : decode cX2_kindOf 43 = .ok (.ireturn, 1) := by decide +kernel
theorem dX2_kindOf_5 : decode cX2_kindOf 5 = .ok (.iload_n 1, 1) := by decide +kernel
theorem dX2_kindOf_6 : decode cX2_kindOf 6 = .ok (.invokevirtual 94, 3) := by decide +kernel
theorem dX2_kindOf_9 : decode cX2_kindOf 9 = .ok (.ishr, 1) := by decide +kernel
theorem dX2_refresh_0 : decode cX2_refresh 0 = .ok (.aload_n 0, 1) := by decide +kernel
theorem dX2_refresh_1 : decode cX2_refresh 1 = .ok (.getfield 32, 3) := by decide +kernel
theorem dX2_refresh_10 : decode cX2_refresh 10 = .ok (.putfield 32, 3) := by decide +kernel
theorem dX2_refresh_101 : decode cX2_refresh 101 = .ok (.iconst 0, 1) := by decide +kernel
theorem dX2_refresh_102 : decode cX2_refresh 102 = .ok (.aaload, 1) := by decide +kernel
theorem dX2_refresh_103 : decode cX2_refresh 103 = .ok (.aload_n 0, 1) := by decide +kernel
theorem dX2_refresh_104 : decode cX2_refresh 104 = .ok (.getfield 21, 3) := by decide +kernel
theorem dX2_refresh_107 : decode cX2_refresh 107 = .ok (.getfield 66, 3) := by decide +kernel
theorem dX2_refresh_110 : decode cX2_refresh 110 = .ok (.iconst 1, 1) := by decide +kernel
theorem dX2_refresh_111 : decode cX2_refresh 111 = .ok (.aaload, 1) := by decide +kernel
theorem dX2_refresh_112 : decode cX2_refresh 112 = .ok (.iload_n 1, 1) := by decide +kernel
theorem dX2_refresh_113 : decode cX2_refresh 113 = .ok (.invokevirtual 70, 3) := by decide +kernel
theorem dX2_refresh_116 : decode cX2_refresh 116 = .ok (.aload_n 0, 1) := by decide +kernel
theorem dX2_refresh_117 : decode cX2_refresh 117 = .ok (.getfield 28, 3) := by decide +kernel
theorem dX2_refresh_120 : decode cX2_refresh 120 = .ok (.aload_n 0, 1) := by decide +kernel
theorem dX2_refresh_121 : decode cX2_refresh 121 = .ok (.getfield 12, 3) := by decide +kernel
theorem dX2_refresh_124 : decode cX2_refresh 124 = .ok (.invokevirtual 74, 3) := by decide +kernel
theorem dX2_refresh_127 : decode cX2_refresh 127 = .ok (.aload_n 0, 1) := by decide +kernel
theorem dX2_refresh_128 : decode cX2_refresh 128 = .ok (.getfield 12, 3) := by decide +kernel
theorem dX2_refresh_13 : decode cX2_refresh 13 = .ok (.aload_n 0, 1) := by decide +kernel
theorem dX2_refresh_131 : decode cX2_refresh 131 = .ok (.invokevirtual 78, 3) := by decide +kernel
theorem dX2_refresh_134 : decode cX2_refresh 134 = .ok (.aload_n 0, 1) := by decide +kernel
theorem dX2_refresh_135 : decode cX2_refresh 135 = .ok (.invokevirtual 81, 3) := by decide +kernel
theorem dX2_refresh_138 : decode cX2_refresh 138 = .ok (.return_, 1) := by decide +kernel
theorem dX2_refresh_14 : decode cX2_refresh 14 = .ok (.getfield 12, 3) := by decide +kernel
theorem dX2_refresh_17 : decode cX2_refresh 17 = .ok (.invokevirtual 49, 3) := by decide +kernel
theorem dX2_refresh_20 : decode cX2_refresh 20 = .ok (.aload_n 0, 1) := by decide +kernel
theorem dX2_refresh_21 : decode cX2_refresh 21 = .ok (.getfield 21, 3) := by decide +kernel
theorem dX2_refresh_24 : decode cX2_refresh 24 = .ok (.aload_n 0, 1) := by decide +kernel
theorem dX2_refresh_25 : decode cX2_refresh 25 = .ok (.getfield 36, 3) := by decide +kernel
theorem dX2_refresh_28 : decode cX2_refresh 28 = .ok (.invokevirtual 52, 3) := by decide +kernel
theorem dX2_refresh_31 : decode cX2_refresh 31 = .ok (.aload_n 0, 1) := by decide +kernel
theorem dX2_refresh_32 : decode cX2_refresh 32 = .ok (.getfield 21, 3) := by decide +kernel
theorem dX2_refresh_35 : decode cX2_refresh 35 = .ok (.getfield 56, 3) := by decide +kernel
theorem dX2_refresh_38 : decode cX2_refresh 38 = .ok (.iconst 2, 1) := by decide +kernel
theorem dX2_refresh_39 : decode cX2_refresh 39 = .ok (.if_icmp .le 13, 3) := by decide +kernel
theorem dX2_refresh_4 : decode cX2_refresh 4 = .ok (.ifCond .ne 4, 3) := by decide +kernel
theorem dX2_refresh_42 : decode cX2_refresh 42 = .ok (.aload_n 0, 1) := by decide +kernel
theorem dX2_refresh_43 : decode cX2_refresh 43 = .ok (.getfield 45, 3) := by decide +kernel
theorem dX2_refresh_46 : decode cX2_refresh 46 = .ok (.invokevirtual 60, 3) := by decide +kernel
theorem dX2_refresh_49 : decode cX2_refresh 49 = .ok (.goto 85, 3) := by decide +kernel
theorem dX2_refresh_52 : decode cX2_refresh 52 = .ok (.aload_n 0, 1) := by decide +kernel
theorem dX2_refresh_53 : decode cX2_refresh 53 = .ok (.getfield 21, 3) := by decide +kernel
theorem dX2_refresh_56 : decode cX2_refresh 56 = .ok (.getfield 56, 3) := by decide +kernel
theorem dX2_refresh_59 : decode cX2_refresh 59 = .ok (.ifCond .le 75, 3) := by decide +kernel
theorem dX2_refresh_62 : decode cX2_refresh 62 = .ok (.aload_n 0, 1) := by decide +kernel
theorem dX2_refresh_63 : decode cX2_refresh 63 = .ok (.getfield 21, 3) := by decide +kernel
theorem dX2_refresh_66 : decode cX2_refresh 66 = .ok (.getfield 56, 3) := by decide +kernel
theorem dX2_refresh_69 : decode cX2_refresh 69 = .ok (.iconst 2, 1) := by decide +kernel
theorem dX2_refresh_7 : decode cX2_refresh 7 = .ok (.return_, 1) := by decide +kernel
theorem dX2_refresh_70 : decode cX2_refresh 70 = .ok (.if_icmp .ne 7, 3) := by decide +kernel
theorem dX2_refresh_73 : decode cX2_refresh 73 = .ok (.iconst 1, 1) := by decide +kernel
theorem dX2_refresh_74 : decode cX2_refresh 74 = .ok (.goto 4, 3) := by decide +kernel
theorem dX2_refresh_77 : decode cX2_refresh 77 = .ok (.iconst 0, 1) := by decide +kernel
theorem dX2_refresh_78 : decode cX2_refresh 78 = .ok (.istore_n 1, 1) := by decide +kernel
theorem dX2_refresh_79 : decode cX2_refresh 79 = .ok (.iload_n 1, 1) := by decide +kernel
theorem dX2_refresh_8 : decode cX2_refresh 8 = .ok (.aload_n 0, 1) := by decide +kernel
theorem dX2_refresh_80 : decode cX2_refresh 80 = .ok (.ifCond .eq 10, 3) := by decide +kernel
theorem dX2_refresh_83 : decode cX2_refresh 83 = .ok (.aload_n 0, 1) := by decide +kernel
theorem dX2_refresh_84 : decode cX2_refresh 84 = .ok (.getfield 21, 3) := by decide +kernel
theorem dX2_refresh_87 : decode cX2_refresh 87 = .ok (.invokevirtual 63, 3) := by decide +kernel
theorem dX2_refresh_9 : decode cX2_refresh 9 = .ok (.iconst 0, 1) := by decide +kernel
theorem dX2_refresh_90 : decode cX2_refresh 90 = .ok (.aload_n 0, 1) := by decide +kernel
theorem dX2_refresh_91 : decode cX2_refresh 91 = .ok (.getfield 28, 3) := by decide +kernel
theorem dX2_refresh_94 : decode cX2_refresh 94 = .ok (.aload_n 0, 1) := by decide +kernel
theorem dX2_refresh_95 : decode cX2_refresh 95 = .ok (.getfield 21, 3) := by decide +kernel
theorem dX2_refresh_98 : decode cX2_refresh 98 = .ok (.getfield 66, 3) := by decide +kernel
theorem dX2_size_0 : decode cX2_size 0 = .ok (.aload_n 0, 1) := by decide +kernel
theorem dX2_size_1 : decode cX2_size 1 = .ok (.getfield 12, 3) := by decide +kernel
theorem dX2_size_4 : decode cX2_size 4 = .ok (.invokevirtual 84, 3) := by decide +kernel
theorem dX2_size_7 : decode cX2_size 7 = .ok (.ireturn, 1) := by decide +kernel
theorem dX2_slopeAt_0 : decode cX2_slopeAt 0 = .ok (.lconst 0, 1) := by decide +kernel
theorem dX2_slopeAt_1 : decode cX2_slopeAt 1 = .ok (.lstore_n 3, 1) := by decide +kernel
theorem dX2_slopeAt_11 : decode cX2_slopeAt 11 = .ok (.getfield 110, 3) := by decide +kernel
theorem dX2_slopeAt_14 : decode cX2_slopeAt 14 = .ok (.if_icmp .ge 54, 3) := by decide +kernel
theorem dX2_slopeAt_17 : decode cX2_slopeAt 17 = .ok (.lload_n 3, 1) := by decide +kernel
theorem dX2_slopeAt_18 : decode cX2_slopeAt 18 = .ok (.aload_n 0, 1) := by decide +kernel
theorem dX2_slopeAt_19 : decode cX2_slopeAt 19 = .ok (.iload_n 1, 1) := by decide +kernel
theorem dX2_slopeAt_2 : decode cX2_slopeAt 2 = .ok (.iconst 0, 1) := by decide +kernel
theorem dX2_slopeAt_20 : decode cX2_slopeAt 20 = .ok (.iload 5, 2) := by decide +kernel
theorem dX2_slopeAt_22 : decode cX2_slopeAt 22 = .ok (.invokevirtual 98, 3) := by decide +kernel
theorem dX2_slopeAt_25 : decode cX2_slopeAt 25 = .ok (.i2l, 1) := by decide +kernel
theorem dX2_slopeAt_26 : decode cX2_slopeAt 26 = .ok (.aload_n 0, 1) := by decide +kernel
theorem dX2_slopeAt_27 : decode cX2_slopeAt 27 = .ok (.getfield 36, 3) := by decide +kernel
theorem dX2_slopeAt_3 : decode cX2_slopeAt 3 = .ok (.istore 5, 2) := by decide +kernel
theorem dX2_slopeAt_30 : decode cX2_slopeAt 30 = .ok (.getfield 122, 3) := by decide +kernel
theorem dX2_slopeAt_33 : decode cX2_slopeAt 33 = .ok (.iload 5, 2) := by decide +kernel
theorem dX2_slopeAt_35 : decode cX2_slopeAt 35 = .ok (.iaload, 1) := by decide +kernel
theorem dX2_slopeAt_36 : decode cX2_slopeAt 36 = .ok (.i2l, 1) := by decide +kernel
theorem dX2_slopeAt_37 : decode cX2_slopeAt 37 = .ok (.ldc2_w 125, 3) := by decide +kernel
theorem dX2_slopeAt_40 : decode cX2_slopeAt 40 = .ok (.aload_n 0, 1) := by decide +kernel
theorem dX2_slopeAt_41 : decode cX2_slopeAt 41 = .ok (.getfield 36, 3) := by decide +kernel
theorem dX2_slopeAt_44 : decode cX2_slopeAt 44 = .ok (.getfield 127, 3) := by decide +kernel
theorem dX2_slopeAt_47 : decode cX2_slopeAt 47 = .ok (.iload 5, 2) := by decide +kernel
theorem dX2_slopeAt_49 : decode cX2_slopeAt 49 = .ok (.iaload, 1) := by decide +kernel
theorem dX2_slopeAt_5 : decode cX2_slopeAt 5 = .ok (.iload 5, 2) := by decide +kernel
theorem dX2_slopeAt_50 : decode cX2_slopeAt 50 = .ok (.i2l, 1) := by decide +kernel
theorem dX2_slopeAt_51 : decode cX2_slopeAt 51 = .ok (.lmul, 1) := by decide +kernel
theorem dX2_slopeAt_52 : decode cX2_slopeAt 52 = .ok (.aload_n 2, 1) := by decide +kernel
theorem dX2_slopeAt_53 : decode cX2_slopeAt 53 = .ok (.iload 5, 2) := by decide +kernel
theorem dX2_slopeAt_55 : decode cX2_slopeAt 55 = .ok (.iaload, 1) := by decide +kernel
theorem dX2_slopeAt_56 : decode cX2_slopeAt 56 = .ok (.i2l, 1) := by decide +kernel
theorem dX2_slopeAt_57 : decode cX2_slopeAt 57 = .ok (.lmul, 1) := by decide +kernel
theorem dX2_slopeAt_58 : decode cX2_slopeAt 58 = .ok (.ladd, 1) := by decide +kernel
theorem dX2_slopeAt_59 : decode cX2_slopeAt 59 = .ok (.lmul, 1) := by decide +kernel
theorem dX2_slopeAt_60 : decode cX2_slopeAt 60 = .ok (.ladd, 1) := by decide +kernel
theorem dX2_slopeAt_61 : decode cX2_slopeAt 61 = .ok (.lstore_n 3, 1) := by decide +kernel
theorem dX2_slopeAt_62 : decode cX2_slopeAt 62 = .ok (.iinc 5 1, 3) := by decide +kernel
theorem dX2_slopeAt_65 : decode cX2_slopeAt 65 = .ok (.goto (-60), 3) := by decide +kernel
theorem dX2_slopeAt_68 : decode cX2_slopeAt 68 = .ok (.lload_n 3, 1) := by decide +kernel
theorem dX2_slopeAt_69 : decode cX2_slopeAt 69 = .ok (.lreturn, 1) := by decide +kernel
theorem dX2_slopeAt_7 : decode cX2_slopeAt 7 = .ok (.aload_n 0, 1) := by decide +kernel
theorem dX2_slopeAt_8 : decode cX2_slopeAt 8 = .ok (.getfield 36, 3) := by decide +kernel
theorem dX2_supportOf_0 : decode cX2_supportOf 0 = .ok (.iconst 0, 1) := by decide +kernel
theorem dX2_supportOf_1 : decode cX2_supportOf 1 = .ok (.istore_n 2, 1) := by decide +kernel
theorem dX2_supportOf_10 : decode cX2_supportOf 10 = .ok (.iload_n 1, 1) := by decide +kernel
theorem dX2_supportOf_11 : decode cX2_supportOf 11 = .ok (.iload_n 3, 1) := by decide +kernel
theorem dX2_supportOf_12 : decode cX2_supportOf 12 = .ok (.invokevirtual 98, 3) := by decide +kernel
theorem dX2_supportOf_15 : decode cX2_supportOf 15 = .ok (.ifCond .eq 9, 3) := by decide +kernel
theorem dX2_supportOf_18 : decode cX2_supportOf 18 = .ok (.iload_n 2, 1) := by decide +kernel
theorem dX2_supportOf_19 : decode cX2_supportOf 19 = .ok (.iconst 1, 1) := by decide +kernel
theorem dX2_supportOf_2 : decode cX2_supportOf 2 = .ok (.iconst 0, 1) := by decide +kernel
theorem dX2_supportOf_20 : decode cX2_supportOf 20 = .ok (.iload_n 3, 1) := by decide +kernel
theorem dX2_supportOf_21 : decode cX2_supportOf 21 = .ok (.ishl, 1) := by decide +kernel
theorem dX2_supportOf_22 : decode cX2_supportOf 22 = .ok (.ior, 1) := by decide +kernel
theorem dX2_supportOf_23 : decode cX2_supportOf 23 = .ok (.istore_n 2, 1) := by decide +kernel
theorem dX2_supportOf_24 : decode cX2_supportOf 24 = .ok (.iinc 3 1, 3) := by decide +kernel
theorem dX2_supportOf_27 : decode cX2_supportOf 27 = .ok (.goto (-23), 3) := by decide +kernel
theorem dX2_supportOf_3 : decode cX2_supportOf 3 = .ok (.istore_n 3, 1) := by decide +kernel
theorem dX2_supportOf_30 : decode cX2_supportOf 30 = .ok (.iload_n 2, 1) := by decide +kernel
theorem dX2_supportOf_31 : decode cX2_supportOf 31 = .ok (.ireturn, 1) := by decide +kernel
theorem dX2_supportOf_4 : decode cX2_supportOf 4 = .ok (.iload_n 3, 1) := by decide +kernel
theorem dX2_supportOf_5 : decode cX2_supportOf 5 = .ok (.iconst 4, 1) := by decide +kernel
theorem dX2_supportOf_6 : decode cX2_supportOf 6 = .ok (.if_icmp .ge 24, 3) := by decide +kernel
theorem dX2_supportOf_9 : decode cX2_supportOf 9 = .ok (.aload_n 0, 1) := by decide +kernel
theorem dX2_timesInBounds_0 : decode cX2_timesInBounds 0 = .ok (.bipush 20, 2) := by decide +kernel
theorem dX2_timesInBounds_12 : decode cX2_timesInBounds 12 = .ok (.getfield 110, 3) := by decide +kernel
theorem dX2_timesInBounds_15 : decode cX2_timesInBounds 15 = .ok (.if_icmp .ge 81, 3) := by decide +kernel
theorem dX2_timesInBounds_18 : decode cX2_timesInBounds 18 = .ok (.iload_n 3, 1) := by decide +kernel
theorem dX2_timesInBounds_19 : decode cX2_timesInBounds 19 = .ok (.ifCond .le 77, 3) := by decide +kernel
theorem dX2_timesInBounds_2 : decode cX2_timesInBounds 2 = .ok (.istore_n 3, 1) := by decide +kernel
theorem dX2_timesInBounds_22 : decode cX2_timesInBounds 22 = .ok (.aload_n 0, 1) := by decide +kernel
theorem dX2_timesInBounds_23 : decode cX2_timesInBounds 23 = .ok (.iload_n 1, 1) := by decide +kernel
theorem dX2_timesInBounds_24 : decode cX2_timesInBounds 24 = .ok (.iload 4, 2) := by decide +kernel
theorem dX2_timesInBounds_26 : decode cX2_timesInBounds 26 = .ok (.invokevirtual 98, 3) := by decide +kernel
theorem dX2_timesInBounds_29 : decode cX2_timesInBounds 29 = .ok (.istore 5, 2) := by decide +kernel
theorem dX2_timesInBounds_3 : decode cX2_timesInBounds 3 = .ok (.iconst 0, 1) := by decide +kernel
theorem dX2_timesInBounds_31 : decode cX2_timesInBounds 31 = .ok (.iload 5, 2) := by decide +kernel
theorem dX2_timesInBounds_33 : decode cX2_timesInBounds 33 = .ok (.ifCond .le 29, 3) := by decide +kernel
theorem dX2_timesInBounds_36 : decode cX2_timesInBounds 36 = .ok (.iload_n 3, 1) := by decide +kernel
theorem dX2_timesInBounds_37 : decode cX2_timesInBounds 37 = .ok (.aload_n 0, 1) := by decide +kernel
theorem dX2_timesInBounds_38 : decode cX2_timesInBounds 38 = .ok (.getfield 36, 3) := by decide +kernel
theorem dX2_timesInBounds_4 : decode cX2_timesInBounds 4 = .ok (.istore 4, 2) := by decide +kernel
theorem dX2_timesInBounds_41 : decode cX2_timesInBounds 41 = .ok (.getfield 115, 3) := by decide +kernel
theorem dX2_timesInBounds_44 : decode cX2_timesInBounds 44 = .ok (.iload 4, 2) := by decide +kernel
theorem dX2_timesInBounds_46 : decode cX2_timesInBounds 46 = .ok (.iaload, 1) := by decide +kernel
theorem dX2_timesInBounds_47 : decode cX2_timesInBounds 47 = .ok (.aload_n 2, 1) := by decide +kernel
theorem dX2_timesInBounds_48 : decode cX2_timesInBounds 48 = .ok (.iload 4, 2) := by decide +kernel
theorem dX2_timesInBounds_50 : decode cX2_timesInBounds 50 = .ok (.iaload, 1) := by decide +kernel
theorem dX2_timesInBounds_51 : decode cX2_timesInBounds 51 = .ok (.isub, 1) := by decide +kernel
theorem dX2_timesInBounds_52 : decode cX2_timesInBounds 52 = .ok (.iload 5, 2) := by decide +kernel
theorem dX2_timesInBounds_54 : decode cX2_timesInBounds 54 = .ok (.idiv, 1) := by decide +kernel
theorem dX2_timesInBounds_55 : decode cX2_timesInBounds 55 = .ok (.invokestatic 102, 3) := by decide +kernel
theorem dX2_timesInBounds_58 : decode cX2_timesInBounds 58 = .ok (.istore_n 3, 1) := by decide +kernel
theorem dX2_timesInBounds_59 : decode cX2_timesInBounds 59 = .ok (.goto 31, 3) := by decide +kernel
theorem dX2_timesInBounds_6 : decode cX2_timesInBounds 6 = .ok (.iload 4, 2) := by decide +kernel
theorem dX2_timesInBounds_62 : decode cX2_timesInBounds 62 = .ok (.iload 5, 2) := by decide +kernel
theorem dX2_timesInBounds_64 : decode cX2_timesInBounds 64 = .ok (.ifCond .ge 26, 3) := by decide +kernel
theorem dX2_timesInBounds_67 : decode cX2_timesInBounds 67 = .ok (.iload_n 3, 1) := by decide +kernel
theorem dX2_timesInBounds_68 : decode cX2_timesInBounds 68 = .ok (.aload_n 0, 1) := by decide +kernel
theorem dX2_timesInBounds_69 : decode cX2_timesInBounds 69 = .ok (.getfield 36, 3) := by decide +kernel
theorem dX2_timesInBounds_72 : decode cX2_timesInBounds 72 = .ok (.getfield 119, 3) := by decide +kernel
theorem dX2_timesInBounds_75 : decode cX2_timesInBounds 75 = .ok (.iload 4, 2) := by decide +kernel
theorem dX2_timesInBounds_77 : decode cX2_timesInBounds 77 = .ok (.iaload, 1) := by decide +kernel
theorem dX2_timesInBounds_78 : decode cX2_timesInBounds 78 = .ok (.aload_n 2, 1) := by decide +kernel
theorem dX2_timesInBounds_79 : decode cX2_timesInBounds 79 = .ok (.iload 4, 2) := by decide +kernel
theorem dX2_timesInBounds_8 : decode cX2_timesInBounds 8 = .ok (.aload_n 0, 1) := by decide +kernel
theorem dX2_timesInBounds_81 : decode cX2_timesInBounds 81 = .ok (.iaload, 1) := by decide +kernel
theorem dX2_timesInBounds_82 : decode cX2_timesInBounds 82 = .ok (.isub, 1) := by decide +kernel
theorem dX2_timesInBounds_83 : decode cX2_timesInBounds 83 = .ok (.iload 5, 2) := by decide +kernel
theorem dX2_timesInBounds_85 : decode cX2_timesInBounds 85 = .ok (.idiv, 1) := by decide +kernel
theorem dX2_timesInBounds_86 : decode cX2_timesInBounds 86 = .ok (.invokestatic 102, 3) := by decide +kernel
theorem dX2_timesInBounds_89 : decode cX2_timesInBounds 89 = .ok (.istore_n 3, 1) := by decide +kernel
theorem dX2_timesInBounds_9 : decode cX2_timesInBounds 9 = .ok (.getfield 36, 3) := by decide +kernel
theorem dX2_timesInBounds_90 : decode cX2_timesInBounds 90 = .ok (.iinc 4 1, 3) := by decide +kernel
theorem dX2_timesInBounds_93 : decode cX2_timesInBounds 93 = .ok (.goto (-87), 3) := by decide +kernel
theorem dX2_timesInBounds_96 : decode cX2_timesInBounds 96 = .ok (.iload_n 3, 1) := by decide +kernel
theorem dX2_timesInBounds_97 : decode cX2_timesInBounds 97 = .ok (.ireturn, 1) := by decide +kernel
theorem dX2_timesWithin_0 : decode cX2_timesWithin 0 = .ok (.sipush 10000, 3) := by decide +kernel
theorem dX2_timesWithin_10 : decode cX2_timesWithin 10 = .ok (.if_icmp .ge 43, 3) := by decide +kernel
theorem dX2_timesWithin_13 : decode cX2_timesWithin 13 = .ok (.iload_n 3, 1) := by decide +kernel
theorem dX2_timesWithin_14 : decode cX2_timesWithin 14 = .ok (.ifCond .le 39, 3) := by decide +kernel
theorem dX2_timesWithin_17 : decode cX2_timesWithin 17 = .ok (.aload_n 0, 1) := by decide +kernel
theorem dX2_timesWithin_18 : decode cX2_timesWithin 18 = .ok (.iload_n 1, 1) := by decide +kernel
theorem dX2_timesWithin_19 : decode cX2_timesWithin 19 = .ok (.iload 4, 2) := by decide +kernel
theorem dX2_timesWithin_21 : decode cX2_timesWithin 21 = .ok (.invokevirtual 98, 3) := by decide +kernel
theorem dX2_timesWithin_24 : decode cX2_timesWithin 24 = .ok (.istore 5, 2) := by decide +kernel
theorem dX2_timesWithin_26 : decode cX2_timesWithin 26 = .ok (.iload 5, 2) := by decide +kernel
theorem dX2_timesWithin_28 : decode cX2_timesWithin 28 = .ok (.ifCond .eq 19, 3) := by decide +kernel
theorem dX2_timesWithin_3 : decode cX2_timesWithin 3 = .ok (.istore_n 3, 1) := by decide +kernel
theorem dX2_timesWithin_31 : decode cX2_timesWithin 31 = .ok (.iconst 0, 1) := by decide +kernel
theorem dX2_timesWithin_32 : decode cX2_timesWithin 32 = .ok (.iload_n 3, 1) := by decide +kernel
theorem dX2_timesWithin_33 : decode cX2_timesWithin 33 = .ok (.aload_n 2, 1) := by decide +kernel
theorem dX2_timesWithin_34 : decode cX2_timesWithin 34 = .ok (.iload 4, 2) := by decide +kernel
theorem dX2_timesWithin_36 : decode cX2_timesWithin 36 = .ok (.iaload, 1) := by decide +kernel
theorem dX2_timesWithin_37 : decode cX2_timesWithin 37 = .ok (.iload 5, 2) := by decide +kernel
theorem dX2_timesWithin_39 : decode cX2_timesWithin 39 = .ok (.idiv, 1) := by decide +kernel
theorem dX2_timesWithin_4 : decode cX2_timesWithin 4 = .ok (.iconst 0, 1) := by decide +kernel
theorem dX2_timesWithin_40 : decode cX2_timesWithin 40 = .ok (.invokestatic 102, 3) := by decide +kernel
theorem dX2_timesWithin_43 : decode cX2_timesWithin 43 = .ok (.invokestatic 107, 3) := by decide +kernel
theorem dX2_timesWithin_46 : decode cX2_timesWithin 46 = .ok (.istore_n 3, 1) := by decide +kernel
theorem dX2_timesWithin_47 : decode cX2_timesWithin 47 = .ok (.iinc 4 1, 3) := by decide +kernel
theorem dX2_timesWithin_5 : decode cX2_timesWithin 5 = .ok (.istore 4, 2) := by decide +kernel
theorem dX2_timesWithin_50 : decode cX2_timesWithin 50 = .ok (.goto (-43), 3) := by decide +kernel
theorem dX2_timesWithin_53 : decode cX2_timesWithin 53 = .ok (.iload_n 3, 1) := by decide +kernel
theorem dX2_timesWithin_54 : decode cX2_timesWithin 54 = .ok (.ireturn, 1) := by decide +kernel
theorem dX2_timesWithin_7 : decode cX2_timesWithin 7 = .ok (.iload 4, 2) := by decide +kernel
theorem dX2_timesWithin_9 : decode cX2_timesWithin 9 = .ok (.iconst 4, 1) := by decide +kernel
theorem dX3_addEquation_0 : decode cX3_addEquation 0 = .ok (.aload_n 0, 1) := by decide +kernel
theorem dX3_addEquation_1 : decode cX3_addEquation 1 = .ok (.getfield 40, 3) := by decide +kernel
theorem dX3_addEquation_10 : decode cX3_addEquation 10 = .ok (.aaload, 1) := by decide +kernel
theorem dX3_addEquation_11 : decode cX3_addEquation 11 = .ok (.iconst 0, 1) := by decide +kernel
theorem dX3_addEquation_12 : decode cX3_addEquation 12 = .ok (.invokestatic 43, 3) := by decide +kernel
theorem dX3_addEquation_15 : decode cX3_addEquation 15 = .ok (.aload_n 0, 1) := by decide +kernel
theorem dX3_addEquation_16 : decode cX3_addEquation 16 = .ok (.getfield 16, 3) := by decide +kernel
theorem dX3_addEquation_19 : decode cX3_addEquation 19 = .ok (.iload_n 1, 1) := by decide +kernel
theorem dX3_addEquation_20 : decode cX3_addEquation 20 = .ok (.iconst 0, 1) := by decide +kernel
theorem dX3_addEquation_21 : decode cX3_addEquation 21 = .ok (.iastore, 1) := by decide +kernel
theorem dX3_addEquation_22 : decode cX3_addEquation 22 = .ok (.aload_n 0, 1) := by decide +kernel
theorem dX3_addEquation_23 : decode cX3_addEquation 23 = .ok (.dup, 1) := by decide +kernel
theorem dX3_addEquation_24 : decode cX3_addEquation 24 = .ok (.getfield 40, 3) := by decide +kernel
theorem dX3_addEquation_27 : decode cX3_addEquation 27 = .ok (.iconst 1, 1) := by decide +kernel
theorem dX3_addEquation_28 : decode cX3_addEquation 28 = .ok (.iadd, 1) := by decide +kernel
theorem dX3_addEquation_29 : decode cX3_addEquation 29 = .ok (.putfield 40, 3) := by decide +kernel
theorem dX3_addEquation_32 : decode cX3_addEquation 32 = .ok (.iload_n 1, 1) := by decide +kernel
theorem dX3_addEquation_33 : decode cX3_addEquation 33 = .ok (.ireturn, 1) := by decide +kernel
theorem dX3_addEquation_4 : decode cX3_addEquation 4 = .ok (.istore_n 1, 1) := by decide +kernel
theorem dX3_addEquation_5 : decode cX3_addEquation 5 = .ok (.aload_n 0, 1) := by decide +kernel
theorem dX3_addEquation_6 : decode cX3_addEquation 6 = .ok (.getfield 11, 3) := by decide +kernel
theorem dX3_addEquation_9 : decode cX3_addEquation 9 = .ok (.iload_n 1, 1) := by decide +kernel
theorem dX3_begin_0 : decode cX3_begin 0 = .ok (.aload_n 0, 1) := by decide +kernel
theorem dX3_begin_1 : decode cX3_begin 1 = .ok (.iload_n 1, 1) := by decide +kernel
theorem dX3_begin_10 : decode cX3_begin 10 = .ok (.aload_n 0, 1) := by decide +kernel
theorem dX3_begin_11 : decode cX3_begin 11 = .ok (.getfield 20, 3) := by decide +kernel
theorem dX3_begin_14 : decode cX3_begin 14 = .ok (.iconst 0, 1) := by decide +kernel
theorem dX3_begin_15 : decode cX3_begin 15 = .ok (.invokestatic 43, 3) := by decide +kernel
theorem dX3_begin_18 : decode cX3_begin 18 = .ok (.aload_n 0, 1) := by decide +kernel
theorem dX3_begin_19 : decode cX3_begin 19 = .ok (.getfield 23, 3) := by decide +kernel
theorem dX3_begin_2 : decode cX3_begin 2 = .ok (.putfield 36, 3) := by decide +kernel
theorem dX3_begin_22 : decode cX3_begin 22 = .ok (.bipush 10, 2) := by decide +kernel
theorem dX3_begin_24 : decode cX3_begin 24 = .ok (.invokestatic 43, 3) := by decide +kernel
theorem dX3_begin_27 : decode cX3_begin 27 = .ok (.aload_n 0, 1) := by decide +kernel
theorem dX3_begin_28 : decode cX3_begin 28 = .ok (.getfield 26, 3) := by decide +kernel
theorem dX3_begin_31 : decode cX3_begin 31 = .ok (.iconst 0, 1) := by decide +kernel
theorem dX3_begin_32 : decode cX3_begin 32 = .ok (.invokestatic 43, 3) := by decide +kernel
theorem dX3_begin_35 : decode cX3_begin 35 = .ok (.aload_n 0, 1) := by decide +kernel
theorem dX3_begin_36 : decode cX3_begin 36 = .ok (.getfield 29, 3) := by decide +kernel
theorem dX3_begin_39 : decode cX3_begin 39 = .ok (.iconst 0, 1) := by decide +kernel
theorem dX3_begin_40 : decode cX3_begin 40 = .ok (.invokestatic 43, 3) := by decide +kernel
theorem dX3_begin_43 : decode cX3_begin 43 = .ok (.return_, 1) := by decide +kernel
theorem dX3_begin_5 : decode cX3_begin 5 = .ok (.aload_n 0, 1) := by decide +kernel
theorem dX3_begin_6 : decode cX3_begin 6 = .ok (.iconst 0, 1) := by decide +kernel
theorem dX3_begin_7 : decode cX3_begin 7 = .ok (.putfield 40, 3) := by decide +kernel
theorem dX3_costOfNumber_0 : decode cX3_costOfNumber 0 = .ok (.aload_n 0, 1) := by decide +kernel
theorem dX3_costOfNumber_1 : decode cX3_costOfNumber 1 = .ok (.getfield 29, 3) := by decide +kernel
theorem dX3_costOfNumber_10 : decode cX3_costOfNumber 10 = .ok (.aload_n 0, 1) := by decide +kernel
theorem dX3_costOfNumber_11 : decode cX3_costOfNumber 11 = .ok (.getfield 26, 3) := by decide +kernel
theorem dX3_costOfNumber_14 : decode cX3_costOfNumber 14 = .ok (.iload_n 1, 1) := by decide +kernel
theorem dX3_costOfNumber_15 : decode cX3_costOfNumber 15 = .ok (.iaload, 1) := by decide +kernel
theorem dX3_costOfNumber_16 : decode cX3_costOfNumber 16 = .ok (.i2l, 1) := by decide +kernel
theorem dX3_costOfNumber_17 : decode cX3_costOfNumber 17 = .ok (.ladd, 1) := by decide +kernel
theorem dX3_costOfNumber_18 : decode cX3_costOfNumber 18 = .ok (.iload_n 2, 1) := by decide +kernel
theorem dX3_costOfNumber_19 : decode cX3_costOfNumber 19 = .ok (.i2l, 1) := by decide +kernel
theorem dX3_costOfNumber_20 : decode cX3_costOfNumber 20 = .ok (.lmul, 1) := by decide +kernel
theorem dX3_costOfNumber_21 : decode cX3_costOfNumber 21 = .ok (.lreturn, 1) := by decide +kernel
theorem dX3_costOfNumber_4 : decode cX3_costOfNumber 4 = .ok (.iload_n 1, 1) := by decide +kernel
theorem dX3_costOfNumber_5 : decode cX3_costOfNumber 5 = .ok (.iaload, 1) := by decide +kernel
theorem dX3_costOfNumber_6 : decode cX3_costOfNumber 6 = .ok (.i2l, 1) := by decide +kernel
theorem dX3_costOfNumber_7 : decode cX3_costOfNumber 7 = .ok (.iload_n 2, 1) := by decide +kernel
theorem dX3_costOfNumber_8 : decode cX3_costOfNumber 8 = .ok (.i2l, 1) := by decide +kernel
theorem dX3_costOfNumber_9 : decode cX3_costOfNumber 9 = .ok (.lmul, 1) := by decide +kernel
theorem dX3_costOf_0 : decode cX3_costOf 0 = .ok (.lconst 0, 1) := by decide +kernel
theorem dX3_costOf_1 : decode cX3_costOf 1 = .ok (.lstore_n 2, 1) := by decide +kernel
theorem dX3_costOf_11 : decode cX3_costOf 11 = .ok (.if_icmp .ge 22, 3) := by decide +kernel
theorem dX3_costOf_14 : decode cX3_costOf 14 = .ok (.lload_n 2, 1) := by decide +kernel
theorem dX3_costOf_15 : decode cX3_costOf 15 = .ok (.aload_n 0, 1) := by decide +kernel
theorem dX3_costOf_16 : decode cX3_costOf 16 = .ok (.iload 4, 2) := by decide +kernel
theorem dX3_costOf_18 : decode cX3_costOf 18 = .ok (.aload_n 1, 1) := by decide +kernel
theorem dX3_costOf_19 : decode cX3_costOf 19 = .ok (.iload 4, 2) := by decide +kernel
theorem dX3_costOf_2 : decode cX3_costOf 2 = .ok (.iconst 0, 1) := by decide +kernel
theorem dX3_costOf_21 : decode cX3_costOf 21 = .ok (.iaload, 1) := by decide +kernel
theorem dX3_costOf_22 : decode cX3_costOf 22 = .ok (.invokevirtual 53, 3) := by decide +kernel
theorem dX3_costOf_25 : decode cX3_costOf 25 = .ok (.ladd, 1) := by decide +kernel
theorem dX3_costOf_26 : decode cX3_costOf 26 = .ok (.lstore_n 2, 1) := by decide +kernel
theorem dX3_costOf_27 : decode cX3_costOf 27 = .ok (.iinc 4 1, 3) := by decide +kernel
theorem dX3_costOf_3 : decode cX3_costOf 3 = .ok (.istore 4, 2) := by decide +kernel
theorem dX3_costOf_30 : decode cX3_costOf 30 = .ok (.goto (-25), 3) := by decide +kernel
theorem dX3_costOf_33 : decode cX3_costOf 33 = .ok (.lload_n 2, 1) := by decide +kernel
theorem dX3_costOf_34 : decode cX3_costOf 34 = .ok (.lreturn, 1) := by decide +kernel
theorem dX3_costOf_5 : decode cX3_costOf 5 = .ok (.iload 4, 2) := by decide +kernel
theorem dX3_costOf_7 : decode cX3_costOf 7 = .ok (.aload_n 0, 1) := by decide +kernel
theorem dX3_costOf_8 : decode cX3_costOf 8 = .ok (.getfield 36, 3) := by decide +kernel
theorem dX3_hasEquation_0 : decode cX3_hasEquation 0 = .ok (.iload_n 1, 1) := by decide +kernel
theorem dX3_hasEquation_1 : decode cX3_hasEquation 1 = .ok (.ifCond .lt 15, 3) := by decide +kernel
theorem dX3_hasEquation_12 : decode cX3_hasEquation 12 = .ok (.iconst 1, 1) := by decide +kernel
theorem dX3_hasEquation_13 : decode cX3_hasEquation 13 = .ok (.goto 4, 3) := by decide +kernel
theorem dX3_hasEquation_16 : decode cX3_hasEquation 16 = .ok (.iconst 0, 1) := by decide +kernel
theorem dX3_hasEquation_17 : decode cX3_hasEquation 17 = .ok (.ireturn, 1) := by decide +kernel
theorem dX3_hasEquation_4 : decode cX3_hasEquation 4 = .ok (.iload_n 1, 1) := by decide +kernel
theorem dX3_hasEquation_5 : decode cX3_hasEquation 5 = .ok (.aload_n 0, 1) := by decide +kernel
theorem dX3_hasEquation_6 : decode cX3_hasEquation 6 = .ok (.getfield 40, 3) := by decide +kernel
theorem dX3_hasEquation_9 : decode cX3_hasEquation 9 = .ok (.if_icmp .ge 7, 3) := by decide +kernel
theorem dX3_hasUnknown_0 : decode cX3_hasUnknown 0 = .ok (.iload_n 1, 1) := by decide +kernel
theorem dX3_hasUnknown_1 : decode cX3_hasUnknown 1 = .ok (.ifCond .lt 15, 3) := by decide +kernel
theorem dX3_hasUnknown_12 : decode cX3_hasUnknown 12 = .ok (.iconst 1, 1) := by decide +kernel
theorem dX3_hasUnknown_13 : decode cX3_hasUnknown 13 = .ok (.goto 4, 3) := by decide +kernel
theorem dX3_hasUnknown_16 : decode cX3_hasUnknown 16 = .ok (.iconst 0, 1) := by decide +kernel
theorem dX3_hasUnknown_17 : decode cX3_hasUnknown 17 = .ok (.ireturn, 1) := by decide +kernel
theorem dX3_hasUnknown_4 : decode cX3_hasUnknown 4 = .ok (.iload_n 1, 1) := by decide +kernel
theorem dX3_hasUnknown_5 : decode cX3_hasUnknown 5 = .ok (.aload_n 0, 1) := by decide +kernel
theorem dX3_hasUnknown_6 : decode cX3_hasUnknown 6 = .ok (.getfield 36, 3) := by decide +kernel
theorem dX3_hasUnknown_9 : decode cX3_hasUnknown 9 = .ok (.if_icmp .ge 7, 3) := by decide +kernel
theorem dX3_isFree_0 : decode cX3_isFree 0 = .ok (.iconst 0, 1) := by decide +kernel
theorem dX3_isFree_1 : decode cX3_isFree 1 = .ok (.istore_n 2, 1) := by decide +kernel
theorem dX3_isFree_10 : decode cX3_isFree 10 = .ok (.aload_n 0, 1) := by decide +kernel
theorem dX3_isFree_11 : decode cX3_isFree 11 = .ok (.getfield 11, 3) := by decide +kernel
theorem dX3_isFree_14 : decode cX3_isFree 14 = .ok (.iload_n 2, 1) := by decide +kernel
theorem dX3_isFree_15 : decode cX3_isFree 15 = .ok (.aaload, 1) := by decide +kernel
theorem dX3_isFree_16 : decode cX3_isFree 16 = .ok (.iload_n 1, 1) := by decide +kernel
theorem dX3_isFree_17 : decode cX3_isFree 17 = .ok (.iaload, 1) := by decide +kernel
theorem dX3_isFree_18 : decode cX3_isFree 18 = .ok (.ifCond .eq 5, 3) := by decide +kernel
theorem dX3_isFree_2 : decode cX3_isFree 2 = .ok (.iload_n 2, 1) := by decide +kernel
theorem dX3_isFree_21 : decode cX3_isFree 21 = .ok (.iconst 0, 1) := by decide +kernel
theorem dX3_isFree_22 : decode cX3_isFree 22 = .ok (.ireturn, 1) := by decide +kernel
theorem dX3_isFree_23 : decode cX3_isFree 23 = .ok (.iinc 2 1, 3) := by decide +kernel
theorem dX3_isFree_26 : decode cX3_isFree 26 = .ok (.goto (-24), 3) := by decide +kernel
theorem dX3_isFree_29 : decode cX3_isFree 29 = .ok (.iconst 1, 1) := by decide +kernel
theorem dX3_isFree_3 : decode cX3_isFree 3 = .ok (.aload_n 0, 1) := by decide +kernel
theorem dX3_isFree_30 : decode cX3_isFree 30 = .ok (.ireturn, 1) := by decide +kernel
theorem dX3_isFree_4 : decode cX3_isFree 4 = .ok (.getfield 40, 3) := by decide +kernel
theorem dX3_isFree_7 : decode cX3_isFree 7 = .ok (.if_icmp .ge 22, 3) := by decide +kernel
theorem dX3_isPlan_0 : decode cX3_isPlan 0 = .ok (.iconst 0, 1) := by decide +kernel
theorem dX3_isPlan_1 : decode cX3_isPlan 1 = .ok (.istore_n 2, 1) := by decide +kernel
theorem dX3_isPlan_10 : decode cX3_isPlan 10 = .ok (.aload_n 1, 1) := by decide +kernel
theorem dX3_isPlan_11 : decode cX3_isPlan 11 = .ok (.iload_n 2, 1) := by decide +kernel
theorem dX3_isPlan_12 : decode cX3_isPlan 12 = .ok (.iaload, 1) := by decide +kernel
theorem dX3_isPlan_13 : decode cX3_isPlan 13 = .ok (.aload_n 0, 1) := by decide +kernel
theorem dX3_isPlan_14 : decode cX3_isPlan 14 = .ok (.getfield 20, 3) := by decide +kernel
theorem dX3_isPlan_17 : decode cX3_isPlan 17 = .ok (.iload_n 2, 1) := by decide +kernel
theorem dX3_isPlan_18 : decode cX3_isPlan 18 = .ok (.iaload, 1) := by decide +kernel
theorem dX3_isPlan_19 : decode cX3_isPlan 19 = .ok (.if_icmp .lt 15, 3) := by decide +kernel
theorem dX3_isPlan_2 : decode cX3_isPlan 2 = .ok (.iload_n 2, 1) := by decide +kernel
theorem dX3_isPlan_22 : decode cX3_isPlan 22 = .ok (.aload_n 1, 1) := by decide +kernel
theorem dX3_isPlan_23 : decode cX3_isPlan 23 = .ok (.iload_n 2, 1) := by decide +kernel
theorem dX3_isPlan_24 : decode cX3_isPlan 24 = .ok (.iaload, 1) := by decide +kernel
theorem dX3_isPlan_25 : decode cX3_isPlan 25 = .ok (.aload_n 0, 1) := by decide +kernel
theorem dX3_isPlan_26 : decode cX3_isPlan 26 = .ok (.getfield 23, 3) := by decide +kernel
theorem dX3_isPlan_29 : decode cX3_isPlan 29 = .ok (.iload_n 2, 1) := by decide +kernel
theorem dX3_isPlan_3 : decode cX3_isPlan 3 = .ok (.aload_n 0, 1) := by decide +kernel
theorem dX3_isPlan_30 : decode cX3_isPlan 30 = .ok (.iaload, 1) := by decide +kernel
theorem dX3_isPlan_31 : decode cX3_isPlan 31 = .ok (.if_icmp .le 5, 3) := by decide +kernel
theorem dX3_isPlan_34 : decode cX3_isPlan 34 = .ok (.iconst 0, 1) := by decide +kernel
theorem dX3_isPlan_35 : decode cX3_isPlan 35 = .ok (.ireturn, 1) := by decide +kernel
theorem dX3_isPlan_36 : decode cX3_isPlan 36 = .ok (.iinc 2 1, 3) := by decide +kernel
theorem dX3_isPlan_39 : decode cX3_isPlan 39 = .ok (.goto (-37), 3) := by decide +kernel
theorem dX3_isPlan_4 : decode cX3_isPlan 4 = .ok (.getfield 36, 3) := by decide +kernel
theorem dX3_isPlan_42 : decode cX3_isPlan 42 = .ok (.iconst 0, 1) := by decide +kernel
theorem dX3_isPlan_43 : decode cX3_isPlan 43 = .ok (.istore_n 2, 1) := by decide +kernel
theorem dX3_isPlan_44 : decode cX3_isPlan 44 = .ok (.iload_n 2, 1) := by decide +kernel
theorem dX3_isPlan_45 : decode cX3_isPlan 45 = .ok (.aload_n 0, 1) := by decide +kernel
theorem dX3_isPlan_46 : decode cX3_isPlan 46 = .ok (.getfield 40, 3) := by decide +kernel
theorem dX3_isPlan_49 : decode cX3_isPlan 49 = .ok (.if_icmp .ge 26, 3) := by decide +kernel
theorem dX3_isPlan_52 : decode cX3_isPlan 52 = .ok (.aload_n 0, 1) := by decide +kernel
theorem dX3_isPlan_53 : decode cX3_isPlan 53 = .ok (.iload_n 2, 1) := by decide +kernel
theorem dX3_isPlan_54 : decode cX3_isPlan 54 = .ok (.aload_n 1, 1) := by decide +kernel
theorem dX3_isPlan_55 : decode cX3_isPlan 55 = .ok (.invokevirtual 49, 3) := by decide +kernel
theorem dX3_isPlan_58 : decode cX3_isPlan 58 = .ok (.aload_n 0, 1) := by decide +kernel
theorem dX3_isPlan_59 : decode cX3_isPlan 59 = .ok (.getfield 16, 3) := by decide +kernel
theorem dX3_isPlan_62 : decode cX3_isPlan 62 = .ok (.iload_n 2, 1) := by decide +kernel
theorem dX3_isPlan_63 : decode cX3_isPlan 63 = .ok (.iaload, 1) := by decide +kernel
theorem dX3_isPlan_64 : decode cX3_isPlan 64 = .ok (.if_icmp .eq 5, 3) := by decide +kernel
theorem dX3_isPlan_67 : decode cX3_isPlan 67 = .ok (.iconst 0, 1) := by decide +kernel
theorem dX3_isPlan_68 : decode cX3_isPlan 68 = .ok (.ireturn, 1) := by decide +kernel
theorem dX3_isPlan_69 : decode cX3_isPlan 69 = .ok (.iinc 2 1, 3) := by decide +kernel
theorem dX3_isPlan_7 : decode cX3_isPlan 7 = .ok (.if_icmp .ge 35, 3) := by decide +kernel
theorem dX3_isPlan_72 : decode cX3_isPlan 72 = .ok (.goto (-28), 3) := by decide +kernel
theorem dX3_isPlan_75 : decode cX3_isPlan 75 = .ok (.iconst 1, 1) := by decide +kernel
theorem dX3_isPlan_76 : decode cX3_isPlan 76 = .ok (.ireturn, 1) := by decide +kernel
theorem dX3_isStep_0 : decode cX3_isStep 0 = .ok (.iconst 0, 1) := by decide +kernel
theorem dX3_isStep_1 : decode cX3_isStep 1 = .ok (.istore_n 2, 1) := by decide +kernel
theorem dX3_isStep_12 : decode cX3_isStep 12 = .ok (.iload_n 2, 1) := by decide +kernel
theorem dX3_isStep_13 : decode cX3_isStep 13 = .ok (.ifCond .ne 9, 3) := by decide +kernel
theorem dX3_isStep_16 : decode cX3_isStep 16 = .ok (.aload_n 1, 1) := by decide +kernel
theorem dX3_isStep_17 : decode cX3_isStep 17 = .ok (.iload_n 3, 1) := by decide +kernel
theorem dX3_isStep_18 : decode cX3_isStep 18 = .ok (.iaload, 1) := by decide +kernel
theorem dX3_isStep_19 : decode cX3_isStep 19 = .ok (.ifCond .eq 7, 3) := by decide +kernel
theorem dX3_isStep_2 : decode cX3_isStep 2 = .ok (.iconst 0, 1) := by decide +kernel
theorem dX3_isStep_22 : decode cX3_isStep 22 = .ok (.iconst 1, 1) := by decide +kernel
theorem dX3_isStep_23 : decode cX3_isStep 23 = .ok (.goto 4, 3) := by decide +kernel
theorem dX3_isStep_26 : decode cX3_isStep 26 = .ok (.iconst 0, 1) := by decide +kernel
theorem dX3_isStep_27 : decode cX3_isStep 27 = .ok (.istore_n 2, 1) := by decide +kernel
theorem dX3_isStep_28 : decode cX3_isStep 28 = .ok (.iinc 3 1, 3) := by decide +kernel
theorem dX3_isStep_3 : decode cX3_isStep 3 = .ok (.istore_n 3, 1) := by decide +kernel
theorem dX3_isStep_31 : decode cX3_isStep 31 = .ok (.goto (-27), 3) := by decide +kernel
theorem dX3_isStep_34 : decode cX3_isStep 34 = .ok (.iconst 0, 1) := by decide +kernel
theorem dX3_isStep_35 : decode cX3_isStep 35 = .ok (.istore_n 3, 1) := by decide +kernel
theorem dX3_isStep_36 : decode cX3_isStep 36 = .ok (.iload_n 3, 1) := by decide +kernel
theorem dX3_isStep_37 : decode cX3_isStep 37 = .ok (.aload_n 0, 1) := by decide +kernel
theorem dX3_isStep_38 : decode cX3_isStep 38 = .ok (.getfield 40, 3) := by decide +kernel
theorem dX3_isStep_4 : decode cX3_isStep 4 = .ok (.iload_n 3, 1) := by decide +kernel
theorem dX3_isStep_41 : decode cX3_isStep 41 = .ok (.if_icmp .ge 20, 3) := by decide +kernel
theorem dX3_isStep_44 : decode cX3_isStep 44 = .ok (.aload_n 0, 1) := by decide +kernel
theorem dX3_isStep_45 : decode cX3_isStep 45 = .ok (.iload_n 3, 1) := by decide +kernel
theorem dX3_isStep_46 : decode cX3_isStep 46 = .ok (.aload_n 1, 1) := by decide +kernel
theorem dX3_isStep_47 : decode cX3_isStep 47 = .ok (.invokevirtual 49, 3) := by decide +kernel
theorem dX3_isStep_5 : decode cX3_isStep 5 = .ok (.aload_n 0, 1) := by decide +kernel
theorem dX3_isStep_50 : decode cX3_isStep 50 = .ok (.ifCond .eq 5, 3) := by decide +kernel
theorem dX3_isStep_53 : decode cX3_isStep 53 = .ok (.iconst 0, 1) := by decide +kernel
theorem dX3_isStep_54 : decode cX3_isStep 54 = .ok (.ireturn, 1) := by decide +kernel
theorem dX3_isStep_55 : decode cX3_isStep 55 = .ok (.iinc 3 1, 3) := by decide +kernel
theorem dX3_isStep_58 : decode cX3_isStep 58 = .ok (.goto (-22), 3) := by decide +kernel
theorem dX3_isStep_6 : decode cX3_isStep 6 = .ok (.getfield 36, 3) := by decide +kernel
theorem dX3_isStep_61 : decode cX3_isStep 61 = .ok (.iload_n 2, 1) := by decide +kernel
theorem dX3_isStep_62 : decode cX3_isStep 62 = .ok (.ireturn, 1) := by decide +kernel
theorem dX3_isStep_9 : decode cX3_isStep 9 = .ok (.if_icmp .ge 25, 3) := by decide +kernel
theorem dX3_sumOf_0 : decode cX3_sumOf 0 = .ok (.iconst 0, 1) := by decide +kernel
theorem dX3_sumOf_1 : decode cX3_sumOf 1 = .ok (.istore_n 3, 1) := by decide +kernel
theorem dX3_sumOf_11 : decode cX3_sumOf 11 = .ok (.if_icmp .ge 26, 3) := by decide +kernel
theorem dX3_sumOf_14 : decode cX3_sumOf 14 = .ok (.iload_n 3, 1) := by decide +kernel
theorem dX3_sumOf_15 : decode cX3_sumOf 15 = .ok (.aload_n 0, 1) := by decide +kernel
theorem dX3_sumOf_16 : decode cX3_sumOf 16 = .ok (.getfield 11, 3) := by decide +kernel
theorem dX3_sumOf_19 : decode cX3_sumOf 19 = .ok (.iload_n 1, 1) := by decide +kernel
theorem dX3_sumOf_2 : decode cX3_sumOf 2 = .ok (.iconst 0, 1) := by decide +kernel
theorem dX3_sumOf_20 : decode cX3_sumOf 20 = .ok (.aaload, 1) := by decide +kernel
theorem dX3_sumOf_21 : decode cX3_sumOf 21 = .ok (.iload 4, 2) := by decide +kernel
theorem dX3_sumOf_23 : decode cX3_sumOf 23 = .ok (.iaload, 1) := by decide +kernel
theorem dX3_sumOf_24 : decode cX3_sumOf 24 = .ok (.aload_n 2, 1) := by decide +kernel
theorem dX3_sumOf_25 : decode cX3_sumOf 25 = .ok (.iload 4, 2) := by decide +kernel
theorem dX3_sumOf_27 : decode cX3_sumOf 27 = .ok (.iaload, 1) := by decide +kernel
theorem dX3_sumOf_28 : decode cX3_sumOf 28 = .ok (.imul, 1) := by decide +kernel
theorem dX3_sumOf_29 : decode cX3_sumOf 29 = .ok (.iadd, 1) := by decide +kernel
theorem dX3_sumOf_3 : decode cX3_sumOf 3 = .ok (.istore 4, 2) := by decide +kernel
theorem dX3_sumOf_30 : decode cX3_sumOf 30 = .ok (.istore_n 3, 1) := by decide +kernel
theorem dX3_sumOf_31 : decode cX3_sumOf 31 = .ok (.iinc 4 1, 3) := by decide +kernel
theorem dX3_sumOf_34 : decode cX3_sumOf 34 = .ok (.goto (-29), 3) := by decide +kernel
theorem dX3_sumOf_37 : decode cX3_sumOf 37 = .ok (.iload_n 3, 1) := by decide +kernel
theorem dX3_sumOf_38 : decode cX3_sumOf 38 = .ok (.ireturn, 1) := by decide +kernel
theorem dX3_sumOf_5 : decode cX3_sumOf 5 = .ok (.iload 4, 2) := by decide +kernel
theorem dX3_sumOf_7 : decode cX3_sumOf 7 = .ok (.aload_n 0, 1) := by decide +kernel
theorem dX3_sumOf_8 : decode cX3_sumOf 8 = .ok (.getfield 36, 3) := by decide +kernel
theorem dX4_appendBlock_0 : decode cX4_appendBlock 0 = .ok (.aload_n 0, 1) := by decide +kernel
theorem dX4_appendBlock_1 : decode cX4_appendBlock 1 = .ok (.getfield 43, 3) := by decide +kernel
theorem dX4_appendBlock_10 : decode cX4_appendBlock 10 = .ok (.aload_n 0, 1) := by decide +kernel
theorem dX4_appendBlock_11 : decode cX4_appendBlock 11 = .ok (.getfield 11, 3) := by decide +kernel
theorem dX4_appendBlock_14 : decode cX4_appendBlock 14 = .ok (.aload_n 0, 1) := by decide +kernel
theorem dX4_appendBlock_15 : decode cX4_appendBlock 15 = .ok (.getfield 43, 3) := by decide +kernel
theorem dX4_appendBlock_18 : decode cX4_appendBlock 18 = .ok (.iload_n 1, 1) := by decide +kernel
theorem dX4_appendBlock_19 : decode cX4_appendBlock 19 = .ok (.iastore, 1) := by decide +kernel
theorem dX4_appendBlock_20 : decode cX4_appendBlock 20 = .ok (.aload_n 0, 1) := by decide +kernel
theorem dX4_appendBlock_21 : decode cX4_appendBlock 21 = .ok (.dup, 1) := by decide +kernel
theorem dX4_appendBlock_22 : decode cX4_appendBlock 22 = .ok (.getfield 43, 3) := by decide +kernel
theorem dX4_appendBlock_25 : decode cX4_appendBlock 25 = .ok (.iconst 1, 1) := by decide +kernel
theorem dX4_appendBlock_26 : decode cX4_appendBlock 26 = .ok (.iadd, 1) := by decide +kernel
theorem dX4_appendBlock_27 : decode cX4_appendBlock 27 = .ok (.putfield 43, 3) := by decide +kernel
theorem dX4_appendBlock_30 : decode cX4_appendBlock 30 = .ok (.return_, 1) := by decide +kernel
theorem dX4_appendBlock_4 : decode cX4_appendBlock 4 = .ok (.sipush 9261, 3) := by decide +kernel
theorem dX4_appendBlock_7 : decode cX4_appendBlock 7 = .ok (.if_icmp .ge 23, 3) := by decide +kernel
theorem dX4_blockOf_0 : decode cX4_blockOf 0 = .ok (.iconst 0, 1) := by decide +kernel
theorem dX4_blockOf_1 : decode cX4_blockOf 1 = .ok (.istore_n 2, 1) := by decide +kernel
theorem dX4_blockOf_10 : decode cX4_blockOf 10 = .ok (.istore 4, 2) := by decide +kernel
theorem dX4_blockOf_12 : decode cX4_blockOf 12 = .ok (.iload 4, 2) := by decide +kernel
theorem dX4_blockOf_14 : decode cX4_blockOf 14 = .ok (.bipush 20, 2) := by decide +kernel
theorem dX4_blockOf_16 : decode cX4_blockOf 16 = .ok (.if_icmp .ge 43, 3) := by decide +kernel
theorem dX4_blockOf_19 : decode cX4_blockOf 19 = .ok (.iload_n 2, 1) := by decide +kernel
theorem dX4_blockOf_2 : decode cX4_blockOf 2 = .ok (.aload_n 0, 1) := by decide +kernel
theorem dX4_blockOf_20 : decode cX4_blockOf 20 = .ok (.iload_n 3, 1) := by decide +kernel
theorem dX4_blockOf_21 : decode cX4_blockOf 21 = .ok (.if_icmp .ge 38, 3) := by decide +kernel
theorem dX4_blockOf_24 : decode cX4_blockOf 24 = .ok (.iload_n 2, 1) := by decide +kernel
theorem dX4_blockOf_25 : decode cX4_blockOf 25 = .ok (.iload_n 3, 1) := by decide +kernel
theorem dX4_blockOf_26 : decode cX4_blockOf 26 = .ok (.iadd, 1) := by decide +kernel
theorem dX4_blockOf_27 : decode cX4_blockOf 27 = .ok (.iconst 2, 1) := by decide +kernel
theorem dX4_blockOf_28 : decode cX4_blockOf 28 = .ok (.idiv, 1) := by decide +kernel
theorem dX4_blockOf_29 : decode cX4_blockOf 29 = .ok (.istore 5, 2) := by decide +kernel
theorem dX4_blockOf_3 : decode cX4_blockOf 3 = .ok (.getfield 43, 3) := by decide +kernel
theorem dX4_blockOf_31 : decode cX4_blockOf 31 = .ok (.aload_n 0, 1) := by decide +kernel
theorem dX4_blockOf_32 : decode cX4_blockOf 32 = .ok (.getfield 11, 3) := by decide +kernel
theorem dX4_blockOf_35 : decode cX4_blockOf 35 = .ok (.iload 5, 2) := by decide +kernel
theorem dX4_blockOf_37 : decode cX4_blockOf 37 = .ok (.iaload, 1) := by decide +kernel
theorem dX4_blockOf_38 : decode cX4_blockOf 38 = .ok (.iload_n 1, 1) := by decide +kernel
theorem dX4_blockOf_39 : decode cX4_blockOf 39 = .ok (.if_icmp .ge 11, 3) := by decide +kernel
theorem dX4_blockOf_42 : decode cX4_blockOf 42 = .ok (.iload 5, 2) := by decide +kernel
theorem dX4_blockOf_44 : decode cX4_blockOf 44 = .ok (.iconst 1, 1) := by decide +kernel
theorem dX4_blockOf_45 : decode cX4_blockOf 45 = .ok (.iadd, 1) := by decide +kernel
theorem dX4_blockOf_46 : decode cX4_blockOf 46 = .ok (.istore_n 2, 1) := by decide +kernel
theorem dX4_blockOf_47 : decode cX4_blockOf 47 = .ok (.goto 6, 3) := by decide +kernel
theorem dX4_blockOf_50 : decode cX4_blockOf 50 = .ok (.iload 5, 2) := by decide +kernel
theorem dX4_blockOf_52 : decode cX4_blockOf 52 = .ok (.istore_n 3, 1) := by decide +kernel
theorem dX4_blockOf_53 : decode cX4_blockOf 53 = .ok (.iinc 4 1, 3) := by decide +kernel
theorem dX4_blockOf_56 : decode cX4_blockOf 56 = .ok (.goto (-44), 3) := by decide +kernel
theorem dX4_blockOf_59 : decode cX4_blockOf 59 = .ok (.iload_n 2, 1) := by decide +kernel
theorem dX4_blockOf_6 : decode cX4_blockOf 6 = .ok (.iconst 1, 1) := by decide +kernel
theorem dX4_blockOf_60 : decode cX4_blockOf 60 = .ok (.ireturn, 1) := by decide +kernel
theorem dX4_blockOf_7 : decode cX4_blockOf 7 = .ok (.isub, 1) := by decide +kernel
theorem dX4_blockOf_8 : decode cX4_blockOf 8 = .ok (.istore_n 3, 1) := by decide +kernel
theorem dX4_blockOf_9 : decode cX4_blockOf 9 = .ok (.iconst 0, 1) := by decide +kernel
theorem dX4_digitOf_0 : decode cX4_digitOf 0 = .ok (.aload_n 0, 1) := by decide +kernel
theorem dX4_digitOf_1 : decode cX4_digitOf 1 = .ok (.getfield 11, 3) := by decide +kernel
theorem dX4_digitOf_11 : decode cX4_digitOf 11 = .ok (.getfield 47, 3) := by decide +kernel
theorem dX4_digitOf_14 : decode cX4_digitOf 14 = .ok (.iconst 1, 1) := by decide +kernel
theorem dX4_digitOf_15 : decode cX4_digitOf 15 = .ok (.isub, 1) := by decide +kernel
theorem dX4_digitOf_16 : decode cX4_digitOf 16 = .ok (.istore 4, 2) := by decide +kernel
theorem dX4_digitOf_18 : decode cX4_digitOf 18 = .ok (.iload 4, 2) := by decide +kernel
theorem dX4_digitOf_20 : decode cX4_digitOf 20 = .ok (.iload_n 2, 1) := by decide +kernel
theorem dX4_digitOf_21 : decode cX4_digitOf 21 = .ok (.if_icmp .le 14, 3) := by decide +kernel
theorem dX4_digitOf_24 : decode cX4_digitOf 24 = .ok (.iload_n 3, 1) := by decide +kernel
theorem dX4_digitOf_25 : decode cX4_digitOf 25 = .ok (.bipush 21, 2) := by decide +kernel
theorem dX4_digitOf_27 : decode cX4_digitOf 27 = .ok (.idiv, 1) := by decide +kernel
theorem dX4_digitOf_28 : decode cX4_digitOf 28 = .ok (.istore_n 3, 1) := by decide +kernel
theorem dX4_digitOf_29 : decode cX4_digitOf 29 = .ok (.iinc 4 (-1), 3) := by decide +kernel
theorem dX4_digitOf_32 : decode cX4_digitOf 32 = .ok (.goto (-14), 3) := by decide +kernel
theorem dX4_digitOf_35 : decode cX4_digitOf 35 = .ok (.iload_n 3, 1) := by decide +kernel
theorem dX4_digitOf_36 : decode cX4_digitOf 36 = .ok (.bipush 21, 2) := by decide +kernel
theorem dX4_digitOf_38 : decode cX4_digitOf 38 = .ok (.irem, 1) := by decide +kernel
theorem dX4_digitOf_39 : decode cX4_digitOf 39 = .ok (.bipush 10, 2) := by decide +kernel
theorem dX4_digitOf_4 : decode cX4_digitOf 4 = .ok (.iload_n 1, 1) := by decide +kernel
theorem dX4_digitOf_41 : decode cX4_digitOf 41 = .ok (.isub, 1) := by decide +kernel
theorem dX4_digitOf_42 : decode cX4_digitOf 42 = .ok (.ireturn, 1) := by decide +kernel
theorem dX4_digitOf_5 : decode cX4_digitOf 5 = .ok (.iaload, 1) := by decide +kernel
theorem dX4_digitOf_6 : decode cX4_digitOf 6 = .ok (.istore_n 3, 1) := by decide +kernel
theorem dX4_digitOf_7 : decode cX4_digitOf 7 = .ok (.aload_n 0, 1) := by decide +kernel
theorem dX4_digitOf_8 : decode cX4_digitOf 8 = .ok (.getfield 39, 3) := by decide +kernel
theorem dX4_findSums_0 : decode cX4_findSums 0 = .ok (.iconst 0, 1) := by decide +kernel
theorem dX4_findSums_1 : decode cX4_findSums 1 = .ok (.istore_n 1, 1) := by decide +kernel
theorem dX4_findSums_10 : decode cX4_findSums 10 = .ok (.if_icmp .ge 171, 3) := by decide +kernel
theorem dX4_findSums_100 : decode cX4_findSums 100 = .ok (.getfield 122, 3) := by decide +kernel
theorem dX4_findSums_103 : decode cX4_findSums 103 = .ok (.iload_n 1, 1) := by decide +kernel
theorem dX4_findSums_104 : decode cX4_findSums 104 = .ok (.aaload, 1) := by decide +kernel
theorem dX4_findSums_105 : decode cX4_findSums 105 = .ok (.iload_n 2, 1) := by decide +kernel
theorem dX4_findSums_106 : decode cX4_findSums 106 = .ok (.iaload, 1) := by decide +kernel
theorem dX4_findSums_107 : decode cX4_findSums 107 = .ok (.aload_n 0, 1) := by decide +kernel
theorem dX4_findSums_108 : decode cX4_findSums 108 = .ok (.getfield 39, 3) := by decide +kernel
theorem dX4_findSums_111 : decode cX4_findSums 111 = .ok (.getfield 59, 3) := by decide +kernel
theorem dX4_findSums_114 : decode cX4_findSums 114 = .ok (.iload_n 2, 1) := by decide +kernel
theorem dX4_findSums_115 : decode cX4_findSums 115 = .ok (.iaload, 1) := by decide +kernel
theorem dX4_findSums_116 : decode cX4_findSums 116 = .ok (.imul, 1) := by decide +kernel
theorem dX4_findSums_117 : decode cX4_findSums 117 = .ok (.istore 4, 2) := by decide +kernel
theorem dX4_findSums_119 : decode cX4_findSums 119 = .ok (.aload_n 0, 1) := by decide +kernel
theorem dX4_findSums_120 : decode cX4_findSums 120 = .ok (.getfield 29, 3) := by decide +kernel
theorem dX4_findSums_123 : decode cX4_findSums 123 = .ok (.iload_n 2, 1) := by decide +kernel
theorem dX4_findSums_124 : decode cX4_findSums 124 = .ok (.aaload, 1) := by decide +kernel
theorem dX4_findSums_125 : decode cX4_findSums 125 = .ok (.iload_n 1, 1) := by decide +kernel
theorem dX4_findSums_126 : decode cX4_findSums 126 = .ok (.aload_n 0, 1) := by decide +kernel
theorem dX4_findSums_127 : decode cX4_findSums 127 = .ok (.getfield 29, 3) := by decide +kernel
theorem dX4_findSums_13 : decode cX4_findSums 13 = .ok (.aload_n 0, 1) := by decide +kernel
theorem dX4_findSums_130 : decode cX4_findSums 130 = .ok (.iload_n 2, 1) := by decide +kernel
theorem dX4_findSums_131 : decode cX4_findSums 131 = .ok (.iconst 1, 1) := by decide +kernel
theorem dX4_findSums_132 : decode cX4_findSums 132 = .ok (.iadd, 1) := by decide +kernel
theorem dX4_findSums_133 : decode cX4_findSums 133 = .ok (.aaload, 1) := by decide +kernel
theorem dX4_findSums_134 : decode cX4_findSums 134 = .ok (.iload_n 1, 1) := by decide +kernel
theorem dX4_findSums_135 : decode cX4_findSums 135 = .ok (.iaload, 1) := by decide +kernel
theorem dX4_findSums_136 : decode cX4_findSums 136 = .ok (.iload_n 3, 1) := by decide +kernel
theorem dX4_findSums_137 : decode cX4_findSums 137 = .ok (.iload 4, 2) := by decide +kernel
theorem dX4_findSums_139 : decode cX4_findSums 139 = .ok (.invokestatic 96, 3) := by decide +kernel
theorem dX4_findSums_14 : decode cX4_findSums 14 = .ok (.getfield 26, 3) := by decide +kernel
theorem dX4_findSums_142 : decode cX4_findSums 142 = .ok (.iadd, 1) := by decide +kernel
theorem dX4_findSums_143 : decode cX4_findSums 143 = .ok (.iastore, 1) := by decide +kernel
theorem dX4_findSums_144 : decode cX4_findSums 144 = .ok (.aload_n 0, 1) := by decide +kernel
theorem dX4_findSums_145 : decode cX4_findSums 145 = .ok (.getfield 32, 3) := by decide +kernel
theorem dX4_findSums_148 : decode cX4_findSums 148 = .ok (.iload_n 2, 1) := by decide +kernel
theorem dX4_findSums_149 : decode cX4_findSums 149 = .ok (.aaload, 1) := by decide +kernel
theorem dX4_findSums_150 : decode cX4_findSums 150 = .ok (.iload_n 1, 1) := by decide +kernel
theorem dX4_findSums_151 : decode cX4_findSums 151 = .ok (.aload_n 0, 1) := by decide +kernel
theorem dX4_findSums_152 : decode cX4_findSums 152 = .ok (.getfield 32, 3) := by decide +kernel
theorem dX4_findSums_155 : decode cX4_findSums 155 = .ok (.iload_n 2, 1) := by decide +kernel
theorem dX4_findSums_156 : decode cX4_findSums 156 = .ok (.iconst 1, 1) := by decide +kernel
theorem dX4_findSums_157 : decode cX4_findSums 157 = .ok (.iadd, 1) := by decide +kernel
theorem dX4_findSums_158 : decode cX4_findSums 158 = .ok (.aaload, 1) := by decide +kernel
theorem dX4_findSums_159 : decode cX4_findSums 159 = .ok (.iload_n 1, 1) := by decide +kernel
theorem dX4_findSums_160 : decode cX4_findSums 160 = .ok (.iaload, 1) := by decide +kernel
theorem dX4_findSums_161 : decode cX4_findSums 161 = .ok (.iload_n 3, 1) := by decide +kernel
theorem dX4_findSums_162 : decode cX4_findSums 162 = .ok (.iload 4, 2) := by decide +kernel
theorem dX4_findSums_164 : decode cX4_findSums 164 = .ok (.invokestatic 65, 3) := by decide +kernel
theorem dX4_findSums_167 : decode cX4_findSums 167 = .ok (.iadd, 1) := by decide +kernel
theorem dX4_findSums_168 : decode cX4_findSums 168 = .ok (.iastore, 1) := by decide +kernel
theorem dX4_findSums_169 : decode cX4_findSums 169 = .ok (.iinc 2 (-1), 3) := by decide +kernel
theorem dX4_findSums_17 : decode cX4_findSums 17 = .ok (.iconst 0, 1) := by decide +kernel
theorem dX4_findSums_172 : decode cX4_findSums 172 = .ok (.goto (-102), 3) := by decide +kernel
theorem dX4_findSums_175 : decode cX4_findSums 175 = .ok (.iinc 1 1, 3) := by decide +kernel
theorem dX4_findSums_178 : decode cX4_findSums 178 = .ok (.goto (-176), 3) := by decide +kernel
theorem dX4_findSums_18 : decode cX4_findSums 18 = .ok (.aaload, 1) := by decide +kernel
theorem dX4_findSums_181 : decode cX4_findSums 181 = .ok (.return_, 1) := by decide +kernel
theorem dX4_findSums_19 : decode cX4_findSums 19 = .ok (.iload_n 1, 1) := by decide +kernel
theorem dX4_findSums_2 : decode cX4_findSums 2 = .ok (.iload_n 1, 1) := by decide +kernel
theorem dX4_findSums_20 : decode cX4_findSums 20 = .ok (.aload_n 0, 1) := by decide +kernel
theorem dX4_findSums_21 : decode cX4_findSums 21 = .ok (.getfield 39, 3) := by decide +kernel
theorem dX4_findSums_24 : decode cX4_findSums 24 = .ok (.getfield 119, 3) := by decide +kernel
theorem dX4_findSums_27 : decode cX4_findSums 27 = .ok (.iload_n 1, 1) := by decide +kernel
theorem dX4_findSums_28 : decode cX4_findSums 28 = .ok (.iaload, 1) := by decide +kernel
theorem dX4_findSums_29 : decode cX4_findSums 29 = .ok (.iastore, 1) := by decide +kernel
theorem dX4_findSums_3 : decode cX4_findSums 3 = .ok (.aload_n 0, 1) := by decide +kernel
theorem dX4_findSums_30 : decode cX4_findSums 30 = .ok (.aload_n 0, 1) := by decide +kernel
theorem dX4_findSums_31 : decode cX4_findSums 31 = .ok (.getfield 29, 3) := by decide +kernel
theorem dX4_findSums_34 : decode cX4_findSums 34 = .ok (.aload_n 0, 1) := by decide +kernel
theorem dX4_findSums_35 : decode cX4_findSums 35 = .ok (.getfield 39, 3) := by decide +kernel
theorem dX4_findSums_38 : decode cX4_findSums 38 = .ok (.getfield 47, 3) := by decide +kernel
theorem dX4_findSums_4 : decode cX4_findSums 4 = .ok (.getfield 39, 3) := by decide +kernel
theorem dX4_findSums_41 : decode cX4_findSums 41 = .ok (.aaload, 1) := by decide +kernel
theorem dX4_findSums_42 : decode cX4_findSums 42 = .ok (.iload_n 1, 1) := by decide +kernel
theorem dX4_findSums_43 : decode cX4_findSums 43 = .ok (.iconst 0, 1) := by decide +kernel
theorem dX4_findSums_44 : decode cX4_findSums 44 = .ok (.iastore, 1) := by decide +kernel
theorem dX4_findSums_45 : decode cX4_findSums 45 = .ok (.aload_n 0, 1) := by decide +kernel
theorem dX4_findSums_46 : decode cX4_findSums 46 = .ok (.getfield 32, 3) := by decide +kernel
theorem dX4_findSums_49 : decode cX4_findSums 49 = .ok (.aload_n 0, 1) := by decide +kernel
theorem dX4_findSums_50 : decode cX4_findSums 50 = .ok (.getfield 39, 3) := by decide +kernel
theorem dX4_findSums_53 : decode cX4_findSums 53 = .ok (.getfield 47, 3) := by decide +kernel
theorem dX4_findSums_56 : decode cX4_findSums 56 = .ok (.aaload, 1) := by decide +kernel
theorem dX4_findSums_57 : decode cX4_findSums 57 = .ok (.iload_n 1, 1) := by decide +kernel
theorem dX4_findSums_58 : decode cX4_findSums 58 = .ok (.iconst 0, 1) := by decide +kernel
theorem dX4_findSums_59 : decode cX4_findSums 59 = .ok (.iastore, 1) := by decide +kernel
theorem dX4_findSums_60 : decode cX4_findSums 60 = .ok (.aload_n 0, 1) := by decide +kernel
theorem dX4_findSums_61 : decode cX4_findSums 61 = .ok (.getfield 39, 3) := by decide +kernel
theorem dX4_findSums_64 : decode cX4_findSums 64 = .ok (.getfield 47, 3) := by decide +kernel
theorem dX4_findSums_67 : decode cX4_findSums 67 = .ok (.iconst 1, 1) := by decide +kernel
theorem dX4_findSums_68 : decode cX4_findSums 68 = .ok (.isub, 1) := by decide +kernel
theorem dX4_findSums_69 : decode cX4_findSums 69 = .ok (.istore_n 2, 1) := by decide +kernel
theorem dX4_findSums_7 : decode cX4_findSums 7 = .ok (.getfield 116, 3) := by decide +kernel
theorem dX4_findSums_70 : decode cX4_findSums 70 = .ok (.iload_n 2, 1) := by decide +kernel
theorem dX4_findSums_71 : decode cX4_findSums 71 = .ok (.ifCond .lt 104, 3) := by decide +kernel
theorem dX4_findSums_74 : decode cX4_findSums 74 = .ok (.aload_n 0, 1) := by decide +kernel
theorem dX4_findSums_75 : decode cX4_findSums 75 = .ok (.getfield 39, 3) := by decide +kernel
theorem dX4_findSums_78 : decode cX4_findSums 78 = .ok (.getfield 122, 3) := by decide +kernel
theorem dX4_findSums_81 : decode cX4_findSums 81 = .ok (.iload_n 1, 1) := by decide +kernel
theorem dX4_findSums_82 : decode cX4_findSums 82 = .ok (.aaload, 1) := by decide +kernel
theorem dX4_findSums_83 : decode cX4_findSums 83 = .ok (.iload_n 2, 1) := by decide +kernel
theorem dX4_findSums_84 : decode cX4_findSums 84 = .ok (.iaload, 1) := by decide +kernel
theorem dX4_findSums_85 : decode cX4_findSums 85 = .ok (.aload_n 0, 1) := by decide +kernel
theorem dX4_findSums_86 : decode cX4_findSums 86 = .ok (.getfield 39, 3) := by decide +kernel
theorem dX4_findSums_89 : decode cX4_findSums 89 = .ok (.getfield 62, 3) := by decide +kernel
theorem dX4_findSums_92 : decode cX4_findSums 92 = .ok (.iload_n 2, 1) := by decide +kernel
theorem dX4_findSums_93 : decode cX4_findSums 93 = .ok (.iaload, 1) := by decide +kernel
theorem dX4_findSums_94 : decode cX4_findSums 94 = .ok (.imul, 1) := by decide +kernel
theorem dX4_findSums_95 : decode cX4_findSums 95 = .ok (.istore_n 3, 1) := by decide +kernel
theorem dX4_findSums_96 : decode cX4_findSums 96 = .ok (.aload_n 0, 1) := by decide +kernel
theorem dX4_findSums_97 : decode cX4_findSums 97 = .ok (.getfield 39, 3) := by decide +kernel
theorem dX4_firstInBlock_0 : decode cX4_firstInBlock 0 = .ok (.aload_n 0, 1) := by decide +kernel
theorem dX4_firstInBlock_1 : decode cX4_firstInBlock 1 = .ok (.getfield 39, 3) := by decide +kernel
theorem dX4_firstInBlock_10 : decode cX4_firstInBlock 10 = .ok (.aload_n 0, 1) := by decide +kernel
theorem dX4_firstInBlock_11 : decode cX4_firstInBlock 11 = .ok (.iload_n 1, 1) := by decide +kernel
theorem dX4_firstInBlock_12 : decode cX4_firstInBlock 12 = .ok (.iload_n 3, 1) := by decide +kernel
theorem dX4_firstInBlock_13 : decode cX4_firstInBlock 13 = .ok (.invokevirtual 93, 3) := by decide +kernel
theorem dX4_firstInBlock_16 : decode cX4_firstInBlock 16 = .ok (.istore 4, 2) := by decide +kernel
theorem dX4_firstInBlock_18 : decode cX4_firstInBlock 18 = .ok (.iconst 0, 1) := by decide +kernel
theorem dX4_firstInBlock_19 : decode cX4_firstInBlock 19 = .ok (.istore 5, 2) := by decide +kernel
theorem dX4_firstInBlock_21 : decode cX4_firstInBlock 21 = .ok (.lconst 0, 1) := by decide +kernel
theorem dX4_firstInBlock_22 : decode cX4_firstInBlock 22 = .ok (.lstore 6, 2) := by decide +kernel
theorem dX4_firstInBlock_24 : decode cX4_firstInBlock 24 = .ok (.iconst 0, 1) := by decide +kernel
theorem dX4_firstInBlock_25 : decode cX4_firstInBlock 25 = .ok (.istore 8, 2) := by decide +kernel
theorem dX4_firstInBlock_27 : decode cX4_firstInBlock 27 = .ok (.iload 8, 2) := by decide +kernel
theorem dX4_firstInBlock_29 : decode cX4_firstInBlock 29 = .ok (.aload_n 0, 1) := by decide +kernel
theorem dX4_firstInBlock_30 : decode cX4_firstInBlock 30 = .ok (.getfield 71, 3) := by decide +kernel
theorem dX4_firstInBlock_33 : decode cX4_firstInBlock 33 = .ok (.if_icmp .ge 48, 3) := by decide +kernel
theorem dX4_firstInBlock_36 : decode cX4_firstInBlock 36 = .ok (.iload_n 2, 1) := by decide +kernel
theorem dX4_firstInBlock_37 : decode cX4_firstInBlock 37 = .ok (.i2l, 1) := by decide +kernel
theorem dX4_firstInBlock_38 : decode cX4_firstInBlock 38 = .ok (.aload_n 0, 1) := by decide +kernel
theorem dX4_firstInBlock_39 : decode cX4_firstInBlock 39 = .ok (.getfield 39, 3) := by decide +kernel
theorem dX4_firstInBlock_4 : decode cX4_firstInBlock 4 = .ok (.getfield 47, 3) := by decide +kernel
theorem dX4_firstInBlock_42 : decode cX4_firstInBlock 42 = .ok (.iload_n 3, 1) := by decide +kernel
theorem dX4_firstInBlock_43 : decode cX4_firstInBlock 43 = .ok (.iload 4, 2) := by decide +kernel
theorem dX4_firstInBlock_45 : decode cX4_firstInBlock 45 = .ok (.iload 8, 2) := by decide +kernel
theorem dX4_firstInBlock_47 : decode cX4_firstInBlock 47 = .ok (.iadd, 1) := by decide +kernel
theorem dX4_firstInBlock_48 : decode cX4_firstInBlock 48 = .ok (.invokevirtual 106, 3) := by decide +kernel
theorem dX4_firstInBlock_51 : decode cX4_firstInBlock 51 = .ok (.lmul, 1) := by decide +kernel
theorem dX4_firstInBlock_52 : decode cX4_firstInBlock 52 = .ok (.lstore 9, 2) := by decide +kernel
theorem dX4_firstInBlock_54 : decode cX4_firstInBlock 54 = .ok (.iload 8, 2) := by decide +kernel
theorem dX4_firstInBlock_56 : decode cX4_firstInBlock 56 = .ok (.ifCond .eq 11, 3) := by decide +kernel
theorem dX4_firstInBlock_59 : decode cX4_firstInBlock 59 = .ok (.lload 9, 2) := by decide +kernel
theorem dX4_firstInBlock_61 : decode cX4_firstInBlock 61 = .ok (.lload 6, 2) := by decide +kernel
theorem dX4_firstInBlock_63 : decode cX4_firstInBlock 63 = .ok (.lcmp, 1) := by decide +kernel
theorem dX4_firstInBlock_64 : decode cX4_firstInBlock 64 = .ok (.ifCond .ge 11, 3) := by decide +kernel
theorem dX4_firstInBlock_67 : decode cX4_firstInBlock 67 = .ok (.iload 8, 2) := by decide +kernel
theorem dX4_firstInBlock_69 : decode cX4_firstInBlock 69 = .ok (.istore 5, 2) := by decide +kernel
theorem dX4_firstInBlock_7 : decode cX4_firstInBlock 7 = .ok (.iconst 1, 1) := by decide +kernel
theorem dX4_firstInBlock_71 : decode cX4_firstInBlock 71 = .ok (.lload 9, 2) := by decide +kernel
theorem dX4_firstInBlock_73 : decode cX4_firstInBlock 73 = .ok (.lstore 6, 2) := by decide +kernel
theorem dX4_firstInBlock_75 : decode cX4_firstInBlock 75 = .ok (.iinc 8 1, 3) := by decide +kernel
theorem dX4_firstInBlock_78 : decode cX4_firstInBlock 78 = .ok (.goto (-51), 3) := by decide +kernel
theorem dX4_firstInBlock_8 : decode cX4_firstInBlock 8 = .ok (.isub, 1) := by decide +kernel
theorem dX4_firstInBlock_81 : decode cX4_firstInBlock 81 = .ok (.iload 5, 2) := by decide +kernel
theorem dX4_firstInBlock_83 : decode cX4_firstInBlock 83 = .ok (.ireturn, 1) := by decide +kernel
theorem dX4_firstInBlock_9 : decode cX4_firstInBlock 9 = .ok (.istore_n 3, 1) := by decide +kernel
theorem dX4_firstOfCost_0 : decode cX4_firstOfCost 0 = .ok (.iconst 0, 1) := by decide +kernel
theorem dX4_firstOfCost_1 : decode cX4_firstOfCost 1 = .ok (.istore_n 2, 1) := by decide +kernel
theorem dX4_firstOfCost_10 : decode cX4_firstOfCost 10 = .ok (.getfield 43, 3) := by decide +kernel
theorem dX4_firstOfCost_13 : decode cX4_firstOfCost 13 = .ok (.if_icmp .ge 53, 3) := by decide +kernel
theorem dX4_firstOfCost_16 : decode cX4_firstOfCost 16 = .ok (.aload_n 0, 1) := by decide +kernel
theorem dX4_firstOfCost_17 : decode cX4_firstOfCost 17 = .ok (.iload 5, 2) := by decide +kernel
theorem dX4_firstOfCost_19 : decode cX4_firstOfCost 19 = .ok (.aload_n 0, 1) := by decide +kernel
theorem dX4_firstOfCost_2 : decode cX4_firstOfCost 2 = .ok (.lconst 0, 1) := by decide +kernel
theorem dX4_firstOfCost_20 : decode cX4_firstOfCost 20 = .ok (.getfield 15, 3) := by decide +kernel
theorem dX4_firstOfCost_23 : decode cX4_firstOfCost 23 = .ok (.invokevirtual 85, 3) := by decide +kernel
theorem dX4_firstOfCost_26 : decode cX4_firstOfCost 26 = .ok (.iload_n 1, 1) := by decide +kernel
theorem dX4_firstOfCost_27 : decode cX4_firstOfCost 27 = .ok (.i2l, 1) := by decide +kernel
theorem dX4_firstOfCost_28 : decode cX4_firstOfCost 28 = .ok (.aload_n 0, 1) := by decide +kernel
theorem dX4_firstOfCost_29 : decode cX4_firstOfCost 29 = .ok (.getfield 39, 3) := by decide +kernel
theorem dX4_firstOfCost_3 : decode cX4_firstOfCost 3 = .ok (.lstore_n 3, 1) := by decide +kernel
theorem dX4_firstOfCost_32 : decode cX4_firstOfCost 32 = .ok (.aload_n 0, 1) := by decide +kernel
theorem dX4_firstOfCost_33 : decode cX4_firstOfCost 33 = .ok (.getfield 15, 3) := by decide +kernel
theorem dX4_firstOfCost_36 : decode cX4_firstOfCost 36 = .ok (.invokevirtual 99, 3) := by decide +kernel
theorem dX4_firstOfCost_39 : decode cX4_firstOfCost 39 = .ok (.lmul, 1) := by decide +kernel
theorem dX4_firstOfCost_4 : decode cX4_firstOfCost 4 = .ok (.iconst 0, 1) := by decide +kernel
theorem dX4_firstOfCost_40 : decode cX4_firstOfCost 40 = .ok (.lstore 6, 2) := by decide +kernel
theorem dX4_firstOfCost_42 : decode cX4_firstOfCost 42 = .ok (.iload 5, 2) := by decide +kernel
theorem dX4_firstOfCost_44 : decode cX4_firstOfCost 44 = .ok (.ifCond .eq 10, 3) := by decide +kernel
theorem dX4_firstOfCost_47 : decode cX4_firstOfCost 47 = .ok (.lload 6, 2) := by decide +kernel
theorem dX4_firstOfCost_49 : decode cX4_firstOfCost 49 = .ok (.lload_n 3, 1) := by decide +kernel
theorem dX4_firstOfCost_5 : decode cX4_firstOfCost 5 = .ok (.istore 5, 2) := by decide +kernel
theorem dX4_firstOfCost_50 : decode cX4_firstOfCost 50 = .ok (.lcmp, 1) := by decide +kernel
theorem dX4_firstOfCost_51 : decode cX4_firstOfCost 51 = .ok (.ifCond .ge 9, 3) := by decide +kernel
theorem dX4_firstOfCost_54 : decode cX4_firstOfCost 54 = .ok (.iload 5, 2) := by decide +kernel
theorem dX4_firstOfCost_56 : decode cX4_firstOfCost 56 = .ok (.istore_n 2, 1) := by decide +kernel
theorem dX4_firstOfCost_57 : decode cX4_firstOfCost 57 = .ok (.lload 6, 2) := by decide +kernel
theorem dX4_firstOfCost_59 : decode cX4_firstOfCost 59 = .ok (.lstore_n 3, 1) := by decide +kernel
theorem dX4_firstOfCost_60 : decode cX4_firstOfCost 60 = .ok (.iinc 5 1, 3) := by decide +kernel
theorem dX4_firstOfCost_63 : decode cX4_firstOfCost 63 = .ok (.goto (-56), 3) := by decide +kernel
theorem dX4_firstOfCost_66 : decode cX4_firstOfCost 66 = .ok (.iload_n 2, 1) := by decide +kernel
theorem dX4_firstOfCost_67 : decode cX4_firstOfCost 67 = .ok (.aload_n 0, 1) := by decide +kernel
theorem dX4_firstOfCost_68 : decode cX4_firstOfCost 68 = .ok (.getfield 71, 3) := by decide +kernel
theorem dX4_firstOfCost_7 : decode cX4_firstOfCost 7 = .ok (.iload 5, 2) := by decide +kernel
theorem dX4_firstOfCost_71 : decode cX4_firstOfCost 71 = .ok (.imul, 1) := by decide +kernel
theorem dX4_firstOfCost_72 : decode cX4_firstOfCost 72 = .ok (.aload_n 0, 1) := by decide +kernel
theorem dX4_firstOfCost_73 : decode cX4_firstOfCost 73 = .ok (.iload_n 2, 1) := by decide +kernel
theorem dX4_firstOfCost_74 : decode cX4_firstOfCost 74 = .ok (.iload_n 1, 1) := by decide +kernel
theorem dX4_firstOfCost_75 : decode cX4_firstOfCost 75 = .ok (.invokevirtual 103, 3) := by decide +kernel
theorem dX4_firstOfCost_78 : decode cX4_firstOfCost 78 = .ok (.iadd, 1) := by decide +kernel
theorem dX4_firstOfCost_79 : decode cX4_firstOfCost 79 = .ok (.ireturn, 1) := by decide +kernel
theorem dX4_firstOfCost_9 : decode cX4_firstOfCost 9 = .ok (.aload_n 0, 1) := by decide +kernel
theorem dX4_greatestOf_0 : decode cX4_greatestOf 0 = .ok (.bipush (-10), 2) := by decide +kernel
theorem dX4_greatestOf_10 : decode cX4_greatestOf 10 = .ok (.if_icmp .ge 20, 3) := by decide +kernel
theorem dX4_greatestOf_13 : decode cX4_greatestOf 13 = .ok (.iload_n 2, 1) := by decide +kernel
theorem dX4_greatestOf_14 : decode cX4_greatestOf 14 = .ok (.aload_n 0, 1) := by decide +kernel
theorem dX4_greatestOf_15 : decode cX4_greatestOf 15 = .ok (.iload_n 3, 1) := by decide +kernel
theorem dX4_greatestOf_16 : decode cX4_greatestOf 16 = .ok (.iload_n 1, 1) := by decide +kernel
theorem dX4_greatestOf_17 : decode cX4_greatestOf 17 = .ok (.invokevirtual 93, 3) := by decide +kernel
theorem dX4_greatestOf_2 : decode cX4_greatestOf 2 = .ok (.istore_n 2, 1) := by decide +kernel
theorem dX4_greatestOf_20 : decode cX4_greatestOf 20 = .ok (.invokestatic 65, 3) := by decide +kernel
theorem dX4_greatestOf_23 : decode cX4_greatestOf 23 = .ok (.istore_n 2, 1) := by decide +kernel
theorem dX4_greatestOf_24 : decode cX4_greatestOf 24 = .ok (.iinc 3 1, 3) := by decide +kernel
theorem dX4_greatestOf_27 : decode cX4_greatestOf 27 = .ok (.goto (-22), 3) := by decide +kernel
theorem dX4_greatestOf_3 : decode cX4_greatestOf 3 = .ok (.iconst 0, 1) := by decide +kernel
theorem dX4_greatestOf_30 : decode cX4_greatestOf 30 = .ok (.iload_n 1, 1) := by decide +kernel
theorem dX4_greatestOf_31 : decode cX4_greatestOf 31 = .ok (.aload_n 0, 1) := by decide +kernel
theorem dX4_greatestOf_32 : decode cX4_greatestOf 32 = .ok (.getfield 39, 3) := by decide +kernel
theorem dX4_greatestOf_35 : decode cX4_greatestOf 35 = .ok (.getfield 47, 3) := by decide +kernel
theorem dX4_greatestOf_38 : decode cX4_greatestOf 38 = .ok (.iconst 1, 1) := by decide +kernel
theorem dX4_greatestOf_39 : decode cX4_greatestOf 39 = .ok (.isub, 1) := by decide +kernel
theorem dX4_greatestOf_4 : decode cX4_greatestOf 4 = .ok (.istore_n 3, 1) := by decide +kernel
theorem dX4_greatestOf_40 : decode cX4_greatestOf 40 = .ok (.if_icmp .ne 14, 3) := by decide +kernel
theorem dX4_greatestOf_43 : decode cX4_greatestOf 43 = .ok (.iload_n 2, 1) := by decide +kernel
theorem dX4_greatestOf_44 : decode cX4_greatestOf 44 = .ok (.aload_n 0, 1) := by decide +kernel
theorem dX4_greatestOf_45 : decode cX4_greatestOf 45 = .ok (.getfield 71, 3) := by decide +kernel
theorem dX4_greatestOf_48 : decode cX4_greatestOf 48 = .ok (.iadd, 1) := by decide +kernel
theorem dX4_greatestOf_49 : decode cX4_greatestOf 49 = .ok (.iconst 1, 1) := by decide +kernel
theorem dX4_greatestOf_5 : decode cX4_greatestOf 5 = .ok (.iload_n 3, 1) := by decide +kernel
theorem dX4_greatestOf_50 : decode cX4_greatestOf 50 = .ok (.isub, 1) := by decide +kernel
theorem dX4_greatestOf_51 : decode cX4_greatestOf 51 = .ok (.goto 4, 3) := by decide +kernel
theorem dX4_greatestOf_54 : decode cX4_greatestOf 54 = .ok (.iload_n 2, 1) := by decide +kernel
theorem dX4_greatestOf_55 : decode cX4_greatestOf 55 = .ok (.ireturn, 1) := by decide +kernel
theorem dX4_greatestOf_6 : decode cX4_greatestOf 6 = .ok (.aload_n 0, 1) := by decide +kernel
theorem dX4_greatestOf_7 : decode cX4_greatestOf 7 = .ok (.getfield 43, 3) := by decide +kernel
theorem dX4_isNumber_0 : decode cX4_isNumber 0 = .ok (.iload_n 1, 1) := by decide +kernel
theorem dX4_isNumber_1 : decode cX4_isNumber 1 = .ok (.ifCond .lt 15, 3) := by decide +kernel
theorem dX4_isNumber_12 : decode cX4_isNumber 12 = .ok (.iconst 1, 1) := by decide +kernel
theorem dX4_isNumber_13 : decode cX4_isNumber 13 = .ok (.goto 4, 3) := by decide +kernel
theorem dX4_isNumber_16 : decode cX4_isNumber 16 = .ok (.iconst 0, 1) := by decide +kernel
theorem dX4_isNumber_17 : decode cX4_isNumber 17 = .ok (.ireturn, 1) := by decide +kernel
theorem dX4_isNumber_4 : decode cX4_isNumber 4 = .ok (.iload_n 1, 1) := by decide +kernel
theorem dX4_isNumber_5 : decode cX4_isNumber 5 = .ok (.aload_n 0, 1) := by decide +kernel
theorem dX4_isNumber_6 : decode cX4_isNumber 6 = .ok (.invokevirtual 81, 3) := by decide +kernel
theorem dX4_isNumber_9 : decode cX4_isNumber 9 = .ok (.if_icmp .ge 7, 3) := by decide +kernel
theorem dX4_leastOf_0 : decode cX4_leastOf 0 = .ok (.bipush 10, 2) := by decide +kernel
theorem dX4_leastOf_10 : decode cX4_leastOf 10 = .ok (.if_icmp .ge 20, 3) := by decide +kernel
theorem dX4_leastOf_13 : decode cX4_leastOf 13 = .ok (.iload_n 2, 1) := by decide +kernel
theorem dX4_leastOf_14 : decode cX4_leastOf 14 = .ok (.aload_n 0, 1) := by decide +kernel
theorem dX4_leastOf_15 : decode cX4_leastOf 15 = .ok (.iload_n 3, 1) := by decide +kernel
theorem dX4_leastOf_16 : decode cX4_leastOf 16 = .ok (.iload_n 1, 1) := by decide +kernel
theorem dX4_leastOf_17 : decode cX4_leastOf 17 = .ok (.invokevirtual 93, 3) := by decide +kernel
theorem dX4_leastOf_2 : decode cX4_leastOf 2 = .ok (.istore_n 2, 1) := by decide +kernel
theorem dX4_leastOf_20 : decode cX4_leastOf 20 = .ok (.invokestatic 96, 3) := by decide +kernel
theorem dX4_leastOf_23 : decode cX4_leastOf 23 = .ok (.istore_n 2, 1) := by decide +kernel
theorem dX4_leastOf_24 : decode cX4_leastOf 24 = .ok (.iinc 3 1, 3) := by decide +kernel
theorem dX4_leastOf_27 : decode cX4_leastOf 27 = .ok (.goto (-22), 3) := by decide +kernel
theorem dX4_leastOf_3 : decode cX4_leastOf 3 = .ok (.iconst 0, 1) := by decide +kernel
theorem dX4_leastOf_30 : decode cX4_leastOf 30 = .ok (.iload_n 2, 1) := by decide +kernel
theorem dX4_leastOf_31 : decode cX4_leastOf 31 = .ok (.ireturn, 1) := by decide +kernel
theorem dX4_leastOf_4 : decode cX4_leastOf 4 = .ok (.istore_n 3, 1) := by decide +kernel
theorem dX4_leastOf_5 : decode cX4_leastOf 5 = .ok (.iload_n 3, 1) := by decide +kernel
theorem dX4_leastOf_6 : decode cX4_leastOf 6 = .ok (.aload_n 0, 1) := by decide +kernel
theorem dX4_leastOf_7 : decode cX4_leastOf 7 = .ok (.getfield 43, 3) := by decide +kernel
theorem dX4_narrow_0 : decode cX4_narrow 0 = .ok (.aload_n 0, 1) := by decide +kernel
theorem dX4_narrow_1 : decode cX4_narrow 1 = .ok (.getfield 39, 3) := by decide +kernel
theorem dX4_narrow_10 : decode cX4_narrow 10 = .ok (.iaload, 1) := by decide +kernel
theorem dX4_narrow_101 : decode cX4_narrow 101 = .ok (.iastore, 1) := by decide +kernel
theorem dX4_narrow_102 : decode cX4_narrow 102 = .ok (.goto 78, 3) := by decide +kernel
theorem dX4_narrow_105 : decode cX4_narrow 105 = .ok (.iload_n 3, 1) := by decide +kernel
theorem dX4_narrow_106 : decode cX4_narrow 106 = .ok (.ifCond .ge 50, 3) := by decide +kernel
theorem dX4_narrow_109 : decode cX4_narrow 109 = .ok (.aload_n 0, 1) := by decide +kernel
theorem dX4_narrow_11 : decode cX4_narrow 11 = .ok (.istore_n 3, 1) := by decide +kernel
theorem dX4_narrow_110 : decode cX4_narrow 110 = .ok (.getfield 18, 3) := by decide +kernel
theorem dX4_narrow_113 : decode cX4_narrow 113 = .ok (.iload_n 1, 1) := by decide +kernel
theorem dX4_narrow_114 : decode cX4_narrow 114 = .ok (.aload_n 0, 1) := by decide +kernel
theorem dX4_narrow_115 : decode cX4_narrow 115 = .ok (.getfield 18, 3) := by decide +kernel
theorem dX4_narrow_118 : decode cX4_narrow 118 = .ok (.iload_n 1, 1) := by decide +kernel
theorem dX4_narrow_119 : decode cX4_narrow 119 = .ok (.iaload, 1) := by decide +kernel
theorem dX4_narrow_12 : decode cX4_narrow 12 = .ok (.aload_n 0, 1) := by decide +kernel
theorem dX4_narrow_120 : decode cX4_narrow 120 = .ok (.iload 5, 2) := by decide +kernel
theorem dX4_narrow_122 : decode cX4_narrow 122 = .ok (.ineg, 1) := by decide +kernel
theorem dX4_narrow_123 : decode cX4_narrow 123 = .ok (.iload_n 3, 1) := by decide +kernel
theorem dX4_narrow_124 : decode cX4_narrow 124 = .ok (.invokestatic 135, 3) := by decide +kernel
theorem dX4_narrow_127 : decode cX4_narrow 127 = .ok (.ineg, 1) := by decide +kernel
theorem dX4_narrow_128 : decode cX4_narrow 128 = .ok (.invokestatic 65, 3) := by decide +kernel
theorem dX4_narrow_13 : decode cX4_narrow 13 = .ok (.getfield 26, 3) := by decide +kernel
theorem dX4_narrow_131 : decode cX4_narrow 131 = .ok (.iastore, 1) := by decide +kernel
theorem dX4_narrow_132 : decode cX4_narrow 132 = .ok (.aload_n 0, 1) := by decide +kernel
theorem dX4_narrow_133 : decode cX4_narrow 133 = .ok (.getfield 21, 3) := by decide +kernel
theorem dX4_narrow_136 : decode cX4_narrow 136 = .ok (.iload_n 1, 1) := by decide +kernel
theorem dX4_narrow_137 : decode cX4_narrow 137 = .ok (.aload_n 0, 1) := by decide +kernel
theorem dX4_narrow_138 : decode cX4_narrow 138 = .ok (.getfield 21, 3) := by decide +kernel
theorem dX4_narrow_141 : decode cX4_narrow 141 = .ok (.iload_n 1, 1) := by decide +kernel
theorem dX4_narrow_142 : decode cX4_narrow 142 = .ok (.iaload, 1) := by decide +kernel
theorem dX4_narrow_143 : decode cX4_narrow 143 = .ok (.iload 4, 2) := by decide +kernel
theorem dX4_narrow_145 : decode cX4_narrow 145 = .ok (.iload_n 3, 1) := by decide +kernel
theorem dX4_narrow_146 : decode cX4_narrow 146 = .ok (.invokestatic 135, 3) := by decide +kernel
theorem dX4_narrow_149 : decode cX4_narrow 149 = .ok (.invokestatic 96, 3) := by decide +kernel
theorem dX4_narrow_152 : decode cX4_narrow 152 = .ok (.iastore, 1) := by decide +kernel
theorem dX4_narrow_153 : decode cX4_narrow 153 = .ok (.goto 27, 3) := by decide +kernel
theorem dX4_narrow_156 : decode cX4_narrow 156 = .ok (.iload 4, 2) := by decide +kernel
theorem dX4_narrow_158 : decode cX4_narrow 158 = .ok (.ifCond .gt 8, 3) := by decide +kernel
theorem dX4_narrow_16 : decode cX4_narrow 16 = .ok (.iload_n 1, 1) := by decide +kernel
theorem dX4_narrow_161 : decode cX4_narrow 161 = .ok (.iload 5, 2) := by decide +kernel
theorem dX4_narrow_163 : decode cX4_narrow 163 = .ok (.ifCond .ge 17, 3) := by decide +kernel
theorem dX4_narrow_166 : decode cX4_narrow 166 = .ok (.aload_n 0, 1) := by decide +kernel
theorem dX4_narrow_167 : decode cX4_narrow 167 = .ok (.getfield 21, 3) := by decide +kernel
theorem dX4_narrow_17 : decode cX4_narrow 17 = .ok (.aaload, 1) := by decide +kernel
theorem dX4_narrow_170 : decode cX4_narrow 170 = .ok (.iload_n 1, 1) := by decide +kernel
theorem dX4_narrow_171 : decode cX4_narrow 171 = .ok (.aload_n 0, 1) := by decide +kernel
theorem dX4_narrow_172 : decode cX4_narrow 172 = .ok (.getfield 18, 3) := by decide +kernel
theorem dX4_narrow_175 : decode cX4_narrow 175 = .ok (.iload_n 1, 1) := by decide +kernel
theorem dX4_narrow_176 : decode cX4_narrow 176 = .ok (.iaload, 1) := by decide +kernel
theorem dX4_narrow_177 : decode cX4_narrow 177 = .ok (.iconst 1, 1) := by decide +kernel
theorem dX4_narrow_178 : decode cX4_narrow 178 = .ok (.isub, 1) := by decide +kernel
theorem dX4_narrow_179 : decode cX4_narrow 179 = .ok (.iastore, 1) := by decide +kernel
theorem dX4_narrow_18 : decode cX4_narrow 18 = .ok (.iload_n 2, 1) := by decide +kernel
theorem dX4_narrow_180 : decode cX4_narrow 180 = .ok (.return_, 1) := by decide +kernel
theorem dX4_narrow_19 : decode cX4_narrow 19 = .ok (.iaload, 1) := by decide +kernel
theorem dX4_narrow_20 : decode cX4_narrow 20 = .ok (.aload_n 0, 1) := by decide +kernel
theorem dX4_narrow_21 : decode cX4_narrow 21 = .ok (.getfield 32, 3) := by decide +kernel
theorem dX4_narrow_24 : decode cX4_narrow 24 = .ok (.iload_n 1, 1) := by decide +kernel
theorem dX4_narrow_25 : decode cX4_narrow 25 = .ok (.iconst 1, 1) := by decide +kernel
theorem dX4_narrow_26 : decode cX4_narrow 26 = .ok (.iadd, 1) := by decide +kernel
theorem dX4_narrow_27 : decode cX4_narrow 27 = .ok (.aaload, 1) := by decide +kernel
theorem dX4_narrow_28 : decode cX4_narrow 28 = .ok (.iload_n 2, 1) := by decide +kernel
theorem dX4_narrow_29 : decode cX4_narrow 29 = .ok (.iaload, 1) := by decide +kernel
theorem dX4_narrow_30 : decode cX4_narrow 30 = .ok (.isub, 1) := by decide +kernel
theorem dX4_narrow_31 : decode cX4_narrow 31 = .ok (.istore 4, 2) := by decide +kernel
theorem dX4_narrow_33 : decode cX4_narrow 33 = .ok (.aload_n 0, 1) := by decide +kernel
theorem dX4_narrow_34 : decode cX4_narrow 34 = .ok (.getfield 26, 3) := by decide +kernel
theorem dX4_narrow_37 : decode cX4_narrow 37 = .ok (.iload_n 1, 1) := by decide +kernel
theorem dX4_narrow_38 : decode cX4_narrow 38 = .ok (.aaload, 1) := by decide +kernel
theorem dX4_narrow_39 : decode cX4_narrow 39 = .ok (.iload_n 2, 1) := by decide +kernel
theorem dX4_narrow_4 : decode cX4_narrow 4 = .ok (.getfield 122, 3) := by decide +kernel
theorem dX4_narrow_40 : decode cX4_narrow 40 = .ok (.iaload, 1) := by decide +kernel
theorem dX4_narrow_41 : decode cX4_narrow 41 = .ok (.aload_n 0, 1) := by decide +kernel
theorem dX4_narrow_42 : decode cX4_narrow 42 = .ok (.getfield 29, 3) := by decide +kernel
theorem dX4_narrow_45 : decode cX4_narrow 45 = .ok (.iload_n 1, 1) := by decide +kernel
theorem dX4_narrow_46 : decode cX4_narrow 46 = .ok (.iconst 1, 1) := by decide +kernel
theorem dX4_narrow_47 : decode cX4_narrow 47 = .ok (.iadd, 1) := by decide +kernel
theorem dX4_narrow_48 : decode cX4_narrow 48 = .ok (.aaload, 1) := by decide +kernel
theorem dX4_narrow_49 : decode cX4_narrow 49 = .ok (.iload_n 2, 1) := by decide +kernel
theorem dX4_narrow_50 : decode cX4_narrow 50 = .ok (.iaload, 1) := by decide +kernel
theorem dX4_narrow_51 : decode cX4_narrow 51 = .ok (.isub, 1) := by decide +kernel
theorem dX4_narrow_52 : decode cX4_narrow 52 = .ok (.istore 5, 2) := by decide +kernel
theorem dX4_narrow_54 : decode cX4_narrow 54 = .ok (.iload_n 3, 1) := by decide +kernel
theorem dX4_narrow_55 : decode cX4_narrow 55 = .ok (.ifCond .le 50, 3) := by decide +kernel
theorem dX4_narrow_58 : decode cX4_narrow 58 = .ok (.aload_n 0, 1) := by decide +kernel
theorem dX4_narrow_59 : decode cX4_narrow 59 = .ok (.getfield 18, 3) := by decide +kernel
theorem dX4_narrow_62 : decode cX4_narrow 62 = .ok (.iload_n 1, 1) := by decide +kernel
theorem dX4_narrow_63 : decode cX4_narrow 63 = .ok (.aload_n 0, 1) := by decide +kernel
theorem dX4_narrow_64 : decode cX4_narrow 64 = .ok (.getfield 18, 3) := by decide +kernel
theorem dX4_narrow_67 : decode cX4_narrow 67 = .ok (.iload_n 1, 1) := by decide +kernel
theorem dX4_narrow_68 : decode cX4_narrow 68 = .ok (.iaload, 1) := by decide +kernel
theorem dX4_narrow_69 : decode cX4_narrow 69 = .ok (.iload 4, 2) := by decide +kernel
theorem dX4_narrow_7 : decode cX4_narrow 7 = .ok (.iload_n 2, 1) := by decide +kernel
theorem dX4_narrow_71 : decode cX4_narrow 71 = .ok (.ineg, 1) := by decide +kernel
theorem dX4_narrow_72 : decode cX4_narrow 72 = .ok (.iload_n 3, 1) := by decide +kernel
theorem dX4_narrow_73 : decode cX4_narrow 73 = .ok (.invokestatic 135, 3) := by decide +kernel
theorem dX4_narrow_76 : decode cX4_narrow 76 = .ok (.ineg, 1) := by decide +kernel
theorem dX4_narrow_77 : decode cX4_narrow 77 = .ok (.invokestatic 65, 3) := by decide +kernel
theorem dX4_narrow_8 : decode cX4_narrow 8 = .ok (.aaload, 1) := by decide +kernel
theorem dX4_narrow_80 : decode cX4_narrow 80 = .ok (.iastore, 1) := by decide +kernel
theorem dX4_narrow_81 : decode cX4_narrow 81 = .ok (.aload_n 0, 1) := by decide +kernel
theorem dX4_narrow_82 : decode cX4_narrow 82 = .ok (.getfield 21, 3) := by decide +kernel
theorem dX4_narrow_85 : decode cX4_narrow 85 = .ok (.iload_n 1, 1) := by decide +kernel
theorem dX4_narrow_86 : decode cX4_narrow 86 = .ok (.aload_n 0, 1) := by decide +kernel
theorem dX4_narrow_87 : decode cX4_narrow 87 = .ok (.getfield 21, 3) := by decide +kernel
theorem dX4_narrow_9 : decode cX4_narrow 9 = .ok (.iload_n 1, 1) := by decide +kernel
theorem dX4_narrow_90 : decode cX4_narrow 90 = .ok (.iload_n 1, 1) := by decide +kernel
theorem dX4_narrow_91 : decode cX4_narrow 91 = .ok (.iaload, 1) := by decide +kernel
theorem dX4_narrow_92 : decode cX4_narrow 92 = .ok (.iload 5, 2) := by decide +kernel
theorem dX4_narrow_94 : decode cX4_narrow 94 = .ok (.iload_n 3, 1) := by decide +kernel
theorem dX4_narrow_95 : decode cX4_narrow 95 = .ok (.invokestatic 135, 3) := by decide +kernel
theorem dX4_narrow_98 : decode cX4_narrow 98 = .ok (.invokestatic 96, 3) := by decide +kernel
theorem dX4_numberOf_0 : decode cX4_numberOf 0 = .ok (.aload_n 0, 1) := by decide +kernel
theorem dX4_numberOf_1 : decode cX4_numberOf 1 = .ok (.getfield 39, 3) := by decide +kernel
theorem dX4_numberOf_10 : decode cX4_numberOf 10 = .ok (.aload_n 0, 1) := by decide +kernel
theorem dX4_numberOf_11 : decode cX4_numberOf 11 = .ok (.getfield 56, 3) := by decide +kernel
theorem dX4_numberOf_14 : decode cX4_numberOf 14 = .ok (.ifCond .eq 19, 3) := by decide +kernel
theorem dX4_numberOf_17 : decode cX4_numberOf 17 = .ok (.aload_n 1, 1) := by decide +kernel
theorem dX4_numberOf_18 : decode cX4_numberOf 18 = .ok (.iload_n 2, 1) := by decide +kernel
theorem dX4_numberOf_19 : decode cX4_numberOf 19 = .ok (.iaload, 1) := by decide +kernel
theorem dX4_numberOf_20 : decode cX4_numberOf 20 = .ok (.aload_n 0, 1) := by decide +kernel
theorem dX4_numberOf_21 : decode cX4_numberOf 21 = .ok (.getfield 39, 3) := by decide +kernel
theorem dX4_numberOf_24 : decode cX4_numberOf 24 = .ok (.getfield 62, 3) := by decide +kernel
theorem dX4_numberOf_27 : decode cX4_numberOf 27 = .ok (.iload_n 2, 1) := by decide +kernel
theorem dX4_numberOf_28 : decode cX4_numberOf 28 = .ok (.iaload, 1) := by decide +kernel
theorem dX4_numberOf_29 : decode cX4_numberOf 29 = .ok (.isub, 1) := by decide +kernel
theorem dX4_numberOf_30 : decode cX4_numberOf 30 = .ok (.goto 4, 3) := by decide +kernel
theorem dX4_numberOf_33 : decode cX4_numberOf 33 = .ok (.iconst 0, 1) := by decide +kernel
theorem dX4_numberOf_34 : decode cX4_numberOf 34 = .ok (.istore_n 3, 1) := by decide +kernel
theorem dX4_numberOf_35 : decode cX4_numberOf 35 = .ok (.iconst 0, 1) := by decide +kernel
theorem dX4_numberOf_36 : decode cX4_numberOf 36 = .ok (.istore 4, 2) := by decide +kernel
theorem dX4_numberOf_38 : decode cX4_numberOf 38 = .ok (.iconst 0, 1) := by decide +kernel
theorem dX4_numberOf_39 : decode cX4_numberOf 39 = .ok (.istore 5, 2) := by decide +kernel
theorem dX4_numberOf_4 : decode cX4_numberOf 4 = .ok (.getfield 47, 3) := by decide +kernel
theorem dX4_numberOf_41 : decode cX4_numberOf 41 = .ok (.iload 5, 2) := by decide +kernel
theorem dX4_numberOf_43 : decode cX4_numberOf 43 = .ok (.iload_n 2, 1) := by decide +kernel
theorem dX4_numberOf_44 : decode cX4_numberOf 44 = .ok (.if_icmp .gt 24, 3) := by decide +kernel
theorem dX4_numberOf_47 : decode cX4_numberOf 47 = .ok (.iload 4, 2) := by decide +kernel
theorem dX4_numberOf_49 : decode cX4_numberOf 49 = .ok (.bipush 21, 2) := by decide +kernel
theorem dX4_numberOf_51 : decode cX4_numberOf 51 = .ok (.imul, 1) := by decide +kernel
theorem dX4_numberOf_52 : decode cX4_numberOf 52 = .ok (.aload_n 1, 1) := by decide +kernel
theorem dX4_numberOf_53 : decode cX4_numberOf 53 = .ok (.iload 5, 2) := by decide +kernel
theorem dX4_numberOf_55 : decode cX4_numberOf 55 = .ok (.iaload, 1) := by decide +kernel
theorem dX4_numberOf_56 : decode cX4_numberOf 56 = .ok (.iadd, 1) := by decide +kernel
theorem dX4_numberOf_57 : decode cX4_numberOf 57 = .ok (.bipush 10, 2) := by decide +kernel
theorem dX4_numberOf_59 : decode cX4_numberOf 59 = .ok (.iadd, 1) := by decide +kernel
theorem dX4_numberOf_60 : decode cX4_numberOf 60 = .ok (.istore 4, 2) := by decide +kernel
theorem dX4_numberOf_62 : decode cX4_numberOf 62 = .ok (.iinc 5 1, 3) := by decide +kernel
theorem dX4_numberOf_65 : decode cX4_numberOf 65 = .ok (.goto (-24), 3) := by decide +kernel
theorem dX4_numberOf_68 : decode cX4_numberOf 68 = .ok (.aload_n 0, 1) := by decide +kernel
theorem dX4_numberOf_69 : decode cX4_numberOf 69 = .ok (.iload 4, 2) := by decide +kernel
theorem dX4_numberOf_7 : decode cX4_numberOf 7 = .ok (.iconst 1, 1) := by decide +kernel
theorem dX4_numberOf_71 : decode cX4_numberOf 71 = .ok (.iload_n 3, 1) := by decide +kernel
theorem dX4_numberOf_72 : decode cX4_numberOf 72 = .ok (.isub, 1) := by decide +kernel
theorem dX4_numberOf_73 : decode cX4_numberOf 73 = .ok (.invokevirtual 89, 3) := by decide +kernel
theorem dX4_numberOf_76 : decode cX4_numberOf 76 = .ok (.aload_n 0, 1) := by decide +kernel
theorem dX4_numberOf_77 : decode cX4_numberOf 77 = .ok (.getfield 71, 3) := by decide +kernel
theorem dX4_numberOf_8 : decode cX4_numberOf 8 = .ok (.isub, 1) := by decide +kernel
theorem dX4_numberOf_80 : decode cX4_numberOf 80 = .ok (.imul, 1) := by decide +kernel
theorem dX4_numberOf_81 : decode cX4_numberOf 81 = .ok (.iload_n 3, 1) := by decide +kernel
theorem dX4_numberOf_82 : decode cX4_numberOf 82 = .ok (.iadd, 1) := by decide +kernel
theorem dX4_numberOf_83 : decode cX4_numberOf 83 = .ok (.ireturn, 1) := by decide +kernel
theorem dX4_numberOf_9 : decode cX4_numberOf 9 = .ok (.istore_n 2, 1) := by decide +kernel
theorem dX4_readBlock_0 : decode cX4_readBlock 0 = .ok (.aload_n 0, 1) := by decide +kernel
theorem dX4_readBlock_1 : decode cX4_readBlock 1 = .ok (.getfield 11, 3) := by decide +kernel
theorem dX4_readBlock_12 : decode cX4_readBlock 12 = .ok (.aload_n 0, 1) := by decide +kernel
theorem dX4_readBlock_13 : decode cX4_readBlock 13 = .ok (.getfield 39, 3) := by decide +kernel
theorem dX4_readBlock_16 : decode cX4_readBlock 16 = .ok (.getfield 47, 3) := by decide +kernel
theorem dX4_readBlock_19 : decode cX4_readBlock 19 = .ok (.iconst 1, 1) := by decide +kernel
theorem dX4_readBlock_20 : decode cX4_readBlock 20 = .ok (.isub, 1) := by decide +kernel
theorem dX4_readBlock_21 : decode cX4_readBlock 21 = .ok (.istore 4, 2) := by decide +kernel
theorem dX4_readBlock_23 : decode cX4_readBlock 23 = .ok (.iload 4, 2) := by decide +kernel
theorem dX4_readBlock_25 : decode cX4_readBlock 25 = .ok (.ifCond .lt 25, 3) := by decide +kernel
theorem dX4_readBlock_28 : decode cX4_readBlock 28 = .ok (.aload_n 2, 1) := by decide +kernel
theorem dX4_readBlock_29 : decode cX4_readBlock 29 = .ok (.iload 4, 2) := by decide +kernel
theorem dX4_readBlock_31 : decode cX4_readBlock 31 = .ok (.iload_n 3, 1) := by decide +kernel
theorem dX4_readBlock_32 : decode cX4_readBlock 32 = .ok (.bipush 21, 2) := by decide +kernel
theorem dX4_readBlock_34 : decode cX4_readBlock 34 = .ok (.irem, 1) := by decide +kernel
theorem dX4_readBlock_35 : decode cX4_readBlock 35 = .ok (.bipush 10, 2) := by decide +kernel
theorem dX4_readBlock_37 : decode cX4_readBlock 37 = .ok (.isub, 1) := by decide +kernel
theorem dX4_readBlock_38 : decode cX4_readBlock 38 = .ok (.iastore, 1) := by decide +kernel
theorem dX4_readBlock_39 : decode cX4_readBlock 39 = .ok (.iload_n 3, 1) := by decide +kernel
theorem dX4_readBlock_4 : decode cX4_readBlock 4 = .ok (.iload_n 1, 1) := by decide +kernel
theorem dX4_readBlock_40 : decode cX4_readBlock 40 = .ok (.bipush 21, 2) := by decide +kernel
theorem dX4_readBlock_42 : decode cX4_readBlock 42 = .ok (.idiv, 1) := by decide +kernel
theorem dX4_readBlock_43 : decode cX4_readBlock 43 = .ok (.istore_n 3, 1) := by decide +kernel
theorem dX4_readBlock_44 : decode cX4_readBlock 44 = .ok (.iinc 4 (-1), 3) := by decide +kernel
theorem dX4_readBlock_47 : decode cX4_readBlock 47 = .ok (.goto (-24), 3) := by decide +kernel
theorem dX4_readBlock_5 : decode cX4_readBlock 5 = .ok (.iaload, 1) := by decide +kernel
theorem dX4_readBlock_50 : decode cX4_readBlock 50 = .ok (.return_, 1) := by decide +kernel
theorem dX4_readBlock_6 : decode cX4_readBlock 6 = .ok (.istore_n 3, 1) := by decide +kernel
theorem dX4_readBlock_7 : decode cX4_readBlock 7 = .ok (.aload_n 2, 1) := by decide +kernel
theorem dX4_readBlock_8 : decode cX4_readBlock 8 = .ok (.iconst 0, 1) := by decide +kernel
theorem dX4_readBlock_9 : decode cX4_readBlock 9 = .ok (.invokestatic 110, 3) := by decide +kernel
theorem dX4_read_0 : decode cX4_read 0 = .ok (.aload_n 0, 1) := by decide +kernel
theorem dX4_read_1 : decode cX4_read 1 = .ok (.getfield 71, 3) := by decide +kernel
theorem dX4_read_10 : decode cX4_read 10 = .ok (.aload_n 0, 1) := by decide +kernel
theorem dX4_read_11 : decode cX4_read 11 = .ok (.getfield 71, 3) := by decide +kernel
theorem dX4_read_14 : decode cX4_read 14 = .ok (.idiv, 1) := by decide +kernel
theorem dX4_read_15 : decode cX4_read 15 = .ok (.aload_n 2, 1) := by decide +kernel
theorem dX4_read_16 : decode cX4_read 16 = .ok (.invokevirtual 85, 3) := by decide +kernel
theorem dX4_read_19 : decode cX4_read 19 = .ok (.aload_n 2, 1) := by decide +kernel
theorem dX4_read_20 : decode cX4_read 20 = .ok (.aload_n 0, 1) := by decide +kernel
theorem dX4_read_21 : decode cX4_read 21 = .ok (.getfield 39, 3) := by decide +kernel
theorem dX4_read_24 : decode cX4_read 24 = .ok (.getfield 47, 3) := by decide +kernel
theorem dX4_read_27 : decode cX4_read 27 = .ok (.iconst 1, 1) := by decide +kernel
theorem dX4_read_28 : decode cX4_read 28 = .ok (.isub, 1) := by decide +kernel
theorem dX4_read_29 : decode cX4_read 29 = .ok (.dup2, 1) := by decide +kernel
theorem dX4_read_30 : decode cX4_read 30 = .ok (.iaload, 1) := by decide +kernel
theorem dX4_read_31 : decode cX4_read 31 = .ok (.iload_n 1, 1) := by decide +kernel
theorem dX4_read_32 : decode cX4_read 32 = .ok (.aload_n 0, 1) := by decide +kernel
theorem dX4_read_33 : decode cX4_read 33 = .ok (.getfield 71, 3) := by decide +kernel
theorem dX4_read_36 : decode cX4_read 36 = .ok (.irem, 1) := by decide +kernel
theorem dX4_read_37 : decode cX4_read 37 = .ok (.iadd, 1) := by decide +kernel
theorem dX4_read_38 : decode cX4_read 38 = .ok (.iastore, 1) := by decide +kernel
theorem dX4_read_39 : decode cX4_read 39 = .ok (.return_, 1) := by decide +kernel
theorem dX4_read_4 : decode cX4_read 4 = .ok (.ifCond .gt 4, 3) := by decide +kernel
theorem dX4_read_7 : decode cX4_read 7 = .ok (.return_, 1) := by decide +kernel
theorem dX4_read_8 : decode cX4_read 8 = .ok (.aload_n 0, 1) := by decide +kernel
theorem dX4_read_9 : decode cX4_read 9 = .ok (.iload_n 1, 1) := by decide +kernel
theorem dX4_refresh_0 : decode cX4_refresh 0 = .ok (.aload_n 0, 1) := by decide +kernel
theorem dX4_refresh_1 : decode cX4_refresh 1 = .ok (.getfield 35, 3) := by decide +kernel
theorem dX4_refresh_10 : decode cX4_refresh 10 = .ok (.putfield 35, 3) := by decide +kernel
theorem dX4_refresh_100 : decode cX4_refresh 100 = .ok (.getfield 59, 3) := by decide +kernel
theorem dX4_refresh_103 : decode cX4_refresh 103 = .ok (.iload_n 2, 1) := by decide +kernel
theorem dX4_refresh_104 : decode cX4_refresh 104 = .ok (.iaload, 1) := by decide +kernel
theorem dX4_refresh_105 : decode cX4_refresh 105 = .ok (.if_icmp .le 4, 3) := by decide +kernel
theorem dX4_refresh_108 : decode cX4_refresh 108 = .ok (.return_, 1) := by decide +kernel
theorem dX4_refresh_109 : decode cX4_refresh 109 = .ok (.iinc 2 1, 3) := by decide +kernel
theorem dX4_refresh_112 : decode cX4_refresh 112 = .ok (.goto (-30), 3) := by decide +kernel
theorem dX4_refresh_115 : decode cX4_refresh 115 = .ok (.aload_n 0, 1) := by decide +kernel
theorem dX4_refresh_116 : decode cX4_refresh 116 = .ok (.invokevirtual 74, 3) := by decide +kernel
theorem dX4_refresh_119 : decode cX4_refresh 119 = .ok (.aload_n 0, 1) := by decide +kernel
theorem dX4_refresh_120 : decode cX4_refresh 120 = .ok (.iconst 0, 1) := by decide +kernel
theorem dX4_refresh_121 : decode cX4_refresh 121 = .ok (.iconst 0, 1) := by decide +kernel
theorem dX4_refresh_122 : decode cX4_refresh 122 = .ok (.invokevirtual 77, 3) := by decide +kernel
theorem dX4_refresh_125 : decode cX4_refresh 125 = .ok (.return_, 1) := by decide +kernel
theorem dX4_refresh_13 : decode cX4_refresh 13 = .ok (.aload_n 0, 1) := by decide +kernel
theorem dX4_refresh_14 : decode cX4_refresh 14 = .ok (.iconst 0, 1) := by decide +kernel
theorem dX4_refresh_15 : decode cX4_refresh 15 = .ok (.putfield 43, 3) := by decide +kernel
theorem dX4_refresh_18 : decode cX4_refresh 18 = .ok (.aload_n 0, 1) := by decide +kernel
theorem dX4_refresh_19 : decode cX4_refresh 19 = .ok (.getfield 39, 3) := by decide +kernel
theorem dX4_refresh_22 : decode cX4_refresh 22 = .ok (.getfield 47, 3) := by decide +kernel
theorem dX4_refresh_25 : decode cX4_refresh 25 = .ok (.iconst 1, 1) := by decide +kernel
theorem dX4_refresh_26 : decode cX4_refresh 26 = .ok (.isub, 1) := by decide +kernel
theorem dX4_refresh_27 : decode cX4_refresh 27 = .ok (.istore_n 1, 1) := by decide +kernel
theorem dX4_refresh_28 : decode cX4_refresh 28 = .ok (.aload_n 0, 1) := by decide +kernel
theorem dX4_refresh_29 : decode cX4_refresh 29 = .ok (.aload_n 0, 1) := by decide +kernel
theorem dX4_refresh_30 : decode cX4_refresh 30 = .ok (.getfield 39, 3) := by decide +kernel
theorem dX4_refresh_33 : decode cX4_refresh 33 = .ok (.iload_n 1, 1) := by decide +kernel
theorem dX4_refresh_34 : decode cX4_refresh 34 = .ok (.invokevirtual 52, 3) := by decide +kernel
theorem dX4_refresh_37 : decode cX4_refresh 37 = .ok (.putfield 56, 3) := by decide +kernel
theorem dX4_refresh_4 : decode cX4_refresh 4 = .ok (.ifCond .ne 4, 3) := by decide +kernel
theorem dX4_refresh_40 : decode cX4_refresh 40 = .ok (.aload_n 0, 1) := by decide +kernel
theorem dX4_refresh_41 : decode cX4_refresh 41 = .ok (.aload_n 0, 1) := by decide +kernel
theorem dX4_refresh_42 : decode cX4_refresh 42 = .ok (.getfield 56, 3) := by decide +kernel
theorem dX4_refresh_45 : decode cX4_refresh 45 = .ok (.ifCond .eq 31, 3) := by decide +kernel
theorem dX4_refresh_48 : decode cX4_refresh 48 = .ok (.iconst 0, 1) := by decide +kernel
theorem dX4_refresh_49 : decode cX4_refresh 49 = .ok (.aload_n 0, 1) := by decide +kernel
theorem dX4_refresh_50 : decode cX4_refresh 50 = .ok (.getfield 39, 3) := by decide +kernel
theorem dX4_refresh_53 : decode cX4_refresh 53 = .ok (.getfield 59, 3) := by decide +kernel
theorem dX4_refresh_56 : decode cX4_refresh 56 = .ok (.iload_n 1, 1) := by decide +kernel
theorem dX4_refresh_57 : decode cX4_refresh 57 = .ok (.iaload, 1) := by decide +kernel
theorem dX4_refresh_58 : decode cX4_refresh 58 = .ok (.aload_n 0, 1) := by decide +kernel
theorem dX4_refresh_59 : decode cX4_refresh 59 = .ok (.getfield 39, 3) := by decide +kernel
theorem dX4_refresh_62 : decode cX4_refresh 62 = .ok (.getfield 62, 3) := by decide +kernel
theorem dX4_refresh_65 : decode cX4_refresh 65 = .ok (.iload_n 1, 1) := by decide +kernel
theorem dX4_refresh_66 : decode cX4_refresh 66 = .ok (.iaload, 1) := by decide +kernel
theorem dX4_refresh_67 : decode cX4_refresh 67 = .ok (.isub, 1) := by decide +kernel
theorem dX4_refresh_68 : decode cX4_refresh 68 = .ok (.iconst 1, 1) := by decide +kernel
theorem dX4_refresh_69 : decode cX4_refresh 69 = .ok (.iadd, 1) := by decide +kernel
theorem dX4_refresh_7 : decode cX4_refresh 7 = .ok (.return_, 1) := by decide +kernel
theorem dX4_refresh_70 : decode cX4_refresh 70 = .ok (.invokestatic 65, 3) := by decide +kernel
theorem dX4_refresh_73 : decode cX4_refresh 73 = .ok (.goto 4, 3) := by decide +kernel
theorem dX4_refresh_76 : decode cX4_refresh 76 = .ok (.iconst 1, 1) := by decide +kernel
theorem dX4_refresh_77 : decode cX4_refresh 77 = .ok (.putfield 71, 3) := by decide +kernel
theorem dX4_refresh_8 : decode cX4_refresh 8 = .ok (.aload_n 0, 1) := by decide +kernel
theorem dX4_refresh_80 : decode cX4_refresh 80 = .ok (.iconst 0, 1) := by decide +kernel
theorem dX4_refresh_81 : decode cX4_refresh 81 = .ok (.istore_n 2, 1) := by decide +kernel
theorem dX4_refresh_82 : decode cX4_refresh 82 = .ok (.iload_n 2, 1) := by decide +kernel
theorem dX4_refresh_83 : decode cX4_refresh 83 = .ok (.iload_n 1, 1) := by decide +kernel
theorem dX4_refresh_84 : decode cX4_refresh 84 = .ok (.if_icmp .gt 31, 3) := by decide +kernel
theorem dX4_refresh_87 : decode cX4_refresh 87 = .ok (.aload_n 0, 1) := by decide +kernel
theorem dX4_refresh_88 : decode cX4_refresh 88 = .ok (.getfield 39, 3) := by decide +kernel
theorem dX4_refresh_9 : decode cX4_refresh 9 = .ok (.iconst 0, 1) := by decide +kernel
theorem dX4_refresh_91 : decode cX4_refresh 91 = .ok (.getfield 62, 3) := by decide +kernel
theorem dX4_refresh_94 : decode cX4_refresh 94 = .ok (.iload_n 2, 1) := by decide +kernel
theorem dX4_refresh_95 : decode cX4_refresh 95 = .ok (.iaload, 1) := by decide +kernel
theorem dX4_refresh_96 : decode cX4_refresh 96 = .ok (.aload_n 0, 1) := by decide +kernel
theorem dX4_refresh_97 : decode cX4_refresh 97 = .ok (.getfield 39, 3) := by decide +kernel
theorem dX4_searchFrom_0 : decode cX4_searchFrom 0 = .ok (.iload_n 1, 1) := by decide +kernel
theorem dX4_searchFrom_1 : decode cX4_searchFrom 1 = .ok (.ifCond .lt 14, 3) := by decide +kernel
theorem dX4_searchFrom_100 : decode cX4_searchFrom 100 = .ok (.getfield 21, 3) := by decide +kernel
theorem dX4_searchFrom_103 : decode cX4_searchFrom 103 = .ok (.iload_n 1, 1) := by decide +kernel
theorem dX4_searchFrom_104 : decode cX4_searchFrom 104 = .ok (.iaload, 1) := by decide +kernel
theorem dX4_searchFrom_105 : decode cX4_searchFrom 105 = .ok (.if_icmp .gt 21, 3) := by decide +kernel
theorem dX4_searchFrom_108 : decode cX4_searchFrom 108 = .ok (.aload_n 0, 1) := by decide +kernel
theorem dX4_searchFrom_109 : decode cX4_searchFrom 109 = .ok (.iload_n 2, 1) := by decide +kernel
theorem dX4_searchFrom_110 : decode cX4_searchFrom 110 = .ok (.bipush 21, 2) := by decide +kernel
theorem dX4_searchFrom_112 : decode cX4_searchFrom 112 = .ok (.imul, 1) := by decide +kernel
theorem dX4_searchFrom_113 : decode cX4_searchFrom 113 = .ok (.aload_n 0, 1) := by decide +kernel
theorem dX4_searchFrom_114 : decode cX4_searchFrom 114 = .ok (.getfield 18, 3) := by decide +kernel
theorem dX4_searchFrom_117 : decode cX4_searchFrom 117 = .ok (.iload_n 1, 1) := by decide +kernel
theorem dX4_searchFrom_118 : decode cX4_searchFrom 118 = .ok (.iaload, 1) := by decide +kernel
theorem dX4_searchFrom_119 : decode cX4_searchFrom 119 = .ok (.iadd, 1) := by decide +kernel
theorem dX4_searchFrom_12 : decode cX4_searchFrom 12 = .ok (.if_icmp .lt 4, 3) := by decide +kernel
theorem dX4_searchFrom_120 : decode cX4_searchFrom 120 = .ok (.bipush 10, 2) := by decide +kernel
theorem dX4_searchFrom_122 : decode cX4_searchFrom 122 = .ok (.iadd, 1) := by decide +kernel
theorem dX4_searchFrom_123 : decode cX4_searchFrom 123 = .ok (.invokevirtual 131, 3) := by decide +kernel
theorem dX4_searchFrom_126 : decode cX4_searchFrom 126 = .ok (.return_, 1) := by decide +kernel
theorem dX4_searchFrom_15 : decode cX4_searchFrom 15 = .ok (.return_, 1) := by decide +kernel
theorem dX4_searchFrom_16 : decode cX4_searchFrom 16 = .ok (.aload_n 0, 1) := by decide +kernel
theorem dX4_searchFrom_17 : decode cX4_searchFrom 17 = .ok (.getfield 18, 3) := by decide +kernel
theorem dX4_searchFrom_20 : decode cX4_searchFrom 20 = .ok (.iload_n 1, 1) := by decide +kernel
theorem dX4_searchFrom_21 : decode cX4_searchFrom 21 = .ok (.aload_n 0, 1) := by decide +kernel
theorem dX4_searchFrom_22 : decode cX4_searchFrom 22 = .ok (.getfield 39, 3) := by decide +kernel
theorem dX4_searchFrom_25 : decode cX4_searchFrom 25 = .ok (.getfield 62, 3) := by decide +kernel
theorem dX4_searchFrom_28 : decode cX4_searchFrom 28 = .ok (.iload_n 1, 1) := by decide +kernel
theorem dX4_searchFrom_29 : decode cX4_searchFrom 29 = .ok (.iaload, 1) := by decide +kernel
theorem dX4_searchFrom_30 : decode cX4_searchFrom 30 = .ok (.iastore, 1) := by decide +kernel
theorem dX4_searchFrom_31 : decode cX4_searchFrom 31 = .ok (.aload_n 0, 1) := by decide +kernel
theorem dX4_searchFrom_32 : decode cX4_searchFrom 32 = .ok (.getfield 21, 3) := by decide +kernel
theorem dX4_searchFrom_35 : decode cX4_searchFrom 35 = .ok (.iload_n 1, 1) := by decide +kernel
theorem dX4_searchFrom_36 : decode cX4_searchFrom 36 = .ok (.aload_n 0, 1) := by decide +kernel
theorem dX4_searchFrom_37 : decode cX4_searchFrom 37 = .ok (.getfield 39, 3) := by decide +kernel
theorem dX4_searchFrom_4 : decode cX4_searchFrom 4 = .ok (.iload_n 1, 1) := by decide +kernel
theorem dX4_searchFrom_40 : decode cX4_searchFrom 40 = .ok (.getfield 59, 3) := by decide +kernel
theorem dX4_searchFrom_43 : decode cX4_searchFrom 43 = .ok (.iload_n 1, 1) := by decide +kernel
theorem dX4_searchFrom_44 : decode cX4_searchFrom 44 = .ok (.iaload, 1) := by decide +kernel
theorem dX4_searchFrom_45 : decode cX4_searchFrom 45 = .ok (.iastore, 1) := by decide +kernel
theorem dX4_searchFrom_46 : decode cX4_searchFrom 46 = .ok (.iconst 0, 1) := by decide +kernel
theorem dX4_searchFrom_47 : decode cX4_searchFrom 47 = .ok (.istore_n 3, 1) := by decide +kernel
theorem dX4_searchFrom_48 : decode cX4_searchFrom 48 = .ok (.iload_n 3, 1) := by decide +kernel
theorem dX4_searchFrom_49 : decode cX4_searchFrom 49 = .ok (.aload_n 0, 1) := by decide +kernel
theorem dX4_searchFrom_5 : decode cX4_searchFrom 5 = .ok (.aload_n 0, 1) := by decide +kernel
theorem dX4_searchFrom_50 : decode cX4_searchFrom 50 = .ok (.getfield 39, 3) := by decide +kernel
theorem dX4_searchFrom_53 : decode cX4_searchFrom 53 = .ok (.getfield 116, 3) := by decide +kernel
theorem dX4_searchFrom_56 : decode cX4_searchFrom 56 = .ok (.if_icmp .ge 15, 3) := by decide +kernel
theorem dX4_searchFrom_59 : decode cX4_searchFrom 59 = .ok (.aload_n 0, 1) := by decide +kernel
theorem dX4_searchFrom_6 : decode cX4_searchFrom 6 = .ok (.getfield 39, 3) := by decide +kernel
theorem dX4_searchFrom_60 : decode cX4_searchFrom 60 = .ok (.iload_n 1, 1) := by decide +kernel
theorem dX4_searchFrom_61 : decode cX4_searchFrom 61 = .ok (.iload_n 3, 1) := by decide +kernel
theorem dX4_searchFrom_62 : decode cX4_searchFrom 62 = .ok (.invokevirtual 125, 3) := by decide +kernel
theorem dX4_searchFrom_65 : decode cX4_searchFrom 65 = .ok (.iinc 3 1, 3) := by decide +kernel
theorem dX4_searchFrom_68 : decode cX4_searchFrom 68 = .ok (.goto (-20), 3) := by decide +kernel
theorem dX4_searchFrom_71 : decode cX4_searchFrom 71 = .ok (.iload_n 1, 1) := by decide +kernel
theorem dX4_searchFrom_72 : decode cX4_searchFrom 72 = .ok (.aload_n 0, 1) := by decide +kernel
theorem dX4_searchFrom_73 : decode cX4_searchFrom 73 = .ok (.getfield 39, 3) := by decide +kernel
theorem dX4_searchFrom_76 : decode cX4_searchFrom 76 = .ok (.getfield 47, 3) := by decide +kernel
theorem dX4_searchFrom_79 : decode cX4_searchFrom 79 = .ok (.iconst 1, 1) := by decide +kernel
theorem dX4_searchFrom_80 : decode cX4_searchFrom 80 = .ok (.isub, 1) := by decide +kernel
theorem dX4_searchFrom_81 : decode cX4_searchFrom 81 = .ok (.if_icmp .ge 12, 3) := by decide +kernel
theorem dX4_searchFrom_84 : decode cX4_searchFrom 84 = .ok (.aload_n 0, 1) := by decide +kernel
theorem dX4_searchFrom_85 : decode cX4_searchFrom 85 = .ok (.iload_n 1, 1) := by decide +kernel
theorem dX4_searchFrom_86 : decode cX4_searchFrom 86 = .ok (.iload_n 2, 1) := by decide +kernel
theorem dX4_searchFrom_87 : decode cX4_searchFrom 87 = .ok (.invokevirtual 128, 3) := by decide +kernel
theorem dX4_searchFrom_9 : decode cX4_searchFrom 9 = .ok (.getfield 47, 3) := by decide +kernel
theorem dX4_searchFrom_90 : decode cX4_searchFrom 90 = .ok (.goto 36, 3) := by decide +kernel
theorem dX4_searchFrom_93 : decode cX4_searchFrom 93 = .ok (.aload_n 0, 1) := by decide +kernel
theorem dX4_searchFrom_94 : decode cX4_searchFrom 94 = .ok (.getfield 18, 3) := by decide +kernel
theorem dX4_searchFrom_97 : decode cX4_searchFrom 97 = .ok (.iload_n 1, 1) := by decide +kernel
theorem dX4_searchFrom_98 : decode cX4_searchFrom 98 = .ok (.iaload, 1) := by decide +kernel
theorem dX4_searchFrom_99 : decode cX4_searchFrom 99 = .ok (.aload_n 0, 1) := by decide +kernel
theorem dX4_size_0 : decode cX4_size 0 = .ok (.aload_n 0, 1) := by decide +kernel
theorem dX4_size_1 : decode cX4_size 1 = .ok (.getfield 43, 3) := by decide +kernel
theorem dX4_size_4 : decode cX4_size 4 = .ok (.aload_n 0, 1) := by decide +kernel
theorem dX4_size_5 : decode cX4_size 5 = .ok (.getfield 71, 3) := by decide +kernel
theorem dX4_size_8 : decode cX4_size 8 = .ok (.imul, 1) := by decide +kernel
theorem dX4_size_9 : decode cX4_size 9 = .ok (.ireturn, 1) := by decide +kernel
theorem dX4_tryNumbers_0 : decode cX4_tryNumbers 0 = .ok (.aload_n 0, 1) := by decide +kernel
theorem dX4_tryNumbers_1 : decode cX4_tryNumbers 1 = .ok (.getfield 18, 3) := by decide +kernel
theorem dX4_tryNumbers_12 : decode cX4_tryNumbers 12 = .ok (.iload_n 1, 1) := by decide +kernel
theorem dX4_tryNumbers_13 : decode cX4_tryNumbers 13 = .ok (.iaload, 1) := by decide +kernel
theorem dX4_tryNumbers_14 : decode cX4_tryNumbers 14 = .ok (.if_icmp .gt 81, 3) := by decide +kernel
theorem dX4_tryNumbers_17 : decode cX4_tryNumbers 17 = .ok (.iconst 0, 1) := by decide +kernel
theorem dX4_tryNumbers_18 : decode cX4_tryNumbers 18 = .ok (.istore 4, 2) := by decide +kernel
theorem dX4_tryNumbers_20 : decode cX4_tryNumbers 20 = .ok (.iload 4, 2) := by decide +kernel
theorem dX4_tryNumbers_22 : decode cX4_tryNumbers 22 = .ok (.aload_n 0, 1) := by decide +kernel
theorem dX4_tryNumbers_23 : decode cX4_tryNumbers 23 = .ok (.getfield 39, 3) := by decide +kernel
theorem dX4_tryNumbers_26 : decode cX4_tryNumbers 26 = .ok (.getfield 116, 3) := by decide +kernel
theorem dX4_tryNumbers_29 : decode cX4_tryNumbers 29 = .ok (.if_icmp .ge 44, 3) := by decide +kernel
theorem dX4_tryNumbers_32 : decode cX4_tryNumbers 32 = .ok (.aload_n 0, 1) := by decide +kernel
theorem dX4_tryNumbers_33 : decode cX4_tryNumbers 33 = .ok (.getfield 26, 3) := by decide +kernel
theorem dX4_tryNumbers_36 : decode cX4_tryNumbers 36 = .ok (.iload_n 1, 1) := by decide +kernel
theorem dX4_tryNumbers_37 : decode cX4_tryNumbers 37 = .ok (.iconst 1, 1) := by decide +kernel
theorem dX4_tryNumbers_38 : decode cX4_tryNumbers 38 = .ok (.iadd, 1) := by decide +kernel
theorem dX4_tryNumbers_39 : decode cX4_tryNumbers 39 = .ok (.aaload, 1) := by decide +kernel
theorem dX4_tryNumbers_4 : decode cX4_tryNumbers 4 = .ok (.iload_n 1, 1) := by decide +kernel
theorem dX4_tryNumbers_40 : decode cX4_tryNumbers 40 = .ok (.iload 4, 2) := by decide +kernel
theorem dX4_tryNumbers_42 : decode cX4_tryNumbers 42 = .ok (.aload_n 0, 1) := by decide +kernel
theorem dX4_tryNumbers_43 : decode cX4_tryNumbers 43 = .ok (.getfield 26, 3) := by decide +kernel
theorem dX4_tryNumbers_46 : decode cX4_tryNumbers 46 = .ok (.iload_n 1, 1) := by decide +kernel
theorem dX4_tryNumbers_47 : decode cX4_tryNumbers 47 = .ok (.aaload, 1) := by decide +kernel
theorem dX4_tryNumbers_48 : decode cX4_tryNumbers 48 = .ok (.iload 4, 2) := by decide +kernel
theorem dX4_tryNumbers_5 : decode cX4_tryNumbers 5 = .ok (.iaload, 1) := by decide +kernel
theorem dX4_tryNumbers_50 : decode cX4_tryNumbers 50 = .ok (.iaload, 1) := by decide +kernel
theorem dX4_tryNumbers_51 : decode cX4_tryNumbers 51 = .ok (.aload_n 0, 1) := by decide +kernel
theorem dX4_tryNumbers_52 : decode cX4_tryNumbers 52 = .ok (.getfield 39, 3) := by decide +kernel
theorem dX4_tryNumbers_55 : decode cX4_tryNumbers 55 = .ok (.getfield 122, 3) := by decide +kernel
theorem dX4_tryNumbers_58 : decode cX4_tryNumbers 58 = .ok (.iload 4, 2) := by decide +kernel
theorem dX4_tryNumbers_6 : decode cX4_tryNumbers 6 = .ok (.istore_n 3, 1) := by decide +kernel
theorem dX4_tryNumbers_60 : decode cX4_tryNumbers 60 = .ok (.aaload, 1) := by decide +kernel
theorem dX4_tryNumbers_61 : decode cX4_tryNumbers 61 = .ok (.iload_n 1, 1) := by decide +kernel
theorem dX4_tryNumbers_62 : decode cX4_tryNumbers 62 = .ok (.iaload, 1) := by decide +kernel
theorem dX4_tryNumbers_63 : decode cX4_tryNumbers 63 = .ok (.iload_n 3, 1) := by decide +kernel
theorem dX4_tryNumbers_64 : decode cX4_tryNumbers 64 = .ok (.imul, 1) := by decide +kernel
theorem dX4_tryNumbers_65 : decode cX4_tryNumbers 65 = .ok (.isub, 1) := by decide +kernel
theorem dX4_tryNumbers_66 : decode cX4_tryNumbers 66 = .ok (.iastore, 1) := by decide +kernel
theorem dX4_tryNumbers_67 : decode cX4_tryNumbers 67 = .ok (.iinc 4 1, 3) := by decide +kernel
theorem dX4_tryNumbers_7 : decode cX4_tryNumbers 7 = .ok (.iload_n 3, 1) := by decide +kernel
theorem dX4_tryNumbers_70 : decode cX4_tryNumbers 70 = .ok (.goto (-50), 3) := by decide +kernel
theorem dX4_tryNumbers_73 : decode cX4_tryNumbers 73 = .ok (.aload_n 0, 1) := by decide +kernel
theorem dX4_tryNumbers_74 : decode cX4_tryNumbers 74 = .ok (.iload_n 1, 1) := by decide +kernel
theorem dX4_tryNumbers_75 : decode cX4_tryNumbers 75 = .ok (.iconst 1, 1) := by decide +kernel
theorem dX4_tryNumbers_76 : decode cX4_tryNumbers 76 = .ok (.iadd, 1) := by decide +kernel
theorem dX4_tryNumbers_77 : decode cX4_tryNumbers 77 = .ok (.iload_n 2, 1) := by decide +kernel
theorem dX4_tryNumbers_78 : decode cX4_tryNumbers 78 = .ok (.bipush 21, 2) := by decide +kernel
theorem dX4_tryNumbers_8 : decode cX4_tryNumbers 8 = .ok (.aload_n 0, 1) := by decide +kernel
theorem dX4_tryNumbers_80 : decode cX4_tryNumbers 80 = .ok (.imul, 1) := by decide +kernel
theorem dX4_tryNumbers_81 : decode cX4_tryNumbers 81 = .ok (.iload_n 3, 1) := by decide +kernel
theorem dX4_tryNumbers_82 : decode cX4_tryNumbers 82 = .ok (.iadd, 1) := by decide +kernel
theorem dX4_tryNumbers_83 : decode cX4_tryNumbers 83 = .ok (.bipush 10, 2) := by decide +kernel
theorem dX4_tryNumbers_85 : decode cX4_tryNumbers 85 = .ok (.iadd, 1) := by decide +kernel
theorem dX4_tryNumbers_86 : decode cX4_tryNumbers 86 = .ok (.invokevirtual 77, 3) := by decide +kernel
theorem dX4_tryNumbers_89 : decode cX4_tryNumbers 89 = .ok (.iinc 3 1, 3) := by decide +kernel
theorem dX4_tryNumbers_9 : decode cX4_tryNumbers 9 = .ok (.getfield 21, 3) := by decide +kernel
theorem dX4_tryNumbers_92 : decode cX4_tryNumbers 92 = .ok (.goto (-85), 3) := by decide +kernel
theorem dX4_tryNumbers_95 : decode cX4_tryNumbers 95 = .ok (.return_, 1) := by decide +kernel
theorem dX5_giveTo_0 : decode cX5_giveTo 0 = .ok (.iconst 0, 1) := by decide +kernel
theorem dX5_giveTo_1 : decode cX5_giveTo 1 = .ok (.istore_n 2, 1) := by decide +kernel
theorem dX5_giveTo_10 : decode cX5_giveTo 10 = .ok (.aload_n 1, 1) := by decide +kernel
theorem dX5_giveTo_11 : decode cX5_giveTo 11 = .ok (.aload_n 0, 1) := by decide +kernel
theorem dX5_giveTo_12 : decode cX5_giveTo 12 = .ok (.getfield 11, 3) := by decide +kernel
theorem dX5_giveTo_15 : decode cX5_giveTo 15 = .ok (.iload_n 2, 1) := by decide +kernel
theorem dX5_giveTo_16 : decode cX5_giveTo 16 = .ok (.iconst 4, 1) := by decide +kernel
theorem dX5_giveTo_17 : decode cX5_giveTo 17 = .ok (.imul, 1) := by decide +kernel
theorem dX5_giveTo_18 : decode cX5_giveTo 18 = .ok (.iconst 1, 1) := by decide +kernel
theorem dX5_giveTo_19 : decode cX5_giveTo 19 = .ok (.invokevirtual 40, 3) := by decide +kernel
theorem dX5_giveTo_2 : decode cX5_giveTo 2 = .ok (.iload_n 2, 1) := by decide +kernel
theorem dX5_giveTo_22 : decode cX5_giveTo 22 = .ok (.aload_n 1, 1) := by decide +kernel
theorem dX5_giveTo_23 : decode cX5_giveTo 23 = .ok (.aload_n 0, 1) := by decide +kernel
theorem dX5_giveTo_24 : decode cX5_giveTo 24 = .ok (.getfield 11, 3) := by decide +kernel
theorem dX5_giveTo_27 : decode cX5_giveTo 27 = .ok (.iload_n 2, 1) := by decide +kernel
theorem dX5_giveTo_28 : decode cX5_giveTo 28 = .ok (.iconst 4, 1) := by decide +kernel
theorem dX5_giveTo_29 : decode cX5_giveTo 29 = .ok (.imul, 1) := by decide +kernel
theorem dX5_giveTo_3 : decode cX5_giveTo 3 = .ok (.aload_n 0, 1) := by decide +kernel
theorem dX5_giveTo_30 : decode cX5_giveTo 30 = .ok (.iconst (-1), 1) := by decide +kernel
theorem dX5_giveTo_31 : decode cX5_giveTo 31 = .ok (.invokevirtual 40, 3) := by decide +kernel
theorem dX5_giveTo_34 : decode cX5_giveTo 34 = .ok (.iinc 2 1, 3) := by decide +kernel
theorem dX5_giveTo_37 : decode cX5_giveTo 37 = .ok (.goto (-35), 3) := by decide +kernel
theorem dX5_giveTo_4 : decode cX5_giveTo 4 = .ok (.getfield 18, 3) := by decide +kernel
theorem dX5_giveTo_40 : decode cX5_giveTo 40 = .ok (.return_, 1) := by decide +kernel
theorem dX5_giveTo_7 : decode cX5_giveTo 7 = .ok (.if_icmp .ge 33, 3) := by decide +kernel
theorem dX5_haveOppositeSigns_0 : decode cX5_haveOppositeSigns 0 = .ok (.iconst 0, 1) := by decide +kernel
theorem dX5_haveOppositeSigns_1 : decode cX5_haveOppositeSigns 1 = .ok (.istore_n 3, 1) := by decide +kernel
theorem dX5_haveOppositeSigns_11 : decode cX5_haveOppositeSigns 11 = .ok (.iload_n 1, 1) := by decide +kernel
theorem dX5_haveOppositeSigns_12 : decode cX5_haveOppositeSigns 12 = .ok (.iload_n 3, 1) := by decide +kernel
theorem dX5_haveOppositeSigns_13 : decode cX5_haveOppositeSigns 13 = .ok (.iadd, 1) := by decide +kernel
theorem dX5_haveOppositeSigns_14 : decode cX5_haveOppositeSigns 14 = .ok (.iaload, 1) := by decide +kernel
theorem dX5_haveOppositeSigns_15 : decode cX5_haveOppositeSigns 15 = .ok (.i2l, 1) := by decide +kernel
theorem dX5_haveOppositeSigns_16 : decode cX5_haveOppositeSigns 16 = .ok (.aload_n 0, 1) := by decide +kernel
theorem dX5_haveOppositeSigns_17 : decode cX5_haveOppositeSigns 17 = .ok (.getfield 15, 3) := by decide +kernel
theorem dX5_haveOppositeSigns_2 : decode cX5_haveOppositeSigns 2 = .ok (.iload_n 3, 1) := by decide +kernel
theorem dX5_haveOppositeSigns_20 : decode cX5_haveOppositeSigns 20 = .ok (.iload_n 2, 1) := by decide +kernel
theorem dX5_haveOppositeSigns_21 : decode cX5_haveOppositeSigns 21 = .ok (.iload_n 3, 1) := by decide +kernel
theorem dX5_haveOppositeSigns_22 : decode cX5_haveOppositeSigns 22 = .ok (.iadd, 1) := by decide +kernel
theorem dX5_haveOppositeSigns_23 : decode cX5_haveOppositeSigns 23 = .ok (.iaload, 1) := by decide +kernel
theorem dX5_haveOppositeSigns_24 : decode cX5_haveOppositeSigns 24 = .ok (.i2l, 1) := by decide +kernel
theorem dX5_haveOppositeSigns_25 : decode cX5_haveOppositeSigns 25 = .ok (.lmul, 1) := by decide +kernel
theorem dX5_haveOppositeSigns_26 : decode cX5_haveOppositeSigns 26 = .ok (.lconst 0, 1) := by decide +kernel
theorem dX5_haveOppositeSigns_27 : decode cX5_haveOppositeSigns 27 = .ok (.lcmp, 1) := by decide +kernel
theorem dX5_haveOppositeSigns_28 : decode cX5_haveOppositeSigns 28 = .ok (.ifCond .ge 5, 3) := by decide +kernel
theorem dX5_haveOppositeSigns_3 : decode cX5_haveOppositeSigns 3 = .ok (.iconst 4, 1) := by decide +kernel
theorem dX5_haveOppositeSigns_31 : decode cX5_haveOppositeSigns 31 = .ok (.iconst 1, 1) := by decide +kernel
theorem dX5_haveOppositeSigns_32 : decode cX5_haveOppositeSigns 32 = .ok (.ireturn, 1) := by decide +kernel
theorem dX5_haveOppositeSigns_33 : decode cX5_haveOppositeSigns 33 = .ok (.iinc 3 1, 3) := by decide +kernel
theorem dX5_haveOppositeSigns_36 : decode cX5_haveOppositeSigns 36 = .ok (.goto (-34), 3) := by decide +kernel
theorem dX5_haveOppositeSigns_39 : decode cX5_haveOppositeSigns 39 = .ok (.iconst 0, 1) := by decide +kernel
theorem dX5_haveOppositeSigns_4 : decode cX5_haveOppositeSigns 4 = .ok (.if_icmp .ge 35, 3) := by decide +kernel
theorem dX5_haveOppositeSigns_40 : decode cX5_haveOppositeSigns 40 = .ok (.ireturn, 1) := by decide +kernel
theorem dX5_haveOppositeSigns_7 : decode cX5_haveOppositeSigns 7 = .ok (.aload_n 0, 1) := by decide +kernel
theorem dX5_haveOppositeSigns_8 : decode cX5_haveOppositeSigns 8 = .ok (.getfield 11, 3) := by decide +kernel
theorem dX5_keepNext_0 : decode cX5_keepNext 0 = .ok (.aload_n 0, 1) := by decide +kernel
theorem dX5_keepNext_1 : decode cX5_keepNext 1 = .ok (.getfield 22, 3) := by decide +kernel
theorem dX5_keepNext_11 : decode cX5_keepNext 11 = .ok (.sipush 128, 3) := by decide +kernel
theorem dX5_keepNext_14 : decode cX5_keepNext 14 = .ok (.if_icmp .lt 4, 3) := by decide +kernel
theorem dX5_keepNext_17 : decode cX5_keepNext 17 = .ok (.return_, 1) := by decide +kernel
theorem dX5_keepNext_18 : decode cX5_keepNext 18 = .ok (.aload_n 0, 1) := by decide +kernel
theorem dX5_keepNext_19 : decode cX5_keepNext 19 = .ok (.dup, 1) := by decide +kernel
theorem dX5_keepNext_20 : decode cX5_keepNext 20 = .ok (.getfield 22, 3) := by decide +kernel
theorem dX5_keepNext_23 : decode cX5_keepNext 23 = .ok (.iconst 1, 1) := by decide +kernel
theorem dX5_keepNext_24 : decode cX5_keepNext 24 = .ok (.isub, 1) := by decide +kernel
theorem dX5_keepNext_25 : decode cX5_keepNext 25 = .ok (.putfield 22, 3) := by decide +kernel
theorem dX5_keepNext_28 : decode cX5_keepNext 28 = .ok (.aload_n 0, 1) := by decide +kernel
theorem dX5_keepNext_29 : decode cX5_keepNext 29 = .ok (.getfield 22, 3) := by decide +kernel
theorem dX5_keepNext_32 : decode cX5_keepNext 32 = .ok (.iconst 4, 1) := by decide +kernel
theorem dX5_keepNext_33 : decode cX5_keepNext 33 = .ok (.imul, 1) := by decide +kernel
theorem dX5_keepNext_34 : decode cX5_keepNext 34 = .ok (.istore_n 1, 1) := by decide +kernel
theorem dX5_keepNext_35 : decode cX5_keepNext 35 = .ok (.aload_n 0, 1) := by decide +kernel
theorem dX5_keepNext_36 : decode cX5_keepNext 36 = .ok (.getfield 15, 3) := by decide +kernel
theorem dX5_keepNext_39 : decode cX5_keepNext 39 = .ok (.iload_n 1, 1) := by decide +kernel
theorem dX5_keepNext_4 : decode cX5_keepNext 4 = .ok (.ifCond .le 13, 3) := by decide +kernel
theorem dX5_keepNext_40 : decode cX5_keepNext 40 = .ok (.aload_n 0, 1) := by decide +kernel
theorem dX5_keepNext_41 : decode cX5_keepNext 41 = .ok (.getfield 11, 3) := by decide +kernel
theorem dX5_keepNext_44 : decode cX5_keepNext 44 = .ok (.aload_n 0, 1) := by decide +kernel
theorem dX5_keepNext_45 : decode cX5_keepNext 45 = .ok (.getfield 18, 3) := by decide +kernel
theorem dX5_keepNext_48 : decode cX5_keepNext 48 = .ok (.iconst 4, 1) := by decide +kernel
theorem dX5_keepNext_49 : decode cX5_keepNext 49 = .ok (.imul, 1) := by decide +kernel
theorem dX5_keepNext_50 : decode cX5_keepNext 50 = .ok (.iconst 4, 1) := by decide +kernel
theorem dX5_keepNext_51 : decode cX5_keepNext 51 = .ok (.invokestatic 46, 3) := by decide +kernel
theorem dX5_keepNext_54 : decode cX5_keepNext 54 = .ok (.aload_n 0, 1) := by decide +kernel
theorem dX5_keepNext_55 : decode cX5_keepNext 55 = .ok (.dup, 1) := by decide +kernel
theorem dX5_keepNext_56 : decode cX5_keepNext 56 = .ok (.getfield 18, 3) := by decide +kernel
theorem dX5_keepNext_59 : decode cX5_keepNext 59 = .ok (.iconst 1, 1) := by decide +kernel
theorem dX5_keepNext_60 : decode cX5_keepNext 60 = .ok (.iadd, 1) := by decide +kernel
theorem dX5_keepNext_61 : decode cX5_keepNext 61 = .ok (.putfield 18, 3) := by decide +kernel
theorem dX5_keepNext_64 : decode cX5_keepNext 64 = .ok (.return_, 1) := by decide +kernel
theorem dX5_keepNext_7 : decode cX5_keepNext 7 = .ok (.aload_n 0, 1) := by decide +kernel
theorem dX5_keepNext_8 : decode cX5_keepNext 8 = .ok (.getfield 18, 3) := by decide +kernel
theorem dX5_pushAhead_0 : decode cX5_pushAhead 0 = .ok (.aload_n 0, 1) := by decide +kernel
theorem dX5_pushAhead_1 : decode cX5_pushAhead 1 = .ok (.getfield 22, 3) := by decide +kernel
theorem dX5_pushAhead_10 : decode cX5_pushAhead 10 = .ok (.return_, 1) := by decide +kernel
theorem dX5_pushAhead_11 : decode cX5_pushAhead 11 = .ok (.iconst 0, 1) := by decide +kernel
theorem dX5_pushAhead_12 : decode cX5_pushAhead 12 = .ok (.istore_n 3, 1) := by decide +kernel
theorem dX5_pushAhead_13 : decode cX5_pushAhead 13 = .ok (.iload_n 3, 1) := by decide +kernel
theorem dX5_pushAhead_14 : decode cX5_pushAhead 14 = .ok (.iconst 4, 1) := by decide +kernel
theorem dX5_pushAhead_15 : decode cX5_pushAhead 15 = .ok (.if_icmp .ge 29, 3) := by decide +kernel
theorem dX5_pushAhead_18 : decode cX5_pushAhead 18 = .ok (.aload_n 0, 1) := by decide +kernel
theorem dX5_pushAhead_19 : decode cX5_pushAhead 19 = .ok (.getfield 15, 3) := by decide +kernel
theorem dX5_pushAhead_22 : decode cX5_pushAhead 22 = .ok (.aload_n 0, 1) := by decide +kernel
theorem dX5_pushAhead_23 : decode cX5_pushAhead 23 = .ok (.getfield 22, 3) := by decide +kernel
theorem dX5_pushAhead_26 : decode cX5_pushAhead 26 = .ok (.iconst 4, 1) := by decide +kernel
theorem dX5_pushAhead_27 : decode cX5_pushAhead 27 = .ok (.imul, 1) := by decide +kernel
theorem dX5_pushAhead_28 : decode cX5_pushAhead 28 = .ok (.iload_n 3, 1) := by decide +kernel
theorem dX5_pushAhead_29 : decode cX5_pushAhead 29 = .ok (.iadd, 1) := by decide +kernel
theorem dX5_pushAhead_30 : decode cX5_pushAhead 30 = .ok (.iload_n 2, 1) := by decide +kernel
theorem dX5_pushAhead_31 : decode cX5_pushAhead 31 = .ok (.i2l, 1) := by decide +kernel
theorem dX5_pushAhead_32 : decode cX5_pushAhead 32 = .ok (.aload_n 1, 1) := by decide +kernel
theorem dX5_pushAhead_33 : decode cX5_pushAhead 33 = .ok (.iload_n 3, 1) := by decide +kernel
theorem dX5_pushAhead_34 : decode cX5_pushAhead 34 = .ok (.laload, 1) := by decide +kernel
theorem dX5_pushAhead_35 : decode cX5_pushAhead 35 = .ok (.lmul, 1) := by decide +kernel
theorem dX5_pushAhead_36 : decode cX5_pushAhead 36 = .ok (.l2i, 1) := by decide +kernel
theorem dX5_pushAhead_37 : decode cX5_pushAhead 37 = .ok (.iastore, 1) := by decide +kernel
theorem dX5_pushAhead_38 : decode cX5_pushAhead 38 = .ok (.iinc 3 1, 3) := by decide +kernel
theorem dX5_pushAhead_4 : decode cX5_pushAhead 4 = .ok (.sipush 128, 3) := by decide +kernel
theorem dX5_pushAhead_41 : decode cX5_pushAhead 41 = .ok (.goto (-28), 3) := by decide +kernel
theorem dX5_pushAhead_44 : decode cX5_pushAhead 44 = .ok (.aload_n 0, 1) := by decide +kernel
theorem dX5_pushAhead_45 : decode cX5_pushAhead 45 = .ok (.dup, 1) := by decide +kernel
theorem dX5_pushAhead_46 : decode cX5_pushAhead 46 = .ok (.getfield 22, 3) := by decide +kernel
theorem dX5_pushAhead_49 : decode cX5_pushAhead 49 = .ok (.iconst 1, 1) := by decide +kernel
theorem dX5_pushAhead_50 : decode cX5_pushAhead 50 = .ok (.iadd, 1) := by decide +kernel
theorem dX5_pushAhead_51 : decode cX5_pushAhead 51 = .ok (.putfield 22, 3) := by decide +kernel
theorem dX5_pushAhead_54 : decode cX5_pushAhead 54 = .ok (.return_, 1) := by decide +kernel
theorem dX5_pushAhead_7 : decode cX5_pushAhead 7 = .ok (.if_icmp .lt 4, 3) := by decide +kernel
theorem dX5_pushSum_0 : decode cX5_pushSum 0 = .ok (.aload_n 0, 1) := by decide +kernel
theorem dX5_pushSum_1 : decode cX5_pushSum 1 = .ok (.getfield 22, 3) := by decide +kernel
theorem dX5_pushSum_10 : decode cX5_pushSum 10 = .ok (.return_, 1) := by decide +kernel
theorem dX5_pushSum_11 : decode cX5_pushSum 11 = .ok (.iconst 0, 1) := by decide +kernel
theorem dX5_pushSum_12 : decode cX5_pushSum 12 = .ok (.istore_n 3, 1) := by decide +kernel
theorem dX5_pushSum_13 : decode cX5_pushSum 13 = .ok (.iload_n 3, 1) := by decide +kernel
theorem dX5_pushSum_14 : decode cX5_pushSum 14 = .ok (.iconst 4, 1) := by decide +kernel
theorem dX5_pushSum_15 : decode cX5_pushSum 15 = .ok (.if_icmp .ge 39, 3) := by decide +kernel
theorem dX5_pushSum_18 : decode cX5_pushSum 18 = .ok (.aload_n 0, 1) := by decide +kernel
theorem dX5_pushSum_19 : decode cX5_pushSum 19 = .ok (.getfield 15, 3) := by decide +kernel
theorem dX5_pushSum_22 : decode cX5_pushSum 22 = .ok (.aload_n 0, 1) := by decide +kernel
theorem dX5_pushSum_23 : decode cX5_pushSum 23 = .ok (.getfield 22, 3) := by decide +kernel
theorem dX5_pushSum_26 : decode cX5_pushSum 26 = .ok (.iconst 4, 1) := by decide +kernel
theorem dX5_pushSum_27 : decode cX5_pushSum 27 = .ok (.imul, 1) := by decide +kernel
theorem dX5_pushSum_28 : decode cX5_pushSum 28 = .ok (.iload_n 3, 1) := by decide +kernel
theorem dX5_pushSum_29 : decode cX5_pushSum 29 = .ok (.iadd, 1) := by decide +kernel
theorem dX5_pushSum_30 : decode cX5_pushSum 30 = .ok (.aload_n 0, 1) := by decide +kernel
theorem dX5_pushSum_31 : decode cX5_pushSum 31 = .ok (.getfield 11, 3) := by decide +kernel
theorem dX5_pushSum_34 : decode cX5_pushSum 34 = .ok (.iload_n 1, 1) := by decide +kernel
theorem dX5_pushSum_35 : decode cX5_pushSum 35 = .ok (.iload_n 3, 1) := by decide +kernel
theorem dX5_pushSum_36 : decode cX5_pushSum 36 = .ok (.iadd, 1) := by decide +kernel
theorem dX5_pushSum_37 : decode cX5_pushSum 37 = .ok (.iaload, 1) := by decide +kernel
theorem dX5_pushSum_38 : decode cX5_pushSum 38 = .ok (.aload_n 0, 1) := by decide +kernel
theorem dX5_pushSum_39 : decode cX5_pushSum 39 = .ok (.getfield 15, 3) := by decide +kernel
theorem dX5_pushSum_4 : decode cX5_pushSum 4 = .ok (.sipush 128, 3) := by decide +kernel
theorem dX5_pushSum_42 : decode cX5_pushSum 42 = .ok (.iload_n 2, 1) := by decide +kernel
theorem dX5_pushSum_43 : decode cX5_pushSum 43 = .ok (.iload_n 3, 1) := by decide +kernel
theorem dX5_pushSum_44 : decode cX5_pushSum 44 = .ok (.iadd, 1) := by decide +kernel
theorem dX5_pushSum_45 : decode cX5_pushSum 45 = .ok (.iaload, 1) := by decide +kernel
theorem dX5_pushSum_46 : decode cX5_pushSum 46 = .ok (.iadd, 1) := by decide +kernel
theorem dX5_pushSum_47 : decode cX5_pushSum 47 = .ok (.iastore, 1) := by decide +kernel
theorem dX5_pushSum_48 : decode cX5_pushSum 48 = .ok (.iinc 3 1, 3) := by decide +kernel
theorem dX5_pushSum_51 : decode cX5_pushSum 51 = .ok (.goto (-38), 3) := by decide +kernel
theorem dX5_pushSum_54 : decode cX5_pushSum 54 = .ok (.aload_n 0, 1) := by decide +kernel
theorem dX5_pushSum_55 : decode cX5_pushSum 55 = .ok (.dup, 1) := by decide +kernel
theorem dX5_pushSum_56 : decode cX5_pushSum 56 = .ok (.getfield 22, 3) := by decide +kernel
theorem dX5_pushSum_59 : decode cX5_pushSum 59 = .ok (.iconst 1, 1) := by decide +kernel
theorem dX5_pushSum_60 : decode cX5_pushSum 60 = .ok (.iadd, 1) := by decide +kernel
theorem dX5_pushSum_61 : decode cX5_pushSum 61 = .ok (.putfield 22, 3) := by decide +kernel
theorem dX5_pushSum_64 : decode cX5_pushSum 64 = .ok (.return_, 1) := by decide +kernel
theorem dX5_pushSum_7 : decode cX5_pushSum 7 = .ok (.if_icmp .lt 4, 3) := by decide +kernel
theorem dX5_walk_0 : decode cX5_walk 0 = .ok (.aload_n 0, 1) := by decide +kernel
theorem dX5_walk_1 : decode cX5_walk 1 = .ok (.iconst 0, 1) := by decide +kernel
theorem dX5_walk_10 : decode cX5_walk 10 = .ok (.aload_n 0, 1) := by decide +kernel
theorem dX5_walk_101 : decode cX5_walk 101 = .ok (.iinc 4 1, 3) := by decide +kernel
theorem dX5_walk_104 : decode cX5_walk 104 = .ok (.goto (-64), 3) := by decide +kernel
theorem dX5_walk_107 : decode cX5_walk 107 = .ok (.aload_n 0, 1) := by decide +kernel
theorem dX5_walk_108 : decode cX5_walk 108 = .ok (.dup, 1) := by decide +kernel
theorem dX5_walk_109 : decode cX5_walk 109 = .ok (.getfield 18, 3) := by decide +kernel
theorem dX5_walk_11 : decode cX5_walk 11 = .ok (.aload_n 1, 1) := by decide +kernel
theorem dX5_walk_112 : decode cX5_walk 112 = .ok (.iconst 1, 1) := by decide +kernel
theorem dX5_walk_113 : decode cX5_walk 113 = .ok (.isub, 1) := by decide +kernel
theorem dX5_walk_114 : decode cX5_walk 114 = .ok (.putfield 18, 3) := by decide +kernel
theorem dX5_walk_117 : decode cX5_walk 117 = .ok (.return_, 1) := by decide +kernel
theorem dX5_walk_12 : decode cX5_walk 12 = .ok (.iconst 1, 1) := by decide +kernel
theorem dX5_walk_13 : decode cX5_walk 13 = .ok (.invokevirtual 25, 3) := by decide +kernel
theorem dX5_walk_16 : decode cX5_walk 16 = .ok (.aload_n 0, 1) := by decide +kernel
theorem dX5_walk_17 : decode cX5_walk 17 = .ok (.invokevirtual 29, 3) := by decide +kernel
theorem dX5_walk_2 : decode cX5_walk 2 = .ok (.putfield 18, 3) := by decide +kernel
theorem dX5_walk_20 : decode cX5_walk 20 = .ok (.iload_n 3, 1) := by decide +kernel
theorem dX5_walk_21 : decode cX5_walk 21 = .ok (.ifCond .ne 4, 3) := by decide +kernel
theorem dX5_walk_24 : decode cX5_walk 24 = .ok (.return_, 1) := by decide +kernel
theorem dX5_walk_25 : decode cX5_walk 25 = .ok (.aload_n 0, 1) := by decide +kernel
theorem dX5_walk_26 : decode cX5_walk 26 = .ok (.aload_n 1, 1) := by decide +kernel
theorem dX5_walk_27 : decode cX5_walk 27 = .ok (.iconst (-1), 1) := by decide +kernel
theorem dX5_walk_28 : decode cX5_walk 28 = .ok (.invokevirtual 25, 3) := by decide +kernel
theorem dX5_walk_31 : decode cX5_walk 31 = .ok (.aload_n 0, 1) := by decide +kernel
theorem dX5_walk_32 : decode cX5_walk 32 = .ok (.aload_n 2, 1) := by decide +kernel
theorem dX5_walk_33 : decode cX5_walk 33 = .ok (.iconst 1, 1) := by decide +kernel
theorem dX5_walk_34 : decode cX5_walk 34 = .ok (.invokevirtual 25, 3) := by decide +kernel
theorem dX5_walk_37 : decode cX5_walk 37 = .ok (.iconst 0, 1) := by decide +kernel
theorem dX5_walk_38 : decode cX5_walk 38 = .ok (.istore 4, 2) := by decide +kernel
theorem dX5_walk_40 : decode cX5_walk 40 = .ok (.iload 4, 2) := by decide +kernel
theorem dX5_walk_42 : decode cX5_walk 42 = .ok (.sipush 10000, 3) := by decide +kernel
theorem dX5_walk_45 : decode cX5_walk 45 = .ok (.if_icmp .ge 62, 3) := by decide +kernel
theorem dX5_walk_48 : decode cX5_walk 48 = .ok (.aload_n 0, 1) := by decide +kernel
theorem dX5_walk_49 : decode cX5_walk 49 = .ok (.getfield 22, 3) := by decide +kernel
theorem dX5_walk_5 : decode cX5_walk 5 = .ok (.aload_n 0, 1) := by decide +kernel
theorem dX5_walk_52 : decode cX5_walk 52 = .ok (.ifCond .le 55, 3) := by decide +kernel
theorem dX5_walk_55 : decode cX5_walk 55 = .ok (.aload_n 0, 1) := by decide +kernel
theorem dX5_walk_56 : decode cX5_walk 56 = .ok (.getfield 18, 3) := by decide +kernel
theorem dX5_walk_59 : decode cX5_walk 59 = .ok (.iconst 1, 1) := by decide +kernel
theorem dX5_walk_6 : decode cX5_walk 6 = .ok (.iconst 0, 1) := by decide +kernel
theorem dX5_walk_60 : decode cX5_walk 60 = .ok (.isub, 1) := by decide +kernel
theorem dX5_walk_61 : decode cX5_walk 61 = .ok (.iconst 4, 1) := by decide +kernel
theorem dX5_walk_62 : decode cX5_walk 62 = .ok (.imul, 1) := by decide +kernel
theorem dX5_walk_63 : decode cX5_walk 63 = .ok (.istore 5, 2) := by decide +kernel
theorem dX5_walk_65 : decode cX5_walk 65 = .ok (.aload_n 0, 1) := by decide +kernel
theorem dX5_walk_66 : decode cX5_walk 66 = .ok (.getfield 22, 3) := by decide +kernel
theorem dX5_walk_69 : decode cX5_walk 69 = .ok (.iconst 1, 1) := by decide +kernel
theorem dX5_walk_7 : decode cX5_walk 7 = .ok (.putfield 22, 3) := by decide +kernel
theorem dX5_walk_70 : decode cX5_walk 70 = .ok (.isub, 1) := by decide +kernel
theorem dX5_walk_71 : decode cX5_walk 71 = .ok (.iconst 4, 1) := by decide +kernel
theorem dX5_walk_72 : decode cX5_walk 72 = .ok (.imul, 1) := by decide +kernel
theorem dX5_walk_73 : decode cX5_walk 73 = .ok (.istore 6, 2) := by decide +kernel
theorem dX5_walk_75 : decode cX5_walk 75 = .ok (.aload_n 0, 1) := by decide +kernel
theorem dX5_walk_76 : decode cX5_walk 76 = .ok (.iload 5, 2) := by decide +kernel
theorem dX5_walk_78 : decode cX5_walk 78 = .ok (.iload 6, 2) := by decide +kernel
theorem dX5_walk_80 : decode cX5_walk 80 = .ok (.invokevirtual 32, 3) := by decide +kernel
theorem dX5_walk_83 : decode cX5_walk 83 = .ok (.ifCond .eq 14, 3) := by decide +kernel
theorem dX5_walk_86 : decode cX5_walk 86 = .ok (.aload_n 0, 1) := by decide +kernel
theorem dX5_walk_87 : decode cX5_walk 87 = .ok (.iload 5, 2) := by decide +kernel
theorem dX5_walk_89 : decode cX5_walk 89 = .ok (.iload 6, 2) := by decide +kernel
theorem dX5_walk_91 : decode cX5_walk 91 = .ok (.invokevirtual 36, 3) := by decide +kernel
theorem dX5_walk_94 : decode cX5_walk 94 = .ok (.goto 7, 3) := by decide +kernel
theorem dX5_walk_97 : decode cX5_walk 97 = .ok (.aload_n 0, 1) := by decide +kernel
theorem dX5_walk_98 : decode cX5_walk 98 = .ok (.invokevirtual 29, 3) := by decide +kernel
theorem dX6_allElements_0 : decode cX6_allElements 0 = .ok (.iconst 0, 1) := by decide +kernel
theorem dX6_allElements_1 : decode cX6_allElements 1 = .ok (.istore_n 1, 1) := by decide +kernel
theorem dX6_allElements_10 : decode cX6_allElements 10 = .ok (.aload_n 0, 1) := by decide +kernel
theorem dX6_allElements_11 : decode cX6_allElements 11 = .ok (.getfield 18, 3) := by decide +kernel
theorem dX6_allElements_14 : decode cX6_allElements 14 = .ok (.iload_n 2, 1) := by decide +kernel
theorem dX6_allElements_15 : decode cX6_allElements 15 = .ok (.iaload, 1) := by decide +kernel
theorem dX6_allElements_16 : decode cX6_allElements 16 = .ok (.iconst 0, 1) := by decide +kernel
theorem dX6_allElements_17 : decode cX6_allElements 17 = .ok (.invokestatic 30, 3) := by decide +kernel
theorem dX6_allElements_2 : decode cX6_allElements 2 = .ok (.iconst 0, 1) := by decide +kernel
theorem dX6_allElements_20 : decode cX6_allElements 20 = .ok (.iadd, 1) := by decide +kernel
theorem dX6_allElements_21 : decode cX6_allElements 21 = .ok (.istore_n 1, 1) := by decide +kernel
theorem dX6_allElements_22 : decode cX6_allElements 22 = .ok (.iinc 2 1, 3) := by decide +kernel
theorem dX6_allElements_25 : decode cX6_allElements 25 = .ok (.goto (-21), 3) := by decide +kernel
theorem dX6_allElements_28 : decode cX6_allElements 28 = .ok (.iload_n 1, 1) := by decide +kernel
theorem dX6_allElements_29 : decode cX6_allElements 29 = .ok (.ireturn, 1) := by decide +kernel
theorem dX6_allElements_3 : decode cX6_allElements 3 = .ok (.istore_n 2, 1) := by decide +kernel
theorem dX6_allElements_4 : decode cX6_allElements 4 = .ok (.iload_n 2, 1) := by decide +kernel
theorem dX6_allElements_5 : decode cX6_allElements 5 = .ok (.iconst 4, 1) := by decide +kernel
theorem dX6_allElements_6 : decode cX6_allElements 6 = .ok (.if_icmp .ge 22, 3) := by decide +kernel
theorem dX6_allElements_9 : decode cX6_allElements 9 = .ok (.iload_n 1, 1) := by decide +kernel
theorem dX6_get_0 : decode cX6_get 0 = .ok (.iload_n 2, 1) := by decide +kernel
theorem dX6_get_1 : decode cX6_get 1 = .ok (.ifCond .lt 24, 3) := by decide +kernel
theorem dX6_get_10 : decode cX6_get 10 = .ok (.iaload, 1) := by decide +kernel
theorem dX6_get_11 : decode cX6_get 11 = .ok (.if_icmp .ge 14, 3) := by decide +kernel
theorem dX6_get_14 : decode cX6_get 14 = .ok (.aload_n 0, 1) := by decide +kernel
theorem dX6_get_15 : decode cX6_get 15 = .ok (.getfield 11, 3) := by decide +kernel
theorem dX6_get_18 : decode cX6_get 18 = .ok (.iload_n 1, 1) := by decide +kernel
theorem dX6_get_19 : decode cX6_get 19 = .ok (.aaload, 1) := by decide +kernel
theorem dX6_get_20 : decode cX6_get 20 = .ok (.iload_n 2, 1) := by decide +kernel
theorem dX6_get_21 : decode cX6_get 21 = .ok (.laload, 1) := by decide +kernel
theorem dX6_get_22 : decode cX6_get 22 = .ok (.goto 4, 3) := by decide +kernel
theorem dX6_get_25 : decode cX6_get 25 = .ok (.lconst 0, 1) := by decide +kernel
theorem dX6_get_26 : decode cX6_get 26 = .ok (.lreturn, 1) := by decide +kernel
theorem dX6_get_4 : decode cX6_get 4 = .ok (.iload_n 2, 1) := by decide +kernel
theorem dX6_get_5 : decode cX6_get 5 = .ok (.aload_n 0, 1) := by decide +kernel
theorem dX6_get_6 : decode cX6_get 6 = .ok (.getfield 18, 3) := by decide +kernel
theorem dX6_get_9 : decode cX6_get 9 = .ok (.iload_n 1, 1) := by decide +kernel
theorem dX6_isMissing_0 : decode cX6_isMissing 0 = .ok (.aload_n 0, 1) := by decide +kernel
theorem dX6_isMissing_1 : decode cX6_isMissing 1 = .ok (.getfield 18, 3) := by decide +kernel
theorem dX6_isMissing_10 : decode cX6_isMissing 10 = .ok (.iconst 1, 1) := by decide +kernel
theorem dX6_isMissing_11 : decode cX6_isMissing 11 = .ok (.goto 4, 3) := by decide +kernel
theorem dX6_isMissing_14 : decode cX6_isMissing 14 = .ok (.iconst 0, 1) := by decide +kernel
theorem dX6_isMissing_15 : decode cX6_isMissing 15 = .ok (.ireturn, 1) := by decide +kernel
theorem dX6_isMissing_4 : decode cX6_isMissing 4 = .ok (.iload_n 1, 1) := by decide +kernel
theorem dX6_isMissing_5 : decode cX6_isMissing 5 = .ok (.iaload, 1) := by decide +kernel
theorem dX6_isMissing_6 : decode cX6_isMissing 6 = .ok (.iconst (-1), 1) := by decide +kernel
theorem dX6_isMissing_7 : decode cX6_isMissing 7 = .ok (.if_icmp .ne 7, 3) := by decide +kernel
theorem dX6_isTray_0 : decode cX6_isTray 0 = .ok (.iload_n 1, 1) := by decide +kernel
theorem dX6_isTray_1 : decode cX6_isTray 1 = .ok (.ifCond .lt 12, 3) := by decide +kernel
theorem dX6_isTray_10 : decode cX6_isTray 10 = .ok (.goto 4, 3) := by decide +kernel
theorem dX6_isTray_13 : decode cX6_isTray 13 = .ok (.iconst 0, 1) := by decide +kernel
theorem dX6_isTray_14 : decode cX6_isTray 14 = .ok (.ireturn, 1) := by decide +kernel
theorem dX6_isTray_4 : decode cX6_isTray 4 = .ok (.iload_n 1, 1) := by decide +kernel
theorem dX6_isTray_5 : decode cX6_isTray 5 = .ok (.iconst 4, 1) := by decide +kernel
theorem dX6_isTray_6 : decode cX6_isTray 6 = .ok (.if_icmp .ge 7, 3) := by decide +kernel
theorem dX6_isTray_9 : decode cX6_isTray 9 = .ok (.iconst 1, 1) := by decide +kernel
theorem dX6_layOut_0 : decode cX6_layOut 0 = .ok (.aload_n 0, 1) := by decide +kernel
theorem dX6_layOut_1 : decode cX6_layOut 1 = .ok (.getfield 14, 3) := by decide +kernel
theorem dX6_layOut_11 : decode cX6_layOut 11 = .ok (.iload_n 1, 1) := by decide +kernel
theorem dX6_layOut_12 : decode cX6_layOut 12 = .ok (.iload_n 3, 1) := by decide +kernel
theorem dX6_layOut_13 : decode cX6_layOut 13 = .ok (.iastore, 1) := by decide +kernel
theorem dX6_layOut_14 : decode cX6_layOut 14 = .ok (.aload_n 0, 1) := by decide +kernel
theorem dX6_layOut_15 : decode cX6_layOut 15 = .ok (.getfield 11, 3) := by decide +kernel
theorem dX6_layOut_18 : decode cX6_layOut 18 = .ok (.iload_n 1, 1) := by decide +kernel
theorem dX6_layOut_19 : decode cX6_layOut 19 = .ok (.aaload, 1) := by decide +kernel
theorem dX6_layOut_20 : decode cX6_layOut 20 = .ok (.lconst 0, 1) := by decide +kernel
theorem dX6_layOut_21 : decode cX6_layOut 21 = .ok (.invokestatic 27, 3) := by decide +kernel
theorem dX6_layOut_24 : decode cX6_layOut 24 = .ok (.return_, 1) := by decide +kernel
theorem dX6_layOut_4 : decode cX6_layOut 4 = .ok (.iload_n 1, 1) := by decide +kernel
theorem dX6_layOut_5 : decode cX6_layOut 5 = .ok (.iload_n 2, 1) := by decide +kernel
theorem dX6_layOut_6 : decode cX6_layOut 6 = .ok (.iastore, 1) := by decide +kernel
theorem dX6_layOut_7 : decode cX6_layOut 7 = .ok (.aload_n 0, 1) := by decide +kernel
theorem dX6_layOut_8 : decode cX6_layOut 8 = .ok (.getfield 18, 3) := by decide +kernel
theorem dX6_set_0 : decode cX6_set 0 = .ok (.aload_n 0, 1) := by decide +kernel
theorem dX6_set_1 : decode cX6_set 1 = .ok (.getfield 14, 3) := by decide +kernel
theorem dX6_set_32 : decode cX6_set 32 = .ok (.aload_n 0, 1) := by decide +kernel
theorem dX6_set_33 : decode cX6_set 33 = .ok (.getfield 11, 3) := by decide +kernel
theorem dX6_set_36 : decode cX6_set 36 = .ok (.iload_n 1, 1) := by decide +kernel
theorem dX6_set_37 : decode cX6_set 37 = .ok (.aaload, 1) := by decide +kernel
theorem dX6_set_38 : decode cX6_set 38 = .ok (.iload_n 2, 1) := by decide +kernel
theorem dX6_set_39 : decode cX6_set 39 = .ok (.lload_n 3, 1) := by decide +kernel
theorem dX6_set_4 : decode cX6_set 4 = .ok (.iload_n 1, 1) := by decide +kernel
theorem dX6_set_40 : decode cX6_set 40 = .ok (.l2i, 1) := by decide +kernel
theorem dX6_set_41 : decode cX6_set 41 = .ok (.i2b, 1) := by decide +kernel
theorem dX6_set_42 : decode cX6_set 42 = .ok (.i2l, 1) := by decide +kernel
theorem dX6_set_43 : decode cX6_set 43 = .ok (.lastore, 1) := by decide +kernel
theorem dX6_set_44 : decode cX6_set 44 = .ok (.goto 41, 3) := by decide +kernel
theorem dX6_set_47 : decode cX6_set 47 = .ok (.aload_n 0, 1) := by decide +kernel
theorem dX6_set_48 : decode cX6_set 48 = .ok (.getfield 11, 3) := by decide +kernel
theorem dX6_set_5 : decode cX6_set 5 = .ok (.iaload, 1) := by decide +kernel
theorem dX6_set_51 : decode cX6_set 51 = .ok (.iload_n 1, 1) := by decide +kernel
theorem dX6_set_52 : decode cX6_set 52 = .ok (.aaload, 1) := by decide +kernel
theorem dX6_set_53 : decode cX6_set 53 = .ok (.iload_n 2, 1) := by decide +kernel
theorem dX6_set_54 : decode cX6_set 54 = .ok (.lload_n 3, 1) := by decide +kernel
theorem dX6_set_55 : decode cX6_set 55 = .ok (.l2i, 1) := by decide +kernel
theorem dX6_set_56 : decode cX6_set 56 = .ok (.i2s, 1) := by decide +kernel
theorem dX6_set_57 : decode cX6_set 57 = .ok (.i2l, 1) := by decide +kernel
theorem dX6_set_58 : decode cX6_set 58 = .ok (.lastore, 1) := by decide +kernel
theorem dX6_set_59 : decode cX6_set 59 = .ok (.goto 26, 3) := by decide +kernel
theorem dX6_set_6 : decode cX6_set 6 = .ok (.tableswitch 70 0 2 #[26, 41, 56], 26) := by decide +kernel
theorem dX6_set_62 : decode cX6_set 62 = .ok (.aload_n 0, 1) := by decide +kernel
theorem dX6_set_63 : decode cX6_set 63 = .ok (.getfield 11, 3) := by decide +kernel
theorem dX6_set_66 : decode cX6_set 66 = .ok (.iload_n 1, 1) := by decide +kernel
theorem dX6_set_67 : decode cX6_set 67 = .ok (.aaload, 1) := by decide +kernel
theorem dX6_set_68 : decode cX6_set 68 = .ok (.iload_n 2, 1) := by decide +kernel
theorem dX6_set_69 : decode cX6_set 69 = .ok (.lload_n 3, 1) := by decide +kernel
theorem dX6_set_70 : decode cX6_set 70 = .ok (.l2i, 1) := by decide +kernel
theorem dX6_set_71 : decode cX6_set 71 = .ok (.i2l, 1) := by decide +kernel
theorem dX6_set_72 : decode cX6_set 72 = .ok (.lastore, 1) := by decide +kernel
theorem dX6_set_73 : decode cX6_set 73 = .ok (.goto 12, 3) := by decide +kernel
theorem dX6_set_76 : decode cX6_set 76 = .ok (.aload_n 0, 1) := by decide +kernel
theorem dX6_set_77 : decode cX6_set 77 = .ok (.getfield 11, 3) := by decide +kernel
theorem dX6_set_80 : decode cX6_set 80 = .ok (.iload_n 1, 1) := by decide +kernel
theorem dX6_set_81 : decode cX6_set 81 = .ok (.aaload, 1) := by decide +kernel
theorem dX6_set_82 : decode cX6_set 82 = .ok (.iload_n 2, 1) := by decide +kernel
theorem dX6_set_83 : decode cX6_set 83 = .ok (.lload_n 3, 1) := by decide +kernel
theorem dX6_set_84 : decode cX6_set 84 = .ok (.lastore, 1) := by decide +kernel
theorem dX6_set_85 : decode cX6_set 85 = .ok (.return_, 1) := by decide +kernel
theorem dX7_append_0 : decode cX7_append 0 = .ok (.aload_n 0, 1) := by decide +kernel
theorem dX7_append_1 : decode cX7_append 1 = .ok (.getfield 15, 3) := by decide +kernel
theorem dX7_append_10 : decode cX7_append 10 = .ok (.iload_n 2, 1) := by decide +kernel
theorem dX7_append_11 : decode cX7_append 11 = .ok (.ifCond .lt 11, 3) := by decide +kernel
theorem dX7_append_14 : decode cX7_append 14 = .ok (.iload_n 2, 1) := by decide +kernel
theorem dX7_append_15 : decode cX7_append 15 = .ok (.aload_n 1, 1) := by decide +kernel
theorem dX7_append_16 : decode cX7_append 16 = .ok (.arraylength, 1) := by decide +kernel
theorem dX7_append_17 : decode cX7_append 17 = .ok (.iconst 4, 1) := by decide +kernel
theorem dX7_append_18 : decode cX7_append 18 = .ok (.isub, 1) := by decide +kernel
theorem dX7_append_19 : decode cX7_append 19 = .ok (.if_icmp .le 4, 3) := by decide +kernel
theorem dX7_append_22 : decode cX7_append 22 = .ok (.return_, 1) := by decide +kernel
theorem dX7_append_23 : decode cX7_append 23 = .ok (.lconst 0, 1) := by decide +kernel
theorem dX7_append_24 : decode cX7_append 24 = .ok (.lstore 4, 2) := by decide +kernel
theorem dX7_append_26 : decode cX7_append 26 = .ok (.iconst 0, 1) := by decide +kernel
theorem dX7_append_27 : decode cX7_append 27 = .ok (.istore 6, 2) := by decide +kernel
theorem dX7_append_29 : decode cX7_append 29 = .ok (.iload 6, 2) := by decide +kernel
theorem dX7_append_31 : decode cX7_append 31 = .ok (.iconst 4, 1) := by decide +kernel
theorem dX7_append_32 : decode cX7_append 32 = .ok (.if_icmp .ge 34, 3) := by decide +kernel
theorem dX7_append_35 : decode cX7_append 35 = .ok (.lload 4, 2) := by decide +kernel
theorem dX7_append_37 : decode cX7_append 37 = .ok (.bipush 11, 2) := by decide +kernel
theorem dX7_append_39 : decode cX7_append 39 = .ok (.lshl, 1) := by decide +kernel
theorem dX7_append_4 : decode cX7_append 4 = .ok (.sipush 256, 3) := by decide +kernel
theorem dX7_append_40 : decode cX7_append 40 = .ok (.iload_n 3, 1) := by decide +kernel
theorem dX7_append_41 : decode cX7_append 41 = .ok (.aload_n 1, 1) := by decide +kernel
theorem dX7_append_42 : decode cX7_append 42 = .ok (.iload_n 2, 1) := by decide +kernel
theorem dX7_append_43 : decode cX7_append 43 = .ok (.iload 6, 2) := by decide +kernel
theorem dX7_append_45 : decode cX7_append 45 = .ok (.iadd, 1) := by decide +kernel
theorem dX7_append_46 : decode cX7_append 46 = .ok (.iaload, 1) := by decide +kernel
theorem dX7_append_47 : decode cX7_append 47 = .ok (.imul, 1) := by decide +kernel
theorem dX7_append_48 : decode cX7_append 48 = .ok (.sipush 1024, 3) := by decide +kernel
theorem dX7_append_51 : decode cX7_append 51 = .ok (.iadd, 1) := by decide +kernel
theorem dX7_append_52 : decode cX7_append 52 = .ok (.sipush 2047, 3) := by decide +kernel
theorem dX7_append_55 : decode cX7_append 55 = .ok (.iand, 1) := by decide +kernel
theorem dX7_append_56 : decode cX7_append 56 = .ok (.i2l, 1) := by decide +kernel
theorem dX7_append_57 : decode cX7_append 57 = .ok (.lor, 1) := by decide +kernel
theorem dX7_append_58 : decode cX7_append 58 = .ok (.lstore 4, 2) := by decide +kernel
theorem dX7_append_60 : decode cX7_append 60 = .ok (.iinc 6 1, 3) := by decide +kernel
theorem dX7_append_63 : decode cX7_append 63 = .ok (.goto (-34), 3) := by decide +kernel
theorem dX7_append_66 : decode cX7_append 66 = .ok (.aload_n 0, 1) := by decide +kernel
theorem dX7_append_67 : decode cX7_append 67 = .ok (.getfield 11, 3) := by decide +kernel
theorem dX7_append_7 : decode cX7_append 7 = .ok (.if_icmp .ge 15, 3) := by decide +kernel
theorem dX7_append_70 : decode cX7_append 70 = .ok (.aload_n 0, 1) := by decide +kernel
theorem dX7_append_71 : decode cX7_append 71 = .ok (.getfield 15, 3) := by decide +kernel
theorem dX7_append_74 : decode cX7_append 74 = .ok (.lload 4, 2) := by decide +kernel
theorem dX7_append_76 : decode cX7_append 76 = .ok (.lastore, 1) := by decide +kernel
theorem dX7_append_77 : decode cX7_append 77 = .ok (.aload_n 0, 1) := by decide +kernel
theorem dX7_append_78 : decode cX7_append 78 = .ok (.dup, 1) := by decide +kernel
theorem dX7_append_79 : decode cX7_append 79 = .ok (.getfield 15, 3) := by decide +kernel
theorem dX7_append_82 : decode cX7_append 82 = .ok (.iconst 1, 1) := by decide +kernel
theorem dX7_append_83 : decode cX7_append 83 = .ok (.iadd, 1) := by decide +kernel
theorem dX7_append_84 : decode cX7_append 84 = .ok (.putfield 15, 3) := by decide +kernel
theorem dX7_append_87 : decode cX7_append 87 = .ok (.return_, 1) := by decide +kernel
theorem dX7_at_0 : decode cX7_at 0 = .ok (.aload_n 0, 1) := by decide +kernel
theorem dX7_at_1 : decode cX7_at 1 = .ok (.getfield 11, 3) := by decide +kernel
theorem dX7_at_10 : decode cX7_at 10 = .ok (.isub, 1) := by decide +kernel
theorem dX7_at_11 : decode cX7_at 11 = .ok (.imul, 1) := by decide +kernel
theorem dX7_at_12 : decode cX7_at 12 = .ok (.lshr, 1) := by decide +kernel
theorem dX7_at_13 : decode cX7_at 13 = .ok (.ldc2_w 19, 3) := by decide +kernel
theorem dX7_at_16 : decode cX7_at 16 = .ok (.land, 1) := by decide +kernel
theorem dX7_at_17 : decode cX7_at 17 = .ok (.l2i, 1) := by decide +kernel
theorem dX7_at_18 : decode cX7_at 18 = .ok (.sipush 1024, 3) := by decide +kernel
theorem dX7_at_21 : decode cX7_at 21 = .ok (.isub, 1) := by decide +kernel
theorem dX7_at_22 : decode cX7_at 22 = .ok (.ireturn, 1) := by decide +kernel
theorem dX7_at_4 : decode cX7_at 4 = .ok (.iload_n 1, 1) := by decide +kernel
theorem dX7_at_5 : decode cX7_at 5 = .ok (.laload, 1) := by decide +kernel
theorem dX7_at_6 : decode cX7_at 6 = .ok (.bipush 11, 2) := by decide +kernel
theorem dX7_at_8 : decode cX7_at 8 = .ok (.iconst 3, 1) := by decide +kernel
theorem dX7_at_9 : decode cX7_at 9 = .ok (.iload_n 2, 1) := by decide +kernel
theorem dX7_clear_0 : decode cX7_clear 0 = .ok (.aload_n 0, 1) := by decide +kernel
theorem dX7_clear_1 : decode cX7_clear 1 = .ok (.iconst 0, 1) := by decide +kernel
theorem dX7_clear_2 : decode cX7_clear 2 = .ok (.putfield 15, 3) := by decide +kernel
theorem dX7_clear_5 : decode cX7_clear 5 = .ok (.return_, 1) := by decide +kernel
theorem dX7_size_0 : decode cX7_size 0 = .ok (.aload_n 0, 1) := by decide +kernel
theorem dX7_size_1 : decode cX7_size 1 = .ok (.getfield 15, 3) := by decide +kernel
theorem dX7_size_4 : decode cX7_size 4 = .ok (.ireturn, 1) := by decide +kernel
theorem dX7_sort_0 : decode cX7_sort 0 = .ok (.iconst 0, 1) := by decide +kernel
theorem dX7_sort_1 : decode cX7_sort 1 = .ok (.istore_n 1, 1) := by decide +kernel
theorem dX7_sort_10 : decode cX7_sort 10 = .ok (.getstatic 21, 3) := by decide +kernel
theorem dX7_sort_101 : decode cX7_sort 101 = .ok (.goto (-99), 3) := by decide +kernel
theorem dX7_sort_104 : decode cX7_sort 104 = .ok (.return_, 1) := by decide +kernel
theorem dX7_sort_13 : decode cX7_sort 13 = .ok (.iload_n 1, 1) := by decide +kernel
theorem dX7_sort_14 : decode cX7_sort 14 = .ok (.iaload, 1) := by decide +kernel
theorem dX7_sort_15 : decode cX7_sort 15 = .ok (.istore_n 2, 1) := by decide +kernel
theorem dX7_sort_16 : decode cX7_sort 16 = .ok (.iload_n 2, 1) := by decide +kernel
theorem dX7_sort_17 : decode cX7_sort 17 = .ok (.istore_n 3, 1) := by decide +kernel
theorem dX7_sort_18 : decode cX7_sort 18 = .ok (.iload_n 3, 1) := by decide +kernel
theorem dX7_sort_19 : decode cX7_sort 19 = .ok (.aload_n 0, 1) := by decide +kernel
theorem dX7_sort_2 : decode cX7_sort 2 = .ok (.iload_n 1, 1) := by decide +kernel
theorem dX7_sort_20 : decode cX7_sort 20 = .ok (.getfield 15, 3) := by decide +kernel
theorem dX7_sort_23 : decode cX7_sort 23 = .ok (.if_icmp .ge 75, 3) := by decide +kernel
theorem dX7_sort_26 : decode cX7_sort 26 = .ok (.aload_n 0, 1) := by decide +kernel
theorem dX7_sort_27 : decode cX7_sort 27 = .ok (.getfield 11, 3) := by decide +kernel
theorem dX7_sort_3 : decode cX7_sort 3 = .ok (.getstatic 21, 3) := by decide +kernel
theorem dX7_sort_30 : decode cX7_sort 30 = .ok (.iload_n 3, 1) := by decide +kernel
theorem dX7_sort_31 : decode cX7_sort 31 = .ok (.laload, 1) := by decide +kernel
theorem dX7_sort_32 : decode cX7_sort 32 = .ok (.lstore 4, 2) := by decide +kernel
theorem dX7_sort_34 : decode cX7_sort 34 = .ok (.iload_n 3, 1) := by decide +kernel
theorem dX7_sort_35 : decode cX7_sort 35 = .ok (.istore 6, 2) := by decide +kernel
theorem dX7_sort_37 : decode cX7_sort 37 = .ok (.iload 6, 2) := by decide +kernel
theorem dX7_sort_39 : decode cX7_sort 39 = .ok (.iload_n 2, 1) := by decide +kernel
theorem dX7_sort_40 : decode cX7_sort 40 = .ok (.if_icmp .lt 43, 3) := by decide +kernel
theorem dX7_sort_43 : decode cX7_sort 43 = .ok (.aload_n 0, 1) := by decide +kernel
theorem dX7_sort_44 : decode cX7_sort 44 = .ok (.getfield 11, 3) := by decide +kernel
theorem dX7_sort_47 : decode cX7_sort 47 = .ok (.iload 6, 2) := by decide +kernel
theorem dX7_sort_49 : decode cX7_sort 49 = .ok (.iload_n 2, 1) := by decide +kernel
theorem dX7_sort_50 : decode cX7_sort 50 = .ok (.isub, 1) := by decide +kernel
theorem dX7_sort_51 : decode cX7_sort 51 = .ok (.laload, 1) := by decide +kernel
theorem dX7_sort_52 : decode cX7_sort 52 = .ok (.lload 4, 2) := by decide +kernel
theorem dX7_sort_54 : decode cX7_sort 54 = .ok (.lcmp, 1) := by decide +kernel
theorem dX7_sort_55 : decode cX7_sort 55 = .ok (.ifCond .le 28, 3) := by decide +kernel
theorem dX7_sort_58 : decode cX7_sort 58 = .ok (.aload_n 0, 1) := by decide +kernel
theorem dX7_sort_59 : decode cX7_sort 59 = .ok (.getfield 11, 3) := by decide +kernel
theorem dX7_sort_6 : decode cX7_sort 6 = .ok (.arraylength, 1) := by decide +kernel
theorem dX7_sort_62 : decode cX7_sort 62 = .ok (.iload 6, 2) := by decide +kernel
theorem dX7_sort_64 : decode cX7_sort 64 = .ok (.aload_n 0, 1) := by decide +kernel
theorem dX7_sort_65 : decode cX7_sort 65 = .ok (.getfield 11, 3) := by decide +kernel
theorem dX7_sort_68 : decode cX7_sort 68 = .ok (.iload 6, 2) := by decide +kernel
theorem dX7_sort_7 : decode cX7_sort 7 = .ok (.if_icmp .ge 97, 3) := by decide +kernel
theorem dX7_sort_70 : decode cX7_sort 70 = .ok (.iload_n 2, 1) := by decide +kernel
theorem dX7_sort_71 : decode cX7_sort 71 = .ok (.isub, 1) := by decide +kernel
theorem dX7_sort_72 : decode cX7_sort 72 = .ok (.laload, 1) := by decide +kernel
theorem dX7_sort_73 : decode cX7_sort 73 = .ok (.lastore, 1) := by decide +kernel
theorem dX7_sort_74 : decode cX7_sort 74 = .ok (.iload 6, 2) := by decide +kernel
theorem dX7_sort_76 : decode cX7_sort 76 = .ok (.iload_n 2, 1) := by decide +kernel
theorem dX7_sort_77 : decode cX7_sort 77 = .ok (.isub, 1) := by decide +kernel
theorem dX7_sort_78 : decode cX7_sort 78 = .ok (.istore 6, 2) := by decide +kernel
theorem dX7_sort_80 : decode cX7_sort 80 = .ok (.goto (-43), 3) := by decide +kernel
theorem dX7_sort_83 : decode cX7_sort 83 = .ok (.aload_n 0, 1) := by decide +kernel
theorem dX7_sort_84 : decode cX7_sort 84 = .ok (.getfield 11, 3) := by decide +kernel
theorem dX7_sort_87 : decode cX7_sort 87 = .ok (.iload 6, 2) := by decide +kernel
theorem dX7_sort_89 : decode cX7_sort 89 = .ok (.lload 4, 2) := by decide +kernel
theorem dX7_sort_91 : decode cX7_sort 91 = .ok (.lastore, 1) := by decide +kernel
theorem dX7_sort_92 : decode cX7_sort 92 = .ok (.iinc 3 1, 3) := by decide +kernel
theorem dX7_sort_95 : decode cX7_sort 95 = .ok (.goto (-77), 3) := by decide +kernel
theorem dX7_sort_98 : decode cX7_sort 98 = .ok (.iinc 1 1, 3) := by decide +kernel
theorem dX8_add_0 : decode cX8_add 0 = .ok (.aload_n 0, 1) := by decide +kernel
theorem dX8_add_1 : decode cX8_add 1 = .ok (.invokevirtual 152, 3) := by decide +kernel
theorem dX8_add_11 : decode cX8_add 11 = .ok (.aload_n 0, 1) := by decide +kernel
theorem dX8_add_12 : decode cX8_add 12 = .ok (.iconst (-1), 1) := by decide +kernel
theorem dX8_add_13 : decode cX8_add 13 = .ok (.invokevirtual 53, 3) := by decide +kernel
theorem dX8_add_16 : decode cX8_add 16 = .ok (.ireturn, 1) := by decide +kernel
theorem dX8_add_17 : decode cX8_add 17 = .ok (.iconst 0, 1) := by decide +kernel
theorem dX8_add_18 : decode cX8_add 18 = .ok (.istore_n 3, 1) := by decide +kernel
theorem dX8_add_19 : decode cX8_add 19 = .ok (.iload_n 3, 1) := by decide +kernel
theorem dX8_add_20 : decode cX8_add 20 = .ok (.iconst 4, 1) := by decide +kernel
theorem dX8_add_21 : decode cX8_add 21 = .ok (.if_icmp .ge 36, 3) := by decide +kernel
theorem dX8_add_24 : decode cX8_add 24 = .ok (.aload_n 0, 1) := by decide +kernel
theorem dX8_add_25 : decode cX8_add 25 = .ok (.getfield 46, 3) := by decide +kernel
theorem dX8_add_28 : decode cX8_add 28 = .ok (.iload_n 3, 1) := by decide +kernel
theorem dX8_add_29 : decode cX8_add 29 = .ok (.aload_n 0, 1) := by decide +kernel
theorem dX8_add_30 : decode cX8_add 30 = .ok (.getfield 39, 3) := by decide +kernel
theorem dX8_add_33 : decode cX8_add 33 = .ok (.iload_n 3, 1) := by decide +kernel
theorem dX8_add_34 : decode cX8_add 34 = .ok (.iaload, 1) := by decide +kernel
theorem dX8_add_35 : decode cX8_add 35 = .ok (.i2l, 1) := by decide +kernel
theorem dX8_add_36 : decode cX8_add 36 = .ok (.iload_n 2, 1) := by decide +kernel
theorem dX8_add_37 : decode cX8_add 37 = .ok (.i2l, 1) := by decide +kernel
theorem dX8_add_38 : decode cX8_add 38 = .ok (.aload_n 0, 1) := by decide +kernel
theorem dX8_add_39 : decode cX8_add 39 = .ok (.getfield 21, 3) := by decide +kernel
theorem dX8_add_4 : decode cX8_add 4 = .ok (.iload_n 1, 1) := by decide +kernel
theorem dX8_add_42 : decode cX8_add 42 = .ok (.iload_n 1, 1) := by decide +kernel
theorem dX8_add_43 : decode cX8_add 43 = .ok (.iload_n 3, 1) := by decide +kernel
theorem dX8_add_44 : decode cX8_add 44 = .ok (.invokevirtual 163, 3) := by decide +kernel
theorem dX8_add_47 : decode cX8_add 47 = .ok (.i2l, 1) := by decide +kernel
theorem dX8_add_48 : decode cX8_add 48 = .ok (.lmul, 1) := by decide +kernel
theorem dX8_add_49 : decode cX8_add 49 = .ok (.ladd, 1) := by decide +kernel
theorem dX8_add_5 : decode cX8_add 5 = .ok (.invokevirtual 159, 3) := by decide +kernel
theorem dX8_add_50 : decode cX8_add 50 = .ok (.lastore, 1) := by decide +kernel
theorem dX8_add_51 : decode cX8_add 51 = .ok (.iinc 3 1, 3) := by decide +kernel
theorem dX8_add_54 : decode cX8_add 54 = .ok (.goto (-35), 3) := by decide +kernel
theorem dX8_add_57 : decode cX8_add 57 = .ok (.aload_n 0, 1) := by decide +kernel
theorem dX8_add_58 : decode cX8_add 58 = .ok (.invokevirtual 184, 3) := by decide +kernel
theorem dX8_add_61 : decode cX8_add 61 = .ok (.ireturn, 1) := by decide +kernel
theorem dX8_add_8 : decode cX8_add 8 = .ok (.ifCond .ne 9, 3) := by decide +kernel
theorem dX8_amountsOfSplit_0 : decode cX8_amountsOfSplit 0 = .ok (.aload_n 0, 1) := by decide +kernel
theorem dX8_amountsOfSplit_1 : decode cX8_amountsOfSplit 1 = .ok (.getfield 39, 3) := by decide +kernel
theorem dX8_amountsOfSplit_10 : decode cX8_amountsOfSplit 10 = .ok (.iconst 4, 1) := by decide +kernel
theorem dX8_amountsOfSplit_11 : decode cX8_amountsOfSplit 11 = .ok (.invokestatic 135, 3) := by decide +kernel
theorem dX8_amountsOfSplit_14 : decode cX8_amountsOfSplit 14 = .ok (.iconst 0, 1) := by decide +kernel
theorem dX8_amountsOfSplit_15 : decode cX8_amountsOfSplit 15 = .ok (.istore 4, 2) := by decide +kernel
theorem dX8_amountsOfSplit_17 : decode cX8_amountsOfSplit 17 = .ok (.iconst 0, 1) := by decide +kernel
theorem dX8_amountsOfSplit_18 : decode cX8_amountsOfSplit 18 = .ok (.istore 5, 2) := by decide +kernel
theorem dX8_amountsOfSplit_20 : decode cX8_amountsOfSplit 20 = .ok (.iload 5, 2) := by decide +kernel
theorem dX8_amountsOfSplit_22 : decode cX8_amountsOfSplit 22 = .ok (.iload_n 3, 1) := by decide +kernel
theorem dX8_amountsOfSplit_23 : decode cX8_amountsOfSplit 23 = .ok (.if_icmp .ge 61, 3) := by decide +kernel
theorem dX8_amountsOfSplit_26 : decode cX8_amountsOfSplit 26 = .ok (.iload 5, 2) := by decide +kernel
theorem dX8_amountsOfSplit_28 : decode cX8_amountsOfSplit 28 = .ok (.aload_n 1, 1) := by decide +kernel
theorem dX8_amountsOfSplit_29 : decode cX8_amountsOfSplit 29 = .ok (.invokevirtual 156, 3) := by decide +kernel
theorem dX8_amountsOfSplit_32 : decode cX8_amountsOfSplit 32 = .ok (.if_icmp .ge 52, 3) := by decide +kernel
theorem dX8_amountsOfSplit_35 : decode cX8_amountsOfSplit 35 = .ok (.aload_n 1, 1) := by decide +kernel
theorem dX8_amountsOfSplit_36 : decode cX8_amountsOfSplit 36 = .ok (.iload 5, 2) := by decide +kernel
theorem dX8_amountsOfSplit_38 : decode cX8_amountsOfSplit 38 = .ok (.aload_n 0, 1) := by decide +kernel
theorem dX8_amountsOfSplit_39 : decode cX8_amountsOfSplit 39 = .ok (.getfield 43, 3) := by decide +kernel
theorem dX8_amountsOfSplit_4 : decode cX8_amountsOfSplit 4 = .ok (.iconst 0, 1) := by decide +kernel
theorem dX8_amountsOfSplit_42 : decode cX8_amountsOfSplit 42 = .ok (.invokevirtual 176, 3) := by decide +kernel
theorem dX8_amountsOfSplit_45 : decode cX8_amountsOfSplit 45 = .ok (.istore 6, 2) := by decide +kernel
theorem dX8_amountsOfSplit_47 : decode cX8_amountsOfSplit 47 = .ok (.iload 6, 2) := by decide +kernel
theorem dX8_amountsOfSplit_49 : decode cX8_amountsOfSplit 49 = .ok (.ifCond .le 16, 3) := by decide +kernel
theorem dX8_amountsOfSplit_5 : decode cX8_amountsOfSplit 5 = .ok (.aload_n 0, 1) := by decide +kernel
theorem dX8_amountsOfSplit_52 : decode cX8_amountsOfSplit 52 = .ok (.aload_n 1, 1) := by decide +kernel
theorem dX8_amountsOfSplit_53 : decode cX8_amountsOfSplit 53 = .ok (.iload 5, 2) := by decide +kernel
theorem dX8_amountsOfSplit_55 : decode cX8_amountsOfSplit 55 = .ok (.iload 6, 2) := by decide +kernel
theorem dX8_amountsOfSplit_57 : decode cX8_amountsOfSplit 57 = .ok (.ineg, 1) := by decide +kernel
theorem dX8_amountsOfSplit_58 : decode cX8_amountsOfSplit 58 = .ok (.aload_n 0, 1) := by decide +kernel
theorem dX8_amountsOfSplit_59 : decode cX8_amountsOfSplit 59 = .ok (.getfield 43, 3) := by decide +kernel
theorem dX8_amountsOfSplit_6 : decode cX8_amountsOfSplit 6 = .ok (.getfield 43, 3) := by decide +kernel
theorem dX8_amountsOfSplit_62 : decode cX8_amountsOfSplit 62 = .ok (.invokevirtual 239, 3) := by decide +kernel
theorem dX8_amountsOfSplit_65 : decode cX8_amountsOfSplit 65 = .ok (.iload 5, 2) := by decide +kernel
theorem dX8_amountsOfSplit_67 : decode cX8_amountsOfSplit 67 = .ok (.iload_n 2, 1) := by decide +kernel
theorem dX8_amountsOfSplit_68 : decode cX8_amountsOfSplit 68 = .ok (.if_icmp .lt 10, 3) := by decide +kernel
theorem dX8_amountsOfSplit_71 : decode cX8_amountsOfSplit 71 = .ok (.iload 4, 2) := by decide +kernel
theorem dX8_amountsOfSplit_73 : decode cX8_amountsOfSplit 73 = .ok (.iload 6, 2) := by decide +kernel
theorem dX8_amountsOfSplit_75 : decode cX8_amountsOfSplit 75 = .ok (.iadd, 1) := by decide +kernel
theorem dX8_amountsOfSplit_76 : decode cX8_amountsOfSplit 76 = .ok (.istore 4, 2) := by decide +kernel
theorem dX8_amountsOfSplit_78 : decode cX8_amountsOfSplit 78 = .ok (.iinc 5 1, 3) := by decide +kernel
theorem dX8_amountsOfSplit_81 : decode cX8_amountsOfSplit 81 = .ok (.goto (-61), 3) := by decide +kernel
theorem dX8_amountsOfSplit_84 : decode cX8_amountsOfSplit 84 = .ok (.iload 4, 2) := by decide +kernel
theorem dX8_amountsOfSplit_86 : decode cX8_amountsOfSplit 86 = .ok (.ireturn, 1) := by decide +kernel
theorem dX8_amountsOfSplit_9 : decode cX8_amountsOfSplit 9 = .ok (.iconst 0, 1) := by decide +kernel
theorem dX8_back_0 : decode cX8_back 0 = .ok (.aload_n 0, 1) := by decide +kernel
theorem dX8_back_1 : decode cX8_back 1 = .ok (.invokevirtual 152, 3) := by decide +kernel
theorem dX8_back_11 : decode cX8_back 11 = .ok (.aload_n 0, 1) := by decide +kernel
theorem dX8_back_12 : decode cX8_back 12 = .ok (.iconst (-1), 1) := by decide +kernel
theorem dX8_back_13 : decode cX8_back 13 = .ok (.invokevirtual 53, 3) := by decide +kernel
theorem dX8_back_16 : decode cX8_back 16 = .ok (.ireturn, 1) := by decide +kernel
theorem dX8_back_17 : decode cX8_back 17 = .ok (.aload_n 0, 1) := by decide +kernel
theorem dX8_back_18 : decode cX8_back 18 = .ok (.getfield 21, 3) := by decide +kernel
theorem dX8_back_21 : decode cX8_back 21 = .ok (.invokevirtual 156, 3) := by decide +kernel
theorem dX8_back_24 : decode cX8_back 24 = .ok (.iconst 1, 1) := by decide +kernel
theorem dX8_back_25 : decode cX8_back 25 = .ok (.isub, 1) := by decide +kernel
theorem dX8_back_26 : decode cX8_back 26 = .ok (.iload_n 1, 1) := by decide +kernel
theorem dX8_back_27 : decode cX8_back 27 = .ok (.isub, 1) := by decide +kernel
theorem dX8_back_28 : decode cX8_back 28 = .ok (.ireturn, 1) := by decide +kernel
theorem dX8_back_4 : decode cX8_back 4 = .ok (.iload_n 1, 1) := by decide +kernel
theorem dX8_back_5 : decode cX8_back 5 = .ok (.invokevirtual 159, 3) := by decide +kernel
theorem dX8_back_8 : decode cX8_back 8 = .ok (.ifCond .ne 9, 3) := by decide +kernel
theorem dX8_best_0 : decode cX8_best 0 = .ok (.aload_n 0, 1) := by decide +kernel
theorem dX8_best_1 : decode cX8_best 1 = .ok (.getfield 10, 3) := by decide +kernel
theorem dX8_best_11 : decode cX8_best 11 = .ok (.ifCond .ne 10, 3) := by decide +kernel
theorem dX8_best_14 : decode cX8_best 14 = .ok (.aload_n 0, 1) := by decide +kernel
theorem dX8_best_15 : decode cX8_best 15 = .ok (.bipush (-5), 2) := by decide +kernel
theorem dX8_best_17 : decode cX8_best 17 = .ok (.invokevirtual 53, 3) := by decide +kernel
theorem dX8_best_20 : decode cX8_best 20 = .ok (.ireturn, 1) := by decide +kernel
theorem dX8_best_21 : decode cX8_best 21 = .ok (.aload_n 0, 1) := by decide +kernel
theorem dX8_best_22 : decode cX8_best 22 = .ok (.invokevirtual 152, 3) := by decide +kernel
theorem dX8_best_25 : decode cX8_best 25 = .ok (.astore_n 1, 1) := by decide +kernel
theorem dX8_best_26 : decode cX8_best 26 = .ok (.iconst 0, 1) := by decide +kernel
theorem dX8_best_27 : decode cX8_best 27 = .ok (.istore_n 2, 1) := by decide +kernel
theorem dX8_best_28 : decode cX8_best 28 = .ok (.iload_n 2, 1) := by decide +kernel
theorem dX8_best_29 : decode cX8_best 29 = .ok (.ldc 195, 2) := by decide +kernel
theorem dX8_best_31 : decode cX8_best 31 = .ok (.if_icmp .ge 19, 3) := by decide +kernel
theorem dX8_best_34 : decode cX8_best 34 = .ok (.aload_n 0, 1) := by decide +kernel
theorem dX8_best_35 : decode cX8_best 35 = .ok (.aload_n 1, 1) := by decide +kernel
theorem dX8_best_36 : decode cX8_best 36 = .ok (.invokevirtual 191, 3) := by decide +kernel
theorem dX8_best_39 : decode cX8_best 39 = .ok (.ldc 162, 2) := by decide +kernel
theorem dX8_best_4 : decode cX8_best 4 = .ok (.aload_n 0, 1) := by decide +kernel
theorem dX8_best_41 : decode cX8_best 41 = .ok (.if_icmp .eq 9, 3) := by decide +kernel
theorem dX8_best_44 : decode cX8_best 44 = .ok (.iinc 2 1, 3) := by decide +kernel
theorem dX8_best_47 : decode cX8_best 47 = .ok (.goto (-19), 3) := by decide +kernel
theorem dX8_best_5 : decode cX8_best 5 = .ok (.getfield 39, 3) := by decide +kernel
theorem dX8_best_50 : decode cX8_best 50 = .ok (.iload_n 2, 1) := by decide +kernel
theorem dX8_best_51 : decode cX8_best 51 = .ok (.ireturn, 1) := by decide +kernel
theorem dX8_best_8 : decode cX8_best 8 = .ok (.invokevirtual 173, 3) := by decide +kernel
theorem dX8_betterHand_0 : decode cX8_betterHand 0 = .ok (.ldc 162, 2) := by decide +kernel
theorem dX8_betterHand_100 : decode cX8_betterHand 100 = .ok (.iinc 12 1, 3) := by decide +kernel
theorem dX8_betterHand_103 : decode cX8_betterHand 103 = .ok (.goto (-43), 3) := by decide +kernel
theorem dX8_betterHand_106 : decode cX8_betterHand 106 = .ok (.iinc 6 1, 3) := by decide +kernel
theorem dX8_betterHand_109 : decode cX8_betterHand 109 = .ok (.goto (-98), 3) := by decide +kernel
theorem dX8_betterHand_11 : decode cX8_betterHand 11 = .ok (.iload 6, 2) := by decide +kernel
theorem dX8_betterHand_112 : decode cX8_betterHand 112 = .ok (.iload_n 2, 1) := by decide +kernel
theorem dX8_betterHand_113 : decode cX8_betterHand 113 = .ok (.ldc 162, 2) := by decide +kernel
theorem dX8_betterHand_115 : decode cX8_betterHand 115 = .ok (.if_icmp .eq 13, 3) := by decide +kernel
theorem dX8_betterHand_118 : decode cX8_betterHand 118 = .ok (.aload_n 1, 1) := by decide +kernel
theorem dX8_betterHand_119 : decode cX8_betterHand 119 = .ok (.iload_n 2, 1) := by decide +kernel
theorem dX8_betterHand_120 : decode cX8_betterHand 120 = .ok (.iload_n 3, 1) := by decide +kernel
theorem dX8_betterHand_121 : decode cX8_betterHand 121 = .ok (.aload_n 0, 1) := by decide +kernel
theorem dX8_betterHand_122 : decode cX8_betterHand 122 = .ok (.getfield 39, 3) := by decide +kernel
theorem dX8_betterHand_125 : decode cX8_betterHand 125 = .ok (.invokevirtual 239, 3) := by decide +kernel
theorem dX8_betterHand_128 : decode cX8_betterHand 128 = .ok (.iload_n 2, 1) := by decide +kernel
theorem dX8_betterHand_129 : decode cX8_betterHand 129 = .ok (.ireturn, 1) := by decide +kernel
theorem dX8_betterHand_13 : decode cX8_betterHand 13 = .ok (.aload_n 1, 1) := by decide +kernel
theorem dX8_betterHand_14 : decode cX8_betterHand 14 = .ok (.invokevirtual 156, 3) := by decide +kernel
theorem dX8_betterHand_17 : decode cX8_betterHand 17 = .ok (.if_icmp .ge 95, 3) := by decide +kernel
theorem dX8_betterHand_2 : decode cX8_betterHand 2 = .ok (.istore_n 2, 1) := by decide +kernel
theorem dX8_betterHand_20 : decode cX8_betterHand 20 = .ok (.aload_n 1, 1) := by decide +kernel
theorem dX8_betterHand_21 : decode cX8_betterHand 21 = .ok (.iload 6, 2) := by decide +kernel
theorem dX8_betterHand_23 : decode cX8_betterHand 23 = .ok (.aload_n 0, 1) := by decide +kernel
theorem dX8_betterHand_24 : decode cX8_betterHand 24 = .ok (.getfield 39, 3) := by decide +kernel
theorem dX8_betterHand_27 : decode cX8_betterHand 27 = .ok (.invokevirtual 221, 3) := by decide +kernel
theorem dX8_betterHand_3 : decode cX8_betterHand 3 = .ok (.iconst 0, 1) := by decide +kernel
theorem dX8_betterHand_30 : decode cX8_betterHand 30 = .ok (.istore 7, 2) := by decide +kernel
theorem dX8_betterHand_32 : decode cX8_betterHand 32 = .ok (.iload 7, 2) := by decide +kernel
theorem dX8_betterHand_34 : decode cX8_betterHand 34 = .ok (.ifCond .le 72, 3) := by decide +kernel
theorem dX8_betterHand_37 : decode cX8_betterHand 37 = .ok (.aload_n 1, 1) := by decide +kernel
theorem dX8_betterHand_38 : decode cX8_betterHand 38 = .ok (.iload 6, 2) := by decide +kernel
theorem dX8_betterHand_4 : decode cX8_betterHand 4 = .ok (.istore_n 3, 1) := by decide +kernel
theorem dX8_betterHand_40 : decode cX8_betterHand 40 = .ok (.aload_n 0, 1) := by decide +kernel
theorem dX8_betterHand_41 : decode cX8_betterHand 41 = .ok (.getfield 39, 3) := by decide +kernel
theorem dX8_betterHand_44 : decode cX8_betterHand 44 = .ok (.invokevirtual 243, 3) := by decide +kernel
theorem dX8_betterHand_47 : decode cX8_betterHand 47 = .ok (.lstore 8, 2) := by decide +kernel
theorem dX8_betterHand_49 : decode cX8_betterHand 49 = .ok (.aload_n 1, 1) := by decide +kernel
theorem dX8_betterHand_5 : decode cX8_betterHand 5 = .ok (.lconst 0, 1) := by decide +kernel
theorem dX8_betterHand_50 : decode cX8_betterHand 50 = .ok (.iload 6, 2) := by decide +kernel
theorem dX8_betterHand_52 : decode cX8_betterHand 52 = .ok (.invokevirtual 247, 3) := by decide +kernel
theorem dX8_betterHand_55 : decode cX8_betterHand 55 = .ok (.lstore 10, 2) := by decide +kernel
theorem dX8_betterHand_57 : decode cX8_betterHand 57 = .ok (.iconst 1, 1) := by decide +kernel
theorem dX8_betterHand_58 : decode cX8_betterHand 58 = .ok (.istore 12, 2) := by decide +kernel
theorem dX8_betterHand_6 : decode cX8_betterHand 6 = .ok (.lstore 4, 2) := by decide +kernel
theorem dX8_betterHand_60 : decode cX8_betterHand 60 = .ok (.iload 12, 2) := by decide +kernel
theorem dX8_betterHand_62 : decode cX8_betterHand 62 = .ok (.iload 7, 2) := by decide +kernel
theorem dX8_betterHand_64 : decode cX8_betterHand 64 = .ok (.if_icmp .gt 42, 3) := by decide +kernel
theorem dX8_betterHand_67 : decode cX8_betterHand 67 = .ok (.lload 8, 2) := by decide +kernel
theorem dX8_betterHand_69 : decode cX8_betterHand 69 = .ok (.lload 10, 2) := by decide +kernel
theorem dX8_betterHand_71 : decode cX8_betterHand 71 = .ok (.iload 12, 2) := by decide +kernel
theorem dX8_betterHand_73 : decode cX8_betterHand 73 = .ok (.i2l, 1) := by decide +kernel
theorem dX8_betterHand_74 : decode cX8_betterHand 74 = .ok (.lmul, 1) := by decide +kernel
theorem dX8_betterHand_75 : decode cX8_betterHand 75 = .ok (.ladd, 1) := by decide +kernel
theorem dX8_betterHand_76 : decode cX8_betterHand 76 = .ok (.iload 12, 2) := by decide +kernel
theorem dX8_betterHand_78 : decode cX8_betterHand 78 = .ok (.i2l, 1) := by decide +kernel
theorem dX8_betterHand_79 : decode cX8_betterHand 79 = .ok (.lmul, 1) := by decide +kernel
theorem dX8_betterHand_8 : decode cX8_betterHand 8 = .ok (.iconst 0, 1) := by decide +kernel
theorem dX8_betterHand_80 : decode cX8_betterHand 80 = .ok (.lstore 13, 2) := by decide +kernel
theorem dX8_betterHand_82 : decode cX8_betterHand 82 = .ok (.lload 13, 2) := by decide +kernel
theorem dX8_betterHand_84 : decode cX8_betterHand 84 = .ok (.lload 4, 2) := by decide +kernel
theorem dX8_betterHand_86 : decode cX8_betterHand 86 = .ok (.lcmp, 1) := by decide +kernel
theorem dX8_betterHand_87 : decode cX8_betterHand 87 = .ok (.ifCond .ge 13, 3) := by decide +kernel
theorem dX8_betterHand_9 : decode cX8_betterHand 9 = .ok (.istore 6, 2) := by decide +kernel
theorem dX8_betterHand_90 : decode cX8_betterHand 90 = .ok (.iload 6, 2) := by decide +kernel
theorem dX8_betterHand_92 : decode cX8_betterHand 92 = .ok (.istore_n 2, 1) := by decide +kernel
theorem dX8_betterHand_93 : decode cX8_betterHand 93 = .ok (.iload 12, 2) := by decide +kernel
theorem dX8_betterHand_95 : decode cX8_betterHand 95 = .ok (.istore_n 3, 1) := by decide +kernel
theorem dX8_betterHand_96 : decode cX8_betterHand 96 = .ok (.lload 13, 2) := by decide +kernel
theorem dX8_betterHand_98 : decode cX8_betterHand 98 = .ok (.lstore 4, 2) := by decide +kernel
theorem dX8_better_0 : decode cX8_better 0 = .ok (.aload_n 0, 1) := by decide +kernel
theorem dX8_better_1 : decode cX8_better 1 = .ok (.getfield 10, 3) := by decide +kernel
theorem dX8_better_11 : decode cX8_better 11 = .ok (.ifCond .ne 10, 3) := by decide +kernel
theorem dX8_better_14 : decode cX8_better 14 = .ok (.aload_n 0, 1) := by decide +kernel
theorem dX8_better_15 : decode cX8_better 15 = .ok (.bipush (-5), 2) := by decide +kernel
theorem dX8_better_17 : decode cX8_better 17 = .ok (.invokevirtual 53, 3) := by decide +kernel
theorem dX8_better_20 : decode cX8_better 20 = .ok (.ireturn, 1) := by decide +kernel
theorem dX8_better_21 : decode cX8_better 21 = .ok (.aload_n 0, 1) := by decide +kernel
theorem dX8_better_22 : decode cX8_better 22 = .ok (.aload_n 0, 1) := by decide +kernel
theorem dX8_better_23 : decode cX8_better 23 = .ok (.invokevirtual 152, 3) := by decide +kernel
theorem dX8_better_26 : decode cX8_better 26 = .ok (.invokevirtual 191, 3) := by decide +kernel
theorem dX8_better_29 : decode cX8_better 29 = .ok (.ireturn, 1) := by decide +kernel
theorem dX8_better_4 : decode cX8_better 4 = .ok (.aload_n 0, 1) := by decide +kernel
theorem dX8_better_5 : decode cX8_better 5 = .ok (.getfield 39, 3) := by decide +kernel
theorem dX8_better_8 : decode cX8_better 8 = .ok (.invokevirtual 173, 3) := by decide +kernel
theorem dX8_bound_0 : decode cX8_bound 0 = .ok (.aload_n 0, 1) := by decide +kernel
theorem dX8_bound_1 : decode cX8_bound 1 = .ok (.getfield 10, 3) := by decide +kernel
theorem dX8_bound_11 : decode cX8_bound 11 = .ok (.aload_n 0, 1) := by decide +kernel
theorem dX8_bound_12 : decode cX8_bound 12 = .ok (.iconst (-1), 1) := by decide +kernel
theorem dX8_bound_13 : decode cX8_bound 13 = .ok (.invokevirtual 53, 3) := by decide +kernel
theorem dX8_bound_16 : decode cX8_bound 16 = .ok (.ireturn, 1) := by decide +kernel
theorem dX8_bound_17 : decode cX8_bound 17 = .ok (.iload_n 2, 1) := by decide +kernel
theorem dX8_bound_18 : decode cX8_bound 18 = .ok (.bipush (-10), 2) := by decide +kernel
theorem dX8_bound_20 : decode cX8_bound 20 = .ok (.if_icmp .lt 9, 3) := by decide +kernel
theorem dX8_bound_23 : decode cX8_bound 23 = .ok (.iload_n 3, 1) := by decide +kernel
theorem dX8_bound_24 : decode cX8_bound 24 = .ok (.bipush (-10), 2) := by decide +kernel
theorem dX8_bound_26 : decode cX8_bound 26 = .ok (.if_icmp .ge 10, 3) := by decide +kernel
theorem dX8_bound_29 : decode cX8_bound 29 = .ok (.aload_n 0, 1) := by decide +kernel
theorem dX8_bound_30 : decode cX8_bound 30 = .ok (.bipush (-4), 2) := by decide +kernel
theorem dX8_bound_32 : decode cX8_bound 32 = .ok (.invokevirtual 53, 3) := by decide +kernel
theorem dX8_bound_35 : decode cX8_bound 35 = .ok (.ireturn, 1) := by decide +kernel
theorem dX8_bound_36 : decode cX8_bound 36 = .ok (.iload_n 2, 1) := by decide +kernel
theorem dX8_bound_37 : decode cX8_bound 37 = .ok (.bipush 10, 2) := by decide +kernel
theorem dX8_bound_39 : decode cX8_bound 39 = .ok (.if_icmp .gt 9, 3) := by decide +kernel
theorem dX8_bound_4 : decode cX8_bound 4 = .ok (.iload_n 1, 1) := by decide +kernel
theorem dX8_bound_42 : decode cX8_bound 42 = .ok (.iload_n 3, 1) := by decide +kernel
theorem dX8_bound_43 : decode cX8_bound 43 = .ok (.bipush 10, 2) := by decide +kernel
theorem dX8_bound_45 : decode cX8_bound 45 = .ok (.if_icmp .le 10, 3) := by decide +kernel
theorem dX8_bound_48 : decode cX8_bound 48 = .ok (.aload_n 0, 1) := by decide +kernel
theorem dX8_bound_49 : decode cX8_bound 49 = .ok (.bipush (-6), 2) := by decide +kernel
theorem dX8_bound_5 : decode cX8_bound 5 = .ok (.invokevirtual 82, 3) := by decide +kernel
theorem dX8_bound_51 : decode cX8_bound 51 = .ok (.invokevirtual 53, 3) := by decide +kernel
theorem dX8_bound_54 : decode cX8_bound 54 = .ok (.ireturn, 1) := by decide +kernel
theorem dX8_bound_55 : decode cX8_bound 55 = .ok (.aload_n 0, 1) := by decide +kernel
theorem dX8_bound_56 : decode cX8_bound 56 = .ok (.getfield 10, 3) := by decide +kernel
theorem dX8_bound_59 : decode cX8_bound 59 = .ok (.getfield 100, 3) := by decide +kernel
theorem dX8_bound_62 : decode cX8_bound 62 = .ok (.iload_n 1, 1) := by decide +kernel
theorem dX8_bound_63 : decode cX8_bound 63 = .ok (.iload_n 2, 1) := by decide +kernel
theorem dX8_bound_64 : decode cX8_bound 64 = .ok (.iastore, 1) := by decide +kernel
theorem dX8_bound_65 : decode cX8_bound 65 = .ok (.aload_n 0, 1) := by decide +kernel
theorem dX8_bound_66 : decode cX8_bound 66 = .ok (.getfield 10, 3) := by decide +kernel
theorem dX8_bound_69 : decode cX8_bound 69 = .ok (.getfield 103, 3) := by decide +kernel
theorem dX8_bound_72 : decode cX8_bound 72 = .ok (.iload_n 1, 1) := by decide +kernel
theorem dX8_bound_73 : decode cX8_bound 73 = .ok (.iload_n 3, 1) := by decide +kernel
theorem dX8_bound_74 : decode cX8_bound 74 = .ok (.iastore, 1) := by decide +kernel
theorem dX8_bound_75 : decode cX8_bound 75 = .ok (.aload_n 0, 1) := by decide +kernel
theorem dX8_bound_76 : decode cX8_bound 76 = .ok (.getfield 28, 3) := by decide +kernel
theorem dX8_bound_79 : decode cX8_bound 79 = .ok (.iconst 1, 1) := by decide +kernel
theorem dX8_bound_8 : decode cX8_bound 8 = .ok (.ifCond .ne 9, 3) := by decide +kernel
theorem dX8_bound_80 : decode cX8_bound 80 = .ok (.putfield 96, 3) := by decide +kernel
theorem dX8_bound_83 : decode cX8_bound 83 = .ok (.iconst 1, 1) := by decide +kernel
theorem dX8_bound_84 : decode cX8_bound 84 = .ok (.ireturn, 1) := by decide +kernel
theorem dX8_cell_0 : decode cX8_cell 0 = .ok (.aload_n 0, 1) := by decide +kernel
theorem dX8_cell_1 : decode cX8_cell 1 = .ok (.getfield 35, 3) := by decide +kernel
theorem dX8_cell_11 : decode cX8_cell 11 = .ok (.aload_n 0, 1) := by decide +kernel
theorem dX8_cell_12 : decode cX8_cell 12 = .ok (.iconst (-1), 1) := by decide +kernel
theorem dX8_cell_13 : decode cX8_cell 13 = .ok (.invokevirtual 53, 3) := by decide +kernel
theorem dX8_cell_16 : decode cX8_cell 16 = .ok (.ireturn, 1) := by decide +kernel
theorem dX8_cell_17 : decode cX8_cell 17 = .ok (.aload_n 0, 1) := by decide +kernel
theorem dX8_cell_18 : decode cX8_cell 18 = .ok (.getfield 35, 3) := by decide +kernel
theorem dX8_cell_21 : decode cX8_cell 21 = .ok (.iload_n 1, 1) := by decide +kernel
theorem dX8_cell_22 : decode cX8_cell 22 = .ok (.invokevirtual 118, 3) := by decide +kernel
theorem dX8_cell_25 : decode cX8_cell 25 = .ok (.ifCond .eq 10, 3) := by decide +kernel
theorem dX8_cell_28 : decode cX8_cell 28 = .ok (.aload_n 0, 1) := by decide +kernel
theorem dX8_cell_29 : decode cX8_cell 29 = .ok (.bipush (-7), 2) := by decide +kernel
theorem dX8_cell_31 : decode cX8_cell 31 = .ok (.invokevirtual 53, 3) := by decide +kernel
theorem dX8_cell_34 : decode cX8_cell 34 = .ok (.ireturn, 1) := by decide +kernel
theorem dX8_cell_35 : decode cX8_cell 35 = .ok (.iload_n 2, 1) := by decide +kernel
theorem dX8_cell_36 : decode cX8_cell 36 = .ok (.ifCond .lt 16, 3) := by decide +kernel
theorem dX8_cell_39 : decode cX8_cell 39 = .ok (.iload_n 2, 1) := by decide +kernel
theorem dX8_cell_4 : decode cX8_cell 4 = .ok (.iload_n 1, 1) := by decide +kernel
theorem dX8_cell_40 : decode cX8_cell 40 = .ok (.aload_n 0, 1) := by decide +kernel
theorem dX8_cell_41 : decode cX8_cell 41 = .ok (.getfield 35, 3) := by decide +kernel
theorem dX8_cell_44 : decode cX8_cell 44 = .ok (.getfield 121, 3) := by decide +kernel
theorem dX8_cell_47 : decode cX8_cell 47 = .ok (.iload_n 1, 1) := by decide +kernel
theorem dX8_cell_48 : decode cX8_cell 48 = .ok (.iaload, 1) := by decide +kernel
theorem dX8_cell_49 : decode cX8_cell 49 = .ok (.if_icmp .lt 10, 3) := by decide +kernel
theorem dX8_cell_5 : decode cX8_cell 5 = .ok (.invokevirtual 112, 3) := by decide +kernel
theorem dX8_cell_52 : decode cX8_cell 52 = .ok (.aload_n 0, 1) := by decide +kernel
theorem dX8_cell_53 : decode cX8_cell 53 = .ok (.bipush (-3), 2) := by decide +kernel
theorem dX8_cell_55 : decode cX8_cell 55 = .ok (.invokevirtual 53, 3) := by decide +kernel
theorem dX8_cell_58 : decode cX8_cell 58 = .ok (.ireturn, 1) := by decide +kernel
theorem dX8_cell_59 : decode cX8_cell 59 = .ok (.aload_n 0, 1) := by decide +kernel
theorem dX8_cell_60 : decode cX8_cell 60 = .ok (.getfield 35, 3) := by decide +kernel
theorem dX8_cell_63 : decode cX8_cell 63 = .ok (.iload_n 1, 1) := by decide +kernel
theorem dX8_cell_64 : decode cX8_cell 64 = .ok (.iload_n 2, 1) := by decide +kernel
theorem dX8_cell_65 : decode cX8_cell 65 = .ok (.lload_n 3, 1) := by decide +kernel
theorem dX8_cell_66 : decode cX8_cell 66 = .ok (.invokevirtual 124, 3) := by decide +kernel
theorem dX8_cell_69 : decode cX8_cell 69 = .ok (.iconst 1, 1) := by decide +kernel
theorem dX8_cell_70 : decode cX8_cell 70 = .ok (.ireturn, 1) := by decide +kernel
theorem dX8_cell_8 : decode cX8_cell 8 = .ok (.ifCond .ne 9, 3) := by decide +kernel
theorem dX8_copy_0 : decode cX8_copy 0 = .ok (.aload_n 0, 1) := by decide +kernel
theorem dX8_copy_1 : decode cX8_copy 1 = .ok (.getfield 35, 3) := by decide +kernel
theorem dX8_copy_100 : decode cX8_copy 100 = .ok (.getfield 35, 3) := by decide +kernel
theorem dX8_copy_103 : decode cX8_copy 103 = .ok (.getfield 121, 3) := by decide +kernel
theorem dX8_copy_106 : decode cX8_copy 106 = .ok (.iload_n 3, 1) := by decide +kernel
theorem dX8_copy_107 : decode cX8_copy 107 = .ok (.iaload, 1) := by decide +kernel
theorem dX8_copy_108 : decode cX8_copy 108 = .ok (.if_icmp .gt 23, 3) := by decide +kernel
theorem dX8_copy_11 : decode cX8_copy 11 = .ok (.aload_n 0, 1) := by decide +kernel
theorem dX8_copy_111 : decode cX8_copy 111 = .ok (.iload_n 2, 1) := by decide +kernel
theorem dX8_copy_112 : decode cX8_copy 112 = .ok (.ifCond .lt 19, 3) := by decide +kernel
theorem dX8_copy_115 : decode cX8_copy 115 = .ok (.iload_n 2, 1) := by decide +kernel
theorem dX8_copy_116 : decode cX8_copy 116 = .ok (.aload_n 0, 1) := by decide +kernel
theorem dX8_copy_117 : decode cX8_copy 117 = .ok (.getfield 35, 3) := by decide +kernel
theorem dX8_copy_12 : decode cX8_copy 12 = .ok (.getfield 35, 3) := by decide +kernel
theorem dX8_copy_120 : decode cX8_copy 120 = .ok (.getfield 121, 3) := by decide +kernel
theorem dX8_copy_123 : decode cX8_copy 123 = .ok (.iload_n 1, 1) := by decide +kernel
theorem dX8_copy_124 : decode cX8_copy 124 = .ok (.iaload, 1) := by decide +kernel
theorem dX8_copy_125 : decode cX8_copy 125 = .ok (.iload 4, 2) := by decide +kernel
theorem dX8_copy_127 : decode cX8_copy 127 = .ok (.isub, 1) := by decide +kernel
theorem dX8_copy_128 : decode cX8_copy 128 = .ok (.if_icmp .le 10, 3) := by decide +kernel
theorem dX8_copy_131 : decode cX8_copy 131 = .ok (.aload_n 0, 1) := by decide +kernel
theorem dX8_copy_132 : decode cX8_copy 132 = .ok (.bipush (-3), 2) := by decide +kernel
theorem dX8_copy_134 : decode cX8_copy 134 = .ok (.invokevirtual 53, 3) := by decide +kernel
theorem dX8_copy_137 : decode cX8_copy 137 = .ok (.ireturn, 1) := by decide +kernel
theorem dX8_copy_138 : decode cX8_copy 138 = .ok (.aload_n 0, 1) := by decide +kernel
theorem dX8_copy_139 : decode cX8_copy 139 = .ok (.getfield 35, 3) := by decide +kernel
theorem dX8_copy_142 : decode cX8_copy 142 = .ok (.getfield 131, 3) := by decide +kernel
theorem dX8_copy_145 : decode cX8_copy 145 = .ok (.iload_n 3, 1) := by decide +kernel
theorem dX8_copy_146 : decode cX8_copy 146 = .ok (.aaload, 1) := by decide +kernel
theorem dX8_copy_147 : decode cX8_copy 147 = .ok (.iconst 0, 1) := by decide +kernel
theorem dX8_copy_148 : decode cX8_copy 148 = .ok (.aload_n 0, 1) := by decide +kernel
theorem dX8_copy_149 : decode cX8_copy 149 = .ok (.getfield 35, 3) := by decide +kernel
theorem dX8_copy_15 : decode cX8_copy 15 = .ok (.iload_n 3, 1) := by decide +kernel
theorem dX8_copy_152 : decode cX8_copy 152 = .ok (.getfield 131, 3) := by decide +kernel
theorem dX8_copy_155 : decode cX8_copy 155 = .ok (.iload_n 1, 1) := by decide +kernel
theorem dX8_copy_156 : decode cX8_copy 156 = .ok (.aaload, 1) := by decide +kernel
theorem dX8_copy_157 : decode cX8_copy 157 = .ok (.iload_n 2, 1) := by decide +kernel
theorem dX8_copy_158 : decode cX8_copy 158 = .ok (.iload 4, 2) := by decide +kernel
theorem dX8_copy_16 : decode cX8_copy 16 = .ok (.invokevirtual 112, 3) := by decide +kernel
theorem dX8_copy_160 : decode cX8_copy 160 = .ok (.invokestatic 135, 3) := by decide +kernel
theorem dX8_copy_163 : decode cX8_copy 163 = .ok (.iconst 1, 1) := by decide +kernel
theorem dX8_copy_164 : decode cX8_copy 164 = .ok (.ireturn, 1) := by decide +kernel
theorem dX8_copy_19 : decode cX8_copy 19 = .ok (.ifCond .ne 9, 3) := by decide +kernel
theorem dX8_copy_22 : decode cX8_copy 22 = .ok (.aload_n 0, 1) := by decide +kernel
theorem dX8_copy_23 : decode cX8_copy 23 = .ok (.iconst (-1), 1) := by decide +kernel
theorem dX8_copy_24 : decode cX8_copy 24 = .ok (.invokevirtual 53, 3) := by decide +kernel
theorem dX8_copy_27 : decode cX8_copy 27 = .ok (.ireturn, 1) := by decide +kernel
theorem dX8_copy_28 : decode cX8_copy 28 = .ok (.aload_n 0, 1) := by decide +kernel
theorem dX8_copy_29 : decode cX8_copy 29 = .ok (.getfield 35, 3) := by decide +kernel
theorem dX8_copy_32 : decode cX8_copy 32 = .ok (.iload_n 1, 1) := by decide +kernel
theorem dX8_copy_33 : decode cX8_copy 33 = .ok (.invokevirtual 118, 3) := by decide +kernel
theorem dX8_copy_36 : decode cX8_copy 36 = .ok (.ifCond .ne 14, 3) := by decide +kernel
theorem dX8_copy_39 : decode cX8_copy 39 = .ok (.aload_n 0, 1) := by decide +kernel
theorem dX8_copy_4 : decode cX8_copy 4 = .ok (.iload_n 1, 1) := by decide +kernel
theorem dX8_copy_40 : decode cX8_copy 40 = .ok (.getfield 35, 3) := by decide +kernel
theorem dX8_copy_43 : decode cX8_copy 43 = .ok (.iload_n 3, 1) := by decide +kernel
theorem dX8_copy_44 : decode cX8_copy 44 = .ok (.invokevirtual 118, 3) := by decide +kernel
theorem dX8_copy_47 : decode cX8_copy 47 = .ok (.ifCond .eq 10, 3) := by decide +kernel
theorem dX8_copy_5 : decode cX8_copy 5 = .ok (.invokevirtual 112, 3) := by decide +kernel
theorem dX8_copy_50 : decode cX8_copy 50 = .ok (.aload_n 0, 1) := by decide +kernel
theorem dX8_copy_51 : decode cX8_copy 51 = .ok (.bipush (-7), 2) := by decide +kernel
theorem dX8_copy_53 : decode cX8_copy 53 = .ok (.invokevirtual 53, 3) := by decide +kernel
theorem dX8_copy_56 : decode cX8_copy 56 = .ok (.ireturn, 1) := by decide +kernel
theorem dX8_copy_57 : decode cX8_copy 57 = .ok (.aload_n 0, 1) := by decide +kernel
theorem dX8_copy_58 : decode cX8_copy 58 = .ok (.getfield 35, 3) := by decide +kernel
theorem dX8_copy_61 : decode cX8_copy 61 = .ok (.getfield 128, 3) := by decide +kernel
theorem dX8_copy_64 : decode cX8_copy 64 = .ok (.iload_n 1, 1) := by decide +kernel
theorem dX8_copy_65 : decode cX8_copy 65 = .ok (.iaload, 1) := by decide +kernel
theorem dX8_copy_66 : decode cX8_copy 66 = .ok (.aload_n 0, 1) := by decide +kernel
theorem dX8_copy_67 : decode cX8_copy 67 = .ok (.getfield 35, 3) := by decide +kernel
theorem dX8_copy_70 : decode cX8_copy 70 = .ok (.getfield 128, 3) := by decide +kernel
theorem dX8_copy_73 : decode cX8_copy 73 = .ok (.iload_n 3, 1) := by decide +kernel
theorem dX8_copy_74 : decode cX8_copy 74 = .ok (.iaload, 1) := by decide +kernel
theorem dX8_copy_75 : decode cX8_copy 75 = .ok (.if_icmp .eq 10, 3) := by decide +kernel
theorem dX8_copy_78 : decode cX8_copy 78 = .ok (.aload_n 0, 1) := by decide +kernel
theorem dX8_copy_79 : decode cX8_copy 79 = .ok (.bipush (-2), 2) := by decide +kernel
theorem dX8_copy_8 : decode cX8_copy 8 = .ok (.ifCond .eq 14, 3) := by decide +kernel
theorem dX8_copy_81 : decode cX8_copy 81 = .ok (.invokevirtual 53, 3) := by decide +kernel
theorem dX8_copy_84 : decode cX8_copy 84 = .ok (.ireturn, 1) := by decide +kernel
theorem dX8_copy_85 : decode cX8_copy 85 = .ok (.iload 4, 2) := by decide +kernel
theorem dX8_copy_87 : decode cX8_copy 87 = .ok (.ifCond .ge 10, 3) := by decide +kernel
theorem dX8_copy_90 : decode cX8_copy 90 = .ok (.aload_n 0, 1) := by decide +kernel
theorem dX8_copy_91 : decode cX8_copy 91 = .ok (.bipush (-4), 2) := by decide +kernel
theorem dX8_copy_93 : decode cX8_copy 93 = .ok (.invokevirtual 53, 3) := by decide +kernel
theorem dX8_copy_96 : decode cX8_copy 96 = .ok (.ireturn, 1) := by decide +kernel
theorem dX8_copy_97 : decode cX8_copy 97 = .ok (.iload 4, 2) := by decide +kernel
theorem dX8_copy_99 : decode cX8_copy 99 = .ok (.aload_n 0, 1) := by decide +kernel
theorem dX8_cost_0 : decode cX8_cost 0 = .ok (.aload_n 0, 1) := by decide +kernel
theorem dX8_cost_1 : decode cX8_cost 1 = .ok (.getfield 10, 3) := by decide +kernel
theorem dX8_cost_11 : decode cX8_cost 11 = .ok (.lreturn, 1) := by decide +kernel
theorem dX8_cost_4 : decode cX8_cost 4 = .ok (.aload_n 0, 1) := by decide +kernel
theorem dX8_cost_5 : decode cX8_cost 5 = .ok (.getfield 39, 3) := by decide +kernel
theorem dX8_cost_8 : decode cX8_cost 8 = .ok (.invokevirtual 187, 3) := by decide +kernel
theorem dX8_count_0 : decode cX8_count 0 = .ok (.iload_n 1, 1) := by decide +kernel
theorem dX8_count_1 : decode cX8_count 1 = .ok (.iconst 2, 1) := by decide +kernel
theorem dX8_count_10 : decode cX8_count 10 = .ok (.aload_n 0, 1) := by decide +kernel
theorem dX8_count_100 : decode cX8_count 100 = .ok (.getfield 70, 3) := by decide +kernel
theorem dX8_count_103 : decode cX8_count 103 = .ok (.ireturn, 1) := by decide +kernel
theorem dX8_count_104 : decode cX8_count 104 = .ok (.aload_n 0, 1) := by decide +kernel
theorem dX8_count_105 : decode cX8_count 105 = .ok (.getfield 35, 3) := by decide +kernel
theorem dX8_count_108 : decode cX8_count 108 = .ok (.invokevirtual 227, 3) := by decide +kernel
theorem dX8_count_11 : decode cX8_count 11 = .ok (.invokevirtual 152, 3) := by decide +kernel
theorem dX8_count_111 : decode cX8_count 111 = .ok (.ireturn, 1) := by decide +kernel
theorem dX8_count_112 : decode cX8_count 112 = .ok (.aload_n 0, 1) := by decide +kernel
theorem dX8_count_113 : decode cX8_count 113 = .ok (.getfield 10, 3) := by decide +kernel
theorem dX8_count_116 : decode cX8_count 116 = .ok (.aload_n 0, 1) := by decide +kernel
theorem dX8_count_117 : decode cX8_count 117 = .ok (.getfield 39, 3) := by decide +kernel
theorem dX8_count_120 : decode cX8_count 120 = .ok (.invokevirtual 170, 3) := by decide +kernel
theorem dX8_count_123 : decode cX8_count 123 = .ok (.ifCond .eq 22, 3) := by decide +kernel
theorem dX8_count_126 : decode cX8_count 126 = .ok (.aload_n 0, 1) := by decide +kernel
theorem dX8_count_127 : decode cX8_count 127 = .ok (.aload_n 0, 1) := by decide +kernel
theorem dX8_count_128 : decode cX8_count 128 = .ok (.invokevirtual 152, 3) := by decide +kernel
theorem dX8_count_131 : decode cX8_count 131 = .ok (.iconst 0, 1) := by decide +kernel
theorem dX8_count_132 : decode cX8_count 132 = .ok (.aload_n 0, 1) := by decide +kernel
theorem dX8_count_133 : decode cX8_count 133 = .ok (.getfield 21, 3) := by decide +kernel
theorem dX8_count_136 : decode cX8_count 136 = .ok (.invokevirtual 156, 3) := by decide +kernel
theorem dX8_count_139 : decode cX8_count 139 = .ok (.invokevirtual 180, 3) := by decide +kernel
theorem dX8_count_14 : decode cX8_count 14 = .ok (.iload_n 1, 1) := by decide +kernel
theorem dX8_count_142 : decode cX8_count 142 = .ok (.goto 4, 3) := by decide +kernel
theorem dX8_count_145 : decode cX8_count 145 = .ok (.iconst 0, 1) := by decide +kernel
theorem dX8_count_146 : decode cX8_count 146 = .ok (.ireturn, 1) := by decide +kernel
theorem dX8_count_147 : decode cX8_count 147 = .ok (.ldc 162, 2) := by decide +kernel
theorem dX8_count_149 : decode cX8_count 149 = .ok (.ireturn, 1) := by decide +kernel
theorem dX8_count_15 : decode cX8_count 15 = .ok (.iconst 1, 1) := by decide +kernel
theorem dX8_count_16 : decode cX8_count 16 = .ok (.isub, 1) := by decide +kernel
theorem dX8_count_17 : decode cX8_count 17 = .ok (.invokevirtual 224, 3) := by decide +kernel
theorem dX8_count_2 : decode cX8_count 2 = .ok (.if_icmp .lt 19, 3) := by decide +kernel
theorem dX8_count_20 : decode cX8_count 20 = .ok (.ireturn, 1) := by decide +kernel
theorem dX8_count_21 : decode cX8_count 21 = .ok (.iload_n 1, 1) := by decide +kernel
theorem dX8_count_22 : decode cX8_count 22 = .ok (.bipush 10, 2) := by decide +kernel
theorem dX8_count_24 : decode cX8_count 24 = .ok (.if_icmp .le 19, 3) := by decide +kernel
theorem dX8_count_27 : decode cX8_count 27 = .ok (.iload_n 1, 1) := by decide +kernel
theorem dX8_count_28 : decode cX8_count 28 = .ok (.bipush 17, 2) := by decide +kernel
theorem dX8_count_30 : decode cX8_count 30 = .ok (.if_icmp .gt 13, 3) := by decide +kernel
theorem dX8_count_33 : decode cX8_count 33 = .ok (.aload_n 0, 1) := by decide +kernel
theorem dX8_count_34 : decode cX8_count 34 = .ok (.getfield 50, 3) := by decide +kernel
theorem dX8_count_37 : decode cX8_count 37 = .ok (.iload_n 1, 1) := by decide +kernel
theorem dX8_count_38 : decode cX8_count 38 = .ok (.bipush 10, 2) := by decide +kernel
theorem dX8_count_40 : decode cX8_count 40 = .ok (.isub, 1) := by decide +kernel
theorem dX8_count_41 : decode cX8_count 41 = .ok (.iaload, 1) := by decide +kernel
theorem dX8_count_42 : decode cX8_count 42 = .ok (.ireturn, 1) := by decide +kernel
theorem dX8_count_43 : decode cX8_count 43 = .ok (.iload_n 1, 1) := by decide +kernel
theorem dX8_count_44 : decode cX8_count 44 = .ok (.tableswitch 103 0 6 #[44, 52, 103, 103, 103, 60, 68], 44) := by decide +kernel
theorem dX8_count_5 : decode cX8_count 5 = .ok (.iload_n 1, 1) := by decide +kernel
theorem dX8_count_6 : decode cX8_count 6 = .ok (.iconst 5, 1) := by decide +kernel
theorem dX8_count_7 : decode cX8_count 7 = .ok (.if_icmp .ge 14, 3) := by decide +kernel
theorem dX8_count_88 : decode cX8_count 88 = .ok (.aload_n 0, 1) := by decide +kernel
theorem dX8_count_89 : decode cX8_count 89 = .ok (.getfield 10, 3) := by decide +kernel
theorem dX8_count_92 : decode cX8_count 92 = .ok (.getfield 141, 3) := by decide +kernel
theorem dX8_count_95 : decode cX8_count 95 = .ok (.ireturn, 1) := by decide +kernel
theorem dX8_count_96 : decode cX8_count 96 = .ok (.aload_n 0, 1) := by decide +kernel
theorem dX8_count_97 : decode cX8_count 97 = .ok (.getfield 10, 3) := by decide +kernel
theorem dX8_equation_0 : decode cX8_equation 0 = .ok (.aload_n 0, 1) := by decide +kernel
theorem dX8_equation_1 : decode cX8_equation 1 = .ok (.getfield 10, 3) := by decide +kernel
theorem dX8_equation_11 : decode cX8_equation 11 = .ok (.aload_n 0, 1) := by decide +kernel
theorem dX8_equation_12 : decode cX8_equation 12 = .ok (.bipush (-6), 2) := by decide +kernel
theorem dX8_equation_14 : decode cX8_equation 14 = .ok (.invokevirtual 53, 3) := by decide +kernel
theorem dX8_equation_17 : decode cX8_equation 17 = .ok (.ireturn, 1) := by decide +kernel
theorem dX8_equation_18 : decode cX8_equation 18 = .ok (.aload_n 0, 1) := by decide +kernel
theorem dX8_equation_19 : decode cX8_equation 19 = .ok (.invokevirtual 67, 3) := by decide +kernel
theorem dX8_equation_22 : decode cX8_equation 22 = .ok (.aload_n 0, 1) := by decide +kernel
theorem dX8_equation_23 : decode cX8_equation 23 = .ok (.getfield 10, 3) := by decide +kernel
theorem dX8_equation_26 : decode cX8_equation 26 = .ok (.invokevirtual 74, 3) := by decide +kernel
theorem dX8_equation_29 : decode cX8_equation 29 = .ok (.ireturn, 1) := by decide +kernel
theorem dX8_equation_4 : decode cX8_equation 4 = .ok (.getfield 70, 3) := by decide +kernel
theorem dX8_equation_7 : decode cX8_equation 7 = .ok (.iconst 3, 1) := by decide +kernel
theorem dX8_equation_8 : decode cX8_equation 8 = .ok (.if_icmp .lt 10, 3) := by decide +kernel
theorem dX8_equationsChanged_0 : decode cX8_equationsChanged 0 = .ok (.aload_n 0, 1) := by decide +kernel
theorem dX8_equationsChanged_1 : decode cX8_equationsChanged 1 = .ok (.getfield 21, 3) := by decide +kernel
theorem dX8_equationsChanged_12 : decode cX8_equationsChanged 12 = .ok (.iconst 1, 1) := by decide +kernel
theorem dX8_equationsChanged_13 : decode cX8_equationsChanged 13 = .ok (.putfield 96, 3) := by decide +kernel
theorem dX8_equationsChanged_16 : decode cX8_equationsChanged 16 = .ok (.return_, 1) := by decide +kernel
theorem dX8_equationsChanged_4 : decode cX8_equationsChanged 4 = .ok (.iconst 1, 1) := by decide +kernel
theorem dX8_equationsChanged_5 : decode cX8_equationsChanged 5 = .ok (.putfield 230, 3) := by decide +kernel
theorem dX8_equationsChanged_8 : decode cX8_equationsChanged 8 = .ok (.aload_n 0, 1) := by decide +kernel
theorem dX8_equationsChanged_9 : decode cX8_equationsChanged 9 = .ok (.getfield 28, 3) := by decide +kernel
theorem dX8_extreme_0 : decode cX8_extreme 0 = .ok (.aload_n 0, 1) := by decide +kernel
theorem dX8_extreme_1 : decode cX8_extreme 1 = .ok (.invokevirtual 196, 3) := by decide +kernel
theorem dX8_extreme_10 : decode cX8_extreme 10 = .ok (.iconst (-1), 1) := by decide +kernel
theorem dX8_extreme_11 : decode cX8_extreme 11 = .ok (.ireturn, 1) := by decide +kernel
theorem dX8_extreme_12 : decode cX8_extreme 12 = .ok (.iload_n 1, 1) := by decide +kernel
theorem dX8_extreme_13 : decode cX8_extreme 13 = .ok (.ifCond .lt 8, 3) := by decide +kernel
theorem dX8_extreme_16 : decode cX8_extreme 16 = .ok (.iload_n 1, 1) := by decide +kernel
theorem dX8_extreme_17 : decode cX8_extreme 17 = .ok (.iconst 1, 1) := by decide +kernel
theorem dX8_extreme_18 : decode cX8_extreme 18 = .ok (.if_icmp .le 6, 3) := by decide +kernel
theorem dX8_extreme_21 : decode cX8_extreme 21 = .ok (.bipush (-2), 2) := by decide +kernel
theorem dX8_extreme_23 : decode cX8_extreme 23 = .ok (.ireturn, 1) := by decide +kernel
theorem dX8_extreme_24 : decode cX8_extreme 24 = .ok (.aload_n 0, 1) := by decide +kernel
theorem dX8_extreme_25 : decode cX8_extreme 25 = .ok (.getfield 28, 3) := by decide +kernel
theorem dX8_extreme_28 : decode cX8_extreme 28 = .ok (.iload_n 1, 1) := by decide +kernel
theorem dX8_extreme_29 : decode cX8_extreme 29 = .ok (.ifCond .ne 7, 3) := by decide +kernel
theorem dX8_extreme_32 : decode cX8_extreme 32 = .ok (.iconst 1, 1) := by decide +kernel
theorem dX8_extreme_33 : decode cX8_extreme 33 = .ok (.goto 4, 3) := by decide +kernel
theorem dX8_extreme_36 : decode cX8_extreme 36 = .ok (.iconst (-1), 1) := by decide +kernel
theorem dX8_extreme_37 : decode cX8_extreme 37 = .ok (.invokevirtual 218, 3) := by decide +kernel
theorem dX8_extreme_4 : decode cX8_extreme 4 = .ok (.invokevirtual 200, 3) := by decide +kernel
theorem dX8_extreme_40 : decode cX8_extreme 40 = .ok (.ireturn, 1) := by decide +kernel
theorem dX8_extreme_7 : decode cX8_extreme 7 = .ok (.ifCond .ne 5, 3) := by decide +kernel
theorem dX8_find_0 : decode cX8_find 0 = .ok (.aload_n 0, 1) := by decide +kernel
theorem dX8_find_1 : decode cX8_find 1 = .ok (.getfield 10, 3) := by decide +kernel
theorem dX8_find_11 : decode cX8_find 11 = .ok (.ifCond .ne 10, 3) := by decide +kernel
theorem dX8_find_14 : decode cX8_find 14 = .ok (.aload_n 0, 1) := by decide +kernel
theorem dX8_find_15 : decode cX8_find 15 = .ok (.bipush (-5), 2) := by decide +kernel
theorem dX8_find_17 : decode cX8_find 17 = .ok (.invokevirtual 53, 3) := by decide +kernel
theorem dX8_find_20 : decode cX8_find 20 = .ok (.ireturn, 1) := by decide +kernel
theorem dX8_find_21 : decode cX8_find 21 = .ok (.aload_n 0, 1) := by decide +kernel
theorem dX8_find_22 : decode cX8_find 22 = .ok (.invokevirtual 196, 3) := by decide +kernel
theorem dX8_find_25 : decode cX8_find 25 = .ok (.aload_n 0, 1) := by decide +kernel
theorem dX8_find_26 : decode cX8_find 26 = .ok (.getfield 39, 3) := by decide +kernel
theorem dX8_find_29 : decode cX8_find 29 = .ok (.invokevirtual 208, 3) := by decide +kernel
theorem dX8_find_32 : decode cX8_find 32 = .ok (.ireturn, 1) := by decide +kernel
theorem dX8_find_4 : decode cX8_find 4 = .ok (.aload_n 0, 1) := by decide +kernel
theorem dX8_find_5 : decode cX8_find 5 = .ok (.getfield 39, 3) := by decide +kernel
theorem dX8_find_8 : decode cX8_find 8 = .ok (.invokevirtual 173, 3) := by decide +kernel
theorem dX8_fits_0 : decode cX8_fits 0 = .ok (.aload_n 0, 1) := by decide +kernel
theorem dX8_fits_1 : decode cX8_fits 1 = .ok (.invokevirtual 152, 3) := by decide +kernel
theorem dX8_fits_11 : decode cX8_fits 11 = .ok (.aload_n 0, 1) := by decide +kernel
theorem dX8_fits_12 : decode cX8_fits 12 = .ok (.iconst (-1), 1) := by decide +kernel
theorem dX8_fits_13 : decode cX8_fits 13 = .ok (.invokevirtual 53, 3) := by decide +kernel
theorem dX8_fits_16 : decode cX8_fits 16 = .ok (.ireturn, 1) := by decide +kernel
theorem dX8_fits_17 : decode cX8_fits 17 = .ok (.aload_n 0, 1) := by decide +kernel
theorem dX8_fits_18 : decode cX8_fits 18 = .ok (.getfield 21, 3) := by decide +kernel
theorem dX8_fits_21 : decode cX8_fits 21 = .ok (.iload_n 1, 1) := by decide +kernel
theorem dX8_fits_22 : decode cX8_fits 22 = .ok (.aload_n 0, 1) := by decide +kernel
theorem dX8_fits_23 : decode cX8_fits 23 = .ok (.getfield 39, 3) := by decide +kernel
theorem dX8_fits_26 : decode cX8_fits 26 = .ok (.invokevirtual 176, 3) := by decide +kernel
theorem dX8_fits_29 : decode cX8_fits 29 = .ok (.ifCond .le 7, 3) := by decide +kernel
theorem dX8_fits_32 : decode cX8_fits 32 = .ok (.iconst 1, 1) := by decide +kernel
theorem dX8_fits_33 : decode cX8_fits 33 = .ok (.goto 4, 3) := by decide +kernel
theorem dX8_fits_36 : decode cX8_fits 36 = .ok (.iconst 0, 1) := by decide +kernel
theorem dX8_fits_37 : decode cX8_fits 37 = .ok (.ireturn, 1) := by decide +kernel
theorem dX8_fits_4 : decode cX8_fits 4 = .ok (.iload_n 1, 1) := by decide +kernel
theorem dX8_fits_5 : decode cX8_fits 5 = .ok (.invokevirtual 159, 3) := by decide +kernel
theorem dX8_fits_8 : decode cX8_fits 8 = .ok (.ifCond .ne 9, 3) := by decide +kernel
theorem dX8_freshPlans_0 : decode cX8_freshPlans 0 = .ok (.aload_n 0, 1) := by decide +kernel
theorem dX8_freshPlans_1 : decode cX8_freshPlans 1 = .ok (.getfield 28, 3) := by decide +kernel
theorem dX8_freshPlans_11 : decode cX8_freshPlans 11 = .ok (.areturn, 1) := by decide +kernel
theorem dX8_freshPlans_4 : decode cX8_freshPlans 4 = .ok (.invokevirtual 234, 3) := by decide +kernel
theorem dX8_freshPlans_7 : decode cX8_freshPlans 7 = .ok (.aload_n 0, 1) := by decide +kernel
theorem dX8_freshPlans_8 : decode cX8_freshPlans 8 = .ok (.getfield 28, 3) := by decide +kernel
theorem dX8_freshSteps_0 : decode cX8_freshSteps 0 = .ok (.aload_n 0, 1) := by decide +kernel
theorem dX8_freshSteps_1 : decode cX8_freshSteps 1 = .ok (.getfield 21, 3) := by decide +kernel
theorem dX8_freshSteps_11 : decode cX8_freshSteps 11 = .ok (.areturn, 1) := by decide +kernel
theorem dX8_freshSteps_4 : decode cX8_freshSteps 4 = .ok (.invokevirtual 231, 3) := by decide +kernel
theorem dX8_freshSteps_7 : decode cX8_freshSteps 7 = .ok (.aload_n 0, 1) := by decide +kernel
theorem dX8_freshSteps_8 : decode cX8_freshSteps 8 = .ok (.getfield 21, 3) := by decide +kernel
theorem dX8_hand_0 : decode cX8_hand 0 = .ok (.aload_n 0, 1) := by decide +kernel
theorem dX8_hand_1 : decode cX8_hand 1 = .ok (.getfield 10, 3) := by decide +kernel
theorem dX8_hand_11 : decode cX8_hand 11 = .ok (.aload_n 0, 1) := by decide +kernel
theorem dX8_hand_12 : decode cX8_hand 12 = .ok (.iconst (-1), 1) := by decide +kernel
theorem dX8_hand_13 : decode cX8_hand 13 = .ok (.invokevirtual 53, 3) := by decide +kernel
theorem dX8_hand_16 : decode cX8_hand 16 = .ok (.pop, 1) := by decide +kernel
theorem dX8_hand_17 : decode cX8_hand 17 = .ok (.ldc 162, 2) := by decide +kernel
theorem dX8_hand_19 : decode cX8_hand 19 = .ok (.ireturn, 1) := by decide +kernel
theorem dX8_hand_20 : decode cX8_hand 20 = .ok (.iload_n 2, 1) := by decide +kernel
theorem dX8_hand_21 : decode cX8_hand 21 = .ok (.sipush (-10000), 3) := by decide +kernel
theorem dX8_hand_24 : decode cX8_hand 24 = .ok (.if_icmp .ge 13, 3) := by decide +kernel
theorem dX8_hand_27 : decode cX8_hand 27 = .ok (.aload_n 0, 1) := by decide +kernel
theorem dX8_hand_28 : decode cX8_hand 28 = .ok (.bipush (-4), 2) := by decide +kernel
theorem dX8_hand_30 : decode cX8_hand 30 = .ok (.invokevirtual 53, 3) := by decide +kernel
theorem dX8_hand_33 : decode cX8_hand 33 = .ok (.pop, 1) := by decide +kernel
theorem dX8_hand_34 : decode cX8_hand 34 = .ok (.ldc 162, 2) := by decide +kernel
theorem dX8_hand_36 : decode cX8_hand 36 = .ok (.ireturn, 1) := by decide +kernel
theorem dX8_hand_37 : decode cX8_hand 37 = .ok (.iload_n 2, 1) := by decide +kernel
theorem dX8_hand_38 : decode cX8_hand 38 = .ok (.sipush 10000, 3) := by decide +kernel
theorem dX8_hand_4 : decode cX8_hand 4 = .ok (.iload_n 1, 1) := by decide +kernel
theorem dX8_hand_41 : decode cX8_hand 41 = .ok (.if_icmp .le 13, 3) := by decide +kernel
theorem dX8_hand_44 : decode cX8_hand 44 = .ok (.aload_n 0, 1) := by decide +kernel
theorem dX8_hand_45 : decode cX8_hand 45 = .ok (.bipush (-6), 2) := by decide +kernel
theorem dX8_hand_47 : decode cX8_hand 47 = .ok (.invokevirtual 53, 3) := by decide +kernel
theorem dX8_hand_5 : decode cX8_hand 5 = .ok (.invokevirtual 82, 3) := by decide +kernel
theorem dX8_hand_50 : decode cX8_hand 50 = .ok (.pop, 1) := by decide +kernel
theorem dX8_hand_51 : decode cX8_hand 51 = .ok (.ldc 162, 2) := by decide +kernel
theorem dX8_hand_53 : decode cX8_hand 53 = .ok (.ireturn, 1) := by decide +kernel
theorem dX8_hand_54 : decode cX8_hand 54 = .ok (.aload_n 0, 1) := by decide +kernel
theorem dX8_hand_55 : decode cX8_hand 55 = .ok (.getfield 39, 3) := by decide +kernel
theorem dX8_hand_58 : decode cX8_hand 58 = .ok (.iload_n 1, 1) := by decide +kernel
theorem dX8_hand_59 : decode cX8_hand 59 = .ok (.iaload, 1) := by decide +kernel
theorem dX8_hand_60 : decode cX8_hand 60 = .ok (.istore_n 3, 1) := by decide +kernel
theorem dX8_hand_61 : decode cX8_hand 61 = .ok (.aload_n 0, 1) := by decide +kernel
theorem dX8_hand_62 : decode cX8_hand 62 = .ok (.getfield 39, 3) := by decide +kernel
theorem dX8_hand_65 : decode cX8_hand 65 = .ok (.iload_n 1, 1) := by decide +kernel
theorem dX8_hand_66 : decode cX8_hand 66 = .ok (.iload_n 2, 1) := by decide +kernel
theorem dX8_hand_67 : decode cX8_hand 67 = .ok (.iastore, 1) := by decide +kernel
theorem dX8_hand_68 : decode cX8_hand 68 = .ok (.iload_n 3, 1) := by decide +kernel
theorem dX8_hand_69 : decode cX8_hand 69 = .ok (.ireturn, 1) := by decide +kernel
theorem dX8_hand_8 : decode cX8_hand 8 = .ok (.ifCond .ne 12, 3) := by decide +kernel
theorem dX8_has_0 : decode cX8_has 0 = .ok (.aload_n 0, 1) := by decide +kernel
theorem dX8_has_1 : decode cX8_has 1 = .ok (.getfield 10, 3) := by decide +kernel
theorem dX8_has_11 : decode cX8_has 11 = .ok (.aload_n 0, 1) := by decide +kernel
theorem dX8_has_12 : decode cX8_has 12 = .ok (.getfield 39, 3) := by decide +kernel
theorem dX8_has_15 : decode cX8_has 15 = .ok (.iload_n 1, 1) := by decide +kernel
theorem dX8_has_16 : decode cX8_has 16 = .ok (.iaload, 1) := by decide +kernel
theorem dX8_has_17 : decode cX8_has 17 = .ok (.goto 5, 3) := by decide +kernel
theorem dX8_has_20 : decode cX8_has 20 = .ok (.ldc 162, 2) := by decide +kernel
theorem dX8_has_22 : decode cX8_has 22 = .ok (.ireturn, 1) := by decide +kernel
theorem dX8_has_4 : decode cX8_has 4 = .ok (.iload_n 1, 1) := by decide +kernel
theorem dX8_has_5 : decode cX8_has 5 = .ok (.invokevirtual 82, 3) := by decide +kernel
theorem dX8_has_8 : decode cX8_has 8 = .ok (.ifCond .eq 12, 3) := by decide +kernel
theorem dX8_kind_0 : decode cX8_kind 0 = .ok (.aload_n 0, 1) := by decide +kernel
theorem dX8_kind_1 : decode cX8_kind 1 = .ok (.invokevirtual 152, 3) := by decide +kernel
theorem dX8_kind_11 : decode cX8_kind 11 = .ok (.aload_n 0, 1) := by decide +kernel
theorem dX8_kind_12 : decode cX8_kind 12 = .ok (.getfield 21, 3) := by decide +kernel
theorem dX8_kind_15 : decode cX8_kind 15 = .ok (.iload_n 1, 1) := by decide +kernel
theorem dX8_kind_16 : decode cX8_kind 16 = .ok (.invokevirtual 167, 3) := by decide +kernel
theorem dX8_kind_19 : decode cX8_kind 19 = .ok (.goto 4, 3) := by decide +kernel
theorem dX8_kind_22 : decode cX8_kind 22 = .ok (.iconst 0, 1) := by decide +kernel
theorem dX8_kind_23 : decode cX8_kind 23 = .ok (.ireturn, 1) := by decide +kernel
theorem dX8_kind_4 : decode cX8_kind 4 = .ok (.iload_n 1, 1) := by decide +kernel
theorem dX8_kind_5 : decode cX8_kind 5 = .ok (.invokevirtual 159, 3) := by decide +kernel
theorem dX8_kind_8 : decode cX8_kind 8 = .ok (.ifCond .eq 14, 3) := by decide +kernel
theorem dX8_lay_0 : decode cX8_lay 0 = .ok (.aload_n 0, 1) := by decide +kernel
theorem dX8_lay_1 : decode cX8_lay 1 = .ok (.getfield 35, 3) := by decide +kernel
theorem dX8_lay_100 : decode cX8_lay 100 = .ok (.lcmp, 1) := by decide +kernel
theorem dX8_lay_101 : decode cX8_lay 101 = .ok (.ifCond .ge 10, 3) := by decide +kernel
theorem dX8_lay_104 : decode cX8_lay 104 = .ok (.aload_n 0, 1) := by decide +kernel
theorem dX8_lay_105 : decode cX8_lay 105 = .ok (.bipush (-4), 2) := by decide +kernel
theorem dX8_lay_107 : decode cX8_lay 107 = .ok (.invokevirtual 53, 3) := by decide +kernel
theorem dX8_lay_11 : decode cX8_lay 11 = .ok (.aload_n 0, 1) := by decide +kernel
theorem dX8_lay_110 : decode cX8_lay 110 = .ok (.ireturn, 1) := by decide +kernel
theorem dX8_lay_111 : decode cX8_lay 111 = .ok (.iinc 4 1, 3) := by decide +kernel
theorem dX8_lay_114 : decode cX8_lay 114 = .ok (.goto (-41), 3) := by decide +kernel
theorem dX8_lay_117 : decode cX8_lay 117 = .ok (.iconst 0, 1) := by decide +kernel
theorem dX8_lay_118 : decode cX8_lay 118 = .ok (.istore 4, 2) := by decide +kernel
theorem dX8_lay_12 : decode cX8_lay 12 = .ok (.getfield 10, 3) := by decide +kernel
theorem dX8_lay_120 : decode cX8_lay 120 = .ok (.iload 4, 2) := by decide +kernel
theorem dX8_lay_122 : decode cX8_lay 122 = .ok (.aload_n 0, 1) := by decide +kernel
theorem dX8_lay_123 : decode cX8_lay 123 = .ok (.getfield 10, 3) := by decide +kernel
theorem dX8_lay_126 : decode cX8_lay 126 = .ok (.getfield 141, 3) := by decide +kernel
theorem dX8_lay_129 : decode cX8_lay 129 = .ok (.if_icmp .ge 35, 3) := by decide +kernel
theorem dX8_lay_132 : decode cX8_lay 132 = .ok (.aload_n 0, 1) := by decide +kernel
theorem dX8_lay_133 : decode cX8_lay 133 = .ok (.getfield 35, 3) := by decide +kernel
theorem dX8_lay_136 : decode cX8_lay 136 = .ok (.iload_n 2, 1) := by decide +kernel
theorem dX8_lay_137 : decode cX8_lay 137 = .ok (.iload_n 3, 1) := by decide +kernel
theorem dX8_lay_138 : decode cX8_lay 138 = .ok (.iload 4, 2) := by decide +kernel
theorem dX8_lay_140 : decode cX8_lay 140 = .ok (.iadd, 1) := by decide +kernel
theorem dX8_lay_141 : decode cX8_lay 141 = .ok (.invokevirtual 144, 3) := by decide +kernel
theorem dX8_lay_144 : decode cX8_lay 144 = .ok (.ldc2_w 150, 3) := by decide +kernel
theorem dX8_lay_147 : decode cX8_lay 147 = .ok (.lcmp, 1) := by decide +kernel
theorem dX8_lay_148 : decode cX8_lay 148 = .ok (.ifCond .le 10, 3) := by decide +kernel
theorem dX8_lay_15 : decode cX8_lay 15 = .ok (.iload_n 1, 1) := by decide +kernel
theorem dX8_lay_151 : decode cX8_lay 151 = .ok (.aload_n 0, 1) := by decide +kernel
theorem dX8_lay_152 : decode cX8_lay 152 = .ok (.bipush (-6), 2) := by decide +kernel
theorem dX8_lay_154 : decode cX8_lay 154 = .ok (.invokevirtual 53, 3) := by decide +kernel
theorem dX8_lay_157 : decode cX8_lay 157 = .ok (.ireturn, 1) := by decide +kernel
theorem dX8_lay_158 : decode cX8_lay 158 = .ok (.iinc 4 1, 3) := by decide +kernel
theorem dX8_lay_16 : decode cX8_lay 16 = .ok (.invokevirtual 78, 3) := by decide +kernel
theorem dX8_lay_161 : decode cX8_lay 161 = .ok (.goto (-41), 3) := by decide +kernel
theorem dX8_lay_164 : decode cX8_lay 164 = .ok (.iconst 0, 1) := by decide +kernel
theorem dX8_lay_165 : decode cX8_lay 165 = .ok (.istore 4, 2) := by decide +kernel
theorem dX8_lay_167 : decode cX8_lay 167 = .ok (.iload 4, 2) := by decide +kernel
theorem dX8_lay_169 : decode cX8_lay 169 = .ok (.aload_n 0, 1) := by decide +kernel
theorem dX8_lay_170 : decode cX8_lay 170 = .ok (.getfield 10, 3) := by decide +kernel
theorem dX8_lay_173 : decode cX8_lay 173 = .ok (.getfield 141, 3) := by decide +kernel
theorem dX8_lay_176 : decode cX8_lay 176 = .ok (.if_icmp .ge 29, 3) := by decide +kernel
theorem dX8_lay_179 : decode cX8_lay 179 = .ok (.aload_n 0, 1) := by decide +kernel
theorem dX8_lay_180 : decode cX8_lay 180 = .ok (.iload_n 1, 1) := by decide +kernel
theorem dX8_lay_181 : decode cX8_lay 181 = .ok (.iload 4, 2) := by decide +kernel
theorem dX8_lay_183 : decode cX8_lay 183 = .ok (.aload_n 0, 1) := by decide +kernel
theorem dX8_lay_184 : decode cX8_lay 184 = .ok (.getfield 35, 3) := by decide +kernel
theorem dX8_lay_187 : decode cX8_lay 187 = .ok (.iload_n 2, 1) := by decide +kernel
theorem dX8_lay_188 : decode cX8_lay 188 = .ok (.iload_n 3, 1) := by decide +kernel
theorem dX8_lay_189 : decode cX8_lay 189 = .ok (.iload 4, 2) := by decide +kernel
theorem dX8_lay_19 : decode cX8_lay 19 = .ok (.ifCond .ne 9, 3) := by decide +kernel
theorem dX8_lay_191 : decode cX8_lay 191 = .ok (.iadd, 1) := by decide +kernel
theorem dX8_lay_192 : decode cX8_lay 192 = .ok (.invokevirtual 144, 3) := by decide +kernel
theorem dX8_lay_195 : decode cX8_lay 195 = .ok (.l2i, 1) := by decide +kernel
theorem dX8_lay_196 : decode cX8_lay 196 = .ok (.invokevirtual 89, 3) := by decide +kernel
theorem dX8_lay_199 : decode cX8_lay 199 = .ok (.iinc 4 1, 3) := by decide +kernel
theorem dX8_lay_202 : decode cX8_lay 202 = .ok (.goto (-35), 3) := by decide +kernel
theorem dX8_lay_205 : decode cX8_lay 205 = .ok (.iconst 1, 1) := by decide +kernel
theorem dX8_lay_206 : decode cX8_lay 206 = .ok (.ireturn, 1) := by decide +kernel
theorem dX8_lay_22 : decode cX8_lay 22 = .ok (.aload_n 0, 1) := by decide +kernel
theorem dX8_lay_23 : decode cX8_lay 23 = .ok (.iconst (-1), 1) := by decide +kernel
theorem dX8_lay_24 : decode cX8_lay 24 = .ok (.invokevirtual 53, 3) := by decide +kernel
theorem dX8_lay_27 : decode cX8_lay 27 = .ok (.ireturn, 1) := by decide +kernel
theorem dX8_lay_28 : decode cX8_lay 28 = .ok (.aload_n 0, 1) := by decide +kernel
theorem dX8_lay_29 : decode cX8_lay 29 = .ok (.getfield 35, 3) := by decide +kernel
theorem dX8_lay_32 : decode cX8_lay 32 = .ok (.iload_n 2, 1) := by decide +kernel
theorem dX8_lay_33 : decode cX8_lay 33 = .ok (.invokevirtual 118, 3) := by decide +kernel
theorem dX8_lay_36 : decode cX8_lay 36 = .ok (.ifCond .eq 10, 3) := by decide +kernel
theorem dX8_lay_39 : decode cX8_lay 39 = .ok (.aload_n 0, 1) := by decide +kernel
theorem dX8_lay_4 : decode cX8_lay 4 = .ok (.iload_n 2, 1) := by decide +kernel
theorem dX8_lay_40 : decode cX8_lay 40 = .ok (.bipush (-7), 2) := by decide +kernel
theorem dX8_lay_42 : decode cX8_lay 42 = .ok (.invokevirtual 53, 3) := by decide +kernel
theorem dX8_lay_45 : decode cX8_lay 45 = .ok (.ireturn, 1) := by decide +kernel
theorem dX8_lay_46 : decode cX8_lay 46 = .ok (.iload_n 3, 1) := by decide +kernel
theorem dX8_lay_47 : decode cX8_lay 47 = .ok (.ifCond .lt 16, 3) := by decide +kernel
theorem dX8_lay_5 : decode cX8_lay 5 = .ok (.invokevirtual 112, 3) := by decide +kernel
theorem dX8_lay_50 : decode cX8_lay 50 = .ok (.iload_n 3, 1) := by decide +kernel
theorem dX8_lay_51 : decode cX8_lay 51 = .ok (.aload_n 0, 1) := by decide +kernel
theorem dX8_lay_52 : decode cX8_lay 52 = .ok (.getfield 35, 3) := by decide +kernel
theorem dX8_lay_55 : decode cX8_lay 55 = .ok (.getfield 121, 3) := by decide +kernel
theorem dX8_lay_58 : decode cX8_lay 58 = .ok (.iload_n 2, 1) := by decide +kernel
theorem dX8_lay_59 : decode cX8_lay 59 = .ok (.iaload, 1) := by decide +kernel
theorem dX8_lay_60 : decode cX8_lay 60 = .ok (.if_icmp .le 10, 3) := by decide +kernel
theorem dX8_lay_63 : decode cX8_lay 63 = .ok (.aload_n 0, 1) := by decide +kernel
theorem dX8_lay_64 : decode cX8_lay 64 = .ok (.bipush (-3), 2) := by decide +kernel
theorem dX8_lay_66 : decode cX8_lay 66 = .ok (.invokevirtual 53, 3) := by decide +kernel
theorem dX8_lay_69 : decode cX8_lay 69 = .ok (.ireturn, 1) := by decide +kernel
theorem dX8_lay_70 : decode cX8_lay 70 = .ok (.iconst 0, 1) := by decide +kernel
theorem dX8_lay_71 : decode cX8_lay 71 = .ok (.istore 4, 2) := by decide +kernel
theorem dX8_lay_73 : decode cX8_lay 73 = .ok (.iload 4, 2) := by decide +kernel
theorem dX8_lay_75 : decode cX8_lay 75 = .ok (.aload_n 0, 1) := by decide +kernel
theorem dX8_lay_76 : decode cX8_lay 76 = .ok (.getfield 10, 3) := by decide +kernel
theorem dX8_lay_79 : decode cX8_lay 79 = .ok (.getfield 141, 3) := by decide +kernel
theorem dX8_lay_8 : decode cX8_lay 8 = .ok (.ifCond .eq 14, 3) := by decide +kernel
theorem dX8_lay_82 : decode cX8_lay 82 = .ok (.if_icmp .ge 35, 3) := by decide +kernel
theorem dX8_lay_85 : decode cX8_lay 85 = .ok (.aload_n 0, 1) := by decide +kernel
theorem dX8_lay_86 : decode cX8_lay 86 = .ok (.getfield 35, 3) := by decide +kernel
theorem dX8_lay_89 : decode cX8_lay 89 = .ok (.iload_n 2, 1) := by decide +kernel
theorem dX8_lay_90 : decode cX8_lay 90 = .ok (.iload_n 3, 1) := by decide +kernel
theorem dX8_lay_91 : decode cX8_lay 91 = .ok (.iload 4, 2) := by decide +kernel
theorem dX8_lay_93 : decode cX8_lay 93 = .ok (.iadd, 1) := by decide +kernel
theorem dX8_lay_94 : decode cX8_lay 94 = .ok (.invokevirtual 144, 3) := by decide +kernel
theorem dX8_lay_97 : decode cX8_lay 97 = .ok (.ldc2_w 148, 3) := by decide +kernel
theorem dX8_least_0 : decode cX8_least 0 = .ok (.aload_n 0, 1) := by decide +kernel
theorem dX8_least_1 : decode cX8_least 1 = .ok (.invokevirtual 152, 3) := by decide +kernel
theorem dX8_least_4 : decode cX8_least 4 = .ok (.invokevirtual 156, 3) := by decide +kernel
theorem dX8_least_7 : decode cX8_least 7 = .ok (.ireturn, 1) := by decide +kernel
theorem dX8_less_0 : decode cX8_less 0 = .ok (.aload_n 0, 1) := by decide +kernel
theorem dX8_less_1 : decode cX8_less 1 = .ok (.invokevirtual 196, 3) := by decide +kernel
theorem dX8_less_11 : decode cX8_less 11 = .ok (.aload_n 0, 1) := by decide +kernel
theorem dX8_less_12 : decode cX8_less 12 = .ok (.iconst (-1), 1) := by decide +kernel
theorem dX8_less_13 : decode cX8_less 13 = .ok (.invokevirtual 53, 3) := by decide +kernel
theorem dX8_less_16 : decode cX8_less 16 = .ok (.ireturn, 1) := by decide +kernel
theorem dX8_less_17 : decode cX8_less 17 = .ok (.aload_n 0, 1) := by decide +kernel
theorem dX8_less_18 : decode cX8_less 18 = .ok (.getfield 28, 3) := by decide +kernel
theorem dX8_less_21 : decode cX8_less 21 = .ok (.iload_n 1, 1) := by decide +kernel
theorem dX8_less_22 : decode cX8_less 22 = .ok (.aload_n 0, 1) := by decide +kernel
theorem dX8_less_23 : decode cX8_less 23 = .ok (.getfield 43, 3) := by decide +kernel
theorem dX8_less_26 : decode cX8_less 26 = .ok (.invokevirtual 204, 3) := by decide +kernel
theorem dX8_less_29 : decode cX8_less 29 = .ok (.iconst 0, 1) := by decide +kernel
theorem dX8_less_30 : decode cX8_less 30 = .ok (.istore_n 2, 1) := by decide +kernel
theorem dX8_less_31 : decode cX8_less 31 = .ok (.iload_n 2, 1) := by decide +kernel
theorem dX8_less_32 : decode cX8_less 32 = .ok (.iconst 4, 1) := by decide +kernel
theorem dX8_less_33 : decode cX8_less 33 = .ok (.if_icmp .ge 29, 3) := by decide +kernel
theorem dX8_less_36 : decode cX8_less 36 = .ok (.aload_n 0, 1) := by decide +kernel
theorem dX8_less_37 : decode cX8_less 37 = .ok (.getfield 46, 3) := by decide +kernel
theorem dX8_less_4 : decode cX8_less 4 = .ok (.iload_n 1, 1) := by decide +kernel
theorem dX8_less_40 : decode cX8_less 40 = .ok (.iload_n 2, 1) := by decide +kernel
theorem dX8_less_41 : decode cX8_less 41 = .ok (.aload_n 0, 1) := by decide +kernel
theorem dX8_less_42 : decode cX8_less 42 = .ok (.getfield 39, 3) := by decide +kernel
theorem dX8_less_45 : decode cX8_less 45 = .ok (.iload_n 2, 1) := by decide +kernel
theorem dX8_less_46 : decode cX8_less 46 = .ok (.iaload, 1) := by decide +kernel
theorem dX8_less_47 : decode cX8_less 47 = .ok (.aload_n 0, 1) := by decide +kernel
theorem dX8_less_48 : decode cX8_less 48 = .ok (.getfield 43, 3) := by decide +kernel
theorem dX8_less_5 : decode cX8_less 5 = .ok (.invokevirtual 201, 3) := by decide +kernel
theorem dX8_less_51 : decode cX8_less 51 = .ok (.iload_n 2, 1) := by decide +kernel
theorem dX8_less_52 : decode cX8_less 52 = .ok (.iaload, 1) := by decide +kernel
theorem dX8_less_53 : decode cX8_less 53 = .ok (.isub, 1) := by decide +kernel
theorem dX8_less_54 : decode cX8_less 54 = .ok (.i2l, 1) := by decide +kernel
theorem dX8_less_55 : decode cX8_less 55 = .ok (.lastore, 1) := by decide +kernel
theorem dX8_less_56 : decode cX8_less 56 = .ok (.iinc 2 1, 3) := by decide +kernel
theorem dX8_less_59 : decode cX8_less 59 = .ok (.goto (-28), 3) := by decide +kernel
theorem dX8_less_62 : decode cX8_less 62 = .ok (.aload_n 0, 1) := by decide +kernel
theorem dX8_less_63 : decode cX8_less 63 = .ok (.invokevirtual 184, 3) := by decide +kernel
theorem dX8_less_66 : decode cX8_less 66 = .ok (.ireturn, 1) := by decide +kernel
theorem dX8_less_8 : decode cX8_less 8 = .ok (.ifCond .ne 9, 3) := by decide +kernel
theorem dX8_moveHand_0 : decode cX8_moveHand 0 = .ok (.iconst 0, 1) := by decide +kernel
theorem dX8_moveHand_1 : decode cX8_moveHand 1 = .ok (.istore_n 1, 1) := by decide +kernel
theorem dX8_moveHand_11 : decode cX8_moveHand 11 = .ok (.iload_n 1, 1) := by decide +kernel
theorem dX8_moveHand_12 : decode cX8_moveHand 12 = .ok (.laload, 1) := by decide +kernel
theorem dX8_moveHand_13 : decode cX8_moveHand 13 = .ok (.ldc2_w 235, 3) := by decide +kernel
theorem dX8_moveHand_16 : decode cX8_moveHand 16 = .ok (.lcmp, 1) := by decide +kernel
theorem dX8_moveHand_17 : decode cX8_moveHand 17 = .ok (.ifCond .ge 10, 3) := by decide +kernel
theorem dX8_moveHand_2 : decode cX8_moveHand 2 = .ok (.iload_n 1, 1) := by decide +kernel
theorem dX8_moveHand_20 : decode cX8_moveHand 20 = .ok (.aload_n 0, 1) := by decide +kernel
theorem dX8_moveHand_21 : decode cX8_moveHand 21 = .ok (.bipush (-4), 2) := by decide +kernel
theorem dX8_moveHand_23 : decode cX8_moveHand 23 = .ok (.invokevirtual 53, 3) := by decide +kernel
theorem dX8_moveHand_26 : decode cX8_moveHand 26 = .ok (.ireturn, 1) := by decide +kernel
theorem dX8_moveHand_27 : decode cX8_moveHand 27 = .ok (.iinc 1 1, 3) := by decide +kernel
theorem dX8_moveHand_3 : decode cX8_moveHand 3 = .ok (.iconst 4, 1) := by decide +kernel
theorem dX8_moveHand_30 : decode cX8_moveHand 30 = .ok (.goto (-28), 3) := by decide +kernel
theorem dX8_moveHand_33 : decode cX8_moveHand 33 = .ok (.iconst 0, 1) := by decide +kernel
theorem dX8_moveHand_34 : decode cX8_moveHand 34 = .ok (.istore_n 1, 1) := by decide +kernel
theorem dX8_moveHand_35 : decode cX8_moveHand 35 = .ok (.iload_n 1, 1) := by decide +kernel
theorem dX8_moveHand_36 : decode cX8_moveHand 36 = .ok (.iconst 4, 1) := by decide +kernel
theorem dX8_moveHand_37 : decode cX8_moveHand 37 = .ok (.if_icmp .ge 29, 3) := by decide +kernel
theorem dX8_moveHand_4 : decode cX8_moveHand 4 = .ok (.if_icmp .ge 29, 3) := by decide +kernel
theorem dX8_moveHand_40 : decode cX8_moveHand 40 = .ok (.aload_n 0, 1) := by decide +kernel
theorem dX8_moveHand_41 : decode cX8_moveHand 41 = .ok (.getfield 46, 3) := by decide +kernel
theorem dX8_moveHand_44 : decode cX8_moveHand 44 = .ok (.iload_n 1, 1) := by decide +kernel
theorem dX8_moveHand_45 : decode cX8_moveHand 45 = .ok (.laload, 1) := by decide +kernel
theorem dX8_moveHand_46 : decode cX8_moveHand 46 = .ok (.ldc2_w 237, 3) := by decide +kernel
theorem dX8_moveHand_49 : decode cX8_moveHand 49 = .ok (.lcmp, 1) := by decide +kernel
theorem dX8_moveHand_50 : decode cX8_moveHand 50 = .ok (.ifCond .le 10, 3) := by decide +kernel
theorem dX8_moveHand_53 : decode cX8_moveHand 53 = .ok (.aload_n 0, 1) := by decide +kernel
theorem dX8_moveHand_54 : decode cX8_moveHand 54 = .ok (.bipush (-6), 2) := by decide +kernel
theorem dX8_moveHand_56 : decode cX8_moveHand 56 = .ok (.invokevirtual 53, 3) := by decide +kernel
theorem dX8_moveHand_59 : decode cX8_moveHand 59 = .ok (.ireturn, 1) := by decide +kernel
theorem dX8_moveHand_60 : decode cX8_moveHand 60 = .ok (.iinc 1 1, 3) := by decide +kernel
theorem dX8_moveHand_63 : decode cX8_moveHand 63 = .ok (.goto (-28), 3) := by decide +kernel
theorem dX8_moveHand_66 : decode cX8_moveHand 66 = .ok (.iconst 0, 1) := by decide +kernel
theorem dX8_moveHand_67 : decode cX8_moveHand 67 = .ok (.istore_n 1, 1) := by decide +kernel
theorem dX8_moveHand_68 : decode cX8_moveHand 68 = .ok (.iload_n 1, 1) := by decide +kernel
theorem dX8_moveHand_69 : decode cX8_moveHand 69 = .ok (.iconst 4, 1) := by decide +kernel
theorem dX8_moveHand_7 : decode cX8_moveHand 7 = .ok (.aload_n 0, 1) := by decide +kernel
theorem dX8_moveHand_70 : decode cX8_moveHand 70 = .ok (.if_icmp .ge 22, 3) := by decide +kernel
theorem dX8_moveHand_73 : decode cX8_moveHand 73 = .ok (.aload_n 0, 1) := by decide +kernel
theorem dX8_moveHand_74 : decode cX8_moveHand 74 = .ok (.getfield 39, 3) := by decide +kernel
theorem dX8_moveHand_77 : decode cX8_moveHand 77 = .ok (.iload_n 1, 1) := by decide +kernel
theorem dX8_moveHand_78 : decode cX8_moveHand 78 = .ok (.aload_n 0, 1) := by decide +kernel
theorem dX8_moveHand_79 : decode cX8_moveHand 79 = .ok (.getfield 46, 3) := by decide +kernel
theorem dX8_moveHand_8 : decode cX8_moveHand 8 = .ok (.getfield 46, 3) := by decide +kernel
theorem dX8_moveHand_82 : decode cX8_moveHand 82 = .ok (.iload_n 1, 1) := by decide +kernel
theorem dX8_moveHand_83 : decode cX8_moveHand 83 = .ok (.laload, 1) := by decide +kernel
theorem dX8_moveHand_84 : decode cX8_moveHand 84 = .ok (.l2i, 1) := by decide +kernel
theorem dX8_moveHand_85 : decode cX8_moveHand 85 = .ok (.iastore, 1) := by decide +kernel
theorem dX8_moveHand_86 : decode cX8_moveHand 86 = .ok (.iinc 1 1, 3) := by decide +kernel
theorem dX8_moveHand_89 : decode cX8_moveHand 89 = .ok (.goto (-21), 3) := by decide +kernel
theorem dX8_moveHand_92 : decode cX8_moveHand 92 = .ok (.iconst 1, 1) := by decide +kernel
theorem dX8_moveHand_93 : decode cX8_moveHand 93 = .ok (.ireturn, 1) := by decide +kernel
theorem dX8_near_0 : decode cX8_near 0 = .ok (.aload_n 0, 1) := by decide +kernel
theorem dX8_near_1 : decode cX8_near 1 = .ok (.invokevirtual 196, 3) := by decide +kernel
theorem dX8_near_11 : decode cX8_near 11 = .ok (.aload_n 0, 1) := by decide +kernel
theorem dX8_near_12 : decode cX8_near 12 = .ok (.iconst (-1), 1) := by decide +kernel
theorem dX8_near_13 : decode cX8_near 13 = .ok (.invokevirtual 53, 3) := by decide +kernel
theorem dX8_near_16 : decode cX8_near 16 = .ok (.ireturn, 1) := by decide +kernel
theorem dX8_near_17 : decode cX8_near 17 = .ok (.aload_n 0, 1) := by decide +kernel
theorem dX8_near_18 : decode cX8_near 18 = .ok (.getfield 28, 3) := by decide +kernel
theorem dX8_near_21 : decode cX8_near 21 = .ok (.iload_n 1, 1) := by decide +kernel
theorem dX8_near_22 : decode cX8_near 22 = .ok (.aload_n 0, 1) := by decide +kernel
theorem dX8_near_23 : decode cX8_near 23 = .ok (.getfield 43, 3) := by decide +kernel
theorem dX8_near_26 : decode cX8_near 26 = .ok (.invokevirtual 204, 3) := by decide +kernel
theorem dX8_near_29 : decode cX8_near 29 = .ok (.aload_n 0, 1) := by decide +kernel
theorem dX8_near_30 : decode cX8_near 30 = .ok (.invokevirtual 152, 3) := by decide +kernel
theorem dX8_near_33 : decode cX8_near 33 = .ok (.astore_n 2, 1) := by decide +kernel
theorem dX8_near_34 : decode cX8_near 34 = .ok (.iconst 0, 1) := by decide +kernel
theorem dX8_near_35 : decode cX8_near 35 = .ok (.istore_n 3, 1) := by decide +kernel
theorem dX8_near_36 : decode cX8_near 36 = .ok (.iconst 0, 1) := by decide +kernel
theorem dX8_near_37 : decode cX8_near 37 = .ok (.istore 4, 2) := by decide +kernel
theorem dX8_near_39 : decode cX8_near 39 = .ok (.iload 4, 2) := by decide +kernel
theorem dX8_near_4 : decode cX8_near 4 = .ok (.iload_n 1, 1) := by decide +kernel
theorem dX8_near_41 : decode cX8_near 41 = .ok (.aload_n 2, 1) := by decide +kernel
theorem dX8_near_42 : decode cX8_near 42 = .ok (.invokevirtual 156, 3) := by decide +kernel
theorem dX8_near_45 : decode cX8_near 45 = .ok (.if_icmp .ge 25, 3) := by decide +kernel
theorem dX8_near_48 : decode cX8_near 48 = .ok (.aload_n 2, 1) := by decide +kernel
theorem dX8_near_49 : decode cX8_near 49 = .ok (.iload 4, 2) := by decide +kernel
theorem dX8_near_5 : decode cX8_near 5 = .ok (.invokevirtual 201, 3) := by decide +kernel
theorem dX8_near_51 : decode cX8_near 51 = .ok (.aload_n 0, 1) := by decide +kernel
theorem dX8_near_52 : decode cX8_near 52 = .ok (.getfield 43, 3) := by decide +kernel
theorem dX8_near_55 : decode cX8_near 55 = .ok (.invokevirtual 221, 3) := by decide +kernel
theorem dX8_near_58 : decode cX8_near 58 = .ok (.ifCond .le 6, 3) := by decide +kernel
theorem dX8_near_61 : decode cX8_near 61 = .ok (.iinc 3 1, 3) := by decide +kernel
theorem dX8_near_64 : decode cX8_near 64 = .ok (.iinc 4 1, 3) := by decide +kernel
theorem dX8_near_67 : decode cX8_near 67 = .ok (.goto (-28), 3) := by decide +kernel
theorem dX8_near_70 : decode cX8_near 70 = .ok (.iload_n 3, 1) := by decide +kernel
theorem dX8_near_71 : decode cX8_near 71 = .ok (.ireturn, 1) := by decide +kernel
theorem dX8_near_8 : decode cX8_near 8 = .ok (.ifCond .ne 9, 3) := by decide +kernel
theorem dX8_plan_0 : decode cX8_plan 0 = .ok (.aload_n 0, 1) := by decide +kernel
theorem dX8_plan_1 : decode cX8_plan 1 = .ok (.invokevirtual 196, 3) := by decide +kernel
theorem dX8_plan_11 : decode cX8_plan 11 = .ok (.aload_n 0, 1) := by decide +kernel
theorem dX8_plan_12 : decode cX8_plan 12 = .ok (.getfield 10, 3) := by decide +kernel
theorem dX8_plan_15 : decode cX8_plan 15 = .ok (.iload_n 2, 1) := by decide +kernel
theorem dX8_plan_16 : decode cX8_plan 16 = .ok (.invokevirtual 82, 3) := by decide +kernel
theorem dX8_plan_19 : decode cX8_plan 19 = .ok (.ifCond .ne 6, 3) := by decide +kernel
theorem dX8_plan_22 : decode cX8_plan 22 = .ok (.ldc 162, 2) := by decide +kernel
theorem dX8_plan_24 : decode cX8_plan 24 = .ok (.ireturn, 1) := by decide +kernel
theorem dX8_plan_25 : decode cX8_plan 25 = .ok (.aload_n 0, 1) := by decide +kernel
theorem dX8_plan_26 : decode cX8_plan 26 = .ok (.getfield 28, 3) := by decide +kernel
theorem dX8_plan_29 : decode cX8_plan 29 = .ok (.iload_n 1, 1) := by decide +kernel
theorem dX8_plan_30 : decode cX8_plan 30 = .ok (.aload_n 0, 1) := by decide +kernel
theorem dX8_plan_31 : decode cX8_plan 31 = .ok (.getfield 43, 3) := by decide +kernel
theorem dX8_plan_34 : decode cX8_plan 34 = .ok (.invokevirtual 204, 3) := by decide +kernel
theorem dX8_plan_37 : decode cX8_plan 37 = .ok (.aload_n 0, 1) := by decide +kernel
theorem dX8_plan_38 : decode cX8_plan 38 = .ok (.getfield 43, 3) := by decide +kernel
theorem dX8_plan_4 : decode cX8_plan 4 = .ok (.iload_n 1, 1) := by decide +kernel
theorem dX8_plan_41 : decode cX8_plan 41 = .ok (.iload_n 2, 1) := by decide +kernel
theorem dX8_plan_42 : decode cX8_plan 42 = .ok (.iaload, 1) := by decide +kernel
theorem dX8_plan_43 : decode cX8_plan 43 = .ok (.ireturn, 1) := by decide +kernel
theorem dX8_plan_5 : decode cX8_plan 5 = .ok (.invokevirtual 201, 3) := by decide +kernel
theorem dX8_plan_8 : decode cX8_plan 8 = .ok (.ifCond .eq 14, 3) := by decide +kernel
theorem dX8_plans_0 : decode cX8_plans 0 = .ok (.aload_n 0, 1) := by decide +kernel
theorem dX8_plans_1 : decode cX8_plans 1 = .ok (.invokevirtual 196, 3) := by decide +kernel
theorem dX8_plans_4 : decode cX8_plans 4 = .ok (.invokevirtual 200, 3) := by decide +kernel
theorem dX8_plans_7 : decode cX8_plans 7 = .ok (.ireturn, 1) := by decide +kernel
theorem dX8_price_0 : decode cX8_price 0 = .ok (.aload_n 0, 1) := by decide +kernel
theorem dX8_price_1 : decode cX8_price 1 = .ok (.getfield 10, 3) := by decide +kernel
theorem dX8_price_11 : decode cX8_price 11 = .ok (.aload_n 0, 1) := by decide +kernel
theorem dX8_price_12 : decode cX8_price 12 = .ok (.iconst (-1), 1) := by decide +kernel
theorem dX8_price_13 : decode cX8_price 13 = .ok (.invokevirtual 53, 3) := by decide +kernel
theorem dX8_price_16 : decode cX8_price 16 = .ok (.ireturn, 1) := by decide +kernel
theorem dX8_price_17 : decode cX8_price 17 = .ok (.iload_n 2, 1) := by decide +kernel
theorem dX8_price_18 : decode cX8_price 18 = .ok (.bipush (-99), 2) := by decide +kernel
theorem dX8_price_20 : decode cX8_price 20 = .ok (.if_icmp .lt 7, 3) := by decide +kernel
theorem dX8_price_23 : decode cX8_price 23 = .ok (.iload_n 3, 1) := by decide +kernel
theorem dX8_price_24 : decode cX8_price 24 = .ok (.ifCond .ge 10, 3) := by decide +kernel
theorem dX8_price_27 : decode cX8_price 27 = .ok (.aload_n 0, 1) := by decide +kernel
theorem dX8_price_28 : decode cX8_price 28 = .ok (.bipush (-4), 2) := by decide +kernel
theorem dX8_price_30 : decode cX8_price 30 = .ok (.invokevirtual 53, 3) := by decide +kernel
theorem dX8_price_33 : decode cX8_price 33 = .ok (.ireturn, 1) := by decide +kernel
theorem dX8_price_34 : decode cX8_price 34 = .ok (.iload_n 2, 1) := by decide +kernel
theorem dX8_price_35 : decode cX8_price 35 = .ok (.bipush 99, 2) := by decide +kernel
theorem dX8_price_37 : decode cX8_price 37 = .ok (.if_icmp .gt 9, 3) := by decide +kernel
theorem dX8_price_4 : decode cX8_price 4 = .ok (.iload_n 1, 1) := by decide +kernel
theorem dX8_price_40 : decode cX8_price 40 = .ok (.iload_n 3, 1) := by decide +kernel
theorem dX8_price_41 : decode cX8_price 41 = .ok (.bipush 99, 2) := by decide +kernel
theorem dX8_price_43 : decode cX8_price 43 = .ok (.if_icmp .le 10, 3) := by decide +kernel
theorem dX8_price_46 : decode cX8_price 46 = .ok (.aload_n 0, 1) := by decide +kernel
theorem dX8_price_47 : decode cX8_price 47 = .ok (.bipush (-6), 2) := by decide +kernel
theorem dX8_price_49 : decode cX8_price 49 = .ok (.invokevirtual 53, 3) := by decide +kernel
theorem dX8_price_5 : decode cX8_price 5 = .ok (.invokevirtual 82, 3) := by decide +kernel
theorem dX8_price_52 : decode cX8_price 52 = .ok (.ireturn, 1) := by decide +kernel
theorem dX8_price_53 : decode cX8_price 53 = .ok (.aload_n 0, 1) := by decide +kernel
theorem dX8_price_54 : decode cX8_price 54 = .ok (.getfield 10, 3) := by decide +kernel
theorem dX8_price_57 : decode cX8_price 57 = .ok (.getfield 106, 3) := by decide +kernel
theorem dX8_price_60 : decode cX8_price 60 = .ok (.iload_n 1, 1) := by decide +kernel
theorem dX8_price_61 : decode cX8_price 61 = .ok (.iload_n 2, 1) := by decide +kernel
theorem dX8_price_62 : decode cX8_price 62 = .ok (.iastore, 1) := by decide +kernel
theorem dX8_price_63 : decode cX8_price 63 = .ok (.aload_n 0, 1) := by decide +kernel
theorem dX8_price_64 : decode cX8_price 64 = .ok (.getfield 10, 3) := by decide +kernel
theorem dX8_price_67 : decode cX8_price 67 = .ok (.getfield 109, 3) := by decide +kernel
theorem dX8_price_70 : decode cX8_price 70 = .ok (.iload_n 1, 1) := by decide +kernel
theorem dX8_price_71 : decode cX8_price 71 = .ok (.iload_n 3, 1) := by decide +kernel
theorem dX8_price_72 : decode cX8_price 72 = .ok (.iastore, 1) := by decide +kernel
theorem dX8_price_73 : decode cX8_price 73 = .ok (.iconst 1, 1) := by decide +kernel
theorem dX8_price_74 : decode cX8_price 74 = .ok (.ireturn, 1) := by decide +kernel
theorem dX8_price_8 : decode cX8_price 8 = .ok (.ifCond .ne 9, 3) := by decide +kernel
theorem dX8_put_0 : decode cX8_put 0 = .ok (.aload_n 0, 1) := by decide +kernel
theorem dX8_put_1 : decode cX8_put 1 = .ok (.getfield 10, 3) := by decide +kernel
theorem dX8_put_11 : decode cX8_put 11 = .ok (.aload_n 0, 1) := by decide +kernel
theorem dX8_put_12 : decode cX8_put 12 = .ok (.getfield 10, 3) := by decide +kernel
theorem dX8_put_15 : decode cX8_put 15 = .ok (.iload_n 2, 1) := by decide +kernel
theorem dX8_put_16 : decode cX8_put 16 = .ok (.invokevirtual 82, 3) := by decide +kernel
theorem dX8_put_19 : decode cX8_put 19 = .ok (.ifCond .ne 9, 3) := by decide +kernel
theorem dX8_put_22 : decode cX8_put 22 = .ok (.aload_n 0, 1) := by decide +kernel
theorem dX8_put_23 : decode cX8_put 23 = .ok (.iconst (-1), 1) := by decide +kernel
theorem dX8_put_24 : decode cX8_put 24 = .ok (.invokevirtual 53, 3) := by decide +kernel
theorem dX8_put_27 : decode cX8_put 27 = .ok (.ireturn, 1) := by decide +kernel
theorem dX8_put_28 : decode cX8_put 28 = .ok (.iload_n 3, 1) := by decide +kernel
theorem dX8_put_29 : decode cX8_put 29 = .ok (.bipush (-6), 2) := by decide +kernel
theorem dX8_put_31 : decode cX8_put 31 = .ok (.if_icmp .ge 10, 3) := by decide +kernel
theorem dX8_put_34 : decode cX8_put 34 = .ok (.aload_n 0, 1) := by decide +kernel
theorem dX8_put_35 : decode cX8_put 35 = .ok (.bipush (-4), 2) := by decide +kernel
theorem dX8_put_37 : decode cX8_put 37 = .ok (.invokevirtual 53, 3) := by decide +kernel
theorem dX8_put_4 : decode cX8_put 4 = .ok (.iload_n 1, 1) := by decide +kernel
theorem dX8_put_40 : decode cX8_put 40 = .ok (.ireturn, 1) := by decide +kernel
theorem dX8_put_41 : decode cX8_put 41 = .ok (.iload_n 3, 1) := by decide +kernel
theorem dX8_put_42 : decode cX8_put 42 = .ok (.bipush 6, 2) := by decide +kernel
theorem dX8_put_44 : decode cX8_put 44 = .ok (.if_icmp .le 10, 3) := by decide +kernel
theorem dX8_put_47 : decode cX8_put 47 = .ok (.aload_n 0, 1) := by decide +kernel
theorem dX8_put_48 : decode cX8_put 48 = .ok (.bipush (-6), 2) := by decide +kernel
theorem dX8_put_5 : decode cX8_put 5 = .ok (.invokevirtual 78, 3) := by decide +kernel
theorem dX8_put_50 : decode cX8_put 50 = .ok (.invokevirtual 53, 3) := by decide +kernel
theorem dX8_put_53 : decode cX8_put 53 = .ok (.ireturn, 1) := by decide +kernel
theorem dX8_put_54 : decode cX8_put 54 = .ok (.aload_n 0, 1) := by decide +kernel
theorem dX8_put_55 : decode cX8_put 55 = .ok (.getfield 10, 3) := by decide +kernel
theorem dX8_put_58 : decode cX8_put 58 = .ok (.getfield 85, 3) := by decide +kernel
theorem dX8_put_61 : decode cX8_put 61 = .ok (.iload_n 1, 1) := by decide +kernel
theorem dX8_put_62 : decode cX8_put 62 = .ok (.aaload, 1) := by decide +kernel
theorem dX8_put_63 : decode cX8_put 63 = .ok (.iload_n 2, 1) := by decide +kernel
theorem dX8_put_64 : decode cX8_put 64 = .ok (.iaload, 1) := by decide +kernel
theorem dX8_put_65 : decode cX8_put 65 = .ok (.istore 4, 2) := by decide +kernel
theorem dX8_put_67 : decode cX8_put 67 = .ok (.aload_n 0, 1) := by decide +kernel
theorem dX8_put_68 : decode cX8_put 68 = .ok (.iload_n 1, 1) := by decide +kernel
theorem dX8_put_69 : decode cX8_put 69 = .ok (.iload_n 2, 1) := by decide +kernel
theorem dX8_put_70 : decode cX8_put 70 = .ok (.iload_n 3, 1) := by decide +kernel
theorem dX8_put_71 : decode cX8_put 71 = .ok (.invokevirtual 89, 3) := by decide +kernel
theorem dX8_put_74 : decode cX8_put 74 = .ok (.iload 4, 2) := by decide +kernel
theorem dX8_put_76 : decode cX8_put 76 = .ok (.ireturn, 1) := by decide +kernel
theorem dX8_put_8 : decode cX8_put 8 = .ok (.ifCond .eq 14, 3) := by decide +kernel
theorem dX8_refuse_0 : decode cX8_refuse 0 = .ok (.iload_n 1, 1) := by decide +kernel
theorem dX8_refuse_1 : decode cX8_refuse 1 = .ok (.iconst (-1), 1) := by decide +kernel
theorem dX8_refuse_11 : decode cX8_refuse 11 = .ok (.aload_n 0, 1) := by decide +kernel
theorem dX8_refuse_12 : decode cX8_refuse 12 = .ok (.getfield 50, 3) := by decide +kernel
theorem dX8_refuse_15 : decode cX8_refuse 15 = .ok (.iload_n 1, 1) := by decide +kernel
theorem dX8_refuse_16 : decode cX8_refuse 16 = .ok (.ineg, 1) := by decide +kernel
theorem dX8_refuse_17 : decode cX8_refuse 17 = .ok (.dup2, 1) := by decide +kernel
theorem dX8_refuse_18 : decode cX8_refuse 18 = .ok (.iaload, 1) := by decide +kernel
theorem dX8_refuse_19 : decode cX8_refuse 19 = .ok (.iconst 1, 1) := by decide +kernel
theorem dX8_refuse_2 : decode cX8_refuse 2 = .ok (.if_icmp .gt 20, 3) := by decide +kernel
theorem dX8_refuse_20 : decode cX8_refuse 20 = .ok (.iadd, 1) := by decide +kernel
theorem dX8_refuse_21 : decode cX8_refuse 21 = .ok (.iastore, 1) := by decide +kernel
theorem dX8_refuse_22 : decode cX8_refuse 22 = .ok (.iload_n 1, 1) := by decide +kernel
theorem dX8_refuse_23 : decode cX8_refuse 23 = .ok (.ireturn, 1) := by decide +kernel
theorem dX8_refuse_5 : decode cX8_refuse 5 = .ok (.iload_n 1, 1) := by decide +kernel
theorem dX8_refuse_6 : decode cX8_refuse 6 = .ok (.bipush (-7), 2) := by decide +kernel
theorem dX8_refuse_8 : decode cX8_refuse 8 = .ok (.if_icmp .lt 14, 3) := by decide +kernel
theorem dX8_right_0 : decode cX8_right 0 = .ok (.aload_n 0, 1) := by decide +kernel
theorem dX8_right_1 : decode cX8_right 1 = .ok (.getfield 10, 3) := by decide +kernel
theorem dX8_right_11 : decode cX8_right 11 = .ok (.aload_n 0, 1) := by decide +kernel
theorem dX8_right_12 : decode cX8_right 12 = .ok (.iconst (-1), 1) := by decide +kernel
theorem dX8_right_13 : decode cX8_right 13 = .ok (.invokevirtual 53, 3) := by decide +kernel
theorem dX8_right_16 : decode cX8_right 16 = .ok (.ireturn, 1) := by decide +kernel
theorem dX8_right_17 : decode cX8_right 17 = .ok (.iload_n 2, 1) := by decide +kernel
theorem dX8_right_18 : decode cX8_right 18 = .ok (.sipush (-200), 3) := by decide +kernel
theorem dX8_right_21 : decode cX8_right 21 = .ok (.if_icmp .ge 10, 3) := by decide +kernel
theorem dX8_right_24 : decode cX8_right 24 = .ok (.aload_n 0, 1) := by decide +kernel
theorem dX8_right_25 : decode cX8_right 25 = .ok (.bipush (-4), 2) := by decide +kernel
theorem dX8_right_27 : decode cX8_right 27 = .ok (.invokevirtual 53, 3) := by decide +kernel
theorem dX8_right_30 : decode cX8_right 30 = .ok (.ireturn, 1) := by decide +kernel
theorem dX8_right_31 : decode cX8_right 31 = .ok (.iload_n 2, 1) := by decide +kernel
theorem dX8_right_32 : decode cX8_right 32 = .ok (.sipush 200, 3) := by decide +kernel
theorem dX8_right_35 : decode cX8_right 35 = .ok (.if_icmp .le 10, 3) := by decide +kernel
theorem dX8_right_38 : decode cX8_right 38 = .ok (.aload_n 0, 1) := by decide +kernel
theorem dX8_right_39 : decode cX8_right 39 = .ok (.bipush (-6), 2) := by decide +kernel
theorem dX8_right_4 : decode cX8_right 4 = .ok (.iload_n 1, 1) := by decide +kernel
theorem dX8_right_41 : decode cX8_right 41 = .ok (.invokevirtual 53, 3) := by decide +kernel
theorem dX8_right_44 : decode cX8_right 44 = .ok (.ireturn, 1) := by decide +kernel
theorem dX8_right_45 : decode cX8_right 45 = .ok (.aload_n 0, 1) := by decide +kernel
theorem dX8_right_46 : decode cX8_right 46 = .ok (.getfield 10, 3) := by decide +kernel
theorem dX8_right_49 : decode cX8_right 49 = .ok (.getfield 93, 3) := by decide +kernel
theorem dX8_right_5 : decode cX8_right 5 = .ok (.invokevirtual 78, 3) := by decide +kernel
theorem dX8_right_52 : decode cX8_right 52 = .ok (.iload_n 1, 1) := by decide +kernel
theorem dX8_right_53 : decode cX8_right 53 = .ok (.iaload, 1) := by decide +kernel
theorem dX8_right_54 : decode cX8_right 54 = .ok (.istore_n 3, 1) := by decide +kernel
theorem dX8_right_55 : decode cX8_right 55 = .ok (.aload_n 0, 1) := by decide +kernel
theorem dX8_right_56 : decode cX8_right 56 = .ok (.getfield 10, 3) := by decide +kernel
theorem dX8_right_59 : decode cX8_right 59 = .ok (.getfield 93, 3) := by decide +kernel
theorem dX8_right_62 : decode cX8_right 62 = .ok (.iload_n 1, 1) := by decide +kernel
theorem dX8_right_63 : decode cX8_right 63 = .ok (.iload_n 2, 1) := by decide +kernel
theorem dX8_right_64 : decode cX8_right 64 = .ok (.iastore, 1) := by decide +kernel
theorem dX8_right_65 : decode cX8_right 65 = .ok (.aload_n 0, 1) := by decide +kernel
theorem dX8_right_66 : decode cX8_right 66 = .ok (.getfield 28, 3) := by decide +kernel
theorem dX8_right_69 : decode cX8_right 69 = .ok (.aload_n 0, 1) := by decide +kernel
theorem dX8_right_70 : decode cX8_right 70 = .ok (.getfield 28, 3) := by decide +kernel
theorem dX8_right_73 : decode cX8_right 73 = .ok (.getfield 96, 3) := by decide +kernel
theorem dX8_right_76 : decode cX8_right 76 = .ok (.ifCond .ne 8, 3) := by decide +kernel
theorem dX8_right_79 : decode cX8_right 79 = .ok (.iload_n 3, 1) := by decide +kernel
theorem dX8_right_8 : decode cX8_right 8 = .ok (.ifCond .ne 9, 3) := by decide +kernel
theorem dX8_right_80 : decode cX8_right 80 = .ok (.iload_n 2, 1) := by decide +kernel
theorem dX8_right_81 : decode cX8_right 81 = .ok (.if_icmp .eq 7, 3) := by decide +kernel
theorem dX8_right_84 : decode cX8_right 84 = .ok (.iconst 1, 1) := by decide +kernel
theorem dX8_right_85 : decode cX8_right 85 = .ok (.goto 4, 3) := by decide +kernel
theorem dX8_right_88 : decode cX8_right 88 = .ok (.iconst 0, 1) := by decide +kernel
theorem dX8_right_89 : decode cX8_right 89 = .ok (.putfield 96, 3) := by decide +kernel
theorem dX8_right_92 : decode cX8_right 92 = .ok (.iload_n 3, 1) := by decide +kernel
theorem dX8_right_93 : decode cX8_right 93 = .ok (.ireturn, 1) := by decide +kernel
theorem dX8_setCoefficient_0 : decode cX8_setCoefficient 0 = .ok (.aload_n 0, 1) := by decide +kernel
theorem dX8_setCoefficient_1 : decode cX8_setCoefficient 1 = .ok (.getfield 10, 3) := by decide +kernel
theorem dX8_setCoefficient_10 : decode cX8_setCoefficient 10 = .ok (.iaload, 1) := by decide +kernel
theorem dX8_setCoefficient_11 : decode cX8_setCoefficient 11 = .ok (.iload_n 3, 1) := by decide +kernel
theorem dX8_setCoefficient_12 : decode cX8_setCoefficient 12 = .ok (.if_icmp .eq 19, 3) := by decide +kernel
theorem dX8_setCoefficient_15 : decode cX8_setCoefficient 15 = .ok (.aload_n 0, 1) := by decide +kernel
theorem dX8_setCoefficient_16 : decode cX8_setCoefficient 16 = .ok (.getfield 10, 3) := by decide +kernel
theorem dX8_setCoefficient_19 : decode cX8_setCoefficient 19 = .ok (.getfield 85, 3) := by decide +kernel
theorem dX8_setCoefficient_22 : decode cX8_setCoefficient 22 = .ok (.iload_n 1, 1) := by decide +kernel
theorem dX8_setCoefficient_23 : decode cX8_setCoefficient 23 = .ok (.aaload, 1) := by decide +kernel
theorem dX8_setCoefficient_24 : decode cX8_setCoefficient 24 = .ok (.iload_n 2, 1) := by decide +kernel
theorem dX8_setCoefficient_25 : decode cX8_setCoefficient 25 = .ok (.iload_n 3, 1) := by decide +kernel
theorem dX8_setCoefficient_26 : decode cX8_setCoefficient 26 = .ok (.iastore, 1) := by decide +kernel
theorem dX8_setCoefficient_27 : decode cX8_setCoefficient 27 = .ok (.aload_n 0, 1) := by decide +kernel
theorem dX8_setCoefficient_28 : decode cX8_setCoefficient 28 = .ok (.invokevirtual 67, 3) := by decide +kernel
theorem dX8_setCoefficient_31 : decode cX8_setCoefficient 31 = .ok (.return_, 1) := by decide +kernel
theorem dX8_setCoefficient_4 : decode cX8_setCoefficient 4 = .ok (.getfield 85, 3) := by decide +kernel
theorem dX8_setCoefficient_7 : decode cX8_setCoefficient 7 = .ok (.iload_n 1, 1) := by decide +kernel
theorem dX8_setCoefficient_8 : decode cX8_setCoefficient 8 = .ok (.aaload, 1) := by decide +kernel
theorem dX8_setCoefficient_9 : decode cX8_setCoefficient 9 = .ok (.iload_n 2, 1) := by decide +kernel
theorem dX8_span_0 : decode cX8_span 0 = .ok (.aload_n 0, 1) := by decide +kernel
theorem dX8_span_1 : decode cX8_span 1 = .ok (.invokevirtual 196, 3) := by decide +kernel
theorem dX8_span_10 : decode cX8_span 10 = .ok (.aload_n 0, 1) := by decide +kernel
theorem dX8_span_11 : decode cX8_span 11 = .ok (.getfield 10, 3) := by decide +kernel
theorem dX8_span_14 : decode cX8_span 14 = .ok (.iload_n 1, 1) := by decide +kernel
theorem dX8_span_15 : decode cX8_span 15 = .ok (.invokevirtual 82, 3) := by decide +kernel
theorem dX8_span_18 : decode cX8_span 18 = .ok (.ifCond .eq 12, 3) := by decide +kernel
theorem dX8_span_21 : decode cX8_span 21 = .ok (.iload_n 2, 1) := by decide +kernel
theorem dX8_span_22 : decode cX8_span 22 = .ok (.ifCond .lt 8, 3) := by decide +kernel
theorem dX8_span_25 : decode cX8_span 25 = .ok (.iload_n 2, 1) := by decide +kernel
theorem dX8_span_26 : decode cX8_span 26 = .ok (.iconst 1, 1) := by decide +kernel
theorem dX8_span_27 : decode cX8_span 27 = .ok (.if_icmp .le 6, 3) := by decide +kernel
theorem dX8_span_30 : decode cX8_span 30 = .ok (.ldc 162, 2) := by decide +kernel
theorem dX8_span_32 : decode cX8_span 32 = .ok (.ireturn, 1) := by decide +kernel
theorem dX8_span_33 : decode cX8_span 33 = .ok (.iload_n 2, 1) := by decide +kernel
theorem dX8_span_34 : decode cX8_span 34 = .ok (.ifCond .ne 14, 3) := by decide +kernel
theorem dX8_span_37 : decode cX8_span 37 = .ok (.aload_n 0, 1) := by decide +kernel
theorem dX8_span_38 : decode cX8_span 38 = .ok (.getfield 28, 3) := by decide +kernel
theorem dX8_span_4 : decode cX8_span 4 = .ok (.invokevirtual 200, 3) := by decide +kernel
theorem dX8_span_41 : decode cX8_span 41 = .ok (.iload_n 1, 1) := by decide +kernel
theorem dX8_span_42 : decode cX8_span 42 = .ok (.invokevirtual 212, 3) := by decide +kernel
theorem dX8_span_45 : decode cX8_span 45 = .ok (.goto 11, 3) := by decide +kernel
theorem dX8_span_48 : decode cX8_span 48 = .ok (.aload_n 0, 1) := by decide +kernel
theorem dX8_span_49 : decode cX8_span 49 = .ok (.getfield 28, 3) := by decide +kernel
theorem dX8_span_52 : decode cX8_span 52 = .ok (.iload_n 1, 1) := by decide +kernel
theorem dX8_span_53 : decode cX8_span 53 = .ok (.invokevirtual 215, 3) := by decide +kernel
theorem dX8_span_56 : decode cX8_span 56 = .ok (.ireturn, 1) := by decide +kernel
theorem dX8_span_7 : decode cX8_span 7 = .ok (.ifCond .eq 23, 3) := by decide +kernel
theorem dX8_split_0 : decode cX8_split 0 = .ok (.aload_n 0, 1) := by decide +kernel
theorem dX8_split_1 : decode cX8_split 1 = .ok (.invokevirtual 152, 3) := by decide +kernel
theorem dX8_split_11 : decode cX8_split 11 = .ok (.aload_n 0, 1) := by decide +kernel
theorem dX8_split_12 : decode cX8_split 12 = .ok (.iconst (-1), 1) := by decide +kernel
theorem dX8_split_13 : decode cX8_split 13 = .ok (.invokevirtual 53, 3) := by decide +kernel
theorem dX8_split_16 : decode cX8_split 16 = .ok (.ireturn, 1) := by decide +kernel
theorem dX8_split_17 : decode cX8_split 17 = .ok (.aload_n 0, 1) := by decide +kernel
theorem dX8_split_18 : decode cX8_split 18 = .ok (.getfield 10, 3) := by decide +kernel
theorem dX8_split_21 : decode cX8_split 21 = .ok (.aload_n 0, 1) := by decide +kernel
theorem dX8_split_22 : decode cX8_split 22 = .ok (.getfield 39, 3) := by decide +kernel
theorem dX8_split_25 : decode cX8_split 25 = .ok (.invokevirtual 170, 3) := by decide +kernel
theorem dX8_split_28 : decode cX8_split 28 = .ok (.ifCond .ne 10, 3) := by decide +kernel
theorem dX8_split_31 : decode cX8_split 31 = .ok (.aload_n 0, 1) := by decide +kernel
theorem dX8_split_32 : decode cX8_split 32 = .ok (.bipush (-5), 2) := by decide +kernel
theorem dX8_split_34 : decode cX8_split 34 = .ok (.invokevirtual 53, 3) := by decide +kernel
theorem dX8_split_37 : decode cX8_split 37 = .ok (.ireturn, 1) := by decide +kernel
theorem dX8_split_38 : decode cX8_split 38 = .ok (.aload_n 0, 1) := by decide +kernel
theorem dX8_split_39 : decode cX8_split 39 = .ok (.aload_n 0, 1) := by decide +kernel
theorem dX8_split_4 : decode cX8_split 4 = .ok (.iload_n 1, 1) := by decide +kernel
theorem dX8_split_40 : decode cX8_split 40 = .ok (.getfield 21, 3) := by decide +kernel
theorem dX8_split_43 : decode cX8_split 43 = .ok (.iload_n 1, 1) := by decide +kernel
theorem dX8_split_44 : decode cX8_split 44 = .ok (.iload_n 1, 1) := by decide +kernel
theorem dX8_split_45 : decode cX8_split 45 = .ok (.iconst 1, 1) := by decide +kernel
theorem dX8_split_46 : decode cX8_split 46 = .ok (.iadd, 1) := by decide +kernel
theorem dX8_split_47 : decode cX8_split 47 = .ok (.invokevirtual 180, 3) := by decide +kernel
theorem dX8_split_5 : decode cX8_split 5 = .ok (.invokevirtual 159, 3) := by decide +kernel
theorem dX8_split_50 : decode cX8_split 50 = .ok (.ireturn, 1) := by decide +kernel
theorem dX8_split_8 : decode cX8_split 8 = .ok (.ifCond .ne 9, 3) := by decide +kernel
theorem dX8_step_0 : decode cX8_step 0 = .ok (.aload_n 0, 1) := by decide +kernel
theorem dX8_step_1 : decode cX8_step 1 = .ok (.invokevirtual 152, 3) := by decide +kernel
theorem dX8_step_11 : decode cX8_step 11 = .ok (.aload_n 0, 1) := by decide +kernel
theorem dX8_step_12 : decode cX8_step 12 = .ok (.getfield 10, 3) := by decide +kernel
theorem dX8_step_15 : decode cX8_step 15 = .ok (.iload_n 2, 1) := by decide +kernel
theorem dX8_step_16 : decode cX8_step 16 = .ok (.invokevirtual 82, 3) := by decide +kernel
theorem dX8_step_19 : decode cX8_step 19 = .ok (.ifCond .ne 6, 3) := by decide +kernel
theorem dX8_step_22 : decode cX8_step 22 = .ok (.ldc 162, 2) := by decide +kernel
theorem dX8_step_24 : decode cX8_step 24 = .ok (.ireturn, 1) := by decide +kernel
theorem dX8_step_25 : decode cX8_step 25 = .ok (.aload_n 0, 1) := by decide +kernel
theorem dX8_step_26 : decode cX8_step 26 = .ok (.getfield 21, 3) := by decide +kernel
theorem dX8_step_29 : decode cX8_step 29 = .ok (.iload_n 1, 1) := by decide +kernel
theorem dX8_step_30 : decode cX8_step 30 = .ok (.iload_n 2, 1) := by decide +kernel
theorem dX8_step_31 : decode cX8_step 31 = .ok (.invokevirtual 163, 3) := by decide +kernel
theorem dX8_step_34 : decode cX8_step 34 = .ok (.ireturn, 1) := by decide +kernel
theorem dX8_step_4 : decode cX8_step 4 = .ok (.iload_n 1, 1) := by decide +kernel
theorem dX8_step_5 : decode cX8_step 5 = .ok (.invokevirtual 159, 3) := by decide +kernel
theorem dX8_step_8 : decode cX8_step 8 = .ok (.ifCond .eq 14, 3) := by decide +kernel
theorem dX8_take_0 : decode cX8_take 0 = .ok (.aload_n 0, 1) := by decide +kernel
theorem dX8_take_1 : decode cX8_take 1 = .ok (.invokevirtual 196, 3) := by decide +kernel
theorem dX8_take_11 : decode cX8_take 11 = .ok (.aload_n 0, 1) := by decide +kernel
theorem dX8_take_12 : decode cX8_take 12 = .ok (.iconst (-1), 1) := by decide +kernel
theorem dX8_take_13 : decode cX8_take 13 = .ok (.invokevirtual 53, 3) := by decide +kernel
theorem dX8_take_16 : decode cX8_take 16 = .ok (.ireturn, 1) := by decide +kernel
theorem dX8_take_17 : decode cX8_take 17 = .ok (.aload_n 0, 1) := by decide +kernel
theorem dX8_take_18 : decode cX8_take 18 = .ok (.getfield 28, 3) := by decide +kernel
theorem dX8_take_21 : decode cX8_take 21 = .ok (.iload_n 1, 1) := by decide +kernel
theorem dX8_take_22 : decode cX8_take 22 = .ok (.aload_n 0, 1) := by decide +kernel
theorem dX8_take_23 : decode cX8_take 23 = .ok (.getfield 39, 3) := by decide +kernel
theorem dX8_take_26 : decode cX8_take 26 = .ok (.invokevirtual 204, 3) := by decide +kernel
theorem dX8_take_29 : decode cX8_take 29 = .ok (.iconst 1, 1) := by decide +kernel
theorem dX8_take_30 : decode cX8_take 30 = .ok (.ireturn, 1) := by decide +kernel
theorem dX8_take_4 : decode cX8_take 4 = .ok (.iload_n 1, 1) := by decide +kernel
theorem dX8_take_5 : decode cX8_take 5 = .ok (.invokevirtual 201, 3) := by decide +kernel
theorem dX8_take_8 : decode cX8_take 8 = .ok (.ifCond .ne 9, 3) := by decide +kernel
theorem dX8_tray_0 : decode cX8_tray 0 = .ok (.aload_n 0, 1) := by decide +kernel
theorem dX8_tray_1 : decode cX8_tray 1 = .ok (.getfield 35, 3) := by decide +kernel
theorem dX8_tray_11 : decode cX8_tray 11 = .ok (.aload_n 0, 1) := by decide +kernel
theorem dX8_tray_12 : decode cX8_tray 12 = .ok (.iconst (-1), 1) := by decide +kernel
theorem dX8_tray_13 : decode cX8_tray 13 = .ok (.invokevirtual 53, 3) := by decide +kernel
theorem dX8_tray_16 : decode cX8_tray 16 = .ok (.ireturn, 1) := by decide +kernel
theorem dX8_tray_17 : decode cX8_tray 17 = .ok (.iload_n 2, 1) := by decide +kernel
theorem dX8_tray_18 : decode cX8_tray 18 = .ok (.ifCond .lt 8, 3) := by decide +kernel
theorem dX8_tray_21 : decode cX8_tray 21 = .ok (.iload_n 2, 1) := by decide +kernel
theorem dX8_tray_22 : decode cX8_tray 22 = .ok (.iconst 3, 1) := by decide +kernel
theorem dX8_tray_23 : decode cX8_tray 23 = .ok (.if_icmp .le 10, 3) := by decide +kernel
theorem dX8_tray_26 : decode cX8_tray 26 = .ok (.aload_n 0, 1) := by decide +kernel
theorem dX8_tray_27 : decode cX8_tray 27 = .ok (.bipush (-2), 2) := by decide +kernel
theorem dX8_tray_29 : decode cX8_tray 29 = .ok (.invokevirtual 53, 3) := by decide +kernel
theorem dX8_tray_32 : decode cX8_tray 32 = .ok (.ireturn, 1) := by decide +kernel
theorem dX8_tray_33 : decode cX8_tray 33 = .ok (.iload_n 3, 1) := by decide +kernel
theorem dX8_tray_34 : decode cX8_tray 34 = .ok (.ifCond .ge 10, 3) := by decide +kernel
theorem dX8_tray_37 : decode cX8_tray 37 = .ok (.aload_n 0, 1) := by decide +kernel
theorem dX8_tray_38 : decode cX8_tray 38 = .ok (.bipush (-4), 2) := by decide +kernel
theorem dX8_tray_4 : decode cX8_tray 4 = .ok (.iload_n 1, 1) := by decide +kernel
theorem dX8_tray_40 : decode cX8_tray 40 = .ok (.invokevirtual 53, 3) := by decide +kernel
theorem dX8_tray_43 : decode cX8_tray 43 = .ok (.ireturn, 1) := by decide +kernel
theorem dX8_tray_44 : decode cX8_tray 44 = .ok (.iload_n 3, 1) := by decide +kernel
theorem dX8_tray_45 : decode cX8_tray 45 = .ok (.bipush 20, 2) := by decide +kernel
theorem dX8_tray_47 : decode cX8_tray 47 = .ok (.if_icmp .le 10, 3) := by decide +kernel
theorem dX8_tray_5 : decode cX8_tray 5 = .ok (.invokevirtual 112, 3) := by decide +kernel
theorem dX8_tray_50 : decode cX8_tray 50 = .ok (.aload_n 0, 1) := by decide +kernel
theorem dX8_tray_51 : decode cX8_tray 51 = .ok (.bipush (-6), 2) := by decide +kernel
theorem dX8_tray_53 : decode cX8_tray 53 = .ok (.invokevirtual 53, 3) := by decide +kernel
theorem dX8_tray_56 : decode cX8_tray 56 = .ok (.ireturn, 1) := by decide +kernel
theorem dX8_tray_57 : decode cX8_tray 57 = .ok (.aload_n 0, 1) := by decide +kernel
theorem dX8_tray_58 : decode cX8_tray 58 = .ok (.getfield 35, 3) := by decide +kernel
theorem dX8_tray_61 : decode cX8_tray 61 = .ok (.iload_n 1, 1) := by decide +kernel
theorem dX8_tray_62 : decode cX8_tray 62 = .ok (.iload_n 2, 1) := by decide +kernel
theorem dX8_tray_63 : decode cX8_tray 63 = .ok (.iload_n 3, 1) := by decide +kernel
theorem dX8_tray_64 : decode cX8_tray 64 = .ok (.invokevirtual 115, 3) := by decide +kernel
theorem dX8_tray_67 : decode cX8_tray 67 = .ok (.iconst 1, 1) := by decide +kernel
theorem dX8_tray_68 : decode cX8_tray 68 = .ok (.ireturn, 1) := by decide +kernel
theorem dX8_tray_8 : decode cX8_tray 8 = .ok (.ifCond .ne 9, 3) := by decide +kernel
theorem dX8_what_0 : decode cX8_what 0 = .ok (.aload_n 0, 1) := by decide +kernel
theorem dX8_what_1 : decode cX8_what 1 = .ok (.getfield 10, 3) := by decide +kernel
theorem dX8_what_11 : decode cX8_what 11 = .ok (.ifCond .eq 7, 3) := by decide +kernel
theorem dX8_what_14 : decode cX8_what 14 = .ok (.iconst 1, 1) := by decide +kernel
theorem dX8_what_15 : decode cX8_what 15 = .ok (.goto 4, 3) := by decide +kernel
theorem dX8_what_18 : decode cX8_what 18 = .ok (.iconst 0, 1) := by decide +kernel
theorem dX8_what_19 : decode cX8_what 19 = .ok (.aload_n 0, 1) := by decide +kernel
theorem dX8_what_20 : decode cX8_what 20 = .ok (.getfield 10, 3) := by decide +kernel
theorem dX8_what_23 : decode cX8_what 23 = .ok (.aload_n 0, 1) := by decide +kernel
theorem dX8_what_24 : decode cX8_what 24 = .ok (.getfield 39, 3) := by decide +kernel
theorem dX8_what_27 : decode cX8_what 27 = .ok (.invokevirtual 173, 3) := by decide +kernel
theorem dX8_what_30 : decode cX8_what 30 = .ok (.ifCond .eq 7, 3) := by decide +kernel
theorem dX8_what_33 : decode cX8_what 33 = .ok (.iconst 2, 1) := by decide +kernel
theorem dX8_what_34 : decode cX8_what 34 = .ok (.goto 4, 3) := by decide +kernel
theorem dX8_what_37 : decode cX8_what 37 = .ok (.iconst 0, 1) := by decide +kernel
theorem dX8_what_38 : decode cX8_what 38 = .ok (.iadd, 1) := by decide +kernel
theorem dX8_what_39 : decode cX8_what 39 = .ok (.ireturn, 1) := by decide +kernel
theorem dX8_what_4 : decode cX8_what 4 = .ok (.aload_n 0, 1) := by decide +kernel
theorem dX8_what_5 : decode cX8_what 5 = .ok (.getfield 39, 3) := by decide +kernel
theorem dX8_what_8 : decode cX8_what 8 = .ok (.invokevirtual 170, 3) := by decide +kernel
theorem dX8_works_0 : decode cX8_works 0 = .ok (.iload_n 1, 1) := by decide +kernel
theorem dX8_works_1 : decode cX8_works 1 = .ok (.iconst 1, 1) := by decide +kernel
theorem dX8_works_11 : decode cX8_works 11 = .ok (.ireturn, 1) := by decide +kernel
theorem dX8_works_12 : decode cX8_works 12 = .ok (.iload_n 1, 1) := by decide +kernel
theorem dX8_works_13 : decode cX8_works 13 = .ok (.iconst 4, 1) := by decide +kernel
theorem dX8_works_14 : decode cX8_works 14 = .ok (.if_icmp .le 10, 3) := by decide +kernel
theorem dX8_works_17 : decode cX8_works 17 = .ok (.aload_n 0, 1) := by decide +kernel
theorem dX8_works_18 : decode cX8_works 18 = .ok (.bipush (-6), 2) := by decide +kernel
theorem dX8_works_2 : decode cX8_works 2 = .ok (.if_icmp .ge 10, 3) := by decide +kernel
theorem dX8_works_20 : decode cX8_works 20 = .ok (.invokevirtual 53, 3) := by decide +kernel
theorem dX8_works_23 : decode cX8_works 23 = .ok (.ireturn, 1) := by decide +kernel
theorem dX8_works_24 : decode cX8_works 24 = .ok (.aload_n 0, 1) := by decide +kernel
theorem dX8_works_25 : decode cX8_works 25 = .ok (.getfield 10, 3) := by decide +kernel
theorem dX8_works_28 : decode cX8_works 28 = .ok (.iload_n 1, 1) := by decide +kernel
theorem dX8_works_29 : decode cX8_works 29 = .ok (.invokevirtual 57, 3) := by decide +kernel
theorem dX8_works_32 : decode cX8_works 32 = .ok (.aload_n 0, 1) := by decide +kernel
theorem dX8_works_33 : decode cX8_works 33 = .ok (.getfield 39, 3) := by decide +kernel
theorem dX8_works_36 : decode cX8_works 36 = .ok (.iconst 0, 1) := by decide +kernel
theorem dX8_works_37 : decode cX8_works 37 = .ok (.invokestatic 61, 3) := by decide +kernel
theorem dX8_works_40 : decode cX8_works 40 = .ok (.aload_n 0, 1) := by decide +kernel
theorem dX8_works_41 : decode cX8_works 41 = .ok (.invokevirtual 67, 3) := by decide +kernel
theorem dX8_works_44 : decode cX8_works 44 = .ok (.iconst 1, 1) := by decide +kernel
theorem dX8_works_45 : decode cX8_works 45 = .ok (.ireturn, 1) := by decide +kernel
theorem dX8_works_5 : decode cX8_works 5 = .ok (.aload_n 0, 1) := by decide +kernel
theorem dX8_works_6 : decode cX8_works 6 = .ok (.bipush (-4), 2) := by decide +kernel
theorem dX8_works_8 : decode cX8_works 8 = .ok (.invokevirtual 53, 3) := by decide +kernel
