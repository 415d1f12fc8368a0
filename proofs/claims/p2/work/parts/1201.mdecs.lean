theorem dX9_a_0 : decode cX9_a 0 = .ok (.aload_n 0, 1) := by decide +kernel
theorem dX9_a_1 : decode cX9_a 1 = .ok (.getfield 9, 3) := by decide +kernel
theorem dX9_a_10 : decode cX9_a 10 = .ok (.i2l, 1) := by decide +kernel
theorem dX9_a_11 : decode cX9_a 11 = .ok (.lreturn, 1) := by decide +kernel
theorem dX9_a_4 : decode cX9_a 4 = .ok (.iconst 4, 1) := by decide +kernel
theorem dX9_a_5 : decode cX9_a 5 = .ok (.iload_n 1, 1) := by decide +kernel
theorem dX9_a_6 : decode cX9_a 6 = .ok (.imul, 1) := by decide +kernel
theorem dX9_a_7 : decode cX9_a 7 = .ok (.iload_n 2, 1) := by decide +kernel
theorem dX9_a_8 : decode cX9_a 8 = .ok (.iadd, 1) := by decide +kernel
theorem dX9_a_9 : decode cX9_a 9 = .ok (.iaload, 1) := by decide +kernel
theorem dX9_bits_0 : decode cX9_bits 0 = .ok (.iload_n 0, 1) := by decide +kernel
theorem dX9_bits_1 : decode cX9_bits 1 = .ok (.iconst 1, 1) := by decide +kernel
theorem dX9_bits_10 : decode cX9_bits 10 = .ok (.iconst 2, 1) := by decide +kernel
theorem dX9_bits_11 : decode cX9_bits 11 = .ok (.ishr, 1) := by decide +kernel
theorem dX9_bits_12 : decode cX9_bits 12 = .ok (.iconst 1, 1) := by decide +kernel
theorem dX9_bits_13 : decode cX9_bits 13 = .ok (.iand, 1) := by decide +kernel
theorem dX9_bits_14 : decode cX9_bits 14 = .ok (.iadd, 1) := by decide +kernel
theorem dX9_bits_15 : decode cX9_bits 15 = .ok (.iload_n 0, 1) := by decide +kernel
theorem dX9_bits_16 : decode cX9_bits 16 = .ok (.iconst 3, 1) := by decide +kernel
theorem dX9_bits_17 : decode cX9_bits 17 = .ok (.ishr, 1) := by decide +kernel
theorem dX9_bits_18 : decode cX9_bits 18 = .ok (.iconst 1, 1) := by decide +kernel
theorem dX9_bits_19 : decode cX9_bits 19 = .ok (.iand, 1) := by decide +kernel
theorem dX9_bits_2 : decode cX9_bits 2 = .ok (.iand, 1) := by decide +kernel
theorem dX9_bits_20 : decode cX9_bits 20 = .ok (.iadd, 1) := by decide +kernel
theorem dX9_bits_21 : decode cX9_bits 21 = .ok (.ireturn, 1) := by decide +kernel
theorem dX9_bits_3 : decode cX9_bits 3 = .ok (.iload_n 0, 1) := by decide +kernel
theorem dX9_bits_4 : decode cX9_bits 4 = .ok (.iconst 1, 1) := by decide +kernel
theorem dX9_bits_5 : decode cX9_bits 5 = .ok (.ishr, 1) := by decide +kernel
theorem dX9_bits_6 : decode cX9_bits 6 = .ok (.iconst 1, 1) := by decide +kernel
theorem dX9_bits_7 : decode cX9_bits 7 = .ok (.iand, 1) := by decide +kernel
theorem dX9_bits_8 : decode cX9_bits 8 = .ok (.iadd, 1) := by decide +kernel
theorem dX9_bits_9 : decode cX9_bits 9 = .ok (.iload_n 0, 1) := by decide +kernel
theorem dX9_minor_0 : decode cX9_minor 0 = .ok (.iload_n 1, 1) := by decide +kernel
theorem dX9_minor_1 : decode cX9_minor 1 = .ok (.ifCond .ne 5, 3) := by decide +kernel
theorem dX9_minor_101 : decode cX9_minor 101 = .ok (.invokevirtual 124, 3) := by decide +kernel
theorem dX9_minor_104 : decode cX9_minor 104 = .ok (.aload_n 0, 1) := by decide +kernel
theorem dX9_minor_105 : decode cX9_minor 105 = .ok (.iload_n 3, 1) := by decide +kernel
theorem dX9_minor_106 : decode cX9_minor 106 = .ok (.iload 5, 2) := by decide +kernel
theorem dX9_minor_108 : decode cX9_minor 108 = .ok (.invokevirtual 124, 3) := by decide +kernel
theorem dX9_minor_11 : decode cX9_minor 11 = .ok (.aload_n 0, 1) := by decide +kernel
theorem dX9_minor_111 : decode cX9_minor 111 = .ok (.aload_n 0, 1) := by decide +kernel
theorem dX9_minor_112 : decode cX9_minor 112 = .ok (.iload 4, 2) := by decide +kernel
theorem dX9_minor_114 : decode cX9_minor 114 = .ok (.iload 7, 2) := by decide +kernel
theorem dX9_minor_116 : decode cX9_minor 116 = .ok (.invokevirtual 124, 3) := by decide +kernel
theorem dX9_minor_119 : decode cX9_minor 119 = .ok (.lmul, 1) := by decide +kernel
theorem dX9_minor_12 : decode cX9_minor 12 = .ok (.iload_n 2, 1) := by decide +kernel
theorem dX9_minor_120 : decode cX9_minor 120 = .ok (.aload_n 0, 1) := by decide +kernel
theorem dX9_minor_121 : decode cX9_minor 121 = .ok (.iload_n 3, 1) := by decide +kernel
theorem dX9_minor_122 : decode cX9_minor 122 = .ok (.iload 7, 2) := by decide +kernel
theorem dX9_minor_124 : decode cX9_minor 124 = .ok (.invokevirtual 124, 3) := by decide +kernel
theorem dX9_minor_127 : decode cX9_minor 127 = .ok (.aload_n 0, 1) := by decide +kernel
theorem dX9_minor_128 : decode cX9_minor 128 = .ok (.iload 4, 2) := by decide +kernel
theorem dX9_minor_13 : decode cX9_minor 13 = .ok (.iload 5, 2) := by decide +kernel
theorem dX9_minor_130 : decode cX9_minor 130 = .ok (.iload 5, 2) := by decide +kernel
theorem dX9_minor_132 : decode cX9_minor 132 = .ok (.invokevirtual 124, 3) := by decide +kernel
theorem dX9_minor_135 : decode cX9_minor 135 = .ok (.lmul, 1) := by decide +kernel
theorem dX9_minor_136 : decode cX9_minor 136 = .ok (.lsub, 1) := by decide +kernel
theorem dX9_minor_137 : decode cX9_minor 137 = .ok (.lmul, 1) := by decide +kernel
theorem dX9_minor_138 : decode cX9_minor 138 = .ok (.lsub, 1) := by decide +kernel
theorem dX9_minor_139 : decode cX9_minor 139 = .ok (.aload_n 0, 1) := by decide +kernel
theorem dX9_minor_140 : decode cX9_minor 140 = .ok (.iload_n 2, 1) := by decide +kernel
theorem dX9_minor_141 : decode cX9_minor 141 = .ok (.iload 7, 2) := by decide +kernel
theorem dX9_minor_143 : decode cX9_minor 143 = .ok (.invokevirtual 124, 3) := by decide +kernel
theorem dX9_minor_146 : decode cX9_minor 146 = .ok (.aload_n 0, 1) := by decide +kernel
theorem dX9_minor_147 : decode cX9_minor 147 = .ok (.iload_n 3, 1) := by decide +kernel
theorem dX9_minor_148 : decode cX9_minor 148 = .ok (.iload 5, 2) := by decide +kernel
theorem dX9_minor_15 : decode cX9_minor 15 = .ok (.invokevirtual 124, 3) := by decide +kernel
theorem dX9_minor_150 : decode cX9_minor 150 = .ok (.invokevirtual 124, 3) := by decide +kernel
theorem dX9_minor_153 : decode cX9_minor 153 = .ok (.aload_n 0, 1) := by decide +kernel
theorem dX9_minor_154 : decode cX9_minor 154 = .ok (.iload 4, 2) := by decide +kernel
theorem dX9_minor_156 : decode cX9_minor 156 = .ok (.iload 6, 2) := by decide +kernel
theorem dX9_minor_158 : decode cX9_minor 158 = .ok (.invokevirtual 124, 3) := by decide +kernel
theorem dX9_minor_161 : decode cX9_minor 161 = .ok (.lmul, 1) := by decide +kernel
theorem dX9_minor_162 : decode cX9_minor 162 = .ok (.aload_n 0, 1) := by decide +kernel
theorem dX9_minor_163 : decode cX9_minor 163 = .ok (.iload_n 3, 1) := by decide +kernel
theorem dX9_minor_164 : decode cX9_minor 164 = .ok (.iload 6, 2) := by decide +kernel
theorem dX9_minor_166 : decode cX9_minor 166 = .ok (.invokevirtual 124, 3) := by decide +kernel
theorem dX9_minor_169 : decode cX9_minor 169 = .ok (.aload_n 0, 1) := by decide +kernel
theorem dX9_minor_170 : decode cX9_minor 170 = .ok (.iload 4, 2) := by decide +kernel
theorem dX9_minor_172 : decode cX9_minor 172 = .ok (.iload 5, 2) := by decide +kernel
theorem dX9_minor_174 : decode cX9_minor 174 = .ok (.invokevirtual 124, 3) := by decide +kernel
theorem dX9_minor_177 : decode cX9_minor 177 = .ok (.lmul, 1) := by decide +kernel
theorem dX9_minor_178 : decode cX9_minor 178 = .ok (.lsub, 1) := by decide +kernel
theorem dX9_minor_179 : decode cX9_minor 179 = .ok (.lmul, 1) := by decide +kernel
theorem dX9_minor_18 : decode cX9_minor 18 = .ok (.lreturn, 1) := by decide +kernel
theorem dX9_minor_180 : decode cX9_minor 180 = .ok (.ladd, 1) := by decide +kernel
theorem dX9_minor_181 : decode cX9_minor 181 = .ok (.lreturn, 1) := by decide +kernel
theorem dX9_minor_19 : decode cX9_minor 19 = .ok (.iload_n 1, 1) := by decide +kernel
theorem dX9_minor_20 : decode cX9_minor 20 = .ok (.iconst 2, 1) := by decide +kernel
theorem dX9_minor_21 : decode cX9_minor 21 = .ok (.if_icmp .ne 35, 3) := by decide +kernel
theorem dX9_minor_24 : decode cX9_minor 24 = .ok (.aload_n 0, 1) := by decide +kernel
theorem dX9_minor_25 : decode cX9_minor 25 = .ok (.iload_n 2, 1) := by decide +kernel
theorem dX9_minor_26 : decode cX9_minor 26 = .ok (.iload 5, 2) := by decide +kernel
theorem dX9_minor_28 : decode cX9_minor 28 = .ok (.invokevirtual 124, 3) := by decide +kernel
theorem dX9_minor_31 : decode cX9_minor 31 = .ok (.aload_n 0, 1) := by decide +kernel
theorem dX9_minor_32 : decode cX9_minor 32 = .ok (.iload_n 3, 1) := by decide +kernel
theorem dX9_minor_33 : decode cX9_minor 33 = .ok (.iload 6, 2) := by decide +kernel
theorem dX9_minor_35 : decode cX9_minor 35 = .ok (.invokevirtual 124, 3) := by decide +kernel
theorem dX9_minor_38 : decode cX9_minor 38 = .ok (.lmul, 1) := by decide +kernel
theorem dX9_minor_39 : decode cX9_minor 39 = .ok (.aload_n 0, 1) := by decide +kernel
theorem dX9_minor_4 : decode cX9_minor 4 = .ok (.lconst 1, 1) := by decide +kernel
theorem dX9_minor_40 : decode cX9_minor 40 = .ok (.iload_n 2, 1) := by decide +kernel
theorem dX9_minor_41 : decode cX9_minor 41 = .ok (.iload 6, 2) := by decide +kernel
theorem dX9_minor_43 : decode cX9_minor 43 = .ok (.invokevirtual 124, 3) := by decide +kernel
theorem dX9_minor_46 : decode cX9_minor 46 = .ok (.aload_n 0, 1) := by decide +kernel
theorem dX9_minor_47 : decode cX9_minor 47 = .ok (.iload_n 3, 1) := by decide +kernel
theorem dX9_minor_48 : decode cX9_minor 48 = .ok (.iload 5, 2) := by decide +kernel
theorem dX9_minor_5 : decode cX9_minor 5 = .ok (.lreturn, 1) := by decide +kernel
theorem dX9_minor_50 : decode cX9_minor 50 = .ok (.invokevirtual 124, 3) := by decide +kernel
theorem dX9_minor_53 : decode cX9_minor 53 = .ok (.lmul, 1) := by decide +kernel
theorem dX9_minor_54 : decode cX9_minor 54 = .ok (.lsub, 1) := by decide +kernel
theorem dX9_minor_55 : decode cX9_minor 55 = .ok (.lreturn, 1) := by decide +kernel
theorem dX9_minor_56 : decode cX9_minor 56 = .ok (.aload_n 0, 1) := by decide +kernel
theorem dX9_minor_57 : decode cX9_minor 57 = .ok (.iload_n 2, 1) := by decide +kernel
theorem dX9_minor_58 : decode cX9_minor 58 = .ok (.iload 5, 2) := by decide +kernel
theorem dX9_minor_6 : decode cX9_minor 6 = .ok (.iload_n 1, 1) := by decide +kernel
theorem dX9_minor_60 : decode cX9_minor 60 = .ok (.invokevirtual 124, 3) := by decide +kernel
theorem dX9_minor_63 : decode cX9_minor 63 = .ok (.aload_n 0, 1) := by decide +kernel
theorem dX9_minor_64 : decode cX9_minor 64 = .ok (.iload_n 3, 1) := by decide +kernel
theorem dX9_minor_65 : decode cX9_minor 65 = .ok (.iload 6, 2) := by decide +kernel
theorem dX9_minor_67 : decode cX9_minor 67 = .ok (.invokevirtual 124, 3) := by decide +kernel
theorem dX9_minor_7 : decode cX9_minor 7 = .ok (.iconst 1, 1) := by decide +kernel
theorem dX9_minor_70 : decode cX9_minor 70 = .ok (.aload_n 0, 1) := by decide +kernel
theorem dX9_minor_71 : decode cX9_minor 71 = .ok (.iload 4, 2) := by decide +kernel
theorem dX9_minor_73 : decode cX9_minor 73 = .ok (.iload 7, 2) := by decide +kernel
theorem dX9_minor_75 : decode cX9_minor 75 = .ok (.invokevirtual 124, 3) := by decide +kernel
theorem dX9_minor_78 : decode cX9_minor 78 = .ok (.lmul, 1) := by decide +kernel
theorem dX9_minor_79 : decode cX9_minor 79 = .ok (.aload_n 0, 1) := by decide +kernel
theorem dX9_minor_8 : decode cX9_minor 8 = .ok (.if_icmp .ne 11, 3) := by decide +kernel
theorem dX9_minor_80 : decode cX9_minor 80 = .ok (.iload_n 3, 1) := by decide +kernel
theorem dX9_minor_81 : decode cX9_minor 81 = .ok (.iload 7, 2) := by decide +kernel
theorem dX9_minor_83 : decode cX9_minor 83 = .ok (.invokevirtual 124, 3) := by decide +kernel
theorem dX9_minor_86 : decode cX9_minor 86 = .ok (.aload_n 0, 1) := by decide +kernel
theorem dX9_minor_87 : decode cX9_minor 87 = .ok (.iload 4, 2) := by decide +kernel
theorem dX9_minor_89 : decode cX9_minor 89 = .ok (.iload 6, 2) := by decide +kernel
theorem dX9_minor_91 : decode cX9_minor 91 = .ok (.invokevirtual 124, 3) := by decide +kernel
theorem dX9_minor_94 : decode cX9_minor 94 = .ok (.lmul, 1) := by decide +kernel
theorem dX9_minor_95 : decode cX9_minor 95 = .ok (.lsub, 1) := by decide +kernel
theorem dX9_minor_96 : decode cX9_minor 96 = .ok (.lmul, 1) := by decide +kernel
theorem dX9_minor_97 : decode cX9_minor 97 = .ok (.aload_n 0, 1) := by decide +kernel
theorem dX9_minor_98 : decode cX9_minor 98 = .ok (.iload_n 2, 1) := by decide +kernel
theorem dX9_minor_99 : decode cX9_minor 99 = .ok (.iload 6, 2) := by decide +kernel
theorem dX9_ranks_0 : decode cX9_ranks 0 = .ok (.iconst 0, 1) := by decide +kernel
theorem dX9_ranks_1 : decode cX9_ranks 1 = .ok (.istore_n 2, 1) := by decide +kernel
theorem dX9_ranks_100 : decode cX9_ranks 100 = .ok (.invokevirtual 135, 3) := by decide +kernel
theorem dX9_ranks_103 : decode cX9_ranks 103 = .ok (.lconst 0, 1) := by decide +kernel
theorem dX9_ranks_104 : decode cX9_ranks 104 = .ok (.lcmp, 1) := by decide +kernel
theorem dX9_ranks_105 : decode cX9_ranks 105 = .ok (.ifCond .ne 6, 3) := by decide +kernel
theorem dX9_ranks_108 : decode cX9_ranks 108 = .ok (.goto 62, 3) := by decide +kernel
theorem dX9_ranks_111 : decode cX9_ranks 111 = .ok (.aload_n 0, 1) := by decide +kernel
theorem dX9_ranks_112 : decode cX9_ranks 112 = .ok (.iconst 0, 1) := by decide +kernel
theorem dX9_ranks_113 : decode cX9_ranks 113 = .ok (.putfield 139, 3) := by decide +kernel
theorem dX9_ranks_116 : decode cX9_ranks 116 = .ok (.iconst 0, 1) := by decide +kernel
theorem dX9_ranks_117 : decode cX9_ranks 117 = .ok (.istore 4, 2) := by decide +kernel
theorem dX9_ranks_119 : decode cX9_ranks 119 = .ok (.iload 4, 2) := by decide +kernel
theorem dX9_ranks_12 : decode cX9_ranks 12 = .ok (.iload_n 2, 1) := by decide +kernel
theorem dX9_ranks_121 : decode cX9_ranks 121 = .ok (.aload_n 0, 1) := by decide +kernel
theorem dX9_ranks_122 : decode cX9_ranks 122 = .ok (.getfield 47, 3) := by decide +kernel
theorem dX9_ranks_125 : decode cX9_ranks 125 = .ok (.if_icmp .ge 43, 3) := by decide +kernel
theorem dX9_ranks_128 : decode cX9_ranks 128 = .ok (.iload_n 3, 1) := by decide +kernel
theorem dX9_ranks_129 : decode cX9_ranks 129 = .ok (.iload 4, 2) := by decide +kernel
theorem dX9_ranks_13 : decode cX9_ranks 13 = .ok (.invokestatic 128, 3) := by decide +kernel
theorem dX9_ranks_131 : decode cX9_ranks 131 = .ok (.ishr, 1) := by decide +kernel
theorem dX9_ranks_132 : decode cX9_ranks 132 = .ok (.iconst 1, 1) := by decide +kernel
theorem dX9_ranks_133 : decode cX9_ranks 133 = .ok (.iand, 1) := by decide +kernel
theorem dX9_ranks_134 : decode cX9_ranks 134 = .ok (.iconst 1, 1) := by decide +kernel
theorem dX9_ranks_135 : decode cX9_ranks 135 = .ok (.if_icmp .ne 6, 3) := by decide +kernel
theorem dX9_ranks_138 : decode cX9_ranks 138 = .ok (.goto 24, 3) := by decide +kernel
theorem dX9_ranks_141 : decode cX9_ranks 141 = .ok (.aload_n 0, 1) := by decide +kernel
theorem dX9_ranks_142 : decode cX9_ranks 142 = .ok (.getfield 77, 3) := by decide +kernel
theorem dX9_ranks_145 : decode cX9_ranks 145 = .ok (.aload_n 0, 1) := by decide +kernel
theorem dX9_ranks_146 : decode cX9_ranks 146 = .ok (.getfield 139, 3) := by decide +kernel
theorem dX9_ranks_149 : decode cX9_ranks 149 = .ok (.iload 4, 2) := by decide +kernel
theorem dX9_ranks_151 : decode cX9_ranks 151 = .ok (.iastore, 1) := by decide +kernel
theorem dX9_ranks_152 : decode cX9_ranks 152 = .ok (.aload_n 0, 1) := by decide +kernel
theorem dX9_ranks_153 : decode cX9_ranks 153 = .ok (.dup, 1) := by decide +kernel
theorem dX9_ranks_154 : decode cX9_ranks 154 = .ok (.getfield 139, 3) := by decide +kernel
theorem dX9_ranks_157 : decode cX9_ranks 157 = .ok (.iconst 1, 1) := by decide +kernel
theorem dX9_ranks_158 : decode cX9_ranks 158 = .ok (.iadd, 1) := by decide +kernel
theorem dX9_ranks_159 : decode cX9_ranks 159 = .ok (.putfield 139, 3) := by decide +kernel
theorem dX9_ranks_16 : decode cX9_ranks 16 = .ok (.iload_n 1, 1) := by decide +kernel
theorem dX9_ranks_162 : decode cX9_ranks 162 = .ok (.iinc 4 1, 3) := by decide +kernel
theorem dX9_ranks_165 : decode cX9_ranks 165 = .ok (.goto (-46), 3) := by decide +kernel
theorem dX9_ranks_168 : decode cX9_ranks 168 = .ok (.iconst 1, 1) := by decide +kernel
theorem dX9_ranks_169 : decode cX9_ranks 169 = .ok (.ireturn, 1) := by decide +kernel
theorem dX9_ranks_17 : decode cX9_ranks 17 = .ok (.if_icmp .eq 6, 3) := by decide +kernel
theorem dX9_ranks_170 : decode cX9_ranks 170 = .ok (.iinc 3 1, 3) := by decide +kernel
theorem dX9_ranks_173 : decode cX9_ranks 173 = .ok (.goto (-148), 3) := by decide +kernel
theorem dX9_ranks_176 : decode cX9_ranks 176 = .ok (.iinc 2 1, 3) := by decide +kernel
theorem dX9_ranks_179 : decode cX9_ranks 179 = .ok (.goto (-177), 3) := by decide +kernel
theorem dX9_ranks_182 : decode cX9_ranks 182 = .ok (.iconst 0, 1) := by decide +kernel
theorem dX9_ranks_183 : decode cX9_ranks 183 = .ok (.ireturn, 1) := by decide +kernel
theorem dX9_ranks_2 : decode cX9_ranks 2 = .ok (.iload_n 2, 1) := by decide +kernel
theorem dX9_ranks_20 : decode cX9_ranks 20 = .ok (.goto 156, 3) := by decide +kernel
theorem dX9_ranks_23 : decode cX9_ranks 23 = .ok (.iconst 0, 1) := by decide +kernel
theorem dX9_ranks_24 : decode cX9_ranks 24 = .ok (.istore_n 3, 1) := by decide +kernel
theorem dX9_ranks_25 : decode cX9_ranks 25 = .ok (.iload_n 3, 1) := by decide +kernel
theorem dX9_ranks_26 : decode cX9_ranks 26 = .ok (.iconst 1, 1) := by decide +kernel
theorem dX9_ranks_27 : decode cX9_ranks 27 = .ok (.aload_n 0, 1) := by decide +kernel
theorem dX9_ranks_28 : decode cX9_ranks 28 = .ok (.getfield 47, 3) := by decide +kernel
theorem dX9_ranks_3 : decode cX9_ranks 3 = .ok (.iconst 1, 1) := by decide +kernel
theorem dX9_ranks_31 : decode cX9_ranks 31 = .ok (.ishl, 1) := by decide +kernel
theorem dX9_ranks_32 : decode cX9_ranks 32 = .ok (.if_icmp .ge 144, 3) := by decide +kernel
theorem dX9_ranks_35 : decode cX9_ranks 35 = .ok (.iload_n 3, 1) := by decide +kernel
theorem dX9_ranks_36 : decode cX9_ranks 36 = .ok (.invokestatic 128, 3) := by decide +kernel
theorem dX9_ranks_39 : decode cX9_ranks 39 = .ok (.iload_n 1, 1) := by decide +kernel
theorem dX9_ranks_4 : decode cX9_ranks 4 = .ok (.aload_n 0, 1) := by decide +kernel
theorem dX9_ranks_40 : decode cX9_ranks 40 = .ok (.if_icmp .eq 6, 3) := by decide +kernel
theorem dX9_ranks_43 : decode cX9_ranks 43 = .ok (.goto 127, 3) := by decide +kernel
theorem dX9_ranks_46 : decode cX9_ranks 46 = .ok (.iload_n 2, 1) := by decide +kernel
theorem dX9_ranks_47 : decode cX9_ranks 47 = .ok (.aload_n 0, 1) := by decide +kernel
theorem dX9_ranks_48 : decode cX9_ranks 48 = .ok (.getfield 74, 3) := by decide +kernel
theorem dX9_ranks_5 : decode cX9_ranks 5 = .ok (.getfield 102, 3) := by decide +kernel
theorem dX9_ranks_51 : decode cX9_ranks 51 = .ok (.invokestatic 131, 3) := by decide +kernel
theorem dX9_ranks_54 : decode cX9_ranks 54 = .ok (.iload_n 3, 1) := by decide +kernel
theorem dX9_ranks_55 : decode cX9_ranks 55 = .ok (.aload_n 0, 1) := by decide +kernel
theorem dX9_ranks_56 : decode cX9_ranks 56 = .ok (.getfield 71, 3) := by decide +kernel
theorem dX9_ranks_59 : decode cX9_ranks 59 = .ok (.invokestatic 131, 3) := by decide +kernel
theorem dX9_ranks_62 : decode cX9_ranks 62 = .ok (.aload_n 0, 1) := by decide +kernel
theorem dX9_ranks_63 : decode cX9_ranks 63 = .ok (.iload_n 1, 1) := by decide +kernel
theorem dX9_ranks_64 : decode cX9_ranks 64 = .ok (.aload_n 0, 1) := by decide +kernel
theorem dX9_ranks_65 : decode cX9_ranks 65 = .ok (.getfield 74, 3) := by decide +kernel
theorem dX9_ranks_68 : decode cX9_ranks 68 = .ok (.iconst 0, 1) := by decide +kernel
theorem dX9_ranks_69 : decode cX9_ranks 69 = .ok (.iaload, 1) := by decide +kernel
theorem dX9_ranks_70 : decode cX9_ranks 70 = .ok (.aload_n 0, 1) := by decide +kernel
theorem dX9_ranks_71 : decode cX9_ranks 71 = .ok (.getfield 74, 3) := by decide +kernel
theorem dX9_ranks_74 : decode cX9_ranks 74 = .ok (.iconst 1, 1) := by decide +kernel
theorem dX9_ranks_75 : decode cX9_ranks 75 = .ok (.iaload, 1) := by decide +kernel
theorem dX9_ranks_76 : decode cX9_ranks 76 = .ok (.aload_n 0, 1) := by decide +kernel
theorem dX9_ranks_77 : decode cX9_ranks 77 = .ok (.getfield 74, 3) := by decide +kernel
theorem dX9_ranks_8 : decode cX9_ranks 8 = .ok (.ishl, 1) := by decide +kernel
theorem dX9_ranks_80 : decode cX9_ranks 80 = .ok (.iconst 2, 1) := by decide +kernel
theorem dX9_ranks_81 : decode cX9_ranks 81 = .ok (.iaload, 1) := by decide +kernel
theorem dX9_ranks_82 : decode cX9_ranks 82 = .ok (.aload_n 0, 1) := by decide +kernel
theorem dX9_ranks_83 : decode cX9_ranks 83 = .ok (.getfield 71, 3) := by decide +kernel
theorem dX9_ranks_86 : decode cX9_ranks 86 = .ok (.iconst 0, 1) := by decide +kernel
theorem dX9_ranks_87 : decode cX9_ranks 87 = .ok (.iaload, 1) := by decide +kernel
theorem dX9_ranks_88 : decode cX9_ranks 88 = .ok (.aload_n 0, 1) := by decide +kernel
theorem dX9_ranks_89 : decode cX9_ranks 89 = .ok (.getfield 71, 3) := by decide +kernel
theorem dX9_ranks_9 : decode cX9_ranks 9 = .ok (.if_icmp .ge 173, 3) := by decide +kernel
theorem dX9_ranks_92 : decode cX9_ranks 92 = .ok (.iconst 1, 1) := by decide +kernel
theorem dX9_ranks_93 : decode cX9_ranks 93 = .ok (.iaload, 1) := by decide +kernel
theorem dX9_ranks_94 : decode cX9_ranks 94 = .ok (.aload_n 0, 1) := by decide +kernel
theorem dX9_ranks_95 : decode cX9_ranks 95 = .ok (.getfield 71, 3) := by decide +kernel
theorem dX9_ranks_98 : decode cX9_ranks 98 = .ok (.iconst 2, 1) := by decide +kernel
theorem dX9_ranks_99 : decode cX9_ranks 99 = .ok (.iaload, 1) := by decide +kernel
theorem dX9_takes_0 : decode cX9_takes 0 = .ok (.iconst 0, 1) := by decide +kernel
theorem dX9_takes_1 : decode cX9_takes 1 = .ok (.istore_n 2, 1) := by decide +kernel
theorem dX9_takes_10 : decode cX9_takes 10 = .ok (.iconst 3, 1) := by decide +kernel
theorem dX9_takes_11 : decode cX9_takes 11 = .ok (.if_icmp .ge 27, 3) := by decide +kernel
theorem dX9_takes_14 : decode cX9_takes 14 = .ok (.iload_n 0, 1) := by decide +kernel
theorem dX9_takes_15 : decode cX9_takes 15 = .ok (.iload_n 3, 1) := by decide +kernel
theorem dX9_takes_16 : decode cX9_takes 16 = .ok (.ishr, 1) := by decide +kernel
theorem dX9_takes_17 : decode cX9_takes 17 = .ok (.iconst 1, 1) := by decide +kernel
theorem dX9_takes_18 : decode cX9_takes 18 = .ok (.iand, 1) := by decide +kernel
theorem dX9_takes_19 : decode cX9_takes 19 = .ok (.ifCond .ne 6, 3) := by decide +kernel
theorem dX9_takes_2 : decode cX9_takes 2 = .ok (.iconst 0, 1) := by decide +kernel
theorem dX9_takes_22 : decode cX9_takes 22 = .ok (.goto 10, 3) := by decide +kernel
theorem dX9_takes_25 : decode cX9_takes 25 = .ok (.aload_n 1, 1) := by decide +kernel
theorem dX9_takes_26 : decode cX9_takes 26 = .ok (.iload_n 2, 1) := by decide +kernel
theorem dX9_takes_27 : decode cX9_takes 27 = .ok (.iload_n 3, 1) := by decide +kernel
theorem dX9_takes_28 : decode cX9_takes 28 = .ok (.iastore, 1) := by decide +kernel
theorem dX9_takes_29 : decode cX9_takes 29 = .ok (.iinc 2 1, 3) := by decide +kernel
theorem dX9_takes_3 : decode cX9_takes 3 = .ok (.istore_n 3, 1) := by decide +kernel
theorem dX9_takes_32 : decode cX9_takes 32 = .ok (.iinc 3 1, 3) := by decide +kernel
theorem dX9_takes_35 : decode cX9_takes 35 = .ok (.goto (-31), 3) := by decide +kernel
theorem dX9_takes_38 : decode cX9_takes 38 = .ok (.iload_n 2, 1) := by decide +kernel
theorem dX9_takes_39 : decode cX9_takes 39 = .ok (.iconst 3, 1) := by decide +kernel
theorem dX9_takes_4 : decode cX9_takes 4 = .ok (.iload_n 3, 1) := by decide +kernel
theorem dX9_takes_40 : decode cX9_takes 40 = .ok (.if_icmp .ge 13, 3) := by decide +kernel
theorem dX9_takes_43 : decode cX9_takes 43 = .ok (.aload_n 1, 1) := by decide +kernel
theorem dX9_takes_44 : decode cX9_takes 44 = .ok (.iload_n 2, 1) := by decide +kernel
theorem dX9_takes_45 : decode cX9_takes 45 = .ok (.iconst 0, 1) := by decide +kernel
theorem dX9_takes_46 : decode cX9_takes 46 = .ok (.iastore, 1) := by decide +kernel
theorem dX9_takes_47 : decode cX9_takes 47 = .ok (.iinc 2 1, 3) := by decide +kernel
theorem dX9_takes_5 : decode cX9_takes 5 = .ok (.iconst 4, 1) := by decide +kernel
theorem dX9_takes_50 : decode cX9_takes 50 = .ok (.goto (-12), 3) := by decide +kernel
theorem dX9_takes_53 : decode cX9_takes 53 = .ok (.return_, 1) := by decide +kernel
theorem dX9_takes_6 : decode cX9_takes 6 = .ok (.if_icmp .ge 32, 3) := by decide +kernel
theorem dX9_takes_9 : decode cX9_takes 9 = .ok (.iload_n 2, 1) := by decide +kernel
