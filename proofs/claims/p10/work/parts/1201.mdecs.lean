theorem dX9_a_0 : decode cX9_a 0 = .ok (.aload_n 0, 1) := by decide +kernel
theorem dX9_a_1 : decode cX9_a 1 = .ok (.getfield 9, 3) := by decide +kernel
theorem dX9_a_10 : decode cX9_a 10 = .ok (.i2l, 1) := by decide +kernel
theorem dX9_a_11 : decode cX9_a 11 = .ok (.lreturn, 1) := by decide +kernel
theorem dX9_a_4 : decode cX9_a 4 = .ok (.iconst 4, 1) := by decide +kernel
theorem dX9_a_5 : decode cX9_a 5 = .ok (.iload_n 1, 1) := by decide +kernel
theorem dX9_a_6 : decode cX9_a 6 = .ok (.imul, 1) := by decide +kernel
theorem dX9_a_7 : decode cX9_a 7 = .ok (.iload_n 2, 1) := by decide +kernel
theorem dX9_a_8 : decode cX9_a 8 = .ok (.iadd, 1) := by decide +kernel
theorem dX9_a_9 : decode cX9_a 9 = .ok (.iaload, 1) := by decide +kernel
theorem dX9_add_0 : decode cX9_add 0 = .ok (.aload_n 0, 1) := by decide +kernel
theorem dX9_add_1 : decode cX9_add 1 = .ok (.invokevirtual 180, 3) := by decide +kernel
theorem dX9_add_12 : decode cX9_add 12 = .ok (.ifCond .eq 24, 3) := by decide +kernel
theorem dX9_add_15 : decode cX9_add 15 = .ok (.aload_n 0, 1) := by decide +kernel
theorem dX9_add_16 : decode cX9_add 16 = .ok (.aload_n 0, 1) := by decide +kernel
theorem dX9_add_17 : decode cX9_add 17 = .ok (.getfield 65, 3) := by decide +kernel
theorem dX9_add_20 : decode cX9_add 20 = .ok (.iconst 4, 1) := by decide +kernel
theorem dX9_add_21 : decode cX9_add 21 = .ok (.aload_n 0, 1) := by decide +kernel
theorem dX9_add_22 : decode cX9_add 22 = .ok (.getfield 68, 3) := by decide +kernel
theorem dX9_add_25 : decode cX9_add 25 = .ok (.iload_n 1, 1) := by decide +kernel
theorem dX9_add_26 : decode cX9_add 26 = .ok (.iaload, 1) := by decide +kernel
theorem dX9_add_27 : decode cX9_add 27 = .ok (.imul, 1) := by decide +kernel
theorem dX9_add_28 : decode cX9_add 28 = .ok (.iload_n 2, 1) := by decide +kernel
theorem dX9_add_29 : decode cX9_add 29 = .ok (.i2l, 1) := by decide +kernel
theorem dX9_add_30 : decode cX9_add 30 = .ok (.invokevirtual 216, 3) := by decide +kernel
theorem dX9_add_33 : decode cX9_add 33 = .ok (.goto 8, 3) := by decide +kernel
theorem dX9_add_36 : decode cX9_add 36 = .ok (.aload_n 0, 1) := by decide +kernel
theorem dX9_add_37 : decode cX9_add 37 = .ok (.iconst (-1), 1) := by decide +kernel
theorem dX9_add_38 : decode cX9_add 38 = .ok (.invokevirtual 112, 3) := by decide +kernel
theorem dX9_add_4 : decode cX9_add 4 = .ok (.iload_n 1, 1) := by decide +kernel
theorem dX9_add_41 : decode cX9_add 41 = .ok (.ireturn, 1) := by decide +kernel
theorem dX9_add_5 : decode cX9_add 5 = .ok (.aload_n 0, 1) := by decide +kernel
theorem dX9_add_6 : decode cX9_add 6 = .ok (.getfield 163, 3) := by decide +kernel
theorem dX9_add_9 : decode cX9_add 9 = .ok (.invokestatic 116, 3) := by decide +kernel
theorem dX9_adds_0 : decode cX9_adds 0 = .ok (.iconst 0, 1) := by decide +kernel
theorem dX9_adds_1 : decode cX9_adds 1 = .ok (.istore 5, 2) := by decide +kernel
theorem dX9_adds_100 : decode cX9_adds 100 = .ok (.ifCond .eq 10, 3) := by decide +kernel
theorem dX9_adds_103 : decode cX9_adds 103 = .ok (.aload_n 0, 1) := by decide +kernel
theorem dX9_adds_104 : decode cX9_adds 104 = .ok (.bipush (-6), 2) := by decide +kernel
theorem dX9_adds_106 : decode cX9_adds 106 = .ok (.invokevirtual 112, 3) := by decide +kernel
theorem dX9_adds_109 : decode cX9_adds 109 = .ok (.ireturn, 1) := by decide +kernel
theorem dX9_adds_11 : decode cX9_adds 11 = .ok (.aload_n 0, 1) := by decide +kernel
theorem dX9_adds_110 : decode cX9_adds 110 = .ok (.iconst 0, 1) := by decide +kernel
theorem dX9_adds_111 : decode cX9_adds 111 = .ok (.istore 7, 2) := by decide +kernel
theorem dX9_adds_113 : decode cX9_adds 113 = .ok (.iload 7, 2) := by decide +kernel
theorem dX9_adds_115 : decode cX9_adds 115 = .ok (.aload_n 0, 1) := by decide +kernel
theorem dX9_adds_116 : decode cX9_adds 116 = .ok (.getfield 47, 3) := by decide +kernel
theorem dX9_adds_119 : decode cX9_adds 119 = .ok (.if_icmp .ge 29, 3) := by decide +kernel
theorem dX9_adds_12 : decode cX9_adds 12 = .ok (.getfield 47, 3) := by decide +kernel
theorem dX9_adds_122 : decode cX9_adds 122 = .ok (.aload_n 0, 1) := by decide +kernel
theorem dX9_adds_123 : decode cX9_adds 123 = .ok (.getfield 28, 3) := by decide +kernel
theorem dX9_adds_126 : decode cX9_adds 126 = .ok (.iload 7, 2) := by decide +kernel
theorem dX9_adds_128 : decode cX9_adds 128 = .ok (.dup2, 1) := by decide +kernel
theorem dX9_adds_129 : decode cX9_adds 129 = .ok (.iaload, 1) := by decide +kernel
theorem dX9_adds_130 : decode cX9_adds 130 = .ok (.lload_n 3, 1) := by decide +kernel
theorem dX9_adds_131 : decode cX9_adds 131 = .ok (.aload_n 1, 1) := by decide +kernel
theorem dX9_adds_132 : decode cX9_adds 132 = .ok (.iload_n 2, 1) := by decide +kernel
theorem dX9_adds_133 : decode cX9_adds 133 = .ok (.iload 7, 2) := by decide +kernel
theorem dX9_adds_135 : decode cX9_adds 135 = .ok (.iadd, 1) := by decide +kernel
theorem dX9_adds_136 : decode cX9_adds 136 = .ok (.iaload, 1) := by decide +kernel
theorem dX9_adds_137 : decode cX9_adds 137 = .ok (.i2l, 1) := by decide +kernel
theorem dX9_adds_138 : decode cX9_adds 138 = .ok (.lmul, 1) := by decide +kernel
theorem dX9_adds_139 : decode cX9_adds 139 = .ok (.l2i, 1) := by decide +kernel
theorem dX9_adds_140 : decode cX9_adds 140 = .ok (.iadd, 1) := by decide +kernel
theorem dX9_adds_141 : decode cX9_adds 141 = .ok (.iastore, 1) := by decide +kernel
theorem dX9_adds_142 : decode cX9_adds 142 = .ok (.iinc 7 1, 3) := by decide +kernel
theorem dX9_adds_145 : decode cX9_adds 145 = .ok (.goto (-32), 3) := by decide +kernel
theorem dX9_adds_148 : decode cX9_adds 148 = .ok (.iconst 1, 1) := by decide +kernel
theorem dX9_adds_149 : decode cX9_adds 149 = .ok (.ireturn, 1) := by decide +kernel
theorem dX9_adds_15 : decode cX9_adds 15 = .ok (.if_icmp .ge 71, 3) := by decide +kernel
theorem dX9_adds_18 : decode cX9_adds 18 = .ok (.aload_n 0, 1) := by decide +kernel
theorem dX9_adds_19 : decode cX9_adds 19 = .ok (.getfield 28, 3) := by decide +kernel
theorem dX9_adds_22 : decode cX9_adds 22 = .ok (.iload 7, 2) := by decide +kernel
theorem dX9_adds_24 : decode cX9_adds 24 = .ok (.iaload, 1) := by decide +kernel
theorem dX9_adds_25 : decode cX9_adds 25 = .ok (.i2l, 1) := by decide +kernel
theorem dX9_adds_26 : decode cX9_adds 26 = .ok (.lload_n 3, 1) := by decide +kernel
theorem dX9_adds_27 : decode cX9_adds 27 = .ok (.aload_n 1, 1) := by decide +kernel
theorem dX9_adds_28 : decode cX9_adds 28 = .ok (.iload_n 2, 1) := by decide +kernel
theorem dX9_adds_29 : decode cX9_adds 29 = .ok (.iload 7, 2) := by decide +kernel
theorem dX9_adds_3 : decode cX9_adds 3 = .ok (.iconst 0, 1) := by decide +kernel
theorem dX9_adds_31 : decode cX9_adds 31 = .ok (.iadd, 1) := by decide +kernel
theorem dX9_adds_32 : decode cX9_adds 32 = .ok (.iaload, 1) := by decide +kernel
theorem dX9_adds_33 : decode cX9_adds 33 = .ok (.i2l, 1) := by decide +kernel
theorem dX9_adds_34 : decode cX9_adds 34 = .ok (.lmul, 1) := by decide +kernel
theorem dX9_adds_35 : decode cX9_adds 35 = .ok (.ladd, 1) := by decide +kernel
theorem dX9_adds_36 : decode cX9_adds 36 = .ok (.lstore 8, 2) := by decide +kernel
theorem dX9_adds_38 : decode cX9_adds 38 = .ok (.iload 5, 2) := by decide +kernel
theorem dX9_adds_4 : decode cX9_adds 4 = .ok (.istore 6, 2) := by decide +kernel
theorem dX9_adds_40 : decode cX9_adds 40 = .ok (.ifCond .ne 12, 3) := by decide +kernel
theorem dX9_adds_43 : decode cX9_adds 43 = .ok (.lload 8, 2) := by decide +kernel
theorem dX9_adds_45 : decode cX9_adds 45 = .ok (.ldc2_w 212, 3) := by decide +kernel
theorem dX9_adds_48 : decode cX9_adds 48 = .ok (.lcmp, 1) := by decide +kernel
theorem dX9_adds_49 : decode cX9_adds 49 = .ok (.ifCond .ge 7, 3) := by decide +kernel
theorem dX9_adds_52 : decode cX9_adds 52 = .ok (.iconst 1, 1) := by decide +kernel
theorem dX9_adds_53 : decode cX9_adds 53 = .ok (.goto 4, 3) := by decide +kernel
theorem dX9_adds_56 : decode cX9_adds 56 = .ok (.iconst 0, 1) := by decide +kernel
theorem dX9_adds_57 : decode cX9_adds 57 = .ok (.istore 5, 2) := by decide +kernel
theorem dX9_adds_59 : decode cX9_adds 59 = .ok (.iload 6, 2) := by decide +kernel
theorem dX9_adds_6 : decode cX9_adds 6 = .ok (.iconst 0, 1) := by decide +kernel
theorem dX9_adds_61 : decode cX9_adds 61 = .ok (.ifCond .ne 12, 3) := by decide +kernel
theorem dX9_adds_64 : decode cX9_adds 64 = .ok (.lload 8, 2) := by decide +kernel
theorem dX9_adds_66 : decode cX9_adds 66 = .ok (.ldc2_w 214, 3) := by decide +kernel
theorem dX9_adds_69 : decode cX9_adds 69 = .ok (.lcmp, 1) := by decide +kernel
theorem dX9_adds_7 : decode cX9_adds 7 = .ok (.istore 7, 2) := by decide +kernel
theorem dX9_adds_70 : decode cX9_adds 70 = .ok (.ifCond .le 7, 3) := by decide +kernel
theorem dX9_adds_73 : decode cX9_adds 73 = .ok (.iconst 1, 1) := by decide +kernel
theorem dX9_adds_74 : decode cX9_adds 74 = .ok (.goto 4, 3) := by decide +kernel
theorem dX9_adds_77 : decode cX9_adds 77 = .ok (.iconst 0, 1) := by decide +kernel
theorem dX9_adds_78 : decode cX9_adds 78 = .ok (.istore 6, 2) := by decide +kernel
theorem dX9_adds_80 : decode cX9_adds 80 = .ok (.iinc 7 1, 3) := by decide +kernel
theorem dX9_adds_83 : decode cX9_adds 83 = .ok (.goto (-74), 3) := by decide +kernel
theorem dX9_adds_86 : decode cX9_adds 86 = .ok (.iload 5, 2) := by decide +kernel
theorem dX9_adds_88 : decode cX9_adds 88 = .ok (.ifCond .eq 10, 3) := by decide +kernel
theorem dX9_adds_9 : decode cX9_adds 9 = .ok (.iload 7, 2) := by decide +kernel
theorem dX9_adds_91 : decode cX9_adds 91 = .ok (.aload_n 0, 1) := by decide +kernel
theorem dX9_adds_92 : decode cX9_adds 92 = .ok (.bipush (-4), 2) := by decide +kernel
theorem dX9_adds_94 : decode cX9_adds 94 = .ok (.invokevirtual 112, 3) := by decide +kernel
theorem dX9_adds_97 : decode cX9_adds 97 = .ok (.ireturn, 1) := by decide +kernel
theorem dX9_adds_98 : decode cX9_adds 98 = .ok (.iload 6, 2) := by decide +kernel
theorem dX9_amount_0 : decode cX9_amount 0 = .ok (.aload_n 0, 1) := by decide +kernel
theorem dX9_amount_1 : decode cX9_amount 1 = .ok (.invokevirtual 203, 3) := by decide +kernel
theorem dX9_amount_10 : decode cX9_amount 10 = .ok (.getfield 163, 3) := by decide +kernel
theorem dX9_amount_13 : decode cX9_amount 13 = .ok (.if_icmp .ge 74, 3) := by decide +kernel
theorem dX9_amount_16 : decode cX9_amount 16 = .ok (.iconst 0, 1) := by decide +kernel
theorem dX9_amount_17 : decode cX9_amount 17 = .ok (.istore 4, 2) := by decide +kernel
theorem dX9_amount_19 : decode cX9_amount 19 = .ok (.aload_n 0, 1) := by decide +kernel
theorem dX9_amount_20 : decode cX9_amount 20 = .ok (.iload_n 3, 1) := by decide +kernel
theorem dX9_amount_21 : decode cX9_amount 21 = .ok (.invokevirtual 206, 3) := by decide +kernel
theorem dX9_amount_24 : decode cX9_amount 24 = .ok (.ifCond .eq 44, 3) := by decide +kernel
theorem dX9_amount_27 : decode cX9_amount 27 = .ok (.iconst 0, 1) := by decide +kernel
theorem dX9_amount_28 : decode cX9_amount 28 = .ok (.istore 5, 2) := by decide +kernel
theorem dX9_amount_30 : decode cX9_amount 30 = .ok (.iload 5, 2) := by decide +kernel
theorem dX9_amount_32 : decode cX9_amount 32 = .ok (.aload_n 0, 1) := by decide +kernel
theorem dX9_amount_33 : decode cX9_amount 33 = .ok (.getfield 47, 3) := by decide +kernel
theorem dX9_amount_36 : decode cX9_amount 36 = .ok (.if_icmp .ge 26, 3) := by decide +kernel
theorem dX9_amount_39 : decode cX9_amount 39 = .ok (.aload_n 0, 1) := by decide +kernel
theorem dX9_amount_4 : decode cX9_amount 4 = .ok (.iconst 0, 1) := by decide +kernel
theorem dX9_amount_40 : decode cX9_amount 40 = .ok (.getfield 89, 3) := by decide +kernel
theorem dX9_amount_43 : decode cX9_amount 43 = .ok (.iload 5, 2) := by decide +kernel
theorem dX9_amount_45 : decode cX9_amount 45 = .ok (.dup2, 1) := by decide +kernel
theorem dX9_amount_46 : decode cX9_amount 46 = .ok (.iaload, 1) := by decide +kernel
theorem dX9_amount_47 : decode cX9_amount 47 = .ok (.aload_n 0, 1) := by decide +kernel
theorem dX9_amount_48 : decode cX9_amount 48 = .ok (.iload_n 3, 1) := by decide +kernel
theorem dX9_amount_49 : decode cX9_amount 49 = .ok (.iload 5, 2) := by decide +kernel
theorem dX9_amount_5 : decode cX9_amount 5 = .ok (.istore_n 2, 1) := by decide +kernel
theorem dX9_amount_51 : decode cX9_amount 51 = .ok (.invokevirtual 183, 3) := by decide +kernel
theorem dX9_amount_54 : decode cX9_amount 54 = .ok (.isub, 1) := by decide +kernel
theorem dX9_amount_55 : decode cX9_amount 55 = .ok (.iastore, 1) := by decide +kernel
theorem dX9_amount_56 : decode cX9_amount 56 = .ok (.iinc 5 1, 3) := by decide +kernel
theorem dX9_amount_59 : decode cX9_amount 59 = .ok (.goto (-29), 3) := by decide +kernel
theorem dX9_amount_6 : decode cX9_amount 6 = .ok (.iconst 0, 1) := by decide +kernel
theorem dX9_amount_62 : decode cX9_amount 62 = .ok (.iinc 4 1, 3) := by decide +kernel
theorem dX9_amount_65 : decode cX9_amount 65 = .ok (.goto (-46), 3) := by decide +kernel
theorem dX9_amount_68 : decode cX9_amount 68 = .ok (.iload_n 3, 1) := by decide +kernel
theorem dX9_amount_69 : decode cX9_amount 69 = .ok (.iload_n 1, 1) := by decide +kernel
theorem dX9_amount_7 : decode cX9_amount 7 = .ok (.istore_n 3, 1) := by decide +kernel
theorem dX9_amount_70 : decode cX9_amount 70 = .ok (.if_icmp .ne 6, 3) := by decide +kernel
theorem dX9_amount_73 : decode cX9_amount 73 = .ok (.iload 4, 2) := by decide +kernel
theorem dX9_amount_75 : decode cX9_amount 75 = .ok (.ireturn, 1) := by decide +kernel
theorem dX9_amount_76 : decode cX9_amount 76 = .ok (.iload_n 2, 1) := by decide +kernel
theorem dX9_amount_77 : decode cX9_amount 77 = .ok (.iload 4, 2) := by decide +kernel
theorem dX9_amount_79 : decode cX9_amount 79 = .ok (.iadd, 1) := by decide +kernel
theorem dX9_amount_8 : decode cX9_amount 8 = .ok (.iload_n 3, 1) := by decide +kernel
theorem dX9_amount_80 : decode cX9_amount 80 = .ok (.istore_n 2, 1) := by decide +kernel
theorem dX9_amount_81 : decode cX9_amount 81 = .ok (.iinc 3 1, 3) := by decide +kernel
theorem dX9_amount_84 : decode cX9_amount 84 = .ok (.goto (-76), 3) := by decide +kernel
theorem dX9_amount_87 : decode cX9_amount 87 = .ok (.iload_n 2, 1) := by decide +kernel
theorem dX9_amount_88 : decode cX9_amount 88 = .ok (.ireturn, 1) := by decide +kernel
theorem dX9_amount_9 : decode cX9_amount 9 = .ok (.aload_n 0, 1) := by decide +kernel
theorem dX9_at_0 : decode cX9_at 0 = .ok (.aload_n 0, 1) := by decide +kernel
theorem dX9_at_1 : decode cX9_at 1 = .ok (.getfield 65, 3) := by decide +kernel
theorem dX9_at_10 : decode cX9_at 10 = .ok (.iaload, 1) := by decide +kernel
theorem dX9_at_11 : decode cX9_at 11 = .ok (.imul, 1) := by decide +kernel
theorem dX9_at_12 : decode cX9_at 12 = .ok (.iload_n 2, 1) := by decide +kernel
theorem dX9_at_13 : decode cX9_at 13 = .ok (.iadd, 1) := by decide +kernel
theorem dX9_at_14 : decode cX9_at 14 = .ok (.iaload, 1) := by decide +kernel
theorem dX9_at_15 : decode cX9_at 15 = .ok (.ireturn, 1) := by decide +kernel
theorem dX9_at_4 : decode cX9_at 4 = .ok (.iconst 4, 1) := by decide +kernel
theorem dX9_at_5 : decode cX9_at 5 = .ok (.aload_n 0, 1) := by decide +kernel
theorem dX9_at_6 : decode cX9_at 6 = .ok (.getfield 68, 3) := by decide +kernel
theorem dX9_at_9 : decode cX9_at 9 = .ok (.iload_n 1, 1) := by decide +kernel
theorem dX9_back_0 : decode cX9_back 0 = .ok (.aload_n 0, 1) := by decide +kernel
theorem dX9_back_1 : decode cX9_back 1 = .ok (.invokevirtual 180, 3) := by decide +kernel
theorem dX9_back_12 : decode cX9_back 12 = .ok (.ifCond .ne 9, 3) := by decide +kernel
theorem dX9_back_15 : decode cX9_back 15 = .ok (.aload_n 0, 1) := by decide +kernel
theorem dX9_back_16 : decode cX9_back 16 = .ok (.iconst (-1), 1) := by decide +kernel
theorem dX9_back_17 : decode cX9_back 17 = .ok (.invokevirtual 112, 3) := by decide +kernel
theorem dX9_back_20 : decode cX9_back 20 = .ok (.ireturn, 1) := by decide +kernel
theorem dX9_back_21 : decode cX9_back 21 = .ok (.iconst 0, 1) := by decide +kernel
theorem dX9_back_22 : decode cX9_back 22 = .ok (.istore_n 2, 1) := by decide +kernel
theorem dX9_back_23 : decode cX9_back 23 = .ok (.iconst 0, 1) := by decide +kernel
theorem dX9_back_24 : decode cX9_back 24 = .ok (.istore_n 3, 1) := by decide +kernel
theorem dX9_back_25 : decode cX9_back 25 = .ok (.iload_n 3, 1) := by decide +kernel
theorem dX9_back_26 : decode cX9_back 26 = .ok (.ifCond .ne 57, 3) := by decide +kernel
theorem dX9_back_29 : decode cX9_back 29 = .ok (.iconst 1, 1) := by decide +kernel
theorem dX9_back_30 : decode cX9_back 30 = .ok (.istore_n 3, 1) := by decide +kernel
theorem dX9_back_31 : decode cX9_back 31 = .ok (.iconst 0, 1) := by decide +kernel
theorem dX9_back_32 : decode cX9_back 32 = .ok (.istore 4, 2) := by decide +kernel
theorem dX9_back_34 : decode cX9_back 34 = .ok (.iload 4, 2) := by decide +kernel
theorem dX9_back_36 : decode cX9_back 36 = .ok (.aload_n 0, 1) := by decide +kernel
theorem dX9_back_37 : decode cX9_back 37 = .ok (.getfield 47, 3) := by decide +kernel
theorem dX9_back_4 : decode cX9_back 4 = .ok (.iload_n 1, 1) := by decide +kernel
theorem dX9_back_40 : decode cX9_back 40 = .ok (.if_icmp .ge 37, 3) := by decide +kernel
theorem dX9_back_43 : decode cX9_back 43 = .ok (.iload_n 3, 1) := by decide +kernel
theorem dX9_back_44 : decode cX9_back 44 = .ok (.ifCond .eq 25, 3) := by decide +kernel
theorem dX9_back_47 : decode cX9_back 47 = .ok (.aload_n 0, 1) := by decide +kernel
theorem dX9_back_48 : decode cX9_back 48 = .ok (.iload_n 2, 1) := by decide +kernel
theorem dX9_back_49 : decode cX9_back 49 = .ok (.iload 4, 2) := by decide +kernel
theorem dX9_back_5 : decode cX9_back 5 = .ok (.aload_n 0, 1) := by decide +kernel
theorem dX9_back_51 : decode cX9_back 51 = .ok (.invokevirtual 183, 3) := by decide +kernel
theorem dX9_back_54 : decode cX9_back 54 = .ok (.aload_n 0, 1) := by decide +kernel
theorem dX9_back_55 : decode cX9_back 55 = .ok (.iload_n 1, 1) := by decide +kernel
theorem dX9_back_56 : decode cX9_back 56 = .ok (.iload 4, 2) := by decide +kernel
theorem dX9_back_58 : decode cX9_back 58 = .ok (.invokevirtual 183, 3) := by decide +kernel
theorem dX9_back_6 : decode cX9_back 6 = .ok (.getfield 163, 3) := by decide +kernel
theorem dX9_back_61 : decode cX9_back 61 = .ok (.ineg, 1) := by decide +kernel
theorem dX9_back_62 : decode cX9_back 62 = .ok (.if_icmp .ne 7, 3) := by decide +kernel
theorem dX9_back_65 : decode cX9_back 65 = .ok (.iconst 1, 1) := by decide +kernel
theorem dX9_back_66 : decode cX9_back 66 = .ok (.goto 4, 3) := by decide +kernel
theorem dX9_back_69 : decode cX9_back 69 = .ok (.iconst 0, 1) := by decide +kernel
theorem dX9_back_70 : decode cX9_back 70 = .ok (.istore_n 3, 1) := by decide +kernel
theorem dX9_back_71 : decode cX9_back 71 = .ok (.iinc 4 1, 3) := by decide +kernel
theorem dX9_back_74 : decode cX9_back 74 = .ok (.goto (-40), 3) := by decide +kernel
theorem dX9_back_77 : decode cX9_back 77 = .ok (.iinc 2 1, 3) := by decide +kernel
theorem dX9_back_80 : decode cX9_back 80 = .ok (.goto (-55), 3) := by decide +kernel
theorem dX9_back_83 : decode cX9_back 83 = .ok (.iload_n 2, 1) := by decide +kernel
theorem dX9_back_84 : decode cX9_back 84 = .ok (.iconst 1, 1) := by decide +kernel
theorem dX9_back_85 : decode cX9_back 85 = .ok (.isub, 1) := by decide +kernel
theorem dX9_back_86 : decode cX9_back 86 = .ok (.ireturn, 1) := by decide +kernel
theorem dX9_back_9 : decode cX9_back 9 = .ok (.invokestatic 116, 3) := by decide +kernel
theorem dX9_begins_0 : decode cX9_begins 0 = .ok (.aload_n 0, 1) := by decide +kernel
theorem dX9_begins_1 : decode cX9_begins 1 = .ok (.iconst 0, 1) := by decide +kernel
theorem dX9_begins_12 : decode cX9_begins 12 = .ok (.aload_n 0, 1) := by decide +kernel
theorem dX9_begins_13 : decode cX9_begins 13 = .ok (.getfield 16, 3) := by decide +kernel
theorem dX9_begins_16 : decode cX9_begins 16 = .ok (.iload_n 1, 1) := by decide +kernel
theorem dX9_begins_17 : decode cX9_begins 17 = .ok (.iconst 0, 1) := by decide +kernel
theorem dX9_begins_18 : decode cX9_begins 18 = .ok (.iastore, 1) := by decide +kernel
theorem dX9_begins_19 : decode cX9_begins 19 = .ok (.aload_n 0, 1) := by decide +kernel
theorem dX9_begins_2 : decode cX9_begins 2 = .ok (.putfield 102, 3) := by decide +kernel
theorem dX9_begins_20 : decode cX9_begins 20 = .ok (.getfield 19, 3) := by decide +kernel
theorem dX9_begins_23 : decode cX9_begins 23 = .ok (.iload_n 1, 1) := by decide +kernel
theorem dX9_begins_24 : decode cX9_begins 24 = .ok (.bipush 10, 2) := by decide +kernel
theorem dX9_begins_26 : decode cX9_begins 26 = .ok (.iastore, 1) := by decide +kernel
theorem dX9_begins_27 : decode cX9_begins 27 = .ok (.aload_n 0, 1) := by decide +kernel
theorem dX9_begins_28 : decode cX9_begins 28 = .ok (.getfield 22, 3) := by decide +kernel
theorem dX9_begins_31 : decode cX9_begins 31 = .ok (.iload_n 1, 1) := by decide +kernel
theorem dX9_begins_32 : decode cX9_begins 32 = .ok (.iconst 0, 1) := by decide +kernel
theorem dX9_begins_33 : decode cX9_begins 33 = .ok (.iastore, 1) := by decide +kernel
theorem dX9_begins_34 : decode cX9_begins 34 = .ok (.aload_n 0, 1) := by decide +kernel
theorem dX9_begins_35 : decode cX9_begins 35 = .ok (.getfield 25, 3) := by decide +kernel
theorem dX9_begins_38 : decode cX9_begins 38 = .ok (.iload_n 1, 1) := by decide +kernel
theorem dX9_begins_39 : decode cX9_begins 39 = .ok (.iconst 0, 1) := by decide +kernel
theorem dX9_begins_40 : decode cX9_begins 40 = .ok (.iastore, 1) := by decide +kernel
theorem dX9_begins_41 : decode cX9_begins 41 = .ok (.aload_n 0, 1) := by decide +kernel
theorem dX9_begins_42 : decode cX9_begins 42 = .ok (.getfield 28, 3) := by decide +kernel
theorem dX9_begins_45 : decode cX9_begins 45 = .ok (.iload_n 1, 1) := by decide +kernel
theorem dX9_begins_46 : decode cX9_begins 46 = .ok (.iconst 0, 1) := by decide +kernel
theorem dX9_begins_47 : decode cX9_begins 47 = .ok (.iastore, 1) := by decide +kernel
theorem dX9_begins_48 : decode cX9_begins 48 = .ok (.iinc 1 1, 3) := by decide +kernel
theorem dX9_begins_5 : decode cX9_begins 5 = .ok (.iconst 0, 1) := by decide +kernel
theorem dX9_begins_51 : decode cX9_begins 51 = .ok (.goto (-44), 3) := by decide +kernel
theorem dX9_begins_54 : decode cX9_begins 54 = .ok (.aload_n 0, 1) := by decide +kernel
theorem dX9_begins_55 : decode cX9_begins 55 = .ok (.iconst 0, 1) := by decide +kernel
theorem dX9_begins_56 : decode cX9_begins 56 = .ok (.putfield 105, 3) := by decide +kernel
theorem dX9_begins_59 : decode cX9_begins 59 = .ok (.aload_n 0, 1) := by decide +kernel
theorem dX9_begins_6 : decode cX9_begins 6 = .ok (.istore_n 1, 1) := by decide +kernel
theorem dX9_begins_60 : decode cX9_begins 60 = .ok (.iconst 0, 1) := by decide +kernel
theorem dX9_begins_61 : decode cX9_begins 61 = .ok (.putfield 109, 3) := by decide +kernel
theorem dX9_begins_64 : decode cX9_begins 64 = .ok (.return_, 1) := by decide +kernel
theorem dX9_begins_7 : decode cX9_begins 7 = .ok (.iload_n 1, 1) := by decide +kernel
theorem dX9_begins_8 : decode cX9_begins 8 = .ok (.iconst 4, 1) := by decide +kernel
theorem dX9_begins_9 : decode cX9_begins 9 = .ok (.if_icmp .ge 45, 3) := by decide +kernel
theorem dX9_best_0 : decode cX9_best 0 = .ok (.aload_n 0, 1) := by decide +kernel
theorem dX9_best_1 : decode cX9_best 1 = .ok (.aload_n 0, 1) := by decide +kernel
theorem dX9_best_12 : decode cX9_best 12 = .ok (.aload_n 0, 1) := by decide +kernel
theorem dX9_best_13 : decode cX9_best 13 = .ok (.bipush (-5), 2) := by decide +kernel
theorem dX9_best_15 : decode cX9_best 15 = .ok (.invokevirtual 112, 3) := by decide +kernel
theorem dX9_best_18 : decode cX9_best 18 = .ok (.ireturn, 1) := by decide +kernel
theorem dX9_best_19 : decode cX9_best 19 = .ok (.iconst 0, 1) := by decide +kernel
theorem dX9_best_2 : decode cX9_best 2 = .ok (.getfield 28, 3) := by decide +kernel
theorem dX9_best_20 : decode cX9_best 20 = .ok (.istore_n 1, 1) := by decide +kernel
theorem dX9_best_21 : decode cX9_best 21 = .ok (.aload_n 0, 1) := by decide +kernel
theorem dX9_best_22 : decode cX9_best 22 = .ok (.invokevirtual 228, 3) := by decide +kernel
theorem dX9_best_25 : decode cX9_best 25 = .ok (.ldc 187, 2) := by decide +kernel
theorem dX9_best_27 : decode cX9_best 27 = .ok (.if_icmp .eq 9, 3) := by decide +kernel
theorem dX9_best_30 : decode cX9_best 30 = .ok (.iinc 1 1, 3) := by decide +kernel
theorem dX9_best_33 : decode cX9_best 33 = .ok (.goto (-12), 3) := by decide +kernel
theorem dX9_best_36 : decode cX9_best 36 = .ok (.iload_n 1, 1) := by decide +kernel
theorem dX9_best_37 : decode cX9_best 37 = .ok (.ireturn, 1) := by decide +kernel
theorem dX9_best_5 : decode cX9_best 5 = .ok (.iconst 0, 1) := by decide +kernel
theorem dX9_best_6 : decode cX9_best 6 = .ok (.invokevirtual 199, 3) := by decide +kernel
theorem dX9_best_9 : decode cX9_best 9 = .ok (.ifCond .ne 10, 3) := by decide +kernel
theorem dX9_better_0 : decode cX9_better 0 = .ok (.aload_n 0, 1) := by decide +kernel
theorem dX9_better_1 : decode cX9_better 1 = .ok (.aload_n 0, 1) := by decide +kernel
theorem dX9_better_12 : decode cX9_better 12 = .ok (.aload_n 0, 1) := by decide +kernel
theorem dX9_better_13 : decode cX9_better 13 = .ok (.invokevirtual 228, 3) := by decide +kernel
theorem dX9_better_16 : decode cX9_better 16 = .ok (.goto 9, 3) := by decide +kernel
theorem dX9_better_19 : decode cX9_better 19 = .ok (.aload_n 0, 1) := by decide +kernel
theorem dX9_better_2 : decode cX9_better 2 = .ok (.getfield 28, 3) := by decide +kernel
theorem dX9_better_20 : decode cX9_better 20 = .ok (.bipush (-5), 2) := by decide +kernel
theorem dX9_better_22 : decode cX9_better 22 = .ok (.invokevirtual 112, 3) := by decide +kernel
theorem dX9_better_25 : decode cX9_better 25 = .ok (.ireturn, 1) := by decide +kernel
theorem dX9_better_5 : decode cX9_better 5 = .ok (.iconst 0, 1) := by decide +kernel
theorem dX9_better_6 : decode cX9_better 6 = .ok (.invokevirtual 199, 3) := by decide +kernel
theorem dX9_better_9 : decode cX9_better 9 = .ok (.ifCond .eq 10, 3) := by decide +kernel
theorem dX9_betters_0 : decode cX9_betters 0 = .ok (.aload_n 0, 1) := by decide +kernel
theorem dX9_betters_1 : decode cX9_betters 1 = .ok (.invokevirtual 180, 3) := by decide +kernel
theorem dX9_betters_10 : decode cX9_betters 10 = .ok (.invokevirtual 224, 3) := by decide +kernel
theorem dX9_betters_101 : decode cX9_betters 101 = .ok (.lload_n 3, 1) := by decide +kernel
theorem dX9_betters_102 : decode cX9_betters 102 = .ok (.lcmp, 1) := by decide +kernel
theorem dX9_betters_103 : decode cX9_betters 103 = .ok (.ifCond .lt 6, 3) := by decide +kernel
theorem dX9_betters_106 : decode cX9_betters 106 = .ok (.goto 19, 3) := by decide +kernel
theorem dX9_betters_109 : decode cX9_betters 109 = .ok (.aload_n 0, 1) := by decide +kernel
theorem dX9_betters_110 : decode cX9_betters 110 = .ok (.aload_n 0, 1) := by decide +kernel
theorem dX9_betters_111 : decode cX9_betters 111 = .ok (.getfield 92, 3) := by decide +kernel
theorem dX9_betters_114 : decode cX9_betters 114 = .ok (.iconst 0, 1) := by decide +kernel
theorem dX9_betters_115 : decode cX9_betters 115 = .ok (.invokevirtual 220, 3) := by decide +kernel
theorem dX9_betters_118 : decode cX9_betters 118 = .ok (.lstore_n 3, 1) := by decide +kernel
theorem dX9_betters_119 : decode cX9_betters 119 = .ok (.iload 5, 2) := by decide +kernel
theorem dX9_betters_121 : decode cX9_betters 121 = .ok (.istore_n 1, 1) := by decide +kernel
theorem dX9_betters_122 : decode cX9_betters 122 = .ok (.iload 6, 2) := by decide +kernel
theorem dX9_betters_124 : decode cX9_betters 124 = .ok (.istore_n 2, 1) := by decide +kernel
theorem dX9_betters_125 : decode cX9_betters 125 = .ok (.iinc 6 1, 3) := by decide +kernel
theorem dX9_betters_128 : decode cX9_betters 128 = .ok (.goto (-99), 3) := by decide +kernel
theorem dX9_betters_13 : decode cX9_betters 13 = .ok (.lstore_n 3, 1) := by decide +kernel
theorem dX9_betters_131 : decode cX9_betters 131 = .ok (.iinc 5 1, 3) := by decide +kernel
theorem dX9_betters_134 : decode cX9_betters 134 = .ok (.goto (-117), 3) := by decide +kernel
theorem dX9_betters_137 : decode cX9_betters 137 = .ok (.iload_n 1, 1) := by decide +kernel
theorem dX9_betters_138 : decode cX9_betters 138 = .ok (.ldc 187, 2) := by decide +kernel
theorem dX9_betters_14 : decode cX9_betters 14 = .ok (.iconst 0, 1) := by decide +kernel
theorem dX9_betters_140 : decode cX9_betters 140 = .ok (.if_icmp .ne 6, 3) := by decide +kernel
theorem dX9_betters_143 : decode cX9_betters 143 = .ok (.ldc 187, 2) := by decide +kernel
theorem dX9_betters_145 : decode cX9_betters 145 = .ok (.ireturn, 1) := by decide +kernel
theorem dX9_betters_146 : decode cX9_betters 146 = .ok (.iconst 0, 1) := by decide +kernel
theorem dX9_betters_147 : decode cX9_betters 147 = .ok (.istore 5, 2) := by decide +kernel
theorem dX9_betters_149 : decode cX9_betters 149 = .ok (.iload 5, 2) := by decide +kernel
theorem dX9_betters_15 : decode cX9_betters 15 = .ok (.istore 5, 2) := by decide +kernel
theorem dX9_betters_151 : decode cX9_betters 151 = .ok (.aload_n 0, 1) := by decide +kernel
theorem dX9_betters_152 : decode cX9_betters 152 = .ok (.getfield 47, 3) := by decide +kernel
theorem dX9_betters_155 : decode cX9_betters 155 = .ok (.if_icmp .ge 28, 3) := by decide +kernel
theorem dX9_betters_158 : decode cX9_betters 158 = .ok (.aload_n 0, 1) := by decide +kernel
theorem dX9_betters_159 : decode cX9_betters 159 = .ok (.getfield 28, 3) := by decide +kernel
theorem dX9_betters_162 : decode cX9_betters 162 = .ok (.iload 5, 2) := by decide +kernel
theorem dX9_betters_164 : decode cX9_betters 164 = .ok (.dup2, 1) := by decide +kernel
theorem dX9_betters_165 : decode cX9_betters 165 = .ok (.iaload, 1) := by decide +kernel
theorem dX9_betters_166 : decode cX9_betters 166 = .ok (.iload_n 2, 1) := by decide +kernel
theorem dX9_betters_167 : decode cX9_betters 167 = .ok (.aload_n 0, 1) := by decide +kernel
theorem dX9_betters_168 : decode cX9_betters 168 = .ok (.iload_n 1, 1) := by decide +kernel
theorem dX9_betters_169 : decode cX9_betters 169 = .ok (.iload 5, 2) := by decide +kernel
theorem dX9_betters_17 : decode cX9_betters 17 = .ok (.iload 5, 2) := by decide +kernel
theorem dX9_betters_171 : decode cX9_betters 171 = .ok (.invokevirtual 183, 3) := by decide +kernel
theorem dX9_betters_174 : decode cX9_betters 174 = .ok (.imul, 1) := by decide +kernel
theorem dX9_betters_175 : decode cX9_betters 175 = .ok (.iadd, 1) := by decide +kernel
theorem dX9_betters_176 : decode cX9_betters 176 = .ok (.iastore, 1) := by decide +kernel
theorem dX9_betters_177 : decode cX9_betters 177 = .ok (.iinc 5 1, 3) := by decide +kernel
theorem dX9_betters_180 : decode cX9_betters 180 = .ok (.goto (-31), 3) := by decide +kernel
theorem dX9_betters_183 : decode cX9_betters 183 = .ok (.iload_n 1, 1) := by decide +kernel
theorem dX9_betters_184 : decode cX9_betters 184 = .ok (.ireturn, 1) := by decide +kernel
theorem dX9_betters_19 : decode cX9_betters 19 = .ok (.aload_n 0, 1) := by decide +kernel
theorem dX9_betters_20 : decode cX9_betters 20 = .ok (.getfield 163, 3) := by decide +kernel
theorem dX9_betters_23 : decode cX9_betters 23 = .ok (.if_icmp .ge 114, 3) := by decide +kernel
theorem dX9_betters_26 : decode cX9_betters 26 = .ok (.iconst 1, 1) := by decide +kernel
theorem dX9_betters_27 : decode cX9_betters 27 = .ok (.istore 6, 2) := by decide +kernel
theorem dX9_betters_29 : decode cX9_betters 29 = .ok (.iload 6, 2) := by decide +kernel
theorem dX9_betters_31 : decode cX9_betters 31 = .ok (.bipush 20, 2) := by decide +kernel
theorem dX9_betters_33 : decode cX9_betters 33 = .ok (.if_icmp .gt 98, 3) := by decide +kernel
theorem dX9_betters_36 : decode cX9_betters 36 = .ok (.iconst 0, 1) := by decide +kernel
theorem dX9_betters_37 : decode cX9_betters 37 = .ok (.istore 7, 2) := by decide +kernel
theorem dX9_betters_39 : decode cX9_betters 39 = .ok (.iload 7, 2) := by decide +kernel
theorem dX9_betters_4 : decode cX9_betters 4 = .ok (.ldc 187, 2) := by decide +kernel
theorem dX9_betters_41 : decode cX9_betters 41 = .ok (.aload_n 0, 1) := by decide +kernel
theorem dX9_betters_42 : decode cX9_betters 42 = .ok (.getfield 47, 3) := by decide +kernel
theorem dX9_betters_45 : decode cX9_betters 45 = .ok (.if_icmp .ge 35, 3) := by decide +kernel
theorem dX9_betters_48 : decode cX9_betters 48 = .ok (.aload_n 0, 1) := by decide +kernel
theorem dX9_betters_49 : decode cX9_betters 49 = .ok (.getfield 92, 3) := by decide +kernel
theorem dX9_betters_52 : decode cX9_betters 52 = .ok (.iload 7, 2) := by decide +kernel
theorem dX9_betters_54 : decode cX9_betters 54 = .ok (.aload_n 0, 1) := by decide +kernel
theorem dX9_betters_55 : decode cX9_betters 55 = .ok (.getfield 28, 3) := by decide +kernel
theorem dX9_betters_58 : decode cX9_betters 58 = .ok (.iload 7, 2) := by decide +kernel
theorem dX9_betters_6 : decode cX9_betters 6 = .ok (.istore_n 1, 1) := by decide +kernel
theorem dX9_betters_60 : decode cX9_betters 60 = .ok (.iaload, 1) := by decide +kernel
theorem dX9_betters_61 : decode cX9_betters 61 = .ok (.iload 6, 2) := by decide +kernel
theorem dX9_betters_63 : decode cX9_betters 63 = .ok (.aload_n 0, 1) := by decide +kernel
theorem dX9_betters_64 : decode cX9_betters 64 = .ok (.iload 5, 2) := by decide +kernel
theorem dX9_betters_66 : decode cX9_betters 66 = .ok (.iload 7, 2) := by decide +kernel
theorem dX9_betters_68 : decode cX9_betters 68 = .ok (.invokevirtual 183, 3) := by decide +kernel
theorem dX9_betters_7 : decode cX9_betters 7 = .ok (.iconst 0, 1) := by decide +kernel
theorem dX9_betters_71 : decode cX9_betters 71 = .ok (.imul, 1) := by decide +kernel
theorem dX9_betters_72 : decode cX9_betters 72 = .ok (.iadd, 1) := by decide +kernel
theorem dX9_betters_73 : decode cX9_betters 73 = .ok (.iastore, 1) := by decide +kernel
theorem dX9_betters_74 : decode cX9_betters 74 = .ok (.iinc 7 1, 3) := by decide +kernel
theorem dX9_betters_77 : decode cX9_betters 77 = .ok (.goto (-38), 3) := by decide +kernel
theorem dX9_betters_8 : decode cX9_betters 8 = .ok (.istore_n 2, 1) := by decide +kernel
theorem dX9_betters_80 : decode cX9_betters 80 = .ok (.aload_n 0, 1) := by decide +kernel
theorem dX9_betters_81 : decode cX9_betters 81 = .ok (.aload_n 0, 1) := by decide +kernel
theorem dX9_betters_82 : decode cX9_betters 82 = .ok (.getfield 92, 3) := by decide +kernel
theorem dX9_betters_85 : decode cX9_betters 85 = .ok (.iconst 0, 1) := by decide +kernel
theorem dX9_betters_86 : decode cX9_betters 86 = .ok (.invokevirtual 199, 3) := by decide +kernel
theorem dX9_betters_89 : decode cX9_betters 89 = .ok (.ifCond .eq 36, 3) := by decide +kernel
theorem dX9_betters_9 : decode cX9_betters 9 = .ok (.aload_n 0, 1) := by decide +kernel
theorem dX9_betters_92 : decode cX9_betters 92 = .ok (.aload_n 0, 1) := by decide +kernel
theorem dX9_betters_93 : decode cX9_betters 93 = .ok (.aload_n 0, 1) := by decide +kernel
theorem dX9_betters_94 : decode cX9_betters 94 = .ok (.getfield 92, 3) := by decide +kernel
theorem dX9_betters_97 : decode cX9_betters 97 = .ok (.iconst 0, 1) := by decide +kernel
theorem dX9_betters_98 : decode cX9_betters 98 = .ok (.invokevirtual 220, 3) := by decide +kernel
theorem dX9_bits_0 : decode cX9_bits 0 = .ok (.iload_n 0, 1) := by decide +kernel
theorem dX9_bits_1 : decode cX9_bits 1 = .ok (.iconst 1, 1) := by decide +kernel
theorem dX9_bits_10 : decode cX9_bits 10 = .ok (.iconst 2, 1) := by decide +kernel
theorem dX9_bits_11 : decode cX9_bits 11 = .ok (.ishr, 1) := by decide +kernel
theorem dX9_bits_12 : decode cX9_bits 12 = .ok (.iconst 1, 1) := by decide +kernel
theorem dX9_bits_13 : decode cX9_bits 13 = .ok (.iand, 1) := by decide +kernel
theorem dX9_bits_14 : decode cX9_bits 14 = .ok (.iadd, 1) := by decide +kernel
theorem dX9_bits_15 : decode cX9_bits 15 = .ok (.iload_n 0, 1) := by decide +kernel
theorem dX9_bits_16 : decode cX9_bits 16 = .ok (.iconst 3, 1) := by decide +kernel
theorem dX9_bits_17 : decode cX9_bits 17 = .ok (.ishr, 1) := by decide +kernel
theorem dX9_bits_18 : decode cX9_bits 18 = .ok (.iconst 1, 1) := by decide +kernel
theorem dX9_bits_19 : decode cX9_bits 19 = .ok (.iand, 1) := by decide +kernel
theorem dX9_bits_2 : decode cX9_bits 2 = .ok (.iand, 1) := by decide +kernel
theorem dX9_bits_20 : decode cX9_bits 20 = .ok (.iadd, 1) := by decide +kernel
theorem dX9_bits_21 : decode cX9_bits 21 = .ok (.ireturn, 1) := by decide +kernel
theorem dX9_bits_3 : decode cX9_bits 3 = .ok (.iload_n 0, 1) := by decide +kernel
theorem dX9_bits_4 : decode cX9_bits 4 = .ok (.iconst 1, 1) := by decide +kernel
theorem dX9_bits_5 : decode cX9_bits 5 = .ok (.ishr, 1) := by decide +kernel
theorem dX9_bits_6 : decode cX9_bits 6 = .ok (.iconst 1, 1) := by decide +kernel
theorem dX9_bits_7 : decode cX9_bits 7 = .ok (.iand, 1) := by decide +kernel
theorem dX9_bits_8 : decode cX9_bits 8 = .ok (.iadd, 1) := by decide +kernel
theorem dX9_bits_9 : decode cX9_bits 9 = .ok (.iload_n 0, 1) := by decide +kernel
theorem dX9_bound_0 : decode cX9_bound 0 = .ok (.iload_n 1, 1) := by decide +kernel
theorem dX9_bound_1 : decode cX9_bound 1 = .ok (.aload_n 0, 1) := by decide +kernel
theorem dX9_bound_11 : decode cX9_bound 11 = .ok (.aload_n 0, 1) := by decide +kernel
theorem dX9_bound_12 : decode cX9_bound 12 = .ok (.iconst (-1), 1) := by decide +kernel
theorem dX9_bound_13 : decode cX9_bound 13 = .ok (.invokevirtual 112, 3) := by decide +kernel
theorem dX9_bound_16 : decode cX9_bound 16 = .ok (.ireturn, 1) := by decide +kernel
theorem dX9_bound_17 : decode cX9_bound 17 = .ok (.iload_n 2, 1) := by decide +kernel
theorem dX9_bound_18 : decode cX9_bound 18 = .ok (.bipush (-10), 2) := by decide +kernel
theorem dX9_bound_2 : decode cX9_bound 2 = .ok (.getfield 47, 3) := by decide +kernel
theorem dX9_bound_20 : decode cX9_bound 20 = .ok (.if_icmp .lt 9, 3) := by decide +kernel
theorem dX9_bound_23 : decode cX9_bound 23 = .ok (.iload_n 3, 1) := by decide +kernel
theorem dX9_bound_24 : decode cX9_bound 24 = .ok (.bipush (-10), 2) := by decide +kernel
theorem dX9_bound_26 : decode cX9_bound 26 = .ok (.if_icmp .ge 10, 3) := by decide +kernel
theorem dX9_bound_29 : decode cX9_bound 29 = .ok (.aload_n 0, 1) := by decide +kernel
theorem dX9_bound_30 : decode cX9_bound 30 = .ok (.bipush (-4), 2) := by decide +kernel
theorem dX9_bound_32 : decode cX9_bound 32 = .ok (.invokevirtual 112, 3) := by decide +kernel
theorem dX9_bound_35 : decode cX9_bound 35 = .ok (.ireturn, 1) := by decide +kernel
theorem dX9_bound_36 : decode cX9_bound 36 = .ok (.iload_n 2, 1) := by decide +kernel
theorem dX9_bound_37 : decode cX9_bound 37 = .ok (.bipush 10, 2) := by decide +kernel
theorem dX9_bound_39 : decode cX9_bound 39 = .ok (.if_icmp .gt 9, 3) := by decide +kernel
theorem dX9_bound_42 : decode cX9_bound 42 = .ok (.iload_n 3, 1) := by decide +kernel
theorem dX9_bound_43 : decode cX9_bound 43 = .ok (.bipush 10, 2) := by decide +kernel
theorem dX9_bound_45 : decode cX9_bound 45 = .ok (.if_icmp .le 10, 3) := by decide +kernel
theorem dX9_bound_48 : decode cX9_bound 48 = .ok (.aload_n 0, 1) := by decide +kernel
theorem dX9_bound_49 : decode cX9_bound 49 = .ok (.bipush (-6), 2) := by decide +kernel
theorem dX9_bound_5 : decode cX9_bound 5 = .ok (.invokestatic 116, 3) := by decide +kernel
theorem dX9_bound_51 : decode cX9_bound 51 = .ok (.invokevirtual 112, 3) := by decide +kernel
theorem dX9_bound_54 : decode cX9_bound 54 = .ok (.ireturn, 1) := by decide +kernel
theorem dX9_bound_55 : decode cX9_bound 55 = .ok (.aload_n 0, 1) := by decide +kernel
theorem dX9_bound_56 : decode cX9_bound 56 = .ok (.getfield 16, 3) := by decide +kernel
theorem dX9_bound_59 : decode cX9_bound 59 = .ok (.iload_n 1, 1) := by decide +kernel
theorem dX9_bound_60 : decode cX9_bound 60 = .ok (.iload_n 2, 1) := by decide +kernel
theorem dX9_bound_61 : decode cX9_bound 61 = .ok (.iastore, 1) := by decide +kernel
theorem dX9_bound_62 : decode cX9_bound 62 = .ok (.aload_n 0, 1) := by decide +kernel
theorem dX9_bound_63 : decode cX9_bound 63 = .ok (.getfield 19, 3) := by decide +kernel
theorem dX9_bound_66 : decode cX9_bound 66 = .ok (.iload_n 1, 1) := by decide +kernel
theorem dX9_bound_67 : decode cX9_bound 67 = .ok (.iload_n 3, 1) := by decide +kernel
theorem dX9_bound_68 : decode cX9_bound 68 = .ok (.iastore, 1) := by decide +kernel
theorem dX9_bound_69 : decode cX9_bound 69 = .ok (.aload_n 0, 1) := by decide +kernel
theorem dX9_bound_70 : decode cX9_bound 70 = .ok (.iconst 0, 1) := by decide +kernel
theorem dX9_bound_71 : decode cX9_bound 71 = .ok (.putfield 109, 3) := by decide +kernel
theorem dX9_bound_74 : decode cX9_bound 74 = .ok (.iconst 1, 1) := by decide +kernel
theorem dX9_bound_75 : decode cX9_bound 75 = .ok (.ireturn, 1) := by decide +kernel
theorem dX9_bound_8 : decode cX9_bound 8 = .ok (.ifCond .ne 9, 3) := by decide +kernel
theorem dX9_cell_0 : decode cX9_cell 0 = .ok (.iload_n 1, 1) := by decide +kernel
theorem dX9_cell_1 : decode cX9_cell 1 = .ok (.iconst 4, 1) := by decide +kernel
theorem dX9_cell_10 : decode cX9_cell 10 = .ok (.invokevirtual 112, 3) := by decide +kernel
theorem dX9_cell_100 : decode cX9_cell 100 = .ok (.l2i, 1) := by decide +kernel
theorem dX9_cell_101 : decode cX9_cell 101 = .ok (.i2l, 1) := by decide +kernel
theorem dX9_cell_102 : decode cX9_cell 102 = .ok (.goto 4, 3) := by decide +kernel
theorem dX9_cell_105 : decode cX9_cell 105 = .ok (.lload_n 3, 1) := by decide +kernel
theorem dX9_cell_106 : decode cX9_cell 106 = .ok (.lastore, 1) := by decide +kernel
theorem dX9_cell_107 : decode cX9_cell 107 = .ok (.iconst 1, 1) := by decide +kernel
theorem dX9_cell_108 : decode cX9_cell 108 = .ok (.ireturn, 1) := by decide +kernel
theorem dX9_cell_13 : decode cX9_cell 13 = .ok (.ireturn, 1) := by decide +kernel
theorem dX9_cell_14 : decode cX9_cell 14 = .ok (.aload_n 0, 1) := by decide +kernel
theorem dX9_cell_15 : decode cX9_cell 15 = .ok (.getfield 34, 3) := by decide +kernel
theorem dX9_cell_18 : decode cX9_cell 18 = .ok (.iload_n 1, 1) := by decide +kernel
theorem dX9_cell_19 : decode cX9_cell 19 = .ok (.iaload, 1) := by decide +kernel
theorem dX9_cell_2 : decode cX9_cell 2 = .ok (.invokestatic 116, 3) := by decide +kernel
theorem dX9_cell_20 : decode cX9_cell 20 = .ok (.ifCond .ge 10, 3) := by decide +kernel
theorem dX9_cell_23 : decode cX9_cell 23 = .ok (.aload_n 0, 1) := by decide +kernel
theorem dX9_cell_24 : decode cX9_cell 24 = .ok (.bipush (-7), 2) := by decide +kernel
theorem dX9_cell_26 : decode cX9_cell 26 = .ok (.invokevirtual 112, 3) := by decide +kernel
theorem dX9_cell_29 : decode cX9_cell 29 = .ok (.ireturn, 1) := by decide +kernel
theorem dX9_cell_30 : decode cX9_cell 30 = .ok (.iload_n 2, 1) := by decide +kernel
theorem dX9_cell_31 : decode cX9_cell 31 = .ok (.aload_n 0, 1) := by decide +kernel
theorem dX9_cell_32 : decode cX9_cell 32 = .ok (.getfield 37, 3) := by decide +kernel
theorem dX9_cell_35 : decode cX9_cell 35 = .ok (.iload_n 1, 1) := by decide +kernel
theorem dX9_cell_36 : decode cX9_cell 36 = .ok (.iaload, 1) := by decide +kernel
theorem dX9_cell_37 : decode cX9_cell 37 = .ok (.invokestatic 116, 3) := by decide +kernel
theorem dX9_cell_40 : decode cX9_cell 40 = .ok (.ifCond .ne 10, 3) := by decide +kernel
theorem dX9_cell_43 : decode cX9_cell 43 = .ok (.aload_n 0, 1) := by decide +kernel
theorem dX9_cell_44 : decode cX9_cell 44 = .ok (.bipush (-3), 2) := by decide +kernel
theorem dX9_cell_46 : decode cX9_cell 46 = .ok (.invokevirtual 112, 3) := by decide +kernel
theorem dX9_cell_49 : decode cX9_cell 49 = .ok (.ireturn, 1) := by decide +kernel
theorem dX9_cell_5 : decode cX9_cell 5 = .ok (.ifCond .ne 9, 3) := by decide +kernel
theorem dX9_cell_50 : decode cX9_cell 50 = .ok (.aload_n 0, 1) := by decide +kernel
theorem dX9_cell_51 : decode cX9_cell 51 = .ok (.getfield 34, 3) := by decide +kernel
theorem dX9_cell_54 : decode cX9_cell 54 = .ok (.iload_n 1, 1) := by decide +kernel
theorem dX9_cell_55 : decode cX9_cell 55 = .ok (.iaload, 1) := by decide +kernel
theorem dX9_cell_56 : decode cX9_cell 56 = .ok (.istore 5, 2) := by decide +kernel
theorem dX9_cell_58 : decode cX9_cell 58 = .ok (.aload_n 0, 1) := by decide +kernel
theorem dX9_cell_59 : decode cX9_cell 59 = .ok (.getfield 40, 3) := by decide +kernel
theorem dX9_cell_62 : decode cX9_cell 62 = .ok (.bipush 20, 2) := by decide +kernel
theorem dX9_cell_64 : decode cX9_cell 64 = .ok (.iload_n 1, 1) := by decide +kernel
theorem dX9_cell_65 : decode cX9_cell 65 = .ok (.imul, 1) := by decide +kernel
theorem dX9_cell_66 : decode cX9_cell 66 = .ok (.iload_n 2, 1) := by decide +kernel
theorem dX9_cell_67 : decode cX9_cell 67 = .ok (.iadd, 1) := by decide +kernel
theorem dX9_cell_68 : decode cX9_cell 68 = .ok (.iload 5, 2) := by decide +kernel
theorem dX9_cell_70 : decode cX9_cell 70 = .ok (.ifCond .ne 10, 3) := by decide +kernel
theorem dX9_cell_73 : decode cX9_cell 73 = .ok (.lload_n 3, 1) := by decide +kernel
theorem dX9_cell_74 : decode cX9_cell 74 = .ok (.l2i, 1) := by decide +kernel
theorem dX9_cell_75 : decode cX9_cell 75 = .ok (.i2b, 1) := by decide +kernel
theorem dX9_cell_76 : decode cX9_cell 76 = .ok (.i2l, 1) := by decide +kernel
theorem dX9_cell_77 : decode cX9_cell 77 = .ok (.goto 29, 3) := by decide +kernel
theorem dX9_cell_8 : decode cX9_cell 8 = .ok (.aload_n 0, 1) := by decide +kernel
theorem dX9_cell_80 : decode cX9_cell 80 = .ok (.iload 5, 2) := by decide +kernel
theorem dX9_cell_82 : decode cX9_cell 82 = .ok (.iconst 1, 1) := by decide +kernel
theorem dX9_cell_83 : decode cX9_cell 83 = .ok (.if_icmp .ne 10, 3) := by decide +kernel
theorem dX9_cell_86 : decode cX9_cell 86 = .ok (.lload_n 3, 1) := by decide +kernel
theorem dX9_cell_87 : decode cX9_cell 87 = .ok (.l2i, 1) := by decide +kernel
theorem dX9_cell_88 : decode cX9_cell 88 = .ok (.i2s, 1) := by decide +kernel
theorem dX9_cell_89 : decode cX9_cell 89 = .ok (.i2l, 1) := by decide +kernel
theorem dX9_cell_9 : decode cX9_cell 9 = .ok (.iconst (-1), 1) := by decide +kernel
theorem dX9_cell_90 : decode cX9_cell 90 = .ok (.goto 16, 3) := by decide +kernel
theorem dX9_cell_93 : decode cX9_cell 93 = .ok (.iload 5, 2) := by decide +kernel
theorem dX9_cell_95 : decode cX9_cell 95 = .ok (.iconst 2, 1) := by decide +kernel
theorem dX9_cell_96 : decode cX9_cell 96 = .ok (.if_icmp .ne 9, 3) := by decide +kernel
theorem dX9_cell_99 : decode cX9_cell 99 = .ok (.lload_n 3, 1) := by decide +kernel
theorem dX9_copy_0 : decode cX9_copy 0 = .ok (.iload_n 1, 1) := by decide +kernel
theorem dX9_copy_1 : decode cX9_copy 1 = .ok (.iconst 4, 1) := by decide +kernel
theorem dX9_copy_10 : decode cX9_copy 10 = .ok (.invokestatic 116, 3) := by decide +kernel
theorem dX9_copy_102 : decode cX9_copy 102 = .ok (.iload 4, 2) := by decide +kernel
theorem dX9_copy_104 : decode cX9_copy 104 = .ok (.aload_n 0, 1) := by decide +kernel
theorem dX9_copy_105 : decode cX9_copy 105 = .ok (.getfield 37, 3) := by decide +kernel
theorem dX9_copy_108 : decode cX9_copy 108 = .ok (.iload_n 3, 1) := by decide +kernel
theorem dX9_copy_109 : decode cX9_copy 109 = .ok (.iaload, 1) := by decide +kernel
theorem dX9_copy_110 : decode cX9_copy 110 = .ok (.if_icmp .le 10, 3) := by decide +kernel
theorem dX9_copy_113 : decode cX9_copy 113 = .ok (.aload_n 0, 1) := by decide +kernel
theorem dX9_copy_114 : decode cX9_copy 114 = .ok (.bipush (-3), 2) := by decide +kernel
theorem dX9_copy_116 : decode cX9_copy 116 = .ok (.invokevirtual 112, 3) := by decide +kernel
theorem dX9_copy_119 : decode cX9_copy 119 = .ok (.ireturn, 1) := by decide +kernel
theorem dX9_copy_120 : decode cX9_copy 120 = .ok (.iconst 0, 1) := by decide +kernel
theorem dX9_copy_121 : decode cX9_copy 121 = .ok (.istore 5, 2) := by decide +kernel
theorem dX9_copy_123 : decode cX9_copy 123 = .ok (.iload 5, 2) := by decide +kernel
theorem dX9_copy_125 : decode cX9_copy 125 = .ok (.iload 4, 2) := by decide +kernel
theorem dX9_copy_127 : decode cX9_copy 127 = .ok (.if_icmp .ge 30, 3) := by decide +kernel
theorem dX9_copy_13 : decode cX9_copy 13 = .ok (.ifCond .ne 9, 3) := by decide +kernel
theorem dX9_copy_130 : decode cX9_copy 130 = .ok (.aload_n 0, 1) := by decide +kernel
theorem dX9_copy_131 : decode cX9_copy 131 = .ok (.getfield 44, 3) := by decide +kernel
theorem dX9_copy_134 : decode cX9_copy 134 = .ok (.iload 5, 2) := by decide +kernel
theorem dX9_copy_136 : decode cX9_copy 136 = .ok (.aload_n 0, 1) := by decide +kernel
theorem dX9_copy_137 : decode cX9_copy 137 = .ok (.getfield 40, 3) := by decide +kernel
theorem dX9_copy_140 : decode cX9_copy 140 = .ok (.bipush 20, 2) := by decide +kernel
theorem dX9_copy_142 : decode cX9_copy 142 = .ok (.iload_n 1, 1) := by decide +kernel
theorem dX9_copy_143 : decode cX9_copy 143 = .ok (.imul, 1) := by decide +kernel
theorem dX9_copy_144 : decode cX9_copy 144 = .ok (.iload_n 2, 1) := by decide +kernel
theorem dX9_copy_145 : decode cX9_copy 145 = .ok (.iadd, 1) := by decide +kernel
theorem dX9_copy_146 : decode cX9_copy 146 = .ok (.iload 5, 2) := by decide +kernel
theorem dX9_copy_148 : decode cX9_copy 148 = .ok (.iadd, 1) := by decide +kernel
theorem dX9_copy_149 : decode cX9_copy 149 = .ok (.laload, 1) := by decide +kernel
theorem dX9_copy_150 : decode cX9_copy 150 = .ok (.lastore, 1) := by decide +kernel
theorem dX9_copy_151 : decode cX9_copy 151 = .ok (.iinc 5 1, 3) := by decide +kernel
theorem dX9_copy_154 : decode cX9_copy 154 = .ok (.goto (-31), 3) := by decide +kernel
theorem dX9_copy_157 : decode cX9_copy 157 = .ok (.iconst 0, 1) := by decide +kernel
theorem dX9_copy_158 : decode cX9_copy 158 = .ok (.istore 5, 2) := by decide +kernel
theorem dX9_copy_16 : decode cX9_copy 16 = .ok (.aload_n 0, 1) := by decide +kernel
theorem dX9_copy_160 : decode cX9_copy 160 = .ok (.iload 5, 2) := by decide +kernel
theorem dX9_copy_162 : decode cX9_copy 162 = .ok (.iload 4, 2) := by decide +kernel
theorem dX9_copy_164 : decode cX9_copy 164 = .ok (.if_icmp .ge 28, 3) := by decide +kernel
theorem dX9_copy_167 : decode cX9_copy 167 = .ok (.aload_n 0, 1) := by decide +kernel
theorem dX9_copy_168 : decode cX9_copy 168 = .ok (.getfield 40, 3) := by decide +kernel
theorem dX9_copy_17 : decode cX9_copy 17 = .ok (.iconst (-1), 1) := by decide +kernel
theorem dX9_copy_171 : decode cX9_copy 171 = .ok (.bipush 20, 2) := by decide +kernel
theorem dX9_copy_173 : decode cX9_copy 173 = .ok (.iload_n 3, 1) := by decide +kernel
theorem dX9_copy_174 : decode cX9_copy 174 = .ok (.imul, 1) := by decide +kernel
theorem dX9_copy_175 : decode cX9_copy 175 = .ok (.iload 5, 2) := by decide +kernel
theorem dX9_copy_177 : decode cX9_copy 177 = .ok (.iadd, 1) := by decide +kernel
theorem dX9_copy_178 : decode cX9_copy 178 = .ok (.aload_n 0, 1) := by decide +kernel
theorem dX9_copy_179 : decode cX9_copy 179 = .ok (.getfield 44, 3) := by decide +kernel
theorem dX9_copy_18 : decode cX9_copy 18 = .ok (.invokevirtual 112, 3) := by decide +kernel
theorem dX9_copy_182 : decode cX9_copy 182 = .ok (.iload 5, 2) := by decide +kernel
theorem dX9_copy_184 : decode cX9_copy 184 = .ok (.laload, 1) := by decide +kernel
theorem dX9_copy_185 : decode cX9_copy 185 = .ok (.lastore, 1) := by decide +kernel
theorem dX9_copy_186 : decode cX9_copy 186 = .ok (.iinc 5 1, 3) := by decide +kernel
theorem dX9_copy_189 : decode cX9_copy 189 = .ok (.goto (-29), 3) := by decide +kernel
theorem dX9_copy_192 : decode cX9_copy 192 = .ok (.iconst 1, 1) := by decide +kernel
theorem dX9_copy_193 : decode cX9_copy 193 = .ok (.ireturn, 1) := by decide +kernel
theorem dX9_copy_2 : decode cX9_copy 2 = .ok (.invokestatic 116, 3) := by decide +kernel
theorem dX9_copy_21 : decode cX9_copy 21 = .ok (.ireturn, 1) := by decide +kernel
theorem dX9_copy_22 : decode cX9_copy 22 = .ok (.aload_n 0, 1) := by decide +kernel
theorem dX9_copy_23 : decode cX9_copy 23 = .ok (.getfield 34, 3) := by decide +kernel
theorem dX9_copy_26 : decode cX9_copy 26 = .ok (.iload_n 1, 1) := by decide +kernel
theorem dX9_copy_27 : decode cX9_copy 27 = .ok (.iaload, 1) := by decide +kernel
theorem dX9_copy_28 : decode cX9_copy 28 = .ok (.ifCond .lt 12, 3) := by decide +kernel
theorem dX9_copy_31 : decode cX9_copy 31 = .ok (.aload_n 0, 1) := by decide +kernel
theorem dX9_copy_32 : decode cX9_copy 32 = .ok (.getfield 34, 3) := by decide +kernel
theorem dX9_copy_35 : decode cX9_copy 35 = .ok (.iload_n 3, 1) := by decide +kernel
theorem dX9_copy_36 : decode cX9_copy 36 = .ok (.iaload, 1) := by decide +kernel
theorem dX9_copy_37 : decode cX9_copy 37 = .ok (.ifCond .ge 10, 3) := by decide +kernel
theorem dX9_copy_40 : decode cX9_copy 40 = .ok (.aload_n 0, 1) := by decide +kernel
theorem dX9_copy_41 : decode cX9_copy 41 = .ok (.bipush (-7), 2) := by decide +kernel
theorem dX9_copy_43 : decode cX9_copy 43 = .ok (.invokevirtual 112, 3) := by decide +kernel
theorem dX9_copy_46 : decode cX9_copy 46 = .ok (.ireturn, 1) := by decide +kernel
theorem dX9_copy_47 : decode cX9_copy 47 = .ok (.aload_n 0, 1) := by decide +kernel
theorem dX9_copy_48 : decode cX9_copy 48 = .ok (.getfield 34, 3) := by decide +kernel
theorem dX9_copy_5 : decode cX9_copy 5 = .ok (.ifCond .eq 11, 3) := by decide +kernel
theorem dX9_copy_51 : decode cX9_copy 51 = .ok (.iload_n 1, 1) := by decide +kernel
theorem dX9_copy_52 : decode cX9_copy 52 = .ok (.iaload, 1) := by decide +kernel
theorem dX9_copy_53 : decode cX9_copy 53 = .ok (.aload_n 0, 1) := by decide +kernel
theorem dX9_copy_54 : decode cX9_copy 54 = .ok (.getfield 34, 3) := by decide +kernel
theorem dX9_copy_57 : decode cX9_copy 57 = .ok (.iload_n 3, 1) := by decide +kernel
theorem dX9_copy_58 : decode cX9_copy 58 = .ok (.iaload, 1) := by decide +kernel
theorem dX9_copy_59 : decode cX9_copy 59 = .ok (.if_icmp .eq 10, 3) := by decide +kernel
theorem dX9_copy_62 : decode cX9_copy 62 = .ok (.aload_n 0, 1) := by decide +kernel
theorem dX9_copy_63 : decode cX9_copy 63 = .ok (.bipush (-2), 2) := by decide +kernel
theorem dX9_copy_65 : decode cX9_copy 65 = .ok (.invokevirtual 112, 3) := by decide +kernel
theorem dX9_copy_68 : decode cX9_copy 68 = .ok (.ireturn, 1) := by decide +kernel
theorem dX9_copy_69 : decode cX9_copy 69 = .ok (.iload 4, 2) := by decide +kernel
theorem dX9_copy_71 : decode cX9_copy 71 = .ok (.ifCond .ge 10, 3) := by decide +kernel
theorem dX9_copy_74 : decode cX9_copy 74 = .ok (.aload_n 0, 1) := by decide +kernel
theorem dX9_copy_75 : decode cX9_copy 75 = .ok (.bipush (-4), 2) := by decide +kernel
theorem dX9_copy_77 : decode cX9_copy 77 = .ok (.invokevirtual 112, 3) := by decide +kernel
theorem dX9_copy_8 : decode cX9_copy 8 = .ok (.iload_n 3, 1) := by decide +kernel
theorem dX9_copy_80 : decode cX9_copy 80 = .ok (.ireturn, 1) := by decide +kernel
theorem dX9_copy_81 : decode cX9_copy 81 = .ok (.iload_n 2, 1) := by decide +kernel
theorem dX9_copy_82 : decode cX9_copy 82 = .ok (.ifCond .lt 31, 3) := by decide +kernel
theorem dX9_copy_85 : decode cX9_copy 85 = .ok (.iload_n 2, 1) := by decide +kernel
theorem dX9_copy_86 : decode cX9_copy 86 = .ok (.i2l, 1) := by decide +kernel
theorem dX9_copy_87 : decode cX9_copy 87 = .ok (.iload 4, 2) := by decide +kernel
theorem dX9_copy_89 : decode cX9_copy 89 = .ok (.i2l, 1) := by decide +kernel
theorem dX9_copy_9 : decode cX9_copy 9 = .ok (.iconst 4, 1) := by decide +kernel
theorem dX9_copy_90 : decode cX9_copy 90 = .ok (.ladd, 1) := by decide +kernel
theorem dX9_copy_91 : decode cX9_copy 91 = .ok (.aload_n 0, 1) := by decide +kernel
theorem dX9_copy_92 : decode cX9_copy 92 = .ok (.getfield 37, 3) := by decide +kernel
theorem dX9_copy_95 : decode cX9_copy 95 = .ok (.iload_n 1, 1) := by decide +kernel
theorem dX9_copy_96 : decode cX9_copy 96 = .ok (.iaload, 1) := by decide +kernel
theorem dX9_copy_97 : decode cX9_copy 97 = .ok (.i2l, 1) := by decide +kernel
theorem dX9_copy_98 : decode cX9_copy 98 = .ok (.lcmp, 1) := by decide +kernel
theorem dX9_copy_99 : decode cX9_copy 99 = .ok (.ifCond .gt 14, 3) := by decide +kernel
theorem dX9_costOf_0 : decode cX9_costOf 0 = .ok (.lconst 0, 1) := by decide +kernel
theorem dX9_costOf_1 : decode cX9_costOf 1 = .ok (.lstore_n 3, 1) := by decide +kernel
theorem dX9_costOf_11 : decode cX9_costOf 11 = .ok (.if_icmp .ge 53, 3) := by decide +kernel
theorem dX9_costOf_14 : decode cX9_costOf 14 = .ok (.lload_n 3, 1) := by decide +kernel
theorem dX9_costOf_15 : decode cX9_costOf 15 = .ok (.aload_n 0, 1) := by decide +kernel
theorem dX9_costOf_16 : decode cX9_costOf 16 = .ok (.getfield 22, 3) := by decide +kernel
theorem dX9_costOf_19 : decode cX9_costOf 19 = .ok (.iload 5, 2) := by decide +kernel
theorem dX9_costOf_2 : decode cX9_costOf 2 = .ok (.iconst 0, 1) := by decide +kernel
theorem dX9_costOf_21 : decode cX9_costOf 21 = .ok (.iaload, 1) := by decide +kernel
theorem dX9_costOf_22 : decode cX9_costOf 22 = .ok (.i2l, 1) := by decide +kernel
theorem dX9_costOf_23 : decode cX9_costOf 23 = .ok (.aload_n 1, 1) := by decide +kernel
theorem dX9_costOf_24 : decode cX9_costOf 24 = .ok (.iload_n 2, 1) := by decide +kernel
theorem dX9_costOf_25 : decode cX9_costOf 25 = .ok (.iload 5, 2) := by decide +kernel
theorem dX9_costOf_27 : decode cX9_costOf 27 = .ok (.iadd, 1) := by decide +kernel
theorem dX9_costOf_28 : decode cX9_costOf 28 = .ok (.iaload, 1) := by decide +kernel
theorem dX9_costOf_29 : decode cX9_costOf 29 = .ok (.i2l, 1) := by decide +kernel
theorem dX9_costOf_3 : decode cX9_costOf 3 = .ok (.istore 5, 2) := by decide +kernel
theorem dX9_costOf_30 : decode cX9_costOf 30 = .ok (.lmul, 1) := by decide +kernel
theorem dX9_costOf_31 : decode cX9_costOf 31 = .ok (.aload_n 0, 1) := by decide +kernel
theorem dX9_costOf_32 : decode cX9_costOf 32 = .ok (.getfield 25, 3) := by decide +kernel
theorem dX9_costOf_35 : decode cX9_costOf 35 = .ok (.iload 5, 2) := by decide +kernel
theorem dX9_costOf_37 : decode cX9_costOf 37 = .ok (.iaload, 1) := by decide +kernel
theorem dX9_costOf_38 : decode cX9_costOf 38 = .ok (.i2l, 1) := by decide +kernel
theorem dX9_costOf_39 : decode cX9_costOf 39 = .ok (.aload_n 1, 1) := by decide +kernel
theorem dX9_costOf_40 : decode cX9_costOf 40 = .ok (.iload_n 2, 1) := by decide +kernel
theorem dX9_costOf_41 : decode cX9_costOf 41 = .ok (.iload 5, 2) := by decide +kernel
theorem dX9_costOf_43 : decode cX9_costOf 43 = .ok (.iadd, 1) := by decide +kernel
theorem dX9_costOf_44 : decode cX9_costOf 44 = .ok (.iaload, 1) := by decide +kernel
theorem dX9_costOf_45 : decode cX9_costOf 45 = .ok (.i2l, 1) := by decide +kernel
theorem dX9_costOf_46 : decode cX9_costOf 46 = .ok (.lmul, 1) := by decide +kernel
theorem dX9_costOf_47 : decode cX9_costOf 47 = .ok (.aload_n 1, 1) := by decide +kernel
theorem dX9_costOf_48 : decode cX9_costOf 48 = .ok (.iload_n 2, 1) := by decide +kernel
theorem dX9_costOf_49 : decode cX9_costOf 49 = .ok (.iload 5, 2) := by decide +kernel
theorem dX9_costOf_5 : decode cX9_costOf 5 = .ok (.iload 5, 2) := by decide +kernel
theorem dX9_costOf_51 : decode cX9_costOf 51 = .ok (.iadd, 1) := by decide +kernel
theorem dX9_costOf_52 : decode cX9_costOf 52 = .ok (.iaload, 1) := by decide +kernel
theorem dX9_costOf_53 : decode cX9_costOf 53 = .ok (.i2l, 1) := by decide +kernel
theorem dX9_costOf_54 : decode cX9_costOf 54 = .ok (.lmul, 1) := by decide +kernel
theorem dX9_costOf_55 : decode cX9_costOf 55 = .ok (.ladd, 1) := by decide +kernel
theorem dX9_costOf_56 : decode cX9_costOf 56 = .ok (.ladd, 1) := by decide +kernel
theorem dX9_costOf_57 : decode cX9_costOf 57 = .ok (.lstore_n 3, 1) := by decide +kernel
theorem dX9_costOf_58 : decode cX9_costOf 58 = .ok (.iinc 5 1, 3) := by decide +kernel
theorem dX9_costOf_61 : decode cX9_costOf 61 = .ok (.goto (-56), 3) := by decide +kernel
theorem dX9_costOf_64 : decode cX9_costOf 64 = .ok (.lload_n 3, 1) := by decide +kernel
theorem dX9_costOf_65 : decode cX9_costOf 65 = .ok (.lreturn, 1) := by decide +kernel
theorem dX9_costOf_7 : decode cX9_costOf 7 = .ok (.aload_n 0, 1) := by decide +kernel
theorem dX9_costOf_8 : decode cX9_costOf 8 = .ok (.getfield 47, 3) := by decide +kernel
theorem dX9_cost_0 : decode cX9_cost 0 = .ok (.aload_n 0, 1) := by decide +kernel
theorem dX9_cost_1 : decode cX9_cost 1 = .ok (.aload_n 0, 1) := by decide +kernel
theorem dX9_cost_2 : decode cX9_cost 2 = .ok (.getfield 28, 3) := by decide +kernel
theorem dX9_cost_5 : decode cX9_cost 5 = .ok (.iconst 0, 1) := by decide +kernel
theorem dX9_cost_6 : decode cX9_cost 6 = .ok (.invokevirtual 220, 3) := by decide +kernel
theorem dX9_cost_9 : decode cX9_cost 9 = .ok (.lreturn, 1) := by decide +kernel
theorem dX9_count_0 : decode cX9_count 0 = .ok (.iload_n 1, 1) := by decide +kernel
theorem dX9_count_1 : decode cX9_count 1 = .ok (.bipush 10, 2) := by decide +kernel
theorem dX9_count_100 : decode cX9_count 100 = .ok (.isub, 1) := by decide +kernel
theorem dX9_count_101 : decode cX9_count 101 = .ok (.if_icmp .ne 7, 3) := by decide +kernel
theorem dX9_count_104 : decode cX9_count 104 = .ok (.iconst 1, 1) := by decide +kernel
theorem dX9_count_105 : decode cX9_count 105 = .ok (.goto 4, 3) := by decide +kernel
theorem dX9_count_108 : decode cX9_count 108 = .ok (.iconst 0, 1) := by decide +kernel
theorem dX9_count_109 : decode cX9_count 109 = .ok (.iadd, 1) := by decide +kernel
theorem dX9_count_110 : decode cX9_count 110 = .ok (.istore_n 2, 1) := by decide +kernel
theorem dX9_count_111 : decode cX9_count 111 = .ok (.iinc 3 1, 3) := by decide +kernel
theorem dX9_count_114 : decode cX9_count 114 = .ok (.goto (-30), 3) := by decide +kernel
theorem dX9_count_117 : decode cX9_count 117 = .ok (.iload_n 2, 1) := by decide +kernel
theorem dX9_count_118 : decode cX9_count 118 = .ok (.ireturn, 1) := by decide +kernel
theorem dX9_count_119 : decode cX9_count 119 = .ok (.iconst 0, 1) := by decide +kernel
theorem dX9_count_12 : decode cX9_count 12 = .ok (.aload_n 0, 1) := by decide +kernel
theorem dX9_count_120 : decode cX9_count 120 = .ok (.istore_n 3, 1) := by decide +kernel
theorem dX9_count_121 : decode cX9_count 121 = .ok (.iload_n 3, 1) := by decide +kernel
theorem dX9_count_122 : decode cX9_count 122 = .ok (.iconst 4, 1) := by decide +kernel
theorem dX9_count_123 : decode cX9_count 123 = .ok (.if_icmp .ge 31, 3) := by decide +kernel
theorem dX9_count_126 : decode cX9_count 126 = .ok (.iload_n 2, 1) := by decide +kernel
theorem dX9_count_127 : decode cX9_count 127 = .ok (.aload_n 0, 1) := by decide +kernel
theorem dX9_count_128 : decode cX9_count 128 = .ok (.getfield 34, 3) := by decide +kernel
theorem dX9_count_13 : decode cX9_count 13 = .ok (.getfield 31, 3) := by decide +kernel
theorem dX9_count_131 : decode cX9_count 131 = .ok (.iload_n 3, 1) := by decide +kernel
theorem dX9_count_132 : decode cX9_count 132 = .ok (.iaload, 1) := by decide +kernel
theorem dX9_count_133 : decode cX9_count 133 = .ok (.ifCond .ge 7, 3) := by decide +kernel
theorem dX9_count_136 : decode cX9_count 136 = .ok (.iconst 0, 1) := by decide +kernel
theorem dX9_count_137 : decode cX9_count 137 = .ok (.goto 9, 3) := by decide +kernel
theorem dX9_count_140 : decode cX9_count 140 = .ok (.aload_n 0, 1) := by decide +kernel
theorem dX9_count_141 : decode cX9_count 141 = .ok (.getfield 37, 3) := by decide +kernel
theorem dX9_count_144 : decode cX9_count 144 = .ok (.iload_n 3, 1) := by decide +kernel
theorem dX9_count_145 : decode cX9_count 145 = .ok (.iaload, 1) := by decide +kernel
theorem dX9_count_146 : decode cX9_count 146 = .ok (.iadd, 1) := by decide +kernel
theorem dX9_count_147 : decode cX9_count 147 = .ok (.istore_n 2, 1) := by decide +kernel
theorem dX9_count_148 : decode cX9_count 148 = .ok (.iinc 3 1, 3) := by decide +kernel
theorem dX9_count_151 : decode cX9_count 151 = .ok (.goto (-30), 3) := by decide +kernel
theorem dX9_count_154 : decode cX9_count 154 = .ok (.iload_n 2, 1) := by decide +kernel
theorem dX9_count_155 : decode cX9_count 155 = .ok (.ireturn, 1) := by decide +kernel
theorem dX9_count_156 : decode cX9_count 156 = .ok (.aload_n 0, 1) := by decide +kernel
theorem dX9_count_157 : decode cX9_count 157 = .ok (.invokevirtual 180, 3) := by decide +kernel
theorem dX9_count_16 : decode cX9_count 16 = .ok (.iload_n 1, 1) := by decide +kernel
theorem dX9_count_160 : decode cX9_count 160 = .ok (.aload_n 0, 1) := by decide +kernel
theorem dX9_count_161 : decode cX9_count 161 = .ok (.invokevirtual 195, 3) := by decide +kernel
theorem dX9_count_164 : decode cX9_count 164 = .ok (.ifCond .eq 11, 3) := by decide +kernel
theorem dX9_count_167 : decode cX9_count 167 = .ok (.aload_n 0, 1) := by decide +kernel
theorem dX9_count_168 : decode cX9_count 168 = .ok (.iconst (-1), 1) := by decide +kernel
theorem dX9_count_169 : decode cX9_count 169 = .ok (.invokevirtual 209, 3) := by decide +kernel
theorem dX9_count_17 : decode cX9_count 17 = .ok (.bipush 10, 2) := by decide +kernel
theorem dX9_count_172 : decode cX9_count 172 = .ok (.goto 4, 3) := by decide +kernel
theorem dX9_count_175 : decode cX9_count 175 = .ok (.iconst 0, 1) := by decide +kernel
theorem dX9_count_176 : decode cX9_count 176 = .ok (.ireturn, 1) := by decide +kernel
theorem dX9_count_177 : decode cX9_count 177 = .ok (.ldc 187, 2) := by decide +kernel
theorem dX9_count_179 : decode cX9_count 179 = .ok (.ireturn, 1) := by decide +kernel
theorem dX9_count_19 : decode cX9_count 19 = .ok (.isub, 1) := by decide +kernel
theorem dX9_count_20 : decode cX9_count 20 = .ok (.iaload, 1) := by decide +kernel
theorem dX9_count_21 : decode cX9_count 21 = .ok (.ireturn, 1) := by decide +kernel
theorem dX9_count_22 : decode cX9_count 22 = .ok (.iconst 0, 1) := by decide +kernel
theorem dX9_count_23 : decode cX9_count 23 = .ok (.istore_n 2, 1) := by decide +kernel
theorem dX9_count_24 : decode cX9_count 24 = .ok (.iload_n 1, 1) := by decide +kernel
theorem dX9_count_25 : decode cX9_count 25 = .ok (.tableswitch 152 0 6 #[43, 48, 53, 53, 53, 94, 131], 43) := by decide +kernel
theorem dX9_count_3 : decode cX9_count 3 = .ok (.if_icmp .le 19, 3) := by decide +kernel
theorem dX9_count_6 : decode cX9_count 6 = .ok (.iload_n 1, 1) := by decide +kernel
theorem dX9_count_68 : decode cX9_count 68 = .ok (.aload_n 0, 1) := by decide +kernel
theorem dX9_count_69 : decode cX9_count 69 = .ok (.getfield 47, 3) := by decide +kernel
theorem dX9_count_7 : decode cX9_count 7 = .ok (.bipush 18, 2) := by decide +kernel
theorem dX9_count_72 : decode cX9_count 72 = .ok (.ireturn, 1) := by decide +kernel
theorem dX9_count_73 : decode cX9_count 73 = .ok (.aload_n 0, 1) := by decide +kernel
theorem dX9_count_74 : decode cX9_count 74 = .ok (.getfield 102, 3) := by decide +kernel
theorem dX9_count_77 : decode cX9_count 77 = .ok (.ireturn, 1) := by decide +kernel
theorem dX9_count_78 : decode cX9_count 78 = .ok (.aload_n 0, 1) := by decide +kernel
theorem dX9_count_79 : decode cX9_count 79 = .ok (.invokevirtual 180, 3) := by decide +kernel
theorem dX9_count_82 : decode cX9_count 82 = .ok (.iconst 0, 1) := by decide +kernel
theorem dX9_count_83 : decode cX9_count 83 = .ok (.istore_n 3, 1) := by decide +kernel
theorem dX9_count_84 : decode cX9_count 84 = .ok (.iload_n 3, 1) := by decide +kernel
theorem dX9_count_85 : decode cX9_count 85 = .ok (.aload_n 0, 1) := by decide +kernel
theorem dX9_count_86 : decode cX9_count 86 = .ok (.getfield 163, 3) := by decide +kernel
theorem dX9_count_89 : decode cX9_count 89 = .ok (.if_icmp .ge 28, 3) := by decide +kernel
theorem dX9_count_9 : decode cX9_count 9 = .ok (.if_icmp .ge 13, 3) := by decide +kernel
theorem dX9_count_92 : decode cX9_count 92 = .ok (.iload_n 2, 1) := by decide +kernel
theorem dX9_count_93 : decode cX9_count 93 = .ok (.aload_n 0, 1) := by decide +kernel
theorem dX9_count_94 : decode cX9_count 94 = .ok (.iload_n 3, 1) := by decide +kernel
theorem dX9_count_95 : decode cX9_count 95 = .ok (.invokevirtual 188, 3) := by decide +kernel
theorem dX9_count_98 : decode cX9_count 98 = .ok (.iload_n 1, 1) := by decide +kernel
theorem dX9_count_99 : decode cX9_count 99 = .ok (.iconst 1, 1) := by decide +kernel
theorem dX9_equation_0 : decode cX9_equation 0 = .ok (.aload_n 0, 1) := by decide +kernel
theorem dX9_equation_1 : decode cX9_equation 1 = .ok (.getfield 102, 3) := by decide +kernel
theorem dX9_equation_11 : decode cX9_equation 11 = .ok (.invokevirtual 112, 3) := by decide +kernel
theorem dX9_equation_14 : decode cX9_equation 14 = .ok (.ireturn, 1) := by decide +kernel
theorem dX9_equation_15 : decode cX9_equation 15 = .ok (.iconst 0, 1) := by decide +kernel
theorem dX9_equation_16 : decode cX9_equation 16 = .ok (.istore_n 1, 1) := by decide +kernel
theorem dX9_equation_17 : decode cX9_equation 17 = .ok (.iload_n 1, 1) := by decide +kernel
theorem dX9_equation_18 : decode cX9_equation 18 = .ok (.iconst 4, 1) := by decide +kernel
theorem dX9_equation_19 : decode cX9_equation 19 = .ok (.if_icmp .ge 23, 3) := by decide +kernel
theorem dX9_equation_22 : decode cX9_equation 22 = .ok (.aload_n 0, 1) := by decide +kernel
theorem dX9_equation_23 : decode cX9_equation 23 = .ok (.getfield 9, 3) := by decide +kernel
theorem dX9_equation_26 : decode cX9_equation 26 = .ok (.iconst 4, 1) := by decide +kernel
theorem dX9_equation_27 : decode cX9_equation 27 = .ok (.aload_n 0, 1) := by decide +kernel
theorem dX9_equation_28 : decode cX9_equation 28 = .ok (.getfield 102, 3) := by decide +kernel
theorem dX9_equation_31 : decode cX9_equation 31 = .ok (.imul, 1) := by decide +kernel
theorem dX9_equation_32 : decode cX9_equation 32 = .ok (.iload_n 1, 1) := by decide +kernel
theorem dX9_equation_33 : decode cX9_equation 33 = .ok (.iadd, 1) := by decide +kernel
theorem dX9_equation_34 : decode cX9_equation 34 = .ok (.iconst 0, 1) := by decide +kernel
theorem dX9_equation_35 : decode cX9_equation 35 = .ok (.iastore, 1) := by decide +kernel
theorem dX9_equation_36 : decode cX9_equation 36 = .ok (.iinc 1 1, 3) := by decide +kernel
theorem dX9_equation_39 : decode cX9_equation 39 = .ok (.goto (-22), 3) := by decide +kernel
theorem dX9_equation_4 : decode cX9_equation 4 = .ok (.iconst 3, 1) := by decide +kernel
theorem dX9_equation_42 : decode cX9_equation 42 = .ok (.aload_n 0, 1) := by decide +kernel
theorem dX9_equation_43 : decode cX9_equation 43 = .ok (.getfield 13, 3) := by decide +kernel
theorem dX9_equation_46 : decode cX9_equation 46 = .ok (.aload_n 0, 1) := by decide +kernel
theorem dX9_equation_47 : decode cX9_equation 47 = .ok (.getfield 102, 3) := by decide +kernel
theorem dX9_equation_5 : decode cX9_equation 5 = .ok (.if_icmp .ne 10, 3) := by decide +kernel
theorem dX9_equation_50 : decode cX9_equation 50 = .ok (.iconst 0, 1) := by decide +kernel
theorem dX9_equation_51 : decode cX9_equation 51 = .ok (.iastore, 1) := by decide +kernel
theorem dX9_equation_52 : decode cX9_equation 52 = .ok (.aload_n 0, 1) := by decide +kernel
theorem dX9_equation_53 : decode cX9_equation 53 = .ok (.dup, 1) := by decide +kernel
theorem dX9_equation_54 : decode cX9_equation 54 = .ok (.getfield 102, 3) := by decide +kernel
theorem dX9_equation_57 : decode cX9_equation 57 = .ok (.iconst 1, 1) := by decide +kernel
theorem dX9_equation_58 : decode cX9_equation 58 = .ok (.iadd, 1) := by decide +kernel
theorem dX9_equation_59 : decode cX9_equation 59 = .ok (.putfield 102, 3) := by decide +kernel
theorem dX9_equation_62 : decode cX9_equation 62 = .ok (.aload_n 0, 1) := by decide +kernel
theorem dX9_equation_63 : decode cX9_equation 63 = .ok (.iconst 0, 1) := by decide +kernel
theorem dX9_equation_64 : decode cX9_equation 64 = .ok (.putfield 109, 3) := by decide +kernel
theorem dX9_equation_67 : decode cX9_equation 67 = .ok (.aload_n 0, 1) := by decide +kernel
theorem dX9_equation_68 : decode cX9_equation 68 = .ok (.getfield 102, 3) := by decide +kernel
theorem dX9_equation_71 : decode cX9_equation 71 = .ok (.iconst 1, 1) := by decide +kernel
theorem dX9_equation_72 : decode cX9_equation 72 = .ok (.isub, 1) := by decide +kernel
theorem dX9_equation_73 : decode cX9_equation 73 = .ok (.ireturn, 1) := by decide +kernel
theorem dX9_equation_8 : decode cX9_equation 8 = .ok (.aload_n 0, 1) := by decide +kernel
theorem dX9_equation_9 : decode cX9_equation 9 = .ok (.bipush (-6), 2) := by decide +kernel
theorem dX9_extreme_0 : decode cX9_extreme 0 = .ok (.aload_n 0, 1) := by decide +kernel
theorem dX9_extreme_1 : decode cX9_extreme 1 = .ok (.invokevirtual 238, 3) := by decide +kernel
theorem dX9_extreme_11 : decode cX9_extreme 11 = .ok (.iconst (-1), 1) := by decide +kernel
theorem dX9_extreme_12 : decode cX9_extreme 12 = .ok (.ireturn, 1) := by decide +kernel
theorem dX9_extreme_13 : decode cX9_extreme 13 = .ok (.iload_n 1, 1) := by decide +kernel
theorem dX9_extreme_14 : decode cX9_extreme 14 = .ok (.iconst 2, 1) := by decide +kernel
theorem dX9_extreme_15 : decode cX9_extreme 15 = .ok (.invokestatic 116, 3) := by decide +kernel
theorem dX9_extreme_18 : decode cX9_extreme 18 = .ok (.ifCond .ne 6, 3) := by decide +kernel
theorem dX9_extreme_21 : decode cX9_extreme 21 = .ok (.bipush (-2), 2) := by decide +kernel
theorem dX9_extreme_23 : decode cX9_extreme 23 = .ok (.ireturn, 1) := by decide +kernel
theorem dX9_extreme_24 : decode cX9_extreme 24 = .ok (.iconst 0, 1) := by decide +kernel
theorem dX9_extreme_25 : decode cX9_extreme 25 = .ok (.istore_n 2, 1) := by decide +kernel
theorem dX9_extreme_26 : decode cX9_extreme 26 = .ok (.aload_n 0, 1) := by decide +kernel
theorem dX9_extreme_27 : decode cX9_extreme 27 = .ok (.aload_n 0, 1) := by decide +kernel
theorem dX9_extreme_28 : decode cX9_extreme 28 = .ok (.getfield 96, 3) := by decide +kernel
theorem dX9_extreme_31 : decode cX9_extreme 31 = .ok (.iconst 0, 1) := by decide +kernel
theorem dX9_extreme_32 : decode cX9_extreme 32 = .ok (.invokevirtual 220, 3) := by decide +kernel
theorem dX9_extreme_35 : decode cX9_extreme 35 = .ok (.lstore_n 3, 1) := by decide +kernel
theorem dX9_extreme_36 : decode cX9_extreme 36 = .ok (.iconst 1, 1) := by decide +kernel
theorem dX9_extreme_37 : decode cX9_extreme 37 = .ok (.istore 5, 2) := by decide +kernel
theorem dX9_extreme_39 : decode cX9_extreme 39 = .ok (.iload 5, 2) := by decide +kernel
theorem dX9_extreme_4 : decode cX9_extreme 4 = .ok (.aload_n 0, 1) := by decide +kernel
theorem dX9_extreme_41 : decode cX9_extreme 41 = .ok (.aload_n 0, 1) := by decide +kernel
theorem dX9_extreme_42 : decode cX9_extreme 42 = .ok (.getfield 232, 3) := by decide +kernel
theorem dX9_extreme_45 : decode cX9_extreme 45 = .ok (.if_icmp .ge 53, 3) := by decide +kernel
theorem dX9_extreme_48 : decode cX9_extreme 48 = .ok (.aload_n 0, 1) := by decide +kernel
theorem dX9_extreme_49 : decode cX9_extreme 49 = .ok (.aload_n 0, 1) := by decide +kernel
theorem dX9_extreme_5 : decode cX9_extreme 5 = .ok (.getfield 232, 3) := by decide +kernel
theorem dX9_extreme_50 : decode cX9_extreme 50 = .ok (.getfield 96, 3) := by decide +kernel
theorem dX9_extreme_53 : decode cX9_extreme 53 = .ok (.iconst 4, 1) := by decide +kernel
theorem dX9_extreme_54 : decode cX9_extreme 54 = .ok (.iload 5, 2) := by decide +kernel
theorem dX9_extreme_56 : decode cX9_extreme 56 = .ok (.imul, 1) := by decide +kernel
theorem dX9_extreme_57 : decode cX9_extreme 57 = .ok (.invokevirtual 220, 3) := by decide +kernel
theorem dX9_extreme_60 : decode cX9_extreme 60 = .ok (.lstore 6, 2) := by decide +kernel
theorem dX9_extreme_62 : decode cX9_extreme 62 = .ok (.iload_n 1, 1) := by decide +kernel
theorem dX9_extreme_63 : decode cX9_extreme 63 = .ok (.ifCond .ne 13, 3) := by decide +kernel
theorem dX9_extreme_66 : decode cX9_extreme 66 = .ok (.lload 6, 2) := by decide +kernel
theorem dX9_extreme_68 : decode cX9_extreme 68 = .ok (.lload_n 3, 1) := by decide +kernel
theorem dX9_extreme_69 : decode cX9_extreme 69 = .ok (.lcmp, 1) := by decide +kernel
theorem dX9_extreme_70 : decode cX9_extreme 70 = .ok (.ifCond .lt 16, 3) := by decide +kernel
theorem dX9_extreme_73 : decode cX9_extreme 73 = .ok (.goto 19, 3) := by decide +kernel
theorem dX9_extreme_76 : decode cX9_extreme 76 = .ok (.lload 6, 2) := by decide +kernel
theorem dX9_extreme_78 : decode cX9_extreme 78 = .ok (.lload_n 3, 1) := by decide +kernel
theorem dX9_extreme_79 : decode cX9_extreme 79 = .ok (.lcmp, 1) := by decide +kernel
theorem dX9_extreme_8 : decode cX9_extreme 8 = .ok (.ifCond .ne 5, 3) := by decide +kernel
theorem dX9_extreme_80 : decode cX9_extreme 80 = .ok (.ifCond .gt 6, 3) := by decide +kernel
theorem dX9_extreme_83 : decode cX9_extreme 83 = .ok (.goto 9, 3) := by decide +kernel
theorem dX9_extreme_86 : decode cX9_extreme 86 = .ok (.iload 5, 2) := by decide +kernel
theorem dX9_extreme_88 : decode cX9_extreme 88 = .ok (.istore_n 2, 1) := by decide +kernel
theorem dX9_extreme_89 : decode cX9_extreme 89 = .ok (.lload 6, 2) := by decide +kernel
theorem dX9_extreme_91 : decode cX9_extreme 91 = .ok (.lstore_n 3, 1) := by decide +kernel
theorem dX9_extreme_92 : decode cX9_extreme 92 = .ok (.iinc 5 1, 3) := by decide +kernel
theorem dX9_extreme_95 : decode cX9_extreme 95 = .ok (.goto (-56), 3) := by decide +kernel
theorem dX9_extreme_98 : decode cX9_extreme 98 = .ok (.iload_n 2, 1) := by decide +kernel
theorem dX9_extreme_99 : decode cX9_extreme 99 = .ok (.ireturn, 1) := by decide +kernel
theorem dX9_findSteps_0 : decode cX9_findSteps 0 = .ok (.aload_n 0, 1) := by decide +kernel
theorem dX9_findSteps_1 : decode cX9_findSteps 1 = .ok (.getfield 105, 3) := by decide +kernel
theorem dX9_findSteps_10 : decode cX9_findSteps 10 = .ok (.putfield 105, 3) := by decide +kernel
theorem dX9_findSteps_100 : decode cX9_findSteps 100 = .ok (.sipush 1296, 3) := by decide +kernel
theorem dX9_findSteps_103 : decode cX9_findSteps 103 = .ok (.istore_n 1, 1) := by decide +kernel
theorem dX9_findSteps_104 : decode cX9_findSteps 104 = .ok (.aload_n 0, 1) := by decide +kernel
theorem dX9_findSteps_105 : decode cX9_findSteps 105 = .ok (.iconst 0, 1) := by decide +kernel
theorem dX9_findSteps_106 : decode cX9_findSteps 106 = .ok (.putfield 153, 3) := by decide +kernel
theorem dX9_findSteps_109 : decode cX9_findSteps 109 = .ok (.aload_n 0, 1) := by decide +kernel
theorem dX9_findSteps_110 : decode cX9_findSteps 110 = .ok (.iconst 0, 1) := by decide +kernel
theorem dX9_findSteps_111 : decode cX9_findSteps 111 = .ok (.putfield 163, 3) := by decide +kernel
theorem dX9_findSteps_114 : decode cX9_findSteps 114 = .ok (.aload_n 0, 1) := by decide +kernel
theorem dX9_findSteps_115 : decode cX9_findSteps 115 = .ok (.getfield 139, 3) := by decide +kernel
theorem dX9_findSteps_118 : decode cX9_findSteps 118 = .ok (.ifCond .ne 4, 3) := by decide +kernel
theorem dX9_findSteps_121 : decode cX9_findSteps 121 = .ok (.return_, 1) := by decide +kernel
theorem dX9_findSteps_122 : decode cX9_findSteps 122 = .ok (.aload_n 0, 1) := by decide +kernel
theorem dX9_findSteps_123 : decode cX9_findSteps 123 = .ok (.iconst 0, 1) := by decide +kernel
theorem dX9_findSteps_124 : decode cX9_findSteps 124 = .ok (.aload_n 0, 1) := by decide +kernel
theorem dX9_findSteps_125 : decode cX9_findSteps 125 = .ok (.getfield 139, 3) := by decide +kernel
theorem dX9_findSteps_128 : decode cX9_findSteps 128 = .ok (.iload_n 1, 1) := by decide +kernel
theorem dX9_findSteps_129 : decode cX9_findSteps 129 = .ok (.imul, 1) := by decide +kernel
theorem dX9_findSteps_13 : decode cX9_findSteps 13 = .ok (.aload_n 0, 1) := by decide +kernel
theorem dX9_findSteps_130 : decode cX9_findSteps 130 = .ok (.invokevirtual 156, 3) := by decide +kernel
theorem dX9_findSteps_133 : decode cX9_findSteps 133 = .ok (.iconst 0, 1) := by decide +kernel
theorem dX9_findSteps_134 : decode cX9_findSteps 134 = .ok (.istore_n 2, 1) := by decide +kernel
theorem dX9_findSteps_135 : decode cX9_findSteps 135 = .ok (.iload_n 2, 1) := by decide +kernel
theorem dX9_findSteps_136 : decode cX9_findSteps 136 = .ok (.sipush 6000, 3) := by decide +kernel
theorem dX9_findSteps_139 : decode cX9_findSteps 139 = .ok (.if_icmp .gt 16, 3) := by decide +kernel
theorem dX9_findSteps_14 : decode cX9_findSteps 14 = .ok (.aload_n 0, 1) := by decide +kernel
theorem dX9_findSteps_142 : decode cX9_findSteps 142 = .ok (.aload_n 0, 1) := by decide +kernel
theorem dX9_findSteps_143 : decode cX9_findSteps 143 = .ok (.getfield 59, 3) := by decide +kernel
theorem dX9_findSteps_146 : decode cX9_findSteps 146 = .ok (.iload_n 2, 1) := by decide +kernel
theorem dX9_findSteps_147 : decode cX9_findSteps 147 = .ok (.iconst 0, 1) := by decide +kernel
theorem dX9_findSteps_148 : decode cX9_findSteps 148 = .ok (.iastore, 1) := by decide +kernel
theorem dX9_findSteps_149 : decode cX9_findSteps 149 = .ok (.iinc 2 1, 3) := by decide +kernel
theorem dX9_findSteps_15 : decode cX9_findSteps 15 = .ok (.getfield 102, 3) := by decide +kernel
theorem dX9_findSteps_152 : decode cX9_findSteps 152 = .ok (.goto (-17), 3) := by decide +kernel
theorem dX9_findSteps_155 : decode cX9_findSteps 155 = .ok (.iconst 0, 1) := by decide +kernel
theorem dX9_findSteps_156 : decode cX9_findSteps 156 = .ok (.istore_n 2, 1) := by decide +kernel
theorem dX9_findSteps_157 : decode cX9_findSteps 157 = .ok (.iload_n 2, 1) := by decide +kernel
theorem dX9_findSteps_158 : decode cX9_findSteps 158 = .ok (.aload_n 0, 1) := by decide +kernel
theorem dX9_findSteps_159 : decode cX9_findSteps 159 = .ok (.getfield 153, 3) := by decide +kernel
theorem dX9_findSteps_162 : decode cX9_findSteps 162 = .ok (.if_icmp .ge 24, 3) := by decide +kernel
theorem dX9_findSteps_165 : decode cX9_findSteps 165 = .ok (.aload_n 0, 1) := by decide +kernel
theorem dX9_findSteps_166 : decode cX9_findSteps 166 = .ok (.getfield 59, 3) := by decide +kernel
theorem dX9_findSteps_169 : decode cX9_findSteps 169 = .ok (.aload_n 0, 1) := by decide +kernel
theorem dX9_findSteps_170 : decode cX9_findSteps 170 = .ok (.getfield 56, 3) := by decide +kernel
theorem dX9_findSteps_173 : decode cX9_findSteps 173 = .ok (.iload_n 2, 1) := by decide +kernel
theorem dX9_findSteps_174 : decode cX9_findSteps 174 = .ok (.iaload, 1) := by decide +kernel
theorem dX9_findSteps_175 : decode cX9_findSteps 175 = .ok (.dup2, 1) := by decide +kernel
theorem dX9_findSteps_176 : decode cX9_findSteps 176 = .ok (.iaload, 1) := by decide +kernel
theorem dX9_findSteps_177 : decode cX9_findSteps 177 = .ok (.iconst 1, 1) := by decide +kernel
theorem dX9_findSteps_178 : decode cX9_findSteps 178 = .ok (.iadd, 1) := by decide +kernel
theorem dX9_findSteps_179 : decode cX9_findSteps 179 = .ok (.iastore, 1) := by decide +kernel
theorem dX9_findSteps_18 : decode cX9_findSteps 18 = .ok (.aload_n 0, 1) := by decide +kernel
theorem dX9_findSteps_180 : decode cX9_findSteps 180 = .ok (.iinc 2 1, 3) := by decide +kernel
theorem dX9_findSteps_183 : decode cX9_findSteps 183 = .ok (.goto (-26), 3) := by decide +kernel
theorem dX9_findSteps_186 : decode cX9_findSteps 186 = .ok (.iconst 1, 1) := by decide +kernel
theorem dX9_findSteps_187 : decode cX9_findSteps 187 = .ok (.istore_n 2, 1) := by decide +kernel
theorem dX9_findSteps_188 : decode cX9_findSteps 188 = .ok (.iload_n 2, 1) := by decide +kernel
theorem dX9_findSteps_189 : decode cX9_findSteps 189 = .ok (.sipush 6000, 3) := by decide +kernel
theorem dX9_findSteps_19 : decode cX9_findSteps 19 = .ok (.getfield 47, 3) := by decide +kernel
theorem dX9_findSteps_192 : decode cX9_findSteps 192 = .ok (.if_icmp .gt 26, 3) := by decide +kernel
theorem dX9_findSteps_195 : decode cX9_findSteps 195 = .ok (.aload_n 0, 1) := by decide +kernel
theorem dX9_findSteps_196 : decode cX9_findSteps 196 = .ok (.getfield 59, 3) := by decide +kernel
theorem dX9_findSteps_199 : decode cX9_findSteps 199 = .ok (.iload_n 2, 1) := by decide +kernel
theorem dX9_findSteps_200 : decode cX9_findSteps 200 = .ok (.dup2, 1) := by decide +kernel
theorem dX9_findSteps_201 : decode cX9_findSteps 201 = .ok (.iaload, 1) := by decide +kernel
theorem dX9_findSteps_202 : decode cX9_findSteps 202 = .ok (.aload_n 0, 1) := by decide +kernel
theorem dX9_findSteps_203 : decode cX9_findSteps 203 = .ok (.getfield 59, 3) := by decide +kernel
theorem dX9_findSteps_206 : decode cX9_findSteps 206 = .ok (.iload_n 2, 1) := by decide +kernel
theorem dX9_findSteps_207 : decode cX9_findSteps 207 = .ok (.iconst 1, 1) := by decide +kernel
theorem dX9_findSteps_208 : decode cX9_findSteps 208 = .ok (.isub, 1) := by decide +kernel
theorem dX9_findSteps_209 : decode cX9_findSteps 209 = .ok (.iaload, 1) := by decide +kernel
theorem dX9_findSteps_210 : decode cX9_findSteps 210 = .ok (.iadd, 1) := by decide +kernel
theorem dX9_findSteps_211 : decode cX9_findSteps 211 = .ok (.iastore, 1) := by decide +kernel
theorem dX9_findSteps_212 : decode cX9_findSteps 212 = .ok (.iinc 2 1, 3) := by decide +kernel
theorem dX9_findSteps_215 : decode cX9_findSteps 215 = .ok (.goto (-27), 3) := by decide +kernel
theorem dX9_findSteps_218 : decode cX9_findSteps 218 = .ok (.aload_n 0, 1) := by decide +kernel
theorem dX9_findSteps_219 : decode cX9_findSteps 219 = .ok (.getfield 153, 3) := by decide +kernel
theorem dX9_findSteps_22 : decode cX9_findSteps 22 = .ok (.if_icmp .ge 10, 3) := by decide +kernel
theorem dX9_findSteps_222 : decode cX9_findSteps 222 = .ok (.iconst 1, 1) := by decide +kernel
theorem dX9_findSteps_223 : decode cX9_findSteps 223 = .ok (.isub, 1) := by decide +kernel
theorem dX9_findSteps_224 : decode cX9_findSteps 224 = .ok (.istore_n 2, 1) := by decide +kernel
theorem dX9_findSteps_225 : decode cX9_findSteps 225 = .ok (.iload_n 2, 1) := by decide +kernel
theorem dX9_findSteps_226 : decode cX9_findSteps 226 = .ok (.ifCond .lt 41, 3) := by decide +kernel
theorem dX9_findSteps_229 : decode cX9_findSteps 229 = .ok (.aload_n 0, 1) := by decide +kernel
theorem dX9_findSteps_230 : decode cX9_findSteps 230 = .ok (.getfield 59, 3) := by decide +kernel
theorem dX9_findSteps_233 : decode cX9_findSteps 233 = .ok (.aload_n 0, 1) := by decide +kernel
theorem dX9_findSteps_234 : decode cX9_findSteps 234 = .ok (.getfield 56, 3) := by decide +kernel
theorem dX9_findSteps_237 : decode cX9_findSteps 237 = .ok (.iload_n 2, 1) := by decide +kernel
theorem dX9_findSteps_238 : decode cX9_findSteps 238 = .ok (.iaload, 1) := by decide +kernel
theorem dX9_findSteps_239 : decode cX9_findSteps 239 = .ok (.dup2, 1) := by decide +kernel
theorem dX9_findSteps_240 : decode cX9_findSteps 240 = .ok (.iaload, 1) := by decide +kernel
theorem dX9_findSteps_241 : decode cX9_findSteps 241 = .ok (.iconst 1, 1) := by decide +kernel
theorem dX9_findSteps_242 : decode cX9_findSteps 242 = .ok (.isub, 1) := by decide +kernel
theorem dX9_findSteps_243 : decode cX9_findSteps 243 = .ok (.iastore, 1) := by decide +kernel
theorem dX9_findSteps_244 : decode cX9_findSteps 244 = .ok (.aload_n 0, 1) := by decide +kernel
theorem dX9_findSteps_245 : decode cX9_findSteps 245 = .ok (.getfield 62, 3) := by decide +kernel
theorem dX9_findSteps_248 : decode cX9_findSteps 248 = .ok (.aload_n 0, 1) := by decide +kernel
theorem dX9_findSteps_249 : decode cX9_findSteps 249 = .ok (.getfield 59, 3) := by decide +kernel
theorem dX9_findSteps_25 : decode cX9_findSteps 25 = .ok (.aload_n 0, 1) := by decide +kernel
theorem dX9_findSteps_252 : decode cX9_findSteps 252 = .ok (.aload_n 0, 1) := by decide +kernel
theorem dX9_findSteps_253 : decode cX9_findSteps 253 = .ok (.getfield 56, 3) := by decide +kernel
theorem dX9_findSteps_256 : decode cX9_findSteps 256 = .ok (.iload_n 2, 1) := by decide +kernel
theorem dX9_findSteps_257 : decode cX9_findSteps 257 = .ok (.iaload, 1) := by decide +kernel
theorem dX9_findSteps_258 : decode cX9_findSteps 258 = .ok (.iaload, 1) := by decide +kernel
theorem dX9_findSteps_259 : decode cX9_findSteps 259 = .ok (.iload_n 2, 1) := by decide +kernel
theorem dX9_findSteps_26 : decode cX9_findSteps 26 = .ok (.getfield 102, 3) := by decide +kernel
theorem dX9_findSteps_260 : decode cX9_findSteps 260 = .ok (.iastore, 1) := by decide +kernel
theorem dX9_findSteps_261 : decode cX9_findSteps 261 = .ok (.iinc 2 (-1), 3) := by decide +kernel
theorem dX9_findSteps_264 : decode cX9_findSteps 264 = .ok (.goto (-39), 3) := by decide +kernel
theorem dX9_findSteps_267 : decode cX9_findSteps 267 = .ok (.iconst 0, 1) := by decide +kernel
theorem dX9_findSteps_268 : decode cX9_findSteps 268 = .ok (.istore_n 2, 1) := by decide +kernel
theorem dX9_findSteps_269 : decode cX9_findSteps 269 = .ok (.iload_n 2, 1) := by decide +kernel
theorem dX9_findSteps_270 : decode cX9_findSteps 270 = .ok (.aload_n 0, 1) := by decide +kernel
theorem dX9_findSteps_271 : decode cX9_findSteps 271 = .ok (.getfield 153, 3) := by decide +kernel
theorem dX9_findSteps_274 : decode cX9_findSteps 274 = .ok (.if_icmp .ge 19, 3) := by decide +kernel
theorem dX9_findSteps_277 : decode cX9_findSteps 277 = .ok (.aload_n 0, 1) := by decide +kernel
theorem dX9_findSteps_278 : decode cX9_findSteps 278 = .ok (.aload_n 0, 1) := by decide +kernel
theorem dX9_findSteps_279 : decode cX9_findSteps 279 = .ok (.getfield 62, 3) := by decide +kernel
theorem dX9_findSteps_282 : decode cX9_findSteps 282 = .ok (.iload_n 2, 1) := by decide +kernel
theorem dX9_findSteps_283 : decode cX9_findSteps 283 = .ok (.iaload, 1) := by decide +kernel
theorem dX9_findSteps_284 : decode cX9_findSteps 284 = .ok (.invokevirtual 166, 3) := by decide +kernel
theorem dX9_findSteps_287 : decode cX9_findSteps 287 = .ok (.iinc 2 1, 3) := by decide +kernel
theorem dX9_findSteps_29 : decode cX9_findSteps 29 = .ok (.goto 7, 3) := by decide +kernel
theorem dX9_findSteps_290 : decode cX9_findSteps 290 = .ok (.goto (-21), 3) := by decide +kernel
theorem dX9_findSteps_293 : decode cX9_findSteps 293 = .ok (.aload_n 0, 1) := by decide +kernel
theorem dX9_findSteps_294 : decode cX9_findSteps 294 = .ok (.invokevirtual 170, 3) := by decide +kernel
theorem dX9_findSteps_297 : decode cX9_findSteps 297 = .ok (.return_, 1) := by decide +kernel
theorem dX9_findSteps_32 : decode cX9_findSteps 32 = .ok (.aload_n 0, 1) := by decide +kernel
theorem dX9_findSteps_33 : decode cX9_findSteps 33 = .ok (.getfield 47, 3) := by decide +kernel
theorem dX9_findSteps_36 : decode cX9_findSteps 36 = .ok (.putfield 142, 3) := by decide +kernel
theorem dX9_findSteps_39 : decode cX9_findSteps 39 = .ok (.aload_n 0, 1) := by decide +kernel
theorem dX9_findSteps_4 : decode cX9_findSteps 4 = .ok (.ifCond .eq 4, 3) := by decide +kernel
theorem dX9_findSteps_40 : decode cX9_findSteps 40 = .ok (.aload_n 0, 1) := by decide +kernel
theorem dX9_findSteps_41 : decode cX9_findSteps 41 = .ok (.getfield 142, 3) := by decide +kernel
theorem dX9_findSteps_44 : decode cX9_findSteps 44 = .ok (.invokevirtual 160, 3) := by decide +kernel
theorem dX9_findSteps_47 : decode cX9_findSteps 47 = .ok (.ifCond .ne 16, 3) := by decide +kernel
theorem dX9_findSteps_50 : decode cX9_findSteps 50 = .ok (.aload_n 0, 1) := by decide +kernel
theorem dX9_findSteps_51 : decode cX9_findSteps 51 = .ok (.dup, 1) := by decide +kernel
theorem dX9_findSteps_52 : decode cX9_findSteps 52 = .ok (.getfield 142, 3) := by decide +kernel
theorem dX9_findSteps_55 : decode cX9_findSteps 55 = .ok (.iconst 1, 1) := by decide +kernel
theorem dX9_findSteps_56 : decode cX9_findSteps 56 = .ok (.isub, 1) := by decide +kernel
theorem dX9_findSteps_57 : decode cX9_findSteps 57 = .ok (.putfield 142, 3) := by decide +kernel
theorem dX9_findSteps_60 : decode cX9_findSteps 60 = .ok (.goto (-21), 3) := by decide +kernel
theorem dX9_findSteps_63 : decode cX9_findSteps 63 = .ok (.aload_n 0, 1) := by decide +kernel
theorem dX9_findSteps_64 : decode cX9_findSteps 64 = .ok (.getfield 142, 3) := by decide +kernel
theorem dX9_findSteps_67 : decode cX9_findSteps 67 = .ok (.ifCond .ne 7, 3) := by decide +kernel
theorem dX9_findSteps_7 : decode cX9_findSteps 7 = .ok (.return_, 1) := by decide +kernel
theorem dX9_findSteps_70 : decode cX9_findSteps 70 = .ok (.iconst 1, 1) := by decide +kernel
theorem dX9_findSteps_71 : decode cX9_findSteps 71 = .ok (.goto 32, 3) := by decide +kernel
theorem dX9_findSteps_74 : decode cX9_findSteps 74 = .ok (.aload_n 0, 1) := by decide +kernel
theorem dX9_findSteps_75 : decode cX9_findSteps 75 = .ok (.getfield 142, 3) := by decide +kernel
theorem dX9_findSteps_78 : decode cX9_findSteps 78 = .ok (.iconst 1, 1) := by decide +kernel
theorem dX9_findSteps_79 : decode cX9_findSteps 79 = .ok (.if_icmp .ne 8, 3) := by decide +kernel
theorem dX9_findSteps_8 : decode cX9_findSteps 8 = .ok (.aload_n 0, 1) := by decide +kernel
theorem dX9_findSteps_82 : decode cX9_findSteps 82 = .ok (.bipush 6, 2) := by decide +kernel
theorem dX9_findSteps_84 : decode cX9_findSteps 84 = .ok (.goto 19, 3) := by decide +kernel
theorem dX9_findSteps_87 : decode cX9_findSteps 87 = .ok (.aload_n 0, 1) := by decide +kernel
theorem dX9_findSteps_88 : decode cX9_findSteps 88 = .ok (.getfield 142, 3) := by decide +kernel
theorem dX9_findSteps_9 : decode cX9_findSteps 9 = .ok (.iconst 1, 1) := by decide +kernel
theorem dX9_findSteps_91 : decode cX9_findSteps 91 = .ok (.iconst 2, 1) := by decide +kernel
theorem dX9_findSteps_92 : decode cX9_findSteps 92 = .ok (.if_icmp .ne 8, 3) := by decide +kernel
theorem dX9_findSteps_95 : decode cX9_findSteps 95 = .ok (.bipush 72, 2) := by decide +kernel
theorem dX9_findSteps_97 : decode cX9_findSteps 97 = .ok (.goto 6, 3) := by decide +kernel
theorem dX9_find_0 : decode cX9_find 0 = .ok (.aload_n 0, 1) := by decide +kernel
theorem dX9_find_1 : decode cX9_find 1 = .ok (.aload_n 0, 1) := by decide +kernel
theorem dX9_find_12 : decode cX9_find 12 = .ok (.aload_n 0, 1) := by decide +kernel
theorem dX9_find_13 : decode cX9_find 13 = .ok (.bipush (-5), 2) := by decide +kernel
theorem dX9_find_15 : decode cX9_find 15 = .ok (.invokevirtual 112, 3) := by decide +kernel
theorem dX9_find_18 : decode cX9_find 18 = .ok (.ireturn, 1) := by decide +kernel
theorem dX9_find_19 : decode cX9_find 19 = .ok (.aload_n 0, 1) := by decide +kernel
theorem dX9_find_2 : decode cX9_find 2 = .ok (.getfield 28, 3) := by decide +kernel
theorem dX9_find_20 : decode cX9_find 20 = .ok (.invokevirtual 238, 3) := by decide +kernel
theorem dX9_find_23 : decode cX9_find 23 = .ok (.iconst 0, 1) := by decide +kernel
theorem dX9_find_24 : decode cX9_find 24 = .ok (.istore_n 1, 1) := by decide +kernel
theorem dX9_find_25 : decode cX9_find 25 = .ok (.iload_n 1, 1) := by decide +kernel
theorem dX9_find_26 : decode cX9_find 26 = .ok (.aload_n 0, 1) := by decide +kernel
theorem dX9_find_27 : decode cX9_find 27 = .ok (.getfield 232, 3) := by decide +kernel
theorem dX9_find_30 : decode cX9_find 30 = .ok (.if_icmp .ge 62, 3) := by decide +kernel
theorem dX9_find_33 : decode cX9_find 33 = .ok (.iconst 1, 1) := by decide +kernel
theorem dX9_find_34 : decode cX9_find 34 = .ok (.istore_n 2, 1) := by decide +kernel
theorem dX9_find_35 : decode cX9_find 35 = .ok (.iconst 0, 1) := by decide +kernel
theorem dX9_find_36 : decode cX9_find 36 = .ok (.istore_n 3, 1) := by decide +kernel
theorem dX9_find_37 : decode cX9_find 37 = .ok (.iload_n 3, 1) := by decide +kernel
theorem dX9_find_38 : decode cX9_find 38 = .ok (.aload_n 0, 1) := by decide +kernel
theorem dX9_find_39 : decode cX9_find 39 = .ok (.getfield 47, 3) := by decide +kernel
theorem dX9_find_42 : decode cX9_find 42 = .ok (.if_icmp .ge 38, 3) := by decide +kernel
theorem dX9_find_45 : decode cX9_find 45 = .ok (.iload_n 2, 1) := by decide +kernel
theorem dX9_find_46 : decode cX9_find 46 = .ok (.ifCond .eq 34, 3) := by decide +kernel
theorem dX9_find_49 : decode cX9_find 49 = .ok (.aload_n 0, 1) := by decide +kernel
theorem dX9_find_5 : decode cX9_find 5 = .ok (.iconst 0, 1) := by decide +kernel
theorem dX9_find_50 : decode cX9_find 50 = .ok (.getfield 96, 3) := by decide +kernel
theorem dX9_find_53 : decode cX9_find 53 = .ok (.iconst 4, 1) := by decide +kernel
theorem dX9_find_54 : decode cX9_find 54 = .ok (.iload_n 1, 1) := by decide +kernel
theorem dX9_find_55 : decode cX9_find 55 = .ok (.imul, 1) := by decide +kernel
theorem dX9_find_56 : decode cX9_find 56 = .ok (.iload_n 3, 1) := by decide +kernel
theorem dX9_find_57 : decode cX9_find 57 = .ok (.iadd, 1) := by decide +kernel
theorem dX9_find_58 : decode cX9_find 58 = .ok (.iaload, 1) := by decide +kernel
theorem dX9_find_59 : decode cX9_find 59 = .ok (.aload_n 0, 1) := by decide +kernel
theorem dX9_find_6 : decode cX9_find 6 = .ok (.invokevirtual 199, 3) := by decide +kernel
theorem dX9_find_60 : decode cX9_find 60 = .ok (.getfield 28, 3) := by decide +kernel
theorem dX9_find_63 : decode cX9_find 63 = .ok (.iload_n 3, 1) := by decide +kernel
theorem dX9_find_64 : decode cX9_find 64 = .ok (.iaload, 1) := by decide +kernel
theorem dX9_find_65 : decode cX9_find 65 = .ok (.if_icmp .ne 7, 3) := by decide +kernel
theorem dX9_find_68 : decode cX9_find 68 = .ok (.iconst 1, 1) := by decide +kernel
theorem dX9_find_69 : decode cX9_find 69 = .ok (.goto 4, 3) := by decide +kernel
theorem dX9_find_72 : decode cX9_find 72 = .ok (.iconst 0, 1) := by decide +kernel
theorem dX9_find_73 : decode cX9_find 73 = .ok (.istore_n 2, 1) := by decide +kernel
theorem dX9_find_74 : decode cX9_find 74 = .ok (.iinc 3 1, 3) := by decide +kernel
theorem dX9_find_77 : decode cX9_find 77 = .ok (.goto (-40), 3) := by decide +kernel
theorem dX9_find_80 : decode cX9_find 80 = .ok (.iload_n 2, 1) := by decide +kernel
theorem dX9_find_81 : decode cX9_find 81 = .ok (.ifCond .eq 5, 3) := by decide +kernel
theorem dX9_find_84 : decode cX9_find 84 = .ok (.iload_n 1, 1) := by decide +kernel
theorem dX9_find_85 : decode cX9_find 85 = .ok (.ireturn, 1) := by decide +kernel
theorem dX9_find_86 : decode cX9_find 86 = .ok (.iinc 1 1, 3) := by decide +kernel
theorem dX9_find_89 : decode cX9_find 89 = .ok (.goto (-64), 3) := by decide +kernel
theorem dX9_find_9 : decode cX9_find 9 = .ok (.ifCond .ne 10, 3) := by decide +kernel
theorem dX9_find_92 : decode cX9_find 92 = .ok (.ldc 187, 2) := by decide +kernel
theorem dX9_find_94 : decode cX9_find 94 = .ok (.ireturn, 1) := by decide +kernel
theorem dX9_fitsIn_0 : decode cX9_fitsIn 0 = .ok (.iconst 0, 1) := by decide +kernel
theorem dX9_fitsIn_1 : decode cX9_fitsIn 1 = .ok (.istore 4, 2) := by decide +kernel
theorem dX9_fitsIn_10 : decode cX9_fitsIn 10 = .ok (.iconst 4, 1) := by decide +kernel
theorem dX9_fitsIn_11 : decode cX9_fitsIn 11 = .ok (.iload_n 1, 1) := by decide +kernel
theorem dX9_fitsIn_12 : decode cX9_fitsIn 12 = .ok (.imul, 1) := by decide +kernel
theorem dX9_fitsIn_13 : decode cX9_fitsIn 13 = .ok (.iload 4, 2) := by decide +kernel
theorem dX9_fitsIn_15 : decode cX9_fitsIn 15 = .ok (.iadd, 1) := by decide +kernel
theorem dX9_fitsIn_16 : decode cX9_fitsIn 16 = .ok (.iaload, 1) := by decide +kernel
theorem dX9_fitsIn_17 : decode cX9_fitsIn 17 = .ok (.istore 5, 2) := by decide +kernel
theorem dX9_fitsIn_19 : decode cX9_fitsIn 19 = .ok (.aload_n 2, 1) := by decide +kernel
theorem dX9_fitsIn_20 : decode cX9_fitsIn 20 = .ok (.iconst 4, 1) := by decide +kernel
theorem dX9_fitsIn_21 : decode cX9_fitsIn 21 = .ok (.iload_n 3, 1) := by decide +kernel
theorem dX9_fitsIn_22 : decode cX9_fitsIn 22 = .ok (.imul, 1) := by decide +kernel
theorem dX9_fitsIn_23 : decode cX9_fitsIn 23 = .ok (.iload 4, 2) := by decide +kernel
theorem dX9_fitsIn_25 : decode cX9_fitsIn 25 = .ok (.iadd, 1) := by decide +kernel
theorem dX9_fitsIn_26 : decode cX9_fitsIn 26 = .ok (.iaload, 1) := by decide +kernel
theorem dX9_fitsIn_27 : decode cX9_fitsIn 27 = .ok (.istore 6, 2) := by decide +kernel
theorem dX9_fitsIn_29 : decode cX9_fitsIn 29 = .ok (.iload 5, 2) := by decide +kernel
theorem dX9_fitsIn_3 : decode cX9_fitsIn 3 = .ok (.iload 4, 2) := by decide +kernel
theorem dX9_fitsIn_31 : decode cX9_fitsIn 31 = .ok (.ifCond .le 10, 3) := by decide +kernel
theorem dX9_fitsIn_34 : decode cX9_fitsIn 34 = .ok (.iload 5, 2) := by decide +kernel
theorem dX9_fitsIn_36 : decode cX9_fitsIn 36 = .ok (.iload 6, 2) := by decide +kernel
theorem dX9_fitsIn_38 : decode cX9_fitsIn 38 = .ok (.if_icmp .gt 15, 3) := by decide +kernel
theorem dX9_fitsIn_41 : decode cX9_fitsIn 41 = .ok (.iload 5, 2) := by decide +kernel
theorem dX9_fitsIn_43 : decode cX9_fitsIn 43 = .ok (.ifCond .ge 12, 3) := by decide +kernel
theorem dX9_fitsIn_46 : decode cX9_fitsIn 46 = .ok (.iload 5, 2) := by decide +kernel
theorem dX9_fitsIn_48 : decode cX9_fitsIn 48 = .ok (.iload 6, 2) := by decide +kernel
theorem dX9_fitsIn_5 : decode cX9_fitsIn 5 = .ok (.iconst 4, 1) := by decide +kernel
theorem dX9_fitsIn_50 : decode cX9_fitsIn 50 = .ok (.if_icmp .ge 5, 3) := by decide +kernel
theorem dX9_fitsIn_53 : decode cX9_fitsIn 53 = .ok (.iconst 0, 1) := by decide +kernel
theorem dX9_fitsIn_54 : decode cX9_fitsIn 54 = .ok (.ireturn, 1) := by decide +kernel
theorem dX9_fitsIn_55 : decode cX9_fitsIn 55 = .ok (.iinc 4 1, 3) := by decide +kernel
theorem dX9_fitsIn_58 : decode cX9_fitsIn 58 = .ok (.goto (-55), 3) := by decide +kernel
theorem dX9_fitsIn_6 : decode cX9_fitsIn 6 = .ok (.if_icmp .ge 55, 3) := by decide +kernel
theorem dX9_fitsIn_61 : decode cX9_fitsIn 61 = .ok (.iconst 1, 1) := by decide +kernel
theorem dX9_fitsIn_62 : decode cX9_fitsIn 62 = .ok (.ireturn, 1) := by decide +kernel
theorem dX9_fitsIn_9 : decode cX9_fitsIn 9 = .ok (.aload_n 0, 1) := by decide +kernel
theorem dX9_fitsLeft_0 : decode cX9_fitsLeft 0 = .ok (.iconst 0, 1) := by decide +kernel
theorem dX9_fitsLeft_1 : decode cX9_fitsLeft 1 = .ok (.istore_n 2, 1) := by decide +kernel
theorem dX9_fitsLeft_10 : decode cX9_fitsLeft 10 = .ok (.aload_n 0, 1) := by decide +kernel
theorem dX9_fitsLeft_11 : decode cX9_fitsLeft 11 = .ok (.iload_n 1, 1) := by decide +kernel
theorem dX9_fitsLeft_12 : decode cX9_fitsLeft 12 = .ok (.iload_n 2, 1) := by decide +kernel
theorem dX9_fitsLeft_13 : decode cX9_fitsLeft 13 = .ok (.invokevirtual 183, 3) := by decide +kernel
theorem dX9_fitsLeft_16 : decode cX9_fitsLeft 16 = .ok (.ifCond .le 18, 3) := by decide +kernel
theorem dX9_fitsLeft_19 : decode cX9_fitsLeft 19 = .ok (.aload_n 0, 1) := by decide +kernel
theorem dX9_fitsLeft_2 : decode cX9_fitsLeft 2 = .ok (.iload_n 2, 1) := by decide +kernel
theorem dX9_fitsLeft_20 : decode cX9_fitsLeft 20 = .ok (.iload_n 1, 1) := by decide +kernel
theorem dX9_fitsLeft_21 : decode cX9_fitsLeft 21 = .ok (.iload_n 2, 1) := by decide +kernel
theorem dX9_fitsLeft_22 : decode cX9_fitsLeft 22 = .ok (.invokevirtual 183, 3) := by decide +kernel
theorem dX9_fitsLeft_25 : decode cX9_fitsLeft 25 = .ok (.aload_n 0, 1) := by decide +kernel
theorem dX9_fitsLeft_26 : decode cX9_fitsLeft 26 = .ok (.getfield 89, 3) := by decide +kernel
theorem dX9_fitsLeft_29 : decode cX9_fitsLeft 29 = .ok (.iload_n 2, 1) := by decide +kernel
theorem dX9_fitsLeft_3 : decode cX9_fitsLeft 3 = .ok (.aload_n 0, 1) := by decide +kernel
theorem dX9_fitsLeft_30 : decode cX9_fitsLeft 30 = .ok (.iaload, 1) := by decide +kernel
theorem dX9_fitsLeft_31 : decode cX9_fitsLeft 31 = .ok (.if_icmp .gt 27, 3) := by decide +kernel
theorem dX9_fitsLeft_34 : decode cX9_fitsLeft 34 = .ok (.aload_n 0, 1) := by decide +kernel
theorem dX9_fitsLeft_35 : decode cX9_fitsLeft 35 = .ok (.iload_n 1, 1) := by decide +kernel
theorem dX9_fitsLeft_36 : decode cX9_fitsLeft 36 = .ok (.iload_n 2, 1) := by decide +kernel
theorem dX9_fitsLeft_37 : decode cX9_fitsLeft 37 = .ok (.invokevirtual 183, 3) := by decide +kernel
theorem dX9_fitsLeft_4 : decode cX9_fitsLeft 4 = .ok (.getfield 47, 3) := by decide +kernel
theorem dX9_fitsLeft_40 : decode cX9_fitsLeft 40 = .ok (.ifCond .ge 20, 3) := by decide +kernel
theorem dX9_fitsLeft_43 : decode cX9_fitsLeft 43 = .ok (.aload_n 0, 1) := by decide +kernel
theorem dX9_fitsLeft_44 : decode cX9_fitsLeft 44 = .ok (.iload_n 1, 1) := by decide +kernel
theorem dX9_fitsLeft_45 : decode cX9_fitsLeft 45 = .ok (.iload_n 2, 1) := by decide +kernel
theorem dX9_fitsLeft_46 : decode cX9_fitsLeft 46 = .ok (.invokevirtual 183, 3) := by decide +kernel
theorem dX9_fitsLeft_49 : decode cX9_fitsLeft 49 = .ok (.aload_n 0, 1) := by decide +kernel
theorem dX9_fitsLeft_50 : decode cX9_fitsLeft 50 = .ok (.getfield 89, 3) := by decide +kernel
theorem dX9_fitsLeft_53 : decode cX9_fitsLeft 53 = .ok (.iload_n 2, 1) := by decide +kernel
theorem dX9_fitsLeft_54 : decode cX9_fitsLeft 54 = .ok (.iaload, 1) := by decide +kernel
theorem dX9_fitsLeft_55 : decode cX9_fitsLeft 55 = .ok (.if_icmp .ge 5, 3) := by decide +kernel
theorem dX9_fitsLeft_58 : decode cX9_fitsLeft 58 = .ok (.iconst 0, 1) := by decide +kernel
theorem dX9_fitsLeft_59 : decode cX9_fitsLeft 59 = .ok (.ireturn, 1) := by decide +kernel
theorem dX9_fitsLeft_60 : decode cX9_fitsLeft 60 = .ok (.iinc 2 1, 3) := by decide +kernel
theorem dX9_fitsLeft_63 : decode cX9_fitsLeft 63 = .ok (.goto (-61), 3) := by decide +kernel
theorem dX9_fitsLeft_66 : decode cX9_fitsLeft 66 = .ok (.iconst 1, 1) := by decide +kernel
theorem dX9_fitsLeft_67 : decode cX9_fitsLeft 67 = .ok (.ireturn, 1) := by decide +kernel
theorem dX9_fitsLeft_7 : decode cX9_fitsLeft 7 = .ok (.if_icmp .ge 59, 3) := by decide +kernel
theorem dX9_fits_0 : decode cX9_fits 0 = .ok (.aload_n 0, 1) := by decide +kernel
theorem dX9_fits_1 : decode cX9_fits 1 = .ok (.invokevirtual 180, 3) := by decide +kernel
theorem dX9_fits_12 : decode cX9_fits 12 = .ok (.ifCond .ne 9, 3) := by decide +kernel
theorem dX9_fits_15 : decode cX9_fits 15 = .ok (.aload_n 0, 1) := by decide +kernel
theorem dX9_fits_16 : decode cX9_fits 16 = .ok (.iconst (-1), 1) := by decide +kernel
theorem dX9_fits_17 : decode cX9_fits 17 = .ok (.invokevirtual 112, 3) := by decide +kernel
theorem dX9_fits_20 : decode cX9_fits 20 = .ok (.ireturn, 1) := by decide +kernel
theorem dX9_fits_21 : decode cX9_fits 21 = .ok (.aload_n 0, 1) := by decide +kernel
theorem dX9_fits_22 : decode cX9_fits 22 = .ok (.invokevirtual 203, 3) := by decide +kernel
theorem dX9_fits_25 : decode cX9_fits 25 = .ok (.aload_n 0, 1) := by decide +kernel
theorem dX9_fits_26 : decode cX9_fits 26 = .ok (.iload_n 1, 1) := by decide +kernel
theorem dX9_fits_27 : decode cX9_fits 27 = .ok (.invokevirtual 206, 3) := by decide +kernel
theorem dX9_fits_30 : decode cX9_fits 30 = .ok (.ifCond .eq 7, 3) := by decide +kernel
theorem dX9_fits_33 : decode cX9_fits 33 = .ok (.iconst 1, 1) := by decide +kernel
theorem dX9_fits_34 : decode cX9_fits 34 = .ok (.goto 4, 3) := by decide +kernel
theorem dX9_fits_37 : decode cX9_fits 37 = .ok (.iconst 0, 1) := by decide +kernel
theorem dX9_fits_38 : decode cX9_fits 38 = .ok (.ireturn, 1) := by decide +kernel
theorem dX9_fits_4 : decode cX9_fits 4 = .ok (.iload_n 1, 1) := by decide +kernel
theorem dX9_fits_5 : decode cX9_fits 5 = .ok (.aload_n 0, 1) := by decide +kernel
theorem dX9_fits_6 : decode cX9_fits 6 = .ok (.getfield 163, 3) := by decide +kernel
theorem dX9_fits_9 : decode cX9_fits 9 = .ok (.invokestatic 116, 3) := by decide +kernel
theorem dX9_gather_0 : decode cX9_gather 0 = .ok (.aload_n 0, 1) := by decide +kernel
theorem dX9_gather_1 : decode cX9_gather 1 = .ok (.getfield 109, 3) := by decide +kernel
theorem dX9_gather_10 : decode cX9_gather 10 = .ok (.putfield 109, 3) := by decide +kernel
theorem dX9_gather_13 : decode cX9_gather 13 = .ok (.aload_n 0, 1) := by decide +kernel
theorem dX9_gather_14 : decode cX9_gather 14 = .ok (.iconst 0, 1) := by decide +kernel
theorem dX9_gather_15 : decode cX9_gather 15 = .ok (.putfield 232, 3) := by decide +kernel
theorem dX9_gather_18 : decode cX9_gather 18 = .ok (.aload_n 0, 1) := by decide +kernel
theorem dX9_gather_19 : decode cX9_gather 19 = .ok (.iconst 0, 1) := by decide +kernel
theorem dX9_gather_20 : decode cX9_gather 20 = .ok (.invokevirtual 235, 3) := by decide +kernel
theorem dX9_gather_23 : decode cX9_gather 23 = .ok (.return_, 1) := by decide +kernel
theorem dX9_gather_4 : decode cX9_gather 4 = .ok (.ifCond .eq 4, 3) := by decide +kernel
theorem dX9_gather_7 : decode cX9_gather 7 = .ok (.return_, 1) := by decide +kernel
theorem dX9_gather_8 : decode cX9_gather 8 = .ok (.aload_n 0, 1) := by decide +kernel
theorem dX9_gather_9 : decode cX9_gather 9 = .ok (.iconst 1, 1) := by decide +kernel
theorem dX9_gathers_0 : decode cX9_gathers 0 = .ok (.iload_n 1, 1) := by decide +kernel
theorem dX9_gathers_1 : decode cX9_gathers 1 = .ok (.aload_n 0, 1) := by decide +kernel
theorem dX9_gathers_100 : decode cX9_gathers 100 = .ok (.iadd, 1) := by decide +kernel
theorem dX9_gathers_101 : decode cX9_gathers 101 = .ok (.putfield 232, 3) := by decide +kernel
theorem dX9_gathers_104 : decode cX9_gathers 104 = .ok (.return_, 1) := by decide +kernel
theorem dX9_gathers_12 : decode cX9_gathers 12 = .ok (.iload_n 1, 1) := by decide +kernel
theorem dX9_gathers_13 : decode cX9_gathers 13 = .ok (.iaload, 1) := by decide +kernel
theorem dX9_gathers_14 : decode cX9_gathers 14 = .ok (.istore_n 2, 1) := by decide +kernel
theorem dX9_gathers_15 : decode cX9_gathers 15 = .ok (.iload_n 2, 1) := by decide +kernel
theorem dX9_gathers_16 : decode cX9_gathers 16 = .ok (.aload_n 0, 1) := by decide +kernel
theorem dX9_gathers_17 : decode cX9_gathers 17 = .ok (.getfield 19, 3) := by decide +kernel
theorem dX9_gathers_2 : decode cX9_gathers 2 = .ok (.getfield 47, 3) := by decide +kernel
theorem dX9_gathers_20 : decode cX9_gathers 20 = .ok (.iload_n 1, 1) := by decide +kernel
theorem dX9_gathers_21 : decode cX9_gathers 21 = .ok (.iaload, 1) := by decide +kernel
theorem dX9_gathers_22 : decode cX9_gathers 22 = .ok (.if_icmp .gt 23, 3) := by decide +kernel
theorem dX9_gathers_25 : decode cX9_gathers 25 = .ok (.aload_n 0, 1) := by decide +kernel
theorem dX9_gathers_26 : decode cX9_gathers 26 = .ok (.getfield 92, 3) := by decide +kernel
theorem dX9_gathers_29 : decode cX9_gathers 29 = .ok (.iload_n 1, 1) := by decide +kernel
theorem dX9_gathers_30 : decode cX9_gathers 30 = .ok (.iload_n 2, 1) := by decide +kernel
theorem dX9_gathers_31 : decode cX9_gathers 31 = .ok (.iastore, 1) := by decide +kernel
theorem dX9_gathers_32 : decode cX9_gathers 32 = .ok (.aload_n 0, 1) := by decide +kernel
theorem dX9_gathers_33 : decode cX9_gathers 33 = .ok (.iload_n 1, 1) := by decide +kernel
theorem dX9_gathers_34 : decode cX9_gathers 34 = .ok (.iconst 1, 1) := by decide +kernel
theorem dX9_gathers_35 : decode cX9_gathers 35 = .ok (.iadd, 1) := by decide +kernel
theorem dX9_gathers_36 : decode cX9_gathers 36 = .ok (.invokevirtual 235, 3) := by decide +kernel
theorem dX9_gathers_39 : decode cX9_gathers 39 = .ok (.iinc 2 1, 3) := by decide +kernel
theorem dX9_gathers_42 : decode cX9_gathers 42 = .ok (.goto (-27), 3) := by decide +kernel
theorem dX9_gathers_45 : decode cX9_gathers 45 = .ok (.return_, 1) := by decide +kernel
theorem dX9_gathers_46 : decode cX9_gathers 46 = .ok (.aload_n 0, 1) := by decide +kernel
theorem dX9_gathers_47 : decode cX9_gathers 47 = .ok (.aload_n 0, 1) := by decide +kernel
theorem dX9_gathers_48 : decode cX9_gathers 48 = .ok (.getfield 92, 3) := by decide +kernel
theorem dX9_gathers_5 : decode cX9_gathers 5 = .ok (.if_icmp .ge 41, 3) := by decide +kernel
theorem dX9_gathers_51 : decode cX9_gathers 51 = .ok (.iconst 0, 1) := by decide +kernel
theorem dX9_gathers_52 : decode cX9_gathers 52 = .ok (.invokevirtual 199, 3) := by decide +kernel
theorem dX9_gathers_55 : decode cX9_gathers 55 = .ok (.ifCond .ne 4, 3) := by decide +kernel
theorem dX9_gathers_58 : decode cX9_gathers 58 = .ok (.return_, 1) := by decide +kernel
theorem dX9_gathers_59 : decode cX9_gathers 59 = .ok (.iconst 0, 1) := by decide +kernel
theorem dX9_gathers_60 : decode cX9_gathers 60 = .ok (.istore_n 2, 1) := by decide +kernel
theorem dX9_gathers_61 : decode cX9_gathers 61 = .ok (.iload_n 2, 1) := by decide +kernel
theorem dX9_gathers_62 : decode cX9_gathers 62 = .ok (.aload_n 0, 1) := by decide +kernel
theorem dX9_gathers_63 : decode cX9_gathers 63 = .ok (.getfield 47, 3) := by decide +kernel
theorem dX9_gathers_66 : decode cX9_gathers 66 = .ok (.if_icmp .ge 28, 3) := by decide +kernel
theorem dX9_gathers_69 : decode cX9_gathers 69 = .ok (.aload_n 0, 1) := by decide +kernel
theorem dX9_gathers_70 : decode cX9_gathers 70 = .ok (.getfield 96, 3) := by decide +kernel
theorem dX9_gathers_73 : decode cX9_gathers 73 = .ok (.iconst 4, 1) := by decide +kernel
theorem dX9_gathers_74 : decode cX9_gathers 74 = .ok (.aload_n 0, 1) := by decide +kernel
theorem dX9_gathers_75 : decode cX9_gathers 75 = .ok (.getfield 232, 3) := by decide +kernel
theorem dX9_gathers_78 : decode cX9_gathers 78 = .ok (.imul, 1) := by decide +kernel
theorem dX9_gathers_79 : decode cX9_gathers 79 = .ok (.iload_n 2, 1) := by decide +kernel
theorem dX9_gathers_8 : decode cX9_gathers 8 = .ok (.aload_n 0, 1) := by decide +kernel
theorem dX9_gathers_80 : decode cX9_gathers 80 = .ok (.iadd, 1) := by decide +kernel
theorem dX9_gathers_81 : decode cX9_gathers 81 = .ok (.aload_n 0, 1) := by decide +kernel
theorem dX9_gathers_82 : decode cX9_gathers 82 = .ok (.getfield 92, 3) := by decide +kernel
theorem dX9_gathers_85 : decode cX9_gathers 85 = .ok (.iload_n 2, 1) := by decide +kernel
theorem dX9_gathers_86 : decode cX9_gathers 86 = .ok (.iaload, 1) := by decide +kernel
theorem dX9_gathers_87 : decode cX9_gathers 87 = .ok (.iastore, 1) := by decide +kernel
theorem dX9_gathers_88 : decode cX9_gathers 88 = .ok (.iinc 2 1, 3) := by decide +kernel
theorem dX9_gathers_9 : decode cX9_gathers 9 = .ok (.getfield 16, 3) := by decide +kernel
theorem dX9_gathers_91 : decode cX9_gathers 91 = .ok (.goto (-30), 3) := by decide +kernel
theorem dX9_gathers_94 : decode cX9_gathers 94 = .ok (.aload_n 0, 1) := by decide +kernel
theorem dX9_gathers_95 : decode cX9_gathers 95 = .ok (.dup, 1) := by decide +kernel
theorem dX9_gathers_96 : decode cX9_gathers 96 = .ok (.getfield 232, 3) := by decide +kernel
theorem dX9_gathers_99 : decode cX9_gathers 99 = .ok (.iconst 1, 1) := by decide +kernel
theorem dX9_goes_0 : decode cX9_goes 0 = .ok (.iload_n 1, 1) := by decide +kernel
theorem dX9_goes_1 : decode cX9_goes 1 = .ok (.aload_n 0, 1) := by decide +kernel
theorem dX9_goes_10 : decode cX9_goes 10 = .ok (.invokevirtual 149, 3) := by decide +kernel
theorem dX9_goes_100 : decode cX9_goes 100 = .ok (.getfield 153, 3) := by decide +kernel
theorem dX9_goes_103 : decode cX9_goes 103 = .ok (.iconst 1, 1) := by decide +kernel
theorem dX9_goes_104 : decode cX9_goes 104 = .ok (.iadd, 1) := by decide +kernel
theorem dX9_goes_105 : decode cX9_goes 105 = .ok (.putfield 153, 3) := by decide +kernel
theorem dX9_goes_108 : decode cX9_goes 108 = .ok (.return_, 1) := by decide +kernel
theorem dX9_goes_109 : decode cX9_goes 109 = .ok (.iload_n 2, 1) := by decide +kernel
theorem dX9_goes_110 : decode cX9_goes 110 = .ok (.ineg, 1) := by decide +kernel
theorem dX9_goes_111 : decode cX9_goes 111 = .ok (.istore_n 3, 1) := by decide +kernel
theorem dX9_goes_112 : decode cX9_goes 112 = .ok (.iload_n 3, 1) := by decide +kernel
theorem dX9_goes_113 : decode cX9_goes 113 = .ok (.iload_n 2, 1) := by decide +kernel
theorem dX9_goes_114 : decode cX9_goes 114 = .ok (.if_icmp .gt 29, 3) := by decide +kernel
theorem dX9_goes_117 : decode cX9_goes 117 = .ok (.aload_n 0, 1) := by decide +kernel
theorem dX9_goes_118 : decode cX9_goes 118 = .ok (.getfield 80, 3) := by decide +kernel
theorem dX9_goes_121 : decode cX9_goes 121 = .ok (.aload_n 0, 1) := by decide +kernel
theorem dX9_goes_122 : decode cX9_goes 122 = .ok (.getfield 77, 3) := by decide +kernel
theorem dX9_goes_125 : decode cX9_goes 125 = .ok (.iload_n 1, 1) := by decide +kernel
theorem dX9_goes_126 : decode cX9_goes 126 = .ok (.iaload, 1) := by decide +kernel
theorem dX9_goes_127 : decode cX9_goes 127 = .ok (.iload_n 3, 1) := by decide +kernel
theorem dX9_goes_128 : decode cX9_goes 128 = .ok (.iastore, 1) := by decide +kernel
theorem dX9_goes_129 : decode cX9_goes 129 = .ok (.aload_n 0, 1) := by decide +kernel
theorem dX9_goes_13 : decode cX9_goes 13 = .ok (.ifCond .ne 4, 3) := by decide +kernel
theorem dX9_goes_130 : decode cX9_goes 130 = .ok (.iload_n 1, 1) := by decide +kernel
theorem dX9_goes_131 : decode cX9_goes 131 = .ok (.iconst 1, 1) := by decide +kernel
theorem dX9_goes_132 : decode cX9_goes 132 = .ok (.iadd, 1) := by decide +kernel
theorem dX9_goes_133 : decode cX9_goes 133 = .ok (.iload_n 2, 1) := by decide +kernel
theorem dX9_goes_134 : decode cX9_goes 134 = .ok (.invokevirtual 156, 3) := by decide +kernel
theorem dX9_goes_137 : decode cX9_goes 137 = .ok (.iinc 3 1, 3) := by decide +kernel
theorem dX9_goes_140 : decode cX9_goes 140 = .ok (.goto (-28), 3) := by decide +kernel
theorem dX9_goes_143 : decode cX9_goes 143 = .ok (.return_, 1) := by decide +kernel
theorem dX9_goes_16 : decode cX9_goes 16 = .ok (.return_, 1) := by decide +kernel
theorem dX9_goes_17 : decode cX9_goes 17 = .ok (.iconst 0, 1) := by decide +kernel
theorem dX9_goes_18 : decode cX9_goes 18 = .ok (.istore_n 3, 1) := by decide +kernel
theorem dX9_goes_19 : decode cX9_goes 19 = .ok (.iconst 0, 1) := by decide +kernel
theorem dX9_goes_2 : decode cX9_goes 2 = .ok (.getfield 139, 3) := by decide +kernel
theorem dX9_goes_20 : decode cX9_goes 20 = .ok (.istore 4, 2) := by decide +kernel
theorem dX9_goes_22 : decode cX9_goes 22 = .ok (.iload 4, 2) := by decide +kernel
theorem dX9_goes_24 : decode cX9_goes 24 = .ok (.iconst 4, 1) := by decide +kernel
theorem dX9_goes_25 : decode cX9_goes 25 = .ok (.if_icmp .ge 63, 3) := by decide +kernel
theorem dX9_goes_28 : decode cX9_goes 28 = .ok (.iload 4, 2) := by decide +kernel
theorem dX9_goes_30 : decode cX9_goes 30 = .ok (.aload_n 0, 1) := by decide +kernel
theorem dX9_goes_31 : decode cX9_goes 31 = .ok (.getfield 47, 3) := by decide +kernel
theorem dX9_goes_34 : decode cX9_goes 34 = .ok (.if_icmp .ge 13, 3) := by decide +kernel
theorem dX9_goes_37 : decode cX9_goes 37 = .ok (.aload_n 0, 1) := by decide +kernel
theorem dX9_goes_38 : decode cX9_goes 38 = .ok (.getfield 80, 3) := by decide +kernel
theorem dX9_goes_41 : decode cX9_goes 41 = .ok (.iload 4, 2) := by decide +kernel
theorem dX9_goes_43 : decode cX9_goes 43 = .ok (.iaload, 1) := by decide +kernel
theorem dX9_goes_44 : decode cX9_goes 44 = .ok (.goto 4, 3) := by decide +kernel
theorem dX9_goes_47 : decode cX9_goes 47 = .ok (.iconst 0, 1) := by decide +kernel
theorem dX9_goes_48 : decode cX9_goes 48 = .ok (.istore 5, 2) := by decide +kernel
theorem dX9_goes_5 : decode cX9_goes 5 = .ok (.if_icmp .ne 104, 3) := by decide +kernel
theorem dX9_goes_50 : decode cX9_goes 50 = .ok (.aload_n 0, 1) := by decide +kernel
theorem dX9_goes_51 : decode cX9_goes 51 = .ok (.getfield 52, 3) := by decide +kernel
theorem dX9_goes_54 : decode cX9_goes 54 = .ok (.iconst 4, 1) := by decide +kernel
theorem dX9_goes_55 : decode cX9_goes 55 = .ok (.aload_n 0, 1) := by decide +kernel
theorem dX9_goes_56 : decode cX9_goes 56 = .ok (.getfield 153, 3) := by decide +kernel
theorem dX9_goes_59 : decode cX9_goes 59 = .ok (.imul, 1) := by decide +kernel
theorem dX9_goes_60 : decode cX9_goes 60 = .ok (.iload 4, 2) := by decide +kernel
theorem dX9_goes_62 : decode cX9_goes 62 = .ok (.iadd, 1) := by decide +kernel
theorem dX9_goes_63 : decode cX9_goes 63 = .ok (.iload 5, 2) := by decide +kernel
theorem dX9_goes_65 : decode cX9_goes 65 = .ok (.iastore, 1) := by decide +kernel
theorem dX9_goes_66 : decode cX9_goes 66 = .ok (.iload_n 3, 1) := by decide +kernel
theorem dX9_goes_67 : decode cX9_goes 67 = .ok (.iload 5, 2) := by decide +kernel
theorem dX9_goes_69 : decode cX9_goes 69 = .ok (.ifCond .ge 9, 3) := by decide +kernel
theorem dX9_goes_72 : decode cX9_goes 72 = .ok (.iload 5, 2) := by decide +kernel
theorem dX9_goes_74 : decode cX9_goes 74 = .ok (.ineg, 1) := by decide +kernel
theorem dX9_goes_75 : decode cX9_goes 75 = .ok (.goto 5, 3) := by decide +kernel
theorem dX9_goes_78 : decode cX9_goes 78 = .ok (.iload 5, 2) := by decide +kernel
theorem dX9_goes_8 : decode cX9_goes 8 = .ok (.aload_n 0, 1) := by decide +kernel
theorem dX9_goes_80 : decode cX9_goes 80 = .ok (.iadd, 1) := by decide +kernel
theorem dX9_goes_81 : decode cX9_goes 81 = .ok (.istore_n 3, 1) := by decide +kernel
theorem dX9_goes_82 : decode cX9_goes 82 = .ok (.iinc 4 1, 3) := by decide +kernel
theorem dX9_goes_85 : decode cX9_goes 85 = .ok (.goto (-63), 3) := by decide +kernel
theorem dX9_goes_88 : decode cX9_goes 88 = .ok (.aload_n 0, 1) := by decide +kernel
theorem dX9_goes_89 : decode cX9_goes 89 = .ok (.getfield 56, 3) := by decide +kernel
theorem dX9_goes_9 : decode cX9_goes 9 = .ok (.iload_n 2, 1) := by decide +kernel
theorem dX9_goes_92 : decode cX9_goes 92 = .ok (.aload_n 0, 1) := by decide +kernel
theorem dX9_goes_93 : decode cX9_goes 93 = .ok (.getfield 153, 3) := by decide +kernel
theorem dX9_goes_96 : decode cX9_goes 96 = .ok (.iload_n 3, 1) := by decide +kernel
theorem dX9_goes_97 : decode cX9_goes 97 = .ok (.iastore, 1) := by decide +kernel
theorem dX9_goes_98 : decode cX9_goes 98 = .ok (.aload_n 0, 1) := by decide +kernel
theorem dX9_goes_99 : decode cX9_goes 99 = .ok (.dup, 1) := by decide +kernel
theorem dX9_hand_0 : decode cX9_hand 0 = .ok (.iload_n 1, 1) := by decide +kernel
theorem dX9_hand_1 : decode cX9_hand 1 = .ok (.aload_n 0, 1) := by decide +kernel
theorem dX9_hand_11 : decode cX9_hand 11 = .ok (.aload_n 0, 1) := by decide +kernel
theorem dX9_hand_12 : decode cX9_hand 12 = .ok (.getfield 31, 3) := by decide +kernel
theorem dX9_hand_15 : decode cX9_hand 15 = .ok (.iconst 1, 1) := by decide +kernel
theorem dX9_hand_16 : decode cX9_hand 16 = .ok (.dup2, 1) := by decide +kernel
theorem dX9_hand_17 : decode cX9_hand 17 = .ok (.iaload, 1) := by decide +kernel
theorem dX9_hand_18 : decode cX9_hand 18 = .ok (.iconst 1, 1) := by decide +kernel
theorem dX9_hand_19 : decode cX9_hand 19 = .ok (.iadd, 1) := by decide +kernel
theorem dX9_hand_2 : decode cX9_hand 2 = .ok (.getfield 47, 3) := by decide +kernel
theorem dX9_hand_20 : decode cX9_hand 20 = .ok (.iastore, 1) := by decide +kernel
theorem dX9_hand_21 : decode cX9_hand 21 = .ok (.ldc 187, 2) := by decide +kernel
theorem dX9_hand_23 : decode cX9_hand 23 = .ok (.ireturn, 1) := by decide +kernel
theorem dX9_hand_24 : decode cX9_hand 24 = .ok (.iload_n 2, 1) := by decide +kernel
theorem dX9_hand_25 : decode cX9_hand 25 = .ok (.sipush (-10000), 3) := by decide +kernel
theorem dX9_hand_28 : decode cX9_hand 28 = .ok (.if_icmp .lt 10, 3) := by decide +kernel
theorem dX9_hand_31 : decode cX9_hand 31 = .ok (.iload_n 2, 1) := by decide +kernel
theorem dX9_hand_32 : decode cX9_hand 32 = .ok (.sipush 10000, 3) := by decide +kernel
theorem dX9_hand_35 : decode cX9_hand 35 = .ok (.if_icmp .le 25, 3) := by decide +kernel
theorem dX9_hand_38 : decode cX9_hand 38 = .ok (.aload_n 0, 1) := by decide +kernel
theorem dX9_hand_39 : decode cX9_hand 39 = .ok (.getfield 31, 3) := by decide +kernel
theorem dX9_hand_42 : decode cX9_hand 42 = .ok (.iload_n 2, 1) := by decide +kernel
theorem dX9_hand_43 : decode cX9_hand 43 = .ok (.ifCond .ge 7, 3) := by decide +kernel
theorem dX9_hand_46 : decode cX9_hand 46 = .ok (.iconst 4, 1) := by decide +kernel
theorem dX9_hand_47 : decode cX9_hand 47 = .ok (.goto 5, 3) := by decide +kernel
theorem dX9_hand_5 : decode cX9_hand 5 = .ok (.invokestatic 116, 3) := by decide +kernel
theorem dX9_hand_50 : decode cX9_hand 50 = .ok (.bipush 6, 2) := by decide +kernel
theorem dX9_hand_52 : decode cX9_hand 52 = .ok (.dup2, 1) := by decide +kernel
theorem dX9_hand_53 : decode cX9_hand 53 = .ok (.iaload, 1) := by decide +kernel
theorem dX9_hand_54 : decode cX9_hand 54 = .ok (.iconst 1, 1) := by decide +kernel
theorem dX9_hand_55 : decode cX9_hand 55 = .ok (.iadd, 1) := by decide +kernel
theorem dX9_hand_56 : decode cX9_hand 56 = .ok (.iastore, 1) := by decide +kernel
theorem dX9_hand_57 : decode cX9_hand 57 = .ok (.ldc 187, 2) := by decide +kernel
theorem dX9_hand_59 : decode cX9_hand 59 = .ok (.ireturn, 1) := by decide +kernel
theorem dX9_hand_60 : decode cX9_hand 60 = .ok (.aload_n 0, 1) := by decide +kernel
theorem dX9_hand_61 : decode cX9_hand 61 = .ok (.getfield 28, 3) := by decide +kernel
theorem dX9_hand_64 : decode cX9_hand 64 = .ok (.iload_n 1, 1) := by decide +kernel
theorem dX9_hand_65 : decode cX9_hand 65 = .ok (.iaload, 1) := by decide +kernel
theorem dX9_hand_66 : decode cX9_hand 66 = .ok (.istore_n 3, 1) := by decide +kernel
theorem dX9_hand_67 : decode cX9_hand 67 = .ok (.aload_n 0, 1) := by decide +kernel
theorem dX9_hand_68 : decode cX9_hand 68 = .ok (.getfield 28, 3) := by decide +kernel
theorem dX9_hand_71 : decode cX9_hand 71 = .ok (.iload_n 1, 1) := by decide +kernel
theorem dX9_hand_72 : decode cX9_hand 72 = .ok (.iload_n 2, 1) := by decide +kernel
theorem dX9_hand_73 : decode cX9_hand 73 = .ok (.iastore, 1) := by decide +kernel
theorem dX9_hand_74 : decode cX9_hand 74 = .ok (.iload_n 3, 1) := by decide +kernel
theorem dX9_hand_75 : decode cX9_hand 75 = .ok (.ireturn, 1) := by decide +kernel
theorem dX9_hand_8 : decode cX9_hand 8 = .ok (.ifCond .ne 16, 3) := by decide +kernel
theorem dX9_has_0 : decode cX9_has 0 = .ok (.iload_n 1, 1) := by decide +kernel
theorem dX9_has_1 : decode cX9_has 1 = .ok (.aload_n 0, 1) := by decide +kernel
theorem dX9_has_11 : decode cX9_has 11 = .ok (.aload_n 0, 1) := by decide +kernel
theorem dX9_has_12 : decode cX9_has 12 = .ok (.getfield 28, 3) := by decide +kernel
theorem dX9_has_15 : decode cX9_has 15 = .ok (.iload_n 1, 1) := by decide +kernel
theorem dX9_has_16 : decode cX9_has 16 = .ok (.iaload, 1) := by decide +kernel
theorem dX9_has_17 : decode cX9_has 17 = .ok (.goto 5, 3) := by decide +kernel
theorem dX9_has_2 : decode cX9_has 2 = .ok (.getfield 47, 3) := by decide +kernel
theorem dX9_has_20 : decode cX9_has 20 = .ok (.ldc 187, 2) := by decide +kernel
theorem dX9_has_22 : decode cX9_has 22 = .ok (.ireturn, 1) := by decide +kernel
theorem dX9_has_5 : decode cX9_has 5 = .ok (.invokestatic 116, 3) := by decide +kernel
theorem dX9_has_8 : decode cX9_has 8 = .ok (.ifCond .eq 12, 3) := by decide +kernel
theorem dX9_isBefore_0 : decode cX9_isBefore 0 = .ok (.iconst 0, 1) := by decide +kernel
theorem dX9_isBefore_1 : decode cX9_isBefore 1 = .ok (.istore_n 3, 1) := by decide +kernel
theorem dX9_isBefore_11 : decode cX9_isBefore 11 = .ok (.iconst 4, 1) := by decide +kernel
theorem dX9_isBefore_12 : decode cX9_isBefore 12 = .ok (.iload_n 1, 1) := by decide +kernel
theorem dX9_isBefore_13 : decode cX9_isBefore 13 = .ok (.imul, 1) := by decide +kernel
theorem dX9_isBefore_14 : decode cX9_isBefore 14 = .ok (.iload_n 3, 1) := by decide +kernel
theorem dX9_isBefore_15 : decode cX9_isBefore 15 = .ok (.iadd, 1) := by decide +kernel
theorem dX9_isBefore_16 : decode cX9_isBefore 16 = .ok (.iaload, 1) := by decide +kernel
theorem dX9_isBefore_17 : decode cX9_isBefore 17 = .ok (.aload_n 0, 1) := by decide +kernel
theorem dX9_isBefore_18 : decode cX9_isBefore 18 = .ok (.getfield 65, 3) := by decide +kernel
theorem dX9_isBefore_2 : decode cX9_isBefore 2 = .ok (.iload_n 3, 1) := by decide +kernel
theorem dX9_isBefore_21 : decode cX9_isBefore 21 = .ok (.iconst 4, 1) := by decide +kernel
theorem dX9_isBefore_22 : decode cX9_isBefore 22 = .ok (.iload_n 2, 1) := by decide +kernel
theorem dX9_isBefore_23 : decode cX9_isBefore 23 = .ok (.imul, 1) := by decide +kernel
theorem dX9_isBefore_24 : decode cX9_isBefore 24 = .ok (.iload_n 3, 1) := by decide +kernel
theorem dX9_isBefore_25 : decode cX9_isBefore 25 = .ok (.iadd, 1) := by decide +kernel
theorem dX9_isBefore_26 : decode cX9_isBefore 26 = .ok (.iaload, 1) := by decide +kernel
theorem dX9_isBefore_27 : decode cX9_isBefore 27 = .ok (.if_icmp .eq 32, 3) := by decide +kernel
theorem dX9_isBefore_3 : decode cX9_isBefore 3 = .ok (.iconst 4, 1) := by decide +kernel
theorem dX9_isBefore_30 : decode cX9_isBefore 30 = .ok (.aload_n 0, 1) := by decide +kernel
theorem dX9_isBefore_31 : decode cX9_isBefore 31 = .ok (.getfield 65, 3) := by decide +kernel
theorem dX9_isBefore_34 : decode cX9_isBefore 34 = .ok (.iconst 4, 1) := by decide +kernel
theorem dX9_isBefore_35 : decode cX9_isBefore 35 = .ok (.iload_n 1, 1) := by decide +kernel
theorem dX9_isBefore_36 : decode cX9_isBefore 36 = .ok (.imul, 1) := by decide +kernel
theorem dX9_isBefore_37 : decode cX9_isBefore 37 = .ok (.iload_n 3, 1) := by decide +kernel
theorem dX9_isBefore_38 : decode cX9_isBefore 38 = .ok (.iadd, 1) := by decide +kernel
theorem dX9_isBefore_39 : decode cX9_isBefore 39 = .ok (.iaload, 1) := by decide +kernel
theorem dX9_isBefore_4 : decode cX9_isBefore 4 = .ok (.if_icmp .ge 61, 3) := by decide +kernel
theorem dX9_isBefore_40 : decode cX9_isBefore 40 = .ok (.aload_n 0, 1) := by decide +kernel
theorem dX9_isBefore_41 : decode cX9_isBefore 41 = .ok (.getfield 65, 3) := by decide +kernel
theorem dX9_isBefore_44 : decode cX9_isBefore 44 = .ok (.iconst 4, 1) := by decide +kernel
theorem dX9_isBefore_45 : decode cX9_isBefore 45 = .ok (.iload_n 2, 1) := by decide +kernel
theorem dX9_isBefore_46 : decode cX9_isBefore 46 = .ok (.imul, 1) := by decide +kernel
theorem dX9_isBefore_47 : decode cX9_isBefore 47 = .ok (.iload_n 3, 1) := by decide +kernel
theorem dX9_isBefore_48 : decode cX9_isBefore 48 = .ok (.iadd, 1) := by decide +kernel
theorem dX9_isBefore_49 : decode cX9_isBefore 49 = .ok (.iaload, 1) := by decide +kernel
theorem dX9_isBefore_50 : decode cX9_isBefore 50 = .ok (.if_icmp .ge 7, 3) := by decide +kernel
theorem dX9_isBefore_53 : decode cX9_isBefore 53 = .ok (.iconst 1, 1) := by decide +kernel
theorem dX9_isBefore_54 : decode cX9_isBefore 54 = .ok (.goto 4, 3) := by decide +kernel
theorem dX9_isBefore_57 : decode cX9_isBefore 57 = .ok (.iconst 0, 1) := by decide +kernel
theorem dX9_isBefore_58 : decode cX9_isBefore 58 = .ok (.ireturn, 1) := by decide +kernel
theorem dX9_isBefore_59 : decode cX9_isBefore 59 = .ok (.iinc 3 1, 3) := by decide +kernel
theorem dX9_isBefore_62 : decode cX9_isBefore 62 = .ok (.goto (-60), 3) := by decide +kernel
theorem dX9_isBefore_65 : decode cX9_isBefore 65 = .ok (.iconst 0, 1) := by decide +kernel
theorem dX9_isBefore_66 : decode cX9_isBefore 66 = .ok (.ireturn, 1) := by decide +kernel
theorem dX9_isBefore_7 : decode cX9_isBefore 7 = .ok (.aload_n 0, 1) := by decide +kernel
theorem dX9_isBefore_8 : decode cX9_isBefore 8 = .ok (.getfield 65, 3) := by decide +kernel
theorem dX9_isIn_0 : decode cX9_isIn 0 = .ok (.iload_n 0, 1) := by decide +kernel
theorem dX9_isIn_1 : decode cX9_isIn 1 = .ok (.ifCond .lt 12, 3) := by decide +kernel
theorem dX9_isIn_10 : decode cX9_isIn 10 = .ok (.goto 4, 3) := by decide +kernel
theorem dX9_isIn_13 : decode cX9_isIn 13 = .ok (.iconst 0, 1) := by decide +kernel
theorem dX9_isIn_14 : decode cX9_isIn 14 = .ok (.ireturn, 1) := by decide +kernel
theorem dX9_isIn_4 : decode cX9_isIn 4 = .ok (.iload_n 0, 1) := by decide +kernel
theorem dX9_isIn_5 : decode cX9_isIn 5 = .ok (.iload_n 1, 1) := by decide +kernel
theorem dX9_isIn_6 : decode cX9_isIn 6 = .ok (.if_icmp .ge 7, 3) := by decide +kernel
theorem dX9_isIn_9 : decode cX9_isIn 9 = .ok (.iconst 1, 1) := by decide +kernel
theorem dX9_isPlan_0 : decode cX9_isPlan 0 = .ok (.iconst 1, 1) := by decide +kernel
theorem dX9_isPlan_1 : decode cX9_isPlan 1 = .ok (.istore_n 3, 1) := by decide +kernel
theorem dX9_isPlan_100 : decode cX9_isPlan 100 = .ok (.iconst 0, 1) := by decide +kernel
theorem dX9_isPlan_101 : decode cX9_isPlan 101 = .ok (.istore_n 3, 1) := by decide +kernel
theorem dX9_isPlan_102 : decode cX9_isPlan 102 = .ok (.iinc 4 1, 3) := by decide +kernel
theorem dX9_isPlan_105 : decode cX9_isPlan 105 = .ok (.goto (-40), 3) := by decide +kernel
theorem dX9_isPlan_108 : decode cX9_isPlan 108 = .ok (.iload_n 3, 1) := by decide +kernel
theorem dX9_isPlan_109 : decode cX9_isPlan 109 = .ok (.ireturn, 1) := by decide +kernel
theorem dX9_isPlan_11 : decode cX9_isPlan 11 = .ok (.if_icmp .ge 51, 3) := by decide +kernel
theorem dX9_isPlan_14 : decode cX9_isPlan 14 = .ok (.iload_n 3, 1) := by decide +kernel
theorem dX9_isPlan_15 : decode cX9_isPlan 15 = .ok (.ifCond .eq 47, 3) := by decide +kernel
theorem dX9_isPlan_18 : decode cX9_isPlan 18 = .ok (.aload_n 0, 1) := by decide +kernel
theorem dX9_isPlan_19 : decode cX9_isPlan 19 = .ok (.getfield 16, 3) := by decide +kernel
theorem dX9_isPlan_2 : decode cX9_isPlan 2 = .ok (.iconst 0, 1) := by decide +kernel
theorem dX9_isPlan_22 : decode cX9_isPlan 22 = .ok (.iload 4, 2) := by decide +kernel
theorem dX9_isPlan_24 : decode cX9_isPlan 24 = .ok (.iaload, 1) := by decide +kernel
theorem dX9_isPlan_25 : decode cX9_isPlan 25 = .ok (.aload_n 1, 1) := by decide +kernel
theorem dX9_isPlan_26 : decode cX9_isPlan 26 = .ok (.iload_n 2, 1) := by decide +kernel
theorem dX9_isPlan_27 : decode cX9_isPlan 27 = .ok (.iload 4, 2) := by decide +kernel
theorem dX9_isPlan_29 : decode cX9_isPlan 29 = .ok (.iadd, 1) := by decide +kernel
theorem dX9_isPlan_3 : decode cX9_isPlan 3 = .ok (.istore 4, 2) := by decide +kernel
theorem dX9_isPlan_30 : decode cX9_isPlan 30 = .ok (.iaload, 1) := by decide +kernel
theorem dX9_isPlan_31 : decode cX9_isPlan 31 = .ok (.if_icmp .gt 23, 3) := by decide +kernel
theorem dX9_isPlan_34 : decode cX9_isPlan 34 = .ok (.aload_n 1, 1) := by decide +kernel
theorem dX9_isPlan_35 : decode cX9_isPlan 35 = .ok (.iload_n 2, 1) := by decide +kernel
theorem dX9_isPlan_36 : decode cX9_isPlan 36 = .ok (.iload 4, 2) := by decide +kernel
theorem dX9_isPlan_38 : decode cX9_isPlan 38 = .ok (.iadd, 1) := by decide +kernel
theorem dX9_isPlan_39 : decode cX9_isPlan 39 = .ok (.iaload, 1) := by decide +kernel
theorem dX9_isPlan_40 : decode cX9_isPlan 40 = .ok (.aload_n 0, 1) := by decide +kernel
theorem dX9_isPlan_41 : decode cX9_isPlan 41 = .ok (.getfield 19, 3) := by decide +kernel
theorem dX9_isPlan_44 : decode cX9_isPlan 44 = .ok (.iload 4, 2) := by decide +kernel
theorem dX9_isPlan_46 : decode cX9_isPlan 46 = .ok (.iaload, 1) := by decide +kernel
theorem dX9_isPlan_47 : decode cX9_isPlan 47 = .ok (.if_icmp .gt 7, 3) := by decide +kernel
theorem dX9_isPlan_5 : decode cX9_isPlan 5 = .ok (.iload 4, 2) := by decide +kernel
theorem dX9_isPlan_50 : decode cX9_isPlan 50 = .ok (.iconst 1, 1) := by decide +kernel
theorem dX9_isPlan_51 : decode cX9_isPlan 51 = .ok (.goto 4, 3) := by decide +kernel
theorem dX9_isPlan_54 : decode cX9_isPlan 54 = .ok (.iconst 0, 1) := by decide +kernel
theorem dX9_isPlan_55 : decode cX9_isPlan 55 = .ok (.istore_n 3, 1) := by decide +kernel
theorem dX9_isPlan_56 : decode cX9_isPlan 56 = .ok (.iinc 4 1, 3) := by decide +kernel
theorem dX9_isPlan_59 : decode cX9_isPlan 59 = .ok (.goto (-54), 3) := by decide +kernel
theorem dX9_isPlan_62 : decode cX9_isPlan 62 = .ok (.iconst 0, 1) := by decide +kernel
theorem dX9_isPlan_63 : decode cX9_isPlan 63 = .ok (.istore 4, 2) := by decide +kernel
theorem dX9_isPlan_65 : decode cX9_isPlan 65 = .ok (.iload 4, 2) := by decide +kernel
theorem dX9_isPlan_67 : decode cX9_isPlan 67 = .ok (.aload_n 0, 1) := by decide +kernel
theorem dX9_isPlan_68 : decode cX9_isPlan 68 = .ok (.getfield 102, 3) := by decide +kernel
theorem dX9_isPlan_7 : decode cX9_isPlan 7 = .ok (.aload_n 0, 1) := by decide +kernel
theorem dX9_isPlan_71 : decode cX9_isPlan 71 = .ok (.if_icmp .ge 37, 3) := by decide +kernel
theorem dX9_isPlan_74 : decode cX9_isPlan 74 = .ok (.iload_n 3, 1) := by decide +kernel
theorem dX9_isPlan_75 : decode cX9_isPlan 75 = .ok (.ifCond .eq 33, 3) := by decide +kernel
theorem dX9_isPlan_78 : decode cX9_isPlan 78 = .ok (.aload_n 0, 1) := by decide +kernel
theorem dX9_isPlan_79 : decode cX9_isPlan 79 = .ok (.iload 4, 2) := by decide +kernel
theorem dX9_isPlan_8 : decode cX9_isPlan 8 = .ok (.getfield 47, 3) := by decide +kernel
theorem dX9_isPlan_81 : decode cX9_isPlan 81 = .ok (.aload_n 1, 1) := by decide +kernel
theorem dX9_isPlan_82 : decode cX9_isPlan 82 = .ok (.iload_n 2, 1) := by decide +kernel
theorem dX9_isPlan_83 : decode cX9_isPlan 83 = .ok (.invokevirtual 191, 3) := by decide +kernel
theorem dX9_isPlan_86 : decode cX9_isPlan 86 = .ok (.aload_n 0, 1) := by decide +kernel
theorem dX9_isPlan_87 : decode cX9_isPlan 87 = .ok (.getfield 13, 3) := by decide +kernel
theorem dX9_isPlan_90 : decode cX9_isPlan 90 = .ok (.iload 4, 2) := by decide +kernel
theorem dX9_isPlan_92 : decode cX9_isPlan 92 = .ok (.iaload, 1) := by decide +kernel
theorem dX9_isPlan_93 : decode cX9_isPlan 93 = .ok (.if_icmp .ne 7, 3) := by decide +kernel
theorem dX9_isPlan_96 : decode cX9_isPlan 96 = .ok (.iconst 1, 1) := by decide +kernel
theorem dX9_isPlan_97 : decode cX9_isPlan 97 = .ok (.goto 4, 3) := by decide +kernel
theorem dX9_isStep_0 : decode cX9_isStep 0 = .ok (.iconst 0, 1) := by decide +kernel
theorem dX9_isStep_1 : decode cX9_isStep 1 = .ok (.istore_n 1, 1) := by decide +kernel
theorem dX9_isStep_12 : decode cX9_isStep 12 = .ok (.iload_n 1, 1) := by decide +kernel
theorem dX9_isStep_13 : decode cX9_isStep 13 = .ok (.ifCond .ne 12, 3) := by decide +kernel
theorem dX9_isStep_16 : decode cX9_isStep 16 = .ok (.aload_n 0, 1) := by decide +kernel
theorem dX9_isStep_17 : decode cX9_isStep 17 = .ok (.getfield 28, 3) := by decide +kernel
theorem dX9_isStep_2 : decode cX9_isStep 2 = .ok (.iconst 0, 1) := by decide +kernel
theorem dX9_isStep_20 : decode cX9_isStep 20 = .ok (.iload_n 2, 1) := by decide +kernel
theorem dX9_isStep_21 : decode cX9_isStep 21 = .ok (.iaload, 1) := by decide +kernel
theorem dX9_isStep_22 : decode cX9_isStep 22 = .ok (.ifCond .eq 7, 3) := by decide +kernel
theorem dX9_isStep_25 : decode cX9_isStep 25 = .ok (.iconst 1, 1) := by decide +kernel
theorem dX9_isStep_26 : decode cX9_isStep 26 = .ok (.goto 4, 3) := by decide +kernel
theorem dX9_isStep_29 : decode cX9_isStep 29 = .ok (.iconst 0, 1) := by decide +kernel
theorem dX9_isStep_3 : decode cX9_isStep 3 = .ok (.istore_n 2, 1) := by decide +kernel
theorem dX9_isStep_30 : decode cX9_isStep 30 = .ok (.istore_n 1, 1) := by decide +kernel
theorem dX9_isStep_31 : decode cX9_isStep 31 = .ok (.iinc 2 1, 3) := by decide +kernel
theorem dX9_isStep_34 : decode cX9_isStep 34 = .ok (.goto (-30), 3) := by decide +kernel
theorem dX9_isStep_37 : decode cX9_isStep 37 = .ok (.iconst 0, 1) := by decide +kernel
theorem dX9_isStep_38 : decode cX9_isStep 38 = .ok (.istore_n 2, 1) := by decide +kernel
theorem dX9_isStep_39 : decode cX9_isStep 39 = .ok (.iload_n 2, 1) := by decide +kernel
theorem dX9_isStep_4 : decode cX9_isStep 4 = .ok (.iload_n 2, 1) := by decide +kernel
theorem dX9_isStep_40 : decode cX9_isStep 40 = .ok (.aload_n 0, 1) := by decide +kernel
theorem dX9_isStep_41 : decode cX9_isStep 41 = .ok (.getfield 102, 3) := by decide +kernel
theorem dX9_isStep_44 : decode cX9_isStep 44 = .ok (.if_icmp .ge 32, 3) := by decide +kernel
theorem dX9_isStep_47 : decode cX9_isStep 47 = .ok (.iload_n 1, 1) := by decide +kernel
theorem dX9_isStep_48 : decode cX9_isStep 48 = .ok (.ifCond .eq 28, 3) := by decide +kernel
theorem dX9_isStep_5 : decode cX9_isStep 5 = .ok (.aload_n 0, 1) := by decide +kernel
theorem dX9_isStep_51 : decode cX9_isStep 51 = .ok (.aload_n 0, 1) := by decide +kernel
theorem dX9_isStep_52 : decode cX9_isStep 52 = .ok (.iload_n 2, 1) := by decide +kernel
theorem dX9_isStep_53 : decode cX9_isStep 53 = .ok (.aload_n 0, 1) := by decide +kernel
theorem dX9_isStep_54 : decode cX9_isStep 54 = .ok (.getfield 28, 3) := by decide +kernel
theorem dX9_isStep_57 : decode cX9_isStep 57 = .ok (.iconst 0, 1) := by decide +kernel
theorem dX9_isStep_58 : decode cX9_isStep 58 = .ok (.invokevirtual 191, 3) := by decide +kernel
theorem dX9_isStep_6 : decode cX9_isStep 6 = .ok (.getfield 47, 3) := by decide +kernel
theorem dX9_isStep_61 : decode cX9_isStep 61 = .ok (.ifCond .ne 7, 3) := by decide +kernel
theorem dX9_isStep_64 : decode cX9_isStep 64 = .ok (.iconst 1, 1) := by decide +kernel
theorem dX9_isStep_65 : decode cX9_isStep 65 = .ok (.goto 4, 3) := by decide +kernel
theorem dX9_isStep_68 : decode cX9_isStep 68 = .ok (.iconst 0, 1) := by decide +kernel
theorem dX9_isStep_69 : decode cX9_isStep 69 = .ok (.istore_n 1, 1) := by decide +kernel
theorem dX9_isStep_70 : decode cX9_isStep 70 = .ok (.iinc 2 1, 3) := by decide +kernel
theorem dX9_isStep_73 : decode cX9_isStep 73 = .ok (.goto (-34), 3) := by decide +kernel
theorem dX9_isStep_76 : decode cX9_isStep 76 = .ok (.iload_n 1, 1) := by decide +kernel
theorem dX9_isStep_77 : decode cX9_isStep 77 = .ok (.ireturn, 1) := by decide +kernel
theorem dX9_isStep_9 : decode cX9_isStep 9 = .ok (.if_icmp .ge 28, 3) := by decide +kernel
theorem dX9_kindOf_0 : decode cX9_kindOf 0 = .ok (.iconst 1, 1) := by decide +kernel
theorem dX9_kindOf_1 : decode cX9_kindOf 1 = .ok (.istore_n 2, 1) := by decide +kernel
theorem dX9_kindOf_101 : decode cX9_kindOf 101 = .ok (.goto (-76), 3) := by decide +kernel
theorem dX9_kindOf_104 : decode cX9_kindOf 104 = .ok (.iload 4, 2) := by decide +kernel
theorem dX9_kindOf_106 : decode cX9_kindOf 106 = .ok (.ifCond .eq 8, 3) := by decide +kernel
theorem dX9_kindOf_109 : decode cX9_kindOf 109 = .ok (.iload 5, 2) := by decide +kernel
theorem dX9_kindOf_111 : decode cX9_kindOf 111 = .ok (.ifCond .ne 7, 3) := by decide +kernel
theorem dX9_kindOf_114 : decode cX9_kindOf 114 = .ok (.iconst 1, 1) := by decide +kernel
theorem dX9_kindOf_115 : decode cX9_kindOf 115 = .ok (.goto 4, 3) := by decide +kernel
theorem dX9_kindOf_118 : decode cX9_kindOf 118 = .ok (.iconst 0, 1) := by decide +kernel
theorem dX9_kindOf_119 : decode cX9_kindOf 119 = .ok (.istore_n 2, 1) := by decide +kernel
theorem dX9_kindOf_12 : decode cX9_kindOf 12 = .ok (.iload_n 2, 1) := by decide +kernel
theorem dX9_kindOf_120 : decode cX9_kindOf 120 = .ok (.iinc 3 1, 3) := by decide +kernel
theorem dX9_kindOf_123 : decode cX9_kindOf 123 = .ok (.goto (-119), 3) := by decide +kernel
theorem dX9_kindOf_126 : decode cX9_kindOf 126 = .ok (.iconst 1, 1) := by decide +kernel
theorem dX9_kindOf_127 : decode cX9_kindOf 127 = .ok (.istore_n 3, 1) := by decide +kernel
theorem dX9_kindOf_128 : decode cX9_kindOf 128 = .ok (.iconst 0, 1) := by decide +kernel
theorem dX9_kindOf_129 : decode cX9_kindOf 129 = .ok (.istore 4, 2) := by decide +kernel
theorem dX9_kindOf_13 : decode cX9_kindOf 13 = .ok (.ifCond .eq 113, 3) := by decide +kernel
theorem dX9_kindOf_131 : decode cX9_kindOf 131 = .ok (.iload 4, 2) := by decide +kernel
theorem dX9_kindOf_133 : decode cX9_kindOf 133 = .ok (.aload_n 0, 1) := by decide +kernel
theorem dX9_kindOf_134 : decode cX9_kindOf 134 = .ok (.getfield 47, 3) := by decide +kernel
theorem dX9_kindOf_137 : decode cX9_kindOf 137 = .ok (.if_icmp .ge 29, 3) := by decide +kernel
theorem dX9_kindOf_140 : decode cX9_kindOf 140 = .ok (.iload_n 3, 1) := by decide +kernel
theorem dX9_kindOf_141 : decode cX9_kindOf 141 = .ok (.ifCond .eq 17, 3) := by decide +kernel
theorem dX9_kindOf_144 : decode cX9_kindOf 144 = .ok (.aload_n 0, 1) := by decide +kernel
theorem dX9_kindOf_145 : decode cX9_kindOf 145 = .ok (.iload_n 1, 1) := by decide +kernel
theorem dX9_kindOf_146 : decode cX9_kindOf 146 = .ok (.iload 4, 2) := by decide +kernel
theorem dX9_kindOf_148 : decode cX9_kindOf 148 = .ok (.invokevirtual 183, 3) := by decide +kernel
theorem dX9_kindOf_151 : decode cX9_kindOf 151 = .ok (.ifCond .lt 7, 3) := by decide +kernel
theorem dX9_kindOf_154 : decode cX9_kindOf 154 = .ok (.iconst 1, 1) := by decide +kernel
theorem dX9_kindOf_155 : decode cX9_kindOf 155 = .ok (.goto 4, 3) := by decide +kernel
theorem dX9_kindOf_158 : decode cX9_kindOf 158 = .ok (.iconst 0, 1) := by decide +kernel
theorem dX9_kindOf_159 : decode cX9_kindOf 159 = .ok (.istore_n 3, 1) := by decide +kernel
theorem dX9_kindOf_16 : decode cX9_kindOf 16 = .ok (.iconst 1, 1) := by decide +kernel
theorem dX9_kindOf_160 : decode cX9_kindOf 160 = .ok (.iinc 4 1, 3) := by decide +kernel
theorem dX9_kindOf_163 : decode cX9_kindOf 163 = .ok (.goto (-32), 3) := by decide +kernel
theorem dX9_kindOf_166 : decode cX9_kindOf 166 = .ok (.iload_n 2, 1) := by decide +kernel
theorem dX9_kindOf_167 : decode cX9_kindOf 167 = .ok (.ifCond .eq 7, 3) := by decide +kernel
theorem dX9_kindOf_17 : decode cX9_kindOf 17 = .ok (.istore 4, 2) := by decide +kernel
theorem dX9_kindOf_170 : decode cX9_kindOf 170 = .ok (.iconst 3, 1) := by decide +kernel
theorem dX9_kindOf_171 : decode cX9_kindOf 171 = .ok (.goto 12, 3) := by decide +kernel
theorem dX9_kindOf_174 : decode cX9_kindOf 174 = .ok (.iload_n 3, 1) := by decide +kernel
theorem dX9_kindOf_175 : decode cX9_kindOf 175 = .ok (.ifCond .eq 7, 3) := by decide +kernel
theorem dX9_kindOf_178 : decode cX9_kindOf 178 = .ok (.iconst 2, 1) := by decide +kernel
theorem dX9_kindOf_179 : decode cX9_kindOf 179 = .ok (.goto 4, 3) := by decide +kernel
theorem dX9_kindOf_182 : decode cX9_kindOf 182 = .ok (.iconst 1, 1) := by decide +kernel
theorem dX9_kindOf_183 : decode cX9_kindOf 183 = .ok (.ireturn, 1) := by decide +kernel
theorem dX9_kindOf_19 : decode cX9_kindOf 19 = .ok (.iconst 0, 1) := by decide +kernel
theorem dX9_kindOf_2 : decode cX9_kindOf 2 = .ok (.iconst 0, 1) := by decide +kernel
theorem dX9_kindOf_20 : decode cX9_kindOf 20 = .ok (.istore 5, 2) := by decide +kernel
theorem dX9_kindOf_22 : decode cX9_kindOf 22 = .ok (.iconst 0, 1) := by decide +kernel
theorem dX9_kindOf_23 : decode cX9_kindOf 23 = .ok (.istore 6, 2) := by decide +kernel
theorem dX9_kindOf_25 : decode cX9_kindOf 25 = .ok (.iload 6, 2) := by decide +kernel
theorem dX9_kindOf_27 : decode cX9_kindOf 27 = .ok (.aload_n 0, 1) := by decide +kernel
theorem dX9_kindOf_28 : decode cX9_kindOf 28 = .ok (.getfield 47, 3) := by decide +kernel
theorem dX9_kindOf_3 : decode cX9_kindOf 3 = .ok (.istore_n 3, 1) := by decide +kernel
theorem dX9_kindOf_31 : decode cX9_kindOf 31 = .ok (.if_icmp .ge 73, 3) := by decide +kernel
theorem dX9_kindOf_34 : decode cX9_kindOf 34 = .ok (.iload 4, 2) := by decide +kernel
theorem dX9_kindOf_36 : decode cX9_kindOf 36 = .ok (.ifCond .eq 27, 3) := by decide +kernel
theorem dX9_kindOf_39 : decode cX9_kindOf 39 = .ok (.aload_n 0, 1) := by decide +kernel
theorem dX9_kindOf_4 : decode cX9_kindOf 4 = .ok (.iload_n 3, 1) := by decide +kernel
theorem dX9_kindOf_40 : decode cX9_kindOf 40 = .ok (.iload_n 3, 1) := by decide +kernel
theorem dX9_kindOf_41 : decode cX9_kindOf 41 = .ok (.iload 6, 2) := by decide +kernel
theorem dX9_kindOf_43 : decode cX9_kindOf 43 = .ok (.invokevirtual 183, 3) := by decide +kernel
theorem dX9_kindOf_46 : decode cX9_kindOf 46 = .ok (.ifCond .eq 13, 3) := by decide +kernel
theorem dX9_kindOf_49 : decode cX9_kindOf 49 = .ok (.aload_n 0, 1) := by decide +kernel
theorem dX9_kindOf_5 : decode cX9_kindOf 5 = .ok (.aload_n 0, 1) := by decide +kernel
theorem dX9_kindOf_50 : decode cX9_kindOf 50 = .ok (.iload_n 1, 1) := by decide +kernel
theorem dX9_kindOf_51 : decode cX9_kindOf 51 = .ok (.iload 6, 2) := by decide +kernel
theorem dX9_kindOf_53 : decode cX9_kindOf 53 = .ok (.invokevirtual 183, 3) := by decide +kernel
theorem dX9_kindOf_56 : decode cX9_kindOf 56 = .ok (.ifCond .eq 7, 3) := by decide +kernel
theorem dX9_kindOf_59 : decode cX9_kindOf 59 = .ok (.iconst 1, 1) := by decide +kernel
theorem dX9_kindOf_6 : decode cX9_kindOf 6 = .ok (.getfield 163, 3) := by decide +kernel
theorem dX9_kindOf_60 : decode cX9_kindOf 60 = .ok (.goto 4, 3) := by decide +kernel
theorem dX9_kindOf_63 : decode cX9_kindOf 63 = .ok (.iconst 0, 1) := by decide +kernel
theorem dX9_kindOf_64 : decode cX9_kindOf 64 = .ok (.istore 4, 2) := by decide +kernel
theorem dX9_kindOf_66 : decode cX9_kindOf 66 = .ok (.iload 5, 2) := by decide +kernel
theorem dX9_kindOf_68 : decode cX9_kindOf 68 = .ok (.ifCond .ne 23, 3) := by decide +kernel
theorem dX9_kindOf_71 : decode cX9_kindOf 71 = .ok (.aload_n 0, 1) := by decide +kernel
theorem dX9_kindOf_72 : decode cX9_kindOf 72 = .ok (.iload_n 3, 1) := by decide +kernel
theorem dX9_kindOf_73 : decode cX9_kindOf 73 = .ok (.iload 6, 2) := by decide +kernel
theorem dX9_kindOf_75 : decode cX9_kindOf 75 = .ok (.invokevirtual 183, 3) := by decide +kernel
theorem dX9_kindOf_78 : decode cX9_kindOf 78 = .ok (.ifCond .ne 17, 3) := by decide +kernel
theorem dX9_kindOf_81 : decode cX9_kindOf 81 = .ok (.aload_n 0, 1) := by decide +kernel
theorem dX9_kindOf_82 : decode cX9_kindOf 82 = .ok (.iload_n 1, 1) := by decide +kernel
theorem dX9_kindOf_83 : decode cX9_kindOf 83 = .ok (.iload 6, 2) := by decide +kernel
theorem dX9_kindOf_85 : decode cX9_kindOf 85 = .ok (.invokevirtual 183, 3) := by decide +kernel
theorem dX9_kindOf_88 : decode cX9_kindOf 88 = .ok (.ifCond .eq 7, 3) := by decide +kernel
theorem dX9_kindOf_9 : decode cX9_kindOf 9 = .ok (.if_icmp .ge 117, 3) := by decide +kernel
theorem dX9_kindOf_91 : decode cX9_kindOf 91 = .ok (.iconst 1, 1) := by decide +kernel
theorem dX9_kindOf_92 : decode cX9_kindOf 92 = .ok (.goto 4, 3) := by decide +kernel
theorem dX9_kindOf_95 : decode cX9_kindOf 95 = .ok (.iconst 0, 1) := by decide +kernel
theorem dX9_kindOf_96 : decode cX9_kindOf 96 = .ok (.istore 5, 2) := by decide +kernel
theorem dX9_kindOf_98 : decode cX9_kindOf 98 = .ok (.iinc 6 1, 3) := by decide +kernel
theorem dX9_kind_0 : decode cX9_kind 0 = .ok (.aload_n 0, 1) := by decide +kernel
theorem dX9_kind_1 : decode cX9_kind 1 = .ok (.invokevirtual 180, 3) := by decide +kernel
theorem dX9_kind_12 : decode cX9_kind 12 = .ok (.ifCond .eq 11, 3) := by decide +kernel
theorem dX9_kind_15 : decode cX9_kind 15 = .ok (.aload_n 0, 1) := by decide +kernel
theorem dX9_kind_16 : decode cX9_kind 16 = .ok (.iload_n 1, 1) := by decide +kernel
theorem dX9_kind_17 : decode cX9_kind 17 = .ok (.invokevirtual 188, 3) := by decide +kernel
theorem dX9_kind_20 : decode cX9_kind 20 = .ok (.goto 4, 3) := by decide +kernel
theorem dX9_kind_23 : decode cX9_kind 23 = .ok (.iconst 0, 1) := by decide +kernel
theorem dX9_kind_24 : decode cX9_kind 24 = .ok (.ireturn, 1) := by decide +kernel
theorem dX9_kind_4 : decode cX9_kind 4 = .ok (.iload_n 1, 1) := by decide +kernel
theorem dX9_kind_5 : decode cX9_kind 5 = .ok (.aload_n 0, 1) := by decide +kernel
theorem dX9_kind_6 : decode cX9_kind 6 = .ok (.getfield 163, 3) := by decide +kernel
theorem dX9_kind_9 : decode cX9_kind 9 = .ok (.invokestatic 116, 3) := by decide +kernel
theorem dX9_lay_0 : decode cX9_lay 0 = .ok (.iload_n 2, 1) := by decide +kernel
theorem dX9_lay_1 : decode cX9_lay 1 = .ok (.iconst 4, 1) := by decide +kernel
theorem dX9_lay_10 : decode cX9_lay 10 = .ok (.getfield 102, 3) := by decide +kernel
theorem dX9_lay_100 : decode cX9_lay 100 = .ok (.imul, 1) := by decide +kernel
theorem dX9_lay_101 : decode cX9_lay 101 = .ok (.iload_n 3, 1) := by decide +kernel
theorem dX9_lay_102 : decode cX9_lay 102 = .ok (.iadd, 1) := by decide +kernel
theorem dX9_lay_103 : decode cX9_lay 103 = .ok (.iload 6, 2) := by decide +kernel
theorem dX9_lay_105 : decode cX9_lay 105 = .ok (.iadd, 1) := by decide +kernel
theorem dX9_lay_106 : decode cX9_lay 106 = .ok (.laload, 1) := by decide +kernel
theorem dX9_lay_107 : decode cX9_lay 107 = .ok (.goto 4, 3) := by decide +kernel
theorem dX9_lay_110 : decode cX9_lay 110 = .ok (.lconst 0, 1) := by decide +kernel
theorem dX9_lay_111 : decode cX9_lay 111 = .ok (.lstore 7, 2) := by decide +kernel
theorem dX9_lay_113 : decode cX9_lay 113 = .ok (.iload 4, 2) := by decide +kernel
theorem dX9_lay_115 : decode cX9_lay 115 = .ok (.ifCond .ne 12, 3) := by decide +kernel
theorem dX9_lay_118 : decode cX9_lay 118 = .ok (.lload 7, 2) := by decide +kernel
theorem dX9_lay_120 : decode cX9_lay 120 = .ok (.ldc2_w 120, 3) := by decide +kernel
theorem dX9_lay_123 : decode cX9_lay 123 = .ok (.lcmp, 1) := by decide +kernel
theorem dX9_lay_124 : decode cX9_lay 124 = .ok (.ifCond .ge 7, 3) := by decide +kernel
theorem dX9_lay_127 : decode cX9_lay 127 = .ok (.iconst 1, 1) := by decide +kernel
theorem dX9_lay_128 : decode cX9_lay 128 = .ok (.goto 4, 3) := by decide +kernel
theorem dX9_lay_13 : decode cX9_lay 13 = .ok (.invokestatic 116, 3) := by decide +kernel
theorem dX9_lay_131 : decode cX9_lay 131 = .ok (.iconst 0, 1) := by decide +kernel
theorem dX9_lay_132 : decode cX9_lay 132 = .ok (.istore 4, 2) := by decide +kernel
theorem dX9_lay_134 : decode cX9_lay 134 = .ok (.iload 5, 2) := by decide +kernel
theorem dX9_lay_136 : decode cX9_lay 136 = .ok (.ifCond .ne 12, 3) := by decide +kernel
theorem dX9_lay_139 : decode cX9_lay 139 = .ok (.lload 7, 2) := by decide +kernel
theorem dX9_lay_141 : decode cX9_lay 141 = .ok (.ldc2_w 122, 3) := by decide +kernel
theorem dX9_lay_144 : decode cX9_lay 144 = .ok (.lcmp, 1) := by decide +kernel
theorem dX9_lay_145 : decode cX9_lay 145 = .ok (.ifCond .le 7, 3) := by decide +kernel
theorem dX9_lay_148 : decode cX9_lay 148 = .ok (.iconst 1, 1) := by decide +kernel
theorem dX9_lay_149 : decode cX9_lay 149 = .ok (.goto 4, 3) := by decide +kernel
theorem dX9_lay_152 : decode cX9_lay 152 = .ok (.iconst 0, 1) := by decide +kernel
theorem dX9_lay_153 : decode cX9_lay 153 = .ok (.istore 5, 2) := by decide +kernel
theorem dX9_lay_155 : decode cX9_lay 155 = .ok (.iinc 6 1, 3) := by decide +kernel
theorem dX9_lay_158 : decode cX9_lay 158 = .ok (.goto (-87), 3) := by decide +kernel
theorem dX9_lay_16 : decode cX9_lay 16 = .ok (.ifCond .ne 9, 3) := by decide +kernel
theorem dX9_lay_161 : decode cX9_lay 161 = .ok (.iload 4, 2) := by decide +kernel
theorem dX9_lay_163 : decode cX9_lay 163 = .ok (.ifCond .eq 10, 3) := by decide +kernel
theorem dX9_lay_166 : decode cX9_lay 166 = .ok (.aload_n 0, 1) := by decide +kernel
theorem dX9_lay_167 : decode cX9_lay 167 = .ok (.bipush (-4), 2) := by decide +kernel
theorem dX9_lay_169 : decode cX9_lay 169 = .ok (.invokevirtual 112, 3) := by decide +kernel
theorem dX9_lay_172 : decode cX9_lay 172 = .ok (.ireturn, 1) := by decide +kernel
theorem dX9_lay_173 : decode cX9_lay 173 = .ok (.iload 5, 2) := by decide +kernel
theorem dX9_lay_175 : decode cX9_lay 175 = .ok (.ifCond .eq 10, 3) := by decide +kernel
theorem dX9_lay_178 : decode cX9_lay 178 = .ok (.aload_n 0, 1) := by decide +kernel
theorem dX9_lay_179 : decode cX9_lay 179 = .ok (.bipush (-6), 2) := by decide +kernel
theorem dX9_lay_181 : decode cX9_lay 181 = .ok (.invokevirtual 112, 3) := by decide +kernel
theorem dX9_lay_184 : decode cX9_lay 184 = .ok (.ireturn, 1) := by decide +kernel
theorem dX9_lay_185 : decode cX9_lay 185 = .ok (.iconst 0, 1) := by decide +kernel
theorem dX9_lay_186 : decode cX9_lay 186 = .ok (.istore 6, 2) := by decide +kernel
theorem dX9_lay_188 : decode cX9_lay 188 = .ok (.iload 6, 2) := by decide +kernel
theorem dX9_lay_19 : decode cX9_lay 19 = .ok (.aload_n 0, 1) := by decide +kernel
theorem dX9_lay_190 : decode cX9_lay 190 = .ok (.aload_n 0, 1) := by decide +kernel
theorem dX9_lay_191 : decode cX9_lay 191 = .ok (.getfield 47, 3) := by decide +kernel
theorem dX9_lay_194 : decode cX9_lay 194 = .ok (.if_icmp .ge 52, 3) := by decide +kernel
theorem dX9_lay_197 : decode cX9_lay 197 = .ok (.aload_n 0, 1) := by decide +kernel
theorem dX9_lay_198 : decode cX9_lay 198 = .ok (.getfield 9, 3) := by decide +kernel
theorem dX9_lay_2 : decode cX9_lay 2 = .ok (.invokestatic 116, 3) := by decide +kernel
theorem dX9_lay_20 : decode cX9_lay 20 = .ok (.iconst (-1), 1) := by decide +kernel
theorem dX9_lay_201 : decode cX9_lay 201 = .ok (.iconst 4, 1) := by decide +kernel
theorem dX9_lay_202 : decode cX9_lay 202 = .ok (.iload_n 1, 1) := by decide +kernel
theorem dX9_lay_203 : decode cX9_lay 203 = .ok (.imul, 1) := by decide +kernel
theorem dX9_lay_204 : decode cX9_lay 204 = .ok (.iload 6, 2) := by decide +kernel
theorem dX9_lay_206 : decode cX9_lay 206 = .ok (.iadd, 1) := by decide +kernel
theorem dX9_lay_207 : decode cX9_lay 207 = .ok (.iload_n 3, 1) := by decide +kernel
theorem dX9_lay_208 : decode cX9_lay 208 = .ok (.iload 6, 2) := by decide +kernel
theorem dX9_lay_21 : decode cX9_lay 21 = .ok (.invokevirtual 112, 3) := by decide +kernel
theorem dX9_lay_210 : decode cX9_lay 210 = .ok (.iadd, 1) := by decide +kernel
theorem dX9_lay_211 : decode cX9_lay 211 = .ok (.aload_n 0, 1) := by decide +kernel
theorem dX9_lay_212 : decode cX9_lay 212 = .ok (.getfield 37, 3) := by decide +kernel
theorem dX9_lay_215 : decode cX9_lay 215 = .ok (.iload_n 2, 1) := by decide +kernel
theorem dX9_lay_216 : decode cX9_lay 216 = .ok (.iaload, 1) := by decide +kernel
theorem dX9_lay_217 : decode cX9_lay 217 = .ok (.if_icmp .ge 21, 3) := by decide +kernel
theorem dX9_lay_220 : decode cX9_lay 220 = .ok (.aload_n 0, 1) := by decide +kernel
theorem dX9_lay_221 : decode cX9_lay 221 = .ok (.getfield 40, 3) := by decide +kernel
theorem dX9_lay_224 : decode cX9_lay 224 = .ok (.bipush 20, 2) := by decide +kernel
theorem dX9_lay_226 : decode cX9_lay 226 = .ok (.iload_n 2, 1) := by decide +kernel
theorem dX9_lay_227 : decode cX9_lay 227 = .ok (.imul, 1) := by decide +kernel
theorem dX9_lay_228 : decode cX9_lay 228 = .ok (.iload_n 3, 1) := by decide +kernel
theorem dX9_lay_229 : decode cX9_lay 229 = .ok (.iadd, 1) := by decide +kernel
theorem dX9_lay_230 : decode cX9_lay 230 = .ok (.iload 6, 2) := by decide +kernel
theorem dX9_lay_232 : decode cX9_lay 232 = .ok (.iadd, 1) := by decide +kernel
theorem dX9_lay_233 : decode cX9_lay 233 = .ok (.laload, 1) := by decide +kernel
theorem dX9_lay_234 : decode cX9_lay 234 = .ok (.l2i, 1) := by decide +kernel
theorem dX9_lay_235 : decode cX9_lay 235 = .ok (.goto 4, 3) := by decide +kernel
theorem dX9_lay_238 : decode cX9_lay 238 = .ok (.iconst 0, 1) := by decide +kernel
theorem dX9_lay_239 : decode cX9_lay 239 = .ok (.iastore, 1) := by decide +kernel
theorem dX9_lay_24 : decode cX9_lay 24 = .ok (.ireturn, 1) := by decide +kernel
theorem dX9_lay_240 : decode cX9_lay 240 = .ok (.iinc 6 1, 3) := by decide +kernel
theorem dX9_lay_243 : decode cX9_lay 243 = .ok (.goto (-55), 3) := by decide +kernel
theorem dX9_lay_246 : decode cX9_lay 246 = .ok (.aload_n 0, 1) := by decide +kernel
theorem dX9_lay_247 : decode cX9_lay 247 = .ok (.iconst 0, 1) := by decide +kernel
theorem dX9_lay_248 : decode cX9_lay 248 = .ok (.putfield 105, 3) := by decide +kernel
theorem dX9_lay_25 : decode cX9_lay 25 = .ok (.aload_n 0, 1) := by decide +kernel
theorem dX9_lay_251 : decode cX9_lay 251 = .ok (.aload_n 0, 1) := by decide +kernel
theorem dX9_lay_252 : decode cX9_lay 252 = .ok (.iconst 0, 1) := by decide +kernel
theorem dX9_lay_253 : decode cX9_lay 253 = .ok (.putfield 109, 3) := by decide +kernel
theorem dX9_lay_256 : decode cX9_lay 256 = .ok (.iconst 1, 1) := by decide +kernel
theorem dX9_lay_257 : decode cX9_lay 257 = .ok (.ireturn, 1) := by decide +kernel
theorem dX9_lay_26 : decode cX9_lay 26 = .ok (.getfield 34, 3) := by decide +kernel
theorem dX9_lay_29 : decode cX9_lay 29 = .ok (.iload_n 2, 1) := by decide +kernel
theorem dX9_lay_30 : decode cX9_lay 30 = .ok (.iaload, 1) := by decide +kernel
theorem dX9_lay_31 : decode cX9_lay 31 = .ok (.ifCond .ge 10, 3) := by decide +kernel
theorem dX9_lay_34 : decode cX9_lay 34 = .ok (.aload_n 0, 1) := by decide +kernel
theorem dX9_lay_35 : decode cX9_lay 35 = .ok (.bipush (-7), 2) := by decide +kernel
theorem dX9_lay_37 : decode cX9_lay 37 = .ok (.invokevirtual 112, 3) := by decide +kernel
theorem dX9_lay_40 : decode cX9_lay 40 = .ok (.ireturn, 1) := by decide +kernel
theorem dX9_lay_41 : decode cX9_lay 41 = .ok (.iload_n 3, 1) := by decide +kernel
theorem dX9_lay_42 : decode cX9_lay 42 = .ok (.ifCond .lt 13, 3) := by decide +kernel
theorem dX9_lay_45 : decode cX9_lay 45 = .ok (.iload_n 3, 1) := by decide +kernel
theorem dX9_lay_46 : decode cX9_lay 46 = .ok (.aload_n 0, 1) := by decide +kernel
theorem dX9_lay_47 : decode cX9_lay 47 = .ok (.getfield 37, 3) := by decide +kernel
theorem dX9_lay_5 : decode cX9_lay 5 = .ok (.ifCond .eq 14, 3) := by decide +kernel
theorem dX9_lay_50 : decode cX9_lay 50 = .ok (.iload_n 2, 1) := by decide +kernel
theorem dX9_lay_51 : decode cX9_lay 51 = .ok (.iaload, 1) := by decide +kernel
theorem dX9_lay_52 : decode cX9_lay 52 = .ok (.if_icmp .le 10, 3) := by decide +kernel
theorem dX9_lay_55 : decode cX9_lay 55 = .ok (.aload_n 0, 1) := by decide +kernel
theorem dX9_lay_56 : decode cX9_lay 56 = .ok (.bipush (-3), 2) := by decide +kernel
theorem dX9_lay_58 : decode cX9_lay 58 = .ok (.invokevirtual 112, 3) := by decide +kernel
theorem dX9_lay_61 : decode cX9_lay 61 = .ok (.ireturn, 1) := by decide +kernel
theorem dX9_lay_62 : decode cX9_lay 62 = .ok (.iconst 0, 1) := by decide +kernel
theorem dX9_lay_63 : decode cX9_lay 63 = .ok (.istore 4, 2) := by decide +kernel
theorem dX9_lay_65 : decode cX9_lay 65 = .ok (.iconst 0, 1) := by decide +kernel
theorem dX9_lay_66 : decode cX9_lay 66 = .ok (.istore 5, 2) := by decide +kernel
theorem dX9_lay_68 : decode cX9_lay 68 = .ok (.iconst 0, 1) := by decide +kernel
theorem dX9_lay_69 : decode cX9_lay 69 = .ok (.istore 6, 2) := by decide +kernel
theorem dX9_lay_71 : decode cX9_lay 71 = .ok (.iload 6, 2) := by decide +kernel
theorem dX9_lay_73 : decode cX9_lay 73 = .ok (.aload_n 0, 1) := by decide +kernel
theorem dX9_lay_74 : decode cX9_lay 74 = .ok (.getfield 47, 3) := by decide +kernel
theorem dX9_lay_77 : decode cX9_lay 77 = .ok (.if_icmp .ge 84, 3) := by decide +kernel
theorem dX9_lay_8 : decode cX9_lay 8 = .ok (.iload_n 1, 1) := by decide +kernel
theorem dX9_lay_80 : decode cX9_lay 80 = .ok (.iload_n 3, 1) := by decide +kernel
theorem dX9_lay_81 : decode cX9_lay 81 = .ok (.iload 6, 2) := by decide +kernel
theorem dX9_lay_83 : decode cX9_lay 83 = .ok (.iadd, 1) := by decide +kernel
theorem dX9_lay_84 : decode cX9_lay 84 = .ok (.aload_n 0, 1) := by decide +kernel
theorem dX9_lay_85 : decode cX9_lay 85 = .ok (.getfield 37, 3) := by decide +kernel
theorem dX9_lay_88 : decode cX9_lay 88 = .ok (.iload_n 2, 1) := by decide +kernel
theorem dX9_lay_89 : decode cX9_lay 89 = .ok (.iaload, 1) := by decide +kernel
theorem dX9_lay_9 : decode cX9_lay 9 = .ok (.aload_n 0, 1) := by decide +kernel
theorem dX9_lay_90 : decode cX9_lay 90 = .ok (.if_icmp .ge 20, 3) := by decide +kernel
theorem dX9_lay_93 : decode cX9_lay 93 = .ok (.aload_n 0, 1) := by decide +kernel
theorem dX9_lay_94 : decode cX9_lay 94 = .ok (.getfield 40, 3) := by decide +kernel
theorem dX9_lay_97 : decode cX9_lay 97 = .ok (.bipush 20, 2) := by decide +kernel
theorem dX9_lay_99 : decode cX9_lay 99 = .ok (.iload_n 2, 1) := by decide +kernel
theorem dX9_leastOf_0 : decode cX9_leastOf 0 = .ok (.iconst 0, 1) := by decide +kernel
theorem dX9_leastOf_1 : decode cX9_leastOf 1 = .ok (.istore_n 2, 1) := by decide +kernel
theorem dX9_leastOf_10 : decode cX9_leastOf 10 = .ok (.aload_n 0, 1) := by decide +kernel
theorem dX9_leastOf_11 : decode cX9_leastOf 11 = .ok (.getfield 65, 3) := by decide +kernel
theorem dX9_leastOf_14 : decode cX9_leastOf 14 = .ok (.iload_n 2, 1) := by decide +kernel
theorem dX9_leastOf_15 : decode cX9_leastOf 15 = .ok (.aload_n 0, 1) := by decide +kernel
theorem dX9_leastOf_16 : decode cX9_leastOf 16 = .ok (.getfield 52, 3) := by decide +kernel
theorem dX9_leastOf_19 : decode cX9_leastOf 19 = .ok (.iload_n 1, 1) := by decide +kernel
theorem dX9_leastOf_2 : decode cX9_leastOf 2 = .ok (.iload_n 2, 1) := by decide +kernel
theorem dX9_leastOf_20 : decode cX9_leastOf 20 = .ok (.invokestatic 173, 3) := by decide +kernel
theorem dX9_leastOf_23 : decode cX9_leastOf 23 = .ok (.ifCond .eq 4, 3) := by decide +kernel
theorem dX9_leastOf_26 : decode cX9_leastOf 26 = .ok (.return_, 1) := by decide +kernel
theorem dX9_leastOf_27 : decode cX9_leastOf 27 = .ok (.iinc 2 1, 3) := by decide +kernel
theorem dX9_leastOf_3 : decode cX9_leastOf 3 = .ok (.aload_n 0, 1) := by decide +kernel
theorem dX9_leastOf_30 : decode cX9_leastOf 30 = .ok (.goto (-28), 3) := by decide +kernel
theorem dX9_leastOf_33 : decode cX9_leastOf 33 = .ok (.iconst 0, 1) := by decide +kernel
theorem dX9_leastOf_34 : decode cX9_leastOf 34 = .ok (.istore_n 2, 1) := by decide +kernel
theorem dX9_leastOf_35 : decode cX9_leastOf 35 = .ok (.iload_n 2, 1) := by decide +kernel
theorem dX9_leastOf_36 : decode cX9_leastOf 36 = .ok (.iconst 4, 1) := by decide +kernel
theorem dX9_leastOf_37 : decode cX9_leastOf 37 = .ok (.if_icmp .ge 32, 3) := by decide +kernel
theorem dX9_leastOf_4 : decode cX9_leastOf 4 = .ok (.getfield 163, 3) := by decide +kernel
theorem dX9_leastOf_40 : decode cX9_leastOf 40 = .ok (.aload_n 0, 1) := by decide +kernel
theorem dX9_leastOf_41 : decode cX9_leastOf 41 = .ok (.getfield 65, 3) := by decide +kernel
theorem dX9_leastOf_44 : decode cX9_leastOf 44 = .ok (.iconst 4, 1) := by decide +kernel
theorem dX9_leastOf_45 : decode cX9_leastOf 45 = .ok (.aload_n 0, 1) := by decide +kernel
theorem dX9_leastOf_46 : decode cX9_leastOf 46 = .ok (.getfield 163, 3) := by decide +kernel
theorem dX9_leastOf_49 : decode cX9_leastOf 49 = .ok (.imul, 1) := by decide +kernel
theorem dX9_leastOf_50 : decode cX9_leastOf 50 = .ok (.iload_n 2, 1) := by decide +kernel
theorem dX9_leastOf_51 : decode cX9_leastOf 51 = .ok (.iadd, 1) := by decide +kernel
theorem dX9_leastOf_52 : decode cX9_leastOf 52 = .ok (.aload_n 0, 1) := by decide +kernel
theorem dX9_leastOf_53 : decode cX9_leastOf 53 = .ok (.getfield 52, 3) := by decide +kernel
theorem dX9_leastOf_56 : decode cX9_leastOf 56 = .ok (.iconst 4, 1) := by decide +kernel
theorem dX9_leastOf_57 : decode cX9_leastOf 57 = .ok (.iload_n 1, 1) := by decide +kernel
theorem dX9_leastOf_58 : decode cX9_leastOf 58 = .ok (.imul, 1) := by decide +kernel
theorem dX9_leastOf_59 : decode cX9_leastOf 59 = .ok (.iload_n 2, 1) := by decide +kernel
theorem dX9_leastOf_60 : decode cX9_leastOf 60 = .ok (.iadd, 1) := by decide +kernel
theorem dX9_leastOf_61 : decode cX9_leastOf 61 = .ok (.iaload, 1) := by decide +kernel
theorem dX9_leastOf_62 : decode cX9_leastOf 62 = .ok (.iastore, 1) := by decide +kernel
theorem dX9_leastOf_63 : decode cX9_leastOf 63 = .ok (.iinc 2 1, 3) := by decide +kernel
theorem dX9_leastOf_66 : decode cX9_leastOf 66 = .ok (.goto (-31), 3) := by decide +kernel
theorem dX9_leastOf_69 : decode cX9_leastOf 69 = .ok (.aload_n 0, 1) := by decide +kernel
theorem dX9_leastOf_7 : decode cX9_leastOf 7 = .ok (.if_icmp .ge 26, 3) := by decide +kernel
theorem dX9_leastOf_70 : decode cX9_leastOf 70 = .ok (.dup, 1) := by decide +kernel
theorem dX9_leastOf_71 : decode cX9_leastOf 71 = .ok (.getfield 163, 3) := by decide +kernel
theorem dX9_leastOf_74 : decode cX9_leastOf 74 = .ok (.iconst 1, 1) := by decide +kernel
theorem dX9_leastOf_75 : decode cX9_leastOf 75 = .ok (.iadd, 1) := by decide +kernel
theorem dX9_leastOf_76 : decode cX9_leastOf 76 = .ok (.putfield 163, 3) := by decide +kernel
theorem dX9_leastOf_79 : decode cX9_leastOf 79 = .ok (.return_, 1) := by decide +kernel
theorem dX9_least_0 : decode cX9_least 0 = .ok (.aload_n 0, 1) := by decide +kernel
theorem dX9_least_1 : decode cX9_least 1 = .ok (.invokevirtual 180, 3) := by decide +kernel
theorem dX9_least_4 : decode cX9_least 4 = .ok (.aload_n 0, 1) := by decide +kernel
theorem dX9_least_5 : decode cX9_least 5 = .ok (.getfield 163, 3) := by decide +kernel
theorem dX9_least_8 : decode cX9_least 8 = .ok (.ireturn, 1) := by decide +kernel
theorem dX9_leaves_0 : decode cX9_leaves 0 = .ok (.iconst 0, 1) := by decide +kernel
theorem dX9_leaves_1 : decode cX9_leaves 1 = .ok (.istore_n 1, 1) := by decide +kernel
theorem dX9_leaves_11 : decode cX9_leaves 11 = .ok (.iload_n 1, 1) := by decide +kernel
theorem dX9_leaves_12 : decode cX9_leaves 12 = .ok (.aload_n 0, 1) := by decide +kernel
theorem dX9_leaves_13 : decode cX9_leaves 13 = .ok (.getfield 28, 3) := by decide +kernel
theorem dX9_leaves_16 : decode cX9_leaves 16 = .ok (.iload_n 1, 1) := by decide +kernel
theorem dX9_leaves_17 : decode cX9_leaves 17 = .ok (.iaload, 1) := by decide +kernel
theorem dX9_leaves_18 : decode cX9_leaves 18 = .ok (.iastore, 1) := by decide +kernel
theorem dX9_leaves_19 : decode cX9_leaves 19 = .ok (.iinc 1 1, 3) := by decide +kernel
theorem dX9_leaves_2 : decode cX9_leaves 2 = .ok (.iload_n 1, 1) := by decide +kernel
theorem dX9_leaves_22 : decode cX9_leaves 22 = .ok (.goto (-20), 3) := by decide +kernel
theorem dX9_leaves_25 : decode cX9_leaves 25 = .ok (.return_, 1) := by decide +kernel
theorem dX9_leaves_3 : decode cX9_leaves 3 = .ok (.iconst 4, 1) := by decide +kernel
theorem dX9_leaves_4 : decode cX9_leaves 4 = .ok (.if_icmp .ge 21, 3) := by decide +kernel
theorem dX9_leaves_7 : decode cX9_leaves 7 = .ok (.aload_n 0, 1) := by decide +kernel
theorem dX9_leaves_8 : decode cX9_leaves 8 = .ok (.getfield 89, 3) := by decide +kernel
theorem dX9_less_0 : decode cX9_less 0 = .ok (.aload_n 0, 1) := by decide +kernel
theorem dX9_less_1 : decode cX9_less 1 = .ok (.invokevirtual 238, 3) := by decide +kernel
theorem dX9_less_12 : decode cX9_less 12 = .ok (.ifCond .eq 20, 3) := by decide +kernel
theorem dX9_less_15 : decode cX9_less 15 = .ok (.aload_n 0, 1) := by decide +kernel
theorem dX9_less_16 : decode cX9_less 16 = .ok (.aload_n 0, 1) := by decide +kernel
theorem dX9_less_17 : decode cX9_less 17 = .ok (.getfield 96, 3) := by decide +kernel
theorem dX9_less_20 : decode cX9_less 20 = .ok (.iconst 4, 1) := by decide +kernel
theorem dX9_less_21 : decode cX9_less 21 = .ok (.iload_n 1, 1) := by decide +kernel
theorem dX9_less_22 : decode cX9_less 22 = .ok (.imul, 1) := by decide +kernel
theorem dX9_less_23 : decode cX9_less 23 = .ok (.ldc2_w 241, 3) := by decide +kernel
theorem dX9_less_26 : decode cX9_less 26 = .ok (.invokevirtual 216, 3) := by decide +kernel
theorem dX9_less_29 : decode cX9_less 29 = .ok (.goto 8, 3) := by decide +kernel
theorem dX9_less_32 : decode cX9_less 32 = .ok (.aload_n 0, 1) := by decide +kernel
theorem dX9_less_33 : decode cX9_less 33 = .ok (.iconst (-1), 1) := by decide +kernel
theorem dX9_less_34 : decode cX9_less 34 = .ok (.invokevirtual 112, 3) := by decide +kernel
theorem dX9_less_37 : decode cX9_less 37 = .ok (.ireturn, 1) := by decide +kernel
theorem dX9_less_4 : decode cX9_less 4 = .ok (.iload_n 1, 1) := by decide +kernel
theorem dX9_less_5 : decode cX9_less 5 = .ok (.aload_n 0, 1) := by decide +kernel
theorem dX9_less_6 : decode cX9_less 6 = .ok (.getfield 232, 3) := by decide +kernel
theorem dX9_less_9 : decode cX9_less 9 = .ok (.invokestatic 116, 3) := by decide +kernel
theorem dX9_makes_0 : decode cX9_makes 0 = .ok (.aload_n 0, 1) := by decide +kernel
theorem dX9_makes_1 : decode cX9_makes 1 = .ok (.aload_n 0, 1) := by decide +kernel
theorem dX9_makes_10 : decode cX9_makes 10 = .ok (.iaload, 1) := by decide +kernel
theorem dX9_makes_100 : decode cX9_makes 100 = .ok (.invokevirtual 124, 3) := by decide +kernel
theorem dX9_makes_103 : decode cX9_makes 103 = .ok (.aload_n 0, 1) := by decide +kernel
theorem dX9_makes_104 : decode cX9_makes 104 = .ok (.getfield 80, 3) := by decide +kernel
theorem dX9_makes_107 : decode cX9_makes 107 = .ok (.aload_n 0, 1) := by decide +kernel
theorem dX9_makes_108 : decode cX9_makes 108 = .ok (.getfield 77, 3) := by decide +kernel
theorem dX9_makes_11 : decode cX9_makes 11 = .ok (.aload_n 0, 1) := by decide +kernel
theorem dX9_makes_111 : decode cX9_makes 111 = .ok (.iload 5, 2) := by decide +kernel
theorem dX9_makes_113 : decode cX9_makes 113 = .ok (.iaload, 1) := by decide +kernel
theorem dX9_makes_114 : decode cX9_makes 114 = .ok (.iaload, 1) := by decide +kernel
theorem dX9_makes_115 : decode cX9_makes 115 = .ok (.i2l, 1) := by decide +kernel
theorem dX9_makes_116 : decode cX9_makes 116 = .ok (.lmul, 1) := by decide +kernel
theorem dX9_makes_117 : decode cX9_makes 117 = .ok (.lsub, 1) := by decide +kernel
theorem dX9_makes_118 : decode cX9_makes 118 = .ok (.lastore, 1) := by decide +kernel
theorem dX9_makes_119 : decode cX9_makes 119 = .ok (.iinc 5 1, 3) := by decide +kernel
theorem dX9_makes_12 : decode cX9_makes 12 = .ok (.getfield 74, 3) := by decide +kernel
theorem dX9_makes_122 : decode cX9_makes 122 = .ok (.goto (-54), 3) := by decide +kernel
theorem dX9_makes_125 : decode cX9_makes 125 = .ok (.iinc 4 1, 3) := by decide +kernel
theorem dX9_makes_128 : decode cX9_makes 128 = .ok (.goto (-80), 3) := by decide +kernel
theorem dX9_makes_131 : decode cX9_makes 131 = .ok (.iconst 0, 1) := by decide +kernel
theorem dX9_makes_132 : decode cX9_makes 132 = .ok (.istore 4, 2) := by decide +kernel
theorem dX9_makes_134 : decode cX9_makes 134 = .ok (.iload 4, 2) := by decide +kernel
theorem dX9_makes_136 : decode cX9_makes 136 = .ok (.aload_n 0, 1) := by decide +kernel
theorem dX9_makes_137 : decode cX9_makes 137 = .ok (.getfield 142, 3) := by decide +kernel
theorem dX9_makes_140 : decode cX9_makes 140 = .ok (.if_icmp .ge 70, 3) := by decide +kernel
theorem dX9_makes_143 : decode cX9_makes 143 = .ok (.aload_n 0, 1) := by decide +kernel
theorem dX9_makes_144 : decode cX9_makes 144 = .ok (.iload 4, 2) := by decide +kernel
theorem dX9_makes_146 : decode cX9_makes 146 = .ok (.aload_n 0, 1) := by decide +kernel
theorem dX9_makes_147 : decode cX9_makes 147 = .ok (.getfield 86, 3) := by decide +kernel
theorem dX9_makes_15 : decode cX9_makes 15 = .ok (.iconst 1, 1) := by decide +kernel
theorem dX9_makes_150 : decode cX9_makes 150 = .ok (.invokevirtual 145, 3) := by decide +kernel
theorem dX9_makes_153 : decode cX9_makes 153 = .ok (.lstore 5, 2) := by decide +kernel
theorem dX9_makes_155 : decode cX9_makes 155 = .ok (.lload 5, 2) := by decide +kernel
theorem dX9_makes_157 : decode cX9_makes 157 = .ok (.lload_n 2, 1) := by decide +kernel
theorem dX9_makes_158 : decode cX9_makes 158 = .ok (.lrem, 1) := by decide +kernel
theorem dX9_makes_159 : decode cX9_makes 159 = .ok (.lconst 0, 1) := by decide +kernel
theorem dX9_makes_16 : decode cX9_makes 16 = .ok (.iaload, 1) := by decide +kernel
theorem dX9_makes_160 : decode cX9_makes 160 = .ok (.lcmp, 1) := by decide +kernel
theorem dX9_makes_161 : decode cX9_makes 161 = .ok (.ifCond .ne 24, 3) := by decide +kernel
theorem dX9_makes_164 : decode cX9_makes 164 = .ok (.lload 5, 2) := by decide +kernel
theorem dX9_makes_166 : decode cX9_makes 166 = .ok (.lload_n 2, 1) := by decide +kernel
theorem dX9_makes_167 : decode cX9_makes 167 = .ok (.ldiv, 1) := by decide +kernel
theorem dX9_makes_168 : decode cX9_makes 168 = .ok (.iload_n 1, 1) := by decide +kernel
theorem dX9_makes_169 : decode cX9_makes 169 = .ok (.i2l, 1) := by decide +kernel
theorem dX9_makes_17 : decode cX9_makes 17 = .ok (.aload_n 0, 1) := by decide +kernel
theorem dX9_makes_170 : decode cX9_makes 170 = .ok (.lcmp, 1) := by decide +kernel
theorem dX9_makes_171 : decode cX9_makes 171 = .ok (.ifCond .gt 14, 3) := by decide +kernel
theorem dX9_makes_174 : decode cX9_makes 174 = .ok (.lload 5, 2) := by decide +kernel
theorem dX9_makes_176 : decode cX9_makes 176 = .ok (.lload_n 2, 1) := by decide +kernel
theorem dX9_makes_177 : decode cX9_makes 177 = .ok (.ldiv, 1) := by decide +kernel
theorem dX9_makes_178 : decode cX9_makes 178 = .ok (.iload_n 1, 1) := by decide +kernel
theorem dX9_makes_179 : decode cX9_makes 179 = .ok (.ineg, 1) := by decide +kernel
theorem dX9_makes_18 : decode cX9_makes 18 = .ok (.getfield 74, 3) := by decide +kernel
theorem dX9_makes_180 : decode cX9_makes 180 = .ok (.i2l, 1) := by decide +kernel
theorem dX9_makes_181 : decode cX9_makes 181 = .ok (.lcmp, 1) := by decide +kernel
theorem dX9_makes_182 : decode cX9_makes 182 = .ok (.ifCond .ge 5, 3) := by decide +kernel
theorem dX9_makes_185 : decode cX9_makes 185 = .ok (.iconst 0, 1) := by decide +kernel
theorem dX9_makes_186 : decode cX9_makes 186 = .ok (.ireturn, 1) := by decide +kernel
theorem dX9_makes_187 : decode cX9_makes 187 = .ok (.aload_n 0, 1) := by decide +kernel
theorem dX9_makes_188 : decode cX9_makes 188 = .ok (.getfield 80, 3) := by decide +kernel
theorem dX9_makes_191 : decode cX9_makes 191 = .ok (.aload_n 0, 1) := by decide +kernel
theorem dX9_makes_192 : decode cX9_makes 192 = .ok (.getfield 71, 3) := by decide +kernel
theorem dX9_makes_195 : decode cX9_makes 195 = .ok (.iload 4, 2) := by decide +kernel
theorem dX9_makes_197 : decode cX9_makes 197 = .ok (.iaload, 1) := by decide +kernel
theorem dX9_makes_198 : decode cX9_makes 198 = .ok (.lload 5, 2) := by decide +kernel
theorem dX9_makes_2 : decode cX9_makes 2 = .ok (.getfield 142, 3) := by decide +kernel
theorem dX9_makes_200 : decode cX9_makes 200 = .ok (.lload_n 2, 1) := by decide +kernel
theorem dX9_makes_201 : decode cX9_makes 201 = .ok (.ldiv, 1) := by decide +kernel
theorem dX9_makes_202 : decode cX9_makes 202 = .ok (.l2i, 1) := by decide +kernel
theorem dX9_makes_203 : decode cX9_makes 203 = .ok (.iastore, 1) := by decide +kernel
theorem dX9_makes_204 : decode cX9_makes 204 = .ok (.iinc 4 1, 3) := by decide +kernel
theorem dX9_makes_207 : decode cX9_makes 207 = .ok (.goto (-73), 3) := by decide +kernel
theorem dX9_makes_21 : decode cX9_makes 21 = .ok (.iconst 2, 1) := by decide +kernel
theorem dX9_makes_210 : decode cX9_makes 210 = .ok (.iconst 0, 1) := by decide +kernel
theorem dX9_makes_211 : decode cX9_makes 211 = .ok (.istore 4, 2) := by decide +kernel
theorem dX9_makes_213 : decode cX9_makes 213 = .ok (.iconst 0, 1) := by decide +kernel
theorem dX9_makes_214 : decode cX9_makes 214 = .ok (.istore 5, 2) := by decide +kernel
theorem dX9_makes_216 : decode cX9_makes 216 = .ok (.iload 5, 2) := by decide +kernel
theorem dX9_makes_218 : decode cX9_makes 218 = .ok (.aload_n 0, 1) := by decide +kernel
theorem dX9_makes_219 : decode cX9_makes 219 = .ok (.getfield 47, 3) := by decide +kernel
theorem dX9_makes_22 : decode cX9_makes 22 = .ok (.iaload, 1) := by decide +kernel
theorem dX9_makes_222 : decode cX9_makes 222 = .ok (.if_icmp .ge 31, 3) := by decide +kernel
theorem dX9_makes_225 : decode cX9_makes 225 = .ok (.iload 4, 2) := by decide +kernel
theorem dX9_makes_227 : decode cX9_makes 227 = .ok (.ifCond .ne 13, 3) := by decide +kernel
theorem dX9_makes_23 : decode cX9_makes 23 = .ok (.aload_n 0, 1) := by decide +kernel
theorem dX9_makes_230 : decode cX9_makes 230 = .ok (.aload_n 0, 1) := by decide +kernel
theorem dX9_makes_231 : decode cX9_makes 231 = .ok (.getfield 80, 3) := by decide +kernel
theorem dX9_makes_234 : decode cX9_makes 234 = .ok (.iload 5, 2) := by decide +kernel
theorem dX9_makes_236 : decode cX9_makes 236 = .ok (.iaload, 1) := by decide +kernel
theorem dX9_makes_237 : decode cX9_makes 237 = .ok (.ifCond .eq 7, 3) := by decide +kernel
theorem dX9_makes_24 : decode cX9_makes 24 = .ok (.getfield 71, 3) := by decide +kernel
theorem dX9_makes_240 : decode cX9_makes 240 = .ok (.iconst 1, 1) := by decide +kernel
theorem dX9_makes_241 : decode cX9_makes 241 = .ok (.goto 4, 3) := by decide +kernel
theorem dX9_makes_244 : decode cX9_makes 244 = .ok (.iconst 0, 1) := by decide +kernel
theorem dX9_makes_245 : decode cX9_makes 245 = .ok (.istore 4, 2) := by decide +kernel
theorem dX9_makes_247 : decode cX9_makes 247 = .ok (.iinc 5 1, 3) := by decide +kernel
theorem dX9_makes_250 : decode cX9_makes 250 = .ok (.goto (-34), 3) := by decide +kernel
theorem dX9_makes_253 : decode cX9_makes 253 = .ok (.iload 4, 2) := by decide +kernel
theorem dX9_makes_255 : decode cX9_makes 255 = .ok (.ireturn, 1) := by decide +kernel
theorem dX9_makes_27 : decode cX9_makes 27 = .ok (.iconst 0, 1) := by decide +kernel
theorem dX9_makes_28 : decode cX9_makes 28 = .ok (.iaload, 1) := by decide +kernel
theorem dX9_makes_29 : decode cX9_makes 29 = .ok (.aload_n 0, 1) := by decide +kernel
theorem dX9_makes_30 : decode cX9_makes 30 = .ok (.getfield 71, 3) := by decide +kernel
theorem dX9_makes_33 : decode cX9_makes 33 = .ok (.iconst 1, 1) := by decide +kernel
theorem dX9_makes_34 : decode cX9_makes 34 = .ok (.iaload, 1) := by decide +kernel
theorem dX9_makes_35 : decode cX9_makes 35 = .ok (.aload_n 0, 1) := by decide +kernel
theorem dX9_makes_36 : decode cX9_makes 36 = .ok (.getfield 71, 3) := by decide +kernel
theorem dX9_makes_39 : decode cX9_makes 39 = .ok (.iconst 2, 1) := by decide +kernel
theorem dX9_makes_40 : decode cX9_makes 40 = .ok (.iaload, 1) := by decide +kernel
theorem dX9_makes_41 : decode cX9_makes 41 = .ok (.invokevirtual 135, 3) := by decide +kernel
theorem dX9_makes_44 : decode cX9_makes 44 = .ok (.lstore_n 2, 1) := by decide +kernel
theorem dX9_makes_45 : decode cX9_makes 45 = .ok (.iconst 0, 1) := by decide +kernel
theorem dX9_makes_46 : decode cX9_makes 46 = .ok (.istore 4, 2) := by decide +kernel
theorem dX9_makes_48 : decode cX9_makes 48 = .ok (.iload 4, 2) := by decide +kernel
theorem dX9_makes_5 : decode cX9_makes 5 = .ok (.aload_n 0, 1) := by decide +kernel
theorem dX9_makes_50 : decode cX9_makes 50 = .ok (.aload_n 0, 1) := by decide +kernel
theorem dX9_makes_51 : decode cX9_makes 51 = .ok (.getfield 142, 3) := by decide +kernel
theorem dX9_makes_54 : decode cX9_makes 54 = .ok (.if_icmp .ge 77, 3) := by decide +kernel
theorem dX9_makes_57 : decode cX9_makes 57 = .ok (.aload_n 0, 1) := by decide +kernel
theorem dX9_makes_58 : decode cX9_makes 58 = .ok (.getfield 86, 3) := by decide +kernel
theorem dX9_makes_6 : decode cX9_makes 6 = .ok (.getfield 74, 3) := by decide +kernel
theorem dX9_makes_61 : decode cX9_makes 61 = .ok (.iload 4, 2) := by decide +kernel
theorem dX9_makes_63 : decode cX9_makes 63 = .ok (.lconst 0, 1) := by decide +kernel
theorem dX9_makes_64 : decode cX9_makes 64 = .ok (.lastore, 1) := by decide +kernel
theorem dX9_makes_65 : decode cX9_makes 65 = .ok (.iconst 0, 1) := by decide +kernel
theorem dX9_makes_66 : decode cX9_makes 66 = .ok (.istore 5, 2) := by decide +kernel
theorem dX9_makes_68 : decode cX9_makes 68 = .ok (.iload 5, 2) := by decide +kernel
theorem dX9_makes_70 : decode cX9_makes 70 = .ok (.aload_n 0, 1) := by decide +kernel
theorem dX9_makes_71 : decode cX9_makes 71 = .ok (.getfield 139, 3) := by decide +kernel
theorem dX9_makes_74 : decode cX9_makes 74 = .ok (.if_icmp .ge 51, 3) := by decide +kernel
theorem dX9_makes_77 : decode cX9_makes 77 = .ok (.aload_n 0, 1) := by decide +kernel
theorem dX9_makes_78 : decode cX9_makes 78 = .ok (.getfield 86, 3) := by decide +kernel
theorem dX9_makes_81 : decode cX9_makes 81 = .ok (.iload 4, 2) := by decide +kernel
theorem dX9_makes_83 : decode cX9_makes 83 = .ok (.dup2, 1) := by decide +kernel
theorem dX9_makes_84 : decode cX9_makes 84 = .ok (.laload, 1) := by decide +kernel
theorem dX9_makes_85 : decode cX9_makes 85 = .ok (.aload_n 0, 1) := by decide +kernel
theorem dX9_makes_86 : decode cX9_makes 86 = .ok (.aload_n 0, 1) := by decide +kernel
theorem dX9_makes_87 : decode cX9_makes 87 = .ok (.getfield 74, 3) := by decide +kernel
theorem dX9_makes_9 : decode cX9_makes 9 = .ok (.iconst 0, 1) := by decide +kernel
theorem dX9_makes_90 : decode cX9_makes 90 = .ok (.iload 4, 2) := by decide +kernel
theorem dX9_makes_92 : decode cX9_makes 92 = .ok (.iaload, 1) := by decide +kernel
theorem dX9_makes_93 : decode cX9_makes 93 = .ok (.aload_n 0, 1) := by decide +kernel
theorem dX9_makes_94 : decode cX9_makes 94 = .ok (.getfield 77, 3) := by decide +kernel
theorem dX9_makes_97 : decode cX9_makes 97 = .ok (.iload 5, 2) := by decide +kernel
theorem dX9_makes_99 : decode cX9_makes 99 = .ok (.iaload, 1) := by decide +kernel
theorem dX9_minor_0 : decode cX9_minor 0 = .ok (.iload_n 1, 1) := by decide +kernel
theorem dX9_minor_1 : decode cX9_minor 1 = .ok (.ifCond .ne 5, 3) := by decide +kernel
theorem dX9_minor_101 : decode cX9_minor 101 = .ok (.invokevirtual 124, 3) := by decide +kernel
theorem dX9_minor_104 : decode cX9_minor 104 = .ok (.aload_n 0, 1) := by decide +kernel
theorem dX9_minor_105 : decode cX9_minor 105 = .ok (.iload_n 3, 1) := by decide +kernel
theorem dX9_minor_106 : decode cX9_minor 106 = .ok (.iload 5, 2) := by decide +kernel
theorem dX9_minor_108 : decode cX9_minor 108 = .ok (.invokevirtual 124, 3) := by decide +kernel
theorem dX9_minor_11 : decode cX9_minor 11 = .ok (.aload_n 0, 1) := by decide +kernel
theorem dX9_minor_111 : decode cX9_minor 111 = .ok (.aload_n 0, 1) := by decide +kernel
theorem dX9_minor_112 : decode cX9_minor 112 = .ok (.iload 4, 2) := by decide +kernel
theorem dX9_minor_114 : decode cX9_minor 114 = .ok (.iload 7, 2) := by decide +kernel
theorem dX9_minor_116 : decode cX9_minor 116 = .ok (.invokevirtual 124, 3) := by decide +kernel
theorem dX9_minor_119 : decode cX9_minor 119 = .ok (.lmul, 1) := by decide +kernel
theorem dX9_minor_12 : decode cX9_minor 12 = .ok (.iload_n 2, 1) := by decide +kernel
theorem dX9_minor_120 : decode cX9_minor 120 = .ok (.aload_n 0, 1) := by decide +kernel
theorem dX9_minor_121 : decode cX9_minor 121 = .ok (.iload_n 3, 1) := by decide +kernel
theorem dX9_minor_122 : decode cX9_minor 122 = .ok (.iload 7, 2) := by decide +kernel
theorem dX9_minor_124 : decode cX9_minor 124 = .ok (.invokevirtual 124, 3) := by decide +kernel
theorem dX9_minor_127 : decode cX9_minor 127 = .ok (.aload_n 0, 1) := by decide +kernel
theorem dX9_minor_128 : decode cX9_minor 128 = .ok (.iload 4, 2) := by decide +kernel
theorem dX9_minor_13 : decode cX9_minor 13 = .ok (.iload 5, 2) := by decide +kernel
theorem dX9_minor_130 : decode cX9_minor 130 = .ok (.iload 5, 2) := by decide +kernel
theorem dX9_minor_132 : decode cX9_minor 132 = .ok (.invokevirtual 124, 3) := by decide +kernel
theorem dX9_minor_135 : decode cX9_minor 135 = .ok (.lmul, 1) := by decide +kernel
theorem dX9_minor_136 : decode cX9_minor 136 = .ok (.lsub, 1) := by decide +kernel
theorem dX9_minor_137 : decode cX9_minor 137 = .ok (.lmul, 1) := by decide +kernel
theorem dX9_minor_138 : decode cX9_minor 138 = .ok (.lsub, 1) := by decide +kernel
theorem dX9_minor_139 : decode cX9_minor 139 = .ok (.aload_n 0, 1) := by decide +kernel
theorem dX9_minor_140 : decode cX9_minor 140 = .ok (.iload_n 2, 1) := by decide +kernel
theorem dX9_minor_141 : decode cX9_minor 141 = .ok (.iload 7, 2) := by decide +kernel
theorem dX9_minor_143 : decode cX9_minor 143 = .ok (.invokevirtual 124, 3) := by decide +kernel
theorem dX9_minor_146 : decode cX9_minor 146 = .ok (.aload_n 0, 1) := by decide +kernel
theorem dX9_minor_147 : decode cX9_minor 147 = .ok (.iload_n 3, 1) := by decide +kernel
theorem dX9_minor_148 : decode cX9_minor 148 = .ok (.iload 5, 2) := by decide +kernel
theorem dX9_minor_15 : decode cX9_minor 15 = .ok (.invokevirtual 124, 3) := by decide +kernel
theorem dX9_minor_150 : decode cX9_minor 150 = .ok (.invokevirtual 124, 3) := by decide +kernel
theorem dX9_minor_153 : decode cX9_minor 153 = .ok (.aload_n 0, 1) := by decide +kernel
theorem dX9_minor_154 : decode cX9_minor 154 = .ok (.iload 4, 2) := by decide +kernel
theorem dX9_minor_156 : decode cX9_minor 156 = .ok (.iload 6, 2) := by decide +kernel
theorem dX9_minor_158 : decode cX9_minor 158 = .ok (.invokevirtual 124, 3) := by decide +kernel
theorem dX9_minor_161 : decode cX9_minor 161 = .ok (.lmul, 1) := by decide +kernel
theorem dX9_minor_162 : decode cX9_minor 162 = .ok (.aload_n 0, 1) := by decide +kernel
theorem dX9_minor_163 : decode cX9_minor 163 = .ok (.iload_n 3, 1) := by decide +kernel
theorem dX9_minor_164 : decode cX9_minor 164 = .ok (.iload 6, 2) := by decide +kernel
theorem dX9_minor_166 : decode cX9_minor 166 = .ok (.invokevirtual 124, 3) := by decide +kernel
theorem dX9_minor_169 : decode cX9_minor 169 = .ok (.aload_n 0, 1) := by decide +kernel
theorem dX9_minor_170 : decode cX9_minor 170 = .ok (.iload 4, 2) := by decide +kernel
theorem dX9_minor_172 : decode cX9_minor 172 = .ok (.iload 5, 2) := by decide +kernel
theorem dX9_minor_174 : decode cX9_minor 174 = .ok (.invokevirtual 124, 3) := by decide +kernel
theorem dX9_minor_177 : decode cX9_minor 177 = .ok (.lmul, 1) := by decide +kernel
theorem dX9_minor_178 : decode cX9_minor 178 = .ok (.lsub, 1) := by decide +kernel
theorem dX9_minor_179 : decode cX9_minor 179 = .ok (.lmul, 1) := by decide +kernel
theorem dX9_minor_18 : decode cX9_minor 18 = .ok (.lreturn, 1) := by decide +kernel
theorem dX9_minor_180 : decode cX9_minor 180 = .ok (.ladd, 1) := by decide +kernel
theorem dX9_minor_181 : decode cX9_minor 181 = .ok (.lreturn, 1) := by decide +kernel
theorem dX9_minor_19 : decode cX9_minor 19 = .ok (.iload_n 1, 1) := by decide +kernel
theorem dX9_minor_20 : decode cX9_minor 20 = .ok (.iconst 2, 1) := by decide +kernel
theorem dX9_minor_21 : decode cX9_minor 21 = .ok (.if_icmp .ne 35, 3) := by decide +kernel
theorem dX9_minor_24 : decode cX9_minor 24 = .ok (.aload_n 0, 1) := by decide +kernel
theorem dX9_minor_25 : decode cX9_minor 25 = .ok (.iload_n 2, 1) := by decide +kernel
theorem dX9_minor_26 : decode cX9_minor 26 = .ok (.iload 5, 2) := by decide +kernel
theorem dX9_minor_28 : decode cX9_minor 28 = .ok (.invokevirtual 124, 3) := by decide +kernel
theorem dX9_minor_31 : decode cX9_minor 31 = .ok (.aload_n 0, 1) := by decide +kernel
theorem dX9_minor_32 : decode cX9_minor 32 = .ok (.iload_n 3, 1) := by decide +kernel
theorem dX9_minor_33 : decode cX9_minor 33 = .ok (.iload 6, 2) := by decide +kernel
theorem dX9_minor_35 : decode cX9_minor 35 = .ok (.invokevirtual 124, 3) := by decide +kernel
theorem dX9_minor_38 : decode cX9_minor 38 = .ok (.lmul, 1) := by decide +kernel
theorem dX9_minor_39 : decode cX9_minor 39 = .ok (.aload_n 0, 1) := by decide +kernel
theorem dX9_minor_4 : decode cX9_minor 4 = .ok (.lconst 1, 1) := by decide +kernel
theorem dX9_minor_40 : decode cX9_minor 40 = .ok (.iload_n 2, 1) := by decide +kernel
theorem dX9_minor_41 : decode cX9_minor 41 = .ok (.iload 6, 2) := by decide +kernel
theorem dX9_minor_43 : decode cX9_minor 43 = .ok (.invokevirtual 124, 3) := by decide +kernel
theorem dX9_minor_46 : decode cX9_minor 46 = .ok (.aload_n 0, 1) := by decide +kernel
theorem dX9_minor_47 : decode cX9_minor 47 = .ok (.iload_n 3, 1) := by decide +kernel
theorem dX9_minor_48 : decode cX9_minor 48 = .ok (.iload 5, 2) := by decide +kernel
theorem dX9_minor_5 : decode cX9_minor 5 = .ok (.lreturn, 1) := by decide +kernel
theorem dX9_minor_50 : decode cX9_minor 50 = .ok (.invokevirtual 124, 3) := by decide +kernel
theorem dX9_minor_53 : decode cX9_minor 53 = .ok (.lmul, 1) := by decide +kernel
theorem dX9_minor_54 : decode cX9_minor 54 = .ok (.lsub, 1) := by decide +kernel
theorem dX9_minor_55 : decode cX9_minor 55 = .ok (.lreturn, 1) := by decide +kernel
theorem dX9_minor_56 : decode cX9_minor 56 = .ok (.aload_n 0, 1) := by decide +kernel
theorem dX9_minor_57 : decode cX9_minor 57 = .ok (.iload_n 2, 1) := by decide +kernel
theorem dX9_minor_58 : decode cX9_minor 58 = .ok (.iload 5, 2) := by decide +kernel
theorem dX9_minor_6 : decode cX9_minor 6 = .ok (.iload_n 1, 1) := by decide +kernel
theorem dX9_minor_60 : decode cX9_minor 60 = .ok (.invokevirtual 124, 3) := by decide +kernel
theorem dX9_minor_63 : decode cX9_minor 63 = .ok (.aload_n 0, 1) := by decide +kernel
theorem dX9_minor_64 : decode cX9_minor 64 = .ok (.iload_n 3, 1) := by decide +kernel
theorem dX9_minor_65 : decode cX9_minor 65 = .ok (.iload 6, 2) := by decide +kernel
theorem dX9_minor_67 : decode cX9_minor 67 = .ok (.invokevirtual 124, 3) := by decide +kernel
theorem dX9_minor_7 : decode cX9_minor 7 = .ok (.iconst 1, 1) := by decide +kernel
theorem dX9_minor_70 : decode cX9_minor 70 = .ok (.aload_n 0, 1) := by decide +kernel
theorem dX9_minor_71 : decode cX9_minor 71 = .ok (.iload 4, 2) := by decide +kernel
theorem dX9_minor_73 : decode cX9_minor 73 = .ok (.iload 7, 2) := by decide +kernel
theorem dX9_minor_75 : decode cX9_minor 75 = .ok (.invokevirtual 124, 3) := by decide +kernel
theorem dX9_minor_78 : decode cX9_minor 78 = .ok (.lmul, 1) := by decide +kernel
theorem dX9_minor_79 : decode cX9_minor 79 = .ok (.aload_n 0, 1) := by decide +kernel
theorem dX9_minor_8 : decode cX9_minor 8 = .ok (.if_icmp .ne 11, 3) := by decide +kernel
theorem dX9_minor_80 : decode cX9_minor 80 = .ok (.iload_n 3, 1) := by decide +kernel
theorem dX9_minor_81 : decode cX9_minor 81 = .ok (.iload 7, 2) := by decide +kernel
theorem dX9_minor_83 : decode cX9_minor 83 = .ok (.invokevirtual 124, 3) := by decide +kernel
theorem dX9_minor_86 : decode cX9_minor 86 = .ok (.aload_n 0, 1) := by decide +kernel
theorem dX9_minor_87 : decode cX9_minor 87 = .ok (.iload 4, 2) := by decide +kernel
theorem dX9_minor_89 : decode cX9_minor 89 = .ok (.iload 6, 2) := by decide +kernel
theorem dX9_minor_91 : decode cX9_minor 91 = .ok (.invokevirtual 124, 3) := by decide +kernel
theorem dX9_minor_94 : decode cX9_minor 94 = .ok (.lmul, 1) := by decide +kernel
theorem dX9_minor_95 : decode cX9_minor 95 = .ok (.lsub, 1) := by decide +kernel
theorem dX9_minor_96 : decode cX9_minor 96 = .ok (.lmul, 1) := by decide +kernel
theorem dX9_minor_97 : decode cX9_minor 97 = .ok (.aload_n 0, 1) := by decide +kernel
theorem dX9_minor_98 : decode cX9_minor 98 = .ok (.iload_n 2, 1) := by decide +kernel
theorem dX9_minor_99 : decode cX9_minor 99 = .ok (.iload 6, 2) := by decide +kernel
theorem dX9_near_0 : decode cX9_near 0 = .ok (.aload_n 0, 1) := by decide +kernel
theorem dX9_near_1 : decode cX9_near 1 = .ok (.invokevirtual 238, 3) := by decide +kernel
theorem dX9_near_100 : decode cX9_near 100 = .ok (.istore_n 2, 1) := by decide +kernel
theorem dX9_near_101 : decode cX9_near 101 = .ok (.iinc 3 1, 3) := by decide +kernel
theorem dX9_near_104 : decode cX9_near 104 = .ok (.goto (-75), 3) := by decide +kernel
theorem dX9_near_107 : decode cX9_near 107 = .ok (.iload_n 2, 1) := by decide +kernel
theorem dX9_near_108 : decode cX9_near 108 = .ok (.ireturn, 1) := by decide +kernel
theorem dX9_near_12 : decode cX9_near 12 = .ok (.ifCond .ne 9, 3) := by decide +kernel
theorem dX9_near_15 : decode cX9_near 15 = .ok (.aload_n 0, 1) := by decide +kernel
theorem dX9_near_16 : decode cX9_near 16 = .ok (.iconst (-1), 1) := by decide +kernel
theorem dX9_near_17 : decode cX9_near 17 = .ok (.invokevirtual 112, 3) := by decide +kernel
theorem dX9_near_20 : decode cX9_near 20 = .ok (.ireturn, 1) := by decide +kernel
theorem dX9_near_21 : decode cX9_near 21 = .ok (.aload_n 0, 1) := by decide +kernel
theorem dX9_near_22 : decode cX9_near 22 = .ok (.invokevirtual 180, 3) := by decide +kernel
theorem dX9_near_25 : decode cX9_near 25 = .ok (.iconst 0, 1) := by decide +kernel
theorem dX9_near_26 : decode cX9_near 26 = .ok (.istore_n 2, 1) := by decide +kernel
theorem dX9_near_27 : decode cX9_near 27 = .ok (.iconst 0, 1) := by decide +kernel
theorem dX9_near_28 : decode cX9_near 28 = .ok (.istore_n 3, 1) := by decide +kernel
theorem dX9_near_29 : decode cX9_near 29 = .ok (.iload_n 3, 1) := by decide +kernel
theorem dX9_near_30 : decode cX9_near 30 = .ok (.aload_n 0, 1) := by decide +kernel
theorem dX9_near_31 : decode cX9_near 31 = .ok (.getfield 163, 3) := by decide +kernel
theorem dX9_near_34 : decode cX9_near 34 = .ok (.if_icmp .ge 73, 3) := by decide +kernel
theorem dX9_near_37 : decode cX9_near 37 = .ok (.iconst 0, 1) := by decide +kernel
theorem dX9_near_38 : decode cX9_near 38 = .ok (.istore 4, 2) := by decide +kernel
theorem dX9_near_4 : decode cX9_near 4 = .ok (.iload_n 1, 1) := by decide +kernel
theorem dX9_near_40 : decode cX9_near 40 = .ok (.iload 4, 2) := by decide +kernel
theorem dX9_near_42 : decode cX9_near 42 = .ok (.aload_n 0, 1) := by decide +kernel
theorem dX9_near_43 : decode cX9_near 43 = .ok (.getfield 47, 3) := by decide +kernel
theorem dX9_near_46 : decode cX9_near 46 = .ok (.if_icmp .ge 35, 3) := by decide +kernel
theorem dX9_near_49 : decode cX9_near 49 = .ok (.aload_n 0, 1) := by decide +kernel
theorem dX9_near_5 : decode cX9_near 5 = .ok (.aload_n 0, 1) := by decide +kernel
theorem dX9_near_50 : decode cX9_near 50 = .ok (.getfield 92, 3) := by decide +kernel
theorem dX9_near_53 : decode cX9_near 53 = .ok (.iload 4, 2) := by decide +kernel
theorem dX9_near_55 : decode cX9_near 55 = .ok (.aload_n 0, 1) := by decide +kernel
theorem dX9_near_56 : decode cX9_near 56 = .ok (.getfield 96, 3) := by decide +kernel
theorem dX9_near_59 : decode cX9_near 59 = .ok (.iconst 4, 1) := by decide +kernel
theorem dX9_near_6 : decode cX9_near 6 = .ok (.getfield 232, 3) := by decide +kernel
theorem dX9_near_60 : decode cX9_near 60 = .ok (.iload_n 1, 1) := by decide +kernel
theorem dX9_near_61 : decode cX9_near 61 = .ok (.imul, 1) := by decide +kernel
theorem dX9_near_62 : decode cX9_near 62 = .ok (.iload 4, 2) := by decide +kernel
theorem dX9_near_64 : decode cX9_near 64 = .ok (.iadd, 1) := by decide +kernel
theorem dX9_near_65 : decode cX9_near 65 = .ok (.iaload, 1) := by decide +kernel
theorem dX9_near_66 : decode cX9_near 66 = .ok (.aload_n 0, 1) := by decide +kernel
theorem dX9_near_67 : decode cX9_near 67 = .ok (.iload_n 3, 1) := by decide +kernel
theorem dX9_near_68 : decode cX9_near 68 = .ok (.iload 4, 2) := by decide +kernel
theorem dX9_near_70 : decode cX9_near 70 = .ok (.invokevirtual 183, 3) := by decide +kernel
theorem dX9_near_73 : decode cX9_near 73 = .ok (.iadd, 1) := by decide +kernel
theorem dX9_near_74 : decode cX9_near 74 = .ok (.iastore, 1) := by decide +kernel
theorem dX9_near_75 : decode cX9_near 75 = .ok (.iinc 4 1, 3) := by decide +kernel
theorem dX9_near_78 : decode cX9_near 78 = .ok (.goto (-38), 3) := by decide +kernel
theorem dX9_near_81 : decode cX9_near 81 = .ok (.iload_n 2, 1) := by decide +kernel
theorem dX9_near_82 : decode cX9_near 82 = .ok (.aload_n 0, 1) := by decide +kernel
theorem dX9_near_83 : decode cX9_near 83 = .ok (.aload_n 0, 1) := by decide +kernel
theorem dX9_near_84 : decode cX9_near 84 = .ok (.getfield 92, 3) := by decide +kernel
theorem dX9_near_87 : decode cX9_near 87 = .ok (.iconst 0, 1) := by decide +kernel
theorem dX9_near_88 : decode cX9_near 88 = .ok (.invokevirtual 199, 3) := by decide +kernel
theorem dX9_near_9 : decode cX9_near 9 = .ok (.invokestatic 116, 3) := by decide +kernel
theorem dX9_near_91 : decode cX9_near 91 = .ok (.ifCond .eq 7, 3) := by decide +kernel
theorem dX9_near_94 : decode cX9_near 94 = .ok (.iconst 1, 1) := by decide +kernel
theorem dX9_near_95 : decode cX9_near 95 = .ok (.goto 4, 3) := by decide +kernel
theorem dX9_near_98 : decode cX9_near 98 = .ok (.iconst 0, 1) := by decide +kernel
theorem dX9_near_99 : decode cX9_near 99 = .ok (.iadd, 1) := by decide +kernel
theorem dX9_plan_0 : decode cX9_plan 0 = .ok (.aload_n 0, 1) := by decide +kernel
theorem dX9_plan_1 : decode cX9_plan 1 = .ok (.invokevirtual 238, 3) := by decide +kernel
theorem dX9_plan_12 : decode cX9_plan 12 = .ok (.ifCond .eq 27, 3) := by decide +kernel
theorem dX9_plan_15 : decode cX9_plan 15 = .ok (.iload_n 2, 1) := by decide +kernel
theorem dX9_plan_16 : decode cX9_plan 16 = .ok (.aload_n 0, 1) := by decide +kernel
theorem dX9_plan_17 : decode cX9_plan 17 = .ok (.getfield 47, 3) := by decide +kernel
theorem dX9_plan_20 : decode cX9_plan 20 = .ok (.invokestatic 116, 3) := by decide +kernel
theorem dX9_plan_23 : decode cX9_plan 23 = .ok (.ifCond .eq 16, 3) := by decide +kernel
theorem dX9_plan_26 : decode cX9_plan 26 = .ok (.aload_n 0, 1) := by decide +kernel
theorem dX9_plan_27 : decode cX9_plan 27 = .ok (.getfield 96, 3) := by decide +kernel
theorem dX9_plan_30 : decode cX9_plan 30 = .ok (.iconst 4, 1) := by decide +kernel
theorem dX9_plan_31 : decode cX9_plan 31 = .ok (.iload_n 1, 1) := by decide +kernel
theorem dX9_plan_32 : decode cX9_plan 32 = .ok (.imul, 1) := by decide +kernel
theorem dX9_plan_33 : decode cX9_plan 33 = .ok (.iload_n 2, 1) := by decide +kernel
theorem dX9_plan_34 : decode cX9_plan 34 = .ok (.iadd, 1) := by decide +kernel
theorem dX9_plan_35 : decode cX9_plan 35 = .ok (.iaload, 1) := by decide +kernel
theorem dX9_plan_36 : decode cX9_plan 36 = .ok (.goto 5, 3) := by decide +kernel
theorem dX9_plan_39 : decode cX9_plan 39 = .ok (.ldc 187, 2) := by decide +kernel
theorem dX9_plan_4 : decode cX9_plan 4 = .ok (.iload_n 1, 1) := by decide +kernel
theorem dX9_plan_41 : decode cX9_plan 41 = .ok (.ireturn, 1) := by decide +kernel
theorem dX9_plan_5 : decode cX9_plan 5 = .ok (.aload_n 0, 1) := by decide +kernel
theorem dX9_plan_6 : decode cX9_plan 6 = .ok (.getfield 232, 3) := by decide +kernel
theorem dX9_plan_9 : decode cX9_plan 9 = .ok (.invokestatic 116, 3) := by decide +kernel
theorem dX9_plans_0 : decode cX9_plans 0 = .ok (.aload_n 0, 1) := by decide +kernel
theorem dX9_plans_1 : decode cX9_plans 1 = .ok (.invokevirtual 238, 3) := by decide +kernel
theorem dX9_plans_4 : decode cX9_plans 4 = .ok (.aload_n 0, 1) := by decide +kernel
theorem dX9_plans_5 : decode cX9_plans 5 = .ok (.getfield 232, 3) := by decide +kernel
theorem dX9_plans_8 : decode cX9_plans 8 = .ok (.ireturn, 1) := by decide +kernel
theorem dX9_price_0 : decode cX9_price 0 = .ok (.iload_n 1, 1) := by decide +kernel
theorem dX9_price_1 : decode cX9_price 1 = .ok (.aload_n 0, 1) := by decide +kernel
theorem dX9_price_11 : decode cX9_price 11 = .ok (.aload_n 0, 1) := by decide +kernel
theorem dX9_price_12 : decode cX9_price 12 = .ok (.iconst (-1), 1) := by decide +kernel
theorem dX9_price_13 : decode cX9_price 13 = .ok (.invokevirtual 112, 3) := by decide +kernel
theorem dX9_price_16 : decode cX9_price 16 = .ok (.ireturn, 1) := by decide +kernel
theorem dX9_price_17 : decode cX9_price 17 = .ok (.iload_n 2, 1) := by decide +kernel
theorem dX9_price_18 : decode cX9_price 18 = .ok (.bipush (-99), 2) := by decide +kernel
theorem dX9_price_2 : decode cX9_price 2 = .ok (.getfield 47, 3) := by decide +kernel
theorem dX9_price_20 : decode cX9_price 20 = .ok (.if_icmp .lt 7, 3) := by decide +kernel
theorem dX9_price_23 : decode cX9_price 23 = .ok (.iload_n 3, 1) := by decide +kernel
theorem dX9_price_24 : decode cX9_price 24 = .ok (.ifCond .ge 10, 3) := by decide +kernel
theorem dX9_price_27 : decode cX9_price 27 = .ok (.aload_n 0, 1) := by decide +kernel
theorem dX9_price_28 : decode cX9_price 28 = .ok (.bipush (-4), 2) := by decide +kernel
theorem dX9_price_30 : decode cX9_price 30 = .ok (.invokevirtual 112, 3) := by decide +kernel
theorem dX9_price_33 : decode cX9_price 33 = .ok (.ireturn, 1) := by decide +kernel
theorem dX9_price_34 : decode cX9_price 34 = .ok (.iload_n 2, 1) := by decide +kernel
theorem dX9_price_35 : decode cX9_price 35 = .ok (.bipush 99, 2) := by decide +kernel
theorem dX9_price_37 : decode cX9_price 37 = .ok (.if_icmp .gt 9, 3) := by decide +kernel
theorem dX9_price_40 : decode cX9_price 40 = .ok (.iload_n 3, 1) := by decide +kernel
theorem dX9_price_41 : decode cX9_price 41 = .ok (.bipush 99, 2) := by decide +kernel
theorem dX9_price_43 : decode cX9_price 43 = .ok (.if_icmp .le 10, 3) := by decide +kernel
theorem dX9_price_46 : decode cX9_price 46 = .ok (.aload_n 0, 1) := by decide +kernel
theorem dX9_price_47 : decode cX9_price 47 = .ok (.bipush (-6), 2) := by decide +kernel
theorem dX9_price_49 : decode cX9_price 49 = .ok (.invokevirtual 112, 3) := by decide +kernel
theorem dX9_price_5 : decode cX9_price 5 = .ok (.invokestatic 116, 3) := by decide +kernel
theorem dX9_price_52 : decode cX9_price 52 = .ok (.ireturn, 1) := by decide +kernel
theorem dX9_price_53 : decode cX9_price 53 = .ok (.aload_n 0, 1) := by decide +kernel
theorem dX9_price_54 : decode cX9_price 54 = .ok (.getfield 22, 3) := by decide +kernel
theorem dX9_price_57 : decode cX9_price 57 = .ok (.iload_n 1, 1) := by decide +kernel
theorem dX9_price_58 : decode cX9_price 58 = .ok (.iload_n 2, 1) := by decide +kernel
theorem dX9_price_59 : decode cX9_price 59 = .ok (.iastore, 1) := by decide +kernel
theorem dX9_price_60 : decode cX9_price 60 = .ok (.aload_n 0, 1) := by decide +kernel
theorem dX9_price_61 : decode cX9_price 61 = .ok (.getfield 25, 3) := by decide +kernel
theorem dX9_price_64 : decode cX9_price 64 = .ok (.iload_n 1, 1) := by decide +kernel
theorem dX9_price_65 : decode cX9_price 65 = .ok (.iload_n 3, 1) := by decide +kernel
theorem dX9_price_66 : decode cX9_price 66 = .ok (.iastore, 1) := by decide +kernel
theorem dX9_price_67 : decode cX9_price 67 = .ok (.iconst 1, 1) := by decide +kernel
theorem dX9_price_68 : decode cX9_price 68 = .ok (.ireturn, 1) := by decide +kernel
theorem dX9_price_8 : decode cX9_price 8 = .ok (.ifCond .ne 9, 3) := by decide +kernel
theorem dX9_putIn_0 : decode cX9_putIn 0 = .ok (.aload_n 0, 1) := by decide +kernel
theorem dX9_putIn_1 : decode cX9_putIn 1 = .ok (.getfield 83, 3) := by decide +kernel
theorem dX9_putIn_10 : decode cX9_putIn 10 = .ok (.aload_n 0, 1) := by decide +kernel
theorem dX9_putIn_101 : decode cX9_putIn 101 = .ok (.aload_n 3, 1) := by decide +kernel
theorem dX9_putIn_102 : decode cX9_putIn 102 = .ok (.iconst 0, 1) := by decide +kernel
theorem dX9_putIn_103 : decode cX9_putIn 103 = .ok (.laload, 1) := by decide +kernel
theorem dX9_putIn_104 : decode cX9_putIn 104 = .ok (.aload_n 3, 1) := by decide +kernel
theorem dX9_putIn_105 : decode cX9_putIn 105 = .ok (.iconst 4, 1) := by decide +kernel
theorem dX9_putIn_106 : decode cX9_putIn 106 = .ok (.laload, 1) := by decide +kernel
theorem dX9_putIn_107 : decode cX9_putIn 107 = .ok (.lmul, 1) := by decide +kernel
theorem dX9_putIn_108 : decode cX9_putIn 108 = .ok (.aload_n 3, 1) := by decide +kernel
theorem dX9_putIn_109 : decode cX9_putIn 109 = .ok (.iconst 1, 1) := by decide +kernel
theorem dX9_putIn_11 : decode cX9_putIn 11 = .ok (.getfield 142, 3) := by decide +kernel
theorem dX9_putIn_110 : decode cX9_putIn 110 = .ok (.laload, 1) := by decide +kernel
theorem dX9_putIn_111 : decode cX9_putIn 111 = .ok (.aload_n 3, 1) := by decide +kernel
theorem dX9_putIn_112 : decode cX9_putIn 112 = .ok (.iconst 3, 1) := by decide +kernel
theorem dX9_putIn_113 : decode cX9_putIn 113 = .ok (.laload, 1) := by decide +kernel
theorem dX9_putIn_114 : decode cX9_putIn 114 = .ok (.lmul, 1) := by decide +kernel
theorem dX9_putIn_115 : decode cX9_putIn 115 = .ok (.lsub, 1) := by decide +kernel
theorem dX9_putIn_116 : decode cX9_putIn 116 = .ok (.lreturn, 1) := by decide +kernel
theorem dX9_putIn_117 : decode cX9_putIn 117 = .ok (.aload_n 3, 1) := by decide +kernel
theorem dX9_putIn_118 : decode cX9_putIn 118 = .ok (.iconst 0, 1) := by decide +kernel
theorem dX9_putIn_119 : decode cX9_putIn 119 = .ok (.laload, 1) := by decide +kernel
theorem dX9_putIn_120 : decode cX9_putIn 120 = .ok (.aload_n 3, 1) := by decide +kernel
theorem dX9_putIn_121 : decode cX9_putIn 121 = .ok (.iconst 4, 1) := by decide +kernel
theorem dX9_putIn_122 : decode cX9_putIn 122 = .ok (.laload, 1) := by decide +kernel
theorem dX9_putIn_123 : decode cX9_putIn 123 = .ok (.aload_n 3, 1) := by decide +kernel
theorem dX9_putIn_124 : decode cX9_putIn 124 = .ok (.bipush 8, 2) := by decide +kernel
theorem dX9_putIn_126 : decode cX9_putIn 126 = .ok (.laload, 1) := by decide +kernel
theorem dX9_putIn_127 : decode cX9_putIn 127 = .ok (.lmul, 1) := by decide +kernel
theorem dX9_putIn_128 : decode cX9_putIn 128 = .ok (.aload_n 3, 1) := by decide +kernel
theorem dX9_putIn_129 : decode cX9_putIn 129 = .ok (.iconst 5, 1) := by decide +kernel
theorem dX9_putIn_130 : decode cX9_putIn 130 = .ok (.laload, 1) := by decide +kernel
theorem dX9_putIn_131 : decode cX9_putIn 131 = .ok (.aload_n 3, 1) := by decide +kernel
theorem dX9_putIn_132 : decode cX9_putIn 132 = .ok (.bipush 7, 2) := by decide +kernel
theorem dX9_putIn_134 : decode cX9_putIn 134 = .ok (.laload, 1) := by decide +kernel
theorem dX9_putIn_135 : decode cX9_putIn 135 = .ok (.lmul, 1) := by decide +kernel
theorem dX9_putIn_136 : decode cX9_putIn 136 = .ok (.lsub, 1) := by decide +kernel
theorem dX9_putIn_137 : decode cX9_putIn 137 = .ok (.lmul, 1) := by decide +kernel
theorem dX9_putIn_138 : decode cX9_putIn 138 = .ok (.aload_n 3, 1) := by decide +kernel
theorem dX9_putIn_139 : decode cX9_putIn 139 = .ok (.iconst 1, 1) := by decide +kernel
theorem dX9_putIn_14 : decode cX9_putIn 14 = .ok (.if_icmp .ge 67, 3) := by decide +kernel
theorem dX9_putIn_140 : decode cX9_putIn 140 = .ok (.laload, 1) := by decide +kernel
theorem dX9_putIn_141 : decode cX9_putIn 141 = .ok (.aload_n 3, 1) := by decide +kernel
theorem dX9_putIn_142 : decode cX9_putIn 142 = .ok (.iconst 3, 1) := by decide +kernel
theorem dX9_putIn_143 : decode cX9_putIn 143 = .ok (.laload, 1) := by decide +kernel
theorem dX9_putIn_144 : decode cX9_putIn 144 = .ok (.aload_n 3, 1) := by decide +kernel
theorem dX9_putIn_145 : decode cX9_putIn 145 = .ok (.bipush 8, 2) := by decide +kernel
theorem dX9_putIn_147 : decode cX9_putIn 147 = .ok (.laload, 1) := by decide +kernel
theorem dX9_putIn_148 : decode cX9_putIn 148 = .ok (.lmul, 1) := by decide +kernel
theorem dX9_putIn_149 : decode cX9_putIn 149 = .ok (.aload_n 3, 1) := by decide +kernel
theorem dX9_putIn_150 : decode cX9_putIn 150 = .ok (.iconst 5, 1) := by decide +kernel
theorem dX9_putIn_151 : decode cX9_putIn 151 = .ok (.laload, 1) := by decide +kernel
theorem dX9_putIn_152 : decode cX9_putIn 152 = .ok (.aload_n 3, 1) := by decide +kernel
theorem dX9_putIn_153 : decode cX9_putIn 153 = .ok (.bipush 6, 2) := by decide +kernel
theorem dX9_putIn_155 : decode cX9_putIn 155 = .ok (.laload, 1) := by decide +kernel
theorem dX9_putIn_156 : decode cX9_putIn 156 = .ok (.lmul, 1) := by decide +kernel
theorem dX9_putIn_157 : decode cX9_putIn 157 = .ok (.lsub, 1) := by decide +kernel
theorem dX9_putIn_158 : decode cX9_putIn 158 = .ok (.lmul, 1) := by decide +kernel
theorem dX9_putIn_159 : decode cX9_putIn 159 = .ok (.lsub, 1) := by decide +kernel
theorem dX9_putIn_160 : decode cX9_putIn 160 = .ok (.aload_n 3, 1) := by decide +kernel
theorem dX9_putIn_161 : decode cX9_putIn 161 = .ok (.iconst 2, 1) := by decide +kernel
theorem dX9_putIn_162 : decode cX9_putIn 162 = .ok (.laload, 1) := by decide +kernel
theorem dX9_putIn_163 : decode cX9_putIn 163 = .ok (.aload_n 3, 1) := by decide +kernel
theorem dX9_putIn_164 : decode cX9_putIn 164 = .ok (.iconst 3, 1) := by decide +kernel
theorem dX9_putIn_165 : decode cX9_putIn 165 = .ok (.laload, 1) := by decide +kernel
theorem dX9_putIn_166 : decode cX9_putIn 166 = .ok (.aload_n 3, 1) := by decide +kernel
theorem dX9_putIn_167 : decode cX9_putIn 167 = .ok (.bipush 7, 2) := by decide +kernel
theorem dX9_putIn_169 : decode cX9_putIn 169 = .ok (.laload, 1) := by decide +kernel
theorem dX9_putIn_17 : decode cX9_putIn 17 = .ok (.iconst 0, 1) := by decide +kernel
theorem dX9_putIn_170 : decode cX9_putIn 170 = .ok (.lmul, 1) := by decide +kernel
theorem dX9_putIn_171 : decode cX9_putIn 171 = .ok (.aload_n 3, 1) := by decide +kernel
theorem dX9_putIn_172 : decode cX9_putIn 172 = .ok (.iconst 4, 1) := by decide +kernel
theorem dX9_putIn_173 : decode cX9_putIn 173 = .ok (.laload, 1) := by decide +kernel
theorem dX9_putIn_174 : decode cX9_putIn 174 = .ok (.aload_n 3, 1) := by decide +kernel
theorem dX9_putIn_175 : decode cX9_putIn 175 = .ok (.bipush 6, 2) := by decide +kernel
theorem dX9_putIn_177 : decode cX9_putIn 177 = .ok (.laload, 1) := by decide +kernel
theorem dX9_putIn_178 : decode cX9_putIn 178 = .ok (.lmul, 1) := by decide +kernel
theorem dX9_putIn_179 : decode cX9_putIn 179 = .ok (.lsub, 1) := by decide +kernel
theorem dX9_putIn_18 : decode cX9_putIn 18 = .ok (.istore 5, 2) := by decide +kernel
theorem dX9_putIn_180 : decode cX9_putIn 180 = .ok (.lmul, 1) := by decide +kernel
theorem dX9_putIn_181 : decode cX9_putIn 181 = .ok (.ladd, 1) := by decide +kernel
theorem dX9_putIn_182 : decode cX9_putIn 182 = .ok (.lreturn, 1) := by decide +kernel
theorem dX9_putIn_20 : decode cX9_putIn 20 = .ok (.iload 5, 2) := by decide +kernel
theorem dX9_putIn_22 : decode cX9_putIn 22 = .ok (.aload_n 0, 1) := by decide +kernel
theorem dX9_putIn_23 : decode cX9_putIn 23 = .ok (.getfield 142, 3) := by decide +kernel
theorem dX9_putIn_26 : decode cX9_putIn 26 = .ok (.if_icmp .ge 49, 3) := by decide +kernel
theorem dX9_putIn_29 : decode cX9_putIn 29 = .ok (.aload_n 3, 1) := by decide +kernel
theorem dX9_putIn_30 : decode cX9_putIn 30 = .ok (.iconst 3, 1) := by decide +kernel
theorem dX9_putIn_31 : decode cX9_putIn 31 = .ok (.iload 4, 2) := by decide +kernel
theorem dX9_putIn_33 : decode cX9_putIn 33 = .ok (.imul, 1) := by decide +kernel
theorem dX9_putIn_34 : decode cX9_putIn 34 = .ok (.iload 5, 2) := by decide +kernel
theorem dX9_putIn_36 : decode cX9_putIn 36 = .ok (.iadd, 1) := by decide +kernel
theorem dX9_putIn_37 : decode cX9_putIn 37 = .ok (.iload 5, 2) := by decide +kernel
theorem dX9_putIn_39 : decode cX9_putIn 39 = .ok (.iload_n 1, 1) := by decide +kernel
theorem dX9_putIn_4 : decode cX9_putIn 4 = .ok (.astore_n 3, 1) := by decide +kernel
theorem dX9_putIn_40 : decode cX9_putIn 40 = .ok (.if_icmp .ne 10, 3) := by decide +kernel
theorem dX9_putIn_43 : decode cX9_putIn 43 = .ok (.aload_n 2, 1) := by decide +kernel
theorem dX9_putIn_44 : decode cX9_putIn 44 = .ok (.iload 4, 2) := by decide +kernel
theorem dX9_putIn_46 : decode cX9_putIn 46 = .ok (.laload, 1) := by decide +kernel
theorem dX9_putIn_47 : decode cX9_putIn 47 = .ok (.goto 21, 3) := by decide +kernel
theorem dX9_putIn_5 : decode cX9_putIn 5 = .ok (.iconst 0, 1) := by decide +kernel
theorem dX9_putIn_50 : decode cX9_putIn 50 = .ok (.aload_n 0, 1) := by decide +kernel
theorem dX9_putIn_51 : decode cX9_putIn 51 = .ok (.aload_n 0, 1) := by decide +kernel
theorem dX9_putIn_52 : decode cX9_putIn 52 = .ok (.getfield 74, 3) := by decide +kernel
theorem dX9_putIn_55 : decode cX9_putIn 55 = .ok (.iload 4, 2) := by decide +kernel
theorem dX9_putIn_57 : decode cX9_putIn 57 = .ok (.iaload, 1) := by decide +kernel
theorem dX9_putIn_58 : decode cX9_putIn 58 = .ok (.aload_n 0, 1) := by decide +kernel
theorem dX9_putIn_59 : decode cX9_putIn 59 = .ok (.getfield 71, 3) := by decide +kernel
theorem dX9_putIn_6 : decode cX9_putIn 6 = .ok (.istore 4, 2) := by decide +kernel
theorem dX9_putIn_62 : decode cX9_putIn 62 = .ok (.iload 5, 2) := by decide +kernel
theorem dX9_putIn_64 : decode cX9_putIn 64 = .ok (.iaload, 1) := by decide +kernel
theorem dX9_putIn_65 : decode cX9_putIn 65 = .ok (.invokevirtual 124, 3) := by decide +kernel
theorem dX9_putIn_68 : decode cX9_putIn 68 = .ok (.lastore, 1) := by decide +kernel
theorem dX9_putIn_69 : decode cX9_putIn 69 = .ok (.iinc 5 1, 3) := by decide +kernel
theorem dX9_putIn_72 : decode cX9_putIn 72 = .ok (.goto (-52), 3) := by decide +kernel
theorem dX9_putIn_75 : decode cX9_putIn 75 = .ok (.iinc 4 1, 3) := by decide +kernel
theorem dX9_putIn_78 : decode cX9_putIn 78 = .ok (.goto (-70), 3) := by decide +kernel
theorem dX9_putIn_8 : decode cX9_putIn 8 = .ok (.iload 4, 2) := by decide +kernel
theorem dX9_putIn_81 : decode cX9_putIn 81 = .ok (.aload_n 0, 1) := by decide +kernel
theorem dX9_putIn_82 : decode cX9_putIn 82 = .ok (.getfield 142, 3) := by decide +kernel
theorem dX9_putIn_85 : decode cX9_putIn 85 = .ok (.iconst 1, 1) := by decide +kernel
theorem dX9_putIn_86 : decode cX9_putIn 86 = .ok (.if_icmp .ne 7, 3) := by decide +kernel
theorem dX9_putIn_89 : decode cX9_putIn 89 = .ok (.aload_n 3, 1) := by decide +kernel
theorem dX9_putIn_90 : decode cX9_putIn 90 = .ok (.iconst 0, 1) := by decide +kernel
theorem dX9_putIn_91 : decode cX9_putIn 91 = .ok (.laload, 1) := by decide +kernel
theorem dX9_putIn_92 : decode cX9_putIn 92 = .ok (.lreturn, 1) := by decide +kernel
theorem dX9_putIn_93 : decode cX9_putIn 93 = .ok (.aload_n 0, 1) := by decide +kernel
theorem dX9_putIn_94 : decode cX9_putIn 94 = .ok (.getfield 142, 3) := by decide +kernel
theorem dX9_putIn_97 : decode cX9_putIn 97 = .ok (.iconst 2, 1) := by decide +kernel
theorem dX9_putIn_98 : decode cX9_putIn 98 = .ok (.if_icmp .ne 19, 3) := by decide +kernel
theorem dX9_put_0 : decode cX9_put 0 = .ok (.iload_n 1, 1) := by decide +kernel
theorem dX9_put_1 : decode cX9_put 1 = .ok (.aload_n 0, 1) := by decide +kernel
theorem dX9_put_11 : decode cX9_put 11 = .ok (.iload_n 2, 1) := by decide +kernel
theorem dX9_put_12 : decode cX9_put 12 = .ok (.aload_n 0, 1) := by decide +kernel
theorem dX9_put_13 : decode cX9_put 13 = .ok (.getfield 47, 3) := by decide +kernel
theorem dX9_put_16 : decode cX9_put 16 = .ok (.invokestatic 116, 3) := by decide +kernel
theorem dX9_put_19 : decode cX9_put 19 = .ok (.ifCond .ne 9, 3) := by decide +kernel
theorem dX9_put_2 : decode cX9_put 2 = .ok (.getfield 102, 3) := by decide +kernel
theorem dX9_put_22 : decode cX9_put 22 = .ok (.aload_n 0, 1) := by decide +kernel
theorem dX9_put_23 : decode cX9_put 23 = .ok (.iconst (-1), 1) := by decide +kernel
theorem dX9_put_24 : decode cX9_put 24 = .ok (.invokevirtual 112, 3) := by decide +kernel
theorem dX9_put_27 : decode cX9_put 27 = .ok (.ireturn, 1) := by decide +kernel
theorem dX9_put_28 : decode cX9_put 28 = .ok (.iload_n 3, 1) := by decide +kernel
theorem dX9_put_29 : decode cX9_put 29 = .ok (.bipush (-6), 2) := by decide +kernel
theorem dX9_put_31 : decode cX9_put 31 = .ok (.if_icmp .ge 10, 3) := by decide +kernel
theorem dX9_put_34 : decode cX9_put 34 = .ok (.aload_n 0, 1) := by decide +kernel
theorem dX9_put_35 : decode cX9_put 35 = .ok (.bipush (-4), 2) := by decide +kernel
theorem dX9_put_37 : decode cX9_put 37 = .ok (.invokevirtual 112, 3) := by decide +kernel
theorem dX9_put_40 : decode cX9_put 40 = .ok (.ireturn, 1) := by decide +kernel
theorem dX9_put_41 : decode cX9_put 41 = .ok (.iload_n 3, 1) := by decide +kernel
theorem dX9_put_42 : decode cX9_put 42 = .ok (.bipush 6, 2) := by decide +kernel
theorem dX9_put_44 : decode cX9_put 44 = .ok (.if_icmp .le 10, 3) := by decide +kernel
theorem dX9_put_47 : decode cX9_put 47 = .ok (.aload_n 0, 1) := by decide +kernel
theorem dX9_put_48 : decode cX9_put 48 = .ok (.bipush (-6), 2) := by decide +kernel
theorem dX9_put_5 : decode cX9_put 5 = .ok (.invokestatic 116, 3) := by decide +kernel
theorem dX9_put_50 : decode cX9_put 50 = .ok (.invokevirtual 112, 3) := by decide +kernel
theorem dX9_put_53 : decode cX9_put 53 = .ok (.ireturn, 1) := by decide +kernel
theorem dX9_put_54 : decode cX9_put 54 = .ok (.aload_n 0, 1) := by decide +kernel
theorem dX9_put_55 : decode cX9_put 55 = .ok (.getfield 9, 3) := by decide +kernel
theorem dX9_put_58 : decode cX9_put 58 = .ok (.iconst 4, 1) := by decide +kernel
theorem dX9_put_59 : decode cX9_put 59 = .ok (.iload_n 1, 1) := by decide +kernel
theorem dX9_put_60 : decode cX9_put 60 = .ok (.imul, 1) := by decide +kernel
theorem dX9_put_61 : decode cX9_put 61 = .ok (.iload_n 2, 1) := by decide +kernel
theorem dX9_put_62 : decode cX9_put 62 = .ok (.iadd, 1) := by decide +kernel
theorem dX9_put_63 : decode cX9_put 63 = .ok (.iaload, 1) := by decide +kernel
theorem dX9_put_64 : decode cX9_put 64 = .ok (.istore 4, 2) := by decide +kernel
theorem dX9_put_66 : decode cX9_put 66 = .ok (.aload_n 0, 1) := by decide +kernel
theorem dX9_put_67 : decode cX9_put 67 = .ok (.getfield 9, 3) := by decide +kernel
theorem dX9_put_70 : decode cX9_put 70 = .ok (.iconst 4, 1) := by decide +kernel
theorem dX9_put_71 : decode cX9_put 71 = .ok (.iload_n 1, 1) := by decide +kernel
theorem dX9_put_72 : decode cX9_put 72 = .ok (.imul, 1) := by decide +kernel
theorem dX9_put_73 : decode cX9_put 73 = .ok (.iload_n 2, 1) := by decide +kernel
theorem dX9_put_74 : decode cX9_put 74 = .ok (.iadd, 1) := by decide +kernel
theorem dX9_put_75 : decode cX9_put 75 = .ok (.iload_n 3, 1) := by decide +kernel
theorem dX9_put_76 : decode cX9_put 76 = .ok (.iastore, 1) := by decide +kernel
theorem dX9_put_77 : decode cX9_put 77 = .ok (.aload_n 0, 1) := by decide +kernel
theorem dX9_put_78 : decode cX9_put 78 = .ok (.iconst 0, 1) := by decide +kernel
theorem dX9_put_79 : decode cX9_put 79 = .ok (.putfield 105, 3) := by decide +kernel
theorem dX9_put_8 : decode cX9_put 8 = .ok (.ifCond .eq 14, 3) := by decide +kernel
theorem dX9_put_82 : decode cX9_put 82 = .ok (.aload_n 0, 1) := by decide +kernel
theorem dX9_put_83 : decode cX9_put 83 = .ok (.iconst 0, 1) := by decide +kernel
theorem dX9_put_84 : decode cX9_put 84 = .ok (.putfield 109, 3) := by decide +kernel
theorem dX9_put_87 : decode cX9_put 87 = .ok (.iload 4, 2) := by decide +kernel
theorem dX9_put_89 : decode cX9_put 89 = .ok (.ireturn, 1) := by decide +kernel
theorem dX9_ranks_0 : decode cX9_ranks 0 = .ok (.iconst 0, 1) := by decide +kernel
theorem dX9_ranks_1 : decode cX9_ranks 1 = .ok (.istore_n 2, 1) := by decide +kernel
theorem dX9_ranks_100 : decode cX9_ranks 100 = .ok (.invokevirtual 135, 3) := by decide +kernel
theorem dX9_ranks_103 : decode cX9_ranks 103 = .ok (.lconst 0, 1) := by decide +kernel
theorem dX9_ranks_104 : decode cX9_ranks 104 = .ok (.lcmp, 1) := by decide +kernel
theorem dX9_ranks_105 : decode cX9_ranks 105 = .ok (.ifCond .ne 6, 3) := by decide +kernel
theorem dX9_ranks_108 : decode cX9_ranks 108 = .ok (.goto 62, 3) := by decide +kernel
theorem dX9_ranks_111 : decode cX9_ranks 111 = .ok (.aload_n 0, 1) := by decide +kernel
theorem dX9_ranks_112 : decode cX9_ranks 112 = .ok (.iconst 0, 1) := by decide +kernel
theorem dX9_ranks_113 : decode cX9_ranks 113 = .ok (.putfield 139, 3) := by decide +kernel
theorem dX9_ranks_116 : decode cX9_ranks 116 = .ok (.iconst 0, 1) := by decide +kernel
theorem dX9_ranks_117 : decode cX9_ranks 117 = .ok (.istore 4, 2) := by decide +kernel
theorem dX9_ranks_119 : decode cX9_ranks 119 = .ok (.iload 4, 2) := by decide +kernel
theorem dX9_ranks_12 : decode cX9_ranks 12 = .ok (.iload_n 2, 1) := by decide +kernel
theorem dX9_ranks_121 : decode cX9_ranks 121 = .ok (.aload_n 0, 1) := by decide +kernel
theorem dX9_ranks_122 : decode cX9_ranks 122 = .ok (.getfield 47, 3) := by decide +kernel
theorem dX9_ranks_125 : decode cX9_ranks 125 = .ok (.if_icmp .ge 43, 3) := by decide +kernel
theorem dX9_ranks_128 : decode cX9_ranks 128 = .ok (.iload_n 3, 1) := by decide +kernel
theorem dX9_ranks_129 : decode cX9_ranks 129 = .ok (.iload 4, 2) := by decide +kernel
theorem dX9_ranks_13 : decode cX9_ranks 13 = .ok (.invokestatic 128, 3) := by decide +kernel
theorem dX9_ranks_131 : decode cX9_ranks 131 = .ok (.ishr, 1) := by decide +kernel
theorem dX9_ranks_132 : decode cX9_ranks 132 = .ok (.iconst 1, 1) := by decide +kernel
theorem dX9_ranks_133 : decode cX9_ranks 133 = .ok (.iand, 1) := by decide +kernel
theorem dX9_ranks_134 : decode cX9_ranks 134 = .ok (.iconst 1, 1) := by decide +kernel
theorem dX9_ranks_135 : decode cX9_ranks 135 = .ok (.if_icmp .ne 6, 3) := by decide +kernel
theorem dX9_ranks_138 : decode cX9_ranks 138 = .ok (.goto 24, 3) := by decide +kernel
theorem dX9_ranks_141 : decode cX9_ranks 141 = .ok (.aload_n 0, 1) := by decide +kernel
theorem dX9_ranks_142 : decode cX9_ranks 142 = .ok (.getfield 77, 3) := by decide +kernel
theorem dX9_ranks_145 : decode cX9_ranks 145 = .ok (.aload_n 0, 1) := by decide +kernel
theorem dX9_ranks_146 : decode cX9_ranks 146 = .ok (.getfield 139, 3) := by decide +kernel
theorem dX9_ranks_149 : decode cX9_ranks 149 = .ok (.iload 4, 2) := by decide +kernel
theorem dX9_ranks_151 : decode cX9_ranks 151 = .ok (.iastore, 1) := by decide +kernel
theorem dX9_ranks_152 : decode cX9_ranks 152 = .ok (.aload_n 0, 1) := by decide +kernel
theorem dX9_ranks_153 : decode cX9_ranks 153 = .ok (.dup, 1) := by decide +kernel
theorem dX9_ranks_154 : decode cX9_ranks 154 = .ok (.getfield 139, 3) := by decide +kernel
theorem dX9_ranks_157 : decode cX9_ranks 157 = .ok (.iconst 1, 1) := by decide +kernel
theorem dX9_ranks_158 : decode cX9_ranks 158 = .ok (.iadd, 1) := by decide +kernel
theorem dX9_ranks_159 : decode cX9_ranks 159 = .ok (.putfield 139, 3) := by decide +kernel
theorem dX9_ranks_16 : decode cX9_ranks 16 = .ok (.iload_n 1, 1) := by decide +kernel
theorem dX9_ranks_162 : decode cX9_ranks 162 = .ok (.iinc 4 1, 3) := by decide +kernel
theorem dX9_ranks_165 : decode cX9_ranks 165 = .ok (.goto (-46), 3) := by decide +kernel
theorem dX9_ranks_168 : decode cX9_ranks 168 = .ok (.iconst 1, 1) := by decide +kernel
theorem dX9_ranks_169 : decode cX9_ranks 169 = .ok (.ireturn, 1) := by decide +kernel
theorem dX9_ranks_17 : decode cX9_ranks 17 = .ok (.if_icmp .eq 6, 3) := by decide +kernel
theorem dX9_ranks_170 : decode cX9_ranks 170 = .ok (.iinc 3 1, 3) := by decide +kernel
theorem dX9_ranks_173 : decode cX9_ranks 173 = .ok (.goto (-148), 3) := by decide +kernel
theorem dX9_ranks_176 : decode cX9_ranks 176 = .ok (.iinc 2 1, 3) := by decide +kernel
theorem dX9_ranks_179 : decode cX9_ranks 179 = .ok (.goto (-177), 3) := by decide +kernel
theorem dX9_ranks_182 : decode cX9_ranks 182 = .ok (.iconst 0, 1) := by decide +kernel
theorem dX9_ranks_183 : decode cX9_ranks 183 = .ok (.ireturn, 1) := by decide +kernel
theorem dX9_ranks_2 : decode cX9_ranks 2 = .ok (.iload_n 2, 1) := by decide +kernel
theorem dX9_ranks_20 : decode cX9_ranks 20 = .ok (.goto 156, 3) := by decide +kernel
theorem dX9_ranks_23 : decode cX9_ranks 23 = .ok (.iconst 0, 1) := by decide +kernel
theorem dX9_ranks_24 : decode cX9_ranks 24 = .ok (.istore_n 3, 1) := by decide +kernel
theorem dX9_ranks_25 : decode cX9_ranks 25 = .ok (.iload_n 3, 1) := by decide +kernel
theorem dX9_ranks_26 : decode cX9_ranks 26 = .ok (.iconst 1, 1) := by decide +kernel
theorem dX9_ranks_27 : decode cX9_ranks 27 = .ok (.aload_n 0, 1) := by decide +kernel
theorem dX9_ranks_28 : decode cX9_ranks 28 = .ok (.getfield 47, 3) := by decide +kernel
theorem dX9_ranks_3 : decode cX9_ranks 3 = .ok (.iconst 1, 1) := by decide +kernel
theorem dX9_ranks_31 : decode cX9_ranks 31 = .ok (.ishl, 1) := by decide +kernel
theorem dX9_ranks_32 : decode cX9_ranks 32 = .ok (.if_icmp .ge 144, 3) := by decide +kernel
theorem dX9_ranks_35 : decode cX9_ranks 35 = .ok (.iload_n 3, 1) := by decide +kernel
theorem dX9_ranks_36 : decode cX9_ranks 36 = .ok (.invokestatic 128, 3) := by decide +kernel
theorem dX9_ranks_39 : decode cX9_ranks 39 = .ok (.iload_n 1, 1) := by decide +kernel
theorem dX9_ranks_4 : decode cX9_ranks 4 = .ok (.aload_n 0, 1) := by decide +kernel
theorem dX9_ranks_40 : decode cX9_ranks 40 = .ok (.if_icmp .eq 6, 3) := by decide +kernel
theorem dX9_ranks_43 : decode cX9_ranks 43 = .ok (.goto 127, 3) := by decide +kernel
theorem dX9_ranks_46 : decode cX9_ranks 46 = .ok (.iload_n 2, 1) := by decide +kernel
theorem dX9_ranks_47 : decode cX9_ranks 47 = .ok (.aload_n 0, 1) := by decide +kernel
theorem dX9_ranks_48 : decode cX9_ranks 48 = .ok (.getfield 74, 3) := by decide +kernel
theorem dX9_ranks_5 : decode cX9_ranks 5 = .ok (.getfield 102, 3) := by decide +kernel
theorem dX9_ranks_51 : decode cX9_ranks 51 = .ok (.invokestatic 131, 3) := by decide +kernel
theorem dX9_ranks_54 : decode cX9_ranks 54 = .ok (.iload_n 3, 1) := by decide +kernel
theorem dX9_ranks_55 : decode cX9_ranks 55 = .ok (.aload_n 0, 1) := by decide +kernel
theorem dX9_ranks_56 : decode cX9_ranks 56 = .ok (.getfield 71, 3) := by decide +kernel
theorem dX9_ranks_59 : decode cX9_ranks 59 = .ok (.invokestatic 131, 3) := by decide +kernel
theorem dX9_ranks_62 : decode cX9_ranks 62 = .ok (.aload_n 0, 1) := by decide +kernel
theorem dX9_ranks_63 : decode cX9_ranks 63 = .ok (.iload_n 1, 1) := by decide +kernel
theorem dX9_ranks_64 : decode cX9_ranks 64 = .ok (.aload_n 0, 1) := by decide +kernel
theorem dX9_ranks_65 : decode cX9_ranks 65 = .ok (.getfield 74, 3) := by decide +kernel
theorem dX9_ranks_68 : decode cX9_ranks 68 = .ok (.iconst 0, 1) := by decide +kernel
theorem dX9_ranks_69 : decode cX9_ranks 69 = .ok (.iaload, 1) := by decide +kernel
theorem dX9_ranks_70 : decode cX9_ranks 70 = .ok (.aload_n 0, 1) := by decide +kernel
theorem dX9_ranks_71 : decode cX9_ranks 71 = .ok (.getfield 74, 3) := by decide +kernel
theorem dX9_ranks_74 : decode cX9_ranks 74 = .ok (.iconst 1, 1) := by decide +kernel
theorem dX9_ranks_75 : decode cX9_ranks 75 = .ok (.iaload, 1) := by decide +kernel
theorem dX9_ranks_76 : decode cX9_ranks 76 = .ok (.aload_n 0, 1) := by decide +kernel
theorem dX9_ranks_77 : decode cX9_ranks 77 = .ok (.getfield 74, 3) := by decide +kernel
theorem dX9_ranks_8 : decode cX9_ranks 8 = .ok (.ishl, 1) := by decide +kernel
theorem dX9_ranks_80 : decode cX9_ranks 80 = .ok (.iconst 2, 1) := by decide +kernel
theorem dX9_ranks_81 : decode cX9_ranks 81 = .ok (.iaload, 1) := by decide +kernel
theorem dX9_ranks_82 : decode cX9_ranks 82 = .ok (.aload_n 0, 1) := by decide +kernel
theorem dX9_ranks_83 : decode cX9_ranks 83 = .ok (.getfield 71, 3) := by decide +kernel
theorem dX9_ranks_86 : decode cX9_ranks 86 = .ok (.iconst 0, 1) := by decide +kernel
theorem dX9_ranks_87 : decode cX9_ranks 87 = .ok (.iaload, 1) := by decide +kernel
theorem dX9_ranks_88 : decode cX9_ranks 88 = .ok (.aload_n 0, 1) := by decide +kernel
theorem dX9_ranks_89 : decode cX9_ranks 89 = .ok (.getfield 71, 3) := by decide +kernel
theorem dX9_ranks_9 : decode cX9_ranks 9 = .ok (.if_icmp .ge 173, 3) := by decide +kernel
theorem dX9_ranks_92 : decode cX9_ranks 92 = .ok (.iconst 1, 1) := by decide +kernel
theorem dX9_ranks_93 : decode cX9_ranks 93 = .ok (.iaload, 1) := by decide +kernel
theorem dX9_ranks_94 : decode cX9_ranks 94 = .ok (.aload_n 0, 1) := by decide +kernel
theorem dX9_ranks_95 : decode cX9_ranks 95 = .ok (.getfield 71, 3) := by decide +kernel
theorem dX9_ranks_98 : decode cX9_ranks 98 = .ok (.iconst 2, 1) := by decide +kernel
theorem dX9_ranks_99 : decode cX9_ranks 99 = .ok (.iaload, 1) := by decide +kernel
theorem dX9_refuse_0 : decode cX9_refuse 0 = .ok (.aload_n 0, 1) := by decide +kernel
theorem dX9_refuse_1 : decode cX9_refuse 1 = .ok (.getfield 31, 3) := by decide +kernel
theorem dX9_refuse_10 : decode cX9_refuse 10 = .ok (.iastore, 1) := by decide +kernel
theorem dX9_refuse_11 : decode cX9_refuse 11 = .ok (.iload_n 1, 1) := by decide +kernel
theorem dX9_refuse_12 : decode cX9_refuse 12 = .ok (.ireturn, 1) := by decide +kernel
theorem dX9_refuse_4 : decode cX9_refuse 4 = .ok (.iload_n 1, 1) := by decide +kernel
theorem dX9_refuse_5 : decode cX9_refuse 5 = .ok (.ineg, 1) := by decide +kernel
theorem dX9_refuse_6 : decode cX9_refuse 6 = .ok (.dup2, 1) := by decide +kernel
theorem dX9_refuse_7 : decode cX9_refuse 7 = .ok (.iaload, 1) := by decide +kernel
theorem dX9_refuse_8 : decode cX9_refuse 8 = .ok (.iconst 1, 1) := by decide +kernel
theorem dX9_refuse_9 : decode cX9_refuse 9 = .ok (.iadd, 1) := by decide +kernel
theorem dX9_right_0 : decode cX9_right 0 = .ok (.iload_n 1, 1) := by decide +kernel
theorem dX9_right_1 : decode cX9_right 1 = .ok (.aload_n 0, 1) := by decide +kernel
theorem dX9_right_11 : decode cX9_right 11 = .ok (.aload_n 0, 1) := by decide +kernel
theorem dX9_right_12 : decode cX9_right 12 = .ok (.iconst (-1), 1) := by decide +kernel
theorem dX9_right_13 : decode cX9_right 13 = .ok (.invokevirtual 112, 3) := by decide +kernel
theorem dX9_right_16 : decode cX9_right 16 = .ok (.ireturn, 1) := by decide +kernel
theorem dX9_right_17 : decode cX9_right 17 = .ok (.iload_n 2, 1) := by decide +kernel
theorem dX9_right_18 : decode cX9_right 18 = .ok (.sipush (-200), 3) := by decide +kernel
theorem dX9_right_2 : decode cX9_right 2 = .ok (.getfield 102, 3) := by decide +kernel
theorem dX9_right_21 : decode cX9_right 21 = .ok (.if_icmp .ge 10, 3) := by decide +kernel
theorem dX9_right_24 : decode cX9_right 24 = .ok (.aload_n 0, 1) := by decide +kernel
theorem dX9_right_25 : decode cX9_right 25 = .ok (.bipush (-4), 2) := by decide +kernel
theorem dX9_right_27 : decode cX9_right 27 = .ok (.invokevirtual 112, 3) := by decide +kernel
theorem dX9_right_30 : decode cX9_right 30 = .ok (.ireturn, 1) := by decide +kernel
theorem dX9_right_31 : decode cX9_right 31 = .ok (.iload_n 2, 1) := by decide +kernel
theorem dX9_right_32 : decode cX9_right 32 = .ok (.sipush 200, 3) := by decide +kernel
theorem dX9_right_35 : decode cX9_right 35 = .ok (.if_icmp .le 10, 3) := by decide +kernel
theorem dX9_right_38 : decode cX9_right 38 = .ok (.aload_n 0, 1) := by decide +kernel
theorem dX9_right_39 : decode cX9_right 39 = .ok (.bipush (-6), 2) := by decide +kernel
theorem dX9_right_41 : decode cX9_right 41 = .ok (.invokevirtual 112, 3) := by decide +kernel
theorem dX9_right_44 : decode cX9_right 44 = .ok (.ireturn, 1) := by decide +kernel
theorem dX9_right_45 : decode cX9_right 45 = .ok (.aload_n 0, 1) := by decide +kernel
theorem dX9_right_46 : decode cX9_right 46 = .ok (.getfield 13, 3) := by decide +kernel
theorem dX9_right_49 : decode cX9_right 49 = .ok (.iload_n 1, 1) := by decide +kernel
theorem dX9_right_5 : decode cX9_right 5 = .ok (.invokestatic 116, 3) := by decide +kernel
theorem dX9_right_50 : decode cX9_right 50 = .ok (.iaload, 1) := by decide +kernel
theorem dX9_right_51 : decode cX9_right 51 = .ok (.istore_n 3, 1) := by decide +kernel
theorem dX9_right_52 : decode cX9_right 52 = .ok (.aload_n 0, 1) := by decide +kernel
theorem dX9_right_53 : decode cX9_right 53 = .ok (.getfield 13, 3) := by decide +kernel
theorem dX9_right_56 : decode cX9_right 56 = .ok (.iload_n 1, 1) := by decide +kernel
theorem dX9_right_57 : decode cX9_right 57 = .ok (.iload_n 2, 1) := by decide +kernel
theorem dX9_right_58 : decode cX9_right 58 = .ok (.iastore, 1) := by decide +kernel
theorem dX9_right_59 : decode cX9_right 59 = .ok (.aload_n 0, 1) := by decide +kernel
theorem dX9_right_60 : decode cX9_right 60 = .ok (.iconst 0, 1) := by decide +kernel
theorem dX9_right_61 : decode cX9_right 61 = .ok (.putfield 109, 3) := by decide +kernel
theorem dX9_right_64 : decode cX9_right 64 = .ok (.iload_n 3, 1) := by decide +kernel
theorem dX9_right_65 : decode cX9_right 65 = .ok (.ireturn, 1) := by decide +kernel
theorem dX9_right_8 : decode cX9_right 8 = .ok (.ifCond .ne 9, 3) := by decide +kernel
theorem dX9_sorts_0 : decode cX9_sorts 0 = .ok (.iconst 0, 1) := by decide +kernel
theorem dX9_sorts_1 : decode cX9_sorts 1 = .ok (.istore_n 1, 1) := by decide +kernel
theorem dX9_sorts_10 : decode cX9_sorts 10 = .ok (.iload_n 1, 1) := by decide +kernel
theorem dX9_sorts_11 : decode cX9_sorts 11 = .ok (.istore_n 2, 1) := by decide +kernel
theorem dX9_sorts_12 : decode cX9_sorts 12 = .ok (.iload_n 2, 1) := by decide +kernel
theorem dX9_sorts_13 : decode cX9_sorts 13 = .ok (.ifCond .le 39, 3) := by decide +kernel
theorem dX9_sorts_16 : decode cX9_sorts 16 = .ok (.aload_n 0, 1) := by decide +kernel
theorem dX9_sorts_17 : decode cX9_sorts 17 = .ok (.iload_n 1, 1) := by decide +kernel
theorem dX9_sorts_18 : decode cX9_sorts 18 = .ok (.aload_n 0, 1) := by decide +kernel
theorem dX9_sorts_19 : decode cX9_sorts 19 = .ok (.getfield 68, 3) := by decide +kernel
theorem dX9_sorts_2 : decode cX9_sorts 2 = .ok (.iload_n 1, 1) := by decide +kernel
theorem dX9_sorts_22 : decode cX9_sorts 22 = .ok (.iload_n 2, 1) := by decide +kernel
theorem dX9_sorts_23 : decode cX9_sorts 23 = .ok (.iconst 1, 1) := by decide +kernel
theorem dX9_sorts_24 : decode cX9_sorts 24 = .ok (.isub, 1) := by decide +kernel
theorem dX9_sorts_25 : decode cX9_sorts 25 = .ok (.iaload, 1) := by decide +kernel
theorem dX9_sorts_26 : decode cX9_sorts 26 = .ok (.invokevirtual 177, 3) := by decide +kernel
theorem dX9_sorts_29 : decode cX9_sorts 29 = .ok (.ifCond .eq 23, 3) := by decide +kernel
theorem dX9_sorts_3 : decode cX9_sorts 3 = .ok (.aload_n 0, 1) := by decide +kernel
theorem dX9_sorts_32 : decode cX9_sorts 32 = .ok (.aload_n 0, 1) := by decide +kernel
theorem dX9_sorts_33 : decode cX9_sorts 33 = .ok (.getfield 68, 3) := by decide +kernel
theorem dX9_sorts_36 : decode cX9_sorts 36 = .ok (.iload_n 2, 1) := by decide +kernel
theorem dX9_sorts_37 : decode cX9_sorts 37 = .ok (.aload_n 0, 1) := by decide +kernel
theorem dX9_sorts_38 : decode cX9_sorts 38 = .ok (.getfield 68, 3) := by decide +kernel
theorem dX9_sorts_4 : decode cX9_sorts 4 = .ok (.getfield 163, 3) := by decide +kernel
theorem dX9_sorts_41 : decode cX9_sorts 41 = .ok (.iload_n 2, 1) := by decide +kernel
theorem dX9_sorts_42 : decode cX9_sorts 42 = .ok (.iconst 1, 1) := by decide +kernel
theorem dX9_sorts_43 : decode cX9_sorts 43 = .ok (.isub, 1) := by decide +kernel
theorem dX9_sorts_44 : decode cX9_sorts 44 = .ok (.iaload, 1) := by decide +kernel
theorem dX9_sorts_45 : decode cX9_sorts 45 = .ok (.iastore, 1) := by decide +kernel
theorem dX9_sorts_46 : decode cX9_sorts 46 = .ok (.iinc 2 (-1), 3) := by decide +kernel
theorem dX9_sorts_49 : decode cX9_sorts 49 = .ok (.goto (-37), 3) := by decide +kernel
theorem dX9_sorts_52 : decode cX9_sorts 52 = .ok (.aload_n 0, 1) := by decide +kernel
theorem dX9_sorts_53 : decode cX9_sorts 53 = .ok (.getfield 68, 3) := by decide +kernel
theorem dX9_sorts_56 : decode cX9_sorts 56 = .ok (.iload_n 2, 1) := by decide +kernel
theorem dX9_sorts_57 : decode cX9_sorts 57 = .ok (.iload_n 1, 1) := by decide +kernel
theorem dX9_sorts_58 : decode cX9_sorts 58 = .ok (.iastore, 1) := by decide +kernel
theorem dX9_sorts_59 : decode cX9_sorts 59 = .ok (.iinc 1 1, 3) := by decide +kernel
theorem dX9_sorts_62 : decode cX9_sorts 62 = .ok (.goto (-60), 3) := by decide +kernel
theorem dX9_sorts_65 : decode cX9_sorts 65 = .ok (.return_, 1) := by decide +kernel
theorem dX9_sorts_7 : decode cX9_sorts 7 = .ok (.if_icmp .ge 58, 3) := by decide +kernel
theorem dX9_span_0 : decode cX9_span 0 = .ok (.aload_n 0, 1) := by decide +kernel
theorem dX9_span_1 : decode cX9_span 1 = .ok (.invokevirtual 238, 3) := by decide +kernel
theorem dX9_span_100 : decode cX9_span 100 = .ok (.goto (-57), 3) := by decide +kernel
theorem dX9_span_103 : decode cX9_span 103 = .ok (.iload_n 3, 1) := by decide +kernel
theorem dX9_span_104 : decode cX9_span 104 = .ok (.ireturn, 1) := by decide +kernel
theorem dX9_span_11 : decode cX9_span 11 = .ok (.iload_n 1, 1) := by decide +kernel
theorem dX9_span_12 : decode cX9_span 12 = .ok (.aload_n 0, 1) := by decide +kernel
theorem dX9_span_13 : decode cX9_span 13 = .ok (.getfield 47, 3) := by decide +kernel
theorem dX9_span_16 : decode cX9_span 16 = .ok (.invokestatic 116, 3) := by decide +kernel
theorem dX9_span_19 : decode cX9_span 19 = .ok (.ifCond .eq 11, 3) := by decide +kernel
theorem dX9_span_22 : decode cX9_span 22 = .ok (.iload_n 2, 1) := by decide +kernel
theorem dX9_span_23 : decode cX9_span 23 = .ok (.iconst 2, 1) := by decide +kernel
theorem dX9_span_24 : decode cX9_span 24 = .ok (.invokestatic 116, 3) := by decide +kernel
theorem dX9_span_27 : decode cX9_span 27 = .ok (.ifCond .ne 6, 3) := by decide +kernel
theorem dX9_span_30 : decode cX9_span 30 = .ok (.ldc 187, 2) := by decide +kernel
theorem dX9_span_32 : decode cX9_span 32 = .ok (.ireturn, 1) := by decide +kernel
theorem dX9_span_33 : decode cX9_span 33 = .ok (.aload_n 0, 1) := by decide +kernel
theorem dX9_span_34 : decode cX9_span 34 = .ok (.getfield 96, 3) := by decide +kernel
theorem dX9_span_37 : decode cX9_span 37 = .ok (.iload_n 1, 1) := by decide +kernel
theorem dX9_span_38 : decode cX9_span 38 = .ok (.iaload, 1) := by decide +kernel
theorem dX9_span_39 : decode cX9_span 39 = .ok (.istore_n 3, 1) := by decide +kernel
theorem dX9_span_4 : decode cX9_span 4 = .ok (.aload_n 0, 1) := by decide +kernel
theorem dX9_span_40 : decode cX9_span 40 = .ok (.iconst 1, 1) := by decide +kernel
theorem dX9_span_41 : decode cX9_span 41 = .ok (.istore 4, 2) := by decide +kernel
theorem dX9_span_43 : decode cX9_span 43 = .ok (.iload 4, 2) := by decide +kernel
theorem dX9_span_45 : decode cX9_span 45 = .ok (.aload_n 0, 1) := by decide +kernel
theorem dX9_span_46 : decode cX9_span 46 = .ok (.getfield 232, 3) := by decide +kernel
theorem dX9_span_49 : decode cX9_span 49 = .ok (.if_icmp .ge 54, 3) := by decide +kernel
theorem dX9_span_5 : decode cX9_span 5 = .ok (.getfield 232, 3) := by decide +kernel
theorem dX9_span_52 : decode cX9_span 52 = .ok (.aload_n 0, 1) := by decide +kernel
theorem dX9_span_53 : decode cX9_span 53 = .ok (.getfield 96, 3) := by decide +kernel
theorem dX9_span_56 : decode cX9_span 56 = .ok (.iconst 4, 1) := by decide +kernel
theorem dX9_span_57 : decode cX9_span 57 = .ok (.iload 4, 2) := by decide +kernel
theorem dX9_span_59 : decode cX9_span 59 = .ok (.imul, 1) := by decide +kernel
theorem dX9_span_60 : decode cX9_span 60 = .ok (.iload_n 1, 1) := by decide +kernel
theorem dX9_span_61 : decode cX9_span 61 = .ok (.iadd, 1) := by decide +kernel
theorem dX9_span_62 : decode cX9_span 62 = .ok (.iaload, 1) := by decide +kernel
theorem dX9_span_63 : decode cX9_span 63 = .ok (.istore 5, 2) := by decide +kernel
theorem dX9_span_65 : decode cX9_span 65 = .ok (.iload_n 2, 1) := by decide +kernel
theorem dX9_span_66 : decode cX9_span 66 = .ok (.ifCond .ne 18, 3) := by decide +kernel
theorem dX9_span_69 : decode cX9_span 69 = .ok (.iload 5, 2) := by decide +kernel
theorem dX9_span_71 : decode cX9_span 71 = .ok (.iload_n 3, 1) := by decide +kernel
theorem dX9_span_72 : decode cX9_span 72 = .ok (.if_icmp .ge 8, 3) := by decide +kernel
theorem dX9_span_75 : decode cX9_span 75 = .ok (.iload 5, 2) := by decide +kernel
theorem dX9_span_77 : decode cX9_span 77 = .ok (.goto 19, 3) := by decide +kernel
theorem dX9_span_8 : decode cX9_span 8 = .ok (.ifCond .eq 22, 3) := by decide +kernel
theorem dX9_span_80 : decode cX9_span 80 = .ok (.iload_n 3, 1) := by decide +kernel
theorem dX9_span_81 : decode cX9_span 81 = .ok (.goto 15, 3) := by decide +kernel
theorem dX9_span_84 : decode cX9_span 84 = .ok (.iload 5, 2) := by decide +kernel
theorem dX9_span_86 : decode cX9_span 86 = .ok (.iload_n 3, 1) := by decide +kernel
theorem dX9_span_87 : decode cX9_span 87 = .ok (.if_icmp .le 8, 3) := by decide +kernel
theorem dX9_span_90 : decode cX9_span 90 = .ok (.iload 5, 2) := by decide +kernel
theorem dX9_span_92 : decode cX9_span 92 = .ok (.goto 4, 3) := by decide +kernel
theorem dX9_span_95 : decode cX9_span 95 = .ok (.iload_n 3, 1) := by decide +kernel
theorem dX9_span_96 : decode cX9_span 96 = .ok (.istore_n 3, 1) := by decide +kernel
theorem dX9_span_97 : decode cX9_span 97 = .ok (.iinc 4 1, 3) := by decide +kernel
theorem dX9_split_0 : decode cX9_split 0 = .ok (.aload_n 0, 1) := by decide +kernel
theorem dX9_split_1 : decode cX9_split 1 = .ok (.invokevirtual 180, 3) := by decide +kernel
theorem dX9_split_12 : decode cX9_split 12 = .ok (.ifCond .ne 9, 3) := by decide +kernel
theorem dX9_split_15 : decode cX9_split 15 = .ok (.aload_n 0, 1) := by decide +kernel
theorem dX9_split_16 : decode cX9_split 16 = .ok (.iconst (-1), 1) := by decide +kernel
theorem dX9_split_17 : decode cX9_split 17 = .ok (.invokevirtual 112, 3) := by decide +kernel
theorem dX9_split_20 : decode cX9_split 20 = .ok (.ireturn, 1) := by decide +kernel
theorem dX9_split_21 : decode cX9_split 21 = .ok (.aload_n 0, 1) := by decide +kernel
theorem dX9_split_22 : decode cX9_split 22 = .ok (.invokevirtual 195, 3) := by decide +kernel
theorem dX9_split_25 : decode cX9_split 25 = .ok (.ifCond .eq 11, 3) := by decide +kernel
theorem dX9_split_28 : decode cX9_split 28 = .ok (.aload_n 0, 1) := by decide +kernel
theorem dX9_split_29 : decode cX9_split 29 = .ok (.iload_n 1, 1) := by decide +kernel
theorem dX9_split_30 : decode cX9_split 30 = .ok (.invokevirtual 209, 3) := by decide +kernel
theorem dX9_split_33 : decode cX9_split 33 = .ok (.goto 9, 3) := by decide +kernel
theorem dX9_split_36 : decode cX9_split 36 = .ok (.aload_n 0, 1) := by decide +kernel
theorem dX9_split_37 : decode cX9_split 37 = .ok (.bipush (-5), 2) := by decide +kernel
theorem dX9_split_39 : decode cX9_split 39 = .ok (.invokevirtual 112, 3) := by decide +kernel
theorem dX9_split_4 : decode cX9_split 4 = .ok (.iload_n 1, 1) := by decide +kernel
theorem dX9_split_42 : decode cX9_split 42 = .ok (.ireturn, 1) := by decide +kernel
theorem dX9_split_5 : decode cX9_split 5 = .ok (.aload_n 0, 1) := by decide +kernel
theorem dX9_split_6 : decode cX9_split 6 = .ok (.getfield 163, 3) := by decide +kernel
theorem dX9_split_9 : decode cX9_split 9 = .ok (.invokestatic 116, 3) := by decide +kernel
theorem dX9_step_0 : decode cX9_step 0 = .ok (.aload_n 0, 1) := by decide +kernel
theorem dX9_step_1 : decode cX9_step 1 = .ok (.invokevirtual 180, 3) := by decide +kernel
theorem dX9_step_12 : decode cX9_step 12 = .ok (.ifCond .eq 23, 3) := by decide +kernel
theorem dX9_step_15 : decode cX9_step 15 = .ok (.iload_n 2, 1) := by decide +kernel
theorem dX9_step_16 : decode cX9_step 16 = .ok (.aload_n 0, 1) := by decide +kernel
theorem dX9_step_17 : decode cX9_step 17 = .ok (.getfield 47, 3) := by decide +kernel
theorem dX9_step_20 : decode cX9_step 20 = .ok (.invokestatic 116, 3) := by decide +kernel
theorem dX9_step_23 : decode cX9_step 23 = .ok (.ifCond .eq 12, 3) := by decide +kernel
theorem dX9_step_26 : decode cX9_step 26 = .ok (.aload_n 0, 1) := by decide +kernel
theorem dX9_step_27 : decode cX9_step 27 = .ok (.iload_n 1, 1) := by decide +kernel
theorem dX9_step_28 : decode cX9_step 28 = .ok (.iload_n 2, 1) := by decide +kernel
theorem dX9_step_29 : decode cX9_step 29 = .ok (.invokevirtual 183, 3) := by decide +kernel
theorem dX9_step_32 : decode cX9_step 32 = .ok (.goto 5, 3) := by decide +kernel
theorem dX9_step_35 : decode cX9_step 35 = .ok (.ldc 187, 2) := by decide +kernel
theorem dX9_step_37 : decode cX9_step 37 = .ok (.ireturn, 1) := by decide +kernel
theorem dX9_step_4 : decode cX9_step 4 = .ok (.iload_n 1, 1) := by decide +kernel
theorem dX9_step_5 : decode cX9_step 5 = .ok (.aload_n 0, 1) := by decide +kernel
theorem dX9_step_6 : decode cX9_step 6 = .ok (.getfield 163, 3) := by decide +kernel
theorem dX9_step_9 : decode cX9_step 9 = .ok (.invokestatic 116, 3) := by decide +kernel
theorem dX9_sum_0 : decode cX9_sum 0 = .ok (.iconst 0, 1) := by decide +kernel
theorem dX9_sum_1 : decode cX9_sum 1 = .ok (.istore 4, 2) := by decide +kernel
theorem dX9_sum_12 : decode cX9_sum 12 = .ok (.if_icmp .ge 32, 3) := by decide +kernel
theorem dX9_sum_15 : decode cX9_sum 15 = .ok (.iload 4, 2) := by decide +kernel
theorem dX9_sum_17 : decode cX9_sum 17 = .ok (.aload_n 0, 1) := by decide +kernel
theorem dX9_sum_18 : decode cX9_sum 18 = .ok (.getfield 9, 3) := by decide +kernel
theorem dX9_sum_21 : decode cX9_sum 21 = .ok (.iconst 4, 1) := by decide +kernel
theorem dX9_sum_22 : decode cX9_sum 22 = .ok (.iload_n 1, 1) := by decide +kernel
theorem dX9_sum_23 : decode cX9_sum 23 = .ok (.imul, 1) := by decide +kernel
theorem dX9_sum_24 : decode cX9_sum 24 = .ok (.iload 5, 2) := by decide +kernel
theorem dX9_sum_26 : decode cX9_sum 26 = .ok (.iadd, 1) := by decide +kernel
theorem dX9_sum_27 : decode cX9_sum 27 = .ok (.iaload, 1) := by decide +kernel
theorem dX9_sum_28 : decode cX9_sum 28 = .ok (.aload_n 2, 1) := by decide +kernel
theorem dX9_sum_29 : decode cX9_sum 29 = .ok (.iload_n 3, 1) := by decide +kernel
theorem dX9_sum_3 : decode cX9_sum 3 = .ok (.iconst 0, 1) := by decide +kernel
theorem dX9_sum_30 : decode cX9_sum 30 = .ok (.iload 5, 2) := by decide +kernel
theorem dX9_sum_32 : decode cX9_sum 32 = .ok (.iadd, 1) := by decide +kernel
theorem dX9_sum_33 : decode cX9_sum 33 = .ok (.iaload, 1) := by decide +kernel
theorem dX9_sum_34 : decode cX9_sum 34 = .ok (.imul, 1) := by decide +kernel
theorem dX9_sum_35 : decode cX9_sum 35 = .ok (.iadd, 1) := by decide +kernel
theorem dX9_sum_36 : decode cX9_sum 36 = .ok (.istore 4, 2) := by decide +kernel
theorem dX9_sum_38 : decode cX9_sum 38 = .ok (.iinc 5 1, 3) := by decide +kernel
theorem dX9_sum_4 : decode cX9_sum 4 = .ok (.istore 5, 2) := by decide +kernel
theorem dX9_sum_41 : decode cX9_sum 41 = .ok (.goto (-35), 3) := by decide +kernel
theorem dX9_sum_44 : decode cX9_sum 44 = .ok (.iload 4, 2) := by decide +kernel
theorem dX9_sum_46 : decode cX9_sum 46 = .ok (.ireturn, 1) := by decide +kernel
theorem dX9_sum_6 : decode cX9_sum 6 = .ok (.iload 5, 2) := by decide +kernel
theorem dX9_sum_8 : decode cX9_sum 8 = .ok (.aload_n 0, 1) := by decide +kernel
theorem dX9_sum_9 : decode cX9_sum 9 = .ok (.getfield 47, 3) := by decide +kernel
theorem dX9_take_0 : decode cX9_take 0 = .ok (.aload_n 0, 1) := by decide +kernel
theorem dX9_take_1 : decode cX9_take 1 = .ok (.invokevirtual 238, 3) := by decide +kernel
theorem dX9_take_12 : decode cX9_take 12 = .ok (.ifCond .ne 9, 3) := by decide +kernel
theorem dX9_take_15 : decode cX9_take 15 = .ok (.aload_n 0, 1) := by decide +kernel
theorem dX9_take_16 : decode cX9_take 16 = .ok (.iconst (-1), 1) := by decide +kernel
theorem dX9_take_17 : decode cX9_take 17 = .ok (.invokevirtual 112, 3) := by decide +kernel
theorem dX9_take_20 : decode cX9_take 20 = .ok (.ireturn, 1) := by decide +kernel
theorem dX9_take_21 : decode cX9_take 21 = .ok (.iconst 0, 1) := by decide +kernel
theorem dX9_take_22 : decode cX9_take 22 = .ok (.istore_n 2, 1) := by decide +kernel
theorem dX9_take_23 : decode cX9_take 23 = .ok (.iload_n 2, 1) := by decide +kernel
theorem dX9_take_24 : decode cX9_take 24 = .ok (.aload_n 0, 1) := by decide +kernel
theorem dX9_take_25 : decode cX9_take 25 = .ok (.getfield 47, 3) := by decide +kernel
theorem dX9_take_28 : decode cX9_take 28 = .ok (.if_icmp .ge 25, 3) := by decide +kernel
theorem dX9_take_31 : decode cX9_take 31 = .ok (.aload_n 0, 1) := by decide +kernel
theorem dX9_take_32 : decode cX9_take 32 = .ok (.getfield 28, 3) := by decide +kernel
theorem dX9_take_35 : decode cX9_take 35 = .ok (.iload_n 2, 1) := by decide +kernel
theorem dX9_take_36 : decode cX9_take 36 = .ok (.aload_n 0, 1) := by decide +kernel
theorem dX9_take_37 : decode cX9_take 37 = .ok (.getfield 96, 3) := by decide +kernel
theorem dX9_take_4 : decode cX9_take 4 = .ok (.iload_n 1, 1) := by decide +kernel
theorem dX9_take_40 : decode cX9_take 40 = .ok (.iconst 4, 1) := by decide +kernel
theorem dX9_take_41 : decode cX9_take 41 = .ok (.iload_n 1, 1) := by decide +kernel
theorem dX9_take_42 : decode cX9_take 42 = .ok (.imul, 1) := by decide +kernel
theorem dX9_take_43 : decode cX9_take 43 = .ok (.iload_n 2, 1) := by decide +kernel
theorem dX9_take_44 : decode cX9_take 44 = .ok (.iadd, 1) := by decide +kernel
theorem dX9_take_45 : decode cX9_take 45 = .ok (.iaload, 1) := by decide +kernel
theorem dX9_take_46 : decode cX9_take 46 = .ok (.iastore, 1) := by decide +kernel
theorem dX9_take_47 : decode cX9_take 47 = .ok (.iinc 2 1, 3) := by decide +kernel
theorem dX9_take_5 : decode cX9_take 5 = .ok (.aload_n 0, 1) := by decide +kernel
theorem dX9_take_50 : decode cX9_take 50 = .ok (.goto (-27), 3) := by decide +kernel
theorem dX9_take_53 : decode cX9_take 53 = .ok (.iconst 1, 1) := by decide +kernel
theorem dX9_take_54 : decode cX9_take 54 = .ok (.ireturn, 1) := by decide +kernel
theorem dX9_take_6 : decode cX9_take 6 = .ok (.getfield 232, 3) := by decide +kernel
theorem dX9_take_9 : decode cX9_take 9 = .ok (.invokestatic 116, 3) := by decide +kernel
theorem dX9_takes_0 : decode cX9_takes 0 = .ok (.iconst 0, 1) := by decide +kernel
theorem dX9_takes_1 : decode cX9_takes 1 = .ok (.istore_n 2, 1) := by decide +kernel
theorem dX9_takes_10 : decode cX9_takes 10 = .ok (.iconst 3, 1) := by decide +kernel
theorem dX9_takes_11 : decode cX9_takes 11 = .ok (.if_icmp .ge 27, 3) := by decide +kernel
theorem dX9_takes_14 : decode cX9_takes 14 = .ok (.iload_n 0, 1) := by decide +kernel
theorem dX9_takes_15 : decode cX9_takes 15 = .ok (.iload_n 3, 1) := by decide +kernel
theorem dX9_takes_16 : decode cX9_takes 16 = .ok (.ishr, 1) := by decide +kernel
theorem dX9_takes_17 : decode cX9_takes 17 = .ok (.iconst 1, 1) := by decide +kernel
theorem dX9_takes_18 : decode cX9_takes 18 = .ok (.iand, 1) := by decide +kernel
theorem dX9_takes_19 : decode cX9_takes 19 = .ok (.ifCond .ne 6, 3) := by decide +kernel
theorem dX9_takes_2 : decode cX9_takes 2 = .ok (.iconst 0, 1) := by decide +kernel
theorem dX9_takes_22 : decode cX9_takes 22 = .ok (.goto 10, 3) := by decide +kernel
theorem dX9_takes_25 : decode cX9_takes 25 = .ok (.aload_n 1, 1) := by decide +kernel
theorem dX9_takes_26 : decode cX9_takes 26 = .ok (.iload_n 2, 1) := by decide +kernel
theorem dX9_takes_27 : decode cX9_takes 27 = .ok (.iload_n 3, 1) := by decide +kernel
theorem dX9_takes_28 : decode cX9_takes 28 = .ok (.iastore, 1) := by decide +kernel
theorem dX9_takes_29 : decode cX9_takes 29 = .ok (.iinc 2 1, 3) := by decide +kernel
theorem dX9_takes_3 : decode cX9_takes 3 = .ok (.istore_n 3, 1) := by decide +kernel
theorem dX9_takes_32 : decode cX9_takes 32 = .ok (.iinc 3 1, 3) := by decide +kernel
theorem dX9_takes_35 : decode cX9_takes 35 = .ok (.goto (-31), 3) := by decide +kernel
theorem dX9_takes_38 : decode cX9_takes 38 = .ok (.iload_n 2, 1) := by decide +kernel
theorem dX9_takes_39 : decode cX9_takes 39 = .ok (.iconst 3, 1) := by decide +kernel
theorem dX9_takes_4 : decode cX9_takes 4 = .ok (.iload_n 3, 1) := by decide +kernel
theorem dX9_takes_40 : decode cX9_takes 40 = .ok (.if_icmp .ge 13, 3) := by decide +kernel
theorem dX9_takes_43 : decode cX9_takes 43 = .ok (.aload_n 1, 1) := by decide +kernel
theorem dX9_takes_44 : decode cX9_takes 44 = .ok (.iload_n 2, 1) := by decide +kernel
theorem dX9_takes_45 : decode cX9_takes 45 = .ok (.iconst 0, 1) := by decide +kernel
theorem dX9_takes_46 : decode cX9_takes 46 = .ok (.iastore, 1) := by decide +kernel
theorem dX9_takes_47 : decode cX9_takes 47 = .ok (.iinc 2 1, 3) := by decide +kernel
theorem dX9_takes_5 : decode cX9_takes 5 = .ok (.iconst 4, 1) := by decide +kernel
theorem dX9_takes_50 : decode cX9_takes 50 = .ok (.goto (-12), 3) := by decide +kernel
theorem dX9_takes_53 : decode cX9_takes 53 = .ok (.return_, 1) := by decide +kernel
theorem dX9_takes_6 : decode cX9_takes 6 = .ok (.if_icmp .ge 32, 3) := by decide +kernel
theorem dX9_takes_9 : decode cX9_takes 9 = .ok (.iload_n 2, 1) := by decide +kernel
theorem dX9_tray_0 : decode cX9_tray 0 = .ok (.iload_n 1, 1) := by decide +kernel
theorem dX9_tray_1 : decode cX9_tray 1 = .ok (.iconst 4, 1) := by decide +kernel
theorem dX9_tray_10 : decode cX9_tray 10 = .ok (.invokevirtual 112, 3) := by decide +kernel
theorem dX9_tray_13 : decode cX9_tray 13 = .ok (.ireturn, 1) := by decide +kernel
theorem dX9_tray_14 : decode cX9_tray 14 = .ok (.iload_n 2, 1) := by decide +kernel
theorem dX9_tray_15 : decode cX9_tray 15 = .ok (.iconst 4, 1) := by decide +kernel
theorem dX9_tray_16 : decode cX9_tray 16 = .ok (.invokestatic 116, 3) := by decide +kernel
theorem dX9_tray_19 : decode cX9_tray 19 = .ok (.ifCond .ne 10, 3) := by decide +kernel
theorem dX9_tray_2 : decode cX9_tray 2 = .ok (.invokestatic 116, 3) := by decide +kernel
theorem dX9_tray_22 : decode cX9_tray 22 = .ok (.aload_n 0, 1) := by decide +kernel
theorem dX9_tray_23 : decode cX9_tray 23 = .ok (.bipush (-2), 2) := by decide +kernel
theorem dX9_tray_25 : decode cX9_tray 25 = .ok (.invokevirtual 112, 3) := by decide +kernel
theorem dX9_tray_28 : decode cX9_tray 28 = .ok (.ireturn, 1) := by decide +kernel
theorem dX9_tray_29 : decode cX9_tray 29 = .ok (.iload_n 3, 1) := by decide +kernel
theorem dX9_tray_30 : decode cX9_tray 30 = .ok (.ifCond .ge 10, 3) := by decide +kernel
theorem dX9_tray_33 : decode cX9_tray 33 = .ok (.aload_n 0, 1) := by decide +kernel
theorem dX9_tray_34 : decode cX9_tray 34 = .ok (.bipush (-4), 2) := by decide +kernel
theorem dX9_tray_36 : decode cX9_tray 36 = .ok (.invokevirtual 112, 3) := by decide +kernel
theorem dX9_tray_39 : decode cX9_tray 39 = .ok (.ireturn, 1) := by decide +kernel
theorem dX9_tray_40 : decode cX9_tray 40 = .ok (.iload_n 3, 1) := by decide +kernel
theorem dX9_tray_41 : decode cX9_tray 41 = .ok (.bipush 20, 2) := by decide +kernel
theorem dX9_tray_43 : decode cX9_tray 43 = .ok (.if_icmp .le 10, 3) := by decide +kernel
theorem dX9_tray_46 : decode cX9_tray 46 = .ok (.aload_n 0, 1) := by decide +kernel
theorem dX9_tray_47 : decode cX9_tray 47 = .ok (.bipush (-6), 2) := by decide +kernel
theorem dX9_tray_49 : decode cX9_tray 49 = .ok (.invokevirtual 112, 3) := by decide +kernel
theorem dX9_tray_5 : decode cX9_tray 5 = .ok (.ifCond .ne 9, 3) := by decide +kernel
theorem dX9_tray_52 : decode cX9_tray 52 = .ok (.ireturn, 1) := by decide +kernel
theorem dX9_tray_53 : decode cX9_tray 53 = .ok (.aload_n 0, 1) := by decide +kernel
theorem dX9_tray_54 : decode cX9_tray 54 = .ok (.getfield 34, 3) := by decide +kernel
theorem dX9_tray_57 : decode cX9_tray 57 = .ok (.iload_n 1, 1) := by decide +kernel
theorem dX9_tray_58 : decode cX9_tray 58 = .ok (.iload_n 2, 1) := by decide +kernel
theorem dX9_tray_59 : decode cX9_tray 59 = .ok (.iastore, 1) := by decide +kernel
theorem dX9_tray_60 : decode cX9_tray 60 = .ok (.aload_n 0, 1) := by decide +kernel
theorem dX9_tray_61 : decode cX9_tray 61 = .ok (.getfield 37, 3) := by decide +kernel
theorem dX9_tray_64 : decode cX9_tray 64 = .ok (.iload_n 1, 1) := by decide +kernel
theorem dX9_tray_65 : decode cX9_tray 65 = .ok (.iload_n 3, 1) := by decide +kernel
theorem dX9_tray_66 : decode cX9_tray 66 = .ok (.iastore, 1) := by decide +kernel
theorem dX9_tray_67 : decode cX9_tray 67 = .ok (.iconst 0, 1) := by decide +kernel
theorem dX9_tray_68 : decode cX9_tray 68 = .ok (.istore 4, 2) := by decide +kernel
theorem dX9_tray_70 : decode cX9_tray 70 = .ok (.iload 4, 2) := by decide +kernel
theorem dX9_tray_72 : decode cX9_tray 72 = .ok (.iload_n 3, 1) := by decide +kernel
theorem dX9_tray_73 : decode cX9_tray 73 = .ok (.if_icmp .ge 22, 3) := by decide +kernel
theorem dX9_tray_76 : decode cX9_tray 76 = .ok (.aload_n 0, 1) := by decide +kernel
theorem dX9_tray_77 : decode cX9_tray 77 = .ok (.getfield 40, 3) := by decide +kernel
theorem dX9_tray_8 : decode cX9_tray 8 = .ok (.aload_n 0, 1) := by decide +kernel
theorem dX9_tray_80 : decode cX9_tray 80 = .ok (.bipush 20, 2) := by decide +kernel
theorem dX9_tray_82 : decode cX9_tray 82 = .ok (.iload_n 1, 1) := by decide +kernel
theorem dX9_tray_83 : decode cX9_tray 83 = .ok (.imul, 1) := by decide +kernel
theorem dX9_tray_84 : decode cX9_tray 84 = .ok (.iload 4, 2) := by decide +kernel
theorem dX9_tray_86 : decode cX9_tray 86 = .ok (.iadd, 1) := by decide +kernel
theorem dX9_tray_87 : decode cX9_tray 87 = .ok (.lconst 0, 1) := by decide +kernel
theorem dX9_tray_88 : decode cX9_tray 88 = .ok (.lastore, 1) := by decide +kernel
theorem dX9_tray_89 : decode cX9_tray 89 = .ok (.iinc 4 1, 3) := by decide +kernel
theorem dX9_tray_9 : decode cX9_tray 9 = .ok (.iconst (-1), 1) := by decide +kernel
theorem dX9_tray_92 : decode cX9_tray 92 = .ok (.goto (-22), 3) := by decide +kernel
theorem dX9_tray_95 : decode cX9_tray 95 = .ok (.iconst 1, 1) := by decide +kernel
theorem dX9_tray_96 : decode cX9_tray 96 = .ok (.ireturn, 1) := by decide +kernel
theorem dX9_what_0 : decode cX9_what 0 = .ok (.aload_n 0, 1) := by decide +kernel
theorem dX9_what_1 : decode cX9_what 1 = .ok (.invokevirtual 195, 3) := by decide +kernel
theorem dX9_what_11 : decode cX9_what 11 = .ok (.iconst 0, 1) := by decide +kernel
theorem dX9_what_12 : decode cX9_what 12 = .ok (.aload_n 0, 1) := by decide +kernel
theorem dX9_what_13 : decode cX9_what 13 = .ok (.aload_n 0, 1) := by decide +kernel
theorem dX9_what_14 : decode cX9_what 14 = .ok (.getfield 28, 3) := by decide +kernel
theorem dX9_what_17 : decode cX9_what 17 = .ok (.iconst 0, 1) := by decide +kernel
theorem dX9_what_18 : decode cX9_what 18 = .ok (.invokevirtual 199, 3) := by decide +kernel
theorem dX9_what_21 : decode cX9_what 21 = .ok (.ifCond .eq 7, 3) := by decide +kernel
theorem dX9_what_24 : decode cX9_what 24 = .ok (.iconst 2, 1) := by decide +kernel
theorem dX9_what_25 : decode cX9_what 25 = .ok (.goto 4, 3) := by decide +kernel
theorem dX9_what_28 : decode cX9_what 28 = .ok (.iconst 0, 1) := by decide +kernel
theorem dX9_what_29 : decode cX9_what 29 = .ok (.iadd, 1) := by decide +kernel
theorem dX9_what_30 : decode cX9_what 30 = .ok (.ireturn, 1) := by decide +kernel
theorem dX9_what_4 : decode cX9_what 4 = .ok (.ifCond .eq 7, 3) := by decide +kernel
theorem dX9_what_7 : decode cX9_what 7 = .ok (.iconst 1, 1) := by decide +kernel
theorem dX9_what_8 : decode cX9_what 8 = .ok (.goto 4, 3) := by decide +kernel
theorem dX9_works_0 : decode cX9_works 0 = .ok (.iload_n 1, 1) := by decide +kernel
theorem dX9_works_1 : decode cX9_works 1 = .ok (.iconst 1, 1) := by decide +kernel
theorem dX9_works_11 : decode cX9_works 11 = .ok (.ireturn, 1) := by decide +kernel
theorem dX9_works_12 : decode cX9_works 12 = .ok (.iload_n 1, 1) := by decide +kernel
theorem dX9_works_13 : decode cX9_works 13 = .ok (.iconst 4, 1) := by decide +kernel
theorem dX9_works_14 : decode cX9_works 14 = .ok (.if_icmp .le 10, 3) := by decide +kernel
theorem dX9_works_17 : decode cX9_works 17 = .ok (.aload_n 0, 1) := by decide +kernel
theorem dX9_works_18 : decode cX9_works 18 = .ok (.bipush (-6), 2) := by decide +kernel
theorem dX9_works_2 : decode cX9_works 2 = .ok (.if_icmp .ge 10, 3) := by decide +kernel
theorem dX9_works_20 : decode cX9_works 20 = .ok (.invokevirtual 112, 3) := by decide +kernel
theorem dX9_works_23 : decode cX9_works 23 = .ok (.ireturn, 1) := by decide +kernel
theorem dX9_works_24 : decode cX9_works 24 = .ok (.aload_n 0, 1) := by decide +kernel
theorem dX9_works_25 : decode cX9_works 25 = .ok (.iload_n 1, 1) := by decide +kernel
theorem dX9_works_26 : decode cX9_works 26 = .ok (.putfield 47, 3) := by decide +kernel
theorem dX9_works_29 : decode cX9_works 29 = .ok (.aload_n 0, 1) := by decide +kernel
theorem dX9_works_30 : decode cX9_works 30 = .ok (.invokevirtual 99, 3) := by decide +kernel
theorem dX9_works_33 : decode cX9_works 33 = .ok (.iconst 1, 1) := by decide +kernel
theorem dX9_works_34 : decode cX9_works 34 = .ok (.ireturn, 1) := by decide +kernel
theorem dX9_works_5 : decode cX9_works 5 = .ok (.aload_n 0, 1) := by decide +kernel
theorem dX9_works_6 : decode cX9_works 6 = .ok (.bipush (-4), 2) := by decide +kernel
theorem dX9_works_8 : decode cX9_works 8 = .ok (.invokevirtual 112, 3) := by decide +kernel
