theorem dX9_a_0 : decode cX9_a 0 = .ok (.aload_n 0, 1) := by decide +kernel
theorem dX9_a_1 : decode cX9_a 1 = .ok (.getfield 9, 3) := by decide +kernel
theorem dX9_a_10 : decode cX9_a 10 = .ok (.i2l, 1) := by decide +kernel
theorem dX9_a_11 : decode cX9_a 11 = .ok (.lreturn, 1) := by decide +kernel
theorem dX9_a_4 : decode cX9_a 4 = .ok (.iconst 4, 1) := by decide +kernel
theorem dX9_a_5 : decode cX9_a 5 = .ok (.iload_n 1, 1) := by decide +kernel
theorem dX9_a_6 : decode cX9_a 6 = .ok (.imul, 1) := by decide +kernel
theorem dX9_a_7 : decode cX9_a 7 = .ok (.iload_n 2, 1) := by decide +kernel
theorem dX9_a_8 : decode cX9_a 8 = .ok (.iadd, 1) := by decide +kernel
theorem dX9_a_9 : decode cX9_a 9 = .ok (.iaload, 1) := by decide +kernel
theorem dX9_at_0 : decode cX9_at 0 = .ok (.aload_n 0, 1) := by decide +kernel
theorem dX9_at_1 : decode cX9_at 1 = .ok (.getfield 65, 3) := by decide +kernel
theorem dX9_at_10 : decode cX9_at 10 = .ok (.iaload, 1) := by decide +kernel
theorem dX9_at_11 : decode cX9_at 11 = .ok (.imul, 1) := by decide +kernel
theorem dX9_at_12 : decode cX9_at 12 = .ok (.iload_n 2, 1) := by decide +kernel
theorem dX9_at_13 : decode cX9_at 13 = .ok (.iadd, 1) := by decide +kernel
theorem dX9_at_14 : decode cX9_at 14 = .ok (.iaload, 1) := by decide +kernel
theorem dX9_at_15 : decode cX9_at 15 = .ok (.ireturn, 1) := by decide +kernel
theorem dX9_at_4 : decode cX9_at 4 = .ok (.iconst 4, 1) := by decide +kernel
theorem dX9_at_5 : decode cX9_at 5 = .ok (.aload_n 0, 1) := by decide +kernel
theorem dX9_at_6 : decode cX9_at 6 = .ok (.getfield 68, 3) := by decide +kernel
theorem dX9_at_9 : decode cX9_at 9 = .ok (.iload_n 1, 1) := by decide +kernel
theorem dX9_begins_0 : decode cX9_begins 0 = .ok (.aload_n 0, 1) := by decide +kernel
theorem dX9_begins_1 : decode cX9_begins 1 = .ok (.iconst 0, 1) := by decide +kernel
theorem dX9_begins_12 : decode cX9_begins 12 = .ok (.aload_n 0, 1) := by decide +kernel
theorem dX9_begins_13 : decode cX9_begins 13 = .ok (.getfield 16, 3) := by decide +kernel
theorem dX9_begins_16 : decode cX9_begins 16 = .ok (.iload_n 1, 1) := by decide +kernel
theorem dX9_begins_17 : decode cX9_begins 17 = .ok (.iconst 0, 1) := by decide +kernel
theorem dX9_begins_18 : decode cX9_begins 18 = .ok (.iastore, 1) := by decide +kernel
theorem dX9_begins_19 : decode cX9_begins 19 = .ok (.aload_n 0, 1) := by decide +kernel
theorem dX9_begins_2 : decode cX9_begins 2 = .ok (.putfield 102, 3) := by decide +kernel
theorem dX9_begins_20 : decode cX9_begins 20 = .ok (.getfield 19, 3) := by decide +kernel
theorem dX9_begins_23 : decode cX9_begins 23 = .ok (.iload_n 1, 1) := by decide +kernel
theorem dX9_begins_24 : decode cX9_begins 24 = .ok (.bipush 10, 2) := by decide +kernel
theorem dX9_begins_26 : decode cX9_begins 26 = .ok (.iastore, 1) := by decide +kernel
theorem dX9_begins_27 : decode cX9_begins 27 = .ok (.aload_n 0, 1) := by decide +kernel
theorem dX9_begins_28 : decode cX9_begins 28 = .ok (.getfield 22, 3) := by decide +kernel
theorem dX9_begins_31 : decode cX9_begins 31 = .ok (.iload_n 1, 1) := by decide +kernel
theorem dX9_begins_32 : decode cX9_begins 32 = .ok (.iconst 0, 1) := by decide +kernel
theorem dX9_begins_33 : decode cX9_begins 33 = .ok (.iastore, 1) := by decide +kernel
theorem dX9_begins_34 : decode cX9_begins 34 = .ok (.aload_n 0, 1) := by decide +kernel
theorem dX9_begins_35 : decode cX9_begins 35 = .ok (.getfield 25, 3) := by decide +kernel
theorem dX9_begins_38 : decode cX9_begins 38 = .ok (.iload_n 1, 1) := by decide +kernel
theorem dX9_begins_39 : decode cX9_begins 39 = .ok (.iconst 0, 1) := by decide +kernel
theorem dX9_begins_40 : decode cX9_begins 40 = .ok (.iastore, 1) := by decide +kernel
theorem dX9_begins_41 : decode cX9_begins 41 = .ok (.aload_n 0, 1) := by decide +kernel
theorem dX9_begins_42 : decode cX9_begins 42 = .ok (.getfield 28, 3) := by decide +kernel
theorem dX9_begins_45 : decode cX9_begins 45 = .ok (.iload_n 1, 1) := by decide +kernel
theorem dX9_begins_46 : decode cX9_begins 46 = .ok (.iconst 0, 1) := by decide +kernel
theorem dX9_begins_47 : decode cX9_begins 47 = .ok (.iastore, 1) := by decide +kernel
theorem dX9_begins_48 : decode cX9_begins 48 = .ok (.iinc 1 1, 3) := by decide +kernel
theorem dX9_begins_5 : decode cX9_begins 5 = .ok (.iconst 0, 1) := by decide +kernel
theorem dX9_begins_51 : decode cX9_begins 51 = .ok (.goto (-44), 3) := by decide +kernel
theorem dX9_begins_54 : decode cX9_begins 54 = .ok (.aload_n 0, 1) := by decide +kernel
theorem dX9_begins_55 : decode cX9_begins 55 = .ok (.iconst 0, 1) := by decide +kernel
theorem dX9_begins_56 : decode cX9_begins 56 = .ok (.putfield 105, 3) := by decide +kernel
theorem dX9_begins_59 : decode cX9_begins 59 = .ok (.aload_n 0, 1) := by decide +kernel
theorem dX9_begins_6 : decode cX9_begins 6 = .ok (.istore_n 1, 1) := by decide +kernel
theorem dX9_begins_60 : decode cX9_begins 60 = .ok (.iconst 0, 1) := by decide +kernel
theorem dX9_begins_61 : decode cX9_begins 61 = .ok (.putfield 109, 3) := by decide +kernel
theorem dX9_begins_64 : decode cX9_begins 64 = .ok (.return_, 1) := by decide +kernel
theorem dX9_begins_7 : decode cX9_begins 7 = .ok (.iload_n 1, 1) := by decide +kernel
theorem dX9_begins_8 : decode cX9_begins 8 = .ok (.iconst 4, 1) := by decide +kernel
theorem dX9_begins_9 : decode cX9_begins 9 = .ok (.if_icmp .ge 45, 3) := by decide +kernel
theorem dX9_bits_0 : decode cX9_bits 0 = .ok (.iload_n 0, 1) := by decide +kernel
theorem dX9_bits_1 : decode cX9_bits 1 = .ok (.iconst 1, 1) := by decide +kernel
theorem dX9_bits_10 : decode cX9_bits 10 = .ok (.iconst 2, 1) := by decide +kernel
theorem dX9_bits_11 : decode cX9_bits 11 = .ok (.ishr, 1) := by decide +kernel
theorem dX9_bits_12 : decode cX9_bits 12 = .ok (.iconst 1, 1) := by decide +kernel
theorem dX9_bits_13 : decode cX9_bits 13 = .ok (.iand, 1) := by decide +kernel
theorem dX9_bits_14 : decode cX9_bits 14 = .ok (.iadd, 1) := by decide +kernel
theorem dX9_bits_15 : decode cX9_bits 15 = .ok (.iload_n 0, 1) := by decide +kernel
theorem dX9_bits_16 : decode cX9_bits 16 = .ok (.iconst 3, 1) := by decide +kernel
theorem dX9_bits_17 : decode cX9_bits 17 = .ok (.ishr, 1) := by decide +kernel
theorem dX9_bits_18 : decode cX9_bits 18 = .ok (.iconst 1, 1) := by decide +kernel
theorem dX9_bits_19 : decode cX9_bits 19 = .ok (.iand, 1) := by decide +kernel
theorem dX9_bits_2 : decode cX9_bits 2 = .ok (.iand, 1) := by decide +kernel
theorem dX9_bits_20 : decode cX9_bits 20 = .ok (.iadd, 1) := by decide +kernel
theorem dX9_bits_21 : decode cX9_bits 21 = .ok (.ireturn, 1) := by decide +kernel
theorem dX9_bits_3 : decode cX9_bits 3 = .ok (.iload_n 0, 1) := by decide +kernel
theorem dX9_bits_4 : decode cX9_bits 4 = .ok (.iconst 1, 1) := by decide +kernel
theorem dX9_bits_5 : decode cX9_bits 5 = .ok (.ishr, 1) := by decide +kernel
theorem dX9_bits_6 : decode cX9_bits 6 = .ok (.iconst 1, 1) := by decide +kernel
theorem dX9_bits_7 : decode cX9_bits 7 = .ok (.iand, 1) := by decide +kernel
theorem dX9_bits_8 : decode cX9_bits 8 = .ok (.iadd, 1) := by decide +kernel
theorem dX9_bits_9 : decode cX9_bits 9 = .ok (.iload_n 0, 1) := by decide +kernel
theorem dX9_bound_0 : decode cX9_bound 0 = .ok (.iload_n 1, 1) := by decide +kernel
theorem dX9_bound_1 : decode cX9_bound 1 = .ok (.aload_n 0, 1) := by decide +kernel
theorem dX9_bound_11 : decode cX9_bound 11 = .ok (.aload_n 0, 1) := by decide +kernel
theorem dX9_bound_12 : decode cX9_bound 12 = .ok (.iconst (-1), 1) := by decide +kernel
theorem dX9_bound_13 : decode cX9_bound 13 = .ok (.invokevirtual 112, 3) := by decide +kernel
theorem dX9_bound_16 : decode cX9_bound 16 = .ok (.ireturn, 1) := by decide +kernel
theorem dX9_bound_17 : decode cX9_bound 17 = .ok (.iload_n 2, 1) := by decide +kernel
theorem dX9_bound_18 : decode cX9_bound 18 = .ok (.bipush (-10), 2) := by decide +kernel
theorem dX9_bound_2 : decode cX9_bound 2 = .ok (.getfield 47, 3) := by decide +kernel
theorem dX9_bound_20 : decode cX9_bound 20 = .ok (.if_icmp .lt 9, 3) := by decide +kernel
theorem dX9_bound_23 : decode cX9_bound 23 = .ok (.iload_n 3, 1) := by decide +kernel
theorem dX9_bound_24 : decode cX9_bound 24 = .ok (.bipush (-10), 2) := by decide +kernel
theorem dX9_bound_26 : decode cX9_bound 26 = .ok (.if_icmp .ge 10, 3) := by decide +kernel
theorem dX9_bound_29 : decode cX9_bound 29 = .ok (.aload_n 0, 1) := by decide +kernel
theorem dX9_bound_30 : decode cX9_bound 30 = .ok (.bipush (-4), 2) := by decide +kernel
theorem dX9_bound_32 : decode cX9_bound 32 = .ok (.invokevirtual 112, 3) := by decide +kernel
theorem dX9_bound_35 : decode cX9_bound 35 = .ok (.ireturn, 1) := by decide +kernel
theorem dX9_bound_36 : decode cX9_bound 36 = .ok (.iload_n 2, 1) := by decide +kernel
theorem dX9_bound_37 : decode cX9_bound 37 = .ok (.bipush 10, 2) := by decide +kernel
theorem dX9_bound_39 : decode cX9_bound 39 = .ok (.if_icmp .gt 9, 3) := by decide +kernel
theorem dX9_bound_42 : decode cX9_bound 42 = .ok (.iload_n 3, 1) := by decide +kernel
theorem dX9_bound_43 : decode cX9_bound 43 = .ok (.bipush 10, 2) := by decide +kernel
theorem dX9_bound_45 : decode cX9_bound 45 = .ok (.if_icmp .le 10, 3) := by decide +kernel
theorem dX9_bound_48 : decode cX9_bound 48 = .ok (.aload_n 0, 1) := by decide +kernel
theorem dX9_bound_49 : decode cX9_bound 49 = .ok (.bipush (-6), 2) := by decide +kernel
theorem dX9_bound_5 : decode cX9_bound 5 = .ok (.invokestatic 116, 3) := by decide +kernel
theorem dX9_bound_51 : decode cX9_bound 51 = .ok (.invokevirtual 112, 3) := by decide +kernel
theorem dX9_bound_54 : decode cX9_bound 54 = .ok (.ireturn, 1) := by decide +kernel
theorem dX9_bound_55 : decode cX9_bound 55 = .ok (.aload_n 0, 1) := by decide +kernel
theorem dX9_bound_56 : decode cX9_bound 56 = .ok (.getfield 16, 3) := by decide +kernel
theorem dX9_bound_59 : decode cX9_bound 59 = .ok (.iload_n 1, 1) := by decide +kernel
theorem dX9_bound_60 : decode cX9_bound 60 = .ok (.iload_n 2, 1) := by decide +kernel
theorem dX9_bound_61 : decode cX9_bound 61 = .ok (.iastore, 1) := by decide +kernel
theorem dX9_bound_62 : decode cX9_bound 62 = .ok (.aload_n 0, 1) := by decide +kernel
theorem dX9_bound_63 : decode cX9_bound 63 = .ok (.getfield 19, 3) := by decide +kernel
theorem dX9_bound_66 : decode cX9_bound 66 = .ok (.iload_n 1, 1) := by decide +kernel
theorem dX9_bound_67 : decode cX9_bound 67 = .ok (.iload_n 3, 1) := by decide +kernel
theorem dX9_bound_68 : decode cX9_bound 68 = .ok (.iastore, 1) := by decide +kernel
theorem dX9_bound_69 : decode cX9_bound 69 = .ok (.aload_n 0, 1) := by decide +kernel
theorem dX9_bound_70 : decode cX9_bound 70 = .ok (.iconst 0, 1) := by decide +kernel
theorem dX9_bound_71 : decode cX9_bound 71 = .ok (.putfield 109, 3) := by decide +kernel
theorem dX9_bound_74 : decode cX9_bound 74 = .ok (.iconst 1, 1) := by decide +kernel
theorem dX9_bound_75 : decode cX9_bound 75 = .ok (.ireturn, 1) := by decide +kernel
theorem dX9_bound_8 : decode cX9_bound 8 = .ok (.ifCond .ne 9, 3) := by decide +kernel
theorem dX9_cell_0 : decode cX9_cell 0 = .ok (.iload_n 1, 1) := by decide +kernel
theorem dX9_cell_1 : decode cX9_cell 1 = .ok (.iconst 4, 1) := by decide +kernel
theorem dX9_cell_10 : decode cX9_cell 10 = .ok (.invokevirtual 112, 3) := by decide +kernel
theorem dX9_cell_100 : decode cX9_cell 100 = .ok (.l2i, 1) := by decide +kernel
theorem dX9_cell_101 : decode cX9_cell 101 = .ok (.i2l, 1) := by decide +kernel
theorem dX9_cell_102 : decode cX9_cell 102 = .ok (.goto 4, 3) := by decide +kernel
theorem dX9_cell_105 : decode cX9_cell 105 = .ok (.lload_n 3, 1) := by decide +kernel
theorem dX9_cell_106 : decode cX9_cell 106 = .ok (.lastore, 1) := by decide +kernel
theorem dX9_cell_107 : decode cX9_cell 107 = .ok (.iconst 1, 1) := by decide +kernel
theorem dX9_cell_108 : decode cX9_cell 108 = .ok (.ireturn, 1) := by decide +kernel
theorem dX9_cell_13 : decode cX9_cell 13 = .ok (.ireturn, 1) := by decide +kernel
theorem dX9_cell_14 : decode cX9_cell 14 = .ok (.aload_n 0, 1) := by decide +kernel
theorem dX9_cell_15 : decode cX9_cell 15 = .ok (.getfield 34, 3) := by decide +kernel
theorem dX9_cell_18 : decode cX9_cell 18 = .ok (.iload_n 1, 1) := by decide +kernel
theorem dX9_cell_19 : decode cX9_cell 19 = .ok (.iaload, 1) := by decide +kernel
theorem dX9_cell_2 : decode cX9_cell 2 = .ok (.invokestatic 116, 3) := by decide +kernel
theorem dX9_cell_20 : decode cX9_cell 20 = .ok (.ifCond .ge 10, 3) := by decide +kernel
theorem dX9_cell_23 : decode cX9_cell 23 = .ok (.aload_n 0, 1) := by decide +kernel
theorem dX9_cell_24 : decode cX9_cell 24 = .ok (.bipush (-7), 2) := by decide +kernel
theorem dX9_cell_26 : decode cX9_cell 26 = .ok (.invokevirtual 112, 3) := by decide +kernel
theorem dX9_cell_29 : decode cX9_cell 29 = .ok (.ireturn, 1) := by decide +kernel
theorem dX9_cell_30 : decode cX9_cell 30 = .ok (.iload_n 2, 1) := by decide +kernel
theorem dX9_cell_31 : decode cX9_cell 31 = .ok (.aload_n 0, 1) := by decide +kernel
theorem dX9_cell_32 : decode cX9_cell 32 = .ok (.getfield 37, 3) := by decide +kernel
theorem dX9_cell_35 : decode cX9_cell 35 = .ok (.iload_n 1, 1) := by decide +kernel
theorem dX9_cell_36 : decode cX9_cell 36 = .ok (.iaload, 1) := by decide +kernel
theorem dX9_cell_37 : decode cX9_cell 37 = .ok (.invokestatic 116, 3) := by decide +kernel
theorem dX9_cell_40 : decode cX9_cell 40 = .ok (.ifCond .ne 10, 3) := by decide +kernel
theorem dX9_cell_43 : decode cX9_cell 43 = .ok (.aload_n 0, 1) := by decide +kernel
theorem dX9_cell_44 : decode cX9_cell 44 = .ok (.bipush (-3), 2) := by decide +kernel
theorem dX9_cell_46 : decode cX9_cell 46 = .ok (.invokevirtual 112, 3) := by decide +kernel
theorem dX9_cell_49 : decode cX9_cell 49 = .ok (.ireturn, 1) := by decide +kernel
theorem dX9_cell_5 : decode cX9_cell 5 = .ok (.ifCond .ne 9, 3) := by decide +kernel
theorem dX9_cell_50 : decode cX9_cell 50 = .ok (.aload_n 0, 1) := by decide +kernel
theorem dX9_cell_51 : decode cX9_cell 51 = .ok (.getfield 34, 3) := by decide +kernel
theorem dX9_cell_54 : decode cX9_cell 54 = .ok (.iload_n 1, 1) := by decide +kernel
theorem dX9_cell_55 : decode cX9_cell 55 = .ok (.iaload, 1) := by decide +kernel
theorem dX9_cell_56 : decode cX9_cell 56 = .ok (.istore 5, 2) := by decide +kernel
theorem dX9_cell_58 : decode cX9_cell 58 = .ok (.aload_n 0, 1) := by decide +kernel
theorem dX9_cell_59 : decode cX9_cell 59 = .ok (.getfield 40, 3) := by decide +kernel
theorem dX9_cell_62 : decode cX9_cell 62 = .ok (.bipush 20, 2) := by decide +kernel
theorem dX9_cell_64 : decode cX9_cell 64 = .ok (.iload_n 1, 1) := by decide +kernel
theorem dX9_cell_65 : decode cX9_cell 65 = .ok (.imul, 1) := by decide +kernel
theorem dX9_cell_66 : decode cX9_cell 66 = .ok (.iload_n 2, 1) := by decide +kernel
theorem dX9_cell_67 : decode cX9_cell 67 = .ok (.iadd, 1) := by decide +kernel
theorem dX9_cell_68 : decode cX9_cell 68 = .ok (.iload 5, 2) := by decide +kernel
theorem dX9_cell_70 : decode cX9_cell 70 = .ok (.ifCond .ne 10, 3) := by decide +kernel
theorem dX9_cell_73 : decode cX9_cell 73 = .ok (.lload_n 3, 1) := by decide +kernel
theorem dX9_cell_74 : decode cX9_cell 74 = .ok (.l2i, 1) := by decide +kernel
theorem dX9_cell_75 : decode cX9_cell 75 = .ok (.i2b, 1) := by decide +kernel
theorem dX9_cell_76 : decode cX9_cell 76 = .ok (.i2l, 1) := by decide +kernel
theorem dX9_cell_77 : decode cX9_cell 77 = .ok (.goto 29, 3) := by decide +kernel
theorem dX9_cell_8 : decode cX9_cell 8 = .ok (.aload_n 0, 1) := by decide +kernel
theorem dX9_cell_80 : decode cX9_cell 80 = .ok (.iload 5, 2) := by decide +kernel
theorem dX9_cell_82 : decode cX9_cell 82 = .ok (.iconst 1, 1) := by decide +kernel
theorem dX9_cell_83 : decode cX9_cell 83 = .ok (.if_icmp .ne 10, 3) := by decide +kernel
theorem dX9_cell_86 : decode cX9_cell 86 = .ok (.lload_n 3, 1) := by decide +kernel
theorem dX9_cell_87 : decode cX9_cell 87 = .ok (.l2i, 1) := by decide +kernel
theorem dX9_cell_88 : decode cX9_cell 88 = .ok (.i2s, 1) := by decide +kernel
theorem dX9_cell_89 : decode cX9_cell 89 = .ok (.i2l, 1) := by decide +kernel
theorem dX9_cell_9 : decode cX9_cell 9 = .ok (.iconst (-1), 1) := by decide +kernel
theorem dX9_cell_90 : decode cX9_cell 90 = .ok (.goto 16, 3) := by decide +kernel
theorem dX9_cell_93 : decode cX9_cell 93 = .ok (.iload 5, 2) := by decide +kernel
theorem dX9_cell_95 : decode cX9_cell 95 = .ok (.iconst 2, 1) := by decide +kernel
theorem dX9_cell_96 : decode cX9_cell 96 = .ok (.if_icmp .ne 9, 3) := by decide +kernel
theorem dX9_cell_99 : decode cX9_cell 99 = .ok (.lload_n 3, 1) := by decide +kernel
theorem dX9_costOf_0 : decode cX9_costOf 0 = .ok (.lconst 0, 1) := by decide +kernel
theorem dX9_costOf_1 : decode cX9_costOf 1 = .ok (.lstore_n 3, 1) := by decide +kernel
theorem dX9_costOf_11 : decode cX9_costOf 11 = .ok (.if_icmp .ge 53, 3) := by decide +kernel
theorem dX9_costOf_14 : decode cX9_costOf 14 = .ok (.lload_n 3, 1) := by decide +kernel
theorem dX9_costOf_15 : decode cX9_costOf 15 = .ok (.aload_n 0, 1) := by decide +kernel
theorem dX9_costOf_16 : decode cX9_costOf 16 = .ok (.getfield 22, 3) := by decide +kernel
theorem dX9_costOf_19 : decode cX9_costOf 19 = .ok (.iload 5, 2) := by decide +kernel
theorem dX9_costOf_2 : decode cX9_costOf 2 = .ok (.iconst 0, 1) := by decide +kernel
theorem dX9_costOf_21 : decode cX9_costOf 21 = .ok (.iaload, 1) := by decide +kernel
theorem dX9_costOf_22 : decode cX9_costOf 22 = .ok (.i2l, 1) := by decide +kernel
theorem dX9_costOf_23 : decode cX9_costOf 23 = .ok (.aload_n 1, 1) := by decide +kernel
theorem dX9_costOf_24 : decode cX9_costOf 24 = .ok (.iload_n 2, 1) := by decide +kernel
theorem dX9_costOf_25 : decode cX9_costOf 25 = .ok (.iload 5, 2) := by decide +kernel
theorem dX9_costOf_27 : decode cX9_costOf 27 = .ok (.iadd, 1) := by decide +kernel
theorem dX9_costOf_28 : decode cX9_costOf 28 = .ok (.iaload, 1) := by decide +kernel
theorem dX9_costOf_29 : decode cX9_costOf 29 = .ok (.i2l, 1) := by decide +kernel
theorem dX9_costOf_3 : decode cX9_costOf 3 = .ok (.istore 5, 2) := by decide +kernel
theorem dX9_costOf_30 : decode cX9_costOf 30 = .ok (.lmul, 1) := by decide +kernel
theorem dX9_costOf_31 : decode cX9_costOf 31 = .ok (.aload_n 0, 1) := by decide +kernel
theorem dX9_costOf_32 : decode cX9_costOf 32 = .ok (.getfield 25, 3) := by decide +kernel
theorem dX9_costOf_35 : decode cX9_costOf 35 = .ok (.iload 5, 2) := by decide +kernel
theorem dX9_costOf_37 : decode cX9_costOf 37 = .ok (.iaload, 1) := by decide +kernel
theorem dX9_costOf_38 : decode cX9_costOf 38 = .ok (.i2l, 1) := by decide +kernel
theorem dX9_costOf_39 : decode cX9_costOf 39 = .ok (.aload_n 1, 1) := by decide +kernel
theorem dX9_costOf_40 : decode cX9_costOf 40 = .ok (.iload_n 2, 1) := by decide +kernel
theorem dX9_costOf_41 : decode cX9_costOf 41 = .ok (.iload 5, 2) := by decide +kernel
theorem dX9_costOf_43 : decode cX9_costOf 43 = .ok (.iadd, 1) := by decide +kernel
theorem dX9_costOf_44 : decode cX9_costOf 44 = .ok (.iaload, 1) := by decide +kernel
theorem dX9_costOf_45 : decode cX9_costOf 45 = .ok (.i2l, 1) := by decide +kernel
theorem dX9_costOf_46 : decode cX9_costOf 46 = .ok (.lmul, 1) := by decide +kernel
theorem dX9_costOf_47 : decode cX9_costOf 47 = .ok (.aload_n 1, 1) := by decide +kernel
theorem dX9_costOf_48 : decode cX9_costOf 48 = .ok (.iload_n 2, 1) := by decide +kernel
theorem dX9_costOf_49 : decode cX9_costOf 49 = .ok (.iload 5, 2) := by decide +kernel
theorem dX9_costOf_5 : decode cX9_costOf 5 = .ok (.iload 5, 2) := by decide +kernel
theorem dX9_costOf_51 : decode cX9_costOf 51 = .ok (.iadd, 1) := by decide +kernel
theorem dX9_costOf_52 : decode cX9_costOf 52 = .ok (.iaload, 1) := by decide +kernel
theorem dX9_costOf_53 : decode cX9_costOf 53 = .ok (.i2l, 1) := by decide +kernel
theorem dX9_costOf_54 : decode cX9_costOf 54 = .ok (.lmul, 1) := by decide +kernel
theorem dX9_costOf_55 : decode cX9_costOf 55 = .ok (.ladd, 1) := by decide +kernel
theorem dX9_costOf_56 : decode cX9_costOf 56 = .ok (.ladd, 1) := by decide +kernel
theorem dX9_costOf_57 : decode cX9_costOf 57 = .ok (.lstore_n 3, 1) := by decide +kernel
theorem dX9_costOf_58 : decode cX9_costOf 58 = .ok (.iinc 5 1, 3) := by decide +kernel
theorem dX9_costOf_61 : decode cX9_costOf 61 = .ok (.goto (-56), 3) := by decide +kernel
theorem dX9_costOf_64 : decode cX9_costOf 64 = .ok (.lload_n 3, 1) := by decide +kernel
theorem dX9_costOf_65 : decode cX9_costOf 65 = .ok (.lreturn, 1) := by decide +kernel
theorem dX9_costOf_7 : decode cX9_costOf 7 = .ok (.aload_n 0, 1) := by decide +kernel
theorem dX9_costOf_8 : decode cX9_costOf 8 = .ok (.getfield 47, 3) := by decide +kernel
theorem dX9_cost_0 : decode cX9_cost 0 = .ok (.aload_n 0, 1) := by decide +kernel
theorem dX9_cost_1 : decode cX9_cost 1 = .ok (.aload_n 0, 1) := by decide +kernel
theorem dX9_cost_2 : decode cX9_cost 2 = .ok (.getfield 28, 3) := by decide +kernel
theorem dX9_cost_5 : decode cX9_cost 5 = .ok (.iconst 0, 1) := by decide +kernel
theorem dX9_cost_6 : decode cX9_cost 6 = .ok (.invokevirtual 220, 3) := by decide +kernel
theorem dX9_cost_9 : decode cX9_cost 9 = .ok (.lreturn, 1) := by decide +kernel
theorem dX9_equation_0 : decode cX9_equation 0 = .ok (.aload_n 0, 1) := by decide +kernel
theorem dX9_equation_1 : decode cX9_equation 1 = .ok (.getfield 102, 3) := by decide +kernel
theorem dX9_equation_11 : decode cX9_equation 11 = .ok (.invokevirtual 112, 3) := by decide +kernel
theorem dX9_equation_14 : decode cX9_equation 14 = .ok (.ireturn, 1) := by decide +kernel
theorem dX9_equation_15 : decode cX9_equation 15 = .ok (.iconst 0, 1) := by decide +kernel
theorem dX9_equation_16 : decode cX9_equation 16 = .ok (.istore_n 1, 1) := by decide +kernel
theorem dX9_equation_17 : decode cX9_equation 17 = .ok (.iload_n 1, 1) := by decide +kernel
theorem dX9_equation_18 : decode cX9_equation 18 = .ok (.iconst 4, 1) := by decide +kernel
theorem dX9_equation_19 : decode cX9_equation 19 = .ok (.if_icmp .ge 23, 3) := by decide +kernel
theorem dX9_equation_22 : decode cX9_equation 22 = .ok (.aload_n 0, 1) := by decide +kernel
theorem dX9_equation_23 : decode cX9_equation 23 = .ok (.getfield 9, 3) := by decide +kernel
theorem dX9_equation_26 : decode cX9_equation 26 = .ok (.iconst 4, 1) := by decide +kernel
theorem dX9_equation_27 : decode cX9_equation 27 = .ok (.aload_n 0, 1) := by decide +kernel
theorem dX9_equation_28 : decode cX9_equation 28 = .ok (.getfield 102, 3) := by decide +kernel
theorem dX9_equation_31 : decode cX9_equation 31 = .ok (.imul, 1) := by decide +kernel
theorem dX9_equation_32 : decode cX9_equation 32 = .ok (.iload_n 1, 1) := by decide +kernel
theorem dX9_equation_33 : decode cX9_equation 33 = .ok (.iadd, 1) := by decide +kernel
theorem dX9_equation_34 : decode cX9_equation 34 = .ok (.iconst 0, 1) := by decide +kernel
theorem dX9_equation_35 : decode cX9_equation 35 = .ok (.iastore, 1) := by decide +kernel
theorem dX9_equation_36 : decode cX9_equation 36 = .ok (.iinc 1 1, 3) := by decide +kernel
theorem dX9_equation_39 : decode cX9_equation 39 = .ok (.goto (-22), 3) := by decide +kernel
theorem dX9_equation_4 : decode cX9_equation 4 = .ok (.iconst 3, 1) := by decide +kernel
theorem dX9_equation_42 : decode cX9_equation 42 = .ok (.aload_n 0, 1) := by decide +kernel
theorem dX9_equation_43 : decode cX9_equation 43 = .ok (.getfield 13, 3) := by decide +kernel
theorem dX9_equation_46 : decode cX9_equation 46 = .ok (.aload_n 0, 1) := by decide +kernel
theorem dX9_equation_47 : decode cX9_equation 47 = .ok (.getfield 102, 3) := by decide +kernel
theorem dX9_equation_5 : decode cX9_equation 5 = .ok (.if_icmp .ne 10, 3) := by decide +kernel
theorem dX9_equation_50 : decode cX9_equation 50 = .ok (.iconst 0, 1) := by decide +kernel
theorem dX9_equation_51 : decode cX9_equation 51 = .ok (.iastore, 1) := by decide +kernel
theorem dX9_equation_52 : decode cX9_equation 52 = .ok (.aload_n 0, 1) := by decide +kernel
theorem dX9_equation_53 : decode cX9_equation 53 = .ok (.dup, 1) := by decide +kernel
theorem dX9_equation_54 : decode cX9_equation 54 = .ok (.getfield 102, 3) := by decide +kernel
theorem dX9_equation_57 : decode cX9_equation 57 = .ok (.iconst 1, 1) := by decide +kernel
theorem dX9_equation_58 : decode cX9_equation 58 = .ok (.iadd, 1) := by decide +kernel
theorem dX9_equation_59 : decode cX9_equation 59 = .ok (.putfield 102, 3) := by decide +kernel
theorem dX9_equation_62 : decode cX9_equation 62 = .ok (.aload_n 0, 1) := by decide +kernel
theorem dX9_equation_63 : decode cX9_equation 63 = .ok (.iconst 0, 1) := by decide +kernel
theorem dX9_equation_64 : decode cX9_equation 64 = .ok (.putfield 109, 3) := by decide +kernel
theorem dX9_equation_67 : decode cX9_equation 67 = .ok (.aload_n 0, 1) := by decide +kernel
theorem dX9_equation_68 : decode cX9_equation 68 = .ok (.getfield 102, 3) := by decide +kernel
theorem dX9_equation_71 : decode cX9_equation 71 = .ok (.iconst 1, 1) := by decide +kernel
theorem dX9_equation_72 : decode cX9_equation 72 = .ok (.isub, 1) := by decide +kernel
theorem dX9_equation_73 : decode cX9_equation 73 = .ok (.ireturn, 1) := by decide +kernel
theorem dX9_equation_8 : decode cX9_equation 8 = .ok (.aload_n 0, 1) := by decide +kernel
theorem dX9_equation_9 : decode cX9_equation 9 = .ok (.bipush (-6), 2) := by decide +kernel
theorem dX9_fitsLeft_0 : decode cX9_fitsLeft 0 = .ok (.iconst 0, 1) := by decide +kernel
theorem dX9_fitsLeft_1 : decode cX9_fitsLeft 1 = .ok (.istore_n 2, 1) := by decide +kernel
theorem dX9_fitsLeft_10 : decode cX9_fitsLeft 10 = .ok (.aload_n 0, 1) := by decide +kernel
theorem dX9_fitsLeft_11 : decode cX9_fitsLeft 11 = .ok (.iload_n 1, 1) := by decide +kernel
theorem dX9_fitsLeft_12 : decode cX9_fitsLeft 12 = .ok (.iload_n 2, 1) := by decide +kernel
theorem dX9_fitsLeft_13 : decode cX9_fitsLeft 13 = .ok (.invokevirtual 183, 3) := by decide +kernel
theorem dX9_fitsLeft_16 : decode cX9_fitsLeft 16 = .ok (.ifCond .le 18, 3) := by decide +kernel
theorem dX9_fitsLeft_19 : decode cX9_fitsLeft 19 = .ok (.aload_n 0, 1) := by decide +kernel
theorem dX9_fitsLeft_2 : decode cX9_fitsLeft 2 = .ok (.iload_n 2, 1) := by decide +kernel
theorem dX9_fitsLeft_20 : decode cX9_fitsLeft 20 = .ok (.iload_n 1, 1) := by decide +kernel
theorem dX9_fitsLeft_21 : decode cX9_fitsLeft 21 = .ok (.iload_n 2, 1) := by decide +kernel
theorem dX9_fitsLeft_22 : decode cX9_fitsLeft 22 = .ok (.invokevirtual 183, 3) := by decide +kernel
theorem dX9_fitsLeft_25 : decode cX9_fitsLeft 25 = .ok (.aload_n 0, 1) := by decide +kernel
theorem dX9_fitsLeft_26 : decode cX9_fitsLeft 26 = .ok (.getfield 89, 3) := by decide +kernel
theorem dX9_fitsLeft_29 : decode cX9_fitsLeft 29 = .ok (.iload_n 2, 1) := by decide +kernel
theorem dX9_fitsLeft_3 : decode cX9_fitsLeft 3 = .ok (.aload_n 0, 1) := by decide +kernel
theorem dX9_fitsLeft_30 : decode cX9_fitsLeft 30 = .ok (.iaload, 1) := by decide +kernel
theorem dX9_fitsLeft_31 : decode cX9_fitsLeft 31 = .ok (.if_icmp .gt 27, 3) := by decide +kernel
theorem dX9_fitsLeft_34 : decode cX9_fitsLeft 34 = .ok (.aload_n 0, 1) := by decide +kernel
theorem dX9_fitsLeft_35 : decode cX9_fitsLeft 35 = .ok (.iload_n 1, 1) := by decide +kernel
theorem dX9_fitsLeft_36 : decode cX9_fitsLeft 36 = .ok (.iload_n 2, 1) := by decide +kernel
theorem dX9_fitsLeft_37 : decode cX9_fitsLeft 37 = .ok (.invokevirtual 183, 3) := by decide +kernel
theorem dX9_fitsLeft_4 : decode cX9_fitsLeft 4 = .ok (.getfield 47, 3) := by decide +kernel
theorem dX9_fitsLeft_40 : decode cX9_fitsLeft 40 = .ok (.ifCond .ge 20, 3) := by decide +kernel
theorem dX9_fitsLeft_43 : decode cX9_fitsLeft 43 = .ok (.aload_n 0, 1) := by decide +kernel
theorem dX9_fitsLeft_44 : decode cX9_fitsLeft 44 = .ok (.iload_n 1, 1) := by decide +kernel
theorem dX9_fitsLeft_45 : decode cX9_fitsLeft 45 = .ok (.iload_n 2, 1) := by decide +kernel
theorem dX9_fitsLeft_46 : decode cX9_fitsLeft 46 = .ok (.invokevirtual 183, 3) := by decide +kernel
theorem dX9_fitsLeft_49 : decode cX9_fitsLeft 49 = .ok (.aload_n 0, 1) := by decide +kernel
theorem dX9_fitsLeft_50 : decode cX9_fitsLeft 50 = .ok (.getfield 89, 3) := by decide +kernel
theorem dX9_fitsLeft_53 : decode cX9_fitsLeft 53 = .ok (.iload_n 2, 1) := by decide +kernel
theorem dX9_fitsLeft_54 : decode cX9_fitsLeft 54 = .ok (.iaload, 1) := by decide +kernel
theorem dX9_fitsLeft_55 : decode cX9_fitsLeft 55 = .ok (.if_icmp .ge 5, 3) := by decide +kernel
theorem dX9_fitsLeft_58 : decode cX9_fitsLeft 58 = .ok (.iconst 0, 1) := by decide +kernel
theorem dX9_fitsLeft_59 : decode cX9_fitsLeft 59 = .ok (.ireturn, 1) := by decide +kernel
theorem dX9_fitsLeft_60 : decode cX9_fitsLeft 60 = .ok (.iinc 2 1, 3) := by decide +kernel
theorem dX9_fitsLeft_63 : decode cX9_fitsLeft 63 = .ok (.goto (-61), 3) := by decide +kernel
theorem dX9_fitsLeft_66 : decode cX9_fitsLeft 66 = .ok (.iconst 1, 1) := by decide +kernel
theorem dX9_fitsLeft_67 : decode cX9_fitsLeft 67 = .ok (.ireturn, 1) := by decide +kernel
theorem dX9_fitsLeft_7 : decode cX9_fitsLeft 7 = .ok (.if_icmp .ge 59, 3) := by decide +kernel
theorem dX9_hand_0 : decode cX9_hand 0 = .ok (.iload_n 1, 1) := by decide +kernel
theorem dX9_hand_1 : decode cX9_hand 1 = .ok (.aload_n 0, 1) := by decide +kernel
theorem dX9_hand_11 : decode cX9_hand 11 = .ok (.aload_n 0, 1) := by decide +kernel
theorem dX9_hand_12 : decode cX9_hand 12 = .ok (.getfield 31, 3) := by decide +kernel
theorem dX9_hand_15 : decode cX9_hand 15 = .ok (.iconst 1, 1) := by decide +kernel
theorem dX9_hand_16 : decode cX9_hand 16 = .ok (.dup2, 1) := by decide +kernel
theorem dX9_hand_17 : decode cX9_hand 17 = .ok (.iaload, 1) := by decide +kernel
theorem dX9_hand_18 : decode cX9_hand 18 = .ok (.iconst 1, 1) := by decide +kernel
theorem dX9_hand_19 : decode cX9_hand 19 = .ok (.iadd, 1) := by decide +kernel
theorem dX9_hand_2 : decode cX9_hand 2 = .ok (.getfield 47, 3) := by decide +kernel
theorem dX9_hand_20 : decode cX9_hand 20 = .ok (.iastore, 1) := by decide +kernel
theorem dX9_hand_21 : decode cX9_hand 21 = .ok (.ldc 187, 2) := by decide +kernel
theorem dX9_hand_23 : decode cX9_hand 23 = .ok (.ireturn, 1) := by decide +kernel
theorem dX9_hand_24 : decode cX9_hand 24 = .ok (.iload_n 2, 1) := by decide +kernel
theorem dX9_hand_25 : decode cX9_hand 25 = .ok (.sipush (-10000), 3) := by decide +kernel
theorem dX9_hand_28 : decode cX9_hand 28 = .ok (.if_icmp .lt 10, 3) := by decide +kernel
theorem dX9_hand_31 : decode cX9_hand 31 = .ok (.iload_n 2, 1) := by decide +kernel
theorem dX9_hand_32 : decode cX9_hand 32 = .ok (.sipush 10000, 3) := by decide +kernel
theorem dX9_hand_35 : decode cX9_hand 35 = .ok (.if_icmp .le 25, 3) := by decide +kernel
theorem dX9_hand_38 : decode cX9_hand 38 = .ok (.aload_n 0, 1) := by decide +kernel
theorem dX9_hand_39 : decode cX9_hand 39 = .ok (.getfield 31, 3) := by decide +kernel
theorem dX9_hand_42 : decode cX9_hand 42 = .ok (.iload_n 2, 1) := by decide +kernel
theorem dX9_hand_43 : decode cX9_hand 43 = .ok (.ifCond .ge 7, 3) := by decide +kernel
theorem dX9_hand_46 : decode cX9_hand 46 = .ok (.iconst 4, 1) := by decide +kernel
theorem dX9_hand_47 : decode cX9_hand 47 = .ok (.goto 5, 3) := by decide +kernel
theorem dX9_hand_5 : decode cX9_hand 5 = .ok (.invokestatic 116, 3) := by decide +kernel
theorem dX9_hand_50 : decode cX9_hand 50 = .ok (.bipush 6, 2) := by decide +kernel
theorem dX9_hand_52 : decode cX9_hand 52 = .ok (.dup2, 1) := by decide +kernel
theorem dX9_hand_53 : decode cX9_hand 53 = .ok (.iaload, 1) := by decide +kernel
theorem dX9_hand_54 : decode cX9_hand 54 = .ok (.iconst 1, 1) := by decide +kernel
theorem dX9_hand_55 : decode cX9_hand 55 = .ok (.iadd, 1) := by decide +kernel
theorem dX9_hand_56 : decode cX9_hand 56 = .ok (.iastore, 1) := by decide +kernel
theorem dX9_hand_57 : decode cX9_hand 57 = .ok (.ldc 187, 2) := by decide +kernel
theorem dX9_hand_59 : decode cX9_hand 59 = .ok (.ireturn, 1) := by decide +kernel
theorem dX9_hand_60 : decode cX9_hand 60 = .ok (.aload_n 0, 1) := by decide +kernel
theorem dX9_hand_61 : decode cX9_hand 61 = .ok (.getfield 28, 3) := by decide +kernel
theorem dX9_hand_64 : decode cX9_hand 64 = .ok (.iload_n 1, 1) := by decide +kernel
theorem dX9_hand_65 : decode cX9_hand 65 = .ok (.iaload, 1) := by decide +kernel
theorem dX9_hand_66 : decode cX9_hand 66 = .ok (.istore_n 3, 1) := by decide +kernel
theorem dX9_hand_67 : decode cX9_hand 67 = .ok (.aload_n 0, 1) := by decide +kernel
theorem dX9_hand_68 : decode cX9_hand 68 = .ok (.getfield 28, 3) := by decide +kernel
theorem dX9_hand_71 : decode cX9_hand 71 = .ok (.iload_n 1, 1) := by decide +kernel
theorem dX9_hand_72 : decode cX9_hand 72 = .ok (.iload_n 2, 1) := by decide +kernel
theorem dX9_hand_73 : decode cX9_hand 73 = .ok (.iastore, 1) := by decide +kernel
theorem dX9_hand_74 : decode cX9_hand 74 = .ok (.iload_n 3, 1) := by decide +kernel
theorem dX9_hand_75 : decode cX9_hand 75 = .ok (.ireturn, 1) := by decide +kernel
theorem dX9_hand_8 : decode cX9_hand 8 = .ok (.ifCond .ne 16, 3) := by decide +kernel
theorem dX9_has_0 : decode cX9_has 0 = .ok (.iload_n 1, 1) := by decide +kernel
theorem dX9_has_1 : decode cX9_has 1 = .ok (.aload_n 0, 1) := by decide +kernel
theorem dX9_has_11 : decode cX9_has 11 = .ok (.aload_n 0, 1) := by decide +kernel
theorem dX9_has_12 : decode cX9_has 12 = .ok (.getfield 28, 3) := by decide +kernel
theorem dX9_has_15 : decode cX9_has 15 = .ok (.iload_n 1, 1) := by decide +kernel
theorem dX9_has_16 : decode cX9_has 16 = .ok (.iaload, 1) := by decide +kernel
theorem dX9_has_17 : decode cX9_has 17 = .ok (.goto 5, 3) := by decide +kernel
theorem dX9_has_2 : decode cX9_has 2 = .ok (.getfield 47, 3) := by decide +kernel
theorem dX9_has_20 : decode cX9_has 20 = .ok (.ldc 187, 2) := by decide +kernel
theorem dX9_has_22 : decode cX9_has 22 = .ok (.ireturn, 1) := by decide +kernel
theorem dX9_has_5 : decode cX9_has 5 = .ok (.invokestatic 116, 3) := by decide +kernel
theorem dX9_has_8 : decode cX9_has 8 = .ok (.ifCond .eq 12, 3) := by decide +kernel
theorem dX9_isIn_0 : decode cX9_isIn 0 = .ok (.iload_n 0, 1) := by decide +kernel
theorem dX9_isIn_1 : decode cX9_isIn 1 = .ok (.ifCond .lt 12, 3) := by decide +kernel
theorem dX9_isIn_10 : decode cX9_isIn 10 = .ok (.goto 4, 3) := by decide +kernel
theorem dX9_isIn_13 : decode cX9_isIn 13 = .ok (.iconst 0, 1) := by decide +kernel
theorem dX9_isIn_14 : decode cX9_isIn 14 = .ok (.ireturn, 1) := by decide +kernel
theorem dX9_isIn_4 : decode cX9_isIn 4 = .ok (.iload_n 0, 1) := by decide +kernel
theorem dX9_isIn_5 : decode cX9_isIn 5 = .ok (.iload_n 1, 1) := by decide +kernel
theorem dX9_isIn_6 : decode cX9_isIn 6 = .ok (.if_icmp .ge 7, 3) := by decide +kernel
theorem dX9_isIn_9 : decode cX9_isIn 9 = .ok (.iconst 1, 1) := by decide +kernel
theorem dX9_isPlan_0 : decode cX9_isPlan 0 = .ok (.iconst 1, 1) := by decide +kernel
theorem dX9_isPlan_1 : decode cX9_isPlan 1 = .ok (.istore_n 3, 1) := by decide +kernel
theorem dX9_isPlan_100 : decode cX9_isPlan 100 = .ok (.iconst 0, 1) := by decide +kernel
theorem dX9_isPlan_101 : decode cX9_isPlan 101 = .ok (.istore_n 3, 1) := by decide +kernel
theorem dX9_isPlan_102 : decode cX9_isPlan 102 = .ok (.iinc 4 1, 3) := by decide +kernel
theorem dX9_isPlan_105 : decode cX9_isPlan 105 = .ok (.goto (-40), 3) := by decide +kernel
theorem dX9_isPlan_108 : decode cX9_isPlan 108 = .ok (.iload_n 3, 1) := by decide +kernel
theorem dX9_isPlan_109 : decode cX9_isPlan 109 = .ok (.ireturn, 1) := by decide +kernel
theorem dX9_isPlan_11 : decode cX9_isPlan 11 = .ok (.if_icmp .ge 51, 3) := by decide +kernel
theorem dX9_isPlan_14 : decode cX9_isPlan 14 = .ok (.iload_n 3, 1) := by decide +kernel
theorem dX9_isPlan_15 : decode cX9_isPlan 15 = .ok (.ifCond .eq 47, 3) := by decide +kernel
theorem dX9_isPlan_18 : decode cX9_isPlan 18 = .ok (.aload_n 0, 1) := by decide +kernel
theorem dX9_isPlan_19 : decode cX9_isPlan 19 = .ok (.getfield 16, 3) := by decide +kernel
theorem dX9_isPlan_2 : decode cX9_isPlan 2 = .ok (.iconst 0, 1) := by decide +kernel
theorem dX9_isPlan_22 : decode cX9_isPlan 22 = .ok (.iload 4, 2) := by decide +kernel
theorem dX9_isPlan_24 : decode cX9_isPlan 24 = .ok (.iaload, 1) := by decide +kernel
theorem dX9_isPlan_25 : decode cX9_isPlan 25 = .ok (.aload_n 1, 1) := by decide +kernel
theorem dX9_isPlan_26 : decode cX9_isPlan 26 = .ok (.iload_n 2, 1) := by decide +kernel
theorem dX9_isPlan_27 : decode cX9_isPlan 27 = .ok (.iload 4, 2) := by decide +kernel
theorem dX9_isPlan_29 : decode cX9_isPlan 29 = .ok (.iadd, 1) := by decide +kernel
theorem dX9_isPlan_3 : decode cX9_isPlan 3 = .ok (.istore 4, 2) := by decide +kernel
theorem dX9_isPlan_30 : decode cX9_isPlan 30 = .ok (.iaload, 1) := by decide +kernel
theorem dX9_isPlan_31 : decode cX9_isPlan 31 = .ok (.if_icmp .gt 23, 3) := by decide +kernel
theorem dX9_isPlan_34 : decode cX9_isPlan 34 = .ok (.aload_n 1, 1) := by decide +kernel
theorem dX9_isPlan_35 : decode cX9_isPlan 35 = .ok (.iload_n 2, 1) := by decide +kernel
theorem dX9_isPlan_36 : decode cX9_isPlan 36 = .ok (.iload 4, 2) := by decide +kernel
theorem dX9_isPlan_38 : decode cX9_isPlan 38 = .ok (.iadd, 1) := by decide +kernel
theorem dX9_isPlan_39 : decode cX9_isPlan 39 = .ok (.iaload, 1) := by decide +kernel
theorem dX9_isPlan_40 : decode cX9_isPlan 40 = .ok (.aload_n 0, 1) := by decide +kernel
theorem dX9_isPlan_41 : decode cX9_isPlan 41 = .ok (.getfield 19, 3) := by decide +kernel
theorem dX9_isPlan_44 : decode cX9_isPlan 44 = .ok (.iload 4, 2) := by decide +kernel
theorem dX9_isPlan_46 : decode cX9_isPlan 46 = .ok (.iaload, 1) := by decide +kernel
theorem dX9_isPlan_47 : decode cX9_isPlan 47 = .ok (.if_icmp .gt 7, 3) := by decide +kernel
theorem dX9_isPlan_5 : decode cX9_isPlan 5 = .ok (.iload 4, 2) := by decide +kernel
theorem dX9_isPlan_50 : decode cX9_isPlan 50 = .ok (.iconst 1, 1) := by decide +kernel
theorem dX9_isPlan_51 : decode cX9_isPlan 51 = .ok (.goto 4, 3) := by decide +kernel
theorem dX9_isPlan_54 : decode cX9_isPlan 54 = .ok (.iconst 0, 1) := by decide +kernel
theorem dX9_isPlan_55 : decode cX9_isPlan 55 = .ok (.istore_n 3, 1) := by decide +kernel
theorem dX9_isPlan_56 : decode cX9_isPlan 56 = .ok (.iinc 4 1, 3) := by decide +kernel
theorem dX9_isPlan_59 : decode cX9_isPlan 59 = .ok (.goto (-54), 3) := by decide +kernel
theorem dX9_isPlan_62 : decode cX9_isPlan 62 = .ok (.iconst 0, 1) := by decide +kernel
theorem dX9_isPlan_63 : decode cX9_isPlan 63 = .ok (.istore 4, 2) := by decide +kernel
theorem dX9_isPlan_65 : decode cX9_isPlan 65 = .ok (.iload 4, 2) := by decide +kernel
theorem dX9_isPlan_67 : decode cX9_isPlan 67 = .ok (.aload_n 0, 1) := by decide +kernel
theorem dX9_isPlan_68 : decode cX9_isPlan 68 = .ok (.getfield 102, 3) := by decide +kernel
theorem dX9_isPlan_7 : decode cX9_isPlan 7 = .ok (.aload_n 0, 1) := by decide +kernel
theorem dX9_isPlan_71 : decode cX9_isPlan 71 = .ok (.if_icmp .ge 37, 3) := by decide +kernel
theorem dX9_isPlan_74 : decode cX9_isPlan 74 = .ok (.iload_n 3, 1) := by decide +kernel
theorem dX9_isPlan_75 : decode cX9_isPlan 75 = .ok (.ifCond .eq 33, 3) := by decide +kernel
theorem dX9_isPlan_78 : decode cX9_isPlan 78 = .ok (.aload_n 0, 1) := by decide +kernel
theorem dX9_isPlan_79 : decode cX9_isPlan 79 = .ok (.iload 4, 2) := by decide +kernel
theorem dX9_isPlan_8 : decode cX9_isPlan 8 = .ok (.getfield 47, 3) := by decide +kernel
theorem dX9_isPlan_81 : decode cX9_isPlan 81 = .ok (.aload_n 1, 1) := by decide +kernel
theorem dX9_isPlan_82 : decode cX9_isPlan 82 = .ok (.iload_n 2, 1) := by decide +kernel
theorem dX9_isPlan_83 : decode cX9_isPlan 83 = .ok (.invokevirtual 191, 3) := by decide +kernel
theorem dX9_isPlan_86 : decode cX9_isPlan 86 = .ok (.aload_n 0, 1) := by decide +kernel
theorem dX9_isPlan_87 : decode cX9_isPlan 87 = .ok (.getfield 13, 3) := by decide +kernel
theorem dX9_isPlan_90 : decode cX9_isPlan 90 = .ok (.iload 4, 2) := by decide +kernel
theorem dX9_isPlan_92 : decode cX9_isPlan 92 = .ok (.iaload, 1) := by decide +kernel
theorem dX9_isPlan_93 : decode cX9_isPlan 93 = .ok (.if_icmp .ne 7, 3) := by decide +kernel
theorem dX9_isPlan_96 : decode cX9_isPlan 96 = .ok (.iconst 1, 1) := by decide +kernel
theorem dX9_isPlan_97 : decode cX9_isPlan 97 = .ok (.goto 4, 3) := by decide +kernel
theorem dX9_isStep_0 : decode cX9_isStep 0 = .ok (.iconst 0, 1) := by decide +kernel
theorem dX9_isStep_1 : decode cX9_isStep 1 = .ok (.istore_n 1, 1) := by decide +kernel
theorem dX9_isStep_12 : decode cX9_isStep 12 = .ok (.iload_n 1, 1) := by decide +kernel
theorem dX9_isStep_13 : decode cX9_isStep 13 = .ok (.ifCond .ne 12, 3) := by decide +kernel
theorem dX9_isStep_16 : decode cX9_isStep 16 = .ok (.aload_n 0, 1) := by decide +kernel
theorem dX9_isStep_17 : decode cX9_isStep 17 = .ok (.getfield 28, 3) := by decide +kernel
theorem dX9_isStep_2 : decode cX9_isStep 2 = .ok (.iconst 0, 1) := by decide +kernel
theorem dX9_isStep_20 : decode cX9_isStep 20 = .ok (.iload_n 2, 1) := by decide +kernel
theorem dX9_isStep_21 : decode cX9_isStep 21 = .ok (.iaload, 1) := by decide +kernel
theorem dX9_isStep_22 : decode cX9_isStep 22 = .ok (.ifCond .eq 7, 3) := by decide +kernel
theorem dX9_isStep_25 : decode cX9_isStep 25 = .ok (.iconst 1, 1) := by decide +kernel
theorem dX9_isStep_26 : decode cX9_isStep 26 = .ok (.goto 4, 3) := by decide +kernel
theorem dX9_isStep_29 : decode cX9_isStep 29 = .ok (.iconst 0, 1) := by decide +kernel
theorem dX9_isStep_3 : decode cX9_isStep 3 = .ok (.istore_n 2, 1) := by decide +kernel
theorem dX9_isStep_30 : decode cX9_isStep 30 = .ok (.istore_n 1, 1) := by decide +kernel
theorem dX9_isStep_31 : decode cX9_isStep 31 = .ok (.iinc 2 1, 3) := by decide +kernel
theorem dX9_isStep_34 : decode cX9_isStep 34 = .ok (.goto (-30), 3) := by decide +kernel
theorem dX9_isStep_37 : decode cX9_isStep 37 = .ok (.iconst 0, 1) := by decide +kernel
theorem dX9_isStep_38 : decode cX9_isStep 38 = .ok (.istore_n 2, 1) := by decide +kernel
theorem dX9_isStep_39 : decode cX9_isStep 39 = .ok (.iload_n 2, 1) := by decide +kernel
theorem dX9_isStep_4 : decode cX9_isStep 4 = .ok (.iload_n 2, 1) := by decide +kernel
theorem dX9_isStep_40 : decode cX9_isStep 40 = .ok (.aload_n 0, 1) := by decide +kernel
theorem dX9_isStep_41 : decode cX9_isStep 41 = .ok (.getfield 102, 3) := by decide +kernel
theorem dX9_isStep_44 : decode cX9_isStep 44 = .ok (.if_icmp .ge 32, 3) := by decide +kernel
theorem dX9_isStep_47 : decode cX9_isStep 47 = .ok (.iload_n 1, 1) := by decide +kernel
theorem dX9_isStep_48 : decode cX9_isStep 48 = .ok (.ifCond .eq 28, 3) := by decide +kernel
theorem dX9_isStep_5 : decode cX9_isStep 5 = .ok (.aload_n 0, 1) := by decide +kernel
theorem dX9_isStep_51 : decode cX9_isStep 51 = .ok (.aload_n 0, 1) := by decide +kernel
theorem dX9_isStep_52 : decode cX9_isStep 52 = .ok (.iload_n 2, 1) := by decide +kernel
theorem dX9_isStep_53 : decode cX9_isStep 53 = .ok (.aload_n 0, 1) := by decide +kernel
theorem dX9_isStep_54 : decode cX9_isStep 54 = .ok (.getfield 28, 3) := by decide +kernel
theorem dX9_isStep_57 : decode cX9_isStep 57 = .ok (.iconst 0, 1) := by decide +kernel
theorem dX9_isStep_58 : decode cX9_isStep 58 = .ok (.invokevirtual 191, 3) := by decide +kernel
theorem dX9_isStep_6 : decode cX9_isStep 6 = .ok (.getfield 47, 3) := by decide +kernel
theorem dX9_isStep_61 : decode cX9_isStep 61 = .ok (.ifCond .ne 7, 3) := by decide +kernel
theorem dX9_isStep_64 : decode cX9_isStep 64 = .ok (.iconst 1, 1) := by decide +kernel
theorem dX9_isStep_65 : decode cX9_isStep 65 = .ok (.goto 4, 3) := by decide +kernel
theorem dX9_isStep_68 : decode cX9_isStep 68 = .ok (.iconst 0, 1) := by decide +kernel
theorem dX9_isStep_69 : decode cX9_isStep 69 = .ok (.istore_n 1, 1) := by decide +kernel
theorem dX9_isStep_70 : decode cX9_isStep 70 = .ok (.iinc 2 1, 3) := by decide +kernel
theorem dX9_isStep_73 : decode cX9_isStep 73 = .ok (.goto (-34), 3) := by decide +kernel
theorem dX9_isStep_76 : decode cX9_isStep 76 = .ok (.iload_n 1, 1) := by decide +kernel
theorem dX9_isStep_77 : decode cX9_isStep 77 = .ok (.ireturn, 1) := by decide +kernel
theorem dX9_isStep_9 : decode cX9_isStep 9 = .ok (.if_icmp .ge 28, 3) := by decide +kernel
theorem dX9_kindOf_0 : decode cX9_kindOf 0 = .ok (.iconst 1, 1) := by decide +kernel
theorem dX9_kindOf_1 : decode cX9_kindOf 1 = .ok (.istore_n 2, 1) := by decide +kernel
theorem dX9_kindOf_101 : decode cX9_kindOf 101 = .ok (.goto (-76), 3) := by decide +kernel
theorem dX9_kindOf_104 : decode cX9_kindOf 104 = .ok (.iload 4, 2) := by decide +kernel
theorem dX9_kindOf_106 : decode cX9_kindOf 106 = .ok (.ifCond .eq 8, 3) := by decide +kernel
theorem dX9_kindOf_109 : decode cX9_kindOf 109 = .ok (.iload 5, 2) := by decide +kernel
theorem dX9_kindOf_111 : decode cX9_kindOf 111 = .ok (.ifCond .ne 7, 3) := by decide +kernel
theorem dX9_kindOf_114 : decode cX9_kindOf 114 = .ok (.iconst 1, 1) := by decide +kernel
theorem dX9_kindOf_115 : decode cX9_kindOf 115 = .ok (.goto 4, 3) := by decide +kernel
theorem dX9_kindOf_118 : decode cX9_kindOf 118 = .ok (.iconst 0, 1) := by decide +kernel
theorem dX9_kindOf_119 : decode cX9_kindOf 119 = .ok (.istore_n 2, 1) := by decide +kernel
theorem dX9_kindOf_12 : decode cX9_kindOf 12 = .ok (.iload_n 2, 1) := by decide +kernel
theorem dX9_kindOf_120 : decode cX9_kindOf 120 = .ok (.iinc 3 1, 3) := by decide +kernel
theorem dX9_kindOf_123 : decode cX9_kindOf 123 = .ok (.goto (-119), 3) := by decide +kernel
theorem dX9_kindOf_126 : decode cX9_kindOf 126 = .ok (.iconst 1, 1) := by decide +kernel
theorem dX9_kindOf_127 : decode cX9_kindOf 127 = .ok (.istore_n 3, 1) := by decide +kernel
theorem dX9_kindOf_128 : decode cX9_kindOf 128 = .ok (.iconst 0, 1) := by decide +kernel
theorem dX9_kindOf_129 : decode cX9_kindOf 129 = .ok (.istore 4, 2) := by decide +kernel
theorem dX9_kindOf_13 : decode cX9_kindOf 13 = .ok (.ifCond .eq 113, 3) := by decide +kernel
theorem dX9_kindOf_131 : decode cX9_kindOf 131 = .ok (.iload 4, 2) := by decide +kernel
theorem dX9_kindOf_133 : decode cX9_kindOf 133 = .ok (.aload_n 0, 1) := by decide +kernel
theorem dX9_kindOf_134 : decode cX9_kindOf 134 = .ok (.getfield 47, 3) := by decide +kernel
theorem dX9_kindOf_137 : decode cX9_kindOf 137 = .ok (.if_icmp .ge 29, 3) := by decide +kernel
theorem dX9_kindOf_140 : decode cX9_kindOf 140 = .ok (.iload_n 3, 1) := by decide +kernel
theorem dX9_kindOf_141 : decode cX9_kindOf 141 = .ok (.ifCond .eq 17, 3) := by decide +kernel
theorem dX9_kindOf_144 : decode cX9_kindOf 144 = .ok (.aload_n 0, 1) := by decide +kernel
theorem dX9_kindOf_145 : decode cX9_kindOf 145 = .ok (.iload_n 1, 1) := by decide +kernel
theorem dX9_kindOf_146 : decode cX9_kindOf 146 = .ok (.iload 4, 2) := by decide +kernel
theorem dX9_kindOf_148 : decode cX9_kindOf 148 = .ok (.invokevirtual 183, 3) := by decide +kernel
theorem dX9_kindOf_151 : decode cX9_kindOf 151 = .ok (.ifCond .lt 7, 3) := by decide +kernel
theorem dX9_kindOf_154 : decode cX9_kindOf 154 = .ok (.iconst 1, 1) := by decide +kernel
theorem dX9_kindOf_155 : decode cX9_kindOf 155 = .ok (.goto 4, 3) := by decide +kernel
theorem dX9_kindOf_158 : decode cX9_kindOf 158 = .ok (.iconst 0, 1) := by decide +kernel
theorem dX9_kindOf_159 : decode cX9_kindOf 159 = .ok (.istore_n 3, 1) := by decide +kernel
theorem dX9_kindOf_16 : decode cX9_kindOf 16 = .ok (.iconst 1, 1) := by decide +kernel
theorem dX9_kindOf_160 : decode cX9_kindOf 160 = .ok (.iinc 4 1, 3) := by decide +kernel
theorem dX9_kindOf_163 : decode cX9_kindOf 163 = .ok (.goto (-32), 3) := by decide +kernel
theorem dX9_kindOf_166 : decode cX9_kindOf 166 = .ok (.iload_n 2, 1) := by decide +kernel
theorem dX9_kindOf_167 : decode cX9_kindOf 167 = .ok (.ifCond .eq 7, 3) := by decide +kernel
theorem dX9_kindOf_17 : decode cX9_kindOf 17 = .ok (.istore 4, 2) := by decide +kernel
theorem dX9_kindOf_170 : decode cX9_kindOf 170 = .ok (.iconst 3, 1) := by decide +kernel
theorem dX9_kindOf_171 : decode cX9_kindOf 171 = .ok (.goto 12, 3) := by decide +kernel
theorem dX9_kindOf_174 : decode cX9_kindOf 174 = .ok (.iload_n 3, 1) := by decide +kernel
theorem dX9_kindOf_175 : decode cX9_kindOf 175 = .ok (.ifCond .eq 7, 3) := by decide +kernel
theorem dX9_kindOf_178 : decode cX9_kindOf 178 = .ok (.iconst 2, 1) := by decide +kernel
theorem dX9_kindOf_179 : decode cX9_kindOf 179 = .ok (.goto 4, 3) := by decide +kernel
theorem dX9_kindOf_182 : decode cX9_kindOf 182 = .ok (.iconst 1, 1) := by decide +kernel
theorem dX9_kindOf_183 : decode cX9_kindOf 183 = .ok (.ireturn, 1) := by decide +kernel
theorem dX9_kindOf_19 : decode cX9_kindOf 19 = .ok (.iconst 0, 1) := by decide +kernel
theorem dX9_kindOf_2 : decode cX9_kindOf 2 = .ok (.iconst 0, 1) := by decide +kernel
theorem dX9_kindOf_20 : decode cX9_kindOf 20 = .ok (.istore 5, 2) := by decide +kernel
theorem dX9_kindOf_22 : decode cX9_kindOf 22 = .ok (.iconst 0, 1) := by decide +kernel
theorem dX9_kindOf_23 : decode cX9_kindOf 23 = .ok (.istore 6, 2) := by decide +kernel
theorem dX9_kindOf_25 : decode cX9_kindOf 25 = .ok (.iload 6, 2) := by decide +kernel
theorem dX9_kindOf_27 : decode cX9_kindOf 27 = .ok (.aload_n 0, 1) := by decide +kernel
theorem dX9_kindOf_28 : decode cX9_kindOf 28 = .ok (.getfield 47, 3) := by decide +kernel
theorem dX9_kindOf_3 : decode cX9_kindOf 3 = .ok (.istore_n 3, 1) := by decide +kernel
theorem dX9_kindOf_31 : decode cX9_kindOf 31 = .ok (.if_icmp .ge 73, 3) := by decide +kernel
theorem dX9_kindOf_34 : decode cX9_kindOf 34 = .ok (.iload 4, 2) := by decide +kernel
theorem dX9_kindOf_36 : decode cX9_kindOf 36 = .ok (.ifCond .eq 27, 3) := by decide +kernel
theorem dX9_kindOf_39 : decode cX9_kindOf 39 = .ok (.aload_n 0, 1) := by decide +kernel
theorem dX9_kindOf_4 : decode cX9_kindOf 4 = .ok (.iload_n 3, 1) := by decide +kernel
theorem dX9_kindOf_40 : decode cX9_kindOf 40 = .ok (.iload_n 3, 1) := by decide +kernel
theorem dX9_kindOf_41 : decode cX9_kindOf 41 = .ok (.iload 6, 2) := by decide +kernel
theorem dX9_kindOf_43 : decode cX9_kindOf 43 = .ok (.invokevirtual 183, 3) := by decide +kernel
theorem dX9_kindOf_46 : decode cX9_kindOf 46 = .ok (.ifCond .eq 13, 3) := by decide +kernel
theorem dX9_kindOf_49 : decode cX9_kindOf 49 = .ok (.aload_n 0, 1) := by decide +kernel
theorem dX9_kindOf_5 : decode cX9_kindOf 5 = .ok (.aload_n 0, 1) := by decide +kernel
theorem dX9_kindOf_50 : decode cX9_kindOf 50 = .ok (.iload_n 1, 1) := by decide +kernel
theorem dX9_kindOf_51 : decode cX9_kindOf 51 = .ok (.iload 6, 2) := by decide +kernel
theorem dX9_kindOf_53 : decode cX9_kindOf 53 = .ok (.invokevirtual 183, 3) := by decide +kernel
theorem dX9_kindOf_56 : decode cX9_kindOf 56 = .ok (.ifCond .eq 7, 3) := by decide +kernel
theorem dX9_kindOf_59 : decode cX9_kindOf 59 = .ok (.iconst 1, 1) := by decide +kernel
theorem dX9_kindOf_6 : decode cX9_kindOf 6 = .ok (.getfield 163, 3) := by decide +kernel
theorem dX9_kindOf_60 : decode cX9_kindOf 60 = .ok (.goto 4, 3) := by decide +kernel
theorem dX9_kindOf_63 : decode cX9_kindOf 63 = .ok (.iconst 0, 1) := by decide +kernel
theorem dX9_kindOf_64 : decode cX9_kindOf 64 = .ok (.istore 4, 2) := by decide +kernel
theorem dX9_kindOf_66 : decode cX9_kindOf 66 = .ok (.iload 5, 2) := by decide +kernel
theorem dX9_kindOf_68 : decode cX9_kindOf 68 = .ok (.ifCond .ne 23, 3) := by decide +kernel
theorem dX9_kindOf_71 : decode cX9_kindOf 71 = .ok (.aload_n 0, 1) := by decide +kernel
theorem dX9_kindOf_72 : decode cX9_kindOf 72 = .ok (.iload_n 3, 1) := by decide +kernel
theorem dX9_kindOf_73 : decode cX9_kindOf 73 = .ok (.iload 6, 2) := by decide +kernel
theorem dX9_kindOf_75 : decode cX9_kindOf 75 = .ok (.invokevirtual 183, 3) := by decide +kernel
theorem dX9_kindOf_78 : decode cX9_kindOf 78 = .ok (.ifCond .ne 17, 3) := by decide +kernel
theorem dX9_kindOf_81 : decode cX9_kindOf 81 = .ok (.aload_n 0, 1) := by decide +kernel
theorem dX9_kindOf_82 : decode cX9_kindOf 82 = .ok (.iload_n 1, 1) := by decide +kernel
theorem dX9_kindOf_83 : decode cX9_kindOf 83 = .ok (.iload 6, 2) := by decide +kernel
theorem dX9_kindOf_85 : decode cX9_kindOf 85 = .ok (.invokevirtual 183, 3) := by decide +kernel
theorem dX9_kindOf_88 : decode cX9_kindOf 88 = .ok (.ifCond .eq 7, 3) := by decide +kernel
theorem dX9_kindOf_9 : decode cX9_kindOf 9 = .ok (.if_icmp .ge 117, 3) := by decide +kernel
theorem dX9_kindOf_91 : decode cX9_kindOf 91 = .ok (.iconst 1, 1) := by decide +kernel
theorem dX9_kindOf_92 : decode cX9_kindOf 92 = .ok (.goto 4, 3) := by decide +kernel
theorem dX9_kindOf_95 : decode cX9_kindOf 95 = .ok (.iconst 0, 1) := by decide +kernel
theorem dX9_kindOf_96 : decode cX9_kindOf 96 = .ok (.istore 5, 2) := by decide +kernel
theorem dX9_kindOf_98 : decode cX9_kindOf 98 = .ok (.iinc 6 1, 3) := by decide +kernel
theorem dX9_leaves_0 : decode cX9_leaves 0 = .ok (.iconst 0, 1) := by decide +kernel
theorem dX9_leaves_1 : decode cX9_leaves 1 = .ok (.istore_n 1, 1) := by decide +kernel
theorem dX9_leaves_11 : decode cX9_leaves 11 = .ok (.iload_n 1, 1) := by decide +kernel
theorem dX9_leaves_12 : decode cX9_leaves 12 = .ok (.aload_n 0, 1) := by decide +kernel
theorem dX9_leaves_13 : decode cX9_leaves 13 = .ok (.getfield 28, 3) := by decide +kernel
theorem dX9_leaves_16 : decode cX9_leaves 16 = .ok (.iload_n 1, 1) := by decide +kernel
theorem dX9_leaves_17 : decode cX9_leaves 17 = .ok (.iaload, 1) := by decide +kernel
theorem dX9_leaves_18 : decode cX9_leaves 18 = .ok (.iastore, 1) := by decide +kernel
theorem dX9_leaves_19 : decode cX9_leaves 19 = .ok (.iinc 1 1, 3) := by decide +kernel
theorem dX9_leaves_2 : decode cX9_leaves 2 = .ok (.iload_n 1, 1) := by decide +kernel
theorem dX9_leaves_22 : decode cX9_leaves 22 = .ok (.goto (-20), 3) := by decide +kernel
theorem dX9_leaves_25 : decode cX9_leaves 25 = .ok (.return_, 1) := by decide +kernel
theorem dX9_leaves_3 : decode cX9_leaves 3 = .ok (.iconst 4, 1) := by decide +kernel
theorem dX9_leaves_4 : decode cX9_leaves 4 = .ok (.if_icmp .ge 21, 3) := by decide +kernel
theorem dX9_leaves_7 : decode cX9_leaves 7 = .ok (.aload_n 0, 1) := by decide +kernel
theorem dX9_leaves_8 : decode cX9_leaves 8 = .ok (.getfield 89, 3) := by decide +kernel
theorem dX9_minor_0 : decode cX9_minor 0 = .ok (.iload_n 1, 1) := by decide +kernel
theorem dX9_minor_1 : decode cX9_minor 1 = .ok (.ifCond .ne 5, 3) := by decide +kernel
theorem dX9_minor_101 : decode cX9_minor 101 = .ok (.invokevirtual 124, 3) := by decide +kernel
theorem dX9_minor_104 : decode cX9_minor 104 = .ok (.aload_n 0, 1) := by decide +kernel
theorem dX9_minor_105 : decode cX9_minor 105 = .ok (.iload_n 3, 1) := by decide +kernel
theorem dX9_minor_106 : decode cX9_minor 106 = .ok (.iload 5, 2) := by decide +kernel
theorem dX9_minor_108 : decode cX9_minor 108 = .ok (.invokevirtual 124, 3) := by decide +kernel
theorem dX9_minor_11 : decode cX9_minor 11 = .ok (.aload_n 0, 1) := by decide +kernel
theorem dX9_minor_111 : decode cX9_minor 111 = .ok (.aload_n 0, 1) := by decide +kernel
theorem dX9_minor_112 : decode cX9_minor 112 = .ok (.iload 4, 2) := by decide +kernel
theorem dX9_minor_114 : decode cX9_minor 114 = .ok (.iload 7, 2) := by decide +kernel
theorem dX9_minor_116 : decode cX9_minor 116 = .ok (.invokevirtual 124, 3) := by decide +kernel
theorem dX9_minor_119 : decode cX9_minor 119 = .ok (.lmul, 1) := by decide +kernel
theorem dX9_minor_12 : decode cX9_minor 12 = .ok (.iload_n 2, 1) := by decide +kernel
theorem dX9_minor_120 : decode cX9_minor 120 = .ok (.aload_n 0, 1) := by decide +kernel
theorem dX9_minor_121 : decode cX9_minor 121 = .ok (.iload_n 3, 1) := by decide +kernel
theorem dX9_minor_122 : decode cX9_minor 122 = .ok (.iload 7, 2) := by decide +kernel
theorem dX9_minor_124 : decode cX9_minor 124 = .ok (.invokevirtual 124, 3) := by decide +kernel
theorem dX9_minor_127 : decode cX9_minor 127 = .ok (.aload_n 0, 1) := by decide +kernel
theorem dX9_minor_128 : decode cX9_minor 128 = .ok (.iload 4, 2) := by decide +kernel
theorem dX9_minor_13 : decode cX9_minor 13 = .ok (.iload 5, 2) := by decide +kernel
theorem dX9_minor_130 : decode cX9_minor 130 = .ok (.iload 5, 2) := by decide +kernel
theorem dX9_minor_132 : decode cX9_minor 132 = .ok (.invokevirtual 124, 3) := by decide +kernel
theorem dX9_minor_135 : decode cX9_minor 135 = .ok (.lmul, 1) := by decide +kernel
theorem dX9_minor_136 : decode cX9_minor 136 = .ok (.lsub, 1) := by decide +kernel
theorem dX9_minor_137 : decode cX9_minor 137 = .ok (.lmul, 1) := by decide +kernel
theorem dX9_minor_138 : decode cX9_minor 138 = .ok (.lsub, 1) := by decide +kernel
theorem dX9_minor_139 : decode cX9_minor 139 = .ok (.aload_n 0, 1) := by decide +kernel
theorem dX9_minor_140 : decode cX9_minor 140 = .ok (.iload_n 2, 1) := by decide +kernel
theorem dX9_minor_141 : decode cX9_minor 141 = .ok (.iload 7, 2) := by decide +kernel
theorem dX9_minor_143 : decode cX9_minor 143 = .ok (.invokevirtual 124, 3) := by decide +kernel
theorem dX9_minor_146 : decode cX9_minor 146 = .ok (.aload_n 0, 1) := by decide +kernel
theorem dX9_minor_147 : decode cX9_minor 147 = .ok (.iload_n 3, 1) := by decide +kernel
theorem dX9_minor_148 : decode cX9_minor 148 = .ok (.iload 5, 2) := by decide +kernel
theorem dX9_minor_15 : decode cX9_minor 15 = .ok (.invokevirtual 124, 3) := by decide +kernel
theorem dX9_minor_150 : decode cX9_minor 150 = .ok (.invokevirtual 124, 3) := by decide +kernel
theorem dX9_minor_153 : decode cX9_minor 153 = .ok (.aload_n 0, 1) := by decide +kernel
theorem dX9_minor_154 : decode cX9_minor 154 = .ok (.iload 4, 2) := by decide +kernel
theorem dX9_minor_156 : decode cX9_minor 156 = .ok (.iload 6, 2) := by decide +kernel
theorem dX9_minor_158 : decode cX9_minor 158 = .ok (.invokevirtual 124, 3) := by decide +kernel
theorem dX9_minor_161 : decode cX9_minor 161 = .ok (.lmul, 1) := by decide +kernel
theorem dX9_minor_162 : decode cX9_minor 162 = .ok (.aload_n 0, 1) := by decide +kernel
theorem dX9_minor_163 : decode cX9_minor 163 = .ok (.iload_n 3, 1) := by decide +kernel
theorem dX9_minor_164 : decode cX9_minor 164 = .ok (.iload 6, 2) := by decide +kernel
theorem dX9_minor_166 : decode cX9_minor 166 = .ok (.invokevirtual 124, 3) := by decide +kernel
theorem dX9_minor_169 : decode cX9_minor 169 = .ok (.aload_n 0, 1) := by decide +kernel
theorem dX9_minor_170 : decode cX9_minor 170 = .ok (.iload 4, 2) := by decide +kernel
theorem dX9_minor_172 : decode cX9_minor 172 = .ok (.iload 5, 2) := by decide +kernel
theorem dX9_minor_174 : decode cX9_minor 174 = .ok (.invokevirtual 124, 3) := by decide +kernel
theorem dX9_minor_177 : decode cX9_minor 177 = .ok (.lmul, 1) := by decide +kernel
theorem dX9_minor_178 : decode cX9_minor 178 = .ok (.lsub, 1) := by decide +kernel
theorem dX9_minor_179 : decode cX9_minor 179 = .ok (.lmul, 1) := by decide +kernel
theorem dX9_minor_18 : decode cX9_minor 18 = .ok (.lreturn, 1) := by decide +kernel
theorem dX9_minor_180 : decode cX9_minor 180 = .ok (.ladd, 1) := by decide +kernel
theorem dX9_minor_181 : decode cX9_minor 181 = .ok (.lreturn, 1) := by decide +kernel
theorem dX9_minor_19 : decode cX9_minor 19 = .ok (.iload_n 1, 1) := by decide +kernel
theorem dX9_minor_20 : decode cX9_minor 20 = .ok (.iconst 2, 1) := by decide +kernel
theorem dX9_minor_21 : decode cX9_minor 21 = .ok (.if_icmp .ne 35, 3) := by decide +kernel
theorem dX9_minor_24 : decode cX9_minor 24 = .ok (.aload_n 0, 1) := by decide +kernel
theorem dX9_minor_25 : decode cX9_minor 25 = .ok (.iload_n 2, 1) := by decide +kernel
theorem dX9_minor_26 : decode cX9_minor 26 = .ok (.iload 5, 2) := by decide +kernel
theorem dX9_minor_28 : decode cX9_minor 28 = .ok (.invokevirtual 124, 3) := by decide +kernel
theorem dX9_minor_31 : decode cX9_minor 31 = .ok (.aload_n 0, 1) := by decide +kernel
theorem dX9_minor_32 : decode cX9_minor 32 = .ok (.iload_n 3, 1) := by decide +kernel
theorem dX9_minor_33 : decode cX9_minor 33 = .ok (.iload 6, 2) := by decide +kernel
theorem dX9_minor_35 : decode cX9_minor 35 = .ok (.invokevirtual 124, 3) := by decide +kernel
theorem dX9_minor_38 : decode cX9_minor 38 = .ok (.lmul, 1) := by decide +kernel
theorem dX9_minor_39 : decode cX9_minor 39 = .ok (.aload_n 0, 1) := by decide +kernel
theorem dX9_minor_4 : decode cX9_minor 4 = .ok (.lconst 1, 1) := by decide +kernel
theorem dX9_minor_40 : decode cX9_minor 40 = .ok (.iload_n 2, 1) := by decide +kernel
theorem dX9_minor_41 : decode cX9_minor 41 = .ok (.iload 6, 2) := by decide +kernel
theorem dX9_minor_43 : decode cX9_minor 43 = .ok (.invokevirtual 124, 3) := by decide +kernel
theorem dX9_minor_46 : decode cX9_minor 46 = .ok (.aload_n 0, 1) := by decide +kernel
theorem dX9_minor_47 : decode cX9_minor 47 = .ok (.iload_n 3, 1) := by decide +kernel
theorem dX9_minor_48 : decode cX9_minor 48 = .ok (.iload 5, 2) := by decide +kernel
theorem dX9_minor_5 : decode cX9_minor 5 = .ok (.lreturn, 1) := by decide +kernel
theorem dX9_minor_50 : decode cX9_minor 50 = .ok (.invokevirtual 124, 3) := by decide +kernel
theorem dX9_minor_53 : decode cX9_minor 53 = .ok (.lmul, 1) := by decide +kernel
theorem dX9_minor_54 : decode cX9_minor 54 = .ok (.lsub, 1) := by decide +kernel
theorem dX9_minor_55 : decode cX9_minor 55 = .ok (.lreturn, 1) := by decide +kernel
theorem dX9_minor_56 : decode cX9_minor 56 = .ok (.aload_n 0, 1) := by decide +kernel
theorem dX9_minor_57 : decode cX9_minor 57 = .ok (.iload_n 2, 1) := by decide +kernel
theorem dX9_minor_58 : decode cX9_minor 58 = .ok (.iload 5, 2) := by decide +kernel
theorem dX9_minor_6 : decode cX9_minor 6 = .ok (.iload_n 1, 1) := by decide +kernel
theorem dX9_minor_60 : decode cX9_minor 60 = .ok (.invokevirtual 124, 3) := by decide +kernel
theorem dX9_minor_63 : decode cX9_minor 63 = .ok (.aload_n 0, 1) := by decide +kernel
theorem dX9_minor_64 : decode cX9_minor 64 = .ok (.iload_n 3, 1) := by decide +kernel
theorem dX9_minor_65 : decode cX9_minor 65 = .ok (.iload 6, 2) := by decide +kernel
theorem dX9_minor_67 : decode cX9_minor 67 = .ok (.invokevirtual 124, 3) := by decide +kernel
theorem dX9_minor_7 : decode cX9_minor 7 = .ok (.iconst 1, 1) := by decide +kernel
theorem dX9_minor_70 : decode cX9_minor 70 = .ok (.aload_n 0, 1) := by decide +kernel
theorem dX9_minor_71 : decode cX9_minor 71 = .ok (.iload 4, 2) := by decide +kernel
theorem dX9_minor_73 : decode cX9_minor 73 = .ok (.iload 7, 2) := by decide +kernel
theorem dX9_minor_75 : decode cX9_minor 75 = .ok (.invokevirtual 124, 3) := by decide +kernel
theorem dX9_minor_78 : decode cX9_minor 78 = .ok (.lmul, 1) := by decide +kernel
theorem dX9_minor_79 : decode cX9_minor 79 = .ok (.aload_n 0, 1) := by decide +kernel
theorem dX9_minor_8 : decode cX9_minor 8 = .ok (.if_icmp .ne 11, 3) := by decide +kernel
theorem dX9_minor_80 : decode cX9_minor 80 = .ok (.iload_n 3, 1) := by decide +kernel
theorem dX9_minor_81 : decode cX9_minor 81 = .ok (.iload 7, 2) := by decide +kernel
theorem dX9_minor_83 : decode cX9_minor 83 = .ok (.invokevirtual 124, 3) := by decide +kernel
theorem dX9_minor_86 : decode cX9_minor 86 = .ok (.aload_n 0, 1) := by decide +kernel
theorem dX9_minor_87 : decode cX9_minor 87 = .ok (.iload 4, 2) := by decide +kernel
theorem dX9_minor_89 : decode cX9_minor 89 = .ok (.iload 6, 2) := by decide +kernel
theorem dX9_minor_91 : decode cX9_minor 91 = .ok (.invokevirtual 124, 3) := by decide +kernel
theorem dX9_minor_94 : decode cX9_minor 94 = .ok (.lmul, 1) := by decide +kernel
theorem dX9_minor_95 : decode cX9_minor 95 = .ok (.lsub, 1) := by decide +kernel
theorem dX9_minor_96 : decode cX9_minor 96 = .ok (.lmul, 1) := by decide +kernel
theorem dX9_minor_97 : decode cX9_minor 97 = .ok (.aload_n 0, 1) := by decide +kernel
theorem dX9_minor_98 : decode cX9_minor 98 = .ok (.iload_n 2, 1) := by decide +kernel
theorem dX9_minor_99 : decode cX9_minor 99 = .ok (.iload 6, 2) := by decide +kernel
theorem dX9_price_0 : decode cX9_price 0 = .ok (.iload_n 1, 1) := by decide +kernel
theorem dX9_price_1 : decode cX9_price 1 = .ok (.aload_n 0, 1) := by decide +kernel
theorem dX9_price_11 : decode cX9_price 11 = .ok (.aload_n 0, 1) := by decide +kernel
theorem dX9_price_12 : decode cX9_price 12 = .ok (.iconst (-1), 1) := by decide +kernel
theorem dX9_price_13 : decode cX9_price 13 = .ok (.invokevirtual 112, 3) := by decide +kernel
theorem dX9_price_16 : decode cX9_price 16 = .ok (.ireturn, 1) := by decide +kernel
theorem dX9_price_17 : decode cX9_price 17 = .ok (.iload_n 2, 1) := by decide +kernel
theorem dX9_price_18 : decode cX9_price 18 = .ok (.bipush (-99), 2) := by decide +kernel
theorem dX9_price_2 : decode cX9_price 2 = .ok (.getfield 47, 3) := by decide +kernel
theorem dX9_price_20 : decode cX9_price 20 = .ok (.if_icmp .lt 7, 3) := by decide +kernel
theorem dX9_price_23 : decode cX9_price 23 = .ok (.iload_n 3, 1) := by decide +kernel
theorem dX9_price_24 : decode cX9_price 24 = .ok (.ifCond .ge 10, 3) := by decide +kernel
theorem dX9_price_27 : decode cX9_price 27 = .ok (.aload_n 0, 1) := by decide +kernel
theorem dX9_price_28 : decode cX9_price 28 = .ok (.bipush (-4), 2) := by decide +kernel
theorem dX9_price_30 : decode cX9_price 30 = .ok (.invokevirtual 112, 3) := by decide +kernel
theorem dX9_price_33 : decode cX9_price 33 = .ok (.ireturn, 1) := by decide +kernel
theorem dX9_price_34 : decode cX9_price 34 = .ok (.iload_n 2, 1) := by decide +kernel
theorem dX9_price_35 : decode cX9_price 35 = .ok (.bipush 99, 2) := by decide +kernel
theorem dX9_price_37 : decode cX9_price 37 = .ok (.if_icmp .gt 9, 3) := by decide +kernel
theorem dX9_price_40 : decode cX9_price 40 = .ok (.iload_n 3, 1) := by decide +kernel
theorem dX9_price_41 : decode cX9_price 41 = .ok (.bipush 99, 2) := by decide +kernel
theorem dX9_price_43 : decode cX9_price 43 = .ok (.if_icmp .le 10, 3) := by decide +kernel
theorem dX9_price_46 : decode cX9_price 46 = .ok (.aload_n 0, 1) := by decide +kernel
theorem dX9_price_47 : decode cX9_price 47 = .ok (.bipush (-6), 2) := by decide +kernel
theorem dX9_price_49 : decode cX9_price 49 = .ok (.invokevirtual 112, 3) := by decide +kernel
theorem dX9_price_5 : decode cX9_price 5 = .ok (.invokestatic 116, 3) := by decide +kernel
theorem dX9_price_52 : decode cX9_price 52 = .ok (.ireturn, 1) := by decide +kernel
theorem dX9_price_53 : decode cX9_price 53 = .ok (.aload_n 0, 1) := by decide +kernel
theorem dX9_price_54 : decode cX9_price 54 = .ok (.getfield 22, 3) := by decide +kernel
theorem dX9_price_57 : decode cX9_price 57 = .ok (.iload_n 1, 1) := by decide +kernel
theorem dX9_price_58 : decode cX9_price 58 = .ok (.iload_n 2, 1) := by decide +kernel
theorem dX9_price_59 : decode cX9_price 59 = .ok (.iastore, 1) := by decide +kernel
theorem dX9_price_60 : decode cX9_price 60 = .ok (.aload_n 0, 1) := by decide +kernel
theorem dX9_price_61 : decode cX9_price 61 = .ok (.getfield 25, 3) := by decide +kernel
theorem dX9_price_64 : decode cX9_price 64 = .ok (.iload_n 1, 1) := by decide +kernel
theorem dX9_price_65 : decode cX9_price 65 = .ok (.iload_n 3, 1) := by decide +kernel
theorem dX9_price_66 : decode cX9_price 66 = .ok (.iastore, 1) := by decide +kernel
theorem dX9_price_67 : decode cX9_price 67 = .ok (.iconst 1, 1) := by decide +kernel
theorem dX9_price_68 : decode cX9_price 68 = .ok (.ireturn, 1) := by decide +kernel
theorem dX9_price_8 : decode cX9_price 8 = .ok (.ifCond .ne 9, 3) := by decide +kernel
theorem dX9_put_0 : decode cX9_put 0 = .ok (.iload_n 1, 1) := by decide +kernel
theorem dX9_put_1 : decode cX9_put 1 = .ok (.aload_n 0, 1) := by decide +kernel
theorem dX9_put_11 : decode cX9_put 11 = .ok (.iload_n 2, 1) := by decide +kernel
theorem dX9_put_12 : decode cX9_put 12 = .ok (.aload_n 0, 1) := by decide +kernel
theorem dX9_put_13 : decode cX9_put 13 = .ok (.getfield 47, 3) := by decide +kernel
theorem dX9_put_16 : decode cX9_put 16 = .ok (.invokestatic 116, 3) := by decide +kernel
theorem dX9_put_19 : decode cX9_put 19 = .ok (.ifCond .ne 9, 3) := by decide +kernel
theorem dX9_put_2 : decode cX9_put 2 = .ok (.getfield 102, 3) := by decide +kernel
theorem dX9_put_22 : decode cX9_put 22 = .ok (.aload_n 0, 1) := by decide +kernel
theorem dX9_put_23 : decode cX9_put 23 = .ok (.iconst (-1), 1) := by decide +kernel
theorem dX9_put_24 : decode cX9_put 24 = .ok (.invokevirtual 112, 3) := by decide +kernel
theorem dX9_put_27 : decode cX9_put 27 = .ok (.ireturn, 1) := by decide +kernel
theorem dX9_put_28 : decode cX9_put 28 = .ok (.iload_n 3, 1) := by decide +kernel
theorem dX9_put_29 : decode cX9_put 29 = .ok (.bipush (-6), 2) := by decide +kernel
theorem dX9_put_31 : decode cX9_put 31 = .ok (.if_icmp .ge 10, 3) := by decide +kernel
theorem dX9_put_34 : decode cX9_put 34 = .ok (.aload_n 0, 1) := by decide +kernel
theorem dX9_put_35 : decode cX9_put 35 = .ok (.bipush (-4), 2) := by decide +kernel
theorem dX9_put_37 : decode cX9_put 37 = .ok (.invokevirtual 112, 3) := by decide +kernel
theorem dX9_put_40 : decode cX9_put 40 = .ok (.ireturn, 1) := by decide +kernel
theorem dX9_put_41 : decode cX9_put 41 = .ok (.iload_n 3, 1) := by decide +kernel
theorem dX9_put_42 : decode cX9_put 42 = .ok (.bipush 6, 2) := by decide +kernel
theorem dX9_put_44 : decode cX9_put 44 = .ok (.if_icmp .le 10, 3) := by decide +kernel
theorem dX9_put_47 : decode cX9_put 47 = .ok (.aload_n 0, 1) := by decide +kernel
theorem dX9_put_48 : decode cX9_put 48 = .ok (.bipush (-6), 2) := by decide +kernel
theorem dX9_put_5 : decode cX9_put 5 = .ok (.invokestatic 116, 3) := by decide +kernel
theorem dX9_put_50 : decode cX9_put 50 = .ok (.invokevirtual 112, 3) := by decide +kernel
theorem dX9_put_53 : decode cX9_put 53 = .ok (.ireturn, 1) := by decide +kernel
theorem dX9_put_54 : decode cX9_put 54 = .ok (.aload_n 0, 1) := by decide +kernel
theorem dX9_put_55 : decode cX9_put 55 = .ok (.getfield 9, 3) := by decide +kernel
theorem dX9_put_58 : decode cX9_put 58 = .ok (.iconst 4, 1) := by decide +kernel
theorem dX9_put_59 : decode cX9_put 59 = .ok (.iload_n 1, 1) := by decide +kernel
theorem dX9_put_60 : decode cX9_put 60 = .ok (.imul, 1) := by decide +kernel
theorem dX9_put_61 : decode cX9_put 61 = .ok (.iload_n 2, 1) := by decide +kernel
theorem dX9_put_62 : decode cX9_put 62 = .ok (.iadd, 1) := by decide +kernel
theorem dX9_put_63 : decode cX9_put 63 = .ok (.iaload, 1) := by decide +kernel
theorem dX9_put_64 : decode cX9_put 64 = .ok (.istore 4, 2) := by decide +kernel
theorem dX9_put_66 : decode cX9_put 66 = .ok (.aload_n 0, 1) := by decide +kernel
theorem dX9_put_67 : decode cX9_put 67 = .ok (.getfield 9, 3) := by decide +kernel
theorem dX9_put_70 : decode cX9_put 70 = .ok (.iconst 4, 1) := by decide +kernel
theorem dX9_put_71 : decode cX9_put 71 = .ok (.iload_n 1, 1) := by decide +kernel
theorem dX9_put_72 : decode cX9_put 72 = .ok (.imul, 1) := by decide +kernel
theorem dX9_put_73 : decode cX9_put 73 = .ok (.iload_n 2, 1) := by decide +kernel
theorem dX9_put_74 : decode cX9_put 74 = .ok (.iadd, 1) := by decide +kernel
theorem dX9_put_75 : decode cX9_put 75 = .ok (.iload_n 3, 1) := by decide +kernel
theorem dX9_put_76 : decode cX9_put 76 = .ok (.iastore, 1) := by decide +kernel
theorem dX9_put_77 : decode cX9_put 77 = .ok (.aload_n 0, 1) := by decide +kernel
theorem dX9_put_78 : decode cX9_put 78 = .ok (.iconst 0, 1) := by decide +kernel
theorem dX9_put_79 : decode cX9_put 79 = .ok (.putfield 105, 3) := by decide +kernel
theorem dX9_put_8 : decode cX9_put 8 = .ok (.ifCond .eq 14, 3) := by decide +kernel
theorem dX9_put_82 : decode cX9_put 82 = .ok (.aload_n 0, 1) := by decide +kernel
theorem dX9_put_83 : decode cX9_put 83 = .ok (.iconst 0, 1) := by decide +kernel
theorem dX9_put_84 : decode cX9_put 84 = .ok (.putfield 109, 3) := by decide +kernel
theorem dX9_put_87 : decode cX9_put 87 = .ok (.iload 4, 2) := by decide +kernel
theorem dX9_put_89 : decode cX9_put 89 = .ok (.ireturn, 1) := by decide +kernel
theorem dX9_refuse_0 : decode cX9_refuse 0 = .ok (.aload_n 0, 1) := by decide +kernel
theorem dX9_refuse_1 : decode cX9_refuse 1 = .ok (.getfield 31, 3) := by decide +kernel
theorem dX9_refuse_10 : decode cX9_refuse 10 = .ok (.iastore, 1) := by decide +kernel
theorem dX9_refuse_11 : decode cX9_refuse 11 = .ok (.iload_n 1, 1) := by decide +kernel
theorem dX9_refuse_12 : decode cX9_refuse 12 = .ok (.ireturn, 1) := by decide +kernel
theorem dX9_refuse_4 : decode cX9_refuse 4 = .ok (.iload_n 1, 1) := by decide +kernel
theorem dX9_refuse_5 : decode cX9_refuse 5 = .ok (.ineg, 1) := by decide +kernel
theorem dX9_refuse_6 : decode cX9_refuse 6 = .ok (.dup2, 1) := by decide +kernel
theorem dX9_refuse_7 : decode cX9_refuse 7 = .ok (.iaload, 1) := by decide +kernel
theorem dX9_refuse_8 : decode cX9_refuse 8 = .ok (.iconst 1, 1) := by decide +kernel
theorem dX9_refuse_9 : decode cX9_refuse 9 = .ok (.iadd, 1) := by decide +kernel
theorem dX9_right_0 : decode cX9_right 0 = .ok (.iload_n 1, 1) := by decide +kernel
theorem dX9_right_1 : decode cX9_right 1 = .ok (.aload_n 0, 1) := by decide +kernel
theorem dX9_right_11 : decode cX9_right 11 = .ok (.aload_n 0, 1) := by decide +kernel
theorem dX9_right_12 : decode cX9_right 12 = .ok (.iconst (-1), 1) := by decide +kernel
theorem dX9_right_13 : decode cX9_right 13 = .ok (.invokevirtual 112, 3) := by decide +kernel
theorem dX9_right_16 : decode cX9_right 16 = .ok (.ireturn, 1) := by decide +kernel
theorem dX9_right_17 : decode cX9_right 17 = .ok (.iload_n 2, 1) := by decide +kernel
theorem dX9_right_18 : decode cX9_right 18 = .ok (.sipush (-200), 3) := by decide +kernel
theorem dX9_right_2 : decode cX9_right 2 = .ok (.getfield 102, 3) := by decide +kernel
theorem dX9_right_21 : decode cX9_right 21 = .ok (.if_icmp .ge 10, 3) := by decide +kernel
theorem dX9_right_24 : decode cX9_right 24 = .ok (.aload_n 0, 1) := by decide +kernel
theorem dX9_right_25 : decode cX9_right 25 = .ok (.bipush (-4), 2) := by decide +kernel
theorem dX9_right_27 : decode cX9_right 27 = .ok (.invokevirtual 112, 3) := by decide +kernel
theorem dX9_right_30 : decode cX9_right 30 = .ok (.ireturn, 1) := by decide +kernel
theorem dX9_right_31 : decode cX9_right 31 = .ok (.iload_n 2, 1) := by decide +kernel
theorem dX9_right_32 : decode cX9_right 32 = .ok (.sipush 200, 3) := by decide +kernel
theorem dX9_right_35 : decode cX9_right 35 = .ok (.if_icmp .le 10, 3) := by decide +kernel
theorem dX9_right_38 : decode cX9_right 38 = .ok (.aload_n 0, 1) := by decide +kernel
theorem dX9_right_39 : decode cX9_right 39 = .ok (.bipush (-6), 2) := by decide +kernel
theorem dX9_right_41 : decode cX9_right 41 = .ok (.invokevirtual 112, 3) := by decide +kernel
theorem dX9_right_44 : decode cX9_right 44 = .ok (.ireturn, 1) := by decide +kernel
theorem dX9_right_45 : decode cX9_right 45 = .ok (.aload_n 0, 1) := by decide +kernel
theorem dX9_right_46 : decode cX9_right 46 = .ok (.getfield 13, 3) := by decide +kernel
theorem dX9_right_49 : decode cX9_right 49 = .ok (.iload_n 1, 1) := by decide +kernel
theorem dX9_right_5 : decode cX9_right 5 = .ok (.invokestatic 116, 3) := by decide +kernel
theorem dX9_right_50 : decode cX9_right 50 = .ok (.iaload, 1) := by decide +kernel
theorem dX9_right_51 : decode cX9_right 51 = .ok (.istore_n 3, 1) := by decide +kernel
theorem dX9_right_52 : decode cX9_right 52 = .ok (.aload_n 0, 1) := by decide +kernel
theorem dX9_right_53 : decode cX9_right 53 = .ok (.getfield 13, 3) := by decide +kernel
theorem dX9_right_56 : decode cX9_right 56 = .ok (.iload_n 1, 1) := by decide +kernel
theorem dX9_right_57 : decode cX9_right 57 = .ok (.iload_n 2, 1) := by decide +kernel
theorem dX9_right_58 : decode cX9_right 58 = .ok (.iastore, 1) := by decide +kernel
theorem dX9_right_59 : decode cX9_right 59 = .ok (.aload_n 0, 1) := by decide +kernel
theorem dX9_right_60 : decode cX9_right 60 = .ok (.iconst 0, 1) := by decide +kernel
theorem dX9_right_61 : decode cX9_right 61 = .ok (.putfield 109, 3) := by decide +kernel
theorem dX9_right_64 : decode cX9_right 64 = .ok (.iload_n 3, 1) := by decide +kernel
theorem dX9_right_65 : decode cX9_right 65 = .ok (.ireturn, 1) := by decide +kernel
theorem dX9_right_8 : decode cX9_right 8 = .ok (.ifCond .ne 9, 3) := by decide +kernel
theorem dX9_sum_0 : decode cX9_sum 0 = .ok (.iconst 0, 1) := by decide +kernel
theorem dX9_sum_1 : decode cX9_sum 1 = .ok (.istore 4, 2) := by decide +kernel
theorem dX9_sum_12 : decode cX9_sum 12 = .ok (.if_icmp .ge 32, 3) := by decide +kernel
theorem dX9_sum_15 : decode cX9_sum 15 = .ok (.iload 4, 2) := by decide +kernel
theorem dX9_sum_17 : decode cX9_sum 17 = .ok (.aload_n 0, 1) := by decide +kernel
theorem dX9_sum_18 : decode cX9_sum 18 = .ok (.getfield 9, 3) := by decide +kernel
theorem dX9_sum_21 : decode cX9_sum 21 = .ok (.iconst 4, 1) := by decide +kernel
theorem dX9_sum_22 : decode cX9_sum 22 = .ok (.iload_n 1, 1) := by decide +kernel
theorem dX9_sum_23 : decode cX9_sum 23 = .ok (.imul, 1) := by decide +kernel
theorem dX9_sum_24 : decode cX9_sum 24 = .ok (.iload 5, 2) := by decide +kernel
theorem dX9_sum_26 : decode cX9_sum 26 = .ok (.iadd, 1) := by decide +kernel
theorem dX9_sum_27 : decode cX9_sum 27 = .ok (.iaload, 1) := by decide +kernel
theorem dX9_sum_28 : decode cX9_sum 28 = .ok (.aload_n 2, 1) := by decide +kernel
theorem dX9_sum_29 : decode cX9_sum 29 = .ok (.iload_n 3, 1) := by decide +kernel
theorem dX9_sum_3 : decode cX9_sum 3 = .ok (.iconst 0, 1) := by decide +kernel
theorem dX9_sum_30 : decode cX9_sum 30 = .ok (.iload 5, 2) := by decide +kernel
theorem dX9_sum_32 : decode cX9_sum 32 = .ok (.iadd, 1) := by decide +kernel
theorem dX9_sum_33 : decode cX9_sum 33 = .ok (.iaload, 1) := by decide +kernel
theorem dX9_sum_34 : decode cX9_sum 34 = .ok (.imul, 1) := by decide +kernel
theorem dX9_sum_35 : decode cX9_sum 35 = .ok (.iadd, 1) := by decide +kernel
theorem dX9_sum_36 : decode cX9_sum 36 = .ok (.istore 4, 2) := by decide +kernel
theorem dX9_sum_38 : decode cX9_sum 38 = .ok (.iinc 5 1, 3) := by decide +kernel
theorem dX9_sum_4 : decode cX9_sum 4 = .ok (.istore 5, 2) := by decide +kernel
theorem dX9_sum_41 : decode cX9_sum 41 = .ok (.goto (-35), 3) := by decide +kernel
theorem dX9_sum_44 : decode cX9_sum 44 = .ok (.iload 4, 2) := by decide +kernel
theorem dX9_sum_46 : decode cX9_sum 46 = .ok (.ireturn, 1) := by decide +kernel
theorem dX9_sum_6 : decode cX9_sum 6 = .ok (.iload 5, 2) := by decide +kernel
theorem dX9_sum_8 : decode cX9_sum 8 = .ok (.aload_n 0, 1) := by decide +kernel
theorem dX9_sum_9 : decode cX9_sum 9 = .ok (.getfield 47, 3) := by decide +kernel
theorem dX9_takes_0 : decode cX9_takes 0 = .ok (.iconst 0, 1) := by decide +kernel
theorem dX9_takes_1 : decode cX9_takes 1 = .ok (.istore_n 2, 1) := by decide +kernel
theorem dX9_takes_10 : decode cX9_takes 10 = .ok (.iconst 3, 1) := by decide +kernel
theorem dX9_takes_11 : decode cX9_takes 11 = .ok (.if_icmp .ge 27, 3) := by decide +kernel
theorem dX9_takes_14 : decode cX9_takes 14 = .ok (.iload_n 0, 1) := by decide +kernel
theorem dX9_takes_15 : decode cX9_takes 15 = .ok (.iload_n 3, 1) := by decide +kernel
theorem dX9_takes_16 : decode cX9_takes 16 = .ok (.ishr, 1) := by decide +kernel
theorem dX9_takes_17 : decode cX9_takes 17 = .ok (.iconst 1, 1) := by decide +kernel
theorem dX9_takes_18 : decode cX9_takes 18 = .ok (.iand, 1) := by decide +kernel
theorem dX9_takes_19 : decode cX9_takes 19 = .ok (.ifCond .ne 6, 3) := by decide +kernel
theorem dX9_takes_2 : decode cX9_takes 2 = .ok (.iconst 0, 1) := by decide +kernel
theorem dX9_takes_22 : decode cX9_takes 22 = .ok (.goto 10, 3) := by decide +kernel
theorem dX9_takes_25 : decode cX9_takes 25 = .ok (.aload_n 1, 1) := by decide +kernel
theorem dX9_takes_26 : decode cX9_takes 26 = .ok (.iload_n 2, 1) := by decide +kernel
theorem dX9_takes_27 : decode cX9_takes 27 = .ok (.iload_n 3, 1) := by decide +kernel
theorem dX9_takes_28 : decode cX9_takes 28 = .ok (.iastore, 1) := by decide +kernel
theorem dX9_takes_29 : decode cX9_takes 29 = .ok (.iinc 2 1, 3) := by decide +kernel
theorem dX9_takes_3 : decode cX9_takes 3 = .ok (.istore_n 3, 1) := by decide +kernel
theorem dX9_takes_32 : decode cX9_takes 32 = .ok (.iinc 3 1, 3) := by decide +kernel
theorem dX9_takes_35 : decode cX9_takes 35 = .ok (.goto (-31), 3) := by decide +kernel
theorem dX9_takes_38 : decode cX9_takes 38 = .ok (.iload_n 2, 1) := by decide +kernel
theorem dX9_takes_39 : decode cX9_takes 39 = .ok (.iconst 3, 1) := by decide +kernel
theorem dX9_takes_4 : decode cX9_takes 4 = .ok (.iload_n 3, 1) := by decide +kernel
theorem dX9_takes_40 : decode cX9_takes 40 = .ok (.if_icmp .ge 13, 3) := by decide +kernel
theorem dX9_takes_43 : decode cX9_takes 43 = .ok (.aload_n 1, 1) := by decide +kernel
theorem dX9_takes_44 : decode cX9_takes 44 = .ok (.iload_n 2, 1) := by decide +kernel
theorem dX9_takes_45 : decode cX9_takes 45 = .ok (.iconst 0, 1) := by decide +kernel
theorem dX9_takes_46 : decode cX9_takes 46 = .ok (.iastore, 1) := by decide +kernel
theorem dX9_takes_47 : decode cX9_takes 47 = .ok (.iinc 2 1, 3) := by decide +kernel
theorem dX9_takes_5 : decode cX9_takes 5 = .ok (.iconst 4, 1) := by decide +kernel
theorem dX9_takes_50 : decode cX9_takes 50 = .ok (.goto (-12), 3) := by decide +kernel
theorem dX9_takes_53 : decode cX9_takes 53 = .ok (.return_, 1) := by decide +kernel
theorem dX9_takes_6 : decode cX9_takes 6 = .ok (.if_icmp .ge 32, 3) := by decide +kernel
theorem dX9_takes_9 : decode cX9_takes 9 = .ok (.iload_n 2, 1) := by decide +kernel
theorem dX9_tray_0 : decode cX9_tray 0 = .ok (.iload_n 1, 1) := by decide +kernel
theorem dX9_tray_1 : decode cX9_tray 1 = .ok (.iconst 4, 1) := by decide +kernel
theorem dX9_tray_10 : decode cX9_tray 10 = .ok (.invokevirtual 112, 3) := by decide +kernel
theorem dX9_tray_13 : decode cX9_tray 13 = .ok (.ireturn, 1) := by decide +kernel
theorem dX9_tray_14 : decode cX9_tray 14 = .ok (.iload_n 2, 1) := by decide +kernel
theorem dX9_tray_15 : decode cX9_tray 15 = .ok (.iconst 4, 1) := by decide +kernel
theorem dX9_tray_16 : decode cX9_tray 16 = .ok (.invokestatic 116, 3) := by decide +kernel
theorem dX9_tray_19 : decode cX9_tray 19 = .ok (.ifCond .ne 10, 3) := by decide +kernel
theorem dX9_tray_2 : decode cX9_tray 2 = .ok (.invokestatic 116, 3) := by decide +kernel
theorem dX9_tray_22 : decode cX9_tray 22 = .ok (.aload_n 0, 1) := by decide +kernel
theorem dX9_tray_23 : decode cX9_tray 23 = .ok (.bipush (-2), 2) := by decide +kernel
theorem dX9_tray_25 : decode cX9_tray 25 = .ok (.invokevirtual 112, 3) := by decide +kernel
theorem dX9_tray_28 : decode cX9_tray 28 = .ok (.ireturn, 1) := by decide +kernel
theorem dX9_tray_29 : decode cX9_tray 29 = .ok (.iload_n 3, 1) := by decide +kernel
theorem dX9_tray_30 : decode cX9_tray 30 = .ok (.ifCond .ge 10, 3) := by decide +kernel
theorem dX9_tray_33 : decode cX9_tray 33 = .ok (.aload_n 0, 1) := by decide +kernel
theorem dX9_tray_34 : decode cX9_tray 34 = .ok (.bipush (-4), 2) := by decide +kernel
theorem dX9_tray_36 : decode cX9_tray 36 = .ok (.invokevirtual 112, 3) := by decide +kernel
theorem dX9_tray_39 : decode cX9_tray 39 = .ok (.ireturn, 1) := by decide +kernel
theorem dX9_tray_40 : decode cX9_tray 40 = .ok (.iload_n 3, 1) := by decide +kernel
theorem dX9_tray_41 : decode cX9_tray 41 = .ok (.bipush 20, 2) := by decide +kernel
theorem dX9_tray_43 : decode cX9_tray 43 = .ok (.if_icmp .le 10, 3) := by decide +kernel
theorem dX9_tray_46 : decode cX9_tray 46 = .ok (.aload_n 0, 1) := by decide +kernel
theorem dX9_tray_47 : decode cX9_tray 47 = .ok (.bipush (-6), 2) := by decide +kernel
theorem dX9_tray_49 : decode cX9_tray 49 = .ok (.invokevirtual 112, 3) := by decide +kernel
theorem dX9_tray_5 : decode cX9_tray 5 = .ok (.ifCond .ne 9, 3) := by decide +kernel
theorem dX9_tray_52 : decode cX9_tray 52 = .ok (.ireturn, 1) := by decide +kernel
theorem dX9_tray_53 : decode cX9_tray 53 = .ok (.aload_n 0, 1) := by decide +kernel
theorem dX9_tray_54 : decode cX9_tray 54 = .ok (.getfield 34, 3) := by decide +kernel
theorem dX9_tray_57 : decode cX9_tray 57 = .ok (.iload_n 1, 1) := by decide +kernel
theorem dX9_tray_58 : decode cX9_tray 58 = .ok (.iload_n 2, 1) := by decide +kernel
theorem dX9_tray_59 : decode cX9_tray 59 = .ok (.iastore, 1) := by decide +kernel
theorem dX9_tray_60 : decode cX9_tray 60 = .ok (.aload_n 0, 1) := by decide +kernel
theorem dX9_tray_61 : decode cX9_tray 61 = .ok (.getfield 37, 3) := by decide +kernel
theorem dX9_tray_64 : decode cX9_tray 64 = .ok (.iload_n 1, 1) := by decide +kernel
theorem dX9_tray_65 : decode cX9_tray 65 = .ok (.iload_n 3, 1) := by decide +kernel
theorem dX9_tray_66 : decode cX9_tray 66 = .ok (.iastore, 1) := by decide +kernel
theorem dX9_tray_67 : decode cX9_tray 67 = .ok (.iconst 0, 1) := by decide +kernel
theorem dX9_tray_68 : decode cX9_tray 68 = .ok (.istore 4, 2) := by decide +kernel
theorem dX9_tray_70 : decode cX9_tray 70 = .ok (.iload 4, 2) := by decide +kernel
theorem dX9_tray_72 : decode cX9_tray 72 = .ok (.iload_n 3, 1) := by decide +kernel
theorem dX9_tray_73 : decode cX9_tray 73 = .ok (.if_icmp .ge 22, 3) := by decide +kernel
theorem dX9_tray_76 : decode cX9_tray 76 = .ok (.aload_n 0, 1) := by decide +kernel
theorem dX9_tray_77 : decode cX9_tray 77 = .ok (.getfield 40, 3) := by decide +kernel
theorem dX9_tray_8 : decode cX9_tray 8 = .ok (.aload_n 0, 1) := by decide +kernel
theorem dX9_tray_80 : decode cX9_tray 80 = .ok (.bipush 20, 2) := by decide +kernel
theorem dX9_tray_82 : decode cX9_tray 82 = .ok (.iload_n 1, 1) := by decide +kernel
theorem dX9_tray_83 : decode cX9_tray 83 = .ok (.imul, 1) := by decide +kernel
theorem dX9_tray_84 : decode cX9_tray 84 = .ok (.iload 4, 2) := by decide +kernel
theorem dX9_tray_86 : decode cX9_tray 86 = .ok (.iadd, 1) := by decide +kernel
theorem dX9_tray_87 : decode cX9_tray 87 = .ok (.lconst 0, 1) := by decide +kernel
theorem dX9_tray_88 : decode cX9_tray 88 = .ok (.lastore, 1) := by decide +kernel
theorem dX9_tray_89 : decode cX9_tray 89 = .ok (.iinc 4 1, 3) := by decide +kernel
theorem dX9_tray_9 : decode cX9_tray 9 = .ok (.iconst (-1), 1) := by decide +kernel
theorem dX9_tray_92 : decode cX9_tray 92 = .ok (.goto (-22), 3) := by decide +kernel
theorem dX9_tray_95 : decode cX9_tray 95 = .ok (.iconst 1, 1) := by decide +kernel
theorem dX9_tray_96 : decode cX9_tray 96 = .ok (.ireturn, 1) := by decide +kernel
theorem dX9_what_0 : decode cX9_what 0 = .ok (.aload_n 0, 1) := by decide +kernel
theorem dX9_what_1 : decode cX9_what 1 = .ok (.invokevirtual 195, 3) := by decide +kernel
theorem dX9_what_11 : decode cX9_what 11 = .ok (.iconst 0, 1) := by decide +kernel
theorem dX9_what_12 : decode cX9_what 12 = .ok (.aload_n 0, 1) := by decide +kernel
theorem dX9_what_13 : decode cX9_what 13 = .ok (.aload_n 0, 1) := by decide +kernel
theorem dX9_what_14 : decode cX9_what 14 = .ok (.getfield 28, 3) := by decide +kernel
theorem dX9_what_17 : decode cX9_what 17 = .ok (.iconst 0, 1) := by decide +kernel
theorem dX9_what_18 : decode cX9_what 18 = .ok (.invokevirtual 199, 3) := by decide +kernel
theorem dX9_what_21 : decode cX9_what 21 = .ok (.ifCond .eq 7, 3) := by decide +kernel
theorem dX9_what_24 : decode cX9_what 24 = .ok (.iconst 2, 1) := by decide +kernel
theorem dX9_what_25 : decode cX9_what 25 = .ok (.goto 4, 3) := by decide +kernel
theorem dX9_what_28 : decode cX9_what 28 = .ok (.iconst 0, 1) := by decide +kernel
theorem dX9_what_29 : decode cX9_what 29 = .ok (.iadd, 1) := by decide +kernel
theorem dX9_what_30 : decode cX9_what 30 = .ok (.ireturn, 1) := by decide +kernel
theorem dX9_what_4 : decode cX9_what 4 = .ok (.ifCond .eq 7, 3) := by decide +kernel
theorem dX9_what_7 : decode cX9_what 7 = .ok (.iconst 1, 1) := by decide +kernel
theorem dX9_what_8 : decode cX9_what 8 = .ok (.goto 4, 3) := by decide +kernel
theorem dX9_works_0 : decode cX9_works 0 = .ok (.iload_n 1, 1) := by decide +kernel
theorem dX9_works_1 : decode cX9_works 1 = .ok (.iconst 1, 1) := by decide +kernel
theorem dX9_works_11 : decode cX9_works 11 = .ok (.ireturn, 1) := by decide +kernel
theorem dX9_works_12 : decode cX9_works 12 = .ok (.iload_n 1, 1) := by decide +kernel
theorem dX9_works_13 : decode cX9_works 13 = .ok (.iconst 4, 1) := by decide +kernel
theorem dX9_works_14 : decode cX9_works 14 = .ok (.if_icmp .le 10, 3) := by decide +kernel
theorem dX9_works_17 : decode cX9_works 17 = .ok (.aload_n 0, 1) := by decide +kernel
theorem dX9_works_18 : decode cX9_works 18 = .ok (.bipush (-6), 2) := by decide +kernel
theorem dX9_works_2 : decode cX9_works 2 = .ok (.if_icmp .ge 10, 3) := by decide +kernel
theorem dX9_works_20 : decode cX9_works 20 = .ok (.invokevirtual 112, 3) := by decide +kernel
theorem dX9_works_23 : decode cX9_works 23 = .ok (.ireturn, 1) := by decide +kernel
theorem dX9_works_24 : decode cX9_works 24 = .ok (.aload_n 0, 1) := by decide +kernel
theorem dX9_works_25 : decode cX9_works 25 = .ok (.iload_n 1, 1) := by decide +kernel
theorem dX9_works_26 : decode cX9_works 26 = .ok (.putfield 47, 3) := by decide +kernel
theorem dX9_works_29 : decode cX9_works 29 = .ok (.aload_n 0, 1) := by decide +kernel
theorem dX9_works_30 : decode cX9_works 30 = .ok (.invokevirtual 99, 3) := by decide +kernel
theorem dX9_works_33 : decode cX9_works 33 = .ok (.iconst 1, 1) := by decide +kernel
theorem dX9_works_34 : decode cX9_works 34 = .ok (.ireturn, 1) := by decide +kernel
theorem dX9_works_5 : decode cX9_works 5 = .ok (.aload_n 0, 1) := by decide +kernel
theorem dX9_works_6 : decode cX9_works 6 = .ok (.bipush (-4), 2) := by decide +kernel
theorem dX9_works_8 : decode cX9_works 8 = .ok (.invokevirtual 112, 3) := by decide +kernel
