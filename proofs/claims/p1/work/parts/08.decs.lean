theorem dJ7_fill_53178_0 : decode cJ7_fill_53178 0 = .ok (.iconst 0, 1) := by decide +kernel
theorem dJ7_fill_53178_1 : decode cJ7_fill_53178 1 = .ok (.istore_n 2, 1) := by decide +kernel
theorem dJ7_fill_53178_10 : decode cJ7_fill_53178 10 = .ok (.aload_n 0, 1) := by decide +kernel
theorem dJ7_fill_53178_11 : decode cJ7_fill_53178 11 = .ok (.iload_n 2, 1) := by decide +kernel
theorem dJ7_fill_53178_12 : decode cJ7_fill_53178 12 = .ok (.iload_n 1, 1) := by decide +kernel
theorem dJ7_fill_53178_13 : decode cJ7_fill_53178 13 = .ok (.iastore, 1) := by decide +kernel
theorem dJ7_fill_53178_14 : decode cJ7_fill_53178 14 = .ok (.iinc 2 1, 3) := by decide +kernel
theorem dJ7_fill_53178_17 : decode cJ7_fill_53178 17 = .ok (.goto (-12), 3) := by decide +kernel
theorem dJ7_fill_53178_2 : decode cJ7_fill_53178 2 = .ok (.aload_n 0, 1) := by decide +kernel
theorem dJ7_fill_53178_20 : decode cJ7_fill_53178 20 = .ok (.return_, 1) := by decide +kernel
theorem dJ7_fill_53178_3 : decode cJ7_fill_53178 3 = .ok (.arraylength, 1) := by decide +kernel
theorem dJ7_fill_53178_4 : decode cJ7_fill_53178 4 = .ok (.istore_n 3, 1) := by decide +kernel
theorem dJ7_fill_53178_5 : decode cJ7_fill_53178 5 = .ok (.iload_n 2, 1) := by decide +kernel
theorem dJ7_fill_53178_6 : decode cJ7_fill_53178 6 = .ok (.iload_n 3, 1) := by decide +kernel
theorem dJ7_fill_53178_7 : decode cJ7_fill_53178 7 = .ok (.if_icmp .ge 13, 3) := by decide +kernel
theorem dX0_init_0 : decode cX0_init 0 = .ok (.aload_n 0, 1) := by decide +kernel
theorem dX0_init_1 : decode cX0_init 1 = .ok (.invokespecial 3, 3) := by decide +kernel
theorem dX0_init_11 : decode cX0_init 11 = .ok (.aload_n 0, 1) := by decide +kernel
theorem dX0_init_12 : decode cX0_init 12 = .ok (.iconst 4, 1) := by decide +kernel
theorem dX0_init_13 : decode cX0_init 13 = .ok (.newarray .int, 2) := by decide +kernel
theorem dX0_init_15 : decode cX0_init 15 = .ok (.putfield 15, 3) := by decide +kernel
theorem dX0_init_18 : decode cX0_init 18 = .ok (.aload_n 0, 1) := by decide +kernel
theorem dX0_init_19 : decode cX0_init 19 = .ok (.iconst 4, 1) := by decide +kernel
theorem dX0_init_20 : decode cX0_init 20 = .ok (.newarray .int, 2) := by decide +kernel
theorem dX0_init_22 : decode cX0_init 22 = .ok (.putfield 18, 3) := by decide +kernel
theorem dX0_init_25 : decode cX0_init 25 = .ok (.aload_n 0, 1) := by decide +kernel
theorem dX0_init_26 : decode cX0_init 26 = .ok (.aload_n 1, 1) := by decide +kernel
theorem dX0_init_27 : decode cX0_init 27 = .ok (.putfield 21, 3) := by decide +kernel
theorem dX0_init_30 : decode cX0_init 30 = .ok (.aload_n 0, 1) := by decide +kernel
theorem dX0_init_31 : decode cX0_init 31 = .ok (.aload_n 2, 1) := by decide +kernel
theorem dX0_init_32 : decode cX0_init 32 = .ok (.putfield 25, 3) := by decide +kernel
theorem dX0_init_35 : decode cX0_init 35 = .ok (.return_, 1) := by decide +kernel
theorem dX0_init_4 : decode cX0_init 4 = .ok (.aload_n 0, 1) := by decide +kernel
theorem dX0_init_5 : decode cX0_init 5 = .ok (.iconst 4, 1) := by decide +kernel
theorem dX0_init_6 : decode cX0_init 6 = .ok (.newarray .int, 2) := by decide +kernel
theorem dX0_init_8 : decode cX0_init 8 = .ok (.putfield 9, 3) := by decide +kernel
theorem dX1_init_0 : decode cX1_init 0 = .ok (.aload_n 0, 1) := by decide +kernel
theorem dX1_init_1 : decode cX1_init 1 = .ok (.invokespecial 3, 3) := by decide +kernel
theorem dX1_init_11 : decode cX1_init 11 = .ok (.putfield 11, 3) := by decide +kernel
theorem dX1_init_14 : decode cX1_init 14 = .ok (.aload_n 0, 1) := by decide +kernel
theorem dX1_init_15 : decode cX1_init 15 = .ok (.iconst 4, 1) := by decide +kernel
theorem dX1_init_16 : decode cX1_init 16 = .ok (.newarray .long, 2) := by decide +kernel
theorem dX1_init_18 : decode cX1_init 18 = .ok (.putfield 16, 3) := by decide +kernel
theorem dX1_init_21 : decode cX1_init 21 = .ok (.aload_n 0, 1) := by decide +kernel
theorem dX1_init_22 : decode cX1_init 22 = .ok (.iconst 4, 1) := by decide +kernel
theorem dX1_init_23 : decode cX1_init 23 = .ok (.newarray .int, 2) := by decide +kernel
theorem dX1_init_25 : decode cX1_init 25 = .ok (.putfield 20, 3) := by decide +kernel
theorem dX1_init_28 : decode cX1_init 28 = .ok (.return_, 1) := by decide +kernel
theorem dX1_init_4 : decode cX1_init 4 = .ok (.aload_n 0, 1) := by decide +kernel
theorem dX1_init_5 : decode cX1_init 5 = .ok (.iconst 4, 1) := by decide +kernel
theorem dX1_init_6 : decode cX1_init 6 = .ok (.iconst 4, 1) := by decide +kernel
theorem dX1_init_7 : decode cX1_init 7 = .ok (.multianewarray 9 2, 4) := by decide +kernel
theorem dX2_init_0 : decode cX2_init 0 = .ok (.aload_n 0, 1) := by decide +kernel
theorem dX2_init_1 : decode cX2_init 1 = .ok (.invokespecial 3, 3) := by decide +kernel
theorem dX2_init_12 : decode cX2_init 12 = .ok (.putfield 12, 3) := by decide +kernel
theorem dX2_init_15 : decode cX2_init 15 = .ok (.aload_n 0, 1) := by decide +kernel
theorem dX2_init_16 : decode cX2_init 16 = .ok (.new 18, 3) := by decide +kernel
theorem dX2_init_19 : decode cX2_init 19 = .ok (.dup, 1) := by decide +kernel
theorem dX2_init_20 : decode cX2_init 20 = .ok (.invokespecial 20, 3) := by decide +kernel
theorem dX2_init_23 : decode cX2_init 23 = .ok (.putfield 21, 3) := by decide +kernel
theorem dX2_init_26 : decode cX2_init 26 = .ok (.aload_n 0, 1) := by decide +kernel
theorem dX2_init_27 : decode cX2_init 27 = .ok (.new 25, 3) := by decide +kernel
theorem dX2_init_30 : decode cX2_init 30 = .ok (.dup, 1) := by decide +kernel
theorem dX2_init_31 : decode cX2_init 31 = .ok (.invokespecial 27, 3) := by decide +kernel
theorem dX2_init_34 : decode cX2_init 34 = .ok (.putfield 28, 3) := by decide +kernel
theorem dX2_init_37 : decode cX2_init 37 = .ok (.aload_n 0, 1) := by decide +kernel
theorem dX2_init_38 : decode cX2_init 38 = .ok (.iconst 1, 1) := by decide +kernel
theorem dX2_init_39 : decode cX2_init 39 = .ok (.putfield 32, 3) := by decide +kernel
theorem dX2_init_4 : decode cX2_init 4 = .ok (.aload_n 0, 1) := by decide +kernel
theorem dX2_init_42 : decode cX2_init 42 = .ok (.aload_n 0, 1) := by decide +kernel
theorem dX2_init_43 : decode cX2_init 43 = .ok (.aload_n 1, 1) := by decide +kernel
theorem dX2_init_44 : decode cX2_init 44 = .ok (.putfield 36, 3) := by decide +kernel
theorem dX2_init_47 : decode cX2_init 47 = .ok (.aload_n 0, 1) := by decide +kernel
theorem dX2_init_48 : decode cX2_init 48 = .ok (.new 40, 3) := by decide +kernel
theorem dX2_init_5 : decode cX2_init 5 = .ok (.new 9, 3) := by decide +kernel
theorem dX2_init_51 : decode cX2_init 51 = .ok (.dup, 1) := by decide +kernel
theorem dX2_init_52 : decode cX2_init 52 = .ok (.aload_n 1, 1) := by decide +kernel
theorem dX2_init_53 : decode cX2_init 53 = .ok (.aload_n 0, 1) := by decide +kernel
theorem dX2_init_54 : decode cX2_init 54 = .ok (.getfield 12, 3) := by decide +kernel
theorem dX2_init_57 : decode cX2_init 57 = .ok (.invokespecial 42, 3) := by decide +kernel
theorem dX2_init_60 : decode cX2_init 60 = .ok (.putfield 45, 3) := by decide +kernel
theorem dX2_init_63 : decode cX2_init 63 = .ok (.return_, 1) := by decide +kernel
theorem dX2_init_8 : decode cX2_init 8 = .ok (.dup, 1) := by decide +kernel
theorem dX2_init_9 : decode cX2_init 9 = .ok (.invokespecial 11, 3) := by decide +kernel
theorem dX3_addEquation_0 : decode cX3_addEquation 0 = .ok (.aload_n 0, 1) := by decide +kernel
theorem dX3_addEquation_1 : decode cX3_addEquation 1 = .ok (.getfield 40, 3) := by decide +kernel
theorem dX3_addEquation_10 : decode cX3_addEquation 10 = .ok (.aaload, 1) := by decide +kernel
theorem dX3_addEquation_11 : decode cX3_addEquation 11 = .ok (.iconst 0, 1) := by decide +kernel
theorem dX3_addEquation_12 : decode cX3_addEquation 12 = .ok (.invokestatic 43, 3) := by decide +kernel
theorem dX3_addEquation_15 : decode cX3_addEquation 15 = .ok (.aload_n 0, 1) := by decide +kernel
theorem dX3_addEquation_16 : decode cX3_addEquation 16 = .ok (.getfield 16, 3) := by decide +kernel
theorem dX3_addEquation_19 : decode cX3_addEquation 19 = .ok (.iload_n 1, 1) := by decide +kernel
theorem dX3_addEquation_20 : decode cX3_addEquation 20 = .ok (.iconst 0, 1) := by decide +kernel
theorem dX3_addEquation_21 : decode cX3_addEquation 21 = .ok (.iastore, 1) := by decide +kernel
theorem dX3_addEquation_22 : decode cX3_addEquation 22 = .ok (.aload_n 0, 1) := by decide +kernel
theorem dX3_addEquation_23 : decode cX3_addEquation 23 = .ok (.dup, 1) := by decide +kernel
theorem dX3_addEquation_24 : decode cX3_addEquation 24 = .ok (.getfield 40, 3) := by decide +kernel
theorem dX3_addEquation_27 : decode cX3_addEquation 27 = .ok (.iconst 1, 1) := by decide +kernel
theorem dX3_addEquation_28 : decode cX3_addEquation 28 = .ok (.iadd, 1) := by decide +kernel
theorem dX3_addEquation_29 : decode cX3_addEquation 29 = .ok (.putfield 40, 3) := by decide +kernel
theorem dX3_addEquation_32 : decode cX3_addEquation 32 = .ok (.iload_n 1, 1) := by decide +kernel
theorem dX3_addEquation_33 : decode cX3_addEquation 33 = .ok (.ireturn, 1) := by decide +kernel
theorem dX3_addEquation_4 : decode cX3_addEquation 4 = .ok (.istore_n 1, 1) := by decide +kernel
theorem dX3_addEquation_5 : decode cX3_addEquation 5 = .ok (.aload_n 0, 1) := by decide +kernel
theorem dX3_addEquation_6 : decode cX3_addEquation 6 = .ok (.getfield 11, 3) := by decide +kernel
theorem dX3_addEquation_9 : decode cX3_addEquation 9 = .ok (.iload_n 1, 1) := by decide +kernel
theorem dX3_begin_0 : decode cX3_begin 0 = .ok (.aload_n 0, 1) := by decide +kernel
theorem dX3_begin_1 : decode cX3_begin 1 = .ok (.iload_n 1, 1) := by decide +kernel
theorem dX3_begin_10 : decode cX3_begin 10 = .ok (.aload_n 0, 1) := by decide +kernel
theorem dX3_begin_11 : decode cX3_begin 11 = .ok (.getfield 20, 3) := by decide +kernel
theorem dX3_begin_14 : decode cX3_begin 14 = .ok (.iconst 0, 1) := by decide +kernel
theorem dX3_begin_15 : decode cX3_begin 15 = .ok (.invokestatic 43, 3) := by decide +kernel
theorem dX3_begin_18 : decode cX3_begin 18 = .ok (.aload_n 0, 1) := by decide +kernel
theorem dX3_begin_19 : decode cX3_begin 19 = .ok (.getfield 23, 3) := by decide +kernel
theorem dX3_begin_2 : decode cX3_begin 2 = .ok (.putfield 36, 3) := by decide +kernel
theorem dX3_begin_22 : decode cX3_begin 22 = .ok (.bipush 10, 2) := by decide +kernel
theorem dX3_begin_24 : decode cX3_begin 24 = .ok (.invokestatic 43, 3) := by decide +kernel
theorem dX3_begin_27 : decode cX3_begin 27 = .ok (.aload_n 0, 1) := by decide +kernel
theorem dX3_begin_28 : decode cX3_begin 28 = .ok (.getfield 26, 3) := by decide +kernel
theorem dX3_begin_31 : decode cX3_begin 31 = .ok (.iconst 0, 1) := by decide +kernel
theorem dX3_begin_32 : decode cX3_begin 32 = .ok (.invokestatic 43, 3) := by decide +kernel
theorem dX3_begin_35 : decode cX3_begin 35 = .ok (.aload_n 0, 1) := by decide +kernel
theorem dX3_begin_36 : decode cX3_begin 36 = .ok (.getfield 29, 3) := by decide +kernel
theorem dX3_begin_39 : decode cX3_begin 39 = .ok (.iconst 0, 1) := by decide +kernel
theorem dX3_begin_40 : decode cX3_begin 40 = .ok (.invokestatic 43, 3) := by decide +kernel
theorem dX3_begin_43 : decode cX3_begin 43 = .ok (.return_, 1) := by decide +kernel
theorem dX3_begin_5 : decode cX3_begin 5 = .ok (.aload_n 0, 1) := by decide +kernel
theorem dX3_begin_6 : decode cX3_begin 6 = .ok (.iconst 0, 1) := by decide +kernel
theorem dX3_begin_7 : decode cX3_begin 7 = .ok (.putfield 40, 3) := by decide +kernel
theorem dX3_costOfNumber_0 : decode cX3_costOfNumber 0 = .ok (.aload_n 0, 1) := by decide +kernel
theorem dX3_costOfNumber_1 : decode cX3_costOfNumber 1 = .ok (.getfield 29, 3) := by decide +kernel
theorem dX3_costOfNumber_10 : decode cX3_costOfNumber 10 = .ok (.aload_n 0, 1) := by decide +kernel
theorem dX3_costOfNumber_11 : decode cX3_costOfNumber 11 = .ok (.getfield 26, 3) := by decide +kernel
theorem dX3_costOfNumber_14 : decode cX3_costOfNumber 14 = .ok (.iload_n 1, 1) := by decide +kernel
theorem dX3_costOfNumber_15 : decode cX3_costOfNumber 15 = .ok (.iaload, 1) := by decide +kernel
theorem dX3_costOfNumber_16 : decode cX3_costOfNumber 16 = .ok (.i2l, 1) := by decide +kernel
theorem dX3_costOfNumber_17 : decode cX3_costOfNumber 17 = .ok (.ladd, 1) := by decide +kernel
theorem dX3_costOfNumber_18 : decode cX3_costOfNumber 18 = .ok (.iload_n 2, 1) := by decide +kernel
theorem dX3_costOfNumber_19 : decode cX3_costOfNumber 19 = .ok (.i2l, 1) := by decide +kernel
theorem dX3_costOfNumber_20 : decode cX3_costOfNumber 20 = .ok (.lmul, 1) := by decide +kernel
theorem dX3_costOfNumber_21 : decode cX3_costOfNumber 21 = .ok (.lreturn, 1) := by decide +kernel
theorem dX3_costOfNumber_4 : decode cX3_costOfNumber 4 = .ok (.iload_n 1, 1) := by decide +kernel
theorem dX3_costOfNumber_5 : decode cX3_costOfNumber 5 = .ok (.iaload, 1) := by decide +kernel
theorem dX3_costOfNumber_6 : decode cX3_costOfNumber 6 = .ok (.i2l, 1) := by decide +kernel
theorem dX3_costOfNumber_7 : decode cX3_costOfNumber 7 = .ok (.iload_n 2, 1) := by decide +kernel
theorem dX3_costOfNumber_8 : decode cX3_costOfNumber 8 = .ok (.i2l, 1) := by decide +kernel
theorem dX3_costOfNumber_9 : decode cX3_costOfNumber 9 = .ok (.lmul, 1) := by decide +kernel
theorem dX3_costOf_0 : decode cX3_costOf 0 = .ok (.lconst 0, 1) := by decide +kernel
theorem dX3_costOf_1 : decode cX3_costOf 1 = .ok (.lstore_n 2, 1) := by decide +kernel
theorem dX3_costOf_11 : decode cX3_costOf 11 = .ok (.if_icmp .ge 22, 3) := by decide +kernel
theorem dX3_costOf_14 : decode cX3_costOf 14 = .ok (.lload_n 2, 1) := by decide +kernel
theorem dX3_costOf_15 : decode cX3_costOf 15 = .ok (.aload_n 0, 1) := by decide +kernel
theorem dX3_costOf_16 : decode cX3_costOf 16 = .ok (.iload 4, 2) := by decide +kernel
theorem dX3_costOf_18 : decode cX3_costOf 18 = .ok (.aload_n 1, 1) := by decide +kernel
theorem dX3_costOf_19 : decode cX3_costOf 19 = .ok (.iload 4, 2) := by decide +kernel
theorem dX3_costOf_2 : decode cX3_costOf 2 = .ok (.iconst 0, 1) := by decide +kernel
theorem dX3_costOf_21 : decode cX3_costOf 21 = .ok (.iaload, 1) := by decide +kernel
theorem dX3_costOf_22 : decode cX3_costOf 22 = .ok (.invokevirtual 53, 3) := by decide +kernel
theorem dX3_costOf_25 : decode cX3_costOf 25 = .ok (.ladd, 1) := by decide +kernel
theorem dX3_costOf_26 : decode cX3_costOf 26 = .ok (.lstore_n 2, 1) := by decide +kernel
theorem dX3_costOf_27 : decode cX3_costOf 27 = .ok (.iinc 4 1, 3) := by decide +kernel
theorem dX3_costOf_3 : decode cX3_costOf 3 = .ok (.istore 4, 2) := by decide +kernel
theorem dX3_costOf_30 : decode cX3_costOf 30 = .ok (.goto (-25), 3) := by decide +kernel
theorem dX3_costOf_33 : decode cX3_costOf 33 = .ok (.lload_n 2, 1) := by decide +kernel
theorem dX3_costOf_34 : decode cX3_costOf 34 = .ok (.lreturn, 1) := by decide +kernel
theorem dX3_costOf_5 : decode cX3_costOf 5 = .ok (.iload 4, 2) := by decide +kernel
theorem dX3_costOf_7 : decode cX3_costOf 7 = .ok (.aload_n 0, 1) := by decide +kernel
theorem dX3_costOf_8 : decode cX3_costOf 8 = .ok (.getfield 36, 3) := by decide +kernel
theorem dX3_init_0 : decode cX3_init 0 = .ok (.aload_n 0, 1) := by decide +kernel
theorem dX3_init_1 : decode cX3_init 1 = .ok (.invokespecial 3, 3) := by decide +kernel
theorem dX3_init_11 : decode cX3_init 11 = .ok (.putfield 11, 3) := by decide +kernel
theorem dX3_init_14 : decode cX3_init 14 = .ok (.aload_n 0, 1) := by decide +kernel
theorem dX3_init_15 : decode cX3_init 15 = .ok (.iconst 3, 1) := by decide +kernel
theorem dX3_init_16 : decode cX3_init 16 = .ok (.newarray .int, 2) := by decide +kernel
theorem dX3_init_18 : decode cX3_init 18 = .ok (.putfield 16, 3) := by decide +kernel
theorem dX3_init_21 : decode cX3_init 21 = .ok (.aload_n 0, 1) := by decide +kernel
theorem dX3_init_22 : decode cX3_init 22 = .ok (.iconst 4, 1) := by decide +kernel
theorem dX3_init_23 : decode cX3_init 23 = .ok (.newarray .int, 2) := by decide +kernel
theorem dX3_init_25 : decode cX3_init 25 = .ok (.putfield 20, 3) := by decide +kernel
theorem dX3_init_28 : decode cX3_init 28 = .ok (.aload_n 0, 1) := by decide +kernel
theorem dX3_init_29 : decode cX3_init 29 = .ok (.iconst 4, 1) := by decide +kernel
theorem dX3_init_30 : decode cX3_init 30 = .ok (.newarray .int, 2) := by decide +kernel
theorem dX3_init_32 : decode cX3_init 32 = .ok (.putfield 23, 3) := by decide +kernel
theorem dX3_init_35 : decode cX3_init 35 = .ok (.aload_n 0, 1) := by decide +kernel
theorem dX3_init_36 : decode cX3_init 36 = .ok (.iconst 4, 1) := by decide +kernel
theorem dX3_init_37 : decode cX3_init 37 = .ok (.newarray .int, 2) := by decide +kernel
theorem dX3_init_39 : decode cX3_init 39 = .ok (.putfield 26, 3) := by decide +kernel
theorem dX3_init_4 : decode cX3_init 4 = .ok (.aload_n 0, 1) := by decide +kernel
theorem dX3_init_42 : decode cX3_init 42 = .ok (.aload_n 0, 1) := by decide +kernel
theorem dX3_init_43 : decode cX3_init 43 = .ok (.iconst 4, 1) := by decide +kernel
theorem dX3_init_44 : decode cX3_init 44 = .ok (.newarray .int, 2) := by decide +kernel
theorem dX3_init_46 : decode cX3_init 46 = .ok (.putfield 29, 3) := by decide +kernel
theorem dX3_init_49 : decode cX3_init 49 = .ok (.aload_n 0, 1) := by decide +kernel
theorem dX3_init_5 : decode cX3_init 5 = .ok (.iconst 3, 1) := by decide +kernel
theorem dX3_init_50 : decode cX3_init 50 = .ok (.iconst 1, 1) := by decide +kernel
theorem dX3_init_51 : decode cX3_init 51 = .ok (.invokevirtual 32, 3) := by decide +kernel
theorem dX3_init_54 : decode cX3_init 54 = .ok (.return_, 1) := by decide +kernel
theorem dX3_init_6 : decode cX3_init 6 = .ok (.iconst 4, 1) := by decide +kernel
theorem dX3_init_7 : decode cX3_init 7 = .ok (.multianewarray 9 2, 4) := by decide +kernel
theorem dX3_isPlan_0 : decode cX3_isPlan 0 = .ok (.iconst 0, 1) := by decide +kernel
theorem dX3_isPlan_1 : decode cX3_isPlan 1 = .ok (.istore_n 2, 1) := by decide +kernel
theorem dX3_isPlan_10 : decode cX3_isPlan 10 = .ok (.aload_n 1, 1) := by decide +kernel
theorem dX3_isPlan_11 : decode cX3_isPlan 11 = .ok (.iload_n 2, 1) := by decide +kernel
theorem dX3_isPlan_12 : decode cX3_isPlan 12 = .ok (.iaload, 1) := by decide +kernel
theorem dX3_isPlan_13 : decode cX3_isPlan 13 = .ok (.aload_n 0, 1) := by decide +kernel
theorem dX3_isPlan_14 : decode cX3_isPlan 14 = .ok (.getfield 20, 3) := by decide +kernel
theorem dX3_isPlan_17 : decode cX3_isPlan 17 = .ok (.iload_n 2, 1) := by decide +kernel
theorem dX3_isPlan_18 : decode cX3_isPlan 18 = .ok (.iaload, 1) := by decide +kernel
theorem dX3_isPlan_19 : decode cX3_isPlan 19 = .ok (.if_icmp .lt 15, 3) := by decide +kernel
theorem dX3_isPlan_2 : decode cX3_isPlan 2 = .ok (.iload_n 2, 1) := by decide +kernel
theorem dX3_isPlan_22 : decode cX3_isPlan 22 = .ok (.aload_n 1, 1) := by decide +kernel
theorem dX3_isPlan_23 : decode cX3_isPlan 23 = .ok (.iload_n 2, 1) := by decide +kernel
theorem dX3_isPlan_24 : decode cX3_isPlan 24 = .ok (.iaload, 1) := by decide +kernel
theorem dX3_isPlan_25 : decode cX3_isPlan 25 = .ok (.aload_n 0, 1) := by decide +kernel
theorem dX3_isPlan_26 : decode cX3_isPlan 26 = .ok (.getfield 23, 3) := by decide +kernel
theorem dX3_isPlan_29 : decode cX3_isPlan 29 = .ok (.iload_n 2, 1) := by decide +kernel
theorem dX3_isPlan_3 : decode cX3_isPlan 3 = .ok (.aload_n 0, 1) := by decide +kernel
theorem dX3_isPlan_30 : decode cX3_isPlan 30 = .ok (.iaload, 1) := by decide +kernel
theorem dX3_isPlan_31 : decode cX3_isPlan 31 = .ok (.if_icmp .le 5, 3) := by decide +kernel
theorem dX3_isPlan_36 : decode cX3_isPlan 36 = .ok (.iinc 2 1, 3) := by decide +kernel
theorem dX3_isPlan_39 : decode cX3_isPlan 39 = .ok (.goto (-37), 3) := by decide +kernel
theorem dX3_isPlan_4 : decode cX3_isPlan 4 = .ok (.getfield 36, 3) := by decide +kernel
theorem dX3_isPlan_42 : decode cX3_isPlan 42 = .ok (.iconst 0, 1) := by decide +kernel
theorem dX3_isPlan_43 : decode cX3_isPlan 43 = .ok (.istore_n 2, 1) := by decide +kernel
theorem dX3_isPlan_44 : decode cX3_isPlan 44 = .ok (.iload_n 2, 1) := by decide +kernel
theorem dX3_isPlan_45 : decode cX3_isPlan 45 = .ok (.aload_n 0, 1) := by decide +kernel
theorem dX3_isPlan_46 : decode cX3_isPlan 46 = .ok (.getfield 40, 3) := by decide +kernel
theorem dX3_isPlan_49 : decode cX3_isPlan 49 = .ok (.if_icmp .ge 26, 3) := by decide +kernel
theorem dX3_isPlan_7 : decode cX3_isPlan 7 = .ok (.if_icmp .ge 35, 3) := by decide +kernel
theorem dX3_isPlan_75 : decode cX3_isPlan 75 = .ok (.iconst 1, 1) := by decide +kernel
theorem dX3_isPlan_76 : decode cX3_isPlan 76 = .ok (.ireturn, 1) := by decide +kernel
theorem dX3_isStep_0 : decode cX3_isStep 0 = .ok (.iconst 0, 1) := by decide +kernel
theorem dX3_isStep_1 : decode cX3_isStep 1 = .ok (.istore_n 2, 1) := by decide +kernel
theorem dX3_isStep_12 : decode cX3_isStep 12 = .ok (.iload_n 2, 1) := by decide +kernel
theorem dX3_isStep_13 : decode cX3_isStep 13 = .ok (.ifCond .ne 9, 3) := by decide +kernel
theorem dX3_isStep_16 : decode cX3_isStep 16 = .ok (.aload_n 1, 1) := by decide +kernel
theorem dX3_isStep_17 : decode cX3_isStep 17 = .ok (.iload_n 3, 1) := by decide +kernel
theorem dX3_isStep_18 : decode cX3_isStep 18 = .ok (.iaload, 1) := by decide +kernel
theorem dX3_isStep_19 : decode cX3_isStep 19 = .ok (.ifCond .eq 7, 3) := by decide +kernel
theorem dX3_isStep_2 : decode cX3_isStep 2 = .ok (.iconst 0, 1) := by decide +kernel
theorem dX3_isStep_26 : decode cX3_isStep 26 = .ok (.iconst 0, 1) := by decide +kernel
theorem dX3_isStep_27 : decode cX3_isStep 27 = .ok (.istore_n 2, 1) := by decide +kernel
theorem dX3_isStep_28 : decode cX3_isStep 28 = .ok (.iinc 3 1, 3) := by decide +kernel
theorem dX3_isStep_3 : decode cX3_isStep 3 = .ok (.istore_n 3, 1) := by decide +kernel
theorem dX3_isStep_31 : decode cX3_isStep 31 = .ok (.goto (-27), 3) := by decide +kernel
theorem dX3_isStep_34 : decode cX3_isStep 34 = .ok (.iconst 0, 1) := by decide +kernel
theorem dX3_isStep_35 : decode cX3_isStep 35 = .ok (.istore_n 3, 1) := by decide +kernel
theorem dX3_isStep_36 : decode cX3_isStep 36 = .ok (.iload_n 3, 1) := by decide +kernel
theorem dX3_isStep_37 : decode cX3_isStep 37 = .ok (.aload_n 0, 1) := by decide +kernel
theorem dX3_isStep_38 : decode cX3_isStep 38 = .ok (.getfield 40, 3) := by decide +kernel
theorem dX3_isStep_4 : decode cX3_isStep 4 = .ok (.iload_n 3, 1) := by decide +kernel
theorem dX3_isStep_41 : decode cX3_isStep 41 = .ok (.if_icmp .ge 20, 3) := by decide +kernel
theorem dX3_isStep_5 : decode cX3_isStep 5 = .ok (.aload_n 0, 1) := by decide +kernel
theorem dX3_isStep_6 : decode cX3_isStep 6 = .ok (.getfield 36, 3) := by decide +kernel
theorem dX3_isStep_61 : decode cX3_isStep 61 = .ok (.iload_n 2, 1) := by decide +kernel
theorem dX3_isStep_62 : decode cX3_isStep 62 = .ok (.ireturn, 1) := by decide +kernel
theorem dX3_isStep_9 : decode cX3_isStep 9 = .ok (.if_icmp .ge 25, 3) := by decide +kernel
theorem dX4_init_0 : decode cX4_init 0 = .ok (.aload_n 0, 1) := by decide +kernel
theorem dX4_init_1 : decode cX4_init 1 = .ok (.invokespecial 5, 3) := by decide +kernel
theorem dX4_init_10 : decode cX4_init 10 = .ok (.putfield 11, 3) := by decide +kernel
theorem dX4_init_13 : decode cX4_init 13 = .ok (.aload_n 0, 1) := by decide +kernel
theorem dX4_init_14 : decode cX4_init 14 = .ok (.iconst 4, 1) := by decide +kernel
theorem dX4_init_15 : decode cX4_init 15 = .ok (.newarray .int, 2) := by decide +kernel
theorem dX4_init_17 : decode cX4_init 17 = .ok (.putfield 15, 3) := by decide +kernel
theorem dX4_init_20 : decode cX4_init 20 = .ok (.aload_n 0, 1) := by decide +kernel
theorem dX4_init_21 : decode cX4_init 21 = .ok (.iconst 4, 1) := by decide +kernel
theorem dX4_init_22 : decode cX4_init 22 = .ok (.newarray .int, 2) := by decide +kernel
theorem dX4_init_24 : decode cX4_init 24 = .ok (.putfield 18, 3) := by decide +kernel
theorem dX4_init_27 : decode cX4_init 27 = .ok (.aload_n 0, 1) := by decide +kernel
theorem dX4_init_28 : decode cX4_init 28 = .ok (.iconst 4, 1) := by decide +kernel
theorem dX4_init_29 : decode cX4_init 29 = .ok (.newarray .int, 2) := by decide +kernel
theorem dX4_init_31 : decode cX4_init 31 = .ok (.putfield 21, 3) := by decide +kernel
theorem dX4_init_34 : decode cX4_init 34 = .ok (.aload_n 0, 1) := by decide +kernel
theorem dX4_init_35 : decode cX4_init 35 = .ok (.iconst 5, 1) := by decide +kernel
theorem dX4_init_36 : decode cX4_init 36 = .ok (.iconst 3, 1) := by decide +kernel
theorem dX4_init_37 : decode cX4_init 37 = .ok (.multianewarray 24 2, 4) := by decide +kernel
theorem dX4_init_4 : decode cX4_init 4 = .ok (.aload_n 0, 1) := by decide +kernel
theorem dX4_init_41 : decode cX4_init 41 = .ok (.putfield 26, 3) := by decide +kernel
theorem dX4_init_44 : decode cX4_init 44 = .ok (.aload_n 0, 1) := by decide +kernel
theorem dX4_init_45 : decode cX4_init 45 = .ok (.iconst 5, 1) := by decide +kernel
theorem dX4_init_46 : decode cX4_init 46 = .ok (.iconst 3, 1) := by decide +kernel
theorem dX4_init_47 : decode cX4_init 47 = .ok (.multianewarray 24 2, 4) := by decide +kernel
theorem dX4_init_5 : decode cX4_init 5 = .ok (.sipush 9261, 3) := by decide +kernel
theorem dX4_init_51 : decode cX4_init 51 = .ok (.putfield 29, 3) := by decide +kernel
theorem dX4_init_54 : decode cX4_init 54 = .ok (.aload_n 0, 1) := by decide +kernel
theorem dX4_init_55 : decode cX4_init 55 = .ok (.iconst 5, 1) := by decide +kernel
theorem dX4_init_56 : decode cX4_init 56 = .ok (.iconst 3, 1) := by decide +kernel
theorem dX4_init_57 : decode cX4_init 57 = .ok (.multianewarray 24 2, 4) := by decide +kernel
theorem dX4_init_61 : decode cX4_init 61 = .ok (.putfield 32, 3) := by decide +kernel
theorem dX4_init_64 : decode cX4_init 64 = .ok (.aload_n 0, 1) := by decide +kernel
theorem dX4_init_65 : decode cX4_init 65 = .ok (.iconst 1, 1) := by decide +kernel
theorem dX4_init_66 : decode cX4_init 66 = .ok (.putfield 35, 3) := by decide +kernel
theorem dX4_init_69 : decode cX4_init 69 = .ok (.aload_n 0, 1) := by decide +kernel
theorem dX4_init_70 : decode cX4_init 70 = .ok (.aload_n 1, 1) := by decide +kernel
theorem dX4_init_71 : decode cX4_init 71 = .ok (.putfield 39, 3) := by decide +kernel
theorem dX4_init_74 : decode cX4_init 74 = .ok (.return_, 1) := by decide +kernel
theorem dX4_init_8 : decode cX4_init 8 = .ok (.newarray .int, 2) := by decide +kernel
theorem dX5_init_0 : decode cX5_init 0 = .ok (.aload_n 0, 1) := by decide +kernel
theorem dX5_init_1 : decode cX5_init 1 = .ok (.invokespecial 3, 3) := by decide +kernel
theorem dX5_init_10 : decode cX5_init 10 = .ok (.putfield 11, 3) := by decide +kernel
theorem dX5_init_13 : decode cX5_init 13 = .ok (.aload_n 0, 1) := by decide +kernel
theorem dX5_init_14 : decode cX5_init 14 = .ok (.sipush 512, 3) := by decide +kernel
theorem dX5_init_17 : decode cX5_init 17 = .ok (.newarray .int, 2) := by decide +kernel
theorem dX5_init_19 : decode cX5_init 19 = .ok (.putfield 15, 3) := by decide +kernel
theorem dX5_init_22 : decode cX5_init 22 = .ok (.return_, 1) := by decide +kernel
theorem dX5_init_4 : decode cX5_init 4 = .ok (.aload_n 0, 1) := by decide +kernel
theorem dX5_init_5 : decode cX5_init 5 = .ok (.sipush 512, 3) := by decide +kernel
theorem dX5_init_8 : decode cX5_init 8 = .ok (.newarray .int, 2) := by decide +kernel
theorem dX6_init_0 : decode cX6_init 0 = .ok (.aload_n 0, 1) := by decide +kernel
theorem dX6_init_1 : decode cX6_init 1 = .ok (.invokespecial 1, 3) := by decide +kernel
theorem dX6_init_12 : decode cX6_init 12 = .ok (.putfield 11, 3) := by decide +kernel
theorem dX6_init_15 : decode cX6_init 15 = .ok (.aload_n 0, 1) := by decide +kernel
theorem dX6_init_16 : decode cX6_init 16 = .ok (.iconst 4, 1) := by decide +kernel
theorem dX6_init_17 : decode cX6_init 17 = .ok (.newarray .int, 2) := by decide +kernel
theorem dX6_init_19 : decode cX6_init 19 = .ok (.putfield 14, 3) := by decide +kernel
theorem dX6_init_22 : decode cX6_init 22 = .ok (.aload_n 0, 1) := by decide +kernel
theorem dX6_init_23 : decode cX6_init 23 = .ok (.iconst 4, 1) := by decide +kernel
theorem dX6_init_24 : decode cX6_init 24 = .ok (.newarray .int, 2) := by decide +kernel
theorem dX6_init_26 : decode cX6_init 26 = .ok (.putfield 18, 3) := by decide +kernel
theorem dX6_init_29 : decode cX6_init 29 = .ok (.aload_n 0, 1) := by decide +kernel
theorem dX6_init_30 : decode cX6_init 30 = .ok (.getfield 18, 3) := by decide +kernel
theorem dX6_init_33 : decode cX6_init 33 = .ok (.iconst (-1), 1) := by decide +kernel
theorem dX6_init_34 : decode cX6_init 34 = .ok (.invokestatic 21, 3) := by decide +kernel
theorem dX6_init_37 : decode cX6_init 37 = .ok (.return_, 1) := by decide +kernel
theorem dX6_init_4 : decode cX6_init 4 = .ok (.aload_n 0, 1) := by decide +kernel
theorem dX6_init_5 : decode cX6_init 5 = .ok (.iconst 4, 1) := by decide +kernel
theorem dX6_init_6 : decode cX6_init 6 = .ok (.bipush 20, 2) := by decide +kernel
theorem dX6_init_8 : decode cX6_init 8 = .ok (.multianewarray 9 2, 4) := by decide +kernel
theorem dX7_init_0 : decode cX7_init 0 = .ok (.aload_n 0, 1) := by decide +kernel
theorem dX7_init_1 : decode cX7_init 1 = .ok (.invokespecial 5, 3) := by decide +kernel
theorem dX7_init_10 : decode cX7_init 10 = .ok (.putfield 11, 3) := by decide +kernel
theorem dX7_init_13 : decode cX7_init 13 = .ok (.return_, 1) := by decide +kernel
theorem dX7_init_4 : decode cX7_init 4 = .ok (.aload_n 0, 1) := by decide +kernel
theorem dX7_init_5 : decode cX7_init 5 = .ok (.sipush 256, 3) := by decide +kernel
theorem dX7_init_8 : decode cX7_init 8 = .ok (.newarray .long, 2) := by decide +kernel
theorem dX8_cost_0 : decode cX8_cost 0 = .ok (.aload_n 0, 1) := by decide +kernel
theorem dX8_cost_1 : decode cX8_cost 1 = .ok (.getfield 10, 3) := by decide +kernel
theorem dX8_cost_11 : decode cX8_cost 11 = .ok (.lreturn, 1) := by decide +kernel
theorem dX8_cost_4 : decode cX8_cost 4 = .ok (.aload_n 0, 1) := by decide +kernel
theorem dX8_cost_5 : decode cX8_cost 5 = .ok (.getfield 39, 3) := by decide +kernel
theorem dX8_cost_8 : decode cX8_cost 8 = .ok (.invokevirtual 187, 3) := by decide +kernel
theorem dX8_equation_0 : decode cX8_equation 0 = .ok (.aload_n 0, 1) := by decide +kernel
theorem dX8_equation_1 : decode cX8_equation 1 = .ok (.getfield 10, 3) := by decide +kernel
theorem dX8_equation_18 : decode cX8_equation 18 = .ok (.aload_n 0, 1) := by decide +kernel
theorem dX8_equation_19 : decode cX8_equation 19 = .ok (.invokevirtual 67, 3) := by decide +kernel
theorem dX8_equation_22 : decode cX8_equation 22 = .ok (.aload_n 0, 1) := by decide +kernel
theorem dX8_equation_23 : decode cX8_equation 23 = .ok (.getfield 10, 3) := by decide +kernel
theorem dX8_equation_26 : decode cX8_equation 26 = .ok (.invokevirtual 74, 3) := by decide +kernel
theorem dX8_equation_29 : decode cX8_equation 29 = .ok (.ireturn, 1) := by decide +kernel
theorem dX8_equation_4 : decode cX8_equation 4 = .ok (.getfield 70, 3) := by decide +kernel
theorem dX8_equation_7 : decode cX8_equation 7 = .ok (.iconst 3, 1) := by decide +kernel
theorem dX8_equation_8 : decode cX8_equation 8 = .ok (.if_icmp .lt 10, 3) := by decide +kernel
theorem dX8_equationsChanged_0 : decode cX8_equationsChanged 0 = .ok (.aload_n 0, 1) := by decide +kernel
theorem dX8_equationsChanged_1 : decode cX8_equationsChanged 1 = .ok (.getfield 21, 3) := by decide +kernel
theorem dX8_equationsChanged_12 : decode cX8_equationsChanged 12 = .ok (.iconst 1, 1) := by decide +kernel
theorem dX8_equationsChanged_13 : decode cX8_equationsChanged 13 = .ok (.putfield 96, 3) := by decide +kernel
theorem dX8_equationsChanged_16 : decode cX8_equationsChanged 16 = .ok (.return_, 1) := by decide +kernel
theorem dX8_equationsChanged_4 : decode cX8_equationsChanged 4 = .ok (.iconst 1, 1) := by decide +kernel
theorem dX8_equationsChanged_5 : decode cX8_equationsChanged 5 = .ok (.putfield 230, 3) := by decide +kernel
theorem dX8_equationsChanged_8 : decode cX8_equationsChanged 8 = .ok (.aload_n 0, 1) := by decide +kernel
theorem dX8_equationsChanged_9 : decode cX8_equationsChanged 9 = .ok (.getfield 28, 3) := by decide +kernel
theorem dX8_init_0 : decode cX8_init 0 = .ok (.aload_n 0, 1) := by decide +kernel
theorem dX8_init_1 : decode cX8_init 1 = .ok (.invokespecial 1, 3) := by decide +kernel
theorem dX8_init_12 : decode cX8_init 12 = .ok (.putfield 10, 3) := by decide +kernel
theorem dX8_init_15 : decode cX8_init 15 = .ok (.aload_n 0, 1) := by decide +kernel
theorem dX8_init_16 : decode cX8_init 16 = .ok (.new 16, 3) := by decide +kernel
theorem dX8_init_19 : decode cX8_init 19 = .ok (.dup, 1) := by decide +kernel
theorem dX8_init_20 : decode cX8_init 20 = .ok (.aload_n 0, 1) := by decide +kernel
theorem dX8_init_21 : decode cX8_init 21 = .ok (.getfield 10, 3) := by decide +kernel
theorem dX8_init_24 : decode cX8_init 24 = .ok (.invokespecial 18, 3) := by decide +kernel
theorem dX8_init_27 : decode cX8_init 27 = .ok (.putfield 21, 3) := by decide +kernel
theorem dX8_init_30 : decode cX8_init 30 = .ok (.aload_n 0, 1) := by decide +kernel
theorem dX8_init_31 : decode cX8_init 31 = .ok (.new 25, 3) := by decide +kernel
theorem dX8_init_34 : decode cX8_init 34 = .ok (.dup, 1) := by decide +kernel
theorem dX8_init_35 : decode cX8_init 35 = .ok (.aload_n 0, 1) := by decide +kernel
theorem dX8_init_36 : decode cX8_init 36 = .ok (.getfield 10, 3) := by decide +kernel
theorem dX8_init_39 : decode cX8_init 39 = .ok (.invokespecial 27, 3) := by decide +kernel
theorem dX8_init_4 : decode cX8_init 4 = .ok (.aload_n 0, 1) := by decide +kernel
theorem dX8_init_42 : decode cX8_init 42 = .ok (.putfield 28, 3) := by decide +kernel
theorem dX8_init_45 : decode cX8_init 45 = .ok (.aload_n 0, 1) := by decide +kernel
theorem dX8_init_46 : decode cX8_init 46 = .ok (.new 32, 3) := by decide +kernel
theorem dX8_init_49 : decode cX8_init 49 = .ok (.dup, 1) := by decide +kernel
theorem dX8_init_5 : decode cX8_init 5 = .ok (.new 7, 3) := by decide +kernel
theorem dX8_init_50 : decode cX8_init 50 = .ok (.invokespecial 34, 3) := by decide +kernel
theorem dX8_init_53 : decode cX8_init 53 = .ok (.putfield 35, 3) := by decide +kernel
theorem dX8_init_56 : decode cX8_init 56 = .ok (.aload_n 0, 1) := by decide +kernel
theorem dX8_init_57 : decode cX8_init 57 = .ok (.iconst 4, 1) := by decide +kernel
theorem dX8_init_58 : decode cX8_init 58 = .ok (.newarray .int, 2) := by decide +kernel
theorem dX8_init_60 : decode cX8_init 60 = .ok (.putfield 39, 3) := by decide +kernel
theorem dX8_init_63 : decode cX8_init 63 = .ok (.aload_n 0, 1) := by decide +kernel
theorem dX8_init_64 : decode cX8_init 64 = .ok (.iconst 4, 1) := by decide +kernel
theorem dX8_init_65 : decode cX8_init 65 = .ok (.newarray .int, 2) := by decide +kernel
theorem dX8_init_67 : decode cX8_init 67 = .ok (.putfield 43, 3) := by decide +kernel
theorem dX8_init_70 : decode cX8_init 70 = .ok (.aload_n 0, 1) := by decide +kernel
theorem dX8_init_71 : decode cX8_init 71 = .ok (.iconst 4, 1) := by decide +kernel
theorem dX8_init_72 : decode cX8_init 72 = .ok (.newarray .long, 2) := by decide +kernel
theorem dX8_init_74 : decode cX8_init 74 = .ok (.putfield 46, 3) := by decide +kernel
theorem dX8_init_77 : decode cX8_init 77 = .ok (.aload_n 0, 1) := by decide +kernel
theorem dX8_init_78 : decode cX8_init 78 = .ok (.bipush 8, 2) := by decide +kernel
theorem dX8_init_8 : decode cX8_init 8 = .ok (.dup, 1) := by decide +kernel
theorem dX8_init_80 : decode cX8_init 80 = .ok (.newarray .int, 2) := by decide +kernel
theorem dX8_init_82 : decode cX8_init 82 = .ok (.putfield 50, 3) := by decide +kernel
theorem dX8_init_85 : decode cX8_init 85 = .ok (.return_, 1) := by decide +kernel
theorem dX8_init_9 : decode cX8_init 9 = .ok (.invokespecial 9, 3) := by decide +kernel
theorem dX8_what_0 : decode cX8_what 0 = .ok (.aload_n 0, 1) := by decide +kernel
theorem dX8_what_1 : decode cX8_what 1 = .ok (.getfield 10, 3) := by decide +kernel
theorem dX8_what_11 : decode cX8_what 11 = .ok (.ifCond .eq 7, 3) := by decide +kernel
theorem dX8_what_18 : decode cX8_what 18 = .ok (.iconst 0, 1) := by decide +kernel
theorem dX8_what_19 : decode cX8_what 19 = .ok (.aload_n 0, 1) := by decide +kernel
theorem dX8_what_20 : decode cX8_what 20 = .ok (.getfield 10, 3) := by decide +kernel
theorem dX8_what_23 : decode cX8_what 23 = .ok (.aload_n 0, 1) := by decide +kernel
theorem dX8_what_24 : decode cX8_what 24 = .ok (.getfield 39, 3) := by decide +kernel
theorem dX8_what_27 : decode cX8_what 27 = .ok (.invokevirtual 173, 3) := by decide +kernel
theorem dX8_what_30 : decode cX8_what 30 = .ok (.ifCond .eq 7, 3) := by decide +kernel
theorem dX8_what_33 : decode cX8_what 33 = .ok (.iconst 2, 1) := by decide +kernel
theorem dX8_what_34 : decode cX8_what 34 = .ok (.goto 4, 3) := by decide +kernel
theorem dX8_what_38 : decode cX8_what 38 = .ok (.iadd, 1) := by decide +kernel
theorem dX8_what_39 : decode cX8_what 39 = .ok (.ireturn, 1) := by decide +kernel
theorem dX8_what_4 : decode cX8_what 4 = .ok (.aload_n 0, 1) := by decide +kernel
theorem dX8_what_5 : decode cX8_what 5 = .ok (.getfield 39, 3) := by decide +kernel
theorem dX8_what_8 : decode cX8_what 8 = .ok (.invokevirtual 170, 3) := by decide +kernel
