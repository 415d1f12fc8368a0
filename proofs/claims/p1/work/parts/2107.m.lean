set_option maxRecDepth 100000 in
set_option maxHeartbeats 4000000 in
theorem c490_X9_costOf (l : Launch) (dC : Nat → ClassId) (dI : Nat → Nat → Nat) (cI cJ cII cJJ : ClassId) (sz g a0 a1 a2 a3 a4 a5 a6 a7 a8 a9 a10 a11 a12 a13 a14 a15 a16 a17 a18 a19 a20 a21 a22 a23 a24 a25 a26 a27 : Nat) : Met l yX9_costOf (.code yX9_costOf cX9_costOf 6 (some .long) :: TT) ({ frames := 2, cells := 0, slots := 0, locals := 80 }) (PcS dC dI (TY cI cJ cII cJJ) [.ref a0, .ref a2, .int 0] [(a0, .inr (9, [.ref a4, .ref a5, .ref a6, .ref a7, .ref a1, .ref a3, .ref a8, .ref a9, .ref a10, .ref a11, .ref a12, .ref a13, .int 1, .int 0, .int 1, .ref a14, .ref a15, .ref a16, .ref a17, .ref a18, .ref a19, .int 2, .int 2, .ref a20, .ref a21, .ref a22, .ref a23, .int 0, .int 1, .ref a24, .ref a25, .ref a26, .ref a2, .int 0, .ref a27, .int 0])), (a1, .inl (cI, 4, .inl (tb [0, 0, 0, 0]))), (a2, .inl (cI, 4, .inl (tb [4]))), (a3, .inl (cI, 4, .inl (tb [0, 0, 0, 0])))] sz 0 g) ((QcL dC dI (TY cI cJ cII cJJ) 0 [(a0, .inr (9, [.ref a4, .ref a5, .ref a6, .ref a7, .ref a1, .ref a3, .ref a8, .ref a9, .ref a10, .ref a11, .ref a12, .ref a13, .int 1, .int 0, .int 1, .ref a14, .ref a15, .ref a16, .ref a17, .ref a18, .ref a19, .int 2, .int 2, .ref a20, .ref a21, .ref a22, .ref a23, .int 0, .int 1, .ref a24, .ref a25, .ref a26, .ref a2, .int 0, .ref a27, .int 0])), (a1, .inl (cI, 4, .inl (tb [0, 0, 0, 0]))), (a2, .inl (cI, 4, .inl (tb [4]))), (a3, .inl (cI, 4, .inl (tb [0, 0, 0, 0])))]) (va_A [(a0, .inr (9, [.ref a4, .ref a5, .ref a6, .ref a7, .ref a1, .ref a3, .ref a8, .ref a9, .ref a10, .ref a11, .ref a12, .ref a13, .int 1, .int 0, .int 1, .ref a14, .ref a15, .ref a16, .ref a17, .ref a18, .ref a19, .int 2, .int 2, .ref a20, .ref a21, .ref a22, .ref a23, .int 0, .int 1, .ref a24, .ref a25, .ref a26, .ref a2, .int 0, .ref a27, .int 0])), (a1, .inl (cI, 4, .inl (tb [0, 0, 0, 0]))), (a2, .inl (cI, 4, .inl (tb [4]))), (a3, .inl (cI, 4, .inl (tb [0, 0, 0, 0])))] sz)) 0 0 (va_A [(a0, .inr (9, [.ref a4, .ref a5, .ref a6, .ref a7, .ref a1, .ref a3, .ref a8, .ref a9, .ref a10, .ref a11, .ref a12, .ref a13, .int 1, .int 0, .int 1, .ref a14, .ref a15, .ref a16, .ref a17, .ref a18, .ref a19, .int 2, .int 2, .ref a20, .ref a21, .ref a22, .ref a23, .int 0, .int 1, .ref a24, .ref a25, .ref a26, .ref a2, .int 0, .ref a27, .int 0])), (a1, .inl (cI, 4, .inl (tb [0, 0, 0, 0]))), (a2, .inl (cI, 4, .inl (tb [4]))), (a3, .inl (cI, 4, .inl (tb [0, 0, 0, 0])))] sz) := by
  refine SM.of (y := yX9_costOf) (maxL := 6) (av := [.ref a0, .ref a2, .int 0]) (QcL dC dI (TY cI cJ cII cJJ) 0 [(a0, .inr (9, [.ref a4, .ref a5, .ref a6, .ref a7, .ref a1, .ref a3, .ref a8, .ref a9, .ref a10, .ref a11, .ref a12, .ref a13, .int 1, .int 0, .int 1, .ref a14, .ref a15, .ref a16, .ref a17, .ref a18, .ref a19, .int 2, .int 2, .ref a20, .ref a21, .ref a22, .ref a23, .int 0, .int 1, .ref a24, .ref a25, .ref a26, .ref a2, .int 0, .ref a27, .int 0])), (a1, .inl (cI, 4, .inl (tb [0, 0, 0, 0]))), (a2, .inl (cI, 4, .inl (tb [4]))), (a3, .inl (cI, 4, .inl (tb [0, 0, 0, 0])))]) (by decide +kernel) (Nat.le_of_ble_eq_true rfl) (fun p e s m below meth c A ls hx hb hr hml hown hts hk hnm hA hK hP hD hS hX hl => ?_)
  have hown : s.vm.findClass RX9 = some m.cls := hown
  have hl : lv_has ls 6 [(0, .ref a0), (1, .ref a2), (2, .int 0)] := hl
  refine lv_lconst (v := 0) hx hb dX9_costOf_0 (by decide) ?_
  refine lv_lstore_n (lv' := [(3, .long 0), (0, .ref a0), (1, .ref a2), (2, .int 0)]) hx hb dX9_costOf_1 rfl hl (by decide) rfl (fun ls hl => ?_)
  refine lv_iconst (v := 0) hx hb dX9_costOf_2 (by decide) ?_
  refine lv_istore (lv' := [(5, .int 0), (3, .long 0), (0, .ref a0), (1, .ref a2), (2, .int 0)]) hx hb dX9_costOf_3 hl (by decide) rfl (fun ls hl => ?_)
  refine lv_iload hx hb dX9_costOf_5 (lv_at hl 0 rfl) ?_
  refine lv_aload_n hx hb dX9_costOf_7 rfl (lv_at hl 2 rfl) ?_
  refine gf (k := 12) hx hb hts inX9 hown hK hP k_807 rfl (by decide) rfl 0 rfl (.int 1) rfl dX9_costOf_8 ?_
  refine f_icmp_ge hx hb dX9_costOf_11 64 (by decide) (by decide +kernel) ?_
  refine lv_lload_n hx hb dX9_costOf_14 rfl (lv_at hl 1 rfl) ?_
  refine lv_aload_n hx hb dX9_costOf_15 rfl (lv_at hl 2 rfl) ?_
  refine gf (k := 4) hx hb hts inX9 hown hK hP k_799 rfl (by decide) rfl 0 rfl (.ref a1) rfl dX9_costOf_16 ?_
  refine lv_iload hx hb dX9_costOf_19 (lv_at hl 0 rfl) ?_
  refine ld_i hx hb hK hP 1 rfl (vin (by decide +kernel)) dX9_costOf_21 0 rfl ?_
  refine lv_i2l (v := 0) hx hb dX9_costOf_22 (by decide +kernel) ?_
  refine lv_aload_n hx hb dX9_costOf_23 rfl (lv_at hl 3 rfl) ?_
  refine lv_iload_n hx hb dX9_costOf_24 rfl (lv_at hl 4 rfl) ?_
  refine lv_iload hx hb dX9_costOf_25 (lv_at hl 0 rfl) ?_
  refine v_iadd hx hb dX9_costOf_27 0 (by decide +kernel) ?_
  refine ld_i hx hb hK hP 2 rfl (vin (by decide +kernel)) dX9_costOf_28 4 rfl ?_
  refine lv_i2l (v := 4) hx hb dX9_costOf_29 (by decide +kernel) ?_
  refine v_lmul hx hb dX9_costOf_30 0 (by decide +kernel) ?_
  refine lv_aload_n hx hb dX9_costOf_31 rfl (lv_at hl 2 rfl) ?_
  refine gf (k := 5) hx hb hts inX9 hown hK hP k_800 rfl (by decide) rfl 0 rfl (.ref a3) rfl dX9_costOf_32 ?_
  refine lv_iload hx hb dX9_costOf_35 (lv_at hl 0 rfl) ?_
  refine ld_i hx hb hK hP 3 rfl (vin (by decide +kernel)) dX9_costOf_37 0 rfl ?_
  refine lv_i2l (v := 0) hx hb dX9_costOf_38 (by decide +kernel) ?_
  refine lv_aload_n hx hb dX9_costOf_39 rfl (lv_at hl 3 rfl) ?_
  refine lv_iload_n hx hb dX9_costOf_40 rfl (lv_at hl 4 rfl) ?_
  refine lv_iload hx hb dX9_costOf_41 (lv_at hl 0 rfl) ?_
  refine v_iadd hx hb dX9_costOf_43 0 (by decide +kernel) ?_
  refine ld_i hx hb hK hP 2 rfl (vin (by decide +kernel)) dX9_costOf_44 4 rfl ?_
  refine lv_i2l (v := 4) hx hb dX9_costOf_45 (by decide +kernel) ?_
  refine v_lmul hx hb dX9_costOf_46 0 (by decide +kernel) ?_
  refine lv_aload_n hx hb dX9_costOf_47 rfl (lv_at hl 3 rfl) ?_
  refine lv_iload_n hx hb dX9_costOf_48 rfl (lv_at hl 4 rfl) ?_
  refine lv_iload hx hb dX9_costOf_49 (lv_at hl 0 rfl) ?_
  refine v_iadd hx hb dX9_costOf_51 0 (by decide +kernel) ?_
  refine ld_i hx hb hK hP 2 rfl (vin (by decide +kernel)) dX9_costOf_52 4 rfl ?_
  refine lv_i2l (v := 4) hx hb dX9_costOf_53 (by decide +kernel) ?_
  refine v_lmul hx hb dX9_costOf_54 0 (by decide +kernel) ?_
  refine v_ladd hx hb dX9_costOf_55 0 (by decide +kernel) ?_
  refine v_ladd hx hb dX9_costOf_56 0 (by decide +kernel) ?_
  refine lv_lstore_n (lv' := [(3, .long 0), (5, .int 0), (0, .ref a0), (1, .ref a2), (2, .int 0)]) hx hb dX9_costOf_57 rfl hl (by decide) rfl (fun ls hl => ?_)
  refine lv_iinc (v := 1) (lv' := [(5, .int 1), (3, .long 0), (0, .ref a0), (1, .ref a2), (2, .int 0)]) hx hb dX9_costOf_58 hl (k := 1) rfl (by decide +kernel) (by decide) rfl (fun ls hl => ?_)
  refine lv_goto (tgt := 5) hx hb dX9_costOf_61 (by decide) ?_
  refine lv_iload hx hb dX9_costOf_5 (lv_at hl 0 rfl) ?_
  refine lv_aload_n hx hb dX9_costOf_7 rfl (lv_at hl 2 rfl) ?_
  refine gf (k := 12) hx hb hts inX9 hown hK hP k_807 rfl (by decide) rfl 0 rfl (.int 1) rfl dX9_costOf_8 ?_
  refine t_icmp_ge hx hb dX9_costOf_11 64 (by decide) (by decide +kernel) ?_
  refine lv_lload_n hx hb dX9_costOf_64 rfl (lv_at hl 1 rfl) ?_
  exact r_l hx hb hr hk hK hP hD hS dX9_costOf_65
set_option maxRecDepth 100000 in
set_option maxHeartbeats 4000000 in
theorem c491_X9_isPlan (l : Launch) (dC : Nat → ClassId) (dI : Nat → Nat → Nat) (cI cJ cII cJJ : ClassId) (sz g a0 a1 a2 a3 a4 a5 a6 a7 a8 a9 a10 a11 a12 a13 a14 a15 a16 a17 a18 a19 a20 a21 a22 a23 a24 a25 a26 a27 : Nat) : Met l yX9_isPlan (.code yX9_isPlan cX9_isPlan 5 (some .boolean) :: TT) ({ frames := 2, cells := 0, slots := 0, locals := 80 }) (PcS dC dI (TY cI cJ cII cJJ) [.ref a0, .ref a2, .int 0] [(a0, .inr (9, [.ref a4, .ref a5, .ref a1, .ref a3, .ref a6, .ref a7, .ref a8, .ref a9, .ref a10, .ref a11, .ref a12, .ref a13, .int 1, .int 0, .int 1, .ref a14, .ref a15, .ref a16, .ref a17, .ref a18, .ref a19, .int 2, .int 2, .ref a20, .ref a21, .ref a22, .ref a23, .int 0, .int 1, .ref a24, .ref a25, .ref a26, .ref a2, .int 0, .ref a27, .int 0])), (a1, .inl (cI, 4, .inl (tb [0, 0, 0, 0]))), (a2, .inl (cI, 4, .inl (tb [5]))), (a3, .inl (cI, 4, .inl (tb [10, 10, 10, 10])))] sz 0 g) ((QcI dC dI (TY cI cJ cII cJJ) 1 [(a0, .inr (9, [.ref a4, .ref a5, .ref a1, .ref a3, .ref a6, .ref a7, .ref a8, .ref a9, .ref a10, .ref a11, .ref a12, .ref a13, .int 1, .int 0, .int 1, .ref a14, .ref a15, .ref a16, .ref a17, .ref a18, .ref a19, .int 2, .int 2, .ref a20, .ref a21, .ref a22, .ref a23, .int 0, .int 1, .ref a24, .ref a25, .ref a26, .ref a2, .int 0, .ref a27, .int 0])), (a1, .inl (cI, 4, .inl (tb [0, 0, 0, 0]))), (a2, .inl (cI, 4, .inl (tb [5]))), (a3, .inl (cI, 4, .inl (tb [10, 10, 10, 10])))]) (va_A [(a0, .inr (9, [.ref a4, .ref a5, .ref a1, .ref a3, .ref a6, .ref a7, .ref a8, .ref a9, .ref a10, .ref a11, .ref a12, .ref a13, .int 1, .int 0, .int 1, .ref a14, .ref a15, .ref a16, .ref a17, .ref a18, .ref a19, .int 2, .int 2, .ref a20, .ref a21, .ref a22, .ref a23, .int 0, .int 1, .ref a24, .ref a25, .ref a26, .ref a2, .int 0, .ref a27, .int 0])), (a1, .inl (cI, 4, .inl (tb [0, 0, 0, 0]))), (a2, .inl (cI, 4, .inl (tb [5]))), (a3, .inl (cI, 4, .inl (tb [10, 10, 10, 10])))] sz)) 0 0 (va_A [(a0, .inr (9, [.ref a4, .ref a5, .ref a1, .ref a3, .ref a6, .ref a7, .ref a8, .ref a9, .ref a10, .ref a11, .ref a12, .ref a13, .int 1, .int 0, .int 1, .ref a14, .ref a15, .ref a16, .ref a17, .ref a18, .ref a19, .int 2, .int 2, .ref a20, .ref a21, .ref a22, .ref a23, .int 0, .int 1, .ref a24, .ref a25, .ref a26, .ref a2, .int 0, .ref a27, .int 0])), (a1, .inl (cI, 4, .inl (tb [0, 0, 0, 0]))), (a2, .inl (cI, 4, .inl (tb [5]))), (a3, .inl (cI, 4, .inl (tb [10, 10, 10, 10])))] sz) := by
  refine SM.of (y := yX9_isPlan) (maxL := 5) (av := [.ref a0, .ref a2, .int 0]) (QcI dC dI (TY cI cJ cII cJJ) 1 [(a0, .inr (9, [.ref a4, .ref a5, .ref a1, .ref a3, .ref a6, .ref a7, .ref a8, .ref a9, .ref a10, .ref a11, .ref a12, .ref a13, .int 1, .int 0, .int 1, .ref a14, .ref a15, .ref a16, .ref a17, .ref a18, .ref a19, .int 2, .int 2, .ref a20, .ref a21, .ref a22, .ref a23, .int 0, .int 1, .ref a24, .ref a25, .ref a26, .ref a2, .int 0, .ref a27, .int 0])), (a1, .inl (cI, 4, .inl (tb [0, 0, 0, 0]))), (a2, .inl (cI, 4, .inl (tb [5]))), (a3, .inl (cI, 4, .inl (tb [10, 10, 10, 10])))]) (by decide +kernel) (Nat.le_of_ble_eq_true rfl) (fun p e s m below meth c A ls hx hb hr hml hown hts hk hnm hA hK hP hD hS hX hl => ?_)
  have hown : s.vm.findClass RX9 = some m.cls := hown
  have hl : lv_has ls 5 [(0, .ref a0), (1, .ref a2), (2, .int 0)] := hl
  refine lv_iconst (v := 1) hx hb dX9_isPlan_0 (by decide) ?_
  refine lv_istore_n (lv' := [(3, .int 1), (0, .ref a0), (1, .ref a2), (2, .int 0)]) hx hb dX9_isPlan_1 rfl hl (by decide) rfl (fun ls hl => ?_)
  refine lv_iconst (v := 0) hx hb dX9_isPlan_2 (by decide) ?_
  refine lv_istore (lv' := [(4, .int 0), (3, .int 1), (0, .ref a0), (1, .ref a2), (2, .int 0)]) hx hb dX9_isPlan_3 hl (by decide) rfl (fun ls hl => ?_)
  refine lv_iload hx hb dX9_isPlan_5 (lv_at hl 0 rfl) ?_
  refine lv_aload_n hx hb dX9_isPlan_7 rfl (lv_at hl 2 rfl) ?_
  refine gf (k := 12) hx hb hts inX9 hown hK hP k_807 rfl (by decide) rfl 0 rfl (.int 1) rfl dX9_isPlan_8 ?_
  refine f_icmp_ge hx hb dX9_isPlan_11 62 (by decide) (by decide +kernel) ?_
  refine lv_iload_n hx hb dX9_isPlan_14 rfl (lv_at hl 1 rfl) ?_
  refine f_if_eq hx hb dX9_isPlan_15 62 (by decide) (by decide +kernel) ?_
  refine lv_aload_n hx hb dX9_isPlan_18 rfl (lv_at hl 2 rfl) ?_
  refine gf (k := 2) hx hb hts inX9 hown hK hP k_797 rfl (by decide) rfl 0 rfl (.ref a1) rfl dX9_isPlan_19 ?_
  refine lv_iload hx hb dX9_isPlan_22 (lv_at hl 0 rfl) ?_
  refine ld_i hx hb hK hP 1 rfl (vin (by decide +kernel)) dX9_isPlan_24 0 rfl ?_
  refine lv_aload_n hx hb dX9_isPlan_25 rfl (lv_at hl 3 rfl) ?_
  refine lv_iload_n hx hb dX9_isPlan_26 rfl (lv_at hl 4 rfl) ?_
  refine lv_iload hx hb dX9_isPlan_27 (lv_at hl 0 rfl) ?_
  refine v_iadd hx hb dX9_isPlan_29 0 (by decide +kernel) ?_
  refine ld_i hx hb hK hP 2 rfl (vin (by decide +kernel)) dX9_isPlan_30 5 rfl ?_
  refine f_icmp_gt hx hb dX9_isPlan_31 54 (by decide) (by decide +kernel) ?_
  refine lv_aload_n hx hb dX9_isPlan_34 rfl (lv_at hl 3 rfl) ?_
  refine lv_iload_n hx hb dX9_isPlan_35 rfl (lv_at hl 4 rfl) ?_
  refine lv_iload hx hb dX9_isPlan_36 (lv_at hl 0 rfl) ?_
  refine v_iadd hx hb dX9_isPlan_38 0 (by decide +kernel) ?_
  refine ld_i hx hb hK hP 2 rfl (vin (by decide +kernel)) dX9_isPlan_39 5 rfl ?_
  refine lv_aload_n hx hb dX9_isPlan_40 rfl (lv_at hl 2 rfl) ?_
  refine gf (k := 3) hx hb hts inX9 hown hK hP k_798 rfl (by decide) rfl 0 rfl (.ref a3) rfl dX9_isPlan_41 ?_
  refine lv_iload hx hb dX9_isPlan_44 (lv_at hl 0 rfl) ?_
  refine ld_i hx hb hK hP 3 rfl (vin (by decide +kernel)) dX9_isPlan_46 10 rfl ?_
  refine f_icmp_gt hx hb dX9_isPlan_47 54 (by decide) (by decide +kernel) ?_
  refine lv_iconst (v := 1) hx hb dX9_isPlan_50 (by decide) ?_
  refine lv_goto (tgt := 55) hx hb dX9_isPlan_51 (by decide) ?_
  refine lv_istore_n (lv' := [(3, .int 1), (4, .int 0), (0, .ref a0), (1, .ref a2), (2, .int 0)]) hx hb dX9_isPlan_55 rfl hl (by decide) rfl (fun ls hl => ?_)
  refine lv_iinc (v := 1) (lv' := [(4, .int 1), (3, .int 1), (0, .ref a0), (1, .ref a2), (2, .int 0)]) hx hb dX9_isPlan_56 hl (k := 1) rfl (by decide +kernel) (by decide) rfl (fun ls hl => ?_)
  refine lv_goto (tgt := 5) hx hb dX9_isPlan_59 (by decide) ?_
  refine lv_iload hx hb dX9_isPlan_5 (lv_at hl 0 rfl) ?_
  refine lv_aload_n hx hb dX9_isPlan_7 rfl (lv_at hl 2 rfl) ?_
  refine gf (k := 12) hx hb hts inX9 hown hK hP k_807 rfl (by decide) rfl 0 rfl (.int 1) rfl dX9_isPlan_8 ?_
  refine t_icmp_ge hx hb dX9_isPlan_11 62 (by decide) (by decide +kernel) ?_
  refine lv_iconst (v := 0) hx hb dX9_isPlan_62 (by decide) ?_
  refine lv_istore (lv' := [(4, .int 0), (3, .int 1), (0, .ref a0), (1, .ref a2), (2, .int 0)]) hx hb dX9_isPlan_63 hl (by decide) rfl (fun ls hl => ?_)
  refine lv_iload hx hb dX9_isPlan_65 (lv_at hl 0 rfl) ?_
  refine lv_aload_n hx hb dX9_isPlan_67 rfl (lv_at hl 2 rfl) ?_
  refine gf (k := 13) hx hb hts inX9 hown hK hP k_808 rfl (by decide) rfl 0 rfl (.int 0) rfl dX9_isPlan_68 ?_
  refine t_icmp_ge hx hb dX9_isPlan_71 108 (by decide) (by decide +kernel) ?_
  refine lv_iload_n hx hb dX9_isPlan_108 rfl (lv_at hl 1 rfl) ?_
  exact r_z hx hb hr hk hK hP hD hS dX9_isPlan_109 rfl
set_option maxRecDepth 100000 in
set_option maxHeartbeats 4000000 in
theorem c492_X9_costOf (l : Launch) (dC : Nat → ClassId) (dI : Nat → Nat → Nat) (cI cJ cII cJJ : ClassId) (sz g a0 a1 a2 a3 a4 a5 a6 a7 a8 a9 a10 a11 a12 a13 a14 a15 a16 a17 a18 a19 a20 a21 a22 a23 a24 a25 a26 a27 : Nat) : Met l yX9_costOf (.code yX9_costOf cX9_costOf 6 (some .long) :: TT) ({ frames := 2, cells := 0, slots := 0, locals := 80 }) (PcS dC dI (TY cI cJ cII cJJ) [.ref a0, .ref a2, .int 0] [(a0, .inr (9, [.ref a4, .ref a5, .ref a6, .ref a7, .ref a1, .ref a3, .ref a8, .ref a9, .ref a10, .ref a11, .ref a12, .ref a13, .int 1, .int 0, .int 1, .ref a14, .ref a15, .ref a16, .ref a17, .ref a18, .ref a19, .int 2, .int 2, .ref a20, .ref a21, .ref a22, .ref a23, .int 0, .int 1, .ref a24, .ref a25, .ref a26, .ref a2, .int 0, .ref a27, .int 0])), (a1, .inl (cI, 4, .inl (tb [0, 0, 0, 0]))), (a2, .inl (cI, 4, .inl (tb [5]))), (a3, .inl (cI, 4, .inl (tb [0, 0, 0, 0])))] sz 0 g) ((QcL dC dI (TY cI cJ cII cJJ) 0 [(a0, .inr (9, [.ref a4, .ref a5, .ref a6, .ref a7, .ref a1, .ref a3, .ref a8, .ref a9, .ref a10, .ref a11, .ref a12, .ref a13, .int 1, .int 0, .int 1, .ref a14, .ref a15, .ref a16, .ref a17, .ref a18, .ref a19, .int 2, .int 2, .ref a20, .ref a21, .ref a22, .ref a23, .int 0, .int 1, .ref a24, .ref a25, .ref a26, .ref a2, .int 0, .ref a27, .int 0])), (a1, .inl (cI, 4, .inl (tb [0, 0, 0, 0]))), (a2, .inl (cI, 4, .inl (tb [5]))), (a3, .inl (cI, 4, .inl (tb [0, 0, 0, 0])))]) (va_A [(a0, .inr (9, [.ref a4, .ref a5, .ref a6, .ref a7, .ref a1, .ref a3, .ref a8, .ref a9, .ref a10, .ref a11, .ref a12, .ref a13, .int 1, .int 0, .int 1, .ref a14, .ref a15, .ref a16, .ref a17, .ref a18, .ref a19, .int 2, .int 2, .ref a20, .ref a21, .ref a22, .ref a23, .int 0, .int 1, .ref a24, .ref a25, .ref a26, .ref a2, .int 0, .ref a27, .int 0])), (a1, .inl (cI, 4, .inl (tb [0, 0, 0, 0]))), (a2, .inl (cI, 4, .inl (tb [5]))), (a3, .inl (cI, 4, .inl (tb [0, 0, 0, 0])))] sz)) 0 0 (va_A [(a0, .inr (9, [.ref a4, .ref a5, .ref a6, .ref a7, .ref a1, .ref a3, .ref a8, .ref a9, .ref a10, .ref a11, .ref a12, .ref a13, .int 1, .int 0, .int 1, .ref a14, .ref a15, .ref a16, .ref a17, .ref a18, .ref a19, .int 2, .int 2, .ref a20, .ref a21, .ref a22, .ref a23, .int 0, .int 1, .ref a24, .ref a25, .ref a26, .ref a2, .int 0, .ref a27, .int 0])), (a1, .inl (cI, 4, .inl (tb [0, 0, 0, 0]))), (a2, .inl (cI, 4, .inl (tb [5]))), (a3, .inl (cI, 4, .inl (tb [0, 0, 0, 0])))] sz) := by
  refine SM.of (y := yX9_costOf) (maxL := 6) (av := [.ref a0, .ref a2, .int 0]) (QcL dC dI (TY cI cJ cII cJJ) 0 [(a0, .inr (9, [.ref a4, .ref a5, .ref a6, .ref a7, .ref a1, .ref a3, .ref a8, .ref a9, .ref a10, .ref a11, .ref a12, .ref a13, .int 1, .int 0, .int 1, .ref a14, .ref a15, .ref a16, .ref a17, .ref a18, .ref a19, .int 2, .int 2, .ref a20, .ref a21, .ref a22, .ref a23, .int 0, .int 1, .ref a24, .ref a25, .ref a26, .ref a2, .int 0, .ref a27, .int 0])), (a1, .inl (cI, 4, .inl (tb [0, 0, 0, 0]))), (a2, .inl (cI, 4, .inl (tb [5]))), (a3, .inl (cI, 4, .inl (tb [0, 0, 0, 0])))]) (by decide +kernel) (Nat.le_of_ble_eq_true rfl) (fun p e s m below meth c A ls hx hb hr hml hown hts hk hnm hA hK hP hD hS hX hl => ?_)
  have hown : s.vm.findClass RX9 = some m.cls := hown
  have hl : lv_has ls 6 [(0, .ref a0), (1, .ref a2), (2, .int 0)] := hl
  refine lv_lconst (v := 0) hx hb dX9_costOf_0 (by decide) ?_
  refine lv_lstore_n (lv' := [(3, .long 0), (0, .ref a0), (1, .ref a2), (2, .int 0)]) hx hb dX9_costOf_1 rfl hl (by decide) rfl (fun ls hl => ?_)
  refine lv_iconst (v := 0) hx hb dX9_costOf_2 (by decide) ?_
  refine lv_istore (lv' := [(5, .int 0), (3, .long 0), (0, .ref a0), (1, .ref a2), (2, .int 0)]) hx hb dX9_costOf_3 hl (by decide) rfl (fun ls hl => ?_)
  refine lv_iload hx hb dX9_costOf_5 (lv_at hl 0 rfl) ?_
  refine lv_aload_n hx hb dX9_costOf_7 rfl (lv_at hl 2 rfl) ?_
  refine gf (k := 12) hx hb hts inX9 hown hK hP k_807 rfl (by decide) rfl 0 rfl (.int 1) rfl dX9_costOf_8 ?_
  refine f_icmp_ge hx hb dX9_costOf_11 64 (by decide) (by decide +kernel) ?_
  refine lv_lload_n hx hb dX9_costOf_14 rfl (lv_at hl 1 rfl) ?_
  refine lv_aload_n hx hb dX9_costOf_15 rfl (lv_at hl 2 rfl) ?_
  refine gf (k := 4) hx hb hts inX9 hown hK hP k_799 rfl (by decide) rfl 0 rfl (.ref a1) rfl dX9_costOf_16 ?_
  refine lv_iload hx hb dX9_costOf_19 (lv_at hl 0 rfl) ?_
  refine ld_i hx hb hK hP 1 rfl (vin (by decide +kernel)) dX9_costOf_21 0 rfl ?_
  refine lv_i2l (v := 0) hx hb dX9_costOf_22 (by decide +kernel) ?_
  refine lv_aload_n hx hb dX9_costOf_23 rfl (lv_at hl 3 rfl) ?_
  refine lv_iload_n hx hb dX9_costOf_24 rfl (lv_at hl 4 rfl) ?_
  refine lv_iload hx hb dX9_costOf_25 (lv_at hl 0 rfl) ?_
  refine v_iadd hx hb dX9_costOf_27 0 (by decide +kernel) ?_
  refine ld_i hx hb hK hP 2 rfl (vin (by decide +kernel)) dX9_costOf_28 5 rfl ?_
  refine lv_i2l (v := 5) hx hb dX9_costOf_29 (by decide +kernel) ?_
  refine v_lmul hx hb dX9_costOf_30 0 (by decide +kernel) ?_
  refine lv_aload_n hx hb dX9_costOf_31 rfl (lv_at hl 2 rfl) ?_
  refine gf (k := 5) hx hb hts inX9 hown hK hP k_800 rfl (by decide) rfl 0 rfl (.ref a3) rfl dX9_costOf_32 ?_
  refine lv_iload hx hb dX9_costOf_35 (lv_at hl 0 rfl) ?_
  refine ld_i hx hb hK hP 3 rfl (vin (by decide +kernel)) dX9_costOf_37 0 rfl ?_
  refine lv_i2l (v := 0) hx hb dX9_costOf_38 (by decide +kernel) ?_
  refine lv_aload_n hx hb dX9_costOf_39 rfl (lv_at hl 3 rfl) ?_
  refine lv_iload_n hx hb dX9_costOf_40 rfl (lv_at hl 4 rfl) ?_
  refine lv_iload hx hb dX9_costOf_41 (lv_at hl 0 rfl) ?_
  refine v_iadd hx hb dX9_costOf_43 0 (by decide +kernel) ?_
  refine ld_i hx hb hK hP 2 rfl (vin (by decide +kernel)) dX9_costOf_44 5 rfl ?_
  refine lv_i2l (v := 5) hx hb dX9_costOf_45 (by decide +kernel) ?_
  refine v_lmul hx hb dX9_costOf_46 0 (by decide +kernel) ?_
  refine lv_aload_n hx hb dX9_costOf_47 rfl (lv_at hl 3 rfl) ?_
  refine lv_iload_n hx hb dX9_costOf_48 rfl (lv_at hl 4 rfl) ?_
  refine lv_iload hx hb dX9_costOf_49 (lv_at hl 0 rfl) ?_
  refine v_iadd hx hb dX9_costOf_51 0 (by decide +kernel) ?_
  refine ld_i hx hb hK hP 2 rfl (vin (by decide +kernel)) dX9_costOf_52 5 rfl ?_
  refine lv_i2l (v := 5) hx hb dX9_costOf_53 (by decide +kernel) ?_
  refine v_lmul hx hb dX9_costOf_54 0 (by decide +kernel) ?_
  refine v_ladd hx hb dX9_costOf_55 0 (by decide +kernel) ?_
  refine v_ladd hx hb dX9_costOf_56 0 (by decide +kernel) ?_
  refine lv_lstore_n (lv' := [(3, .long 0), (5, .int 0), (0, .ref a0), (1, .ref a2), (2, .int 0)]) hx hb dX9_costOf_57 rfl hl (by decide) rfl (fun ls hl => ?_)
  refine lv_iinc (v := 1) (lv' := [(5, .int 1), (3, .long 0), (0, .ref a0), (1, .ref a2), (2, .int 0)]) hx hb dX9_costOf_58 hl (k := 1) rfl (by decide +kernel) (by decide) rfl (fun ls hl => ?_)
  refine lv_goto (tgt := 5) hx hb dX9_costOf_61 (by decide) ?_
  refine lv_iload hx hb dX9_costOf_5 (lv_at hl 0 rfl) ?_
  refine lv_aload_n hx hb dX9_costOf_7 rfl (lv_at hl 2 rfl) ?_
  refine gf (k := 12) hx hb hts inX9 hown hK hP k_807 rfl (by decide) rfl 0 rfl (.int 1) rfl dX9_costOf_8 ?_
  refine t_icmp_ge hx hb dX9_costOf_11 64 (by decide) (by decide +kernel) ?_
  refine lv_lload_n hx hb dX9_costOf_64 rfl (lv_at hl 1 rfl) ?_
  exact r_l hx hb hr hk hK hP hD hS dX9_costOf_65
set_option maxRecDepth 100000 in
set_option maxHeartbeats 4000000 in
theorem c493_X9_isPlan (l : Launch) (dC : Nat → ClassId) (dI : Nat → Nat → Nat) (cI cJ cII cJJ : ClassId) (sz g a0 a1 a2 a3 a4 a5 a6 a7 a8 a9 a10 a11 a12 a13 a14 a15 a16 a17 a18 a19 a20 a21 a22 a23 a24 a25 a26 a27 : Nat) : Met l yX9_isPlan (.code yX9_isPlan cX9_isPlan 5 (some .boolean) :: TT) ({ frames := 2, cells := 0, slots := 0, locals := 80 }) (PcS dC dI (TY cI cJ cII cJJ) [.ref a0, .ref a2, .int 0] [(a0, .inr (9, [.ref a4, .ref a5, .ref a1, .ref a3, .ref a6, .ref a7, .ref a8, .ref a9, .ref a10, .ref a11, .ref a12, .ref a13, .int 1, .int 0, .int 1, .ref a14, .ref a15, .ref a16, .ref a17, .ref a18, .ref a19, .int 2, .int 2, .ref a20, .ref a21, .ref a22, .ref a23, .int 0, .int 1, .ref a24, .ref a25, .ref a26, .ref a2, .int 0, .ref a27, .int 0])), (a1, .inl (cI, 4, .inl (tb [0, 0, 0, 0]))), (a2, .inl (cI, 4, .inl (tb [6]))), (a3, .inl (cI, 4, .inl (tb [10, 10, 10, 10])))] sz 0 g) ((QcI dC dI (TY cI cJ cII cJJ) 1 [(a0, .inr (9, [.ref a4, .ref a5, .ref a1, .ref a3, .ref a6, .ref a7, .ref a8, .ref a9, .ref a10, .ref a11, .ref a12, .ref a13, .int 1, .int 0, .int 1, .ref a14, .ref a15, .ref a16, .ref a17, .ref a18, .ref a19, .int 2, .int 2, .ref a20, .ref a21, .ref a22, .ref a23, .int 0, .int 1, .ref a24, .ref a25, .ref a26, .ref a2, .int 0, .ref a27, .int 0])), (a1, .inl (cI, 4, .inl (tb [0, 0, 0, 0]))), (a2, .inl (cI, 4, .inl (tb [6]))), (a3, .inl (cI, 4, .inl (tb [10, 10, 10, 10])))]) (va_A [(a0, .inr (9, [.ref a4, .ref a5, .ref a1, .ref a3, .ref a6, .ref a7, .ref a8, .ref a9, .ref a10, .ref a11, .ref a12, .ref a13, .int 1, .int 0, .int 1, .ref a14, .ref a15, .ref a16, .ref a17, .ref a18, .ref a19, .int 2, .int 2, .ref a20, .ref a21, .ref a22, .ref a23, .int 0, .int 1, .ref a24, .ref a25, .ref a26, .ref a2, .int 0, .ref a27, .int 0])), (a1, .inl (cI, 4, .inl (tb [0, 0, 0, 0]))), (a2, .inl (cI, 4, .inl (tb [6]))), (a3, .inl (cI, 4, .inl (tb [10, 10, 10, 10])))] sz)) 0 0 (va_A [(a0, .inr (9, [.ref a4, .ref a5, .ref a1, .ref a3, .ref a6, .ref a7, .ref a8, .ref a9, .ref a10, .ref a11, .ref a12, .ref a13, .int 1, .int 0, .int 1, .ref a14, .ref a15, .ref a16, .ref a17, .ref a18, .ref a19, .int 2, .int 2, .ref a20, .ref a21, .ref a22, .ref a23, .int 0, .int 1, .ref a24, .ref a25, .ref a26, .ref a2, .int 0, .ref a27, .int 0])), (a1, .inl (cI, 4, .inl (tb [0, 0, 0, 0]))), (a2, .inl (cI, 4, .inl (tb [6]))), (a3, .inl (cI, 4, .inl (tb [10, 10, 10, 10])))] sz) := by
  refine SM.of (y := yX9_isPlan) (maxL := 5) (av := [.ref a0, .ref a2, .int 0]) (QcI dC dI (TY cI cJ cII cJJ) 1 [(a0, .inr (9, [.ref a4, .ref a5, .ref a1, .ref a3, .ref a6, .ref a7, .ref a8, .ref a9, .ref a10, .ref a11, .ref a12, .ref a13, .int 1, .int 0, .int 1, .ref a14, .ref a15, .ref a16, .ref a17, .ref a18, .ref a19, .int 2, .int 2, .ref a20, .ref a21, .ref a22, .ref a23, .int 0, .int 1, .ref a24, .ref a25, .ref a26, .ref a2, .int 0, .ref a27, .int 0])), (a1, .inl (cI, 4, .inl (tb [0, 0, 0, 0]))), (a2, .inl (cI, 4, .inl (tb [6]))), (a3, .inl (cI, 4, .inl (tb [10, 10, 10, 10])))]) (by decide +kernel) (Nat.le_of_ble_eq_true rfl) (fun p e s m below meth c A ls hx hb hr hml hown hts hk hnm hA hK hP hD hS hX hl => ?_)
  have hown : s.vm.findClass RX9 = some m.cls := hown
  have hl : lv_has ls 5 [(0, .ref a0), (1, .ref a2), (2, .int 0)] := hl
  refine lv_iconst (v := 1) hx hb dX9_isPlan_0 (by decide) ?_
  refine lv_istore_n (lv' := [(3, .int 1), (0, .ref a0), (1, .ref a2), (2, .int 0)]) hx hb dX9_isPlan_1 rfl hl (by decide) rfl (fun ls hl => ?_)
  refine lv_iconst (v := 0) hx hb dX9_isPlan_2 (by decide) ?_
  refine lv_istore (lv' := [(4, .int 0), (3, .int 1), (0, .ref a0), (1, .ref a2), (2, .int 0)]) hx hb dX9_isPlan_3 hl (by decide) rfl (fun ls hl => ?_)
  refine lv_iload hx hb dX9_isPlan_5 (lv_at hl 0 rfl) ?_
  refine lv_aload_n hx hb dX9_isPlan_7 rfl (lv_at hl 2 rfl) ?_
  refine gf (k := 12) hx hb hts inX9 hown hK hP k_807 rfl (by decide) rfl 0 rfl (.int 1) rfl dX9_isPlan_8 ?_
  refine f_icmp_ge hx hb dX9_isPlan_11 62 (by decide) (by decide +kernel) ?_
  refine lv_iload_n hx hb dX9_isPlan_14 rfl (lv_at hl 1 rfl) ?_
  refine f_if_eq hx hb dX9_isPlan_15 62 (by decide) (by decide +kernel) ?_
  refine lv_aload_n hx hb dX9_isPlan_18 rfl (lv_at hl 2 rfl) ?_
  refine gf (k := 2) hx hb hts inX9 hown hK hP k_797 rfl (by decide) rfl 0 rfl (.ref a1) rfl dX9_isPlan_19 ?_
  refine lv_iload hx hb dX9_isPlan_22 (lv_at hl 0 rfl) ?_
  refine ld_i hx hb hK hP 1 rfl (vin (by decide +kernel)) dX9_isPlan_24 0 rfl ?_
  refine lv_aload_n hx hb dX9_isPlan_25 rfl (lv_at hl 3 rfl) ?_
  refine lv_iload_n hx hb dX9_isPlan_26 rfl (lv_at hl 4 rfl) ?_
  refine lv_iload hx hb dX9_isPlan_27 (lv_at hl 0 rfl) ?_
  refine v_iadd hx hb dX9_isPlan_29 0 (by decide +kernel) ?_
  refine ld_i hx hb hK hP 2 rfl (vin (by decide +kernel)) dX9_isPlan_30 6 rfl ?_
  refine f_icmp_gt hx hb dX9_isPlan_31 54 (by decide) (by decide +kernel) ?_
  refine lv_aload_n hx hb dX9_isPlan_34 rfl (lv_at hl 3 rfl) ?_
  refine lv_iload_n hx hb dX9_isPlan_35 rfl (lv_at hl 4 rfl) ?_
  refine lv_iload hx hb dX9_isPlan_36 (lv_at hl 0 rfl) ?_
  refine v_iadd hx hb dX9_isPlan_38 0 (by decide +kernel) ?_
  refine ld_i hx hb hK hP 2 rfl (vin (by decide +kernel)) dX9_isPlan_39 6 rfl ?_
  refine lv_aload_n hx hb dX9_isPlan_40 rfl (lv_at hl 2 rfl) ?_
  refine gf (k := 3) hx hb hts inX9 hown hK hP k_798 rfl (by decide) rfl 0 rfl (.ref a3) rfl dX9_isPlan_41 ?_
  refine lv_iload hx hb dX9_isPlan_44 (lv_at hl 0 rfl) ?_
  refine ld_i hx hb hK hP 3 rfl (vin (by decide +kernel)) dX9_isPlan_46 10 rfl ?_
  refine f_icmp_gt hx hb dX9_isPlan_47 54 (by decide) (by decide +kernel) ?_
  refine lv_iconst (v := 1) hx hb dX9_isPlan_50 (by decide) ?_
  refine lv_goto (tgt := 55) hx hb dX9_isPlan_51 (by decide) ?_
  refine lv_istore_n (lv' := [(3, .int 1), (4, .int 0), (0, .ref a0), (1, .ref a2), (2, .int 0)]) hx hb dX9_isPlan_55 rfl hl (by decide) rfl (fun ls hl => ?_)
  refine lv_iinc (v := 1) (lv' := [(4, .int 1), (3, .int 1), (0, .ref a0), (1, .ref a2), (2, .int 0)]) hx hb dX9_isPlan_56 hl (k := 1) rfl (by decide +kernel) (by decide) rfl (fun ls hl => ?_)
  refine lv_goto (tgt := 5) hx hb dX9_isPlan_59 (by decide) ?_
  refine lv_iload hx hb dX9_isPlan_5 (lv_at hl 0 rfl) ?_
  refine lv_aload_n hx hb dX9_isPlan_7 rfl (lv_at hl 2 rfl) ?_
  refine gf (k := 12) hx hb hts inX9 hown hK hP k_807 rfl (by decide) rfl 0 rfl (.int 1) rfl dX9_isPlan_8 ?_
  refine t_icmp_ge hx hb dX9_isPlan_11 62 (by decide) (by decide +kernel) ?_
  refine lv_iconst (v := 0) hx hb dX9_isPlan_62 (by decide) ?_
  refine lv_istore (lv' := [(4, .int 0), (3, .int 1), (0, .ref a0), (1, .ref a2), (2, .int 0)]) hx hb dX9_isPlan_63 hl (by decide) rfl (fun ls hl => ?_)
  refine lv_iload hx hb dX9_isPlan_65 (lv_at hl 0 rfl) ?_
  refine lv_aload_n hx hb dX9_isPlan_67 rfl (lv_at hl 2 rfl) ?_
  refine gf (k := 13) hx hb hts inX9 hown hK hP k_808 rfl (by decide) rfl 0 rfl (.int 0) rfl dX9_isPlan_68 ?_
  refine t_icmp_ge hx hb dX9_isPlan_71 108 (by decide) (by decide +kernel) ?_
  refine lv_iload_n hx hb dX9_isPlan_108 rfl (lv_at hl 1 rfl) ?_
  exact r_z hx hb hr hk hK hP hD hS dX9_isPlan_109 rfl
set_option maxRecDepth 100000 in
set_option maxHeartbeats 4000000 in
theorem c494_X9_costOf (l : Launch) (dC : Nat → ClassId) (dI : Nat → Nat → Nat) (cI cJ cII cJJ : ClassId) (sz g a0 a1 a2 a3 a4 a5 a6 a7 a8 a9 a10 a11 a12 a13 a14 a15 a16 a17 a18 a19 a20 a21 a22 a23 a24 a25 a26 a27 : Nat) : Met l yX9_costOf (.code yX9_costOf cX9_costOf 6 (some .long) :: TT) ({ frames := 2, cells := 0, slots := 0, locals := 80 }) (PcS dC dI (TY cI cJ cII cJJ) [.ref a0, .ref a2, .int 0] [(a0, .inr (9, [.ref a4, .ref a5, .ref a6, .ref a7, .ref a1, .ref a3, .ref a8, .ref a9, .ref a10, .ref a11, .ref a12, .ref a13, .int 1, .int 0, .int 1, .ref a14, .ref a15, .ref a16, .ref a17, .ref a18, .ref a19, .int 2, .int 2, .ref a20, .ref a21, .ref a22, .ref a23, .int 0, .int 1, .ref a24, .ref a25, .ref a26, .ref a2, .int 0, .ref a27, .int 0])), (a1, .inl (cI, 4, .inl (tb [0, 0, 0, 0]))), (a2, .inl (cI, 4, .inl (tb [6]))), (a3, .inl (cI, 4, .inl (tb [0, 0, 0, 0])))] sz 0 g) ((QcL dC dI (TY cI cJ cII cJJ) 0 [(a0, .inr (9, [.ref a4, .ref a5, .ref a6, .ref a7, .ref a1, .ref a3, .ref a8, .ref a9, .ref a10, .ref a11, .ref a12, .ref a13, .int 1, .int 0, .int 1, .ref a14, .ref a15, .ref a16, .ref a17, .ref a18, .ref a19, .int 2, .int 2, .ref a20, .ref a21, .ref a22, .ref a23, .int 0, .int 1, .ref a24, .ref a25, .ref a26, .ref a2, .int 0, .ref a27, .int 0])), (a1, .inl (cI, 4, .inl (tb [0, 0, 0, 0]))), (a2, .inl (cI, 4, .inl (tb [6]))), (a3, .inl (cI, 4, .inl (tb [0, 0, 0, 0])))]) (va_A [(a0, .inr (9, [.ref a4, .ref a5, .ref a6, .ref a7, .ref a1, .ref a3, .ref a8, .ref a9, .ref a10, .ref a11, .ref a12, .ref a13, .int 1, .int 0, .int 1, .ref a14, .ref a15, .ref a16, .ref a17, .ref a18, .ref a19, .int 2, .int 2, .ref a20, .ref a21, .ref a22, .ref a23, .int 0, .int 1, .ref a24, .ref a25, .ref a26, .ref a2, .int 0, .ref a27, .int 0])), (a1, .inl (cI, 4, .inl (tb [0, 0, 0, 0]))), (a2, .inl (cI, 4, .inl (tb [6]))), (a3, .inl (cI, 4, .inl (tb [0, 0, 0, 0])))] sz)) 0 0 (va_A [(a0, .inr (9, [.ref a4, .ref a5, .ref a6, .ref a7, .ref a1, .ref a3, .ref a8, .ref a9, .ref a10, .ref a11, .ref a12, .ref a13, .int 1, .int 0, .int 1, .ref a14, .ref a15, .ref a16, .ref a17, .ref a18, .ref a19, .int 2, .int 2, .ref a20, .ref a21, .ref a22, .ref a23, .int 0, .int 1, .ref a24, .ref a25, .ref a26, .ref a2, .int 0, .ref a27, .int 0])), (a1, .inl (cI, 4, .inl (tb [0, 0, 0, 0]))), (a2, .inl (cI, 4, .inl (tb [6]))), (a3, .inl (cI, 4, .inl (tb [0, 0, 0, 0])))] sz) := by
  refine SM.of (y := yX9_costOf) (maxL := 6) (av := [.ref a0, .ref a2, .int 0]) (QcL dC dI (TY cI cJ cII cJJ) 0 [(a0, .inr (9, [.ref a4, .ref a5, .ref a6, .ref a7, .ref a1, .ref a3, .ref a8, .ref a9, .ref a10, .ref a11, .ref a12, .ref a13, .int 1, .int 0, .int 1, .ref a14, .ref a15, .ref a16, .ref a17, .ref a18, .ref a19, .int 2, .int 2, .ref a20, .ref a21, .ref a22, .ref a23, .int 0, .int 1, .ref a24, .ref a25, .ref a26, .ref a2, .int 0, .ref a27, .int 0])), (a1, .inl (cI, 4, .inl (tb [0, 0, 0, 0]))), (a2, .inl (cI, 4, .inl (tb [6]))), (a3, .inl (cI, 4, .inl (tb [0, 0, 0, 0])))]) (by decide +kernel) (Nat.le_of_ble_eq_true rfl) (fun p e s m below meth c A ls hx hb hr hml hown hts hk hnm hA hK hP hD hS hX hl => ?_)
  have hown : s.vm.findClass RX9 = some m.cls := hown
  have hl : lv_has ls 6 [(0, .ref a0), (1, .ref a2), (2, .int 0)] := hl
  refine lv_lconst (v := 0) hx hb dX9_costOf_0 (by decide) ?_
  refine lv_lstore_n (lv' := [(3, .long 0), (0, .ref a0), (1, .ref a2), (2, .int 0)]) hx hb dX9_costOf_1 rfl hl (by decide) rfl (fun ls hl => ?_)
  refine lv_iconst (v := 0) hx hb dX9_costOf_2 (by decide) ?_
  refine lv_istore (lv' := [(5, .int 0), (3, .long 0), (0, .ref a0), (1, .ref a2), (2, .int 0)]) hx hb dX9_costOf_3 hl (by decide) rfl (fun ls hl => ?_)
  refine lv_iload hx hb dX9_costOf_5 (lv_at hl 0 rfl) ?_
  refine lv_aload_n hx hb dX9_costOf_7 rfl (lv_at hl 2 rfl) ?_
  refine gf (k := 12) hx hb hts inX9 hown hK hP k_807 rfl (by decide) rfl 0 rfl (.int 1) rfl dX9_costOf_8 ?_
  refine f_icmp_ge hx hb dX9_costOf_11 64 (by decide) (by decide +kernel) ?_
  refine lv_lload_n hx hb dX9_costOf_14 rfl (lv_at hl 1 rfl) ?_
  refine lv_aload_n hx hb dX9_costOf_15 rfl (lv_at hl 2 rfl) ?_
  refine gf (k := 4) hx hb hts inX9 hown hK hP k_799 rfl (by decide) rfl 0 rfl (.ref a1) rfl dX9_costOf_16 ?_
  refine lv_iload hx hb dX9_costOf_19 (lv_at hl 0 rfl) ?_
  refine ld_i hx hb hK hP 1 rfl (vin (by decide +kernel)) dX9_costOf_21 0 rfl ?_
  refine lv_i2l (v := 0) hx hb dX9_costOf_22 (by decide +kernel) ?_
  refine lv_aload_n hx hb dX9_costOf_23 rfl (lv_at hl 3 rfl) ?_
  refine lv_iload_n hx hb dX9_costOf_24 rfl (lv_at hl 4 rfl) ?_
  refine lv_iload hx hb dX9_costOf_25 (lv_at hl 0 rfl) ?_
  refine v_iadd hx hb dX9_costOf_27 0 (by decide +kernel) ?_
  refine ld_i hx hb hK hP 2 rfl (vin (by decide +kernel)) dX9_costOf_28 6 rfl ?_
  refine lv_i2l (v := 6) hx hb dX9_costOf_29 (by decide +kernel) ?_
  refine v_lmul hx hb dX9_costOf_30 0 (by decide +kernel) ?_
  refine lv_aload_n hx hb dX9_costOf_31 rfl (lv_at hl 2 rfl) ?_
  refine gf (k := 5) hx hb hts inX9 hown hK hP k_800 rfl (by decide) rfl 0 rfl (.ref a3) rfl dX9_costOf_32 ?_
  refine lv_iload hx hb dX9_costOf_35 (lv_at hl 0 rfl) ?_
  refine ld_i hx hb hK hP 3 rfl (vin (by decide +kernel)) dX9_costOf_37 0 rfl ?_
  refine lv_i2l (v := 0) hx hb dX9_costOf_38 (by decide +kernel) ?_
  refine lv_aload_n hx hb dX9_costOf_39 rfl (lv_at hl 3 rfl) ?_
  refine lv_iload_n hx hb dX9_costOf_40 rfl (lv_at hl 4 rfl) ?_
  refine lv_iload hx hb dX9_costOf_41 (lv_at hl 0 rfl) ?_
  refine v_iadd hx hb dX9_costOf_43 0 (by decide +kernel) ?_
  refine ld_i hx hb hK hP 2 rfl (vin (by decide +kernel)) dX9_costOf_44 6 rfl ?_
  refine lv_i2l (v := 6) hx hb dX9_costOf_45 (by decide +kernel) ?_
  refine v_lmul hx hb dX9_costOf_46 0 (by decide +kernel) ?_
  refine lv_aload_n hx hb dX9_costOf_47 rfl (lv_at hl 3 rfl) ?_
  refine lv_iload_n hx hb dX9_costOf_48 rfl (lv_at hl 4 rfl) ?_
  refine lv_iload hx hb dX9_costOf_49 (lv_at hl 0 rfl) ?_
  refine v_iadd hx hb dX9_costOf_51 0 (by decide +kernel) ?_
  refine ld_i hx hb hK hP 2 rfl (vin (by decide +kernel)) dX9_costOf_52 6 rfl ?_
  refine lv_i2l (v := 6) hx hb dX9_costOf_53 (by decide +kernel) ?_
  refine v_lmul hx hb dX9_costOf_54 0 (by decide +kernel) ?_
  refine v_ladd hx hb dX9_costOf_55 0 (by decide +kernel) ?_
  refine v_ladd hx hb dX9_costOf_56 0 (by decide +kernel) ?_
  refine lv_lstore_n (lv' := [(3, .long 0), (5, .int 0), (0, .ref a0), (1, .ref a2), (2, .int 0)]) hx hb dX9_costOf_57 rfl hl (by decide) rfl (fun ls hl => ?_)
  refine lv_iinc (v := 1) (lv' := [(5, .int 1), (3, .long 0), (0, .ref a0), (1, .ref a2), (2, .int 0)]) hx hb dX9_costOf_58 hl (k := 1) rfl (by decide +kernel) (by decide) rfl (fun ls hl => ?_)
  refine lv_goto (tgt := 5) hx hb dX9_costOf_61 (by decide) ?_
  refine lv_iload hx hb dX9_costOf_5 (lv_at hl 0 rfl) ?_
  refine lv_aload_n hx hb dX9_costOf_7 rfl (lv_at hl 2 rfl) ?_
  refine gf (k := 12) hx hb hts inX9 hown hK hP k_807 rfl (by decide) rfl 0 rfl (.int 1) rfl dX9_costOf_8 ?_
  refine t_icmp_ge hx hb dX9_costOf_11 64 (by decide) (by decide +kernel) ?_
  refine lv_lload_n hx hb dX9_costOf_64 rfl (lv_at hl 1 rfl) ?_
  exact r_l hx hb hr hk hK hP hD hS dX9_costOf_65
set_option maxRecDepth 100000 in
set_option maxHeartbeats 4000000 in
theorem c495_X9_isPlan (l : Launch) (dC : Nat → ClassId) (dI : Nat → Nat → Nat) (cI cJ cII cJJ : ClassId) (sz g a0 a1 a2 a3 a4 a5 a6 a7 a8 a9 a10 a11 a12 a13 a14 a15 a16 a17 a18 a19 a20 a21 a22 a23 a24 a25 a26 a27 : Nat) : Met l yX9_isPlan (.code yX9_isPlan cX9_isPlan 5 (some .boolean) :: TT) ({ frames := 2, cells := 0, slots := 0, locals := 80 }) (PcS dC dI (TY cI cJ cII cJJ) [.ref a0, .ref a2, .int 0] [(a0, .inr (9, [.ref a4, .ref a5, .ref a1, .ref a3, .ref a6, .ref a7, .ref a8, .ref a9, .ref a10, .ref a11, .ref a12, .ref a13, .int 1, .int 0, .int 1, .ref a14, .ref a15, .ref a16, .ref a17, .ref a18, .ref a19, .int 2, .int 2, .ref a20, .ref a21, .ref a22, .ref a23, .int 0, .int 1, .ref a24, .ref a25, .ref a26, .ref a2, .int 0, .ref a27, .int 0])), (a1, .inl (cI, 4, .inl (tb [0, 0, 0, 0]))), (a2, .inl (cI, 4, .inl (tb [7]))), (a3, .inl (cI, 4, .inl (tb [10, 10, 10, 10])))] sz 0 g) ((QcI dC dI (TY cI cJ cII cJJ) 1 [(a0, .inr (9, [.ref a4, .ref a5, .ref a1, .ref a3, .ref a6, .ref a7, .ref a8, .ref a9, .ref a10, .ref a11, .ref a12, .ref a13, .int 1, .int 0, .int 1, .ref a14, .ref a15, .ref a16, .ref a17, .ref a18, .ref a19, .int 2, .int 2, .ref a20, .ref a21, .ref a22, .ref a23, .int 0, .int 1, .ref a24, .ref a25, .ref a26, .ref a2, .int 0, .ref a27, .int 0])), (a1, .inl (cI, 4, .inl (tb [0, 0, 0, 0]))), (a2, .inl (cI, 4, .inl (tb [7]))), (a3, .inl (cI, 4, .inl (tb [10, 10, 10, 10])))]) (va_A [(a0, .inr (9, [.ref a4, .ref a5, .ref a1, .ref a3, .ref a6, .ref a7, .ref a8, .ref a9, .ref a10, .ref a11, .ref a12, .ref a13, .int 1, .int 0, .int 1, .ref a14, .ref a15, .ref a16, .ref a17, .ref a18, .ref a19, .int 2, .int 2, .ref a20, .ref a21, .ref a22, .ref a23, .int 0, .int 1, .ref a24, .ref a25, .ref a26, .ref a2, .int 0, .ref a27, .int 0])), (a1, .inl (cI, 4, .inl (tb [0, 0, 0, 0]))), (a2, .inl (cI, 4, .inl (tb [7]))), (a3, .inl (cI, 4, .inl (tb [10, 10, 10, 10])))] sz)) 0 0 (va_A [(a0, .inr (9, [.ref a4, .ref a5, .ref a1, .ref a3, .ref a6, .ref a7, .ref a8, .ref a9, .ref a10, .ref a11, .ref a12, .ref a13, .int 1, .int 0, .int 1, .ref a14, .ref a15, .ref a16, .ref a17, .ref a18, .ref a19, .int 2, .int 2, .ref a20, .ref a21, .ref a22, .ref a23, .int 0, .int 1, .ref a24, .ref a25, .ref a26, .ref a2, .int 0, .ref a27, .int 0])), (a1, .inl (cI, 4, .inl (tb [0, 0, 0, 0]))), (a2, .inl (cI, 4, .inl (tb [7]))), (a3, .inl (cI, 4, .inl (tb [10, 10, 10, 10])))] sz) := by
  refine SM.of (y := yX9_isPlan) (maxL := 5) (av := [.ref a0, .ref a2, .int 0]) (QcI dC dI (TY cI cJ cII cJJ) 1 [(a0, .inr (9, [.ref a4, .ref a5, .ref a1, .ref a3, .ref a6, .ref a7, .ref a8, .ref a9, .ref a10, .ref a11, .ref a12, .ref a13, .int 1, .int 0, .int 1, .ref a14, .ref a15, .ref a16, .ref a17, .ref a18, .ref a19, .int 2, .int 2, .ref a20, .ref a21, .ref a22, .ref a23, .int 0, .int 1, .ref a24, .ref a25, .ref a26, .ref a2, .int 0, .ref a27, .int 0])), (a1, .inl (cI, 4, .inl (tb [0, 0, 0, 0]))), (a2, .inl (cI, 4, .inl (tb [7]))), (a3, .inl (cI, 4, .inl (tb [10, 10, 10, 10])))]) (by decide +kernel) (Nat.le_of_ble_eq_true rfl) (fun p e s m below meth c A ls hx hb hr hml hown hts hk hnm hA hK hP hD hS hX hl => ?_)
  have hown : s.vm.findClass RX9 = some m.cls := hown
  have hl : lv_has ls 5 [(0, .ref a0), (1, .ref a2), (2, .int 0)] := hl
  refine lv_iconst (v := 1) hx hb dX9_isPlan_0 (by decide) ?_
  refine lv_istore_n (lv' := [(3, .int 1), (0, .ref a0), (1, .ref a2), (2, .int 0)]) hx hb dX9_isPlan_1 rfl hl (by decide) rfl (fun ls hl => ?_)
  refine lv_iconst (v := 0) hx hb dX9_isPlan_2 (by decide) ?_
  refine lv_istore (lv' := [(4, .int 0), (3, .int 1), (0, .ref a0), (1, .ref a2), (2, .int 0)]) hx hb dX9_isPlan_3 hl (by decide) rfl (fun ls hl => ?_)
  refine lv_iload hx hb dX9_isPlan_5 (lv_at hl 0 rfl) ?_
  refine lv_aload_n hx hb dX9_isPlan_7 rfl (lv_at hl 2 rfl) ?_
  refine gf (k := 12) hx hb hts inX9 hown hK hP k_807 rfl (by decide) rfl 0 rfl (.int 1) rfl dX9_isPlan_8 ?_
  refine f_icmp_ge hx hb dX9_isPlan_11 62 (by decide) (by decide +kernel) ?_
  refine lv_iload_n hx hb dX9_isPlan_14 rfl (lv_at hl 1 rfl) ?_
  refine f_if_eq hx hb dX9_isPlan_15 62 (by decide) (by decide +kernel) ?_
  refine lv_aload_n hx hb dX9_isPlan_18 rfl (lv_at hl 2 rfl) ?_
  refine gf (k := 2) hx hb hts inX9 hown hK hP k_797 rfl (by decide) rfl 0 rfl (.ref a1) rfl dX9_isPlan_19 ?_
  refine lv_iload hx hb dX9_isPlan_22 (lv_at hl 0 rfl) ?_
  refine ld_i hx hb hK hP 1 rfl (vin (by decide +kernel)) dX9_isPlan_24 0 rfl ?_
  refine lv_aload_n hx hb dX9_isPlan_25 rfl (lv_at hl 3 rfl) ?_
  refine lv_iload_n hx hb dX9_isPlan_26 rfl (lv_at hl 4 rfl) ?_
  refine lv_iload hx hb dX9_isPlan_27 (lv_at hl 0 rfl) ?_
  refine v_iadd hx hb dX9_isPlan_29 0 (by decide +kernel) ?_
  refine ld_i hx hb hK hP 2 rfl (vin (by decide +kernel)) dX9_isPlan_30 7 rfl ?_
  refine f_icmp_gt hx hb dX9_isPlan_31 54 (by decide) (by decide +kernel) ?_
  refine lv_aload_n hx hb dX9_isPlan_34 rfl (lv_at hl 3 rfl) ?_
  refine lv_iload_n hx hb dX9_isPlan_35 rfl (lv_at hl 4 rfl) ?_
  refine lv_iload hx hb dX9_isPlan_36 (lv_at hl 0 rfl) ?_
  refine v_iadd hx hb dX9_isPlan_38 0 (by decide +kernel) ?_
  refine ld_i hx hb hK hP 2 rfl (vin (by decide +kernel)) dX9_isPlan_39 7 rfl ?_
  refine lv_aload_n hx hb dX9_isPlan_40 rfl (lv_at hl 2 rfl) ?_
  refine gf (k := 3) hx hb hts inX9 hown hK hP k_798 rfl (by decide) rfl 0 rfl (.ref a3) rfl dX9_isPlan_41 ?_
  refine lv_iload hx hb dX9_isPlan_44 (lv_at hl 0 rfl) ?_
  refine ld_i hx hb hK hP 3 rfl (vin (by decide +kernel)) dX9_isPlan_46 10 rfl ?_
  refine f_icmp_gt hx hb dX9_isPlan_47 54 (by decide) (by decide +kernel) ?_
  refine lv_iconst (v := 1) hx hb dX9_isPlan_50 (by decide) ?_
  refine lv_goto (tgt := 55) hx hb dX9_isPlan_51 (by decide) ?_
  refine lv_istore_n (lv' := [(3, .int 1), (4, .int 0), (0, .ref a0), (1, .ref a2), (2, .int 0)]) hx hb dX9_isPlan_55 rfl hl (by decide) rfl (fun ls hl => ?_)
  refine lv_iinc (v := 1) (lv' := [(4, .int 1), (3, .int 1), (0, .ref a0), (1, .ref a2), (2, .int 0)]) hx hb dX9_isPlan_56 hl (k := 1) rfl (by decide +kernel) (by decide) rfl (fun ls hl => ?_)
  refine lv_goto (tgt := 5) hx hb dX9_isPlan_59 (by decide) ?_
  refine lv_iload hx hb dX9_isPlan_5 (lv_at hl 0 rfl) ?_
  refine lv_aload_n hx hb dX9_isPlan_7 rfl (lv_at hl 2 rfl) ?_
  refine gf (k := 12) hx hb hts inX9 hown hK hP k_807 rfl (by decide) rfl 0 rfl (.int 1) rfl dX9_isPlan_8 ?_
  refine t_icmp_ge hx hb dX9_isPlan_11 62 (by decide) (by decide +kernel) ?_
  refine lv_iconst (v := 0) hx hb dX9_isPlan_62 (by decide) ?_
  refine lv_istore (lv' := [(4, .int 0), (3, .int 1), (0, .ref a0), (1, .ref a2), (2, .int 0)]) hx hb dX9_isPlan_63 hl (by decide) rfl (fun ls hl => ?_)
  refine lv_iload hx hb dX9_isPlan_65 (lv_at hl 0 rfl) ?_
  refine lv_aload_n hx hb dX9_isPlan_67 rfl (lv_at hl 2 rfl) ?_
  refine gf (k := 13) hx hb hts inX9 hown hK hP k_808 rfl (by decide) rfl 0 rfl (.int 0) rfl dX9_isPlan_68 ?_
  refine t_icmp_ge hx hb dX9_isPlan_71 108 (by decide) (by decide +kernel) ?_
  refine lv_iload_n hx hb dX9_isPlan_108 rfl (lv_at hl 1 rfl) ?_
  exact r_z hx hb hr hk hK hP hD hS dX9_isPlan_109 rfl
set_option maxRecDepth 100000 in
set_option maxHeartbeats 4000000 in
theorem c496_X9_costOf (l : Launch) (dC : Nat → ClassId) (dI : Nat → Nat → Nat) (cI cJ cII cJJ : ClassId) (sz g a0 a1 a2 a3 a4 a5 a6 a7 a8 a9 a10 a11 a12 a13 a14 a15 a16 a17 a18 a19 a20 a21 a22 a23 a24 a25 a26 a27 : Nat) : Met l yX9_costOf (.code yX9_costOf cX9_costOf 6 (some .long) :: TT) ({ frames := 2, cells := 0, slots := 0, locals := 80 }) (PcS dC dI (TY cI cJ cII cJJ) [.ref a0, .ref a2, .int 0] [(a0, .inr (9, [.ref a4, .ref a5, .ref a6, .ref a7, .ref a1, .ref a3, .ref a8, .ref a9, .ref a10, .ref a11, .ref a12, .ref a13, .int 1, .int 0, .int 1, .ref a14, .ref a15, .ref a16, .ref a17, .ref a18, .ref a19, .int 2, .int 2, .ref a20, .ref a21, .ref a22, .ref a23, .int 0, .int 1, .ref a24, .ref a25, .ref a26, .ref a2, .int 0, .ref a27, .int 0])), (a1, .inl (cI, 4, .inl (tb [0, 0, 0, 0]))), (a2, .inl (cI, 4, .inl (tb [7]))), (a3, .inl (cI, 4, .inl (tb [0, 0, 0, 0])))] sz 0 g) ((QcL dC dI (TY cI cJ cII cJJ) 0 [(a0, .inr (9, [.ref a4, .ref a5, .ref a6, .ref a7, .ref a1, .ref a3, .ref a8, .ref a9, .ref a10, .ref a11, .ref a12, .ref a13, .int 1, .int 0, .int 1, .ref a14, .ref a15, .ref a16, .ref a17, .ref a18, .ref a19, .int 2, .int 2, .ref a20, .ref a21, .ref a22, .ref a23, .int 0, .int 1, .ref a24, .ref a25, .ref a26, .ref a2, .int 0, .ref a27, .int 0])), (a1, .inl (cI, 4, .inl (tb [0, 0, 0, 0]))), (a2, .inl (cI, 4, .inl (tb [7]))), (a3, .inl (cI, 4, .inl (tb [0, 0, 0, 0])))]) (va_A [(a0, .inr (9, [.ref a4, .ref a5, .ref a6, .ref a7, .ref a1, .ref a3, .ref a8, .ref a9, .ref a10, .ref a11, .ref a12, .ref a13, .int 1, .int 0, .int 1, .ref a14, .ref a15, .ref a16, .ref a17, .ref a18, .ref a19, .int 2, .int 2, .ref a20, .ref a21, .ref a22, .ref a23, .int 0, .int 1, .ref a24, .ref a25, .ref a26, .ref a2, .int 0, .ref a27, .int 0])), (a1, .inl (cI, 4, .inl (tb [0, 0, 0, 0]))), (a2, .inl (cI, 4, .inl (tb [7]))), (a3, .inl (cI, 4, .inl (tb [0, 0, 0, 0])))] sz)) 0 0 (va_A [(a0, .inr (9, [.ref a4, .ref a5, .ref a6, .ref a7, .ref a1, .ref a3, .ref a8, .ref a9, .ref a10, .ref a11, .ref a12, .ref a13, .int 1, .int 0, .int 1, .ref a14, .ref a15, .ref a16, .ref a17, .ref a18, .ref a19, .int 2, .int 2, .ref a20, .ref a21, .ref a22, .ref a23, .int 0, .int 1, .ref a24, .ref a25, .ref a26, .ref a2, .int 0, .ref a27, .int 0])), (a1, .inl (cI, 4, .inl (tb [0, 0, 0, 0]))), (a2, .inl (cI, 4, .inl (tb [7]))), (a3, .inl (cI, 4, .inl (tb [0, 0, 0, 0])))] sz) := by
  refine SM.of (y := yX9_costOf) (maxL := 6) (av := [.ref a0, .ref a2, .int 0]) (QcL dC dI (TY cI cJ cII cJJ) 0 [(a0, .inr (9, [.ref a4, .ref a5, .ref a6, .ref a7, .ref a1, .ref a3, .ref a8, .ref a9, .ref a10, .ref a11, .ref a12, .ref a13, .int 1, .int 0, .int 1, .ref a14, .ref a15, .ref a16, .ref a17, .ref a18, .ref a19, .int 2, .int 2, .ref a20, .ref a21, .ref a22, .ref a23, .int 0, .int 1, .ref a24, .ref a25, .ref a26, .ref a2, .int 0, .ref a27, .int 0])), (a1, .inl (cI, 4, .inl (tb [0, 0, 0, 0]))), (a2, .inl (cI, 4, .inl (tb [7]))), (a3, .inl (cI, 4, .inl (tb [0, 0, 0, 0])))]) (by decide +kernel) (Nat.le_of_ble_eq_true rfl) (fun p e s m below meth c A ls hx hb hr hml hown hts hk hnm hA hK hP hD hS hX hl => ?_)
  have hown : s.vm.findClass RX9 = some m.cls := hown
  have hl : lv_has ls 6 [(0, .ref a0), (1, .ref a2), (2, .int 0)] := hl
  refine lv_lconst (v := 0) hx hb dX9_costOf_0 (by decide) ?_
  refine lv_lstore_n (lv' := [(3, .long 0), (0, .ref a0), (1, .ref a2), (2, .int 0)]) hx hb dX9_costOf_1 rfl hl (by decide) rfl (fun ls hl => ?_)
  refine lv_iconst (v := 0) hx hb dX9_costOf_2 (by decide) ?_
  refine lv_istore (lv' := [(5, .int 0), (3, .long 0), (0, .ref a0), (1, .ref a2), (2, .int 0)]) hx hb dX9_costOf_3 hl (by decide) rfl (fun ls hl => ?_)
  refine lv_iload hx hb dX9_costOf_5 (lv_at hl 0 rfl) ?_
  refine lv_aload_n hx hb dX9_costOf_7 rfl (lv_at hl 2 rfl) ?_
  refine gf (k := 12) hx hb hts inX9 hown hK hP k_807 rfl (by decide) rfl 0 rfl (.int 1) rfl dX9_costOf_8 ?_
  refine f_icmp_ge hx hb dX9_costOf_11 64 (by decide) (by decide +kernel) ?_
  refine lv_lload_n hx hb dX9_costOf_14 rfl (lv_at hl 1 rfl) ?_
  refine lv_aload_n hx hb dX9_costOf_15 rfl (lv_at hl 2 rfl) ?_
  refine gf (k := 4) hx hb hts inX9 hown hK hP k_799 rfl (by decide) rfl 0 rfl (.ref a1) rfl dX9_costOf_16 ?_
  refine lv_iload hx hb dX9_costOf_19 (lv_at hl 0 rfl) ?_
  refine ld_i hx hb hK hP 1 rfl (vin (by decide +kernel)) dX9_costOf_21 0 rfl ?_
  refine lv_i2l (v := 0) hx hb dX9_costOf_22 (by decide +kernel) ?_
  refine lv_aload_n hx hb dX9_costOf_23 rfl (lv_at hl 3 rfl) ?_
  refine lv_iload_n hx hb dX9_costOf_24 rfl (lv_at hl 4 rfl) ?_
  refine lv_iload hx hb dX9_costOf_25 (lv_at hl 0 rfl) ?_
  refine v_iadd hx hb dX9_costOf_27 0 (by decide +kernel) ?_
  refine ld_i hx hb hK hP 2 rfl (vin (by decide +kernel)) dX9_costOf_28 7 rfl ?_
  refine lv_i2l (v := 7) hx hb dX9_costOf_29 (by decide +kernel) ?_
  refine v_lmul hx hb dX9_costOf_30 0 (by decide +kernel) ?_
  refine lv_aload_n hx hb dX9_costOf_31 rfl (lv_at hl 2 rfl) ?_
  refine gf (k := 5) hx hb hts inX9 hown hK hP k_800 rfl (by decide) rfl 0 rfl (.ref a3) rfl dX9_costOf_32 ?_
  refine lv_iload hx hb dX9_costOf_35 (lv_at hl 0 rfl) ?_
  refine ld_i hx hb hK hP 3 rfl (vin (by decide +kernel)) dX9_costOf_37 0 rfl ?_
  refine lv_i2l (v := 0) hx hb dX9_costOf_38 (by decide +kernel) ?_
  refine lv_aload_n hx hb dX9_costOf_39 rfl (lv_at hl 3 rfl) ?_
  refine lv_iload_n hx hb dX9_costOf_40 rfl (lv_at hl 4 rfl) ?_
  refine lv_iload hx hb dX9_costOf_41 (lv_at hl 0 rfl) ?_
  refine v_iadd hx hb dX9_costOf_43 0 (by decide +kernel) ?_
  refine ld_i hx hb hK hP 2 rfl (vin (by decide +kernel)) dX9_costOf_44 7 rfl ?_
  refine lv_i2l (v := 7) hx hb dX9_costOf_45 (by decide +kernel) ?_
  refine v_lmul hx hb dX9_costOf_46 0 (by decide +kernel) ?_
  refine lv_aload_n hx hb dX9_costOf_47 rfl (lv_at hl 3 rfl) ?_
  refine lv_iload_n hx hb dX9_costOf_48 rfl (lv_at hl 4 rfl) ?_
  refine lv_iload hx hb dX9_costOf_49 (lv_at hl 0 rfl) ?_
  refine v_iadd hx hb dX9_costOf_51 0 (by decide +kernel) ?_
  refine ld_i hx hb hK hP 2 rfl (vin (by decide +kernel)) dX9_costOf_52 7 rfl ?_
  refine lv_i2l (v := 7) hx hb dX9_costOf_53 (by decide +kernel) ?_
  refine v_lmul hx hb dX9_costOf_54 0 (by decide +kernel) ?_
  refine v_ladd hx hb dX9_costOf_55 0 (by decide +kernel) ?_
  refine v_ladd hx hb dX9_costOf_56 0 (by decide +kernel) ?_
  refine lv_lstore_n (lv' := [(3, .long 0), (5, .int 0), (0, .ref a0), (1, .ref a2), (2, .int 0)]) hx hb dX9_costOf_57 rfl hl (by decide) rfl (fun ls hl => ?_)
  refine lv_iinc (v := 1) (lv' := [(5, .int 1), (3, .long 0), (0, .ref a0), (1, .ref a2), (2, .int 0)]) hx hb dX9_costOf_58 hl (k := 1) rfl (by decide +kernel) (by decide) rfl (fun ls hl => ?_)
  refine lv_goto (tgt := 5) hx hb dX9_costOf_61 (by decide) ?_
  refine lv_iload hx hb dX9_costOf_5 (lv_at hl 0 rfl) ?_
  refine lv_aload_n hx hb dX9_costOf_7 rfl (lv_at hl 2 rfl) ?_
  refine gf (k := 12) hx hb hts inX9 hown hK hP k_807 rfl (by decide) rfl 0 rfl (.int 1) rfl dX9_costOf_8 ?_
  refine t_icmp_ge hx hb dX9_costOf_11 64 (by decide) (by decide +kernel) ?_
  refine lv_lload_n hx hb dX9_costOf_64 rfl (lv_at hl 1 rfl) ?_
  exact r_l hx hb hr hk hK hP hD hS dX9_costOf_65
set_option maxRecDepth 100000 in
set_option maxHeartbeats 4000000 in
theorem c497_X9_isPlan (l : Launch) (dC : Nat → ClassId) (dI : Nat → Nat → Nat) (cI cJ cII cJJ : ClassId) (sz g a0 a1 a2 a3 a4 a5 a6 a7 a8 a9 a10 a11 a12 a13 a14 a15 a16 a17 a18 a19 a20 a21 a22 a23 a24 a25 a26 a27 : Nat) : Met l yX9_isPlan (.code yX9_isPlan cX9_isPlan 5 (some .boolean) :: TT) ({ frames := 2, cells := 0, slots := 0, locals := 80 }) (PcS dC dI (TY cI cJ cII cJJ) [.ref a0, .ref a2, .int 0] [(a0, .inr (9, [.ref a4, .ref a5, .ref a1, .ref a3, .ref a6, .ref a7, .ref a8, .ref a9, .ref a10, .ref a11, .ref a12, .ref a13, .int 1, .int 0, .int 1, .ref a14, .ref a15, .ref a16, .ref a17, .ref a18, .ref a19, .int 2, .int 2, .ref a20, .ref a21, .ref a22, .ref a23, .int 0, .int 1, .ref a24, .ref a25, .ref a26, .ref a2, .int 0, .ref a27, .int 0])), (a1, .inl (cI, 4, .inl (tb [0, 0, 0, 0]))), (a2, .inl (cI, 4, .inl (tb [8]))), (a3, .inl (cI, 4, .inl (tb [10, 10, 10, 10])))] sz 0 g) ((QcI dC dI (TY cI cJ cII cJJ) 1 [(a0, .inr (9, [.ref a4, .ref a5, .ref a1, .ref a3, .ref a6, .ref a7, .ref a8, .ref a9, .ref a10, .ref a11, .ref a12, .ref a13, .int 1, .int 0, .int 1, .ref a14, .ref a15, .ref a16, .ref a17, .ref a18, .ref a19, .int 2, .int 2, .ref a20, .ref a21, .ref a22, .ref a23, .int 0, .int 1, .ref a24, .ref a25, .ref a26, .ref a2, .int 0, .ref a27, .int 0])), (a1, .inl (cI, 4, .inl (tb [0, 0, 0, 0]))), (a2, .inl (cI, 4, .inl (tb [8]))), (a3, .inl (cI, 4, .inl (tb [10, 10, 10, 10])))]) (va_A [(a0, .inr (9, [.ref a4, .ref a5, .ref a1, .ref a3, .ref a6, .ref a7, .ref a8, .ref a9, .ref a10, .ref a11, .ref a12, .ref a13, .int 1, .int 0, .int 1, .ref a14, .ref a15, .ref a16, .ref a17, .ref a18, .ref a19, .int 2, .int 2, .ref a20, .ref a21, .ref a22, .ref a23, .int 0, .int 1, .ref a24, .ref a25, .ref a26, .ref a2, .int 0, .ref a27, .int 0])), (a1, .inl (cI, 4, .inl (tb [0, 0, 0, 0]))), (a2, .inl (cI, 4, .inl (tb [8]))), (a3, .inl (cI, 4, .inl (tb [10, 10, 10, 10])))] sz)) 0 0 (va_A [(a0, .inr (9, [.ref a4, .ref a5, .ref a1, .ref a3, .ref a6, .ref a7, .ref a8, .ref a9, .ref a10, .ref a11, .ref a12, .ref a13, .int 1, .int 0, .int 1, .ref a14, .ref a15, .ref a16, .ref a17, .ref a18, .ref a19, .int 2, .int 2, .ref a20, .ref a21, .ref a22, .ref a23, .int 0, .int 1, .ref a24, .ref a25, .ref a26, .ref a2, .int 0, .ref a27, .int 0])), (a1, .inl (cI, 4, .inl (tb [0, 0, 0, 0]))), (a2, .inl (cI, 4, .inl (tb [8]))), (a3, .inl (cI, 4, .inl (tb [10, 10, 10, 10])))] sz) := by
  refine SM.of (y := yX9_isPlan) (maxL := 5) (av := [.ref a0, .ref a2, .int 0]) (QcI dC dI (TY cI cJ cII cJJ) 1 [(a0, .inr (9, [.ref a4, .ref a5, .ref a1, .ref a3, .ref a6, .ref a7, .ref a8, .ref a9, .ref a10, .ref a11, .ref a12, .ref a13, .int 1, .int 0, .int 1, .ref a14, .ref a15, .ref a16, .ref a17, .ref a18, .ref a19, .int 2, .int 2, .ref a20, .ref a21, .ref a22, .ref a23, .int 0, .int 1, .ref a24, .ref a25, .ref a26, .ref a2, .int 0, .ref a27, .int 0])), (a1, .inl (cI, 4, .inl (tb [0, 0, 0, 0]))), (a2, .inl (cI, 4, .inl (tb [8]))), (a3, .inl (cI, 4, .inl (tb [10, 10, 10, 10])))]) (by decide +kernel) (Nat.le_of_ble_eq_true rfl) (fun p e s m below meth c A ls hx hb hr hml hown hts hk hnm hA hK hP hD hS hX hl => ?_)
  have hown : s.vm.findClass RX9 = some m.cls := hown
  have hl : lv_has ls 5 [(0, .ref a0), (1, .ref a2), (2, .int 0)] := hl
  refine lv_iconst (v := 1) hx hb dX9_isPlan_0 (by decide) ?_
  refine lv_istore_n (lv' := [(3, .int 1), (0, .ref a0), (1, .ref a2), (2, .int 0)]) hx hb dX9_isPlan_1 rfl hl (by decide) rfl (fun ls hl => ?_)
  refine lv_iconst (v := 0) hx hb dX9_isPlan_2 (by decide) ?_
  refine lv_istore (lv' := [(4, .int 0), (3, .int 1), (0, .ref a0), (1, .ref a2), (2, .int 0)]) hx hb dX9_isPlan_3 hl (by decide) rfl (fun ls hl => ?_)
  refine lv_iload hx hb dX9_isPlan_5 (lv_at hl 0 rfl) ?_
  refine lv_aload_n hx hb dX9_isPlan_7 rfl (lv_at hl 2 rfl) ?_
  refine gf (k := 12) hx hb hts inX9 hown hK hP k_807 rfl (by decide) rfl 0 rfl (.int 1) rfl dX9_isPlan_8 ?_
  refine f_icmp_ge hx hb dX9_isPlan_11 62 (by decide) (by decide +kernel) ?_
  refine lv_iload_n hx hb dX9_isPlan_14 rfl (lv_at hl 1 rfl) ?_
  refine f_if_eq hx hb dX9_isPlan_15 62 (by decide) (by decide +kernel) ?_
  refine lv_aload_n hx hb dX9_isPlan_18 rfl (lv_at hl 2 rfl) ?_
  refine gf (k := 2) hx hb hts inX9 hown hK hP k_797 rfl (by decide) rfl 0 rfl (.ref a1) rfl dX9_isPlan_19 ?_
  refine lv_iload hx hb dX9_isPlan_22 (lv_at hl 0 rfl) ?_
  refine ld_i hx hb hK hP 1 rfl (vin (by decide +kernel)) dX9_isPlan_24 0 rfl ?_
  refine lv_aload_n hx hb dX9_isPlan_25 rfl (lv_at hl 3 rfl) ?_
  refine lv_iload_n hx hb dX9_isPlan_26 rfl (lv_at hl 4 rfl) ?_
  refine lv_iload hx hb dX9_isPlan_27 (lv_at hl 0 rfl) ?_
  refine v_iadd hx hb dX9_isPlan_29 0 (by decide +kernel) ?_
  refine ld_i hx hb hK hP 2 rfl (vin (by decide +kernel)) dX9_isPlan_30 8 rfl ?_
  refine f_icmp_gt hx hb dX9_isPlan_31 54 (by decide) (by decide +kernel) ?_
  refine lv_aload_n hx hb dX9_isPlan_34 rfl (lv_at hl 3 rfl) ?_
  refine lv_iload_n hx hb dX9_isPlan_35 rfl (lv_at hl 4 rfl) ?_
  refine lv_iload hx hb dX9_isPlan_36 (lv_at hl 0 rfl) ?_
  refine v_iadd hx hb dX9_isPlan_38 0 (by decide +kernel) ?_
  refine ld_i hx hb hK hP 2 rfl (vin (by decide +kernel)) dX9_isPlan_39 8 rfl ?_
  refine lv_aload_n hx hb dX9_isPlan_40 rfl (lv_at hl 2 rfl) ?_
  refine gf (k := 3) hx hb hts inX9 hown hK hP k_798 rfl (by decide) rfl 0 rfl (.ref a3) rfl dX9_isPlan_41 ?_
  refine lv_iload hx hb dX9_isPlan_44 (lv_at hl 0 rfl) ?_
  refine ld_i hx hb hK hP 3 rfl (vin (by decide +kernel)) dX9_isPlan_46 10 rfl ?_
  refine f_icmp_gt hx hb dX9_isPlan_47 54 (by decide) (by decide +kernel) ?_
  refine lv_iconst (v := 1) hx hb dX9_isPlan_50 (by decide) ?_
  refine lv_goto (tgt := 55) hx hb dX9_isPlan_51 (by decide) ?_
  refine lv_istore_n (lv' := [(3, .int 1), (4, .int 0), (0, .ref a0), (1, .ref a2), (2, .int 0)]) hx hb dX9_isPlan_55 rfl hl (by decide) rfl (fun ls hl => ?_)
  refine lv_iinc (v := 1) (lv' := [(4, .int 1), (3, .int 1), (0, .ref a0), (1, .ref a2), (2, .int 0)]) hx hb dX9_isPlan_56 hl (k := 1) rfl (by decide +kernel) (by decide) rfl (fun ls hl => ?_)
  refine lv_goto (tgt := 5) hx hb dX9_isPlan_59 (by decide) ?_
  refine lv_iload hx hb dX9_isPlan_5 (lv_at hl 0 rfl) ?_
  refine lv_aload_n hx hb dX9_isPlan_7 rfl (lv_at hl 2 rfl) ?_
  refine gf (k := 12) hx hb hts inX9 hown hK hP k_807 rfl (by decide) rfl 0 rfl (.int 1) rfl dX9_isPlan_8 ?_
  refine t_icmp_ge hx hb dX9_isPlan_11 62 (by decide) (by decide +kernel) ?_
  refine lv_iconst (v := 0) hx hb dX9_isPlan_62 (by decide) ?_
  refine lv_istore (lv' := [(4, .int 0), (3, .int 1), (0, .ref a0), (1, .ref a2), (2, .int 0)]) hx hb dX9_isPlan_63 hl (by decide) rfl (fun ls hl => ?_)
  refine lv_iload hx hb dX9_isPlan_65 (lv_at hl 0 rfl) ?_
  refine lv_aload_n hx hb dX9_isPlan_67 rfl (lv_at hl 2 rfl) ?_
  refine gf (k := 13) hx hb hts inX9 hown hK hP k_808 rfl (by decide) rfl 0 rfl (.int 0) rfl dX9_isPlan_68 ?_
  refine t_icmp_ge hx hb dX9_isPlan_71 108 (by decide) (by decide +kernel) ?_
  refine lv_iload_n hx hb dX9_isPlan_108 rfl (lv_at hl 1 rfl) ?_
  exact r_z hx hb hr hk hK hP hD hS dX9_isPlan_109 rfl
set_option maxRecDepth 100000 in
set_option maxHeartbeats 4000000 in
theorem c498_X9_costOf (l : Launch) (dC : Nat → ClassId) (dI : Nat → Nat → Nat) (cI cJ cII cJJ : ClassId) (sz g a0 a1 a2 a3 a4 a5 a6 a7 a8 a9 a10 a11 a12 a13 a14 a15 a16 a17 a18 a19 a20 a21 a22 a23 a24 a25 a26 a27 : Nat) : Met l yX9_costOf (.code yX9_costOf cX9_costOf 6 (some .long) :: TT) ({ frames := 2, cells := 0, slots := 0, locals := 80 }) (PcS dC dI (TY cI cJ cII cJJ) [.ref a0, .ref a2, .int 0] [(a0, .inr (9, [.ref a4, .ref a5, .ref a6, .ref a7, .ref a1, .ref a3, .ref a8, .ref a9, .ref a10, .ref a11, .ref a12, .ref a13, .int 1, .int 0, .int 1, .ref a14, .ref a15, .ref a16, .ref a17, .ref a18, .ref a19, .int 2, .int 2, .ref a20, .ref a21, .ref a22, .ref a23, .int 0, .int 1, .ref a24, .ref a25, .ref a26, .ref a2, .int 0, .ref a27, .int 0])), (a1, .inl (cI, 4, .inl (tb [0, 0, 0, 0]))), (a2, .inl (cI, 4, .inl (tb [8]))), (a3, .inl (cI, 4, .inl (tb [0, 0, 0, 0])))] sz 0 g) ((QcL dC dI (TY cI cJ cII cJJ) 0 [(a0, .inr (9, [.ref a4, .ref a5, .ref a6, .ref a7, .ref a1, .ref a3, .ref a8, .ref a9, .ref a10, .ref a11, .ref a12, .ref a13, .int 1, .int 0, .int 1, .ref a14, .ref a15, .ref a16, .ref a17, .ref a18, .ref a19, .int 2, .int 2, .ref a20, .ref a21, .ref a22, .ref a23, .int 0, .int 1, .ref a24, .ref a25, .ref a26, .ref a2, .int 0, .ref a27, .int 0])), (a1, .inl (cI, 4, .inl (tb [0, 0, 0, 0]))), (a2, .inl (cI, 4, .inl (tb [8]))), (a3, .inl (cI, 4, .inl (tb [0, 0, 0, 0])))]) (va_A [(a0, .inr (9, [.ref a4, .ref a5, .ref a6, .ref a7, .ref a1, .ref a3, .ref a8, .ref a9, .ref a10, .ref a11, .ref a12, .ref a13, .int 1, .int 0, .int 1, .ref a14, .ref a15, .ref a16, .ref a17, .ref a18, .ref a19, .int 2, .int 2, .ref a20, .ref a21, .ref a22, .ref a23, .int 0, .int 1, .ref a24, .ref a25, .ref a26, .ref a2, .int 0, .ref a27, .int 0])), (a1, .inl (cI, 4, .inl (tb [0, 0, 0, 0]))), (a2, .inl (cI, 4, .inl (tb [8]))), (a3, .inl (cI, 4, .inl (tb [0, 0, 0, 0])))] sz)) 0 0 (va_A [(a0, .inr (9, [.ref a4, .ref a5, .ref a6, .ref a7, .ref a1, .ref a3, .ref a8, .ref a9, .ref a10, .ref a11, .ref a12, .ref a13, .int 1, .int 0, .int 1, .ref a14, .ref a15, .ref a16, .ref a17, .ref a18, .ref a19, .int 2, .int 2, .ref a20, .ref a21, .ref a22, .ref a23, .int 0, .int 1, .ref a24, .ref a25, .ref a26, .ref a2, .int 0, .ref a27, .int 0])), (a1, .inl (cI, 4, .inl (tb [0, 0, 0, 0]))), (a2, .inl (cI, 4, .inl (tb [8]))), (a3, .inl (cI, 4, .inl (tb [0, 0, 0, 0])))] sz) := by
  refine SM.of (y := yX9_costOf) (maxL := 6) (av := [.ref a0, .ref a2, .int 0]) (QcL dC dI (TY cI cJ cII cJJ) 0 [(a0, .inr (9, [.ref a4, .ref a5, .ref a6, .ref a7, .ref a1, .ref a3, .ref a8, .ref a9, .ref a10, .ref a11, .ref a12, .ref a13, .int 1, .int 0, .int 1, .ref a14, .ref a15, .ref a16, .ref a17, .ref a18, .ref a19, .int 2, .int 2, .ref a20, .ref a21, .ref a22, .ref a23, .int 0, .int 1, .ref a24, .ref a25, .ref a26, .ref a2, .int 0, .ref a27, .int 0])), (a1, .inl (cI, 4, .inl (tb [0, 0, 0, 0]))), (a2, .inl (cI, 4, .inl (tb [8]))), (a3, .inl (cI, 4, .inl (tb [0, 0, 0, 0])))]) (by decide +kernel) (Nat.le_of_ble_eq_true rfl) (fun p e s m below meth c A ls hx hb hr hml hown hts hk hnm hA hK hP hD hS hX hl => ?_)
  have hown : s.vm.findClass RX9 = some m.cls := hown
  have hl : lv_has ls 6 [(0, .ref a0), (1, .ref a2), (2, .int 0)] := hl
  refine lv_lconst (v := 0) hx hb dX9_costOf_0 (by decide) ?_
  refine lv_lstore_n (lv' := [(3, .long 0), (0, .ref a0), (1, .ref a2), (2, .int 0)]) hx hb dX9_costOf_1 rfl hl (by decide) rfl (fun ls hl => ?_)
  refine lv_iconst (v := 0) hx hb dX9_costOf_2 (by decide) ?_
  refine lv_istore (lv' := [(5, .int 0), (3, .long 0), (0, .ref a0), (1, .ref a2), (2, .int 0)]) hx hb dX9_costOf_3 hl (by decide) rfl (fun ls hl => ?_)
  refine lv_iload hx hb dX9_costOf_5 (lv_at hl 0 rfl) ?_
  refine lv_aload_n hx hb dX9_costOf_7 rfl (lv_at hl 2 rfl) ?_
  refine gf (k := 12) hx hb hts inX9 hown hK hP k_807 rfl (by decide) rfl 0 rfl (.int 1) rfl dX9_costOf_8 ?_
  refine f_icmp_ge hx hb dX9_costOf_11 64 (by decide) (by decide +kernel) ?_
  refine lv_lload_n hx hb dX9_costOf_14 rfl (lv_at hl 1 rfl) ?_
  refine lv_aload_n hx hb dX9_costOf_15 rfl (lv_at hl 2 rfl) ?_
  refine gf (k := 4) hx hb hts inX9 hown hK hP k_799 rfl (by decide) rfl 0 rfl (.ref a1) rfl dX9_costOf_16 ?_
  refine lv_iload hx hb dX9_costOf_19 (lv_at hl 0 rfl) ?_
  refine ld_i hx hb hK hP 1 rfl (vin (by decide +kernel)) dX9_costOf_21 0 rfl ?_
  refine lv_i2l (v := 0) hx hb dX9_costOf_22 (by decide +kernel) ?_
  refine lv_aload_n hx hb dX9_costOf_23 rfl (lv_at hl 3 rfl) ?_
  refine lv_iload_n hx hb dX9_costOf_24 rfl (lv_at hl 4 rfl) ?_
  refine lv_iload hx hb dX9_costOf_25 (lv_at hl 0 rfl) ?_
  refine v_iadd hx hb dX9_costOf_27 0 (by decide +kernel) ?_
  refine ld_i hx hb hK hP 2 rfl (vin (by decide +kernel)) dX9_costOf_28 8 rfl ?_
  refine lv_i2l (v := 8) hx hb dX9_costOf_29 (by decide +kernel) ?_
  refine v_lmul hx hb dX9_costOf_30 0 (by decide +kernel) ?_
  refine lv_aload_n hx hb dX9_costOf_31 rfl (lv_at hl 2 rfl) ?_
  refine gf (k := 5) hx hb hts inX9 hown hK hP k_800 rfl (by decide) rfl 0 rfl (.ref a3) rfl dX9_costOf_32 ?_
  refine lv_iload hx hb dX9_costOf_35 (lv_at hl 0 rfl) ?_
  refine ld_i hx hb hK hP 3 rfl (vin (by decide +kernel)) dX9_costOf_37 0 rfl ?_
  refine lv_i2l (v := 0) hx hb dX9_costOf_38 (by decide +kernel) ?_
  refine lv_aload_n hx hb dX9_costOf_39 rfl (lv_at hl 3 rfl) ?_
  refine lv_iload_n hx hb dX9_costOf_40 rfl (lv_at hl 4 rfl) ?_
  refine lv_iload hx hb dX9_costOf_41 (lv_at hl 0 rfl) ?_
  refine v_iadd hx hb dX9_costOf_43 0 (by decide +kernel) ?_
  refine ld_i hx hb hK hP 2 rfl (vin (by decide +kernel)) dX9_costOf_44 8 rfl ?_
  refine lv_i2l (v := 8) hx hb dX9_costOf_45 (by decide +kernel) ?_
  refine v_lmul hx hb dX9_costOf_46 0 (by decide +kernel) ?_
  refine lv_aload_n hx hb dX9_costOf_47 rfl (lv_at hl 3 rfl) ?_
  refine lv_iload_n hx hb dX9_costOf_48 rfl (lv_at hl 4 rfl) ?_
  refine lv_iload hx hb dX9_costOf_49 (lv_at hl 0 rfl) ?_
  refine v_iadd hx hb dX9_costOf_51 0 (by decide +kernel) ?_
  refine ld_i hx hb hK hP 2 rfl (vin (by decide +kernel)) dX9_costOf_52 8 rfl ?_
  refine lv_i2l (v := 8) hx hb dX9_costOf_53 (by decide +kernel) ?_
  refine v_lmul hx hb dX9_costOf_54 0 (by decide +kernel) ?_
  refine v_ladd hx hb dX9_costOf_55 0 (by decide +kernel) ?_
  refine v_ladd hx hb dX9_costOf_56 0 (by decide +kernel) ?_
  refine lv_lstore_n (lv' := [(3, .long 0), (5, .int 0), (0, .ref a0), (1, .ref a2), (2, .int 0)]) hx hb dX9_costOf_57 rfl hl (by decide) rfl (fun ls hl => ?_)
  refine lv_iinc (v := 1) (lv' := [(5, .int 1), (3, .long 0), (0, .ref a0), (1, .ref a2), (2, .int 0)]) hx hb dX9_costOf_58 hl (k := 1) rfl (by decide +kernel) (by decide) rfl (fun ls hl => ?_)
  refine lv_goto (tgt := 5) hx hb dX9_costOf_61 (by decide) ?_
  refine lv_iload hx hb dX9_costOf_5 (lv_at hl 0 rfl) ?_
  refine lv_aload_n hx hb dX9_costOf_7 rfl (lv_at hl 2 rfl) ?_
  refine gf (k := 12) hx hb hts inX9 hown hK hP k_807 rfl (by decide) rfl 0 rfl (.int 1) rfl dX9_costOf_8 ?_
  refine t_icmp_ge hx hb dX9_costOf_11 64 (by decide) (by decide +kernel) ?_
  refine lv_lload_n hx hb dX9_costOf_64 rfl (lv_at hl 1 rfl) ?_
  exact r_l hx hb hr hk hK hP hD hS dX9_costOf_65
set_option maxRecDepth 100000 in
set_option maxHeartbeats 4000000 in
theorem c499_X9_isPlan (l : Launch) (dC : Nat → ClassId) (dI : Nat → Nat → Nat) (cI cJ cII cJJ : ClassId) (sz g a0 a1 a2 a3 a4 a5 a6 a7 a8 a9 a10 a11 a12 a13 a14 a15 a16 a17 a18 a19 a20 a21 a22 a23 a24 a25 a26 a27 : Nat) : Met l yX9_isPlan (.code yX9_isPlan cX9_isPlan 5 (some .boolean) :: TT) ({ frames := 2, cells := 0, slots := 0, locals := 80 }) (PcS dC dI (TY cI cJ cII cJJ) [.ref a0, .ref a2, .int 0] [(a0, .inr (9, [.ref a4, .ref a5, .ref a1, .ref a3, .ref a6, .ref a7, .ref a8, .ref a9, .ref a10, .ref a11, .ref a12, .ref a13, .int 1, .int 0, .int 1, .ref a14, .ref a15, .ref a16, .ref a17, .ref a18, .ref a19, .int 2, .int 2, .ref a20, .ref a21, .ref a22, .ref a23, .int 0, .int 1, .ref a24, .ref a25, .ref a26, .ref a2, .int 0, .ref a27, .int 0])), (a1, .inl (cI, 4, .inl (tb [0, 0, 0, 0]))), (a2, .inl (cI, 4, .inl (tb [9]))), (a3, .inl (cI, 4, .inl (tb [10, 10, 10, 10])))] sz 0 g) ((QcI dC dI (TY cI cJ cII cJJ) 1 [(a0, .inr (9, [.ref a4, .ref a5, .ref a1, .ref a3, .ref a6, .ref a7, .ref a8, .ref a9, .ref a10, .ref a11, .ref a12, .ref a13, .int 1, .int 0, .int 1, .ref a14, .ref a15, .ref a16, .ref a17, .ref a18, .ref a19, .int 2, .int 2, .ref a20, .ref a21, .ref a22, .ref a23, .int 0, .int 1, .ref a24, .ref a25, .ref a26, .ref a2, .int 0, .ref a27, .int 0])), (a1, .inl (cI, 4, .inl (tb [0, 0, 0, 0]))), (a2, .inl (cI, 4, .inl (tb [9]))), (a3, .inl (cI, 4, .inl (tb [10, 10, 10, 10])))]) (va_A [(a0, .inr (9, [.ref a4, .ref a5, .ref a1, .ref a3, .ref a6, .ref a7, .ref a8, .ref a9, .ref a10, .ref a11, .ref a12, .ref a13, .int 1, .int 0, .int 1, .ref a14, .ref a15, .ref a16, .ref a17, .ref a18, .ref a19, .int 2, .int 2, .ref a20, .ref a21, .ref a22, .ref a23, .int 0, .int 1, .ref a24, .ref a25, .ref a26, .ref a2, .int 0, .ref a27, .int 0])), (a1, .inl (cI, 4, .inl (tb [0, 0, 0, 0]))), (a2, .inl (cI, 4, .inl (tb [9]))), (a3, .inl (cI, 4, .inl (tb [10, 10, 10, 10])))] sz)) 0 0 (va_A [(a0, .inr (9, [.ref a4, .ref a5, .ref a1, .ref a3, .ref a6, .ref a7, .ref a8, .ref a9, .ref a10, .ref a11, .ref a12, .ref a13, .int 1, .int 0, .int 1, .ref a14, .ref a15, .ref a16, .ref a17, .ref a18, .ref a19, .int 2, .int 2, .ref a20, .ref a21, .ref a22, .ref a23, .int 0, .int 1, .ref a24, .ref a25, .ref a26, .ref a2, .int 0, .ref a27, .int 0])), (a1, .inl (cI, 4, .inl (tb [0, 0, 0, 0]))), (a2, .inl (cI, 4, .inl (tb [9]))), (a3, .inl (cI, 4, .inl (tb [10, 10, 10, 10])))] sz) := by
  refine SM.of (y := yX9_isPlan) (maxL := 5) (av := [.ref a0, .ref a2, .int 0]) (QcI dC dI (TY cI cJ cII cJJ) 1 [(a0, .inr (9, [.ref a4, .ref a5, .ref a1, .ref a3, .ref a6, .ref a7, .ref a8, .ref a9, .ref a10, .ref a11, .ref a12, .ref a13, .int 1, .int 0, .int 1, .ref a14, .ref a15, .ref a16, .ref a17, .ref a18, .ref a19, .int 2, .int 2, .ref a20, .ref a21, .ref a22, .ref a23, .int 0, .int 1, .ref a24, .ref a25, .ref a26, .ref a2, .int 0, .ref a27, .int 0])), (a1, .inl (cI, 4, .inl (tb [0, 0, 0, 0]))), (a2, .inl (cI, 4, .inl (tb [9]))), (a3, .inl (cI, 4, .inl (tb [10, 10, 10, 10])))]) (by decide +kernel) (Nat.le_of_ble_eq_true rfl) (fun p e s m below meth c A ls hx hb hr hml hown hts hk hnm hA hK hP hD hS hX hl => ?_)
  have hown : s.vm.findClass RX9 = some m.cls := hown
  have hl : lv_has ls 5 [(0, .ref a0), (1, .ref a2), (2, .int 0)] := hl
  refine lv_iconst (v := 1) hx hb dX9_isPlan_0 (by decide) ?_
  refine lv_istore_n (lv' := [(3, .int 1), (0, .ref a0), (1, .ref a2), (2, .int 0)]) hx hb dX9_isPlan_1 rfl hl (by decide) rfl (fun ls hl => ?_)
  refine lv_iconst (v := 0) hx hb dX9_isPlan_2 (by decide) ?_
  refine lv_istore (lv' := [(4, .int 0), (3, .int 1), (0, .ref a0), (1, .ref a2), (2, .int 0)]) hx hb dX9_isPlan_3 hl (by decide) rfl (fun ls hl => ?_)
  refine lv_iload hx hb dX9_isPlan_5 (lv_at hl 0 rfl) ?_
  refine lv_aload_n hx hb dX9_isPlan_7 rfl (lv_at hl 2 rfl) ?_
  refine gf (k := 12) hx hb hts inX9 hown hK hP k_807 rfl (by decide) rfl 0 rfl (.int 1) rfl dX9_isPlan_8 ?_
  refine f_icmp_ge hx hb dX9_isPlan_11 62 (by decide) (by decide +kernel) ?_
  refine lv_iload_n hx hb dX9_isPlan_14 rfl (lv_at hl 1 rfl) ?_
  refine f_if_eq hx hb dX9_isPlan_15 62 (by decide) (by decide +kernel) ?_
  refine lv_aload_n hx hb dX9_isPlan_18 rfl (lv_at hl 2 rfl) ?_
  refine gf (k := 2) hx hb hts inX9 hown hK hP k_797 rfl (by decide) rfl 0 rfl (.ref a1) rfl dX9_isPlan_19 ?_
  refine lv_iload hx hb dX9_isPlan_22 (lv_at hl 0 rfl) ?_
  refine ld_i hx hb hK hP 1 rfl (vin (by decide +kernel)) dX9_isPlan_24 0 rfl ?_
  refine lv_aload_n hx hb dX9_isPlan_25 rfl (lv_at hl 3 rfl) ?_
  refine lv_iload_n hx hb dX9_isPlan_26 rfl (lv_at hl 4 rfl) ?_
  refine lv_iload hx hb dX9_isPlan_27 (lv_at hl 0 rfl) ?_
  refine v_iadd hx hb dX9_isPlan_29 0 (by decide +kernel) ?_
  refine ld_i hx hb hK hP 2 rfl (vin (by decide +kernel)) dX9_isPlan_30 9 rfl ?_
  refine f_icmp_gt hx hb dX9_isPlan_31 54 (by decide) (by decide +kernel) ?_
  refine lv_aload_n hx hb dX9_isPlan_34 rfl (lv_at hl 3 rfl) ?_
  refine lv_iload_n hx hb dX9_isPlan_35 rfl (lv_at hl 4 rfl) ?_
  refine lv_iload hx hb dX9_isPlan_36 (lv_at hl 0 rfl) ?_
  refine v_iadd hx hb dX9_isPlan_38 0 (by decide +kernel) ?_
  refine ld_i hx hb hK hP 2 rfl (vin (by decide +kernel)) dX9_isPlan_39 9 rfl ?_
  refine lv_aload_n hx hb dX9_isPlan_40 rfl (lv_at hl 2 rfl) ?_
  refine gf (k := 3) hx hb hts inX9 hown hK hP k_798 rfl (by decide) rfl 0 rfl (.ref a3) rfl dX9_isPlan_41 ?_
  refine lv_iload hx hb dX9_isPlan_44 (lv_at hl 0 rfl) ?_
  refine ld_i hx hb hK hP 3 rfl (vin (by decide +kernel)) dX9_isPlan_46 10 rfl ?_
  refine f_icmp_gt hx hb dX9_isPlan_47 54 (by decide) (by decide +kernel) ?_
  refine lv_iconst (v := 1) hx hb dX9_isPlan_50 (by decide) ?_
  refine lv_goto (tgt := 55) hx hb dX9_isPlan_51 (by decide) ?_
  refine lv_istore_n (lv' := [(3, .int 1), (4, .int 0), (0, .ref a0), (1, .ref a2), (2, .int 0)]) hx hb dX9_isPlan_55 rfl hl (by decide) rfl (fun ls hl => ?_)
  refine lv_iinc (v := 1) (lv' := [(4, .int 1), (3, .int 1), (0, .ref a0), (1, .ref a2), (2, .int 0)]) hx hb dX9_isPlan_56 hl (k := 1) rfl (by decide +kernel) (by decide) rfl (fun ls hl => ?_)
  refine lv_goto (tgt := 5) hx hb dX9_isPlan_59 (by decide) ?_
  refine lv_iload hx hb dX9_isPlan_5 (lv_at hl 0 rfl) ?_
  refine lv_aload_n hx hb dX9_isPlan_7 rfl (lv_at hl 2 rfl) ?_
  refine gf (k := 12) hx hb hts inX9 hown hK hP k_807 rfl (by decide) rfl 0 rfl (.int 1) rfl dX9_isPlan_8 ?_
  refine t_icmp_ge hx hb dX9_isPlan_11 62 (by decide) (by decide +kernel) ?_
  refine lv_iconst (v := 0) hx hb dX9_isPlan_62 (by decide) ?_
  refine lv_istore (lv' := [(4, .int 0), (3, .int 1), (0, .ref a0), (1, .ref a2), (2, .int 0)]) hx hb dX9_isPlan_63 hl (by decide) rfl (fun ls hl => ?_)
  refine lv_iload hx hb dX9_isPlan_65 (lv_at hl 0 rfl) ?_
  refine lv_aload_n hx hb dX9_isPlan_67 rfl (lv_at hl 2 rfl) ?_
  refine gf (k := 13) hx hb hts inX9 hown hK hP k_808 rfl (by decide) rfl 0 rfl (.int 0) rfl dX9_isPlan_68 ?_
  refine t_icmp_ge hx hb dX9_isPlan_71 108 (by decide) (by decide +kernel) ?_
  refine lv_iload_n hx hb dX9_isPlan_108 rfl (lv_at hl 1 rfl) ?_
  exact r_z hx hb hr hk hK hP hD hS dX9_isPlan_109 rfl
set_option maxRecDepth 100000 in
set_option maxHeartbeats 4000000 in
theorem c500_X9_costOf (l : Launch) (dC : Nat → ClassId) (dI : Nat → Nat → Nat) (cI cJ cII cJJ : ClassId) (sz g a0 a1 a2 a3 a4 a5 a6 a7 a8 a9 a10 a11 a12 a13 a14 a15 a16 a17 a18 a19 a20 a21 a22 a23 a24 a25 a26 a27 : Nat) : Met l yX9_costOf (.code yX9_costOf cX9_costOf 6 (some .long) :: TT) ({ frames := 2, cells := 0, slots := 0, locals := 80 }) (PcS dC dI (TY cI cJ cII cJJ) [.ref a0, .ref a2, .int 0] [(a0, .inr (9, [.ref a4, .ref a5, .ref a6, .ref a7, .ref a1, .ref a3, .ref a8, .ref a9, .ref a10, .ref a11, .ref a12, .ref a13, .int 1, .int 0, .int 1, .ref a14, .ref a15, .ref a16, .ref a17, .ref a18, .ref a19, .int 2, .int 2, .ref a20, .ref a21, .ref a22, .ref a23, .int 0, .int 1, .ref a24, .ref a25, .ref a26, .ref a2, .int 0, .ref a27, .int 0])), (a1, .inl (cI, 4, .inl (tb [0, 0, 0, 0]))), (a2, .inl (cI, 4, .inl (tb [9]))), (a3, .inl (cI, 4, .inl (tb [0, 0, 0, 0])))] sz 0 g) ((QcL dC dI (TY cI cJ cII cJJ) 0 [(a0, .inr (9, [.ref a4, .ref a5, .ref a6, .ref a7, .ref a1, .ref a3, .ref a8, .ref a9, .ref a10, .ref a11, .ref a12, .ref a13, .int 1, .int 0, .int 1, .ref a14, .ref a15, .ref a16, .ref a17, .ref a18, .ref a19, .int 2, .int 2, .ref a20, .ref a21, .ref a22, .ref a23, .int 0, .int 1, .ref a24, .ref a25, .ref a26, .ref a2, .int 0, .ref a27, .int 0])), (a1, .inl (cI, 4, .inl (tb [0, 0, 0, 0]))), (a2, .inl (cI, 4, .inl (tb [9]))), (a3, .inl (cI, 4, .inl (tb [0, 0, 0, 0])))]) (va_A [(a0, .inr (9, [.ref a4, .ref a5, .ref a6, .ref a7, .ref a1, .ref a3, .ref a8, .ref a9, .ref a10, .ref a11, .ref a12, .ref a13, .int 1, .int 0, .int 1, .ref a14, .ref a15, .ref a16, .ref a17, .ref a18, .ref a19, .int 2, .int 2, .ref a20, .ref a21, .ref a22, .ref a23, .int 0, .int 1, .ref a24, .ref a25, .ref a26, .ref a2, .int 0, .ref a27, .int 0])), (a1, .inl (cI, 4, .inl (tb [0, 0, 0, 0]))), (a2, .inl (cI, 4, .inl (tb [9]))), (a3, .inl (cI, 4, .inl (tb [0, 0, 0, 0])))] sz)) 0 0 (va_A [(a0, .inr (9, [.ref a4, .ref a5, .ref a6, .ref a7, .ref a1, .ref a3, .ref a8, .ref a9, .ref a10, .ref a11, .ref a12, .ref a13, .int 1, .int 0, .int 1, .ref a14, .ref a15, .ref a16, .ref a17, .ref a18, .ref a19, .int 2, .int 2, .ref a20, .ref a21, .ref a22, .ref a23, .int 0, .int 1, .ref a24, .ref a25, .ref a26, .ref a2, .int 0, .ref a27, .int 0])), (a1, .inl (cI, 4, .inl (tb [0, 0, 0, 0]))), (a2, .inl (cI, 4, .inl (tb [9]))), (a3, .inl (cI, 4, .inl (tb [0, 0, 0, 0])))] sz) := by
  refine SM.of (y := yX9_costOf) (maxL := 6) (av := [.ref a0, .ref a2, .int 0]) (QcL dC dI (TY cI cJ cII cJJ) 0 [(a0, .inr (9, [.ref a4, .ref a5, .ref a6, .ref a7, .ref a1, .ref a3, .ref a8, .ref a9, .ref a10, .ref a11, .ref a12, .ref a13, .int 1, .int 0, .int 1, .ref a14, .ref a15, .ref a16, .ref a17, .ref a18, .ref a19, .int 2, .int 2, .ref a20, .ref a21, .ref a22, .ref a23, .int 0, .int 1, .ref a24, .ref a25, .ref a26, .ref a2, .int 0, .ref a27, .int 0])), (a1, .inl (cI, 4, .inl (tb [0, 0, 0, 0]))), (a2, .inl (cI, 4, .inl (tb [9]))), (a3, .inl (cI, 4, .inl (tb [0, 0, 0, 0])))]) (by decide +kernel) (Nat.le_of_ble_eq_true rfl) (fun p e s m below meth c A ls hx hb hr hml hown hts hk hnm hA hK hP hD hS hX hl => ?_)
  have hown : s.vm.findClass RX9 = some m.cls := hown
  have hl : lv_has ls 6 [(0, .ref a0), (1, .ref a2), (2, .int 0)] := hl
  refine lv_lconst (v := 0) hx hb dX9_costOf_0 (by decide) ?_
  refine lv_lstore_n (lv' := [(3, .long 0), (0, .ref a0), (1, .ref a2), (2, .int 0)]) hx hb dX9_costOf_1 rfl hl (by decide) rfl (fun ls hl => ?_)
  refine lv_iconst (v := 0) hx hb dX9_costOf_2 (by decide) ?_
  refine lv_istore (lv' := [(5, .int 0), (3, .long 0), (0, .ref a0), (1, .ref a2), (2, .int 0)]) hx hb dX9_costOf_3 hl (by decide) rfl (fun ls hl => ?_)
  refine lv_iload hx hb dX9_costOf_5 (lv_at hl 0 rfl) ?_
  refine lv_aload_n hx hb dX9_costOf_7 rfl (lv_at hl 2 rfl) ?_
  refine gf (k := 12) hx hb hts inX9 hown hK hP k_807 rfl (by decide) rfl 0 rfl (.int 1) rfl dX9_costOf_8 ?_
  refine f_icmp_ge hx hb dX9_costOf_11 64 (by decide) (by decide +kernel) ?_
  refine lv_lload_n hx hb dX9_costOf_14 rfl (lv_at hl 1 rfl) ?_
  refine lv_aload_n hx hb dX9_costOf_15 rfl (lv_at hl 2 rfl) ?_
  refine gf (k := 4) hx hb hts inX9 hown hK hP k_799 rfl (by decide) rfl 0 rfl (.ref a1) rfl dX9_costOf_16 ?_
  refine lv_iload hx hb dX9_costOf_19 (lv_at hl 0 rfl) ?_
  refine ld_i hx hb hK hP 1 rfl (vin (by decide +kernel)) dX9_costOf_21 0 rfl ?_
  refine lv_i2l (v := 0) hx hb dX9_costOf_22 (by decide +kernel) ?_
  refine lv_aload_n hx hb dX9_costOf_23 rfl (lv_at hl 3 rfl) ?_
  refine lv_iload_n hx hb dX9_costOf_24 rfl (lv_at hl 4 rfl) ?_
  refine lv_iload hx hb dX9_costOf_25 (lv_at hl 0 rfl) ?_
  refine v_iadd hx hb dX9_costOf_27 0 (by decide +kernel) ?_
  refine ld_i hx hb hK hP 2 rfl (vin (by decide +kernel)) dX9_costOf_28 9 rfl ?_
  refine lv_i2l (v := 9) hx hb dX9_costOf_29 (by decide +kernel) ?_
  refine v_lmul hx hb dX9_costOf_30 0 (by decide +kernel) ?_
  refine lv_aload_n hx hb dX9_costOf_31 rfl (lv_at hl 2 rfl) ?_
  refine gf (k := 5) hx hb hts inX9 hown hK hP k_800 rfl (by decide) rfl 0 rfl (.ref a3) rfl dX9_costOf_32 ?_
  refine lv_iload hx hb dX9_costOf_35 (lv_at hl 0 rfl) ?_
  refine ld_i hx hb hK hP 3 rfl (vin (by decide +kernel)) dX9_costOf_37 0 rfl ?_
  refine lv_i2l (v := 0) hx hb dX9_costOf_38 (by decide +kernel) ?_
  refine lv_aload_n hx hb dX9_costOf_39 rfl (lv_at hl 3 rfl) ?_
  refine lv_iload_n hx hb dX9_costOf_40 rfl (lv_at hl 4 rfl) ?_
  refine lv_iload hx hb dX9_costOf_41 (lv_at hl 0 rfl) ?_
  refine v_iadd hx hb dX9_costOf_43 0 (by decide +kernel) ?_
  refine ld_i hx hb hK hP 2 rfl (vin (by decide +kernel)) dX9_costOf_44 9 rfl ?_
  refine lv_i2l (v := 9) hx hb dX9_costOf_45 (by decide +kernel) ?_
  refine v_lmul hx hb dX9_costOf_46 0 (by decide +kernel) ?_
  refine lv_aload_n hx hb dX9_costOf_47 rfl (lv_at hl 3 rfl) ?_
  refine lv_iload_n hx hb dX9_costOf_48 rfl (lv_at hl 4 rfl) ?_
  refine lv_iload hx hb dX9_costOf_49 (lv_at hl 0 rfl) ?_
  refine v_iadd hx hb dX9_costOf_51 0 (by decide +kernel) ?_
  refine ld_i hx hb hK hP 2 rfl (vin (by decide +kernel)) dX9_costOf_52 9 rfl ?_
  refine lv_i2l (v := 9) hx hb dX9_costOf_53 (by decide +kernel) ?_
  refine v_lmul hx hb dX9_costOf_54 0 (by decide +kernel) ?_
  refine v_ladd hx hb dX9_costOf_55 0 (by decide +kernel) ?_
  refine v_ladd hx hb dX9_costOf_56 0 (by decide +kernel) ?_
  refine lv_lstore_n (lv' := [(3, .long 0), (5, .int 0), (0, .ref a0), (1, .ref a2), (2, .int 0)]) hx hb dX9_costOf_57 rfl hl (by decide) rfl (fun ls hl => ?_)
  refine lv_iinc (v := 1) (lv' := [(5, .int 1), (3, .long 0), (0, .ref a0), (1, .ref a2), (2, .int 0)]) hx hb dX9_costOf_58 hl (k := 1) rfl (by decide +kernel) (by decide) rfl (fun ls hl => ?_)
  refine lv_goto (tgt := 5) hx hb dX9_costOf_61 (by decide) ?_
  refine lv_iload hx hb dX9_costOf_5 (lv_at hl 0 rfl) ?_
  refine lv_aload_n hx hb dX9_costOf_7 rfl (lv_at hl 2 rfl) ?_
  refine gf (k := 12) hx hb hts inX9 hown hK hP k_807 rfl (by decide) rfl 0 rfl (.int 1) rfl dX9_costOf_8 ?_
  refine t_icmp_ge hx hb dX9_costOf_11 64 (by decide) (by decide +kernel) ?_
  refine lv_lload_n hx hb dX9_costOf_64 rfl (lv_at hl 1 rfl) ?_
  exact r_l hx hb hr hk hK hP hD hS dX9_costOf_65
set_option maxRecDepth 100000 in
set_option maxHeartbeats 4000000 in
theorem c501_X9_isPlan (l : Launch) (dC : Nat → ClassId) (dI : Nat → Nat → Nat) (cI cJ cII cJJ : ClassId) (sz g a0 a1 a2 a3 a4 a5 a6 a7 a8 a9 a10 a11 a12 a13 a14 a15 a16 a17 a18 a19 a20 a21 a22 a23 a24 a25 a26 a27 : Nat) : Met l yX9_isPlan (.code yX9_isPlan cX9_isPlan 5 (some .boolean) :: TT) ({ frames := 2, cells := 0, slots := 0, locals := 80 }) (PcS dC dI (TY cI cJ cII cJJ) [.ref a0, .ref a2, .int 0] [(a0, .inr (9, [.ref a4, .ref a5, .ref a1, .ref a3, .ref a6, .ref a7, .ref a8, .ref a9, .ref a10, .ref a11, .ref a12, .ref a13, .int 1, .int 0, .int 1, .ref a14, .ref a15, .ref a16, .ref a17, .ref a18, .ref a19, .int 2, .int 2, .ref a20, .ref a21, .ref a22, .ref a23, .int 0, .int 1, .ref a24, .ref a25, .ref a26, .ref a2, .int 0, .ref a27, .int 0])), (a1, .inl (cI, 4, .inl (tb [0, 0, 0, 0]))), (a2, .inl (cI, 4, .inl (tb [10]))), (a3, .inl (cI, 4, .inl (tb [10, 10, 10, 10])))] sz 0 g) ((QcI dC dI (TY cI cJ cII cJJ) 1 [(a0, .inr (9, [.ref a4, .ref a5, .ref a1, .ref a3, .ref a6, .ref a7, .ref a8, .ref a9, .ref a10, .ref a11, .ref a12, .ref a13, .int 1, .int 0, .int 1, .ref a14, .ref a15, .ref a16, .ref a17, .ref a18, .ref a19, .int 2, .int 2, .ref a20, .ref a21, .ref a22, .ref a23, .int 0, .int 1, .ref a24, .ref a25, .ref a26, .ref a2, .int 0, .ref a27, .int 0])), (a1, .inl (cI, 4, .inl (tb [0, 0, 0, 0]))), (a2, .inl (cI, 4, .inl (tb [10]))), (a3, .inl (cI, 4, .inl (tb [10, 10, 10, 10])))]) (va_A [(a0, .inr (9, [.ref a4, .ref a5, .ref a1, .ref a3, .ref a6, .ref a7, .ref a8, .ref a9, .ref a10, .ref a11, .ref a12, .ref a13, .int 1, .int 0, .int 1, .ref a14, .ref a15, .ref a16, .ref a17, .ref a18, .ref a19, .int 2, .int 2, .ref a20, .ref a21, .ref a22, .ref a23, .int 0, .int 1, .ref a24, .ref a25, .ref a26, .ref a2, .int 0, .ref a27, .int 0])), (a1, .inl (cI, 4, .inl (tb [0, 0, 0, 0]))), (a2, .inl (cI, 4, .inl (tb [10]))), (a3, .inl (cI, 4, .inl (tb [10, 10, 10, 10])))] sz)) 0 0 (va_A [(a0, .inr (9, [.ref a4, .ref a5, .ref a1, .ref a3, .ref a6, .ref a7, .ref a8, .ref a9, .ref a10, .ref a11, .ref a12, .ref a13, .int 1, .int 0, .int 1, .ref a14, .ref a15, .ref a16, .ref a17, .ref a18, .ref a19, .int 2, .int 2, .ref a20, .ref a21, .ref a22, .ref a23, .int 0, .int 1, .ref a24, .ref a25, .ref a26, .ref a2, .int 0, .ref a27, .int 0])), (a1, .inl (cI, 4, .inl (tb [0, 0, 0, 0]))), (a2, .inl (cI, 4, .inl (tb [10]))), (a3, .inl (cI, 4, .inl (tb [10, 10, 10, 10])))] sz) := by
  refine SM.of (y := yX9_isPlan) (maxL := 5) (av := [.ref a0, .ref a2, .int 0]) (QcI dC dI (TY cI cJ cII cJJ) 1 [(a0, .inr (9, [.ref a4, .ref a5, .ref a1, .ref a3, .ref a6, .ref a7, .ref a8, .ref a9, .ref a10, .ref a11, .ref a12, .ref a13, .int 1, .int 0, .int 1, .ref a14, .ref a15, .ref a16, .ref a17, .ref a18, .ref a19, .int 2, .int 2, .ref a20, .ref a21, .ref a22, .ref a23, .int 0, .int 1, .ref a24, .ref a25, .ref a26, .ref a2, .int 0, .ref a27, .int 0])), (a1, .inl (cI, 4, .inl (tb [0, 0, 0, 0]))), (a2, .inl (cI, 4, .inl (tb [10]))), (a3, .inl (cI, 4, .inl (tb [10, 10, 10, 10])))]) (by decide +kernel) (Nat.le_of_ble_eq_true rfl) (fun p e s m below meth c A ls hx hb hr hml hown hts hk hnm hA hK hP hD hS hX hl => ?_)
  have hown : s.vm.findClass RX9 = some m.cls := hown
  have hl : lv_has ls 5 [(0, .ref a0), (1, .ref a2), (2, .int 0)] := hl
  refine lv_iconst (v := 1) hx hb dX9_isPlan_0 (by decide) ?_
  refine lv_istore_n (lv' := [(3, .int 1), (0, .ref a0), (1, .ref a2), (2, .int 0)]) hx hb dX9_isPlan_1 rfl hl (by decide) rfl (fun ls hl => ?_)
  refine lv_iconst (v := 0) hx hb dX9_isPlan_2 (by decide) ?_
  refine lv_istore (lv' := [(4, .int 0), (3, .int 1), (0, .ref a0), (1, .ref a2), (2, .int 0)]) hx hb dX9_isPlan_3 hl (by decide) rfl (fun ls hl => ?_)
  refine lv_iload hx hb dX9_isPlan_5 (lv_at hl 0 rfl) ?_
  refine lv_aload_n hx hb dX9_isPlan_7 rfl (lv_at hl 2 rfl) ?_
  refine gf (k := 12) hx hb hts inX9 hown hK hP k_807 rfl (by decide) rfl 0 rfl (.int 1) rfl dX9_isPlan_8 ?_
  refine f_icmp_ge hx hb dX9_isPlan_11 62 (by decide) (by decide +kernel) ?_
  refine lv_iload_n hx hb dX9_isPlan_14 rfl (lv_at hl 1 rfl) ?_
  refine f_if_eq hx hb dX9_isPlan_15 62 (by decide) (by decide +kernel) ?_
  refine lv_aload_n hx hb dX9_isPlan_18 rfl (lv_at hl 2 rfl) ?_
  refine gf (k := 2) hx hb hts inX9 hown hK hP k_797 rfl (by decide) rfl 0 rfl (.ref a1) rfl dX9_isPlan_19 ?_
  refine lv_iload hx hb dX9_isPlan_22 (lv_at hl 0 rfl) ?_
  refine ld_i hx hb hK hP 1 rfl (vin (by decide +kernel)) dX9_isPlan_24 0 rfl ?_
  refine lv_aload_n hx hb dX9_isPlan_25 rfl (lv_at hl 3 rfl) ?_
  refine lv_iload_n hx hb dX9_isPlan_26 rfl (lv_at hl 4 rfl) ?_
  refine lv_iload hx hb dX9_isPlan_27 (lv_at hl 0 rfl) ?_
  refine v_iadd hx hb dX9_isPlan_29 0 (by decide +kernel) ?_
  refine ld_i hx hb hK hP 2 rfl (vin (by decide +kernel)) dX9_isPlan_30 10 rfl ?_
  refine f_icmp_gt hx hb dX9_isPlan_31 54 (by decide) (by decide +kernel) ?_
  refine lv_aload_n hx hb dX9_isPlan_34 rfl (lv_at hl 3 rfl) ?_
  refine lv_iload_n hx hb dX9_isPlan_35 rfl (lv_at hl 4 rfl) ?_
  refine lv_iload hx hb dX9_isPlan_36 (lv_at hl 0 rfl) ?_
  refine v_iadd hx hb dX9_isPlan_38 0 (by decide +kernel) ?_
  refine ld_i hx hb hK hP 2 rfl (vin (by decide +kernel)) dX9_isPlan_39 10 rfl ?_
  refine lv_aload_n hx hb dX9_isPlan_40 rfl (lv_at hl 2 rfl) ?_
  refine gf (k := 3) hx hb hts inX9 hown hK hP k_798 rfl (by decide) rfl 0 rfl (.ref a3) rfl dX9_isPlan_41 ?_
  refine lv_iload hx hb dX9_isPlan_44 (lv_at hl 0 rfl) ?_
  refine ld_i hx hb hK hP 3 rfl (vin (by decide +kernel)) dX9_isPlan_46 10 rfl ?_
  refine f_icmp_gt hx hb dX9_isPlan_47 54 (by decide) (by decide +kernel) ?_
  refine lv_iconst (v := 1) hx hb dX9_isPlan_50 (by decide) ?_
  refine lv_goto (tgt := 55) hx hb dX9_isPlan_51 (by decide) ?_
  refine lv_istore_n (lv' := [(3, .int 1), (4, .int 0), (0, .ref a0), (1, .ref a2), (2, .int 0)]) hx hb dX9_isPlan_55 rfl hl (by decide) rfl (fun ls hl => ?_)
  refine lv_iinc (v := 1) (lv' := [(4, .int 1), (3, .int 1), (0, .ref a0), (1, .ref a2), (2, .int 0)]) hx hb dX9_isPlan_56 hl (k := 1) rfl (by decide +kernel) (by decide) rfl (fun ls hl => ?_)
  refine lv_goto (tgt := 5) hx hb dX9_isPlan_59 (by decide) ?_
  refine lv_iload hx hb dX9_isPlan_5 (lv_at hl 0 rfl) ?_
  refine lv_aload_n hx hb dX9_isPlan_7 rfl (lv_at hl 2 rfl) ?_
  refine gf (k := 12) hx hb hts inX9 hown hK hP k_807 rfl (by decide) rfl 0 rfl (.int 1) rfl dX9_isPlan_8 ?_
  refine t_icmp_ge hx hb dX9_isPlan_11 62 (by decide) (by decide +kernel) ?_
  refine lv_iconst (v := 0) hx hb dX9_isPlan_62 (by decide) ?_
  refine lv_istore (lv' := [(4, .int 0), (3, .int 1), (0, .ref a0), (1, .ref a2), (2, .int 0)]) hx hb dX9_isPlan_63 hl (by decide) rfl (fun ls hl => ?_)
  refine lv_iload hx hb dX9_isPlan_65 (lv_at hl 0 rfl) ?_
  refine lv_aload_n hx hb dX9_isPlan_67 rfl (lv_at hl 2 rfl) ?_
  refine gf (k := 13) hx hb hts inX9 hown hK hP k_808 rfl (by decide) rfl 0 rfl (.int 0) rfl dX9_isPlan_68 ?_
  refine t_icmp_ge hx hb dX9_isPlan_71 108 (by decide) (by decide +kernel) ?_
  refine lv_iload_n hx hb dX9_isPlan_108 rfl (lv_at hl 1 rfl) ?_
  exact r_z hx hb hr hk hK hP hD hS dX9_isPlan_109 rfl
set_option maxRecDepth 100000 in
set_option maxHeartbeats 4000000 in
theorem c502_X9_costOf (l : Launch) (dC : Nat → ClassId) (dI : Nat → Nat → Nat) (cI cJ cII cJJ : ClassId) (sz g a0 a1 a2 a3 a4 a5 a6 a7 a8 a9 a10 a11 a12 a13 a14 a15 a16 a17 a18 a19 a20 a21 a22 a23 a24 a25 a26 a27 : Nat) : Met l yX9_costOf (.code yX9_costOf cX9_costOf 6 (some .long) :: TT) ({ frames := 2, cells := 0, slots := 0, locals := 80 }) (PcS dC dI (TY cI cJ cII cJJ) [.ref a0, .ref a2, .int 0] [(a0, .inr (9, [.ref a4, .ref a5, .ref a6, .ref a7, .ref a1, .ref a3, .ref a8, .ref a9, .ref a10, .ref a11, .ref a12, .ref a13, .int 1, .int 0, .int 1, .ref a14, .ref a15, .ref a16, .ref a17, .ref a18, .ref a19, .int 2, .int 2, .ref a20, .ref a21, .ref a22, .ref a23, .int 0, .int 1, .ref a24, .ref a25, .ref a26, .ref a2, .int 0, .ref a27, .int 0])), (a1, .inl (cI, 4, .inl (tb [0, 0, 0, 0]))), (a2, .inl (cI, 4, .inl (tb [10]))), (a3, .inl (cI, 4, .inl (tb [0, 0, 0, 0])))] sz 0 g) ((QcL dC dI (TY cI cJ cII cJJ) 0 [(a0, .inr (9, [.ref a4, .ref a5, .ref a6, .ref a7, .ref a1, .ref a3, .ref a8, .ref a9, .ref a10, .ref a11, .ref a12, .ref a13, .int 1, .int 0, .int 1, .ref a14, .ref a15, .ref a16, .ref a17, .ref a18, .ref a19, .int 2, .int 2, .ref a20, .ref a21, .ref a22, .ref a23, .int 0, .int 1, .ref a24, .ref a25, .ref a26, .ref a2, .int 0, .ref a27, .int 0])), (a1, .inl (cI, 4, .inl (tb [0, 0, 0, 0]))), (a2, .inl (cI, 4, .inl (tb [10]))), (a3, .inl (cI, 4, .inl (tb [0, 0, 0, 0])))]) (va_A [(a0, .inr (9, [.ref a4, .ref a5, .ref a6, .ref a7, .ref a1, .ref a3, .ref a8, .ref a9, .ref a10, .ref a11, .ref a12, .ref a13, .int 1, .int 0, .int 1, .ref a14, .ref a15, .ref a16, .ref a17, .ref a18, .ref a19, .int 2, .int 2, .ref a20, .ref a21, .ref a22, .ref a23, .int 0, .int 1, .ref a24, .ref a25, .ref a26, .ref a2, .int 0, .ref a27, .int 0])), (a1, .inl (cI, 4, .inl (tb [0, 0, 0, 0]))), (a2, .inl (cI, 4, .inl (tb [10]))), (a3, .inl (cI, 4, .inl (tb [0, 0, 0, 0])))] sz)) 0 0 (va_A [(a0, .inr (9, [.ref a4, .ref a5, .ref a6, .ref a7, .ref a1, .ref a3, .ref a8, .ref a9, .ref a10, .ref a11, .ref a12, .ref a13, .int 1, .int 0, .int 1, .ref a14, .ref a15, .ref a16, .ref a17, .ref a18, .ref a19, .int 2, .int 2, .ref a20, .ref a21, .ref a22, .ref a23, .int 0, .int 1, .ref a24, .ref a25, .ref a26, .ref a2, .int 0, .ref a27, .int 0])), (a1, .inl (cI, 4, .inl (tb [0, 0, 0, 0]))), (a2, .inl (cI, 4, .inl (tb [10]))), (a3, .inl (cI, 4, .inl (tb [0, 0, 0, 0])))] sz) := by
  refine SM.of (y := yX9_costOf) (maxL := 6) (av := [.ref a0, .ref a2, .int 0]) (QcL dC dI (TY cI cJ cII cJJ) 0 [(a0, .inr (9, [.ref a4, .ref a5, .ref a6, .ref a7, .ref a1, .ref a3, .ref a8, .ref a9, .ref a10, .ref a11, .ref a12, .ref a13, .int 1, .int 0, .int 1, .ref a14, .ref a15, .ref a16, .ref a17, .ref a18, .ref a19, .int 2, .int 2, .ref a20, .ref a21, .ref a22, .ref a23, .int 0, .int 1, .ref a24, .ref a25, .ref a26, .ref a2, .int 0, .ref a27, .int 0])), (a1, .inl (cI, 4, .inl (tb [0, 0, 0, 0]))), (a2, .inl (cI, 4, .inl (tb [10]))), (a3, .inl (cI, 4, .inl (tb [0, 0, 0, 0])))]) (by decide +kernel) (Nat.le_of_ble_eq_true rfl) (fun p e s m below meth c A ls hx hb hr hml hown hts hk hnm hA hK hP hD hS hX hl => ?_)
  have hown : s.vm.findClass RX9 = some m.cls := hown
  have hl : lv_has ls 6 [(0, .ref a0), (1, .ref a2), (2, .int 0)] := hl
  refine lv_lconst (v := 0) hx hb dX9_costOf_0 (by decide) ?_
  refine lv_lstore_n (lv' := [(3, .long 0), (0, .ref a0), (1, .ref a2), (2, .int 0)]) hx hb dX9_costOf_1 rfl hl (by decide) rfl (fun ls hl => ?_)
  refine lv_iconst (v := 0) hx hb dX9_costOf_2 (by decide) ?_
  refine lv_istore (lv' := [(5, .int 0), (3, .long 0), (0, .ref a0), (1, .ref a2), (2, .int 0)]) hx hb dX9_costOf_3 hl (by decide) rfl (fun ls hl => ?_)
  refine lv_iload hx hb dX9_costOf_5 (lv_at hl 0 rfl) ?_
  refine lv_aload_n hx hb dX9_costOf_7 rfl (lv_at hl 2 rfl) ?_
  refine gf (k := 12) hx hb hts inX9 hown hK hP k_807 rfl (by decide) rfl 0 rfl (.int 1) rfl dX9_costOf_8 ?_
  refine f_icmp_ge hx hb dX9_costOf_11 64 (by decide) (by decide +kernel) ?_
  refine lv_lload_n hx hb dX9_costOf_14 rfl (lv_at hl 1 rfl) ?_
  refine lv_aload_n hx hb dX9_costOf_15 rfl (lv_at hl 2 rfl) ?_
  refine gf (k := 4) hx hb hts inX9 hown hK hP k_799 rfl (by decide) rfl 0 rfl (.ref a1) rfl dX9_costOf_16 ?_
  refine lv_iload hx hb dX9_costOf_19 (lv_at hl 0 rfl) ?_
  refine ld_i hx hb hK hP 1 rfl (vin (by decide +kernel)) dX9_costOf_21 0 rfl ?_
  refine lv_i2l (v := 0) hx hb dX9_costOf_22 (by decide +kernel) ?_
  refine lv_aload_n hx hb dX9_costOf_23 rfl (lv_at hl 3 rfl) ?_
  refine lv_iload_n hx hb dX9_costOf_24 rfl (lv_at hl 4 rfl) ?_
  refine lv_iload hx hb dX9_costOf_25 (lv_at hl 0 rfl) ?_
  refine v_iadd hx hb dX9_costOf_27 0 (by decide +kernel) ?_
  refine ld_i hx hb hK hP 2 rfl (vin (by decide +kernel)) dX9_costOf_28 10 rfl ?_
  refine lv_i2l (v := 10) hx hb dX9_costOf_29 (by decide +kernel) ?_
  refine v_lmul hx hb dX9_costOf_30 0 (by decide +kernel) ?_
  refine lv_aload_n hx hb dX9_costOf_31 rfl (lv_at hl 2 rfl) ?_
  refine gf (k := 5) hx hb hts inX9 hown hK hP k_800 rfl (by decide) rfl 0 rfl (.ref a3) rfl dX9_costOf_32 ?_
  refine lv_iload hx hb dX9_costOf_35 (lv_at hl 0 rfl) ?_
  refine ld_i hx hb hK hP 3 rfl (vin (by decide +kernel)) dX9_costOf_37 0 rfl ?_
  refine lv_i2l (v := 0) hx hb dX9_costOf_38 (by decide +kernel) ?_
  refine lv_aload_n hx hb dX9_costOf_39 rfl (lv_at hl 3 rfl) ?_
  refine lv_iload_n hx hb dX9_costOf_40 rfl (lv_at hl 4 rfl) ?_
  refine lv_iload hx hb dX9_costOf_41 (lv_at hl 0 rfl) ?_
  refine v_iadd hx hb dX9_costOf_43 0 (by decide +kernel) ?_
  refine ld_i hx hb hK hP 2 rfl (vin (by decide +kernel)) dX9_costOf_44 10 rfl ?_
  refine lv_i2l (v := 10) hx hb dX9_costOf_45 (by decide +kernel) ?_
  refine v_lmul hx hb dX9_costOf_46 0 (by decide +kernel) ?_
  refine lv_aload_n hx hb dX9_costOf_47 rfl (lv_at hl 3 rfl) ?_
  refine lv_iload_n hx hb dX9_costOf_48 rfl (lv_at hl 4 rfl) ?_
  refine lv_iload hx hb dX9_costOf_49 (lv_at hl 0 rfl) ?_
  refine v_iadd hx hb dX9_costOf_51 0 (by decide +kernel) ?_
  refine ld_i hx hb hK hP 2 rfl (vin (by decide +kernel)) dX9_costOf_52 10 rfl ?_
  refine lv_i2l (v := 10) hx hb dX9_costOf_53 (by decide +kernel) ?_
  refine v_lmul hx hb dX9_costOf_54 0 (by decide +kernel) ?_
  refine v_ladd hx hb dX9_costOf_55 0 (by decide +kernel) ?_
  refine v_ladd hx hb dX9_costOf_56 0 (by decide +kernel) ?_
  refine lv_lstore_n (lv' := [(3, .long 0), (5, .int 0), (0, .ref a0), (1, .ref a2), (2, .int 0)]) hx hb dX9_costOf_57 rfl hl (by decide) rfl (fun ls hl => ?_)
  refine lv_iinc (v := 1) (lv' := [(5, .int 1), (3, .long 0), (0, .ref a0), (1, .ref a2), (2, .int 0)]) hx hb dX9_costOf_58 hl (k := 1) rfl (by decide +kernel) (by decide) rfl (fun ls hl => ?_)
  refine lv_goto (tgt := 5) hx hb dX9_costOf_61 (by decide) ?_
  refine lv_iload hx hb dX9_costOf_5 (lv_at hl 0 rfl) ?_
  refine lv_aload_n hx hb dX9_costOf_7 rfl (lv_at hl 2 rfl) ?_
  refine gf (k := 12) hx hb hts inX9 hown hK hP k_807 rfl (by decide) rfl 0 rfl (.int 1) rfl dX9_costOf_8 ?_
  refine t_icmp_ge hx hb dX9_costOf_11 64 (by decide) (by decide +kernel) ?_
  refine lv_lload_n hx hb dX9_costOf_64 rfl (lv_at hl 1 rfl) ?_
  exact r_l hx hb hr hk hK hP hD hS dX9_costOf_65
set_option maxRecDepth 100000 in
set_option maxHeartbeats 4000000 in
theorem c503_X9_isPlan (l : Launch) (dC : Nat → ClassId) (dI : Nat → Nat → Nat) (cI cJ cII cJJ : ClassId) (sz g a0 a1 a2 a3 a4 a5 a6 a7 a8 a9 a10 a11 a12 a13 a14 a15 a16 a17 a18 a19 a20 a21 a22 a23 a24 a25 a26 a27 : Nat) : Met l yX9_isPlan (.code yX9_isPlan cX9_isPlan 5 (some .boolean) :: TT) ({ frames := 2, cells := 0, slots := 0, locals := 80 }) (PcS dC dI (TY cI cJ cII cJJ) [.ref a0, .ref a2, .int 0] [(a0, .inr (9, [.ref a4, .ref a5, .ref a1, .ref a3, .ref a6, .ref a7, .ref a8, .ref a9, .ref a10, .ref a11, .ref a12, .ref a13, .int 1, .int 0, .int 1, .ref a14, .ref a15, .ref a16, .ref a17, .ref a18, .ref a19, .int 2, .int 2, .ref a20, .ref a21, .ref a22, .ref a23, .int 0, .int 1, .ref a24, .ref a25, .ref a26, .ref a2, .int 0, .ref a27, .int 0])), (a1, .inl (cI, 4, .inl (tb [0, 0, 0, 0]))), (a2, .inl (cI, 4, .inl (tb [11]))), (a3, .inl (cI, 4, .inl (tb [10, 10, 10, 10])))] sz 0 g) ((QcI dC dI (TY cI cJ cII cJJ) 0 [(a0, .inr (9, [.ref a4, .ref a5, .ref a1, .ref a3, .ref a6, .ref a7, .ref a8, .ref a9, .ref a10, .ref a11, .ref a12, .ref a13, .int 1, .int 0, .int 1, .ref a14, .ref a15, .ref a16, .ref a17, .ref a18, .ref a19, .int 2, .int 2, .ref a20, .ref a21, .ref a22, .ref a23, .int 0, .int 1, .ref a24, .ref a25, .ref a26, .ref a2, .int 0, .ref a27, .int 0])), (a1, .inl (cI, 4, .inl (tb [0, 0, 0, 0]))), (a2, .inl (cI, 4, .inl (tb [11]))), (a3, .inl (cI, 4, .inl (tb [10, 10, 10, 10])))]) (va_A [(a0, .inr (9, [.ref a4, .ref a5, .ref a1, .ref a3, .ref a6, .ref a7, .ref a8, .ref a9, .ref a10, .ref a11, .ref a12, .ref a13, .int 1, .int 0, .int 1, .ref a14, .ref a15, .ref a16, .ref a17, .ref a18, .ref a19, .int 2, .int 2, .ref a20, .ref a21, .ref a22, .ref a23, .int 0, .int 1, .ref a24, .ref a25, .ref a26, .ref a2, .int 0, .ref a27, .int 0])), (a1, .inl (cI, 4, .inl (tb [0, 0, 0, 0]))), (a2, .inl (cI, 4, .inl (tb [11]))), (a3, .inl (cI, 4, .inl (tb [10, 10, 10, 10])))] sz)) 0 0 (va_A [(a0, .inr (9, [.ref a4, .ref a5, .ref a1, .ref a3, .ref a6, .ref a7, .ref a8, .ref a9, .ref a10, .ref a11, .ref a12, .ref a13, .int 1, .int 0, .int 1, .ref a14, .ref a15, .ref a16, .ref a17, .ref a18, .ref a19, .int 2, .int 2, .ref a20, .ref a21, .ref a22, .ref a23, .int 0, .int 1, .ref a24, .ref a25, .ref a26, .ref a2, .int 0, .ref a27, .int 0])), (a1, .inl (cI, 4, .inl (tb [0, 0, 0, 0]))), (a2, .inl (cI, 4, .inl (tb [11]))), (a3, .inl (cI, 4, .inl (tb [10, 10, 10, 10])))] sz) := by
  refine SM.of (y := yX9_isPlan) (maxL := 5) (av := [.ref a0, .ref a2, .int 0]) (QcI dC dI (TY cI cJ cII cJJ) 0 [(a0, .inr (9, [.ref a4, .ref a5, .ref a1, .ref a3, .ref a6, .ref a7, .ref a8, .ref a9, .ref a10, .ref a11, .ref a12, .ref a13, .int 1, .int 0, .int 1, .ref a14, .ref a15, .ref a16, .ref a17, .ref a18, .ref a19, .int 2, .int 2, .ref a20, .ref a21, .ref a22, .ref a23, .int 0, .int 1, .ref a24, .ref a25, .ref a26, .ref a2, .int 0, .ref a27, .int 0])), (a1, .inl (cI, 4, .inl (tb [0, 0, 0, 0]))), (a2, .inl (cI, 4, .inl (tb [11]))), (a3, .inl (cI, 4, .inl (tb [10, 10, 10, 10])))]) (by decide +kernel) (Nat.le_of_ble_eq_true rfl) (fun p e s m below meth c A ls hx hb hr hml hown hts hk hnm hA hK hP hD hS hX hl => ?_)
  have hown : s.vm.findClass RX9 = some m.cls := hown
  have hl : lv_has ls 5 [(0, .ref a0), (1, .ref a2), (2, .int 0)] := hl
  refine lv_iconst (v := 1) hx hb dX9_isPlan_0 (by decide) ?_
  refine lv_istore_n (lv' := [(3, .int 1), (0, .ref a0), (1, .ref a2), (2, .int 0)]) hx hb dX9_isPlan_1 rfl hl (by decide) rfl (fun ls hl => ?_)
  refine lv_iconst (v := 0) hx hb dX9_isPlan_2 (by decide) ?_
  refine lv_istore (lv' := [(4, .int 0), (3, .int 1), (0, .ref a0), (1, .ref a2), (2, .int 0)]) hx hb dX9_isPlan_3 hl (by decide) rfl (fun ls hl => ?_)
  refine lv_iload hx hb dX9_isPlan_5 (lv_at hl 0 rfl) ?_
  refine lv_aload_n hx hb dX9_isPlan_7 rfl (lv_at hl 2 rfl) ?_
  refine gf (k := 12) hx hb hts inX9 hown hK hP k_807 rfl (by decide) rfl 0 rfl (.int 1) rfl dX9_isPlan_8 ?_
  refine f_icmp_ge hx hb dX9_isPlan_11 62 (by decide) (by decide +kernel) ?_
  refine lv_iload_n hx hb dX9_isPlan_14 rfl (lv_at hl 1 rfl) ?_
  refine f_if_eq hx hb dX9_isPlan_15 62 (by decide) (by decide +kernel) ?_
  refine lv_aload_n hx hb dX9_isPlan_18 rfl (lv_at hl 2 rfl) ?_
  refine gf (k := 2) hx hb hts inX9 hown hK hP k_797 rfl (by decide) rfl 0 rfl (.ref a1) rfl dX9_isPlan_19 ?_
  refine lv_iload hx hb dX9_isPlan_22 (lv_at hl 0 rfl) ?_
  refine ld_i hx hb hK hP 1 rfl (vin (by decide +kernel)) dX9_isPlan_24 0 rfl ?_
  refine lv_aload_n hx hb dX9_isPlan_25 rfl (lv_at hl 3 rfl) ?_
  refine lv_iload_n hx hb dX9_isPlan_26 rfl (lv_at hl 4 rfl) ?_
  refine lv_iload hx hb dX9_isPlan_27 (lv_at hl 0 rfl) ?_
  refine v_iadd hx hb dX9_isPlan_29 0 (by decide +kernel) ?_
  refine ld_i hx hb hK hP 2 rfl (vin (by decide +kernel)) dX9_isPlan_30 11 rfl ?_
  refine f_icmp_gt hx hb dX9_isPlan_31 54 (by decide) (by decide +kernel) ?_
  refine lv_aload_n hx hb dX9_isPlan_34 rfl (lv_at hl 3 rfl) ?_
  refine lv_iload_n hx hb dX9_isPlan_35 rfl (lv_at hl 4 rfl) ?_
  refine lv_iload hx hb dX9_isPlan_36 (lv_at hl 0 rfl) ?_
  refine v_iadd hx hb dX9_isPlan_38 0 (by decide +kernel) ?_
  refine ld_i hx hb hK hP 2 rfl (vin (by decide +kernel)) dX9_isPlan_39 11 rfl ?_
  refine lv_aload_n hx hb dX9_isPlan_40 rfl (lv_at hl 2 rfl) ?_
  refine gf (k := 3) hx hb hts inX9 hown hK hP k_798 rfl (by decide) rfl 0 rfl (.ref a3) rfl dX9_isPlan_41 ?_
  refine lv_iload hx hb dX9_isPlan_44 (lv_at hl 0 rfl) ?_
  refine ld_i hx hb hK hP 3 rfl (vin (by decide +kernel)) dX9_isPlan_46 10 rfl ?_
  refine t_icmp_gt hx hb dX9_isPlan_47 54 (by decide) (by decide +kernel) ?_
  refine lv_iconst (v := 0) hx hb dX9_isPlan_54 (by decide) ?_
  refine lv_istore_n (lv' := [(3, .int 0), (4, .int 0), (0, .ref a0), (1, .ref a2), (2, .int 0)]) hx hb dX9_isPlan_55 rfl hl (by decide) rfl (fun ls hl => ?_)
  refine lv_iinc (v := 1) (lv' := [(4, .int 1), (3, .int 0), (0, .ref a0), (1, .ref a2), (2, .int 0)]) hx hb dX9_isPlan_56 hl (k := 1) rfl (by decide +kernel) (by decide) rfl (fun ls hl => ?_)
  refine lv_goto (tgt := 5) hx hb dX9_isPlan_59 (by decide) ?_
  refine lv_iload hx hb dX9_isPlan_5 (lv_at hl 0 rfl) ?_
  refine lv_aload_n hx hb dX9_isPlan_7 rfl (lv_at hl 2 rfl) ?_
  refine gf (k := 12) hx hb hts inX9 hown hK hP k_807 rfl (by decide) rfl 0 rfl (.int 1) rfl dX9_isPlan_8 ?_
  refine t_icmp_ge hx hb dX9_isPlan_11 62 (by decide) (by decide +kernel) ?_
  refine lv_iconst (v := 0) hx hb dX9_isPlan_62 (by decide) ?_
  refine lv_istore (lv' := [(4, .int 0), (3, .int 0), (0, .ref a0), (1, .ref a2), (2, .int 0)]) hx hb dX9_isPlan_63 hl (by decide) rfl (fun ls hl => ?_)
  refine lv_iload hx hb dX9_isPlan_65 (lv_at hl 0 rfl) ?_
  refine lv_aload_n hx hb dX9_isPlan_67 rfl (lv_at hl 2 rfl) ?_
  refine gf (k := 13) hx hb hts inX9 hown hK hP k_808 rfl (by decide) rfl 0 rfl (.int 0) rfl dX9_isPlan_68 ?_
  refine t_icmp_ge hx hb dX9_isPlan_71 108 (by decide) (by decide +kernel) ?_
  refine lv_iload_n hx hb dX9_isPlan_108 rfl (lv_at hl 1 rfl) ?_
  exact r_z hx hb hr hk hK hP hD hS dX9_isPlan_109 rfl
set_option maxRecDepth 100000 in
set_option maxHeartbeats 4000000 in
theorem c504_X9_isPlan (l : Launch) (dC : Nat → ClassId) (dI : Nat → Nat → Nat) (cI cJ cII cJJ : ClassId) (sz g a0 a1 a2 a3 a4 a5 a6 a7 a8 a9 a10 a11 a12 a13 a14 a15 a16 a17 a18 a19 a20 a21 a22 a23 a24 a25 a26 a27 : Nat) : Met l yX9_isPlan (.code yX9_isPlan cX9_isPlan 5 (some .boolean) :: TT) ({ frames := 2, cells := 0, slots := 0, locals := 80 }) (PcS dC dI (TY cI cJ cII cJJ) [.ref a0, .ref a2, .int 0] [(a0, .inr (9, [.ref a4, .ref a5, .ref a1, .ref a3, .ref a6, .ref a7, .ref a8, .ref a9, .ref a10, .ref a11, .ref a12, .ref a13, .int 1, .int 0, .int 1, .ref a14, .ref a15, .ref a16, .ref a17, .ref a18, .ref a19, .int 2, .int 2, .ref a20, .ref a21, .ref a22, .ref a23, .int 0, .int 1, .ref a24, .ref a25, .ref a26, .ref a2, .int 0, .ref a27, .int 0])), (a1, .inl (cI, 4, .inl (tb [0, 0, 0, 0]))), (a2, .inl (cI, 4, .inl (tb [12]))), (a3, .inl (cI, 4, .inl (tb [10, 10, 10, 10])))] sz 0 g) ((QcI dC dI (TY cI cJ cII cJJ) 0 [(a0, .inr (9, [.ref a4, .ref a5, .ref a1, .ref a3, .ref a6, .ref a7, .ref a8, .ref a9, .ref a10, .ref a11, .ref a12, .ref a13, .int 1, .int 0, .int 1, .ref a14, .ref a15, .ref a16, .ref a17, .ref a18, .ref a19, .int 2, .int 2, .ref a20, .ref a21, .ref a22, .ref a23, .int 0, .int 1, .ref a24, .ref a25, .ref a26, .ref a2, .int 0, .ref a27, .int 0])), (a1, .inl (cI, 4, .inl (tb [0, 0, 0, 0]))), (a2, .inl (cI, 4, .inl (tb [12]))), (a3, .inl (cI, 4, .inl (tb [10, 10, 10, 10])))]) (va_A [(a0, .inr (9, [.ref a4, .ref a5, .ref a1, .ref a3, .ref a6, .ref a7, .ref a8, .ref a9, .ref a10, .ref a11, .ref a12, .ref a13, .int 1, .int 0, .int 1, .ref a14, .ref a15, .ref a16, .ref a17, .ref a18, .ref a19, .int 2, .int 2, .ref a20, .ref a21, .ref a22, .ref a23, .int 0, .int 1, .ref a24, .ref a25, .ref a26, .ref a2, .int 0, .ref a27, .int 0])), (a1, .inl (cI, 4, .inl (tb [0, 0, 0, 0]))), (a2, .inl (cI, 4, .inl (tb [12]))), (a3, .inl (cI, 4, .inl (tb [10, 10, 10, 10])))] sz)) 0 0 (va_A [(a0, .inr (9, [.ref a4, .ref a5, .ref a1, .ref a3, .ref a6, .ref a7, .ref a8, .ref a9, .ref a10, .ref a11, .ref a12, .ref a13, .int 1, .int 0, .int 1, .ref a14, .ref a15, .ref a16, .ref a17, .ref a18, .ref a19, .int 2, .int 2, .ref a20, .ref a21, .ref a22, .ref a23, .int 0, .int 1, .ref a24, .ref a25, .ref a26, .ref a2, .int 0, .ref a27, .int 0])), (a1, .inl (cI, 4, .inl (tb [0, 0, 0, 0]))), (a2, .inl (cI, 4, .inl (tb [12]))), (a3, .inl (cI, 4, .inl (tb [10, 10, 10, 10])))] sz) := by
  refine SM.of (y := yX9_isPlan) (maxL := 5) (av := [.ref a0, .ref a2, .int 0]) (QcI dC dI (TY cI cJ cII cJJ) 0 [(a0, .inr (9, [.ref a4, .ref a5, .ref a1, .ref a3, .ref a6, .ref a7, .ref a8, .ref a9, .ref a10, .ref a11, .ref a12, .ref a13, .int 1, .int 0, .int 1, .ref a14, .ref a15, .ref a16, .ref a17, .ref a18, .ref a19, .int 2, .int 2, .ref a20, .ref a21, .ref a22, .ref a23, .int 0, .int 1, .ref a24, .ref a25, .ref a26, .ref a2, .int 0, .ref a27, .int 0])), (a1, .inl (cI, 4, .inl (tb [0, 0, 0, 0]))), (a2, .inl (cI, 4, .inl (tb [12]))), (a3, .inl (cI, 4, .inl (tb [10, 10, 10, 10])))]) (by decide +kernel) (Nat.le_of_ble_eq_true rfl) (fun p e s m below meth c A ls hx hb hr hml hown hts hk hnm hA hK hP hD hS hX hl => ?_)
  have hown : s.vm.findClass RX9 = some m.cls := hown
  have hl : lv_has ls 5 [(0, .ref a0), (1, .ref a2), (2, .int 0)] := hl
  refine lv_iconst (v := 1) hx hb dX9_isPlan_0 (by decide) ?_
  refine lv_istore_n (lv' := [(3, .int 1), (0, .ref a0), (1, .ref a2), (2, .int 0)]) hx hb dX9_isPlan_1 rfl hl (by decide) rfl (fun ls hl => ?_)
  refine lv_iconst (v := 0) hx hb dX9_isPlan_2 (by decide) ?_
  refine lv_istore (lv' := [(4, .int 0), (3, .int 1), (0, .ref a0), (1, .ref a2), (2, .int 0)]) hx hb dX9_isPlan_3 hl (by decide) rfl (fun ls hl => ?_)
  refine lv_iload hx hb dX9_isPlan_5 (lv_at hl 0 rfl) ?_
  refine lv_aload_n hx hb dX9_isPlan_7 rfl (lv_at hl 2 rfl) ?_
  refine gf (k := 12) hx hb hts inX9 hown hK hP k_807 rfl (by decide) rfl 0 rfl (.int 1) rfl dX9_isPlan_8 ?_
  refine f_icmp_ge hx hb dX9_isPlan_11 62 (by decide) (by decide +kernel) ?_
  refine lv_iload_n hx hb dX9_isPlan_14 rfl (lv_at hl 1 rfl) ?_
  refine f_if_eq hx hb dX9_isPlan_15 62 (by decide) (by decide +kernel) ?_
  refine lv_aload_n hx hb dX9_isPlan_18 rfl (lv_at hl 2 rfl) ?_
  refine gf (k := 2) hx hb hts inX9 hown hK hP k_797 rfl (by decide) rfl 0 rfl (.ref a1) rfl dX9_isPlan_19 ?_
  refine lv_iload hx hb dX9_isPlan_22 (lv_at hl 0 rfl) ?_
  refine ld_i hx hb hK hP 1 rfl (vin (by decide +kernel)) dX9_isPlan_24 0 rfl ?_
  refine lv_aload_n hx hb dX9_isPlan_25 rfl (lv_at hl 3 rfl) ?_
  refine lv_iload_n hx hb dX9_isPlan_26 rfl (lv_at hl 4 rfl) ?_
  refine lv_iload hx hb dX9_isPlan_27 (lv_at hl 0 rfl) ?_
  refine v_iadd hx hb dX9_isPlan_29 0 (by decide +kernel) ?_
  refine ld_i hx hb hK hP 2 rfl (vin (by decide +kernel)) dX9_isPlan_30 12 rfl ?_
  refine f_icmp_gt hx hb dX9_isPlan_31 54 (by decide) (by decide +kernel) ?_
  refine lv_aload_n hx hb dX9_isPlan_34 rfl (lv_at hl 3 rfl) ?_
  refine lv_iload_n hx hb dX9_isPlan_35 rfl (lv_at hl 4 rfl) ?_
  refine lv_iload hx hb dX9_isPlan_36 (lv_at hl 0 rfl) ?_
  refine v_iadd hx hb dX9_isPlan_38 0 (by decide +kernel) ?_
  refine ld_i hx hb hK hP 2 rfl (vin (by decide +kernel)) dX9_isPlan_39 12 rfl ?_
  refine lv_aload_n hx hb dX9_isPlan_40 rfl (lv_at hl 2 rfl) ?_
  refine gf (k := 3) hx hb hts inX9 hown hK hP k_798 rfl (by decide) rfl 0 rfl (.ref a3) rfl dX9_isPlan_41 ?_
  refine lv_iload hx hb dX9_isPlan_44 (lv_at hl 0 rfl) ?_
  refine ld_i hx hb hK hP 3 rfl (vin (by decide +kernel)) dX9_isPlan_46 10 rfl ?_
  refine t_icmp_gt hx hb dX9_isPlan_47 54 (by decide) (by decide +kernel) ?_
  refine lv_iconst (v := 0) hx hb dX9_isPlan_54 (by decide) ?_
  refine lv_istore_n (lv' := [(3, .int 0), (4, .int 0), (0, .ref a0), (1, .ref a2), (2, .int 0)]) hx hb dX9_isPlan_55 rfl hl (by decide) rfl (fun ls hl => ?_)
  refine lv_iinc (v := 1) (lv' := [(4, .int 1), (3, .int 0), (0, .ref a0), (1, .ref a2), (2, .int 0)]) hx hb dX9_isPlan_56 hl (k := 1) rfl (by decide +kernel) (by decide) rfl (fun ls hl => ?_)
  refine lv_goto (tgt := 5) hx hb dX9_isPlan_59 (by decide) ?_
  refine lv_iload hx hb dX9_isPlan_5 (lv_at hl 0 rfl) ?_
  refine lv_aload_n hx hb dX9_isPlan_7 rfl (lv_at hl 2 rfl) ?_
  refine gf (k := 12) hx hb hts inX9 hown hK hP k_807 rfl (by decide) rfl 0 rfl (.int 1) rfl dX9_isPlan_8 ?_
  refine t_icmp_ge hx hb dX9_isPlan_11 62 (by decide) (by decide +kernel) ?_
  refine lv_iconst (v := 0) hx hb dX9_isPlan_62 (by decide) ?_
  refine lv_istore (lv' := [(4, .int 0), (3, .int 0), (0, .ref a0), (1, .ref a2), (2, .int 0)]) hx hb dX9_isPlan_63 hl (by decide) rfl (fun ls hl => ?_)
  refine lv_iload hx hb dX9_isPlan_65 (lv_at hl 0 rfl) ?_
  refine lv_aload_n hx hb dX9_isPlan_67 rfl (lv_at hl 2 rfl) ?_
  refine gf (k := 13) hx hb hts inX9 hown hK hP k_808 rfl (by decide) rfl 0 rfl (.int 0) rfl dX9_isPlan_68 ?_
  refine t_icmp_ge hx hb dX9_isPlan_71 108 (by decide) (by decide +kernel) ?_
  refine lv_iload_n hx hb dX9_isPlan_108 rfl (lv_at hl 1 rfl) ?_
  exact r_z hx hb hr hk hK hP hD hS dX9_isPlan_109 rfl
set_option maxRecDepth 100000 in
set_option maxHeartbeats 4000000 in
theorem c505_X9_isPlan (l : Launch) (dC : Nat → ClassId) (dI : Nat → Nat → Nat) (cI cJ cII cJJ : ClassId) (sz g a0 a1 a2 a3 a4 a5 a6 a7 a8 a9 a10 a11 a12 a13 a14 a15 a16 a17 a18 a19 a20 a21 a22 a23 a24 a25 a26 a27 : Nat) : Met l yX9_isPlan (.code yX9_isPlan cX9_isPlan 5 (some .boolean) :: TT) ({ frames := 2, cells := 0, slots := 0, locals := 80 }) (PcS dC dI (TY cI cJ cII cJJ) [.ref a0, .ref a2, .int 0] [(a0, .inr (9, [.ref a4, .ref a5, .ref a1, .ref a3, .ref a6, .ref a7, .ref a8, .ref a9, .ref a10, .ref a11, .ref a12, .ref a13, .int 1, .int 0, .int 1, .ref a14, .ref a15, .ref a16, .ref a17, .ref a18, .ref a19, .int 2, .int 2, .ref a20, .ref a21, .ref a22, .ref a23, .int 0, .int 1, .ref a24, .ref a25, .ref a26, .ref a2, .int 0, .ref a27, .int 0])), (a1, .inl (cI, 4, .inl (tb [0, 0, 0, 0]))), (a2, .inl (cI, 4, .inl (tb [13]))), (a3, .inl (cI, 4, .inl (tb [10, 10, 10, 10])))] sz 0 g) ((QcI dC dI (TY cI cJ cII cJJ) 0 [(a0, .inr (9, [.ref a4, .ref a5, .ref a1, .ref a3, .ref a6, .ref a7, .ref a8, .ref a9, .ref a10, .ref a11, .ref a12, .ref a13, .int 1, .int 0, .int 1, .ref a14, .ref a15, .ref a16, .ref a17, .ref a18, .ref a19, .int 2, .int 2, .ref a20, .ref a21, .ref a22, .ref a23, .int 0, .int 1, .ref a24, .ref a25, .ref a26, .ref a2, .int 0, .ref a27, .int 0])), (a1, .inl (cI, 4, .inl (tb [0, 0, 0, 0]))), (a2, .inl (cI, 4, .inl (tb [13]))), (a3, .inl (cI, 4, .inl (tb [10, 10, 10, 10])))]) (va_A [(a0, .inr (9, [.ref a4, .ref a5, .ref a1, .ref a3, .ref a6, .ref a7, .ref a8, .ref a9, .ref a10, .ref a11, .ref a12, .ref a13, .int 1, .int 0, .int 1, .ref a14, .ref a15, .ref a16, .ref a17, .ref a18, .ref a19, .int 2, .int 2, .ref a20, .ref a21, .ref a22, .ref a23, .int 0, .int 1, .ref a24, .ref a25, .ref a26, .ref a2, .int 0, .ref a27, .int 0])), (a1, .inl (cI, 4, .inl (tb [0, 0, 0, 0]))), (a2, .inl (cI, 4, .inl (tb [13]))), (a3, .inl (cI, 4, .inl (tb [10, 10, 10, 10])))] sz)) 0 0 (va_A [(a0, .inr (9, [.ref a4, .ref a5, .ref a1, .ref a3, .ref a6, .ref a7, .ref a8, .ref a9, .ref a10, .ref a11, .ref a12, .ref a13, .int 1, .int 0, .int 1, .ref a14, .ref a15, .ref a16, .ref a17, .ref a18, .ref a19, .int 2, .int 2, .ref a20, .ref a21, .ref a22, .ref a23, .int 0, .int 1, .ref a24, .ref a25, .ref a26, .ref a2, .int 0, .ref a27, .int 0])), (a1, .inl (cI, 4, .inl (tb [0, 0, 0, 0]))), (a2, .inl (cI, 4, .inl (tb [13]))), (a3, .inl (cI, 4, .inl (tb [10, 10, 10, 10])))] sz) := by
  refine SM.of (y := yX9_isPlan) (maxL := 5) (av := [.ref a0, .ref a2, .int 0]) (QcI dC dI (TY cI cJ cII cJJ) 0 [(a0, .inr (9, [.ref a4, .ref a5, .ref a1, .ref a3, .ref a6, .ref a7, .ref a8, .ref a9, .ref a10, .ref a11, .ref a12, .ref a13, .int 1, .int 0, .int 1, .ref a14, .ref a15, .ref a16, .ref a17, .ref a18, .ref a19, .int 2, .int 2, .ref a20, .ref a21, .ref a22, .ref a23, .int 0, .int 1, .ref a24, .ref a25, .ref a26, .ref a2, .int 0, .ref a27, .int 0])), (a1, .inl (cI, 4, .inl (tb [0, 0, 0, 0]))), (a2, .inl (cI, 4, .inl (tb [13]))), (a3, .inl (cI, 4, .inl (tb [10, 10, 10, 10])))]) (by decide +kernel) (Nat.le_of_ble_eq_true rfl) (fun p e s m below meth c A ls hx hb hr hml hown hts hk hnm hA hK hP hD hS hX hl => ?_)
  have hown : s.vm.findClass RX9 = some m.cls := hown
  have hl : lv_has ls 5 [(0, .ref a0), (1, .ref a2), (2, .int 0)] := hl
  refine lv_iconst (v := 1) hx hb dX9_isPlan_0 (by decide) ?_
  refine lv_istore_n (lv' := [(3, .int 1), (0, .ref a0), (1, .ref a2), (2, .int 0)]) hx hb dX9_isPlan_1 rfl hl (by decide) rfl (fun ls hl => ?_)
  refine lv_iconst (v := 0) hx hb dX9_isPlan_2 (by decide) ?_
  refine lv_istore (lv' := [(4, .int 0), (3, .int 1), (0, .ref a0), (1, .ref a2), (2, .int 0)]) hx hb dX9_isPlan_3 hl (by decide) rfl (fun ls hl => ?_)
  refine lv_iload hx hb dX9_isPlan_5 (lv_at hl 0 rfl) ?_
  refine lv_aload_n hx hb dX9_isPlan_7 rfl (lv_at hl 2 rfl) ?_
  refine gf (k := 12) hx hb hts inX9 hown hK hP k_807 rfl (by decide) rfl 0 rfl (.int 1) rfl dX9_isPlan_8 ?_
  refine f_icmp_ge hx hb dX9_isPlan_11 62 (by decide) (by decide +kernel) ?_
  refine lv_iload_n hx hb dX9_isPlan_14 rfl (lv_at hl 1 rfl) ?_
  refine f_if_eq hx hb dX9_isPlan_15 62 (by decide) (by decide +kernel) ?_
  refine lv_aload_n hx hb dX9_isPlan_18 rfl (lv_at hl 2 rfl) ?_
  refine gf (k := 2) hx hb hts inX9 hown hK hP k_797 rfl (by decide) rfl 0 rfl (.ref a1) rfl dX9_isPlan_19 ?_
  refine lv_iload hx hb dX9_isPlan_22 (lv_at hl 0 rfl) ?_
  refine ld_i hx hb hK hP 1 rfl (vin (by decide +kernel)) dX9_isPlan_24 0 rfl ?_
  refine lv_aload_n hx hb dX9_isPlan_25 rfl (lv_at hl 3 rfl) ?_
  refine lv_iload_n hx hb dX9_isPlan_26 rfl (lv_at hl 4 rfl) ?_
  refine lv_iload hx hb dX9_isPlan_27 (lv_at hl 0 rfl) ?_
  refine v_iadd hx hb dX9_isPlan_29 0 (by decide +kernel) ?_
  refine ld_i hx hb hK hP 2 rfl (vin (by decide +kernel)) dX9_isPlan_30 13 rfl ?_
  refine f_icmp_gt hx hb dX9_isPlan_31 54 (by decide) (by decide +kernel) ?_
  refine lv_aload_n hx hb dX9_isPlan_34 rfl (lv_at hl 3 rfl) ?_
  refine lv_iload_n hx hb dX9_isPlan_35 rfl (lv_at hl 4 rfl) ?_
  refine lv_iload hx hb dX9_isPlan_36 (lv_at hl 0 rfl) ?_
  refine v_iadd hx hb dX9_isPlan_38 0 (by decide +kernel) ?_
  refine ld_i hx hb hK hP 2 rfl (vin (by decide +kernel)) dX9_isPlan_39 13 rfl ?_
  refine lv_aload_n hx hb dX9_isPlan_40 rfl (lv_at hl 2 rfl) ?_
  refine gf (k := 3) hx hb hts inX9 hown hK hP k_798 rfl (by decide) rfl 0 rfl (.ref a3) rfl dX9_isPlan_41 ?_
  refine lv_iload hx hb dX9_isPlan_44 (lv_at hl 0 rfl) ?_
  refine ld_i hx hb hK hP 3 rfl (vin (by decide +kernel)) dX9_isPlan_46 10 rfl ?_
  refine t_icmp_gt hx hb dX9_isPlan_47 54 (by decide) (by decide +kernel) ?_
  refine lv_iconst (v := 0) hx hb dX9_isPlan_54 (by decide) ?_
  refine lv_istore_n (lv' := [(3, .int 0), (4, .int 0), (0, .ref a0), (1, .ref a2), (2, .int 0)]) hx hb dX9_isPlan_55 rfl hl (by decide) rfl (fun ls hl => ?_)
  refine lv_iinc (v := 1) (lv' := [(4, .int 1), (3, .int 0), (0, .ref a0), (1, .ref a2), (2, .int 0)]) hx hb dX9_isPlan_56 hl (k := 1) rfl (by decide +kernel) (by decide) rfl (fun ls hl => ?_)
  refine lv_goto (tgt := 5) hx hb dX9_isPlan_59 (by decide) ?_
  refine lv_iload hx hb dX9_isPlan_5 (lv_at hl 0 rfl) ?_
  refine lv_aload_n hx hb dX9_isPlan_7 rfl (lv_at hl 2 rfl) ?_
  refine gf (k := 12) hx hb hts inX9 hown hK hP k_807 rfl (by decide) rfl 0 rfl (.int 1) rfl dX9_isPlan_8 ?_
  refine t_icmp_ge hx hb dX9_isPlan_11 62 (by decide) (by decide +kernel) ?_
  refine lv_iconst (v := 0) hx hb dX9_isPlan_62 (by decide) ?_
  refine lv_istore (lv' := [(4, .int 0), (3, .int 0), (0, .ref a0), (1, .ref a2), (2, .int 0)]) hx hb dX9_isPlan_63 hl (by decide) rfl (fun ls hl => ?_)
  refine lv_iload hx hb dX9_isPlan_65 (lv_at hl 0 rfl) ?_
  refine lv_aload_n hx hb dX9_isPlan_67 rfl (lv_at hl 2 rfl) ?_
  refine gf (k := 13) hx hb hts inX9 hown hK hP k_808 rfl (by decide) rfl 0 rfl (.int 0) rfl dX9_isPlan_68 ?_
  refine t_icmp_ge hx hb dX9_isPlan_71 108 (by decide) (by decide +kernel) ?_
  refine lv_iload_n hx hb dX9_isPlan_108 rfl (lv_at hl 1 rfl) ?_
  exact r_z hx hb hr hk hK hP hD hS dX9_isPlan_109 rfl
set_option maxRecDepth 100000 in
set_option maxHeartbeats 4000000 in
theorem c506_X9_isPlan (l : Launch) (dC : Nat → ClassId) (dI : Nat → Nat → Nat) (cI cJ cII cJJ : ClassId) (sz g a0 a1 a2 a3 a4 a5 a6 a7 a8 a9 a10 a11 a12 a13 a14 a15 a16 a17 a18 a19 a20 a21 a22 a23 a24 a25 a26 a27 : Nat) : Met l yX9_isPlan (.code yX9_isPlan cX9_isPlan 5 (some .boolean) :: TT) ({ frames := 2, cells := 0, slots := 0, locals := 80 }) (PcS dC dI (TY cI cJ cII cJJ) [.ref a0, .ref a2, .int 0] [(a0, .inr (9, [.ref a4, .ref a5, .ref a1, .ref a3, .ref a6, .ref a7, .ref a8, .ref a9, .ref a10, .ref a11, .ref a12, .ref a13, .int 1, .int 0, .int 1, .ref a14, .ref a15, .ref a16, .ref a17, .ref a18, .ref a19, .int 2, .int 2, .ref a20, .ref a21, .ref a22, .ref a23, .int 0, .int 1, .ref a24, .ref a25, .ref a26, .ref a2, .int 0, .ref a27, .int 0])), (a1, .inl (cI, 4, .inl (tb [0, 0, 0, 0]))), (a2, .inl (cI, 4, .inl (tb [14]))), (a3, .inl (cI, 4, .inl (tb [10, 10, 10, 10])))] sz 0 g) ((QcI dC dI (TY cI cJ cII cJJ) 0 [(a0, .inr (9, [.ref a4, .ref a5, .ref a1, .ref a3, .ref a6, .ref a7, .ref a8, .ref a9, .ref a10, .ref a11, .ref a12, .ref a13, .int 1, .int 0, .int 1, .ref a14, .ref a15, .ref a16, .ref a17, .ref a18, .ref a19, .int 2, .int 2, .ref a20, .ref a21, .ref a22, .ref a23, .int 0, .int 1, .ref a24, .ref a25, .ref a26, .ref a2, .int 0, .ref a27, .int 0])), (a1, .inl (cI, 4, .inl (tb [0, 0, 0, 0]))), (a2, .inl (cI, 4, .inl (tb [14]))), (a3, .inl (cI, 4, .inl (tb [10, 10, 10, 10])))]) (va_A [(a0, .inr (9, [.ref a4, .ref a5, .ref a1, .ref a3, .ref a6, .ref a7, .ref a8, .ref a9, .ref a10, .ref a11, .ref a12, .ref a13, .int 1, .int 0, .int 1, .ref a14, .ref a15, .ref a16, .ref a17, .ref a18, .ref a19, .int 2, .int 2, .ref a20, .ref a21, .ref a22, .ref a23, .int 0, .int 1, .ref a24, .ref a25, .ref a26, .ref a2, .int 0, .ref a27, .int 0])), (a1, .inl (cI, 4, .inl (tb [0, 0, 0, 0]))), (a2, .inl (cI, 4, .inl (tb [14]))), (a3, .inl (cI, 4, .inl (tb [10, 10, 10, 10])))] sz)) 0 0 (va_A [(a0, .inr (9, [.ref a4, .ref a5, .ref a1, .ref a3, .ref a6, .ref a7, .ref a8, .ref a9, .ref a10, .ref a11, .ref a12, .ref a13, .int 1, .int 0, .int 1, .ref a14, .ref a15, .ref a16, .ref a17, .ref a18, .ref a19, .int 2, .int 2, .ref a20, .ref a21, .ref a22, .ref a23, .int 0, .int 1, .ref a24, .ref a25, .ref a26, .ref a2, .int 0, .ref a27, .int 0])), (a1, .inl (cI, 4, .inl (tb [0, 0, 0, 0]))), (a2, .inl (cI, 4, .inl (tb [14]))), (a3, .inl (cI, 4, .inl (tb [10, 10, 10, 10])))] sz) := by
  refine SM.of (y := yX9_isPlan) (maxL := 5) (av := [.ref a0, .ref a2, .int 0]) (QcI dC dI (TY cI cJ cII cJJ) 0 [(a0, .inr (9, [.ref a4, .ref a5, .ref a1, .ref a3, .ref a6, .ref a7, .ref a8, .ref a9, .ref a10, .ref a11, .ref a12, .ref a13, .int 1, .int 0, .int 1, .ref a14, .ref a15, .ref a16, .ref a17, .ref a18, .ref a19, .int 2, .int 2, .ref a20, .ref a21, .ref a22, .ref a23, .int 0, .int 1, .ref a24, .ref a25, .ref a26, .ref a2, .int 0, .ref a27, .int 0])), (a1, .inl (cI, 4, .inl (tb [0, 0, 0, 0]))), (a2, .inl (cI, 4, .inl (tb [14]))), (a3, .inl (cI, 4, .inl (tb [10, 10, 10, 10])))]) (by decide +kernel) (Nat.le_of_ble_eq_true rfl) (fun p e s m below meth c A ls hx hb hr hml hown hts hk hnm hA hK hP hD hS hX hl => ?_)
  have hown : s.vm.findClass RX9 = some m.cls := hown
  have hl : lv_has ls 5 [(0, .ref a0), (1, .ref a2), (2, .int 0)] := hl
  refine lv_iconst (v := 1) hx hb dX9_isPlan_0 (by decide) ?_
  refine lv_istore_n (lv' := [(3, .int 1), (0, .ref a0), (1, .ref a2), (2, .int 0)]) hx hb dX9_isPlan_1 rfl hl (by decide) rfl (fun ls hl => ?_)
  refine lv_iconst (v := 0) hx hb dX9_isPlan_2 (by decide) ?_
  refine lv_istore (lv' := [(4, .int 0), (3, .int 1), (0, .ref a0), (1, .ref a2), (2, .int 0)]) hx hb dX9_isPlan_3 hl (by decide) rfl (fun ls hl => ?_)
  refine lv_iload hx hb dX9_isPlan_5 (lv_at hl 0 rfl) ?_
  refine lv_aload_n hx hb dX9_isPlan_7 rfl (lv_at hl 2 rfl) ?_
  refine gf (k := 12) hx hb hts inX9 hown hK hP k_807 rfl (by decide) rfl 0 rfl (.int 1) rfl dX9_isPlan_8 ?_
  refine f_icmp_ge hx hb dX9_isPlan_11 62 (by decide) (by decide +kernel) ?_
  refine lv_iload_n hx hb dX9_isPlan_14 rfl (lv_at hl 1 rfl) ?_
  refine f_if_eq hx hb dX9_isPlan_15 62 (by decide) (by decide +kernel) ?_
  refine lv_aload_n hx hb dX9_isPlan_18 rfl (lv_at hl 2 rfl) ?_
  refine gf (k := 2) hx hb hts inX9 hown hK hP k_797 rfl (by decide) rfl 0 rfl (.ref a1) rfl dX9_isPlan_19 ?_
  refine lv_iload hx hb dX9_isPlan_22 (lv_at hl 0 rfl) ?_
  refine ld_i hx hb hK hP 1 rfl (vin (by decide +kernel)) dX9_isPlan_24 0 rfl ?_
  refine lv_aload_n hx hb dX9_isPlan_25 rfl (lv_at hl 3 rfl) ?_
  refine lv_iload_n hx hb dX9_isPlan_26 rfl (lv_at hl 4 rfl) ?_
  refine lv_iload hx hb dX9_isPlan_27 (lv_at hl 0 rfl) ?_
  refine v_iadd hx hb dX9_isPlan_29 0 (by decide +kernel) ?_
  refine ld_i hx hb hK hP 2 rfl (vin (by decide +kernel)) dX9_isPlan_30 14 rfl ?_
  refine f_icmp_gt hx hb dX9_isPlan_31 54 (by decide) (by decide +kernel) ?_
  refine lv_aload_n hx hb dX9_isPlan_34 rfl (lv_at hl 3 rfl) ?_
  refine lv_iload_n hx hb dX9_isPlan_35 rfl (lv_at hl 4 rfl) ?_
  refine lv_iload hx hb dX9_isPlan_36 (lv_at hl 0 rfl) ?_
  refine v_iadd hx hb dX9_isPlan_38 0 (by decide +kernel) ?_
  refine ld_i hx hb hK hP 2 rfl (vin (by decide +kernel)) dX9_isPlan_39 14 rfl ?_
  refine lv_aload_n hx hb dX9_isPlan_40 rfl (lv_at hl 2 rfl) ?_
  refine gf (k := 3) hx hb hts inX9 hown hK hP k_798 rfl (by decide) rfl 0 rfl (.ref a3) rfl dX9_isPlan_41 ?_
  refine lv_iload hx hb dX9_isPlan_44 (lv_at hl 0 rfl) ?_
  refine ld_i hx hb hK hP 3 rfl (vin (by decide +kernel)) dX9_isPlan_46 10 rfl ?_
  refine t_icmp_gt hx hb dX9_isPlan_47 54 (by decide) (by decide +kernel) ?_
  refine lv_iconst (v := 0) hx hb dX9_isPlan_54 (by decide) ?_
  refine lv_istore_n (lv' := [(3, .int 0), (4, .int 0), (0, .ref a0), (1, .ref a2), (2, .int 0)]) hx hb dX9_isPlan_55 rfl hl (by decide) rfl (fun ls hl => ?_)
  refine lv_iinc (v := 1) (lv' := [(4, .int 1), (3, .int 0), (0, .ref a0), (1, .ref a2), (2, .int 0)]) hx hb dX9_isPlan_56 hl (k := 1) rfl (by decide +kernel) (by decide) rfl (fun ls hl => ?_)
  refine lv_goto (tgt := 5) hx hb dX9_isPlan_59 (by decide) ?_
  refine lv_iload hx hb dX9_isPlan_5 (lv_at hl 0 rfl) ?_
  refine lv_aload_n hx hb dX9_isPlan_7 rfl (lv_at hl 2 rfl) ?_
  refine gf (k := 12) hx hb hts inX9 hown hK hP k_807 rfl (by decide) rfl 0 rfl (.int 1) rfl dX9_isPlan_8 ?_
  refine t_icmp_ge hx hb dX9_isPlan_11 62 (by decide) (by decide +kernel) ?_
  refine lv_iconst (v := 0) hx hb dX9_isPlan_62 (by decide) ?_
  refine lv_istore (lv' := [(4, .int 0), (3, .int 0), (0, .ref a0), (1, .ref a2), (2, .int 0)]) hx hb dX9_isPlan_63 hl (by decide) rfl (fun ls hl => ?_)
  refine lv_iload hx hb dX9_isPlan_65 (lv_at hl 0 rfl) ?_
  refine lv_aload_n hx hb dX9_isPlan_67 rfl (lv_at hl 2 rfl) ?_
  refine gf (k := 13) hx hb hts inX9 hown hK hP k_808 rfl (by decide) rfl 0 rfl (.int 0) rfl dX9_isPlan_68 ?_
  refine t_icmp_ge hx hb dX9_isPlan_71 108 (by decide) (by decide +kernel) ?_
  refine lv_iload_n hx hb dX9_isPlan_108 rfl (lv_at hl 1 rfl) ?_
  exact r_z hx hb hr hk hK hP hD hS dX9_isPlan_109 rfl
