set_option maxRecDepth 100000 in
set_option maxHeartbeats 4000000 in
theorem c569_X9_costOf (l : Launch) (dC : Nat → ClassId) (dI : Nat → Nat → Nat) (cI cJ cII cJJ : ClassId) (sz g a0 a1 a2 a3 a4 a5 a6 a7 a8 a9 a10 a11 a12 a13 a14 a15 a16 a17 a18 a19 a20 a21 a22 a23 a24 a25 a26 a27 : Nat) : Met l yX9_costOf (.code yX9_costOf cX9_costOf 6 (some .long) :: TT) ({ frames := 2, cells := 0, slots := 0, locals := 80 }) (PcS dC dI (TY cI cJ cII cJJ) [.ref a0, .ref a2, .int 16] [(a0, .inr (9, [.ref a4, .ref a5, .ref a6, .ref a7, .ref a1, .ref a3, .ref a8, .ref a9, .ref a10, .ref a11, .ref a12, .ref a13, .int 1, .int 0, .int 0, .ref a14, .ref a15, .ref a16, .ref a17, .ref a18, .ref a19, .int 0, .int 0, .ref a20, .ref a21, .ref a22, .ref a23, .int 0, .int 0, .ref a24, .ref a25, .ref a26, .ref a27, .int 1, .ref a2, .int 11])), (a1, .inl (cI, 4, .inl (tb [0, 0, 0, 0]))), (a2, .inl (cI, 777924, .inl (tb [0, 0, 0, 0, 1, 0, 0, 0, 2, 0, 0, 0, 3, 0, 0, 0, 4, 0, 0, 0, 5, 0, 0, 0, 6, 0, 0, 0, 7, 0, 0, 0, 8, 0, 0, 0, 9, 0, 0, 0, 10]))), (a3, .inl (cI, 4, .inl (tb [0, 0, 0, 0])))] sz 0 g) ((QcL dC dI (TY cI cJ cII cJJ) 0 [(a0, .inr (9, [.ref a4, .ref a5, .ref a6, .ref a7, .ref a1, .ref a3, .ref a8, .ref a9, .ref a10, .ref a11, .ref a12, .ref a13, .int 1, .int 0, .int 0, .ref a14, .ref a15, .ref a16, .ref a17, .ref a18, .ref a19, .int 0, .int 0, .ref a20, .ref a21, .ref a22, .ref a23, .int 0, .int 0, .ref a24, .ref a25, .ref a26, .ref a27, .int 1, .ref a2, .int 11])), (a1, .inl (cI, 4, .inl (tb [0, 0, 0, 0]))), (a2, .inl (cI, 777924, .inl (tb [0, 0, 0, 0, 1, 0, 0, 0, 2, 0, 0, 0, 3, 0, 0, 0, 4, 0, 0, 0, 5, 0, 0, 0, 6, 0, 0, 0, 7, 0, 0, 0, 8, 0, 0, 0, 9, 0, 0, 0, 10]))), (a3, .inl (cI, 4, .inl (tb [0, 0, 0, 0])))]) (va_A [(a0, .inr (9, [.ref a4, .ref a5, .ref a6, .ref a7, .ref a1, .ref a3, .ref a8, .ref a9, .ref a10, .ref a11, .ref a12, .ref a13, .int 1, .int 0, .int 0, .ref a14, .ref a15, .ref a16, .ref a17, .ref a18, .ref a19, .int 0, .int 0, .ref a20, .ref a21, .ref a22, .ref a23, .int 0, .int 0, .ref a24, .ref a25, .ref a26, .ref a27, .int 1, .ref a2, .int 11])), (a1, .inl (cI, 4, .inl (tb [0, 0, 0, 0]))), (a2, .inl (cI, 777924, .inl (tb [0, 0, 0, 0, 1, 0, 0, 0, 2, 0, 0, 0, 3, 0, 0, 0, 4, 0, 0, 0, 5, 0, 0, 0, 6, 0, 0, 0, 7, 0, 0, 0, 8, 0, 0, 0, 9, 0, 0, 0, 10]))), (a3, .inl (cI, 4, .inl (tb [0, 0, 0, 0])))] sz)) 0 0 (va_A [(a0, .inr (9, [.ref a4, .ref a5, .ref a6, .ref a7, .ref a1, .ref a3, .ref a8, .ref a9, .ref a10, .ref a11, .ref a12, .ref a13, .int 1, .int 0, .int 0, .ref a14, .ref a15, .ref a16, .ref a17, .ref a18, .ref a19, .int 0, .int 0, .ref a20, .ref a21, .ref a22, .ref a23, .int 0, .int 0, .ref a24, .ref a25, .ref a26, .ref a27, .int 1, .ref a2, .int 11])), (a1, .inl (cI, 4, .inl (tb [0, 0, 0, 0]))), (a2, .inl (cI, 777924, .inl (tb [0, 0, 0, 0, 1, 0, 0, 0, 2, 0, 0, 0, 3, 0, 0, 0, 4, 0, 0, 0, 5, 0, 0, 0, 6, 0, 0, 0, 7, 0, 0, 0, 8, 0, 0, 0, 9, 0, 0, 0, 10]))), (a3, .inl (cI, 4, .inl (tb [0, 0, 0, 0])))] sz) := by
  refine SM.of (y := yX9_costOf) (maxL := 6) (av := [.ref a0, .ref a2, .int 16]) (QcL dC dI (TY cI cJ cII cJJ) 0 [(a0, .inr (9, [.ref a4, .ref a5, .ref a6, .ref a7, .ref a1, .ref a3, .ref a8, .ref a9, .ref a10, .ref a11, .ref a12, .ref a13, .int 1, .int 0, .int 0, .ref a14, .ref a15, .ref a16, .ref a17, .ref a18, .ref a19, .int 0, .int 0, .ref a20, .ref a21, .ref a22, .ref a23, .int 0, .int 0, .ref a24, .ref a25, .ref a26, .ref a27, .int 1, .ref a2, .int 11])), (a1, .inl (cI, 4, .inl (tb [0, 0, 0, 0]))), (a2, .inl (cI, 777924, .inl (tb [0, 0, 0, 0, 1, 0, 0, 0, 2, 0, 0, 0, 3, 0, 0, 0, 4, 0, 0, 0, 5, 0, 0, 0, 6, 0, 0, 0, 7, 0, 0, 0, 8, 0, 0, 0, 9, 0, 0, 0, 10]))), (a3, .inl (cI, 4, .inl (tb [0, 0, 0, 0])))]) (by decide +kernel) (Nat.le_of_ble_eq_true rfl) (fun p e s m below meth c A ls hx hb hr hml hown hts hk hnm hA hK hP hD hS hX hl => ?_)
  have hown : s.vm.findClass RX9 = some m.cls := hown
  have hl : lv_has ls 6 [(0, .ref a0), (1, .ref a2), (2, .int 16)] := hl
  refine lv_lconst (v := 0) hx hb dX9_costOf_0 (by decide) ?_
  refine lv_lstore_n (lv' := [(3, .long 0), (0, .ref a0), (1, .ref a2), (2, .int 16)]) hx hb dX9_costOf_1 rfl hl (by decide) rfl (fun ls hl => ?_)
  refine lv_iconst (v := 0) hx hb dX9_costOf_2 (by decide) ?_
  refine lv_istore (lv' := [(5, .int 0), (3, .long 0), (0, .ref a0), (1, .ref a2), (2, .int 16)]) hx hb dX9_costOf_3 hl (by decide) rfl (fun ls hl => ?_)
  refine lv_iload hx hb dX9_costOf_5 (lv_at hl 0 rfl) ?_
  refine lv_aload_n hx hb dX9_costOf_7 rfl (lv_at hl 2 rfl) ?_
  refine gf (k := 12) hx hb hts inX9 hown hK hP k_807 rfl (by decide) rfl 0 rfl (.int 1) rfl dX9_costOf_8 ?_
  refine f_icmp_ge hx hb dX9_costOf_11 64 (by decide) (by decide +kernel) ?_
  refine lv_lload_n hx hb dX9_costOf_14 rfl (lv_at hl 1 rfl) ?_
  refine lv_aload_n hx hb dX9_costOf_15 rfl (lv_at hl 2 rfl) ?_
  refine gf (k := 4) hx hb hts inX9 hown hK hP k_799 rfl (by decide) rfl 0 rfl (.ref a1) rfl dX9_costOf_16 ?_
  refine lv_iload hx hb dX9_costOf_19 (lv_at hl 0 rfl) ?_
  refine ld_i hx hb hK hP 1 rfl (vin (by decide +kernel)) dX9_costOf_21 0 rfl ?_
  refine lv_i2l (v := 0) hx hb dX9_costOf_22 (by decide +kernel) ?_
  refine lv_aload_n hx hb dX9_costOf_23 rfl (lv_at hl 3 rfl) ?_
  refine lv_iload_n hx hb dX9_costOf_24 rfl (lv_at hl 4 rfl) ?_
  refine lv_iload hx hb dX9_costOf_25 (lv_at hl 0 rfl) ?_
  refine v_iadd hx hb dX9_costOf_27 16 (by decide +kernel) ?_
  refine ld_i hx hb hK hP 2 rfl (vin (by decide +kernel)) dX9_costOf_28 4 rfl ?_
  refine lv_i2l (v := 4) hx hb dX9_costOf_29 (by decide +kernel) ?_
  refine v_lmul hx hb dX9_costOf_30 0 (by decide +kernel) ?_
  refine lv_aload_n hx hb dX9_costOf_31 rfl (lv_at hl 2 rfl) ?_
  refine gf (k := 5) hx hb hts inX9 hown hK hP k_800 rfl (by decide) rfl 0 rfl (.ref a3) rfl dX9_costOf_32 ?_
  refine lv_iload hx hb dX9_costOf_35 (lv_at hl 0 rfl) ?_
  refine ld_i hx hb hK hP 3 rfl (vin (by decide +kernel)) dX9_costOf_37 0 rfl ?_
  refine lv_i2l (v := 0) hx hb dX9_costOf_38 (by decide +kernel) ?_
  refine lv_aload_n hx hb dX9_costOf_39 rfl (lv_at hl 3 rfl) ?_
  refine lv_iload_n hx hb dX9_costOf_40 rfl (lv_at hl 4 rfl) ?_
  refine lv_iload hx hb dX9_costOf_41 (lv_at hl 0 rfl) ?_
  refine v_iadd hx hb dX9_costOf_43 16 (by decide +kernel) ?_
  refine ld_i hx hb hK hP 2 rfl (vin (by decide +kernel)) dX9_costOf_44 4 rfl ?_
  refine lv_i2l (v := 4) hx hb dX9_costOf_45 (by decide +kernel) ?_
  refine v_lmul hx hb dX9_costOf_46 0 (by decide +kernel) ?_
  refine lv_aload_n hx hb dX9_costOf_47 rfl (lv_at hl 3 rfl) ?_
  refine lv_iload_n hx hb dX9_costOf_48 rfl (lv_at hl 4 rfl) ?_
  refine lv_iload hx hb dX9_costOf_49 (lv_at hl 0 rfl) ?_
  refine v_iadd hx hb dX9_costOf_51 16 (by decide +kernel) ?_
  refine ld_i hx hb hK hP 2 rfl (vin (by decide +kernel)) dX9_costOf_52 4 rfl ?_
  refine lv_i2l (v := 4) hx hb dX9_costOf_53 (by decide +kernel) ?_
  refine v_lmul hx hb dX9_costOf_54 0 (by decide +kernel) ?_
  refine v_ladd hx hb dX9_costOf_55 0 (by decide +kernel) ?_
  refine v_ladd hx hb dX9_costOf_56 0 (by decide +kernel) ?_
  refine lv_lstore_n (lv' := [(3, .long 0), (5, .int 0), (0, .ref a0), (1, .ref a2), (2, .int 16)]) hx hb dX9_costOf_57 rfl hl (by decide) rfl (fun ls hl => ?_)
  refine lv_iinc (v := 1) (lv' := [(5, .int 1), (3, .long 0), (0, .ref a0), (1, .ref a2), (2, .int 16)]) hx hb dX9_costOf_58 hl (k := 1) rfl (by decide +kernel) (by decide) rfl (fun ls hl => ?_)
  refine lv_goto (tgt := 5) hx hb dX9_costOf_61 (by decide) ?_
  refine lv_iload hx hb dX9_costOf_5 (lv_at hl 0 rfl) ?_
  refine lv_aload_n hx hb dX9_costOf_7 rfl (lv_at hl 2 rfl) ?_
  refine gf (k := 12) hx hb hts inX9 hown hK hP k_807 rfl (by decide) rfl 0 rfl (.int 1) rfl dX9_costOf_8 ?_
  refine t_icmp_ge hx hb dX9_costOf_11 64 (by decide) (by decide +kernel) ?_
  refine lv_lload_n hx hb dX9_costOf_64 rfl (lv_at hl 1 rfl) ?_
  exact r_l hx hb hr hk hK hP hD hS dX9_costOf_65
set_option maxRecDepth 100000 in
set_option maxHeartbeats 4000000 in
theorem c570_X9_costOf (l : Launch) (dC : Nat → ClassId) (dI : Nat → Nat → Nat) (cI cJ cII cJJ : ClassId) (sz g a0 a1 a2 a3 a4 a5 a6 a7 a8 a9 a10 a11 a12 a13 a14 a15 a16 a17 a18 a19 a20 a21 a22 a23 a24 a25 a26 a27 : Nat) : Met l yX9_costOf (.code yX9_costOf cX9_costOf 6 (some .long) :: TT) ({ frames := 2, cells := 0, slots := 0, locals := 80 }) (PcS dC dI (TY cI cJ cII cJJ) [.ref a0, .ref a2, .int 20] [(a0, .inr (9, [.ref a4, .ref a5, .ref a6, .ref a7, .ref a1, .ref a3, .ref a8, .ref a9, .ref a10, .ref a11, .ref a12, .ref a13, .int 1, .int 0, .int 0, .ref a14, .ref a15, .ref a16, .ref a17, .ref a18, .ref a19, .int 0, .int 0, .ref a20, .ref a21, .ref a22, .ref a23, .int 0, .int 0, .ref a24, .ref a25, .ref a26, .ref a27, .int 1, .ref a2, .int 11])), (a1, .inl (cI, 4, .inl (tb [0, 0, 0, 0]))), (a2, .inl (cI, 777924, .inl (tb [0, 0, 0, 0, 1, 0, 0, 0, 2, 0, 0, 0, 3, 0, 0, 0, 4, 0, 0, 0, 5, 0, 0, 0, 6, 0, 0, 0, 7, 0, 0, 0, 8, 0, 0, 0, 9, 0, 0, 0, 10]))), (a3, .inl (cI, 4, .inl (tb [0, 0, 0, 0])))] sz 0 g) ((QcL dC dI (TY cI cJ cII cJJ) 0 [(a0, .inr (9, [.ref a4, .ref a5, .ref a6, .ref a7, .ref a1, .ref a3, .ref a8, .ref a9, .ref a10, .ref a11, .ref a12, .ref a13, .int 1, .int 0, .int 0, .ref a14, .ref a15, .ref a16, .ref a17, .ref a18, .ref a19, .int 0, .int 0, .ref a20, .ref a21, .ref a22, .ref a23, .int 0, .int 0, .ref a24, .ref a25, .ref a26, .ref a27, .int 1, .ref a2, .int 11])), (a1, .inl (cI, 4, .inl (tb [0, 0, 0, 0]))), (a2, .inl (cI, 777924, .inl (tb [0, 0, 0, 0, 1, 0, 0, 0, 2, 0, 0, 0, 3, 0, 0, 0, 4, 0, 0, 0, 5, 0, 0, 0, 6, 0, 0, 0, 7, 0, 0, 0, 8, 0, 0, 0, 9, 0, 0, 0, 10]))), (a3, .inl (cI, 4, .inl (tb [0, 0, 0, 0])))]) (va_A [(a0, .inr (9, [.ref a4, .ref a5, .ref a6, .ref a7, .ref a1, .ref a3, .ref a8, .ref a9, .ref a10, .ref a11, .ref a12, .ref a13, .int 1, .int 0, .int 0, .ref a14, .ref a15, .ref a16, .ref a17, .ref a18, .ref a19, .int 0, .int 0, .ref a20, .ref a21, .ref a22, .ref a23, .int 0, .int 0, .ref a24, .ref a25, .ref a26, .ref a27, .int 1, .ref a2, .int 11])), (a1, .inl (cI, 4, .inl (tb [0, 0, 0, 0]))), (a2, .inl (cI, 777924, .inl (tb [0, 0, 0, 0, 1, 0, 0, 0, 2, 0, 0, 0, 3, 0, 0, 0, 4, 0, 0, 0, 5, 0, 0, 0, 6, 0, 0, 0, 7, 0, 0, 0, 8, 0, 0, 0, 9, 0, 0, 0, 10]))), (a3, .inl (cI, 4, .inl (tb [0, 0, 0, 0])))] sz)) 0 0 (va_A [(a0, .inr (9, [.ref a4, .ref a5, .ref a6, .ref a7, .ref a1, .ref a3, .ref a8, .ref a9, .ref a10, .ref a11, .ref a12, .ref a13, .int 1, .int 0, .int 0, .ref a14, .ref a15, .ref a16, .ref a17, .ref a18, .ref a19, .int 0, .int 0, .ref a20, .ref a21, .ref a22, .ref a23, .int 0, .int 0, .ref a24, .ref a25, .ref a26, .ref a27, .int 1, .ref a2, .int 11])), (a1, .inl (cI, 4, .inl (tb [0, 0, 0, 0]))), (a2, .inl (cI, 777924, .inl (tb [0, 0, 0, 0, 1, 0, 0, 0, 2, 0, 0, 0, 3, 0, 0, 0, 4, 0, 0, 0, 5, 0, 0, 0, 6, 0, 0, 0, 7, 0, 0, 0, 8, 0, 0, 0, 9, 0, 0, 0, 10]))), (a3, .inl (cI, 4, .inl (tb [0, 0, 0, 0])))] sz) := by
  refine SM.of (y := yX9_costOf) (maxL := 6) (av := [.ref a0, .ref a2, .int 20]) (QcL dC dI (TY cI cJ cII cJJ) 0 [(a0, .inr (9, [.ref a4, .ref a5, .ref a6, .ref a7, .ref a1, .ref a3, .ref a8, .ref a9, .ref a10, .ref a11, .ref a12, .ref a13, .int 1, .int 0, .int 0, .ref a14, .ref a15, .ref a16, .ref a17, .ref a18, .ref a19, .int 0, .int 0, .ref a20, .ref a21, .ref a22, .ref a23, .int 0, .int 0, .ref a24, .ref a25, .ref a26, .ref a27, .int 1, .ref a2, .int 11])), (a1, .inl (cI, 4, .inl (tb [0, 0, 0, 0]))), (a2, .inl (cI, 777924, .inl (tb [0, 0, 0, 0, 1, 0, 0, 0, 2, 0, 0, 0, 3, 0, 0, 0, 4, 0, 0, 0, 5, 0, 0, 0, 6, 0, 0, 0, 7, 0, 0, 0, 8, 0, 0, 0, 9, 0, 0, 0, 10]))), (a3, .inl (cI, 4, .inl (tb [0, 0, 0, 0])))]) (by decide +kernel) (Nat.le_of_ble_eq_true rfl) (fun p e s m below meth c A ls hx hb hr hml hown hts hk hnm hA hK hP hD hS hX hl => ?_)
  have hown : s.vm.findClass RX9 = some m.cls := hown
  have hl : lv_has ls 6 [(0, .ref a0), (1, .ref a2), (2, .int 20)] := hl
  refine lv_lconst (v := 0) hx hb dX9_costOf_0 (by decide) ?_
  refine lv_lstore_n (lv' := [(3, .long 0), (0, .ref a0), (1, .ref a2), (2, .int 20)]) hx hb dX9_costOf_1 rfl hl (by decide) rfl (fun ls hl => ?_)
  refine lv_iconst (v := 0) hx hb dX9_costOf_2 (by decide) ?_
  refine lv_istore (lv' := [(5, .int 0), (3, .long 0), (0, .ref a0), (1, .ref a2), (2, .int 20)]) hx hb dX9_costOf_3 hl (by decide) rfl (fun ls hl => ?_)
  refine lv_iload hx hb dX9_costOf_5 (lv_at hl 0 rfl) ?_
  refine lv_aload_n hx hb dX9_costOf_7 rfl (lv_at hl 2 rfl) ?_
  refine gf (k := 12) hx hb hts inX9 hown hK hP k_807 rfl (by decide) rfl 0 rfl (.int 1) rfl dX9_costOf_8 ?_
  refine f_icmp_ge hx hb dX9_costOf_11 64 (by decide) (by decide +kernel) ?_
  refine lv_lload_n hx hb dX9_costOf_14 rfl (lv_at hl 1 rfl) ?_
  refine lv_aload_n hx hb dX9_costOf_15 rfl (lv_at hl 2 rfl) ?_
  refine gf (k := 4) hx hb hts inX9 hown hK hP k_799 rfl (by decide) rfl 0 rfl (.ref a1) rfl dX9_costOf_16 ?_
  refine lv_iload hx hb dX9_costOf_19 (lv_at hl 0 rfl) ?_
  refine ld_i hx hb hK hP 1 rfl (vin (by decide +kernel)) dX9_costOf_21 0 rfl ?_
  refine lv_i2l (v := 0) hx hb dX9_costOf_22 (by decide +kernel) ?_
  refine lv_aload_n hx hb dX9_costOf_23 rfl (lv_at hl 3 rfl) ?_
  refine lv_iload_n hx hb dX9_costOf_24 rfl (lv_at hl 4 rfl) ?_
  refine lv_iload hx hb dX9_costOf_25 (lv_at hl 0 rfl) ?_
  refine v_iadd hx hb dX9_costOf_27 20 (by decide +kernel) ?_
  refine ld_i hx hb hK hP 2 rfl (vin (by decide +kernel)) dX9_costOf_28 5 rfl ?_
  refine lv_i2l (v := 5) hx hb dX9_costOf_29 (by decide +kernel) ?_
  refine v_lmul hx hb dX9_costOf_30 0 (by decide +kernel) ?_
  refine lv_aload_n hx hb dX9_costOf_31 rfl (lv_at hl 2 rfl) ?_
  refine gf (k := 5) hx hb hts inX9 hown hK hP k_800 rfl (by decide) rfl 0 rfl (.ref a3) rfl dX9_costOf_32 ?_
  refine lv_iload hx hb dX9_costOf_35 (lv_at hl 0 rfl) ?_
  refine ld_i hx hb hK hP 3 rfl (vin (by decide +kernel)) dX9_costOf_37 0 rfl ?_
  refine lv_i2l (v := 0) hx hb dX9_costOf_38 (by decide +kernel) ?_
  refine lv_aload_n hx hb dX9_costOf_39 rfl (lv_at hl 3 rfl) ?_
  refine lv_iload_n hx hb dX9_costOf_40 rfl (lv_at hl 4 rfl) ?_
  refine lv_iload hx hb dX9_costOf_41 (lv_at hl 0 rfl) ?_
  refine v_iadd hx hb dX9_costOf_43 20 (by decide +kernel) ?_
  refine ld_i hx hb hK hP 2 rfl (vin (by decide +kernel)) dX9_costOf_44 5 rfl ?_
  refine lv_i2l (v := 5) hx hb dX9_costOf_45 (by decide +kernel) ?_
  refine v_lmul hx hb dX9_costOf_46 0 (by decide +kernel) ?_
  refine lv_aload_n hx hb dX9_costOf_47 rfl (lv_at hl 3 rfl) ?_
  refine lv_iload_n hx hb dX9_costOf_48 rfl (lv_at hl 4 rfl) ?_
  refine lv_iload hx hb dX9_costOf_49 (lv_at hl 0 rfl) ?_
  refine v_iadd hx hb dX9_costOf_51 20 (by decide +kernel) ?_
  refine ld_i hx hb hK hP 2 rfl (vin (by decide +kernel)) dX9_costOf_52 5 rfl ?_
  refine lv_i2l (v := 5) hx hb dX9_costOf_53 (by decide +kernel) ?_
  refine v_lmul hx hb dX9_costOf_54 0 (by decide +kernel) ?_
  refine v_ladd hx hb dX9_costOf_55 0 (by decide +kernel) ?_
  refine v_ladd hx hb dX9_costOf_56 0 (by decide +kernel) ?_
  refine lv_lstore_n (lv' := [(3, .long 0), (5, .int 0), (0, .ref a0), (1, .ref a2), (2, .int 20)]) hx hb dX9_costOf_57 rfl hl (by decide) rfl (fun ls hl => ?_)
  refine lv_iinc (v := 1) (lv' := [(5, .int 1), (3, .long 0), (0, .ref a0), (1, .ref a2), (2, .int 20)]) hx hb dX9_costOf_58 hl (k := 1) rfl (by decide +kernel) (by decide) rfl (fun ls hl => ?_)
  refine lv_goto (tgt := 5) hx hb dX9_costOf_61 (by decide) ?_
  refine lv_iload hx hb dX9_costOf_5 (lv_at hl 0 rfl) ?_
  refine lv_aload_n hx hb dX9_costOf_7 rfl (lv_at hl 2 rfl) ?_
  refine gf (k := 12) hx hb hts inX9 hown hK hP k_807 rfl (by decide) rfl 0 rfl (.int 1) rfl dX9_costOf_8 ?_
  refine t_icmp_ge hx hb dX9_costOf_11 64 (by decide) (by decide +kernel) ?_
  refine lv_lload_n hx hb dX9_costOf_64 rfl (lv_at hl 1 rfl) ?_
  exact r_l hx hb hr hk hK hP hD hS dX9_costOf_65
set_option maxRecDepth 100000 in
set_option maxHeartbeats 4000000 in
theorem c571_X9_costOf (l : Launch) (dC : Nat → ClassId) (dI : Nat → Nat → Nat) (cI cJ cII cJJ : ClassId) (sz g a0 a1 a2 a3 a4 a5 a6 a7 a8 a9 a10 a11 a12 a13 a14 a15 a16 a17 a18 a19 a20 a21 a22 a23 a24 a25 a26 a27 : Nat) : Met l yX9_costOf (.code yX9_costOf cX9_costOf 6 (some .long) :: TT) ({ frames := 2, cells := 0, slots := 0, locals := 80 }) (PcS dC dI (TY cI cJ cII cJJ) [.ref a0, .ref a2, .int 24] [(a0, .inr (9, [.ref a4, .ref a5, .ref a6, .ref a7, .ref a1, .ref a3, .ref a8, .ref a9, .ref a10, .ref a11, .ref a12, .ref a13, .int 1, .int 0, .int 0, .ref a14, .ref a15, .ref a16, .ref a17, .ref a18, .ref a19, .int 0, .int 0, .ref a20, .ref a21, .ref a22, .ref a23, .int 0, .int 0, .ref a24, .ref a25, .ref a26, .ref a27, .int 1, .ref a2, .int 11])), (a1, .inl (cI, 4, .inl (tb [0, 0, 0, 0]))), (a2, .inl (cI, 777924, .inl (tb [0, 0, 0, 0, 1, 0, 0, 0, 2, 0, 0, 0, 3, 0, 0, 0, 4, 0, 0, 0, 5, 0, 0, 0, 6, 0, 0, 0, 7, 0, 0, 0, 8, 0, 0, 0, 9, 0, 0, 0, 10]))), (a3, .inl (cI, 4, .inl (tb [0, 0, 0, 0])))] sz 0 g) ((QcL dC dI (TY cI cJ cII cJJ) 0 [(a0, .inr (9, [.ref a4, .ref a5, .ref a6, .ref a7, .ref a1, .ref a3, .ref a8, .ref a9, .ref a10, .ref a11, .ref a12, .ref a13, .int 1, .int 0, .int 0, .ref a14, .ref a15, .ref a16, .ref a17, .ref a18, .ref a19, .int 0, .int 0, .ref a20, .ref a21, .ref a22, .ref a23, .int 0, .int 0, .ref a24, .ref a25, .ref a26, .ref a27, .int 1, .ref a2, .int 11])), (a1, .inl (cI, 4, .inl (tb [0, 0, 0, 0]))), (a2, .inl (cI, 777924, .inl (tb [0, 0, 0, 0, 1, 0, 0, 0, 2, 0, 0, 0, 3, 0, 0, 0, 4, 0, 0, 0, 5, 0, 0, 0, 6, 0, 0, 0, 7, 0, 0, 0, 8, 0, 0, 0, 9, 0, 0, 0, 10]))), (a3, .inl (cI, 4, .inl (tb [0, 0, 0, 0])))]) (va_A [(a0, .inr (9, [.ref a4, .ref a5, .ref a6, .ref a7, .ref a1, .ref a3, .ref a8, .ref a9, .ref a10, .ref a11, .ref a12, .ref a13, .int 1, .int 0, .int 0, .ref a14, .ref a15, .ref a16, .ref a17, .ref a18, .ref a19, .int 0, .int 0, .ref a20, .ref a21, .ref a22, .ref a23, .int 0, .int 0, .ref a24, .ref a25, .ref a26, .ref a27, .int 1, .ref a2, .int 11])), (a1, .inl (cI, 4, .inl (tb [0, 0, 0, 0]))), (a2, .inl (cI, 777924, .inl (tb [0, 0, 0, 0, 1, 0, 0, 0, 2, 0, 0, 0, 3, 0, 0, 0, 4, 0, 0, 0, 5, 0, 0, 0, 6, 0, 0, 0, 7, 0, 0, 0, 8, 0, 0, 0, 9, 0, 0, 0, 10]))), (a3, .inl (cI, 4, .inl (tb [0, 0, 0, 0])))] sz)) 0 0 (va_A [(a0, .inr (9, [.ref a4, .ref a5, .ref a6, .ref a7, .ref a1, .ref a3, .ref a8, .ref a9, .ref a10, .ref a11, .ref a12, .ref a13, .int 1, .int 0, .int 0, .ref a14, .ref a15, .ref a16, .ref a17, .ref a18, .ref a19, .int 0, .int 0, .ref a20, .ref a21, .ref a22, .ref a23, .int 0, .int 0, .ref a24, .ref a25, .ref a26, .ref a27, .int 1, .ref a2, .int 11])), (a1, .inl (cI, 4, .inl (tb [0, 0, 0, 0]))), (a2, .inl (cI, 777924, .inl (tb [0, 0, 0, 0, 1, 0, 0, 0, 2, 0, 0, 0, 3, 0, 0, 0, 4, 0, 0, 0, 5, 0, 0, 0, 6, 0, 0, 0, 7, 0, 0, 0, 8, 0, 0, 0, 9, 0, 0, 0, 10]))), (a3, .inl (cI, 4, .inl (tb [0, 0, 0, 0])))] sz) := by
  refine SM.of (y := yX9_costOf) (maxL := 6) (av := [.ref a0, .ref a2, .int 24]) (QcL dC dI (TY cI cJ cII cJJ) 0 [(a0, .inr (9, [.ref a4, .ref a5, .ref a6, .ref a7, .ref a1, .ref a3, .ref a8, .ref a9, .ref a10, .ref a11, .ref a12, .ref a13, .int 1, .int 0, .int 0, .ref a14, .ref a15, .ref a16, .ref a17, .ref a18, .ref a19, .int 0, .int 0, .ref a20, .ref a21, .ref a22, .ref a23, .int 0, .int 0, .ref a24, .ref a25, .ref a26, .ref a27, .int 1, .ref a2, .int 11])), (a1, .inl (cI, 4, .inl (tb [0, 0, 0, 0]))), (a2, .inl (cI, 777924, .inl (tb [0, 0, 0, 0, 1, 0, 0, 0, 2, 0, 0, 0, 3, 0, 0, 0, 4, 0, 0, 0, 5, 0, 0, 0, 6, 0, 0, 0, 7, 0, 0, 0, 8, 0, 0, 0, 9, 0, 0, 0, 10]))), (a3, .inl (cI, 4, .inl (tb [0, 0, 0, 0])))]) (by decide +kernel) (Nat.le_of_ble_eq_true rfl) (fun p e s m below meth c A ls hx hb hr hml hown hts hk hnm hA hK hP hD hS hX hl => ?_)
  have hown : s.vm.findClass RX9 = some m.cls := hown
  have hl : lv_has ls 6 [(0, .ref a0), (1, .ref a2), (2, .int 24)] := hl
  refine lv_lconst (v := 0) hx hb dX9_costOf_0 (by decide) ?_
  refine lv_lstore_n (lv' := [(3, .long 0), (0, .ref a0), (1, .ref a2), (2, .int 24)]) hx hb dX9_costOf_1 rfl hl (by decide) rfl (fun ls hl => ?_)
  refine lv_iconst (v := 0) hx hb dX9_costOf_2 (by decide) ?_
  refine lv_istore (lv' := [(5, .int 0), (3, .long 0), (0, .ref a0), (1, .ref a2), (2, .int 24)]) hx hb dX9_costOf_3 hl (by decide) rfl (fun ls hl => ?_)
  refine lv_iload hx hb dX9_costOf_5 (lv_at hl 0 rfl) ?_
  refine lv_aload_n hx hb dX9_costOf_7 rfl (lv_at hl 2 rfl) ?_
  refine gf (k := 12) hx hb hts inX9 hown hK hP k_807 rfl (by decide) rfl 0 rfl (.int 1) rfl dX9_costOf_8 ?_
  refine f_icmp_ge hx hb dX9_costOf_11 64 (by decide) (by decide +kernel) ?_
  refine lv_lload_n hx hb dX9_costOf_14 rfl (lv_at hl 1 rfl) ?_
  refine lv_aload_n hx hb dX9_costOf_15 rfl (lv_at hl 2 rfl) ?_
  refine gf (k := 4) hx hb hts inX9 hown hK hP k_799 rfl (by decide) rfl 0 rfl (.ref a1) rfl dX9_costOf_16 ?_
  refine lv_iload hx hb dX9_costOf_19 (lv_at hl 0 rfl) ?_
  refine ld_i hx hb hK hP 1 rfl (vin (by decide +kernel)) dX9_costOf_21 0 rfl ?_
  refine lv_i2l (v := 0) hx hb dX9_costOf_22 (by decide +kernel) ?_
  refine lv_aload_n hx hb dX9_costOf_23 rfl (lv_at hl 3 rfl) ?_
  refine lv_iload_n hx hb dX9_costOf_24 rfl (lv_at hl 4 rfl) ?_
  refine lv_iload hx hb dX9_costOf_25 (lv_at hl 0 rfl) ?_
  refine v_iadd hx hb dX9_costOf_27 24 (by decide +kernel) ?_
  refine ld_i hx hb hK hP 2 rfl (vin (by decide +kernel)) dX9_costOf_28 6 rfl ?_
  refine lv_i2l (v := 6) hx hb dX9_costOf_29 (by decide +kernel) ?_
  refine v_lmul hx hb dX9_costOf_30 0 (by decide +kernel) ?_
  refine lv_aload_n hx hb dX9_costOf_31 rfl (lv_at hl 2 rfl) ?_
  refine gf (k := 5) hx hb hts inX9 hown hK hP k_800 rfl (by decide) rfl 0 rfl (.ref a3) rfl dX9_costOf_32 ?_
  refine lv_iload hx hb dX9_costOf_35 (lv_at hl 0 rfl) ?_
  refine ld_i hx hb hK hP 3 rfl (vin (by decide +kernel)) dX9_costOf_37 0 rfl ?_
  refine lv_i2l (v := 0) hx hb dX9_costOf_38 (by decide +kernel) ?_
  refine lv_aload_n hx hb dX9_costOf_39 rfl (lv_at hl 3 rfl) ?_
  refine lv_iload_n hx hb dX9_costOf_40 rfl (lv_at hl 4 rfl) ?_
  refine lv_iload hx hb dX9_costOf_41 (lv_at hl 0 rfl) ?_
  refine v_iadd hx hb dX9_costOf_43 24 (by decide +kernel) ?_
  refine ld_i hx hb hK hP 2 rfl (vin (by decide +kernel)) dX9_costOf_44 6 rfl ?_
  refine lv_i2l (v := 6) hx hb dX9_costOf_45 (by decide +kernel) ?_
  refine v_lmul hx hb dX9_costOf_46 0 (by decide +kernel) ?_
  refine lv_aload_n hx hb dX9_costOf_47 rfl (lv_at hl 3 rfl) ?_
  refine lv_iload_n hx hb dX9_costOf_48 rfl (lv_at hl 4 rfl) ?_
  refine lv_iload hx hb dX9_costOf_49 (lv_at hl 0 rfl) ?_
  refine v_iadd hx hb dX9_costOf_51 24 (by decide +kernel) ?_
  refine ld_i hx hb hK hP 2 rfl (vin (by decide +kernel)) dX9_costOf_52 6 rfl ?_
  refine lv_i2l (v := 6) hx hb dX9_costOf_53 (by decide +kernel) ?_
  refine v_lmul hx hb dX9_costOf_54 0 (by decide +kernel) ?_
  refine v_ladd hx hb dX9_costOf_55 0 (by decide +kernel) ?_
  refine v_ladd hx hb dX9_costOf_56 0 (by decide +kernel) ?_
  refine lv_lstore_n (lv' := [(3, .long 0), (5, .int 0), (0, .ref a0), (1, .ref a2), (2, .int 24)]) hx hb dX9_costOf_57 rfl hl (by decide) rfl (fun ls hl => ?_)
  refine lv_iinc (v := 1) (lv' := [(5, .int 1), (3, .long 0), (0, .ref a0), (1, .ref a2), (2, .int 24)]) hx hb dX9_costOf_58 hl (k := 1) rfl (by decide +kernel) (by decide) rfl (fun ls hl => ?_)
  refine lv_goto (tgt := 5) hx hb dX9_costOf_61 (by decide) ?_
  refine lv_iload hx hb dX9_costOf_5 (lv_at hl 0 rfl) ?_
  refine lv_aload_n hx hb dX9_costOf_7 rfl (lv_at hl 2 rfl) ?_
  refine gf (k := 12) hx hb hts inX9 hown hK hP k_807 rfl (by decide) rfl 0 rfl (.int 1) rfl dX9_costOf_8 ?_
  refine t_icmp_ge hx hb dX9_costOf_11 64 (by decide) (by decide +kernel) ?_
  refine lv_lload_n hx hb dX9_costOf_64 rfl (lv_at hl 1 rfl) ?_
  exact r_l hx hb hr hk hK hP hD hS dX9_costOf_65
set_option maxRecDepth 100000 in
set_option maxHeartbeats 4000000 in
theorem c572_X9_costOf (l : Launch) (dC : Nat → ClassId) (dI : Nat → Nat → Nat) (cI cJ cII cJJ : ClassId) (sz g a0 a1 a2 a3 a4 a5 a6 a7 a8 a9 a10 a11 a12 a13 a14 a15 a16 a17 a18 a19 a20 a21 a22 a23 a24 a25 a26 a27 : Nat) : Met l yX9_costOf (.code yX9_costOf cX9_costOf 6 (some .long) :: TT) ({ frames := 2, cells := 0, slots := 0, locals := 80 }) (PcS dC dI (TY cI cJ cII cJJ) [.ref a0, .ref a2, .int 28] [(a0, .inr (9, [.ref a4, .ref a5, .ref a6, .ref a7, .ref a1, .ref a3, .ref a8, .ref a9, .ref a10, .ref a11, .ref a12, .ref a13, .int 1, .int 0, .int 0, .ref a14, .ref a15, .ref a16, .ref a17, .ref a18, .ref a19, .int 0, .int 0, .ref a20, .ref a21, .ref a22, .ref a23, .int 0, .int 0, .ref a24, .ref a25, .ref a26, .ref a27, .int 1, .ref a2, .int 11])), (a1, .inl (cI, 4, .inl (tb [0, 0, 0, 0]))), (a2, .inl (cI, 777924, .inl (tb [0, 0, 0, 0, 1, 0, 0, 0, 2, 0, 0, 0, 3, 0, 0, 0, 4, 0, 0, 0, 5, 0, 0, 0, 6, 0, 0, 0, 7, 0, 0, 0, 8, 0, 0, 0, 9, 0, 0, 0, 10]))), (a3, .inl (cI, 4, .inl (tb [0, 0, 0, 0])))] sz 0 g) ((QcL dC dI (TY cI cJ cII cJJ) 0 [(a0, .inr (9, [.ref a4, .ref a5, .ref a6, .ref a7, .ref a1, .ref a3, .ref a8, .ref a9, .ref a10, .ref a11, .ref a12, .ref a13, .int 1, .int 0, .int 0, .ref a14, .ref a15, .ref a16, .ref a17, .ref a18, .ref a19, .int 0, .int 0, .ref a20, .ref a21, .ref a22, .ref a23, .int 0, .int 0, .ref a24, .ref a25, .ref a26, .ref a27, .int 1, .ref a2, .int 11])), (a1, .inl (cI, 4, .inl (tb [0, 0, 0, 0]))), (a2, .inl (cI, 777924, .inl (tb [0, 0, 0, 0, 1, 0, 0, 0, 2, 0, 0, 0, 3, 0, 0, 0, 4, 0, 0, 0, 5, 0, 0, 0, 6, 0, 0, 0, 7, 0, 0, 0, 8, 0, 0, 0, 9, 0, 0, 0, 10]))), (a3, .inl (cI, 4, .inl (tb [0, 0, 0, 0])))]) (va_A [(a0, .inr (9, [.ref a4, .ref a5, .ref a6, .ref a7, .ref a1, .ref a3, .ref a8, .ref a9, .ref a10, .ref a11, .ref a12, .ref a13, .int 1, .int 0, .int 0, .ref a14, .ref a15, .ref a16, .ref a17, .ref a18, .ref a19, .int 0, .int 0, .ref a20, .ref a21, .ref a22, .ref a23, .int 0, .int 0, .ref a24, .ref a25, .ref a26, .ref a27, .int 1, .ref a2, .int 11])), (a1, .inl (cI, 4, .inl (tb [0, 0, 0, 0]))), (a2, .inl (cI, 777924, .inl (tb [0, 0, 0, 0, 1, 0, 0, 0, 2, 0, 0, 0, 3, 0, 0, 0, 4, 0, 0, 0, 5, 0, 0, 0, 6, 0, 0, 0, 7, 0, 0, 0, 8, 0, 0, 0, 9, 0, 0, 0, 10]))), (a3, .inl (cI, 4, .inl (tb [0, 0, 0, 0])))] sz)) 0 0 (va_A [(a0, .inr (9, [.ref a4, .ref a5, .ref a6, .ref a7, .ref a1, .ref a3, .ref a8, .ref a9, .ref a10, .ref a11, .ref a12, .ref a13, .int 1, .int 0, .int 0, .ref a14, .ref a15, .ref a16, .ref a17, .ref a18, .ref a19, .int 0, .int 0, .ref a20, .ref a21, .ref a22, .ref a23, .int 0, .int 0, .ref a24, .ref a25, .ref a26, .ref a27, .int 1, .ref a2, .int 11])), (a1, .inl (cI, 4, .inl (tb [0, 0, 0, 0]))), (a2, .inl (cI, 777924, .inl (tb [0, 0, 0, 0, 1, 0, 0, 0, 2, 0, 0, 0, 3, 0, 0, 0, 4, 0, 0, 0, 5, 0, 0, 0, 6, 0, 0, 0, 7, 0, 0, 0, 8, 0, 0, 0, 9, 0, 0, 0, 10]))), (a3, .inl (cI, 4, .inl (tb [0, 0, 0, 0])))] sz) := by
  refine SM.of (y := yX9_costOf) (maxL := 6) (av := [.ref a0, .ref a2, .int 28]) (QcL dC dI (TY cI cJ cII cJJ) 0 [(a0, .inr (9, [.ref a4, .ref a5, .ref a6, .ref a7, .ref a1, .ref a3, .ref a8, .ref a9, .ref a10, .ref a11, .ref a12, .ref a13, .int 1, .int 0, .int 0, .ref a14, .ref a15, .ref a16, .ref a17, .ref a18, .ref a19, .int 0, .int 0, .ref a20, .ref a21, .ref a22, .ref a23, .int 0, .int 0, .ref a24, .ref a25, .ref a26, .ref a27, .int 1, .ref a2, .int 11])), (a1, .inl (cI, 4, .inl (tb [0, 0, 0, 0]))), (a2, .inl (cI, 777924, .inl (tb [0, 0, 0, 0, 1, 0, 0, 0, 2, 0, 0, 0, 3, 0, 0, 0, 4, 0, 0, 0, 5, 0, 0, 0, 6, 0, 0, 0, 7, 0, 0, 0, 8, 0, 0, 0, 9, 0, 0, 0, 10]))), (a3, .inl (cI, 4, .inl (tb [0, 0, 0, 0])))]) (by decide +kernel) (Nat.le_of_ble_eq_true rfl) (fun p e s m below meth c A ls hx hb hr hml hown hts hk hnm hA hK hP hD hS hX hl => ?_)
  have hown : s.vm.findClass RX9 = some m.cls := hown
  have hl : lv_has ls 6 [(0, .ref a0), (1, .ref a2), (2, .int 28)] := hl
  refine lv_lconst (v := 0) hx hb dX9_costOf_0 (by decide) ?_
  refine lv_lstore_n (lv' := [(3, .long 0), (0, .ref a0), (1, .ref a2), (2, .int 28)]) hx hb dX9_costOf_1 rfl hl (by decide) rfl (fun ls hl => ?_)
  refine lv_iconst (v := 0) hx hb dX9_costOf_2 (by decide) ?_
  refine lv_istore (lv' := [(5, .int 0), (3, .long 0), (0, .ref a0), (1, .ref a2), (2, .int 28)]) hx hb dX9_costOf_3 hl (by decide) rfl (fun ls hl => ?_)
  refine lv_iload hx hb dX9_costOf_5 (lv_at hl 0 rfl) ?_
  refine lv_aload_n hx hb dX9_costOf_7 rfl (lv_at hl 2 rfl) ?_
  refine gf (k := 12) hx hb hts inX9 hown hK hP k_807 rfl (by decide) rfl 0 rfl (.int 1) rfl dX9_costOf_8 ?_
  refine f_icmp_ge hx hb dX9_costOf_11 64 (by decide) (by decide +kernel) ?_
  refine lv_lload_n hx hb dX9_costOf_14 rfl (lv_at hl 1 rfl) ?_
  refine lv_aload_n hx hb dX9_costOf_15 rfl (lv_at hl 2 rfl) ?_
  refine gf (k := 4) hx hb hts inX9 hown hK hP k_799 rfl (by decide) rfl 0 rfl (.ref a1) rfl dX9_costOf_16 ?_
  refine lv_iload hx hb dX9_costOf_19 (lv_at hl 0 rfl) ?_
  refine ld_i hx hb hK hP 1 rfl (vin (by decide +kernel)) dX9_costOf_21 0 rfl ?_
  refine lv_i2l (v := 0) hx hb dX9_costOf_22 (by decide +kernel) ?_
  refine lv_aload_n hx hb dX9_costOf_23 rfl (lv_at hl 3 rfl) ?_
  refine lv_iload_n hx hb dX9_costOf_24 rfl (lv_at hl 4 rfl) ?_
  refine lv_iload hx hb dX9_costOf_25 (lv_at hl 0 rfl) ?_
  refine v_iadd hx hb dX9_costOf_27 28 (by decide +kernel) ?_
  refine ld_i hx hb hK hP 2 rfl (vin (by decide +kernel)) dX9_costOf_28 7 rfl ?_
  refine lv_i2l (v := 7) hx hb dX9_costOf_29 (by decide +kernel) ?_
  refine v_lmul hx hb dX9_costOf_30 0 (by decide +kernel) ?_
  refine lv_aload_n hx hb dX9_costOf_31 rfl (lv_at hl 2 rfl) ?_
  refine gf (k := 5) hx hb hts inX9 hown hK hP k_800 rfl (by decide) rfl 0 rfl (.ref a3) rfl dX9_costOf_32 ?_
  refine lv_iload hx hb dX9_costOf_35 (lv_at hl 0 rfl) ?_
  refine ld_i hx hb hK hP 3 rfl (vin (by decide +kernel)) dX9_costOf_37 0 rfl ?_
  refine lv_i2l (v := 0) hx hb dX9_costOf_38 (by decide +kernel) ?_
  refine lv_aload_n hx hb dX9_costOf_39 rfl (lv_at hl 3 rfl) ?_
  refine lv_iload_n hx hb dX9_costOf_40 rfl (lv_at hl 4 rfl) ?_
  refine lv_iload hx hb dX9_costOf_41 (lv_at hl 0 rfl) ?_
  refine v_iadd hx hb dX9_costOf_43 28 (by decide +kernel) ?_
  refine ld_i hx hb hK hP 2 rfl (vin (by decide +kernel)) dX9_costOf_44 7 rfl ?_
  refine lv_i2l (v := 7) hx hb dX9_costOf_45 (by decide +kernel) ?_
  refine v_lmul hx hb dX9_costOf_46 0 (by decide +kernel) ?_
  refine lv_aload_n hx hb dX9_costOf_47 rfl (lv_at hl 3 rfl) ?_
  refine lv_iload_n hx hb dX9_costOf_48 rfl (lv_at hl 4 rfl) ?_
  refine lv_iload hx hb dX9_costOf_49 (lv_at hl 0 rfl) ?_
  refine v_iadd hx hb dX9_costOf_51 28 (by decide +kernel) ?_
  refine ld_i hx hb hK hP 2 rfl (vin (by decide +kernel)) dX9_costOf_52 7 rfl ?_
  refine lv_i2l (v := 7) hx hb dX9_costOf_53 (by decide +kernel) ?_
  refine v_lmul hx hb dX9_costOf_54 0 (by decide +kernel) ?_
  refine v_ladd hx hb dX9_costOf_55 0 (by decide +kernel) ?_
  refine v_ladd hx hb dX9_costOf_56 0 (by decide +kernel) ?_
  refine lv_lstore_n (lv' := [(3, .long 0), (5, .int 0), (0, .ref a0), (1, .ref a2), (2, .int 28)]) hx hb dX9_costOf_57 rfl hl (by decide) rfl (fun ls hl => ?_)
  refine lv_iinc (v := 1) (lv' := [(5, .int 1), (3, .long 0), (0, .ref a0), (1, .ref a2), (2, .int 28)]) hx hb dX9_costOf_58 hl (k := 1) rfl (by decide +kernel) (by decide) rfl (fun ls hl => ?_)
  refine lv_goto (tgt := 5) hx hb dX9_costOf_61 (by decide) ?_
  refine lv_iload hx hb dX9_costOf_5 (lv_at hl 0 rfl) ?_
  refine lv_aload_n hx hb dX9_costOf_7 rfl (lv_at hl 2 rfl) ?_
  refine gf (k := 12) hx hb hts inX9 hown hK hP k_807 rfl (by decide) rfl 0 rfl (.int 1) rfl dX9_costOf_8 ?_
  refine t_icmp_ge hx hb dX9_costOf_11 64 (by decide) (by decide +kernel) ?_
  refine lv_lload_n hx hb dX9_costOf_64 rfl (lv_at hl 1 rfl) ?_
  exact r_l hx hb hr hk hK hP hD hS dX9_costOf_65
set_option maxRecDepth 100000 in
set_option maxHeartbeats 4000000 in
theorem c573_X9_costOf (l : Launch) (dC : Nat → ClassId) (dI : Nat → Nat → Nat) (cI cJ cII cJJ : ClassId) (sz g a0 a1 a2 a3 a4 a5 a6 a7 a8 a9 a10 a11 a12 a13 a14 a15 a16 a17 a18 a19 a20 a21 a22 a23 a24 a25 a26 a27 : Nat) : Met l yX9_costOf (.code yX9_costOf cX9_costOf 6 (some .long) :: TT) ({ frames := 2, cells := 0, slots := 0, locals := 80 }) (PcS dC dI (TY cI cJ cII cJJ) [.ref a0, .ref a2, .int 32] [(a0, .inr (9, [.ref a4, .ref a5, .ref a6, .ref a7, .ref a1, .ref a3, .ref a8, .ref a9, .ref a10, .ref a11, .ref a12, .ref a13, .int 1, .int 0, .int 0, .ref a14, .ref a15, .ref a16, .ref a17, .ref a18, .ref a19, .int 0, .int 0, .ref a20, .ref a21, .ref a22, .ref a23, .int 0, .int 0, .ref a24, .ref a25, .ref a26, .ref a27, .int 1, .ref a2, .int 11])), (a1, .inl (cI, 4, .inl (tb [0, 0, 0, 0]))), (a2, .inl (cI, 777924, .inl (tb [0, 0, 0, 0, 1, 0, 0, 0, 2, 0, 0, 0, 3, 0, 0, 0, 4, 0, 0, 0, 5, 0, 0, 0, 6, 0, 0, 0, 7, 0, 0, 0, 8, 0, 0, 0, 9, 0, 0, 0, 10]))), (a3, .inl (cI, 4, .inl (tb [0, 0, 0, 0])))] sz 0 g) ((QcL dC dI (TY cI cJ cII cJJ) 0 [(a0, .inr (9, [.ref a4, .ref a5, .ref a6, .ref a7, .ref a1, .ref a3, .ref a8, .ref a9, .ref a10, .ref a11, .ref a12, .ref a13, .int 1, .int 0, .int 0, .ref a14, .ref a15, .ref a16, .ref a17, .ref a18, .ref a19, .int 0, .int 0, .ref a20, .ref a21, .ref a22, .ref a23, .int 0, .int 0, .ref a24, .ref a25, .ref a26, .ref a27, .int 1, .ref a2, .int 11])), (a1, .inl (cI, 4, .inl (tb [0, 0, 0, 0]))), (a2, .inl (cI, 777924, .inl (tb [0, 0, 0, 0, 1, 0, 0, 0, 2, 0, 0, 0, 3, 0, 0, 0, 4, 0, 0, 0, 5, 0, 0, 0, 6, 0, 0, 0, 7, 0, 0, 0, 8, 0, 0, 0, 9, 0, 0, 0, 10]))), (a3, .inl (cI, 4, .inl (tb [0, 0, 0, 0])))]) (va_A [(a0, .inr (9, [.ref a4, .ref a5, .ref a6, .ref a7, .ref a1, .ref a3, .ref a8, .ref a9, .ref a10, .ref a11, .ref a12, .ref a13, .int 1, .int 0, .int 0, .ref a14, .ref a15, .ref a16, .ref a17, .ref a18, .ref a19, .int 0, .int 0, .ref a20, .ref a21, .ref a22, .ref a23, .int 0, .int 0, .ref a24, .ref a25, .ref a26, .ref a27, .int 1, .ref a2, .int 11])), (a1, .inl (cI, 4, .inl (tb [0, 0, 0, 0]))), (a2, .inl (cI, 777924, .inl (tb [0, 0, 0, 0, 1, 0, 0, 0, 2, 0, 0, 0, 3, 0, 0, 0, 4, 0, 0, 0, 5, 0, 0, 0, 6, 0, 0, 0, 7, 0, 0, 0, 8, 0, 0, 0, 9, 0, 0, 0, 10]))), (a3, .inl (cI, 4, .inl (tb [0, 0, 0, 0])))] sz)) 0 0 (va_A [(a0, .inr (9, [.ref a4, .ref a5, .ref a6, .ref a7, .ref a1, .ref a3, .ref a8, .ref a9, .ref a10, .ref a11, .ref a12, .ref a13, .int 1, .int 0, .int 0, .ref a14, .ref a15, .ref a16, .ref a17, .ref a18, .ref a19, .int 0, .int 0, .ref a20, .ref a21, .ref a22, .ref a23, .int 0, .int 0, .ref a24, .ref a25, .ref a26, .ref a27, .int 1, .ref a2, .int 11])), (a1, .inl (cI, 4, .inl (tb [0, 0, 0, 0]))), (a2, .inl (cI, 777924, .inl (tb [0, 0, 0, 0, 1, 0, 0, 0, 2, 0, 0, 0, 3, 0, 0, 0, 4, 0, 0, 0, 5, 0, 0, 0, 6, 0, 0, 0, 7, 0, 0, 0, 8, 0, 0, 0, 9, 0, 0, 0, 10]))), (a3, .inl (cI, 4, .inl (tb [0, 0, 0, 0])))] sz) := by
  refine SM.of (y := yX9_costOf) (maxL := 6) (av := [.ref a0, .ref a2, .int 32]) (QcL dC dI (TY cI cJ cII cJJ) 0 [(a0, .inr (9, [.ref a4, .ref a5, .ref a6, .ref a7, .ref a1, .ref a3, .ref a8, .ref a9, .ref a10, .ref a11, .ref a12, .ref a13, .int 1, .int 0, .int 0, .ref a14, .ref a15, .ref a16, .ref a17, .ref a18, .ref a19, .int 0, .int 0, .ref a20, .ref a21, .ref a22, .ref a23, .int 0, .int 0, .ref a24, .ref a25, .ref a26, .ref a27, .int 1, .ref a2, .int 11])), (a1, .inl (cI, 4, .inl (tb [0, 0, 0, 0]))), (a2, .inl (cI, 777924, .inl (tb [0, 0, 0, 0, 1, 0, 0, 0, 2, 0, 0, 0, 3, 0, 0, 0, 4, 0, 0, 0, 5, 0, 0, 0, 6, 0, 0, 0, 7, 0, 0, 0, 8, 0, 0, 0, 9, 0, 0, 0, 10]))), (a3, .inl (cI, 4, .inl (tb [0, 0, 0, 0])))]) (by decide +kernel) (Nat.le_of_ble_eq_true rfl) (fun p e s m below meth c A ls hx hb hr hml hown hts hk hnm hA hK hP hD hS hX hl => ?_)
  have hown : s.vm.findClass RX9 = some m.cls := hown
  have hl : lv_has ls 6 [(0, .ref a0), (1, .ref a2), (2, .int 32)] := hl
  refine lv_lconst (v := 0) hx hb dX9_costOf_0 (by decide) ?_
  refine lv_lstore_n (lv' := [(3, .long 0), (0, .ref a0), (1, .ref a2), (2, .int 32)]) hx hb dX9_costOf_1 rfl hl (by decide) rfl (fun ls hl => ?_)
  refine lv_iconst (v := 0) hx hb dX9_costOf_2 (by decide) ?_
  refine lv_istore (lv' := [(5, .int 0), (3, .long 0), (0, .ref a0), (1, .ref a2), (2, .int 32)]) hx hb dX9_costOf_3 hl (by decide) rfl (fun ls hl => ?_)
  refine lv_iload hx hb dX9_costOf_5 (lv_at hl 0 rfl) ?_
  refine lv_aload_n hx hb dX9_costOf_7 rfl (lv_at hl 2 rfl) ?_
  refine gf (k := 12) hx hb hts inX9 hown hK hP k_807 rfl (by decide) rfl 0 rfl (.int 1) rfl dX9_costOf_8 ?_
  refine f_icmp_ge hx hb dX9_costOf_11 64 (by decide) (by decide +kernel) ?_
  refine lv_lload_n hx hb dX9_costOf_14 rfl (lv_at hl 1 rfl) ?_
  refine lv_aload_n hx hb dX9_costOf_15 rfl (lv_at hl 2 rfl) ?_
  refine gf (k := 4) hx hb hts inX9 hown hK hP k_799 rfl (by decide) rfl 0 rfl (.ref a1) rfl dX9_costOf_16 ?_
  refine lv_iload hx hb dX9_costOf_19 (lv_at hl 0 rfl) ?_
  refine ld_i hx hb hK hP 1 rfl (vin (by decide +kernel)) dX9_costOf_21 0 rfl ?_
  refine lv_i2l (v := 0) hx hb dX9_costOf_22 (by decide +kernel) ?_
  refine lv_aload_n hx hb dX9_costOf_23 rfl (lv_at hl 3 rfl) ?_
  refine lv_iload_n hx hb dX9_costOf_24 rfl (lv_at hl 4 rfl) ?_
  refine lv_iload hx hb dX9_costOf_25 (lv_at hl 0 rfl) ?_
  refine v_iadd hx hb dX9_costOf_27 32 (by decide +kernel) ?_
  refine ld_i hx hb hK hP 2 rfl (vin (by decide +kernel)) dX9_costOf_28 8 rfl ?_
  refine lv_i2l (v := 8) hx hb dX9_costOf_29 (by decide +kernel) ?_
  refine v_lmul hx hb dX9_costOf_30 0 (by decide +kernel) ?_
  refine lv_aload_n hx hb dX9_costOf_31 rfl (lv_at hl 2 rfl) ?_
  refine gf (k := 5) hx hb hts inX9 hown hK hP k_800 rfl (by decide) rfl 0 rfl (.ref a3) rfl dX9_costOf_32 ?_
  refine lv_iload hx hb dX9_costOf_35 (lv_at hl 0 rfl) ?_
  refine ld_i hx hb hK hP 3 rfl (vin (by decide +kernel)) dX9_costOf_37 0 rfl ?_
  refine lv_i2l (v := 0) hx hb dX9_costOf_38 (by decide +kernel) ?_
  refine lv_aload_n hx hb dX9_costOf_39 rfl (lv_at hl 3 rfl) ?_
  refine lv_iload_n hx hb dX9_costOf_40 rfl (lv_at hl 4 rfl) ?_
  refine lv_iload hx hb dX9_costOf_41 (lv_at hl 0 rfl) ?_
  refine v_iadd hx hb dX9_costOf_43 32 (by decide +kernel) ?_
  refine ld_i hx hb hK hP 2 rfl (vin (by decide +kernel)) dX9_costOf_44 8 rfl ?_
  refine lv_i2l (v := 8) hx hb dX9_costOf_45 (by decide +kernel) ?_
  refine v_lmul hx hb dX9_costOf_46 0 (by decide +kernel) ?_
  refine lv_aload_n hx hb dX9_costOf_47 rfl (lv_at hl 3 rfl) ?_
  refine lv_iload_n hx hb dX9_costOf_48 rfl (lv_at hl 4 rfl) ?_
  refine lv_iload hx hb dX9_costOf_49 (lv_at hl 0 rfl) ?_
  refine v_iadd hx hb dX9_costOf_51 32 (by decide +kernel) ?_
  refine ld_i hx hb hK hP 2 rfl (vin (by decide +kernel)) dX9_costOf_52 8 rfl ?_
  refine lv_i2l (v := 8) hx hb dX9_costOf_53 (by decide +kernel) ?_
  refine v_lmul hx hb dX9_costOf_54 0 (by decide +kernel) ?_
  refine v_ladd hx hb dX9_costOf_55 0 (by decide +kernel) ?_
  refine v_ladd hx hb dX9_costOf_56 0 (by decide +kernel) ?_
  refine lv_lstore_n (lv' := [(3, .long 0), (5, .int 0), (0, .ref a0), (1, .ref a2), (2, .int 32)]) hx hb dX9_costOf_57 rfl hl (by decide) rfl (fun ls hl => ?_)
  refine lv_iinc (v := 1) (lv' := [(5, .int 1), (3, .long 0), (0, .ref a0), (1, .ref a2), (2, .int 32)]) hx hb dX9_costOf_58 hl (k := 1) rfl (by decide +kernel) (by decide) rfl (fun ls hl => ?_)
  refine lv_goto (tgt := 5) hx hb dX9_costOf_61 (by decide) ?_
  refine lv_iload hx hb dX9_costOf_5 (lv_at hl 0 rfl) ?_
  refine lv_aload_n hx hb dX9_costOf_7 rfl (lv_at hl 2 rfl) ?_
  refine gf (k := 12) hx hb hts inX9 hown hK hP k_807 rfl (by decide) rfl 0 rfl (.int 1) rfl dX9_costOf_8 ?_
  refine t_icmp_ge hx hb dX9_costOf_11 64 (by decide) (by decide +kernel) ?_
  refine lv_lload_n hx hb dX9_costOf_64 rfl (lv_at hl 1 rfl) ?_
  exact r_l hx hb hr hk hK hP hD hS dX9_costOf_65
set_option maxRecDepth 100000 in
set_option maxHeartbeats 4000000 in
theorem c574_X9_costOf (l : Launch) (dC : Nat → ClassId) (dI : Nat → Nat → Nat) (cI cJ cII cJJ : ClassId) (sz g a0 a1 a2 a3 a4 a5 a6 a7 a8 a9 a10 a11 a12 a13 a14 a15 a16 a17 a18 a19 a20 a21 a22 a23 a24 a25 a26 a27 : Nat) : Met l yX9_costOf (.code yX9_costOf cX9_costOf 6 (some .long) :: TT) ({ frames := 2, cells := 0, slots := 0, locals := 80 }) (PcS dC dI (TY cI cJ cII cJJ) [.ref a0, .ref a2, .int 36] [(a0, .inr (9, [.ref a4, .ref a5, .ref a6, .ref a7, .ref a1, .ref a3, .ref a8, .ref a9, .ref a10, .ref a11, .ref a12, .ref a13, .int 1, .int 0, .int 0, .ref a14, .ref a15, .ref a16, .ref a17, .ref a18, .ref a19, .int 0, .int 0, .ref a20, .ref a21, .ref a22, .ref a23, .int 0, .int 0, .ref a24, .ref a25, .ref a26, .ref a27, .int 1, .ref a2, .int 11])), (a1, .inl (cI, 4, .inl (tb [0, 0, 0, 0]))), (a2, .inl (cI, 777924, .inl (tb [0, 0, 0, 0, 1, 0, 0, 0, 2, 0, 0, 0, 3, 0, 0, 0, 4, 0, 0, 0, 5, 0, 0, 0, 6, 0, 0, 0, 7, 0, 0, 0, 8, 0, 0, 0, 9, 0, 0, 0, 10]))), (a3, .inl (cI, 4, .inl (tb [0, 0, 0, 0])))] sz 0 g) ((QcL dC dI (TY cI cJ cII cJJ) 0 [(a0, .inr (9, [.ref a4, .ref a5, .ref a6, .ref a7, .ref a1, .ref a3, .ref a8, .ref a9, .ref a10, .ref a11, .ref a12, .ref a13, .int 1, .int 0, .int 0, .ref a14, .ref a15, .ref a16, .ref a17, .ref a18, .ref a19, .int 0, .int 0, .ref a20, .ref a21, .ref a22, .ref a23, .int 0, .int 0, .ref a24, .ref a25, .ref a26, .ref a27, .int 1, .ref a2, .int 11])), (a1, .inl (cI, 4, .inl (tb [0, 0, 0, 0]))), (a2, .inl (cI, 777924, .inl (tb [0, 0, 0, 0, 1, 0, 0, 0, 2, 0, 0, 0, 3, 0, 0, 0, 4, 0, 0, 0, 5, 0, 0, 0, 6, 0, 0, 0, 7, 0, 0, 0, 8, 0, 0, 0, 9, 0, 0, 0, 10]))), (a3, .inl (cI, 4, .inl (tb [0, 0, 0, 0])))]) (va_A [(a0, .inr (9, [.ref a4, .ref a5, .ref a6, .ref a7, .ref a1, .ref a3, .ref a8, .ref a9, .ref a10, .ref a11, .ref a12, .ref a13, .int 1, .int 0, .int 0, .ref a14, .ref a15, .ref a16, .ref a17, .ref a18, .ref a19, .int 0, .int 0, .ref a20, .ref a21, .ref a22, .ref a23, .int 0, .int 0, .ref a24, .ref a25, .ref a26, .ref a27, .int 1, .ref a2, .int 11])), (a1, .inl (cI, 4, .inl (tb [0, 0, 0, 0]))), (a2, .inl (cI, 777924, .inl (tb [0, 0, 0, 0, 1, 0, 0, 0, 2, 0, 0, 0, 3, 0, 0, 0, 4, 0, 0, 0, 5, 0, 0, 0, 6, 0, 0, 0, 7, 0, 0, 0, 8, 0, 0, 0, 9, 0, 0, 0, 10]))), (a3, .inl (cI, 4, .inl (tb [0, 0, 0, 0])))] sz)) 0 0 (va_A [(a0, .inr (9, [.ref a4, .ref a5, .ref a6, .ref a7, .ref a1, .ref a3, .ref a8, .ref a9, .ref a10, .ref a11, .ref a12, .ref a13, .int 1, .int 0, .int 0, .ref a14, .ref a15, .ref a16, .ref a17, .ref a18, .ref a19, .int 0, .int 0, .ref a20, .ref a21, .ref a22, .ref a23, .int 0, .int 0, .ref a24, .ref a25, .ref a26, .ref a27, .int 1, .ref a2, .int 11])), (a1, .inl (cI, 4, .inl (tb [0, 0, 0, 0]))), (a2, .inl (cI, 777924, .inl (tb [0, 0, 0, 0, 1, 0, 0, 0, 2, 0, 0, 0, 3, 0, 0, 0, 4, 0, 0, 0, 5, 0, 0, 0, 6, 0, 0, 0, 7, 0, 0, 0, 8, 0, 0, 0, 9, 0, 0, 0, 10]))), (a3, .inl (cI, 4, .inl (tb [0, 0, 0, 0])))] sz) := by
  refine SM.of (y := yX9_costOf) (maxL := 6) (av := [.ref a0, .ref a2, .int 36]) (QcL dC dI (TY cI cJ cII cJJ) 0 [(a0, .inr (9, [.ref a4, .ref a5, .ref a6, .ref a7, .ref a1, .ref a3, .ref a8, .ref a9, .ref a10, .ref a11, .ref a12, .ref a13, .int 1, .int 0, .int 0, .ref a14, .ref a15, .ref a16, .ref a17, .ref a18, .ref a19, .int 0, .int 0, .ref a20, .ref a21, .ref a22, .ref a23, .int 0, .int 0, .ref a24, .ref a25, .ref a26, .ref a27, .int 1, .ref a2, .int 11])), (a1, .inl (cI, 4, .inl (tb [0, 0, 0, 0]))), (a2, .inl (cI, 777924, .inl (tb [0, 0, 0, 0, 1, 0, 0, 0, 2, 0, 0, 0, 3, 0, 0, 0, 4, 0, 0, 0, 5, 0, 0, 0, 6, 0, 0, 0, 7, 0, 0, 0, 8, 0, 0, 0, 9, 0, 0, 0, 10]))), (a3, .inl (cI, 4, .inl (tb [0, 0, 0, 0])))]) (by decide +kernel) (Nat.le_of_ble_eq_true rfl) (fun p e s m below meth c A ls hx hb hr hml hown hts hk hnm hA hK hP hD hS hX hl => ?_)
  have hown : s.vm.findClass RX9 = some m.cls := hown
  have hl : lv_has ls 6 [(0, .ref a0), (1, .ref a2), (2, .int 36)] := hl
  refine lv_lconst (v := 0) hx hb dX9_costOf_0 (by decide) ?_
  refine lv_lstore_n (lv' := [(3, .long 0), (0, .ref a0), (1, .ref a2), (2, .int 36)]) hx hb dX9_costOf_1 rfl hl (by decide) rfl (fun ls hl => ?_)
  refine lv_iconst (v := 0) hx hb dX9_costOf_2 (by decide) ?_
  refine lv_istore (lv' := [(5, .int 0), (3, .long 0), (0, .ref a0), (1, .ref a2), (2, .int 36)]) hx hb dX9_costOf_3 hl (by decide) rfl (fun ls hl => ?_)
  refine lv_iload hx hb dX9_costOf_5 (lv_at hl 0 rfl) ?_
  refine lv_aload_n hx hb dX9_costOf_7 rfl (lv_at hl 2 rfl) ?_
  refine gf (k := 12) hx hb hts inX9 hown hK hP k_807 rfl (by decide) rfl 0 rfl (.int 1) rfl dX9_costOf_8 ?_
  refine f_icmp_ge hx hb dX9_costOf_11 64 (by decide) (by decide +kernel) ?_
  refine lv_lload_n hx hb dX9_costOf_14 rfl (lv_at hl 1 rfl) ?_
  refine lv_aload_n hx hb dX9_costOf_15 rfl (lv_at hl 2 rfl) ?_
  refine gf (k := 4) hx hb hts inX9 hown hK hP k_799 rfl (by decide) rfl 0 rfl (.ref a1) rfl dX9_costOf_16 ?_
  refine lv_iload hx hb dX9_costOf_19 (lv_at hl 0 rfl) ?_
  refine ld_i hx hb hK hP 1 rfl (vin (by decide +kernel)) dX9_costOf_21 0 rfl ?_
  refine lv_i2l (v := 0) hx hb dX9_costOf_22 (by decide +kernel) ?_
  refine lv_aload_n hx hb dX9_costOf_23 rfl (lv_at hl 3 rfl) ?_
  refine lv_iload_n hx hb dX9_costOf_24 rfl (lv_at hl 4 rfl) ?_
  refine lv_iload hx hb dX9_costOf_25 (lv_at hl 0 rfl) ?_
  refine v_iadd hx hb dX9_costOf_27 36 (by decide +kernel) ?_
  refine ld_i hx hb hK hP 2 rfl (vin (by decide +kernel)) dX9_costOf_28 9 rfl ?_
  refine lv_i2l (v := 9) hx hb dX9_costOf_29 (by decide +kernel) ?_
  refine v_lmul hx hb dX9_costOf_30 0 (by decide +kernel) ?_
  refine lv_aload_n hx hb dX9_costOf_31 rfl (lv_at hl 2 rfl) ?_
  refine gf (k := 5) hx hb hts inX9 hown hK hP k_800 rfl (by decide) rfl 0 rfl (.ref a3) rfl dX9_costOf_32 ?_
  refine lv_iload hx hb dX9_costOf_35 (lv_at hl 0 rfl) ?_
  refine ld_i hx hb hK hP 3 rfl (vin (by decide +kernel)) dX9_costOf_37 0 rfl ?_
  refine lv_i2l (v := 0) hx hb dX9_costOf_38 (by decide +kernel) ?_
  refine lv_aload_n hx hb dX9_costOf_39 rfl (lv_at hl 3 rfl) ?_
  refine lv_iload_n hx hb dX9_costOf_40 rfl (lv_at hl 4 rfl) ?_
  refine lv_iload hx hb dX9_costOf_41 (lv_at hl 0 rfl) ?_
  refine v_iadd hx hb dX9_costOf_43 36 (by decide +kernel) ?_
  refine ld_i hx hb hK hP 2 rfl (vin (by decide +kernel)) dX9_costOf_44 9 rfl ?_
  refine lv_i2l (v := 9) hx hb dX9_costOf_45 (by decide +kernel) ?_
  refine v_lmul hx hb dX9_costOf_46 0 (by decide +kernel) ?_
  refine lv_aload_n hx hb dX9_costOf_47 rfl (lv_at hl 3 rfl) ?_
  refine lv_iload_n hx hb dX9_costOf_48 rfl (lv_at hl 4 rfl) ?_
  refine lv_iload hx hb dX9_costOf_49 (lv_at hl 0 rfl) ?_
  refine v_iadd hx hb dX9_costOf_51 36 (by decide +kernel) ?_
  refine ld_i hx hb hK hP 2 rfl (vin (by decide +kernel)) dX9_costOf_52 9 rfl ?_
  refine lv_i2l (v := 9) hx hb dX9_costOf_53 (by decide +kernel) ?_
  refine v_lmul hx hb dX9_costOf_54 0 (by decide +kernel) ?_
  refine v_ladd hx hb dX9_costOf_55 0 (by decide +kernel) ?_
  refine v_ladd hx hb dX9_costOf_56 0 (by decide +kernel) ?_
  refine lv_lstore_n (lv' := [(3, .long 0), (5, .int 0), (0, .ref a0), (1, .ref a2), (2, .int 36)]) hx hb dX9_costOf_57 rfl hl (by decide) rfl (fun ls hl => ?_)
  refine lv_iinc (v := 1) (lv' := [(5, .int 1), (3, .long 0), (0, .ref a0), (1, .ref a2), (2, .int 36)]) hx hb dX9_costOf_58 hl (k := 1) rfl (by decide +kernel) (by decide) rfl (fun ls hl => ?_)
  refine lv_goto (tgt := 5) hx hb dX9_costOf_61 (by decide) ?_
  refine lv_iload hx hb dX9_costOf_5 (lv_at hl 0 rfl) ?_
  refine lv_aload_n hx hb dX9_costOf_7 rfl (lv_at hl 2 rfl) ?_
  refine gf (k := 12) hx hb hts inX9 hown hK hP k_807 rfl (by decide) rfl 0 rfl (.int 1) rfl dX9_costOf_8 ?_
  refine t_icmp_ge hx hb dX9_costOf_11 64 (by decide) (by decide +kernel) ?_
  refine lv_lload_n hx hb dX9_costOf_64 rfl (lv_at hl 1 rfl) ?_
  exact r_l hx hb hr hk hK hP hD hS dX9_costOf_65
set_option maxRecDepth 100000 in
set_option maxHeartbeats 4000000 in
theorem c575_X9_costOf (l : Launch) (dC : Nat → ClassId) (dI : Nat → Nat → Nat) (cI cJ cII cJJ : ClassId) (sz g a0 a1 a2 a3 a4 a5 a6 a7 a8 a9 a10 a11 a12 a13 a14 a15 a16 a17 a18 a19 a20 a21 a22 a23 a24 a25 a26 a27 : Nat) : Met l yX9_costOf (.code yX9_costOf cX9_costOf 6 (some .long) :: TT) ({ frames := 2, cells := 0, slots := 0, locals := 80 }) (PcS dC dI (TY cI cJ cII cJJ) [.ref a0, .ref a2, .int 40] [(a0, .inr (9, [.ref a4, .ref a5, .ref a6, .ref a7, .ref a1, .ref a3, .ref a8, .ref a9, .ref a10, .ref a11, .ref a12, .ref a13, .int 1, .int 0, .int 0, .ref a14, .ref a15, .ref a16, .ref a17, .ref a18, .ref a19, .int 0, .int 0, .ref a20, .ref a21, .ref a22, .ref a23, .int 0, .int 0, .ref a24, .ref a25, .ref a26, .ref a27, .int 1, .ref a2, .int 11])), (a1, .inl (cI, 4, .inl (tb [0, 0, 0, 0]))), (a2, .inl (cI, 777924, .inl (tb [0, 0, 0, 0, 1, 0, 0, 0, 2, 0, 0, 0, 3, 0, 0, 0, 4, 0, 0, 0, 5, 0, 0, 0, 6, 0, 0, 0, 7, 0, 0, 0, 8, 0, 0, 0, 9, 0, 0, 0, 10]))), (a3, .inl (cI, 4, .inl (tb [0, 0, 0, 0])))] sz 0 g) ((QcL dC dI (TY cI cJ cII cJJ) 0 [(a0, .inr (9, [.ref a4, .ref a5, .ref a6, .ref a7, .ref a1, .ref a3, .ref a8, .ref a9, .ref a10, .ref a11, .ref a12, .ref a13, .int 1, .int 0, .int 0, .ref a14, .ref a15, .ref a16, .ref a17, .ref a18, .ref a19, .int 0, .int 0, .ref a20, .ref a21, .ref a22, .ref a23, .int 0, .int 0, .ref a24, .ref a25, .ref a26, .ref a27, .int 1, .ref a2, .int 11])), (a1, .inl (cI, 4, .inl (tb [0, 0, 0, 0]))), (a2, .inl (cI, 777924, .inl (tb [0, 0, 0, 0, 1, 0, 0, 0, 2, 0, 0, 0, 3, 0, 0, 0, 4, 0, 0, 0, 5, 0, 0, 0, 6, 0, 0, 0, 7, 0, 0, 0, 8, 0, 0, 0, 9, 0, 0, 0, 10]))), (a3, .inl (cI, 4, .inl (tb [0, 0, 0, 0])))]) (va_A [(a0, .inr (9, [.ref a4, .ref a5, .ref a6, .ref a7, .ref a1, .ref a3, .ref a8, .ref a9, .ref a10, .ref a11, .ref a12, .ref a13, .int 1, .int 0, .int 0, .ref a14, .ref a15, .ref a16, .ref a17, .ref a18, .ref a19, .int 0, .int 0, .ref a20, .ref a21, .ref a22, .ref a23, .int 0, .int 0, .ref a24, .ref a25, .ref a26, .ref a27, .int 1, .ref a2, .int 11])), (a1, .inl (cI, 4, .inl (tb [0, 0, 0, 0]))), (a2, .inl (cI, 777924, .inl (tb [0, 0, 0, 0, 1, 0, 0, 0, 2, 0, 0, 0, 3, 0, 0, 0, 4, 0, 0, 0, 5, 0, 0, 0, 6, 0, 0, 0, 7, 0, 0, 0, 8, 0, 0, 0, 9, 0, 0, 0, 10]))), (a3, .inl (cI, 4, .inl (tb [0, 0, 0, 0])))] sz)) 0 0 (va_A [(a0, .inr (9, [.ref a4, .ref a5, .ref a6, .ref a7, .ref a1, .ref a3, .ref a8, .ref a9, .ref a10, .ref a11, .ref a12, .ref a13, .int 1, .int 0, .int 0, .ref a14, .ref a15, .ref a16, .ref a17, .ref a18, .ref a19, .int 0, .int 0, .ref a20, .ref a21, .ref a22, .ref a23, .int 0, .int 0, .ref a24, .ref a25, .ref a26, .ref a27, .int 1, .ref a2, .int 11])), (a1, .inl (cI, 4, .inl (tb [0, 0, 0, 0]))), (a2, .inl (cI, 777924, .inl (tb [0, 0, 0, 0, 1, 0, 0, 0, 2, 0, 0, 0, 3, 0, 0, 0, 4, 0, 0, 0, 5, 0, 0, 0, 6, 0, 0, 0, 7, 0, 0, 0, 8, 0, 0, 0, 9, 0, 0, 0, 10]))), (a3, .inl (cI, 4, .inl (tb [0, 0, 0, 0])))] sz) := by
  refine SM.of (y := yX9_costOf) (maxL := 6) (av := [.ref a0, .ref a2, .int 40]) (QcL dC dI (TY cI cJ cII cJJ) 0 [(a0, .inr (9, [.ref a4, .ref a5, .ref a6, .ref a7, .ref a1, .ref a3, .ref a8, .ref a9, .ref a10, .ref a11, .ref a12, .ref a13, .int 1, .int 0, .int 0, .ref a14, .ref a15, .ref a16, .ref a17, .ref a18, .ref a19, .int 0, .int 0, .ref a20, .ref a21, .ref a22, .ref a23, .int 0, .int 0, .ref a24, .ref a25, .ref a26, .ref a27, .int 1, .ref a2, .int 11])), (a1, .inl (cI, 4, .inl (tb [0, 0, 0, 0]))), (a2, .inl (cI, 777924, .inl (tb [0, 0, 0, 0, 1, 0, 0, 0, 2, 0, 0, 0, 3, 0, 0, 0, 4, 0, 0, 0, 5, 0, 0, 0, 6, 0, 0, 0, 7, 0, 0, 0, 8, 0, 0, 0, 9, 0, 0, 0, 10]))), (a3, .inl (cI, 4, .inl (tb [0, 0, 0, 0])))]) (by decide +kernel) (Nat.le_of_ble_eq_true rfl) (fun p e s m below meth c A ls hx hb hr hml hown hts hk hnm hA hK hP hD hS hX hl => ?_)
  have hown : s.vm.findClass RX9 = some m.cls := hown
  have hl : lv_has ls 6 [(0, .ref a0), (1, .ref a2), (2, .int 40)] := hl
  refine lv_lconst (v := 0) hx hb dX9_costOf_0 (by decide) ?_
  refine lv_lstore_n (lv' := [(3, .long 0), (0, .ref a0), (1, .ref a2), (2, .int 40)]) hx hb dX9_costOf_1 rfl hl (by decide) rfl (fun ls hl => ?_)
  refine lv_iconst (v := 0) hx hb dX9_costOf_2 (by decide) ?_
  refine lv_istore (lv' := [(5, .int 0), (3, .long 0), (0, .ref a0), (1, .ref a2), (2, .int 40)]) hx hb dX9_costOf_3 hl (by decide) rfl (fun ls hl => ?_)
  refine lv_iload hx hb dX9_costOf_5 (lv_at hl 0 rfl) ?_
  refine lv_aload_n hx hb dX9_costOf_7 rfl (lv_at hl 2 rfl) ?_
  refine gf (k := 12) hx hb hts inX9 hown hK hP k_807 rfl (by decide) rfl 0 rfl (.int 1) rfl dX9_costOf_8 ?_
  refine f_icmp_ge hx hb dX9_costOf_11 64 (by decide) (by decide +kernel) ?_
  refine lv_lload_n hx hb dX9_costOf_14 rfl (lv_at hl 1 rfl) ?_
  refine lv_aload_n hx hb dX9_costOf_15 rfl (lv_at hl 2 rfl) ?_
  refine gf (k := 4) hx hb hts inX9 hown hK hP k_799 rfl (by decide) rfl 0 rfl (.ref a1) rfl dX9_costOf_16 ?_
  refine lv_iload hx hb dX9_costOf_19 (lv_at hl 0 rfl) ?_
  refine ld_i hx hb hK hP 1 rfl (vin (by decide +kernel)) dX9_costOf_21 0 rfl ?_
  refine lv_i2l (v := 0) hx hb dX9_costOf_22 (by decide +kernel) ?_
  refine lv_aload_n hx hb dX9_costOf_23 rfl (lv_at hl 3 rfl) ?_
  refine lv_iload_n hx hb dX9_costOf_24 rfl (lv_at hl 4 rfl) ?_
  refine lv_iload hx hb dX9_costOf_25 (lv_at hl 0 rfl) ?_
  refine v_iadd hx hb dX9_costOf_27 40 (by decide +kernel) ?_
  refine ld_i hx hb hK hP 2 rfl (vin (by decide +kernel)) dX9_costOf_28 10 rfl ?_
  refine lv_i2l (v := 10) hx hb dX9_costOf_29 (by decide +kernel) ?_
  refine v_lmul hx hb dX9_costOf_30 0 (by decide +kernel) ?_
  refine lv_aload_n hx hb dX9_costOf_31 rfl (lv_at hl 2 rfl) ?_
  refine gf (k := 5) hx hb hts inX9 hown hK hP k_800 rfl (by decide) rfl 0 rfl (.ref a3) rfl dX9_costOf_32 ?_
  refine lv_iload hx hb dX9_costOf_35 (lv_at hl 0 rfl) ?_
  refine ld_i hx hb hK hP 3 rfl (vin (by decide +kernel)) dX9_costOf_37 0 rfl ?_
  refine lv_i2l (v := 0) hx hb dX9_costOf_38 (by decide +kernel) ?_
  refine lv_aload_n hx hb dX9_costOf_39 rfl (lv_at hl 3 rfl) ?_
  refine lv_iload_n hx hb dX9_costOf_40 rfl (lv_at hl 4 rfl) ?_
  refine lv_iload hx hb dX9_costOf_41 (lv_at hl 0 rfl) ?_
  refine v_iadd hx hb dX9_costOf_43 40 (by decide +kernel) ?_
  refine ld_i hx hb hK hP 2 rfl (vin (by decide +kernel)) dX9_costOf_44 10 rfl ?_
  refine lv_i2l (v := 10) hx hb dX9_costOf_45 (by decide +kernel) ?_
  refine v_lmul hx hb dX9_costOf_46 0 (by decide +kernel) ?_
  refine lv_aload_n hx hb dX9_costOf_47 rfl (lv_at hl 3 rfl) ?_
  refine lv_iload_n hx hb dX9_costOf_48 rfl (lv_at hl 4 rfl) ?_
  refine lv_iload hx hb dX9_costOf_49 (lv_at hl 0 rfl) ?_
  refine v_iadd hx hb dX9_costOf_51 40 (by decide +kernel) ?_
  refine ld_i hx hb hK hP 2 rfl (vin (by decide +kernel)) dX9_costOf_52 10 rfl ?_
  refine lv_i2l (v := 10) hx hb dX9_costOf_53 (by decide +kernel) ?_
  refine v_lmul hx hb dX9_costOf_54 0 (by decide +kernel) ?_
  refine v_ladd hx hb dX9_costOf_55 0 (by decide +kernel) ?_
  refine v_ladd hx hb dX9_costOf_56 0 (by decide +kernel) ?_
  refine lv_lstore_n (lv' := [(3, .long 0), (5, .int 0), (0, .ref a0), (1, .ref a2), (2, .int 40)]) hx hb dX9_costOf_57 rfl hl (by decide) rfl (fun ls hl => ?_)
  refine lv_iinc (v := 1) (lv' := [(5, .int 1), (3, .long 0), (0, .ref a0), (1, .ref a2), (2, .int 40)]) hx hb dX9_costOf_58 hl (k := 1) rfl (by decide +kernel) (by decide) rfl (fun ls hl => ?_)
  refine lv_goto (tgt := 5) hx hb dX9_costOf_61 (by decide) ?_
  refine lv_iload hx hb dX9_costOf_5 (lv_at hl 0 rfl) ?_
  refine lv_aload_n hx hb dX9_costOf_7 rfl (lv_at hl 2 rfl) ?_
  refine gf (k := 12) hx hb hts inX9 hown hK hP k_807 rfl (by decide) rfl 0 rfl (.int 1) rfl dX9_costOf_8 ?_
  refine t_icmp_ge hx hb dX9_costOf_11 64 (by decide) (by decide +kernel) ?_
  refine lv_lload_n hx hb dX9_costOf_64 rfl (lv_at hl 1 rfl) ?_
  exact r_l hx hb hr hk hK hP hD hS dX9_costOf_65
set_option maxRecDepth 100000 in
set_option maxHeartbeats 4000000 in
theorem c564_X9_extreme_s2 (l : Launch) (dC : Nat → ClassId) (dI : Nat → Nat → Nat) (cI cJ cII cJJ : ClassId) (g a0 a1 a2 a3 a4 a5 a6 a7 a8 a9 a10 a11 a12 a13 a14 a15 a16 a17 a18 a19 a20 a21 a22 a23 a24 a25 a26 a27 : Nat) {p : Program} {e : Env} {s : State} {m : MethodId} {below : List Frame} {meth : Method} {c : Code} {A : Nat → Prop} {ls : Array Slot} {H : Heap} {locs : List Loc} (hx : p.tables.exec = Jvm.exec) (hb : c.code = cX9_extreme) (hr : meth.sig.returnType = (some .int)) (hml : c.maxLocals = 8) (hown : s.vm.findClass RX9 = some m.cls) (hts : ∀ w ∈ TT, w.before ([.ref a0, .int 0] : List Value).toArray s = true) (hk : meth.locks = false) (hA : ∀ q, s.heap.size ≤ q → A q) (hK : va_K (dC, dI) vwCl (TY cI cJ cII cJJ) s) (hP : va_P (dC, dI) vwCl [(a1, .inl (cI, 4, .inl (tb [0, 0, 0, 0]))), (a3, .inl (cI, 4, .inl (tb [10]))), (a2, .inl (cI, 4, .inl (tb [10, 10, 10, 10]))), (a0, .inr (9, [.ref a7, .ref a8, .ref a1, .ref a2, .ref a5, .ref a6, .ref a9, .ref a10, .ref a11, .ref a12, .ref a13, .ref a14, .int 1, .int 0, .int 0, .ref a15, .ref a16, .ref a17, .ref a18, .ref a19, .ref a20, .int 0, .int 0, .ref a21, .ref a22, .ref a23, .ref a24, .int 0, .int 0, .ref a25, .ref a26, .ref a27, .ref a3, .int 1, .ref a4, .int 11])), (a5, .inl (cI, 4, .inl (tb [0, 0, 0, 0]))), (a4, .inl (cI, 777924, .inl (tb [0, 0, 0, 0, 1, 0, 0, 0, 2, 0, 0, 0, 3, 0, 0, 0, 4, 0, 0, 0, 5, 0, 0, 0, 6, 0, 0, 0, 7, 0, 0, 0, 8, 0, 0, 0, 9, 0, 0, 0, 10]))), (a6, .inl (cI, 4, .inl (tb [0, 0, 0, 0])))] H) (hD : va_D A [(a1, .inl (cI, 4, .inl (tb [0, 0, 0, 0]))), (a3, .inl (cI, 4, .inl (tb [10]))), (a2, .inl (cI, 4, .inl (tb [10, 10, 10, 10]))), (a0, .inr (9, [.ref a7, .ref a8, .ref a1, .ref a2, .ref a5, .ref a6, .ref a9, .ref a10, .ref a11, .ref a12, .ref a13, .ref a14, .int 1, .int 0, .int 0, .ref a15, .ref a16, .ref a17, .ref a18, .ref a19, .ref a20, .int 0, .int 0, .ref a21, .ref a22, .ref a23, .ref a24, .int 0, .int 0, .ref a25, .ref a26, .ref a27, .ref a3, .int 1, .ref a4, .int 11])), (a5, .inl (cI, 4, .inl (tb [0, 0, 0, 0]))), (a4, .inl (cI, 777924, .inl (tb [0, 0, 0, 0, 1, 0, 0, 0, 2, 0, 0, 0, 3, 0, 0, 0, 4, 0, 0, 0, 5, 0, 0, 0, 6, 0, 0, 0, 7, 0, 0, 0, 8, 0, 0, 0, 9, 0, 0, 0, 10]))), (a6, .inl (cI, 4, .inl (tb [0, 0, 0, 0])))]) (hS : va_S A s.heap H locs) (hX : GXA 0 g A s) (hl : lv_has ls 8 [(6, .long 0), (5, .int 10), (3, .long 0), (2, .int 0), (0, .ref a0), (1, .int 0)]) : W p l e ({ frames := 6, cells := 0, slots := 0, locals := 320 } : Room) s m ([.ref a0, .int 0] : List Value).toArray below meth c H locs 0 0 (MQ below ((QcI dC dI (TY cI cJ cII cJJ) 0 []) A) ([.ref a0, .int 0] : List Value).toArray s 0 0 A) (F0 m 62 ls []) := by
  refine lv_iload_n hx hb dX9_extreme_62 rfl (lv_at hl 5 rfl) ?_
  refine f_if_ne hx hb dX9_extreme_63 76 (by decide) (by decide +kernel) ?_
  refine lv_lload hx hb dX9_extreme_66 (lv_at hl 0 rfl) ?_
  refine lv_lload_n hx hb dX9_extreme_68 rfl (lv_at hl 2 rfl) ?_
  refine v_lcmp hx hb dX9_extreme_69 0 (by decide +kernel) ?_
  refine f_if_lt hx hb dX9_extreme_70 86 (by decide) (by decide +kernel) ?_
  refine lv_goto (tgt := 92) hx hb dX9_extreme_73 (by decide) ?_
  refine lv_iinc (v := 11) (lv' := [(5, .int 11), (6, .long 0), (3, .long 0), (2, .int 0), (0, .ref a0), (1, .int 0)]) hx hb dX9_extreme_92 hl (k := 1) rfl (by decide +kernel) (by decide) rfl (fun ls hl => ?_)
  refine lv_goto (tgt := 39) hx hb dX9_extreme_95 (by decide) ?_
  refine lv_iload hx hb dX9_extreme_39 (lv_at hl 0 rfl) ?_
  refine lv_aload_n hx hb dX9_extreme_41 rfl (lv_at hl 4 rfl) ?_
  refine gf (k := 35) hx hb hts inX9 hown hK hP k_830 rfl (by decide) rfl 3 rfl (.int 11) rfl dX9_extreme_42 ?_
  refine t_icmp_ge hx hb dX9_extreme_45 98 (by decide) (by decide +kernel) ?_
  refine lv_iload_n hx hb dX9_extreme_98 rfl (lv_at hl 3 rfl) ?_
  exact r_i hx hb hr hk hK (hP.sub [] rfl) (hD.sub [] rfl rfl) hS dX9_extreme_99
set_option maxRecDepth 100000 in
set_option maxHeartbeats 4000000 in
theorem c564_X9_extreme_s1 (l : Launch) (dC : Nat → ClassId) (dI : Nat → Nat → Nat) (cI cJ cII cJJ : ClassId) (g a0 a1 a2 a3 a4 a5 a6 a7 a8 a9 a10 a11 a12 a13 a14 a15 a16 a17 a18 a19 a20 a21 a22 a23 a24 a25 a26 a27 : Nat) {p : Program} {e : Env} {s : State} {m : MethodId} {below : List Frame} {meth : Method} {c : Code} {A : Nat → Prop} {ls : Array Slot} {H : Heap} {locs : List Loc} (hx : p.tables.exec = Jvm.exec) (hb : c.code = cX9_extreme) (hr : meth.sig.returnType = (some .int)) (hml : c.maxLocals = 8) (hown : s.vm.findClass RX9 = some m.cls) (hts : ∀ w ∈ TT, w.before ([.ref a0, .int 0] : List Value).toArray s = true) (hk : meth.locks = false) (hA : ∀ q, s.heap.size ≤ q → A q) (hK : va_K (dC, dI) vwCl (TY cI cJ cII cJJ) s) (hP : va_P (dC, dI) vwCl [(a1, .inl (cI, 4, .inl (tb [0, 0, 0, 0]))), (a3, .inl (cI, 4, .inl (tb [10]))), (a2, .inl (cI, 4, .inl (tb [10, 10, 10, 10]))), (a0, .inr (9, [.ref a7, .ref a8, .ref a1, .ref a2, .ref a5, .ref a6, .ref a9, .ref a10, .ref a11, .ref a12, .ref a13, .ref a14, .int 1, .int 0, .int 0, .ref a15, .ref a16, .ref a17, .ref a18, .ref a19, .ref a20, .int 0, .int 0, .ref a21, .ref a22, .ref a23, .ref a24, .int 0, .int 0, .ref a25, .ref a26, .ref a27, .ref a3, .int 1, .ref a4, .int 11])), (a5, .inl (cI, 4, .inl (tb [0, 0, 0, 0]))), (a4, .inl (cI, 777924, .inl (tb [0, 0, 0, 0, 1, 0, 0, 0, 2, 0, 0, 0, 3, 0, 0, 0, 4, 0, 0, 0, 5, 0, 0, 0, 6, 0, 0, 0, 7, 0, 0, 0, 8, 0, 0, 0, 9, 0, 0, 0, 10]))), (a6, .inl (cI, 4, .inl (tb [0, 0, 0, 0])))] H) (hD : va_D A [(a1, .inl (cI, 4, .inl (tb [0, 0, 0, 0]))), (a3, .inl (cI, 4, .inl (tb [10]))), (a2, .inl (cI, 4, .inl (tb [10, 10, 10, 10]))), (a0, .inr (9, [.ref a7, .ref a8, .ref a1, .ref a2, .ref a5, .ref a6, .ref a9, .ref a10, .ref a11, .ref a12, .ref a13, .ref a14, .int 1, .int 0, .int 0, .ref a15, .ref a16, .ref a17, .ref a18, .ref a19, .ref a20, .int 0, .int 0, .ref a21, .ref a22, .ref a23, .ref a24, .int 0, .int 0, .ref a25, .ref a26, .ref a27, .ref a3, .int 1, .ref a4, .int 11])), (a5, .inl (cI, 4, .inl (tb [0, 0, 0, 0]))), (a4, .inl (cI, 777924, .inl (tb [0, 0, 0, 0, 1, 0, 0, 0, 2, 0, 0, 0, 3, 0, 0, 0, 4, 0, 0, 0, 5, 0, 0, 0, 6, 0, 0, 0, 7, 0, 0, 0, 8, 0, 0, 0, 9, 0, 0, 0, 10]))), (a6, .inl (cI, 4, .inl (tb [0, 0, 0, 0])))]) (hS : va_S A s.heap H locs) (hX : GXA 0 g A s) (hl : lv_has ls 8 [(5, .int 5), (6, .long 0), (3, .long 0), (2, .int 0), (0, .ref a0), (1, .int 0)]) : W p l e ({ frames := 6, cells := 0, slots := 0, locals := 320 } : Room) s m ([.ref a0, .int 0] : List Value).toArray below meth c H locs 0 0 (MQ below ((QcI dC dI (TY cI cJ cII cJJ) 0 []) A) ([.ref a0, .int 0] : List Value).toArray s 0 0 A) (F0 m 53 ls [.ref a4, .ref a0]) := by
  refine lv_iconst (v := 4) hx hb dX9_extreme_53 (by decide) ?_
  refine lv_iload hx hb dX9_extreme_54 (lv_at hl 0 rfl) ?_
  refine v_imul hx hb dX9_extreme_56 20 (by decide +kernel) ?_
  refine kV_l (q0 := 0) ⟨hx, hb, hml, hown, hts⟩ hK hP hD hS hA hX cv_RX9_220 [3, 4, 5, 6] [0, 1, 2] (wr := [(a1, .inl (cI, 4, .inl (tb [0, 0, 0, 0]))), (a3, .inl (cI, 4, .inl (tb [10]))), (a2, .inl (cI, 4, .inl (tb [10, 10, 10, 10])))]) rfl rfl rfl rfl (by decide) (c570_X9_costOf l dC dI cI cJ cII cJJ H.size 0 a0 a5 a4 a6 a7 a8 a1 a2 a9 a10 a11 a12 a13 a14 a15 a16 a17 a18 a19 a20 a21 a22 a23 a24 a25 a26 a27 a3) ⟨by decide +kernel, by decide +kernel⟩ rfl rfl (Or.inl rfl) (rest := []) rfl rfl rfl hl.1 rfl (Nat.le_of_ble_eq_true rfl) dX9_extreme_57 ⟨Nat.le_of_ble_eq_true rfl, Nat.le_of_ble_eq_true rfl⟩ (W' := [(a1, .inl (cI, 4, .inl (tb [0, 0, 0, 0]))), (a3, .inl (cI, 4, .inl (tb [10]))), (a2, .inl (cI, 4, .inl (tb [10, 10, 10, 10]))), (a0, .inr (9, [.ref a7, .ref a8, .ref a1, .ref a2, .ref a5, .ref a6, .ref a9, .ref a10, .ref a11, .ref a12, .ref a13, .ref a14, .int 1, .int 0, .int 0, .ref a15, .ref a16, .ref a17, .ref a18, .ref a19, .ref a20, .int 0, .int 0, .ref a21, .ref a22, .ref a23, .ref a24, .int 0, .int 0, .ref a25, .ref a26, .ref a27, .ref a3, .int 1, .ref a4, .int 11])), (a5, .inl (cI, 4, .inl (tb [0, 0, 0, 0]))), (a4, .inl (cI, 777924, .inl (tb [0, 0, 0, 0, 1, 0, 0, 0, 2, 0, 0, 0, 3, 0, 0, 0, 4, 0, 0, 0, 5, 0, 0, 0, 6, 0, 0, 0, 7, 0, 0, 0, 8, 0, 0, 0, 9, 0, 0, 0, 10]))), (a6, .inl (cI, 4, .inl (tb [0, 0, 0, 0])))]) rfl (fun H locs hP hD hS => ?_)
  refine lv_lstore (lv' := [(6, .long 0), (5, .int 5), (3, .long 0), (2, .int 0), (0, .ref a0), (1, .int 0)]) hx hb dX9_extreme_60 hl (by decide) rfl (fun ls hl => ?_)
  refine lv_iload_n hx hb dX9_extreme_62 rfl (lv_at hl 5 rfl) ?_
  refine f_if_ne hx hb dX9_extreme_63 76 (by decide) (by decide +kernel) ?_
  refine lv_lload hx hb dX9_extreme_66 (lv_at hl 0 rfl) ?_
  refine lv_lload_n hx hb dX9_extreme_68 rfl (lv_at hl 2 rfl) ?_
  refine v_lcmp hx hb dX9_extreme_69 0 (by decide +kernel) ?_
  refine f_if_lt hx hb dX9_extreme_70 86 (by decide) (by decide +kernel) ?_
  refine lv_goto (tgt := 92) hx hb dX9_extreme_73 (by decide) ?_
  refine lv_iinc (v := 6) (lv' := [(5, .int 6), (6, .long 0), (3, .long 0), (2, .int 0), (0, .ref a0), (1, .int 0)]) hx hb dX9_extreme_92 hl (k := 1) rfl (by decide +kernel) (by decide) rfl (fun ls hl => ?_)
  refine lv_goto (tgt := 39) hx hb dX9_extreme_95 (by decide) ?_
  refine lv_iload hx hb dX9_extreme_39 (lv_at hl 0 rfl) ?_
  refine lv_aload_n hx hb dX9_extreme_41 rfl (lv_at hl 4 rfl) ?_
  refine gf (k := 35) hx hb hts inX9 hown hK hP k_830 rfl (by decide) rfl 3 rfl (.int 11) rfl dX9_extreme_42 ?_
  refine f_icmp_ge hx hb dX9_extreme_45 98 (by decide) (by decide +kernel) ?_
  refine lv_aload_n hx hb dX9_extreme_48 rfl (lv_at hl 4 rfl) ?_
  refine lv_aload_n hx hb dX9_extreme_49 rfl (lv_at hl 4 rfl) ?_
  refine gf (k := 34) hx hb hts inX9 hown hK hP k_829 rfl (by decide) rfl 3 rfl (.ref a4) rfl dX9_extreme_50 ?_
  refine lv_iconst (v := 4) hx hb dX9_extreme_53 (by decide) ?_
  refine lv_iload hx hb dX9_extreme_54 (lv_at hl 0 rfl) ?_
  refine v_imul hx hb dX9_extreme_56 24 (by decide +kernel) ?_
  refine kV_l (q0 := 0) ⟨hx, hb, hml, hown, hts⟩ hK hP hD hS hA hX cv_RX9_220 [3, 4, 5, 6] [0, 1, 2] (wr := [(a1, .inl (cI, 4, .inl (tb [0, 0, 0, 0]))), (a3, .inl (cI, 4, .inl (tb [10]))), (a2, .inl (cI, 4, .inl (tb [10, 10, 10, 10])))]) rfl rfl rfl rfl (by decide) (c571_X9_costOf l dC dI cI cJ cII cJJ H.size 0 a0 a5 a4 a6 a7 a8 a1 a2 a9 a10 a11 a12 a13 a14 a15 a16 a17 a18 a19 a20 a21 a22 a23 a24 a25 a26 a27 a3) ⟨by decide +kernel, by decide +kernel⟩ rfl rfl (Or.inl rfl) (rest := []) rfl rfl rfl hl.1 rfl (Nat.le_of_ble_eq_true rfl) dX9_extreme_57 ⟨Nat.le_of_ble_eq_true rfl, Nat.le_of_ble_eq_true rfl⟩ (W' := [(a1, .inl (cI, 4, .inl (tb [0, 0, 0, 0]))), (a3, .inl (cI, 4, .inl (tb [10]))), (a2, .inl (cI, 4, .inl (tb [10, 10, 10, 10]))), (a0, .inr (9, [.ref a7, .ref a8, .ref a1, .ref a2, .ref a5, .ref a6, .ref a9, .ref a10, .ref a11, .ref a12, .ref a13, .ref a14, .int 1, .int 0, .int 0, .ref a15, .ref a16, .ref a17, .ref a18, .ref a19, .ref a20, .int 0, .int 0, .ref a21, .ref a22, .ref a23, .ref a24, .int 0, .int 0, .ref a25, .ref a26, .ref a27, .ref a3, .int 1, .ref a4, .int 11])), (a5, .inl (cI, 4, .inl (tb [0, 0, 0, 0]))), (a4, .inl (cI, 777924, .inl (tb [0, 0, 0, 0, 1, 0, 0, 0, 2, 0, 0, 0, 3, 0, 0, 0, 4, 0, 0, 0, 5, 0, 0, 0, 6, 0, 0, 0, 7, 0, 0, 0, 8, 0, 0, 0, 9, 0, 0, 0, 10]))), (a6, .inl (cI, 4, .inl (tb [0, 0, 0, 0])))]) rfl (fun H locs hP hD hS => ?_)
  refine lv_lstore (lv' := [(6, .long 0), (5, .int 6), (3, .long 0), (2, .int 0), (0, .ref a0), (1, .int 0)]) hx hb dX9_extreme_60 hl (by decide) rfl (fun ls hl => ?_)
  refine lv_iload_n hx hb dX9_extreme_62 rfl (lv_at hl 5 rfl) ?_
  refine f_if_ne hx hb dX9_extreme_63 76 (by decide) (by decide +kernel) ?_
  refine lv_lload hx hb dX9_extreme_66 (lv_at hl 0 rfl) ?_
  refine lv_lload_n hx hb dX9_extreme_68 rfl (lv_at hl 2 rfl) ?_
  refine v_lcmp hx hb dX9_extreme_69 0 (by decide +kernel) ?_
  refine f_if_lt hx hb dX9_extreme_70 86 (by decide) (by decide +kernel) ?_
  refine lv_goto (tgt := 92) hx hb dX9_extreme_73 (by decide) ?_
  refine lv_iinc (v := 7) (lv' := [(5, .int 7), (6, .long 0), (3, .long 0), (2, .int 0), (0, .ref a0), (1, .int 0)]) hx hb dX9_extreme_92 hl (k := 1) rfl (by decide +kernel) (by decide) rfl (fun ls hl => ?_)
  refine lv_goto (tgt := 39) hx hb dX9_extreme_95 (by decide) ?_
  refine lv_iload hx hb dX9_extreme_39 (lv_at hl 0 rfl) ?_
  refine lv_aload_n hx hb dX9_extreme_41 rfl (lv_at hl 4 rfl) ?_
  refine gf (k := 35) hx hb hts inX9 hown hK hP k_830 rfl (by decide) rfl 3 rfl (.int 11) rfl dX9_extreme_42 ?_
  refine f_icmp_ge hx hb dX9_extreme_45 98 (by decide) (by decide +kernel) ?_
  refine lv_aload_n hx hb dX9_extreme_48 rfl (lv_at hl 4 rfl) ?_
  refine lv_aload_n hx hb dX9_extreme_49 rfl (lv_at hl 4 rfl) ?_
  refine gf (k := 34) hx hb hts inX9 hown hK hP k_829 rfl (by decide) rfl 3 rfl (.ref a4) rfl dX9_extreme_50 ?_
  refine lv_iconst (v := 4) hx hb dX9_extreme_53 (by decide) ?_
  refine lv_iload hx hb dX9_extreme_54 (lv_at hl 0 rfl) ?_
  refine v_imul hx hb dX9_extreme_56 28 (by decide +kernel) ?_
  refine kV_l (q0 := 0) ⟨hx, hb, hml, hown, hts⟩ hK hP hD hS hA hX cv_RX9_220 [3, 4, 5, 6] [0, 1, 2] (wr := [(a1, .inl (cI, 4, .inl (tb [0, 0, 0, 0]))), (a3, .inl (cI, 4, .inl (tb [10]))), (a2, .inl (cI, 4, .inl (tb [10, 10, 10, 10])))]) rfl rfl rfl rfl (by decide) (c572_X9_costOf l dC dI cI cJ cII cJJ H.size 0 a0 a5 a4 a6 a7 a8 a1 a2 a9 a10 a11 a12 a13 a14 a15 a16 a17 a18 a19 a20 a21 a22 a23 a24 a25 a26 a27 a3) ⟨by decide +kernel, by decide +kernel⟩ rfl rfl (Or.inl rfl) (rest := []) rfl rfl rfl hl.1 rfl (Nat.le_of_ble_eq_true rfl) dX9_extreme_57 ⟨Nat.le_of_ble_eq_true rfl, Nat.le_of_ble_eq_true rfl⟩ (W' := [(a1, .inl (cI, 4, .inl (tb [0, 0, 0, 0]))), (a3, .inl (cI, 4, .inl (tb [10]))), (a2, .inl (cI, 4, .inl (tb [10, 10, 10, 10]))), (a0, .inr (9, [.ref a7, .ref a8, .ref a1, .ref a2, .ref a5, .ref a6, .ref a9, .ref a10, .ref a11, .ref a12, .ref a13, .ref a14, .int 1, .int 0, .int 0, .ref a15, .ref a16, .ref a17, .ref a18, .ref a19, .ref a20, .int 0, .int 0, .ref a21, .ref a22, .ref a23, .ref a24, .int 0, .int 0, .ref a25, .ref a26, .ref a27, .ref a3, .int 1, .ref a4, .int 11])), (a5, .inl (cI, 4, .inl (tb [0, 0, 0, 0]))), (a4, .inl (cI, 777924, .inl (tb [0, 0, 0, 0, 1, 0, 0, 0, 2, 0, 0, 0, 3, 0, 0, 0, 4, 0, 0, 0, 5, 0, 0, 0, 6, 0, 0, 0, 7, 0, 0, 0, 8, 0, 0, 0, 9, 0, 0, 0, 10]))), (a6, .inl (cI, 4, .inl (tb [0, 0, 0, 0])))]) rfl (fun H locs hP hD hS => ?_)
  refine lv_lstore (lv' := [(6, .long 0), (5, .int 7), (3, .long 0), (2, .int 0), (0, .ref a0), (1, .int 0)]) hx hb dX9_extreme_60 hl (by decide) rfl (fun ls hl => ?_)
  refine lv_iload_n hx hb dX9_extreme_62 rfl (lv_at hl 5 rfl) ?_
  refine f_if_ne hx hb dX9_extreme_63 76 (by decide) (by decide +kernel) ?_
  refine lv_lload hx hb dX9_extreme_66 (lv_at hl 0 rfl) ?_
  refine lv_lload_n hx hb dX9_extreme_68 rfl (lv_at hl 2 rfl) ?_
  refine v_lcmp hx hb dX9_extreme_69 0 (by decide +kernel) ?_
  refine f_if_lt hx hb dX9_extreme_70 86 (by decide) (by decide +kernel) ?_
  refine lv_goto (tgt := 92) hx hb dX9_extreme_73 (by decide) ?_
  refine lv_iinc (v := 8) (lv' := [(5, .int 8), (6, .long 0), (3, .long 0), (2, .int 0), (0, .ref a0), (1, .int 0)]) hx hb dX9_extreme_92 hl (k := 1) rfl (by decide +kernel) (by decide) rfl (fun ls hl => ?_)
  refine lv_goto (tgt := 39) hx hb dX9_extreme_95 (by decide) ?_
  refine lv_iload hx hb dX9_extreme_39 (lv_at hl 0 rfl) ?_
  refine lv_aload_n hx hb dX9_extreme_41 rfl (lv_at hl 4 rfl) ?_
  refine gf (k := 35) hx hb hts inX9 hown hK hP k_830 rfl (by decide) rfl 3 rfl (.int 11) rfl dX9_extreme_42 ?_
  refine f_icmp_ge hx hb dX9_extreme_45 98 (by decide) (by decide +kernel) ?_
  refine lv_aload_n hx hb dX9_extreme_48 rfl (lv_at hl 4 rfl) ?_
  refine lv_aload_n hx hb dX9_extreme_49 rfl (lv_at hl 4 rfl) ?_
  refine gf (k := 34) hx hb hts inX9 hown hK hP k_829 rfl (by decide) rfl 3 rfl (.ref a4) rfl dX9_extreme_50 ?_
  refine lv_iconst (v := 4) hx hb dX9_extreme_53 (by decide) ?_
  refine lv_iload hx hb dX9_extreme_54 (lv_at hl 0 rfl) ?_
  refine v_imul hx hb dX9_extreme_56 32 (by decide +kernel) ?_
  refine kV_l (q0 := 0) ⟨hx, hb, hml, hown, hts⟩ hK hP hD hS hA hX cv_RX9_220 [3, 4, 5, 6] [0, 1, 2] (wr := [(a1, .inl (cI, 4, .inl (tb [0, 0, 0, 0]))), (a3, .inl (cI, 4, .inl (tb [10]))), (a2, .inl (cI, 4, .inl (tb [10, 10, 10, 10])))]) rfl rfl rfl rfl (by decide) (c573_X9_costOf l dC dI cI cJ cII cJJ H.size 0 a0 a5 a4 a6 a7 a8 a1 a2 a9 a10 a11 a12 a13 a14 a15 a16 a17 a18 a19 a20 a21 a22 a23 a24 a25 a26 a27 a3) ⟨by decide +kernel, by decide +kernel⟩ rfl rfl (Or.inl rfl) (rest := []) rfl rfl rfl hl.1 rfl (Nat.le_of_ble_eq_true rfl) dX9_extreme_57 ⟨Nat.le_of_ble_eq_true rfl, Nat.le_of_ble_eq_true rfl⟩ (W' := [(a1, .inl (cI, 4, .inl (tb [0, 0, 0, 0]))), (a3, .inl (cI, 4, .inl (tb [10]))), (a2, .inl (cI, 4, .inl (tb [10, 10, 10, 10]))), (a0, .inr (9, [.ref a7, .ref a8, .ref a1, .ref a2, .ref a5, .ref a6, .ref a9, .ref a10, .ref a11, .ref a12, .ref a13, .ref a14, .int 1, .int 0, .int 0, .ref a15, .ref a16, .ref a17, .ref a18, .ref a19, .ref a20, .int 0, .int 0, .ref a21, .ref a22, .ref a23, .ref a24, .int 0, .int 0, .ref a25, .ref a26, .ref a27, .ref a3, .int 1, .ref a4, .int 11])), (a5, .inl (cI, 4, .inl (tb [0, 0, 0, 0]))), (a4, .inl (cI, 777924, .inl (tb [0, 0, 0, 0, 1, 0, 0, 0, 2, 0, 0, 0, 3, 0, 0, 0, 4, 0, 0, 0, 5, 0, 0, 0, 6, 0, 0, 0, 7, 0, 0, 0, 8, 0, 0, 0, 9, 0, 0, 0, 10]))), (a6, .inl (cI, 4, .inl (tb [0, 0, 0, 0])))]) rfl (fun H locs hP hD hS => ?_)
  refine lv_lstore (lv' := [(6, .long 0), (5, .int 8), (3, .long 0), (2, .int 0), (0, .ref a0), (1, .int 0)]) hx hb dX9_extreme_60 hl (by decide) rfl (fun ls hl => ?_)
  refine lv_iload_n hx hb dX9_extreme_62 rfl (lv_at hl 5 rfl) ?_
  refine f_if_ne hx hb dX9_extreme_63 76 (by decide) (by decide +kernel) ?_
  refine lv_lload hx hb dX9_extreme_66 (lv_at hl 0 rfl) ?_
  refine lv_lload_n hx hb dX9_extreme_68 rfl (lv_at hl 2 rfl) ?_
  refine v_lcmp hx hb dX9_extreme_69 0 (by decide +kernel) ?_
  refine f_if_lt hx hb dX9_extreme_70 86 (by decide) (by decide +kernel) ?_
  refine lv_goto (tgt := 92) hx hb dX9_extreme_73 (by decide) ?_
  refine lv_iinc (v := 9) (lv' := [(5, .int 9), (6, .long 0), (3, .long 0), (2, .int 0), (0, .ref a0), (1, .int 0)]) hx hb dX9_extreme_92 hl (k := 1) rfl (by decide +kernel) (by decide) rfl (fun ls hl => ?_)
  refine lv_goto (tgt := 39) hx hb dX9_extreme_95 (by decide) ?_
  refine lv_iload hx hb dX9_extreme_39 (lv_at hl 0 rfl) ?_
  refine lv_aload_n hx hb dX9_extreme_41 rfl (lv_at hl 4 rfl) ?_
  refine gf (k := 35) hx hb hts inX9 hown hK hP k_830 rfl (by decide) rfl 3 rfl (.int 11) rfl dX9_extreme_42 ?_
  refine f_icmp_ge hx hb dX9_extreme_45 98 (by decide) (by decide +kernel) ?_
  refine lv_aload_n hx hb dX9_extreme_48 rfl (lv_at hl 4 rfl) ?_
  refine lv_aload_n hx hb dX9_extreme_49 rfl (lv_at hl 4 rfl) ?_
  refine gf (k := 34) hx hb hts inX9 hown hK hP k_829 rfl (by decide) rfl 3 rfl (.ref a4) rfl dX9_extreme_50 ?_
  refine lv_iconst (v := 4) hx hb dX9_extreme_53 (by decide) ?_
  refine lv_iload hx hb dX9_extreme_54 (lv_at hl 0 rfl) ?_
  refine v_imul hx hb dX9_extreme_56 36 (by decide +kernel) ?_
  refine kV_l (q0 := 0) ⟨hx, hb, hml, hown, hts⟩ hK hP hD hS hA hX cv_RX9_220 [3, 4, 5, 6] [0, 1, 2] (wr := [(a1, .inl (cI, 4, .inl (tb [0, 0, 0, 0]))), (a3, .inl (cI, 4, .inl (tb [10]))), (a2, .inl (cI, 4, .inl (tb [10, 10, 10, 10])))]) rfl rfl rfl rfl (by decide) (c574_X9_costOf l dC dI cI cJ cII cJJ H.size 0 a0 a5 a4 a6 a7 a8 a1 a2 a9 a10 a11 a12 a13 a14 a15 a16 a17 a18 a19 a20 a21 a22 a23 a24 a25 a26 a27 a3) ⟨by decide +kernel, by decide +kernel⟩ rfl rfl (Or.inl rfl) (rest := []) rfl rfl rfl hl.1 rfl (Nat.le_of_ble_eq_true rfl) dX9_extreme_57 ⟨Nat.le_of_ble_eq_true rfl, Nat.le_of_ble_eq_true rfl⟩ (W' := [(a1, .inl (cI, 4, .inl (tb [0, 0, 0, 0]))), (a3, .inl (cI, 4, .inl (tb [10]))), (a2, .inl (cI, 4, .inl (tb [10, 10, 10, 10]))), (a0, .inr (9, [.ref a7, .ref a8, .ref a1, .ref a2, .ref a5, .ref a6, .ref a9, .ref a10, .ref a11, .ref a12, .ref a13, .ref a14, .int 1, .int 0, .int 0, .ref a15, .ref a16, .ref a17, .ref a18, .ref a19, .ref a20, .int 0, .int 0, .ref a21, .ref a22, .ref a23, .ref a24, .int 0, .int 0, .ref a25, .ref a26, .ref a27, .ref a3, .int 1, .ref a4, .int 11])), (a5, .inl (cI, 4, .inl (tb [0, 0, 0, 0]))), (a4, .inl (cI, 777924, .inl (tb [0, 0, 0, 0, 1, 0, 0, 0, 2, 0, 0, 0, 3, 0, 0, 0, 4, 0, 0, 0, 5, 0, 0, 0, 6, 0, 0, 0, 7, 0, 0, 0, 8, 0, 0, 0, 9, 0, 0, 0, 10]))), (a6, .inl (cI, 4, .inl (tb [0, 0, 0, 0])))]) rfl (fun H locs hP hD hS => ?_)
  refine lv_lstore (lv' := [(6, .long 0), (5, .int 9), (3, .long 0), (2, .int 0), (0, .ref a0), (1, .int 0)]) hx hb dX9_extreme_60 hl (by decide) rfl (fun ls hl => ?_)
  refine lv_iload_n hx hb dX9_extreme_62 rfl (lv_at hl 5 rfl) ?_
  refine f_if_ne hx hb dX9_extreme_63 76 (by decide) (by decide +kernel) ?_
  refine lv_lload hx hb dX9_extreme_66 (lv_at hl 0 rfl) ?_
  refine lv_lload_n hx hb dX9_extreme_68 rfl (lv_at hl 2 rfl) ?_
  refine v_lcmp hx hb dX9_extreme_69 0 (by decide +kernel) ?_
  refine f_if_lt hx hb dX9_extreme_70 86 (by decide) (by decide +kernel) ?_
  refine lv_goto (tgt := 92) hx hb dX9_extreme_73 (by decide) ?_
  refine lv_iinc (v := 10) (lv' := [(5, .int 10), (6, .long 0), (3, .long 0), (2, .int 0), (0, .ref a0), (1, .int 0)]) hx hb dX9_extreme_92 hl (k := 1) rfl (by decide +kernel) (by decide) rfl (fun ls hl => ?_)
  refine lv_goto (tgt := 39) hx hb dX9_extreme_95 (by decide) ?_
  refine lv_iload hx hb dX9_extreme_39 (lv_at hl 0 rfl) ?_
  refine lv_aload_n hx hb dX9_extreme_41 rfl (lv_at hl 4 rfl) ?_
  refine gf (k := 35) hx hb hts inX9 hown hK hP k_830 rfl (by decide) rfl 3 rfl (.int 11) rfl dX9_extreme_42 ?_
  refine f_icmp_ge hx hb dX9_extreme_45 98 (by decide) (by decide +kernel) ?_
  refine lv_aload_n hx hb dX9_extreme_48 rfl (lv_at hl 4 rfl) ?_
  refine lv_aload_n hx hb dX9_extreme_49 rfl (lv_at hl 4 rfl) ?_
  refine gf (k := 34) hx hb hts inX9 hown hK hP k_829 rfl (by decide) rfl 3 rfl (.ref a4) rfl dX9_extreme_50 ?_
  refine lv_iconst (v := 4) hx hb dX9_extreme_53 (by decide) ?_
  refine lv_iload hx hb dX9_extreme_54 (lv_at hl 0 rfl) ?_
  refine v_imul hx hb dX9_extreme_56 40 (by decide +kernel) ?_
  refine kV_l (q0 := 0) ⟨hx, hb, hml, hown, hts⟩ hK hP hD hS hA hX cv_RX9_220 [3, 4, 5, 6] [0, 1, 2] (wr := [(a1, .inl (cI, 4, .inl (tb [0, 0, 0, 0]))), (a3, .inl (cI, 4, .inl (tb [10]))), (a2, .inl (cI, 4, .inl (tb [10, 10, 10, 10])))]) rfl rfl rfl rfl (by decide) (c575_X9_costOf l dC dI cI cJ cII cJJ H.size 0 a0 a5 a4 a6 a7 a8 a1 a2 a9 a10 a11 a12 a13 a14 a15 a16 a17 a18 a19 a20 a21 a22 a23 a24 a25 a26 a27 a3) ⟨by decide +kernel, by decide +kernel⟩ rfl rfl (Or.inl rfl) (rest := []) rfl rfl rfl hl.1 rfl (Nat.le_of_ble_eq_true rfl) dX9_extreme_57 ⟨Nat.le_of_ble_eq_true rfl, Nat.le_of_ble_eq_true rfl⟩ (W' := [(a1, .inl (cI, 4, .inl (tb [0, 0, 0, 0]))), (a3, .inl (cI, 4, .inl (tb [10]))), (a2, .inl (cI, 4, .inl (tb [10, 10, 10, 10]))), (a0, .inr (9, [.ref a7, .ref a8, .ref a1, .ref a2, .ref a5, .ref a6, .ref a9, .ref a10, .ref a11, .ref a12, .ref a13, .ref a14, .int 1, .int 0, .int 0, .ref a15, .ref a16, .ref a17, .ref a18, .ref a19, .ref a20, .int 0, .int 0, .ref a21, .ref a22, .ref a23, .ref a24, .int 0, .int 0, .ref a25, .ref a26, .ref a27, .ref a3, .int 1, .ref a4, .int 11])), (a5, .inl (cI, 4, .inl (tb [0, 0, 0, 0]))), (a4, .inl (cI, 777924, .inl (tb [0, 0, 0, 0, 1, 0, 0, 0, 2, 0, 0, 0, 3, 0, 0, 0, 4, 0, 0, 0, 5, 0, 0, 0, 6, 0, 0, 0, 7, 0, 0, 0, 8, 0, 0, 0, 9, 0, 0, 0, 10]))), (a6, .inl (cI, 4, .inl (tb [0, 0, 0, 0])))]) rfl (fun H locs hP hD hS => ?_)
  refine lv_lstore (lv' := [(6, .long 0), (5, .int 10), (3, .long 0), (2, .int 0), (0, .ref a0), (1, .int 0)]) hx hb dX9_extreme_60 hl (by decide) rfl (fun ls hl => ?_)
  exact c564_X9_extreme_s2 l dC dI cI cJ cII cJJ g a0 a1 a2 a3 a4 a5 a6 a7 a8 a9 a10 a11 a12 a13 a14 a15 a16 a17 a18 a19 a20 a21 a22 a23 a24 a25 a26 a27 hx hb hr hml hown hts hk hA hK hP hD hS hX hl
set_option maxRecDepth 100000 in
set_option maxHeartbeats 4000000 in
theorem c564_X9_extreme (l : Launch) (dC : Nat → ClassId) (dI : Nat → Nat → Nat) (cI cJ cII cJJ : ClassId) (sz g a0 a1 a2 a3 a4 a5 a6 a7 a8 a9 a10 a11 a12 a13 a14 a15 a16 a17 a18 a19 a20 a21 a22 a23 a24 a25 a26 a27 : Nat) : Met l yX9_extreme (.code yX9_extreme cX9_extreme 8 (some .int) :: TT) ({ frames := 6, cells := 0, slots := 0, locals := 320 }) (PcS dC dI (TY cI cJ cII cJJ) [.ref a0, .int 0] [(a0, .inr (9, [.ref a7, .ref a8, .ref a1, .ref a2, .ref a5, .ref a6, .ref a9, .ref a10, .ref a11, .ref a12, .ref a13, .ref a14, .int 1, .int 0, .int 0, .ref a15, .ref a16, .ref a17, .ref a18, .ref a19, .ref a20, .int 0, .int 0, .ref a21, .ref a22, .ref a23, .ref a24, .int 0, .int 0, .ref a25, .ref a26, .ref a27, .ref a3, .int 0, .ref a4, .int 0])), (a1, .inl (cI, 4, .inl (tb [0, 0, 0, 0]))), (a2, .inl (cI, 4, .inl (tb [10, 10, 10, 10]))), (a3, .inl (cI, 4, .inl (tb []))), (a4, .inl (cI, 777924, .inl (tb []))), (a5, .inl (cI, 4, .inl (tb [0, 0, 0, 0]))), (a6, .inl (cI, 4, .inl (tb [0, 0, 0, 0])))] sz 0 g) ((QcI dC dI (TY cI cJ cII cJJ) 0 []) (va_A [(a0, .inr (9, [.ref a7, .ref a8, .ref a1, .ref a2, .ref a5, .ref a6, .ref a9, .ref a10, .ref a11, .ref a12, .ref a13, .ref a14, .int 1, .int 0, .int 0, .ref a15, .ref a16, .ref a17, .ref a18, .ref a19, .ref a20, .int 0, .int 0, .ref a21, .ref a22, .ref a23, .ref a24, .int 0, .int 0, .ref a25, .ref a26, .ref a27, .ref a3, .int 0, .ref a4, .int 0])), (a1, .inl (cI, 4, .inl (tb [0, 0, 0, 0]))), (a2, .inl (cI, 4, .inl (tb [10, 10, 10, 10]))), (a3, .inl (cI, 4, .inl (tb []))), (a4, .inl (cI, 777924, .inl (tb []))), (a5, .inl (cI, 4, .inl (tb [0, 0, 0, 0]))), (a6, .inl (cI, 4, .inl (tb [0, 0, 0, 0])))] sz)) 0 0 (va_A [(a0, .inr (9, [.ref a7, .ref a8, .ref a1, .ref a2, .ref a5, .ref a6, .ref a9, .ref a10, .ref a11, .ref a12, .ref a13, .ref a14, .int 1, .int 0, .int 0, .ref a15, .ref a16, .ref a17, .ref a18, .ref a19, .ref a20, .int 0, .int 0, .ref a21, .ref a22, .ref a23, .ref a24, .int 0, .int 0, .ref a25, .ref a26, .ref a27, .ref a3, .int 0, .ref a4, .int 0])), (a1, .inl (cI, 4, .inl (tb [0, 0, 0, 0]))), (a2, .inl (cI, 4, .inl (tb [10, 10, 10, 10]))), (a3, .inl (cI, 4, .inl (tb []))), (a4, .inl (cI, 777924, .inl (tb []))), (a5, .inl (cI, 4, .inl (tb [0, 0, 0, 0]))), (a6, .inl (cI, 4, .inl (tb [0, 0, 0, 0])))] sz) := by
  refine SM.of (y := yX9_extreme) (maxL := 8) (av := [.ref a0, .int 0]) (QcI dC dI (TY cI cJ cII cJJ) 0 []) (by decide +kernel) (Nat.le_of_ble_eq_true rfl) (fun p e s m below meth c A ls hx hb hr hml hown hts hk hnm hA hK hP hD hS hX hl => ?_)
  have hown : s.vm.findClass RX9 = some m.cls := hown
  have hl : lv_has ls 8 [(0, .ref a0), (1, .int 0)] := hl
  refine lv_aload_n hx hb dX9_extreme_0 rfl (lv_at hl 0 rfl) ?_
  refine kV_v (q0 := 0) ⟨hx, hb, hml, hown, hts⟩ hK hP hD hS hA hX cv_RX9_238 [0, 1, 2, 3, 4] [5, 6] (wr := [(a5, .inl (cI, 4, .inl (tb [0, 0, 0, 0]))), (a6, .inl (cI, 4, .inl (tb [0, 0, 0, 0])))]) rfl rfl rfl rfl (by decide) (c515_X9_gather l dC dI cI cJ cII cJJ s.heap.size 0 a0 a1 a2 a3 a4 a7 a8 a5 a6 a9 a10 a11 a12 a13 a14 a15 a16 a17 a18 a19 a20 a21 a22 a23 a24 a25 a26 a27) ⟨by decide +kernel, by decide +kernel⟩ rfl rfl (Or.inl rfl) (rest := []) rfl rfl rfl hl.1 rfl (Nat.le_of_ble_eq_true rfl) dX9_extreme_1 ⟨Nat.le_of_ble_eq_true rfl, Nat.le_of_ble_eq_true rfl⟩ (fun _ => rfl) (W' := [(a5, .inl (cI, 4, .inl (tb [0, 0, 0, 0]))), (a6, .inl (cI, 4, .inl (tb [0, 0, 0, 0]))), (a4, .inl (cI, 777924, .inl (tb [0, 0, 0, 0, 1, 0, 0, 0, 2, 0, 0, 0, 3, 0, 0, 0, 4, 0, 0, 0, 5, 0, 0, 0, 6, 0, 0, 0, 7, 0, 0, 0, 8, 0, 0, 0, 9, 0, 0, 0, 10]))), (a0, .inr (9, [.ref a7, .ref a8, .ref a1, .ref a2, .ref a5, .ref a6, .ref a9, .ref a10, .ref a11, .ref a12, .ref a13, .ref a14, .int 1, .int 0, .int 0, .ref a15, .ref a16, .ref a17, .ref a18, .ref a19, .ref a20, .int 0, .int 0, .ref a21, .ref a22, .ref a23, .ref a24, .int 0, .int 0, .ref a25, .ref a26, .ref a27, .ref a3, .int 1, .ref a4, .int 11])), (a1, .inl (cI, 4, .inl (tb [0, 0, 0, 0]))), (a3, .inl (cI, 4, .inl (tb [10]))), (a2, .inl (cI, 4, .inl (tb [10, 10, 10, 10])))]) rfl (fun H locs hP hD hS => ?_)
  refine lv_aload_n hx hb dX9_extreme_4 rfl (lv_at hl 0 rfl) ?_
  refine gf (k := 35) hx hb hts inX9 hown hK hP k_830 rfl (by decide) rfl 3 rfl (.int 11) rfl dX9_extreme_5 ?_
  refine t_if_ne hx hb dX9_extreme_8 13 (by decide) (by decide +kernel) ?_
  refine lv_iload_n hx hb dX9_extreme_13 rfl (lv_at hl 1 rfl) ?_
  refine lv_iconst (v := 2) hx hb dX9_extreme_14 (by decide) ?_
  refine kS_i ⟨hx, hb, hml, hown, hts⟩ hK hP hD hS hA hX cs_RX9_116 [] [0, 1, 2, 3, 4, 5, 6] (wr := [(a5, .inl (cI, 4, .inl (tb [0, 0, 0, 0]))), (a6, .inl (cI, 4, .inl (tb [0, 0, 0, 0]))), (a4, .inl (cI, 777924, .inl (tb [0, 0, 0, 0, 1, 0, 0, 0, 2, 0, 0, 0, 3, 0, 0, 0, 4, 0, 0, 0, 5, 0, 0, 0, 6, 0, 0, 0, 7, 0, 0, 0, 8, 0, 0, 0, 9, 0, 0, 0, 10]))), (a0, .inr (9, [.ref a7, .ref a8, .ref a1, .ref a2, .ref a5, .ref a6, .ref a9, .ref a10, .ref a11, .ref a12, .ref a13, .ref a14, .int 1, .int 0, .int 0, .ref a15, .ref a16, .ref a17, .ref a18, .ref a19, .ref a20, .int 0, .int 0, .ref a21, .ref a22, .ref a23, .ref a24, .int 0, .int 0, .ref a25, .ref a26, .ref a27, .ref a3, .int 1, .ref a4, .int 11])), (a1, .inl (cI, 4, .inl (tb [0, 0, 0, 0]))), (a3, .inl (cI, 4, .inl (tb [10]))), (a2, .inl (cI, 4, .inl (tb [10, 10, 10, 10])))]) rfl rfl rfl rfl (by decide) (c397_X9_isIn l dC dI cI cJ cII cJJ H.size 0) ⟨by decide +kernel, by decide +kernel⟩ rfl rfl (Or.inl rfl) (rest := []) rfl hl.1 rfl (Nat.le_of_ble_eq_true rfl) dX9_extreme_15 ⟨Nat.le_of_ble_eq_true rfl, Nat.le_of_ble_eq_true rfl⟩ (W' := [(a5, .inl (cI, 4, .inl (tb [0, 0, 0, 0]))), (a6, .inl (cI, 4, .inl (tb [0, 0, 0, 0]))), (a4, .inl (cI, 777924, .inl (tb [0, 0, 0, 0, 1, 0, 0, 0, 2, 0, 0, 0, 3, 0, 0, 0, 4, 0, 0, 0, 5, 0, 0, 0, 6, 0, 0, 0, 7, 0, 0, 0, 8, 0, 0, 0, 9, 0, 0, 0, 10]))), (a0, .inr (9, [.ref a7, .ref a8, .ref a1, .ref a2, .ref a5, .ref a6, .ref a9, .ref a10, .ref a11, .ref a12, .ref a13, .ref a14, .int 1, .int 0, .int 0, .ref a15, .ref a16, .ref a17, .ref a18, .ref a19, .ref a20, .int 0, .int 0, .ref a21, .ref a22, .ref a23, .ref a24, .int 0, .int 0, .ref a25, .ref a26, .ref a27, .ref a3, .int 1, .ref a4, .int 11])), (a1, .inl (cI, 4, .inl (tb [0, 0, 0, 0]))), (a3, .inl (cI, 4, .inl (tb [10]))), (a2, .inl (cI, 4, .inl (tb [10, 10, 10, 10])))]) rfl (fun H locs hP hD hS => ?_)
  refine t_if_ne hx hb dX9_extreme_18 24 (by decide) (by decide +kernel) ?_
  refine lv_iconst (v := 0) hx hb dX9_extreme_24 (by decide) ?_
  refine lv_istore_n (lv' := [(2, .int 0), (0, .ref a0), (1, .int 0)]) hx hb dX9_extreme_25 rfl hl (by decide) rfl (fun ls hl => ?_)
  refine lv_aload_n hx hb dX9_extreme_26 rfl (lv_at hl 1 rfl) ?_
  refine lv_aload_n hx hb dX9_extreme_27 rfl (lv_at hl 1 rfl) ?_
  refine gf (k := 34) hx hb hts inX9 hown hK hP k_829 rfl (by decide) rfl 3 rfl (.ref a4) rfl dX9_extreme_28 ?_
  refine lv_iconst (v := 0) hx hb dX9_extreme_31 (by decide) ?_
  refine kV_l (q0 := 0) ⟨hx, hb, hml, hown, hts⟩ hK hP hD hS hA hX cv_RX9_220 [3, 0, 2, 1] [4, 5, 6] (wr := [(a1, .inl (cI, 4, .inl (tb [0, 0, 0, 0]))), (a3, .inl (cI, 4, .inl (tb [10]))), (a2, .inl (cI, 4, .inl (tb [10, 10, 10, 10])))]) rfl rfl rfl rfl (by decide) (c565_X9_costOf l dC dI cI cJ cII cJJ H.size 0 a0 a5 a4 a6 a7 a8 a1 a2 a9 a10 a11 a12 a13 a14 a15 a16 a17 a18 a19 a20 a21 a22 a23 a24 a25 a26 a27 a3) ⟨by decide +kernel, by decide +kernel⟩ rfl rfl (Or.inl rfl) (rest := []) rfl rfl rfl hl.1 rfl (Nat.le_of_ble_eq_true rfl) dX9_extreme_32 ⟨Nat.le_of_ble_eq_true rfl, Nat.le_of_ble_eq_true rfl⟩ (W' := [(a1, .inl (cI, 4, .inl (tb [0, 0, 0, 0]))), (a3, .inl (cI, 4, .inl (tb [10]))), (a2, .inl (cI, 4, .inl (tb [10, 10, 10, 10]))), (a0, .inr (9, [.ref a7, .ref a8, .ref a1, .ref a2, .ref a5, .ref a6, .ref a9, .ref a10, .ref a11, .ref a12, .ref a13, .ref a14, .int 1, .int 0, .int 0, .ref a15, .ref a16, .ref a17, .ref a18, .ref a19, .ref a20, .int 0, .int 0, .ref a21, .ref a22, .ref a23, .ref a24, .int 0, .int 0, .ref a25, .ref a26, .ref a27, .ref a3, .int 1, .ref a4, .int 11])), (a5, .inl (cI, 4, .inl (tb [0, 0, 0, 0]))), (a4, .inl (cI, 777924, .inl (tb [0, 0, 0, 0, 1, 0, 0, 0, 2, 0, 0, 0, 3, 0, 0, 0, 4, 0, 0, 0, 5, 0, 0, 0, 6, 0, 0, 0, 7, 0, 0, 0, 8, 0, 0, 0, 9, 0, 0, 0, 10]))), (a6, .inl (cI, 4, .inl (tb [0, 0, 0, 0])))]) rfl (fun H locs hP hD hS => ?_)
  refine lv_lstore_n (lv' := [(3, .long 0), (2, .int 0), (0, .ref a0), (1, .int 0)]) hx hb dX9_extreme_35 rfl hl (by decide) rfl (fun ls hl => ?_)
  refine lv_iconst (v := 1) hx hb dX9_extreme_36 (by decide) ?_
  refine lv_istore (lv' := [(5, .int 1), (3, .long 0), (2, .int 0), (0, .ref a0), (1, .int 0)]) hx hb dX9_extreme_37 hl (by decide) rfl (fun ls hl => ?_)
  refine lv_iload hx hb dX9_extreme_39 (lv_at hl 0 rfl) ?_
  refine lv_aload_n hx hb dX9_extreme_41 rfl (lv_at hl 3 rfl) ?_
  refine gf (k := 35) hx hb hts inX9 hown hK hP k_830 rfl (by decide) rfl 3 rfl (.int 11) rfl dX9_extreme_42 ?_
  refine f_icmp_ge hx hb dX9_extreme_45 98 (by decide) (by decide +kernel) ?_
  refine lv_aload_n hx hb dX9_extreme_48 rfl (lv_at hl 3 rfl) ?_
  refine lv_aload_n hx hb dX9_extreme_49 rfl (lv_at hl 3 rfl) ?_
  refine gf (k := 34) hx hb hts inX9 hown hK hP k_829 rfl (by decide) rfl 3 rfl (.ref a4) rfl dX9_extreme_50 ?_
  refine lv_iconst (v := 4) hx hb dX9_extreme_53 (by decide) ?_
  refine lv_iload hx hb dX9_extreme_54 (lv_at hl 0 rfl) ?_
  refine v_imul hx hb dX9_extreme_56 4 (by decide +kernel) ?_
  refine kV_l (q0 := 0) ⟨hx, hb, hml, hown, hts⟩ hK hP hD hS hA hX cv_RX9_220 [3, 4, 5, 6] [0, 1, 2] (wr := [(a1, .inl (cI, 4, .inl (tb [0, 0, 0, 0]))), (a3, .inl (cI, 4, .inl (tb [10]))), (a2, .inl (cI, 4, .inl (tb [10, 10, 10, 10])))]) rfl rfl rfl rfl (by decide) (c566_X9_costOf l dC dI cI cJ cII cJJ H.size 0 a0 a5 a4 a6 a7 a8 a1 a2 a9 a10 a11 a12 a13 a14 a15 a16 a17 a18 a19 a20 a21 a22 a23 a24 a25 a26 a27 a3) ⟨by decide +kernel, by decide +kernel⟩ rfl rfl (Or.inl rfl) (rest := []) rfl rfl rfl hl.1 rfl (Nat.le_of_ble_eq_true rfl) dX9_extreme_57 ⟨Nat.le_of_ble_eq_true rfl, Nat.le_of_ble_eq_true rfl⟩ (W' := [(a1, .inl (cI, 4, .inl (tb [0, 0, 0, 0]))), (a3, .inl (cI, 4, .inl (tb [10]))), (a2, .inl (cI, 4, .inl (tb [10, 10, 10, 10]))), (a0, .inr (9, [.ref a7, .ref a8, .ref a1, .ref a2, .ref a5, .ref a6, .ref a9, .ref a10, .ref a11, .ref a12, .ref a13, .ref a14, .int 1, .int 0, .int 0, .ref a15, .ref a16, .ref a17, .ref a18, .ref a19, .ref a20, .int 0, .int 0, .ref a21, .ref a22, .ref a23, .ref a24, .int 0, .int 0, .ref a25, .ref a26, .ref a27, .ref a3, .int 1, .ref a4, .int 11])), (a5, .inl (cI, 4, .inl (tb [0, 0, 0, 0]))), (a4, .inl (cI, 777924, .inl (tb [0, 0, 0, 0, 1, 0, 0, 0, 2, 0, 0, 0, 3, 0, 0, 0, 4, 0, 0, 0, 5, 0, 0, 0, 6, 0, 0, 0, 7, 0, 0, 0, 8, 0, 0, 0, 9, 0, 0, 0, 10]))), (a6, .inl (cI, 4, .inl (tb [0, 0, 0, 0])))]) rfl (fun H locs hP hD hS => ?_)
  refine lv_lstore (lv' := [(6, .long 0), (5, .int 1), (3, .long 0), (2, .int 0), (0, .ref a0), (1, .int 0)]) hx hb dX9_extreme_60 hl (by decide) rfl (fun ls hl => ?_)
  refine lv_iload_n hx hb dX9_extreme_62 rfl (lv_at hl 5 rfl) ?_
  refine f_if_ne hx hb dX9_extreme_63 76 (by decide) (by decide +kernel) ?_
  refine lv_lload hx hb dX9_extreme_66 (lv_at hl 0 rfl) ?_
  refine lv_lload_n hx hb dX9_extreme_68 rfl (lv_at hl 2 rfl) ?_
  refine v_lcmp hx hb dX9_extreme_69 0 (by decide +kernel) ?_
  refine f_if_lt hx hb dX9_extreme_70 86 (by decide) (by decide +kernel) ?_
  refine lv_goto (tgt := 92) hx hb dX9_extreme_73 (by decide) ?_
  refine lv_iinc (v := 2) (lv' := [(5, .int 2), (6, .long 0), (3, .long 0), (2, .int 0), (0, .ref a0), (1, .int 0)]) hx hb dX9_extreme_92 hl (k := 1) rfl (by decide +kernel) (by decide) rfl (fun ls hl => ?_)
  refine lv_goto (tgt := 39) hx hb dX9_extreme_95 (by decide) ?_
  refine lv_iload hx hb dX9_extreme_39 (lv_at hl 0 rfl) ?_
  refine lv_aload_n hx hb dX9_extreme_41 rfl (lv_at hl 4 rfl) ?_
  refine gf (k := 35) hx hb hts inX9 hown hK hP k_830 rfl (by decide) rfl 3 rfl (.int 11) rfl dX9_extreme_42 ?_
  refine f_icmp_ge hx hb dX9_extreme_45 98 (by decide) (by decide +kernel) ?_
  refine lv_aload_n hx hb dX9_extreme_48 rfl (lv_at hl 4 rfl) ?_
  refine lv_aload_n hx hb dX9_extreme_49 rfl (lv_at hl 4 rfl) ?_
  refine gf (k := 34) hx hb hts inX9 hown hK hP k_829 rfl (by decide) rfl 3 rfl (.ref a4) rfl dX9_extreme_50 ?_
  refine lv_iconst (v := 4) hx hb dX9_extreme_53 (by decide) ?_
  refine lv_iload hx hb dX9_extreme_54 (lv_at hl 0 rfl) ?_
  refine v_imul hx hb dX9_extreme_56 8 (by decide +kernel) ?_
  refine kV_l (q0 := 0) ⟨hx, hb, hml, hown, hts⟩ hK hP hD hS hA hX cv_RX9_220 [3, 4, 5, 6] [0, 1, 2] (wr := [(a1, .inl (cI, 4, .inl (tb [0, 0, 0, 0]))), (a3, .inl (cI, 4, .inl (tb [10]))), (a2, .inl (cI, 4, .inl (tb [10, 10, 10, 10])))]) rfl rfl rfl rfl (by decide) (c567_X9_costOf l dC dI cI cJ cII cJJ H.size 0 a0 a5 a4 a6 a7 a8 a1 a2 a9 a10 a11 a12 a13 a14 a15 a16 a17 a18 a19 a20 a21 a22 a23 a24 a25 a26 a27 a3) ⟨by decide +kernel, by decide +kernel⟩ rfl rfl (Or.inl rfl) (rest := []) rfl rfl rfl hl.1 rfl (Nat.le_of_ble_eq_true rfl) dX9_extreme_57 ⟨Nat.le_of_ble_eq_true rfl, Nat.le_of_ble_eq_true rfl⟩ (W' := [(a1, .inl (cI, 4, .inl (tb [0, 0, 0, 0]))), (a3, .inl (cI, 4, .inl (tb [10]))), (a2, .inl (cI, 4, .inl (tb [10, 10, 10, 10]))), (a0, .inr (9, [.ref a7, .ref a8, .ref a1, .ref a2, .ref a5, .ref a6, .ref a9, .ref a10, .ref a11, .ref a12, .ref a13, .ref a14, .int 1, .int 0, .int 0, .ref a15, .ref a16, .ref a17, .ref a18, .ref a19, .ref a20, .int 0, .int 0, .ref a21, .ref a22, .ref a23, .ref a24, .int 0, .int 0, .ref a25, .ref a26, .ref a27, .ref a3, .int 1, .ref a4, .int 11])), (a5, .inl (cI, 4, .inl (tb [0, 0, 0, 0]))), (a4, .inl (cI, 777924, .inl (tb [0, 0, 0, 0, 1, 0, 0, 0, 2, 0, 0, 0, 3, 0, 0, 0, 4, 0, 0, 0, 5, 0, 0, 0, 6, 0, 0, 0, 7, 0, 0, 0, 8, 0, 0, 0, 9, 0, 0, 0, 10]))), (a6, .inl (cI, 4, .inl (tb [0, 0, 0, 0])))]) rfl (fun H locs hP hD hS => ?_)
  refine lv_lstore (lv' := [(6, .long 0), (5, .int 2), (3, .long 0), (2, .int 0), (0, .ref a0), (1, .int 0)]) hx hb dX9_extreme_60 hl (by decide) rfl (fun ls hl => ?_)
  refine lv_iload_n hx hb dX9_extreme_62 rfl (lv_at hl 5 rfl) ?_
  refine f_if_ne hx hb dX9_extreme_63 76 (by decide) (by decide +kernel) ?_
  refine lv_lload hx hb dX9_extreme_66 (lv_at hl 0 rfl) ?_
  refine lv_lload_n hx hb dX9_extreme_68 rfl (lv_at hl 2 rfl) ?_
  refine v_lcmp hx hb dX9_extreme_69 0 (by decide +kernel) ?_
  refine f_if_lt hx hb dX9_extreme_70 86 (by decide) (by decide +kernel) ?_
  refine lv_goto (tgt := 92) hx hb dX9_extreme_73 (by decide) ?_
  refine lv_iinc (v := 3) (lv' := [(5, .int 3), (6, .long 0), (3, .long 0), (2, .int 0), (0, .ref a0), (1, .int 0)]) hx hb dX9_extreme_92 hl (k := 1) rfl (by decide +kernel) (by decide) rfl (fun ls hl => ?_)
  refine lv_goto (tgt := 39) hx hb dX9_extreme_95 (by decide) ?_
  refine lv_iload hx hb dX9_extreme_39 (lv_at hl 0 rfl) ?_
  refine lv_aload_n hx hb dX9_extreme_41 rfl (lv_at hl 4 rfl) ?_
  refine gf (k := 35) hx hb hts inX9 hown hK hP k_830 rfl (by decide) rfl 3 rfl (.int 11) rfl dX9_extreme_42 ?_
  refine f_icmp_ge hx hb dX9_extreme_45 98 (by decide) (by decide +kernel) ?_
  refine lv_aload_n hx hb dX9_extreme_48 rfl (lv_at hl 4 rfl) ?_
  refine lv_aload_n hx hb dX9_extreme_49 rfl (lv_at hl 4 rfl) ?_
  refine gf (k := 34) hx hb hts inX9 hown hK hP k_829 rfl (by decide) rfl 3 rfl (.ref a4) rfl dX9_extreme_50 ?_
  refine lv_iconst (v := 4) hx hb dX9_extreme_53 (by decide) ?_
  refine lv_iload hx hb dX9_extreme_54 (lv_at hl 0 rfl) ?_
  refine v_imul hx hb dX9_extreme_56 12 (by decide +kernel) ?_
  refine kV_l (q0 := 0) ⟨hx, hb, hml, hown, hts⟩ hK hP hD hS hA hX cv_RX9_220 [3, 4, 5, 6] [0, 1, 2] (wr := [(a1, .inl (cI, 4, .inl (tb [0, 0, 0, 0]))), (a3, .inl (cI, 4, .inl (tb [10]))), (a2, .inl (cI, 4, .inl (tb [10, 10, 10, 10])))]) rfl rfl rfl rfl (by decide) (c568_X9_costOf l dC dI cI cJ cII cJJ H.size 0 a0 a5 a4 a6 a7 a8 a1 a2 a9 a10 a11 a12 a13 a14 a15 a16 a17 a18 a19 a20 a21 a22 a23 a24 a25 a26 a27 a3) ⟨by decide +kernel, by decide +kernel⟩ rfl rfl (Or.inl rfl) (rest := []) rfl rfl rfl hl.1 rfl (Nat.le_of_ble_eq_true rfl) dX9_extreme_57 ⟨Nat.le_of_ble_eq_true rfl, Nat.le_of_ble_eq_true rfl⟩ (W' := [(a1, .inl (cI, 4, .inl (tb [0, 0, 0, 0]))), (a3, .inl (cI, 4, .inl (tb [10]))), (a2, .inl (cI, 4, .inl (tb [10, 10, 10, 10]))), (a0, .inr (9, [.ref a7, .ref a8, .ref a1, .ref a2, .ref a5, .ref a6, .ref a9, .ref a10, .ref a11, .ref a12, .ref a13, .ref a14, .int 1, .int 0, .int 0, .ref a15, .ref a16, .ref a17, .ref a18, .ref a19, .ref a20, .int 0, .int 0, .ref a21, .ref a22, .ref a23, .ref a24, .int 0, .int 0, .ref a25, .ref a26, .ref a27, .ref a3, .int 1, .ref a4, .int 11])), (a5, .inl (cI, 4, .inl (tb [0, 0, 0, 0]))), (a4, .inl (cI, 777924, .inl (tb [0, 0, 0, 0, 1, 0, 0, 0, 2, 0, 0, 0, 3, 0, 0, 0, 4, 0, 0, 0, 5, 0, 0, 0, 6, 0, 0, 0, 7, 0, 0, 0, 8, 0, 0, 0, 9, 0, 0, 0, 10]))), (a6, .inl (cI, 4, .inl (tb [0, 0, 0, 0])))]) rfl (fun H locs hP hD hS => ?_)
  refine lv_lstore (lv' := [(6, .long 0), (5, .int 3), (3, .long 0), (2, .int 0), (0, .ref a0), (1, .int 0)]) hx hb dX9_extreme_60 hl (by decide) rfl (fun ls hl => ?_)
  refine lv_iload_n hx hb dX9_extreme_62 rfl (lv_at hl 5 rfl) ?_
  refine f_if_ne hx hb dX9_extreme_63 76 (by decide) (by decide +kernel) ?_
  refine lv_lload hx hb dX9_extreme_66 (lv_at hl 0 rfl) ?_
  refine lv_lload_n hx hb dX9_extreme_68 rfl (lv_at hl 2 rfl) ?_
  refine v_lcmp hx hb dX9_extreme_69 0 (by decide +kernel) ?_
  refine f_if_lt hx hb dX9_extreme_70 86 (by decide) (by decide +kernel) ?_
  refine lv_goto (tgt := 92) hx hb dX9_extreme_73 (by decide) ?_
  refine lv_iinc (v := 4) (lv' := [(5, .int 4), (6, .long 0), (3, .long 0), (2, .int 0), (0, .ref a0), (1, .int 0)]) hx hb dX9_extreme_92 hl (k := 1) rfl (by decide +kernel) (by decide) rfl (fun ls hl => ?_)
  refine lv_goto (tgt := 39) hx hb dX9_extreme_95 (by decide) ?_
  refine lv_iload hx hb dX9_extreme_39 (lv_at hl 0 rfl) ?_
  refine lv_aload_n hx hb dX9_extreme_41 rfl (lv_at hl 4 rfl) ?_
  refine gf (k := 35) hx hb hts inX9 hown hK hP k_830 rfl (by decide) rfl 3 rfl (.int 11) rfl dX9_extreme_42 ?_
  refine f_icmp_ge hx hb dX9_extreme_45 98 (by decide) (by decide +kernel) ?_
  refine lv_aload_n hx hb dX9_extreme_48 rfl (lv_at hl 4 rfl) ?_
  refine lv_aload_n hx hb dX9_extreme_49 rfl (lv_at hl 4 rfl) ?_
  refine gf (k := 34) hx hb hts inX9 hown hK hP k_829 rfl (by decide) rfl 3 rfl (.ref a4) rfl dX9_extreme_50 ?_
  refine lv_iconst (v := 4) hx hb dX9_extreme_53 (by decide) ?_
  refine lv_iload hx hb dX9_extreme_54 (lv_at hl 0 rfl) ?_
  refine v_imul hx hb dX9_extreme_56 16 (by decide +kernel) ?_
  refine kV_l (q0 := 0) ⟨hx, hb, hml, hown, hts⟩ hK hP hD hS hA hX cv_RX9_220 [3, 4, 5, 6] [0, 1, 2] (wr := [(a1, .inl (cI, 4, .inl (tb [0, 0, 0, 0]))), (a3, .inl (cI, 4, .inl (tb [10]))), (a2, .inl (cI, 4, .inl (tb [10, 10, 10, 10])))]) rfl rfl rfl rfl (by decide) (c569_X9_costOf l dC dI cI cJ cII cJJ H.size 0 a0 a5 a4 a6 a7 a8 a1 a2 a9 a10 a11 a12 a13 a14 a15 a16 a17 a18 a19 a20 a21 a22 a23 a24 a25 a26 a27 a3) ⟨by decide +kernel, by decide +kernel⟩ rfl rfl (Or.inl rfl) (rest := []) rfl rfl rfl hl.1 rfl (Nat.le_of_ble_eq_true rfl) dX9_extreme_57 ⟨Nat.le_of_ble_eq_true rfl, Nat.le_of_ble_eq_true rfl⟩ (W' := [(a1, .inl (cI, 4, .inl (tb [0, 0, 0, 0]))), (a3, .inl (cI, 4, .inl (tb [10]))), (a2, .inl (cI, 4, .inl (tb [10, 10, 10, 10]))), (a0, .inr (9, [.ref a7, .ref a8, .ref a1, .ref a2, .ref a5, .ref a6, .ref a9, .ref a10, .ref a11, .ref a12, .ref a13, .ref a14, .int 1, .int 0, .int 0, .ref a15, .ref a16, .ref a17, .ref a18, .ref a19, .ref a20, .int 0, .int 0, .ref a21, .ref a22, .ref a23, .ref a24, .int 0, .int 0, .ref a25, .ref a26, .ref a27, .ref a3, .int 1, .ref a4, .int 11])), (a5, .inl (cI, 4, .inl (tb [0, 0, 0, 0]))), (a4, .inl (cI, 777924, .inl (tb [0, 0, 0, 0, 1, 0, 0, 0, 2, 0, 0, 0, 3, 0, 0, 0, 4, 0, 0, 0, 5, 0, 0, 0, 6, 0, 0, 0, 7, 0, 0, 0, 8, 0, 0, 0, 9, 0, 0, 0, 10]))), (a6, .inl (cI, 4, .inl (tb [0, 0, 0, 0])))]) rfl (fun H locs hP hD hS => ?_)
  refine lv_lstore (lv' := [(6, .long 0), (5, .int 4), (3, .long 0), (2, .int 0), (0, .ref a0), (1, .int 0)]) hx hb dX9_extreme_60 hl (by decide) rfl (fun ls hl => ?_)
  refine lv_iload_n hx hb dX9_extreme_62 rfl (lv_at hl 5 rfl) ?_
  refine f_if_ne hx hb dX9_extreme_63 76 (by decide) (by decide +kernel) ?_
  refine lv_lload hx hb dX9_extreme_66 (lv_at hl 0 rfl) ?_
  refine lv_lload_n hx hb dX9_extreme_68 rfl (lv_at hl 2 rfl) ?_
  refine v_lcmp hx hb dX9_extreme_69 0 (by decide +kernel) ?_
  refine f_if_lt hx hb dX9_extreme_70 86 (by decide) (by decide +kernel) ?_
  refine lv_goto (tgt := 92) hx hb dX9_extreme_73 (by decide) ?_
  refine lv_iinc (v := 5) (lv' := [(5, .int 5), (6, .long 0), (3, .long 0), (2, .int 0), (0, .ref a0), (1, .int 0)]) hx hb dX9_extreme_92 hl (k := 1) rfl (by decide +kernel) (by decide) rfl (fun ls hl => ?_)
  refine lv_goto (tgt := 39) hx hb dX9_extreme_95 (by decide) ?_
  refine lv_iload hx hb dX9_extreme_39 (lv_at hl 0 rfl) ?_
  refine lv_aload_n hx hb dX9_extreme_41 rfl (lv_at hl 4 rfl) ?_
  refine gf (k := 35) hx hb hts inX9 hown hK hP k_830 rfl (by decide) rfl 3 rfl (.int 11) rfl dX9_extreme_42 ?_
  refine f_icmp_ge hx hb dX9_extreme_45 98 (by decide) (by decide +kernel) ?_
  refine lv_aload_n hx hb dX9_extreme_48 rfl (lv_at hl 4 rfl) ?_
  refine lv_aload_n hx hb dX9_extreme_49 rfl (lv_at hl 4 rfl) ?_
  refine gf (k := 34) hx hb hts inX9 hown hK hP k_829 rfl (by decide) rfl 3 rfl (.ref a4) rfl dX9_extreme_50 ?_
  exact c564_X9_extreme_s1 l dC dI cI cJ cII cJJ g a0 a1 a2 a3 a4 a5 a6 a7 a8 a9 a10 a11 a12 a13 a14 a15 a16 a17 a18 a19 a20 a21 a22 a23 a24 a25 a26 a27 hx hb hr hml hown hts hk hA hK hP hD hS hX hl
set_option maxRecDepth 100000 in
set_option maxHeartbeats 4000000 in
theorem c576_X9_extreme_s2 (l : Launch) (dC : Nat → ClassId) (dI : Nat → Nat → Nat) (cI cJ cII cJJ : ClassId) (g a0 a1 a2 a3 a4 a5 a6 a7 a8 a9 a10 a11 a12 a13 a14 a15 a16 a17 a18 a19 a20 a21 a22 a23 a24 a25 a26 a27 : Nat) {p : Program} {e : Env} {s : State} {m : MethodId} {below : List Frame} {meth : Method} {c : Code} {A : Nat → Prop} {ls : Array Slot} {H : Heap} {locs : List Loc} (hx : p.tables.exec = Jvm.exec) (hb : c.code = cX9_extreme) (hr : meth.sig.returnType = (some .int)) (hml : c.maxLocals = 8) (hown : s.vm.findClass RX9 = some m.cls) (hts : ∀ w ∈ TT, w.before ([.ref a0, .int 1] : List Value).toArray s = true) (hk : meth.locks = false) (hA : ∀ q, s.heap.size ≤ q → A q) (hK : va_K (dC, dI) vwCl (TY cI cJ cII cJJ) s) (hP : va_P (dC, dI) vwCl [(a1, .inl (cI, 4, .inl (tb [0, 0, 0, 0]))), (a3, .inl (cI, 4, .inl (tb [10]))), (a2, .inl (cI, 4, .inl (tb [10, 10, 10, 10]))), (a0, .inr (9, [.ref a7, .ref a8, .ref a1, .ref a2, .ref a5, .ref a6, .ref a9, .ref a10, .ref a11, .ref a12, .ref a13, .ref a14, .int 1, .int 0, .int 0, .ref a15, .ref a16, .ref a17, .ref a18, .ref a19, .ref a20, .int 0, .int 0, .ref a21, .ref a22, .ref a23, .ref a24, .int 0, .int 0, .ref a25, .ref a26, .ref a27, .ref a3, .int 1, .ref a4, .int 11])), (a5, .inl (cI, 4, .inl (tb [0, 0, 0, 0]))), (a4, .inl (cI, 777924, .inl (tb [0, 0, 0, 0, 1, 0, 0, 0, 2, 0, 0, 0, 3, 0, 0, 0, 4, 0, 0, 0, 5, 0, 0, 0, 6, 0, 0, 0, 7, 0, 0, 0, 8, 0, 0, 0, 9, 0, 0, 0, 10]))), (a6, .inl (cI, 4, .inl (tb [0, 0, 0, 0])))] H) (hD : va_D A [(a1, .inl (cI, 4, .inl (tb [0, 0, 0, 0]))), (a3, .inl (cI, 4, .inl (tb [10]))), (a2, .inl (cI, 4, .inl (tb [10, 10, 10, 10]))), (a0, .inr (9, [.ref a7, .ref a8, .ref a1, .ref a2, .ref a5, .ref a6, .ref a9, .ref a10, .ref a11, .ref a12, .ref a13, .ref a14, .int 1, .int 0, .int 0, .ref a15, .ref a16, .ref a17, .ref a18, .ref a19, .ref a20, .int 0, .int 0, .ref a21, .ref a22, .ref a23, .ref a24, .int 0, .int 0, .ref a25, .ref a26, .ref a27, .ref a3, .int 1, .ref a4, .int 11])), (a5, .inl (cI, 4, .inl (tb [0, 0, 0, 0]))), (a4, .inl (cI, 777924, .inl (tb [0, 0, 0, 0, 1, 0, 0, 0, 2, 0, 0, 0, 3, 0, 0, 0, 4, 0, 0, 0, 5, 0, 0, 0, 6, 0, 0, 0, 7, 0, 0, 0, 8, 0, 0, 0, 9, 0, 0, 0, 10]))), (a6, .inl (cI, 4, .inl (tb [0, 0, 0, 0])))]) (hS : va_S A s.heap H locs) (hX : GXA 0 g A s) (hl : lv_has ls 8 [(6, .long 0), (5, .int 10), (3, .long 0), (2, .int 0), (0, .ref a0), (1, .int 1)]) : W p l e ({ frames := 6, cells := 0, slots := 0, locals := 320 } : Room) s m ([.ref a0, .int 1] : List Value).toArray below meth c H locs 0 0 (MQ below ((QcI dC dI (TY cI cJ cII cJJ) 0 []) A) ([.ref a0, .int 1] : List Value).toArray s 0 0 A) (F0 m 62 ls []) := by
  refine lv_iload_n hx hb dX9_extreme_62 rfl (lv_at hl 5 rfl) ?_
  refine t_if_ne hx hb dX9_extreme_63 76 (by decide) (by decide +kernel) ?_
  refine lv_lload hx hb dX9_extreme_76 (lv_at hl 0 rfl) ?_
  refine lv_lload_n hx hb dX9_extreme_78 rfl (lv_at hl 2 rfl) ?_
  refine v_lcmp hx hb dX9_extreme_79 0 (by decide +kernel) ?_
  refine f_if_gt hx hb dX9_extreme_80 86 (by decide) (by decide +kernel) ?_
  refine lv_goto (tgt := 92) hx hb dX9_extreme_83 (by decide) ?_
  refine lv_iinc (v := 11) (lv' := [(5, .int 11), (6, .long 0), (3, .long 0), (2, .int 0), (0, .ref a0), (1, .int 1)]) hx hb dX9_extreme_92 hl (k := 1) rfl (by decide +kernel) (by decide) rfl (fun ls hl => ?_)
  refine lv_goto (tgt := 39) hx hb dX9_extreme_95 (by decide) ?_
  refine lv_iload hx hb dX9_extreme_39 (lv_at hl 0 rfl) ?_
  refine lv_aload_n hx hb dX9_extreme_41 rfl (lv_at hl 4 rfl) ?_
  refine gf (k := 35) hx hb hts inX9 hown hK hP k_830 rfl (by decide) rfl 3 rfl (.int 11) rfl dX9_extreme_42 ?_
  refine t_icmp_ge hx hb dX9_extreme_45 98 (by decide) (by decide +kernel) ?_
  refine lv_iload_n hx hb dX9_extreme_98 rfl (lv_at hl 3 rfl) ?_
  exact r_i hx hb hr hk hK (hP.sub [] rfl) (hD.sub [] rfl rfl) hS dX9_extreme_99
set_option maxRecDepth 100000 in
set_option maxHeartbeats 4000000 in
theorem c576_X9_extreme_s1 (l : Launch) (dC : Nat → ClassId) (dI : Nat → Nat → Nat) (cI cJ cII cJJ : ClassId) (g a0 a1 a2 a3 a4 a5 a6 a7 a8 a9 a10 a11 a12 a13 a14 a15 a16 a17 a18 a19 a20 a21 a22 a23 a24 a25 a26 a27 : Nat) {p : Program} {e : Env} {s : State} {m : MethodId} {below : List Frame} {meth : Method} {c : Code} {A : Nat → Prop} {ls : Array Slot} {H : Heap} {locs : List Loc} (hx : p.tables.exec = Jvm.exec) (hb : c.code = cX9_extreme) (hr : meth.sig.returnType = (some .int)) (hml : c.maxLocals = 8) (hown : s.vm.findClass RX9 = some m.cls) (hts : ∀ w ∈ TT, w.before ([.ref a0, .int 1] : List Value).toArray s = true) (hk : meth.locks = false) (hA : ∀ q, s.heap.size ≤ q → A q) (hK : va_K (dC, dI) vwCl (TY cI cJ cII cJJ) s) (hP : va_P (dC, dI) vwCl [(a1, .inl (cI, 4, .inl (tb [0, 0, 0, 0]))), (a3, .inl (cI, 4, .inl (tb [10]))), (a2, .inl (cI, 4, .inl (tb [10, 10, 10, 10]))), (a0, .inr (9, [.ref a7, .ref a8, .ref a1, .ref a2, .ref a5, .ref a6, .ref a9, .ref a10, .ref a11, .ref a12, .ref a13, .ref a14, .int 1, .int 0, .int 0, .ref a15, .ref a16, .ref a17, .ref a18, .ref a19, .ref a20, .int 0, .int 0, .ref a21, .ref a22, .ref a23, .ref a24, .int 0, .int 0, .ref a25, .ref a26, .ref a27, .ref a3, .int 1, .ref a4, .int 11])), (a5, .inl (cI, 4, .inl (tb [0, 0, 0, 0]))), (a4, .inl (cI, 777924, .inl (tb [0, 0, 0, 0, 1, 0, 0, 0, 2, 0, 0, 0, 3, 0, 0, 0, 4, 0, 0, 0, 5, 0, 0, 0, 6, 0, 0, 0, 7, 0, 0, 0, 8, 0, 0, 0, 9, 0, 0, 0, 10]))), (a6, .inl (cI, 4, .inl (tb [0, 0, 0, 0])))] H) (hD : va_D A [(a1, .inl (cI, 4, .inl (tb [0, 0, 0, 0]))), (a3, .inl (cI, 4, .inl (tb [10]))), (a2, .inl (cI, 4, .inl (tb [10, 10, 10, 10]))), (a0, .inr (9, [.ref a7, .ref a8, .ref a1, .ref a2, .ref a5, .ref a6, .ref a9, .ref a10, .ref a11, .ref a12, .ref a13, .ref a14, .int 1, .int 0, .int 0, .ref a15, .ref a16, .ref a17, .ref a18, .ref a19, .ref a20, .int 0, .int 0, .ref a21, .ref a22, .ref a23, .ref a24, .int 0, .int 0, .ref a25, .ref a26, .ref a27, .ref a3, .int 1, .ref a4, .int 11])), (a5, .inl (cI, 4, .inl (tb [0, 0, 0, 0]))), (a4, .inl (cI, 777924, .inl (tb [0, 0, 0, 0, 1, 0, 0, 0, 2, 0, 0, 0, 3, 0, 0, 0, 4, 0, 0, 0, 5, 0, 0, 0, 6, 0, 0, 0, 7, 0, 0, 0, 8, 0, 0, 0, 9, 0, 0, 0, 10]))), (a6, .inl (cI, 4, .inl (tb [0, 0, 0, 0])))]) (hS : va_S A s.heap H locs) (hX : GXA 0 g A s) (hl : lv_has ls 8 [(5, .int 5), (6, .long 0), (3, .long 0), (2, .int 0), (0, .ref a0), (1, .int 1)]) : W p l e ({ frames := 6, cells := 0, slots := 0, locals := 320 } : Room) s m ([.ref a0, .int 1] : List Value).toArray below meth c H locs 0 0 (MQ below ((QcI dC dI (TY cI cJ cII cJJ) 0 []) A) ([.ref a0, .int 1] : List Value).toArray s 0 0 A) (F0 m 53 ls [.ref a4, .ref a0]) := by
  refine lv_iconst (v := 4) hx hb dX9_extreme_53 (by decide) ?_
  refine lv_iload hx hb dX9_extreme_54 (lv_at hl 0 rfl) ?_
  refine v_imul hx hb dX9_extreme_56 20 (by decide +kernel) ?_
  refine kV_l (q0 := 0) ⟨hx, hb, hml, hown, hts⟩ hK hP hD hS hA hX cv_RX9_220 [3, 4, 5, 6] [0, 1, 2] (wr := [(a1, .inl (cI, 4, .inl (tb [0, 0, 0, 0]))), (a3, .inl (cI, 4, .inl (tb [10]))), (a2, .inl (cI, 4, .inl (tb [10, 10, 10, 10])))]) rfl rfl rfl rfl (by decide) (c570_X9_costOf l dC dI cI cJ cII cJJ H.size 0 a0 a5 a4 a6 a7 a8 a1 a2 a9 a10 a11 a12 a13 a14 a15 a16 a17 a18 a19 a20 a21 a22 a23 a24 a25 a26 a27 a3) ⟨by decide +kernel, by decide +kernel⟩ rfl rfl (Or.inl rfl) (rest := []) rfl rfl rfl hl.1 rfl (Nat.le_of_ble_eq_true rfl) dX9_extreme_57 ⟨Nat.le_of_ble_eq_true rfl, Nat.le_of_ble_eq_true rfl⟩ (W' := [(a1, .inl (cI, 4, .inl (tb [0, 0, 0, 0]))), (a3, .inl (cI, 4, .inl (tb [10]))), (a2, .inl (cI, 4, .inl (tb [10, 10, 10, 10]))), (a0, .inr (9, [.ref a7, .ref a8, .ref a1, .ref a2, .ref a5, .ref a6, .ref a9, .ref a10, .ref a11, .ref a12, .ref a13, .ref a14, .int 1, .int 0, .int 0, .ref a15, .ref a16, .ref a17, .ref a18, .ref a19, .ref a20, .int 0, .int 0, .ref a21, .ref a22, .ref a23, .ref a24, .int 0, .int 0, .ref a25, .ref a26, .ref a27, .ref a3, .int 1, .ref a4, .int 11])), (a5, .inl (cI, 4, .inl (tb [0, 0, 0, 0]))), (a4, .inl (cI, 777924, .inl (tb [0, 0, 0, 0, 1, 0, 0, 0, 2, 0, 0, 0, 3, 0, 0, 0, 4, 0, 0, 0, 5, 0, 0, 0, 6, 0, 0, 0, 7, 0, 0, 0, 8, 0, 0, 0, 9, 0, 0, 0, 10]))), (a6, .inl (cI, 4, .inl (tb [0, 0, 0, 0])))]) rfl (fun H locs hP hD hS => ?_)
  refine lv_lstore (lv' := [(6, .long 0), (5, .int 5), (3, .long 0), (2, .int 0), (0, .ref a0), (1, .int 1)]) hx hb dX9_extreme_60 hl (by decide) rfl (fun ls hl => ?_)
  refine lv_iload_n hx hb dX9_extreme_62 rfl (lv_at hl 5 rfl) ?_
  refine t_if_ne hx hb dX9_extreme_63 76 (by decide) (by decide +kernel) ?_
  refine lv_lload hx hb dX9_extreme_76 (lv_at hl 0 rfl) ?_
  refine lv_lload_n hx hb dX9_extreme_78 rfl (lv_at hl 2 rfl) ?_
  refine v_lcmp hx hb dX9_extreme_79 0 (by decide +kernel) ?_
  refine f_if_gt hx hb dX9_extreme_80 86 (by decide) (by decide +kernel) ?_
  refine lv_goto (tgt := 92) hx hb dX9_extreme_83 (by decide) ?_
  refine lv_iinc (v := 6) (lv' := [(5, .int 6), (6, .long 0), (3, .long 0), (2, .int 0), (0, .ref a0), (1, .int 1)]) hx hb dX9_extreme_92 hl (k := 1) rfl (by decide +kernel) (by decide) rfl (fun ls hl => ?_)
  refine lv_goto (tgt := 39) hx hb dX9_extreme_95 (by decide) ?_
  refine lv_iload hx hb dX9_extreme_39 (lv_at hl 0 rfl) ?_
  refine lv_aload_n hx hb dX9_extreme_41 rfl (lv_at hl 4 rfl) ?_
  refine gf (k := 35) hx hb hts inX9 hown hK hP k_830 rfl (by decide) rfl 3 rfl (.int 11) rfl dX9_extreme_42 ?_
  refine f_icmp_ge hx hb dX9_extreme_45 98 (by decide) (by decide +kernel) ?_
  refine lv_aload_n hx hb dX9_extreme_48 rfl (lv_at hl 4 rfl) ?_
  refine lv_aload_n hx hb dX9_extreme_49 rfl (lv_at hl 4 rfl) ?_
  refine gf (k := 34) hx hb hts inX9 hown hK hP k_829 rfl (by decide) rfl 3 rfl (.ref a4) rfl dX9_extreme_50 ?_
  refine lv_iconst (v := 4) hx hb dX9_extreme_53 (by decide) ?_
  refine lv_iload hx hb dX9_extreme_54 (lv_at hl 0 rfl) ?_
  refine v_imul hx hb dX9_extreme_56 24 (by decide +kernel) ?_
  refine kV_l (q0 := 0) ⟨hx, hb, hml, hown, hts⟩ hK hP hD hS hA hX cv_RX9_220 [3, 4, 5, 6] [0, 1, 2] (wr := [(a1, .inl (cI, 4, .inl (tb [0, 0, 0, 0]))), (a3, .inl (cI, 4, .inl (tb [10]))), (a2, .inl (cI, 4, .inl (tb [10, 10, 10, 10])))]) rfl rfl rfl rfl (by decide) (c571_X9_costOf l dC dI cI cJ cII cJJ H.size 0 a0 a5 a4 a6 a7 a8 a1 a2 a9 a10 a11 a12 a13 a14 a15 a16 a17 a18 a19 a20 a21 a22 a23 a24 a25 a26 a27 a3) ⟨by decide +kernel, by decide +kernel⟩ rfl rfl (Or.inl rfl) (rest := []) rfl rfl rfl hl.1 rfl (Nat.le_of_ble_eq_true rfl) dX9_extreme_57 ⟨Nat.le_of_ble_eq_true rfl, Nat.le_of_ble_eq_true rfl⟩ (W' := [(a1, .inl (cI, 4, .inl (tb [0, 0, 0, 0]))), (a3, .inl (cI, 4, .inl (tb [10]))), (a2, .inl (cI, 4, .inl (tb [10, 10, 10, 10]))), (a0, .inr (9, [.ref a7, .ref a8, .ref a1, .ref a2, .ref a5, .ref a6, .ref a9, .ref a10, .ref a11, .ref a12, .ref a13, .ref a14, .int 1, .int 0, .int 0, .ref a15, .ref a16, .ref a17, .ref a18, .ref a19, .ref a20, .int 0, .int 0, .ref a21, .ref a22, .ref a23, .ref a24, .int 0, .int 0, .ref a25, .ref a26, .ref a27, .ref a3, .int 1, .ref a4, .int 11])), (a5, .inl (cI, 4, .inl (tb [0, 0, 0, 0]))), (a4, .inl (cI, 777924, .inl (tb [0, 0, 0, 0, 1, 0, 0, 0, 2, 0, 0, 0, 3, 0, 0, 0, 4, 0, 0, 0, 5, 0, 0, 0, 6, 0, 0, 0, 7, 0, 0, 0, 8, 0, 0, 0, 9, 0, 0, 0, 10]))), (a6, .inl (cI, 4, .inl (tb [0, 0, 0, 0])))]) rfl (fun H locs hP hD hS => ?_)
  refine lv_lstore (lv' := [(6, .long 0), (5, .int 6), (3, .long 0), (2, .int 0), (0, .ref a0), (1, .int 1)]) hx hb dX9_extreme_60 hl (by decide) rfl (fun ls hl => ?_)
  refine lv_iload_n hx hb dX9_extreme_62 rfl (lv_at hl 5 rfl) ?_
  refine t_if_ne hx hb dX9_extreme_63 76 (by decide) (by decide +kernel) ?_
  refine lv_lload hx hb dX9_extreme_76 (lv_at hl 0 rfl) ?_
  refine lv_lload_n hx hb dX9_extreme_78 rfl (lv_at hl 2 rfl) ?_
  refine v_lcmp hx hb dX9_extreme_79 0 (by decide +kernel) ?_
  refine f_if_gt hx hb dX9_extreme_80 86 (by decide) (by decide +kernel) ?_
  refine lv_goto (tgt := 92) hx hb dX9_extreme_83 (by decide) ?_
  refine lv_iinc (v := 7) (lv' := [(5, .int 7), (6, .long 0), (3, .long 0), (2, .int 0), (0, .ref a0), (1, .int 1)]) hx hb dX9_extreme_92 hl (k := 1) rfl (by decide +kernel) (by decide) rfl (fun ls hl => ?_)
  refine lv_goto (tgt := 39) hx hb dX9_extreme_95 (by decide) ?_
  refine lv_iload hx hb dX9_extreme_39 (lv_at hl 0 rfl) ?_
  refine lv_aload_n hx hb dX9_extreme_41 rfl (lv_at hl 4 rfl) ?_
  refine gf (k := 35) hx hb hts inX9 hown hK hP k_830 rfl (by decide) rfl 3 rfl (.int 11) rfl dX9_extreme_42 ?_
  refine f_icmp_ge hx hb dX9_extreme_45 98 (by decide) (by decide +kernel) ?_
  refine lv_aload_n hx hb dX9_extreme_48 rfl (lv_at hl 4 rfl) ?_
  refine lv_aload_n hx hb dX9_extreme_49 rfl (lv_at hl 4 rfl) ?_
  refine gf (k := 34) hx hb hts inX9 hown hK hP k_829 rfl (by decide) rfl 3 rfl (.ref a4) rfl dX9_extreme_50 ?_
  refine lv_iconst (v := 4) hx hb dX9_extreme_53 (by decide) ?_
  refine lv_iload hx hb dX9_extreme_54 (lv_at hl 0 rfl) ?_
  refine v_imul hx hb dX9_extreme_56 28 (by decide +kernel) ?_
  refine kV_l (q0 := 0) ⟨hx, hb, hml, hown, hts⟩ hK hP hD hS hA hX cv_RX9_220 [3, 4, 5, 6] [0, 1, 2] (wr := [(a1, .inl (cI, 4, .inl (tb [0, 0, 0, 0]))), (a3, .inl (cI, 4, .inl (tb [10]))), (a2, .inl (cI, 4, .inl (tb [10, 10, 10, 10])))]) rfl rfl rfl rfl (by decide) (c572_X9_costOf l dC dI cI cJ cII cJJ H.size 0 a0 a5 a4 a6 a7 a8 a1 a2 a9 a10 a11 a12 a13 a14 a15 a16 a17 a18 a19 a20 a21 a22 a23 a24 a25 a26 a27 a3) ⟨by decide +kernel, by decide +kernel⟩ rfl rfl (Or.inl rfl) (rest := []) rfl rfl rfl hl.1 rfl (Nat.le_of_ble_eq_true rfl) dX9_extreme_57 ⟨Nat.le_of_ble_eq_true rfl, Nat.le_of_ble_eq_true rfl⟩ (W' := [(a1, .inl (cI, 4, .inl (tb [0, 0, 0, 0]))), (a3, .inl (cI, 4, .inl (tb [10]))), (a2, .inl (cI, 4, .inl (tb [10, 10, 10, 10]))), (a0, .inr (9, [.ref a7, .ref a8, .ref a1, .ref a2, .ref a5, .ref a6, .ref a9, .ref a10, .ref a11, .ref a12, .ref a13, .ref a14, .int 1, .int 0, .int 0, .ref a15, .ref a16, .ref a17, .ref a18, .ref a19, .ref a20, .int 0, .int 0, .ref a21, .ref a22, .ref a23, .ref a24, .int 0, .int 0, .ref a25, .ref a26, .ref a27, .ref a3, .int 1, .ref a4, .int 11])), (a5, .inl (cI, 4, .inl (tb [0, 0, 0, 0]))), (a4, .inl (cI, 777924, .inl (tb [0, 0, 0, 0, 1, 0, 0, 0, 2, 0, 0, 0, 3, 0, 0, 0, 4, 0, 0, 0, 5, 0, 0, 0, 6, 0, 0, 0, 7, 0, 0, 0, 8, 0, 0, 0, 9, 0, 0, 0, 10]))), (a6, .inl (cI, 4, .inl (tb [0, 0, 0, 0])))]) rfl (fun H locs hP hD hS => ?_)
  refine lv_lstore (lv' := [(6, .long 0), (5, .int 7), (3, .long 0), (2, .int 0), (0, .ref a0), (1, .int 1)]) hx hb dX9_extreme_60 hl (by decide) rfl (fun ls hl => ?_)
  refine lv_iload_n hx hb dX9_extreme_62 rfl (lv_at hl 5 rfl) ?_
  refine t_if_ne hx hb dX9_extreme_63 76 (by decide) (by decide +kernel) ?_
  refine lv_lload hx hb dX9_extreme_76 (lv_at hl 0 rfl) ?_
  refine lv_lload_n hx hb dX9_extreme_78 rfl (lv_at hl 2 rfl) ?_
  refine v_lcmp hx hb dX9_extreme_79 0 (by decide +kernel) ?_
  refine f_if_gt hx hb dX9_extreme_80 86 (by decide) (by decide +kernel) ?_
  refine lv_goto (tgt := 92) hx hb dX9_extreme_83 (by decide) ?_
  refine lv_iinc (v := 8) (lv' := [(5, .int 8), (6, .long 0), (3, .long 0), (2, .int 0), (0, .ref a0), (1, .int 1)]) hx hb dX9_extreme_92 hl (k := 1) rfl (by decide +kernel) (by decide) rfl (fun ls hl => ?_)
  refine lv_goto (tgt := 39) hx hb dX9_extreme_95 (by decide) ?_
  refine lv_iload hx hb dX9_extreme_39 (lv_at hl 0 rfl) ?_
  refine lv_aload_n hx hb dX9_extreme_41 rfl (lv_at hl 4 rfl) ?_
  refine gf (k := 35) hx hb hts inX9 hown hK hP k_830 rfl (by decide) rfl 3 rfl (.int 11) rfl dX9_extreme_42 ?_
  refine f_icmp_ge hx hb dX9_extreme_45 98 (by decide) (by decide +kernel) ?_
  refine lv_aload_n hx hb dX9_extreme_48 rfl (lv_at hl 4 rfl) ?_
  refine lv_aload_n hx hb dX9_extreme_49 rfl (lv_at hl 4 rfl) ?_
  refine gf (k := 34) hx hb hts inX9 hown hK hP k_829 rfl (by decide) rfl 3 rfl (.ref a4) rfl dX9_extreme_50 ?_
  refine lv_iconst (v := 4) hx hb dX9_extreme_53 (by decide) ?_
  refine lv_iload hx hb dX9_extreme_54 (lv_at hl 0 rfl) ?_
  refine v_imul hx hb dX9_extreme_56 32 (by decide +kernel) ?_
  refine kV_l (q0 := 0) ⟨hx, hb, hml, hown, hts⟩ hK hP hD hS hA hX cv_RX9_220 [3, 4, 5, 6] [0, 1, 2] (wr := [(a1, .inl (cI, 4, .inl (tb [0, 0, 0, 0]))), (a3, .inl (cI, 4, .inl (tb [10]))), (a2, .inl (cI, 4, .inl (tb [10, 10, 10, 10])))]) rfl rfl rfl rfl (by decide) (c573_X9_costOf l dC dI cI cJ cII cJJ H.size 0 a0 a5 a4 a6 a7 a8 a1 a2 a9 a10 a11 a12 a13 a14 a15 a16 a17 a18 a19 a20 a21 a22 a23 a24 a25 a26 a27 a3) ⟨by decide +kernel, by decide +kernel⟩ rfl rfl (Or.inl rfl) (rest := []) rfl rfl rfl hl.1 rfl (Nat.le_of_ble_eq_true rfl) dX9_extreme_57 ⟨Nat.le_of_ble_eq_true rfl, Nat.le_of_ble_eq_true rfl⟩ (W' := [(a1, .inl (cI, 4, .inl (tb [0, 0, 0, 0]))), (a3, .inl (cI, 4, .inl (tb [10]))), (a2, .inl (cI, 4, .inl (tb [10, 10, 10, 10]))), (a0, .inr (9, [.ref a7, .ref a8, .ref a1, .ref a2, .ref a5, .ref a6, .ref a9, .ref a10, .ref a11, .ref a12, .ref a13, .ref a14, .int 1, .int 0, .int 0, .ref a15, .ref a16, .ref a17, .ref a18, .ref a19, .ref a20, .int 0, .int 0, .ref a21, .ref a22, .ref a23, .ref a24, .int 0, .int 0, .ref a25, .ref a26, .ref a27, .ref a3, .int 1, .ref a4, .int 11])), (a5, .inl (cI, 4, .inl (tb [0, 0, 0, 0]))), (a4, .inl (cI, 777924, .inl (tb [0, 0, 0, 0, 1, 0, 0, 0, 2, 0, 0, 0, 3, 0, 0, 0, 4, 0, 0, 0, 5, 0, 0, 0, 6, 0, 0, 0, 7, 0, 0, 0, 8, 0, 0, 0, 9, 0, 0, 0, 10]))), (a6, .inl (cI, 4, .inl (tb [0, 0, 0, 0])))]) rfl (fun H locs hP hD hS => ?_)
  refine lv_lstore (lv' := [(6, .long 0), (5, .int 8), (3, .long 0), (2, .int 0), (0, .ref a0), (1, .int 1)]) hx hb dX9_extreme_60 hl (by decide) rfl (fun ls hl => ?_)
  refine lv_iload_n hx hb dX9_extreme_62 rfl (lv_at hl 5 rfl) ?_
  refine t_if_ne hx hb dX9_extreme_63 76 (by decide) (by decide +kernel) ?_
  refine lv_lload hx hb dX9_extreme_76 (lv_at hl 0 rfl) ?_
  refine lv_lload_n hx hb dX9_extreme_78 rfl (lv_at hl 2 rfl) ?_
  refine v_lcmp hx hb dX9_extreme_79 0 (by decide +kernel) ?_
  refine f_if_gt hx hb dX9_extreme_80 86 (by decide) (by decide +kernel) ?_
  refine lv_goto (tgt := 92) hx hb dX9_extreme_83 (by decide) ?_
  refine lv_iinc (v := 9) (lv' := [(5, .int 9), (6, .long 0), (3, .long 0), (2, .int 0), (0, .ref a0), (1, .int 1)]) hx hb dX9_extreme_92 hl (k := 1) rfl (by decide +kernel) (by decide) rfl (fun ls hl => ?_)
  refine lv_goto (tgt := 39) hx hb dX9_extreme_95 (by decide) ?_
  refine lv_iload hx hb dX9_extreme_39 (lv_at hl 0 rfl) ?_
  refine lv_aload_n hx hb dX9_extreme_41 rfl (lv_at hl 4 rfl) ?_
  refine gf (k := 35) hx hb hts inX9 hown hK hP k_830 rfl (by decide) rfl 3 rfl (.int 11) rfl dX9_extreme_42 ?_
  refine f_icmp_ge hx hb dX9_extreme_45 98 (by decide) (by decide +kernel) ?_
  refine lv_aload_n hx hb dX9_extreme_48 rfl (lv_at hl 4 rfl) ?_
  refine lv_aload_n hx hb dX9_extreme_49 rfl (lv_at hl 4 rfl) ?_
  refine gf (k := 34) hx hb hts inX9 hown hK hP k_829 rfl (by decide) rfl 3 rfl (.ref a4) rfl dX9_extreme_50 ?_
  refine lv_iconst (v := 4) hx hb dX9_extreme_53 (by decide) ?_
  refine lv_iload hx hb dX9_extreme_54 (lv_at hl 0 rfl) ?_
  refine v_imul hx hb dX9_extreme_56 36 (by decide +kernel) ?_
  refine kV_l (q0 := 0) ⟨hx, hb, hml, hown, hts⟩ hK hP hD hS hA hX cv_RX9_220 [3, 4, 5, 6] [0, 1, 2] (wr := [(a1, .inl (cI, 4, .inl (tb [0, 0, 0, 0]))), (a3, .inl (cI, 4, .inl (tb [10]))), (a2, .inl (cI, 4, .inl (tb [10, 10, 10, 10])))]) rfl rfl rfl rfl (by decide) (c574_X9_costOf l dC dI cI cJ cII cJJ H.size 0 a0 a5 a4 a6 a7 a8 a1 a2 a9 a10 a11 a12 a13 a14 a15 a16 a17 a18 a19 a20 a21 a22 a23 a24 a25 a26 a27 a3) ⟨by decide +kernel, by decide +kernel⟩ rfl rfl (Or.inl rfl) (rest := []) rfl rfl rfl hl.1 rfl (Nat.le_of_ble_eq_true rfl) dX9_extreme_57 ⟨Nat.le_of_ble_eq_true rfl, Nat.le_of_ble_eq_true rfl⟩ (W' := [(a1, .inl (cI, 4, .inl (tb [0, 0, 0, 0]))), (a3, .inl (cI, 4, .inl (tb [10]))), (a2, .inl (cI, 4, .inl (tb [10, 10, 10, 10]))), (a0, .inr (9, [.ref a7, .ref a8, .ref a1, .ref a2, .ref a5, .ref a6, .ref a9, .ref a10, .ref a11, .ref a12, .ref a13, .ref a14, .int 1, .int 0, .int 0, .ref a15, .ref a16, .ref a17, .ref a18, .ref a19, .ref a20, .int 0, .int 0, .ref a21, .ref a22, .ref a23, .ref a24, .int 0, .int 0, .ref a25, .ref a26, .ref a27, .ref a3, .int 1, .ref a4, .int 11])), (a5, .inl (cI, 4, .inl (tb [0, 0, 0, 0]))), (a4, .inl (cI, 777924, .inl (tb [0, 0, 0, 0, 1, 0, 0, 0, 2, 0, 0, 0, 3, 0, 0, 0, 4, 0, 0, 0, 5, 0, 0, 0, 6, 0, 0, 0, 7, 0, 0, 0, 8, 0, 0, 0, 9, 0, 0, 0, 10]))), (a6, .inl (cI, 4, .inl (tb [0, 0, 0, 0])))]) rfl (fun H locs hP hD hS => ?_)
  refine lv_lstore (lv' := [(6, .long 0), (5, .int 9), (3, .long 0), (2, .int 0), (0, .ref a0), (1, .int 1)]) hx hb dX9_extreme_60 hl (by decide) rfl (fun ls hl => ?_)
  refine lv_iload_n hx hb dX9_extreme_62 rfl (lv_at hl 5 rfl) ?_
  refine t_if_ne hx hb dX9_extreme_63 76 (by decide) (by decide +kernel) ?_
  refine lv_lload hx hb dX9_extreme_76 (lv_at hl 0 rfl) ?_
  refine lv_lload_n hx hb dX9_extreme_78 rfl (lv_at hl 2 rfl) ?_
  refine v_lcmp hx hb dX9_extreme_79 0 (by decide +kernel) ?_
  refine f_if_gt hx hb dX9_extreme_80 86 (by decide) (by decide +kernel) ?_
  refine lv_goto (tgt := 92) hx hb dX9_extreme_83 (by decide) ?_
  refine lv_iinc (v := 10) (lv' := [(5, .int 10), (6, .long 0), (3, .long 0), (2, .int 0), (0, .ref a0), (1, .int 1)]) hx hb dX9_extreme_92 hl (k := 1) rfl (by decide +kernel) (by decide) rfl (fun ls hl => ?_)
  refine lv_goto (tgt := 39) hx hb dX9_extreme_95 (by decide) ?_
  refine lv_iload hx hb dX9_extreme_39 (lv_at hl 0 rfl) ?_
  refine lv_aload_n hx hb dX9_extreme_41 rfl (lv_at hl 4 rfl) ?_
  refine gf (k := 35) hx hb hts inX9 hown hK hP k_830 rfl (by decide) rfl 3 rfl (.int 11) rfl dX9_extreme_42 ?_
  refine f_icmp_ge hx hb dX9_extreme_45 98 (by decide) (by decide +kernel) ?_
  refine lv_aload_n hx hb dX9_extreme_48 rfl (lv_at hl 4 rfl) ?_
  refine lv_aload_n hx hb dX9_extreme_49 rfl (lv_at hl 4 rfl) ?_
  refine gf (k := 34) hx hb hts inX9 hown hK hP k_829 rfl (by decide) rfl 3 rfl (.ref a4) rfl dX9_extreme_50 ?_
  refine lv_iconst (v := 4) hx hb dX9_extreme_53 (by decide) ?_
  refine lv_iload hx hb dX9_extreme_54 (lv_at hl 0 rfl) ?_
  refine v_imul hx hb dX9_extreme_56 40 (by decide +kernel) ?_
  refine kV_l (q0 := 0) ⟨hx, hb, hml, hown, hts⟩ hK hP hD hS hA hX cv_RX9_220 [3, 4, 5, 6] [0, 1, 2] (wr := [(a1, .inl (cI, 4, .inl (tb [0, 0, 0, 0]))), (a3, .inl (cI, 4, .inl (tb [10]))), (a2, .inl (cI, 4, .inl (tb [10, 10, 10, 10])))]) rfl rfl rfl rfl (by decide) (c575_X9_costOf l dC dI cI cJ cII cJJ H.size 0 a0 a5 a4 a6 a7 a8 a1 a2 a9 a10 a11 a12 a13 a14 a15 a16 a17 a18 a19 a20 a21 a22 a23 a24 a25 a26 a27 a3) ⟨by decide +kernel, by decide +kernel⟩ rfl rfl (Or.inl rfl) (rest := []) rfl rfl rfl hl.1 rfl (Nat.le_of_ble_eq_true rfl) dX9_extreme_57 ⟨Nat.le_of_ble_eq_true rfl, Nat.le_of_ble_eq_true rfl⟩ (W' := [(a1, .inl (cI, 4, .inl (tb [0, 0, 0, 0]))), (a3, .inl (cI, 4, .inl (tb [10]))), (a2, .inl (cI, 4, .inl (tb [10, 10, 10, 10]))), (a0, .inr (9, [.ref a7, .ref a8, .ref a1, .ref a2, .ref a5, .ref a6, .ref a9, .ref a10, .ref a11, .ref a12, .ref a13, .ref a14, .int 1, .int 0, .int 0, .ref a15, .ref a16, .ref a17, .ref a18, .ref a19, .ref a20, .int 0, .int 0, .ref a21, .ref a22, .ref a23, .ref a24, .int 0, .int 0, .ref a25, .ref a26, .ref a27, .ref a3, .int 1, .ref a4, .int 11])), (a5, .inl (cI, 4, .inl (tb [0, 0, 0, 0]))), (a4, .inl (cI, 777924, .inl (tb [0, 0, 0, 0, 1, 0, 0, 0, 2, 0, 0, 0, 3, 0, 0, 0, 4, 0, 0, 0, 5, 0, 0, 0, 6, 0, 0, 0, 7, 0, 0, 0, 8, 0, 0, 0, 9, 0, 0, 0, 10]))), (a6, .inl (cI, 4, .inl (tb [0, 0, 0, 0])))]) rfl (fun H locs hP hD hS => ?_)
  refine lv_lstore (lv' := [(6, .long 0), (5, .int 10), (3, .long 0), (2, .int 0), (0, .ref a0), (1, .int 1)]) hx hb dX9_extreme_60 hl (by decide) rfl (fun ls hl => ?_)
  exact c576_X9_extreme_s2 l dC dI cI cJ cII cJJ g a0 a1 a2 a3 a4 a5 a6 a7 a8 a9 a10 a11 a12 a13 a14 a15 a16 a17 a18 a19 a20 a21 a22 a23 a24 a25 a26 a27 hx hb hr hml hown hts hk hA hK hP hD hS hX hl
set_option maxRecDepth 100000 in
set_option maxHeartbeats 4000000 in
theorem c576_X9_extreme (l : Launch) (dC : Nat → ClassId) (dI : Nat → Nat → Nat) (cI cJ cII cJJ : ClassId) (sz g a0 a1 a2 a3 a4 a5 a6 a7 a8 a9 a10 a11 a12 a13 a14 a15 a16 a17 a18 a19 a20 a21 a22 a23 a24 a25 a26 a27 : Nat) : Met l yX9_extreme (.code yX9_extreme cX9_extreme 8 (some .int) :: TT) ({ frames := 6, cells := 0, slots := 0, locals := 320 }) (PcS dC dI (TY cI cJ cII cJJ) [.ref a0, .int 1] [(a0, .inr (9, [.ref a7, .ref a8, .ref a1, .ref a2, .ref a5, .ref a6, .ref a9, .ref a10, .ref a11, .ref a12, .ref a13, .ref a14, .int 1, .int 0, .int 0, .ref a15, .ref a16, .ref a17, .ref a18, .ref a19, .ref a20, .int 0, .int 0, .ref a21, .ref a22, .ref a23, .ref a24, .int 0, .int 0, .ref a25, .ref a26, .ref a27, .ref a3, .int 0, .ref a4, .int 0])), (a1, .inl (cI, 4, .inl (tb [0, 0, 0, 0]))), (a2, .inl (cI, 4, .inl (tb [10, 10, 10, 10]))), (a3, .inl (cI, 4, .inl (tb []))), (a4, .inl (cI, 777924, .inl (tb []))), (a5, .inl (cI, 4, .inl (tb [0, 0, 0, 0]))), (a6, .inl (cI, 4, .inl (tb [0, 0, 0, 0])))] sz 0 g) ((QcI dC dI (TY cI cJ cII cJJ) 0 []) (va_A [(a0, .inr (9, [.ref a7, .ref a8, .ref a1, .ref a2, .ref a5, .ref a6, .ref a9, .ref a10, .ref a11, .ref a12, .ref a13, .ref a14, .int 1, .int 0, .int 0, .ref a15, .ref a16, .ref a17, .ref a18, .ref a19, .ref a20, .int 0, .int 0, .ref a21, .ref a22, .ref a23, .ref a24, .int 0, .int 0, .ref a25, .ref a26, .ref a27, .ref a3, .int 0, .ref a4, .int 0])), (a1, .inl (cI, 4, .inl (tb [0, 0, 0, 0]))), (a2, .inl (cI, 4, .inl (tb [10, 10, 10, 10]))), (a3, .inl (cI, 4, .inl (tb []))), (a4, .inl (cI, 777924, .inl (tb []))), (a5, .inl (cI, 4, .inl (tb [0, 0, 0, 0]))), (a6, .inl (cI, 4, .inl (tb [0, 0, 0, 0])))] sz)) 0 0 (va_A [(a0, .inr (9, [.ref a7, .ref a8, .ref a1, .ref a2, .ref a5, .ref a6, .ref a9, .ref a10, .ref a11, .ref a12, .ref a13, .ref a14, .int 1, .int 0, .int 0, .ref a15, .ref a16, .ref a17, .ref a18, .ref a19, .ref a20, .int 0, .int 0, .ref a21, .ref a22, .ref a23, .ref a24, .int 0, .int 0, .ref a25, .ref a26, .ref a27, .ref a3, .int 0, .ref a4, .int 0])), (a1, .inl (cI, 4, .inl (tb [0, 0, 0, 0]))), (a2, .inl (cI, 4, .inl (tb [10, 10, 10, 10]))), (a3, .inl (cI, 4, .inl (tb []))), (a4, .inl (cI, 777924, .inl (tb []))), (a5, .inl (cI, 4, .inl (tb [0, 0, 0, 0]))), (a6, .inl (cI, 4, .inl (tb [0, 0, 0, 0])))] sz) := by
  refine SM.of (y := yX9_extreme) (maxL := 8) (av := [.ref a0, .int 1]) (QcI dC dI (TY cI cJ cII cJJ) 0 []) (by decide +kernel) (Nat.le_of_ble_eq_true rfl) (fun p e s m below meth c A ls hx hb hr hml hown hts hk hnm hA hK hP hD hS hX hl => ?_)
  have hown : s.vm.findClass RX9 = some m.cls := hown
  have hl : lv_has ls 8 [(0, .ref a0), (1, .int 1)] := hl
  refine lv_aload_n hx hb dX9_extreme_0 rfl (lv_at hl 0 rfl) ?_
  refine kV_v (q0 := 0) ⟨hx, hb, hml, hown, hts⟩ hK hP hD hS hA hX cv_RX9_238 [0, 1, 2, 3, 4] [5, 6] (wr := [(a5, .inl (cI, 4, .inl (tb [0, 0, 0, 0]))), (a6, .inl (cI, 4, .inl (tb [0, 0, 0, 0])))]) rfl rfl rfl rfl (by decide) (c515_X9_gather l dC dI cI cJ cII cJJ s.heap.size 0 a0 a1 a2 a3 a4 a7 a8 a5 a6 a9 a10 a11 a12 a13 a14 a15 a16 a17 a18 a19 a20 a21 a22 a23 a24 a25 a26 a27) ⟨by decide +kernel, by decide +kernel⟩ rfl rfl (Or.inl rfl) (rest := []) rfl rfl rfl hl.1 rfl (Nat.le_of_ble_eq_true rfl) dX9_extreme_1 ⟨Nat.le_of_ble_eq_true rfl, Nat.le_of_ble_eq_true rfl⟩ (fun _ => rfl) (W' := [(a5, .inl (cI, 4, .inl (tb [0, 0, 0, 0]))), (a6, .inl (cI, 4, .inl (tb [0, 0, 0, 0]))), (a4, .inl (cI, 777924, .inl (tb [0, 0, 0, 0, 1, 0, 0, 0, 2, 0, 0, 0, 3, 0, 0, 0, 4, 0, 0, 0, 5, 0, 0, 0, 6, 0, 0, 0, 7, 0, 0, 0, 8, 0, 0, 0, 9, 0, 0, 0, 10]))), (a0, .inr (9, [.ref a7, .ref a8, .ref a1, .ref a2, .ref a5, .ref a6, .ref a9, .ref a10, .ref a11, .ref a12, .ref a13, .ref a14, .int 1, .int 0, .int 0, .ref a15, .ref a16, .ref a17, .ref a18, .ref a19, .ref a20, .int 0, .int 0, .ref a21, .ref a22, .ref a23, .ref a24, .int 0, .int 0, .ref a25, .ref a26, .ref a27, .ref a3, .int 1, .ref a4, .int 11])), (a1, .inl (cI, 4, .inl (tb [0, 0, 0, 0]))), (a3, .inl (cI, 4, .inl (tb [10]))), (a2, .inl (cI, 4, .inl (tb [10, 10, 10, 10])))]) rfl (fun H locs hP hD hS => ?_)
  refine lv_aload_n hx hb dX9_extreme_4 rfl (lv_at hl 0 rfl) ?_
  refine gf (k := 35) hx hb hts inX9 hown hK hP k_830 rfl (by decide) rfl 3 rfl (.int 11) rfl dX9_extreme_5 ?_
  refine t_if_ne hx hb dX9_extreme_8 13 (by decide) (by decide +kernel) ?_
  refine lv_iload_n hx hb dX9_extreme_13 rfl (lv_at hl 1 rfl) ?_
  refine lv_iconst (v := 2) hx hb dX9_extreme_14 (by decide) ?_
  refine kS_i ⟨hx, hb, hml, hown, hts⟩ hK hP hD hS hA hX cs_RX9_116 [] [0, 1, 2, 3, 4, 5, 6] (wr := [(a5, .inl (cI, 4, .inl (tb [0, 0, 0, 0]))), (a6, .inl (cI, 4, .inl (tb [0, 0, 0, 0]))), (a4, .inl (cI, 777924, .inl (tb [0, 0, 0, 0, 1, 0, 0, 0, 2, 0, 0, 0, 3, 0, 0, 0, 4, 0, 0, 0, 5, 0, 0, 0, 6, 0, 0, 0, 7, 0, 0, 0, 8, 0, 0, 0, 9, 0, 0, 0, 10]))), (a0, .inr (9, [.ref a7, .ref a8, .ref a1, .ref a2, .ref a5, .ref a6, .ref a9, .ref a10, .ref a11, .ref a12, .ref a13, .ref a14, .int 1, .int 0, .int 0, .ref a15, .ref a16, .ref a17, .ref a18, .ref a19, .ref a20, .int 0, .int 0, .ref a21, .ref a22, .ref a23, .ref a24, .int 0, .int 0, .ref a25, .ref a26, .ref a27, .ref a3, .int 1, .ref a4, .int 11])), (a1, .inl (cI, 4, .inl (tb [0, 0, 0, 0]))), (a3, .inl (cI, 4, .inl (tb [10]))), (a2, .inl (cI, 4, .inl (tb [10, 10, 10, 10])))]) rfl rfl rfl rfl (by decide) (c402_X9_isIn l dC dI cI cJ cII cJJ H.size 0) ⟨by decide +kernel, by decide +kernel⟩ rfl rfl (Or.inl rfl) (rest := []) rfl hl.1 rfl (Nat.le_of_ble_eq_true rfl) dX9_extreme_15 ⟨Nat.le_of_ble_eq_true rfl, Nat.le_of_ble_eq_true rfl⟩ (W' := [(a5, .inl (cI, 4, .inl (tb [0, 0, 0, 0]))), (a6, .inl (cI, 4, .inl (tb [0, 0, 0, 0]))), (a4, .inl (cI, 777924, .inl (tb [0, 0, 0, 0, 1, 0, 0, 0, 2, 0, 0, 0, 3, 0, 0, 0, 4, 0, 0, 0, 5, 0, 0, 0, 6, 0, 0, 0, 7, 0, 0, 0, 8, 0, 0, 0, 9, 0, 0, 0, 10]))), (a0, .inr (9, [.ref a7, .ref a8, .ref a1, .ref a2, .ref a5, .ref a6, .ref a9, .ref a10, .ref a11, .ref a12, .ref a13, .ref a14, .int 1, .int 0, .int 0, .ref a15, .ref a16, .ref a17, .ref a18, .ref a19, .ref a20, .int 0, .int 0, .ref a21, .ref a22, .ref a23, .ref a24, .int 0, .int 0, .ref a25, .ref a26, .ref a27, .ref a3, .int 1, .ref a4, .int 11])), (a1, .inl (cI, 4, .inl (tb [0, 0, 0, 0]))), (a3, .inl (cI, 4, .inl (tb [10]))), (a2, .inl (cI, 4, .inl (tb [10, 10, 10, 10])))]) rfl (fun H locs hP hD hS => ?_)
  refine t_if_ne hx hb dX9_extreme_18 24 (by decide) (by decide +kernel) ?_
  refine lv_iconst (v := 0) hx hb dX9_extreme_24 (by decide) ?_
  refine lv_istore_n (lv' := [(2, .int 0), (0, .ref a0), (1, .int 1)]) hx hb dX9_extreme_25 rfl hl (by decide) rfl (fun ls hl => ?_)
  refine lv_aload_n hx hb dX9_extreme_26 rfl (lv_at hl 1 rfl) ?_
  refine lv_aload_n hx hb dX9_extreme_27 rfl (lv_at hl 1 rfl) ?_
  refine gf (k := 34) hx hb hts inX9 hown hK hP k_829 rfl (by decide) rfl 3 rfl (.ref a4) rfl dX9_extreme_28 ?_
  refine lv_iconst (v := 0) hx hb dX9_extreme_31 (by decide) ?_
  refine kV_l (q0 := 0) ⟨hx, hb, hml, hown, hts⟩ hK hP hD hS hA hX cv_RX9_220 [3, 0, 2, 1] [4, 5, 6] (wr := [(a1, .inl (cI, 4, .inl (tb [0, 0, 0, 0]))), (a3, .inl (cI, 4, .inl (tb [10]))), (a2, .inl (cI, 4, .inl (tb [10, 10, 10, 10])))]) rfl rfl rfl rfl (by decide) (c565_X9_costOf l dC dI cI cJ cII cJJ H.size 0 a0 a5 a4 a6 a7 a8 a1 a2 a9 a10 a11 a12 a13 a14 a15 a16 a17 a18 a19 a20 a21 a22 a23 a24 a25 a26 a27 a3) ⟨by decide +kernel, by decide +kernel⟩ rfl rfl (Or.inl rfl) (rest := []) rfl rfl rfl hl.1 rfl (Nat.le_of_ble_eq_true rfl) dX9_extreme_32 ⟨Nat.le_of_ble_eq_true rfl, Nat.le_of_ble_eq_true rfl⟩ (W' := [(a1, .inl (cI, 4, .inl (tb [0, 0, 0, 0]))), (a3, .inl (cI, 4, .inl (tb [10]))), (a2, .inl (cI, 4, .inl (tb [10, 10, 10, 10]))), (a0, .inr (9, [.ref a7, .ref a8, .ref a1, .ref a2, .ref a5, .ref a6, .ref a9, .ref a10, .ref a11, .ref a12, .ref a13, .ref a14, .int 1, .int 0, .int 0, .ref a15, .ref a16, .ref a17, .ref a18, .ref a19, .ref a20, .int 0, .int 0, .ref a21, .ref a22, .ref a23, .ref a24, .int 0, .int 0, .ref a25, .ref a26, .ref a27, .ref a3, .int 1, .ref a4, .int 11])), (a5, .inl (cI, 4, .inl (tb [0, 0, 0, 0]))), (a4, .inl (cI, 777924, .inl (tb [0, 0, 0, 0, 1, 0, 0, 0, 2, 0, 0, 0, 3, 0, 0, 0, 4, 0, 0, 0, 5, 0, 0, 0, 6, 0, 0, 0, 7, 0, 0, 0, 8, 0, 0, 0, 9, 0, 0, 0, 10]))), (a6, .inl (cI, 4, .inl (tb [0, 0, 0, 0])))]) rfl (fun H locs hP hD hS => ?_)
  refine lv_lstore_n (lv' := [(3, .long 0), (2, .int 0), (0, .ref a0), (1, .int 1)]) hx hb dX9_extreme_35 rfl hl (by decide) rfl (fun ls hl => ?_)
  refine lv_iconst (v := 1) hx hb dX9_extreme_36 (by decide) ?_
  refine lv_istore (lv' := [(5, .int 1), (3, .long 0), (2, .int 0), (0, .ref a0), (1, .int 1)]) hx hb dX9_extreme_37 hl (by decide) rfl (fun ls hl => ?_)
  refine lv_iload hx hb dX9_extreme_39 (lv_at hl 0 rfl) ?_
  refine lv_aload_n hx hb dX9_extreme_41 rfl (lv_at hl 3 rfl) ?_
  refine gf (k := 35) hx hb hts inX9 hown hK hP k_830 rfl (by decide) rfl 3 rfl (.int 11) rfl dX9_extreme_42 ?_
  refine f_icmp_ge hx hb dX9_extreme_45 98 (by decide) (by decide +kernel) ?_
  refine lv_aload_n hx hb dX9_extreme_48 rfl (lv_at hl 3 rfl) ?_
  refine lv_aload_n hx hb dX9_extreme_49 rfl (lv_at hl 3 rfl) ?_
  refine gf (k := 34) hx hb hts inX9 hown hK hP k_829 rfl (by decide) rfl 3 rfl (.ref a4) rfl dX9_extreme_50 ?_
  refine lv_iconst (v := 4) hx hb dX9_extreme_53 (by decide) ?_
  refine lv_iload hx hb dX9_extreme_54 (lv_at hl 0 rfl) ?_
  refine v_imul hx hb dX9_extreme_56 4 (by decide +kernel) ?_
  refine kV_l (q0 := 0) ⟨hx, hb, hml, hown, hts⟩ hK hP hD hS hA hX cv_RX9_220 [3, 4, 5, 6] [0, 1, 2] (wr := [(a1, .inl (cI, 4, .inl (tb [0, 0, 0, 0]))), (a3, .inl (cI, 4, .inl (tb [10]))), (a2, .inl (cI, 4, .inl (tb [10, 10, 10, 10])))]) rfl rfl rfl rfl (by decide) (c566_X9_costOf l dC dI cI cJ cII cJJ H.size 0 a0 a5 a4 a6 a7 a8 a1 a2 a9 a10 a11 a12 a13 a14 a15 a16 a17 a18 a19 a20 a21 a22 a23 a24 a25 a26 a27 a3) ⟨by decide +kernel, by decide +kernel⟩ rfl rfl (Or.inl rfl) (rest := []) rfl rfl rfl hl.1 rfl (Nat.le_of_ble_eq_true rfl) dX9_extreme_57 ⟨Nat.le_of_ble_eq_true rfl, Nat.le_of_ble_eq_true rfl⟩ (W' := [(a1, .inl (cI, 4, .inl (tb [0, 0, 0, 0]))), (a3, .inl (cI, 4, .inl (tb [10]))), (a2, .inl (cI, 4, .inl (tb [10, 10, 10, 10]))), (a0, .inr (9, [.ref a7, .ref a8, .ref a1, .ref a2, .ref a5, .ref a6, .ref a9, .ref a10, .ref a11, .ref a12, .ref a13, .ref a14, .int 1, .int 0, .int 0, .ref a15, .ref a16, .ref a17, .ref a18, .ref a19, .ref a20, .int 0, .int 0, .ref a21, .ref a22, .ref a23, .ref a24, .int 0, .int 0, .ref a25, .ref a26, .ref a27, .ref a3, .int 1, .ref a4, .int 11])), (a5, .inl (cI, 4, .inl (tb [0, 0, 0, 0]))), (a4, .inl (cI, 777924, .inl (tb [0, 0, 0, 0, 1, 0, 0, 0, 2, 0, 0, 0, 3, 0, 0, 0, 4, 0, 0, 0, 5, 0, 0, 0, 6, 0, 0, 0, 7, 0, 0, 0, 8, 0, 0, 0, 9, 0, 0, 0, 10]))), (a6, .inl (cI, 4, .inl (tb [0, 0, 0, 0])))]) rfl (fun H locs hP hD hS => ?_)
  refine lv_lstore (lv' := [(6, .long 0), (5, .int 1), (3, .long 0), (2, .int 0), (0, .ref a0), (1, .int 1)]) hx hb dX9_extreme_60 hl (by decide) rfl (fun ls hl => ?_)
  refine lv_iload_n hx hb dX9_extreme_62 rfl (lv_at hl 5 rfl) ?_
  refine t_if_ne hx hb dX9_extreme_63 76 (by decide) (by decide +kernel) ?_
  refine lv_lload hx hb dX9_extreme_76 (lv_at hl 0 rfl) ?_
  refine lv_lload_n hx hb dX9_extreme_78 rfl (lv_at hl 2 rfl) ?_
  refine v_lcmp hx hb dX9_extreme_79 0 (by decide +kernel) ?_
  refine f_if_gt hx hb dX9_extreme_80 86 (by decide) (by decide +kernel) ?_
  refine lv_goto (tgt := 92) hx hb dX9_extreme_83 (by decide) ?_
  refine lv_iinc (v := 2) (lv' := [(5, .int 2), (6, .long 0), (3, .long 0), (2, .int 0), (0, .ref a0), (1, .int 1)]) hx hb dX9_extreme_92 hl (k := 1) rfl (by decide +kernel) (by decide) rfl (fun ls hl => ?_)
  refine lv_goto (tgt := 39) hx hb dX9_extreme_95 (by decide) ?_
  refine lv_iload hx hb dX9_extreme_39 (lv_at hl 0 rfl) ?_
  refine lv_aload_n hx hb dX9_extreme_41 rfl (lv_at hl 4 rfl) ?_
  refine gf (k := 35) hx hb hts inX9 hown hK hP k_830 rfl (by decide) rfl 3 rfl (.int 11) rfl dX9_extreme_42 ?_
  refine f_icmp_ge hx hb dX9_extreme_45 98 (by decide) (by decide +kernel) ?_
  refine lv_aload_n hx hb dX9_extreme_48 rfl (lv_at hl 4 rfl) ?_
  refine lv_aload_n hx hb dX9_extreme_49 rfl (lv_at hl 4 rfl) ?_
  refine gf (k := 34) hx hb hts inX9 hown hK hP k_829 rfl (by decide) rfl 3 rfl (.ref a4) rfl dX9_extreme_50 ?_
  refine lv_iconst (v := 4) hx hb dX9_extreme_53 (by decide) ?_
  refine lv_iload hx hb dX9_extreme_54 (lv_at hl 0 rfl) ?_
  refine v_imul hx hb dX9_extreme_56 8 (by decide +kernel) ?_
  refine kV_l (q0 := 0) ⟨hx, hb, hml, hown, hts⟩ hK hP hD hS hA hX cv_RX9_220 [3, 4, 5, 6] [0, 1, 2] (wr := [(a1, .inl (cI, 4, .inl (tb [0, 0, 0, 0]))), (a3, .inl (cI, 4, .inl (tb [10]))), (a2, .inl (cI, 4, .inl (tb [10, 10, 10, 10])))]) rfl rfl rfl rfl (by decide) (c567_X9_costOf l dC dI cI cJ cII cJJ H.size 0 a0 a5 a4 a6 a7 a8 a1 a2 a9 a10 a11 a12 a13 a14 a15 a16 a17 a18 a19 a20 a21 a22 a23 a24 a25 a26 a27 a3) ⟨by decide +kernel, by decide +kernel⟩ rfl rfl (Or.inl rfl) (rest := []) rfl rfl rfl hl.1 rfl (Nat.le_of_ble_eq_true rfl) dX9_extreme_57 ⟨Nat.le_of_ble_eq_true rfl, Nat.le_of_ble_eq_true rfl⟩ (W' := [(a1, .inl (cI, 4, .inl (tb [0, 0, 0, 0]))), (a3, .inl (cI, 4, .inl (tb [10]))), (a2, .inl (cI, 4, .inl (tb [10, 10, 10, 10]))), (a0, .inr (9, [.ref a7, .ref a8, .ref a1, .ref a2, .ref a5, .ref a6, .ref a9, .ref a10, .ref a11, .ref a12, .ref a13, .ref a14, .int 1, .int 0, .int 0, .ref a15, .ref a16, .ref a17, .ref a18, .ref a19, .ref a20, .int 0, .int 0, .ref a21, .ref a22, .ref a23, .ref a24, .int 0, .int 0, .ref a25, .ref a26, .ref a27, .ref a3, .int 1, .ref a4, .int 11])), (a5, .inl (cI, 4, .inl (tb [0, 0, 0, 0]))), (a4, .inl (cI, 777924, .inl (tb [0, 0, 0, 0, 1, 0, 0, 0, 2, 0, 0, 0, 3, 0, 0, 0, 4, 0, 0, 0, 5, 0, 0, 0, 6, 0, 0, 0, 7, 0, 0, 0, 8, 0, 0, 0, 9, 0, 0, 0, 10]))), (a6, .inl (cI, 4, .inl (tb [0, 0, 0, 0])))]) rfl (fun H locs hP hD hS => ?_)
  refine lv_lstore (lv' := [(6, .long 0), (5, .int 2), (3, .long 0), (2, .int 0), (0, .ref a0), (1, .int 1)]) hx hb dX9_extreme_60 hl (by decide) rfl (fun ls hl => ?_)
  refine lv_iload_n hx hb dX9_extreme_62 rfl (lv_at hl 5 rfl) ?_
  refine t_if_ne hx hb dX9_extreme_63 76 (by decide) (by decide +kernel) ?_
  refine lv_lload hx hb dX9_extreme_76 (lv_at hl 0 rfl) ?_
  refine lv_lload_n hx hb dX9_extreme_78 rfl (lv_at hl 2 rfl) ?_
  refine v_lcmp hx hb dX9_extreme_79 0 (by decide +kernel) ?_
  refine f_if_gt hx hb dX9_extreme_80 86 (by decide) (by decide +kernel) ?_
  refine lv_goto (tgt := 92) hx hb dX9_extreme_83 (by decide) ?_
  refine lv_iinc (v := 3) (lv' := [(5, .int 3), (6, .long 0), (3, .long 0), (2, .int 0), (0, .ref a0), (1, .int 1)]) hx hb dX9_extreme_92 hl (k := 1) rfl (by decide +kernel) (by decide) rfl (fun ls hl => ?_)
  refine lv_goto (tgt := 39) hx hb dX9_extreme_95 (by decide) ?_
  refine lv_iload hx hb dX9_extreme_39 (lv_at hl 0 rfl) ?_
  refine lv_aload_n hx hb dX9_extreme_41 rfl (lv_at hl 4 rfl) ?_
  refine gf (k := 35) hx hb hts inX9 hown hK hP k_830 rfl (by decide) rfl 3 rfl (.int 11) rfl dX9_extreme_42 ?_
  refine f_icmp_ge hx hb dX9_extreme_45 98 (by decide) (by decide +kernel) ?_
  refine lv_aload_n hx hb dX9_extreme_48 rfl (lv_at hl 4 rfl) ?_
  refine lv_aload_n hx hb dX9_extreme_49 rfl (lv_at hl 4 rfl) ?_
  refine gf (k := 34) hx hb hts inX9 hown hK hP k_829 rfl (by decide) rfl 3 rfl (.ref a4) rfl dX9_extreme_50 ?_
  refine lv_iconst (v := 4) hx hb dX9_extreme_53 (by decide) ?_
  refine lv_iload hx hb dX9_extreme_54 (lv_at hl 0 rfl) ?_
  refine v_imul hx hb dX9_extreme_56 12 (by decide +kernel) ?_
  refine kV_l (q0 := 0) ⟨hx, hb, hml, hown, hts⟩ hK hP hD hS hA hX cv_RX9_220 [3, 4, 5, 6] [0, 1, 2] (wr := [(a1, .inl (cI, 4, .inl (tb [0, 0, 0, 0]))), (a3, .inl (cI, 4, .inl (tb [10]))), (a2, .inl (cI, 4, .inl (tb [10, 10, 10, 10])))]) rfl rfl rfl rfl (by decide) (c568_X9_costOf l dC dI cI cJ cII cJJ H.size 0 a0 a5 a4 a6 a7 a8 a1 a2 a9 a10 a11 a12 a13 a14 a15 a16 a17 a18 a19 a20 a21 a22 a23 a24 a25 a26 a27 a3) ⟨by decide +kernel, by decide +kernel⟩ rfl rfl (Or.inl rfl) (rest := []) rfl rfl rfl hl.1 rfl (Nat.le_of_ble_eq_true rfl) dX9_extreme_57 ⟨Nat.le_of_ble_eq_true rfl, Nat.le_of_ble_eq_true rfl⟩ (W' := [(a1, .inl (cI, 4, .inl (tb [0, 0, 0, 0]))), (a3, .inl (cI, 4, .inl (tb [10]))), (a2, .inl (cI, 4, .inl (tb [10, 10, 10, 10]))), (a0, .inr (9, [.ref a7, .ref a8, .ref a1, .ref a2, .ref a5, .ref a6, .ref a9, .ref a10, .ref a11, .ref a12, .ref a13, .ref a14, .int 1, .int 0, .int 0, .ref a15, .ref a16, .ref a17, .ref a18, .ref a19, .ref a20, .int 0, .int 0, .ref a21, .ref a22, .ref a23, .ref a24, .int 0, .int 0, .ref a25, .ref a26, .ref a27, .ref a3, .int 1, .ref a4, .int 11])), (a5, .inl (cI, 4, .inl (tb [0, 0, 0, 0]))), (a4, .inl (cI, 777924, .inl (tb [0, 0, 0, 0, 1, 0, 0, 0, 2, 0, 0, 0, 3, 0, 0, 0, 4, 0, 0, 0, 5, 0, 0, 0, 6, 0, 0, 0, 7, 0, 0, 0, 8, 0, 0, 0, 9, 0, 0, 0, 10]))), (a6, .inl (cI, 4, .inl (tb [0, 0, 0, 0])))]) rfl (fun H locs hP hD hS => ?_)
  refine lv_lstore (lv' := [(6, .long 0), (5, .int 3), (3, .long 0), (2, .int 0), (0, .ref a0), (1, .int 1)]) hx hb dX9_extreme_60 hl (by decide) rfl (fun ls hl => ?_)
  refine lv_iload_n hx hb dX9_extreme_62 rfl (lv_at hl 5 rfl) ?_
  refine t_if_ne hx hb dX9_extreme_63 76 (by decide) (by decide +kernel) ?_
  refine lv_lload hx hb dX9_extreme_76 (lv_at hl 0 rfl) ?_
  refine lv_lload_n hx hb dX9_extreme_78 rfl (lv_at hl 2 rfl) ?_
  refine v_lcmp hx hb dX9_extreme_79 0 (by decide +kernel) ?_
  refine f_if_gt hx hb dX9_extreme_80 86 (by decide) (by decide +kernel) ?_
  refine lv_goto (tgt := 92) hx hb dX9_extreme_83 (by decide) ?_
  refine lv_iinc (v := 4) (lv' := [(5, .int 4), (6, .long 0), (3, .long 0), (2, .int 0), (0, .ref a0), (1, .int 1)]) hx hb dX9_extreme_92 hl (k := 1) rfl (by decide +kernel) (by decide) rfl (fun ls hl => ?_)
  refine lv_goto (tgt := 39) hx hb dX9_extreme_95 (by decide) ?_
  refine lv_iload hx hb dX9_extreme_39 (lv_at hl 0 rfl) ?_
  refine lv_aload_n hx hb dX9_extreme_41 rfl (lv_at hl 4 rfl) ?_
  refine gf (k := 35) hx hb hts inX9 hown hK hP k_830 rfl (by decide) rfl 3 rfl (.int 11) rfl dX9_extreme_42 ?_
  refine f_icmp_ge hx hb dX9_extreme_45 98 (by decide) (by decide +kernel) ?_
  refine lv_aload_n hx hb dX9_extreme_48 rfl (lv_at hl 4 rfl) ?_
  refine lv_aload_n hx hb dX9_extreme_49 rfl (lv_at hl 4 rfl) ?_
  refine gf (k := 34) hx hb hts inX9 hown hK hP k_829 rfl (by decide) rfl 3 rfl (.ref a4) rfl dX9_extreme_50 ?_
  refine lv_iconst (v := 4) hx hb dX9_extreme_53 (by decide) ?_
  refine lv_iload hx hb dX9_extreme_54 (lv_at hl 0 rfl) ?_
  refine v_imul hx hb dX9_extreme_56 16 (by decide +kernel) ?_
  refine kV_l (q0 := 0) ⟨hx, hb, hml, hown, hts⟩ hK hP hD hS hA hX cv_RX9_220 [3, 4, 5, 6] [0, 1, 2] (wr := [(a1, .inl (cI, 4, .inl (tb [0, 0, 0, 0]))), (a3, .inl (cI, 4, .inl (tb [10]))), (a2, .inl (cI, 4, .inl (tb [10, 10, 10, 10])))]) rfl rfl rfl rfl (by decide) (c569_X9_costOf l dC dI cI cJ cII cJJ H.size 0 a0 a5 a4 a6 a7 a8 a1 a2 a9 a10 a11 a12 a13 a14 a15 a16 a17 a18 a19 a20 a21 a22 a23 a24 a25 a26 a27 a3) ⟨by decide +kernel, by decide +kernel⟩ rfl rfl (Or.inl rfl) (rest := []) rfl rfl rfl hl.1 rfl (Nat.le_of_ble_eq_true rfl) dX9_extreme_57 ⟨Nat.le_of_ble_eq_true rfl, Nat.le_of_ble_eq_true rfl⟩ (W' := [(a1, .inl (cI, 4, .inl (tb [0, 0, 0, 0]))), (a3, .inl (cI, 4, .inl (tb [10]))), (a2, .inl (cI, 4, .inl (tb [10, 10, 10, 10]))), (a0, .inr (9, [.ref a7, .ref a8, .ref a1, .ref a2, .ref a5, .ref a6, .ref a9, .ref a10, .ref a11, .ref a12, .ref a13, .ref a14, .int 1, .int 0, .int 0, .ref a15, .ref a16, .ref a17, .ref a18, .ref a19, .ref a20, .int 0, .int 0, .ref a21, .ref a22, .ref a23, .ref a24, .int 0, .int 0, .ref a25, .ref a26, .ref a27, .ref a3, .int 1, .ref a4, .int 11])), (a5, .inl (cI, 4, .inl (tb [0, 0, 0, 0]))), (a4, .inl (cI, 777924, .inl (tb [0, 0, 0, 0, 1, 0, 0, 0, 2, 0, 0, 0, 3, 0, 0, 0, 4, 0, 0, 0, 5, 0, 0, 0, 6, 0, 0, 0, 7, 0, 0, 0, 8, 0, 0, 0, 9, 0, 0, 0, 10]))), (a6, .inl (cI, 4, .inl (tb [0, 0, 0, 0])))]) rfl (fun H locs hP hD hS => ?_)
  refine lv_lstore (lv' := [(6, .long 0), (5, .int 4), (3, .long 0), (2, .int 0), (0, .ref a0), (1, .int 1)]) hx hb dX9_extreme_60 hl (by decide) rfl (fun ls hl => ?_)
  refine lv_iload_n hx hb dX9_extreme_62 rfl (lv_at hl 5 rfl) ?_
  refine t_if_ne hx hb dX9_extreme_63 76 (by decide) (by decide +kernel) ?_
  refine lv_lload hx hb dX9_extreme_76 (lv_at hl 0 rfl) ?_
  refine lv_lload_n hx hb dX9_extreme_78 rfl (lv_at hl 2 rfl) ?_
  refine v_lcmp hx hb dX9_extreme_79 0 (by decide +kernel) ?_
  refine f_if_gt hx hb dX9_extreme_80 86 (by decide) (by decide +kernel) ?_
  refine lv_goto (tgt := 92) hx hb dX9_extreme_83 (by decide) ?_
  refine lv_iinc (v := 5) (lv' := [(5, .int 5), (6, .long 0), (3, .long 0), (2, .int 0), (0, .ref a0), (1, .int 1)]) hx hb dX9_extreme_92 hl (k := 1) rfl (by decide +kernel) (by decide) rfl (fun ls hl => ?_)
  refine lv_goto (tgt := 39) hx hb dX9_extreme_95 (by decide) ?_
  refine lv_iload hx hb dX9_extreme_39 (lv_at hl 0 rfl) ?_
  refine lv_aload_n hx hb dX9_extreme_41 rfl (lv_at hl 4 rfl) ?_
  refine gf (k := 35) hx hb hts inX9 hown hK hP k_830 rfl (by decide) rfl 3 rfl (.int 11) rfl dX9_extreme_42 ?_
  refine f_icmp_ge hx hb dX9_extreme_45 98 (by decide) (by decide +kernel) ?_
  refine lv_aload_n hx hb dX9_extreme_48 rfl (lv_at hl 4 rfl) ?_
  refine lv_aload_n hx hb dX9_extreme_49 rfl (lv_at hl 4 rfl) ?_
  refine gf (k := 34) hx hb hts inX9 hown hK hP k_829 rfl (by decide) rfl 3 rfl (.ref a4) rfl dX9_extreme_50 ?_
  exact c576_X9_extreme_s1 l dC dI cI cJ cII cJJ g a0 a1 a2 a3 a4 a5 a6 a7 a8 a9 a10 a11 a12 a13 a14 a15 a16 a17 a18 a19 a20 a21 a22 a23 a24 a25 a26 a27 hx hb hr hml hown hts hk hA hK hP hD hS hX hl
set_option maxRecDepth 100000 in
set_option maxHeartbeats 4000000 in
theorem c577_X9_near (l : Launch) (dC : Nat → ClassId) (dI : Nat → Nat → Nat) (cI cJ cII cJJ : ClassId) (sz g a0 a1 a2 a3 a4 a5 a6 a7 a8 a9 a10 a11 a12 a13 a14 a15 a16 a17 a18 a19 a20 a21 a22 a23 a24 a25 a26 a27 : Nat) (x0 : Int32) (h_x0 : -2147483648 ≤ x0.toInt ∧ x0.toInt ≤ -1) : Met l yX9_near (.code yX9_near cX9_near 5 (some .int) :: TT) ({ frames := 6, cells := 0, slots := 0, locals := 320 }) (PcS dC dI (TY cI cJ cII cJJ) [.ref a0, .int x0] [(a0, .inr (9, [.ref a6, .ref a7, .ref a1, .ref a2, .ref a8, .ref a9, .ref a10, .ref a5, .ref a11, .ref a12, .ref a13, .ref a14, .int 1, .int 0, .int 0, .ref a15, .ref a16, .ref a17, .ref a18, .ref a19, .ref a20, .int 0, .int 0, .ref a21, .ref a22, .ref a23, .ref a24, .int 0, .int 0, .ref a25, .ref a26, .ref a27, .ref a3, .int 0, .ref a4, .int 0])), (a1, .inl (cI, 4, .inl (tb [0, 0, 0, 0]))), (a2, .inl (cI, 4, .inl (tb [10, 10, 10, 10]))), (a3, .inl (cI, 4, .inl (tb []))), (a4, .inl (cI, 777924, .inl (tb []))), (a5, .inl (cI, 8, .inl (tb [])))] sz 0 g) ((QcI dC dI (TY cI cJ cII cJJ) (-1) []) (va_A [(a0, .inr (9, [.ref a6, .ref a7, .ref a1, .ref a2, .ref a8, .ref a9, .ref a10, .ref a5, .ref a11, .ref a12, .ref a13, .ref a14, .int 1, .int 0, .int 0, .ref a15, .ref a16, .ref a17, .ref a18, .ref a19, .ref a20, .int 0, .int 0, .ref a21, .ref a22, .ref a23, .ref a24, .int 0, .int 0, .ref a25, .ref a26, .ref a27, .ref a3, .int 0, .ref a4, .int 0])), (a1, .inl (cI, 4, .inl (tb [0, 0, 0, 0]))), (a2, .inl (cI, 4, .inl (tb [10, 10, 10, 10]))), (a3, .inl (cI, 4, .inl (tb []))), (a4, .inl (cI, 777924, .inl (tb []))), (a5, .inl (cI, 8, .inl (tb [])))] sz)) 0 0 (va_A [(a0, .inr (9, [.ref a6, .ref a7, .ref a1, .ref a2, .ref a8, .ref a9, .ref a10, .ref a5, .ref a11, .ref a12, .ref a13, .ref a14, .int 1, .int 0, .int 0, .ref a15, .ref a16, .ref a17, .ref a18, .ref a19, .ref a20, .int 0, .int 0, .ref a21, .ref a22, .ref a23, .ref a24, .int 0, .int 0, .ref a25, .ref a26, .ref a27, .ref a3, .int 0, .ref a4, .int 0])), (a1, .inl (cI, 4, .inl (tb [0, 0, 0, 0]))), (a2, .inl (cI, 4, .inl (tb [10, 10, 10, 10]))), (a3, .inl (cI, 4, .inl (tb []))), (a4, .inl (cI, 777924, .inl (tb []))), (a5, .inl (cI, 8, .inl (tb [])))] sz) := by
  refine SM.of (y := yX9_near) (maxL := 5) (av := [.ref a0, .int x0]) (QcI dC dI (TY cI cJ cII cJJ) (-1) []) (by decide +kernel) (Nat.le_of_ble_eq_true rfl) (fun p e s m below meth c A ls hx hb hr hml hown hts hk hnm hA hK hP hD hS hX hl => ?_)
  have hown : s.vm.findClass RX9 = some m.cls := hown
  have hl : lv_has ls 5 [(0, .ref a0), (1, .int x0)] := hl
  refine lv_aload_n hx hb dX9_near_0 rfl (lv_at hl 0 rfl) ?_
  refine kV_v (q0 := 0) ⟨hx, hb, hml, hown, hts⟩ hK hP hD hS hA hX cv_RX9_238 [0, 1, 2, 3, 4] [5] (wr := [(a5, .inl (cI, 8, .inl (tb [])))]) rfl rfl rfl rfl (by decide) (c515_X9_gather l dC dI cI cJ cII cJJ s.heap.size 0 a0 a1 a2 a3 a4 a6 a7 a8 a9 a10 a5 a11 a12 a13 a14 a15 a16 a17 a18 a19 a20 a21 a22 a23 a24 a25 a26 a27) ⟨by decide +kernel, by decide +kernel⟩ rfl rfl (Or.inl rfl) (rest := []) rfl rfl rfl hl.1 rfl (Nat.le_of_ble_eq_true rfl) dX9_near_1 ⟨Nat.le_of_ble_eq_true rfl, Nat.le_of_ble_eq_true rfl⟩ (fun _ => rfl) (W' := [(a5, .inl (cI, 8, .inl (tb []))), (a4, .inl (cI, 777924, .inl (tb [0, 0, 0, 0, 1, 0, 0, 0, 2, 0, 0, 0, 3, 0, 0, 0, 4, 0, 0, 0, 5, 0, 0, 0, 6, 0, 0, 0, 7, 0, 0, 0, 8, 0, 0, 0, 9, 0, 0, 0, 10]))), (a0, .inr (9, [.ref a6, .ref a7, .ref a1, .ref a2, .ref a8, .ref a9, .ref a10, .ref a5, .ref a11, .ref a12, .ref a13, .ref a14, .int 1, .int 0, .int 0, .ref a15, .ref a16, .ref a17, .ref a18, .ref a19, .ref a20, .int 0, .int 0, .ref a21, .ref a22, .ref a23, .ref a24, .int 0, .int 0, .ref a25, .ref a26, .ref a27, .ref a3, .int 1, .ref a4, .int 11])), (a1, .inl (cI, 4, .inl (tb [0, 0, 0, 0]))), (a3, .inl (cI, 4, .inl (tb [10]))), (a2, .inl (cI, 4, .inl (tb [10, 10, 10, 10])))]) rfl (fun H locs hP hD hS => ?_)
  refine lv_iload_n hx hb dX9_near_4 rfl (lv_at hl 1 rfl) ?_
  refine lv_aload_n hx hb dX9_near_5 rfl (lv_at hl 0 rfl) ?_
  refine gf (k := 35) hx hb hts inX9 hown hK hP k_830 rfl (by decide) rfl 2 rfl (.int 11) rfl dX9_near_6 ?_
  refine kS_i ⟨hx, hb, hml, hown, hts⟩ hK hP hD hS hA hX cs_RX9_116 [] [0, 1, 2, 3, 4, 5] (wr := [(a5, .inl (cI, 8, .inl (tb []))), (a4, .inl (cI, 777924, .inl (tb [0, 0, 0, 0, 1, 0, 0, 0, 2, 0, 0, 0, 3, 0, 0, 0, 4, 0, 0, 0, 5, 0, 0, 0, 6, 0, 0, 0, 7, 0, 0, 0, 8, 0, 0, 0, 9, 0, 0, 0, 10]))), (a0, .inr (9, [.ref a6, .ref a7, .ref a1, .ref a2, .ref a8, .ref a9, .ref a10, .ref a5, .ref a11, .ref a12, .ref a13, .ref a14, .int 1, .int 0, .int 0, .ref a15, .ref a16, .ref a17, .ref a18, .ref a19, .ref a20, .int 0, .int 0, .ref a21, .ref a22, .ref a23, .ref a24, .int 0, .int 0, .ref a25, .ref a26, .ref a27, .ref a3, .int 1, .ref a4, .int 11])), (a1, .inl (cI, 4, .inl (tb [0, 0, 0, 0]))), (a3, .inl (cI, 4, .inl (tb [10]))), (a2, .inl (cI, 4, .inl (tb [10, 10, 10, 10])))]) rfl rfl rfl rfl (by decide) (c540_X9_isIn l dC dI cI cJ cII cJJ H.size 0 x0 h_x0) ⟨by decide +kernel, by decide +kernel⟩ rfl rfl (Or.inl rfl) (rest := []) rfl hl.1 rfl (Nat.le_of_ble_eq_true rfl) dX9_near_9 ⟨Nat.le_of_ble_eq_true rfl, Nat.le_of_ble_eq_true rfl⟩ (W' := [(a5, .inl (cI, 8, .inl (tb []))), (a4, .inl (cI, 777924, .inl (tb [0, 0, 0, 0, 1, 0, 0, 0, 2, 0, 0, 0, 3, 0, 0, 0, 4, 0, 0, 0, 5, 0, 0, 0, 6, 0, 0, 0, 7, 0, 0, 0, 8, 0, 0, 0, 9, 0, 0, 0, 10]))), (a0, .inr (9, [.ref a6, .ref a7, .ref a1, .ref a2, .ref a8, .ref a9, .ref a10, .ref a5, .ref a11, .ref a12, .ref a13, .ref a14, .int 1, .int 0, .int 0, .ref a15, .ref a16, .ref a17, .ref a18, .ref a19, .ref a20, .int 0, .int 0, .ref a21, .ref a22, .ref a23, .ref a24, .int 0, .int 0, .ref a25, .ref a26, .ref a27, .ref a3, .int 1, .ref a4, .int 11])), (a1, .inl (cI, 4, .inl (tb [0, 0, 0, 0]))), (a3, .inl (cI, 4, .inl (tb [10]))), (a2, .inl (cI, 4, .inl (tb [10, 10, 10, 10])))]) rfl (fun H locs hP hD hS => ?_)
  refine f_if_ne hx hb dX9_near_12 21 (by decide) (by decide +kernel) ?_
  refine lv_aload_n hx hb dX9_near_15 rfl (lv_at hl 0 rfl) ?_
  refine lv_iconst (v := (-1)) hx hb dX9_near_16 (by decide) ?_
  refine kV_i (q0 := 0) ⟨hx, hb, hml, hown, hts⟩ hK hP hD hS hA hX cv_RX9_112 [2, 0] [1, 3, 4, 5] (wr := [(a4, .inl (cI, 777924, .inl (tb [0, 0, 0, 0, 1, 0, 0, 0, 2, 0, 0, 0, 3, 0, 0, 0, 4, 0, 0, 0, 5, 0, 0, 0, 6, 0, 0, 0, 7, 0, 0, 0, 8, 0, 0, 0, 9, 0, 0, 0, 10]))), (a1, .inl (cI, 4, .inl (tb [0, 0, 0, 0]))), (a3, .inl (cI, 4, .inl (tb [10]))), (a2, .inl (cI, 4, .inl (tb [10, 10, 10, 10])))]) rfl rfl rfl rfl (by decide) (c548_X9_refuse l dC dI cI cJ cII cJJ H.size 0 a0 a5 a6 a7 a1 a2 a8 a9 a10 a11 a12 a13 a14 a15 a16 a17 a18 a19 a20 a21 a22 a23 a24 a25 a26 a27 a3 a4) ⟨by decide +kernel, by decide +kernel⟩ rfl rfl (Or.inl rfl) (rest := []) rfl rfl rfl hl.1 rfl (Nat.le_of_ble_eq_true rfl) dX9_near_17 ⟨Nat.le_of_ble_eq_true rfl, Nat.le_of_ble_eq_true rfl⟩ (W' := [(a4, .inl (cI, 777924, .inl (tb [0, 0, 0, 0, 1, 0, 0, 0, 2, 0, 0, 0, 3, 0, 0, 0, 4, 0, 0, 0, 5, 0, 0, 0, 6, 0, 0, 0, 7, 0, 0, 0, 8, 0, 0, 0, 9, 0, 0, 0, 10]))), (a1, .inl (cI, 4, .inl (tb [0, 0, 0, 0]))), (a3, .inl (cI, 4, .inl (tb [10]))), (a2, .inl (cI, 4, .inl (tb [10, 10, 10, 10]))), (a0, .inr (9, [.ref a6, .ref a7, .ref a1, .ref a2, .ref a8, .ref a9, .ref a10, .ref a5, .ref a11, .ref a12, .ref a13, .ref a14, .int 1, .int 0, .int 0, .ref a15, .ref a16, .ref a17, .ref a18, .ref a19, .ref a20, .int 0, .int 0, .ref a21, .ref a22, .ref a23, .ref a24, .int 0, .int 0, .ref a25, .ref a26, .ref a27, .ref a3, .int 1, .ref a4, .int 11])), (a5, .inl (cI, 8, .inl (tb [0, 1])))]) rfl (fun H locs hP hD hS => ?_)
  exact r_i hx hb hr hk hK (hP.sub [] rfl) (hD.sub [] rfl rfl) hS dX9_near_20
set_option maxRecDepth 100000 in
set_option maxHeartbeats 4000000 in
theorem c578_X9_near (l : Launch) (dC : Nat → ClassId) (dI : Nat → Nat → Nat) (cI cJ cII cJJ : ClassId) (sz g a0 a1 a2 a3 a4 a5 a6 a7 a8 a9 a10 a11 a12 a13 a14 a15 a16 a17 a18 a19 a20 a21 a22 a23 a24 a25 a26 a27 : Nat) (x0 : Int32) (h_x0 : 11 ≤ x0.toInt ∧ x0.toInt ≤ 2147483647) : Met l yX9_near (.code yX9_near cX9_near 5 (some .int) :: TT) ({ frames := 6, cells := 0, slots := 0, locals := 320 }) (PcS dC dI (TY cI cJ cII cJJ) [.ref a0, .int x0] [(a0, .inr (9, [.ref a6, .ref a7, .ref a1, .ref a2, .ref a8, .ref a9, .ref a10, .ref a5, .ref a11, .ref a12, .ref a13, .ref a14, .int 1, .int 0, .int 0, .ref a15, .ref a16, .ref a17, .ref a18, .ref a19, .ref a20, .int 0, .int 0, .ref a21, .ref a22, .ref a23, .ref a24, .int 0, .int 0, .ref a25, .ref a26, .ref a27, .ref a3, .int 0, .ref a4, .int 0])), (a1, .inl (cI, 4, .inl (tb [0, 0, 0, 0]))), (a2, .inl (cI, 4, .inl (tb [10, 10, 10, 10]))), (a3, .inl (cI, 4, .inl (tb []))), (a4, .inl (cI, 777924, .inl (tb []))), (a5, .inl (cI, 8, .inl (tb [])))] sz 0 g) ((QcI dC dI (TY cI cJ cII cJJ) (-1) []) (va_A [(a0, .inr (9, [.ref a6, .ref a7, .ref a1, .ref a2, .ref a8, .ref a9, .ref a10, .ref a5, .ref a11, .ref a12, .ref a13, .ref a14, .int 1, .int 0, .int 0, .ref a15, .ref a16, .ref a17, .ref a18, .ref a19, .ref a20, .int 0, .int 0, .ref a21, .ref a22, .ref a23, .ref a24, .int 0, .int 0, .ref a25, .ref a26, .ref a27, .ref a3, .int 0, .ref a4, .int 0])), (a1, .inl (cI, 4, .inl (tb [0, 0, 0, 0]))), (a2, .inl (cI, 4, .inl (tb [10, 10, 10, 10]))), (a3, .inl (cI, 4, .inl (tb []))), (a4, .inl (cI, 777924, .inl (tb []))), (a5, .inl (cI, 8, .inl (tb [])))] sz)) 0 0 (va_A [(a0, .inr (9, [.ref a6, .ref a7, .ref a1, .ref a2, .ref a8, .ref a9, .ref a10, .ref a5, .ref a11, .ref a12, .ref a13, .ref a14, .int 1, .int 0, .int 0, .ref a15, .ref a16, .ref a17, .ref a18, .ref a19, .ref a20, .int 0, .int 0, .ref a21, .ref a22, .ref a23, .ref a24, .int 0, .int 0, .ref a25, .ref a26, .ref a27, .ref a3, .int 0, .ref a4, .int 0])), (a1, .inl (cI, 4, .inl (tb [0, 0, 0, 0]))), (a2, .inl (cI, 4, .inl (tb [10, 10, 10, 10]))), (a3, .inl (cI, 4, .inl (tb []))), (a4, .inl (cI, 777924, .inl (tb []))), (a5, .inl (cI, 8, .inl (tb [])))] sz) := by
  refine SM.of (y := yX9_near) (maxL := 5) (av := [.ref a0, .int x0]) (QcI dC dI (TY cI cJ cII cJJ) (-1) []) (by decide +kernel) (Nat.le_of_ble_eq_true rfl) (fun p e s m below meth c A ls hx hb hr hml hown hts hk hnm hA hK hP hD hS hX hl => ?_)
  have hown : s.vm.findClass RX9 = some m.cls := hown
  have hl : lv_has ls 5 [(0, .ref a0), (1, .int x0)] := hl
  refine lv_aload_n hx hb dX9_near_0 rfl (lv_at hl 0 rfl) ?_
  refine kV_v (q0 := 0) ⟨hx, hb, hml, hown, hts⟩ hK hP hD hS hA hX cv_RX9_238 [0, 1, 2, 3, 4] [5] (wr := [(a5, .inl (cI, 8, .inl (tb [])))]) rfl rfl rfl rfl (by decide) (c515_X9_gather l dC dI cI cJ cII cJJ s.heap.size 0 a0 a1 a2 a3 a4 a6 a7 a8 a9 a10 a5 a11 a12 a13 a14 a15 a16 a17 a18 a19 a20 a21 a22 a23 a24 a25 a26 a27) ⟨by decide +kernel, by decide +kernel⟩ rfl rfl (Or.inl rfl) (rest := []) rfl rfl rfl hl.1 rfl (Nat.le_of_ble_eq_true rfl) dX9_near_1 ⟨Nat.le_of_ble_eq_true rfl, Nat.le_of_ble_eq_true rfl⟩ (fun _ => rfl) (W' := [(a5, .inl (cI, 8, .inl (tb []))), (a4, .inl (cI, 777924, .inl (tb [0, 0, 0, 0, 1, 0, 0, 0, 2, 0, 0, 0, 3, 0, 0, 0, 4, 0, 0, 0, 5, 0, 0, 0, 6, 0, 0, 0, 7, 0, 0, 0, 8, 0, 0, 0, 9, 0, 0, 0, 10]))), (a0, .inr (9, [.ref a6, .ref a7, .ref a1, .ref a2, .ref a8, .ref a9, .ref a10, .ref a5, .ref a11, .ref a12, .ref a13, .ref a14, .int 1, .int 0, .int 0, .ref a15, .ref a16, .ref a17, .ref a18, .ref a19, .ref a20, .int 0, .int 0, .ref a21, .ref a22, .ref a23, .ref a24, .int 0, .int 0, .ref a25, .ref a26, .ref a27, .ref a3, .int 1, .ref a4, .int 11])), (a1, .inl (cI, 4, .inl (tb [0, 0, 0, 0]))), (a3, .inl (cI, 4, .inl (tb [10]))), (a2, .inl (cI, 4, .inl (tb [10, 10, 10, 10])))]) rfl (fun H locs hP hD hS => ?_)
  refine lv_iload_n hx hb dX9_near_4 rfl (lv_at hl 1 rfl) ?_
  refine lv_aload_n hx hb dX9_near_5 rfl (lv_at hl 0 rfl) ?_
  refine gf (k := 35) hx hb hts inX9 hown hK hP k_830 rfl (by decide) rfl 2 rfl (.int 11) rfl dX9_near_6 ?_
  refine kS_i ⟨hx, hb, hml, hown, hts⟩ hK hP hD hS hA hX cs_RX9_116 [] [0, 1, 2, 3, 4, 5] (wr := [(a5, .inl (cI, 8, .inl (tb []))), (a4, .inl (cI, 777924, .inl (tb [0, 0, 0, 0, 1, 0, 0, 0, 2, 0, 0, 0, 3, 0, 0, 0, 4, 0, 0, 0, 5, 0, 0, 0, 6, 0, 0, 0, 7, 0, 0, 0, 8, 0, 0, 0, 9, 0, 0, 0, 10]))), (a0, .inr (9, [.ref a6, .ref a7, .ref a1, .ref a2, .ref a8, .ref a9, .ref a10, .ref a5, .ref a11, .ref a12, .ref a13, .ref a14, .int 1, .int 0, .int 0, .ref a15, .ref a16, .ref a17, .ref a18, .ref a19, .ref a20, .int 0, .int 0, .ref a21, .ref a22, .ref a23, .ref a24, .int 0, .int 0, .ref a25, .ref a26, .ref a27, .ref a3, .int 1, .ref a4, .int 11])), (a1, .inl (cI, 4, .inl (tb [0, 0, 0, 0]))), (a3, .inl (cI, 4, .inl (tb [10]))), (a2, .inl (cI, 4, .inl (tb [10, 10, 10, 10])))]) rfl rfl rfl rfl (by decide) (c542_X9_isIn l dC dI cI cJ cII cJJ H.size 0 x0 h_x0) ⟨by decide +kernel, by decide +kernel⟩ rfl rfl (Or.inl rfl) (rest := []) rfl hl.1 rfl (Nat.le_of_ble_eq_true rfl) dX9_near_9 ⟨Nat.le_of_ble_eq_true rfl, Nat.le_of_ble_eq_true rfl⟩ (W' := [(a5, .inl (cI, 8, .inl (tb []))), (a4, .inl (cI, 777924, .inl (tb [0, 0, 0, 0, 1, 0, 0, 0, 2, 0, 0, 0, 3, 0, 0, 0, 4, 0, 0, 0, 5, 0, 0, 0, 6, 0, 0, 0, 7, 0, 0, 0, 8, 0, 0, 0, 9, 0, 0, 0, 10]))), (a0, .inr (9, [.ref a6, .ref a7, .ref a1, .ref a2, .ref a8, .ref a9, .ref a10, .ref a5, .ref a11, .ref a12, .ref a13, .ref a14, .int 1, .int 0, .int 0, .ref a15, .ref a16, .ref a17, .ref a18, .ref a19, .ref a20, .int 0, .int 0, .ref a21, .ref a22, .ref a23, .ref a24, .int 0, .int 0, .ref a25, .ref a26, .ref a27, .ref a3, .int 1, .ref a4, .int 11])), (a1, .inl (cI, 4, .inl (tb [0, 0, 0, 0]))), (a3, .inl (cI, 4, .inl (tb [10]))), (a2, .inl (cI, 4, .inl (tb [10, 10, 10, 10])))]) rfl (fun H locs hP hD hS => ?_)
  refine f_if_ne hx hb dX9_near_12 21 (by decide) (by decide +kernel) ?_
  refine lv_aload_n hx hb dX9_near_15 rfl (lv_at hl 0 rfl) ?_
  refine lv_iconst (v := (-1)) hx hb dX9_near_16 (by decide) ?_
  refine kV_i (q0 := 0) ⟨hx, hb, hml, hown, hts⟩ hK hP hD hS hA hX cv_RX9_112 [2, 0] [1, 3, 4, 5] (wr := [(a4, .inl (cI, 777924, .inl (tb [0, 0, 0, 0, 1, 0, 0, 0, 2, 0, 0, 0, 3, 0, 0, 0, 4, 0, 0, 0, 5, 0, 0, 0, 6, 0, 0, 0, 7, 0, 0, 0, 8, 0, 0, 0, 9, 0, 0, 0, 10]))), (a1, .inl (cI, 4, .inl (tb [0, 0, 0, 0]))), (a3, .inl (cI, 4, .inl (tb [10]))), (a2, .inl (cI, 4, .inl (tb [10, 10, 10, 10])))]) rfl rfl rfl rfl (by decide) (c548_X9_refuse l dC dI cI cJ cII cJJ H.size 0 a0 a5 a6 a7 a1 a2 a8 a9 a10 a11 a12 a13 a14 a15 a16 a17 a18 a19 a20 a21 a22 a23 a24 a25 a26 a27 a3 a4) ⟨by decide +kernel, by decide +kernel⟩ rfl rfl (Or.inl rfl) (rest := []) rfl rfl rfl hl.1 rfl (Nat.le_of_ble_eq_true rfl) dX9_near_17 ⟨Nat.le_of_ble_eq_true rfl, Nat.le_of_ble_eq_true rfl⟩ (W' := [(a4, .inl (cI, 777924, .inl (tb [0, 0, 0, 0, 1, 0, 0, 0, 2, 0, 0, 0, 3, 0, 0, 0, 4, 0, 0, 0, 5, 0, 0, 0, 6, 0, 0, 0, 7, 0, 0, 0, 8, 0, 0, 0, 9, 0, 0, 0, 10]))), (a1, .inl (cI, 4, .inl (tb [0, 0, 0, 0]))), (a3, .inl (cI, 4, .inl (tb [10]))), (a2, .inl (cI, 4, .inl (tb [10, 10, 10, 10]))), (a0, .inr (9, [.ref a6, .ref a7, .ref a1, .ref a2, .ref a8, .ref a9, .ref a10, .ref a5, .ref a11, .ref a12, .ref a13, .ref a14, .int 1, .int 0, .int 0, .ref a15, .ref a16, .ref a17, .ref a18, .ref a19, .ref a20, .int 0, .int 0, .ref a21, .ref a22, .ref a23, .ref a24, .int 0, .int 0, .ref a25, .ref a26, .ref a27, .ref a3, .int 1, .ref a4, .int 11])), (a5, .inl (cI, 8, .inl (tb [0, 1])))]) rfl (fun H locs hP hD hS => ?_)
  exact r_i hx hb hr hk hK (hP.sub [] rfl) (hD.sub [] rfl rfl) hS dX9_near_20
