set_option maxRecDepth 100000 in
set_option maxHeartbeats 4000000 in
theorem c199_X3_costOfNumber (l : Launch) (dC : Nat → ClassId) (dI : Nat → Nat → Nat) (cI cJ cII cJJ : ClassId) (sz g a0 a1 a2 a3 a4 a5 a6 : Nat) : Met l yX3_costOfNumber (.code yX3_costOfNumber cX3_costOfNumber 3 (some .long) :: TT) ({ frames := 2, cells := 0, slots := 0, locals := 80 }) (PcS dC dI (TY cI cJ cII cJJ) [.ref a0, .int 0, .int 0] [(a0, .inr (3, [.int 1, .int 0, .ref a3, .ref a4, .ref a5, .ref a6, .ref a2, .ref a1])), (a1, .inl (cI, 4, .inl (tb [0, 0, 0, 0]))), (a2, .inl (cI, 4, .inl (tb [0, 0, 0, 0])))] sz 0 g) ((QcL dC dI (TY cI cJ cII cJJ) 0 [(a0, .inr (3, [.int 1, .int 0, .ref a3, .ref a4, .ref a5, .ref a6, .ref a2, .ref a1])), (a1, .inl (cI, 4, .inl (tb [0, 0, 0, 0]))), (a2, .inl (cI, 4, .inl (tb [0, 0, 0, 0])))]) (va_A [(a0, .inr (3, [.int 1, .int 0, .ref a3, .ref a4, .ref a5, .ref a6, .ref a2, .ref a1])), (a1, .inl (cI, 4, .inl (tb [0, 0, 0, 0]))), (a2, .inl (cI, 4, .inl (tb [0, 0, 0, 0])))] sz)) 0 0 (va_A [(a0, .inr (3, [.int 1, .int 0, .ref a3, .ref a4, .ref a5, .ref a6, .ref a2, .ref a1])), (a1, .inl (cI, 4, .inl (tb [0, 0, 0, 0]))), (a2, .inl (cI, 4, .inl (tb [0, 0, 0, 0])))] sz) := by
  refine SM.of (y := yX3_costOfNumber) (maxL := 3) (av := [.ref a0, .int 0, .int 0]) (QcL dC dI (TY cI cJ cII cJJ) 0 [(a0, .inr (3, [.int 1, .int 0, .ref a3, .ref a4, .ref a5, .ref a6, .ref a2, .ref a1])), (a1, .inl (cI, 4, .inl (tb [0, 0, 0, 0]))), (a2, .inl (cI, 4, .inl (tb [0, 0, 0, 0])))]) (by decide +kernel) (Nat.le_of_ble_eq_true rfl) (fun p e s m below meth c A ls hx hb hr hml hown hts hk hnm hA hK hP hD hS hX hl => ?_)
  have hown : s.vm.findClass RX3 = some m.cls := hown
  have hl : lv_has ls 3 [(0, .ref a0), (1, .int 0), (2, .int 0)] := hl
  refine lv_aload_n hx hb dX3_costOfNumber_0 rfl (lv_at hl 0 rfl) ?_
  refine gf (k := 7) hx hb hts inX3 hown hK hP k_67 rfl (by decide) rfl 0 rfl (.ref a1) rfl dX3_costOfNumber_1 ?_
  refine lv_iload_n hx hb dX3_costOfNumber_4 rfl (lv_at hl 1 rfl) ?_
  refine ld_i hx hb hK hP 1 rfl (vin (by decide +kernel)) dX3_costOfNumber_5 0 rfl ?_
  refine lv_i2l (v := 0) hx hb dX3_costOfNumber_6 (by decide +kernel) ?_
  refine lv_iload_n hx hb dX3_costOfNumber_7 rfl (lv_at hl 2 rfl) ?_
  refine lv_i2l (v := 0) hx hb dX3_costOfNumber_8 (by decide +kernel) ?_
  refine v_lmul hx hb dX3_costOfNumber_9 0 (by decide +kernel) ?_
  refine lv_aload_n hx hb dX3_costOfNumber_10 rfl (lv_at hl 0 rfl) ?_
  refine gf (k := 6) hx hb hts inX3 hown hK hP k_64 rfl (by decide) rfl 0 rfl (.ref a2) rfl dX3_costOfNumber_11 ?_
  refine lv_iload_n hx hb dX3_costOfNumber_14 rfl (lv_at hl 1 rfl) ?_
  refine ld_i hx hb hK hP 2 rfl (vin (by decide +kernel)) dX3_costOfNumber_15 0 rfl ?_
  refine lv_i2l (v := 0) hx hb dX3_costOfNumber_16 (by decide +kernel) ?_
  refine v_ladd hx hb dX3_costOfNumber_17 0 (by decide +kernel) ?_
  refine lv_iload_n hx hb dX3_costOfNumber_18 rfl (lv_at hl 2 rfl) ?_
  refine lv_i2l (v := 0) hx hb dX3_costOfNumber_19 (by decide +kernel) ?_
  refine v_lmul hx hb dX3_costOfNumber_20 0 (by decide +kernel) ?_
  exact r_l hx hb hr hk hK hP hD hS dX3_costOfNumber_21
set_option maxRecDepth 100000 in
set_option maxHeartbeats 4000000 in
theorem c198_X3_costOf (l : Launch) (dC : Nat → ClassId) (dI : Nat → Nat → Nat) (cI cJ cII cJJ : ClassId) (sz g a0 a1 a2 a3 a4 a5 a6 a7 : Nat) : Met l yX3_costOf (.code yX3_costOf cX3_costOf 5 (some .long) :: TT) ({ frames := 3, cells := 0, slots := 0, locals := 140 }) (PcS dC dI (TY cI cJ cII cJJ) [.ref a0, .ref a1] [(a0, .inr (3, [.int 1, .int 0, .ref a4, .ref a5, .ref a6, .ref a7, .ref a3, .ref a2])), (a1, .inl (cI, 4, .inl (tb []))), (a2, .inl (cI, 4, .inl (tb [0, 0, 0, 0]))), (a3, .inl (cI, 4, .inl (tb [0, 0, 0, 0])))] sz 0 g) ((QcL dC dI (TY cI cJ cII cJJ) 0 [(a1, .inl (cI, 4, .inl (tb []))), (a0, .inr (3, [.int 1, .int 0, .ref a4, .ref a5, .ref a6, .ref a7, .ref a3, .ref a2])), (a2, .inl (cI, 4, .inl (tb [0, 0, 0, 0]))), (a3, .inl (cI, 4, .inl (tb [0, 0, 0, 0])))]) (va_A [(a0, .inr (3, [.int 1, .int 0, .ref a4, .ref a5, .ref a6, .ref a7, .ref a3, .ref a2])), (a1, .inl (cI, 4, .inl (tb []))), (a2, .inl (cI, 4, .inl (tb [0, 0, 0, 0]))), (a3, .inl (cI, 4, .inl (tb [0, 0, 0, 0])))] sz)) 0 0 (va_A [(a0, .inr (3, [.int 1, .int 0, .ref a4, .ref a5, .ref a6, .ref a7, .ref a3, .ref a2])), (a1, .inl (cI, 4, .inl (tb []))), (a2, .inl (cI, 4, .inl (tb [0, 0, 0, 0]))), (a3, .inl (cI, 4, .inl (tb [0, 0, 0, 0])))] sz) := by
  refine SM.of (y := yX3_costOf) (maxL := 5) (av := [.ref a0, .ref a1]) (QcL dC dI (TY cI cJ cII cJJ) 0 [(a1, .inl (cI, 4, .inl (tb []))), (a0, .inr (3, [.int 1, .int 0, .ref a4, .ref a5, .ref a6, .ref a7, .ref a3, .ref a2])), (a2, .inl (cI, 4, .inl (tb [0, 0, 0, 0]))), (a3, .inl (cI, 4, .inl (tb [0, 0, 0, 0])))]) (by decide +kernel) (Nat.le_of_ble_eq_true rfl) (fun p e s m below meth c A ls hx hb hr hml hown hts hk hnm hA hK hP hD hS hX hl => ?_)
  have hown : s.vm.findClass RX3 = some m.cls := hown
  have hl : lv_has ls 5 [(0, .ref a0), (1, .ref a1)] := hl
  refine lv_lconst (v := 0) hx hb dX3_costOf_0 (by decide) ?_
  refine lv_lstore_n (lv' := [(2, .long 0), (0, .ref a0), (1, .ref a1)]) hx hb dX3_costOf_1 rfl hl (by decide) rfl (fun ls hl => ?_)
  refine lv_iconst (v := 0) hx hb dX3_costOf_2 (by decide) ?_
  refine lv_istore (lv' := [(4, .int 0), (2, .long 0), (0, .ref a0), (1, .ref a1)]) hx hb dX3_costOf_3 hl (by decide) rfl (fun ls hl => ?_)
  refine lv_iload hx hb dX3_costOf_5 (lv_at hl 0 rfl) ?_
  refine lv_aload_n hx hb dX3_costOf_7 rfl (lv_at hl 2 rfl) ?_
  refine gf (k := 0) hx hb hts inX3 hown hK hP k_37 rfl (by decide) rfl 0 rfl (.int 1) rfl dX3_costOf_8 ?_
  refine f_icmp_ge hx hb dX3_costOf_11 33 (by decide) (by decide +kernel) ?_
  refine lv_lload_n hx hb dX3_costOf_14 rfl (lv_at hl 1 rfl) ?_
  refine lv_aload_n hx hb dX3_costOf_15 rfl (lv_at hl 2 rfl) ?_
  refine lv_iload hx hb dX3_costOf_16 (lv_at hl 0 rfl) ?_
  refine lv_aload_n hx hb dX3_costOf_18 rfl (lv_at hl 3 rfl) ?_
  refine lv_iload hx hb dX3_costOf_19 (lv_at hl 0 rfl) ?_
  refine ld_i hx hb hK hP 1 rfl (vin (by decide +kernel)) dX3_costOf_21 0 rfl ?_
  refine kV_l (q0 := 0) ⟨hx, hb, hml, hown, hts⟩ hK hP hD hS hA hX cv_RX3_53 [0, 2, 3] [1] (wr := [(a1, .inl (cI, 4, .inl (tb [])))]) rfl rfl rfl rfl (by decide) (c199_X3_costOfNumber l dC dI cI cJ cII cJJ s.heap.size 0 a0 a2 a3 a4 a5 a6 a7) ⟨by decide +kernel, by decide +kernel⟩ rfl rfl (Or.inl rfl) (rest := [.long 0]) rfl rfl rfl hl.1 rfl (Nat.le_of_ble_eq_true rfl) dX3_costOf_22 ⟨Nat.le_of_ble_eq_true rfl, Nat.le_of_ble_eq_true rfl⟩ (W' := [(a1, .inl (cI, 4, .inl (tb []))), (a0, .inr (3, [.int 1, .int 0, .ref a4, .ref a5, .ref a6, .ref a7, .ref a3, .ref a2])), (a2, .inl (cI, 4, .inl (tb [0, 0, 0, 0]))), (a3, .inl (cI, 4, .inl (tb [0, 0, 0, 0])))]) rfl (fun H locs hP hD hS => ?_)
  refine v_ladd hx hb dX3_costOf_25 0 (by decide +kernel) ?_
  refine lv_lstore_n (lv' := [(2, .long 0), (4, .int 0), (0, .ref a0), (1, .ref a1)]) hx hb dX3_costOf_26 rfl hl (by decide) rfl (fun ls hl => ?_)
  refine lv_iinc (v := 1) (lv' := [(4, .int 1), (2, .long 0), (0, .ref a0), (1, .ref a1)]) hx hb dX3_costOf_27 hl (k := 1) rfl (by decide +kernel) (by decide) rfl (fun ls hl => ?_)
  refine lv_goto (tgt := 5) hx hb dX3_costOf_30 (by decide) ?_
  refine lv_iload hx hb dX3_costOf_5 (lv_at hl 0 rfl) ?_
  refine lv_aload_n hx hb dX3_costOf_7 rfl (lv_at hl 2 rfl) ?_
  refine gf (k := 0) hx hb hts inX3 hown hK hP k_37 rfl (by decide) rfl 1 rfl (.int 1) rfl dX3_costOf_8 ?_
  refine t_icmp_ge hx hb dX3_costOf_11 33 (by decide) (by decide +kernel) ?_
  refine lv_lload_n hx hb dX3_costOf_33 rfl (lv_at hl 1 rfl) ?_
  exact r_l hx hb hr hk hK hP hD hS dX3_costOf_34
set_option maxRecDepth 100000 in
set_option maxHeartbeats 4000000 in
theorem c197_X8_cost (l : Launch) (dC : Nat → ClassId) (dI : Nat → Nat → Nat) (cI cJ cII cJJ : ClassId) (sz g a0 a1 a2 a3 a4 a5 a6 a7 a8 a9 a10 a11 a12 a13 a14 : Nat) : Met l yX8_cost (.code yX8_cost cX8_cost 1 (some .long) :: TT) ({ frames := 4, cells := 0, slots := 0, locals := 200 }) (PcS dC dI (TY cI cJ cII cJJ) [.ref a0] [(a0, .inr (8, [.ref a1, .ref a5, .ref a6, .ref a7, .ref a2, .ref a8, .ref a9, .ref a10])), (a1, .inr (3, [.int 1, .int 0, .ref a11, .ref a12, .ref a13, .ref a14, .ref a4, .ref a3])), (a2, .inl (cI, 4, .inl (tb []))), (a3, .inl (cI, 4, .inl (tb [0, 0, 0, 0]))), (a4, .inl (cI, 4, .inl (tb [0, 0, 0, 0])))] sz 0 g) ((QcL dC dI (TY cI cJ cII cJJ) 0 []) (va_A [(a0, .inr (8, [.ref a1, .ref a5, .ref a6, .ref a7, .ref a2, .ref a8, .ref a9, .ref a10])), (a1, .inr (3, [.int 1, .int 0, .ref a11, .ref a12, .ref a13, .ref a14, .ref a4, .ref a3])), (a2, .inl (cI, 4, .inl (tb []))), (a3, .inl (cI, 4, .inl (tb [0, 0, 0, 0]))), (a4, .inl (cI, 4, .inl (tb [0, 0, 0, 0])))] sz)) 0 0 (va_A [(a0, .inr (8, [.ref a1, .ref a5, .ref a6, .ref a7, .ref a2, .ref a8, .ref a9, .ref a10])), (a1, .inr (3, [.int 1, .int 0, .ref a11, .ref a12, .ref a13, .ref a14, .ref a4, .ref a3])), (a2, .inl (cI, 4, .inl (tb []))), (a3, .inl (cI, 4, .inl (tb [0, 0, 0, 0]))), (a4, .inl (cI, 4, .inl (tb [0, 0, 0, 0])))] sz) := by
  refine SM.of (y := yX8_cost) (maxL := 1) (av := [.ref a0]) (QcL dC dI (TY cI cJ cII cJJ) 0 []) (by decide +kernel) (Nat.le_of_ble_eq_true rfl) (fun p e s m below meth c A ls hx hb hr hml hown hts hk hnm hA hK hP hD hS hX hl => ?_)
  have hown : s.vm.findClass RX8 = some m.cls := hown
  have hl : lv_has ls 1 [(0, .ref a0)] := hl
  refine lv_aload_n hx hb dX8_cost_0 rfl (lv_at hl 0 rfl) ?_
  refine gf (k := 0) hx hb hts inX8 hown hK hP k_264 rfl (by decide) rfl 0 rfl (.ref a1) rfl dX8_cost_1 ?_
  refine lv_aload_n hx hb dX8_cost_4 rfl (lv_at hl 0 rfl) ?_
  refine gf (k := 4) hx hb hts inX8 hown hK hP k_268 rfl (by decide) rfl 0 rfl (.ref a2) rfl dX8_cost_5 ?_
  refine kV_l (q0 := 0) ⟨hx, hb, hml, hown, hts⟩ hK hP hD hS hA hX cv_RX8_187 [1, 2, 3, 4] [0] (wr := [(a0, .inr (8, [.ref a1, .ref a5, .ref a6, .ref a7, .ref a2, .ref a8, .ref a9, .ref a10]))]) rfl rfl rfl rfl (by decide) (c198_X3_costOf l dC dI cI cJ cII cJJ s.heap.size 0 a1 a2 a3 a4 a11 a12 a13 a14) ⟨by decide +kernel, by decide +kernel⟩ rfl rfl (Or.inl rfl) (rest := []) rfl rfl rfl hl.1 rfl (Nat.le_of_ble_eq_true rfl) dX8_cost_8 ⟨Nat.le_of_ble_eq_true rfl, Nat.le_of_ble_eq_true rfl⟩ (W' := [(a0, .inr (8, [.ref a1, .ref a5, .ref a6, .ref a7, .ref a2, .ref a8, .ref a9, .ref a10])), (a2, .inl (cI, 4, .inl (tb []))), (a1, .inr (3, [.int 1, .int 0, .ref a11, .ref a12, .ref a13, .ref a14, .ref a4, .ref a3])), (a3, .inl (cI, 4, .inl (tb [0, 0, 0, 0]))), (a4, .inl (cI, 4, .inl (tb [0, 0, 0, 0])))]) rfl (fun H locs hP hD hS => ?_)
  exact r_l hx hb hr hk hK (hP.sub [] rfl) (hD.sub [] rfl rfl) hS dX8_cost_11
set_option maxRecDepth 100000 in
set_option maxHeartbeats 4000000 in
theorem c202_X2_timesInBounds (l : Launch) (dC : Nat → ClassId) (dI : Nat → Nat → Nat) (cI cJ cII cJJ : ClassId) (sz g a0 a1 a2 a3 a4 a5 a6 a7 a8 a9 a10 a11 a12 a13 : Nat) : Met l yX2_timesInBounds (.code yX2_timesInBounds cX2_timesInBounds 6 (some .int) :: TT) ({ frames := 4, cells := 0, slots := 0, locals := 200 }) (PcS dC dI (TY cI cJ cII cJJ) [.ref a0, .int 0, .ref a5] [(a0, .inr (2, [.ref a1, .ref a2, .ref a6, .ref a7, .ref a8, .int 2, .int 0])), (a1, .inr (3, [.int 1, .int 0, .ref a9, .ref a10, .ref a4, .ref a11, .ref a12, .ref a13])), (a2, .inr (7, [.ref a3, .int 2])), (a3, .inl (cJ, 256, .inr (.inl (tbl [8791800153088, 8808980022272])))), (a4, .inl (cI, 4, .inl (tb [0, 0, 0, 0]))), (a5, .inl (cI, 4, .inl (tb [])))] sz 0 g) ((QcI dC dI (TY cI cJ cII cJJ) 0 [(a1, .inr (3, [.int 1, .int 0, .ref a9, .ref a10, .ref a4, .ref a11, .ref a12, .ref a13])), (a4, .inl (cI, 4, .inl (tb [0, 0, 0, 0]))), (a5, .inl (cI, 4, .inl (tb []))), (a0, .inr (2, [.ref a1, .ref a2, .ref a6, .ref a7, .ref a8, .int 2, .int 0])), (a2, .inr (7, [.ref a3, .int 2])), (a3, .inl (cJ, 256, .inr (.inl (tbl [8791800153088, 8808980022272]))))]) (va_A [(a0, .inr (2, [.ref a1, .ref a2, .ref a6, .ref a7, .ref a8, .int 2, .int 0])), (a1, .inr (3, [.int 1, .int 0, .ref a9, .ref a10, .ref a4, .ref a11, .ref a12, .ref a13])), (a2, .inr (7, [.ref a3, .int 2])), (a3, .inl (cJ, 256, .inr (.inl (tbl [8791800153088, 8808980022272])))), (a4, .inl (cI, 4, .inl (tb [0, 0, 0, 0]))), (a5, .inl (cI, 4, .inl (tb [])))] sz)) 0 0 (va_A [(a0, .inr (2, [.ref a1, .ref a2, .ref a6, .ref a7, .ref a8, .int 2, .int 0])), (a1, .inr (3, [.int 1, .int 0, .ref a9, .ref a10, .ref a4, .ref a11, .ref a12, .ref a13])), (a2, .inr (7, [.ref a3, .int 2])), (a3, .inl (cJ, 256, .inr (.inl (tbl [8791800153088, 8808980022272])))), (a4, .inl (cI, 4, .inl (tb [0, 0, 0, 0]))), (a5, .inl (cI, 4, .inl (tb [])))] sz) := by
  refine SM.of (y := yX2_timesInBounds) (maxL := 6) (av := [.ref a0, .int 0, .ref a5]) (QcI dC dI (TY cI cJ cII cJJ) 0 [(a1, .inr (3, [.int 1, .int 0, .ref a9, .ref a10, .ref a4, .ref a11, .ref a12, .ref a13])), (a4, .inl (cI, 4, .inl (tb [0, 0, 0, 0]))), (a5, .inl (cI, 4, .inl (tb []))), (a0, .inr (2, [.ref a1, .ref a2, .ref a6, .ref a7, .ref a8, .int 2, .int 0])), (a2, .inr (7, [.ref a3, .int 2])), (a3, .inl (cJ, 256, .inr (.inl (tbl [8791800153088, 8808980022272]))))]) (by decide +kernel) (Nat.le_of_ble_eq_true rfl) (fun p e s m below meth c A ls hx hb hr hml hown hts hk hnm hA hK hP hD hS hX hl => ?_)
  have hown : s.vm.findClass RX2 = some m.cls := hown
  have hl : lv_has ls 6 [(0, .ref a0), (1, .int 0), (2, .ref a5)] := hl
  refine lv_bipush (v := 20) hx hb dX2_timesInBounds_0 (by decide) ?_
  refine lv_istore_n (lv' := [(3, .int 20), (0, .ref a0), (1, .int 0), (2, .ref a5)]) hx hb dX2_timesInBounds_2 rfl hl (by decide) rfl (fun ls hl => ?_)
  refine lv_iconst (v := 0) hx hb dX2_timesInBounds_3 (by decide) ?_
  refine lv_istore (lv' := [(4, .int 0), (3, .int 20), (0, .ref a0), (1, .int 0), (2, .ref a5)]) hx hb dX2_timesInBounds_4 hl (by decide) rfl (fun ls hl => ?_)
  refine lv_iload hx hb dX2_timesInBounds_6 (lv_at hl 0 rfl) ?_
  refine lv_aload_n hx hb dX2_timesInBounds_8 rfl (lv_at hl 2 rfl) ?_
  refine gf (k := 0) hx hb hts inX2 hown hK hP k_175 rfl (by decide) rfl 0 rfl (.ref a1) rfl dX2_timesInBounds_9 ?_
  refine gf (k := 0) hx hb hts inX3 hown hK hP k_41 rfl (by decide) rfl 1 rfl (.int 1) rfl dX2_timesInBounds_12 ?_
  refine f_icmp_ge hx hb dX2_timesInBounds_15 96 (by decide) (by decide +kernel) ?_
  refine lv_iload_n hx hb dX2_timesInBounds_18 rfl (lv_at hl 1 rfl) ?_
  refine f_if_le hx hb dX2_timesInBounds_19 96 (by decide) (by decide +kernel) ?_
  refine lv_aload_n hx hb dX2_timesInBounds_22 rfl (lv_at hl 2 rfl) ?_
  refine lv_iload_n hx hb dX2_timesInBounds_23 rfl (lv_at hl 3 rfl) ?_
  refine lv_iload hx hb dX2_timesInBounds_24 (lv_at hl 0 rfl) ?_
  refine kV_i (q0 := 0) ⟨hx, hb, hml, hown, hts⟩ hK hP hD hS hA hX cv_RX2_98 [0, 2, 3] [1, 4, 5] (wr := [(a1, .inr (3, [.int 1, .int 0, .ref a9, .ref a10, .ref a4, .ref a11, .ref a12, .ref a13])), (a4, .inl (cI, 4, .inl (tb [0, 0, 0, 0]))), (a5, .inl (cI, 4, .inl (tb [])))]) rfl rfl rfl rfl (by decide) (c138_X2_at l dC dI cI cJ cII cJJ s.heap.size 0 a0 a2 a3 a1 a6 a7 a8) ⟨by decide +kernel, by decide +kernel⟩ rfl rfl (Or.inl rfl) (rest := []) rfl rfl rfl hl.1 rfl (Nat.le_of_ble_eq_true rfl) dX2_timesInBounds_26 ⟨Nat.le_of_ble_eq_true rfl, Nat.le_of_ble_eq_true rfl⟩ (W' := [(a1, .inr (3, [.int 1, .int 0, .ref a9, .ref a10, .ref a4, .ref a11, .ref a12, .ref a13])), (a4, .inl (cI, 4, .inl (tb [0, 0, 0, 0]))), (a5, .inl (cI, 4, .inl (tb []))), (a0, .inr (2, [.ref a1, .ref a2, .ref a6, .ref a7, .ref a8, .int 2, .int 0])), (a2, .inr (7, [.ref a3, .int 2])), (a3, .inl (cJ, 256, .inr (.inl (tbl [8791800153088, 8808980022272]))))]) rfl (fun H locs hP hD hS => ?_)
  refine lv_istore (lv' := [(5, .int (-1)), (4, .int 0), (3, .int 20), (0, .ref a0), (1, .int 0), (2, .ref a5)]) hx hb dX2_timesInBounds_29 hl (by decide) rfl (fun ls hl => ?_)
  refine lv_iload hx hb dX2_timesInBounds_31 (lv_at hl 0 rfl) ?_
  refine t_if_le hx hb dX2_timesInBounds_33 62 (by decide) (by decide +kernel) ?_
  refine lv_iload hx hb dX2_timesInBounds_62 (lv_at hl 0 rfl) ?_
  refine f_if_ge hx hb dX2_timesInBounds_64 90 (by decide) (by decide +kernel) ?_
  refine lv_iload_n hx hb dX2_timesInBounds_67 rfl (lv_at hl 2 rfl) ?_
  refine lv_aload_n hx hb dX2_timesInBounds_68 rfl (lv_at hl 3 rfl) ?_
  refine gf (k := 0) hx hb hts inX2 hown hK hP k_175 rfl (by decide) rfl 3 rfl (.ref a1) rfl dX2_timesInBounds_69 ?_
  refine gf (k := 4) hx hb hts inX3 hown hK hP k_59 rfl (by decide) rfl 0 rfl (.ref a4) rfl dX2_timesInBounds_72 ?_
  refine lv_iload hx hb dX2_timesInBounds_75 (lv_at hl 1 rfl) ?_
  refine ld_i hx hb hK hP 1 rfl (vin (by decide +kernel)) dX2_timesInBounds_77 0 rfl ?_
  refine lv_aload_n hx hb dX2_timesInBounds_78 rfl (lv_at hl 5 rfl) ?_
  refine lv_iload hx hb dX2_timesInBounds_79 (lv_at hl 1 rfl) ?_
  refine ld_i hx hb hK hP 2 rfl (vin (by decide +kernel)) dX2_timesInBounds_81 0 rfl ?_
  refine v_isub hx hb dX2_timesInBounds_82 0 (by decide +kernel) ?_
  refine lv_iload hx hb dX2_timesInBounds_83 (lv_at hl 0 rfl) ?_
  refine v_idiv hx hb dX2_timesInBounds_85 (by decide +kernel) 0 (by decide +kernel) ?_
  refine va_mmin hx hb (by rw [hml]; exact hl.1.symm) hown (hts _ k_589) (hts _ k_464) (hts _ k_13) (hts _ k_465) (by decide) (Nat.le_of_ble_eq_true rfl) (Nat.le_of_ble_eq_true rfl) (Nat.le_of_ble_eq_true rfl) dX2_timesInBounds_86 ?_
  refine tvi (v := 0) (by decide +kernel) ?_
  refine lv_istore_n (lv' := [(3, .int 0), (5, .int (-1)), (4, .int 0), (0, .ref a0), (1, .int 0), (2, .ref a5)]) hx hb dX2_timesInBounds_89 rfl hl (by decide) rfl (fun ls hl => ?_)
  refine lv_iinc (v := 1) (lv' := [(4, .int 1), (3, .int 0), (5, .int (-1)), (0, .ref a0), (1, .int 0), (2, .ref a5)]) hx hb dX2_timesInBounds_90 hl (k := 2) rfl (by decide +kernel) (by decide) rfl (fun ls hl => ?_)
  refine lv_goto (tgt := 6) hx hb dX2_timesInBounds_93 (by decide) ?_
  refine lv_iload hx hb dX2_timesInBounds_6 (lv_at hl 0 rfl) ?_
  refine lv_aload_n hx hb dX2_timesInBounds_8 rfl (lv_at hl 3 rfl) ?_
  refine gf (k := 0) hx hb hts inX2 hown hK hP k_175 rfl (by decide) rfl 3 rfl (.ref a1) rfl dX2_timesInBounds_9 ?_
  refine gf (k := 0) hx hb hts inX3 hown hK hP k_41 rfl (by decide) rfl 0 rfl (.int 1) rfl dX2_timesInBounds_12 ?_
  refine t_icmp_ge hx hb dX2_timesInBounds_15 96 (by decide) (by decide +kernel) ?_
  refine lv_iload_n hx hb dX2_timesInBounds_96 rfl (lv_at hl 1 rfl) ?_
  exact r_i hx hb hr hk hK hP hD hS dX2_timesInBounds_97
set_option maxRecDepth 100000 in
set_option maxHeartbeats 4000000 in
theorem c203_X2_timesInBounds (l : Launch) (dC : Nat → ClassId) (dI : Nat → Nat → Nat) (cI cJ cII cJJ : ClassId) (sz g a0 a1 a2 a3 a4 a5 a6 a7 a8 a9 a10 a11 a12 a13 : Nat) : Met l yX2_timesInBounds (.code yX2_timesInBounds cX2_timesInBounds 6 (some .int) :: TT) ({ frames := 4, cells := 0, slots := 0, locals := 200 }) (PcS dC dI (TY cI cJ cII cJJ) [.ref a0, .int 1, .ref a5] [(a0, .inr (2, [.ref a1, .ref a2, .ref a6, .ref a7, .ref a8, .int 2, .int 0])), (a1, .inr (3, [.int 1, .int 0, .ref a9, .ref a10, .ref a11, .ref a4, .ref a12, .ref a13])), (a2, .inr (7, [.ref a3, .int 2])), (a3, .inl (cJ, 256, .inr (.inl (tbl [8791800153088, 8808980022272])))), (a4, .inl (cI, 4, .inl (tb [10, 10, 10, 10]))), (a5, .inl (cI, 4, .inl (tb [])))] sz 0 g) ((QcI dC dI (TY cI cJ cII cJJ) 10 [(a1, .inr (3, [.int 1, .int 0, .ref a9, .ref a10, .ref a11, .ref a4, .ref a12, .ref a13])), (a4, .inl (cI, 4, .inl (tb [10, 10, 10, 10]))), (a5, .inl (cI, 4, .inl (tb []))), (a0, .inr (2, [.ref a1, .ref a2, .ref a6, .ref a7, .ref a8, .int 2, .int 0])), (a2, .inr (7, [.ref a3, .int 2])), (a3, .inl (cJ, 256, .inr (.inl (tbl [8791800153088, 8808980022272]))))]) (va_A [(a0, .inr (2, [.ref a1, .ref a2, .ref a6, .ref a7, .ref a8, .int 2, .int 0])), (a1, .inr (3, [.int 1, .int 0, .ref a9, .ref a10, .ref a11, .ref a4, .ref a12, .ref a13])), (a2, .inr (7, [.ref a3, .int 2])), (a3, .inl (cJ, 256, .inr (.inl (tbl [8791800153088, 8808980022272])))), (a4, .inl (cI, 4, .inl (tb [10, 10, 10, 10]))), (a5, .inl (cI, 4, .inl (tb [])))] sz)) 0 0 (va_A [(a0, .inr (2, [.ref a1, .ref a2, .ref a6, .ref a7, .ref a8, .int 2, .int 0])), (a1, .inr (3, [.int 1, .int 0, .ref a9, .ref a10, .ref a11, .ref a4, .ref a12, .ref a13])), (a2, .inr (7, [.ref a3, .int 2])), (a3, .inl (cJ, 256, .inr (.inl (tbl [8791800153088, 8808980022272])))), (a4, .inl (cI, 4, .inl (tb [10, 10, 10, 10]))), (a5, .inl (cI, 4, .inl (tb [])))] sz) := by
  refine SM.of (y := yX2_timesInBounds) (maxL := 6) (av := [.ref a0, .int 1, .ref a5]) (QcI dC dI (TY cI cJ cII cJJ) 10 [(a1, .inr (3, [.int 1, .int 0, .ref a9, .ref a10, .ref a11, .ref a4, .ref a12, .ref a13])), (a4, .inl (cI, 4, .inl (tb [10, 10, 10, 10]))), (a5, .inl (cI, 4, .inl (tb []))), (a0, .inr (2, [.ref a1, .ref a2, .ref a6, .ref a7, .ref a8, .int 2, .int 0])), (a2, .inr (7, [.ref a3, .int 2])), (a3, .inl (cJ, 256, .inr (.inl (tbl [8791800153088, 8808980022272]))))]) (by decide +kernel) (Nat.le_of_ble_eq_true rfl) (fun p e s m below meth c A ls hx hb hr hml hown hts hk hnm hA hK hP hD hS hX hl => ?_)
  have hown : s.vm.findClass RX2 = some m.cls := hown
  have hl : lv_has ls 6 [(0, .ref a0), (1, .int 1), (2, .ref a5)] := hl
  refine lv_bipush (v := 20) hx hb dX2_timesInBounds_0 (by decide) ?_
  refine lv_istore_n (lv' := [(3, .int 20), (0, .ref a0), (1, .int 1), (2, .ref a5)]) hx hb dX2_timesInBounds_2 rfl hl (by decide) rfl (fun ls hl => ?_)
  refine lv_iconst (v := 0) hx hb dX2_timesInBounds_3 (by decide) ?_
  refine lv_istore (lv' := [(4, .int 0), (3, .int 20), (0, .ref a0), (1, .int 1), (2, .ref a5)]) hx hb dX2_timesInBounds_4 hl (by decide) rfl (fun ls hl => ?_)
  refine lv_iload hx hb dX2_timesInBounds_6 (lv_at hl 0 rfl) ?_
  refine lv_aload_n hx hb dX2_timesInBounds_8 rfl (lv_at hl 2 rfl) ?_
  refine gf (k := 0) hx hb hts inX2 hown hK hP k_175 rfl (by decide) rfl 0 rfl (.ref a1) rfl dX2_timesInBounds_9 ?_
  refine gf (k := 0) hx hb hts inX3 hown hK hP k_41 rfl (by decide) rfl 1 rfl (.int 1) rfl dX2_timesInBounds_12 ?_
  refine f_icmp_ge hx hb dX2_timesInBounds_15 96 (by decide) (by decide +kernel) ?_
  refine lv_iload_n hx hb dX2_timesInBounds_18 rfl (lv_at hl 1 rfl) ?_
  refine f_if_le hx hb dX2_timesInBounds_19 96 (by decide) (by decide +kernel) ?_
  refine lv_aload_n hx hb dX2_timesInBounds_22 rfl (lv_at hl 2 rfl) ?_
  refine lv_iload_n hx hb dX2_timesInBounds_23 rfl (lv_at hl 3 rfl) ?_
  refine lv_iload hx hb dX2_timesInBounds_24 (lv_at hl 0 rfl) ?_
  refine kV_i (q0 := 0) ⟨hx, hb, hml, hown, hts⟩ hK hP hD hS hA hX cv_RX2_98 [0, 2, 3] [1, 4, 5] (wr := [(a1, .inr (3, [.int 1, .int 0, .ref a9, .ref a10, .ref a11, .ref a4, .ref a12, .ref a13])), (a4, .inl (cI, 4, .inl (tb [10, 10, 10, 10]))), (a5, .inl (cI, 4, .inl (tb [])))]) rfl rfl rfl rfl (by decide) (c143_X2_at l dC dI cI cJ cII cJJ s.heap.size 0 a0 a2 a3 a1 a6 a7 a8) ⟨by decide +kernel, by decide +kernel⟩ rfl rfl (Or.inl rfl) (rest := []) rfl rfl rfl hl.1 rfl (Nat.le_of_ble_eq_true rfl) dX2_timesInBounds_26 ⟨Nat.le_of_ble_eq_true rfl, Nat.le_of_ble_eq_true rfl⟩ (W' := [(a1, .inr (3, [.int 1, .int 0, .ref a9, .ref a10, .ref a11, .ref a4, .ref a12, .ref a13])), (a4, .inl (cI, 4, .inl (tb [10, 10, 10, 10]))), (a5, .inl (cI, 4, .inl (tb []))), (a0, .inr (2, [.ref a1, .ref a2, .ref a6, .ref a7, .ref a8, .int 2, .int 0])), (a2, .inr (7, [.ref a3, .int 2])), (a3, .inl (cJ, 256, .inr (.inl (tbl [8791800153088, 8808980022272]))))]) rfl (fun H locs hP hD hS => ?_)
  refine lv_istore (lv' := [(5, .int 1), (4, .int 0), (3, .int 20), (0, .ref a0), (1, .int 1), (2, .ref a5)]) hx hb dX2_timesInBounds_29 hl (by decide) rfl (fun ls hl => ?_)
  refine lv_iload hx hb dX2_timesInBounds_31 (lv_at hl 0 rfl) ?_
  refine f_if_le hx hb dX2_timesInBounds_33 62 (by decide) (by decide +kernel) ?_
  refine lv_iload_n hx hb dX2_timesInBounds_36 rfl (lv_at hl 2 rfl) ?_
  refine lv_aload_n hx hb dX2_timesInBounds_37 rfl (lv_at hl 3 rfl) ?_
  refine gf (k := 0) hx hb hts inX2 hown hK hP k_175 rfl (by decide) rfl 3 rfl (.ref a1) rfl dX2_timesInBounds_38 ?_
  refine gf (k := 5) hx hb hts inX3 hown hK hP k_63 rfl (by decide) rfl 0 rfl (.ref a4) rfl dX2_timesInBounds_41 ?_
  refine lv_iload hx hb dX2_timesInBounds_44 (lv_at hl 1 rfl) ?_
  refine ld_i hx hb hK hP 1 rfl (vin (by decide +kernel)) dX2_timesInBounds_46 10 rfl ?_
  refine lv_aload_n hx hb dX2_timesInBounds_47 rfl (lv_at hl 5 rfl) ?_
  refine lv_iload hx hb dX2_timesInBounds_48 (lv_at hl 1 rfl) ?_
  refine ld_i hx hb hK hP 2 rfl (vin (by decide +kernel)) dX2_timesInBounds_50 0 rfl ?_
  refine v_isub hx hb dX2_timesInBounds_51 10 (by decide +kernel) ?_
  refine lv_iload hx hb dX2_timesInBounds_52 (lv_at hl 0 rfl) ?_
  refine v_idiv hx hb dX2_timesInBounds_54 (by decide +kernel) 10 (by decide +kernel) ?_
  refine va_mmin hx hb (by rw [hml]; exact hl.1.symm) hown (hts _ k_589) (hts _ k_464) (hts _ k_13) (hts _ k_465) (by decide) (Nat.le_of_ble_eq_true rfl) (Nat.le_of_ble_eq_true rfl) (Nat.le_of_ble_eq_true rfl) dX2_timesInBounds_55 ?_
  refine tvi (v := 10) (by decide +kernel) ?_
  refine lv_istore_n (lv' := [(3, .int 10), (5, .int 1), (4, .int 0), (0, .ref a0), (1, .int 1), (2, .ref a5)]) hx hb dX2_timesInBounds_58 rfl hl (by decide) rfl (fun ls hl => ?_)
  refine lv_goto (tgt := 90) hx hb dX2_timesInBounds_59 (by decide) ?_
  refine lv_iinc (v := 1) (lv' := [(4, .int 1), (3, .int 10), (5, .int 1), (0, .ref a0), (1, .int 1), (2, .ref a5)]) hx hb dX2_timesInBounds_90 hl (k := 2) rfl (by decide +kernel) (by decide) rfl (fun ls hl => ?_)
  refine lv_goto (tgt := 6) hx hb dX2_timesInBounds_93 (by decide) ?_
  refine lv_iload hx hb dX2_timesInBounds_6 (lv_at hl 0 rfl) ?_
  refine lv_aload_n hx hb dX2_timesInBounds_8 rfl (lv_at hl 3 rfl) ?_
  refine gf (k := 0) hx hb hts inX2 hown hK hP k_175 rfl (by decide) rfl 3 rfl (.ref a1) rfl dX2_timesInBounds_9 ?_
  refine gf (k := 0) hx hb hts inX3 hown hK hP k_41 rfl (by decide) rfl 0 rfl (.int 1) rfl dX2_timesInBounds_12 ?_
  refine t_icmp_ge hx hb dX2_timesInBounds_15 96 (by decide) (by decide +kernel) ?_
  refine lv_iload_n hx hb dX2_timesInBounds_96 rfl (lv_at hl 1 rfl) ?_
  exact r_i hx hb hr hk hK hP hD hS dX2_timesInBounds_97
set_option maxRecDepth 100000 in
set_option maxHeartbeats 4000000 in
theorem c204_X2_slopeAt (l : Launch) (dC : Nat → ClassId) (dI : Nat → Nat → Nat) (cI cJ cII cJJ : ClassId) (sz g a0 a1 a2 a3 a4 a5 a6 a7 a8 a9 a10 a11 a12 a13 : Nat) : Met l yX2_slopeAt (.code yX2_slopeAt cX2_slopeAt 6 (some .long) :: TT) ({ frames := 4, cells := 0, slots := 0, locals := 200 }) (PcS dC dI (TY cI cJ cII cJJ) [.ref a0, .int 1, .ref a6] [(a0, .inr (2, [.ref a1, .ref a2, .ref a7, .ref a8, .ref a9, .int 2, .int 0])), (a1, .inr (3, [.int 1, .int 0, .ref a10, .ref a11, .ref a12, .ref a13, .ref a4, .ref a5])), (a2, .inr (7, [.ref a3, .int 2])), (a3, .inl (cJ, 256, .inr (.inl (tbl [8791800153088, 8808980022272])))), (a4, .inl (cI, 4, .inl (tb [0, 0, 0, 0]))), (a5, .inl (cI, 4, .inl (tb [0, 0, 0, 0]))), (a6, .inl (cI, 4, .inl (tb [])))] sz 0 g) ((QcL dC dI (TY cI cJ cII cJJ) 0 [(a1, .inr (3, [.int 1, .int 0, .ref a10, .ref a11, .ref a12, .ref a13, .ref a4, .ref a5])), (a4, .inl (cI, 4, .inl (tb [0, 0, 0, 0]))), (a5, .inl (cI, 4, .inl (tb [0, 0, 0, 0]))), (a6, .inl (cI, 4, .inl (tb []))), (a0, .inr (2, [.ref a1, .ref a2, .ref a7, .ref a8, .ref a9, .int 2, .int 0])), (a2, .inr (7, [.ref a3, .int 2])), (a3, .inl (cJ, 256, .inr (.inl (tbl [8791800153088, 8808980022272]))))]) (va_A [(a0, .inr (2, [.ref a1, .ref a2, .ref a7, .ref a8, .ref a9, .int 2, .int 0])), (a1, .inr (3, [.int 1, .int 0, .ref a10, .ref a11, .ref a12, .ref a13, .ref a4, .ref a5])), (a2, .inr (7, [.ref a3, .int 2])), (a3, .inl (cJ, 256, .inr (.inl (tbl [8791800153088, 8808980022272])))), (a4, .inl (cI, 4, .inl (tb [0, 0, 0, 0]))), (a5, .inl (cI, 4, .inl (tb [0, 0, 0, 0]))), (a6, .inl (cI, 4, .inl (tb [])))] sz)) 0 0 (va_A [(a0, .inr (2, [.ref a1, .ref a2, .ref a7, .ref a8, .ref a9, .int 2, .int 0])), (a1, .inr (3, [.int 1, .int 0, .ref a10, .ref a11, .ref a12, .ref a13, .ref a4, .ref a5])), (a2, .inr (7, [.ref a3, .int 2])), (a3, .inl (cJ, 256, .inr (.inl (tbl [8791800153088, 8808980022272])))), (a4, .inl (cI, 4, .inl (tb [0, 0, 0, 0]))), (a5, .inl (cI, 4, .inl (tb [0, 0, 0, 0]))), (a6, .inl (cI, 4, .inl (tb [])))] sz) := by
  refine SM.of (y := yX2_slopeAt) (maxL := 6) (av := [.ref a0, .int 1, .ref a6]) (QcL dC dI (TY cI cJ cII cJJ) 0 [(a1, .inr (3, [.int 1, .int 0, .ref a10, .ref a11, .ref a12, .ref a13, .ref a4, .ref a5])), (a4, .inl (cI, 4, .inl (tb [0, 0, 0, 0]))), (a5, .inl (cI, 4, .inl (tb [0, 0, 0, 0]))), (a6, .inl (cI, 4, .inl (tb []))), (a0, .inr (2, [.ref a1, .ref a2, .ref a7, .ref a8, .ref a9, .int 2, .int 0])), (a2, .inr (7, [.ref a3, .int 2])), (a3, .inl (cJ, 256, .inr (.inl (tbl [8791800153088, 8808980022272]))))]) (by decide +kernel) (Nat.le_of_ble_eq_true rfl) (fun p e s m below meth c A ls hx hb hr hml hown hts hk hnm hA hK hP hD hS hX hl => ?_)
  have hown : s.vm.findClass RX2 = some m.cls := hown
  have hl : lv_has ls 6 [(0, .ref a0), (1, .int 1), (2, .ref a6)] := hl
  refine lv_lconst (v := 0) hx hb dX2_slopeAt_0 (by decide) ?_
  refine lv_lstore_n (lv' := [(3, .long 0), (0, .ref a0), (1, .int 1), (2, .ref a6)]) hx hb dX2_slopeAt_1 rfl hl (by decide) rfl (fun ls hl => ?_)
  refine lv_iconst (v := 0) hx hb dX2_slopeAt_2 (by decide) ?_
  refine lv_istore (lv' := [(5, .int 0), (3, .long 0), (0, .ref a0), (1, .int 1), (2, .ref a6)]) hx hb dX2_slopeAt_3 hl (by decide) rfl (fun ls hl => ?_)
  refine lv_iload hx hb dX2_slopeAt_5 (lv_at hl 0 rfl) ?_
  refine lv_aload_n hx hb dX2_slopeAt_7 rfl (lv_at hl 2 rfl) ?_
  refine gf (k := 0) hx hb hts inX2 hown hK hP k_175 rfl (by decide) rfl 0 rfl (.ref a1) rfl dX2_slopeAt_8 ?_
  refine gf (k := 0) hx hb hts inX3 hown hK hP k_41 rfl (by decide) rfl 1 rfl (.int 1) rfl dX2_slopeAt_11 ?_
  refine f_icmp_ge hx hb dX2_slopeAt_14 68 (by decide) (by decide +kernel) ?_
  refine lv_lload_n hx hb dX2_slopeAt_17 rfl (lv_at hl 1 rfl) ?_
  refine lv_aload_n hx hb dX2_slopeAt_18 rfl (lv_at hl 2 rfl) ?_
  refine lv_iload_n hx hb dX2_slopeAt_19 rfl (lv_at hl 3 rfl) ?_
  refine lv_iload hx hb dX2_slopeAt_20 (lv_at hl 0 rfl) ?_
  refine kV_i (q0 := 0) ⟨hx, hb, hml, hown, hts⟩ hK hP hD hS hA hX cv_RX2_98 [0, 2, 3] [1, 4, 5, 6] (wr := [(a1, .inr (3, [.int 1, .int 0, .ref a10, .ref a11, .ref a12, .ref a13, .ref a4, .ref a5])), (a4, .inl (cI, 4, .inl (tb [0, 0, 0, 0]))), (a5, .inl (cI, 4, .inl (tb [0, 0, 0, 0]))), (a6, .inl (cI, 4, .inl (tb [])))]) rfl rfl rfl rfl (by decide) (c143_X2_at l dC dI cI cJ cII cJJ s.heap.size 0 a0 a2 a3 a1 a7 a8 a9) ⟨by decide +kernel, by decide +kernel⟩ rfl rfl (Or.inl rfl) (rest := [.long 0]) rfl rfl rfl hl.1 rfl (Nat.le_of_ble_eq_true rfl) dX2_slopeAt_22 ⟨Nat.le_of_ble_eq_true rfl, Nat.le_of_ble_eq_true rfl⟩ (W' := [(a1, .inr (3, [.int 1, .int 0, .ref a10, .ref a11, .ref a12, .ref a13, .ref a4, .ref a5])), (a4, .inl (cI, 4, .inl (tb [0, 0, 0, 0]))), (a5, .inl (cI, 4, .inl (tb [0, 0, 0, 0]))), (a6, .inl (cI, 4, .inl (tb []))), (a0, .inr (2, [.ref a1, .ref a2, .ref a7, .ref a8, .ref a9, .int 2, .int 0])), (a2, .inr (7, [.ref a3, .int 2])), (a3, .inl (cJ, 256, .inr (.inl (tbl [8791800153088, 8808980022272]))))]) rfl (fun H locs hP hD hS => ?_)
  refine lv_i2l (v := 1) hx hb dX2_slopeAt_25 (by decide +kernel) ?_
  refine lv_aload_n hx hb dX2_slopeAt_26 rfl (lv_at hl 2 rfl) ?_
  refine gf (k := 0) hx hb hts inX2 hown hK hP k_175 rfl (by decide) rfl 4 rfl (.ref a1) rfl dX2_slopeAt_27 ?_
  refine gf (k := 6) hx hb hts inX3 hown hK hP k_66 rfl (by decide) rfl 0 rfl (.ref a4) rfl dX2_slopeAt_30 ?_
  refine lv_iload hx hb dX2_slopeAt_33 (lv_at hl 0 rfl) ?_
  refine ld_i hx hb hK hP 1 rfl (vin (by decide +kernel)) dX2_slopeAt_35 0 rfl ?_
  refine lv_i2l (v := 0) hx hb dX2_slopeAt_36 (by decide +kernel) ?_
  refine lv_ldc2 (v := 2) hx hb hown (hts _ k_641) dX2_slopeAt_37 ?_
  refine lv_aload_n hx hb dX2_slopeAt_40 rfl (lv_at hl 2 rfl) ?_
  refine gf (k := 0) hx hb hts inX2 hown hK hP k_175 rfl (by decide) rfl 4 rfl (.ref a1) rfl dX2_slopeAt_41 ?_
  refine gf (k := 7) hx hb hts inX3 hown hK hP k_69 rfl (by decide) rfl 0 rfl (.ref a5) rfl dX2_slopeAt_44 ?_
  refine lv_iload hx hb dX2_slopeAt_47 (lv_at hl 0 rfl) ?_
  refine ld_i hx hb hK hP 2 rfl (vin (by decide +kernel)) dX2_slopeAt_49 0 rfl ?_
  refine lv_i2l (v := 0) hx hb dX2_slopeAt_50 (by decide +kernel) ?_
  refine v_lmul hx hb dX2_slopeAt_51 0 (by decide +kernel) ?_
  refine lv_aload_n hx hb dX2_slopeAt_52 rfl (lv_at hl 4 rfl) ?_
  refine lv_iload hx hb dX2_slopeAt_53 (lv_at hl 0 rfl) ?_
  refine ld_i hx hb hK hP 3 rfl (vin (by decide +kernel)) dX2_slopeAt_55 0 rfl ?_
  refine lv_i2l (v := 0) hx hb dX2_slopeAt_56 (by decide +kernel) ?_
  refine v_lmul hx hb dX2_slopeAt_57 0 (by decide +kernel) ?_
  refine v_ladd hx hb dX2_slopeAt_58 0 (by decide +kernel) ?_
  refine v_lmul hx hb dX2_slopeAt_59 0 (by decide +kernel) ?_
  refine v_ladd hx hb dX2_slopeAt_60 0 (by decide +kernel) ?_
  refine lv_lstore_n (lv' := [(3, .long 0), (5, .int 0), (0, .ref a0), (1, .int 1), (2, .ref a6)]) hx hb dX2_slopeAt_61 rfl hl (by decide) rfl (fun ls hl => ?_)
  refine lv_iinc (v := 1) (lv' := [(5, .int 1), (3, .long 0), (0, .ref a0), (1, .int 1), (2, .ref a6)]) hx hb dX2_slopeAt_62 hl (k := 1) rfl (by decide +kernel) (by decide) rfl (fun ls hl => ?_)
  refine lv_goto (tgt := 5) hx hb dX2_slopeAt_65 (by decide) ?_
  refine lv_iload hx hb dX2_slopeAt_5 (lv_at hl 0 rfl) ?_
  refine lv_aload_n hx hb dX2_slopeAt_7 rfl (lv_at hl 2 rfl) ?_
  refine gf (k := 0) hx hb hts inX2 hown hK hP k_175 rfl (by decide) rfl 4 rfl (.ref a1) rfl dX2_slopeAt_8 ?_
  refine gf (k := 0) hx hb hts inX3 hown hK hP k_41 rfl (by decide) rfl 0 rfl (.int 1) rfl dX2_slopeAt_11 ?_
  refine t_icmp_ge hx hb dX2_slopeAt_14 68 (by decide) (by decide +kernel) ?_
  refine lv_lload_n hx hb dX2_slopeAt_68 rfl (lv_at hl 1 rfl) ?_
  exact r_l hx hb hr hk hK hP hD hS dX2_slopeAt_69
set_option maxRecDepth 100000 in
set_option maxHeartbeats 4000000 in
theorem c205_X2_curveOf (l : Launch) (dC : Nat → ClassId) (dI : Nat → Nat → Nat) (cI cJ cII cJJ : ClassId) (sz g a0 a1 a2 a3 a4 a5 a6 a7 a8 a9 a10 a11 a12 : Nat) : Met l yX2_curveOf (.code yX2_curveOf cX2_curveOf 7 (some .long) :: TT) ({ frames := 4, cells := 0, slots := 0, locals := 200 }) (PcS dC dI (TY cI cJ cII cJJ) [.ref a0, .int 1] [(a0, .inr (2, [.ref a1, .ref a2, .ref a5, .ref a6, .ref a7, .int 2, .int 0])), (a1, .inr (3, [.int 1, .int 0, .ref a8, .ref a9, .ref a10, .ref a11, .ref a12, .ref a4])), (a2, .inr (7, [.ref a3, .int 2])), (a3, .inl (cJ, 256, .inr (.inl (tbl [8791800153088, 8808980022272])))), (a4, .inl (cI, 4, .inl (tb [0, 0, 0, 0])))] sz 0 g) ((QcL dC dI (TY cI cJ cII cJJ) 0 [(a1, .inr (3, [.int 1, .int 0, .ref a8, .ref a9, .ref a10, .ref a11, .ref a12, .ref a4])), (a4, .inl (cI, 4, .inl (tb [0, 0, 0, 0]))), (a0, .inr (2, [.ref a1, .ref a2, .ref a5, .ref a6, .ref a7, .int 2, .int 0])), (a2, .inr (7, [.ref a3, .int 2])), (a3, .inl (cJ, 256, .inr (.inl (tbl [8791800153088, 8808980022272]))))]) (va_A [(a0, .inr (2, [.ref a1, .ref a2, .ref a5, .ref a6, .ref a7, .int 2, .int 0])), (a1, .inr (3, [.int 1, .int 0, .ref a8, .ref a9, .ref a10, .ref a11, .ref a12, .ref a4])), (a2, .inr (7, [.ref a3, .int 2])), (a3, .inl (cJ, 256, .inr (.inl (tbl [8791800153088, 8808980022272])))), (a4, .inl (cI, 4, .inl (tb [0, 0, 0, 0])))] sz)) 0 0 (va_A [(a0, .inr (2, [.ref a1, .ref a2, .ref a5, .ref a6, .ref a7, .int 2, .int 0])), (a1, .inr (3, [.int 1, .int 0, .ref a8, .ref a9, .ref a10, .ref a11, .ref a12, .ref a4])), (a2, .inr (7, [.ref a3, .int 2])), (a3, .inl (cJ, 256, .inr (.inl (tbl [8791800153088, 8808980022272])))), (a4, .inl (cI, 4, .inl (tb [0, 0, 0, 0])))] sz) := by
  refine SM.of (y := yX2_curveOf) (maxL := 7) (av := [.ref a0, .int 1]) (QcL dC dI (TY cI cJ cII cJJ) 0 [(a1, .inr (3, [.int 1, .int 0, .ref a8, .ref a9, .ref a10, .ref a11, .ref a12, .ref a4])), (a4, .inl (cI, 4, .inl (tb [0, 0, 0, 0]))), (a0, .inr (2, [.ref a1, .ref a2, .ref a5, .ref a6, .ref a7, .int 2, .int 0])), (a2, .inr (7, [.ref a3, .int 2])), (a3, .inl (cJ, 256, .inr (.inl (tbl [8791800153088, 8808980022272]))))]) (by decide +kernel) (Nat.le_of_ble_eq_true rfl) (fun p e s m below meth c A ls hx hb hr hml hown hts hk hnm hA hK hP hD hS hX hl => ?_)
  have hown : s.vm.findClass RX2 = some m.cls := hown
  have hl : lv_has ls 7 [(0, .ref a0), (1, .int 1)] := hl
  refine lv_lconst (v := 0) hx hb dX2_curveOf_0 (by decide) ?_
  refine lv_lstore_n (lv' := [(2, .long 0), (0, .ref a0), (1, .int 1)]) hx hb dX2_curveOf_1 rfl hl (by decide) rfl (fun ls hl => ?_)
  refine lv_iconst (v := 0) hx hb dX2_curveOf_2 (by decide) ?_
  refine lv_istore (lv' := [(4, .int 0), (2, .long 0), (0, .ref a0), (1, .int 1)]) hx hb dX2_curveOf_3 hl (by decide) rfl (fun ls hl => ?_)
  refine lv_iload hx hb dX2_curveOf_5 (lv_at hl 0 rfl) ?_
  refine lv_aload_n hx hb dX2_curveOf_7 rfl (lv_at hl 2 rfl) ?_
  refine gf (k := 0) hx hb hts inX2 hown hK hP k_175 rfl (by decide) rfl 0 rfl (.ref a1) rfl dX2_curveOf_8 ?_
  refine gf (k := 0) hx hb hts inX3 hown hK hP k_41 rfl (by decide) rfl 1 rfl (.int 1) rfl dX2_curveOf_11 ?_
  refine f_icmp_ge hx hb dX2_curveOf_14 53 (by decide) (by decide +kernel) ?_
  refine lv_aload_n hx hb dX2_curveOf_17 rfl (lv_at hl 2 rfl) ?_
  refine lv_iload_n hx hb dX2_curveOf_18 rfl (lv_at hl 3 rfl) ?_
  refine lv_iload hx hb dX2_curveOf_19 (lv_at hl 0 rfl) ?_
  refine kV_i (q0 := 0) ⟨hx, hb, hml, hown, hts⟩ hK hP hD hS hA hX cv_RX2_98 [0, 2, 3] [1, 4] (wr := [(a1, .inr (3, [.int 1, .int 0, .ref a8, .ref a9, .ref a10, .ref a11, .ref a12, .ref a4])), (a4, .inl (cI, 4, .inl (tb [0, 0, 0, 0])))]) rfl rfl rfl rfl (by decide) (c143_X2_at l dC dI cI cJ cII cJJ s.heap.size 0 a0 a2 a3 a1 a5 a6 a7) ⟨by decide +kernel, by decide +kernel⟩ rfl rfl (Or.inl rfl) (rest := []) rfl rfl rfl hl.1 rfl (Nat.le_of_ble_eq_true rfl) dX2_curveOf_21 ⟨Nat.le_of_ble_eq_true rfl, Nat.le_of_ble_eq_true rfl⟩ (W' := [(a1, .inr (3, [.int 1, .int 0, .ref a8, .ref a9, .ref a10, .ref a11, .ref a12, .ref a4])), (a4, .inl (cI, 4, .inl (tb [0, 0, 0, 0]))), (a0, .inr (2, [.ref a1, .ref a2, .ref a5, .ref a6, .ref a7, .int 2, .int 0])), (a2, .inr (7, [.ref a3, .int 2])), (a3, .inl (cJ, 256, .inr (.inl (tbl [8791800153088, 8808980022272]))))]) rfl (fun H locs hP hD hS => ?_)
  refine lv_i2l (v := 1) hx hb dX2_curveOf_24 (by decide +kernel) ?_
  refine lv_lstore (lv' := [(5, .long 1), (4, .int 0), (2, .long 0), (0, .ref a0), (1, .int 1)]) hx hb dX2_curveOf_25 hl (by decide) rfl (fun ls hl => ?_)
  refine lv_lload_n hx hb dX2_curveOf_27 rfl (lv_at hl 2 rfl) ?_
  refine lv_aload_n hx hb dX2_curveOf_28 rfl (lv_at hl 3 rfl) ?_
  refine gf (k := 0) hx hb hts inX2 hown hK hP k_175 rfl (by decide) rfl 2 rfl (.ref a1) rfl dX2_curveOf_29 ?_
  refine gf (k := 7) hx hb hts inX3 hown hK hP k_69 rfl (by decide) rfl 0 rfl (.ref a4) rfl dX2_curveOf_32 ?_
  refine lv_iload hx hb dX2_curveOf_35 (lv_at hl 1 rfl) ?_
  refine ld_i hx hb hK hP 1 rfl (vin (by decide +kernel)) dX2_curveOf_37 0 rfl ?_
  refine lv_i2l (v := 0) hx hb dX2_curveOf_38 (by decide +kernel) ?_
  refine lv_lload hx hb dX2_curveOf_39 (lv_at hl 0 rfl) ?_
  refine v_lmul hx hb dX2_curveOf_41 0 (by decide +kernel) ?_
  refine lv_lload hx hb dX2_curveOf_42 (lv_at hl 0 rfl) ?_
  refine v_lmul hx hb dX2_curveOf_44 0 (by decide +kernel) ?_
  refine v_ladd hx hb dX2_curveOf_45 0 (by decide +kernel) ?_
  refine lv_lstore_n (lv' := [(2, .long 0), (5, .long 1), (4, .int 0), (0, .ref a0), (1, .int 1)]) hx hb dX2_curveOf_46 rfl hl (by decide) rfl (fun ls hl => ?_)
  refine lv_iinc (v := 1) (lv' := [(4, .int 1), (2, .long 0), (5, .long 1), (0, .ref a0), (1, .int 1)]) hx hb dX2_curveOf_47 hl (k := 2) rfl (by decide +kernel) (by decide) rfl (fun ls hl => ?_)
  refine lv_goto (tgt := 5) hx hb dX2_curveOf_50 (by decide) ?_
  refine lv_iload hx hb dX2_curveOf_5 (lv_at hl 0 rfl) ?_
  refine lv_aload_n hx hb dX2_curveOf_7 rfl (lv_at hl 3 rfl) ?_
  refine gf (k := 0) hx hb hts inX2 hown hK hP k_175 rfl (by decide) rfl 2 rfl (.ref a1) rfl dX2_curveOf_8 ?_
  refine gf (k := 0) hx hb hts inX3 hown hK hP k_41 rfl (by decide) rfl 0 rfl (.int 1) rfl dX2_curveOf_11 ?_
  refine t_icmp_ge hx hb dX2_curveOf_14 53 (by decide) (by decide +kernel) ?_
  refine lv_lload_n hx hb dX2_curveOf_53 rfl (lv_at hl 1 rfl) ?_
  exact r_l hx hb hr hk hK hP hD hS dX2_curveOf_54
set_option maxRecDepth 100000 in
set_option maxHeartbeats 4000000 in
theorem c201_X8_betterHand (l : Launch) (dC : Nat → ClassId) (dI : Nat → Nat → Nat) (cI cJ cII cJJ : ClassId) (sz g a0 a1 a2 a3 a4 a5 a6 a7 a8 a9 a10 a11 a12 a13 a14 a15 a16 a17 a18 a19 : Nat) : Met l yX8_betterHand (.code yX8_betterHand cX8_betterHand 15 (some .int) :: TT) ({ frames := 5, cells := 0, slots := 0, locals := 260 }) (PcS dC dI (TY cI cJ cII cJJ) [.ref a0, .ref a1] [(a0, .inr (8, [.ref a3, .ref a1, .ref a10, .ref a11, .ref a6, .ref a12, .ref a13, .ref a14])), (a1, .inr (2, [.ref a3, .ref a2, .ref a15, .ref a16, .ref a17, .int 2, .int 0])), (a2, .inr (7, [.ref a4, .int 2])), (a3, .inr (3, [.int 1, .int 0, .ref a18, .ref a19, .ref a5, .ref a7, .ref a8, .ref a9])), (a4, .inl (cJ, 256, .inr (.inl (tbl [8791800153088, 8808980022272])))), (a5, .inl (cI, 4, .inl (tb [0, 0, 0, 0]))), (a6, .inl (cI, 4, .inl (tb []))), (a7, .inl (cI, 4, .inl (tb [10, 10, 10, 10]))), (a8, .inl (cI, 4, .inl (tb [0, 0, 0, 0]))), (a9, .inl (cI, 4, .inl (tb [0, 0, 0, 0])))] sz 0 g) ((QcI dC dI (TY cI cJ cII cJJ) (-99999) [(a0, .inr (8, [.ref a3, .ref a1, .ref a10, .ref a11, .ref a6, .ref a12, .ref a13, .ref a14])), (a5, .inl (cI, 4, .inl (tb [0, 0, 0, 0]))), (a7, .inl (cI, 4, .inl (tb [10, 10, 10, 10]))), (a8, .inl (cI, 4, .inl (tb [0, 0, 0, 0]))), (a6, .inl (cI, 4, .inl (tb []))), (a3, .inr (3, [.int 1, .int 0, .ref a18, .ref a19, .ref a5, .ref a7, .ref a8, .ref a9])), (a9, .inl (cI, 4, .inl (tb [0, 0, 0, 0]))), (a4, .inl (cJ, 256, .inr (.inl (tbl [8791800153088, 8808980022272])))), (a1, .inr (2, [.ref a3, .ref a2, .ref a15, .ref a16, .ref a17, .int 2, .int 0])), (a2, .inr (7, [.ref a4, .int 2]))]) (va_A [(a0, .inr (8, [.ref a3, .ref a1, .ref a10, .ref a11, .ref a6, .ref a12, .ref a13, .ref a14])), (a1, .inr (2, [.ref a3, .ref a2, .ref a15, .ref a16, .ref a17, .int 2, .int 0])), (a2, .inr (7, [.ref a4, .int 2])), (a3, .inr (3, [.int 1, .int 0, .ref a18, .ref a19, .ref a5, .ref a7, .ref a8, .ref a9])), (a4, .inl (cJ, 256, .inr (.inl (tbl [8791800153088, 8808980022272])))), (a5, .inl (cI, 4, .inl (tb [0, 0, 0, 0]))), (a6, .inl (cI, 4, .inl (tb []))), (a7, .inl (cI, 4, .inl (tb [10, 10, 10, 10]))), (a8, .inl (cI, 4, .inl (tb [0, 0, 0, 0]))), (a9, .inl (cI, 4, .inl (tb [0, 0, 0, 0])))] sz)) 0 0 (va_A [(a0, .inr (8, [.ref a3, .ref a1, .ref a10, .ref a11, .ref a6, .ref a12, .ref a13, .ref a14])), (a1, .inr (2, [.ref a3, .ref a2, .ref a15, .ref a16, .ref a17, .int 2, .int 0])), (a2, .inr (7, [.ref a4, .int 2])), (a3, .inr (3, [.int 1, .int 0, .ref a18, .ref a19, .ref a5, .ref a7, .ref a8, .ref a9])), (a4, .inl (cJ, 256, .inr (.inl (tbl [8791800153088, 8808980022272])))), (a5, .inl (cI, 4, .inl (tb [0, 0, 0, 0]))), (a6, .inl (cI, 4, .inl (tb []))), (a7, .inl (cI, 4, .inl (tb [10, 10, 10, 10]))), (a8, .inl (cI, 4, .inl (tb [0, 0, 0, 0]))), (a9, .inl (cI, 4, .inl (tb [0, 0, 0, 0])))] sz) := by
  refine SM.of (y := yX8_betterHand) (maxL := 15) (av := [.ref a0, .ref a1]) (QcI dC dI (TY cI cJ cII cJJ) (-99999) [(a0, .inr (8, [.ref a3, .ref a1, .ref a10, .ref a11, .ref a6, .ref a12, .ref a13, .ref a14])), (a5, .inl (cI, 4, .inl (tb [0, 0, 0, 0]))), (a7, .inl (cI, 4, .inl (tb [10, 10, 10, 10]))), (a8, .inl (cI, 4, .inl (tb [0, 0, 0, 0]))), (a6, .inl (cI, 4, .inl (tb []))), (a3, .inr (3, [.int 1, .int 0, .ref a18, .ref a19, .ref a5, .ref a7, .ref a8, .ref a9])), (a9, .inl (cI, 4, .inl (tb [0, 0, 0, 0]))), (a4, .inl (cJ, 256, .inr (.inl (tbl [8791800153088, 8808980022272])))), (a1, .inr (2, [.ref a3, .ref a2, .ref a15, .ref a16, .ref a17, .int 2, .int 0])), (a2, .inr (7, [.ref a4, .int 2]))]) (by decide +kernel) (Nat.le_of_ble_eq_true rfl) (fun p e s m below meth c A ls hx hb hr hml hown hts hk hnm hA hK hP hD hS hX hl => ?_)
  have hown : s.vm.findClass RX8 = some m.cls := hown
  have hl : lv_has ls 15 [(0, .ref a0), (1, .ref a1)] := hl
  refine lv_ldc (v := (-99999)) hx hb hown (hts _ k_543) dX8_betterHand_0 ?_
  refine lv_istore_n (lv' := [(2, .int (-99999)), (0, .ref a0), (1, .ref a1)]) hx hb dX8_betterHand_2 rfl hl (by decide) rfl (fun ls hl => ?_)
  refine lv_iconst (v := 0) hx hb dX8_betterHand_3 (by decide) ?_
  refine lv_istore_n (lv' := [(3, .int 0), (2, .int (-99999)), (0, .ref a0), (1, .ref a1)]) hx hb dX8_betterHand_4 rfl hl (by decide) rfl (fun ls hl => ?_)
  refine lv_lconst (v := 0) hx hb dX8_betterHand_5 (by decide) ?_
  refine lv_lstore (lv' := [(4, .long 0), (3, .int 0), (2, .int (-99999)), (0, .ref a0), (1, .ref a1)]) hx hb dX8_betterHand_6 hl (by decide) rfl (fun ls hl => ?_)
  refine lv_iconst (v := 0) hx hb dX8_betterHand_8 (by decide) ?_
  refine lv_istore (lv' := [(6, .int 0), (4, .long 0), (3, .int 0), (2, .int (-99999)), (0, .ref a0), (1, .ref a1)]) hx hb dX8_betterHand_9 hl (by decide) rfl (fun ls hl => ?_)
  refine lv_iload hx hb dX8_betterHand_11 (lv_at hl 0 rfl) ?_
  refine lv_aload_n hx hb dX8_betterHand_13 rfl (lv_at hl 5 rfl) ?_
  refine kV_i (q0 := 0) ⟨hx, hb, hml, hown, hts⟩ hK hP hD hS hA hX cv_RX8_156 [1, 2] [0, 3, 4, 5, 6, 7, 8, 9] (wr := [(a0, .inr (8, [.ref a3, .ref a1, .ref a10, .ref a11, .ref a6, .ref a12, .ref a13, .ref a14])), (a3, .inr (3, [.int 1, .int 0, .ref a18, .ref a19, .ref a5, .ref a7, .ref a8, .ref a9])), (a4, .inl (cJ, 256, .inr (.inl (tbl [8791800153088, 8808980022272])))), (a5, .inl (cI, 4, .inl (tb [0, 0, 0, 0]))), (a6, .inl (cI, 4, .inl (tb []))), (a7, .inl (cI, 4, .inl (tb [10, 10, 10, 10]))), (a8, .inl (cI, 4, .inl (tb [0, 0, 0, 0]))), (a9, .inl (cI, 4, .inl (tb [0, 0, 0, 0])))]) rfl rfl rfl rfl (by decide) (c129_X2_size l dC dI cI cJ cII cJJ s.heap.size 0 a1 a2 a3 a15 a16 a17 a4) ⟨by decide +kernel, by decide +kernel⟩ rfl rfl (Or.inl rfl) (rest := [.int 0]) rfl rfl rfl hl.1 rfl (Nat.le_of_ble_eq_true rfl) dX8_betterHand_14 ⟨Nat.le_of_ble_eq_true rfl, Nat.le_of_ble_eq_true rfl⟩ (W' := [(a0, .inr (8, [.ref a3, .ref a1, .ref a10, .ref a11, .ref a6, .ref a12, .ref a13, .ref a14])), (a3, .inr (3, [.int 1, .int 0, .ref a18, .ref a19, .ref a5, .ref a7, .ref a8, .ref a9])), (a4, .inl (cJ, 256, .inr (.inl (tbl [8791800153088, 8808980022272])))), (a5, .inl (cI, 4, .inl (tb [0, 0, 0, 0]))), (a6, .inl (cI, 4, .inl (tb []))), (a7, .inl (cI, 4, .inl (tb [10, 10, 10, 10]))), (a8, .inl (cI, 4, .inl (tb [0, 0, 0, 0]))), (a9, .inl (cI, 4, .inl (tb [0, 0, 0, 0]))), (a1, .inr (2, [.ref a3, .ref a2, .ref a15, .ref a16, .ref a17, .int 2, .int 0])), (a2, .inr (7, [.ref a4, .int 2]))]) rfl (fun H locs hP hD hS => ?_)
  refine f_icmp_ge hx hb dX8_betterHand_17 112 (by decide) (by decide +kernel) ?_
  refine lv_aload_n hx hb dX8_betterHand_20 rfl (lv_at hl 5 rfl) ?_
  refine lv_iload hx hb dX8_betterHand_21 (lv_at hl 0 rfl) ?_
  refine lv_aload_n hx hb dX8_betterHand_23 rfl (lv_at hl 4 rfl) ?_
  refine gf (k := 4) hx hb hts inX8 hown hK hP k_268 rfl (by decide) rfl 0 rfl (.ref a6) rfl dX8_betterHand_24 ?_
  refine kV_i (q0 := 0) ⟨hx, hb, hml, hown, hts⟩ hK hP hD hS hA hX cv_RX8_221 [8, 1, 9, 2, 3, 4] [0, 5, 6, 7] (wr := [(a0, .inr (8, [.ref a3, .ref a1, .ref a10, .ref a11, .ref a6, .ref a12, .ref a13, .ref a14])), (a7, .inl (cI, 4, .inl (tb [10, 10, 10, 10]))), (a8, .inl (cI, 4, .inl (tb [0, 0, 0, 0]))), (a9, .inl (cI, 4, .inl (tb [0, 0, 0, 0])))]) rfl rfl rfl rfl (by decide) (c202_X2_timesInBounds l dC dI cI cJ cII cJJ H.size 0 a1 a3 a2 a4 a5 a6 a15 a16 a17 a18 a19 a7 a8 a9) ⟨by decide +kernel, by decide +kernel⟩ rfl rfl (Or.inl rfl) (rest := []) rfl rfl rfl hl.1 rfl (Nat.le_of_ble_eq_true rfl) dX8_betterHand_27 ⟨Nat.le_of_ble_eq_true rfl, Nat.le_of_ble_eq_true rfl⟩ (W' := [(a0, .inr (8, [.ref a3, .ref a1, .ref a10, .ref a11, .ref a6, .ref a12, .ref a13, .ref a14])), (a7, .inl (cI, 4, .inl (tb [10, 10, 10, 10]))), (a8, .inl (cI, 4, .inl (tb [0, 0, 0, 0]))), (a9, .inl (cI, 4, .inl (tb [0, 0, 0, 0]))), (a3, .inr (3, [.int 1, .int 0, .ref a18, .ref a19, .ref a5, .ref a7, .ref a8, .ref a9])), (a5, .inl (cI, 4, .inl (tb [0, 0, 0, 0]))), (a6, .inl (cI, 4, .inl (tb []))), (a1, .inr (2, [.ref a3, .ref a2, .ref a15, .ref a16, .ref a17, .int 2, .int 0])), (a2, .inr (7, [.ref a4, .int 2])), (a4, .inl (cJ, 256, .inr (.inl (tbl [8791800153088, 8808980022272]))))]) rfl (fun H locs hP hD hS => ?_)
  refine lv_istore (lv' := [(7, .int 0), (6, .int 0), (4, .long 0), (3, .int 0), (2, .int (-99999)), (0, .ref a0), (1, .ref a1)]) hx hb dX8_betterHand_30 hl (by decide) rfl (fun ls hl => ?_)
  refine lv_iload hx hb dX8_betterHand_32 (lv_at hl 0 rfl) ?_
  refine t_if_le hx hb dX8_betterHand_34 106 (by decide) (by decide +kernel) ?_
  refine lv_iinc (v := 1) (lv' := [(6, .int 1), (7, .int 0), (4, .long 0), (3, .int 0), (2, .int (-99999)), (0, .ref a0), (1, .ref a1)]) hx hb dX8_betterHand_106 hl (k := 1) rfl (by decide +kernel) (by decide) rfl (fun ls hl => ?_)
  refine lv_goto (tgt := 11) hx hb dX8_betterHand_109 (by decide) ?_
  refine lv_iload hx hb dX8_betterHand_11 (lv_at hl 0 rfl) ?_
  refine lv_aload_n hx hb dX8_betterHand_13 rfl (lv_at hl 6 rfl) ?_
  refine kV_i (q0 := 0) ⟨hx, hb, hml, hown, hts⟩ hK hP hD hS hA hX cv_RX8_156 [7, 8] [0, 1, 2, 3, 4, 5, 6, 9] (wr := [(a0, .inr (8, [.ref a3, .ref a1, .ref a10, .ref a11, .ref a6, .ref a12, .ref a13, .ref a14])), (a7, .inl (cI, 4, .inl (tb [10, 10, 10, 10]))), (a8, .inl (cI, 4, .inl (tb [0, 0, 0, 0]))), (a9, .inl (cI, 4, .inl (tb [0, 0, 0, 0]))), (a3, .inr (3, [.int 1, .int 0, .ref a18, .ref a19, .ref a5, .ref a7, .ref a8, .ref a9])), (a5, .inl (cI, 4, .inl (tb [0, 0, 0, 0]))), (a6, .inl (cI, 4, .inl (tb []))), (a4, .inl (cJ, 256, .inr (.inl (tbl [8791800153088, 8808980022272]))))]) rfl rfl rfl rfl (by decide) (c129_X2_size l dC dI cI cJ cII cJJ H.size 0 a1 a2 a3 a15 a16 a17 a4) ⟨by decide +kernel, by decide +kernel⟩ rfl rfl (Or.inl rfl) (rest := [.int 1]) rfl rfl rfl hl.1 rfl (Nat.le_of_ble_eq_true rfl) dX8_betterHand_14 ⟨Nat.le_of_ble_eq_true rfl, Nat.le_of_ble_eq_true rfl⟩ (W' := [(a0, .inr (8, [.ref a3, .ref a1, .ref a10, .ref a11, .ref a6, .ref a12, .ref a13, .ref a14])), (a7, .inl (cI, 4, .inl (tb [10, 10, 10, 10]))), (a8, .inl (cI, 4, .inl (tb [0, 0, 0, 0]))), (a9, .inl (cI, 4, .inl (tb [0, 0, 0, 0]))), (a3, .inr (3, [.int 1, .int 0, .ref a18, .ref a19, .ref a5, .ref a7, .ref a8, .ref a9])), (a5, .inl (cI, 4, .inl (tb [0, 0, 0, 0]))), (a6, .inl (cI, 4, .inl (tb []))), (a4, .inl (cJ, 256, .inr (.inl (tbl [8791800153088, 8808980022272])))), (a1, .inr (2, [.ref a3, .ref a2, .ref a15, .ref a16, .ref a17, .int 2, .int 0])), (a2, .inr (7, [.ref a4, .int 2]))]) rfl (fun H locs hP hD hS => ?_)
  refine f_icmp_ge hx hb dX8_betterHand_17 112 (by decide) (by decide +kernel) ?_
  refine lv_aload_n hx hb dX8_betterHand_20 rfl (lv_at hl 6 rfl) ?_
  refine lv_iload hx hb dX8_betterHand_21 (lv_at hl 0 rfl) ?_
  refine lv_aload_n hx hb dX8_betterHand_23 rfl (lv_at hl 5 rfl) ?_
  refine gf (k := 4) hx hb hts inX8 hown hK hP k_268 rfl (by decide) rfl 0 rfl (.ref a6) rfl dX8_betterHand_24 ?_
  refine kV_i (q0 := 0) ⟨hx, hb, hml, hown, hts⟩ hK hP hD hS hA hX cv_RX8_221 [8, 4, 9, 7, 1, 6] [0, 2, 3, 5] (wr := [(a0, .inr (8, [.ref a3, .ref a1, .ref a10, .ref a11, .ref a6, .ref a12, .ref a13, .ref a14])), (a8, .inl (cI, 4, .inl (tb [0, 0, 0, 0]))), (a9, .inl (cI, 4, .inl (tb [0, 0, 0, 0]))), (a5, .inl (cI, 4, .inl (tb [0, 0, 0, 0])))]) rfl rfl rfl rfl (by decide) (c203_X2_timesInBounds l dC dI cI cJ cII cJJ H.size 0 a1 a3 a2 a4 a7 a6 a15 a16 a17 a18 a19 a5 a8 a9) ⟨by decide +kernel, by decide +kernel⟩ rfl rfl (Or.inl rfl) (rest := []) rfl rfl rfl hl.1 rfl (Nat.le_of_ble_eq_true rfl) dX8_betterHand_27 ⟨Nat.le_of_ble_eq_true rfl, Nat.le_of_ble_eq_true rfl⟩ (W' := [(a0, .inr (8, [.ref a3, .ref a1, .ref a10, .ref a11, .ref a6, .ref a12, .ref a13, .ref a14])), (a8, .inl (cI, 4, .inl (tb [0, 0, 0, 0]))), (a9, .inl (cI, 4, .inl (tb [0, 0, 0, 0]))), (a5, .inl (cI, 4, .inl (tb [0, 0, 0, 0]))), (a3, .inr (3, [.int 1, .int 0, .ref a18, .ref a19, .ref a5, .ref a7, .ref a8, .ref a9])), (a7, .inl (cI, 4, .inl (tb [10, 10, 10, 10]))), (a6, .inl (cI, 4, .inl (tb []))), (a1, .inr (2, [.ref a3, .ref a2, .ref a15, .ref a16, .ref a17, .int 2, .int 0])), (a2, .inr (7, [.ref a4, .int 2])), (a4, .inl (cJ, 256, .inr (.inl (tbl [8791800153088, 8808980022272]))))]) rfl (fun H locs hP hD hS => ?_)
  refine lv_istore (lv' := [(7, .int 10), (6, .int 1), (4, .long 0), (3, .int 0), (2, .int (-99999)), (0, .ref a0), (1, .ref a1)]) hx hb dX8_betterHand_30 hl (by decide) rfl (fun ls hl => ?_)
  refine lv_iload hx hb dX8_betterHand_32 (lv_at hl 0 rfl) ?_
  refine f_if_le hx hb dX8_betterHand_34 106 (by decide) (by decide +kernel) ?_
  refine lv_aload_n hx hb dX8_betterHand_37 rfl (lv_at hl 6 rfl) ?_
  refine lv_iload hx hb dX8_betterHand_38 (lv_at hl 1 rfl) ?_
  refine lv_aload_n hx hb dX8_betterHand_40 rfl (lv_at hl 5 rfl) ?_
  refine gf (k := 4) hx hb hts inX8 hown hK hP k_268 rfl (by decide) rfl 0 rfl (.ref a6) rfl dX8_betterHand_41 ?_
  refine kV_l (q0 := 0) ⟨hx, hb, hml, hown, hts⟩ hK hP hD hS hA hX cv_RX8_243 [7, 4, 8, 9, 1, 2, 6] [0, 3, 5] (wr := [(a0, .inr (8, [.ref a3, .ref a1, .ref a10, .ref a11, .ref a6, .ref a12, .ref a13, .ref a14])), (a5, .inl (cI, 4, .inl (tb [0, 0, 0, 0]))), (a7, .inl (cI, 4, .inl (tb [10, 10, 10, 10])))]) rfl rfl rfl rfl (by decide) (c204_X2_slopeAt l dC dI cI cJ cII cJJ H.size 0 a1 a3 a2 a4 a8 a9 a6 a15 a16 a17 a18 a19 a5 a7) ⟨by decide +kernel, by decide +kernel⟩ rfl rfl (Or.inl rfl) (rest := []) rfl rfl rfl hl.1 rfl (Nat.le_of_ble_eq_true rfl) dX8_betterHand_44 ⟨Nat.le_of_ble_eq_true rfl, Nat.le_of_ble_eq_true rfl⟩ (W' := [(a0, .inr (8, [.ref a3, .ref a1, .ref a10, .ref a11, .ref a6, .ref a12, .ref a13, .ref a14])), (a5, .inl (cI, 4, .inl (tb [0, 0, 0, 0]))), (a7, .inl (cI, 4, .inl (tb [10, 10, 10, 10]))), (a3, .inr (3, [.int 1, .int 0, .ref a18, .ref a19, .ref a5, .ref a7, .ref a8, .ref a9])), (a8, .inl (cI, 4, .inl (tb [0, 0, 0, 0]))), (a9, .inl (cI, 4, .inl (tb [0, 0, 0, 0]))), (a6, .inl (cI, 4, .inl (tb []))), (a1, .inr (2, [.ref a3, .ref a2, .ref a15, .ref a16, .ref a17, .int 2, .int 0])), (a2, .inr (7, [.ref a4, .int 2])), (a4, .inl (cJ, 256, .inr (.inl (tbl [8791800153088, 8808980022272]))))]) rfl (fun H locs hP hD hS => ?_)
  refine lv_lstore (lv' := [(8, .long 0), (7, .int 10), (6, .int 1), (4, .long 0), (3, .int 0), (2, .int (-99999)), (0, .ref a0), (1, .ref a1)]) hx hb dX8_betterHand_47 hl (by decide) rfl (fun ls hl => ?_)
  refine lv_aload_n hx hb dX8_betterHand_49 rfl (lv_at hl 7 rfl) ?_
  refine lv_iload hx hb dX8_betterHand_50 (lv_at hl 2 rfl) ?_
  refine kV_l (q0 := 0) ⟨hx, hb, hml, hown, hts⟩ hK hP hD hS hA hX cv_RX8_247 [7, 3, 8, 9, 5] [0, 1, 2, 4, 6] (wr := [(a0, .inr (8, [.ref a3, .ref a1, .ref a10, .ref a11, .ref a6, .ref a12, .ref a13, .ref a14])), (a5, .inl (cI, 4, .inl (tb [0, 0, 0, 0]))), (a7, .inl (cI, 4, .inl (tb [10, 10, 10, 10]))), (a8, .inl (cI, 4, .inl (tb [0, 0, 0, 0]))), (a6, .inl (cI, 4, .inl (tb [])))]) rfl rfl rfl rfl (by decide) (c205_X2_curveOf l dC dI cI cJ cII cJJ H.size 0 a1 a3 a2 a4 a9 a15 a16 a17 a18 a19 a5 a7 a8) ⟨by decide +kernel, by decide +kernel⟩ rfl rfl (Or.inl rfl) (rest := []) rfl rfl rfl hl.1 rfl (Nat.le_of_ble_eq_true rfl) dX8_betterHand_52 ⟨Nat.le_of_ble_eq_true rfl, Nat.le_of_ble_eq_true rfl⟩ (W' := [(a0, .inr (8, [.ref a3, .ref a1, .ref a10, .ref a11, .ref a6, .ref a12, .ref a13, .ref a14])), (a5, .inl (cI, 4, .inl (tb [0, 0, 0, 0]))), (a7, .inl (cI, 4, .inl (tb [10, 10, 10, 10]))), (a8, .inl (cI, 4, .inl (tb [0, 0, 0, 0]))), (a6, .inl (cI, 4, .inl (tb []))), (a3, .inr (3, [.int 1, .int 0, .ref a18, .ref a19, .ref a5, .ref a7, .ref a8, .ref a9])), (a9, .inl (cI, 4, .inl (tb [0, 0, 0, 0]))), (a1, .inr (2, [.ref a3, .ref a2, .ref a15, .ref a16, .ref a17, .int 2, .int 0])), (a2, .inr (7, [.ref a4, .int 2])), (a4, .inl (cJ, 256, .inr (.inl (tbl [8791800153088, 8808980022272]))))]) rfl (fun H locs hP hD hS => ?_)
  refine lv_lstore (lv' := [(10, .long 0), (8, .long 0), (7, .int 10), (6, .int 1), (4, .long 0), (3, .int 0), (2, .int (-99999)), (0, .ref a0), (1, .ref a1)]) hx hb dX8_betterHand_55 hl (by decide) rfl (fun ls hl => ?_)
  refine lv_iconst (v := 1) hx hb dX8_betterHand_57 (by decide) ?_
  refine lv_istore (lv' := [(12, .int 1), (10, .long 0), (8, .long 0), (7, .int 10), (6, .int 1), (4, .long 0), (3, .int 0), (2, .int (-99999)), (0, .ref a0), (1, .ref a1)]) hx hb dX8_betterHand_58 hl (by decide) rfl (fun ls hl => ?_)
  refine lv_iload hx hb dX8_betterHand_60 (lv_at hl 0 rfl) ?_
  refine lv_iload hx hb dX8_betterHand_62 (lv_at hl 3 rfl) ?_
  refine f_icmp_gt hx hb dX8_betterHand_64 106 (by decide) (by decide +kernel) ?_
  refine lv_lload hx hb dX8_betterHand_67 (lv_at hl 2 rfl) ?_
  refine lv_lload hx hb dX8_betterHand_69 (lv_at hl 1 rfl) ?_
  refine lv_iload hx hb dX8_betterHand_71 (lv_at hl 0 rfl) ?_
  refine lv_i2l (v := 1) hx hb dX8_betterHand_73 (by decide +kernel) ?_
  refine v_lmul hx hb dX8_betterHand_74 0 (by decide +kernel) ?_
  refine v_ladd hx hb dX8_betterHand_75 0 (by decide +kernel) ?_
  refine lv_iload hx hb dX8_betterHand_76 (lv_at hl 0 rfl) ?_
  refine lv_i2l (v := 1) hx hb dX8_betterHand_78 (by decide +kernel) ?_
  refine v_lmul hx hb dX8_betterHand_79 0 (by decide +kernel) ?_
  refine lv_lstore (lv' := [(13, .long 0), (12, .int 1), (10, .long 0), (8, .long 0), (7, .int 10), (6, .int 1), (4, .long 0), (3, .int 0), (2, .int (-99999)), (0, .ref a0), (1, .ref a1)]) hx hb dX8_betterHand_80 hl (by decide) rfl (fun ls hl => ?_)
  refine lv_lload hx hb dX8_betterHand_82 (lv_at hl 0 rfl) ?_
  refine lv_lload hx hb dX8_betterHand_84 (lv_at hl 6 rfl) ?_
  refine v_lcmp hx hb dX8_betterHand_86 0 (by decide +kernel) ?_
  refine t_if_ge hx hb dX8_betterHand_87 100 (by decide) (by decide +kernel) ?_
  refine lv_iinc (v := 2) (lv' := [(12, .int 2), (13, .long 0), (10, .long 0), (8, .long 0), (7, .int 10), (6, .int 1), (4, .long 0), (3, .int 0), (2, .int (-99999)), (0, .ref a0), (1, .ref a1)]) hx hb dX8_betterHand_100 hl (k := 1) rfl (by decide +kernel) (by decide) rfl (fun ls hl => ?_)
  refine lv_goto (tgt := 60) hx hb dX8_betterHand_103 (by decide) ?_
  refine lv_iload hx hb dX8_betterHand_60 (lv_at hl 0 rfl) ?_
  refine lv_iload hx hb dX8_betterHand_62 (lv_at hl 4 rfl) ?_
  refine f_icmp_gt hx hb dX8_betterHand_64 106 (by decide) (by decide +kernel) ?_
  refine lv_lload hx hb dX8_betterHand_67 (lv_at hl 3 rfl) ?_
  refine lv_lload hx hb dX8_betterHand_69 (lv_at hl 2 rfl) ?_
  refine lv_iload hx hb dX8_betterHand_71 (lv_at hl 0 rfl) ?_
  refine lv_i2l (v := 2) hx hb dX8_betterHand_73 (by decide +kernel) ?_
  refine v_lmul hx hb dX8_betterHand_74 0 (by decide +kernel) ?_
  refine v_ladd hx hb dX8_betterHand_75 0 (by decide +kernel) ?_
  refine lv_iload hx hb dX8_betterHand_76 (lv_at hl 0 rfl) ?_
  refine lv_i2l (v := 2) hx hb dX8_betterHand_78 (by decide +kernel) ?_
  refine v_lmul hx hb dX8_betterHand_79 0 (by decide +kernel) ?_
  refine lv_lstore (lv' := [(13, .long 0), (12, .int 2), (10, .long 0), (8, .long 0), (7, .int 10), (6, .int 1), (4, .long 0), (3, .int 0), (2, .int (-99999)), (0, .ref a0), (1, .ref a1)]) hx hb dX8_betterHand_80 hl (by decide) rfl (fun ls hl => ?_)
  refine lv_lload hx hb dX8_betterHand_82 (lv_at hl 0 rfl) ?_
  refine lv_lload hx hb dX8_betterHand_84 (lv_at hl 6 rfl) ?_
  refine v_lcmp hx hb dX8_betterHand_86 0 (by decide +kernel) ?_
  refine t_if_ge hx hb dX8_betterHand_87 100 (by decide) (by decide +kernel) ?_
  refine lv_iinc (v := 3) (lv' := [(12, .int 3), (13, .long 0), (10, .long 0), (8, .long 0), (7, .int 10), (6, .int 1), (4, .long 0), (3, .int 0), (2, .int (-99999)), (0, .ref a0), (1, .ref a1)]) hx hb dX8_betterHand_100 hl (k := 1) rfl (by decide +kernel) (by decide) rfl (fun ls hl => ?_)
  refine lv_goto (tgt := 60) hx hb dX8_betterHand_103 (by decide) ?_
  refine lv_iload hx hb dX8_betterHand_60 (lv_at hl 0 rfl) ?_
  refine lv_iload hx hb dX8_betterHand_62 (lv_at hl 4 rfl) ?_
  refine f_icmp_gt hx hb dX8_betterHand_64 106 (by decide) (by decide +kernel) ?_
  refine lv_lload hx hb dX8_betterHand_67 (lv_at hl 3 rfl) ?_
  refine lv_lload hx hb dX8_betterHand_69 (lv_at hl 2 rfl) ?_
  refine lv_iload hx hb dX8_betterHand_71 (lv_at hl 0 rfl) ?_
  refine lv_i2l (v := 3) hx hb dX8_betterHand_73 (by decide +kernel) ?_
  refine v_lmul hx hb dX8_betterHand_74 0 (by decide +kernel) ?_
  refine v_ladd hx hb dX8_betterHand_75 0 (by decide +kernel) ?_
  refine lv_iload hx hb dX8_betterHand_76 (lv_at hl 0 rfl) ?_
  refine lv_i2l (v := 3) hx hb dX8_betterHand_78 (by decide +kernel) ?_
  refine v_lmul hx hb dX8_betterHand_79 0 (by decide +kernel) ?_
  refine lv_lstore (lv' := [(13, .long 0), (12, .int 3), (10, .long 0), (8, .long 0), (7, .int 10), (6, .int 1), (4, .long 0), (3, .int 0), (2, .int (-99999)), (0, .ref a0), (1, .ref a1)]) hx hb dX8_betterHand_80 hl (by decide) rfl (fun ls hl => ?_)
  refine lv_lload hx hb dX8_betterHand_82 (lv_at hl 0 rfl) ?_
  refine lv_lload hx hb dX8_betterHand_84 (lv_at hl 6 rfl) ?_
  refine v_lcmp hx hb dX8_betterHand_86 0 (by decide +kernel) ?_
  refine t_if_ge hx hb dX8_betterHand_87 100 (by decide) (by decide +kernel) ?_
  refine lv_iinc (v := 4) (lv' := [(12, .int 4), (13, .long 0), (10, .long 0), (8, .long 0), (7, .int 10), (6, .int 1), (4, .long 0), (3, .int 0), (2, .int (-99999)), (0, .ref a0), (1, .ref a1)]) hx hb dX8_betterHand_100 hl (k := 1) rfl (by decide +kernel) (by decide) rfl (fun ls hl => ?_)
  refine lv_goto (tgt := 60) hx hb dX8_betterHand_103 (by decide) ?_
  refine lv_iload hx hb dX8_betterHand_60 (lv_at hl 0 rfl) ?_
  refine lv_iload hx hb dX8_betterHand_62 (lv_at hl 4 rfl) ?_
  refine f_icmp_gt hx hb dX8_betterHand_64 106 (by decide) (by decide +kernel) ?_
  refine lv_lload hx hb dX8_betterHand_67 (lv_at hl 3 rfl) ?_
  refine lv_lload hx hb dX8_betterHand_69 (lv_at hl 2 rfl) ?_
  refine lv_iload hx hb dX8_betterHand_71 (lv_at hl 0 rfl) ?_
  refine lv_i2l (v := 4) hx hb dX8_betterHand_73 (by decide +kernel) ?_
  refine v_lmul hx hb dX8_betterHand_74 0 (by decide +kernel) ?_
  refine v_ladd hx hb dX8_betterHand_75 0 (by decide +kernel) ?_
  refine lv_iload hx hb dX8_betterHand_76 (lv_at hl 0 rfl) ?_
  refine lv_i2l (v := 4) hx hb dX8_betterHand_78 (by decide +kernel) ?_
  refine v_lmul hx hb dX8_betterHand_79 0 (by decide +kernel) ?_
  refine lv_lstore (lv' := [(13, .long 0), (12, .int 4), (10, .long 0), (8, .long 0), (7, .int 10), (6, .int 1), (4, .long 0), (3, .int 0), (2, .int (-99999)), (0, .ref a0), (1, .ref a1)]) hx hb dX8_betterHand_80 hl (by decide) rfl (fun ls hl => ?_)
  refine lv_lload hx hb dX8_betterHand_82 (lv_at hl 0 rfl) ?_
  refine lv_lload hx hb dX8_betterHand_84 (lv_at hl 6 rfl) ?_
  refine v_lcmp hx hb dX8_betterHand_86 0 (by decide +kernel) ?_
  refine t_if_ge hx hb dX8_betterHand_87 100 (by decide) (by decide +kernel) ?_
  refine lv_iinc (v := 5) (lv' := [(12, .int 5), (13, .long 0), (10, .long 0), (8, .long 0), (7, .int 10), (6, .int 1), (4, .long 0), (3, .int 0), (2, .int (-99999)), (0, .ref a0), (1, .ref a1)]) hx hb dX8_betterHand_100 hl (k := 1) rfl (by decide +kernel) (by decide) rfl (fun ls hl => ?_)
  refine lv_goto (tgt := 60) hx hb dX8_betterHand_103 (by decide) ?_
  refine lv_iload hx hb dX8_betterHand_60 (lv_at hl 0 rfl) ?_
  refine lv_iload hx hb dX8_betterHand_62 (lv_at hl 4 rfl) ?_
  refine f_icmp_gt hx hb dX8_betterHand_64 106 (by decide) (by decide +kernel) ?_
  refine lv_lload hx hb dX8_betterHand_67 (lv_at hl 3 rfl) ?_
  refine lv_lload hx hb dX8_betterHand_69 (lv_at hl 2 rfl) ?_
  refine lv_iload hx hb dX8_betterHand_71 (lv_at hl 0 rfl) ?_
  refine lv_i2l (v := 5) hx hb dX8_betterHand_73 (by decide +kernel) ?_
  refine v_lmul hx hb dX8_betterHand_74 0 (by decide +kernel) ?_
  refine v_ladd hx hb dX8_betterHand_75 0 (by decide +kernel) ?_
  refine lv_iload hx hb dX8_betterHand_76 (lv_at hl 0 rfl) ?_
  refine lv_i2l (v := 5) hx hb dX8_betterHand_78 (by decide +kernel) ?_
  refine v_lmul hx hb dX8_betterHand_79 0 (by decide +kernel) ?_
  refine lv_lstore (lv' := [(13, .long 0), (12, .int 5), (10, .long 0), (8, .long 0), (7, .int 10), (6, .int 1), (4, .long 0), (3, .int 0), (2, .int (-99999)), (0, .ref a0), (1, .ref a1)]) hx hb dX8_betterHand_80 hl (by decide) rfl (fun ls hl => ?_)
  refine lv_lload hx hb dX8_betterHand_82 (lv_at hl 0 rfl) ?_
  refine lv_lload hx hb dX8_betterHand_84 (lv_at hl 6 rfl) ?_
  refine v_lcmp hx hb dX8_betterHand_86 0 (by decide +kernel) ?_
  refine t_if_ge hx hb dX8_betterHand_87 100 (by decide) (by decide +kernel) ?_
  refine lv_iinc (v := 6) (lv' := [(12, .int 6), (13, .long 0), (10, .long 0), (8, .long 0), (7, .int 10), (6, .int 1), (4, .long 0), (3, .int 0), (2, .int (-99999)), (0, .ref a0), (1, .ref a1)]) hx hb dX8_betterHand_100 hl (k := 1) rfl (by decide +kernel) (by decide) rfl (fun ls hl => ?_)
  refine lv_goto (tgt := 60) hx hb dX8_betterHand_103 (by decide) ?_
  refine lv_iload hx hb dX8_betterHand_60 (lv_at hl 0 rfl) ?_
  refine lv_iload hx hb dX8_betterHand_62 (lv_at hl 4 rfl) ?_
  refine f_icmp_gt hx hb dX8_betterHand_64 106 (by decide) (by decide +kernel) ?_
  refine lv_lload hx hb dX8_betterHand_67 (lv_at hl 3 rfl) ?_
  refine lv_lload hx hb dX8_betterHand_69 (lv_at hl 2 rfl) ?_
  refine lv_iload hx hb dX8_betterHand_71 (lv_at hl 0 rfl) ?_
  refine lv_i2l (v := 6) hx hb dX8_betterHand_73 (by decide +kernel) ?_
  refine v_lmul hx hb dX8_betterHand_74 0 (by decide +kernel) ?_
  refine v_ladd hx hb dX8_betterHand_75 0 (by decide +kernel) ?_
  refine lv_iload hx hb dX8_betterHand_76 (lv_at hl 0 rfl) ?_
  refine lv_i2l (v := 6) hx hb dX8_betterHand_78 (by decide +kernel) ?_
  refine v_lmul hx hb dX8_betterHand_79 0 (by decide +kernel) ?_
  refine lv_lstore (lv' := [(13, .long 0), (12, .int 6), (10, .long 0), (8, .long 0), (7, .int 10), (6, .int 1), (4, .long 0), (3, .int 0), (2, .int (-99999)), (0, .ref a0), (1, .ref a1)]) hx hb dX8_betterHand_80 hl (by decide) rfl (fun ls hl => ?_)
  refine lv_lload hx hb dX8_betterHand_82 (lv_at hl 0 rfl) ?_
  refine lv_lload hx hb dX8_betterHand_84 (lv_at hl 6 rfl) ?_
  refine v_lcmp hx hb dX8_betterHand_86 0 (by decide +kernel) ?_
  refine t_if_ge hx hb dX8_betterHand_87 100 (by decide) (by decide +kernel) ?_
  refine lv_iinc (v := 7) (lv' := [(12, .int 7), (13, .long 0), (10, .long 0), (8, .long 0), (7, .int 10), (6, .int 1), (4, .long 0), (3, .int 0), (2, .int (-99999)), (0, .ref a0), (1, .ref a1)]) hx hb dX8_betterHand_100 hl (k := 1) rfl (by decide +kernel) (by decide) rfl (fun ls hl => ?_)
  refine lv_goto (tgt := 60) hx hb dX8_betterHand_103 (by decide) ?_
  refine lv_iload hx hb dX8_betterHand_60 (lv_at hl 0 rfl) ?_
  refine lv_iload hx hb dX8_betterHand_62 (lv_at hl 4 rfl) ?_
  refine f_icmp_gt hx hb dX8_betterHand_64 106 (by decide) (by decide +kernel) ?_
  refine lv_lload hx hb dX8_betterHand_67 (lv_at hl 3 rfl) ?_
  refine lv_lload hx hb dX8_betterHand_69 (lv_at hl 2 rfl) ?_
  refine lv_iload hx hb dX8_betterHand_71 (lv_at hl 0 rfl) ?_
  refine lv_i2l (v := 7) hx hb dX8_betterHand_73 (by decide +kernel) ?_
  refine v_lmul hx hb dX8_betterHand_74 0 (by decide +kernel) ?_
  refine v_ladd hx hb dX8_betterHand_75 0 (by decide +kernel) ?_
  refine lv_iload hx hb dX8_betterHand_76 (lv_at hl 0 rfl) ?_
  refine lv_i2l (v := 7) hx hb dX8_betterHand_78 (by decide +kernel) ?_
  refine v_lmul hx hb dX8_betterHand_79 0 (by decide +kernel) ?_
  refine lv_lstore (lv' := [(13, .long 0), (12, .int 7), (10, .long 0), (8, .long 0), (7, .int 10), (6, .int 1), (4, .long 0), (3, .int 0), (2, .int (-99999)), (0, .ref a0), (1, .ref a1)]) hx hb dX8_betterHand_80 hl (by decide) rfl (fun ls hl => ?_)
  refine lv_lload hx hb dX8_betterHand_82 (lv_at hl 0 rfl) ?_
  refine lv_lload hx hb dX8_betterHand_84 (lv_at hl 6 rfl) ?_
  refine v_lcmp hx hb dX8_betterHand_86 0 (by decide +kernel) ?_
  refine t_if_ge hx hb dX8_betterHand_87 100 (by decide) (by decide +kernel) ?_
  refine lv_iinc (v := 8) (lv' := [(12, .int 8), (13, .long 0), (10, .long 0), (8, .long 0), (7, .int 10), (6, .int 1), (4, .long 0), (3, .int 0), (2, .int (-99999)), (0, .ref a0), (1, .ref a1)]) hx hb dX8_betterHand_100 hl (k := 1) rfl (by decide +kernel) (by decide) rfl (fun ls hl => ?_)
  refine lv_goto (tgt := 60) hx hb dX8_betterHand_103 (by decide) ?_
  refine lv_iload hx hb dX8_betterHand_60 (lv_at hl 0 rfl) ?_
  refine lv_iload hx hb dX8_betterHand_62 (lv_at hl 4 rfl) ?_
  refine f_icmp_gt hx hb dX8_betterHand_64 106 (by decide) (by decide +kernel) ?_
  refine lv_lload hx hb dX8_betterHand_67 (lv_at hl 3 rfl) ?_
  refine lv_lload hx hb dX8_betterHand_69 (lv_at hl 2 rfl) ?_
  refine lv_iload hx hb dX8_betterHand_71 (lv_at hl 0 rfl) ?_
  refine lv_i2l (v := 8) hx hb dX8_betterHand_73 (by decide +kernel) ?_
  refine v_lmul hx hb dX8_betterHand_74 0 (by decide +kernel) ?_
  refine v_ladd hx hb dX8_betterHand_75 0 (by decide +kernel) ?_
  refine lv_iload hx hb dX8_betterHand_76 (lv_at hl 0 rfl) ?_
  refine lv_i2l (v := 8) hx hb dX8_betterHand_78 (by decide +kernel) ?_
  refine v_lmul hx hb dX8_betterHand_79 0 (by decide +kernel) ?_
  refine lv_lstore (lv' := [(13, .long 0), (12, .int 8), (10, .long 0), (8, .long 0), (7, .int 10), (6, .int 1), (4, .long 0), (3, .int 0), (2, .int (-99999)), (0, .ref a0), (1, .ref a1)]) hx hb dX8_betterHand_80 hl (by decide) rfl (fun ls hl => ?_)
  refine lv_lload hx hb dX8_betterHand_82 (lv_at hl 0 rfl) ?_
  refine lv_lload hx hb dX8_betterHand_84 (lv_at hl 6 rfl) ?_
  refine v_lcmp hx hb dX8_betterHand_86 0 (by decide +kernel) ?_
  refine t_if_ge hx hb dX8_betterHand_87 100 (by decide) (by decide +kernel) ?_
  refine lv_iinc (v := 9) (lv' := [(12, .int 9), (13, .long 0), (10, .long 0), (8, .long 0), (7, .int 10), (6, .int 1), (4, .long 0), (3, .int 0), (2, .int (-99999)), (0, .ref a0), (1, .ref a1)]) hx hb dX8_betterHand_100 hl (k := 1) rfl (by decide +kernel) (by decide) rfl (fun ls hl => ?_)
  refine lv_goto (tgt := 60) hx hb dX8_betterHand_103 (by decide) ?_
  refine lv_iload hx hb dX8_betterHand_60 (lv_at hl 0 rfl) ?_
  refine lv_iload hx hb dX8_betterHand_62 (lv_at hl 4 rfl) ?_
  refine f_icmp_gt hx hb dX8_betterHand_64 106 (by decide) (by decide +kernel) ?_
  refine lv_lload hx hb dX8_betterHand_67 (lv_at hl 3 rfl) ?_
  refine lv_lload hx hb dX8_betterHand_69 (lv_at hl 2 rfl) ?_
  refine lv_iload hx hb dX8_betterHand_71 (lv_at hl 0 rfl) ?_
  refine lv_i2l (v := 9) hx hb dX8_betterHand_73 (by decide +kernel) ?_
  refine v_lmul hx hb dX8_betterHand_74 0 (by decide +kernel) ?_
  refine v_ladd hx hb dX8_betterHand_75 0 (by decide +kernel) ?_
  refine lv_iload hx hb dX8_betterHand_76 (lv_at hl 0 rfl) ?_
  refine lv_i2l (v := 9) hx hb dX8_betterHand_78 (by decide +kernel) ?_
  refine v_lmul hx hb dX8_betterHand_79 0 (by decide +kernel) ?_
  refine lv_lstore (lv' := [(13, .long 0), (12, .int 9), (10, .long 0), (8, .long 0), (7, .int 10), (6, .int 1), (4, .long 0), (3, .int 0), (2, .int (-99999)), (0, .ref a0), (1, .ref a1)]) hx hb dX8_betterHand_80 hl (by decide) rfl (fun ls hl => ?_)
  refine lv_lload hx hb dX8_betterHand_82 (lv_at hl 0 rfl) ?_
  refine lv_lload hx hb dX8_betterHand_84 (lv_at hl 6 rfl) ?_
  refine v_lcmp hx hb dX8_betterHand_86 0 (by decide +kernel) ?_
  refine t_if_ge hx hb dX8_betterHand_87 100 (by decide) (by decide +kernel) ?_
  refine lv_iinc (v := 10) (lv' := [(12, .int 10), (13, .long 0), (10, .long 0), (8, .long 0), (7, .int 10), (6, .int 1), (4, .long 0), (3, .int 0), (2, .int (-99999)), (0, .ref a0), (1, .ref a1)]) hx hb dX8_betterHand_100 hl (k := 1) rfl (by decide +kernel) (by decide) rfl (fun ls hl => ?_)
  refine lv_goto (tgt := 60) hx hb dX8_betterHand_103 (by decide) ?_
  refine lv_iload hx hb dX8_betterHand_60 (lv_at hl 0 rfl) ?_
  refine lv_iload hx hb dX8_betterHand_62 (lv_at hl 4 rfl) ?_
  refine f_icmp_gt hx hb dX8_betterHand_64 106 (by decide) (by decide +kernel) ?_
  refine lv_lload hx hb dX8_betterHand_67 (lv_at hl 3 rfl) ?_
  refine lv_lload hx hb dX8_betterHand_69 (lv_at hl 2 rfl) ?_
  refine lv_iload hx hb dX8_betterHand_71 (lv_at hl 0 rfl) ?_
  refine lv_i2l (v := 10) hx hb dX8_betterHand_73 (by decide +kernel) ?_
  refine v_lmul hx hb dX8_betterHand_74 0 (by decide +kernel) ?_
  refine v_ladd hx hb dX8_betterHand_75 0 (by decide +kernel) ?_
  refine lv_iload hx hb dX8_betterHand_76 (lv_at hl 0 rfl) ?_
  refine lv_i2l (v := 10) hx hb dX8_betterHand_78 (by decide +kernel) ?_
  refine v_lmul hx hb dX8_betterHand_79 0 (by decide +kernel) ?_
  refine lv_lstore (lv' := [(13, .long 0), (12, .int 10), (10, .long 0), (8, .long 0), (7, .int 10), (6, .int 1), (4, .long 0), (3, .int 0), (2, .int (-99999)), (0, .ref a0), (1, .ref a1)]) hx hb dX8_betterHand_80 hl (by decide) rfl (fun ls hl => ?_)
  refine lv_lload hx hb dX8_betterHand_82 (lv_at hl 0 rfl) ?_
  refine lv_lload hx hb dX8_betterHand_84 (lv_at hl 6 rfl) ?_
  refine v_lcmp hx hb dX8_betterHand_86 0 (by decide +kernel) ?_
  refine t_if_ge hx hb dX8_betterHand_87 100 (by decide) (by decide +kernel) ?_
  refine lv_iinc (v := 11) (lv' := [(12, .int 11), (13, .long 0), (10, .long 0), (8, .long 0), (7, .int 10), (6, .int 1), (4, .long 0), (3, .int 0), (2, .int (-99999)), (0, .ref a0), (1, .ref a1)]) hx hb dX8_betterHand_100 hl (k := 1) rfl (by decide +kernel) (by decide) rfl (fun ls hl => ?_)
  refine lv_goto (tgt := 60) hx hb dX8_betterHand_103 (by decide) ?_
  refine lv_iload hx hb dX8_betterHand_60 (lv_at hl 0 rfl) ?_
  refine lv_iload hx hb dX8_betterHand_62 (lv_at hl 4 rfl) ?_
  refine t_icmp_gt hx hb dX8_betterHand_64 106 (by decide) (by decide +kernel) ?_
  refine lv_iinc (v := 2) (lv' := [(6, .int 2), (12, .int 11), (13, .long 0), (10, .long 0), (8, .long 0), (7, .int 10), (4, .long 0), (3, .int 0), (2, .int (-99999)), (0, .ref a0), (1, .ref a1)]) hx hb dX8_betterHand_106 hl (k := 5) rfl (by decide +kernel) (by decide) rfl (fun ls hl => ?_)
  refine lv_goto (tgt := 11) hx hb dX8_betterHand_109 (by decide) ?_
  refine lv_iload hx hb dX8_betterHand_11 (lv_at hl 0 rfl) ?_
  refine lv_aload_n hx hb dX8_betterHand_13 rfl (lv_at hl 10 rfl) ?_
  refine kV_i (q0 := 0) ⟨hx, hb, hml, hown, hts⟩ hK hP hD hS hA hX cv_RX8_156 [7, 8] [0, 1, 2, 3, 4, 5, 6, 9] (wr := [(a0, .inr (8, [.ref a3, .ref a1, .ref a10, .ref a11, .ref a6, .ref a12, .ref a13, .ref a14])), (a5, .inl (cI, 4, .inl (tb [0, 0, 0, 0]))), (a7, .inl (cI, 4, .inl (tb [10, 10, 10, 10]))), (a8, .inl (cI, 4, .inl (tb [0, 0, 0, 0]))), (a6, .inl (cI, 4, .inl (tb []))), (a3, .inr (3, [.int 1, .int 0, .ref a18, .ref a19, .ref a5, .ref a7, .ref a8, .ref a9])), (a9, .inl (cI, 4, .inl (tb [0, 0, 0, 0]))), (a4, .inl (cJ, 256, .inr (.inl (tbl [8791800153088, 8808980022272]))))]) rfl rfl rfl rfl (by decide) (c129_X2_size l dC dI cI cJ cII cJJ H.size 0 a1 a2 a3 a15 a16 a17 a4) ⟨by decide +kernel, by decide +kernel⟩ rfl rfl (Or.inl rfl) (rest := [.int 2]) rfl rfl rfl hl.1 rfl (Nat.le_of_ble_eq_true rfl) dX8_betterHand_14 ⟨Nat.le_of_ble_eq_true rfl, Nat.le_of_ble_eq_true rfl⟩ (W' := [(a0, .inr (8, [.ref a3, .ref a1, .ref a10, .ref a11, .ref a6, .ref a12, .ref a13, .ref a14])), (a5, .inl (cI, 4, .inl (tb [0, 0, 0, 0]))), (a7, .inl (cI, 4, .inl (tb [10, 10, 10, 10]))), (a8, .inl (cI, 4, .inl (tb [0, 0, 0, 0]))), (a6, .inl (cI, 4, .inl (tb []))), (a3, .inr (3, [.int 1, .int 0, .ref a18, .ref a19, .ref a5, .ref a7, .ref a8, .ref a9])), (a9, .inl (cI, 4, .inl (tb [0, 0, 0, 0]))), (a4, .inl (cJ, 256, .inr (.inl (tbl [8791800153088, 8808980022272])))), (a1, .inr (2, [.ref a3, .ref a2, .ref a15, .ref a16, .ref a17, .int 2, .int 0])), (a2, .inr (7, [.ref a4, .int 2]))]) rfl (fun H locs hP hD hS => ?_)
  refine t_icmp_ge hx hb dX8_betterHand_17 112 (by decide) (by decide +kernel) ?_
  refine lv_iload_n hx hb dX8_betterHand_112 rfl (lv_at hl 8 rfl) ?_
  refine lv_ldc (v := (-99999)) hx hb hown (hts _ k_543) dX8_betterHand_113 ?_
  refine t_icmp_eq hx hb dX8_betterHand_115 128 (by decide) (by decide +kernel) ?_
  refine lv_iload_n hx hb dX8_betterHand_128 rfl (lv_at hl 8 rfl) ?_
  exact r_i hx hb hr hk hK hP hD hS dX8_betterHand_129
set_option maxRecDepth 100000 in
set_option maxHeartbeats 4000000 in
theorem c200_X8_better (l : Launch) (dC : Nat → ClassId) (dI : Nat → Nat → Nat) (cI cJ cII cJJ : ClassId) (sz g a0 a1 a2 a3 a4 a5 a6 a7 a8 a9 a10 a11 a12 a13 a14 a15 a16 a17 a18 a19 a20 a21 a22 a23 a24 a25 a26 a27 a28 : Nat) : Met l yX8_better (.code yX8_better cX8_better 1 (some .int) :: TT) ({ frames := 8, cells := 0, slots := 0, locals := 440 }) (PcS dC dI (TY cI cJ cII cJJ) [.ref a0] [(a0, .inr (8, [.ref a1, .ref a5, .ref a19, .ref a20, .ref a2, .ref a21, .ref a22, .ref a23])), (a1, .inr (3, [.int 1, .int 0, .ref a24, .ref a25, .ref a3, .ref a4, .ref a17, .ref a18])), (a2, .inl (cI, 4, .inl (tb []))), (a3, .inl (cI, 4, .inl (tb [0, 0, 0, 0]))), (a4, .inl (cI, 4, .inl (tb [10, 10, 10, 10]))), (a5, .inr (2, [.ref a1, .ref a6, .ref a7, .ref a13, .ref a26, .int 0, .int 1])), (a6, .inr (7, [.ref a16, .int 0])), (a7, .inr (1, [.ref a8, .ref a27, .ref a28, .int 0])), (a8, .inl (cJJ, 4, .inr (.inr (.inr (.inr (tr [a9, a10, a11, a12])))))), (a9, .inl (cJ, 4, .inr (.inl (tbl [])))), (a10, .inl (cJ, 4, .inr (.inl (tbl [])))), (a11, .inl (cJ, 4, .inr (.inl (tbl [])))), (a12, .inl (cJ, 4, .inr (.inl (tbl [])))), (a13, .inr (5, [.ref a15, .ref a14, .int 0, .int 0])), (a14, .inl (cI, 512, .inl (tb []))), (a15, .inl (cI, 512, .inl (tb []))), (a16, .inl (cJ, 256, .inr (.inl (tbl [])))), (a17, .inl (cI, 4, .inl (tb [0, 0, 0, 0]))), (a18, .inl (cI, 4, .inl (tb [0, 0, 0, 0])))] sz 1 g) ((QcI dC dI (TY cI cJ cII cJJ) (-99999) []) (va_A [(a0, .inr (8, [.ref a1, .ref a5, .ref a19, .ref a20, .ref a2, .ref a21, .ref a22, .ref a23])), (a1, .inr (3, [.int 1, .int 0, .ref a24, .ref a25, .ref a3, .ref a4, .ref a17, .ref a18])), (a2, .inl (cI, 4, .inl (tb []))), (a3, .inl (cI, 4, .inl (tb [0, 0, 0, 0]))), (a4, .inl (cI, 4, .inl (tb [10, 10, 10, 10]))), (a5, .inr (2, [.ref a1, .ref a6, .ref a7, .ref a13, .ref a26, .int 0, .int 1])), (a6, .inr (7, [.ref a16, .int 0])), (a7, .inr (1, [.ref a8, .ref a27, .ref a28, .int 0])), (a8, .inl (cJJ, 4, .inr (.inr (.inr (.inr (tr [a9, a10, a11, a12])))))), (a9, .inl (cJ, 4, .inr (.inl (tbl [])))), (a10, .inl (cJ, 4, .inr (.inl (tbl [])))), (a11, .inl (cJ, 4, .inr (.inl (tbl [])))), (a12, .inl (cJ, 4, .inr (.inl (tbl [])))), (a13, .inr (5, [.ref a15, .ref a14, .int 0, .int 0])), (a14, .inl (cI, 512, .inl (tb []))), (a15, .inl (cI, 512, .inl (tb []))), (a16, .inl (cJ, 256, .inr (.inl (tbl [])))), (a17, .inl (cI, 4, .inl (tb [0, 0, 0, 0]))), (a18, .inl (cI, 4, .inl (tb [0, 0, 0, 0])))] sz)) 0 0 (va_A [(a0, .inr (8, [.ref a1, .ref a5, .ref a19, .ref a20, .ref a2, .ref a21, .ref a22, .ref a23])), (a1, .inr (3, [.int 1, .int 0, .ref a24, .ref a25, .ref a3, .ref a4, .ref a17, .ref a18])), (a2, .inl (cI, 4, .inl (tb []))), (a3, .inl (cI, 4, .inl (tb [0, 0, 0, 0]))), (a4, .inl (cI, 4, .inl (tb [10, 10, 10, 10]))), (a5, .inr (2, [.ref a1, .ref a6, .ref a7, .ref a13, .ref a26, .int 0, .int 1])), (a6, .inr (7, [.ref a16, .int 0])), (a7, .inr (1, [.ref a8, .ref a27, .ref a28, .int 0])), (a8, .inl (cJJ, 4, .inr (.inr (.inr (.inr (tr [a9, a10, a11, a12])))))), (a9, .inl (cJ, 4, .inr (.inl (tbl [])))), (a10, .inl (cJ, 4, .inr (.inl (tbl [])))), (a11, .inl (cJ, 4, .inr (.inl (tbl [])))), (a12, .inl (cJ, 4, .inr (.inl (tbl [])))), (a13, .inr (5, [.ref a15, .ref a14, .int 0, .int 0])), (a14, .inl (cI, 512, .inl (tb []))), (a15, .inl (cI, 512, .inl (tb []))), (a16, .inl (cJ, 256, .inr (.inl (tbl [])))), (a17, .inl (cI, 4, .inl (tb [0, 0, 0, 0]))), (a18, .inl (cI, 4, .inl (tb [0, 0, 0, 0])))] sz) := by
  refine SM.of (y := yX8_better) (maxL := 1) (av := [.ref a0]) (QcI dC dI (TY cI cJ cII cJJ) (-99999) []) (by decide +kernel) (Nat.le_of_ble_eq_true rfl) (fun p e s m below meth c A ls hx hb hr hml hown hts hk hnm hA hK hP hD hS hX hl => ?_)
  have hown : s.vm.findClass RX8 = some m.cls := hown
  have hl : lv_has ls 1 [(0, .ref a0)] := hl
  refine lv_aload_n hx hb dX8_better_0 rfl (lv_at hl 0 rfl) ?_
  refine gf (k := 0) hx hb hts inX8 hown hK hP k_264 rfl (by decide) rfl 0 rfl (.ref a1) rfl dX8_better_1 ?_
  refine lv_aload_n hx hb dX8_better_4 rfl (lv_at hl 0 rfl) ?_
  refine gf (k := 4) hx hb hts inX8 hown hK hP k_268 rfl (by decide) rfl 0 rfl (.ref a2) rfl dX8_better_5 ?_
  refine kV_i (q0 := 0) ⟨hx, hb, hml, hown, hts⟩ hK hP hD hS hA hX cv_RX8_173 [1, 2, 3, 4] [0, 5, 6, 7, 8, 9, 10, 11, 12, 13, 14, 15, 16, 17, 18] (wr := [(a0, .inr (8, [.ref a1, .ref a5, .ref a19, .ref a20, .ref a2, .ref a21, .ref a22, .ref a23])), (a5, .inr (2, [.ref a1, .ref a6, .ref a7, .ref a13, .ref a26, .int 0, .int 1])), (a6, .inr (7, [.ref a16, .int 0])), (a7, .inr (1, [.ref a8, .ref a27, .ref a28, .int 0])), (a8, .inl (cJJ, 4, .inr (.inr (.inr (.inr (tr [a9, a10, a11, a12])))))), (a9, .inl (cJ, 4, .inr (.inl (tbl [])))), (a10, .inl (cJ, 4, .inr (.inl (tbl [])))), (a11, .inl (cJ, 4, .inr (.inl (tbl [])))), (a12, .inl (cJ, 4, .inr (.inl (tbl [])))), (a13, .inr (5, [.ref a15, .ref a14, .int 0, .int 0])), (a14, .inl (cI, 512, .inl (tb []))), (a15, .inl (cI, 512, .inl (tb []))), (a16, .inl (cJ, 256, .inr (.inl (tbl [])))), (a17, .inl (cI, 4, .inl (tb [0, 0, 0, 0]))), (a18, .inl (cI, 4, .inl (tb [0, 0, 0, 0])))]) rfl rfl rfl rfl (by decide) (c172_X3_isPlan l dC dI cI cJ cII cJJ s.heap.size 0 a1 a2 a3 a4 a24 a25 a17 a18) ⟨by decide +kernel, by decide +kernel⟩ rfl rfl (Or.inl rfl) (rest := []) rfl rfl rfl hl.1 rfl (Nat.le_of_ble_eq_true rfl) dX8_better_8 ⟨Nat.le_of_ble_eq_true rfl, Nat.le_of_ble_eq_true rfl⟩ (W' := [(a0, .inr (8, [.ref a1, .ref a5, .ref a19, .ref a20, .ref a2, .ref a21, .ref a22, .ref a23])), (a5, .inr (2, [.ref a1, .ref a6, .ref a7, .ref a13, .ref a26, .int 0, .int 1])), (a6, .inr (7, [.ref a16, .int 0])), (a7, .inr (1, [.ref a8, .ref a27, .ref a28, .int 0])), (a8, .inl (cJJ, 4, .inr (.inr (.inr (.inr (tr [a9, a10, a11, a12])))))), (a9, .inl (cJ, 4, .inr (.inl (tbl [])))), (a10, .inl (cJ, 4, .inr (.inl (tbl [])))), (a11, .inl (cJ, 4, .inr (.inl (tbl [])))), (a12, .inl (cJ, 4, .inr (.inl (tbl [])))), (a13, .inr (5, [.ref a15, .ref a14, .int 0, .int 0])), (a14, .inl (cI, 512, .inl (tb []))), (a15, .inl (cI, 512, .inl (tb []))), (a16, .inl (cJ, 256, .inr (.inl (tbl [])))), (a17, .inl (cI, 4, .inl (tb [0, 0, 0, 0]))), (a18, .inl (cI, 4, .inl (tb [0, 0, 0, 0]))), (a1, .inr (3, [.int 1, .int 0, .ref a24, .ref a25, .ref a3, .ref a4, .ref a17, .ref a18])), (a2, .inl (cI, 4, .inl (tb []))), (a3, .inl (cI, 4, .inl (tb [0, 0, 0, 0]))), (a4, .inl (cI, 4, .inl (tb [10, 10, 10, 10])))]) rfl (fun H locs hP hD hS => ?_)
  refine t_if_ne hx hb dX8_better_11 21 (by decide) (by decide +kernel) ?_
  refine lv_aload_n hx hb dX8_better_21 rfl (lv_at hl 0 rfl) ?_
  refine lv_aload_n hx hb dX8_better_22 rfl (lv_at hl 0 rfl) ?_
  refine kV_a (q0 := 0) ⟨hx, hb, hml, hown, hts⟩ hK hP hD hS hA hX cv_RX8_152 [0, 1, 2, 3, 15, 4, 5, 6, 7, 8, 9, 10, 11, 12] [13, 14, 16, 17, 18] (wr := [(a17, .inl (cI, 4, .inl (tb [0, 0, 0, 0]))), (a18, .inl (cI, 4, .inl (tb [0, 0, 0, 0]))), (a2, .inl (cI, 4, .inl (tb []))), (a3, .inl (cI, 4, .inl (tb [0, 0, 0, 0]))), (a4, .inl (cI, 4, .inl (tb [10, 10, 10, 10])))]) rfl rfl rfl rfl (by decide) (c096_X8_freshSteps l dC dI cI cJ cII cJJ H.size g a0 a5 a6 a7 a1 a8 a9 a10 a11 a12 a13 a14 a15 a16 a19 a20 a2 a21 a22 a23 a26 a27 a28 a24 a25 a3 a4 a17 a18) ⟨by decide +kernel, by decide +kernel⟩ rfl rfl (Or.inr ⟨rfl, rfl, rfl⟩) (rest := [.ref a0]) rfl rfl rfl hl.1 rfl (Nat.le_of_ble_eq_true rfl) dX8_better_23 ⟨Nat.le_of_ble_eq_true rfl, Nat.le_of_ble_eq_true rfl⟩ (W' := [(a17, .inl (cI, 4, .inl (tb [0, 0, 0, 0]))), (a18, .inl (cI, 4, .inl (tb [0, 0, 0, 0]))), (a2, .inl (cI, 4, .inl (tb []))), (a3, .inl (cI, 4, .inl (tb [0, 0, 0, 0]))), (a4, .inl (cI, 4, .inl (tb [10, 10, 10, 10]))), (a0, .inr (8, [.ref a1, .ref a5, .ref a19, .ref a20, .ref a2, .ref a21, .ref a22, .ref a23])), (a7, .inr (1, [.ref a8, .ref a27, .ref a28, .int 1])), (a1, .inr (3, [.int 1, .int 0, .ref a24, .ref a25, .ref a3, .ref a4, .ref a17, .ref a18])), (a8, .inl (cJJ, 4, .inr (.inr (.inr (.inr (tr [a9, a10, a11, a12])))))), (a10, .inl (cJ, 4, .inr (.inl (tbl [0, 1, 0, 0])))), (a11, .inl (cJ, 4, .inr (.inl (tbl [0, 0, 1, 0])))), (a12, .inl (cJ, 4, .inr (.inl (tbl [0, 0, 0, 1])))), (a9, .inl (cJ, 4, .inr (.inl (tbl [1, 0, 0, 0])))), (a14, .inl (cI, 512, .inl (tb [1, 0, 0, 0]))), (a13, .inr (5, [.ref a15, .ref a14, .int 1, .int 0])), (a15, .inl (cI, 512, .inl (tb [1, 0, 0, 0]))), (a16, .inl (cJ, 256, .inr (.inl (tbl [8791800153088, 8808980022272])))), (a6, .inr (7, [.ref a16, .int 2])), (a5, .inr (2, [.ref a1, .ref a6, .ref a7, .ref a13, .ref a26, .int 2, .int 0]))]) rfl (fun H locs hP hD hS => ?_)
  refine kV_i (q0 := 0) ⟨hx, hb, hml, hown, hts⟩ hK hP hD hS hA hX cv_RX8_191 [5, 18, 17, 7, 16, 3, 2, 4, 0, 1] [6, 8, 9, 10, 11, 12, 13, 14, 15] (wr := [(a7, .inr (1, [.ref a8, .ref a27, .ref a28, .int 1])), (a8, .inl (cJJ, 4, .inr (.inr (.inr (.inr (tr [a9, a10, a11, a12])))))), (a10, .inl (cJ, 4, .inr (.inl (tbl [0, 1, 0, 0])))), (a11, .inl (cJ, 4, .inr (.inl (tbl [0, 0, 1, 0])))), (a12, .inl (cJ, 4, .inr (.inl (tbl [0, 0, 0, 1])))), (a9, .inl (cJ, 4, .inr (.inl (tbl [1, 0, 0, 0])))), (a14, .inl (cI, 512, .inl (tb [1, 0, 0, 0]))), (a13, .inr (5, [.ref a15, .ref a14, .int 1, .int 0])), (a15, .inl (cI, 512, .inl (tb [1, 0, 0, 0])))]) rfl rfl rfl rfl (by decide) (c201_X8_betterHand l dC dI cI cJ cII cJJ H.size 0 a0 a5 a6 a1 a16 a3 a2 a4 a17 a18 a19 a20 a21 a22 a23 a7 a13 a26 a24 a25) ⟨by decide +kernel, by decide +kernel⟩ rfl rfl (Or.inl rfl) (rest := []) rfl rfl rfl hl.1 rfl (Nat.le_of_ble_eq_true rfl) dX8_better_26 ⟨Nat.le_of_ble_eq_true rfl, Nat.le_of_ble_eq_true rfl⟩ (W' := [(a7, .inr (1, [.ref a8, .ref a27, .ref a28, .int 1])), (a8, .inl (cJJ, 4, .inr (.inr (.inr (.inr (tr [a9, a10, a11, a12])))))), (a10, .inl (cJ, 4, .inr (.inl (tbl [0, 1, 0, 0])))), (a11, .inl (cJ, 4, .inr (.inl (tbl [0, 0, 1, 0])))), (a12, .inl (cJ, 4, .inr (.inl (tbl [0, 0, 0, 1])))), (a9, .inl (cJ, 4, .inr (.inl (tbl [1, 0, 0, 0])))), (a14, .inl (cI, 512, .inl (tb [1, 0, 0, 0]))), (a13, .inr (5, [.ref a15, .ref a14, .int 1, .int 0])), (a15, .inl (cI, 512, .inl (tb [1, 0, 0, 0]))), (a0, .inr (8, [.ref a1, .ref a5, .ref a19, .ref a20, .ref a2, .ref a21, .ref a22, .ref a23])), (a3, .inl (cI, 4, .inl (tb [0, 0, 0, 0]))), (a4, .inl (cI, 4, .inl (tb [10, 10, 10, 10]))), (a17, .inl (cI, 4, .inl (tb [0, 0, 0, 0]))), (a2, .inl (cI, 4, .inl (tb []))), (a1, .inr (3, [.int 1, .int 0, .ref a24, .ref a25, .ref a3, .ref a4, .ref a17, .ref a18])), (a18, .inl (cI, 4, .inl (tb [0, 0, 0, 0]))), (a16, .inl (cJ, 256, .inr (.inl (tbl [8791800153088, 8808980022272])))), (a5, .inr (2, [.ref a1, .ref a6, .ref a7, .ref a13, .ref a26, .int 2, .int 0])), (a6, .inr (7, [.ref a16, .int 2]))]) rfl (fun H locs hP hD hS => ?_)
  exact r_i hx hb hr hk hK (hP.sub [] rfl) (hD.sub [] rfl rfl) hS dX8_better_29
set_option maxRecDepth 100000 in
set_option maxHeartbeats 4000000 in
theorem c206_X8_best (l : Launch) (dC : Nat → ClassId) (dI : Nat → Nat → Nat) (cI cJ cII cJJ : ClassId) (sz g a0 a1 a2 a3 a4 a5 a6 a7 a8 a9 a10 a11 a12 a13 a14 a15 a16 a17 a18 a19 a20 a21 a22 a23 a24 a25 a26 a27 a28 : Nat) : Met l yX8_best (.code yX8_best cX8_best 3 (some .int) :: TT) ({ frames := 8, cells := 0, slots := 0, locals := 440 }) (PcS dC dI (TY cI cJ cII cJJ) [.ref a0] [(a0, .inr (8, [.ref a1, .ref a5, .ref a19, .ref a20, .ref a2, .ref a21, .ref a22, .ref a23])), (a1, .inr (3, [.int 1, .int 0, .ref a24, .ref a25, .ref a3, .ref a4, .ref a17, .ref a18])), (a2, .inl (cI, 4, .inl (tb []))), (a3, .inl (cI, 4, .inl (tb [0, 0, 0, 0]))), (a4, .inl (cI, 4, .inl (tb [10, 10, 10, 10]))), (a5, .inr (2, [.ref a1, .ref a6, .ref a7, .ref a13, .ref a26, .int 0, .int 1])), (a6, .inr (7, [.ref a16, .int 0])), (a7, .inr (1, [.ref a8, .ref a27, .ref a28, .int 0])), (a8, .inl (cJJ, 4, .inr (.inr (.inr (.inr (tr [a9, a10, a11, a12])))))), (a9, .inl (cJ, 4, .inr (.inl (tbl [])))), (a10, .inl (cJ, 4, .inr (.inl (tbl [])))), (a11, .inl (cJ, 4, .inr (.inl (tbl [])))), (a12, .inl (cJ, 4, .inr (.inl (tbl [])))), (a13, .inr (5, [.ref a15, .ref a14, .int 0, .int 0])), (a14, .inl (cI, 512, .inl (tb []))), (a15, .inl (cI, 512, .inl (tb []))), (a16, .inl (cJ, 256, .inr (.inl (tbl [])))), (a17, .inl (cI, 4, .inl (tb [0, 0, 0, 0]))), (a18, .inl (cI, 4, .inl (tb [0, 0, 0, 0])))] sz 1 g) ((QcI dC dI (TY cI cJ cII cJJ) 0 []) (va_A [(a0, .inr (8, [.ref a1, .ref a5, .ref a19, .ref a20, .ref a2, .ref a21, .ref a22, .ref a23])), (a1, .inr (3, [.int 1, .int 0, .ref a24, .ref a25, .ref a3, .ref a4, .ref a17, .ref a18])), (a2, .inl (cI, 4, .inl (tb []))), (a3, .inl (cI, 4, .inl (tb [0, 0, 0, 0]))), (a4, .inl (cI, 4, .inl (tb [10, 10, 10, 10]))), (a5, .inr (2, [.ref a1, .ref a6, .ref a7, .ref a13, .ref a26, .int 0, .int 1])), (a6, .inr (7, [.ref a16, .int 0])), (a7, .inr (1, [.ref a8, .ref a27, .ref a28, .int 0])), (a8, .inl (cJJ, 4, .inr (.inr (.inr (.inr (tr [a9, a10, a11, a12])))))), (a9, .inl (cJ, 4, .inr (.inl (tbl [])))), (a10, .inl (cJ, 4, .inr (.inl (tbl [])))), (a11, .inl (cJ, 4, .inr (.inl (tbl [])))), (a12, .inl (cJ, 4, .inr (.inl (tbl [])))), (a13, .inr (5, [.ref a15, .ref a14, .int 0, .int 0])), (a14, .inl (cI, 512, .inl (tb []))), (a15, .inl (cI, 512, .inl (tb []))), (a16, .inl (cJ, 256, .inr (.inl (tbl [])))), (a17, .inl (cI, 4, .inl (tb [0, 0, 0, 0]))), (a18, .inl (cI, 4, .inl (tb [0, 0, 0, 0])))] sz)) 0 0 (va_A [(a0, .inr (8, [.ref a1, .ref a5, .ref a19, .ref a20, .ref a2, .ref a21, .ref a22, .ref a23])), (a1, .inr (3, [.int 1, .int 0, .ref a24, .ref a25, .ref a3, .ref a4, .ref a17, .ref a18])), (a2, .inl (cI, 4, .inl (tb []))), (a3, .inl (cI, 4, .inl (tb [0, 0, 0, 0]))), (a4, .inl (cI, 4, .inl (tb [10, 10, 10, 10]))), (a5, .inr (2, [.ref a1, .ref a6, .ref a7, .ref a13, .ref a26, .int 0, .int 1])), (a6, .inr (7, [.ref a16, .int 0])), (a7, .inr (1, [.ref a8, .ref a27, .ref a28, .int 0])), (a8, .inl (cJJ, 4, .inr (.inr (.inr (.inr (tr [a9, a10, a11, a12])))))), (a9, .inl (cJ, 4, .inr (.inl (tbl [])))), (a10, .inl (cJ, 4, .inr (.inl (tbl [])))), (a11, .inl (cJ, 4, .inr (.inl (tbl [])))), (a12, .inl (cJ, 4, .inr (.inl (tbl [])))), (a13, .inr (5, [.ref a15, .ref a14, .int 0, .int 0])), (a14, .inl (cI, 512, .inl (tb []))), (a15, .inl (cI, 512, .inl (tb []))), (a16, .inl (cJ, 256, .inr (.inl (tbl [])))), (a17, .inl (cI, 4, .inl (tb [0, 0, 0, 0]))), (a18, .inl (cI, 4, .inl (tb [0, 0, 0, 0])))] sz) := by
  refine SM.of (y := yX8_best) (maxL := 3) (av := [.ref a0]) (QcI dC dI (TY cI cJ cII cJJ) 0 []) (by decide +kernel) (Nat.le_of_ble_eq_true rfl) (fun p e s m below meth c A ls hx hb hr hml hown hts hk hnm hA hK hP hD hS hX hl => ?_)
  have hown : s.vm.findClass RX8 = some m.cls := hown
  have hl : lv_has ls 3 [(0, .ref a0)] := hl
  refine lv_aload_n hx hb dX8_best_0 rfl (lv_at hl 0 rfl) ?_
  refine gf (k := 0) hx hb hts inX8 hown hK hP k_264 rfl (by decide) rfl 0 rfl (.ref a1) rfl dX8_best_1 ?_
  refine lv_aload_n hx hb dX8_best_4 rfl (lv_at hl 0 rfl) ?_
  refine gf (k := 4) hx hb hts inX8 hown hK hP k_268 rfl (by decide) rfl 0 rfl (.ref a2) rfl dX8_best_5 ?_
  refine kV_i (q0 := 0) ⟨hx, hb, hml, hown, hts⟩ hK hP hD hS hA hX cv_RX8_173 [1, 2, 3, 4] [0, 5, 6, 7, 8, 9, 10, 11, 12, 13, 14, 15, 16, 17, 18] (wr := [(a0, .inr (8, [.ref a1, .ref a5, .ref a19, .ref a20, .ref a2, .ref a21, .ref a22, .ref a23])), (a5, .inr (2, [.ref a1, .ref a6, .ref a7, .ref a13, .ref a26, .int 0, .int 1])), (a6, .inr (7, [.ref a16, .int 0])), (a7, .inr (1, [.ref a8, .ref a27, .ref a28, .int 0])), (a8, .inl (cJJ, 4, .inr (.inr (.inr (.inr (tr [a9, a10, a11, a12])))))), (a9, .inl (cJ, 4, .inr (.inl (tbl [])))), (a10, .inl (cJ, 4, .inr (.inl (tbl [])))), (a11, .inl (cJ, 4, .inr (.inl (tbl [])))), (a12, .inl (cJ, 4, .inr (.inl (tbl [])))), (a13, .inr (5, [.ref a15, .ref a14, .int 0, .int 0])), (a14, .inl (cI, 512, .inl (tb []))), (a15, .inl (cI, 512, .inl (tb []))), (a16, .inl (cJ, 256, .inr (.inl (tbl [])))), (a17, .inl (cI, 4, .inl (tb [0, 0, 0, 0]))), (a18, .inl (cI, 4, .inl (tb [0, 0, 0, 0])))]) rfl rfl rfl rfl (by decide) (c172_X3_isPlan l dC dI cI cJ cII cJJ s.heap.size 0 a1 a2 a3 a4 a24 a25 a17 a18) ⟨by decide +kernel, by decide +kernel⟩ rfl rfl (Or.inl rfl) (rest := []) rfl rfl rfl hl.1 rfl (Nat.le_of_ble_eq_true rfl) dX8_best_8 ⟨Nat.le_of_ble_eq_true rfl, Nat.le_of_ble_eq_true rfl⟩ (W' := [(a0, .inr (8, [.ref a1, .ref a5, .ref a19, .ref a20, .ref a2, .ref a21, .ref a22, .ref a23])), (a5, .inr (2, [.ref a1, .ref a6, .ref a7, .ref a13, .ref a26, .int 0, .int 1])), (a6, .inr (7, [.ref a16, .int 0])), (a7, .inr (1, [.ref a8, .ref a27, .ref a28, .int 0])), (a8, .inl (cJJ, 4, .inr (.inr (.inr (.inr (tr [a9, a10, a11, a12])))))), (a9, .inl (cJ, 4, .inr (.inl (tbl [])))), (a10, .inl (cJ, 4, .inr (.inl (tbl [])))), (a11, .inl (cJ, 4, .inr (.inl (tbl [])))), (a12, .inl (cJ, 4, .inr (.inl (tbl [])))), (a13, .inr (5, [.ref a15, .ref a14, .int 0, .int 0])), (a14, .inl (cI, 512, .inl (tb []))), (a15, .inl (cI, 512, .inl (tb []))), (a16, .inl (cJ, 256, .inr (.inl (tbl [])))), (a17, .inl (cI, 4, .inl (tb [0, 0, 0, 0]))), (a18, .inl (cI, 4, .inl (tb [0, 0, 0, 0]))), (a1, .inr (3, [.int 1, .int 0, .ref a24, .ref a25, .ref a3, .ref a4, .ref a17, .ref a18])), (a2, .inl (cI, 4, .inl (tb []))), (a3, .inl (cI, 4, .inl (tb [0, 0, 0, 0]))), (a4, .inl (cI, 4, .inl (tb [10, 10, 10, 10])))]) rfl (fun H locs hP hD hS => ?_)
  refine t_if_ne hx hb dX8_best_11 21 (by decide) (by decide +kernel) ?_
  refine lv_aload_n hx hb dX8_best_21 rfl (lv_at hl 0 rfl) ?_
  refine kV_a (q0 := 0) ⟨hx, hb, hml, hown, hts⟩ hK hP hD hS hA hX cv_RX8_152 [0, 1, 2, 3, 15, 4, 5, 6, 7, 8, 9, 10, 11, 12] [13, 14, 16, 17, 18] (wr := [(a17, .inl (cI, 4, .inl (tb [0, 0, 0, 0]))), (a18, .inl (cI, 4, .inl (tb [0, 0, 0, 0]))), (a2, .inl (cI, 4, .inl (tb []))), (a3, .inl (cI, 4, .inl (tb [0, 0, 0, 0]))), (a4, .inl (cI, 4, .inl (tb [10, 10, 10, 10])))]) rfl rfl rfl rfl (by decide) (c096_X8_freshSteps l dC dI cI cJ cII cJJ H.size g a0 a5 a6 a7 a1 a8 a9 a10 a11 a12 a13 a14 a15 a16 a19 a20 a2 a21 a22 a23 a26 a27 a28 a24 a25 a3 a4 a17 a18) ⟨by decide +kernel, by decide +kernel⟩ rfl rfl (Or.inr ⟨rfl, rfl, rfl⟩) (rest := []) rfl rfl rfl hl.1 rfl (Nat.le_of_ble_eq_true rfl) dX8_best_22 ⟨Nat.le_of_ble_eq_true rfl, Nat.le_of_ble_eq_true rfl⟩ (W' := [(a17, .inl (cI, 4, .inl (tb [0, 0, 0, 0]))), (a18, .inl (cI, 4, .inl (tb [0, 0, 0, 0]))), (a2, .inl (cI, 4, .inl (tb []))), (a3, .inl (cI, 4, .inl (tb [0, 0, 0, 0]))), (a4, .inl (cI, 4, .inl (tb [10, 10, 10, 10]))), (a0, .inr (8, [.ref a1, .ref a5, .ref a19, .ref a20, .ref a2, .ref a21, .ref a22, .ref a23])), (a7, .inr (1, [.ref a8, .ref a27, .ref a28, .int 1])), (a1, .inr (3, [.int 1, .int 0, .ref a24, .ref a25, .ref a3, .ref a4, .ref a17, .ref a18])), (a8, .inl (cJJ, 4, .inr (.inr (.inr (.inr (tr [a9, a10, a11, a12])))))), (a10, .inl (cJ, 4, .inr (.inl (tbl [0, 1, 0, 0])))), (a11, .inl (cJ, 4, .inr (.inl (tbl [0, 0, 1, 0])))), (a12, .inl (cJ, 4, .inr (.inl (tbl [0, 0, 0, 1])))), (a9, .inl (cJ, 4, .inr (.inl (tbl [1, 0, 0, 0])))), (a14, .inl (cI, 512, .inl (tb [1, 0, 0, 0]))), (a13, .inr (5, [.ref a15, .ref a14, .int 1, .int 0])), (a15, .inl (cI, 512, .inl (tb [1, 0, 0, 0]))), (a16, .inl (cJ, 256, .inr (.inl (tbl [8791800153088, 8808980022272])))), (a6, .inr (7, [.ref a16, .int 2])), (a5, .inr (2, [.ref a1, .ref a6, .ref a7, .ref a13, .ref a26, .int 2, .int 0]))]) rfl (fun H locs hP hD hS => ?_)
  refine lv_astore_n (lv' := [(1, .ref a5), (0, .ref a0)]) hx hb dX8_best_25 rfl hl (by decide) rfl (fun ls hl => ?_)
  refine lv_iconst (v := 0) hx hb dX8_best_26 (by decide) ?_
  refine lv_istore_n (lv' := [(2, .int 0), (1, .ref a5), (0, .ref a0)]) hx hb dX8_best_27 rfl hl (by decide) rfl (fun ls hl => ?_)
  refine lv_iload_n hx hb dX8_best_28 rfl (lv_at hl 0 rfl) ?_
  refine lv_ldc (v := 200000) hx hb hown (hts _ k_650) dX8_best_29 ?_
  refine f_icmp_ge hx hb dX8_best_31 50 (by decide) (by decide +kernel) ?_
  refine lv_aload_n hx hb dX8_best_34 rfl (lv_at hl 2 rfl) ?_
  refine lv_aload_n hx hb dX8_best_35 rfl (lv_at hl 1 rfl) ?_
  refine kV_i (q0 := 0) ⟨hx, hb, hml, hown, hts⟩ hK hP hD hS hA hX cv_RX8_191 [5, 18, 17, 7, 16, 3, 2, 4, 0, 1] [6, 8, 9, 10, 11, 12, 13, 14, 15] (wr := [(a7, .inr (1, [.ref a8, .ref a27, .ref a28, .int 1])), (a8, .inl (cJJ, 4, .inr (.inr (.inr (.inr (tr [a9, a10, a11, a12])))))), (a10, .inl (cJ, 4, .inr (.inl (tbl [0, 1, 0, 0])))), (a11, .inl (cJ, 4, .inr (.inl (tbl [0, 0, 1, 0])))), (a12, .inl (cJ, 4, .inr (.inl (tbl [0, 0, 0, 1])))), (a9, .inl (cJ, 4, .inr (.inl (tbl [1, 0, 0, 0])))), (a14, .inl (cI, 512, .inl (tb [1, 0, 0, 0]))), (a13, .inr (5, [.ref a15, .ref a14, .int 1, .int 0])), (a15, .inl (cI, 512, .inl (tb [1, 0, 0, 0])))]) rfl rfl rfl rfl (by decide) (c201_X8_betterHand l dC dI cI cJ cII cJJ H.size 0 a0 a5 a6 a1 a16 a3 a2 a4 a17 a18 a19 a20 a21 a22 a23 a7 a13 a26 a24 a25) ⟨by decide +kernel, by decide +kernel⟩ rfl rfl (Or.inl rfl) (rest := []) rfl rfl rfl hl.1 rfl (Nat.le_of_ble_eq_true rfl) dX8_best_36 ⟨Nat.le_of_ble_eq_true rfl, Nat.le_of_ble_eq_true rfl⟩ (W' := [(a7, .inr (1, [.ref a8, .ref a27, .ref a28, .int 1])), (a8, .inl (cJJ, 4, .inr (.inr (.inr (.inr (tr [a9, a10, a11, a12])))))), (a10, .inl (cJ, 4, .inr (.inl (tbl [0, 1, 0, 0])))), (a11, .inl (cJ, 4, .inr (.inl (tbl [0, 0, 1, 0])))), (a12, .inl (cJ, 4, .inr (.inl (tbl [0, 0, 0, 1])))), (a9, .inl (cJ, 4, .inr (.inl (tbl [1, 0, 0, 0])))), (a14, .inl (cI, 512, .inl (tb [1, 0, 0, 0]))), (a13, .inr (5, [.ref a15, .ref a14, .int 1, .int 0])), (a15, .inl (cI, 512, .inl (tb [1, 0, 0, 0]))), (a0, .inr (8, [.ref a1, .ref a5, .ref a19, .ref a20, .ref a2, .ref a21, .ref a22, .ref a23])), (a3, .inl (cI, 4, .inl (tb [0, 0, 0, 0]))), (a4, .inl (cI, 4, .inl (tb [10, 10, 10, 10]))), (a17, .inl (cI, 4, .inl (tb [0, 0, 0, 0]))), (a2, .inl (cI, 4, .inl (tb []))), (a1, .inr (3, [.int 1, .int 0, .ref a24, .ref a25, .ref a3, .ref a4, .ref a17, .ref a18])), (a18, .inl (cI, 4, .inl (tb [0, 0, 0, 0]))), (a16, .inl (cJ, 256, .inr (.inl (tbl [8791800153088, 8808980022272])))), (a5, .inr (2, [.ref a1, .ref a6, .ref a7, .ref a13, .ref a26, .int 2, .int 0])), (a6, .inr (7, [.ref a16, .int 2]))]) rfl (fun H locs hP hD hS => ?_)
  refine lv_ldc (v := (-99999)) hx hb hown (hts _ k_543) dX8_best_39 ?_
  refine t_icmp_eq hx hb dX8_best_41 50 (by decide) (by decide +kernel) ?_
  refine lv_iload_n hx hb dX8_best_50 rfl (lv_at hl 0 rfl) ?_
  exact r_i hx hb hr hk hK (hP.sub [] rfl) (hD.sub [] rfl rfl) hS dX8_best_51
set_option maxRecDepth 100000 in
set_option maxHeartbeats 4000000 in
theorem c210_X3_isFree (l : Launch) (dC : Nat → ClassId) (dI : Nat → Nat → Nat) (cI cJ cII cJJ : ClassId) (sz g a0 a1 a2 a3 a4 a5 a6 : Nat) : Met l yX3_isFree (.code yX3_isFree cX3_isFree 3 (some .boolean) :: TT) ({ frames := 2, cells := 0, slots := 0, locals := 80 }) (PcS dC dI (TY cI cJ cII cJJ) [.ref a0, .int 0] [(a0, .inr (3, [.int 1, .int 0, .ref a1, .ref a2, .ref a3, .ref a4, .ref a5, .ref a6]))] sz 0 g) ((QcI dC dI (TY cI cJ cII cJJ) 1 [(a0, .inr (3, [.int 1, .int 0, .ref a1, .ref a2, .ref a3, .ref a4, .ref a5, .ref a6]))]) (va_A [(a0, .inr (3, [.int 1, .int 0, .ref a1, .ref a2, .ref a3, .ref a4, .ref a5, .ref a6]))] sz)) 0 0 (va_A [(a0, .inr (3, [.int 1, .int 0, .ref a1, .ref a2, .ref a3, .ref a4, .ref a5, .ref a6]))] sz) := by
  refine SM.of (y := yX3_isFree) (maxL := 3) (av := [.ref a0, .int 0]) (QcI dC dI (TY cI cJ cII cJJ) 1 [(a0, .inr (3, [.int 1, .int 0, .ref a1, .ref a2, .ref a3, .ref a4, .ref a5, .ref a6]))]) (by decide +kernel) (Nat.le_of_ble_eq_true rfl) (fun p e s m below meth c A ls hx hb hr hml hown hts hk hnm hA hK hP hD hS hX hl => ?_)
  have hown : s.vm.findClass RX3 = some m.cls := hown
  have hl : lv_has ls 3 [(0, .ref a0), (1, .int 0)] := hl
  refine lv_iconst (v := 0) hx hb dX3_isFree_0 (by decide) ?_
  refine lv_istore_n (lv' := [(2, .int 0), (0, .ref a0), (1, .int 0)]) hx hb dX3_isFree_1 rfl hl (by decide) rfl (fun ls hl => ?_)
  refine lv_iload_n hx hb dX3_isFree_2 rfl (lv_at hl 0 rfl) ?_
  refine lv_aload_n hx hb dX3_isFree_3 rfl (lv_at hl 1 rfl) ?_
  refine gf (k := 1) hx hb hts inX3 hown hK hP k_43 rfl (by decide) rfl 0 rfl (.int 0) rfl dX3_isFree_4 ?_
  refine t_icmp_ge hx hb dX3_isFree_7 29 (by decide) (by decide +kernel) ?_
  refine lv_iconst (v := 1) hx hb dX3_isFree_29 (by decide) ?_
  exact r_z hx hb hr hk hK hP hD hS dX3_isFree_30 rfl
set_option maxRecDepth 100000 in
set_option maxHeartbeats 4000000 in
theorem c211_X4_findSums (l : Launch) (dC : Nat → ClassId) (dI : Nat → Nat → Nat) (cI cJ cII cJJ : ClassId) (sz g a0 a1 a2 a3 a4 a5 a6 a7 a8 a9 a10 a11 a12 a13 a14 : Nat) : Met l yX4_findSums (.code yX4_findSums cX4_findSums 5 none :: TT) ({ frames := 2, cells := 0, slots := 0, locals := 80 }) (PcS dC dI (TY cI cJ cII cJJ) [.ref a0] [(a0, .inr (4, [.ref a1, .ref a2, .ref a3, .ref a4, .ref a5, .ref a6, .ref a7, .ref a8, .int 0, .int 11, .int 1, .int 0])), (a1, .inr (3, [.int 1, .int 0, .ref a9, .ref a10, .ref a11, .ref a12, .ref a13, .ref a14]))] sz 0 g) ((QcV dC dI (TY cI cJ cII cJJ) (fun _ => [(a0, .inr (4, [.ref a1, .ref a2, .ref a3, .ref a4, .ref a5, .ref a6, .ref a7, .ref a8, .int 0, .int 11, .int 1, .int 0])), (a1, .inr (3, [.int 1, .int 0, .ref a9, .ref a10, .ref a11, .ref a12, .ref a13, .ref a14]))])) (va_A [(a0, .inr (4, [.ref a1, .ref a2, .ref a3, .ref a4, .ref a5, .ref a6, .ref a7, .ref a8, .int 0, .int 11, .int 1, .int 0])), (a1, .inr (3, [.int 1, .int 0, .ref a9, .ref a10, .ref a11, .ref a12, .ref a13, .ref a14]))] sz)) 0 0 (va_A [(a0, .inr (4, [.ref a1, .ref a2, .ref a3, .ref a4, .ref a5, .ref a6, .ref a7, .ref a8, .int 0, .int 11, .int 1, .int 0])), (a1, .inr (3, [.int 1, .int 0, .ref a9, .ref a10, .ref a11, .ref a12, .ref a13, .ref a14]))] sz) := by
  refine SM.of (y := yX4_findSums) (maxL := 5) (av := [.ref a0]) (QcV dC dI (TY cI cJ cII cJJ) (fun _ => [(a0, .inr (4, [.ref a1, .ref a2, .ref a3, .ref a4, .ref a5, .ref a6, .ref a7, .ref a8, .int 0, .int 11, .int 1, .int 0])), (a1, .inr (3, [.int 1, .int 0, .ref a9, .ref a10, .ref a11, .ref a12, .ref a13, .ref a14]))])) (by decide +kernel) (Nat.le_of_ble_eq_true rfl) (fun p e s m below meth c A ls hx hb hr hml hown hts hk hnm hA hK hP hD hS hX hl => ?_)
  have hown : s.vm.findClass RX4 = some m.cls := hown
  have hl : lv_has ls 5 [(0, .ref a0)] := hl
  refine lv_iconst (v := 0) hx hb dX4_findSums_0 (by decide) ?_
  refine lv_istore_n (lv' := [(1, .int 0), (0, .ref a0)]) hx hb dX4_findSums_1 rfl hl (by decide) rfl (fun ls hl => ?_)
  refine lv_iload_n hx hb dX4_findSums_2 rfl (lv_at hl 0 rfl) ?_
  refine lv_aload_n hx hb dX4_findSums_3 rfl (lv_at hl 1 rfl) ?_
  refine gf (k := 0) hx hb hts inX4 hown hK hP k_205 rfl (by decide) rfl 0 rfl (.ref a1) rfl dX4_findSums_4 ?_
  refine gf (k := 1) hx hb hts inX3 hown hK hP k_47 rfl (by decide) rfl 1 rfl (.int 0) rfl dX4_findSums_7 ?_
  refine t_icmp_ge hx hb dX4_findSums_10 181 (by decide) (by decide +kernel) ?_
  exact r_v (fun _ => 0) hx hb hr hk hK hP hD hS dX4_findSums_181
set_option maxRecDepth 100000 in
set_option maxHeartbeats 4000000 in
theorem c213_X4_appendBlock (l : Launch) (dC : Nat → ClassId) (dI : Nat → Nat → Nat) (cI cJ cII cJJ : ClassId) (sz g a0 a1 a2 a3 a4 a5 a6 a7 a8 : Nat) : Met l yX4_appendBlock (.code yX4_appendBlock cX4_appendBlock 2 none :: TT) ({ frames := 2, cells := 0, slots := 0, locals := 80 }) (PcS dC dI (TY cI cJ cII cJJ) [.ref a0, .int 10] [(a0, .inr (4, [.ref a2, .ref a1, .ref a3, .ref a4, .ref a5, .ref a6, .ref a7, .ref a8, .int 0, .int 11, .int 1, .int 0])), (a1, .inl (cI, 9261, .inl (tb [])))] sz 0 g) ((QcV dC dI (TY cI cJ cII cJJ) (fun _ => [(a0, .inr (4, [.ref a2, .ref a1, .ref a3, .ref a4, .ref a5, .ref a6, .ref a7, .ref a8, .int 1, .int 11, .int 1, .int 0])), (a1, .inl (cI, 9261, .inl (tb [10])))])) (va_A [(a0, .inr (4, [.ref a2, .ref a1, .ref a3, .ref a4, .ref a5, .ref a6, .ref a7, .ref a8, .int 0, .int 11, .int 1, .int 0])), (a1, .inl (cI, 9261, .inl (tb [])))] sz)) 0 0 (va_A [(a0, .inr (4, [.ref a2, .ref a1, .ref a3, .ref a4, .ref a5, .ref a6, .ref a7, .ref a8, .int 0, .int 11, .int 1, .int 0])), (a1, .inl (cI, 9261, .inl (tb [])))] sz) := by
  refine SM.of (y := yX4_appendBlock) (maxL := 2) (av := [.ref a0, .int 10]) (QcV dC dI (TY cI cJ cII cJJ) (fun _ => [(a0, .inr (4, [.ref a2, .ref a1, .ref a3, .ref a4, .ref a5, .ref a6, .ref a7, .ref a8, .int 1, .int 11, .int 1, .int 0])), (a1, .inl (cI, 9261, .inl (tb [10])))])) (by decide +kernel) (Nat.le_of_ble_eq_true rfl) (fun p e s m below meth c A ls hx hb hr hml hown hts hk hnm hA hK hP hD hS hX hl => ?_)
  have hown : s.vm.findClass RX4 = some m.cls := hown
  have hl : lv_has ls 2 [(0, .ref a0), (1, .int 10)] := hl
  refine lv_aload_n hx hb dX4_appendBlock_0 rfl (lv_at hl 0 rfl) ?_
  refine gf (k := 8) hx hb hts inX4 hown hK hP k_213 rfl (by decide) rfl 0 rfl (.int 0) rfl dX4_appendBlock_1 ?_
  refine lv_sipush (v := 9261) hx hb dX4_appendBlock_4 (by decide) ?_
  refine f_icmp_ge hx hb dX4_appendBlock_7 30 (by decide) (by decide +kernel) ?_
  refine lv_aload_n hx hb dX4_appendBlock_10 rfl (lv_at hl 0 rfl) ?_
  refine gf (k := 1) hx hb hts inX4 hown hK hP k_206 rfl (by decide) rfl 0 rfl (.ref a1) rfl dX4_appendBlock_11 ?_
  refine lv_aload_n hx hb dX4_appendBlock_14 rfl (lv_at hl 0 rfl) ?_
  refine gf (k := 8) hx hb hts inX4 hown hK hP k_213 rfl (by decide) rfl 0 rfl (.int 0) rfl dX4_appendBlock_15 ?_
  refine lv_iload_n hx hb dX4_appendBlock_18 rfl (lv_at hl 1 rfl) ?_
  refine st_i hx hb hK hP hD hS 1 rfl (vin (by decide +kernel)) dX4_appendBlock_19 (L' := [10]) rfl (W' := [(a0, .inr (4, [.ref a2, .ref a1, .ref a3, .ref a4, .ref a5, .ref a6, .ref a7, .ref a8, .int 0, .int 11, .int 1, .int 0])), (a1, .inl (cI, 9261, .inl (tb [10])))]) rfl (fun H locs hP hD hS => ?_)
  refine lv_aload_n hx hb dX4_appendBlock_20 rfl (lv_at hl 0 rfl) ?_
  refine lv_dup hx hb dX4_appendBlock_21 rfl ?_
  refine gf (k := 8) hx hb hts inX4 hown hK hP k_213 rfl (by decide) rfl 0 rfl (.int 0) rfl dX4_appendBlock_22 ?_
  refine lv_iconst (v := 1) hx hb dX4_appendBlock_25 (by decide) ?_
  refine v_iadd hx hb dX4_appendBlock_26 1 (by decide +kernel) ?_
  refine pf (k := 8) hx hb hts inX4 tyX4_ok nmX4 hown hK hP hD hS k_213 rfl (by decide) rfl rfl 0 rfl rfl rfl (Nat.le_of_ble_eq_true rfl) dX4_appendBlock_27 (W' := [(a0, .inr (4, [.ref a2, .ref a1, .ref a3, .ref a4, .ref a5, .ref a6, .ref a7, .ref a8, .int 1, .int 11, .int 1, .int 0])), (a1, .inl (cI, 9261, .inl (tb [10])))]) rfl (fun H locs hP hD hS => ?_)
  exact r_v (fun _ => 0) hx hb hr hk hK hP hD hS dX4_appendBlock_30
set_option maxRecDepth 100000 in
set_option maxHeartbeats 4000000 in
theorem c212_X4_searchFrom (l : Launch) (dC : Nat → ClassId) (dI : Nat → Nat → Nat) (cI cJ cII cJJ : ClassId) (sz g a0 a1 a2 a3 a4 a5 a6 a7 a8 a9 a10 a11 a12 a13 a14 : Nat) : Met l yX4_searchFrom (.code yX4_searchFrom cX4_searchFrom 4 none :: TT) ({ frames := 3, cells := 0, slots := 0, locals := 140 }) (PcS dC dI (TY cI cJ cII cJJ) [.ref a0, .int 0, .int 0] [(a0, .inr (4, [.ref a1, .ref a6, .ref a7, .ref a3, .ref a5, .ref a8, .ref a9, .ref a10, .int 0, .int 11, .int 1, .int 0])), (a1, .inr (3, [.int 1, .int 0, .ref a11, .ref a12, .ref a2, .ref a4, .ref a13, .ref a14])), (a2, .inl (cI, 4, .inl (tb [0, 0, 0, 0]))), (a3, .inl (cI, 4, .inl (tb []))), (a4, .inl (cI, 4, .inl (tb [10, 10, 10, 10]))), (a5, .inl (cI, 4, .inl (tb []))), (a6, .inl (cI, 9261, .inl (tb [])))] sz 0 g) ((QcV dC dI (TY cI cJ cII cJJ) (fun _ => [(a1, .inr (3, [.int 1, .int 0, .ref a11, .ref a12, .ref a2, .ref a4, .ref a13, .ref a14])), (a2, .inl (cI, 4, .inl (tb [0, 0, 0, 0]))), (a3, .inl (cI, 4, .inl (tb [0]))), (a4, .inl (cI, 4, .inl (tb [10, 10, 10, 10]))), (a5, .inl (cI, 4, .inl (tb [10]))), (a0, .inr (4, [.ref a1, .ref a6, .ref a7, .ref a3, .ref a5, .ref a8, .ref a9, .ref a10, .int 1, .int 11, .int 1, .int 0])), (a6, .inl (cI, 9261, .inl (tb [10])))])) (va_A [(a0, .inr (4, [.ref a1, .ref a6, .ref a7, .ref a3, .ref a5, .ref a8, .ref a9, .ref a10, .int 0, .int 11, .int 1, .int 0])), (a1, .inr (3, [.int 1, .int 0, .ref a11, .ref a12, .ref a2, .ref a4, .ref a13, .ref a14])), (a2, .inl (cI, 4, .inl (tb [0, 0, 0, 0]))), (a3, .inl (cI, 4, .inl (tb []))), (a4, .inl (cI, 4, .inl (tb [10, 10, 10, 10]))), (a5, .inl (cI, 4, .inl (tb []))), (a6, .inl (cI, 9261, .inl (tb [])))] sz)) 0 0 (va_A [(a0, .inr (4, [.ref a1, .ref a6, .ref a7, .ref a3, .ref a5, .ref a8, .ref a9, .ref a10, .int 0, .int 11, .int 1, .int 0])), (a1, .inr (3, [.int 1, .int 0, .ref a11, .ref a12, .ref a2, .ref a4, .ref a13, .ref a14])), (a2, .inl (cI, 4, .inl (tb [0, 0, 0, 0]))), (a3, .inl (cI, 4, .inl (tb []))), (a4, .inl (cI, 4, .inl (tb [10, 10, 10, 10]))), (a5, .inl (cI, 4, .inl (tb []))), (a6, .inl (cI, 9261, .inl (tb [])))] sz) := by
  refine SM.of (y := yX4_searchFrom) (maxL := 4) (av := [.ref a0, .int 0, .int 0]) (QcV dC dI (TY cI cJ cII cJJ) (fun _ => [(a1, .inr (3, [.int 1, .int 0, .ref a11, .ref a12, .ref a2, .ref a4, .ref a13, .ref a14])), (a2, .inl (cI, 4, .inl (tb [0, 0, 0, 0]))), (a3, .inl (cI, 4, .inl (tb [0]))), (a4, .inl (cI, 4, .inl (tb [10, 10, 10, 10]))), (a5, .inl (cI, 4, .inl (tb [10]))), (a0, .inr (4, [.ref a1, .ref a6, .ref a7, .ref a3, .ref a5, .ref a8, .ref a9, .ref a10, .int 1, .int 11, .int 1, .int 0])), (a6, .inl (cI, 9261, .inl (tb [10])))])) (by decide +kernel) (Nat.le_of_ble_eq_true rfl) (fun p e s m below meth c A ls hx hb hr hml hown hts hk hnm hA hK hP hD hS hX hl => ?_)
  have hown : s.vm.findClass RX4 = some m.cls := hown
  have hl : lv_has ls 4 [(0, .ref a0), (1, .int 0), (2, .int 0)] := hl
  refine lv_iload_n hx hb dX4_searchFrom_0 rfl (lv_at hl 1 rfl) ?_
  refine f_if_lt hx hb dX4_searchFrom_1 15 (by decide) (by decide +kernel) ?_
  refine lv_iload_n hx hb dX4_searchFrom_4 rfl (lv_at hl 1 rfl) ?_
  refine lv_aload_n hx hb dX4_searchFrom_5 rfl (lv_at hl 0 rfl) ?_
  refine gf (k := 0) hx hb hts inX4 hown hK hP k_205 rfl (by decide) rfl 0 rfl (.ref a1) rfl dX4_searchFrom_6 ?_
  refine gf (k := 0) hx hb hts inX3 hown hK hP k_39 rfl (by decide) rfl 1 rfl (.int 1) rfl dX4_searchFrom_9 ?_
  refine t_icmp_lt hx hb dX4_searchFrom_12 16 (by decide) (by decide +kernel) ?_
  refine lv_aload_n hx hb dX4_searchFrom_16 rfl (lv_at hl 0 rfl) ?_
  refine gf (k := 3) hx hb hts inX4 hown hK hP k_208 rfl (by decide) rfl 0 rfl (.ref a3) rfl dX4_searchFrom_17 ?_
  refine lv_iload_n hx hb dX4_searchFrom_20 rfl (lv_at hl 1 rfl) ?_
  refine lv_aload_n hx hb dX4_searchFrom_21 rfl (lv_at hl 0 rfl) ?_
  refine gf (k := 0) hx hb hts inX4 hown hK hP k_205 rfl (by decide) rfl 0 rfl (.ref a1) rfl dX4_searchFrom_22 ?_
  refine gf (k := 4) hx hb hts inX3 hown hK hP k_57 rfl (by decide) rfl 1 rfl (.ref a2) rfl dX4_searchFrom_25 ?_
  refine lv_iload_n hx hb dX4_searchFrom_28 rfl (lv_at hl 1 rfl) ?_
  refine ld_i hx hb hK hP 2 rfl (vin (by decide +kernel)) dX4_searchFrom_29 0 rfl ?_
  refine st_i hx hb hK hP hD hS 3 rfl (vin (by decide +kernel)) dX4_searchFrom_30 (L' := [0]) rfl (W' := [(a0, .inr (4, [.ref a1, .ref a6, .ref a7, .ref a3, .ref a5, .ref a8, .ref a9, .ref a10, .int 0, .int 11, .int 1, .int 0])), (a1, .inr (3, [.int 1, .int 0, .ref a11, .ref a12, .ref a2, .ref a4, .ref a13, .ref a14])), (a2, .inl (cI, 4, .inl (tb [0, 0, 0, 0]))), (a3, .inl (cI, 4, .inl (tb [0]))), (a4, .inl (cI, 4, .inl (tb [10, 10, 10, 10]))), (a5, .inl (cI, 4, .inl (tb []))), (a6, .inl (cI, 9261, .inl (tb [])))]) rfl (fun H locs hP hD hS => ?_)
  refine lv_aload_n hx hb dX4_searchFrom_31 rfl (lv_at hl 0 rfl) ?_
  refine gf (k := 4) hx hb hts inX4 hown hK hP k_209 rfl (by decide) rfl 0 rfl (.ref a5) rfl dX4_searchFrom_32 ?_
  refine lv_iload_n hx hb dX4_searchFrom_35 rfl (lv_at hl 1 rfl) ?_
  refine lv_aload_n hx hb dX4_searchFrom_36 rfl (lv_at hl 0 rfl) ?_
  refine gf (k := 0) hx hb hts inX4 hown hK hP k_205 rfl (by decide) rfl 0 rfl (.ref a1) rfl dX4_searchFrom_37 ?_
  refine gf (k := 5) hx hb hts inX3 hown hK hP k_61 rfl (by decide) rfl 1 rfl (.ref a4) rfl dX4_searchFrom_40 ?_
  refine lv_iload_n hx hb dX4_searchFrom_43 rfl (lv_at hl 1 rfl) ?_
  refine ld_i hx hb hK hP 4 rfl (vin (by decide +kernel)) dX4_searchFrom_44 10 rfl ?_
  refine st_i hx hb hK hP hD hS 5 rfl (vin (by decide +kernel)) dX4_searchFrom_45 (L' := [10]) rfl (W' := [(a0, .inr (4, [.ref a1, .ref a6, .ref a7, .ref a3, .ref a5, .ref a8, .ref a9, .ref a10, .int 0, .int 11, .int 1, .int 0])), (a1, .inr (3, [.int 1, .int 0, .ref a11, .ref a12, .ref a2, .ref a4, .ref a13, .ref a14])), (a2, .inl (cI, 4, .inl (tb [0, 0, 0, 0]))), (a3, .inl (cI, 4, .inl (tb [0]))), (a4, .inl (cI, 4, .inl (tb [10, 10, 10, 10]))), (a5, .inl (cI, 4, .inl (tb [10]))), (a6, .inl (cI, 9261, .inl (tb [])))]) rfl (fun H locs hP hD hS => ?_)
  refine lv_iconst (v := 0) hx hb dX4_searchFrom_46 (by decide) ?_
  refine lv_istore_n (lv' := [(3, .int 0), (0, .ref a0), (1, .int 0), (2, .int 0)]) hx hb dX4_searchFrom_47 rfl hl (by decide) rfl (fun ls hl => ?_)
  refine lv_iload_n hx hb dX4_searchFrom_48 rfl (lv_at hl 0 rfl) ?_
  refine lv_aload_n hx hb dX4_searchFrom_49 rfl (lv_at hl 1 rfl) ?_
  refine gf (k := 0) hx hb hts inX4 hown hK hP k_205 rfl (by decide) rfl 0 rfl (.ref a1) rfl dX4_searchFrom_50 ?_
  refine gf (k := 1) hx hb hts inX3 hown hK hP k_47 rfl (by decide) rfl 1 rfl (.int 0) rfl dX4_searchFrom_53 ?_
  refine t_icmp_ge hx hb dX4_searchFrom_56 71 (by decide) (by decide +kernel) ?_
  refine lv_iload_n hx hb dX4_searchFrom_71 rfl (lv_at hl 2 rfl) ?_
  refine lv_aload_n hx hb dX4_searchFrom_72 rfl (lv_at hl 1 rfl) ?_
  refine gf (k := 0) hx hb hts inX4 hown hK hP k_205 rfl (by decide) rfl 0 rfl (.ref a1) rfl dX4_searchFrom_73 ?_
  refine gf (k := 0) hx hb hts inX3 hown hK hP k_39 rfl (by decide) rfl 1 rfl (.int 1) rfl dX4_searchFrom_76 ?_
  refine lv_iconst (v := 1) hx hb dX4_searchFrom_79 (by decide) ?_
  refine v_isub hx hb dX4_searchFrom_80 0 (by decide +kernel) ?_
  refine t_icmp_ge hx hb dX4_searchFrom_81 93 (by decide) (by decide +kernel) ?_
  refine lv_aload_n hx hb dX4_searchFrom_93 rfl (lv_at hl 1 rfl) ?_
  refine gf (k := 3) hx hb hts inX4 hown hK hP k_208 rfl (by decide) rfl 0 rfl (.ref a3) rfl dX4_searchFrom_94 ?_
  refine lv_iload_n hx hb dX4_searchFrom_97 rfl (lv_at hl 2 rfl) ?_
  refine ld_i hx hb hK hP 3 rfl (vin (by decide +kernel)) dX4_searchFrom_98 0 rfl ?_
  refine lv_aload_n hx hb dX4_searchFrom_99 rfl (lv_at hl 1 rfl) ?_
  refine gf (k := 4) hx hb hts inX4 hown hK hP k_209 rfl (by decide) rfl 0 rfl (.ref a5) rfl dX4_searchFrom_100 ?_
  refine lv_iload_n hx hb dX4_searchFrom_103 rfl (lv_at hl 2 rfl) ?_
  refine ld_i hx hb hK hP 5 rfl (vin (by decide +kernel)) dX4_searchFrom_104 10 rfl ?_
  refine f_icmp_gt hx hb dX4_searchFrom_105 126 (by decide) (by decide +kernel) ?_
  refine lv_aload_n hx hb dX4_searchFrom_108 rfl (lv_at hl 1 rfl) ?_
  refine lv_iload_n hx hb dX4_searchFrom_109 rfl (lv_at hl 3 rfl) ?_
  refine lv_bipush (v := 21) hx hb dX4_searchFrom_110 (by decide) ?_
  refine v_imul hx hb dX4_searchFrom_112 0 (by decide +kernel) ?_
  refine lv_aload_n hx hb dX4_searchFrom_113 rfl (lv_at hl 1 rfl) ?_
  refine gf (k := 3) hx hb hts inX4 hown hK hP k_208 rfl (by decide) rfl 0 rfl (.ref a3) rfl dX4_searchFrom_114 ?_
  refine lv_iload_n hx hb dX4_searchFrom_117 rfl (lv_at hl 2 rfl) ?_
  refine ld_i hx hb hK hP 3 rfl (vin (by decide +kernel)) dX4_searchFrom_118 0 rfl ?_
  refine v_iadd hx hb dX4_searchFrom_119 0 (by decide +kernel) ?_
  refine lv_bipush (v := 10) hx hb dX4_searchFrom_120 (by decide) ?_
  refine v_iadd hx hb dX4_searchFrom_122 10 (by decide +kernel) ?_
  refine kV_v (q0 := 0) ⟨hx, hb, hml, hown, hts⟩ hK hP hD hS hA hX cv_RX4_131 [0, 6] [1, 2, 3, 4, 5] (wr := [(a1, .inr (3, [.int 1, .int 0, .ref a11, .ref a12, .ref a2, .ref a4, .ref a13, .ref a14])), (a2, .inl (cI, 4, .inl (tb [0, 0, 0, 0]))), (a3, .inl (cI, 4, .inl (tb [0]))), (a4, .inl (cI, 4, .inl (tb [10, 10, 10, 10]))), (a5, .inl (cI, 4, .inl (tb [10])))]) rfl rfl rfl rfl (by decide) (c213_X4_appendBlock l dC dI cI cJ cII cJJ H.size 0 a0 a6 a1 a7 a3 a5 a8 a9 a10) ⟨by decide +kernel, by decide +kernel⟩ rfl rfl (Or.inl rfl) (rest := []) rfl rfl rfl hl.1 rfl (Nat.le_of_ble_eq_true rfl) dX4_searchFrom_123 ⟨Nat.le_of_ble_eq_true rfl, Nat.le_of_ble_eq_true rfl⟩ (fun _ => rfl) (W' := [(a1, .inr (3, [.int 1, .int 0, .ref a11, .ref a12, .ref a2, .ref a4, .ref a13, .ref a14])), (a2, .inl (cI, 4, .inl (tb [0, 0, 0, 0]))), (a3, .inl (cI, 4, .inl (tb [0]))), (a4, .inl (cI, 4, .inl (tb [10, 10, 10, 10]))), (a5, .inl (cI, 4, .inl (tb [10]))), (a0, .inr (4, [.ref a1, .ref a6, .ref a7, .ref a3, .ref a5, .ref a8, .ref a9, .ref a10, .int 1, .int 11, .int 1, .int 0])), (a6, .inl (cI, 9261, .inl (tb [10])))]) rfl (fun H locs hP hD hS => ?_)
  exact r_v (fun _ => 0) hx hb hr hk hK hP hD hS dX4_searchFrom_126
set_option maxRecDepth 100000 in
set_option maxHeartbeats 4000000 in
theorem c209_X4_refresh (l : Launch) (dC : Nat → ClassId) (dI : Nat → Nat → Nat) (cI cJ cII cJJ : ClassId) (sz g a0 a1 a2 a3 a4 a5 a6 a7 a8 a9 a10 a11 a12 a13 a14 : Nat) : Met l yX4_refresh (.code yX4_refresh cX4_refresh 3 none :: TT) ({ frames := 4, cells := 0, slots := 0, locals := 200 }) (PcS dC dI (TY cI cJ cII cJJ) [.ref a0] [(a0, .inr (4, [.ref a1, .ref a6, .ref a7, .ref a4, .ref a5, .ref a8, .ref a9, .ref a10, .int 0, .int 0, .int 0, .int 1])), (a1, .inr (3, [.int 1, .int 0, .ref a11, .ref a12, .ref a3, .ref a2, .ref a13, .ref a14])), (a2, .inl (cI, 4, .inl (tb [10, 10, 10, 10]))), (a3, .inl (cI, 4, .inl (tb [0, 0, 0, 0]))), (a4, .inl (cI, 4, .inl (tb []))), (a5, .inl (cI, 4, .inl (tb []))), (a6, .inl (cI, 9261, .inl (tb [])))] sz 0 g) ((QcV dC dI (TY cI cJ cII cJJ) (fun _ => [(a1, .inr (3, [.int 1, .int 0, .ref a11, .ref a12, .ref a3, .ref a2, .ref a13, .ref a14])), (a3, .inl (cI, 4, .inl (tb [0, 0, 0, 0]))), (a4, .inl (cI, 4, .inl (tb [0]))), (a2, .inl (cI, 4, .inl (tb [10, 10, 10, 10]))), (a5, .inl (cI, 4, .inl (tb [10]))), (a0, .inr (4, [.ref a1, .ref a6, .ref a7, .ref a4, .ref a5, .ref a8, .ref a9, .ref a10, .int 1, .int 11, .int 1, .int 0])), (a6, .inl (cI, 9261, .inl (tb [10])))])) (va_A [(a0, .inr (4, [.ref a1, .ref a6, .ref a7, .ref a4, .ref a5, .ref a8, .ref a9, .ref a10, .int 0, .int 0, .int 0, .int 1])), (a1, .inr (3, [.int 1, .int 0, .ref a11, .ref a12, .ref a3, .ref a2, .ref a13, .ref a14])), (a2, .inl (cI, 4, .inl (tb [10, 10, 10, 10]))), (a3, .inl (cI, 4, .inl (tb [0, 0, 0, 0]))), (a4, .inl (cI, 4, .inl (tb []))), (a5, .inl (cI, 4, .inl (tb []))), (a6, .inl (cI, 9261, .inl (tb [])))] sz)) 0 0 (va_A [(a0, .inr (4, [.ref a1, .ref a6, .ref a7, .ref a4, .ref a5, .ref a8, .ref a9, .ref a10, .int 0, .int 0, .int 0, .int 1])), (a1, .inr (3, [.int 1, .int 0, .ref a11, .ref a12, .ref a3, .ref a2, .ref a13, .ref a14])), (a2, .inl (cI, 4, .inl (tb [10, 10, 10, 10]))), (a3, .inl (cI, 4, .inl (tb [0, 0, 0, 0]))), (a4, .inl (cI, 4, .inl (tb []))), (a5, .inl (cI, 4, .inl (tb []))), (a6, .inl (cI, 9261, .inl (tb [])))] sz) := by
  refine SM.of (y := yX4_refresh) (maxL := 3) (av := [.ref a0]) (QcV dC dI (TY cI cJ cII cJJ) (fun _ => [(a1, .inr (3, [.int 1, .int 0, .ref a11, .ref a12, .ref a3, .ref a2, .ref a13, .ref a14])), (a3, .inl (cI, 4, .inl (tb [0, 0, 0, 0]))), (a4, .inl (cI, 4, .inl (tb [0]))), (a2, .inl (cI, 4, .inl (tb [10, 10, 10, 10]))), (a5, .inl (cI, 4, .inl (tb [10]))), (a0, .inr (4, [.ref a1, .ref a6, .ref a7, .ref a4, .ref a5, .ref a8, .ref a9, .ref a10, .int 1, .int 11, .int 1, .int 0])), (a6, .inl (cI, 9261, .inl (tb [10])))])) (by decide +kernel) (Nat.le_of_ble_eq_true rfl) (fun p e s m below meth c A ls hx hb hr hml hown hts hk hnm hA hK hP hD hS hX hl => ?_)
  have hown : s.vm.findClass RX4 = some m.cls := hown
  have hl : lv_has ls 3 [(0, .ref a0)] := hl
  refine lv_aload_n hx hb dX4_refresh_0 rfl (lv_at hl 0 rfl) ?_
  refine gf (k := 11) hx hb hts inX4 hown hK hP k_216 rfl (by decide) rfl 0 rfl (.int 1) rfl dX4_refresh_1 ?_
  refine t_if_ne hx hb dX4_refresh_4 8 (by decide) (by decide +kernel) ?_
  refine lv_aload_n hx hb dX4_refresh_8 rfl (lv_at hl 0 rfl) ?_
  refine lv_iconst (v := 0) hx hb dX4_refresh_9 (by decide) ?_
  refine pf (k := 11) hx hb hts inX4 tyX4_ok nmX4 hown hK hP hD hS k_216 rfl (by decide) rfl rfl 0 rfl rfl rfl (Nat.le_of_ble_eq_true rfl) dX4_refresh_10 (W' := [(a0, .inr (4, [.ref a1, .ref a6, .ref a7, .ref a4, .ref a5, .ref a8, .ref a9, .ref a10, .int 0, .int 0, .int 0, .int 0])), (a1, .inr (3, [.int 1, .int 0, .ref a11, .ref a12, .ref a3, .ref a2, .ref a13, .ref a14])), (a2, .inl (cI, 4, .inl (tb [10, 10, 10, 10]))), (a3, .inl (cI, 4, .inl (tb [0, 0, 0, 0]))), (a4, .inl (cI, 4, .inl (tb []))), (a5, .inl (cI, 4, .inl (tb []))), (a6, .inl (cI, 9261, .inl (tb [])))]) rfl (fun H locs hP hD hS => ?_)
  refine lv_aload_n hx hb dX4_refresh_13 rfl (lv_at hl 0 rfl) ?_
  refine lv_iconst (v := 0) hx hb dX4_refresh_14 (by decide) ?_
  refine pf (k := 8) hx hb hts inX4 tyX4_ok nmX4 hown hK hP hD hS k_213 rfl (by decide) rfl rfl 0 rfl rfl rfl (Nat.le_of_ble_eq_true rfl) dX4_refresh_15 (W' := [(a0, .inr (4, [.ref a1, .ref a6, .ref a7, .ref a4, .ref a5, .ref a8, .ref a9, .ref a10, .int 0, .int 0, .int 0, .int 0])), (a1, .inr (3, [.int 1, .int 0, .ref a11, .ref a12, .ref a3, .ref a2, .ref a13, .ref a14])), (a2, .inl (cI, 4, .inl (tb [10, 10, 10, 10]))), (a3, .inl (cI, 4, .inl (tb [0, 0, 0, 0]))), (a4, .inl (cI, 4, .inl (tb []))), (a5, .inl (cI, 4, .inl (tb []))), (a6, .inl (cI, 9261, .inl (tb [])))]) rfl (fun H locs hP hD hS => ?_)
  refine lv_aload_n hx hb dX4_refresh_18 rfl (lv_at hl 0 rfl) ?_
  refine gf (k := 0) hx hb hts inX4 hown hK hP k_205 rfl (by decide) rfl 0 rfl (.ref a1) rfl dX4_refresh_19 ?_
  refine gf (k := 0) hx hb hts inX3 hown hK hP k_39 rfl (by decide) rfl 1 rfl (.int 1) rfl dX4_refresh_22 ?_
  refine lv_iconst (v := 1) hx hb dX4_refresh_25 (by decide) ?_
  refine v_isub hx hb dX4_refresh_26 0 (by decide +kernel) ?_
  refine lv_istore_n (lv' := [(1, .int 0), (0, .ref a0)]) hx hb dX4_refresh_27 rfl hl (by decide) rfl (fun ls hl => ?_)
  refine lv_aload_n hx hb dX4_refresh_28 rfl (lv_at hl 1 rfl) ?_
  refine lv_aload_n hx hb dX4_refresh_29 rfl (lv_at hl 1 rfl) ?_
  refine gf (k := 0) hx hb hts inX4 hown hK hP k_205 rfl (by decide) rfl 0 rfl (.ref a1) rfl dX4_refresh_30 ?_
  refine lv_iload_n hx hb dX4_refresh_33 rfl (lv_at hl 0 rfl) ?_
  refine kV_i (q0 := 0) ⟨hx, hb, hml, hown, hts⟩ hK hP hD hS hA hX cv_RX4_52 [1] [0, 2, 3, 4, 5, 6] (wr := [(a0, .inr (4, [.ref a1, .ref a6, .ref a7, .ref a4, .ref a5, .ref a8, .ref a9, .ref a10, .int 0, .int 0, .int 0, .int 0])), (a2, .inl (cI, 4, .inl (tb [10, 10, 10, 10]))), (a3, .inl (cI, 4, .inl (tb [0, 0, 0, 0]))), (a4, .inl (cI, 4, .inl (tb []))), (a5, .inl (cI, 4, .inl (tb []))), (a6, .inl (cI, 9261, .inl (tb [])))]) rfl rfl rfl rfl (by decide) (c210_X3_isFree l dC dI cI cJ cII cJJ H.size 0 a1 a11 a12 a3 a2 a13 a14) ⟨by decide +kernel, by decide +kernel⟩ rfl rfl (Or.inl rfl) (rest := [.ref a0]) rfl rfl rfl hl.1 rfl (Nat.le_of_ble_eq_true rfl) dX4_refresh_34 ⟨Nat.le_of_ble_eq_true rfl, Nat.le_of_ble_eq_true rfl⟩ (W' := [(a0, .inr (4, [.ref a1, .ref a6, .ref a7, .ref a4, .ref a5, .ref a8, .ref a9, .ref a10, .int 0, .int 0, .int 0, .int 0])), (a2, .inl (cI, 4, .inl (tb [10, 10, 10, 10]))), (a3, .inl (cI, 4, .inl (tb [0, 0, 0, 0]))), (a4, .inl (cI, 4, .inl (tb []))), (a5, .inl (cI, 4, .inl (tb []))), (a6, .inl (cI, 9261, .inl (tb []))), (a1, .inr (3, [.int 1, .int 0, .ref a11, .ref a12, .ref a3, .ref a2, .ref a13, .ref a14]))]) rfl (fun H locs hP hD hS => ?_)
  refine pf (k := 10) hx hb hts inX4 tyX4_ok nmX4 hown hK hP hD hS k_215 rfl (by decide) rfl rfl 0 rfl rfl rfl (Nat.le_of_ble_eq_true rfl) dX4_refresh_37 (W' := [(a0, .inr (4, [.ref a1, .ref a6, .ref a7, .ref a4, .ref a5, .ref a8, .ref a9, .ref a10, .int 0, .int 0, .int 1, .int 0])), (a2, .inl (cI, 4, .inl (tb [10, 10, 10, 10]))), (a3, .inl (cI, 4, .inl (tb [0, 0, 0, 0]))), (a4, .inl (cI, 4, .inl (tb []))), (a5, .inl (cI, 4, .inl (tb []))), (a6, .inl (cI, 9261, .inl (tb []))), (a1, .inr (3, [.int 1, .int 0, .ref a11, .ref a12, .ref a3, .ref a2, .ref a13, .ref a14]))]) rfl (fun H locs hP hD hS => ?_)
  refine lv_aload_n hx hb dX4_refresh_40 rfl (lv_at hl 1 rfl) ?_
  refine lv_aload_n hx hb dX4_refresh_41 rfl (lv_at hl 1 rfl) ?_
  refine gf (k := 10) hx hb hts inX4 hown hK hP k_215 rfl (by decide) rfl 0 rfl (.int 1) rfl dX4_refresh_42 ?_
  refine f_if_eq hx hb dX4_refresh_45 76 (by decide) (by decide +kernel) ?_
  refine lv_iconst (v := 0) hx hb dX4_refresh_48 (by decide) ?_
  refine lv_aload_n hx hb dX4_refresh_49 rfl (lv_at hl 1 rfl) ?_
  refine gf (k := 0) hx hb hts inX4 hown hK hP k_205 rfl (by decide) rfl 0 rfl (.ref a1) rfl dX4_refresh_50 ?_
  refine gf (k := 5) hx hb hts inX3 hown hK hP k_61 rfl (by decide) rfl 6 rfl (.ref a2) rfl dX4_refresh_53 ?_
  refine lv_iload_n hx hb dX4_refresh_56 rfl (lv_at hl 0 rfl) ?_
  refine ld_i hx hb hK hP 1 rfl (vin (by decide +kernel)) dX4_refresh_57 10 rfl ?_
  refine lv_aload_n hx hb dX4_refresh_58 rfl (lv_at hl 1 rfl) ?_
  refine gf (k := 0) hx hb hts inX4 hown hK hP k_205 rfl (by decide) rfl 0 rfl (.ref a1) rfl dX4_refresh_59 ?_
  refine gf (k := 4) hx hb hts inX3 hown hK hP k_57 rfl (by decide) rfl 6 rfl (.ref a3) rfl dX4_refresh_62 ?_
  refine lv_iload_n hx hb dX4_refresh_65 rfl (lv_at hl 0 rfl) ?_
  refine ld_i hx hb hK hP 2 rfl (vin (by decide +kernel)) dX4_refresh_66 0 rfl ?_
  refine v_isub hx hb dX4_refresh_67 10 (by decide +kernel) ?_
  refine lv_iconst (v := 1) hx hb dX4_refresh_68 (by decide) ?_
  refine v_iadd hx hb dX4_refresh_69 11 (by decide +kernel) ?_
  refine va_mmax hx hb (by rw [hml]; exact hl.1.symm) hown (hts _ k_667) (hts _ k_445) (hts _ k_13) (hts _ k_446) (by decide) (Nat.le_of_ble_eq_true rfl) (Nat.le_of_ble_eq_true rfl) (Nat.le_of_ble_eq_true rfl) dX4_refresh_70 ?_
  refine tvi (v := 11) (by decide +kernel) ?_
  refine lv_goto (tgt := 77) hx hb dX4_refresh_73 (by decide) ?_
  refine pf (k := 9) hx hb hts inX4 tyX4_ok nmX4 hown hK hP hD hS k_214 rfl (by decide) rfl rfl 0 rfl rfl rfl (Nat.le_of_ble_eq_true rfl) dX4_refresh_77 (W' := [(a0, .inr (4, [.ref a1, .ref a6, .ref a7, .ref a4, .ref a5, .ref a8, .ref a9, .ref a10, .int 0, .int 11, .int 1, .int 0])), (a2, .inl (cI, 4, .inl (tb [10, 10, 10, 10]))), (a3, .inl (cI, 4, .inl (tb [0, 0, 0, 0]))), (a4, .inl (cI, 4, .inl (tb []))), (a5, .inl (cI, 4, .inl (tb []))), (a6, .inl (cI, 9261, .inl (tb []))), (a1, .inr (3, [.int 1, .int 0, .ref a11, .ref a12, .ref a3, .ref a2, .ref a13, .ref a14]))]) rfl (fun H locs hP hD hS => ?_)
  refine lv_iconst (v := 0) hx hb dX4_refresh_80 (by decide) ?_
  refine lv_istore_n (lv' := [(2, .int 0), (1, .int 0), (0, .ref a0)]) hx hb dX4_refresh_81 rfl hl (by decide) rfl (fun ls hl => ?_)
  refine lv_iload_n hx hb dX4_refresh_82 rfl (lv_at hl 0 rfl) ?_
  refine lv_iload_n hx hb dX4_refresh_83 rfl (lv_at hl 1 rfl) ?_
  refine f_icmp_gt hx hb dX4_refresh_84 115 (by decide) (by decide +kernel) ?_
  refine lv_aload_n hx hb dX4_refresh_87 rfl (lv_at hl 2 rfl) ?_
  refine gf (k := 0) hx hb hts inX4 hown hK hP k_205 rfl (by decide) rfl 0 rfl (.ref a1) rfl dX4_refresh_88 ?_
  refine gf (k := 4) hx hb hts inX3 hown hK hP k_57 rfl (by decide) rfl 6 rfl (.ref a3) rfl dX4_refresh_91 ?_
  refine lv_iload_n hx hb dX4_refresh_94 rfl (lv_at hl 0 rfl) ?_
  refine ld_i hx hb hK hP 2 rfl (vin (by decide +kernel)) dX4_refresh_95 0 rfl ?_
  refine lv_aload_n hx hb dX4_refresh_96 rfl (lv_at hl 2 rfl) ?_
  refine gf (k := 0) hx hb hts inX4 hown hK hP k_205 rfl (by decide) rfl 0 rfl (.ref a1) rfl dX4_refresh_97 ?_
  refine gf (k := 5) hx hb hts inX3 hown hK hP k_61 rfl (by decide) rfl 6 rfl (.ref a2) rfl dX4_refresh_100 ?_
  refine lv_iload_n hx hb dX4_refresh_103 rfl (lv_at hl 0 rfl) ?_
  refine ld_i hx hb hK hP 1 rfl (vin (by decide +kernel)) dX4_refresh_104 10 rfl ?_
  refine t_icmp_le hx hb dX4_refresh_105 109 (by decide) (by decide +kernel) ?_
  refine lv_iinc (v := 1) (lv' := [(2, .int 1), (1, .int 0), (0, .ref a0)]) hx hb dX4_refresh_109 hl (k := 0) rfl (by decide +kernel) (by decide) rfl (fun ls hl => ?_)
  refine lv_goto (tgt := 82) hx hb dX4_refresh_112 (by decide) ?_
  refine lv_iload_n hx hb dX4_refresh_82 rfl (lv_at hl 0 rfl) ?_
  refine lv_iload_n hx hb dX4_refresh_83 rfl (lv_at hl 1 rfl) ?_
  refine t_icmp_gt hx hb dX4_refresh_84 115 (by decide) (by decide +kernel) ?_
  refine lv_aload_n hx hb dX4_refresh_115 rfl (lv_at hl 2 rfl) ?_
  refine kV_v (q0 := 0) ⟨hx, hb, hml, hown, hts⟩ hK hP hD hS hA hX cv_RX4_74 [0, 6] [1, 2, 3, 4, 5] (wr := [(a2, .inl (cI, 4, .inl (tb [10, 10, 10, 10]))), (a3, .inl (cI, 4, .inl (tb [0, 0, 0, 0]))), (a4, .inl (cI, 4, .inl (tb []))), (a5, .inl (cI, 4, .inl (tb []))), (a6, .inl (cI, 9261, .inl (tb [])))]) rfl rfl rfl rfl (by decide) (c211_X4_findSums l dC dI cI cJ cII cJJ H.size 0 a0 a1 a6 a7 a4 a5 a8 a9 a10 a11 a12 a3 a2 a13 a14) ⟨by decide +kernel, by decide +kernel⟩ rfl rfl (Or.inl rfl) (rest := []) rfl rfl rfl hl.1 rfl (Nat.le_of_ble_eq_true rfl) dX4_refresh_116 ⟨Nat.le_of_ble_eq_true rfl, Nat.le_of_ble_eq_true rfl⟩ (fun _ => rfl) (W' := [(a2, .inl (cI, 4, .inl (tb [10, 10, 10, 10]))), (a3, .inl (cI, 4, .inl (tb [0, 0, 0, 0]))), (a4, .inl (cI, 4, .inl (tb []))), (a5, .inl (cI, 4, .inl (tb []))), (a6, .inl (cI, 9261, .inl (tb []))), (a0, .inr (4, [.ref a1, .ref a6, .ref a7, .ref a4, .ref a5, .ref a8, .ref a9, .ref a10, .int 0, .int 11, .int 1, .int 0])), (a1, .inr (3, [.int 1, .int 0, .ref a11, .ref a12, .ref a3, .ref a2, .ref a13, .ref a14]))]) rfl (fun H locs hP hD hS => ?_)
  refine lv_aload_n hx hb dX4_refresh_119 rfl (lv_at hl 2 rfl) ?_
  refine lv_iconst (v := 0) hx hb dX4_refresh_120 (by decide) ?_
  refine lv_iconst (v := 0) hx hb dX4_refresh_121 (by decide) ?_
  refine kV_v (q0 := 0) ⟨hx, hb, hml, hown, hts⟩ hK hP hD hS hA hX cv_RX4_77 [5, 6, 1, 2, 0, 3, 4] [] (wr := []) rfl rfl rfl rfl (by decide) (c212_X4_searchFrom l dC dI cI cJ cII cJJ H.size 0 a0 a1 a3 a4 a2 a5 a6 a7 a8 a9 a10 a11 a12 a13 a14) ⟨by decide +kernel, by decide +kernel⟩ rfl rfl (Or.inl rfl) (rest := []) rfl rfl rfl hl.1 rfl (Nat.le_of_ble_eq_true rfl) dX4_refresh_122 ⟨Nat.le_of_ble_eq_true rfl, Nat.le_of_ble_eq_true rfl⟩ (fun _ => rfl) (W' := [(a1, .inr (3, [.int 1, .int 0, .ref a11, .ref a12, .ref a3, .ref a2, .ref a13, .ref a14])), (a3, .inl (cI, 4, .inl (tb [0, 0, 0, 0]))), (a4, .inl (cI, 4, .inl (tb [0]))), (a2, .inl (cI, 4, .inl (tb [10, 10, 10, 10]))), (a5, .inl (cI, 4, .inl (tb [10]))), (a0, .inr (4, [.ref a1, .ref a6, .ref a7, .ref a4, .ref a5, .ref a8, .ref a9, .ref a10, .int 1, .int 11, .int 1, .int 0])), (a6, .inl (cI, 9261, .inl (tb [10])))]) rfl (fun H locs hP hD hS => ?_)
  exact r_v (fun _ => 0) hx hb hr hk hK hP hD hS dX4_refresh_125
set_option maxRecDepth 100000 in
set_option maxHeartbeats 4000000 in
theorem c208_X8_freshPlans (l : Launch) (dC : Nat → ClassId) (dI : Nat → Nat → Nat) (cI cJ cII cJJ : ClassId) (sz g a0 a1 a2 a3 a4 a5 a6 a7 a8 a9 a10 a11 a12 a13 a14 a15 a16 a17 a18 a19 a20 a21 : Nat) : Met l yX8_freshPlans (.code yX8_freshPlans cX8_freshPlans 1 (some (.object "StepWorks$Plans")) :: TT) ({ frames := 5, cells := 0, slots := 0, locals := 260 }) (PcS dC dI (TY cI cJ cII cJJ) [.ref a0] [(a0, .inr (8, [.ref a2, .ref a8, .ref a1, .ref a9, .ref a10, .ref a11, .ref a12, .ref a13])), (a1, .inr (4, [.ref a2, .ref a7, .ref a14, .ref a5, .ref a6, .ref a15, .ref a16, .ref a17, .int 0, .int 0, .int 0, .int 1])), (a2, .inr (3, [.int 1, .int 0, .ref a18, .ref a19, .ref a4, .ref a3, .ref a20, .ref a21])), (a3, .inl (cI, 4, .inl (tb [10, 10, 10, 10]))), (a4, .inl (cI, 4, .inl (tb [0, 0, 0, 0]))), (a5, .inl (cI, 4, .inl (tb []))), (a6, .inl (cI, 4, .inl (tb []))), (a7, .inl (cI, 9261, .inl (tb [])))] sz 0 g) ((QcR dC dI (TY cI cJ cII cJJ) a1 [(a0, .inr (8, [.ref a2, .ref a8, .ref a1, .ref a9, .ref a10, .ref a11, .ref a12, .ref a13])), (a2, .inr (3, [.int 1, .int 0, .ref a18, .ref a19, .ref a4, .ref a3, .ref a20, .ref a21])), (a4, .inl (cI, 4, .inl (tb [0, 0, 0, 0]))), (a5, .inl (cI, 4, .inl (tb [0]))), (a3, .inl (cI, 4, .inl (tb [10, 10, 10, 10]))), (a6, .inl (cI, 4, .inl (tb [10]))), (a1, .inr (4, [.ref a2, .ref a7, .ref a14, .ref a5, .ref a6, .ref a15, .ref a16, .ref a17, .int 1, .int 11, .int 1, .int 0])), (a7, .inl (cI, 9261, .inl (tb [10])))]) (va_A [(a0, .inr (8, [.ref a2, .ref a8, .ref a1, .ref a9, .ref a10, .ref a11, .ref a12, .ref a13])), (a1, .inr (4, [.ref a2, .ref a7, .ref a14, .ref a5, .ref a6, .ref a15, .ref a16, .ref a17, .int 0, .int 0, .int 0, .int 1])), (a2, .inr (3, [.int 1, .int 0, .ref a18, .ref a19, .ref a4, .ref a3, .ref a20, .ref a21])), (a3, .inl (cI, 4, .inl (tb [10, 10, 10, 10]))), (a4, .inl (cI, 4, .inl (tb [0, 0, 0, 0]))), (a5, .inl (cI, 4, .inl (tb []))), (a6, .inl (cI, 4, .inl (tb []))), (a7, .inl (cI, 9261, .inl (tb [])))] sz)) 0 0 (va_A [(a0, .inr (8, [.ref a2, .ref a8, .ref a1, .ref a9, .ref a10, .ref a11, .ref a12, .ref a13])), (a1, .inr (4, [.ref a2, .ref a7, .ref a14, .ref a5, .ref a6, .ref a15, .ref a16, .ref a17, .int 0, .int 0, .int 0, .int 1])), (a2, .inr (3, [.int 1, .int 0, .ref a18, .ref a19, .ref a4, .ref a3, .ref a20, .ref a21])), (a3, .inl (cI, 4, .inl (tb [10, 10, 10, 10]))), (a4, .inl (cI, 4, .inl (tb [0, 0, 0, 0]))), (a5, .inl (cI, 4, .inl (tb []))), (a6, .inl (cI, 4, .inl (tb []))), (a7, .inl (cI, 9261, .inl (tb [])))] sz) := by
  refine SM.of (y := yX8_freshPlans) (maxL := 1) (av := [.ref a0]) (QcR dC dI (TY cI cJ cII cJJ) a1 [(a0, .inr (8, [.ref a2, .ref a8, .ref a1, .ref a9, .ref a10, .ref a11, .ref a12, .ref a13])), (a2, .inr (3, [.int 1, .int 0, .ref a18, .ref a19, .ref a4, .ref a3, .ref a20, .ref a21])), (a4, .inl (cI, 4, .inl (tb [0, 0, 0, 0]))), (a5, .inl (cI, 4, .inl (tb [0]))), (a3, .inl (cI, 4, .inl (tb [10, 10, 10, 10]))), (a6, .inl (cI, 4, .inl (tb [10]))), (a1, .inr (4, [.ref a2, .ref a7, .ref a14, .ref a5, .ref a6, .ref a15, .ref a16, .ref a17, .int 1, .int 11, .int 1, .int 0])), (a7, .inl (cI, 9261, .inl (tb [10])))]) (by decide +kernel) (Nat.le_of_ble_eq_true rfl) (fun p e s m below meth c A ls hx hb hr hml hown hts hk hnm hA hK hP hD hS hX hl => ?_)
  have hown : s.vm.findClass RX8 = some m.cls := hown
  have hl : lv_has ls 1 [(0, .ref a0)] := hl
  refine lv_aload_n hx hb dX8_freshPlans_0 rfl (lv_at hl 0 rfl) ?_
  refine gf (k := 2) hx hb hts inX8 hown hK hP k_266 rfl (by decide) rfl 0 rfl (.ref a1) rfl dX8_freshPlans_1 ?_
  refine kV_v (q0 := 0) ⟨hx, hb, hml, hown, hts⟩ hK hP hD hS hA hX cv_RX8_234 [1, 2, 3, 4, 5, 6, 7] [0] (wr := [(a0, .inr (8, [.ref a2, .ref a8, .ref a1, .ref a9, .ref a10, .ref a11, .ref a12, .ref a13]))]) rfl rfl rfl rfl (by decide) (c209_X4_refresh l dC dI cI cJ cII cJJ s.heap.size 0 a1 a2 a3 a4 a5 a6 a7 a14 a15 a16 a17 a18 a19 a20 a21) ⟨by decide +kernel, by decide +kernel⟩ rfl rfl (Or.inl rfl) (rest := []) rfl rfl rfl hl.1 rfl (Nat.le_of_ble_eq_true rfl) dX8_freshPlans_4 ⟨Nat.le_of_ble_eq_true rfl, Nat.le_of_ble_eq_true rfl⟩ (fun _ => rfl) (W' := [(a0, .inr (8, [.ref a2, .ref a8, .ref a1, .ref a9, .ref a10, .ref a11, .ref a12, .ref a13])), (a2, .inr (3, [.int 1, .int 0, .ref a18, .ref a19, .ref a4, .ref a3, .ref a20, .ref a21])), (a4, .inl (cI, 4, .inl (tb [0, 0, 0, 0]))), (a5, .inl (cI, 4, .inl (tb [0]))), (a3, .inl (cI, 4, .inl (tb [10, 10, 10, 10]))), (a6, .inl (cI, 4, .inl (tb [10]))), (a1, .inr (4, [.ref a2, .ref a7, .ref a14, .ref a5, .ref a6, .ref a15, .ref a16, .ref a17, .int 1, .int 11, .int 1, .int 0])), (a7, .inl (cI, 9261, .inl (tb [10])))]) rfl (fun H locs hP hD hS => ?_)
  refine lv_aload_n hx hb dX8_freshPlans_7 rfl (lv_at hl 0 rfl) ?_
  refine gf (k := 2) hx hb hts inX8 hown hK hP k_266 rfl (by decide) rfl 0 rfl (.ref a1) rfl dX8_freshPlans_8 ?_
  exact r_a hx hb hr hk hK hP hD hS dX8_freshPlans_11
set_option maxRecDepth 100000 in
set_option maxHeartbeats 4000000 in
theorem c214_X4_size (l : Launch) (dC : Nat → ClassId) (dI : Nat → Nat → Nat) (cI cJ cII cJJ : ClassId) (sz g a0 a1 a2 a3 a4 a5 a6 a7 a8 : Nat) : Met l yX4_size (.code yX4_size cX4_size 1 (some .int) :: TT) ({ frames := 2, cells := 0, slots := 0, locals := 80 }) (PcS dC dI (TY cI cJ cII cJJ) [.ref a0] [(a0, .inr (4, [.ref a1, .ref a2, .ref a3, .ref a4, .ref a5, .ref a6, .ref a7, .ref a8, .int 1, .int 11, .int 1, .int 0]))] sz 0 g) ((QcI dC dI (TY cI cJ cII cJJ) 11 [(a0, .inr (4, [.ref a1, .ref a2, .ref a3, .ref a4, .ref a5, .ref a6, .ref a7, .ref a8, .int 1, .int 11, .int 1, .int 0]))]) (va_A [(a0, .inr (4, [.ref a1, .ref a2, .ref a3, .ref a4, .ref a5, .ref a6, .ref a7, .ref a8, .int 1, .int 11, .int 1, .int 0]))] sz)) 0 0 (va_A [(a0, .inr (4, [.ref a1, .ref a2, .ref a3, .ref a4, .ref a5, .ref a6, .ref a7, .ref a8, .int 1, .int 11, .int 1, .int 0]))] sz) := by
  refine SM.of (y := yX4_size) (maxL := 1) (av := [.ref a0]) (QcI dC dI (TY cI cJ cII cJJ) 11 [(a0, .inr (4, [.ref a1, .ref a2, .ref a3, .ref a4, .ref a5, .ref a6, .ref a7, .ref a8, .int 1, .int 11, .int 1, .int 0]))]) (by decide +kernel) (Nat.le_of_ble_eq_true rfl) (fun p e s m below meth c A ls hx hb hr hml hown hts hk hnm hA hK hP hD hS hX hl => ?_)
  have hown : s.vm.findClass RX4 = some m.cls := hown
  have hl : lv_has ls 1 [(0, .ref a0)] := hl
  refine lv_aload_n hx hb dX4_size_0 rfl (lv_at hl 0 rfl) ?_
  refine gf (k := 8) hx hb hts inX4 hown hK hP k_213 rfl (by decide) rfl 0 rfl (.int 1) rfl dX4_size_1 ?_
  refine lv_aload_n hx hb dX4_size_4 rfl (lv_at hl 0 rfl) ?_
  refine gf (k := 9) hx hb hts inX4 hown hK hP k_214 rfl (by decide) rfl 0 rfl (.int 11) rfl dX4_size_5 ?_
  refine v_imul hx hb dX4_size_8 11 (by decide +kernel) ?_
  exact r_i hx hb hr hk hK hP hD hS dX4_size_9
set_option maxRecDepth 100000 in
set_option maxHeartbeats 4000000 in
theorem c207_X8_plans (l : Launch) (dC : Nat → ClassId) (dI : Nat → Nat → Nat) (cI cJ cII cJJ : ClassId) (sz g a0 a1 a2 a3 a4 a5 a6 a7 a8 a9 a10 a11 a12 a13 a14 a15 a16 a17 a18 a19 a20 a21 : Nat) : Met l yX8_plans (.code yX8_plans cX8_plans 1 (some .int) :: TT) ({ frames := 6, cells := 0, slots := 0, locals := 320 }) (PcS dC dI (TY cI cJ cII cJJ) [.ref a0] [(a0, .inr (8, [.ref a2, .ref a8, .ref a1, .ref a9, .ref a10, .ref a11, .ref a12, .ref a13])), (a1, .inr (4, [.ref a2, .ref a7, .ref a14, .ref a5, .ref a6, .ref a15, .ref a16, .ref a17, .int 0, .int 0, .int 0, .int 1])), (a2, .inr (3, [.int 1, .int 0, .ref a18, .ref a19, .ref a4, .ref a3, .ref a20, .ref a21])), (a3, .inl (cI, 4, .inl (tb [10, 10, 10, 10]))), (a4, .inl (cI, 4, .inl (tb [0, 0, 0, 0]))), (a5, .inl (cI, 4, .inl (tb []))), (a6, .inl (cI, 4, .inl (tb []))), (a7, .inl (cI, 9261, .inl (tb [])))] sz 0 g) ((QcI dC dI (TY cI cJ cII cJJ) 11 []) (va_A [(a0, .inr (8, [.ref a2, .ref a8, .ref a1, .ref a9, .ref a10, .ref a11, .ref a12, .ref a13])), (a1, .inr (4, [.ref a2, .ref a7, .ref a14, .ref a5, .ref a6, .ref a15, .ref a16, .ref a17, .int 0, .int 0, .int 0, .int 1])), (a2, .inr (3, [.int 1, .int 0, .ref a18, .ref a19, .ref a4, .ref a3, .ref a20, .ref a21])), (a3, .inl (cI, 4, .inl (tb [10, 10, 10, 10]))), (a4, .inl (cI, 4, .inl (tb [0, 0, 0, 0]))), (a5, .inl (cI, 4, .inl (tb []))), (a6, .inl (cI, 4, .inl (tb []))), (a7, .inl (cI, 9261, .inl (tb [])))] sz)) 0 0 (va_A [(a0, .inr (8, [.ref a2, .ref a8, .ref a1, .ref a9, .ref a10, .ref a11, .ref a12, .ref a13])), (a1, .inr (4, [.ref a2, .ref a7, .ref a14, .ref a5, .ref a6, .ref a15, .ref a16, .ref a17, .int 0, .int 0, .int 0, .int 1])), (a2, .inr (3, [.int 1, .int 0, .ref a18, .ref a19, .ref a4, .ref a3, .ref a20, .ref a21])), (a3, .inl (cI, 4, .inl (tb [10, 10, 10, 10]))), (a4, .inl (cI, 4, .inl (tb [0, 0, 0, 0]))), (a5, .inl (cI, 4, .inl (tb []))), (a6, .inl (cI, 4, .inl (tb []))), (a7, .inl (cI, 9261, .inl (tb [])))] sz) := by
  refine SM.of (y := yX8_plans) (maxL := 1) (av := [.ref a0]) (QcI dC dI (TY cI cJ cII cJJ) 11 []) (by decide +kernel) (Nat.le_of_ble_eq_true rfl) (fun p e s m below meth c A ls hx hb hr hml hown hts hk hnm hA hK hP hD hS hX hl => ?_)
  have hown : s.vm.findClass RX8 = some m.cls := hown
  have hl : lv_has ls 1 [(0, .ref a0)] := hl
  refine lv_aload_n hx hb dX8_plans_0 rfl (lv_at hl 0 rfl) ?_
  refine kV_a (q0 := 0) ⟨hx, hb, hml, hown, hts⟩ hK hP hD hS hA hX cv_RX8_196 [0, 1, 2, 3, 4, 5, 6, 7] [] (wr := []) rfl rfl rfl rfl (by decide) (c208_X8_freshPlans l dC dI cI cJ cII cJJ s.heap.size 0 a0 a1 a2 a3 a4 a5 a6 a7 a8 a9 a10 a11 a12 a13 a14 a15 a16 a17 a18 a19 a20 a21) ⟨by decide +kernel, by decide +kernel⟩ rfl rfl (Or.inl rfl) (rest := []) rfl rfl rfl hl.1 rfl (Nat.le_of_ble_eq_true rfl) dX8_plans_1 ⟨Nat.le_of_ble_eq_true rfl, Nat.le_of_ble_eq_true rfl⟩ (W' := [(a0, .inr (8, [.ref a2, .ref a8, .ref a1, .ref a9, .ref a10, .ref a11, .ref a12, .ref a13])), (a2, .inr (3, [.int 1, .int 0, .ref a18, .ref a19, .ref a4, .ref a3, .ref a20, .ref a21])), (a4, .inl (cI, 4, .inl (tb [0, 0, 0, 0]))), (a5, .inl (cI, 4, .inl (tb [0]))), (a3, .inl (cI, 4, .inl (tb [10, 10, 10, 10]))), (a6, .inl (cI, 4, .inl (tb [10]))), (a1, .inr (4, [.ref a2, .ref a7, .ref a14, .ref a5, .ref a6, .ref a15, .ref a16, .ref a17, .int 1, .int 11, .int 1, .int 0])), (a7, .inl (cI, 9261, .inl (tb [10])))]) rfl (fun H locs hP hD hS => ?_)
  refine kV_i (q0 := 0) ⟨hx, hb, hml, hown, hts⟩ hK hP hD hS hA hX cv_RX8_200 [6] [0, 1, 2, 3, 4, 5, 7] (wr := [(a0, .inr (8, [.ref a2, .ref a8, .ref a1, .ref a9, .ref a10, .ref a11, .ref a12, .ref a13])), (a2, .inr (3, [.int 1, .int 0, .ref a18, .ref a19, .ref a4, .ref a3, .ref a20, .ref a21])), (a4, .inl (cI, 4, .inl (tb [0, 0, 0, 0]))), (a5, .inl (cI, 4, .inl (tb [0]))), (a3, .inl (cI, 4, .inl (tb [10, 10, 10, 10]))), (a6, .inl (cI, 4, .inl (tb [10]))), (a7, .inl (cI, 9261, .inl (tb [10])))]) rfl rfl rfl rfl (by decide) (c214_X4_size l dC dI cI cJ cII cJJ H.size 0 a1 a2 a7 a14 a5 a6 a15 a16 a17) ⟨by decide +kernel, by decide +kernel⟩ rfl rfl (Or.inl rfl) (rest := []) rfl rfl rfl hl.1 rfl (Nat.le_of_ble_eq_true rfl) dX8_plans_4 ⟨Nat.le_of_ble_eq_true rfl, Nat.le_of_ble_eq_true rfl⟩ (W' := [(a0, .inr (8, [.ref a2, .ref a8, .ref a1, .ref a9, .ref a10, .ref a11, .ref a12, .ref a13])), (a2, .inr (3, [.int 1, .int 0, .ref a18, .ref a19, .ref a4, .ref a3, .ref a20, .ref a21])), (a4, .inl (cI, 4, .inl (tb [0, 0, 0, 0]))), (a5, .inl (cI, 4, .inl (tb [0]))), (a3, .inl (cI, 4, .inl (tb [10, 10, 10, 10]))), (a6, .inl (cI, 4, .inl (tb [10]))), (a7, .inl (cI, 9261, .inl (tb [10]))), (a1, .inr (4, [.ref a2, .ref a7, .ref a14, .ref a5, .ref a6, .ref a15, .ref a16, .ref a17, .int 1, .int 11, .int 1, .int 0]))]) rfl (fun H locs hP hD hS => ?_)
  exact r_i hx hb hr hk hK (hP.sub [] rfl) (hD.sub [] rfl rfl) hS dX8_plans_7
set_option maxRecDepth 100000 in
set_option maxHeartbeats 4000000 in
theorem c216_X4_isNumber (l : Launch) (dC : Nat → ClassId) (dI : Nat → Nat → Nat) (cI cJ cII cJJ : ClassId) (sz g a0 a1 a2 a3 a4 a5 a6 a7 a8 : Nat) (x0 : Int32) (h_x0 : -2147483648 ≤ x0.toInt ∧ x0.toInt ≤ -1) : Met l yX4_isNumber (.code yX4_isNumber cX4_isNumber 2 (some .boolean) :: TT) ({ frames := 2, cells := 0, slots := 0, locals := 80 }) (PcS dC dI (TY cI cJ cII cJJ) [.ref a0, .int x0] [(a0, .inr (4, [.ref a1, .ref a2, .ref a3, .ref a4, .ref a5, .ref a6, .ref a7, .ref a8, .int 1, .int 11, .int 1, .int 0]))] sz 0 g) ((QcI dC dI (TY cI cJ cII cJJ) 0 [(a0, .inr (4, [.ref a1, .ref a2, .ref a3, .ref a4, .ref a5, .ref a6, .ref a7, .ref a8, .int 1, .int 11, .int 1, .int 0]))]) (va_A [(a0, .inr (4, [.ref a1, .ref a2, .ref a3, .ref a4, .ref a5, .ref a6, .ref a7, .ref a8, .int 1, .int 11, .int 1, .int 0]))] sz)) 0 0 (va_A [(a0, .inr (4, [.ref a1, .ref a2, .ref a3, .ref a4, .ref a5, .ref a6, .ref a7, .ref a8, .int 1, .int 11, .int 1, .int 0]))] sz) := by
  refine SM.of (y := yX4_isNumber) (maxL := 2) (av := [.ref a0, .int x0]) (QcI dC dI (TY cI cJ cII cJJ) 0 [(a0, .inr (4, [.ref a1, .ref a2, .ref a3, .ref a4, .ref a5, .ref a6, .ref a7, .ref a8, .int 1, .int 11, .int 1, .int 0]))]) (by decide +kernel) (Nat.le_of_ble_eq_true rfl) (fun p e s m below meth c A ls hx hb hr hml hown hts hk hnm hA hK hP hD hS hX hl => ?_)
  have hown : s.vm.findClass RX4 = some m.cls := hown
  have hl : lv_has ls 2 [(0, .ref a0), (1, .int x0)] := hl
  refine lv_iload_n hx hb dX4_isNumber_0 rfl (lv_at hl 1 rfl) ?_
  refine t_if_lt hx hb dX4_isNumber_1 16 (by decide) (p_lt (by rw [show (0 : Int32).toInt = 0 from by decide +kernel]; omega)) ?_
  refine lv_iconst (v := 0) hx hb dX4_isNumber_16 (by decide) ?_
  exact r_z hx hb hr hk hK hP hD hS dX4_isNumber_17 rfl
set_option maxRecDepth 100000 in
set_option maxHeartbeats 4000000 in
theorem c215_X8_plan (l : Launch) (dC : Nat → ClassId) (dI : Nat → Nat → Nat) (cI cJ cII cJJ : ClassId) (sz g a0 a1 a2 a3 a4 a5 a6 a7 a8 a9 a10 a11 a12 a13 a14 a15 a16 a17 a18 a19 a20 a21 : Nat) (x0 : Int32) (h_x0 : -2147483648 ≤ x0.toInt ∧ x0.toInt ≤ -1) (x1 : Int32) (h_x1 : -2147483648 ≤ x1.toInt ∧ x1.toInt ≤ 2147483647) : Met l yX8_plan (.code yX8_plan cX8_plan 3 (some .int) :: TT) ({ frames := 6, cells := 0, slots := 0, locals := 320 }) (PcS dC dI (TY cI cJ cII cJJ) [.ref a0, .int x0, .int x1] [(a0, .inr (8, [.ref a2, .ref a8, .ref a1, .ref a9, .ref a10, .ref a11, .ref a12, .ref a13])), (a1, .inr (4, [.ref a2, .ref a7, .ref a14, .ref a5, .ref a6, .ref a15, .ref a16, .ref a17, .int 0, .int 0, .int 0, .int 1])), (a2, .inr (3, [.int 1, .int 0, .ref a18, .ref a19, .ref a4, .ref a3, .ref a20, .ref a21])), (a3, .inl (cI, 4, .inl (tb [10, 10, 10, 10]))), (a4, .inl (cI, 4, .inl (tb [0, 0, 0, 0]))), (a5, .inl (cI, 4, .inl (tb []))), (a6, .inl (cI, 4, .inl (tb []))), (a7, .inl (cI, 9261, .inl (tb [])))] sz 0 g) ((QcI dC dI (TY cI cJ cII cJJ) (-99999) []) (va_A [(a0, .inr (8, [.ref a2, .ref a8, .ref a1, .ref a9, .ref a10, .ref a11, .ref a12, .ref a13])), (a1, .inr (4, [.ref a2, .ref a7, .ref a14, .ref a5, .ref a6, .ref a15, .ref a16, .ref a17, .int 0, .int 0, .int 0, .int 1])), (a2, .inr (3, [.int 1, .int 0, .ref a18, .ref a19, .ref a4, .ref a3, .ref a20, .ref a21])), (a3, .inl (cI, 4, .inl (tb [10, 10, 10, 10]))), (a4, .inl (cI, 4, .inl (tb [0, 0, 0, 0]))), (a5, .inl (cI, 4, .inl (tb []))), (a6, .inl (cI, 4, .inl (tb []))), (a7, .inl (cI, 9261, .inl (tb [])))] sz)) 0 0 (va_A [(a0, .inr (8, [.ref a2, .ref a8, .ref a1, .ref a9, .ref a10, .ref a11, .ref a12, .ref a13])), (a1, .inr (4, [.ref a2, .ref a7, .ref a14, .ref a5, .ref a6, .ref a15, .ref a16, .ref a17, .int 0, .int 0, .int 0, .int 1])), (a2, .inr (3, [.int 1, .int 0, .ref a18, .ref a19, .ref a4, .ref a3, .ref a20, .ref a21])), (a3, .inl (cI, 4, .inl (tb [10, 10, 10, 10]))), (a4, .inl (cI, 4, .inl (tb [0, 0, 0, 0]))), (a5, .inl (cI, 4, .inl (tb []))), (a6, .inl (cI, 4, .inl (tb []))), (a7, .inl (cI, 9261, .inl (tb [])))] sz) := by
  refine SM.of (y := yX8_plan) (maxL := 3) (av := [.ref a0, .int x0, .int x1]) (QcI dC dI (TY cI cJ cII cJJ) (-99999) []) (by decide +kernel) (Nat.le_of_ble_eq_true rfl) (fun p e s m below meth c A ls hx hb hr hml hown hts hk hnm hA hK hP hD hS hX hl => ?_)
  have hown : s.vm.findClass RX8 = some m.cls := hown
  have hl : lv_has ls 3 [(0, .ref a0), (1, .int x0), (2, .int x1)] := hl
  refine lv_aload_n hx hb dX8_plan_0 rfl (lv_at hl 0 rfl) ?_
  refine kV_a (q0 := 0) ⟨hx, hb, hml, hown, hts⟩ hK hP hD hS hA hX cv_RX8_196 [0, 1, 2, 3, 4, 5, 6, 7] [] (wr := []) rfl rfl rfl rfl (by decide) (c208_X8_freshPlans l dC dI cI cJ cII cJJ s.heap.size 0 a0 a1 a2 a3 a4 a5 a6 a7 a8 a9 a10 a11 a12 a13 a14 a15 a16 a17 a18 a19 a20 a21) ⟨by decide +kernel, by decide +kernel⟩ rfl rfl (Or.inl rfl) (rest := []) rfl rfl rfl hl.1 rfl (Nat.le_of_ble_eq_true rfl) dX8_plan_1 ⟨Nat.le_of_ble_eq_true rfl, Nat.le_of_ble_eq_true rfl⟩ (W' := [(a0, .inr (8, [.ref a2, .ref a8, .ref a1, .ref a9, .ref a10, .ref a11, .ref a12, .ref a13])), (a2, .inr (3, [.int 1, .int 0, .ref a18, .ref a19, .ref a4, .ref a3, .ref a20, .ref a21])), (a4, .inl (cI, 4, .inl (tb [0, 0, 0, 0]))), (a5, .inl (cI, 4, .inl (tb [0]))), (a3, .inl (cI, 4, .inl (tb [10, 10, 10, 10]))), (a6, .inl (cI, 4, .inl (tb [10]))), (a1, .inr (4, [.ref a2, .ref a7, .ref a14, .ref a5, .ref a6, .ref a15, .ref a16, .ref a17, .int 1, .int 11, .int 1, .int 0])), (a7, .inl (cI, 9261, .inl (tb [10])))]) rfl (fun H locs hP hD hS => ?_)
  refine lv_iload_n hx hb dX8_plan_4 rfl (lv_at hl 1 rfl) ?_
  refine kV_i (q0 := 0) ⟨hx, hb, hml, hown, hts⟩ hK hP hD hS hA hX cv_RX8_201 [6] [0, 1, 2, 3, 4, 5, 7] (wr := [(a0, .inr (8, [.ref a2, .ref a8, .ref a1, .ref a9, .ref a10, .ref a11, .ref a12, .ref a13])), (a2, .inr (3, [.int 1, .int 0, .ref a18, .ref a19, .ref a4, .ref a3, .ref a20, .ref a21])), (a4, .inl (cI, 4, .inl (tb [0, 0, 0, 0]))), (a5, .inl (cI, 4, .inl (tb [0]))), (a3, .inl (cI, 4, .inl (tb [10, 10, 10, 10]))), (a6, .inl (cI, 4, .inl (tb [10]))), (a7, .inl (cI, 9261, .inl (tb [10])))]) rfl rfl rfl rfl (by decide) (c216_X4_isNumber l dC dI cI cJ cII cJJ H.size 0 a1 a2 a7 a14 a5 a6 a15 a16 a17 x0 h_x0) ⟨by decide +kernel, by decide +kernel⟩ rfl rfl (Or.inl rfl) (rest := []) rfl rfl rfl hl.1 rfl (Nat.le_of_ble_eq_true rfl) dX8_plan_5 ⟨Nat.le_of_ble_eq_true rfl, Nat.le_of_ble_eq_true rfl⟩ (W' := [(a0, .inr (8, [.ref a2, .ref a8, .ref a1, .ref a9, .ref a10, .ref a11, .ref a12, .ref a13])), (a2, .inr (3, [.int 1, .int 0, .ref a18, .ref a19, .ref a4, .ref a3, .ref a20, .ref a21])), (a4, .inl (cI, 4, .inl (tb [0, 0, 0, 0]))), (a5, .inl (cI, 4, .inl (tb [0]))), (a3, .inl (cI, 4, .inl (tb [10, 10, 10, 10]))), (a6, .inl (cI, 4, .inl (tb [10]))), (a7, .inl (cI, 9261, .inl (tb [10]))), (a1, .inr (4, [.ref a2, .ref a7, .ref a14, .ref a5, .ref a6, .ref a15, .ref a16, .ref a17, .int 1, .int 11, .int 1, .int 0]))]) rfl (fun H locs hP hD hS => ?_)
  refine t_if_eq hx hb dX8_plan_8 22 (by decide) (by decide +kernel) ?_
  refine lv_ldc (v := (-99999)) hx hb hown (hts _ k_543) dX8_plan_22 ?_
  exact r_i hx hb hr hk hK (hP.sub [] rfl) (hD.sub [] rfl rfl) hS dX8_plan_24
set_option maxRecDepth 100000 in
set_option maxHeartbeats 4000000 in
theorem c218_X4_isNumber (l : Launch) (dC : Nat → ClassId) (dI : Nat → Nat → Nat) (cI cJ cII cJJ : ClassId) (sz g a0 a1 a2 a3 a4 a5 a6 a7 a8 : Nat) (x0 : Int32) (h_x0 : 11 ≤ x0.toInt ∧ x0.toInt ≤ 2147483647) : Met l yX4_isNumber (.code yX4_isNumber cX4_isNumber 2 (some .boolean) :: TT) ({ frames := 3, cells := 0, slots := 0, locals := 140 }) (PcS dC dI (TY cI cJ cII cJJ) [.ref a0, .int x0] [(a0, .inr (4, [.ref a1, .ref a2, .ref a3, .ref a4, .ref a5, .ref a6, .ref a7, .ref a8, .int 1, .int 11, .int 1, .int 0]))] sz 0 g) ((QcI dC dI (TY cI cJ cII cJJ) 0 [(a0, .inr (4, [.ref a1, .ref a2, .ref a3, .ref a4, .ref a5, .ref a6, .ref a7, .ref a8, .int 1, .int 11, .int 1, .int 0]))]) (va_A [(a0, .inr (4, [.ref a1, .ref a2, .ref a3, .ref a4, .ref a5, .ref a6, .ref a7, .ref a8, .int 1, .int 11, .int 1, .int 0]))] sz)) 0 0 (va_A [(a0, .inr (4, [.ref a1, .ref a2, .ref a3, .ref a4, .ref a5, .ref a6, .ref a7, .ref a8, .int 1, .int 11, .int 1, .int 0]))] sz) := by
  refine SM.of (y := yX4_isNumber) (maxL := 2) (av := [.ref a0, .int x0]) (QcI dC dI (TY cI cJ cII cJJ) 0 [(a0, .inr (4, [.ref a1, .ref a2, .ref a3, .ref a4, .ref a5, .ref a6, .ref a7, .ref a8, .int 1, .int 11, .int 1, .int 0]))]) (by decide +kernel) (Nat.le_of_ble_eq_true rfl) (fun p e s m below meth c A ls hx hb hr hml hown hts hk hnm hA hK hP hD hS hX hl => ?_)
  have hown : s.vm.findClass RX4 = some m.cls := hown
  have hl : lv_has ls 2 [(0, .ref a0), (1, .int x0)] := hl
  refine lv_iload_n hx hb dX4_isNumber_0 rfl (lv_at hl 1 rfl) ?_
  refine f_if_lt hx hb dX4_isNumber_1 16 (by decide) (p_nlt (by rw [show (0 : Int32).toInt = 0 from by decide +kernel]; omega)) ?_
  refine lv_iload_n hx hb dX4_isNumber_4 rfl (lv_at hl 1 rfl) ?_
  refine lv_aload_n hx hb dX4_isNumber_5 rfl (lv_at hl 0 rfl) ?_
  refine kV_i (q0 := 0) ⟨hx, hb, hml, hown, hts⟩ hK hP hD hS hA hX cv_RX4_81 [0] [] (wr := []) rfl rfl rfl rfl (by decide) (c214_X4_size l dC dI cI cJ cII cJJ s.heap.size 0 a0 a1 a2 a3 a4 a5 a6 a7 a8) ⟨by decide +kernel, by decide +kernel⟩ rfl rfl (Or.inl rfl) (rest := [.int x0]) rfl rfl rfl hl.1 rfl (Nat.le_of_ble_eq_true rfl) dX4_isNumber_6 ⟨Nat.le_of_ble_eq_true rfl, Nat.le_of_ble_eq_true rfl⟩ (W' := [(a0, .inr (4, [.ref a1, .ref a2, .ref a3, .ref a4, .ref a5, .ref a6, .ref a7, .ref a8, .int 1, .int 11, .int 1, .int 0]))]) rfl (fun H locs hP hD hS => ?_)
  refine t_icmp_ge hx hb dX4_isNumber_9 16 (by decide) (p_le (by rw [show (11 : Int32).toInt = 11 from by decide +kernel]; omega)) ?_
  refine lv_iconst (v := 0) hx hb dX4_isNumber_16 (by decide) ?_
  exact r_z hx hb hr hk hK hP hD hS dX4_isNumber_17 rfl
set_option maxRecDepth 100000 in
set_option maxHeartbeats 4000000 in
theorem c217_X8_plan (l : Launch) (dC : Nat → ClassId) (dI : Nat → Nat → Nat) (cI cJ cII cJJ : ClassId) (sz g a0 a1 a2 a3 a4 a5 a6 a7 a8 a9 a10 a11 a12 a13 a14 a15 a16 a17 a18 a19 a20 a21 : Nat) (x0 : Int32) (h_x0 : 11 ≤ x0.toInt ∧ x0.toInt ≤ 2147483647) (x1 : Int32) (h_x1 : -2147483648 ≤ x1.toInt ∧ x1.toInt ≤ 2147483647) : Met l yX8_plan (.code yX8_plan cX8_plan 3 (some .int) :: TT) ({ frames := 6, cells := 0, slots := 0, locals := 320 }) (PcS dC dI (TY cI cJ cII cJJ) [.ref a0, .int x0, .int x1] [(a0, .inr (8, [.ref a2, .ref a8, .ref a1, .ref a9, .ref a10, .ref a11, .ref a12, .ref a13])), (a1, .inr (4, [.ref a2, .ref a7, .ref a14, .ref a5, .ref a6, .ref a15, .ref a16, .ref a17, .int 0, .int 0, .int 0, .int 1])), (a2, .inr (3, [.int 1, .int 0, .ref a18, .ref a19, .ref a4, .ref a3, .ref a20, .ref a21])), (a3, .inl (cI, 4, .inl (tb [10, 10, 10, 10]))), (a4, .inl (cI, 4, .inl (tb [0, 0, 0, 0]))), (a5, .inl (cI, 4, .inl (tb []))), (a6, .inl (cI, 4, .inl (tb []))), (a7, .inl (cI, 9261, .inl (tb [])))] sz 0 g) ((QcI dC dI (TY cI cJ cII cJJ) (-99999) []) (va_A [(a0, .inr (8, [.ref a2, .ref a8, .ref a1, .ref a9, .ref a10, .ref a11, .ref a12, .ref a13])), (a1, .inr (4, [.ref a2, .ref a7, .ref a14, .ref a5, .ref a6, .ref a15, .ref a16, .ref a17, .int 0, .int 0, .int 0, .int 1])), (a2, .inr (3, [.int 1, .int 0, .ref a18, .ref a19, .ref a4, .ref a3, .ref a20, .ref a21])), (a3, .inl (cI, 4, .inl (tb [10, 10, 10, 10]))), (a4, .inl (cI, 4, .inl (tb [0, 0, 0, 0]))), (a5, .inl (cI, 4, .inl (tb []))), (a6, .inl (cI, 4, .inl (tb []))), (a7, .inl (cI, 9261, .inl (tb [])))] sz)) 0 0 (va_A [(a0, .inr (8, [.ref a2, .ref a8, .ref a1, .ref a9, .ref a10, .ref a11, .ref a12, .ref a13])), (a1, .inr (4, [.ref a2, .ref a7, .ref a14, .ref a5, .ref a6, .ref a15, .ref a16, .ref a17, .int 0, .int 0, .int 0, .int 1])), (a2, .inr (3, [.int 1, .int 0, .ref a18, .ref a19, .ref a4, .ref a3, .ref a20, .ref a21])), (a3, .inl (cI, 4, .inl (tb [10, 10, 10, 10]))), (a4, .inl (cI, 4, .inl (tb [0, 0, 0, 0]))), (a5, .inl (cI, 4, .inl (tb []))), (a6, .inl (cI, 4, .inl (tb []))), (a7, .inl (cI, 9261, .inl (tb [])))] sz) := by
  refine SM.of (y := yX8_plan) (maxL := 3) (av := [.ref a0, .int x0, .int x1]) (QcI dC dI (TY cI cJ cII cJJ) (-99999) []) (by decide +kernel) (Nat.le_of_ble_eq_true rfl) (fun p e s m below meth c A ls hx hb hr hml hown hts hk hnm hA hK hP hD hS hX hl => ?_)
  have hown : s.vm.findClass RX8 = some m.cls := hown
  have hl : lv_has ls 3 [(0, .ref a0), (1, .int x0), (2, .int x1)] := hl
  refine lv_aload_n hx hb dX8_plan_0 rfl (lv_at hl 0 rfl) ?_
  refine kV_a (q0 := 0) ⟨hx, hb, hml, hown, hts⟩ hK hP hD hS hA hX cv_RX8_196 [0, 1, 2, 3, 4, 5, 6, 7] [] (wr := []) rfl rfl rfl rfl (by decide) (c208_X8_freshPlans l dC dI cI cJ cII cJJ s.heap.size 0 a0 a1 a2 a3 a4 a5 a6 a7 a8 a9 a10 a11 a12 a13 a14 a15 a16 a17 a18 a19 a20 a21) ⟨by decide +kernel, by decide +kernel⟩ rfl rfl (Or.inl rfl) (rest := []) rfl rfl rfl hl.1 rfl (Nat.le_of_ble_eq_true rfl) dX8_plan_1 ⟨Nat.le_of_ble_eq_true rfl, Nat.le_of_ble_eq_true rfl⟩ (W' := [(a0, .inr (8, [.ref a2, .ref a8, .ref a1, .ref a9, .ref a10, .ref a11, .ref a12, .ref a13])), (a2, .inr (3, [.int 1, .int 0, .ref a18, .ref a19, .ref a4, .ref a3, .ref a20, .ref a21])), (a4, .inl (cI, 4, .inl (tb [0, 0, 0, 0]))), (a5, .inl (cI, 4, .inl (tb [0]))), (a3, .inl (cI, 4, .inl (tb [10, 10, 10, 10]))), (a6, .inl (cI, 4, .inl (tb [10]))), (a1, .inr (4, [.ref a2, .ref a7, .ref a14, .ref a5, .ref a6, .ref a15, .ref a16, .ref a17, .int 1, .int 11, .int 1, .int 0])), (a7, .inl (cI, 9261, .inl (tb [10])))]) rfl (fun H locs hP hD hS => ?_)
  refine lv_iload_n hx hb dX8_plan_4 rfl (lv_at hl 1 rfl) ?_
  refine kV_i (q0 := 0) ⟨hx, hb, hml, hown, hts⟩ hK hP hD hS hA hX cv_RX8_201 [6] [0, 1, 2, 3, 4, 5, 7] (wr := [(a0, .inr (8, [.ref a2, .ref a8, .ref a1, .ref a9, .ref a10, .ref a11, .ref a12, .ref a13])), (a2, .inr (3, [.int 1, .int 0, .ref a18, .ref a19, .ref a4, .ref a3, .ref a20, .ref a21])), (a4, .inl (cI, 4, .inl (tb [0, 0, 0, 0]))), (a5, .inl (cI, 4, .inl (tb [0]))), (a3, .inl (cI, 4, .inl (tb [10, 10, 10, 10]))), (a6, .inl (cI, 4, .inl (tb [10]))), (a7, .inl (cI, 9261, .inl (tb [10])))]) rfl rfl rfl rfl (by decide) (c218_X4_isNumber l dC dI cI cJ cII cJJ H.size 0 a1 a2 a7 a14 a5 a6 a15 a16 a17 x0 h_x0) ⟨by decide +kernel, by decide +kernel⟩ rfl rfl (Or.inl rfl) (rest := []) rfl rfl rfl hl.1 rfl (Nat.le_of_ble_eq_true rfl) dX8_plan_5 ⟨Nat.le_of_ble_eq_true rfl, Nat.le_of_ble_eq_true rfl⟩ (W' := [(a0, .inr (8, [.ref a2, .ref a8, .ref a1, .ref a9, .ref a10, .ref a11, .ref a12, .ref a13])), (a2, .inr (3, [.int 1, .int 0, .ref a18, .ref a19, .ref a4, .ref a3, .ref a20, .ref a21])), (a4, .inl (cI, 4, .inl (tb [0, 0, 0, 0]))), (a5, .inl (cI, 4, .inl (tb [0]))), (a3, .inl (cI, 4, .inl (tb [10, 10, 10, 10]))), (a6, .inl (cI, 4, .inl (tb [10]))), (a7, .inl (cI, 9261, .inl (tb [10]))), (a1, .inr (4, [.ref a2, .ref a7, .ref a14, .ref a5, .ref a6, .ref a15, .ref a16, .ref a17, .int 1, .int 11, .int 1, .int 0]))]) rfl (fun H locs hP hD hS => ?_)
  refine t_if_eq hx hb dX8_plan_8 22 (by decide) (by decide +kernel) ?_
  refine lv_ldc (v := (-99999)) hx hb hown (hts _ k_543) dX8_plan_22 ?_
  exact r_i hx hb hr hk hK (hP.sub [] rfl) (hD.sub [] rfl rfl) hS dX8_plan_24
set_option maxRecDepth 100000 in
set_option maxHeartbeats 4000000 in
theorem c220_X4_isNumber (l : Launch) (dC : Nat → ClassId) (dI : Nat → Nat → Nat) (cI cJ cII cJJ : ClassId) (sz g a0 a1 a2 a3 a4 a5 a6 a7 a8 : Nat) (x0 : Int32) (h_x0 : 0 ≤ x0.toInt ∧ x0.toInt ≤ 10) : Met l yX4_isNumber (.code yX4_isNumber cX4_isNumber 2 (some .boolean) :: TT) ({ frames := 3, cells := 0, slots := 0, locals := 140 }) (PcS dC dI (TY cI cJ cII cJJ) [.ref a0, .int x0] [(a0, .inr (4, [.ref a1, .ref a2, .ref a3, .ref a4, .ref a5, .ref a6, .ref a7, .ref a8, .int 1, .int 11, .int 1, .int 0]))] sz 0 g) ((QcI dC dI (TY cI cJ cII cJJ) 1 [(a0, .inr (4, [.ref a1, .ref a2, .ref a3, .ref a4, .ref a5, .ref a6, .ref a7, .ref a8, .int 1, .int 11, .int 1, .int 0]))]) (va_A [(a0, .inr (4, [.ref a1, .ref a2, .ref a3, .ref a4, .ref a5, .ref a6, .ref a7, .ref a8, .int 1, .int 11, .int 1, .int 0]))] sz)) 0 0 (va_A [(a0, .inr (4, [.ref a1, .ref a2, .ref a3, .ref a4, .ref a5, .ref a6, .ref a7, .ref a8, .int 1, .int 11, .int 1, .int 0]))] sz) := by
  refine SM.of (y := yX4_isNumber) (maxL := 2) (av := [.ref a0, .int x0]) (QcI dC dI (TY cI cJ cII cJJ) 1 [(a0, .inr (4, [.ref a1, .ref a2, .ref a3, .ref a4, .ref a5, .ref a6, .ref a7, .ref a8, .int 1, .int 11, .int 1, .int 0]))]) (by decide +kernel) (Nat.le_of_ble_eq_true rfl) (fun p e s m below meth c A ls hx hb hr hml hown hts hk hnm hA hK hP hD hS hX hl => ?_)
  have hown : s.vm.findClass RX4 = some m.cls := hown
  have hl : lv_has ls 2 [(0, .ref a0), (1, .int x0)] := hl
  refine lv_iload_n hx hb dX4_isNumber_0 rfl (lv_at hl 1 rfl) ?_
  refine f_if_lt hx hb dX4_isNumber_1 16 (by decide) (p_nlt (by rw [show (0 : Int32).toInt = 0 from by decide +kernel]; omega)) ?_
  refine lv_iload_n hx hb dX4_isNumber_4 rfl (lv_at hl 1 rfl) ?_
  refine lv_aload_n hx hb dX4_isNumber_5 rfl (lv_at hl 0 rfl) ?_
  refine kV_i (q0 := 0) ⟨hx, hb, hml, hown, hts⟩ hK hP hD hS hA hX cv_RX4_81 [0] [] (wr := []) rfl rfl rfl rfl (by decide) (c214_X4_size l dC dI cI cJ cII cJJ s.heap.size 0 a0 a1 a2 a3 a4 a5 a6 a7 a8) ⟨by decide +kernel, by decide +kernel⟩ rfl rfl (Or.inl rfl) (rest := [.int x0]) rfl rfl rfl hl.1 rfl (Nat.le_of_ble_eq_true rfl) dX4_isNumber_6 ⟨Nat.le_of_ble_eq_true rfl, Nat.le_of_ble_eq_true rfl⟩ (W' := [(a0, .inr (4, [.ref a1, .ref a2, .ref a3, .ref a4, .ref a5, .ref a6, .ref a7, .ref a8, .int 1, .int 11, .int 1, .int 0]))]) rfl (fun H locs hP hD hS => ?_)
  refine f_icmp_ge hx hb dX4_isNumber_9 16 (by decide) (p_nle (by rw [show (11 : Int32).toInt = 11 from by decide +kernel]; omega)) ?_
  refine lv_iconst (v := 1) hx hb dX4_isNumber_12 (by decide) ?_
  refine lv_goto (tgt := 17) hx hb dX4_isNumber_13 (by decide) ?_
  exact r_z hx hb hr hk hK hP hD hS dX4_isNumber_17 rfl
set_option maxRecDepth 100000 in
set_option maxHeartbeats 4000000 in
theorem c219_X8_plan (l : Launch) (dC : Nat → ClassId) (dI : Nat → Nat → Nat) (cI cJ cII cJJ : ClassId) (sz g a0 a1 a2 a3 a4 a5 a6 a7 a8 a9 a10 a11 a12 a13 a14 a15 a16 a17 a18 a19 a20 a21 : Nat) (x0 : Int32) (h_x0 : 0 ≤ x0.toInt ∧ x0.toInt ≤ 10) (x1 : Int32) (h_x1 : -2147483648 ≤ x1.toInt ∧ x1.toInt ≤ -1) : Met l yX8_plan (.code yX8_plan cX8_plan 3 (some .int) :: TT) ({ frames := 6, cells := 0, slots := 0, locals := 320 }) (PcS dC dI (TY cI cJ cII cJJ) [.ref a0, .int x0, .int x1] [(a0, .inr (8, [.ref a2, .ref a8, .ref a1, .ref a9, .ref a10, .ref a11, .ref a12, .ref a13])), (a1, .inr (4, [.ref a2, .ref a7, .ref a14, .ref a5, .ref a6, .ref a15, .ref a16, .ref a17, .int 0, .int 0, .int 0, .int 1])), (a2, .inr (3, [.int 1, .int 0, .ref a18, .ref a19, .ref a4, .ref a3, .ref a20, .ref a21])), (a3, .inl (cI, 4, .inl (tb [10, 10, 10, 10]))), (a4, .inl (cI, 4, .inl (tb [0, 0, 0, 0]))), (a5, .inl (cI, 4, .inl (tb []))), (a6, .inl (cI, 4, .inl (tb []))), (a7, .inl (cI, 9261, .inl (tb [])))] sz 0 g) ((QcI dC dI (TY cI cJ cII cJJ) (-99999) []) (va_A [(a0, .inr (8, [.ref a2, .ref a8, .ref a1, .ref a9, .ref a10, .ref a11, .ref a12, .ref a13])), (a1, .inr (4, [.ref a2, .ref a7, .ref a14, .ref a5, .ref a6, .ref a15, .ref a16, .ref a17, .int 0, .int 0, .int 0, .int 1])), (a2, .inr (3, [.int 1, .int 0, .ref a18, .ref a19, .ref a4, .ref a3, .ref a20, .ref a21])), (a3, .inl (cI, 4, .inl (tb [10, 10, 10, 10]))), (a4, .inl (cI, 4, .inl (tb [0, 0, 0, 0]))), (a5, .inl (cI, 4, .inl (tb []))), (a6, .inl (cI, 4, .inl (tb []))), (a7, .inl (cI, 9261, .inl (tb [])))] sz)) 0 0 (va_A [(a0, .inr (8, [.ref a2, .ref a8, .ref a1, .ref a9, .ref a10, .ref a11, .ref a12, .ref a13])), (a1, .inr (4, [.ref a2, .ref a7, .ref a14, .ref a5, .ref a6, .ref a15, .ref a16, .ref a17, .int 0, .int 0, .int 0, .int 1])), (a2, .inr (3, [.int 1, .int 0, .ref a18, .ref a19, .ref a4, .ref a3, .ref a20, .ref a21])), (a3, .inl (cI, 4, .inl (tb [10, 10, 10, 10]))), (a4, .inl (cI, 4, .inl (tb [0, 0, 0, 0]))), (a5, .inl (cI, 4, .inl (tb []))), (a6, .inl (cI, 4, .inl (tb []))), (a7, .inl (cI, 9261, .inl (tb [])))] sz) := by
  refine SM.of (y := yX8_plan) (maxL := 3) (av := [.ref a0, .int x0, .int x1]) (QcI dC dI (TY cI cJ cII cJJ) (-99999) []) (by decide +kernel) (Nat.le_of_ble_eq_true rfl) (fun p e s m below meth c A ls hx hb hr hml hown hts hk hnm hA hK hP hD hS hX hl => ?_)
  have hown : s.vm.findClass RX8 = some m.cls := hown
  have hl : lv_has ls 3 [(0, .ref a0), (1, .int x0), (2, .int x1)] := hl
  refine lv_aload_n hx hb dX8_plan_0 rfl (lv_at hl 0 rfl) ?_
  refine kV_a (q0 := 0) ⟨hx, hb, hml, hown, hts⟩ hK hP hD hS hA hX cv_RX8_196 [0, 1, 2, 3, 4, 5, 6, 7] [] (wr := []) rfl rfl rfl rfl (by decide) (c208_X8_freshPlans l dC dI cI cJ cII cJJ s.heap.size 0 a0 a1 a2 a3 a4 a5 a6 a7 a8 a9 a10 a11 a12 a13 a14 a15 a16 a17 a18 a19 a20 a21) ⟨by decide +kernel, by decide +kernel⟩ rfl rfl (Or.inl rfl) (rest := []) rfl rfl rfl hl.1 rfl (Nat.le_of_ble_eq_true rfl) dX8_plan_1 ⟨Nat.le_of_ble_eq_true rfl, Nat.le_of_ble_eq_true rfl⟩ (W' := [(a0, .inr (8, [.ref a2, .ref a8, .ref a1, .ref a9, .ref a10, .ref a11, .ref a12, .ref a13])), (a2, .inr (3, [.int 1, .int 0, .ref a18, .ref a19, .ref a4, .ref a3, .ref a20, .ref a21])), (a4, .inl (cI, 4, .inl (tb [0, 0, 0, 0]))), (a5, .inl (cI, 4, .inl (tb [0]))), (a3, .inl (cI, 4, .inl (tb [10, 10, 10, 10]))), (a6, .inl (cI, 4, .inl (tb [10]))), (a1, .inr (4, [.ref a2, .ref a7, .ref a14, .ref a5, .ref a6, .ref a15, .ref a16, .ref a17, .int 1, .int 11, .int 1, .int 0])), (a7, .inl (cI, 9261, .inl (tb [10])))]) rfl (fun H locs hP hD hS => ?_)
  refine lv_iload_n hx hb dX8_plan_4 rfl (lv_at hl 1 rfl) ?_
  refine kV_i (q0 := 0) ⟨hx, hb, hml, hown, hts⟩ hK hP hD hS hA hX cv_RX8_201 [6] [0, 1, 2, 3, 4, 5, 7] (wr := [(a0, .inr (8, [.ref a2, .ref a8, .ref a1, .ref a9, .ref a10, .ref a11, .ref a12, .ref a13])), (a2, .inr (3, [.int 1, .int 0, .ref a18, .ref a19, .ref a4, .ref a3, .ref a20, .ref a21])), (a4, .inl (cI, 4, .inl (tb [0, 0, 0, 0]))), (a5, .inl (cI, 4, .inl (tb [0]))), (a3, .inl (cI, 4, .inl (tb [10, 10, 10, 10]))), (a6, .inl (cI, 4, .inl (tb [10]))), (a7, .inl (cI, 9261, .inl (tb [10])))]) rfl rfl rfl rfl (by decide) (c220_X4_isNumber l dC dI cI cJ cII cJJ H.size 0 a1 a2 a7 a14 a5 a6 a15 a16 a17 x0 h_x0) ⟨by decide +kernel, by decide +kernel⟩ rfl rfl (Or.inl rfl) (rest := []) rfl rfl rfl hl.1 rfl (Nat.le_of_ble_eq_true rfl) dX8_plan_5 ⟨Nat.le_of_ble_eq_true rfl, Nat.le_of_ble_eq_true rfl⟩ (W' := [(a0, .inr (8, [.ref a2, .ref a8, .ref a1, .ref a9, .ref a10, .ref a11, .ref a12, .ref a13])), (a2, .inr (3, [.int 1, .int 0, .ref a18, .ref a19, .ref a4, .ref a3, .ref a20, .ref a21])), (a4, .inl (cI, 4, .inl (tb [0, 0, 0, 0]))), (a5, .inl (cI, 4, .inl (tb [0]))), (a3, .inl (cI, 4, .inl (tb [10, 10, 10, 10]))), (a6, .inl (cI, 4, .inl (tb [10]))), (a7, .inl (cI, 9261, .inl (tb [10]))), (a1, .inr (4, [.ref a2, .ref a7, .ref a14, .ref a5, .ref a6, .ref a15, .ref a16, .ref a17, .int 1, .int 11, .int 1, .int 0]))]) rfl (fun H locs hP hD hS => ?_)
  refine f_if_eq hx hb dX8_plan_8 22 (by decide) (by decide +kernel) ?_
  refine lv_aload_n hx hb dX8_plan_11 rfl (lv_at hl 0 rfl) ?_
  refine gf (k := 0) hx hb hts inX8 hown hK hP k_264 rfl (by decide) rfl 0 rfl (.ref a2) rfl dX8_plan_12 ?_
  refine lv_iload_n hx hb dX8_plan_15 rfl (lv_at hl 2 rfl) ?_
  refine kV_i (q0 := 0) ⟨hx, hb, hml, hown, hts⟩ hK hP hD hS hA hX cv_RX8_82 [1] [0, 2, 3, 4, 5, 6, 7] (wr := [(a0, .inr (8, [.ref a2, .ref a8, .ref a1, .ref a9, .ref a10, .ref a11, .ref a12, .ref a13])), (a4, .inl (cI, 4, .inl (tb [0, 0, 0, 0]))), (a5, .inl (cI, 4, .inl (tb [0]))), (a3, .inl (cI, 4, .inl (tb [10, 10, 10, 10]))), (a6, .inl (cI, 4, .inl (tb [10]))), (a7, .inl (cI, 9261, .inl (tb [10]))), (a1, .inr (4, [.ref a2, .ref a7, .ref a14, .ref a5, .ref a6, .ref a15, .ref a16, .ref a17, .int 1, .int 11, .int 1, .int 0]))]) rfl rfl rfl rfl (by decide) (c033_X3_hasUnknown l dC dI cI cJ cII cJJ H.size 0 a2 a18 a19 a4 a3 a20 a21 x1 h_x1) ⟨by decide +kernel, by decide +kernel⟩ rfl rfl (Or.inl rfl) (rest := []) rfl rfl rfl hl.1 rfl (Nat.le_of_ble_eq_true rfl) dX8_plan_16 ⟨Nat.le_of_ble_eq_true rfl, Nat.le_of_ble_eq_true rfl⟩ (W' := [(a0, .inr (8, [.ref a2, .ref a8, .ref a1, .ref a9, .ref a10, .ref a11, .ref a12, .ref a13])), (a4, .inl (cI, 4, .inl (tb [0, 0, 0, 0]))), (a5, .inl (cI, 4, .inl (tb [0]))), (a3, .inl (cI, 4, .inl (tb [10, 10, 10, 10]))), (a6, .inl (cI, 4, .inl (tb [10]))), (a7, .inl (cI, 9261, .inl (tb [10]))), (a1, .inr (4, [.ref a2, .ref a7, .ref a14, .ref a5, .ref a6, .ref a15, .ref a16, .ref a17, .int 1, .int 11, .int 1, .int 0])), (a2, .inr (3, [.int 1, .int 0, .ref a18, .ref a19, .ref a4, .ref a3, .ref a20, .ref a21]))]) rfl (fun H locs hP hD hS => ?_)
  refine f_if_ne hx hb dX8_plan_19 25 (by decide) (by decide +kernel) ?_
  refine lv_ldc (v := (-99999)) hx hb hown (hts _ k_543) dX8_plan_22 ?_
  exact r_i hx hb hr hk hK (hP.sub [] rfl) (hD.sub [] rfl rfl) hS dX8_plan_24
set_option maxRecDepth 100000 in
set_option maxHeartbeats 4000000 in
theorem c221_X8_plan (l : Launch) (dC : Nat → ClassId) (dI : Nat → Nat → Nat) (cI cJ cII cJJ : ClassId) (sz g a0 a1 a2 a3 a4 a5 a6 a7 a8 a9 a10 a11 a12 a13 a14 a15 a16 a17 a18 a19 a20 a21 : Nat) (x0 : Int32) (h_x0 : 0 ≤ x0.toInt ∧ x0.toInt ≤ 10) (x1 : Int32) (h_x1 : 1 ≤ x1.toInt ∧ x1.toInt ≤ 2147483647) : Met l yX8_plan (.code yX8_plan cX8_plan 3 (some .int) :: TT) ({ frames := 6, cells := 0, slots := 0, locals := 320 }) (PcS dC dI (TY cI cJ cII cJJ) [.ref a0, .int x0, .int x1] [(a0, .inr (8, [.ref a2, .ref a8, .ref a1, .ref a9, .ref a10, .ref a11, .ref a12, .ref a13])), (a1, .inr (4, [.ref a2, .ref a7, .ref a14, .ref a5, .ref a6, .ref a15, .ref a16, .ref a17, .int 0, .int 0, .int 0, .int 1])), (a2, .inr (3, [.int 1, .int 0, .ref a18, .ref a19, .ref a4, .ref a3, .ref a20, .ref a21])), (a3, .inl (cI, 4, .inl (tb [10, 10, 10, 10]))), (a4, .inl (cI, 4, .inl (tb [0, 0, 0, 0]))), (a5, .inl (cI, 4, .inl (tb []))), (a6, .inl (cI, 4, .inl (tb []))), (a7, .inl (cI, 9261, .inl (tb [])))] sz 0 g) ((QcI dC dI (TY cI cJ cII cJJ) (-99999) []) (va_A [(a0, .inr (8, [.ref a2, .ref a8, .ref a1, .ref a9, .ref a10, .ref a11, .ref a12, .ref a13])), (a1, .inr (4, [.ref a2, .ref a7, .ref a14, .ref a5, .ref a6, .ref a15, .ref a16, .ref a17, .int 0, .int 0, .int 0, .int 1])), (a2, .inr (3, [.int 1, .int 0, .ref a18, .ref a19, .ref a4, .ref a3, .ref a20, .ref a21])), (a3, .inl (cI, 4, .inl (tb [10, 10, 10, 10]))), (a4, .inl (cI, 4, .inl (tb [0, 0, 0, 0]))), (a5, .inl (cI, 4, .inl (tb []))), (a6, .inl (cI, 4, .inl (tb []))), (a7, .inl (cI, 9261, .inl (tb [])))] sz)) 0 0 (va_A [(a0, .inr (8, [.ref a2, .ref a8, .ref a1, .ref a9, .ref a10, .ref a11, .ref a12, .ref a13])), (a1, .inr (4, [.ref a2, .ref a7, .ref a14, .ref a5, .ref a6, .ref a15, .ref a16, .ref a17, .int 0, .int 0, .int 0, .int 1])), (a2, .inr (3, [.int 1, .int 0, .ref a18, .ref a19, .ref a4, .ref a3, .ref a20, .ref a21])), (a3, .inl (cI, 4, .inl (tb [10, 10, 10, 10]))), (a4, .inl (cI, 4, .inl (tb [0, 0, 0, 0]))), (a5, .inl (cI, 4, .inl (tb []))), (a6, .inl (cI, 4, .inl (tb []))), (a7, .inl (cI, 9261, .inl (tb [])))] sz) := by
  refine SM.of (y := yX8_plan) (maxL := 3) (av := [.ref a0, .int x0, .int x1]) (QcI dC dI (TY cI cJ cII cJJ) (-99999) []) (by decide +kernel) (Nat.le_of_ble_eq_true rfl) (fun p e s m below meth c A ls hx hb hr hml hown hts hk hnm hA hK hP hD hS hX hl => ?_)
  have hown : s.vm.findClass RX8 = some m.cls := hown
  have hl : lv_has ls 3 [(0, .ref a0), (1, .int x0), (2, .int x1)] := hl
  refine lv_aload_n hx hb dX8_plan_0 rfl (lv_at hl 0 rfl) ?_
  refine kV_a (q0 := 0) ⟨hx, hb, hml, hown, hts⟩ hK hP hD hS hA hX cv_RX8_196 [0, 1, 2, 3, 4, 5, 6, 7] [] (wr := []) rfl rfl rfl rfl (by decide) (c208_X8_freshPlans l dC dI cI cJ cII cJJ s.heap.size 0 a0 a1 a2 a3 a4 a5 a6 a7 a8 a9 a10 a11 a12 a13 a14 a15 a16 a17 a18 a19 a20 a21) ⟨by decide +kernel, by decide +kernel⟩ rfl rfl (Or.inl rfl) (rest := []) rfl rfl rfl hl.1 rfl (Nat.le_of_ble_eq_true rfl) dX8_plan_1 ⟨Nat.le_of_ble_eq_true rfl, Nat.le_of_ble_eq_true rfl⟩ (W' := [(a0, .inr (8, [.ref a2, .ref a8, .ref a1, .ref a9, .ref a10, .ref a11, .ref a12, .ref a13])), (a2, .inr (3, [.int 1, .int 0, .ref a18, .ref a19, .ref a4, .ref a3, .ref a20, .ref a21])), (a4, .inl (cI, 4, .inl (tb [0, 0, 0, 0]))), (a5, .inl (cI, 4, .inl (tb [0]))), (a3, .inl (cI, 4, .inl (tb [10, 10, 10, 10]))), (a6, .inl (cI, 4, .inl (tb [10]))), (a1, .inr (4, [.ref a2, .ref a7, .ref a14, .ref a5, .ref a6, .ref a15, .ref a16, .ref a17, .int 1, .int 11, .int 1, .int 0])), (a7, .inl (cI, 9261, .inl (tb [10])))]) rfl (fun H locs hP hD hS => ?_)
  refine lv_iload_n hx hb dX8_plan_4 rfl (lv_at hl 1 rfl) ?_
  refine kV_i (q0 := 0) ⟨hx, hb, hml, hown, hts⟩ hK hP hD hS hA hX cv_RX8_201 [6] [0, 1, 2, 3, 4, 5, 7] (wr := [(a0, .inr (8, [.ref a2, .ref a8, .ref a1, .ref a9, .ref a10, .ref a11, .ref a12, .ref a13])), (a2, .inr (3, [.int 1, .int 0, .ref a18, .ref a19, .ref a4, .ref a3, .ref a20, .ref a21])), (a4, .inl (cI, 4, .inl (tb [0, 0, 0, 0]))), (a5, .inl (cI, 4, .inl (tb [0]))), (a3, .inl (cI, 4, .inl (tb [10, 10, 10, 10]))), (a6, .inl (cI, 4, .inl (tb [10]))), (a7, .inl (cI, 9261, .inl (tb [10])))]) rfl rfl rfl rfl (by decide) (c220_X4_isNumber l dC dI cI cJ cII cJJ H.size 0 a1 a2 a7 a14 a5 a6 a15 a16 a17 x0 h_x0) ⟨by decide +kernel, by decide +kernel⟩ rfl rfl (Or.inl rfl) (rest := []) rfl rfl rfl hl.1 rfl (Nat.le_of_ble_eq_true rfl) dX8_plan_5 ⟨Nat.le_of_ble_eq_true rfl, Nat.le_of_ble_eq_true rfl⟩ (W' := [(a0, .inr (8, [.ref a2, .ref a8, .ref a1, .ref a9, .ref a10, .ref a11, .ref a12, .ref a13])), (a2, .inr (3, [.int 1, .int 0, .ref a18, .ref a19, .ref a4, .ref a3, .ref a20, .ref a21])), (a4, .inl (cI, 4, .inl (tb [0, 0, 0, 0]))), (a5, .inl (cI, 4, .inl (tb [0]))), (a3, .inl (cI, 4, .inl (tb [10, 10, 10, 10]))), (a6, .inl (cI, 4, .inl (tb [10]))), (a7, .inl (cI, 9261, .inl (tb [10]))), (a1, .inr (4, [.ref a2, .ref a7, .ref a14, .ref a5, .ref a6, .ref a15, .ref a16, .ref a17, .int 1, .int 11, .int 1, .int 0]))]) rfl (fun H locs hP hD hS => ?_)
  refine f_if_eq hx hb dX8_plan_8 22 (by decide) (by decide +kernel) ?_
  refine lv_aload_n hx hb dX8_plan_11 rfl (lv_at hl 0 rfl) ?_
  refine gf (k := 0) hx hb hts inX8 hown hK hP k_264 rfl (by decide) rfl 0 rfl (.ref a2) rfl dX8_plan_12 ?_
  refine lv_iload_n hx hb dX8_plan_15 rfl (lv_at hl 2 rfl) ?_
  refine kV_i (q0 := 0) ⟨hx, hb, hml, hown, hts⟩ hK hP hD hS hA hX cv_RX8_82 [1] [0, 2, 3, 4, 5, 6, 7] (wr := [(a0, .inr (8, [.ref a2, .ref a8, .ref a1, .ref a9, .ref a10, .ref a11, .ref a12, .ref a13])), (a4, .inl (cI, 4, .inl (tb [0, 0, 0, 0]))), (a5, .inl (cI, 4, .inl (tb [0]))), (a3, .inl (cI, 4, .inl (tb [10, 10, 10, 10]))), (a6, .inl (cI, 4, .inl (tb [10]))), (a7, .inl (cI, 9261, .inl (tb [10]))), (a1, .inr (4, [.ref a2, .ref a7, .ref a14, .ref a5, .ref a6, .ref a15, .ref a16, .ref a17, .int 1, .int 11, .int 1, .int 0]))]) rfl rfl rfl rfl (by decide) (c035_X3_hasUnknown l dC dI cI cJ cII cJJ H.size 0 a2 a18 a19 a4 a3 a20 a21 x1 h_x1) ⟨by decide +kernel, by decide +kernel⟩ rfl rfl (Or.inl rfl) (rest := []) rfl rfl rfl hl.1 rfl (Nat.le_of_ble_eq_true rfl) dX8_plan_16 ⟨Nat.le_of_ble_eq_true rfl, Nat.le_of_ble_eq_true rfl⟩ (W' := [(a0, .inr (8, [.ref a2, .ref a8, .ref a1, .ref a9, .ref a10, .ref a11, .ref a12, .ref a13])), (a4, .inl (cI, 4, .inl (tb [0, 0, 0, 0]))), (a5, .inl (cI, 4, .inl (tb [0]))), (a3, .inl (cI, 4, .inl (tb [10, 10, 10, 10]))), (a6, .inl (cI, 4, .inl (tb [10]))), (a7, .inl (cI, 9261, .inl (tb [10]))), (a1, .inr (4, [.ref a2, .ref a7, .ref a14, .ref a5, .ref a6, .ref a15, .ref a16, .ref a17, .int 1, .int 11, .int 1, .int 0])), (a2, .inr (3, [.int 1, .int 0, .ref a18, .ref a19, .ref a4, .ref a3, .ref a20, .ref a21]))]) rfl (fun H locs hP hD hS => ?_)
  refine f_if_ne hx hb dX8_plan_19 25 (by decide) (by decide +kernel) ?_
  refine lv_ldc (v := (-99999)) hx hb hown (hts _ k_543) dX8_plan_22 ?_
  exact r_i hx hb hr hk hK (hP.sub [] rfl) (hD.sub [] rfl rfl) hS dX8_plan_24
set_option maxRecDepth 100000 in
set_option maxHeartbeats 4000000 in
theorem c224_X4_readBlock (l : Launch) (dC : Nat → ClassId) (dI : Nat → Nat → Nat) (cI cJ cII cJJ : ClassId) (sz g a0 a1 a2 a3 a4 a5 a6 a7 a8 a9 a10 a11 a12 a13 a14 a15 : Nat) : Met l yX4_readBlock (.code yX4_readBlock cX4_readBlock 5 none :: TT) ({ frames := 3, cells := 0, slots := 0, locals := 140 }) (PcS dC dI (TY cI cJ cII cJJ) [.ref a0, .int 0, .ref a2] [(a0, .inr (4, [.ref a3, .ref a1, .ref a4, .ref a5, .ref a6, .ref a7, .ref a8, .ref a9, .int 1, .int 11, .int 1, .int 0])), (a1, .inl (cI, 9261, .inl (tb [10]))), (a2, .inl (cI, 4, .inl (tb []))), (a3, .inr (3, [.int 1, .int 0, .ref a10, .ref a11, .ref a12, .ref a13, .ref a14, .ref a15]))] sz 0 g) ((QcV dC dI (TY cI cJ cII cJJ) (fun _ => [(a0, .inr (4, [.ref a3, .ref a1, .ref a4, .ref a5, .ref a6, .ref a7, .ref a8, .ref a9, .int 1, .int 11, .int 1, .int 0])), (a1, .inl (cI, 9261, .inl (tb [10]))), (a3, .inr (3, [.int 1, .int 0, .ref a10, .ref a11, .ref a12, .ref a13, .ref a14, .ref a15])), (a2, .inl (cI, 4, .inl (tb [0, 0, 0, 0])))])) (va_A [(a0, .inr (4, [.ref a3, .ref a1, .ref a4, .ref a5, .ref a6, .ref a7, .ref a8, .ref a9, .int 1, .int 11, .int 1, .int 0])), (a1, .inl (cI, 9261, .inl (tb [10]))), (a2, .inl (cI, 4, .inl (tb []))), (a3, .inr (3, [.int 1, .int 0, .ref a10, .ref a11, .ref a12, .ref a13, .ref a14, .ref a15]))] sz)) 0 0 (va_A [(a0, .inr (4, [.ref a3, .ref a1, .ref a4, .ref a5, .ref a6, .ref a7, .ref a8, .ref a9, .int 1, .int 11, .int 1, .int 0])), (a1, .inl (cI, 9261, .inl (tb [10]))), (a2, .inl (cI, 4, .inl (tb []))), (a3, .inr (3, [.int 1, .int 0, .ref a10, .ref a11, .ref a12, .ref a13, .ref a14, .ref a15]))] sz) := by
  refine SM.of (y := yX4_readBlock) (maxL := 5) (av := [.ref a0, .int 0, .ref a2]) (QcV dC dI (TY cI cJ cII cJJ) (fun _ => [(a0, .inr (4, [.ref a3, .ref a1, .ref a4, .ref a5, .ref a6, .ref a7, .ref a8, .ref a9, .int 1, .int 11, .int 1, .int 0])), (a1, .inl (cI, 9261, .inl (tb [10]))), (a3, .inr (3, [.int 1, .int 0, .ref a10, .ref a11, .ref a12, .ref a13, .ref a14, .ref a15])), (a2, .inl (cI, 4, .inl (tb [0, 0, 0, 0])))])) (by decide +kernel) (Nat.le_of_ble_eq_true rfl) (fun p e s m below meth c A ls hx hb hr hml hown hts hk hnm hA hK hP hD hS hX hl => ?_)
  have hown : s.vm.findClass RX4 = some m.cls := hown
  have hl : lv_has ls 5 [(0, .ref a0), (1, .int 0), (2, .ref a2)] := hl
  refine lv_aload_n hx hb dX4_readBlock_0 rfl (lv_at hl 0 rfl) ?_
  refine gf (k := 1) hx hb hts inX4 hown hK hP k_206 rfl (by decide) rfl 0 rfl (.ref a1) rfl dX4_readBlock_1 ?_
  refine lv_iload_n hx hb dX4_readBlock_4 rfl (lv_at hl 1 rfl) ?_
  refine ld_i hx hb hK hP 1 rfl (vin (by decide +kernel)) dX4_readBlock_5 10 rfl ?_
  refine lv_istore_n (lv' := [(3, .int 10), (0, .ref a0), (1, .int 0), (2, .ref a2)]) hx hb dX4_readBlock_6 rfl hl (by decide) rfl (fun ls hl => ?_)
  refine lv_aload_n hx hb dX4_readBlock_7 rfl (lv_at hl 3 rfl) ?_
  refine lv_iconst (v := 0) hx hb dX4_readBlock_8 (by decide) ?_
  refine kS_v ⟨hx, hb, hml, hown, hts⟩ hK hP hD hS hA hX cs_RX4_110 [2] [0, 1, 3] (wr := [(a0, .inr (4, [.ref a3, .ref a1, .ref a4, .ref a5, .ref a6, .ref a7, .ref a8, .ref a9, .int 1, .int 11, .int 1, .int 0])), (a1, .inl (cI, 9261, .inl (tb [10]))), (a3, .inr (3, [.int 1, .int 0, .ref a10, .ref a11, .ref a12, .ref a13, .ref a14, .ref a15]))]) rfl rfl rfl rfl (by decide) (c004_J7_fill_53178 l dC dI cI cJ cII cJJ s.heap.size 0 a2) ⟨by decide +kernel, by decide +kernel⟩ rfl rfl (Or.inl rfl) (rest := []) rfl hl.1 rfl (Nat.le_of_ble_eq_true rfl) dX4_readBlock_9 ⟨Nat.le_of_ble_eq_true rfl, Nat.le_of_ble_eq_true rfl⟩ (fun _ => rfl) (W' := [(a0, .inr (4, [.ref a3, .ref a1, .ref a4, .ref a5, .ref a6, .ref a7, .ref a8, .ref a9, .int 1, .int 11, .int 1, .int 0])), (a1, .inl (cI, 9261, .inl (tb [10]))), (a3, .inr (3, [.int 1, .int 0, .ref a10, .ref a11, .ref a12, .ref a13, .ref a14, .ref a15])), (a2, .inl (cI, 4, .inl (tb [0, 0, 0, 0])))]) rfl (fun H locs hP hD hS => ?_)
  refine lv_aload_n hx hb dX4_readBlock_12 rfl (lv_at hl 1 rfl) ?_
  refine gf (k := 0) hx hb hts inX4 hown hK hP k_205 rfl (by decide) rfl 0 rfl (.ref a3) rfl dX4_readBlock_13 ?_
  refine gf (k := 0) hx hb hts inX3 hown hK hP k_39 rfl (by decide) rfl 2 rfl (.int 1) rfl dX4_readBlock_16 ?_
  refine lv_iconst (v := 1) hx hb dX4_readBlock_19 (by decide) ?_
  refine v_isub hx hb dX4_readBlock_20 0 (by decide +kernel) ?_
  refine lv_istore (lv' := [(4, .int 0), (3, .int 10), (0, .ref a0), (1, .int 0), (2, .ref a2)]) hx hb dX4_readBlock_21 hl (by decide) rfl (fun ls hl => ?_)
  refine lv_iload hx hb dX4_readBlock_23 (lv_at hl 0 rfl) ?_
  refine f_if_lt hx hb dX4_readBlock_25 50 (by decide) (by decide +kernel) ?_
  refine lv_aload_n hx hb dX4_readBlock_28 rfl (lv_at hl 4 rfl) ?_
  refine lv_iload hx hb dX4_readBlock_29 (lv_at hl 0 rfl) ?_
  refine lv_iload_n hx hb dX4_readBlock_31 rfl (lv_at hl 1 rfl) ?_
  refine lv_bipush (v := 21) hx hb dX4_readBlock_32 (by decide) ?_
  refine v_irem hx hb dX4_readBlock_34 (by decide +kernel) 10 (by decide +kernel) ?_
  refine lv_bipush (v := 10) hx hb dX4_readBlock_35 (by decide) ?_
  refine v_isub hx hb dX4_readBlock_37 0 (by decide +kernel) ?_
  refine st_i hx hb hK hP hD hS 3 rfl (vin (by decide +kernel)) dX4_readBlock_38 (L' := [0, 0, 0, 0]) rfl (W' := [(a0, .inr (4, [.ref a3, .ref a1, .ref a4, .ref a5, .ref a6, .ref a7, .ref a8, .ref a9, .int 1, .int 11, .int 1, .int 0])), (a1, .inl (cI, 9261, .inl (tb [10]))), (a3, .inr (3, [.int 1, .int 0, .ref a10, .ref a11, .ref a12, .ref a13, .ref a14, .ref a15])), (a2, .inl (cI, 4, .inl (tb [0, 0, 0, 0])))]) rfl (fun H locs hP hD hS => ?_)
  refine lv_iload_n hx hb dX4_readBlock_39 rfl (lv_at hl 1 rfl) ?_
  refine lv_bipush (v := 21) hx hb dX4_readBlock_40 (by decide) ?_
  refine v_idiv hx hb dX4_readBlock_42 (by decide +kernel) 0 (by decide +kernel) ?_
  refine lv_istore_n (lv' := [(3, .int 0), (4, .int 0), (0, .ref a0), (1, .int 0), (2, .ref a2)]) hx hb dX4_readBlock_43 rfl hl (by decide) rfl (fun ls hl => ?_)
  refine lv_iinc (v := (-1)) (lv' := [(4, .int (-1)), (3, .int 0), (0, .ref a0), (1, .int 0), (2, .ref a2)]) hx hb dX4_readBlock_44 hl (k := 1) rfl (by decide +kernel) (by decide) rfl (fun ls hl => ?_)
  refine lv_goto (tgt := 23) hx hb dX4_readBlock_47 (by decide) ?_
  refine lv_iload hx hb dX4_readBlock_23 (lv_at hl 0 rfl) ?_
  refine t_if_lt hx hb dX4_readBlock_25 50 (by decide) (by decide +kernel) ?_
  exact r_v (fun _ => 0) hx hb hr hk hK hP hD hS dX4_readBlock_50
set_option maxRecDepth 100000 in
set_option maxHeartbeats 4000000 in
theorem c223_X4_read (l : Launch) (dC : Nat → ClassId) (dI : Nat → Nat → Nat) (cI cJ cII cJJ : ClassId) (sz g a0 a1 a2 a3 a4 a5 a6 a7 a8 a9 a10 a11 a12 a13 a14 a15 : Nat) (x0 : Int32) (h_x0 : 0 ≤ x0.toInt ∧ x0.toInt ≤ 10) : Met l yX4_read (.code yX4_read cX4_read 3 none :: TT) ({ frames := 4, cells := 0, slots := 0, locals := 200 }) (PcS dC dI (TY cI cJ cII cJJ) [.ref a0, .int x0, .ref a2] [(a0, .inr (4, [.ref a3, .ref a1, .ref a4, .ref a5, .ref a6, .ref a7, .ref a8, .ref a9, .int 1, .int 11, .int 1, .int 0])), (a1, .inl (cI, 9261, .inl (tb [10]))), (a2, .inl (cI, 4, .inl (tb []))), (a3, .inr (3, [.int 1, .int 0, .ref a10, .ref a11, .ref a12, .ref a13, .ref a14, .ref a15]))] sz 0 g) ((QcV dC dI (TY cI cJ cII cJJ) (fun _ => [(a0, .inr (4, [.ref a3, .ref a1, .ref a4, .ref a5, .ref a6, .ref a7, .ref a8, .ref a9, .int 1, .int 11, .int 1, .int 0])), (a1, .inl (cI, 9261, .inl (tb [10]))), (a3, .inr (3, [.int 1, .int 0, .ref a10, .ref a11, .ref a12, .ref a13, .ref a14, .ref a15])), (a2, .inl (cI, 4, .inl (tb [x0, 0, 0, 0])))])) (va_A [(a0, .inr (4, [.ref a3, .ref a1, .ref a4, .ref a5, .ref a6, .ref a7, .ref a8, .ref a9, .int 1, .int 11, .int 1, .int 0])), (a1, .inl (cI, 9261, .inl (tb [10]))), (a2, .inl (cI, 4, .inl (tb []))), (a3, .inr (3, [.int 1, .int 0, .ref a10, .ref a11, .ref a12, .ref a13, .ref a14, .ref a15]))] sz)) 0 0 (va_A [(a0, .inr (4, [.ref a3, .ref a1, .ref a4, .ref a5, .ref a6, .ref a7, .ref a8, .ref a9, .int 1, .int 11, .int 1, .int 0])), (a1, .inl (cI, 9261, .inl (tb [10]))), (a2, .inl (cI, 4, .inl (tb []))), (a3, .inr (3, [.int 1, .int 0, .ref a10, .ref a11, .ref a12, .ref a13, .ref a14, .ref a15]))] sz) := by
  refine SM.of (y := yX4_read) (maxL := 3) (av := [.ref a0, .int x0, .ref a2]) (QcV dC dI (TY cI cJ cII cJJ) (fun _ => [(a0, .inr (4, [.ref a3, .ref a1, .ref a4, .ref a5, .ref a6, .ref a7, .ref a8, .ref a9, .int 1, .int 11, .int 1, .int 0])), (a1, .inl (cI, 9261, .inl (tb [10]))), (a3, .inr (3, [.int 1, .int 0, .ref a10, .ref a11, .ref a12, .ref a13, .ref a14, .ref a15])), (a2, .inl (cI, 4, .inl (tb [x0, 0, 0, 0])))])) (by decide +kernel) (Nat.le_of_ble_eq_true rfl) (fun p e s m below meth c A ls hx hb hr hml hown hts hk hnm hA hK hP hD hS hX hl => ?_)
  have hown : s.vm.findClass RX4 = some m.cls := hown
  have hl : lv_has ls 3 [(0, .ref a0), (1, .int x0), (2, .ref a2)] := hl
  refine lv_aload_n hx hb dX4_read_0 rfl (lv_at hl 0 rfl) ?_
  refine gf (k := 9) hx hb hts inX4 hown hK hP k_214 rfl (by decide) rfl 0 rfl (.int 11) rfl dX4_read_1 ?_
  refine t_if_gt hx hb dX4_read_4 8 (by decide) (by decide +kernel) ?_
  refine lv_aload_n hx hb dX4_read_8 rfl (lv_at hl 0 rfl) ?_
  refine lv_iload_n hx hb dX4_read_9 rfl (lv_at hl 1 rfl) ?_
  refine lv_aload_n hx hb dX4_read_10 rfl (lv_at hl 0 rfl) ?_
  refine gf (k := 9) hx hb hts inX4 hown hK hP k_214 rfl (by decide) rfl 0 rfl (.int 11) rfl dX4_read_11 ?_
  refine v_idiv hx hb dX4_read_14 (by decide +kernel) 0 (s_div h_x0 (by decide +kernel) (by decide +kernel) (by decide +kernel)) ?_
  refine lv_aload_n hx hb dX4_read_15 rfl (lv_at hl 2 rfl) ?_
  refine kV_v (q0 := 0) ⟨hx, hb, hml, hown, hts⟩ hK hP hD hS hA hX cv_RX4_85 [0, 1, 2, 3] [] (wr := []) rfl rfl rfl rfl (by decide) (c224_X4_readBlock l dC dI cI cJ cII cJJ s.heap.size 0 a0 a1 a2 a3 a4 a5 a6 a7 a8 a9 a10 a11 a12 a13 a14 a15) ⟨by decide +kernel, by decide +kernel⟩ rfl rfl (Or.inl rfl) (rest := []) rfl rfl rfl hl.1 rfl (Nat.le_of_ble_eq_true rfl) dX4_read_16 ⟨Nat.le_of_ble_eq_true rfl, Nat.le_of_ble_eq_true rfl⟩ (fun _ => rfl) (W' := [(a0, .inr (4, [.ref a3, .ref a1, .ref a4, .ref a5, .ref a6, .ref a7, .ref a8, .ref a9, .int 1, .int 11, .int 1, .int 0])), (a1, .inl (cI, 9261, .inl (tb [10]))), (a3, .inr (3, [.int 1, .int 0, .ref a10, .ref a11, .ref a12, .ref a13, .ref a14, .ref a15])), (a2, .inl (cI, 4, .inl (tb [0, 0, 0, 0])))]) rfl (fun H locs hP hD hS => ?_)
  refine lv_aload_n hx hb dX4_read_19 rfl (lv_at hl 2 rfl) ?_
  refine lv_aload_n hx hb dX4_read_20 rfl (lv_at hl 0 rfl) ?_
  refine gf (k := 0) hx hb hts inX4 hown hK hP k_205 rfl (by decide) rfl 0 rfl (.ref a3) rfl dX4_read_21 ?_
  refine gf (k := 0) hx hb hts inX3 hown hK hP k_39 rfl (by decide) rfl 2 rfl (.int 1) rfl dX4_read_24 ?_
  refine lv_iconst (v := 1) hx hb dX4_read_27 (by decide) ?_
  refine v_isub hx hb dX4_read_28 0 (by decide +kernel) ?_
  refine lv_dup2_11 hx hb dX4_read_29 rfl rfl ?_
  refine ld_i hx hb hK hP 3 rfl (vin (by decide +kernel)) dX4_read_30 0 rfl ?_
  refine lv_iload_n hx hb dX4_read_31 rfl (lv_at hl 1 rfl) ?_
  refine lv_aload_n hx hb dX4_read_32 rfl (lv_at hl 0 rfl) ?_
  refine gf (k := 9) hx hb hts inX4 hown hK hP k_214 rfl (by decide) rfl 0 rfl (.int 11) rfl dX4_read_33 ?_
  refine v_irem hx hb dX4_read_36 (by decide +kernel) x0 (s_rem h_x0 (by decide +kernel) (by decide +kernel) (by decide +kernel)) ?_
  refine v_iadd hx hb dX4_read_37 x0 (s_add0 x0) ?_
  refine st_i hx hb hK hP hD hS 3 rfl (vin (by decide +kernel)) dX4_read_38 (L' := [x0, 0, 0, 0]) rfl (W' := [(a0, .inr (4, [.ref a3, .ref a1, .ref a4, .ref a5, .ref a6, .ref a7, .ref a8, .ref a9, .int 1, .int 11, .int 1, .int 0])), (a1, .inl (cI, 9261, .inl (tb [10]))), (a3, .inr (3, [.int 1, .int 0, .ref a10, .ref a11, .ref a12, .ref a13, .ref a14, .ref a15])), (a2, .inl (cI, 4, .inl (tb [x0, 0, 0, 0])))]) rfl (fun H locs hP hD hS => ?_)
  exact r_v (fun _ => 0) hx hb hr hk hK hP hD hS dX4_read_39
set_option maxRecDepth 100000 in
set_option maxHeartbeats 4000000 in
theorem c222_X8_plan (l : Launch) (dC : Nat → ClassId) (dI : Nat → Nat → Nat) (cI cJ cII cJJ : ClassId) (sz g a0 a1 a2 a3 a4 a5 a6 a7 a8 a9 a10 a11 a12 a13 a14 a15 a16 a17 a18 a19 a20 a21 : Nat) (x0 : Int32) (h_x0 : 0 ≤ x0.toInt ∧ x0.toInt ≤ 10) : Met l yX8_plan (.code yX8_plan cX8_plan 3 (some .int) :: TT) ({ frames := 6, cells := 0, slots := 0, locals := 320 }) (PcS dC dI (TY cI cJ cII cJJ) [.ref a0, .int x0, .int 0] [(a0, .inr (8, [.ref a2, .ref a9, .ref a1, .ref a10, .ref a11, .ref a8, .ref a12, .ref a13])), (a1, .inr (4, [.ref a2, .ref a7, .ref a14, .ref a5, .ref a6, .ref a15, .ref a16, .ref a17, .int 0, .int 0, .int 0, .int 1])), (a2, .inr (3, [.int 1, .int 0, .ref a18, .ref a19, .ref a4, .ref a3, .ref a20, .ref a21])), (a3, .inl (cI, 4, .inl (tb [10, 10, 10, 10]))), (a4, .inl (cI, 4, .inl (tb [0, 0, 0, 0]))), (a5, .inl (cI, 4, .inl (tb []))), (a6, .inl (cI, 4, .inl (tb []))), (a7, .inl (cI, 9261, .inl (tb []))), (a8, .inl (cI, 4, .inl (tb [])))] sz 0 g) ((QcI dC dI (TY cI cJ cII cJJ) x0 []) (va_A [(a0, .inr (8, [.ref a2, .ref a9, .ref a1, .ref a10, .ref a11, .ref a8, .ref a12, .ref a13])), (a1, .inr (4, [.ref a2, .ref a7, .ref a14, .ref a5, .ref a6, .ref a15, .ref a16, .ref a17, .int 0, .int 0, .int 0, .int 1])), (a2, .inr (3, [.int 1, .int 0, .ref a18, .ref a19, .ref a4, .ref a3, .ref a20, .ref a21])), (a3, .inl (cI, 4, .inl (tb [10, 10, 10, 10]))), (a4, .inl (cI, 4, .inl (tb [0, 0, 0, 0]))), (a5, .inl (cI, 4, .inl (tb []))), (a6, .inl (cI, 4, .inl (tb []))), (a7, .inl (cI, 9261, .inl (tb []))), (a8, .inl (cI, 4, .inl (tb [])))] sz)) 0 0 (va_A [(a0, .inr (8, [.ref a2, .ref a9, .ref a1, .ref a10, .ref a11, .ref a8, .ref a12, .ref a13])), (a1, .inr (4, [.ref a2, .ref a7, .ref a14, .ref a5, .ref a6, .ref a15, .ref a16, .ref a17, .int 0, .int 0, .int 0, .int 1])), (a2, .inr (3, [.int 1, .int 0, .ref a18, .ref a19, .ref a4, .ref a3, .ref a20, .ref a21])), (a3, .inl (cI, 4, .inl (tb [10, 10, 10, 10]))), (a4, .inl (cI, 4, .inl (tb [0, 0, 0, 0]))), (a5, .inl (cI, 4, .inl (tb []))), (a6, .inl (cI, 4, .inl (tb []))), (a7, .inl (cI, 9261, .inl (tb []))), (a8, .inl (cI, 4, .inl (tb [])))] sz) := by
  refine SM.of (y := yX8_plan) (maxL := 3) (av := [.ref a0, .int x0, .int 0]) (QcI dC dI (TY cI cJ cII cJJ) x0 []) (by decide +kernel) (Nat.le_of_ble_eq_true rfl) (fun p e s m below meth c A ls hx hb hr hml hown hts hk hnm hA hK hP hD hS hX hl => ?_)
  have hown : s.vm.findClass RX8 = some m.cls := hown
  have hl : lv_has ls 3 [(0, .ref a0), (1, .int x0), (2, .int 0)] := hl
  refine lv_aload_n hx hb dX8_plan_0 rfl (lv_at hl 0 rfl) ?_
  refine kV_a (q0 := 0) ⟨hx, hb, hml, hown, hts⟩ hK hP hD hS hA hX cv_RX8_196 [0, 1, 2, 3, 4, 5, 6, 7] [8] (wr := [(a8, .inl (cI, 4, .inl (tb [])))]) rfl rfl rfl rfl (by decide) (c208_X8_freshPlans l dC dI cI cJ cII cJJ s.heap.size 0 a0 a1 a2 a3 a4 a5 a6 a7 a9 a10 a11 a8 a12 a13 a14 a15 a16 a17 a18 a19 a20 a21) ⟨by decide +kernel, by decide +kernel⟩ rfl rfl (Or.inl rfl) (rest := []) rfl rfl rfl hl.1 rfl (Nat.le_of_ble_eq_true rfl) dX8_plan_1 ⟨Nat.le_of_ble_eq_true rfl, Nat.le_of_ble_eq_true rfl⟩ (W' := [(a8, .inl (cI, 4, .inl (tb []))), (a0, .inr (8, [.ref a2, .ref a9, .ref a1, .ref a10, .ref a11, .ref a8, .ref a12, .ref a13])), (a2, .inr (3, [.int 1, .int 0, .ref a18, .ref a19, .ref a4, .ref a3, .ref a20, .ref a21])), (a4, .inl (cI, 4, .inl (tb [0, 0, 0, 0]))), (a5, .inl (cI, 4, .inl (tb [0]))), (a3, .inl (cI, 4, .inl (tb [10, 10, 10, 10]))), (a6, .inl (cI, 4, .inl (tb [10]))), (a1, .inr (4, [.ref a2, .ref a7, .ref a14, .ref a5, .ref a6, .ref a15, .ref a16, .ref a17, .int 1, .int 11, .int 1, .int 0])), (a7, .inl (cI, 9261, .inl (tb [10])))]) rfl (fun H locs hP hD hS => ?_)
  refine lv_iload_n hx hb dX8_plan_4 rfl (lv_at hl 1 rfl) ?_
  refine kV_i (q0 := 0) ⟨hx, hb, hml, hown, hts⟩ hK hP hD hS hA hX cv_RX8_201 [7] [0, 1, 2, 3, 4, 5, 6, 8] (wr := [(a8, .inl (cI, 4, .inl (tb []))), (a0, .inr (8, [.ref a2, .ref a9, .ref a1, .ref a10, .ref a11, .ref a8, .ref a12, .ref a13])), (a2, .inr (3, [.int 1, .int 0, .ref a18, .ref a19, .ref a4, .ref a3, .ref a20, .ref a21])), (a4, .inl (cI, 4, .inl (tb [0, 0, 0, 0]))), (a5, .inl (cI, 4, .inl (tb [0]))), (a3, .inl (cI, 4, .inl (tb [10, 10, 10, 10]))), (a6, .inl (cI, 4, .inl (tb [10]))), (a7, .inl (cI, 9261, .inl (tb [10])))]) rfl rfl rfl rfl (by decide) (c220_X4_isNumber l dC dI cI cJ cII cJJ H.size 0 a1 a2 a7 a14 a5 a6 a15 a16 a17 x0 h_x0) ⟨by decide +kernel, by decide +kernel⟩ rfl rfl (Or.inl rfl) (rest := []) rfl rfl rfl hl.1 rfl (Nat.le_of_ble_eq_true rfl) dX8_plan_5 ⟨Nat.le_of_ble_eq_true rfl, Nat.le_of_ble_eq_true rfl⟩ (W' := [(a8, .inl (cI, 4, .inl (tb []))), (a0, .inr (8, [.ref a2, .ref a9, .ref a1, .ref a10, .ref a11, .ref a8, .ref a12, .ref a13])), (a2, .inr (3, [.int 1, .int 0, .ref a18, .ref a19, .ref a4, .ref a3, .ref a20, .ref a21])), (a4, .inl (cI, 4, .inl (tb [0, 0, 0, 0]))), (a5, .inl (cI, 4, .inl (tb [0]))), (a3, .inl (cI, 4, .inl (tb [10, 10, 10, 10]))), (a6, .inl (cI, 4, .inl (tb [10]))), (a7, .inl (cI, 9261, .inl (tb [10]))), (a1, .inr (4, [.ref a2, .ref a7, .ref a14, .ref a5, .ref a6, .ref a15, .ref a16, .ref a17, .int 1, .int 11, .int 1, .int 0]))]) rfl (fun H locs hP hD hS => ?_)
  refine f_if_eq hx hb dX8_plan_8 22 (by decide) (by decide +kernel) ?_
  refine lv_aload_n hx hb dX8_plan_11 rfl (lv_at hl 0 rfl) ?_
  refine gf (k := 0) hx hb hts inX8 hown hK hP k_264 rfl (by decide) rfl 1 rfl (.ref a2) rfl dX8_plan_12 ?_
  refine lv_iload_n hx hb dX8_plan_15 rfl (lv_at hl 2 rfl) ?_
  refine kV_i (q0 := 0) ⟨hx, hb, hml, hown, hts⟩ hK hP hD hS hA hX cv_RX8_82 [2] [0, 1, 3, 4, 5, 6, 7, 8] (wr := [(a8, .inl (cI, 4, .inl (tb []))), (a0, .inr (8, [.ref a2, .ref a9, .ref a1, .ref a10, .ref a11, .ref a8, .ref a12, .ref a13])), (a4, .inl (cI, 4, .inl (tb [0, 0, 0, 0]))), (a5, .inl (cI, 4, .inl (tb [0]))), (a3, .inl (cI, 4, .inl (tb [10, 10, 10, 10]))), (a6, .inl (cI, 4, .inl (tb [10]))), (a7, .inl (cI, 9261, .inl (tb [10]))), (a1, .inr (4, [.ref a2, .ref a7, .ref a14, .ref a5, .ref a6, .ref a15, .ref a16, .ref a17, .int 1, .int 11, .int 1, .int 0]))]) rfl rfl rfl rfl (by decide) (c037_X3_hasUnknown l dC dI cI cJ cII cJJ H.size 0 a2 a18 a19 a4 a3 a20 a21) ⟨by decide +kernel, by decide +kernel⟩ rfl rfl (Or.inl rfl) (rest := []) rfl rfl rfl hl.1 rfl (Nat.le_of_ble_eq_true rfl) dX8_plan_16 ⟨Nat.le_of_ble_eq_true rfl, Nat.le_of_ble_eq_true rfl⟩ (W' := [(a8, .inl (cI, 4, .inl (tb []))), (a0, .inr (8, [.ref a2, .ref a9, .ref a1, .ref a10, .ref a11, .ref a8, .ref a12, .ref a13])), (a4, .inl (cI, 4, .inl (tb [0, 0, 0, 0]))), (a5, .inl (cI, 4, .inl (tb [0]))), (a3, .inl (cI, 4, .inl (tb [10, 10, 10, 10]))), (a6, .inl (cI, 4, .inl (tb [10]))), (a7, .inl (cI, 9261, .inl (tb [10]))), (a1, .inr (4, [.ref a2, .ref a7, .ref a14, .ref a5, .ref a6, .ref a15, .ref a16, .ref a17, .int 1, .int 11, .int 1, .int 0])), (a2, .inr (3, [.int 1, .int 0, .ref a18, .ref a19, .ref a4, .ref a3, .ref a20, .ref a21]))]) rfl (fun H locs hP hD hS => ?_)
  refine t_if_ne hx hb dX8_plan_19 25 (by decide) (by decide +kernel) ?_
  refine lv_aload_n hx hb dX8_plan_25 rfl (lv_at hl 0 rfl) ?_
  refine gf (k := 2) hx hb hts inX8 hown hK hP k_266 rfl (by decide) rfl 1 rfl (.ref a1) rfl dX8_plan_26 ?_
  refine lv_iload_n hx hb dX8_plan_29 rfl (lv_at hl 1 rfl) ?_
  refine lv_aload_n hx hb dX8_plan_30 rfl (lv_at hl 0 rfl) ?_
  refine gf (k := 5) hx hb hts inX8 hown hK hP k_269 rfl (by decide) rfl 1 rfl (.ref a8) rfl dX8_plan_31 ?_
  refine kV_v (q0 := 0) ⟨hx, hb, hml, hown, hts⟩ hK hP hD hS hA hX cv_RX8_204 [7, 6, 0, 8] [1, 2, 3, 4, 5] (wr := [(a0, .inr (8, [.ref a2, .ref a9, .ref a1, .ref a10, .ref a11, .ref a8, .ref a12, .ref a13])), (a4, .inl (cI, 4, .inl (tb [0, 0, 0, 0]))), (a5, .inl (cI, 4, .inl (tb [0]))), (a3, .inl (cI, 4, .inl (tb [10, 10, 10, 10]))), (a6, .inl (cI, 4, .inl (tb [10])))]) rfl rfl rfl rfl (by decide) (c223_X4_read l dC dI cI cJ cII cJJ H.size 0 a1 a7 a8 a2 a14 a5 a6 a15 a16 a17 a18 a19 a4 a3 a20 a21 x0 h_x0) ⟨by decide +kernel, by decide +kernel⟩ rfl rfl (Or.inl rfl) (rest := []) rfl rfl rfl hl.1 rfl (Nat.le_of_ble_eq_true rfl) dX8_plan_34 ⟨Nat.le_of_ble_eq_true rfl, Nat.le_of_ble_eq_true rfl⟩ (fun _ => rfl) (W' := [(a0, .inr (8, [.ref a2, .ref a9, .ref a1, .ref a10, .ref a11, .ref a8, .ref a12, .ref a13])), (a4, .inl (cI, 4, .inl (tb [0, 0, 0, 0]))), (a5, .inl (cI, 4, .inl (tb [0]))), (a3, .inl (cI, 4, .inl (tb [10, 10, 10, 10]))), (a6, .inl (cI, 4, .inl (tb [10]))), (a1, .inr (4, [.ref a2, .ref a7, .ref a14, .ref a5, .ref a6, .ref a15, .ref a16, .ref a17, .int 1, .int 11, .int 1, .int 0])), (a7, .inl (cI, 9261, .inl (tb [10]))), (a2, .inr (3, [.int 1, .int 0, .ref a18, .ref a19, .ref a4, .ref a3, .ref a20, .ref a21])), (a8, .inl (cI, 4, .inl (tb [x0, 0, 0, 0])))]) rfl (fun H locs hP hD hS => ?_)
  refine lv_aload_n hx hb dX8_plan_37 rfl (lv_at hl 0 rfl) ?_
  refine gf (k := 5) hx hb hts inX8 hown hK hP k_269 rfl (by decide) rfl 0 rfl (.ref a8) rfl dX8_plan_38 ?_
  refine lv_iload_n hx hb dX8_plan_41 rfl (lv_at hl 2 rfl) ?_
  refine ld_i hx hb hK hP 8 rfl (vin (by decide +kernel)) dX8_plan_42 x0 rfl ?_
  exact r_i hx hb hr hk hK (hP.sub [] rfl) (hD.sub [] rfl rfl) hS dX8_plan_43
set_option maxRecDepth 100000 in
set_option maxHeartbeats 4000000 in
theorem c225_X8_take (l : Launch) (dC : Nat → ClassId) (dI : Nat → Nat → Nat) (cI cJ cII cJJ : ClassId) (sz g a0 a1 a2 a3 a4 a5 a6 a7 a8 a9 a10 a11 a12 a13 a14 a15 a16 a17 a18 a19 a20 a21 : Nat) (x0 : Int32) (h_x0 : -2147483648 ≤ x0.toInt ∧ x0.toInt ≤ -1) : Met l yX8_take (.code yX8_take cX8_take 2 (some .int) :: TT) ({ frames := 6, cells := 0, slots := 0, locals := 320 }) (PcS dC dI (TY cI cJ cII cJJ) [.ref a0, .int x0] [(a0, .inr (8, [.ref a2, .ref a9, .ref a1, .ref a10, .ref a11, .ref a12, .ref a13, .ref a8])), (a1, .inr (4, [.ref a2, .ref a7, .ref a14, .ref a5, .ref a6, .ref a15, .ref a16, .ref a17, .int 0, .int 0, .int 0, .int 1])), (a2, .inr (3, [.int 1, .int 0, .ref a18, .ref a19, .ref a4, .ref a3, .ref a20, .ref a21])), (a3, .inl (cI, 4, .inl (tb [10, 10, 10, 10]))), (a4, .inl (cI, 4, .inl (tb [0, 0, 0, 0]))), (a5, .inl (cI, 4, .inl (tb []))), (a6, .inl (cI, 4, .inl (tb []))), (a7, .inl (cI, 9261, .inl (tb []))), (a8, .inl (cI, 8, .inl (tb [])))] sz 0 g) ((QcI dC dI (TY cI cJ cII cJJ) (-1) []) (va_A [(a0, .inr (8, [.ref a2, .ref a9, .ref a1, .ref a10, .ref a11, .ref a12, .ref a13, .ref a8])), (a1, .inr (4, [.ref a2, .ref a7, .ref a14, .ref a5, .ref a6, .ref a15, .ref a16, .ref a17, .int 0, .int 0, .int 0, .int 1])), (a2, .inr (3, [.int 1, .int 0, .ref a18, .ref a19, .ref a4, .ref a3, .ref a20, .ref a21])), (a3, .inl (cI, 4, .inl (tb [10, 10, 10, 10]))), (a4, .inl (cI, 4, .inl (tb [0, 0, 0, 0]))), (a5, .inl (cI, 4, .inl (tb []))), (a6, .inl (cI, 4, .inl (tb []))), (a7, .inl (cI, 9261, .inl (tb []))), (a8, .inl (cI, 8, .inl (tb [])))] sz)) 0 0 (va_A [(a0, .inr (8, [.ref a2, .ref a9, .ref a1, .ref a10, .ref a11, .ref a12, .ref a13, .ref a8])), (a1, .inr (4, [.ref a2, .ref a7, .ref a14, .ref a5, .ref a6, .ref a15, .ref a16, .ref a17, .int 0, .int 0, .int 0, .int 1])), (a2, .inr (3, [.int 1, .int 0, .ref a18, .ref a19, .ref a4, .ref a3, .ref a20, .ref a21])), (a3, .inl (cI, 4, .inl (tb [10, 10, 10, 10]))), (a4, .inl (cI, 4, .inl (tb [0, 0, 0, 0]))), (a5, .inl (cI, 4, .inl (tb []))), (a6, .inl (cI, 4, .inl (tb []))), (a7, .inl (cI, 9261, .inl (tb []))), (a8, .inl (cI, 8, .inl (tb [])))] sz) := by
  refine SM.of (y := yX8_take) (maxL := 2) (av := [.ref a0, .int x0]) (QcI dC dI (TY cI cJ cII cJJ) (-1) []) (by decide +kernel) (Nat.le_of_ble_eq_true rfl) (fun p e s m below meth c A ls hx hb hr hml hown hts hk hnm hA hK hP hD hS hX hl => ?_)
  have hown : s.vm.findClass RX8 = some m.cls := hown
  have hl : lv_has ls 2 [(0, .ref a0), (1, .int x0)] := hl
  refine lv_aload_n hx hb dX8_take_0 rfl (lv_at hl 0 rfl) ?_
  refine kV_a (q0 := 0) ⟨hx, hb, hml, hown, hts⟩ hK hP hD hS hA hX cv_RX8_196 [0, 1, 2, 3, 4, 5, 6, 7] [8] (wr := [(a8, .inl (cI, 8, .inl (tb [])))]) rfl rfl rfl rfl (by decide) (c208_X8_freshPlans l dC dI cI cJ cII cJJ s.heap.size 0 a0 a1 a2 a3 a4 a5 a6 a7 a9 a10 a11 a12 a13 a8 a14 a15 a16 a17 a18 a19 a20 a21) ⟨by decide +kernel, by decide +kernel⟩ rfl rfl (Or.inl rfl) (rest := []) rfl rfl rfl hl.1 rfl (Nat.le_of_ble_eq_true rfl) dX8_take_1 ⟨Nat.le_of_ble_eq_true rfl, Nat.le_of_ble_eq_true rfl⟩ (W' := [(a8, .inl (cI, 8, .inl (tb []))), (a0, .inr (8, [.ref a2, .ref a9, .ref a1, .ref a10, .ref a11, .ref a12, .ref a13, .ref a8])), (a2, .inr (3, [.int 1, .int 0, .ref a18, .ref a19, .ref a4, .ref a3, .ref a20, .ref a21])), (a4, .inl (cI, 4, .inl (tb [0, 0, 0, 0]))), (a5, .inl (cI, 4, .inl (tb [0]))), (a3, .inl (cI, 4, .inl (tb [10, 10, 10, 10]))), (a6, .inl (cI, 4, .inl (tb [10]))), (a1, .inr (4, [.ref a2, .ref a7, .ref a14, .ref a5, .ref a6, .ref a15, .ref a16, .ref a17, .int 1, .int 11, .int 1, .int 0])), (a7, .inl (cI, 9261, .inl (tb [10])))]) rfl (fun H locs hP hD hS => ?_)
  refine lv_iload_n hx hb dX8_take_4 rfl (lv_at hl 1 rfl) ?_
  refine kV_i (q0 := 0) ⟨hx, hb, hml, hown, hts⟩ hK hP hD hS hA hX cv_RX8_201 [7] [0, 1, 2, 3, 4, 5, 6, 8] (wr := [(a8, .inl (cI, 8, .inl (tb []))), (a0, .inr (8, [.ref a2, .ref a9, .ref a1, .ref a10, .ref a11, .ref a12, .ref a13, .ref a8])), (a2, .inr (3, [.int 1, .int 0, .ref a18, .ref a19, .ref a4, .ref a3, .ref a20, .ref a21])), (a4, .inl (cI, 4, .inl (tb [0, 0, 0, 0]))), (a5, .inl (cI, 4, .inl (tb [0]))), (a3, .inl (cI, 4, .inl (tb [10, 10, 10, 10]))), (a6, .inl (cI, 4, .inl (tb [10]))), (a7, .inl (cI, 9261, .inl (tb [10])))]) rfl rfl rfl rfl (by decide) (c216_X4_isNumber l dC dI cI cJ cII cJJ H.size 0 a1 a2 a7 a14 a5 a6 a15 a16 a17 x0 h_x0) ⟨by decide +kernel, by decide +kernel⟩ rfl rfl (Or.inl rfl) (rest := []) rfl rfl rfl hl.1 rfl (Nat.le_of_ble_eq_true rfl) dX8_take_5 ⟨Nat.le_of_ble_eq_true rfl, Nat.le_of_ble_eq_true rfl⟩ (W' := [(a8, .inl (cI, 8, .inl (tb []))), (a0, .inr (8, [.ref a2, .ref a9, .ref a1, .ref a10, .ref a11, .ref a12, .ref a13, .ref a8])), (a2, .inr (3, [.int 1, .int 0, .ref a18, .ref a19, .ref a4, .ref a3, .ref a20, .ref a21])), (a4, .inl (cI, 4, .inl (tb [0, 0, 0, 0]))), (a5, .inl (cI, 4, .inl (tb [0]))), (a3, .inl (cI, 4, .inl (tb [10, 10, 10, 10]))), (a6, .inl (cI, 4, .inl (tb [10]))), (a7, .inl (cI, 9261, .inl (tb [10]))), (a1, .inr (4, [.ref a2, .ref a7, .ref a14, .ref a5, .ref a6, .ref a15, .ref a16, .ref a17, .int 1, .int 11, .int 1, .int 0]))]) rfl (fun H locs hP hD hS => ?_)
  refine f_if_ne hx hb dX8_take_8 17 (by decide) (by decide +kernel) ?_
  refine lv_aload_n hx hb dX8_take_11 rfl (lv_at hl 0 rfl) ?_
  refine lv_iconst (v := (-1)) hx hb dX8_take_12 (by decide) ?_
  refine kV_i (q0 := 0) ⟨hx, hb, hml, hown, hts⟩ hK hP hD hS hA hX cv_RX8_53 [1, 0] [2, 3, 4, 5, 6, 7, 8] (wr := [(a2, .inr (3, [.int 1, .int 0, .ref a18, .ref a19, .ref a4, .ref a3, .ref a20, .ref a21])), (a4, .inl (cI, 4, .inl (tb [0, 0, 0, 0]))), (a5, .inl (cI, 4, .inl (tb [0]))), (a3, .inl (cI, 4, .inl (tb [10, 10, 10, 10]))), (a6, .inl (cI, 4, .inl (tb [10]))), (a7, .inl (cI, 9261, .inl (tb [10]))), (a1, .inr (4, [.ref a2, .ref a7, .ref a14, .ref a5, .ref a6, .ref a15, .ref a16, .ref a17, .int 1, .int 11, .int 1, .int 0]))]) rfl rfl rfl rfl (by decide) (c027_X8_refuse l dC dI cI cJ cII cJJ H.size 0 a0 a8 a2 a9 a1 a10 a11 a12 a13) ⟨by decide +kernel, by decide +kernel⟩ rfl rfl (Or.inl rfl) (rest := []) rfl rfl rfl hl.1 rfl (Nat.le_of_ble_eq_true rfl) dX8_take_13 ⟨Nat.le_of_ble_eq_true rfl, Nat.le_of_ble_eq_true rfl⟩ (W' := [(a2, .inr (3, [.int 1, .int 0, .ref a18, .ref a19, .ref a4, .ref a3, .ref a20, .ref a21])), (a4, .inl (cI, 4, .inl (tb [0, 0, 0, 0]))), (a5, .inl (cI, 4, .inl (tb [0]))), (a3, .inl (cI, 4, .inl (tb [10, 10, 10, 10]))), (a6, .inl (cI, 4, .inl (tb [10]))), (a7, .inl (cI, 9261, .inl (tb [10]))), (a1, .inr (4, [.ref a2, .ref a7, .ref a14, .ref a5, .ref a6, .ref a15, .ref a16, .ref a17, .int 1, .int 11, .int 1, .int 0])), (a0, .inr (8, [.ref a2, .ref a9, .ref a1, .ref a10, .ref a11, .ref a12, .ref a13, .ref a8])), (a8, .inl (cI, 8, .inl (tb [0, 1])))]) rfl (fun H locs hP hD hS => ?_)
  exact r_i hx hb hr hk hK (hP.sub [] rfl) (hD.sub [] rfl rfl) hS dX8_take_16
set_option maxRecDepth 100000 in
set_option maxHeartbeats 4000000 in
theorem c226_X8_take (l : Launch) (dC : Nat → ClassId) (dI : Nat → Nat → Nat) (cI cJ cII cJJ : ClassId) (sz g a0 a1 a2 a3 a4 a5 a6 a7 a8 a9 a10 a11 a12 a13 a14 a15 a16 a17 a18 a19 a20 a21 : Nat) (x0 : Int32) (h_x0 : 11 ≤ x0.toInt ∧ x0.toInt ≤ 2147483647) : Met l yX8_take (.code yX8_take cX8_take 2 (some .int) :: TT) ({ frames := 6, cells := 0, slots := 0, locals := 320 }) (PcS dC dI (TY cI cJ cII cJJ) [.ref a0, .int x0] [(a0, .inr (8, [.ref a2, .ref a9, .ref a1, .ref a10, .ref a11, .ref a12, .ref a13, .ref a8])), (a1, .inr (4, [.ref a2, .ref a7, .ref a14, .ref a5, .ref a6, .ref a15, .ref a16, .ref a17, .int 0, .int 0, .int 0, .int 1])), (a2, .inr (3, [.int 1, .int 0, .ref a18, .ref a19, .ref a4, .ref a3, .ref a20, .ref a21])), (a3, .inl (cI, 4, .inl (tb [10, 10, 10, 10]))), (a4, .inl (cI, 4, .inl (tb [0, 0, 0, 0]))), (a5, .inl (cI, 4, .inl (tb []))), (a6, .inl (cI, 4, .inl (tb []))), (a7, .inl (cI, 9261, .inl (tb []))), (a8, .inl (cI, 8, .inl (tb [])))] sz 0 g) ((QcI dC dI (TY cI cJ cII cJJ) (-1) []) (va_A [(a0, .inr (8, [.ref a2, .ref a9, .ref a1, .ref a10, .ref a11, .ref a12, .ref a13, .ref a8])), (a1, .inr (4, [.ref a2, .ref a7, .ref a14, .ref a5, .ref a6, .ref a15, .ref a16, .ref a17, .int 0, .int 0, .int 0, .int 1])), (a2, .inr (3, [.int 1, .int 0, .ref a18, .ref a19, .ref a4, .ref a3, .ref a20, .ref a21])), (a3, .inl (cI, 4, .inl (tb [10, 10, 10, 10]))), (a4, .inl (cI, 4, .inl (tb [0, 0, 0, 0]))), (a5, .inl (cI, 4, .inl (tb []))), (a6, .inl (cI, 4, .inl (tb []))), (a7, .inl (cI, 9261, .inl (tb []))), (a8, .inl (cI, 8, .inl (tb [])))] sz)) 0 0 (va_A [(a0, .inr (8, [.ref a2, .ref a9, .ref a1, .ref a10, .ref a11, .ref a12, .ref a13, .ref a8])), (a1, .inr (4, [.ref a2, .ref a7, .ref a14, .ref a5, .ref a6, .ref a15, .ref a16, .ref a17, .int 0, .int 0, .int 0, .int 1])), (a2, .inr (3, [.int 1, .int 0, .ref a18, .ref a19, .ref a4, .ref a3, .ref a20, .ref a21])), (a3, .inl (cI, 4, .inl (tb [10, 10, 10, 10]))), (a4, .inl (cI, 4, .inl (tb [0, 0, 0, 0]))), (a5, .inl (cI, 4, .inl (tb []))), (a6, .inl (cI, 4, .inl (tb []))), (a7, .inl (cI, 9261, .inl (tb []))), (a8, .inl (cI, 8, .inl (tb [])))] sz) := by
  refine SM.of (y := yX8_take) (maxL := 2) (av := [.ref a0, .int x0]) (QcI dC dI (TY cI cJ cII cJJ) (-1) []) (by decide +kernel) (Nat.le_of_ble_eq_true rfl) (fun p e s m below meth c A ls hx hb hr hml hown hts hk hnm hA hK hP hD hS hX hl => ?_)
  have hown : s.vm.findClass RX8 = some m.cls := hown
  have hl : lv_has ls 2 [(0, .ref a0), (1, .int x0)] := hl
  refine lv_aload_n hx hb dX8_take_0 rfl (lv_at hl 0 rfl) ?_
  refine kV_a (q0 := 0) ⟨hx, hb, hml, hown, hts⟩ hK hP hD hS hA hX cv_RX8_196 [0, 1, 2, 3, 4, 5, 6, 7] [8] (wr := [(a8, .inl (cI, 8, .inl (tb [])))]) rfl rfl rfl rfl (by decide) (c208_X8_freshPlans l dC dI cI cJ cII cJJ s.heap.size 0 a0 a1 a2 a3 a4 a5 a6 a7 a9 a10 a11 a12 a13 a8 a14 a15 a16 a17 a18 a19 a20 a21) ⟨by decide +kernel, by decide +kernel⟩ rfl rfl (Or.inl rfl) (rest := []) rfl rfl rfl hl.1 rfl (Nat.le_of_ble_eq_true rfl) dX8_take_1 ⟨Nat.le_of_ble_eq_true rfl, Nat.le_of_ble_eq_true rfl⟩ (W' := [(a8, .inl (cI, 8, .inl (tb []))), (a0, .inr (8, [.ref a2, .ref a9, .ref a1, .ref a10, .ref a11, .ref a12, .ref a13, .ref a8])), (a2, .inr (3, [.int 1, .int 0, .ref a18, .ref a19, .ref a4, .ref a3, .ref a20, .ref a21])), (a4, .inl (cI, 4, .inl (tb [0, 0, 0, 0]))), (a5, .inl (cI, 4, .inl (tb [0]))), (a3, .inl (cI, 4, .inl (tb [10, 10, 10, 10]))), (a6, .inl (cI, 4, .inl (tb [10]))), (a1, .inr (4, [.ref a2, .ref a7, .ref a14, .ref a5, .ref a6, .ref a15, .ref a16, .ref a17, .int 1, .int 11, .int 1, .int 0])), (a7, .inl (cI, 9261, .inl (tb [10])))]) rfl (fun H locs hP hD hS => ?_)
  refine lv_iload_n hx hb dX8_take_4 rfl (lv_at hl 1 rfl) ?_
  refine kV_i (q0 := 0) ⟨hx, hb, hml, hown, hts⟩ hK hP hD hS hA hX cv_RX8_201 [7] [0, 1, 2, 3, 4, 5, 6, 8] (wr := [(a8, .inl (cI, 8, .inl (tb []))), (a0, .inr (8, [.ref a2, .ref a9, .ref a1, .ref a10, .ref a11, .ref a12, .ref a13, .ref a8])), (a2, .inr (3, [.int 1, .int 0, .ref a18, .ref a19, .ref a4, .ref a3, .ref a20, .ref a21])), (a4, .inl (cI, 4, .inl (tb [0, 0, 0, 0]))), (a5, .inl (cI, 4, .inl (tb [0]))), (a3, .inl (cI, 4, .inl (tb [10, 10, 10, 10]))), (a6, .inl (cI, 4, .inl (tb [10]))), (a7, .inl (cI, 9261, .inl (tb [10])))]) rfl rfl rfl rfl (by decide) (c218_X4_isNumber l dC dI cI cJ cII cJJ H.size 0 a1 a2 a7 a14 a5 a6 a15 a16 a17 x0 h_x0) ⟨by decide +kernel, by decide +kernel⟩ rfl rfl (Or.inl rfl) (rest := []) rfl rfl rfl hl.1 rfl (Nat.le_of_ble_eq_true rfl) dX8_take_5 ⟨Nat.le_of_ble_eq_true rfl, Nat.le_of_ble_eq_true rfl⟩ (W' := [(a8, .inl (cI, 8, .inl (tb []))), (a0, .inr (8, [.ref a2, .ref a9, .ref a1, .ref a10, .ref a11, .ref a12, .ref a13, .ref a8])), (a2, .inr (3, [.int 1, .int 0, .ref a18, .ref a19, .ref a4, .ref a3, .ref a20, .ref a21])), (a4, .inl (cI, 4, .inl (tb [0, 0, 0, 0]))), (a5, .inl (cI, 4, .inl (tb [0]))), (a3, .inl (cI, 4, .inl (tb [10, 10, 10, 10]))), (a6, .inl (cI, 4, .inl (tb [10]))), (a7, .inl (cI, 9261, .inl (tb [10]))), (a1, .inr (4, [.ref a2, .ref a7, .ref a14, .ref a5, .ref a6, .ref a15, .ref a16, .ref a17, .int 1, .int 11, .int 1, .int 0]))]) rfl (fun H locs hP hD hS => ?_)
  refine f_if_ne hx hb dX8_take_8 17 (by decide) (by decide +kernel) ?_
  refine lv_aload_n hx hb dX8_take_11 rfl (lv_at hl 0 rfl) ?_
  refine lv_iconst (v := (-1)) hx hb dX8_take_12 (by decide) ?_
  refine kV_i (q0 := 0) ⟨hx, hb, hml, hown, hts⟩ hK hP hD hS hA hX cv_RX8_53 [1, 0] [2, 3, 4, 5, 6, 7, 8] (wr := [(a2, .inr (3, [.int 1, .int 0, .ref a18, .ref a19, .ref a4, .ref a3, .ref a20, .ref a21])), (a4, .inl (cI, 4, .inl (tb [0, 0, 0, 0]))), (a5, .inl (cI, 4, .inl (tb [0]))), (a3, .inl (cI, 4, .inl (tb [10, 10, 10, 10]))), (a6, .inl (cI, 4, .inl (tb [10]))), (a7, .inl (cI, 9261, .inl (tb [10]))), (a1, .inr (4, [.ref a2, .ref a7, .ref a14, .ref a5, .ref a6, .ref a15, .ref a16, .ref a17, .int 1, .int 11, .int 1, .int 0]))]) rfl rfl rfl rfl (by decide) (c027_X8_refuse l dC dI cI cJ cII cJJ H.size 0 a0 a8 a2 a9 a1 a10 a11 a12 a13) ⟨by decide +kernel, by decide +kernel⟩ rfl rfl (Or.inl rfl) (rest := []) rfl rfl rfl hl.1 rfl (Nat.le_of_ble_eq_true rfl) dX8_take_13 ⟨Nat.le_of_ble_eq_true rfl, Nat.le_of_ble_eq_true rfl⟩ (W' := [(a2, .inr (3, [.int 1, .int 0, .ref a18, .ref a19, .ref a4, .ref a3, .ref a20, .ref a21])), (a4, .inl (cI, 4, .inl (tb [0, 0, 0, 0]))), (a5, .inl (cI, 4, .inl (tb [0]))), (a3, .inl (cI, 4, .inl (tb [10, 10, 10, 10]))), (a6, .inl (cI, 4, .inl (tb [10]))), (a7, .inl (cI, 9261, .inl (tb [10]))), (a1, .inr (4, [.ref a2, .ref a7, .ref a14, .ref a5, .ref a6, .ref a15, .ref a16, .ref a17, .int 1, .int 11, .int 1, .int 0])), (a0, .inr (8, [.ref a2, .ref a9, .ref a1, .ref a10, .ref a11, .ref a12, .ref a13, .ref a8])), (a8, .inl (cI, 8, .inl (tb [0, 1])))]) rfl (fun H locs hP hD hS => ?_)
  exact r_i hx hb hr hk hK (hP.sub [] rfl) (hD.sub [] rfl rfl) hS dX8_take_16
set_option maxRecDepth 100000 in
set_option maxHeartbeats 4000000 in
theorem c227_X8_take (l : Launch) (dC : Nat → ClassId) (dI : Nat → Nat → Nat) (cI cJ cII cJJ : ClassId) (sz g a0 a1 a2 a3 a4 a5 a6 a7 a8 a9 a10 a11 a12 a13 a14 a15 a16 a17 a18 a19 a20 a21 : Nat) (x0 : Int32) (h_x0 : 0 ≤ x0.toInt ∧ x0.toInt ≤ 10) : Met l yX8_take (.code yX8_take cX8_take 2 (some .int) :: TT) ({ frames := 6, cells := 0, slots := 0, locals := 320 }) (PcS dC dI (TY cI cJ cII cJJ) [.ref a0, .int x0] [(a0, .inr (8, [.ref a2, .ref a9, .ref a1, .ref a10, .ref a8, .ref a11, .ref a12, .ref a13])), (a1, .inr (4, [.ref a2, .ref a7, .ref a14, .ref a5, .ref a6, .ref a15, .ref a16, .ref a17, .int 0, .int 0, .int 0, .int 1])), (a2, .inr (3, [.int 1, .int 0, .ref a18, .ref a19, .ref a4, .ref a3, .ref a20, .ref a21])), (a3, .inl (cI, 4, .inl (tb [10, 10, 10, 10]))), (a4, .inl (cI, 4, .inl (tb [0, 0, 0, 0]))), (a5, .inl (cI, 4, .inl (tb []))), (a6, .inl (cI, 4, .inl (tb []))), (a7, .inl (cI, 9261, .inl (tb []))), (a8, .inl (cI, 4, .inl (tb [])))] sz 0 g) ((QcI dC dI (TY cI cJ cII cJJ) 1 []) (va_A [(a0, .inr (8, [.ref a2, .ref a9, .ref a1, .ref a10, .ref a8, .ref a11, .ref a12, .ref a13])), (a1, .inr (4, [.ref a2, .ref a7, .ref a14, .ref a5, .ref a6, .ref a15, .ref a16, .ref a17, .int 0, .int 0, .int 0, .int 1])), (a2, .inr (3, [.int 1, .int 0, .ref a18, .ref a19, .ref a4, .ref a3, .ref a20, .ref a21])), (a3, .inl (cI, 4, .inl (tb [10, 10, 10, 10]))), (a4, .inl (cI, 4, .inl (tb [0, 0, 0, 0]))), (a5, .inl (cI, 4, .inl (tb []))), (a6, .inl (cI, 4, .inl (tb []))), (a7, .inl (cI, 9261, .inl (tb []))), (a8, .inl (cI, 4, .inl (tb [])))] sz)) 0 0 (va_A [(a0, .inr (8, [.ref a2, .ref a9, .ref a1, .ref a10, .ref a8, .ref a11, .ref a12, .ref a13])), (a1, .inr (4, [.ref a2, .ref a7, .ref a14, .ref a5, .ref a6, .ref a15, .ref a16, .ref a17, .int 0, .int 0, .int 0, .int 1])), (a2, .inr (3, [.int 1, .int 0, .ref a18, .ref a19, .ref a4, .ref a3, .ref a20, .ref a21])), (a3, .inl (cI, 4, .inl (tb [10, 10, 10, 10]))), (a4, .inl (cI, 4, .inl (tb [0, 0, 0, 0]))), (a5, .inl (cI, 4, .inl (tb []))), (a6, .inl (cI, 4, .inl (tb []))), (a7, .inl (cI, 9261, .inl (tb []))), (a8, .inl (cI, 4, .inl (tb [])))] sz) := by
  refine SM.of (y := yX8_take) (maxL := 2) (av := [.ref a0, .int x0]) (QcI dC dI (TY cI cJ cII cJJ) 1 []) (by decide +kernel) (Nat.le_of_ble_eq_true rfl) (fun p e s m below meth c A ls hx hb hr hml hown hts hk hnm hA hK hP hD hS hX hl => ?_)
  have hown : s.vm.findClass RX8 = some m.cls := hown
  have hl : lv_has ls 2 [(0, .ref a0), (1, .int x0)] := hl
  refine lv_aload_n hx hb dX8_take_0 rfl (lv_at hl 0 rfl) ?_
  refine kV_a (q0 := 0) ⟨hx, hb, hml, hown, hts⟩ hK hP hD hS hA hX cv_RX8_196 [0, 1, 2, 3, 4, 5, 6, 7] [8] (wr := [(a8, .inl (cI, 4, .inl (tb [])))]) rfl rfl rfl rfl (by decide) (c208_X8_freshPlans l dC dI cI cJ cII cJJ s.heap.size 0 a0 a1 a2 a3 a4 a5 a6 a7 a9 a10 a8 a11 a12 a13 a14 a15 a16 a17 a18 a19 a20 a21) ⟨by decide +kernel, by decide +kernel⟩ rfl rfl (Or.inl rfl) (rest := []) rfl rfl rfl hl.1 rfl (Nat.le_of_ble_eq_true rfl) dX8_take_1 ⟨Nat.le_of_ble_eq_true rfl, Nat.le_of_ble_eq_true rfl⟩ (W' := [(a8, .inl (cI, 4, .inl (tb []))), (a0, .inr (8, [.ref a2, .ref a9, .ref a1, .ref a10, .ref a8, .ref a11, .ref a12, .ref a13])), (a2, .inr (3, [.int 1, .int 0, .ref a18, .ref a19, .ref a4, .ref a3, .ref a20, .ref a21])), (a4, .inl (cI, 4, .inl (tb [0, 0, 0, 0]))), (a5, .inl (cI, 4, .inl (tb [0]))), (a3, .inl (cI, 4, .inl (tb [10, 10, 10, 10]))), (a6, .inl (cI, 4, .inl (tb [10]))), (a1, .inr (4, [.ref a2, .ref a7, .ref a14, .ref a5, .ref a6, .ref a15, .ref a16, .ref a17, .int 1, .int 11, .int 1, .int 0])), (a7, .inl (cI, 9261, .inl (tb [10])))]) rfl (fun H locs hP hD hS => ?_)
  refine lv_iload_n hx hb dX8_take_4 rfl (lv_at hl 1 rfl) ?_
  refine kV_i (q0 := 0) ⟨hx, hb, hml, hown, hts⟩ hK hP hD hS hA hX cv_RX8_201 [7] [0, 1, 2, 3, 4, 5, 6, 8] (wr := [(a8, .inl (cI, 4, .inl (tb []))), (a0, .inr (8, [.ref a2, .ref a9, .ref a1, .ref a10, .ref a8, .ref a11, .ref a12, .ref a13])), (a2, .inr (3, [.int 1, .int 0, .ref a18, .ref a19, .ref a4, .ref a3, .ref a20, .ref a21])), (a4, .inl (cI, 4, .inl (tb [0, 0, 0, 0]))), (a5, .inl (cI, 4, .inl (tb [0]))), (a3, .inl (cI, 4, .inl (tb [10, 10, 10, 10]))), (a6, .inl (cI, 4, .inl (tb [10]))), (a7, .inl (cI, 9261, .inl (tb [10])))]) rfl rfl rfl rfl (by decide) (c220_X4_isNumber l dC dI cI cJ cII cJJ H.size 0 a1 a2 a7 a14 a5 a6 a15 a16 a17 x0 h_x0) ⟨by decide +kernel, by decide +kernel⟩ rfl rfl (Or.inl rfl) (rest := []) rfl rfl rfl hl.1 rfl (Nat.le_of_ble_eq_true rfl) dX8_take_5 ⟨Nat.le_of_ble_eq_true rfl, Nat.le_of_ble_eq_true rfl⟩ (W' := [(a8, .inl (cI, 4, .inl (tb []))), (a0, .inr (8, [.ref a2, .ref a9, .ref a1, .ref a10, .ref a8, .ref a11, .ref a12, .ref a13])), (a2, .inr (3, [.int 1, .int 0, .ref a18, .ref a19, .ref a4, .ref a3, .ref a20, .ref a21])), (a4, .inl (cI, 4, .inl (tb [0, 0, 0, 0]))), (a5, .inl (cI, 4, .inl (tb [0]))), (a3, .inl (cI, 4, .inl (tb [10, 10, 10, 10]))), (a6, .inl (cI, 4, .inl (tb [10]))), (a7, .inl (cI, 9261, .inl (tb [10]))), (a1, .inr (4, [.ref a2, .ref a7, .ref a14, .ref a5, .ref a6, .ref a15, .ref a16, .ref a17, .int 1, .int 11, .int 1, .int 0]))]) rfl (fun H locs hP hD hS => ?_)
  refine t_if_ne hx hb dX8_take_8 17 (by decide) (by decide +kernel) ?_
  refine lv_aload_n hx hb dX8_take_17 rfl (lv_at hl 0 rfl) ?_
  refine gf (k := 2) hx hb hts inX8 hown hK hP k_266 rfl (by decide) rfl 1 rfl (.ref a1) rfl dX8_take_18 ?_
  refine lv_iload_n hx hb dX8_take_21 rfl (lv_at hl 1 rfl) ?_
  refine lv_aload_n hx hb dX8_take_22 rfl (lv_at hl 0 rfl) ?_
  refine gf (k := 4) hx hb hts inX8 hown hK hP k_268 rfl (by decide) rfl 1 rfl (.ref a8) rfl dX8_take_23 ?_
  refine kV_v (q0 := 0) ⟨hx, hb, hml, hown, hts⟩ hK hP hD hS hA hX cv_RX8_204 [8, 7, 0, 2] [1, 3, 4, 5, 6] (wr := [(a0, .inr (8, [.ref a2, .ref a9, .ref a1, .ref a10, .ref a8, .ref a11, .ref a12, .ref a13])), (a4, .inl (cI, 4, .inl (tb [0, 0, 0, 0]))), (a5, .inl (cI, 4, .inl (tb [0]))), (a3, .inl (cI, 4, .inl (tb [10, 10, 10, 10]))), (a6, .inl (cI, 4, .inl (tb [10])))]) rfl rfl rfl rfl (by decide) (c223_X4_read l dC dI cI cJ cII cJJ H.size 0 a1 a7 a8 a2 a14 a5 a6 a15 a16 a17 a18 a19 a4 a3 a20 a21 x0 h_x0) ⟨by decide +kernel, by decide +kernel⟩ rfl rfl (Or.inl rfl) (rest := []) rfl rfl rfl hl.1 rfl (Nat.le_of_ble_eq_true rfl) dX8_take_26 ⟨Nat.le_of_ble_eq_true rfl, Nat.le_of_ble_eq_true rfl⟩ (fun _ => rfl) (W' := [(a0, .inr (8, [.ref a2, .ref a9, .ref a1, .ref a10, .ref a8, .ref a11, .ref a12, .ref a13])), (a4, .inl (cI, 4, .inl (tb [0, 0, 0, 0]))), (a5, .inl (cI, 4, .inl (tb [0]))), (a3, .inl (cI, 4, .inl (tb [10, 10, 10, 10]))), (a6, .inl (cI, 4, .inl (tb [10]))), (a1, .inr (4, [.ref a2, .ref a7, .ref a14, .ref a5, .ref a6, .ref a15, .ref a16, .ref a17, .int 1, .int 11, .int 1, .int 0])), (a7, .inl (cI, 9261, .inl (tb [10]))), (a2, .inr (3, [.int 1, .int 0, .ref a18, .ref a19, .ref a4, .ref a3, .ref a20, .ref a21])), (a8, .inl (cI, 4, .inl (tb [x0, 0, 0, 0])))]) rfl (fun H locs hP hD hS => ?_)
  refine lv_iconst (v := 1) hx hb dX8_take_29 (by decide) ?_
  exact r_i hx hb hr hk hK (hP.sub [] rfl) (hD.sub [] rfl rfl) hS dX8_take_30
set_option maxRecDepth 100000 in
set_option maxHeartbeats 4000000 in
theorem c228_X8_less (l : Launch) (dC : Nat → ClassId) (dI : Nat → Nat → Nat) (cI cJ cII cJJ : ClassId) (sz g a0 a1 a2 a3 a4 a5 a6 a7 a8 a9 a10 a11 a12 a13 a14 a15 a16 a17 a18 a19 a20 a21 : Nat) (x0 : Int32) (h_x0 : -2147483648 ≤ x0.toInt ∧ x0.toInt ≤ -1) : Met l yX8_less (.code yX8_less cX8_less 3 (some .int) :: TT) ({ frames := 6, cells := 0, slots := 0, locals := 320 }) (PcS dC dI (TY cI cJ cII cJJ) [.ref a0, .int x0] [(a0, .inr (8, [.ref a2, .ref a9, .ref a1, .ref a10, .ref a11, .ref a12, .ref a13, .ref a8])), (a1, .inr (4, [.ref a2, .ref a7, .ref a14, .ref a5, .ref a6, .ref a15, .ref a16, .ref a17, .int 0, .int 0, .int 0, .int 1])), (a2, .inr (3, [.int 1, .int 0, .ref a18, .ref a19, .ref a4, .ref a3, .ref a20, .ref a21])), (a3, .inl (cI, 4, .inl (tb [10, 10, 10, 10]))), (a4, .inl (cI, 4, .inl (tb [0, 0, 0, 0]))), (a5, .inl (cI, 4, .inl (tb []))), (a6, .inl (cI, 4, .inl (tb []))), (a7, .inl (cI, 9261, .inl (tb []))), (a8, .inl (cI, 8, .inl (tb [])))] sz 0 g) ((QcI dC dI (TY cI cJ cII cJJ) (-1) []) (va_A [(a0, .inr (8, [.ref a2, .ref a9, .ref a1, .ref a10, .ref a11, .ref a12, .ref a13, .ref a8])), (a1, .inr (4, [.ref a2, .ref a7, .ref a14, .ref a5, .ref a6, .ref a15, .ref a16, .ref a17, .int 0, .int 0, .int 0, .int 1])), (a2, .inr (3, [.int 1, .int 0, .ref a18, .ref a19, .ref a4, .ref a3, .ref a20, .ref a21])), (a3, .inl (cI, 4, .inl (tb [10, 10, 10, 10]))), (a4, .inl (cI, 4, .inl (tb [0, 0, 0, 0]))), (a5, .inl (cI, 4, .inl (tb []))), (a6, .inl (cI, 4, .inl (tb []))), (a7, .inl (cI, 9261, .inl (tb []))), (a8, .inl (cI, 8, .inl (tb [])))] sz)) 0 0 (va_A [(a0, .inr (8, [.ref a2, .ref a9, .ref a1, .ref a10, .ref a11, .ref a12, .ref a13, .ref a8])), (a1, .inr (4, [.ref a2, .ref a7, .ref a14, .ref a5, .ref a6, .ref a15, .ref a16, .ref a17, .int 0, .int 0, .int 0, .int 1])), (a2, .inr (3, [.int 1, .int 0, .ref a18, .ref a19, .ref a4, .ref a3, .ref a20, .ref a21])), (a3, .inl (cI, 4, .inl (tb [10, 10, 10, 10]))), (a4, .inl (cI, 4, .inl (tb [0, 0, 0, 0]))), (a5, .inl (cI, 4, .inl (tb []))), (a6, .inl (cI, 4, .inl (tb []))), (a7, .inl (cI, 9261, .inl (tb []))), (a8, .inl (cI, 8, .inl (tb [])))] sz) := by
  refine SM.of (y := yX8_less) (maxL := 3) (av := [.ref a0, .int x0]) (QcI dC dI (TY cI cJ cII cJJ) (-1) []) (by decide +kernel) (Nat.le_of_ble_eq_true rfl) (fun p e s m below meth c A ls hx hb hr hml hown hts hk hnm hA hK hP hD hS hX hl => ?_)
  have hown : s.vm.findClass RX8 = some m.cls := hown
  have hl : lv_has ls 3 [(0, .ref a0), (1, .int x0)] := hl
  refine lv_aload_n hx hb dX8_less_0 rfl (lv_at hl 0 rfl) ?_
  refine kV_a (q0 := 0) ⟨hx, hb, hml, hown, hts⟩ hK hP hD hS hA hX cv_RX8_196 [0, 1, 2, 3, 4, 5, 6, 7] [8] (wr := [(a8, .inl (cI, 8, .inl (tb [])))]) rfl rfl rfl rfl (by decide) (c208_X8_freshPlans l dC dI cI cJ cII cJJ s.heap.size 0 a0 a1 a2 a3 a4 a5 a6 a7 a9 a10 a11 a12 a13 a8 a14 a15 a16 a17 a18 a19 a20 a21) ⟨by decide +kernel, by decide +kernel⟩ rfl rfl (Or.inl rfl) (rest := []) rfl rfl rfl hl.1 rfl (Nat.le_of_ble_eq_true rfl) dX8_less_1 ⟨Nat.le_of_ble_eq_true rfl, Nat.le_of_ble_eq_true rfl⟩ (W' := [(a8, .inl (cI, 8, .inl (tb []))), (a0, .inr (8, [.ref a2, .ref a9, .ref a1, .ref a10, .ref a11, .ref a12, .ref a13, .ref a8])), (a2, .inr (3, [.int 1, .int 0, .ref a18, .ref a19, .ref a4, .ref a3, .ref a20, .ref a21])), (a4, .inl (cI, 4, .inl (tb [0, 0, 0, 0]))), (a5, .inl (cI, 4, .inl (tb [0]))), (a3, .inl (cI, 4, .inl (tb [10, 10, 10, 10]))), (a6, .inl (cI, 4, .inl (tb [10]))), (a1, .inr (4, [.ref a2, .ref a7, .ref a14, .ref a5, .ref a6, .ref a15, .ref a16, .ref a17, .int 1, .int 11, .int 1, .int 0])), (a7, .inl (cI, 9261, .inl (tb [10])))]) rfl (fun H locs hP hD hS => ?_)
  refine lv_iload_n hx hb dX8_less_4 rfl (lv_at hl 1 rfl) ?_
  refine kV_i (q0 := 0) ⟨hx, hb, hml, hown, hts⟩ hK hP hD hS hA hX cv_RX8_201 [7] [0, 1, 2, 3, 4, 5, 6, 8] (wr := [(a8, .inl (cI, 8, .inl (tb []))), (a0, .inr (8, [.ref a2, .ref a9, .ref a1, .ref a10, .ref a11, .ref a12, .ref a13, .ref a8])), (a2, .inr (3, [.int 1, .int 0, .ref a18, .ref a19, .ref a4, .ref a3, .ref a20, .ref a21])), (a4, .inl (cI, 4, .inl (tb [0, 0, 0, 0]))), (a5, .inl (cI, 4, .inl (tb [0]))), (a3, .inl (cI, 4, .inl (tb [10, 10, 10, 10]))), (a6, .inl (cI, 4, .inl (tb [10]))), (a7, .inl (cI, 9261, .inl (tb [10])))]) rfl rfl rfl rfl (by decide) (c216_X4_isNumber l dC dI cI cJ cII cJJ H.size 0 a1 a2 a7 a14 a5 a6 a15 a16 a17 x0 h_x0) ⟨by decide +kernel, by decide +kernel⟩ rfl rfl (Or.inl rfl) (rest := []) rfl rfl rfl hl.1 rfl (Nat.le_of_ble_eq_true rfl) dX8_less_5 ⟨Nat.le_of_ble_eq_true rfl, Nat.le_of_ble_eq_true rfl⟩ (W' := [(a8, .inl (cI, 8, .inl (tb []))), (a0, .inr (8, [.ref a2, .ref a9, .ref a1, .ref a10, .ref a11, .ref a12, .ref a13, .ref a8])), (a2, .inr (3, [.int 1, .int 0, .ref a18, .ref a19, .ref a4, .ref a3, .ref a20, .ref a21])), (a4, .inl (cI, 4, .inl (tb [0, 0, 0, 0]))), (a5, .inl (cI, 4, .inl (tb [0]))), (a3, .inl (cI, 4, .inl (tb [10, 10, 10, 10]))), (a6, .inl (cI, 4, .inl (tb [10]))), (a7, .inl (cI, 9261, .inl (tb [10]))), (a1, .inr (4, [.ref a2, .ref a7, .ref a14, .ref a5, .ref a6, .ref a15, .ref a16, .ref a17, .int 1, .int 11, .int 1, .int 0]))]) rfl (fun H locs hP hD hS => ?_)
  refine f_if_ne hx hb dX8_less_8 17 (by decide) (by decide +kernel) ?_
  refine lv_aload_n hx hb dX8_less_11 rfl (lv_at hl 0 rfl) ?_
  refine lv_iconst (v := (-1)) hx hb dX8_less_12 (by decide) ?_
  refine kV_i (q0 := 0) ⟨hx, hb, hml, hown, hts⟩ hK hP hD hS hA hX cv_RX8_53 [1, 0] [2, 3, 4, 5, 6, 7, 8] (wr := [(a2, .inr (3, [.int 1, .int 0, .ref a18, .ref a19, .ref a4, .ref a3, .ref a20, .ref a21])), (a4, .inl (cI, 4, .inl (tb [0, 0, 0, 0]))), (a5, .inl (cI, 4, .inl (tb [0]))), (a3, .inl (cI, 4, .inl (tb [10, 10, 10, 10]))), (a6, .inl (cI, 4, .inl (tb [10]))), (a7, .inl (cI, 9261, .inl (tb [10]))), (a1, .inr (4, [.ref a2, .ref a7, .ref a14, .ref a5, .ref a6, .ref a15, .ref a16, .ref a17, .int 1, .int 11, .int 1, .int 0]))]) rfl rfl rfl rfl (by decide) (c027_X8_refuse l dC dI cI cJ cII cJJ H.size 0 a0 a8 a2 a9 a1 a10 a11 a12 a13) ⟨by decide +kernel, by decide +kernel⟩ rfl rfl (Or.inl rfl) (rest := []) rfl rfl rfl hl.1 rfl (Nat.le_of_ble_eq_true rfl) dX8_less_13 ⟨Nat.le_of_ble_eq_true rfl, Nat.le_of_ble_eq_true rfl⟩ (W' := [(a2, .inr (3, [.int 1, .int 0, .ref a18, .ref a19, .ref a4, .ref a3, .ref a20, .ref a21])), (a4, .inl (cI, 4, .inl (tb [0, 0, 0, 0]))), (a5, .inl (cI, 4, .inl (tb [0]))), (a3, .inl (cI, 4, .inl (tb [10, 10, 10, 10]))), (a6, .inl (cI, 4, .inl (tb [10]))), (a7, .inl (cI, 9261, .inl (tb [10]))), (a1, .inr (4, [.ref a2, .ref a7, .ref a14, .ref a5, .ref a6, .ref a15, .ref a16, .ref a17, .int 1, .int 11, .int 1, .int 0])), (a0, .inr (8, [.ref a2, .ref a9, .ref a1, .ref a10, .ref a11, .ref a12, .ref a13, .ref a8])), (a8, .inl (cI, 8, .inl (tb [0, 1])))]) rfl (fun H locs hP hD hS => ?_)
  exact r_i hx hb hr hk hK (hP.sub [] rfl) (hD.sub [] rfl rfl) hS dX8_less_16
set_option maxRecDepth 100000 in
set_option maxHeartbeats 4000000 in
theorem c229_X8_less (l : Launch) (dC : Nat → ClassId) (dI : Nat → Nat → Nat) (cI cJ cII cJJ : ClassId) (sz g a0 a1 a2 a3 a4 a5 a6 a7 a8 a9 a10 a11 a12 a13 a14 a15 a16 a17 a18 a19 a20 a21 : Nat) (x0 : Int32) (h_x0 : 11 ≤ x0.toInt ∧ x0.toInt ≤ 2147483647) : Met l yX8_less (.code yX8_less cX8_less 3 (some .int) :: TT) ({ frames := 6, cells := 0, slots := 0, locals := 320 }) (PcS dC dI (TY cI cJ cII cJJ) [.ref a0, .int x0] [(a0, .inr (8, [.ref a2, .ref a9, .ref a1, .ref a10, .ref a11, .ref a12, .ref a13, .ref a8])), (a1, .inr (4, [.ref a2, .ref a7, .ref a14, .ref a5, .ref a6, .ref a15, .ref a16, .ref a17, .int 0, .int 0, .int 0, .int 1])), (a2, .inr (3, [.int 1, .int 0, .ref a18, .ref a19, .ref a4, .ref a3, .ref a20, .ref a21])), (a3, .inl (cI, 4, .inl (tb [10, 10, 10, 10]))), (a4, .inl (cI, 4, .inl (tb [0, 0, 0, 0]))), (a5, .inl (cI, 4, .inl (tb []))), (a6, .inl (cI, 4, .inl (tb []))), (a7, .inl (cI, 9261, .inl (tb []))), (a8, .inl (cI, 8, .inl (tb [])))] sz 0 g) ((QcI dC dI (TY cI cJ cII cJJ) (-1) []) (va_A [(a0, .inr (8, [.ref a2, .ref a9, .ref a1, .ref a10, .ref a11, .ref a12, .ref a13, .ref a8])), (a1, .inr (4, [.ref a2, .ref a7, .ref a14, .ref a5, .ref a6, .ref a15, .ref a16, .ref a17, .int 0, .int 0, .int 0, .int 1])), (a2, .inr (3, [.int 1, .int 0, .ref a18, .ref a19, .ref a4, .ref a3, .ref a20, .ref a21])), (a3, .inl (cI, 4, .inl (tb [10, 10, 10, 10]))), (a4, .inl (cI, 4, .inl (tb [0, 0, 0, 0]))), (a5, .inl (cI, 4, .inl (tb []))), (a6, .inl (cI, 4, .inl (tb []))), (a7, .inl (cI, 9261, .inl (tb []))), (a8, .inl (cI, 8, .inl (tb [])))] sz)) 0 0 (va_A [(a0, .inr (8, [.ref a2, .ref a9, .ref a1, .ref a10, .ref a11, .ref a12, .ref a13, .ref a8])), (a1, .inr (4, [.ref a2, .ref a7, .ref a14, .ref a5, .ref a6, .ref a15, .ref a16, .ref a17, .int 0, .int 0, .int 0, .int 1])), (a2, .inr (3, [.int 1, .int 0, .ref a18, .ref a19, .ref a4, .ref a3, .ref a20, .ref a21])), (a3, .inl (cI, 4, .inl (tb [10, 10, 10, 10]))), (a4, .inl (cI, 4, .inl (tb [0, 0, 0, 0]))), (a5, .inl (cI, 4, .inl (tb []))), (a6, .inl (cI, 4, .inl (tb []))), (a7, .inl (cI, 9261, .inl (tb []))), (a8, .inl (cI, 8, .inl (tb [])))] sz) := by
  refine SM.of (y := yX8_less) (maxL := 3) (av := [.ref a0, .int x0]) (QcI dC dI (TY cI cJ cII cJJ) (-1) []) (by decide +kernel) (Nat.le_of_ble_eq_true rfl) (fun p e s m below meth c A ls hx hb hr hml hown hts hk hnm hA hK hP hD hS hX hl => ?_)
  have hown : s.vm.findClass RX8 = some m.cls := hown
  have hl : lv_has ls 3 [(0, .ref a0), (1, .int x0)] := hl
  refine lv_aload_n hx hb dX8_less_0 rfl (lv_at hl 0 rfl) ?_
  refine kV_a (q0 := 0) ⟨hx, hb, hml, hown, hts⟩ hK hP hD hS hA hX cv_RX8_196 [0, 1, 2, 3, 4, 5, 6, 7] [8] (wr := [(a8, .inl (cI, 8, .inl (tb [])))]) rfl rfl rfl rfl (by decide) (c208_X8_freshPlans l dC dI cI cJ cII cJJ s.heap.size 0 a0 a1 a2 a3 a4 a5 a6 a7 a9 a10 a11 a12 a13 a8 a14 a15 a16 a17 a18 a19 a20 a21) ⟨by decide +kernel, by decide +kernel⟩ rfl rfl (Or.inl rfl) (rest := []) rfl rfl rfl hl.1 rfl (Nat.le_of_ble_eq_true rfl) dX8_less_1 ⟨Nat.le_of_ble_eq_true rfl, Nat.le_of_ble_eq_true rfl⟩ (W' := [(a8, .inl (cI, 8, .inl (tb []))), (a0, .inr (8, [.ref a2, .ref a9, .ref a1, .ref a10, .ref a11, .ref a12, .ref a13, .ref a8])), (a2, .inr (3, [.int 1, .int 0, .ref a18, .ref a19, .ref a4, .ref a3, .ref a20, .ref a21])), (a4, .inl (cI, 4, .inl (tb [0, 0, 0, 0]))), (a5, .inl (cI, 4, .inl (tb [0]))), (a3, .inl (cI, 4, .inl (tb [10, 10, 10, 10]))), (a6, .inl (cI, 4, .inl (tb [10]))), (a1, .inr (4, [.ref a2, .ref a7, .ref a14, .ref a5, .ref a6, .ref a15, .ref a16, .ref a17, .int 1, .int 11, .int 1, .int 0])), (a7, .inl (cI, 9261, .inl (tb [10])))]) rfl (fun H locs hP hD hS => ?_)
  refine lv_iload_n hx hb dX8_less_4 rfl (lv_at hl 1 rfl) ?_
  refine kV_i (q0 := 0) ⟨hx, hb, hml, hown, hts⟩ hK hP hD hS hA hX cv_RX8_201 [7] [0, 1, 2, 3, 4, 5, 6, 8] (wr := [(a8, .inl (cI, 8, .inl (tb []))), (a0, .inr (8, [.ref a2, .ref a9, .ref a1, .ref a10, .ref a11, .ref a12, .ref a13, .ref a8])), (a2, .inr (3, [.int 1, .int 0, .ref a18, .ref a19, .ref a4, .ref a3, .ref a20, .ref a21])), (a4, .inl (cI, 4, .inl (tb [0, 0, 0, 0]))), (a5, .inl (cI, 4, .inl (tb [0]))), (a3, .inl (cI, 4, .inl (tb [10, 10, 10, 10]))), (a6, .inl (cI, 4, .inl (tb [10]))), (a7, .inl (cI, 9261, .inl (tb [10])))]) rfl rfl rfl rfl (by decide) (c218_X4_isNumber l dC dI cI cJ cII cJJ H.size 0 a1 a2 a7 a14 a5 a6 a15 a16 a17 x0 h_x0) ⟨by decide +kernel, by decide +kernel⟩ rfl rfl (Or.inl rfl) (rest := []) rfl rfl rfl hl.1 rfl (Nat.le_of_ble_eq_true rfl) dX8_less_5 ⟨Nat.le_of_ble_eq_true rfl, Nat.le_of_ble_eq_true rfl⟩ (W' := [(a8, .inl (cI, 8, .inl (tb []))), (a0, .inr (8, [.ref a2, .ref a9, .ref a1, .ref a10, .ref a11, .ref a12, .ref a13, .ref a8])), (a2, .inr (3, [.int 1, .int 0, .ref a18, .ref a19, .ref a4, .ref a3, .ref a20, .ref a21])), (a4, .inl (cI, 4, .inl (tb [0, 0, 0, 0]))), (a5, .inl (cI, 4, .inl (tb [0]))), (a3, .inl (cI, 4, .inl (tb [10, 10, 10, 10]))), (a6, .inl (cI, 4, .inl (tb [10]))), (a7, .inl (cI, 9261, .inl (tb [10]))), (a1, .inr (4, [.ref a2, .ref a7, .ref a14, .ref a5, .ref a6, .ref a15, .ref a16, .ref a17, .int 1, .int 11, .int 1, .int 0]))]) rfl (fun H locs hP hD hS => ?_)
  refine f_if_ne hx hb dX8_less_8 17 (by decide) (by decide +kernel) ?_
  refine lv_aload_n hx hb dX8_less_11 rfl (lv_at hl 0 rfl) ?_
  refine lv_iconst (v := (-1)) hx hb dX8_less_12 (by decide) ?_
  refine kV_i (q0 := 0) ⟨hx, hb, hml, hown, hts⟩ hK hP hD hS hA hX cv_RX8_53 [1, 0] [2, 3, 4, 5, 6, 7, 8] (wr := [(a2, .inr (3, [.int 1, .int 0, .ref a18, .ref a19, .ref a4, .ref a3, .ref a20, .ref a21])), (a4, .inl (cI, 4, .inl (tb [0, 0, 0, 0]))), (a5, .inl (cI, 4, .inl (tb [0]))), (a3, .inl (cI, 4, .inl (tb [10, 10, 10, 10]))), (a6, .inl (cI, 4, .inl (tb [10]))), (a7, .inl (cI, 9261, .inl (tb [10]))), (a1, .inr (4, [.ref a2, .ref a7, .ref a14, .ref a5, .ref a6, .ref a15, .ref a16, .ref a17, .int 1, .int 11, .int 1, .int 0]))]) rfl rfl rfl rfl (by decide) (c027_X8_refuse l dC dI cI cJ cII cJJ H.size 0 a0 a8 a2 a9 a1 a10 a11 a12 a13) ⟨by decide +kernel, by decide +kernel⟩ rfl rfl (Or.inl rfl) (rest := []) rfl rfl rfl hl.1 rfl (Nat.le_of_ble_eq_true rfl) dX8_less_13 ⟨Nat.le_of_ble_eq_true rfl, Nat.le_of_ble_eq_true rfl⟩ (W' := [(a2, .inr (3, [.int 1, .int 0, .ref a18, .ref a19, .ref a4, .ref a3, .ref a20, .ref a21])), (a4, .inl (cI, 4, .inl (tb [0, 0, 0, 0]))), (a5, .inl (cI, 4, .inl (tb [0]))), (a3, .inl (cI, 4, .inl (tb [10, 10, 10, 10]))), (a6, .inl (cI, 4, .inl (tb [10]))), (a7, .inl (cI, 9261, .inl (tb [10]))), (a1, .inr (4, [.ref a2, .ref a7, .ref a14, .ref a5, .ref a6, .ref a15, .ref a16, .ref a17, .int 1, .int 11, .int 1, .int 0])), (a0, .inr (8, [.ref a2, .ref a9, .ref a1, .ref a10, .ref a11, .ref a12, .ref a13, .ref a8])), (a8, .inl (cI, 8, .inl (tb [0, 1])))]) rfl (fun H locs hP hD hS => ?_)
  exact r_i hx hb hr hk hK (hP.sub [] rfl) (hD.sub [] rfl rfl) hS dX8_less_16
set_option maxRecDepth 100000 in
set_option maxHeartbeats 4000000 in
theorem c231_X8_moveHand (l : Launch) (dC : Nat → ClassId) (dI : Nat → Nat → Nat) (cI cJ cII cJJ : ClassId) (sz g a0 a1 a2 a3 a4 a5 a6 a7 a8 : Nat) (x0 : Int64) (h_x0 : -10 ≤ x0.toInt ∧ x0.toInt ≤ 0) : Met l yX8_moveHand (.code yX8_moveHand cX8_moveHand 2 (some .int) :: TT) ({ frames := 2, cells := 0, slots := 0, locals := 80 }) (PcS dC dI (TY cI cJ cII cJJ) [.ref a0] [(a0, .inr (8, [.ref a3, .ref a4, .ref a5, .ref a6, .ref a2, .ref a7, .ref a1, .ref a8])), (a1, .inl (cJ, 4, .inr (.inl (tbl [x0, 0, 0, 0])))), (a2, .inl (cI, 4, .inl (tb [])))] sz 0 g) ((QcI dC dI (TY cI cJ cII cJJ) 1 []) (va_A [(a0, .inr (8, [.ref a3, .ref a4, .ref a5, .ref a6, .ref a2, .ref a7, .ref a1, .ref a8])), (a1, .inl (cJ, 4, .inr (.inl (tbl [x0, 0, 0, 0])))), (a2, .inl (cI, 4, .inl (tb [])))] sz)) 0 0 (va_A [(a0, .inr (8, [.ref a3, .ref a4, .ref a5, .ref a6, .ref a2, .ref a7, .ref a1, .ref a8])), (a1, .inl (cJ, 4, .inr (.inl (tbl [x0, 0, 0, 0])))), (a2, .inl (cI, 4, .inl (tb [])))] sz) := by
  refine SM.of (y := yX8_moveHand) (maxL := 2) (av := [.ref a0]) (QcI dC dI (TY cI cJ cII cJJ) 1 []) (by decide +kernel) (Nat.le_of_ble_eq_true rfl) (fun p e s m below meth c A ls hx hb hr hml hown hts hk hnm hA hK hP hD hS hX hl => ?_)
  have hown : s.vm.findClass RX8 = some m.cls := hown
  have hl : lv_has ls 2 [(0, .ref a0)] := hl
  refine lv_iconst (v := 0) hx hb dX8_moveHand_0 (by decide) ?_
  refine lv_istore_n (lv' := [(1, .int 0), (0, .ref a0)]) hx hb dX8_moveHand_1 rfl hl (by decide) rfl (fun ls hl => ?_)
  refine lv_iload_n hx hb dX8_moveHand_2 rfl (lv_at hl 0 rfl) ?_
  refine lv_iconst (v := 4) hx hb dX8_moveHand_3 (by decide) ?_
  refine f_icmp_ge hx hb dX8_moveHand_4 33 (by decide) (by decide +kernel) ?_
  refine lv_aload_n hx hb dX8_moveHand_7 rfl (lv_at hl 1 rfl) ?_
  refine gf (k := 6) hx hb hts inX8 hown hK hP k_270 rfl (by decide) rfl 0 rfl (.ref a1) rfl dX8_moveHand_8 ?_
  refine lv_iload_n hx hb dX8_moveHand_11 rfl (lv_at hl 0 rfl) ?_
  refine ld_l hx hb hK hP 1 rfl (vin (by decide +kernel)) dX8_moveHand_12 x0 rfl ?_
  refine lv_ldc2 (v := (-10000)) hx hb hown (hts _ k_611) dX8_moveHand_13 ?_
  refine v_lcmp hx hb dX8_moveHand_16 1 (p_cgt (by rw [show ((-10000) : Int64).toInt = (-10000) from by decide +kernel]; omega)) ?_
  refine t_if_ge hx hb dX8_moveHand_17 27 (by decide) (by decide +kernel) ?_
  refine lv_iinc (v := 1) (lv' := [(1, .int 1), (0, .ref a0)]) hx hb dX8_moveHand_27 hl (k := 0) rfl (by decide +kernel) (by decide) rfl (fun ls hl => ?_)
  refine lv_goto (tgt := 2) hx hb dX8_moveHand_30 (by decide) ?_
  refine lv_iload_n hx hb dX8_moveHand_2 rfl (lv_at hl 0 rfl) ?_
  refine lv_iconst (v := 4) hx hb dX8_moveHand_3 (by decide) ?_
  refine f_icmp_ge hx hb dX8_moveHand_4 33 (by decide) (by decide +kernel) ?_
  refine lv_aload_n hx hb dX8_moveHand_7 rfl (lv_at hl 1 rfl) ?_
  refine gf (k := 6) hx hb hts inX8 hown hK hP k_270 rfl (by decide) rfl 0 rfl (.ref a1) rfl dX8_moveHand_8 ?_
  refine lv_iload_n hx hb dX8_moveHand_11 rfl (lv_at hl 0 rfl) ?_
  refine ld_l hx hb hK hP 1 rfl (vin (by decide +kernel)) dX8_moveHand_12 0 rfl ?_
  refine lv_ldc2 (v := (-10000)) hx hb hown (hts _ k_611) dX8_moveHand_13 ?_
  refine v_lcmp hx hb dX8_moveHand_16 1 (by decide +kernel) ?_
  refine t_if_ge hx hb dX8_moveHand_17 27 (by decide) (by decide +kernel) ?_
  refine lv_iinc (v := 2) (lv' := [(1, .int 2), (0, .ref a0)]) hx hb dX8_moveHand_27 hl (k := 0) rfl (by decide +kernel) (by decide) rfl (fun ls hl => ?_)
  refine lv_goto (tgt := 2) hx hb dX8_moveHand_30 (by decide) ?_
  refine lv_iload_n hx hb dX8_moveHand_2 rfl (lv_at hl 0 rfl) ?_
  refine lv_iconst (v := 4) hx hb dX8_moveHand_3 (by decide) ?_
  refine f_icmp_ge hx hb dX8_moveHand_4 33 (by decide) (by decide +kernel) ?_
  refine lv_aload_n hx hb dX8_moveHand_7 rfl (lv_at hl 1 rfl) ?_
  refine gf (k := 6) hx hb hts inX8 hown hK hP k_270 rfl (by decide) rfl 0 rfl (.ref a1) rfl dX8_moveHand_8 ?_
  refine lv_iload_n hx hb dX8_moveHand_11 rfl (lv_at hl 0 rfl) ?_
  refine ld_l hx hb hK hP 1 rfl (vin (by decide +kernel)) dX8_moveHand_12 0 rfl ?_
  refine lv_ldc2 (v := (-10000)) hx hb hown (hts _ k_611) dX8_moveHand_13 ?_
  refine v_lcmp hx hb dX8_moveHand_16 1 (by decide +kernel) ?_
  refine t_if_ge hx hb dX8_moveHand_17 27 (by decide) (by decide +kernel) ?_
  refine lv_iinc (v := 3) (lv' := [(1, .int 3), (0, .ref a0)]) hx hb dX8_moveHand_27 hl (k := 0) rfl (by decide +kernel) (by decide) rfl (fun ls hl => ?_)
  refine lv_goto (tgt := 2) hx hb dX8_moveHand_30 (by decide) ?_
  refine lv_iload_n hx hb dX8_moveHand_2 rfl (lv_at hl 0 rfl) ?_
  refine lv_iconst (v := 4) hx hb dX8_moveHand_3 (by decide) ?_
  refine f_icmp_ge hx hb dX8_moveHand_4 33 (by decide) (by decide +kernel) ?_
  refine lv_aload_n hx hb dX8_moveHand_7 rfl (lv_at hl 1 rfl) ?_
  refine gf (k := 6) hx hb hts inX8 hown hK hP k_270 rfl (by decide) rfl 0 rfl (.ref a1) rfl dX8_moveHand_8 ?_
  refine lv_iload_n hx hb dX8_moveHand_11 rfl (lv_at hl 0 rfl) ?_
  refine ld_l hx hb hK hP 1 rfl (vin (by decide +kernel)) dX8_moveHand_12 0 rfl ?_
  refine lv_ldc2 (v := (-10000)) hx hb hown (hts _ k_611) dX8_moveHand_13 ?_
  refine v_lcmp hx hb dX8_moveHand_16 1 (by decide +kernel) ?_
  refine t_if_ge hx hb dX8_moveHand_17 27 (by decide) (by decide +kernel) ?_
  refine lv_iinc (v := 4) (lv' := [(1, .int 4), (0, .ref a0)]) hx hb dX8_moveHand_27 hl (k := 0) rfl (by decide +kernel) (by decide) rfl (fun ls hl => ?_)
  refine lv_goto (tgt := 2) hx hb dX8_moveHand_30 (by decide) ?_
  refine lv_iload_n hx hb dX8_moveHand_2 rfl (lv_at hl 0 rfl) ?_
  refine lv_iconst (v := 4) hx hb dX8_moveHand_3 (by decide) ?_
  refine t_icmp_ge hx hb dX8_moveHand_4 33 (by decide) (by decide +kernel) ?_
  refine lv_iconst (v := 0) hx hb dX8_moveHand_33 (by decide) ?_
  refine lv_istore_n (lv' := [(1, .int 0), (0, .ref a0)]) hx hb dX8_moveHand_34 rfl hl (by decide) rfl (fun ls hl => ?_)
  refine lv_iload_n hx hb dX8_moveHand_35 rfl (lv_at hl 0 rfl) ?_
  refine lv_iconst (v := 4) hx hb dX8_moveHand_36 (by decide) ?_
  refine f_icmp_ge hx hb dX8_moveHand_37 66 (by decide) (by decide +kernel) ?_
  refine lv_aload_n hx hb dX8_moveHand_40 rfl (lv_at hl 1 rfl) ?_
  refine gf (k := 6) hx hb hts inX8 hown hK hP k_270 rfl (by decide) rfl 0 rfl (.ref a1) rfl dX8_moveHand_41 ?_
  refine lv_iload_n hx hb dX8_moveHand_44 rfl (lv_at hl 0 rfl) ?_
  refine ld_l hx hb hK hP 1 rfl (vin (by decide +kernel)) dX8_moveHand_45 x0 rfl ?_
  refine lv_ldc2 (v := 10000) hx hb hown (hts _ k_612) dX8_moveHand_46 ?_
  refine v_lcmp hx hb dX8_moveHand_49 (-1) (p_clt (by rw [show (10000 : Int64).toInt = 10000 from by decide +kernel]; omega)) ?_
  refine t_if_le hx hb dX8_moveHand_50 60 (by decide) (by decide +kernel) ?_
  refine lv_iinc (v := 1) (lv' := [(1, .int 1), (0, .ref a0)]) hx hb dX8_moveHand_60 hl (k := 0) rfl (by decide +kernel) (by decide) rfl (fun ls hl => ?_)
  refine lv_goto (tgt := 35) hx hb dX8_moveHand_63 (by decide) ?_
  refine lv_iload_n hx hb dX8_moveHand_35 rfl (lv_at hl 0 rfl) ?_
  refine lv_iconst (v := 4) hx hb dX8_moveHand_36 (by decide) ?_
  refine f_icmp_ge hx hb dX8_moveHand_37 66 (by decide) (by decide +kernel) ?_
  refine lv_aload_n hx hb dX8_moveHand_40 rfl (lv_at hl 1 rfl) ?_
  refine gf (k := 6) hx hb hts inX8 hown hK hP k_270 rfl (by decide) rfl 0 rfl (.ref a1) rfl dX8_moveHand_41 ?_
  refine lv_iload_n hx hb dX8_moveHand_44 rfl (lv_at hl 0 rfl) ?_
  refine ld_l hx hb hK hP 1 rfl (vin (by decide +kernel)) dX8_moveHand_45 0 rfl ?_
  refine lv_ldc2 (v := 10000) hx hb hown (hts _ k_612) dX8_moveHand_46 ?_
  refine v_lcmp hx hb dX8_moveHand_49 (-1) (by decide +kernel) ?_
  refine t_if_le hx hb dX8_moveHand_50 60 (by decide) (by decide +kernel) ?_
  refine lv_iinc (v := 2) (lv' := [(1, .int 2), (0, .ref a0)]) hx hb dX8_moveHand_60 hl (k := 0) rfl (by decide +kernel) (by decide) rfl (fun ls hl => ?_)
  refine lv_goto (tgt := 35) hx hb dX8_moveHand_63 (by decide) ?_
  refine lv_iload_n hx hb dX8_moveHand_35 rfl (lv_at hl 0 rfl) ?_
  refine lv_iconst (v := 4) hx hb dX8_moveHand_36 (by decide) ?_
  refine f_icmp_ge hx hb dX8_moveHand_37 66 (by decide) (by decide +kernel) ?_
  refine lv_aload_n hx hb dX8_moveHand_40 rfl (lv_at hl 1 rfl) ?_
  refine gf (k := 6) hx hb hts inX8 hown hK hP k_270 rfl (by decide) rfl 0 rfl (.ref a1) rfl dX8_moveHand_41 ?_
  refine lv_iload_n hx hb dX8_moveHand_44 rfl (lv_at hl 0 rfl) ?_
  refine ld_l hx hb hK hP 1 rfl (vin (by decide +kernel)) dX8_moveHand_45 0 rfl ?_
  refine lv_ldc2 (v := 10000) hx hb hown (hts _ k_612) dX8_moveHand_46 ?_
  refine v_lcmp hx hb dX8_moveHand_49 (-1) (by decide +kernel) ?_
  refine t_if_le hx hb dX8_moveHand_50 60 (by decide) (by decide +kernel) ?_
  refine lv_iinc (v := 3) (lv' := [(1, .int 3), (0, .ref a0)]) hx hb dX8_moveHand_60 hl (k := 0) rfl (by decide +kernel) (by decide) rfl (fun ls hl => ?_)
  refine lv_goto (tgt := 35) hx hb dX8_moveHand_63 (by decide) ?_
  refine lv_iload_n hx hb dX8_moveHand_35 rfl (lv_at hl 0 rfl) ?_
  refine lv_iconst (v := 4) hx hb dX8_moveHand_36 (by decide) ?_
  refine f_icmp_ge hx hb dX8_moveHand_37 66 (by decide) (by decide +kernel) ?_
  refine lv_aload_n hx hb dX8_moveHand_40 rfl (lv_at hl 1 rfl) ?_
  refine gf (k := 6) hx hb hts inX8 hown hK hP k_270 rfl (by decide) rfl 0 rfl (.ref a1) rfl dX8_moveHand_41 ?_
  refine lv_iload_n hx hb dX8_moveHand_44 rfl (lv_at hl 0 rfl) ?_
  refine ld_l hx hb hK hP 1 rfl (vin (by decide +kernel)) dX8_moveHand_45 0 rfl ?_
  refine lv_ldc2 (v := 10000) hx hb hown (hts _ k_612) dX8_moveHand_46 ?_
  refine v_lcmp hx hb dX8_moveHand_49 (-1) (by decide +kernel) ?_
  refine t_if_le hx hb dX8_moveHand_50 60 (by decide) (by decide +kernel) ?_
  refine lv_iinc (v := 4) (lv' := [(1, .int 4), (0, .ref a0)]) hx hb dX8_moveHand_60 hl (k := 0) rfl (by decide +kernel) (by decide) rfl (fun ls hl => ?_)
  refine lv_goto (tgt := 35) hx hb dX8_moveHand_63 (by decide) ?_
  refine lv_iload_n hx hb dX8_moveHand_35 rfl (lv_at hl 0 rfl) ?_
  refine lv_iconst (v := 4) hx hb dX8_moveHand_36 (by decide) ?_
  refine t_icmp_ge hx hb dX8_moveHand_37 66 (by decide) (by decide +kernel) ?_
  refine lv_iconst (v := 0) hx hb dX8_moveHand_66 (by decide) ?_
  refine lv_istore_n (lv' := [(1, .int 0), (0, .ref a0)]) hx hb dX8_moveHand_67 rfl hl (by decide) rfl (fun ls hl => ?_)
  refine lv_iload_n hx hb dX8_moveHand_68 rfl (lv_at hl 0 rfl) ?_
  refine lv_iconst (v := 4) hx hb dX8_moveHand_69 (by decide) ?_
  refine f_icmp_ge hx hb dX8_moveHand_70 92 (by decide) (by decide +kernel) ?_
  refine lv_aload_n hx hb dX8_moveHand_73 rfl (lv_at hl 1 rfl) ?_
  refine gf (k := 4) hx hb hts inX8 hown hK hP k_268 rfl (by decide) rfl 0 rfl (.ref a2) rfl dX8_moveHand_74 ?_
  refine lv_iload_n hx hb dX8_moveHand_77 rfl (lv_at hl 0 rfl) ?_
  refine lv_aload_n hx hb dX8_moveHand_78 rfl (lv_at hl 1 rfl) ?_
  refine gf (k := 6) hx hb hts inX8 hown hK hP k_270 rfl (by decide) rfl 0 rfl (.ref a1) rfl dX8_moveHand_79 ?_
  refine lv_iload_n hx hb dX8_moveHand_82 rfl (lv_at hl 0 rfl) ?_
  refine ld_l hx hb hK hP 1 rfl (vin (by decide +kernel)) dX8_moveHand_83 x0 rfl ?_
  obtain ⟨z82, e_z82⟩ : ∃ w : Int32, w = x0.toInt32 := ⟨_, rfl⟩
  have h_z82 := s_any z82
  refine lv_l2i (v := z82) hx hb dX8_moveHand_84 e_z82.symm ?_
  refine st_i hx hb hK hP hD hS 2 rfl (vin (by decide +kernel)) dX8_moveHand_85 (L' := [z82]) rfl (W' := [(a0, .inr (8, [.ref a3, .ref a4, .ref a5, .ref a6, .ref a2, .ref a7, .ref a1, .ref a8])), (a1, .inl (cJ, 4, .inr (.inl (tbl [x0, 0, 0, 0])))), (a2, .inl (cI, 4, .inl (tb [z82])))]) rfl (fun H locs hP hD hS => ?_)
  refine lv_iinc (v := 1) (lv' := [(1, .int 1), (0, .ref a0)]) hx hb dX8_moveHand_86 hl (k := 0) rfl (by decide +kernel) (by decide) rfl (fun ls hl => ?_)
  refine lv_goto (tgt := 68) hx hb dX8_moveHand_89 (by decide) ?_
  refine lv_iload_n hx hb dX8_moveHand_68 rfl (lv_at hl 0 rfl) ?_
  refine lv_iconst (v := 4) hx hb dX8_moveHand_69 (by decide) ?_
  refine f_icmp_ge hx hb dX8_moveHand_70 92 (by decide) (by decide +kernel) ?_
  refine lv_aload_n hx hb dX8_moveHand_73 rfl (lv_at hl 1 rfl) ?_
  refine gf (k := 4) hx hb hts inX8 hown hK hP k_268 rfl (by decide) rfl 0 rfl (.ref a2) rfl dX8_moveHand_74 ?_
  refine lv_iload_n hx hb dX8_moveHand_77 rfl (lv_at hl 0 rfl) ?_
  refine lv_aload_n hx hb dX8_moveHand_78 rfl (lv_at hl 1 rfl) ?_
  refine gf (k := 6) hx hb hts inX8 hown hK hP k_270 rfl (by decide) rfl 0 rfl (.ref a1) rfl dX8_moveHand_79 ?_
  refine lv_iload_n hx hb dX8_moveHand_82 rfl (lv_at hl 0 rfl) ?_
  refine ld_l hx hb hK hP 1 rfl (vin (by decide +kernel)) dX8_moveHand_83 0 rfl ?_
  refine lv_l2i (v := 0) hx hb dX8_moveHand_84 (by decide +kernel) ?_
  refine st_i hx hb hK hP hD hS 2 rfl (vin (by decide +kernel)) dX8_moveHand_85 (L' := [z82, 0]) rfl (W' := [(a0, .inr (8, [.ref a3, .ref a4, .ref a5, .ref a6, .ref a2, .ref a7, .ref a1, .ref a8])), (a1, .inl (cJ, 4, .inr (.inl (tbl [x0, 0, 0, 0])))), (a2, .inl (cI, 4, .inl (tb [z82, 0])))]) rfl (fun H locs hP hD hS => ?_)
  refine lv_iinc (v := 2) (lv' := [(1, .int 2), (0, .ref a0)]) hx hb dX8_moveHand_86 hl (k := 0) rfl (by decide +kernel) (by decide) rfl (fun ls hl => ?_)
  refine lv_goto (tgt := 68) hx hb dX8_moveHand_89 (by decide) ?_
  refine lv_iload_n hx hb dX8_moveHand_68 rfl (lv_at hl 0 rfl) ?_
  refine lv_iconst (v := 4) hx hb dX8_moveHand_69 (by decide) ?_
  refine f_icmp_ge hx hb dX8_moveHand_70 92 (by decide) (by decide +kernel) ?_
  refine lv_aload_n hx hb dX8_moveHand_73 rfl (lv_at hl 1 rfl) ?_
  refine gf (k := 4) hx hb hts inX8 hown hK hP k_268 rfl (by decide) rfl 0 rfl (.ref a2) rfl dX8_moveHand_74 ?_
  refine lv_iload_n hx hb dX8_moveHand_77 rfl (lv_at hl 0 rfl) ?_
  refine lv_aload_n hx hb dX8_moveHand_78 rfl (lv_at hl 1 rfl) ?_
  refine gf (k := 6) hx hb hts inX8 hown hK hP k_270 rfl (by decide) rfl 0 rfl (.ref a1) rfl dX8_moveHand_79 ?_
  refine lv_iload_n hx hb dX8_moveHand_82 rfl (lv_at hl 0 rfl) ?_
  refine ld_l hx hb hK hP 1 rfl (vin (by decide +kernel)) dX8_moveHand_83 0 rfl ?_
  refine lv_l2i (v := 0) hx hb dX8_moveHand_84 (by decide +kernel) ?_
  refine st_i hx hb hK hP hD hS 2 rfl (vin (by decide +kernel)) dX8_moveHand_85 (L' := [z82, 0, 0]) rfl (W' := [(a0, .inr (8, [.ref a3, .ref a4, .ref a5, .ref a6, .ref a2, .ref a7, .ref a1, .ref a8])), (a1, .inl (cJ, 4, .inr (.inl (tbl [x0, 0, 0, 0])))), (a2, .inl (cI, 4, .inl (tb [z82, 0, 0])))]) rfl (fun H locs hP hD hS => ?_)
  refine lv_iinc (v := 3) (lv' := [(1, .int 3), (0, .ref a0)]) hx hb dX8_moveHand_86 hl (k := 0) rfl (by decide +kernel) (by decide) rfl (fun ls hl => ?_)
  refine lv_goto (tgt := 68) hx hb dX8_moveHand_89 (by decide) ?_
  refine lv_iload_n hx hb dX8_moveHand_68 rfl (lv_at hl 0 rfl) ?_
  refine lv_iconst (v := 4) hx hb dX8_moveHand_69 (by decide) ?_
  refine f_icmp_ge hx hb dX8_moveHand_70 92 (by decide) (by decide +kernel) ?_
  refine lv_aload_n hx hb dX8_moveHand_73 rfl (lv_at hl 1 rfl) ?_
  refine gf (k := 4) hx hb hts inX8 hown hK hP k_268 rfl (by decide) rfl 0 rfl (.ref a2) rfl dX8_moveHand_74 ?_
  refine lv_iload_n hx hb dX8_moveHand_77 rfl (lv_at hl 0 rfl) ?_
  refine lv_aload_n hx hb dX8_moveHand_78 rfl (lv_at hl 1 rfl) ?_
  refine gf (k := 6) hx hb hts inX8 hown hK hP k_270 rfl (by decide) rfl 0 rfl (.ref a1) rfl dX8_moveHand_79 ?_
  refine lv_iload_n hx hb dX8_moveHand_82 rfl (lv_at hl 0 rfl) ?_
  refine ld_l hx hb hK hP 1 rfl (vin (by decide +kernel)) dX8_moveHand_83 0 rfl ?_
  refine lv_l2i (v := 0) hx hb dX8_moveHand_84 (by decide +kernel) ?_
  refine st_i hx hb hK hP hD hS 2 rfl (vin (by decide +kernel)) dX8_moveHand_85 (L' := [z82, 0, 0, 0]) rfl (W' := [(a0, .inr (8, [.ref a3, .ref a4, .ref a5, .ref a6, .ref a2, .ref a7, .ref a1, .ref a8])), (a1, .inl (cJ, 4, .inr (.inl (tbl [x0, 0, 0, 0])))), (a2, .inl (cI, 4, .inl (tb [z82, 0, 0, 0])))]) rfl (fun H locs hP hD hS => ?_)
  refine lv_iinc (v := 4) (lv' := [(1, .int 4), (0, .ref a0)]) hx hb dX8_moveHand_86 hl (k := 0) rfl (by decide +kernel) (by decide) rfl (fun ls hl => ?_)
  refine lv_goto (tgt := 68) hx hb dX8_moveHand_89 (by decide) ?_
  refine lv_iload_n hx hb dX8_moveHand_68 rfl (lv_at hl 0 rfl) ?_
  refine lv_iconst (v := 4) hx hb dX8_moveHand_69 (by decide) ?_
  refine t_icmp_ge hx hb dX8_moveHand_70 92 (by decide) (by decide +kernel) ?_
  refine lv_iconst (v := 1) hx hb dX8_moveHand_92 (by decide) ?_
  exact r_i hx hb hr hk hK (hP.sub [] rfl) (hD.sub [] rfl rfl) hS dX8_moveHand_93
