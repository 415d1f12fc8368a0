set_option maxRecDepth 100000 in
set_option maxHeartbeats 4000000 in
theorem c282_X8_count (l : Launch) (dC : Nat → ClassId) (dI : Nat → Nat → Nat) (cI cJ cII cJJ : ClassId) (sz g a0 a1 a2 a3 a4 a5 a6 a7 a8 a9 a10 a11 a12 a13 a14 : Nat) : Met l yX8_count (.code yX8_count cX8_count 2 (some .int) :: TT) ({ frames := 2, cells := 0, slots := 0, locals := 80 }) (PcS dC dI (TY cI cJ cII cJJ) [.ref a0, .int 0] [(a0, .inr (8, [.ref a1, .ref a2, .ref a3, .ref a4, .ref a5, .ref a6, .ref a7, .ref a8])), (a1, .inr (3, [.int 1, .int 0, .ref a9, .ref a10, .ref a11, .ref a12, .ref a13, .ref a14]))] sz 0 g) ((QcI dC dI (TY cI cJ cII cJJ) 1 []) (va_A [(a0, .inr (8, [.ref a1, .ref a2, .ref a3, .ref a4, .ref a5, .ref a6, .ref a7, .ref a8])), (a1, .inr (3, [.int 1, .int 0, .ref a9, .ref a10, .ref a11, .ref a12, .ref a13, .ref a14]))] sz)) 0 0 (va_A [(a0, .inr (8, [.ref a1, .ref a2, .ref a3, .ref a4, .ref a5, .ref a6, .ref a7, .ref a8])), (a1, .inr (3, [.int 1, .int 0, .ref a9, .ref a10, .ref a11, .ref a12, .ref a13, .ref a14]))] sz) := by
  refine SM.of (y := yX8_count) (maxL := 2) (av := [.ref a0, .int 0]) (QcI dC dI (TY cI cJ cII cJJ) 1 []) (by decide +kernel) (Nat.le_of_ble_eq_true rfl) (fun p e s m below meth c A ls hx hb hr hml hown hts hk hnm hA hK hP hD hS hX hl => ?_)
  have hown : s.vm.findClass RX8 = some m.cls := hown
  have hl : lv_has ls 2 [(0, .ref a0), (1, .int 0)] := hl
  refine lv_iload_n hx hb dX8_count_0 rfl (lv_at hl 1 rfl) ?_
  refine lv_iconst (v := 2) hx hb dX8_count_1 (by decide) ?_
  refine t_icmp_lt hx hb dX8_count_2 21 (by decide) (by decide +kernel) ?_
  refine lv_iload_n hx hb dX8_count_21 rfl (lv_at hl 1 rfl) ?_
  refine lv_bipush (v := 10) hx hb dX8_count_22 (by decide) ?_
  refine t_icmp_le hx hb dX8_count_24 43 (by decide) (by decide +kernel) ?_
  refine lv_iload_n hx hb dX8_count_43 rfl (lv_at hl 1 rfl) ?_
  refine lv_tableIn (off := 44) (tgt := 88) hx hb dX8_count_44 (by decide +kernel) (by decide +kernel) (by decide +kernel) (by decide) ?_
  refine lv_aload_n hx hb dX8_count_88 rfl (lv_at hl 0 rfl) ?_
  refine gf (k := 0) hx hb hts inX8 hown hK hP k_264 rfl (by decide) rfl 0 rfl (.ref a1) rfl dX8_count_89 ?_
  refine gf (k := 0) hx hb hts inX3 hown hK hP k_42 rfl (by decide) rfl 1 rfl (.int 1) rfl dX8_count_92 ?_
  exact r_i hx hb hr hk hK (hP.sub [] rfl) (hD.sub [] rfl rfl) hS dX8_count_95
set_option maxRecDepth 100000 in
set_option maxHeartbeats 4000000 in
theorem c283_X8_count (l : Launch) (dC : Nat → ClassId) (dI : Nat → Nat → Nat) (cI cJ cII cJJ : ClassId) (sz g a0 a1 a2 a3 a4 a5 a6 a7 a8 a9 a10 a11 a12 a13 a14 : Nat) : Met l yX8_count (.code yX8_count cX8_count 2 (some .int) :: TT) ({ frames := 2, cells := 0, slots := 0, locals := 80 }) (PcS dC dI (TY cI cJ cII cJJ) [.ref a0, .int 1] [(a0, .inr (8, [.ref a1, .ref a2, .ref a3, .ref a4, .ref a5, .ref a6, .ref a7, .ref a8])), (a1, .inr (3, [.int 1, .int 0, .ref a9, .ref a10, .ref a11, .ref a12, .ref a13, .ref a14]))] sz 0 g) ((QcI dC dI (TY cI cJ cII cJJ) 0 []) (va_A [(a0, .inr (8, [.ref a1, .ref a2, .ref a3, .ref a4, .ref a5, .ref a6, .ref a7, .ref a8])), (a1, .inr (3, [.int 1, .int 0, .ref a9, .ref a10, .ref a11, .ref a12, .ref a13, .ref a14]))] sz)) 0 0 (va_A [(a0, .inr (8, [.ref a1, .ref a2, .ref a3, .ref a4, .ref a5, .ref a6, .ref a7, .ref a8])), (a1, .inr (3, [.int 1, .int 0, .ref a9, .ref a10, .ref a11, .ref a12, .ref a13, .ref a14]))] sz) := by
  refine SM.of (y := yX8_count) (maxL := 2) (av := [.ref a0, .int 1]) (QcI dC dI (TY cI cJ cII cJJ) 0 []) (by decide +kernel) (Nat.le_of_ble_eq_true rfl) (fun p e s m below meth c A ls hx hb hr hml hown hts hk hnm hA hK hP hD hS hX hl => ?_)
  have hown : s.vm.findClass RX8 = some m.cls := hown
  have hl : lv_has ls 2 [(0, .ref a0), (1, .int 1)] := hl
  refine lv_iload_n hx hb dX8_count_0 rfl (lv_at hl 1 rfl) ?_
  refine lv_iconst (v := 2) hx hb dX8_count_1 (by decide) ?_
  refine t_icmp_lt hx hb dX8_count_2 21 (by decide) (by decide +kernel) ?_
  refine lv_iload_n hx hb dX8_count_21 rfl (lv_at hl 1 rfl) ?_
  refine lv_bipush (v := 10) hx hb dX8_count_22 (by decide) ?_
  refine t_icmp_le hx hb dX8_count_24 43 (by decide) (by decide +kernel) ?_
  refine lv_iload_n hx hb dX8_count_43 rfl (lv_at hl 1 rfl) ?_
  refine lv_tableIn (off := 52) (tgt := 96) hx hb dX8_count_44 (by decide +kernel) (by decide +kernel) (by decide +kernel) (by decide) ?_
  refine lv_aload_n hx hb dX8_count_96 rfl (lv_at hl 0 rfl) ?_
  refine gf (k := 0) hx hb hts inX8 hown hK hP k_264 rfl (by decide) rfl 0 rfl (.ref a1) rfl dX8_count_97 ?_
  refine gf (k := 1) hx hb hts inX3 hown hK hP k_45 rfl (by decide) rfl 1 rfl (.int 0) rfl dX8_count_100 ?_
  exact r_i hx hb hr hk hK (hP.sub [] rfl) (hD.sub [] rfl rfl) hS dX8_count_103
set_option maxRecDepth 100000 in
set_option maxHeartbeats 4000000 in
theorem c285_X2_howManyOf (l : Launch) (dC : Nat → ClassId) (dI : Nat → Nat → Nat) (cI cJ cII cJJ : ClassId) (sz g a0 a1 a2 a3 a4 a5 a6 : Nat) : Met l yX2_howManyOf (.code yX2_howManyOf cX2_howManyOf 4 (some .int) :: TT) ({ frames := 6, cells := 0, slots := 0, locals := 320 }) (PcS dC dI (TY cI cJ cII cJJ) [.ref a0, .int 1] [(a0, .inr (2, [.ref a3, .ref a1, .ref a4, .ref a5, .ref a6, .int 2, .int 0])), (a1, .inr (7, [.ref a2, .int 2])), (a2, .inl (cJ, 256, .inr (.inl (tbl [8791800153088, 8808980022272]))))] sz 0 g) ((QcI dC dI (TY cI cJ cII cJJ) 0 [(a0, .inr (2, [.ref a3, .ref a1, .ref a4, .ref a5, .ref a6, .int 2, .int 0])), (a2, .inl (cJ, 256, .inr (.inl (tbl [8791800153088, 8808980022272])))), (a1, .inr (7, [.ref a2, .int 2]))]) (va_A [(a0, .inr (2, [.ref a3, .ref a1, .ref a4, .ref a5, .ref a6, .int 2, .int 0])), (a1, .inr (7, [.ref a2, .int 2])), (a2, .inl (cJ, 256, .inr (.inl (tbl [8791800153088, 8808980022272]))))] sz)) 0 0 (va_A [(a0, .inr (2, [.ref a3, .ref a1, .ref a4, .ref a5, .ref a6, .int 2, .int 0])), (a1, .inr (7, [.ref a2, .int 2])), (a2, .inl (cJ, 256, .inr (.inl (tbl [8791800153088, 8808980022272]))))] sz) := by
  refine SM.of (y := yX2_howManyOf) (maxL := 4) (av := [.ref a0, .int 1]) (QcI dC dI (TY cI cJ cII cJJ) 0 [(a0, .inr (2, [.ref a3, .ref a1, .ref a4, .ref a5, .ref a6, .int 2, .int 0])), (a2, .inl (cJ, 256, .inr (.inl (tbl [8791800153088, 8808980022272])))), (a1, .inr (7, [.ref a2, .int 2]))]) (by decide +kernel) (Nat.le_of_ble_eq_true rfl) (fun p e s m below meth c A ls hx hb hr hml hown hts hk hnm hA hK hP hD hS hX hl => ?_)
  have hown : s.vm.findClass RX2 = some m.cls := hown
  have hl : lv_has ls 4 [(0, .ref a0), (1, .int 1)] := hl
  refine lv_iconst (v := 0) hx hb dX2_howManyOf_0 (by decide) ?_
  refine lv_istore_n (lv' := [(2, .int 0), (0, .ref a0), (1, .int 1)]) hx hb dX2_howManyOf_1 rfl hl (by decide) rfl (fun ls hl => ?_)
  refine lv_iconst (v := 0) hx hb dX2_howManyOf_2 (by decide) ?_
  refine lv_istore_n (lv' := [(3, .int 0), (2, .int 0), (0, .ref a0), (1, .int 1)]) hx hb dX2_howManyOf_3 rfl hl (by decide) rfl (fun ls hl => ?_)
  refine lv_iload_n hx hb dX2_howManyOf_4 rfl (lv_at hl 0 rfl) ?_
  refine lv_aload_n hx hb dX2_howManyOf_5 rfl (lv_at hl 2 rfl) ?_
  refine gf (k := 1) hx hb hts inX2 hown hK hP k_176 rfl (by decide) rfl 0 rfl (.ref a1) rfl dX2_howManyOf_6 ?_
  refine kV_i (q0 := 0) ⟨hx, hb, hml, hown, hts⟩ hK hP hD hS hA hX cv_RX2_84 [1] [0, 2] (wr := [(a0, .inr (2, [.ref a3, .ref a1, .ref a4, .ref a5, .ref a6, .int 2, .int 0])), (a2, .inl (cJ, 256, .inr (.inl (tbl [8791800153088, 8808980022272]))))]) rfl rfl rfl rfl (by decide) (c109_X7_size l dC dI cI cJ cII cJJ s.heap.size 0 a1 a2) ⟨by decide +kernel, by decide +kernel⟩ rfl rfl (Or.inl rfl) (rest := [.int 0]) rfl rfl rfl hl.1 rfl (Nat.le_of_ble_eq_true rfl) dX2_howManyOf_9 ⟨Nat.le_of_ble_eq_true rfl, Nat.le_of_ble_eq_true rfl⟩ (W' := [(a0, .inr (2, [.ref a3, .ref a1, .ref a4, .ref a5, .ref a6, .int 2, .int 0])), (a2, .inl (cJ, 256, .inr (.inl (tbl [8791800153088, 8808980022272])))), (a1, .inr (7, [.ref a2, .int 2]))]) rfl (fun H locs hP hD hS => ?_)
  refine f_icmp_ge hx hb dX2_howManyOf_12 33 (by decide) (by decide +kernel) ?_
  refine lv_aload_n hx hb dX2_howManyOf_15 rfl (lv_at hl 2 rfl) ?_
  refine lv_iload_n hx hb dX2_howManyOf_16 rfl (lv_at hl 0 rfl) ?_
  refine kV_i (q0 := 0) ⟨hx, hb, hml, hown, hts⟩ hK hP hD hS hA hX cv_RX2_99 [0, 2, 1] [] (wr := []) rfl rfl rfl rfl (by decide) (c147_X2_kindOf l dC dI cI cJ cII cJJ H.size 0 a0 a1 a2 a3 a4 a5 a6) ⟨by decide +kernel, by decide +kernel⟩ rfl rfl (Or.inl rfl) (rest := []) rfl rfl rfl hl.1 rfl (Nat.le_of_ble_eq_true rfl) dX2_howManyOf_17 ⟨Nat.le_of_ble_eq_true rfl, Nat.le_of_ble_eq_true rfl⟩ (W' := [(a0, .inr (2, [.ref a3, .ref a1, .ref a4, .ref a5, .ref a6, .int 2, .int 0])), (a1, .inr (7, [.ref a2, .int 2])), (a2, .inl (cJ, 256, .inr (.inl (tbl [8791800153088, 8808980022272]))))]) rfl (fun H locs hP hD hS => ?_)
  refine lv_iload_n hx hb dX2_howManyOf_20 rfl (lv_at hl 3 rfl) ?_
  refine t_icmp_ne hx hb dX2_howManyOf_21 27 (by decide) (by decide +kernel) ?_
  refine lv_iinc (v := 1) (lv' := [(3, .int 1), (2, .int 0), (0, .ref a0), (1, .int 1)]) hx hb dX2_howManyOf_27 hl (k := 0) rfl (by decide +kernel) (by decide) rfl (fun ls hl => ?_)
  refine lv_goto (tgt := 4) hx hb dX2_howManyOf_30 (by decide) ?_
  refine lv_iload_n hx hb dX2_howManyOf_4 rfl (lv_at hl 0 rfl) ?_
  refine lv_aload_n hx hb dX2_howManyOf_5 rfl (lv_at hl 2 rfl) ?_
  refine gf (k := 1) hx hb hts inX2 hown hK hP k_176 rfl (by decide) rfl 0 rfl (.ref a1) rfl dX2_howManyOf_6 ?_
  refine kV_i (q0 := 0) ⟨hx, hb, hml, hown, hts⟩ hK hP hD hS hA hX cv_RX2_84 [1] [0, 2] (wr := [(a0, .inr (2, [.ref a3, .ref a1, .ref a4, .ref a5, .ref a6, .int 2, .int 0])), (a2, .inl (cJ, 256, .inr (.inl (tbl [8791800153088, 8808980022272]))))]) rfl rfl rfl rfl (by decide) (c109_X7_size l dC dI cI cJ cII cJJ H.size 0 a1 a2) ⟨by decide +kernel, by decide +kernel⟩ rfl rfl (Or.inl rfl) (rest := [.int 1]) rfl rfl rfl hl.1 rfl (Nat.le_of_ble_eq_true rfl) dX2_howManyOf_9 ⟨Nat.le_of_ble_eq_true rfl, Nat.le_of_ble_eq_true rfl⟩ (W' := [(a0, .inr (2, [.ref a3, .ref a1, .ref a4, .ref a5, .ref a6, .int 2, .int 0])), (a2, .inl (cJ, 256, .inr (.inl (tbl [8791800153088, 8808980022272])))), (a1, .inr (7, [.ref a2, .int 2]))]) rfl (fun H locs hP hD hS => ?_)
  refine f_icmp_ge hx hb dX2_howManyOf_12 33 (by decide) (by decide +kernel) ?_
  refine lv_aload_n hx hb dX2_howManyOf_15 rfl (lv_at hl 2 rfl) ?_
  refine lv_iload_n hx hb dX2_howManyOf_16 rfl (lv_at hl 0 rfl) ?_
  refine kV_i (q0 := 0) ⟨hx, hb, hml, hown, hts⟩ hK hP hD hS hA hX cv_RX2_99 [0, 2, 1] [] (wr := []) rfl rfl rfl rfl (by decide) (c153_X2_kindOf l dC dI cI cJ cII cJJ H.size 0 a0 a1 a2 a3 a4 a5 a6) ⟨by decide +kernel, by decide +kernel⟩ rfl rfl (Or.inl rfl) (rest := []) rfl rfl rfl hl.1 rfl (Nat.le_of_ble_eq_true rfl) dX2_howManyOf_17 ⟨Nat.le_of_ble_eq_true rfl, Nat.le_of_ble_eq_true rfl⟩ (W' := [(a0, .inr (2, [.ref a3, .ref a1, .ref a4, .ref a5, .ref a6, .int 2, .int 0])), (a1, .inr (7, [.ref a2, .int 2])), (a2, .inl (cJ, 256, .inr (.inl (tbl [8791800153088, 8808980022272]))))]) rfl (fun H locs hP hD hS => ?_)
  refine lv_iload_n hx hb dX2_howManyOf_20 rfl (lv_at hl 3 rfl) ?_
  refine t_icmp_ne hx hb dX2_howManyOf_21 27 (by decide) (by decide +kernel) ?_
  refine lv_iinc (v := 2) (lv' := [(3, .int 2), (2, .int 0), (0, .ref a0), (1, .int 1)]) hx hb dX2_howManyOf_27 hl (k := 0) rfl (by decide +kernel) (by decide) rfl (fun ls hl => ?_)
  refine lv_goto (tgt := 4) hx hb dX2_howManyOf_30 (by decide) ?_
  refine lv_iload_n hx hb dX2_howManyOf_4 rfl (lv_at hl 0 rfl) ?_
  refine lv_aload_n hx hb dX2_howManyOf_5 rfl (lv_at hl 2 rfl) ?_
  refine gf (k := 1) hx hb hts inX2 hown hK hP k_176 rfl (by decide) rfl 0 rfl (.ref a1) rfl dX2_howManyOf_6 ?_
  refine kV_i (q0 := 0) ⟨hx, hb, hml, hown, hts⟩ hK hP hD hS hA hX cv_RX2_84 [1] [0, 2] (wr := [(a0, .inr (2, [.ref a3, .ref a1, .ref a4, .ref a5, .ref a6, .int 2, .int 0])), (a2, .inl (cJ, 256, .inr (.inl (tbl [8791800153088, 8808980022272]))))]) rfl rfl rfl rfl (by decide) (c109_X7_size l dC dI cI cJ cII cJJ H.size 0 a1 a2) ⟨by decide +kernel, by decide +kernel⟩ rfl rfl (Or.inl rfl) (rest := [.int 2]) rfl rfl rfl hl.1 rfl (Nat.le_of_ble_eq_true rfl) dX2_howManyOf_9 ⟨Nat.le_of_ble_eq_true rfl, Nat.le_of_ble_eq_true rfl⟩ (W' := [(a0, .inr (2, [.ref a3, .ref a1, .ref a4, .ref a5, .ref a6, .int 2, .int 0])), (a2, .inl (cJ, 256, .inr (.inl (tbl [8791800153088, 8808980022272])))), (a1, .inr (7, [.ref a2, .int 2]))]) rfl (fun H locs hP hD hS => ?_)
  refine t_icmp_ge hx hb dX2_howManyOf_12 33 (by decide) (by decide +kernel) ?_
  refine lv_iload_n hx hb dX2_howManyOf_33 rfl (lv_at hl 1 rfl) ?_
  exact r_i hx hb hr hk hK hP hD hS dX2_howManyOf_34
set_option maxRecDepth 100000 in
set_option maxHeartbeats 4000000 in
theorem c284_X8_count (l : Launch) (dC : Nat → ClassId) (dI : Nat → Nat → Nat) (cI cJ cII cJJ : ClassId) (sz g a0 a1 a2 a3 a4 a5 a6 a7 a8 a9 a10 a11 a12 a13 a14 a15 a16 a17 a18 a19 a20 a21 a22 a23 a24 a25 a26 a27 a28 : Nat) : Met l yX8_count (.code yX8_count cX8_count 2 (some .int) :: TT) ({ frames := 8, cells := 0, slots := 0, locals := 440 }) (PcS dC dI (TY cI cJ cII cJJ) [.ref a0, .int 2] [(a0, .inr (8, [.ref a4, .ref a1, .ref a14, .ref a15, .ref a16, .ref a17, .ref a18, .ref a19])), (a1, .inr (2, [.ref a4, .ref a2, .ref a3, .ref a10, .ref a20, .int 0, .int 1])), (a2, .inr (7, [.ref a13, .int 0])), (a3, .inr (1, [.ref a5, .ref a21, .ref a22, .int 0])), (a4, .inr (3, [.int 1, .int 0, .ref a23, .ref a24, .ref a25, .ref a26, .ref a27, .ref a28])), (a5, .inl (cJJ, 4, .inr (.inr (.inr (.inr (tr [a6, a7, a8, a9])))))), (a6, .inl (cJ, 4, .inr (.inl (tbl [])))), (a7, .inl (cJ, 4, .inr (.inl (tbl [])))), (a8, .inl (cJ, 4, .inr (.inl (tbl [])))), (a9, .inl (cJ, 4, .inr (.inl (tbl [])))), (a10, .inr (5, [.ref a12, .ref a11, .int 0, .int 0])), (a11, .inl (cI, 512, .inl (tb []))), (a12, .inl (cI, 512, .inl (tb []))), (a13, .inl (cJ, 256, .inr (.inl (tbl []))))] sz 1 g) ((QcI dC dI (TY cI cJ cII cJJ) 0 []) (va_A [(a0, .inr (8, [.ref a4, .ref a1, .ref a14, .ref a15, .ref a16, .ref a17, .ref a18, .ref a19])), (a1, .inr (2, [.ref a4, .ref a2, .ref a3, .ref a10, .ref a20, .int 0, .int 1])), (a2, .inr (7, [.ref a13, .int 0])), (a3, .inr (1, [.ref a5, .ref a21, .ref a22, .int 0])), (a4, .inr (3, [.int 1, .int 0, .ref a23, .ref a24, .ref a25, .ref a26, .ref a27, .ref a28])), (a5, .inl (cJJ, 4, .inr (.inr (.inr (.inr (tr [a6, a7, a8, a9])))))), (a6, .inl (cJ, 4, .inr (.inl (tbl [])))), (a7, .inl (cJ, 4, .inr (.inl (tbl [])))), (a8, .inl (cJ, 4, .inr (.inl (tbl [])))), (a9, .inl (cJ, 4, .inr (.inl (tbl [])))), (a10, .inr (5, [.ref a12, .ref a11, .int 0, .int 0])), (a11, .inl (cI, 512, .inl (tb []))), (a12, .inl (cI, 512, .inl (tb []))), (a13, .inl (cJ, 256, .inr (.inl (tbl []))))] sz)) 0 0 (va_A [(a0, .inr (8, [.ref a4, .ref a1, .ref a14, .ref a15, .ref a16, .ref a17, .ref a18, .ref a19])), (a1, .inr (2, [.ref a4, .ref a2, .ref a3, .ref a10, .ref a20, .int 0, .int 1])), (a2, .inr (7, [.ref a13, .int 0])), (a3, .inr (1, [.ref a5, .ref a21, .ref a22, .int 0])), (a4, .inr (3, [.int 1, .int 0, .ref a23, .ref a24, .ref a25, .ref a26, .ref a27, .ref a28])), (a5, .inl (cJJ, 4, .inr (.inr (.inr (.inr (tr [a6, a7, a8, a9])))))), (a6, .inl (cJ, 4, .inr (.inl (tbl [])))), (a7, .inl (cJ, 4, .inr (.inl (tbl [])))), (a8, .inl (cJ, 4, .inr (.inl (tbl [])))), (a9, .inl (cJ, 4, .inr (.inl (tbl [])))), (a10, .inr (5, [.ref a12, .ref a11, .int 0, .int 0])), (a11, .inl (cI, 512, .inl (tb []))), (a12, .inl (cI, 512, .inl (tb []))), (a13, .inl (cJ, 256, .inr (.inl (tbl []))))] sz) := by
  refine SM.of (y := yX8_count) (maxL := 2) (av := [.ref a0, .int 2]) (QcI dC dI (TY cI cJ cII cJJ) 0 []) (by decide +kernel) (Nat.le_of_ble_eq_true rfl) (fun p e s m below meth c A ls hx hb hr hml hown hts hk hnm hA hK hP hD hS hX hl => ?_)
  have hown : s.vm.findClass RX8 = some m.cls := hown
  have hl : lv_has ls 2 [(0, .ref a0), (1, .int 2)] := hl
  refine lv_iload_n hx hb dX8_count_0 rfl (lv_at hl 1 rfl) ?_
  refine lv_iconst (v := 2) hx hb dX8_count_1 (by decide) ?_
  refine f_icmp_lt hx hb dX8_count_2 21 (by decide) (by decide +kernel) ?_
  refine lv_iload_n hx hb dX8_count_5 rfl (lv_at hl 1 rfl) ?_
  refine lv_iconst (v := 5) hx hb dX8_count_6 (by decide) ?_
  refine f_icmp_ge hx hb dX8_count_7 21 (by decide) (by decide +kernel) ?_
  refine lv_aload_n hx hb dX8_count_10 rfl (lv_at hl 0 rfl) ?_
  refine kV_a (q0 := 0) ⟨hx, hb, hml, hown, hts⟩ hK hP hD hS hA hX cv_RX8_152 [0, 1, 2, 3, 4, 5, 6, 7, 8, 9, 10, 11, 12, 13] [] (wr := []) rfl rfl rfl rfl (by decide) (c096_X8_freshSteps l dC dI cI cJ cII cJJ s.heap.size g a0 a1 a2 a3 a4 a5 a6 a7 a8 a9 a10 a11 a12 a13 a14 a15 a16 a17 a18 a19 a20 a21 a22 a23 a24 a25 a26 a27 a28) ⟨by decide +kernel, by decide +kernel⟩ rfl rfl (Or.inr ⟨rfl, rfl, rfl⟩) (rest := []) rfl rfl rfl hl.1 rfl (Nat.le_of_ble_eq_true rfl) dX8_count_11 ⟨Nat.le_of_ble_eq_true rfl, Nat.le_of_ble_eq_true rfl⟩ (W' := [(a0, .inr (8, [.ref a4, .ref a1, .ref a14, .ref a15, .ref a16, .ref a17, .ref a18, .ref a19])), (a3, .inr (1, [.ref a5, .ref a21, .ref a22, .int 1])), (a4, .inr (3, [.int 1, .int 0, .ref a23, .ref a24, .ref a25, .ref a26, .ref a27, .ref a28])), (a5, .inl (cJJ, 4, .inr (.inr (.inr (.inr (tr [a6, a7, a8, a9])))))), (a7, .inl (cJ, 4, .inr (.inl (tbl [0, 1, 0, 0])))), (a8, .inl (cJ, 4, .inr (.inl (tbl [0, 0, 1, 0])))), (a9, .inl (cJ, 4, .inr (.inl (tbl [0, 0, 0, 1])))), (a6, .inl (cJ, 4, .inr (.inl (tbl [1, 0, 0, 0])))), (a11, .inl (cI, 512, .inl (tb [1, 0, 0, 0]))), (a10, .inr (5, [.ref a12, .ref a11, .int 1, .int 0])), (a12, .inl (cI, 512, .inl (tb [1, 0, 0, 0]))), (a13, .inl (cJ, 256, .inr (.inl (tbl [8791800153088, 8808980022272])))), (a2, .inr (7, [.ref a13, .int 2])), (a1, .inr (2, [.ref a4, .ref a2, .ref a3, .ref a10, .ref a20, .int 2, .int 0]))]) rfl (fun H locs hP hD hS => ?_)
  refine lv_iload_n hx hb dX8_count_14 rfl (lv_at hl 1 rfl) ?_
  refine lv_iconst (v := 1) hx hb dX8_count_15 (by decide) ?_
  refine v_isub hx hb dX8_count_16 1 (by decide +kernel) ?_
  refine kV_i (q0 := 0) ⟨hx, hb, hml, hown, hts⟩ hK hP hD hS hA hX cv_RX8_224 [13, 12, 11] [0, 1, 2, 3, 4, 5, 6, 7, 8, 9, 10] (wr := [(a0, .inr (8, [.ref a4, .ref a1, .ref a14, .ref a15, .ref a16, .ref a17, .ref a18, .ref a19])), (a3, .inr (1, [.ref a5, .ref a21, .ref a22, .int 1])), (a4, .inr (3, [.int 1, .int 0, .ref a23, .ref a24, .ref a25, .ref a26, .ref a27, .ref a28])), (a5, .inl (cJJ, 4, .inr (.inr (.inr (.inr (tr [a6, a7, a8, a9])))))), (a7, .inl (cJ, 4, .inr (.inl (tbl [0, 1, 0, 0])))), (a8, .inl (cJ, 4, .inr (.inl (tbl [0, 0, 1, 0])))), (a9, .inl (cJ, 4, .inr (.inl (tbl [0, 0, 0, 1])))), (a6, .inl (cJ, 4, .inr (.inl (tbl [1, 0, 0, 0])))), (a11, .inl (cI, 512, .inl (tb [1, 0, 0, 0]))), (a10, .inr (5, [.ref a12, .ref a11, .int 1, .int 0])), (a12, .inl (cI, 512, .inl (tb [1, 0, 0, 0])))]) rfl rfl rfl rfl (by decide) (c285_X2_howManyOf l dC dI cI cJ cII cJJ H.size 0 a1 a2 a13 a4 a3 a10 a20) ⟨by decide +kernel, by decide +kernel⟩ rfl rfl (Or.inl rfl) (rest := []) rfl rfl rfl hl.1 rfl (Nat.le_of_ble_eq_true rfl) dX8_count_17 ⟨Nat.le_of_ble_eq_true rfl, Nat.le_of_ble_eq_true rfl⟩ (W' := [(a0, .inr (8, [.ref a4, .ref a1, .ref a14, .ref a15, .ref a16, .ref a17, .ref a18, .ref a19])), (a3, .inr (1, [.ref a5, .ref a21, .ref a22, .int 1])), (a4, .inr (3, [.int 1, .int 0, .ref a23, .ref a24, .ref a25, .ref a26, .ref a27, .ref a28])), (a5, .inl (cJJ, 4, .inr (.inr (.inr (.inr (tr [a6, a7, a8, a9])))))), (a7, .inl (cJ, 4, .inr (.inl (tbl [0, 1, 0, 0])))), (a8, .inl (cJ, 4, .inr (.inl (tbl [0, 0, 1, 0])))), (a9, .inl (cJ, 4, .inr (.inl (tbl [0, 0, 0, 1])))), (a6, .inl (cJ, 4, .inr (.inl (tbl [1, 0, 0, 0])))), (a11, .inl (cI, 512, .inl (tb [1, 0, 0, 0]))), (a10, .inr (5, [.ref a12, .ref a11, .int 1, .int 0])), (a12, .inl (cI, 512, .inl (tb [1, 0, 0, 0]))), (a1, .inr (2, [.ref a4, .ref a2, .ref a3, .ref a10, .ref a20, .int 2, .int 0])), (a13, .inl (cJ, 256, .inr (.inl (tbl [8791800153088, 8808980022272])))), (a2, .inr (7, [.ref a13, .int 2]))]) rfl (fun H locs hP hD hS => ?_)
  exact r_i hx hb hr hk hK (hP.sub [] rfl) (hD.sub [] rfl rfl) hS dX8_count_20
set_option maxRecDepth 100000 in
set_option maxHeartbeats 4000000 in
theorem c287_X2_howManyOf (l : Launch) (dC : Nat → ClassId) (dI : Nat → Nat → Nat) (cI cJ cII cJJ : ClassId) (sz g a0 a1 a2 a3 a4 a5 a6 : Nat) : Met l yX2_howManyOf (.code yX2_howManyOf cX2_howManyOf 4 (some .int) :: TT) ({ frames := 6, cells := 0, slots := 0, locals := 320 }) (PcS dC dI (TY cI cJ cII cJJ) [.ref a0, .int 2] [(a0, .inr (2, [.ref a3, .ref a1, .ref a4, .ref a5, .ref a6, .int 2, .int 0])), (a1, .inr (7, [.ref a2, .int 2])), (a2, .inl (cJ, 256, .inr (.inl (tbl [8791800153088, 8808980022272]))))] sz 0 g) ((QcI dC dI (TY cI cJ cII cJJ) 0 [(a0, .inr (2, [.ref a3, .ref a1, .ref a4, .ref a5, .ref a6, .int 2, .int 0])), (a2, .inl (cJ, 256, .inr (.inl (tbl [8791800153088, 8808980022272])))), (a1, .inr (7, [.ref a2, .int 2]))]) (va_A [(a0, .inr (2, [.ref a3, .ref a1, .ref a4, .ref a5, .ref a6, .int 2, .int 0])), (a1, .inr (7, [.ref a2, .int 2])), (a2, .inl (cJ, 256, .inr (.inl (tbl [8791800153088, 8808980022272]))))] sz)) 0 0 (va_A [(a0, .inr (2, [.ref a3, .ref a1, .ref a4, .ref a5, .ref a6, .int 2, .int 0])), (a1, .inr (7, [.ref a2, .int 2])), (a2, .inl (cJ, 256, .inr (.inl (tbl [8791800153088, 8808980022272]))))] sz) := by
  refine SM.of (y := yX2_howManyOf) (maxL := 4) (av := [.ref a0, .int 2]) (QcI dC dI (TY cI cJ cII cJJ) 0 [(a0, .inr (2, [.ref a3, .ref a1, .ref a4, .ref a5, .ref a6, .int 2, .int 0])), (a2, .inl (cJ, 256, .inr (.inl (tbl [8791800153088, 8808980022272])))), (a1, .inr (7, [.ref a2, .int 2]))]) (by decide +kernel) (Nat.le_of_ble_eq_true rfl) (fun p e s m below meth c A ls hx hb hr hml hown hts hk hnm hA hK hP hD hS hX hl => ?_)
  have hown : s.vm.findClass RX2 = some m.cls := hown
  have hl : lv_has ls 4 [(0, .ref a0), (1, .int 2)] := hl
  refine lv_iconst (v := 0) hx hb dX2_howManyOf_0 (by decide) ?_
  refine lv_istore_n (lv' := [(2, .int 0), (0, .ref a0), (1, .int 2)]) hx hb dX2_howManyOf_1 rfl hl (by decide) rfl (fun ls hl => ?_)
  refine lv_iconst (v := 0) hx hb dX2_howManyOf_2 (by decide) ?_
  refine lv_istore_n (lv' := [(3, .int 0), (2, .int 0), (0, .ref a0), (1, .int 2)]) hx hb dX2_howManyOf_3 rfl hl (by decide) rfl (fun ls hl => ?_)
  refine lv_iload_n hx hb dX2_howManyOf_4 rfl (lv_at hl 0 rfl) ?_
  refine lv_aload_n hx hb dX2_howManyOf_5 rfl (lv_at hl 2 rfl) ?_
  refine gf (k := 1) hx hb hts inX2 hown hK hP k_176 rfl (by decide) rfl 0 rfl (.ref a1) rfl dX2_howManyOf_6 ?_
  refine kV_i (q0 := 0) ⟨hx, hb, hml, hown, hts⟩ hK hP hD hS hA hX cv_RX2_84 [1] [0, 2] (wr := [(a0, .inr (2, [.ref a3, .ref a1, .ref a4, .ref a5, .ref a6, .int 2, .int 0])), (a2, .inl (cJ, 256, .inr (.inl (tbl [8791800153088, 8808980022272]))))]) rfl rfl rfl rfl (by decide) (c109_X7_size l dC dI cI cJ cII cJJ s.heap.size 0 a1 a2) ⟨by decide +kernel, by decide +kernel⟩ rfl rfl (Or.inl rfl) (rest := [.int 0]) rfl rfl rfl hl.1 rfl (Nat.le_of_ble_eq_true rfl) dX2_howManyOf_9 ⟨Nat.le_of_ble_eq_true rfl, Nat.le_of_ble_eq_true rfl⟩ (W' := [(a0, .inr (2, [.ref a3, .ref a1, .ref a4, .ref a5, .ref a6, .int 2, .int 0])), (a2, .inl (cJ, 256, .inr (.inl (tbl [8791800153088, 8808980022272])))), (a1, .inr (7, [.ref a2, .int 2]))]) rfl (fun H locs hP hD hS => ?_)
  refine f_icmp_ge hx hb dX2_howManyOf_12 33 (by decide) (by decide +kernel) ?_
  refine lv_aload_n hx hb dX2_howManyOf_15 rfl (lv_at hl 2 rfl) ?_
  refine lv_iload_n hx hb dX2_howManyOf_16 rfl (lv_at hl 0 rfl) ?_
  refine kV_i (q0 := 0) ⟨hx, hb, hml, hown, hts⟩ hK hP hD hS hA hX cv_RX2_99 [0, 2, 1] [] (wr := []) rfl rfl rfl rfl (by decide) (c147_X2_kindOf l dC dI cI cJ cII cJJ H.size 0 a0 a1 a2 a3 a4 a5 a6) ⟨by decide +kernel, by decide +kernel⟩ rfl rfl (Or.inl rfl) (rest := []) rfl rfl rfl hl.1 rfl (Nat.le_of_ble_eq_true rfl) dX2_howManyOf_17 ⟨Nat.le_of_ble_eq_true rfl, Nat.le_of_ble_eq_true rfl⟩ (W' := [(a0, .inr (2, [.ref a3, .ref a1, .ref a4, .ref a5, .ref a6, .int 2, .int 0])), (a1, .inr (7, [.ref a2, .int 2])), (a2, .inl (cJ, 256, .inr (.inl (tbl [8791800153088, 8808980022272]))))]) rfl (fun H locs hP hD hS => ?_)
  refine lv_iload_n hx hb dX2_howManyOf_20 rfl (lv_at hl 3 rfl) ?_
  refine t_icmp_ne hx hb dX2_howManyOf_21 27 (by decide) (by decide +kernel) ?_
  refine lv_iinc (v := 1) (lv' := [(3, .int 1), (2, .int 0), (0, .ref a0), (1, .int 2)]) hx hb dX2_howManyOf_27 hl (k := 0) rfl (by decide +kernel) (by decide) rfl (fun ls hl => ?_)
  refine lv_goto (tgt := 4) hx hb dX2_howManyOf_30 (by decide) ?_
  refine lv_iload_n hx hb dX2_howManyOf_4 rfl (lv_at hl 0 rfl) ?_
  refine lv_aload_n hx hb dX2_howManyOf_5 rfl (lv_at hl 2 rfl) ?_
  refine gf (k := 1) hx hb hts inX2 hown hK hP k_176 rfl (by decide) rfl 0 rfl (.ref a1) rfl dX2_howManyOf_6 ?_
  refine kV_i (q0 := 0) ⟨hx, hb, hml, hown, hts⟩ hK hP hD hS hA hX cv_RX2_84 [1] [0, 2] (wr := [(a0, .inr (2, [.ref a3, .ref a1, .ref a4, .ref a5, .ref a6, .int 2, .int 0])), (a2, .inl (cJ, 256, .inr (.inl (tbl [8791800153088, 8808980022272]))))]) rfl rfl rfl rfl (by decide) (c109_X7_size l dC dI cI cJ cII cJJ H.size 0 a1 a2) ⟨by decide +kernel, by decide +kernel⟩ rfl rfl (Or.inl rfl) (rest := [.int 1]) rfl rfl rfl hl.1 rfl (Nat.le_of_ble_eq_true rfl) dX2_howManyOf_9 ⟨Nat.le_of_ble_eq_true rfl, Nat.le_of_ble_eq_true rfl⟩ (W' := [(a0, .inr (2, [.ref a3, .ref a1, .ref a4, .ref a5, .ref a6, .int 2, .int 0])), (a2, .inl (cJ, 256, .inr (.inl (tbl [8791800153088, 8808980022272])))), (a1, .inr (7, [.ref a2, .int 2]))]) rfl (fun H locs hP hD hS => ?_)
  refine f_icmp_ge hx hb dX2_howManyOf_12 33 (by decide) (by decide +kernel) ?_
  refine lv_aload_n hx hb dX2_howManyOf_15 rfl (lv_at hl 2 rfl) ?_
  refine lv_iload_n hx hb dX2_howManyOf_16 rfl (lv_at hl 0 rfl) ?_
  refine kV_i (q0 := 0) ⟨hx, hb, hml, hown, hts⟩ hK hP hD hS hA hX cv_RX2_99 [0, 2, 1] [] (wr := []) rfl rfl rfl rfl (by decide) (c153_X2_kindOf l dC dI cI cJ cII cJJ H.size 0 a0 a1 a2 a3 a4 a5 a6) ⟨by decide +kernel, by decide +kernel⟩ rfl rfl (Or.inl rfl) (rest := []) rfl rfl rfl hl.1 rfl (Nat.le_of_ble_eq_true rfl) dX2_howManyOf_17 ⟨Nat.le_of_ble_eq_true rfl, Nat.le_of_ble_eq_true rfl⟩ (W' := [(a0, .inr (2, [.ref a3, .ref a1, .ref a4, .ref a5, .ref a6, .int 2, .int 0])), (a1, .inr (7, [.ref a2, .int 2])), (a2, .inl (cJ, 256, .inr (.inl (tbl [8791800153088, 8808980022272]))))]) rfl (fun H locs hP hD hS => ?_)
  refine lv_iload_n hx hb dX2_howManyOf_20 rfl (lv_at hl 3 rfl) ?_
  refine t_icmp_ne hx hb dX2_howManyOf_21 27 (by decide) (by decide +kernel) ?_
  refine lv_iinc (v := 2) (lv' := [(3, .int 2), (2, .int 0), (0, .ref a0), (1, .int 2)]) hx hb dX2_howManyOf_27 hl (k := 0) rfl (by decide +kernel) (by decide) rfl (fun ls hl => ?_)
  refine lv_goto (tgt := 4) hx hb dX2_howManyOf_30 (by decide) ?_
  refine lv_iload_n hx hb dX2_howManyOf_4 rfl (lv_at hl 0 rfl) ?_
  refine lv_aload_n hx hb dX2_howManyOf_5 rfl (lv_at hl 2 rfl) ?_
  refine gf (k := 1) hx hb hts inX2 hown hK hP k_176 rfl (by decide) rfl 0 rfl (.ref a1) rfl dX2_howManyOf_6 ?_
  refine kV_i (q0 := 0) ⟨hx, hb, hml, hown, hts⟩ hK hP hD hS hA hX cv_RX2_84 [1] [0, 2] (wr := [(a0, .inr (2, [.ref a3, .ref a1, .ref a4, .ref a5, .ref a6, .int 2, .int 0])), (a2, .inl (cJ, 256, .inr (.inl (tbl [8791800153088, 8808980022272]))))]) rfl rfl rfl rfl (by decide) (c109_X7_size l dC dI cI cJ cII cJJ H.size 0 a1 a2) ⟨by decide +kernel, by decide +kernel⟩ rfl rfl (Or.inl rfl) (rest := [.int 2]) rfl rfl rfl hl.1 rfl (Nat.le_of_ble_eq_true rfl) dX2_howManyOf_9 ⟨Nat.le_of_ble_eq_true rfl, Nat.le_of_ble_eq_true rfl⟩ (W' := [(a0, .inr (2, [.ref a3, .ref a1, .ref a4, .ref a5, .ref a6, .int 2, .int 0])), (a2, .inl (cJ, 256, .inr (.inl (tbl [8791800153088, 8808980022272])))), (a1, .inr (7, [.ref a2, .int 2]))]) rfl (fun H locs hP hD hS => ?_)
  refine t_icmp_ge hx hb dX2_howManyOf_12 33 (by decide) (by decide +kernel) ?_
  refine lv_iload_n hx hb dX2_howManyOf_33 rfl (lv_at hl 1 rfl) ?_
  exact r_i hx hb hr hk hK hP hD hS dX2_howManyOf_34
set_option maxRecDepth 100000 in
set_option maxHeartbeats 4000000 in
theorem c286_X8_count (l : Launch) (dC : Nat → ClassId) (dI : Nat → Nat → Nat) (cI cJ cII cJJ : ClassId) (sz g a0 a1 a2 a3 a4 a5 a6 a7 a8 a9 a10 a11 a12 a13 a14 a15 a16 a17 a18 a19 a20 a21 a22 a23 a24 a25 a26 a27 a28 : Nat) : Met l yX8_count (.code yX8_count cX8_count 2 (some .int) :: TT) ({ frames := 8, cells := 0, slots := 0, locals := 440 }) (PcS dC dI (TY cI cJ cII cJJ) [.ref a0, .int 3] [(a0, .inr (8, [.ref a4, .ref a1, .ref a14, .ref a15, .ref a16, .ref a17, .ref a18, .ref a19])), (a1, .inr (2, [.ref a4, .ref a2, .ref a3, .ref a10, .ref a20, .int 0, .int 1])), (a2, .inr (7, [.ref a13, .int 0])), (a3, .inr (1, [.ref a5, .ref a21, .ref a22, .int 0])), (a4, .inr (3, [.int 1, .int 0, .ref a23, .ref a24, .ref a25, .ref a26, .ref a27, .ref a28])), (a5, .inl (cJJ, 4, .inr (.inr (.inr (.inr (tr [a6, a7, a8, a9])))))), (a6, .inl (cJ, 4, .inr (.inl (tbl [])))), (a7, .inl (cJ, 4, .inr (.inl (tbl [])))), (a8, .inl (cJ, 4, .inr (.inl (tbl [])))), (a9, .inl (cJ, 4, .inr (.inl (tbl [])))), (a10, .inr (5, [.ref a12, .ref a11, .int 0, .int 0])), (a11, .inl (cI, 512, .inl (tb []))), (a12, .inl (cI, 512, .inl (tb []))), (a13, .inl (cJ, 256, .inr (.inl (tbl []))))] sz 1 g) ((QcI dC dI (TY cI cJ cII cJJ) 0 []) (va_A [(a0, .inr (8, [.ref a4, .ref a1, .ref a14, .ref a15, .ref a16, .ref a17, .ref a18, .ref a19])), (a1, .inr (2, [.ref a4, .ref a2, .ref a3, .ref a10, .ref a20, .int 0, .int 1])), (a2, .inr (7, [.ref a13, .int 0])), (a3, .inr (1, [.ref a5, .ref a21, .ref a22, .int 0])), (a4, .inr (3, [.int 1, .int 0, .ref a23, .ref a24, .ref a25, .ref a26, .ref a27, .ref a28])), (a5, .inl (cJJ, 4, .inr (.inr (.inr (.inr (tr [a6, a7, a8, a9])))))), (a6, .inl (cJ, 4, .inr (.inl (tbl [])))), (a7, .inl (cJ, 4, .inr (.inl (tbl [])))), (a8, .inl (cJ, 4, .inr (.inl (tbl [])))), (a9, .inl (cJ, 4, .inr (.inl (tbl [])))), (a10, .inr (5, [.ref a12, .ref a11, .int 0, .int 0])), (a11, .inl (cI, 512, .inl (tb []))), (a12, .inl (cI, 512, .inl (tb []))), (a13, .inl (cJ, 256, .inr (.inl (tbl []))))] sz)) 0 0 (va_A [(a0, .inr (8, [.ref a4, .ref a1, .ref a14, .ref a15, .ref a16, .ref a17, .ref a18, .ref a19])), (a1, .inr (2, [.ref a4, .ref a2, .ref a3, .ref a10, .ref a20, .int 0, .int 1])), (a2, .inr (7, [.ref a13, .int 0])), (a3, .inr (1, [.ref a5, .ref a21, .ref a22, .int 0])), (a4, .inr (3, [.int 1, .int 0, .ref a23, .ref a24, .ref a25, .ref a26, .ref a27, .ref a28])), (a5, .inl (cJJ, 4, .inr (.inr (.inr (.inr (tr [a6, a7, a8, a9])))))), (a6, .inl (cJ, 4, .inr (.inl (tbl [])))), (a7, .inl (cJ, 4, .inr (.inl (tbl [])))), (a8, .inl (cJ, 4, .inr (.inl (tbl [])))), (a9, .inl (cJ, 4, .inr (.inl (tbl [])))), (a10, .inr (5, [.ref a12, .ref a11, .int 0, .int 0])), (a11, .inl (cI, 512, .inl (tb []))), (a12, .inl (cI, 512, .inl (tb []))), (a13, .inl (cJ, 256, .inr (.inl (tbl []))))] sz) := by
  refine SM.of (y := yX8_count) (maxL := 2) (av := [.ref a0, .int 3]) (QcI dC dI (TY cI cJ cII cJJ) 0 []) (by decide +kernel) (Nat.le_of_ble_eq_true rfl) (fun p e s m below meth c A ls hx hb hr hml hown hts hk hnm hA hK hP hD hS hX hl => ?_)
  have hown : s.vm.findClass RX8 = some m.cls := hown
  have hl : lv_has ls 2 [(0, .ref a0), (1, .int 3)] := hl
  refine lv_iload_n hx hb dX8_count_0 rfl (lv_at hl 1 rfl) ?_
  refine lv_iconst (v := 2) hx hb dX8_count_1 (by decide) ?_
  refine f_icmp_lt hx hb dX8_count_2 21 (by decide) (by decide +kernel) ?_
  refine lv_iload_n hx hb dX8_count_5 rfl (lv_at hl 1 rfl) ?_
  refine lv_iconst (v := 5) hx hb dX8_count_6 (by decide) ?_
  refine f_icmp_ge hx hb dX8_count_7 21 (by decide) (by decide +kernel) ?_
  refine lv_aload_n hx hb dX8_count_10 rfl (lv_at hl 0 rfl) ?_
  refine kV_a (q0 := 0) ⟨hx, hb, hml, hown, hts⟩ hK hP hD hS hA hX cv_RX8_152 [0, 1, 2, 3, 4, 5, 6, 7, 8, 9, 10, 11, 12, 13] [] (wr := []) rfl rfl rfl rfl (by decide) (c096_X8_freshSteps l dC dI cI cJ cII cJJ s.heap.size g a0 a1 a2 a3 a4 a5 a6 a7 a8 a9 a10 a11 a12 a13 a14 a15 a16 a17 a18 a19 a20 a21 a22 a23 a24 a25 a26 a27 a28) ⟨by decide +kernel, by decide +kernel⟩ rfl rfl (Or.inr ⟨rfl, rfl, rfl⟩) (rest := []) rfl rfl rfl hl.1 rfl (Nat.le_of_ble_eq_true rfl) dX8_count_11 ⟨Nat.le_of_ble_eq_true rfl, Nat.le_of_ble_eq_true rfl⟩ (W' := [(a0, .inr (8, [.ref a4, .ref a1, .ref a14, .ref a15, .ref a16, .ref a17, .ref a18, .ref a19])), (a3, .inr (1, [.ref a5, .ref a21, .ref a22, .int 1])), (a4, .inr (3, [.int 1, .int 0, .ref a23, .ref a24, .ref a25, .ref a26, .ref a27, .ref a28])), (a5, .inl (cJJ, 4, .inr (.inr (.inr (.inr (tr [a6, a7, a8, a9])))))), (a7, .inl (cJ, 4, .inr (.inl (tbl [0, 1, 0, 0])))), (a8, .inl (cJ, 4, .inr (.inl (tbl [0, 0, 1, 0])))), (a9, .inl (cJ, 4, .inr (.inl (tbl [0, 0, 0, 1])))), (a6, .inl (cJ, 4, .inr (.inl (tbl [1, 0, 0, 0])))), (a11, .inl (cI, 512, .inl (tb [1, 0, 0, 0]))), (a10, .inr (5, [.ref a12, .ref a11, .int 1, .int 0])), (a12, .inl (cI, 512, .inl (tb [1, 0, 0, 0]))), (a13, .inl (cJ, 256, .inr (.inl (tbl [8791800153088, 8808980022272])))), (a2, .inr (7, [.ref a13, .int 2])), (a1, .inr (2, [.ref a4, .ref a2, .ref a3, .ref a10, .ref a20, .int 2, .int 0]))]) rfl (fun H locs hP hD hS => ?_)
  refine lv_iload_n hx hb dX8_count_14 rfl (lv_at hl 1 rfl) ?_
  refine lv_iconst (v := 1) hx hb dX8_count_15 (by decide) ?_
  refine v_isub hx hb dX8_count_16 2 (by decide +kernel) ?_
  refine kV_i (q0 := 0) ⟨hx, hb, hml, hown, hts⟩ hK hP hD hS hA hX cv_RX8_224 [13, 12, 11] [0, 1, 2, 3, 4, 5, 6, 7, 8, 9, 10] (wr := [(a0, .inr (8, [.ref a4, .ref a1, .ref a14, .ref a15, .ref a16, .ref a17, .ref a18, .ref a19])), (a3, .inr (1, [.ref a5, .ref a21, .ref a22, .int 1])), (a4, .inr (3, [.int 1, .int 0, .ref a23, .ref a24, .ref a25, .ref a26, .ref a27, .ref a28])), (a5, .inl (cJJ, 4, .inr (.inr (.inr (.inr (tr [a6, a7, a8, a9])))))), (a7, .inl (cJ, 4, .inr (.inl (tbl [0, 1, 0, 0])))), (a8, .inl (cJ, 4, .inr (.inl (tbl [0, 0, 1, 0])))), (a9, .inl (cJ, 4, .inr (.inl (tbl [0, 0, 0, 1])))), (a6, .inl (cJ, 4, .inr (.inl (tbl [1, 0, 0, 0])))), (a11, .inl (cI, 512, .inl (tb [1, 0, 0, 0]))), (a10, .inr (5, [.ref a12, .ref a11, .int 1, .int 0])), (a12, .inl (cI, 512, .inl (tb [1, 0, 0, 0])))]) rfl rfl rfl rfl (by decide) (c287_X2_howManyOf l dC dI cI cJ cII cJJ H.size 0 a1 a2 a13 a4 a3 a10 a20) ⟨by decide +kernel, by decide +kernel⟩ rfl rfl (Or.inl rfl) (rest := []) rfl rfl rfl hl.1 rfl (Nat.le_of_ble_eq_true rfl) dX8_count_17 ⟨Nat.le_of_ble_eq_true rfl, Nat.le_of_ble_eq_true rfl⟩ (W' := [(a0, .inr (8, [.ref a4, .ref a1, .ref a14, .ref a15, .ref a16, .ref a17, .ref a18, .ref a19])), (a3, .inr (1, [.ref a5, .ref a21, .ref a22, .int 1])), (a4, .inr (3, [.int 1, .int 0, .ref a23, .ref a24, .ref a25, .ref a26, .ref a27, .ref a28])), (a5, .inl (cJJ, 4, .inr (.inr (.inr (.inr (tr [a6, a7, a8, a9])))))), (a7, .inl (cJ, 4, .inr (.inl (tbl [0, 1, 0, 0])))), (a8, .inl (cJ, 4, .inr (.inl (tbl [0, 0, 1, 0])))), (a9, .inl (cJ, 4, .inr (.inl (tbl [0, 0, 0, 1])))), (a6, .inl (cJ, 4, .inr (.inl (tbl [1, 0, 0, 0])))), (a11, .inl (cI, 512, .inl (tb [1, 0, 0, 0]))), (a10, .inr (5, [.ref a12, .ref a11, .int 1, .int 0])), (a12, .inl (cI, 512, .inl (tb [1, 0, 0, 0]))), (a1, .inr (2, [.ref a4, .ref a2, .ref a3, .ref a10, .ref a20, .int 2, .int 0])), (a13, .inl (cJ, 256, .inr (.inl (tbl [8791800153088, 8808980022272])))), (a2, .inr (7, [.ref a13, .int 2]))]) rfl (fun H locs hP hD hS => ?_)
  exact r_i hx hb hr hk hK (hP.sub [] rfl) (hD.sub [] rfl rfl) hS dX8_count_20
set_option maxRecDepth 100000 in
set_option maxHeartbeats 4000000 in
theorem c289_X2_howManyOf (l : Launch) (dC : Nat → ClassId) (dI : Nat → Nat → Nat) (cI cJ cII cJJ : ClassId) (sz g a0 a1 a2 a3 a4 a5 a6 : Nat) : Met l yX2_howManyOf (.code yX2_howManyOf cX2_howManyOf 4 (some .int) :: TT) ({ frames := 6, cells := 0, slots := 0, locals := 320 }) (PcS dC dI (TY cI cJ cII cJJ) [.ref a0, .int 3] [(a0, .inr (2, [.ref a3, .ref a1, .ref a4, .ref a5, .ref a6, .int 2, .int 0])), (a1, .inr (7, [.ref a2, .int 2])), (a2, .inl (cJ, 256, .inr (.inl (tbl [8791800153088, 8808980022272]))))] sz 0 g) ((QcI dC dI (TY cI cJ cII cJJ) 2 [(a0, .inr (2, [.ref a3, .ref a1, .ref a4, .ref a5, .ref a6, .int 2, .int 0])), (a2, .inl (cJ, 256, .inr (.inl (tbl [8791800153088, 8808980022272])))), (a1, .inr (7, [.ref a2, .int 2]))]) (va_A [(a0, .inr (2, [.ref a3, .ref a1, .ref a4, .ref a5, .ref a6, .int 2, .int 0])), (a1, .inr (7, [.ref a2, .int 2])), (a2, .inl (cJ, 256, .inr (.inl (tbl [8791800153088, 8808980022272]))))] sz)) 0 0 (va_A [(a0, .inr (2, [.ref a3, .ref a1, .ref a4, .ref a5, .ref a6, .int 2, .int 0])), (a1, .inr (7, [.ref a2, .int 2])), (a2, .inl (cJ, 256, .inr (.inl (tbl [8791800153088, 8808980022272]))))] sz) := by
  refine SM.of (y := yX2_howManyOf) (maxL := 4) (av := [.ref a0, .int 3]) (QcI dC dI (TY cI cJ cII cJJ) 2 [(a0, .inr (2, [.ref a3, .ref a1, .ref a4, .ref a5, .ref a6, .int 2, .int 0])), (a2, .inl (cJ, 256, .inr (.inl (tbl [8791800153088, 8808980022272])))), (a1, .inr (7, [.ref a2, .int 2]))]) (by decide +kernel) (Nat.le_of_ble_eq_true rfl) (fun p e s m below meth c A ls hx hb hr hml hown hts hk hnm hA hK hP hD hS hX hl => ?_)
  have hown : s.vm.findClass RX2 = some m.cls := hown
  have hl : lv_has ls 4 [(0, .ref a0), (1, .int 3)] := hl
  refine lv_iconst (v := 0) hx hb dX2_howManyOf_0 (by decide) ?_
  refine lv_istore_n (lv' := [(2, .int 0), (0, .ref a0), (1, .int 3)]) hx hb dX2_howManyOf_1 rfl hl (by decide) rfl (fun ls hl => ?_)
  refine lv_iconst (v := 0) hx hb dX2_howManyOf_2 (by decide) ?_
  refine lv_istore_n (lv' := [(3, .int 0), (2, .int 0), (0, .ref a0), (1, .int 3)]) hx hb dX2_howManyOf_3 rfl hl (by decide) rfl (fun ls hl => ?_)
  refine lv_iload_n hx hb dX2_howManyOf_4 rfl (lv_at hl 0 rfl) ?_
  refine lv_aload_n hx hb dX2_howManyOf_5 rfl (lv_at hl 2 rfl) ?_
  refine gf (k := 1) hx hb hts inX2 hown hK hP k_176 rfl (by decide) rfl 0 rfl (.ref a1) rfl dX2_howManyOf_6 ?_
  refine kV_i (q0 := 0) ⟨hx, hb, hml, hown, hts⟩ hK hP hD hS hA hX cv_RX2_84 [1] [0, 2] (wr := [(a0, .inr (2, [.ref a3, .ref a1, .ref a4, .ref a5, .ref a6, .int 2, .int 0])), (a2, .inl (cJ, 256, .inr (.inl (tbl [8791800153088, 8808980022272]))))]) rfl rfl rfl rfl (by decide) (c109_X7_size l dC dI cI cJ cII cJJ s.heap.size 0 a1 a2) ⟨by decide +kernel, by decide +kernel⟩ rfl rfl (Or.inl rfl) (rest := [.int 0]) rfl rfl rfl hl.1 rfl (Nat.le_of_ble_eq_true rfl) dX2_howManyOf_9 ⟨Nat.le_of_ble_eq_true rfl, Nat.le_of_ble_eq_true rfl⟩ (W' := [(a0, .inr (2, [.ref a3, .ref a1, .ref a4, .ref a5, .ref a6, .int 2, .int 0])), (a2, .inl (cJ, 256, .inr (.inl (tbl [8791800153088, 8808980022272])))), (a1, .inr (7, [.ref a2, .int 2]))]) rfl (fun H locs hP hD hS => ?_)
  refine f_icmp_ge hx hb dX2_howManyOf_12 33 (by decide) (by decide +kernel) ?_
  refine lv_aload_n hx hb dX2_howManyOf_15 rfl (lv_at hl 2 rfl) ?_
  refine lv_iload_n hx hb dX2_howManyOf_16 rfl (lv_at hl 0 rfl) ?_
  refine kV_i (q0 := 0) ⟨hx, hb, hml, hown, hts⟩ hK hP hD hS hA hX cv_RX2_99 [0, 2, 1] [] (wr := []) rfl rfl rfl rfl (by decide) (c147_X2_kindOf l dC dI cI cJ cII cJJ H.size 0 a0 a1 a2 a3 a4 a5 a6) ⟨by decide +kernel, by decide +kernel⟩ rfl rfl (Or.inl rfl) (rest := []) rfl rfl rfl hl.1 rfl (Nat.le_of_ble_eq_true rfl) dX2_howManyOf_17 ⟨Nat.le_of_ble_eq_true rfl, Nat.le_of_ble_eq_true rfl⟩ (W' := [(a0, .inr (2, [.ref a3, .ref a1, .ref a4, .ref a5, .ref a6, .int 2, .int 0])), (a1, .inr (7, [.ref a2, .int 2])), (a2, .inl (cJ, 256, .inr (.inl (tbl [8791800153088, 8808980022272]))))]) rfl (fun H locs hP hD hS => ?_)
  refine lv_iload_n hx hb dX2_howManyOf_20 rfl (lv_at hl 3 rfl) ?_
  refine f_icmp_ne hx hb dX2_howManyOf_21 27 (by decide) (by decide +kernel) ?_
  refine lv_iinc (v := 1) (lv' := [(2, .int 1), (3, .int 0), (0, .ref a0), (1, .int 3)]) hx hb dX2_howManyOf_24 hl (k := 1) rfl (by decide +kernel) (by decide) rfl (fun ls hl => ?_)
  refine lv_iinc (v := 1) (lv' := [(3, .int 1), (2, .int 1), (0, .ref a0), (1, .int 3)]) hx hb dX2_howManyOf_27 hl (k := 1) rfl (by decide +kernel) (by decide) rfl (fun ls hl => ?_)
  refine lv_goto (tgt := 4) hx hb dX2_howManyOf_30 (by decide) ?_
  refine lv_iload_n hx hb dX2_howManyOf_4 rfl (lv_at hl 0 rfl) ?_
  refine lv_aload_n hx hb dX2_howManyOf_5 rfl (lv_at hl 2 rfl) ?_
  refine gf (k := 1) hx hb hts inX2 hown hK hP k_176 rfl (by decide) rfl 0 rfl (.ref a1) rfl dX2_howManyOf_6 ?_
  refine kV_i (q0 := 0) ⟨hx, hb, hml, hown, hts⟩ hK hP hD hS hA hX cv_RX2_84 [1] [0, 2] (wr := [(a0, .inr (2, [.ref a3, .ref a1, .ref a4, .ref a5, .ref a6, .int 2, .int 0])), (a2, .inl (cJ, 256, .inr (.inl (tbl [8791800153088, 8808980022272]))))]) rfl rfl rfl rfl (by decide) (c109_X7_size l dC dI cI cJ cII cJJ H.size 0 a1 a2) ⟨by decide +kernel, by decide +kernel⟩ rfl rfl (Or.inl rfl) (rest := [.int 1]) rfl rfl rfl hl.1 rfl (Nat.le_of_ble_eq_true rfl) dX2_howManyOf_9 ⟨Nat.le_of_ble_eq_true rfl, Nat.le_of_ble_eq_true rfl⟩ (W' := [(a0, .inr (2, [.ref a3, .ref a1, .ref a4, .ref a5, .ref a6, .int 2, .int 0])), (a2, .inl (cJ, 256, .inr (.inl (tbl [8791800153088, 8808980022272])))), (a1, .inr (7, [.ref a2, .int 2]))]) rfl (fun H locs hP hD hS => ?_)
  refine f_icmp_ge hx hb dX2_howManyOf_12 33 (by decide) (by decide +kernel) ?_
  refine lv_aload_n hx hb dX2_howManyOf_15 rfl (lv_at hl 2 rfl) ?_
  refine lv_iload_n hx hb dX2_howManyOf_16 rfl (lv_at hl 0 rfl) ?_
  refine kV_i (q0 := 0) ⟨hx, hb, hml, hown, hts⟩ hK hP hD hS hA hX cv_RX2_99 [0, 2, 1] [] (wr := []) rfl rfl rfl rfl (by decide) (c153_X2_kindOf l dC dI cI cJ cII cJJ H.size 0 a0 a1 a2 a3 a4 a5 a6) ⟨by decide +kernel, by decide +kernel⟩ rfl rfl (Or.inl rfl) (rest := []) rfl rfl rfl hl.1 rfl (Nat.le_of_ble_eq_true rfl) dX2_howManyOf_17 ⟨Nat.le_of_ble_eq_true rfl, Nat.le_of_ble_eq_true rfl⟩ (W' := [(a0, .inr (2, [.ref a3, .ref a1, .ref a4, .ref a5, .ref a6, .int 2, .int 0])), (a1, .inr (7, [.ref a2, .int 2])), (a2, .inl (cJ, 256, .inr (.inl (tbl [8791800153088, 8808980022272]))))]) rfl (fun H locs hP hD hS => ?_)
  refine lv_iload_n hx hb dX2_howManyOf_20 rfl (lv_at hl 3 rfl) ?_
  refine f_icmp_ne hx hb dX2_howManyOf_21 27 (by decide) (by decide +kernel) ?_
  refine lv_iinc (v := 2) (lv' := [(2, .int 2), (3, .int 1), (0, .ref a0), (1, .int 3)]) hx hb dX2_howManyOf_24 hl (k := 1) rfl (by decide +kernel) (by decide) rfl (fun ls hl => ?_)
  refine lv_iinc (v := 2) (lv' := [(3, .int 2), (2, .int 2), (0, .ref a0), (1, .int 3)]) hx hb dX2_howManyOf_27 hl (k := 1) rfl (by decide +kernel) (by decide) rfl (fun ls hl => ?_)
  refine lv_goto (tgt := 4) hx hb dX2_howManyOf_30 (by decide) ?_
  refine lv_iload_n hx hb dX2_howManyOf_4 rfl (lv_at hl 0 rfl) ?_
  refine lv_aload_n hx hb dX2_howManyOf_5 rfl (lv_at hl 2 rfl) ?_
  refine gf (k := 1) hx hb hts inX2 hown hK hP k_176 rfl (by decide) rfl 0 rfl (.ref a1) rfl dX2_howManyOf_6 ?_
  refine kV_i (q0 := 0) ⟨hx, hb, hml, hown, hts⟩ hK hP hD hS hA hX cv_RX2_84 [1] [0, 2] (wr := [(a0, .inr (2, [.ref a3, .ref a1, .ref a4, .ref a5, .ref a6, .int 2, .int 0])), (a2, .inl (cJ, 256, .inr (.inl (tbl [8791800153088, 8808980022272]))))]) rfl rfl rfl rfl (by decide) (c109_X7_size l dC dI cI cJ cII cJJ H.size 0 a1 a2) ⟨by decide +kernel, by decide +kernel⟩ rfl rfl (Or.inl rfl) (rest := [.int 2]) rfl rfl rfl hl.1 rfl (Nat.le_of_ble_eq_true rfl) dX2_howManyOf_9 ⟨Nat.le_of_ble_eq_true rfl, Nat.le_of_ble_eq_true rfl⟩ (W' := [(a0, .inr (2, [.ref a3, .ref a1, .ref a4, .ref a5, .ref a6, .int 2, .int 0])), (a2, .inl (cJ, 256, .inr (.inl (tbl [8791800153088, 8808980022272])))), (a1, .inr (7, [.ref a2, .int 2]))]) rfl (fun H locs hP hD hS => ?_)
  refine t_icmp_ge hx hb dX2_howManyOf_12 33 (by decide) (by decide +kernel) ?_
  refine lv_iload_n hx hb dX2_howManyOf_33 rfl (lv_at hl 1 rfl) ?_
  exact r_i hx hb hr hk hK hP hD hS dX2_howManyOf_34
set_option maxRecDepth 100000 in
set_option maxHeartbeats 4000000 in
theorem c288_X8_count (l : Launch) (dC : Nat → ClassId) (dI : Nat → Nat → Nat) (cI cJ cII cJJ : ClassId) (sz g a0 a1 a2 a3 a4 a5 a6 a7 a8 a9 a10 a11 a12 a13 a14 a15 a16 a17 a18 a19 a20 a21 a22 a23 a24 a25 a26 a27 a28 : Nat) : Met l yX8_count (.code yX8_count cX8_count 2 (some .int) :: TT) ({ frames := 8, cells := 0, slots := 0, locals := 440 }) (PcS dC dI (TY cI cJ cII cJJ) [.ref a0, .int 4] [(a0, .inr (8, [.ref a4, .ref a1, .ref a14, .ref a15, .ref a16, .ref a17, .ref a18, .ref a19])), (a1, .inr (2, [.ref a4, .ref a2, .ref a3, .ref a10, .ref a20, .int 0, .int 1])), (a2, .inr (7, [.ref a13, .int 0])), (a3, .inr (1, [.ref a5, .ref a21, .ref a22, .int 0])), (a4, .inr (3, [.int 1, .int 0, .ref a23, .ref a24, .ref a25, .ref a26, .ref a27, .ref a28])), (a5, .inl (cJJ, 4, .inr (.inr (.inr (.inr (tr [a6, a7, a8, a9])))))), (a6, .inl (cJ, 4, .inr (.inl (tbl [])))), (a7, .inl (cJ, 4, .inr (.inl (tbl [])))), (a8, .inl (cJ, 4, .inr (.inl (tbl [])))), (a9, .inl (cJ, 4, .inr (.inl (tbl [])))), (a10, .inr (5, [.ref a12, .ref a11, .int 0, .int 0])), (a11, .inl (cI, 512, .inl (tb []))), (a12, .inl (cI, 512, .inl (tb []))), (a13, .inl (cJ, 256, .inr (.inl (tbl []))))] sz 1 g) ((QcI dC dI (TY cI cJ cII cJJ) 2 []) (va_A [(a0, .inr (8, [.ref a4, .ref a1, .ref a14, .ref a15, .ref a16, .ref a17, .ref a18, .ref a19])), (a1, .inr (2, [.ref a4, .ref a2, .ref a3, .ref a10, .ref a20, .int 0, .int 1])), (a2, .inr (7, [.ref a13, .int 0])), (a3, .inr (1, [.ref a5, .ref a21, .ref a22, .int 0])), (a4, .inr (3, [.int 1, .int 0, .ref a23, .ref a24, .ref a25, .ref a26, .ref a27, .ref a28])), (a5, .inl (cJJ, 4, .inr (.inr (.inr (.inr (tr [a6, a7, a8, a9])))))), (a6, .inl (cJ, 4, .inr (.inl (tbl [])))), (a7, .inl (cJ, 4, .inr (.inl (tbl [])))), (a8, .inl (cJ, 4, .inr (.inl (tbl [])))), (a9, .inl (cJ, 4, .inr (.inl (tbl [])))), (a10, .inr (5, [.ref a12, .ref a11, .int 0, .int 0])), (a11, .inl (cI, 512, .inl (tb []))), (a12, .inl (cI, 512, .inl (tb []))), (a13, .inl (cJ, 256, .inr (.inl (tbl []))))] sz)) 0 0 (va_A [(a0, .inr (8, [.ref a4, .ref a1, .ref a14, .ref a15, .ref a16, .ref a17, .ref a18, .ref a19])), (a1, .inr (2, [.ref a4, .ref a2, .ref a3, .ref a10, .ref a20, .int 0, .int 1])), (a2, .inr (7, [.ref a13, .int 0])), (a3, .inr (1, [.ref a5, .ref a21, .ref a22, .int 0])), (a4, .inr (3, [.int 1, .int 0, .ref a23, .ref a24, .ref a25, .ref a26, .ref a27, .ref a28])), (a5, .inl (cJJ, 4, .inr (.inr (.inr (.inr (tr [a6, a7, a8, a9])))))), (a6, .inl (cJ, 4, .inr (.inl (tbl [])))), (a7, .inl (cJ, 4, .inr (.inl (tbl [])))), (a8, .inl (cJ, 4, .inr (.inl (tbl [])))), (a9, .inl (cJ, 4, .inr (.inl (tbl [])))), (a10, .inr (5, [.ref a12, .ref a11, .int 0, .int 0])), (a11, .inl (cI, 512, .inl (tb []))), (a12, .inl (cI, 512, .inl (tb []))), (a13, .inl (cJ, 256, .inr (.inl (tbl []))))] sz) := by
  refine SM.of (y := yX8_count) (maxL := 2) (av := [.ref a0, .int 4]) (QcI dC dI (TY cI cJ cII cJJ) 2 []) (by decide +kernel) (Nat.le_of_ble_eq_true rfl) (fun p e s m below meth c A ls hx hb hr hml hown hts hk hnm hA hK hP hD hS hX hl => ?_)
  have hown : s.vm.findClass RX8 = some m.cls := hown
  have hl : lv_has ls 2 [(0, .ref a0), (1, .int 4)] := hl
  refine lv_iload_n hx hb dX8_count_0 rfl (lv_at hl 1 rfl) ?_
  refine lv_iconst (v := 2) hx hb dX8_count_1 (by decide) ?_
  refine f_icmp_lt hx hb dX8_count_2 21 (by decide) (by decide +kernel) ?_
  refine lv_iload_n hx hb dX8_count_5 rfl (lv_at hl 1 rfl) ?_
  refine lv_iconst (v := 5) hx hb dX8_count_6 (by decide) ?_
  refine f_icmp_ge hx hb dX8_count_7 21 (by decide) (by decide +kernel) ?_
  refine lv_aload_n hx hb dX8_count_10 rfl (lv_at hl 0 rfl) ?_
  refine kV_a (q0 := 0) ⟨hx, hb, hml, hown, hts⟩ hK hP hD hS hA hX cv_RX8_152 [0, 1, 2, 3, 4, 5, 6, 7, 8, 9, 10, 11, 12, 13] [] (wr := []) rfl rfl rfl rfl (by decide) (c096_X8_freshSteps l dC dI cI cJ cII cJJ s.heap.size g a0 a1 a2 a3 a4 a5 a6 a7 a8 a9 a10 a11 a12 a13 a14 a15 a16 a17 a18 a19 a20 a21 a22 a23 a24 a25 a26 a27 a28) ⟨by decide +kernel, by decide +kernel⟩ rfl rfl (Or.inr ⟨rfl, rfl, rfl⟩) (rest := []) rfl rfl rfl hl.1 rfl (Nat.le_of_ble_eq_true rfl) dX8_count_11 ⟨Nat.le_of_ble_eq_true rfl, Nat.le_of_ble_eq_true rfl⟩ (W' := [(a0, .inr (8, [.ref a4, .ref a1, .ref a14, .ref a15, .ref a16, .ref a17, .ref a18, .ref a19])), (a3, .inr (1, [.ref a5, .ref a21, .ref a22, .int 1])), (a4, .inr (3, [.int 1, .int 0, .ref a23, .ref a24, .ref a25, .ref a26, .ref a27, .ref a28])), (a5, .inl (cJJ, 4, .inr (.inr (.inr (.inr (tr [a6, a7, a8, a9])))))), (a7, .inl (cJ, 4, .inr (.inl (tbl [0, 1, 0, 0])))), (a8, .inl (cJ, 4, .inr (.inl (tbl [0, 0, 1, 0])))), (a9, .inl (cJ, 4, .inr (.inl (tbl [0, 0, 0, 1])))), (a6, .inl (cJ, 4, .inr (.inl (tbl [1, 0, 0, 0])))), (a11, .inl (cI, 512, .inl (tb [1, 0, 0, 0]))), (a10, .inr (5, [.ref a12, .ref a11, .int 1, .int 0])), (a12, .inl (cI, 512, .inl (tb [1, 0, 0, 0]))), (a13, .inl (cJ, 256, .inr (.inl (tbl [8791800153088, 8808980022272])))), (a2, .inr (7, [.ref a13, .int 2])), (a1, .inr (2, [.ref a4, .ref a2, .ref a3, .ref a10, .ref a20, .int 2, .int 0]))]) rfl (fun H locs hP hD hS => ?_)
  refine lv_iload_n hx hb dX8_count_14 rfl (lv_at hl 1 rfl) ?_
  refine lv_iconst (v := 1) hx hb dX8_count_15 (by decide) ?_
  refine v_isub hx hb dX8_count_16 3 (by decide +kernel) ?_
  refine kV_i (q0 := 0) ⟨hx, hb, hml, hown, hts⟩ hK hP hD hS hA hX cv_RX8_224 [13, 12, 11] [0, 1, 2, 3, 4, 5, 6, 7, 8, 9, 10] (wr := [(a0, .inr (8, [.ref a4, .ref a1, .ref a14, .ref a15, .ref a16, .ref a17, .ref a18, .ref a19])), (a3, .inr (1, [.ref a5, .ref a21, .ref a22, .int 1])), (a4, .inr (3, [.int 1, .int 0, .ref a23, .ref a24, .ref a25, .ref a26, .ref a27, .ref a28])), (a5, .inl (cJJ, 4, .inr (.inr (.inr (.inr (tr [a6, a7, a8, a9])))))), (a7, .inl (cJ, 4, .inr (.inl (tbl [0, 1, 0, 0])))), (a8, .inl (cJ, 4, .inr (.inl (tbl [0, 0, 1, 0])))), (a9, .inl (cJ, 4, .inr (.inl (tbl [0, 0, 0, 1])))), (a6, .inl (cJ, 4, .inr (.inl (tbl [1, 0, 0, 0])))), (a11, .inl (cI, 512, .inl (tb [1, 0, 0, 0]))), (a10, .inr (5, [.ref a12, .ref a11, .int 1, .int 0])), (a12, .inl (cI, 512, .inl (tb [1, 0, 0, 0])))]) rfl rfl rfl rfl (by decide) (c289_X2_howManyOf l dC dI cI cJ cII cJJ H.size 0 a1 a2 a13 a4 a3 a10 a20) ⟨by decide +kernel, by decide +kernel⟩ rfl rfl (Or.inl rfl) (rest := []) rfl rfl rfl hl.1 rfl (Nat.le_of_ble_eq_true rfl) dX8_count_17 ⟨Nat.le_of_ble_eq_true rfl, Nat.le_of_ble_eq_true rfl⟩ (W' := [(a0, .inr (8, [.ref a4, .ref a1, .ref a14, .ref a15, .ref a16, .ref a17, .ref a18, .ref a19])), (a3, .inr (1, [.ref a5, .ref a21, .ref a22, .int 1])), (a4, .inr (3, [.int 1, .int 0, .ref a23, .ref a24, .ref a25, .ref a26, .ref a27, .ref a28])), (a5, .inl (cJJ, 4, .inr (.inr (.inr (.inr (tr [a6, a7, a8, a9])))))), (a7, .inl (cJ, 4, .inr (.inl (tbl [0, 1, 0, 0])))), (a8, .inl (cJ, 4, .inr (.inl (tbl [0, 0, 1, 0])))), (a9, .inl (cJ, 4, .inr (.inl (tbl [0, 0, 0, 1])))), (a6, .inl (cJ, 4, .inr (.inl (tbl [1, 0, 0, 0])))), (a11, .inl (cI, 512, .inl (tb [1, 0, 0, 0]))), (a10, .inr (5, [.ref a12, .ref a11, .int 1, .int 0])), (a12, .inl (cI, 512, .inl (tb [1, 0, 0, 0]))), (a1, .inr (2, [.ref a4, .ref a2, .ref a3, .ref a10, .ref a20, .int 2, .int 0])), (a13, .inl (cJ, 256, .inr (.inl (tbl [8791800153088, 8808980022272])))), (a2, .inr (7, [.ref a13, .int 2]))]) rfl (fun H locs hP hD hS => ?_)
  exact r_i hx hb hr hk hK (hP.sub [] rfl) (hD.sub [] rfl rfl) hS dX8_count_20
set_option maxRecDepth 100000 in
set_option maxHeartbeats 4000000 in
theorem c291_X6_allElements (l : Launch) (dC : Nat → ClassId) (dI : Nat → Nat → Nat) (cI cJ cII cJJ : ClassId) (sz g a0 a1 a2 a3 : Nat) : Met l yX6_allElements (.code yX6_allElements cX6_allElements 3 (some .int) :: TT) ({ frames := 2, cells := 0, slots := 0, locals := 80 }) (PcS dC dI (TY cI cJ cII cJJ) [.ref a0] [(a0, .inr (6, [.ref a2, .ref a3, .ref a1])), (a1, .inl (cI, 4, .inl (tb [(-1), (-1), (-1), (-1)])))] sz 0 g) ((QcI dC dI (TY cI cJ cII cJJ) 0 [(a0, .inr (6, [.ref a2, .ref a3, .ref a1])), (a1, .inl (cI, 4, .inl (tb [(-1), (-1), (-1), (-1)])))]) (va_A [(a0, .inr (6, [.ref a2, .ref a3, .ref a1])), (a1, .inl (cI, 4, .inl (tb [(-1), (-1), (-1), (-1)])))] sz)) 0 0 (va_A [(a0, .inr (6, [.ref a2, .ref a3, .ref a1])), (a1, .inl (cI, 4, .inl (tb [(-1), (-1), (-1), (-1)])))] sz) := by
  refine SM.of (y := yX6_allElements) (maxL := 3) (av := [.ref a0]) (QcI dC dI (TY cI cJ cII cJJ) 0 [(a0, .inr (6, [.ref a2, .ref a3, .ref a1])), (a1, .inl (cI, 4, .inl (tb [(-1), (-1), (-1), (-1)])))]) (by decide +kernel) (Nat.le_of_ble_eq_true rfl) (fun p e s m below meth c A ls hx hb hr hml hown hts hk hnm hA hK hP hD hS hX hl => ?_)
  have hown : s.vm.findClass RX6 = some m.cls := hown
  have hl : lv_has ls 3 [(0, .ref a0)] := hl
  refine lv_iconst (v := 0) hx hb dX6_allElements_0 (by decide) ?_
  refine lv_istore_n (lv' := [(1, .int 0), (0, .ref a0)]) hx hb dX6_allElements_1 rfl hl (by decide) rfl (fun ls hl => ?_)
  refine lv_iconst (v := 0) hx hb dX6_allElements_2 (by decide) ?_
  refine lv_istore_n (lv' := [(2, .int 0), (1, .int 0), (0, .ref a0)]) hx hb dX6_allElements_3 rfl hl (by decide) rfl (fun ls hl => ?_)
  refine lv_iload_n hx hb dX6_allElements_4 rfl (lv_at hl 0 rfl) ?_
  refine lv_iconst (v := 4) hx hb dX6_allElements_5 (by decide) ?_
  refine f_icmp_ge hx hb dX6_allElements_6 28 (by decide) (by decide +kernel) ?_
  refine lv_iload_n hx hb dX6_allElements_9 rfl (lv_at hl 1 rfl) ?_
  refine lv_aload_n hx hb dX6_allElements_10 rfl (lv_at hl 2 rfl) ?_
  refine gf (k := 2) hx hb hts inX6 hown hK hP k_255 rfl (by decide) rfl 0 rfl (.ref a1) rfl dX6_allElements_11 ?_
  refine lv_iload_n hx hb dX6_allElements_14 rfl (lv_at hl 0 rfl) ?_
  refine ld_i hx hb hK hP 1 rfl (vin (by decide +kernel)) dX6_allElements_15 (-1) rfl ?_
  refine lv_iconst (v := 0) hx hb dX6_allElements_16 (by decide) ?_
  refine va_mmax hx hb (by rw [hml]; exact hl.1.symm) hown (hts _ k_781) (hts _ k_445) (hts _ k_13) (hts _ k_446) (by decide) (Nat.le_of_ble_eq_true rfl) (Nat.le_of_ble_eq_true rfl) (Nat.le_of_ble_eq_true rfl) dX6_allElements_17 ?_
  refine tvi (v := 0) (by decide +kernel) ?_
  refine v_iadd hx hb dX6_allElements_20 0 (by decide +kernel) ?_
  refine lv_istore_n (lv' := [(1, .int 0), (2, .int 0), (0, .ref a0)]) hx hb dX6_allElements_21 rfl hl (by decide) rfl (fun ls hl => ?_)
  refine lv_iinc (v := 1) (lv' := [(2, .int 1), (1, .int 0), (0, .ref a0)]) hx hb dX6_allElements_22 hl (k := 1) rfl (by decide +kernel) (by decide) rfl (fun ls hl => ?_)
  refine lv_goto (tgt := 4) hx hb dX6_allElements_25 (by decide) ?_
  refine lv_iload_n hx hb dX6_allElements_4 rfl (lv_at hl 0 rfl) ?_
  refine lv_iconst (v := 4) hx hb dX6_allElements_5 (by decide) ?_
  refine f_icmp_ge hx hb dX6_allElements_6 28 (by decide) (by decide +kernel) ?_
  refine lv_iload_n hx hb dX6_allElements_9 rfl (lv_at hl 1 rfl) ?_
  refine lv_aload_n hx hb dX6_allElements_10 rfl (lv_at hl 2 rfl) ?_
  refine gf (k := 2) hx hb hts inX6 hown hK hP k_255 rfl (by decide) rfl 0 rfl (.ref a1) rfl dX6_allElements_11 ?_
  refine lv_iload_n hx hb dX6_allElements_14 rfl (lv_at hl 0 rfl) ?_
  refine ld_i hx hb hK hP 1 rfl (vin (by decide +kernel)) dX6_allElements_15 (-1) rfl ?_
  refine lv_iconst (v := 0) hx hb dX6_allElements_16 (by decide) ?_
  refine va_mmax hx hb (by rw [hml]; exact hl.1.symm) hown (hts _ k_781) (hts _ k_445) (hts _ k_13) (hts _ k_446) (by decide) (Nat.le_of_ble_eq_true rfl) (Nat.le_of_ble_eq_true rfl) (Nat.le_of_ble_eq_true rfl) dX6_allElements_17 ?_
  refine tvi (v := 0) (by decide +kernel) ?_
  refine v_iadd hx hb dX6_allElements_20 0 (by decide +kernel) ?_
  refine lv_istore_n (lv' := [(1, .int 0), (2, .int 1), (0, .ref a0)]) hx hb dX6_allElements_21 rfl hl (by decide) rfl (fun ls hl => ?_)
  refine lv_iinc (v := 2) (lv' := [(2, .int 2), (1, .int 0), (0, .ref a0)]) hx hb dX6_allElements_22 hl (k := 1) rfl (by decide +kernel) (by decide) rfl (fun ls hl => ?_)
  refine lv_goto (tgt := 4) hx hb dX6_allElements_25 (by decide) ?_
  refine lv_iload_n hx hb dX6_allElements_4 rfl (lv_at hl 0 rfl) ?_
  refine lv_iconst (v := 4) hx hb dX6_allElements_5 (by decide) ?_
  refine f_icmp_ge hx hb dX6_allElements_6 28 (by decide) (by decide +kernel) ?_
  refine lv_iload_n hx hb dX6_allElements_9 rfl (lv_at hl 1 rfl) ?_
  refine lv_aload_n hx hb dX6_allElements_10 rfl (lv_at hl 2 rfl) ?_
  refine gf (k := 2) hx hb hts inX6 hown hK hP k_255 rfl (by decide) rfl 0 rfl (.ref a1) rfl dX6_allElements_11 ?_
  refine lv_iload_n hx hb dX6_allElements_14 rfl (lv_at hl 0 rfl) ?_
  refine ld_i hx hb hK hP 1 rfl (vin (by decide +kernel)) dX6_allElements_15 (-1) rfl ?_
  refine lv_iconst (v := 0) hx hb dX6_allElements_16 (by decide) ?_
  refine va_mmax hx hb (by rw [hml]; exact hl.1.symm) hown (hts _ k_781) (hts _ k_445) (hts _ k_13) (hts _ k_446) (by decide) (Nat.le_of_ble_eq_true rfl) (Nat.le_of_ble_eq_true rfl) (Nat.le_of_ble_eq_true rfl) dX6_allElements_17 ?_
  refine tvi (v := 0) (by decide +kernel) ?_
  refine v_iadd hx hb dX6_allElements_20 0 (by decide +kernel) ?_
  refine lv_istore_n (lv' := [(1, .int 0), (2, .int 2), (0, .ref a0)]) hx hb dX6_allElements_21 rfl hl (by decide) rfl (fun ls hl => ?_)
  refine lv_iinc (v := 3) (lv' := [(2, .int 3), (1, .int 0), (0, .ref a0)]) hx hb dX6_allElements_22 hl (k := 1) rfl (by decide +kernel) (by decide) rfl (fun ls hl => ?_)
  refine lv_goto (tgt := 4) hx hb dX6_allElements_25 (by decide) ?_
  refine lv_iload_n hx hb dX6_allElements_4 rfl (lv_at hl 0 rfl) ?_
  refine lv_iconst (v := 4) hx hb dX6_allElements_5 (by decide) ?_
  refine f_icmp_ge hx hb dX6_allElements_6 28 (by decide) (by decide +kernel) ?_
  refine lv_iload_n hx hb dX6_allElements_9 rfl (lv_at hl 1 rfl) ?_
  refine lv_aload_n hx hb dX6_allElements_10 rfl (lv_at hl 2 rfl) ?_
  refine gf (k := 2) hx hb hts inX6 hown hK hP k_255 rfl (by decide) rfl 0 rfl (.ref a1) rfl dX6_allElements_11 ?_
  refine lv_iload_n hx hb dX6_allElements_14 rfl (lv_at hl 0 rfl) ?_
  refine ld_i hx hb hK hP 1 rfl (vin (by decide +kernel)) dX6_allElements_15 (-1) rfl ?_
  refine lv_iconst (v := 0) hx hb dX6_allElements_16 (by decide) ?_
  refine va_mmax hx hb (by rw [hml]; exact hl.1.symm) hown (hts _ k_781) (hts _ k_445) (hts _ k_13) (hts _ k_446) (by decide) (Nat.le_of_ble_eq_true rfl) (Nat.le_of_ble_eq_true rfl) (Nat.le_of_ble_eq_true rfl) dX6_allElements_17 ?_
  refine tvi (v := 0) (by decide +kernel) ?_
  refine v_iadd hx hb dX6_allElements_20 0 (by decide +kernel) ?_
  refine lv_istore_n (lv' := [(1, .int 0), (2, .int 3), (0, .ref a0)]) hx hb dX6_allElements_21 rfl hl (by decide) rfl (fun ls hl => ?_)
  refine lv_iinc (v := 4) (lv' := [(2, .int 4), (1, .int 0), (0, .ref a0)]) hx hb dX6_allElements_22 hl (k := 1) rfl (by decide +kernel) (by decide) rfl (fun ls hl => ?_)
  refine lv_goto (tgt := 4) hx hb dX6_allElements_25 (by decide) ?_
  refine lv_iload_n hx hb dX6_allElements_4 rfl (lv_at hl 0 rfl) ?_
  refine lv_iconst (v := 4) hx hb dX6_allElements_5 (by decide) ?_
  refine t_icmp_ge hx hb dX6_allElements_6 28 (by decide) (by decide +kernel) ?_
  refine lv_iload_n hx hb dX6_allElements_28 rfl (lv_at hl 1 rfl) ?_
  exact r_i hx hb hr hk hK hP hD hS dX6_allElements_29
set_option maxRecDepth 100000 in
set_option maxHeartbeats 4000000 in
theorem c290_X8_count (l : Launch) (dC : Nat → ClassId) (dI : Nat → Nat → Nat) (cI cJ cII cJJ : ClassId) (sz g a0 a1 a2 a3 a4 a5 a6 a7 a8 a9 a10 a11 : Nat) : Met l yX8_count (.code yX8_count cX8_count 2 (some .int) :: TT) ({ frames := 3, cells := 0, slots := 0, locals := 140 }) (PcS dC dI (TY cI cJ cII cJJ) [.ref a0, .int 5] [(a0, .inr (8, [.ref a3, .ref a4, .ref a5, .ref a1, .ref a6, .ref a7, .ref a8, .ref a9])), (a1, .inr (6, [.ref a10, .ref a11, .ref a2])), (a2, .inl (cI, 4, .inl (tb [(-1), (-1), (-1), (-1)])))] sz 0 g) ((QcI dC dI (TY cI cJ cII cJJ) 0 []) (va_A [(a0, .inr (8, [.ref a3, .ref a4, .ref a5, .ref a1, .ref a6, .ref a7, .ref a8, .ref a9])), (a1, .inr (6, [.ref a10, .ref a11, .ref a2])), (a2, .inl (cI, 4, .inl (tb [(-1), (-1), (-1), (-1)])))] sz)) 0 0 (va_A [(a0, .inr (8, [.ref a3, .ref a4, .ref a5, .ref a1, .ref a6, .ref a7, .ref a8, .ref a9])), (a1, .inr (6, [.ref a10, .ref a11, .ref a2])), (a2, .inl (cI, 4, .inl (tb [(-1), (-1), (-1), (-1)])))] sz) := by
  refine SM.of (y := yX8_count) (maxL := 2) (av := [.ref a0, .int 5]) (QcI dC dI (TY cI cJ cII cJJ) 0 []) (by decide +kernel) (Nat.le_of_ble_eq_true rfl) (fun p e s m below meth c A ls hx hb hr hml hown hts hk hnm hA hK hP hD hS hX hl => ?_)
  have hown : s.vm.findClass RX8 = some m.cls := hown
  have hl : lv_has ls 2 [(0, .ref a0), (1, .int 5)] := hl
  refine lv_iload_n hx hb dX8_count_0 rfl (lv_at hl 1 rfl) ?_
  refine lv_iconst (v := 2) hx hb dX8_count_1 (by decide) ?_
  refine f_icmp_lt hx hb dX8_count_2 21 (by decide) (by decide +kernel) ?_
  refine lv_iload_n hx hb dX8_count_5 rfl (lv_at hl 1 rfl) ?_
  refine lv_iconst (v := 5) hx hb dX8_count_6 (by decide) ?_
  refine t_icmp_ge hx hb dX8_count_7 21 (by decide) (by decide +kernel) ?_
  refine lv_iload_n hx hb dX8_count_21 rfl (lv_at hl 1 rfl) ?_
  refine lv_bipush (v := 10) hx hb dX8_count_22 (by decide) ?_
  refine t_icmp_le hx hb dX8_count_24 43 (by decide) (by decide +kernel) ?_
  refine lv_iload_n hx hb dX8_count_43 rfl (lv_at hl 1 rfl) ?_
  refine lv_tableIn (off := 60) (tgt := 104) hx hb dX8_count_44 (by decide +kernel) (by decide +kernel) (by decide +kernel) (by decide) ?_
  refine lv_aload_n hx hb dX8_count_104 rfl (lv_at hl 0 rfl) ?_
  refine gf (k := 3) hx hb hts inX8 hown hK hP k_267 rfl (by decide) rfl 0 rfl (.ref a1) rfl dX8_count_105 ?_
  refine kV_i (q0 := 0) ⟨hx, hb, hml, hown, hts⟩ hK hP hD hS hA hX cv_RX8_227 [1, 2] [0] (wr := [(a0, .inr (8, [.ref a3, .ref a4, .ref a5, .ref a1, .ref a6, .ref a7, .ref a8, .ref a9]))]) rfl rfl rfl rfl (by decide) (c291_X6_allElements l dC dI cI cJ cII cJJ s.heap.size 0 a1 a2 a10 a11) ⟨by decide +kernel, by decide +kernel⟩ rfl rfl (Or.inl rfl) (rest := []) rfl rfl rfl hl.1 rfl (Nat.le_of_ble_eq_true rfl) dX8_count_108 ⟨Nat.le_of_ble_eq_true rfl, Nat.le_of_ble_eq_true rfl⟩ (W' := [(a0, .inr (8, [.ref a3, .ref a4, .ref a5, .ref a1, .ref a6, .ref a7, .ref a8, .ref a9])), (a1, .inr (6, [.ref a10, .ref a11, .ref a2])), (a2, .inl (cI, 4, .inl (tb [(-1), (-1), (-1), (-1)])))]) rfl (fun H locs hP hD hS => ?_)
  exact r_i hx hb hr hk hK (hP.sub [] rfl) (hD.sub [] rfl rfl) hS dX8_count_111
set_option maxRecDepth 100000 in
set_option maxHeartbeats 4000000 in
theorem c292_X8_count (l : Launch) (dC : Nat → ClassId) (dI : Nat → Nat → Nat) (cI cJ cII cJJ : ClassId) (sz g a0 a1 a2 a3 a4 a5 a6 a7 a8 a9 a10 a11 a12 a13 a14 : Nat) : Met l yX8_count (.code yX8_count cX8_count 2 (some .int) :: TT) ({ frames := 3, cells := 0, slots := 0, locals := 140 }) (PcS dC dI (TY cI cJ cII cJJ) [.ref a0, .int 6] [(a0, .inr (8, [.ref a1, .ref a3, .ref a4, .ref a5, .ref a2, .ref a6, .ref a7, .ref a8])), (a1, .inr (3, [.int 1, .int 0, .ref a9, .ref a10, .ref a11, .ref a12, .ref a13, .ref a14])), (a2, .inl (cI, 4, .inl (tb [])))] sz 0 g) ((QcI dC dI (TY cI cJ cII cJJ) 0 []) (va_A [(a0, .inr (8, [.ref a1, .ref a3, .ref a4, .ref a5, .ref a2, .ref a6, .ref a7, .ref a8])), (a1, .inr (3, [.int 1, .int 0, .ref a9, .ref a10, .ref a11, .ref a12, .ref a13, .ref a14])), (a2, .inl (cI, 4, .inl (tb [])))] sz)) 0 0 (va_A [(a0, .inr (8, [.ref a1, .ref a3, .ref a4, .ref a5, .ref a2, .ref a6, .ref a7, .ref a8])), (a1, .inr (3, [.int 1, .int 0, .ref a9, .ref a10, .ref a11, .ref a12, .ref a13, .ref a14])), (a2, .inl (cI, 4, .inl (tb [])))] sz) := by
  refine SM.of (y := yX8_count) (maxL := 2) (av := [.ref a0, .int 6]) (QcI dC dI (TY cI cJ cII cJJ) 0 []) (by decide +kernel) (Nat.le_of_ble_eq_true rfl) (fun p e s m below meth c A ls hx hb hr hml hown hts hk hnm hA hK hP hD hS hX hl => ?_)
  have hown : s.vm.findClass RX8 = some m.cls := hown
  have hl : lv_has ls 2 [(0, .ref a0), (1, .int 6)] := hl
  refine lv_iload_n hx hb dX8_count_0 rfl (lv_at hl 1 rfl) ?_
  refine lv_iconst (v := 2) hx hb dX8_count_1 (by decide) ?_
  refine f_icmp_lt hx hb dX8_count_2 21 (by decide) (by decide +kernel) ?_
  refine lv_iload_n hx hb dX8_count_5 rfl (lv_at hl 1 rfl) ?_
  refine lv_iconst (v := 5) hx hb dX8_count_6 (by decide) ?_
  refine t_icmp_ge hx hb dX8_count_7 21 (by decide) (by decide +kernel) ?_
  refine lv_iload_n hx hb dX8_count_21 rfl (lv_at hl 1 rfl) ?_
  refine lv_bipush (v := 10) hx hb dX8_count_22 (by decide) ?_
  refine t_icmp_le hx hb dX8_count_24 43 (by decide) (by decide +kernel) ?_
  refine lv_iload_n hx hb dX8_count_43 rfl (lv_at hl 1 rfl) ?_
  refine lv_tableIn (off := 68) (tgt := 112) hx hb dX8_count_44 (by decide +kernel) (by decide +kernel) (by decide +kernel) (by decide) ?_
  refine lv_aload_n hx hb dX8_count_112 rfl (lv_at hl 0 rfl) ?_
  refine gf (k := 0) hx hb hts inX8 hown hK hP k_264 rfl (by decide) rfl 0 rfl (.ref a1) rfl dX8_count_113 ?_
  refine lv_aload_n hx hb dX8_count_116 rfl (lv_at hl 0 rfl) ?_
  refine gf (k := 4) hx hb hts inX8 hown hK hP k_268 rfl (by decide) rfl 0 rfl (.ref a2) rfl dX8_count_117 ?_
  refine kV_i (q0 := 0) ⟨hx, hb, hml, hown, hts⟩ hK hP hD hS hA hX cv_RX8_170 [1, 2] [0] (wr := [(a0, .inr (8, [.ref a1, .ref a3, .ref a4, .ref a5, .ref a2, .ref a6, .ref a7, .ref a8]))]) rfl rfl rfl rfl (by decide) (c171_X3_isStep l dC dI cI cJ cII cJJ s.heap.size 0 a1 a2 a9 a10 a11 a12 a13 a14) ⟨by decide +kernel, by decide +kernel⟩ rfl rfl (Or.inl rfl) (rest := []) rfl rfl rfl hl.1 rfl (Nat.le_of_ble_eq_true rfl) dX8_count_120 ⟨Nat.le_of_ble_eq_true rfl, Nat.le_of_ble_eq_true rfl⟩ (W' := [(a0, .inr (8, [.ref a1, .ref a3, .ref a4, .ref a5, .ref a2, .ref a6, .ref a7, .ref a8])), (a1, .inr (3, [.int 1, .int 0, .ref a9, .ref a10, .ref a11, .ref a12, .ref a13, .ref a14])), (a2, .inl (cI, 4, .inl (tb [])))]) rfl (fun H locs hP hD hS => ?_)
  refine t_if_eq hx hb dX8_count_123 145 (by decide) (by decide +kernel) ?_
  refine lv_iconst (v := 0) hx hb dX8_count_145 (by decide) ?_
  exact r_i hx hb hr hk hK (hP.sub [] rfl) (hD.sub [] rfl rfl) hS dX8_count_146
set_option maxRecDepth 100000 in
set_option maxHeartbeats 4000000 in
theorem c293_X8_count (l : Launch) (dC : Nat → ClassId) (dI : Nat → Nat → Nat) (cI cJ cII cJJ : ClassId) (sz g a0 a1 a2 a3 a4 a5 a6 a7 a8 : Nat) (x0 : Int32) (h_x0 : 7 ≤ x0.toInt ∧ x0.toInt ≤ 10) : Met l yX8_count (.code yX8_count cX8_count 2 (some .int) :: TT) ({ frames := 2, cells := 0, slots := 0, locals := 80 }) (PcS dC dI (TY cI cJ cII cJJ) [.ref a0, .int x0] [(a0, .inr (8, [.ref a1, .ref a2, .ref a3, .ref a4, .ref a5, .ref a6, .ref a7, .ref a8]))] sz 0 g) ((QcI dC dI (TY cI cJ cII cJJ) (-99999) []) (va_A [(a0, .inr (8, [.ref a1, .ref a2, .ref a3, .ref a4, .ref a5, .ref a6, .ref a7, .ref a8]))] sz)) 0 0 (va_A [(a0, .inr (8, [.ref a1, .ref a2, .ref a3, .ref a4, .ref a5, .ref a6, .ref a7, .ref a8]))] sz) := by
  refine SM.of (y := yX8_count) (maxL := 2) (av := [.ref a0, .int x0]) (QcI dC dI (TY cI cJ cII cJJ) (-99999) []) (by decide +kernel) (Nat.le_of_ble_eq_true rfl) (fun p e s m below meth c A ls hx hb hr hml hown hts hk hnm hA hK hP hD hS hX hl => ?_)
  have hown : s.vm.findClass RX8 = some m.cls := hown
  have hl : lv_has ls 2 [(0, .ref a0), (1, .int x0)] := hl
  refine lv_iload_n hx hb dX8_count_0 rfl (lv_at hl 1 rfl) ?_
  refine lv_iconst (v := 2) hx hb dX8_count_1 (by decide) ?_
  refine f_icmp_lt hx hb dX8_count_2 21 (by decide) (p_nlt (by rw [show (2 : Int32).toInt = 2 from by decide +kernel]; omega)) ?_
  refine lv_iload_n hx hb dX8_count_5 rfl (lv_at hl 1 rfl) ?_
  refine lv_iconst (v := 5) hx hb dX8_count_6 (by decide) ?_
  refine t_icmp_ge hx hb dX8_count_7 21 (by decide) (p_le (by rw [show (5 : Int32).toInt = 5 from by decide +kernel]; omega)) ?_
  refine lv_iload_n hx hb dX8_count_21 rfl (lv_at hl 1 rfl) ?_
  refine lv_bipush (v := 10) hx hb dX8_count_22 (by decide) ?_
  refine t_icmp_le hx hb dX8_count_24 43 (by decide) (p_le (by rw [show (10 : Int32).toInt = 10 from by decide +kernel]; omega)) ?_
  refine lv_iload_n hx hb dX8_count_43 rfl (lv_at hl 1 rfl) ?_
  refine lv_tableOut (tgt := 147) hx hb dX8_count_44 (by omega) (by decide) ?_
  refine lv_ldc (v := (-99999)) hx hb hown (hts _ k_543) dX8_count_147 ?_
  exact r_i hx hb hr hk hK (hP.sub [] rfl) (hD.sub [] rfl rfl) hS dX8_count_149
set_option maxRecDepth 100000 in
set_option maxHeartbeats 4000000 in
theorem c294_X8_count (l : Launch) (dC : Nat → ClassId) (dI : Nat → Nat → Nat) (cI cJ cII cJJ : ClassId) (sz g a0 a1 a2 a3 a4 a5 a6 a7 a8 : Nat) : Met l yX8_count (.code yX8_count cX8_count 2 (some .int) :: TT) ({ frames := 2, cells := 0, slots := 0, locals := 80 }) (PcS dC dI (TY cI cJ cII cJJ) [.ref a0, .int 11] [(a0, .inr (8, [.ref a2, .ref a3, .ref a4, .ref a5, .ref a6, .ref a7, .ref a8, .ref a1])), (a1, .inl (cI, 8, .inl (tb [])))] sz 0 g) ((QcI dC dI (TY cI cJ cII cJJ) 0 []) (va_A [(a0, .inr (8, [.ref a2, .ref a3, .ref a4, .ref a5, .ref a6, .ref a7, .ref a8, .ref a1])), (a1, .inl (cI, 8, .inl (tb [])))] sz)) 0 0 (va_A [(a0, .inr (8, [.ref a2, .ref a3, .ref a4, .ref a5, .ref a6, .ref a7, .ref a8, .ref a1])), (a1, .inl (cI, 8, .inl (tb [])))] sz) := by
  refine SM.of (y := yX8_count) (maxL := 2) (av := [.ref a0, .int 11]) (QcI dC dI (TY cI cJ cII cJJ) 0 []) (by decide +kernel) (Nat.le_of_ble_eq_true rfl) (fun p e s m below meth c A ls hx hb hr hml hown hts hk hnm hA hK hP hD hS hX hl => ?_)
  have hown : s.vm.findClass RX8 = some m.cls := hown
  have hl : lv_has ls 2 [(0, .ref a0), (1, .int 11)] := hl
  refine lv_iload_n hx hb dX8_count_0 rfl (lv_at hl 1 rfl) ?_
  refine lv_iconst (v := 2) hx hb dX8_count_1 (by decide) ?_
  refine f_icmp_lt hx hb dX8_count_2 21 (by decide) (by decide +kernel) ?_
  refine lv_iload_n hx hb dX8_count_5 rfl (lv_at hl 1 rfl) ?_
  refine lv_iconst (v := 5) hx hb dX8_count_6 (by decide) ?_
  refine t_icmp_ge hx hb dX8_count_7 21 (by decide) (by decide +kernel) ?_
  refine lv_iload_n hx hb dX8_count_21 rfl (lv_at hl 1 rfl) ?_
  refine lv_bipush (v := 10) hx hb dX8_count_22 (by decide) ?_
  refine f_icmp_le hx hb dX8_count_24 43 (by decide) (by decide +kernel) ?_
  refine lv_iload_n hx hb dX8_count_27 rfl (lv_at hl 1 rfl) ?_
  refine lv_bipush (v := 17) hx hb dX8_count_28 (by decide) ?_
  refine f_icmp_gt hx hb dX8_count_30 43 (by decide) (by decide +kernel) ?_
  refine lv_aload_n hx hb dX8_count_33 rfl (lv_at hl 0 rfl) ?_
  refine gf (k := 7) hx hb hts inX8 hown hK hP k_271 rfl (by decide) rfl 0 rfl (.ref a1) rfl dX8_count_34 ?_
  refine lv_iload_n hx hb dX8_count_37 rfl (lv_at hl 1 rfl) ?_
  refine lv_bipush (v := 10) hx hb dX8_count_38 (by decide) ?_
  refine v_isub hx hb dX8_count_40 1 (by decide +kernel) ?_
  refine ld_i hx hb hK hP 1 rfl (vin (by decide +kernel)) dX8_count_41 0 rfl ?_
  exact r_i hx hb hr hk hK (hP.sub [] rfl) (hD.sub [] rfl rfl) hS dX8_count_42
set_option maxRecDepth 100000 in
set_option maxHeartbeats 4000000 in
theorem c295_X8_count (l : Launch) (dC : Nat → ClassId) (dI : Nat → Nat → Nat) (cI cJ cII cJJ : ClassId) (sz g a0 a1 a2 a3 a4 a5 a6 a7 a8 : Nat) : Met l yX8_count (.code yX8_count cX8_count 2 (some .int) :: TT) ({ frames := 2, cells := 0, slots := 0, locals := 80 }) (PcS dC dI (TY cI cJ cII cJJ) [.ref a0, .int 12] [(a0, .inr (8, [.ref a2, .ref a3, .ref a4, .ref a5, .ref a6, .ref a7, .ref a8, .ref a1])), (a1, .inl (cI, 8, .inl (tb [])))] sz 0 g) ((QcI dC dI (TY cI cJ cII cJJ) 0 []) (va_A [(a0, .inr (8, [.ref a2, .ref a3, .ref a4, .ref a5, .ref a6, .ref a7, .ref a8, .ref a1])), (a1, .inl (cI, 8, .inl (tb [])))] sz)) 0 0 (va_A [(a0, .inr (8, [.ref a2, .ref a3, .ref a4, .ref a5, .ref a6, .ref a7, .ref a8, .ref a1])), (a1, .inl (cI, 8, .inl (tb [])))] sz) := by
  refine SM.of (y := yX8_count) (maxL := 2) (av := [.ref a0, .int 12]) (QcI dC dI (TY cI cJ cII cJJ) 0 []) (by decide +kernel) (Nat.le_of_ble_eq_true rfl) (fun p e s m below meth c A ls hx hb hr hml hown hts hk hnm hA hK hP hD hS hX hl => ?_)
  have hown : s.vm.findClass RX8 = some m.cls := hown
  have hl : lv_has ls 2 [(0, .ref a0), (1, .int 12)] := hl
  refine lv_iload_n hx hb dX8_count_0 rfl (lv_at hl 1 rfl) ?_
  refine lv_iconst (v := 2) hx hb dX8_count_1 (by decide) ?_
  refine f_icmp_lt hx hb dX8_count_2 21 (by decide) (by decide +kernel) ?_
  refine lv_iload_n hx hb dX8_count_5 rfl (lv_at hl 1 rfl) ?_
  refine lv_iconst (v := 5) hx hb dX8_count_6 (by decide) ?_
  refine t_icmp_ge hx hb dX8_count_7 21 (by decide) (by decide +kernel) ?_
  refine lv_iload_n hx hb dX8_count_21 rfl (lv_at hl 1 rfl) ?_
  refine lv_bipush (v := 10) hx hb dX8_count_22 (by decide) ?_
  refine f_icmp_le hx hb dX8_count_24 43 (by decide) (by decide +kernel) ?_
  refine lv_iload_n hx hb dX8_count_27 rfl (lv_at hl 1 rfl) ?_
  refine lv_bipush (v := 17) hx hb dX8_count_28 (by decide) ?_
  refine f_icmp_gt hx hb dX8_count_30 43 (by decide) (by decide +kernel) ?_
  refine lv_aload_n hx hb dX8_count_33 rfl (lv_at hl 0 rfl) ?_
  refine gf (k := 7) hx hb hts inX8 hown hK hP k_271 rfl (by decide) rfl 0 rfl (.ref a1) rfl dX8_count_34 ?_
  refine lv_iload_n hx hb dX8_count_37 rfl (lv_at hl 1 rfl) ?_
  refine lv_bipush (v := 10) hx hb dX8_count_38 (by decide) ?_
  refine v_isub hx hb dX8_count_40 2 (by decide +kernel) ?_
  refine ld_i hx hb hK hP 1 rfl (vin (by decide +kernel)) dX8_count_41 0 rfl ?_
  exact r_i hx hb hr hk hK (hP.sub [] rfl) (hD.sub [] rfl rfl) hS dX8_count_42
set_option maxRecDepth 100000 in
set_option maxHeartbeats 4000000 in
theorem c296_X8_count (l : Launch) (dC : Nat → ClassId) (dI : Nat → Nat → Nat) (cI cJ cII cJJ : ClassId) (sz g a0 a1 a2 a3 a4 a5 a6 a7 a8 : Nat) : Met l yX8_count (.code yX8_count cX8_count 2 (some .int) :: TT) ({ frames := 2, cells := 0, slots := 0, locals := 80 }) (PcS dC dI (TY cI cJ cII cJJ) [.ref a0, .int 13] [(a0, .inr (8, [.ref a2, .ref a3, .ref a4, .ref a5, .ref a6, .ref a7, .ref a8, .ref a1])), (a1, .inl (cI, 8, .inl (tb [])))] sz 0 g) ((QcI dC dI (TY cI cJ cII cJJ) 0 []) (va_A [(a0, .inr (8, [.ref a2, .ref a3, .ref a4, .ref a5, .ref a6, .ref a7, .ref a8, .ref a1])), (a1, .inl (cI, 8, .inl (tb [])))] sz)) 0 0 (va_A [(a0, .inr (8, [.ref a2, .ref a3, .ref a4, .ref a5, .ref a6, .ref a7, .ref a8, .ref a1])), (a1, .inl (cI, 8, .inl (tb [])))] sz) := by
  refine SM.of (y := yX8_count) (maxL := 2) (av := [.ref a0, .int 13]) (QcI dC dI (TY cI cJ cII cJJ) 0 []) (by decide +kernel) (Nat.le_of_ble_eq_true rfl) (fun p e s m below meth c A ls hx hb hr hml hown hts hk hnm hA hK hP hD hS hX hl => ?_)
  have hown : s.vm.findClass RX8 = some m.cls := hown
  have hl : lv_has ls 2 [(0, .ref a0), (1, .int 13)] := hl
  refine lv_iload_n hx hb dX8_count_0 rfl (lv_at hl 1 rfl) ?_
  refine lv_iconst (v := 2) hx hb dX8_count_1 (by decide) ?_
  refine f_icmp_lt hx hb dX8_count_2 21 (by decide) (by decide +kernel) ?_
  refine lv_iload_n hx hb dX8_count_5 rfl (lv_at hl 1 rfl) ?_
  refine lv_iconst (v := 5) hx hb dX8_count_6 (by decide) ?_
  refine t_icmp_ge hx hb dX8_count_7 21 (by decide) (by decide +kernel) ?_
  refine lv_iload_n hx hb dX8_count_21 rfl (lv_at hl 1 rfl) ?_
  refine lv_bipush (v := 10) hx hb dX8_count_22 (by decide) ?_
  refine f_icmp_le hx hb dX8_count_24 43 (by decide) (by decide +kernel) ?_
  refine lv_iload_n hx hb dX8_count_27 rfl (lv_at hl 1 rfl) ?_
  refine lv_bipush (v := 17) hx hb dX8_count_28 (by decide) ?_
  refine f_icmp_gt hx hb dX8_count_30 43 (by decide) (by decide +kernel) ?_
  refine lv_aload_n hx hb dX8_count_33 rfl (lv_at hl 0 rfl) ?_
  refine gf (k := 7) hx hb hts inX8 hown hK hP k_271 rfl (by decide) rfl 0 rfl (.ref a1) rfl dX8_count_34 ?_
  refine lv_iload_n hx hb dX8_count_37 rfl (lv_at hl 1 rfl) ?_
  refine lv_bipush (v := 10) hx hb dX8_count_38 (by decide) ?_
  refine v_isub hx hb dX8_count_40 3 (by decide +kernel) ?_
  refine ld_i hx hb hK hP 1 rfl (vin (by decide +kernel)) dX8_count_41 0 rfl ?_
  exact r_i hx hb hr hk hK (hP.sub [] rfl) (hD.sub [] rfl rfl) hS dX8_count_42
set_option maxRecDepth 100000 in
set_option maxHeartbeats 4000000 in
theorem c297_X8_count (l : Launch) (dC : Nat → ClassId) (dI : Nat → Nat → Nat) (cI cJ cII cJJ : ClassId) (sz g a0 a1 a2 a3 a4 a5 a6 a7 a8 : Nat) : Met l yX8_count (.code yX8_count cX8_count 2 (some .int) :: TT) ({ frames := 2, cells := 0, slots := 0, locals := 80 }) (PcS dC dI (TY cI cJ cII cJJ) [.ref a0, .int 14] [(a0, .inr (8, [.ref a2, .ref a3, .ref a4, .ref a5, .ref a6, .ref a7, .ref a8, .ref a1])), (a1, .inl (cI, 8, .inl (tb [])))] sz 0 g) ((QcI dC dI (TY cI cJ cII cJJ) 0 []) (va_A [(a0, .inr (8, [.ref a2, .ref a3, .ref a4, .ref a5, .ref a6, .ref a7, .ref a8, .ref a1])), (a1, .inl (cI, 8, .inl (tb [])))] sz)) 0 0 (va_A [(a0, .inr (8, [.ref a2, .ref a3, .ref a4, .ref a5, .ref a6, .ref a7, .ref a8, .ref a1])), (a1, .inl (cI, 8, .inl (tb [])))] sz) := by
  refine SM.of (y := yX8_count) (maxL := 2) (av := [.ref a0, .int 14]) (QcI dC dI (TY cI cJ cII cJJ) 0 []) (by decide +kernel) (Nat.le_of_ble_eq_true rfl) (fun p e s m below meth c A ls hx hb hr hml hown hts hk hnm hA hK hP hD hS hX hl => ?_)
  have hown : s.vm.findClass RX8 = some m.cls := hown
  have hl : lv_has ls 2 [(0, .ref a0), (1, .int 14)] := hl
  refine lv_iload_n hx hb dX8_count_0 rfl (lv_at hl 1 rfl) ?_
  refine lv_iconst (v := 2) hx hb dX8_count_1 (by decide) ?_
  refine f_icmp_lt hx hb dX8_count_2 21 (by decide) (by decide +kernel) ?_
  refine lv_iload_n hx hb dX8_count_5 rfl (lv_at hl 1 rfl) ?_
  refine lv_iconst (v := 5) hx hb dX8_count_6 (by decide) ?_
  refine t_icmp_ge hx hb dX8_count_7 21 (by decide) (by decide +kernel) ?_
  refine lv_iload_n hx hb dX8_count_21 rfl (lv_at hl 1 rfl) ?_
  refine lv_bipush (v := 10) hx hb dX8_count_22 (by decide) ?_
  refine f_icmp_le hx hb dX8_count_24 43 (by decide) (by decide +kernel) ?_
  refine lv_iload_n hx hb dX8_count_27 rfl (lv_at hl 1 rfl) ?_
  refine lv_bipush (v := 17) hx hb dX8_count_28 (by decide) ?_
  refine f_icmp_gt hx hb dX8_count_30 43 (by decide) (by decide +kernel) ?_
  refine lv_aload_n hx hb dX8_count_33 rfl (lv_at hl 0 rfl) ?_
  refine gf (k := 7) hx hb hts inX8 hown hK hP k_271 rfl (by decide) rfl 0 rfl (.ref a1) rfl dX8_count_34 ?_
  refine lv_iload_n hx hb dX8_count_37 rfl (lv_at hl 1 rfl) ?_
  refine lv_bipush (v := 10) hx hb dX8_count_38 (by decide) ?_
  refine v_isub hx hb dX8_count_40 4 (by decide +kernel) ?_
  refine ld_i hx hb hK hP 1 rfl (vin (by decide +kernel)) dX8_count_41 0 rfl ?_
  exact r_i hx hb hr hk hK (hP.sub [] rfl) (hD.sub [] rfl rfl) hS dX8_count_42
set_option maxRecDepth 100000 in
set_option maxHeartbeats 4000000 in
theorem c298_X8_count (l : Launch) (dC : Nat → ClassId) (dI : Nat → Nat → Nat) (cI cJ cII cJJ : ClassId) (sz g a0 a1 a2 a3 a4 a5 a6 a7 a8 : Nat) : Met l yX8_count (.code yX8_count cX8_count 2 (some .int) :: TT) ({ frames := 2, cells := 0, slots := 0, locals := 80 }) (PcS dC dI (TY cI cJ cII cJJ) [.ref a0, .int 15] [(a0, .inr (8, [.ref a2, .ref a3, .ref a4, .ref a5, .ref a6, .ref a7, .ref a8, .ref a1])), (a1, .inl (cI, 8, .inl (tb [])))] sz 0 g) ((QcI dC dI (TY cI cJ cII cJJ) 0 []) (va_A [(a0, .inr (8, [.ref a2, .ref a3, .ref a4, .ref a5, .ref a6, .ref a7, .ref a8, .ref a1])), (a1, .inl (cI, 8, .inl (tb [])))] sz)) 0 0 (va_A [(a0, .inr (8, [.ref a2, .ref a3, .ref a4, .ref a5, .ref a6, .ref a7, .ref a8, .ref a1])), (a1, .inl (cI, 8, .inl (tb [])))] sz) := by
  refine SM.of (y := yX8_count) (maxL := 2) (av := [.ref a0, .int 15]) (QcI dC dI (TY cI cJ cII cJJ) 0 []) (by decide +kernel) (Nat.le_of_ble_eq_true rfl) (fun p e s m below meth c A ls hx hb hr hml hown hts hk hnm hA hK hP hD hS hX hl => ?_)
  have hown : s.vm.findClass RX8 = some m.cls := hown
  have hl : lv_has ls 2 [(0, .ref a0), (1, .int 15)] := hl
  refine lv_iload_n hx hb dX8_count_0 rfl (lv_at hl 1 rfl) ?_
  refine lv_iconst (v := 2) hx hb dX8_count_1 (by decide) ?_
  refine f_icmp_lt hx hb dX8_count_2 21 (by decide) (by decide +kernel) ?_
  refine lv_iload_n hx hb dX8_count_5 rfl (lv_at hl 1 rfl) ?_
  refine lv_iconst (v := 5) hx hb dX8_count_6 (by decide) ?_
  refine t_icmp_ge hx hb dX8_count_7 21 (by decide) (by decide +kernel) ?_
  refine lv_iload_n hx hb dX8_count_21 rfl (lv_at hl 1 rfl) ?_
  refine lv_bipush (v := 10) hx hb dX8_count_22 (by decide) ?_
  refine f_icmp_le hx hb dX8_count_24 43 (by decide) (by decide +kernel) ?_
  refine lv_iload_n hx hb dX8_count_27 rfl (lv_at hl 1 rfl) ?_
  refine lv_bipush (v := 17) hx hb dX8_count_28 (by decide) ?_
  refine f_icmp_gt hx hb dX8_count_30 43 (by decide) (by decide +kernel) ?_
  refine lv_aload_n hx hb dX8_count_33 rfl (lv_at hl 0 rfl) ?_
  refine gf (k := 7) hx hb hts inX8 hown hK hP k_271 rfl (by decide) rfl 0 rfl (.ref a1) rfl dX8_count_34 ?_
  refine lv_iload_n hx hb dX8_count_37 rfl (lv_at hl 1 rfl) ?_
  refine lv_bipush (v := 10) hx hb dX8_count_38 (by decide) ?_
  refine v_isub hx hb dX8_count_40 5 (by decide +kernel) ?_
  refine ld_i hx hb hK hP 1 rfl (vin (by decide +kernel)) dX8_count_41 0 rfl ?_
  exact r_i hx hb hr hk hK (hP.sub [] rfl) (hD.sub [] rfl rfl) hS dX8_count_42
set_option maxRecDepth 100000 in
set_option maxHeartbeats 4000000 in
theorem c299_X8_count (l : Launch) (dC : Nat → ClassId) (dI : Nat → Nat → Nat) (cI cJ cII cJJ : ClassId) (sz g a0 a1 a2 a3 a4 a5 a6 a7 a8 : Nat) : Met l yX8_count (.code yX8_count cX8_count 2 (some .int) :: TT) ({ frames := 2, cells := 0, slots := 0, locals := 80 }) (PcS dC dI (TY cI cJ cII cJJ) [.ref a0, .int 16] [(a0, .inr (8, [.ref a2, .ref a3, .ref a4, .ref a5, .ref a6, .ref a7, .ref a8, .ref a1])), (a1, .inl (cI, 8, .inl (tb [])))] sz 0 g) ((QcI dC dI (TY cI cJ cII cJJ) 0 []) (va_A [(a0, .inr (8, [.ref a2, .ref a3, .ref a4, .ref a5, .ref a6, .ref a7, .ref a8, .ref a1])), (a1, .inl (cI, 8, .inl (tb [])))] sz)) 0 0 (va_A [(a0, .inr (8, [.ref a2, .ref a3, .ref a4, .ref a5, .ref a6, .ref a7, .ref a8, .ref a1])), (a1, .inl (cI, 8, .inl (tb [])))] sz) := by
  refine SM.of (y := yX8_count) (maxL := 2) (av := [.ref a0, .int 16]) (QcI dC dI (TY cI cJ cII cJJ) 0 []) (by decide +kernel) (Nat.le_of_ble_eq_true rfl) (fun p e s m below meth c A ls hx hb hr hml hown hts hk hnm hA hK hP hD hS hX hl => ?_)
  have hown : s.vm.findClass RX8 = some m.cls := hown
  have hl : lv_has ls 2 [(0, .ref a0), (1, .int 16)] := hl
  refine lv_iload_n hx hb dX8_count_0 rfl (lv_at hl 1 rfl) ?_
  refine lv_iconst (v := 2) hx hb dX8_count_1 (by decide) ?_
  refine f_icmp_lt hx hb dX8_count_2 21 (by decide) (by decide +kernel) ?_
  refine lv_iload_n hx hb dX8_count_5 rfl (lv_at hl 1 rfl) ?_
  refine lv_iconst (v := 5) hx hb dX8_count_6 (by decide) ?_
  refine t_icmp_ge hx hb dX8_count_7 21 (by decide) (by decide +kernel) ?_
  refine lv_iload_n hx hb dX8_count_21 rfl (lv_at hl 1 rfl) ?_
  refine lv_bipush (v := 10) hx hb dX8_count_22 (by decide) ?_
  refine f_icmp_le hx hb dX8_count_24 43 (by decide) (by decide +kernel) ?_
  refine lv_iload_n hx hb dX8_count_27 rfl (lv_at hl 1 rfl) ?_
  refine lv_bipush (v := 17) hx hb dX8_count_28 (by decide) ?_
  refine f_icmp_gt hx hb dX8_count_30 43 (by decide) (by decide +kernel) ?_
  refine lv_aload_n hx hb dX8_count_33 rfl (lv_at hl 0 rfl) ?_
  refine gf (k := 7) hx hb hts inX8 hown hK hP k_271 rfl (by decide) rfl 0 rfl (.ref a1) rfl dX8_count_34 ?_
  refine lv_iload_n hx hb dX8_count_37 rfl (lv_at hl 1 rfl) ?_
  refine lv_bipush (v := 10) hx hb dX8_count_38 (by decide) ?_
  refine v_isub hx hb dX8_count_40 6 (by decide +kernel) ?_
  refine ld_i hx hb hK hP 1 rfl (vin (by decide +kernel)) dX8_count_41 0 rfl ?_
  exact r_i hx hb hr hk hK (hP.sub [] rfl) (hD.sub [] rfl rfl) hS dX8_count_42
set_option maxRecDepth 100000 in
set_option maxHeartbeats 4000000 in
theorem c300_X8_count (l : Launch) (dC : Nat → ClassId) (dI : Nat → Nat → Nat) (cI cJ cII cJJ : ClassId) (sz g a0 a1 a2 a3 a4 a5 a6 a7 a8 : Nat) : Met l yX8_count (.code yX8_count cX8_count 2 (some .int) :: TT) ({ frames := 2, cells := 0, slots := 0, locals := 80 }) (PcS dC dI (TY cI cJ cII cJJ) [.ref a0, .int 17] [(a0, .inr (8, [.ref a2, .ref a3, .ref a4, .ref a5, .ref a6, .ref a7, .ref a8, .ref a1])), (a1, .inl (cI, 8, .inl (tb [])))] sz 0 g) ((QcI dC dI (TY cI cJ cII cJJ) 0 []) (va_A [(a0, .inr (8, [.ref a2, .ref a3, .ref a4, .ref a5, .ref a6, .ref a7, .ref a8, .ref a1])), (a1, .inl (cI, 8, .inl (tb [])))] sz)) 0 0 (va_A [(a0, .inr (8, [.ref a2, .ref a3, .ref a4, .ref a5, .ref a6, .ref a7, .ref a8, .ref a1])), (a1, .inl (cI, 8, .inl (tb [])))] sz) := by
  refine SM.of (y := yX8_count) (maxL := 2) (av := [.ref a0, .int 17]) (QcI dC dI (TY cI cJ cII cJJ) 0 []) (by decide +kernel) (Nat.le_of_ble_eq_true rfl) (fun p e s m below meth c A ls hx hb hr hml hown hts hk hnm hA hK hP hD hS hX hl => ?_)
  have hown : s.vm.findClass RX8 = some m.cls := hown
  have hl : lv_has ls 2 [(0, .ref a0), (1, .int 17)] := hl
  refine lv_iload_n hx hb dX8_count_0 rfl (lv_at hl 1 rfl) ?_
  refine lv_iconst (v := 2) hx hb dX8_count_1 (by decide) ?_
  refine f_icmp_lt hx hb dX8_count_2 21 (by decide) (by decide +kernel) ?_
  refine lv_iload_n hx hb dX8_count_5 rfl (lv_at hl 1 rfl) ?_
  refine lv_iconst (v := 5) hx hb dX8_count_6 (by decide) ?_
  refine t_icmp_ge hx hb dX8_count_7 21 (by decide) (by decide +kernel) ?_
  refine lv_iload_n hx hb dX8_count_21 rfl (lv_at hl 1 rfl) ?_
  refine lv_bipush (v := 10) hx hb dX8_count_22 (by decide) ?_
  refine f_icmp_le hx hb dX8_count_24 43 (by decide) (by decide +kernel) ?_
  refine lv_iload_n hx hb dX8_count_27 rfl (lv_at hl 1 rfl) ?_
  refine lv_bipush (v := 17) hx hb dX8_count_28 (by decide) ?_
  refine f_icmp_gt hx hb dX8_count_30 43 (by decide) (by decide +kernel) ?_
  refine lv_aload_n hx hb dX8_count_33 rfl (lv_at hl 0 rfl) ?_
  refine gf (k := 7) hx hb hts inX8 hown hK hP k_271 rfl (by decide) rfl 0 rfl (.ref a1) rfl dX8_count_34 ?_
  refine lv_iload_n hx hb dX8_count_37 rfl (lv_at hl 1 rfl) ?_
  refine lv_bipush (v := 10) hx hb dX8_count_38 (by decide) ?_
  refine v_isub hx hb dX8_count_40 7 (by decide +kernel) ?_
  refine ld_i hx hb hK hP 1 rfl (vin (by decide +kernel)) dX8_count_41 0 rfl ?_
  exact r_i hx hb hr hk hK (hP.sub [] rfl) (hD.sub [] rfl rfl) hS dX8_count_42
set_option maxRecDepth 100000 in
set_option maxHeartbeats 4000000 in
theorem c301_X8_count (l : Launch) (dC : Nat → ClassId) (dI : Nat → Nat → Nat) (cI cJ cII cJJ : ClassId) (sz g a0 a1 a2 a3 a4 a5 a6 a7 a8 : Nat) (x0 : Int32) (h_x0 : 18 ≤ x0.toInt ∧ x0.toInt ≤ 2147483647) : Met l yX8_count (.code yX8_count cX8_count 2 (some .int) :: TT) ({ frames := 2, cells := 0, slots := 0, locals := 80 }) (PcS dC dI (TY cI cJ cII cJJ) [.ref a0, .int x0] [(a0, .inr (8, [.ref a1, .ref a2, .ref a3, .ref a4, .ref a5, .ref a6, .ref a7, .ref a8]))] sz 0 g) ((QcI dC dI (TY cI cJ cII cJJ) (-99999) []) (va_A [(a0, .inr (8, [.ref a1, .ref a2, .ref a3, .ref a4, .ref a5, .ref a6, .ref a7, .ref a8]))] sz)) 0 0 (va_A [(a0, .inr (8, [.ref a1, .ref a2, .ref a3, .ref a4, .ref a5, .ref a6, .ref a7, .ref a8]))] sz) := by
  refine SM.of (y := yX8_count) (maxL := 2) (av := [.ref a0, .int x0]) (QcI dC dI (TY cI cJ cII cJJ) (-99999) []) (by decide +kernel) (Nat.le_of_ble_eq_true rfl) (fun p e s m below meth c A ls hx hb hr hml hown hts hk hnm hA hK hP hD hS hX hl => ?_)
  have hown : s.vm.findClass RX8 = some m.cls := hown
  have hl : lv_has ls 2 [(0, .ref a0), (1, .int x0)] := hl
  refine lv_iload_n hx hb dX8_count_0 rfl (lv_at hl 1 rfl) ?_
  refine lv_iconst (v := 2) hx hb dX8_count_1 (by decide) ?_
  refine f_icmp_lt hx hb dX8_count_2 21 (by decide) (p_nlt (by rw [show (2 : Int32).toInt = 2 from by decide +kernel]; omega)) ?_
  refine lv_iload_n hx hb dX8_count_5 rfl (lv_at hl 1 rfl) ?_
  refine lv_iconst (v := 5) hx hb dX8_count_6 (by decide) ?_
  refine t_icmp_ge hx hb dX8_count_7 21 (by decide) (p_le (by rw [show (5 : Int32).toInt = 5 from by decide +kernel]; omega)) ?_
  refine lv_iload_n hx hb dX8_count_21 rfl (lv_at hl 1 rfl) ?_
  refine lv_bipush (v := 10) hx hb dX8_count_22 (by decide) ?_
  refine f_icmp_le hx hb dX8_count_24 43 (by decide) (p_nle (by rw [show (10 : Int32).toInt = 10 from by decide +kernel]; omega)) ?_
  refine lv_iload_n hx hb dX8_count_27 rfl (lv_at hl 1 rfl) ?_
  refine lv_bipush (v := 17) hx hb dX8_count_28 (by decide) ?_
  refine t_icmp_gt hx hb dX8_count_30 43 (by decide) (p_lt (by rw [show (17 : Int32).toInt = 17 from by decide +kernel]; omega)) ?_
  refine lv_iload_n hx hb dX8_count_43 rfl (lv_at hl 1 rfl) ?_
  refine lv_tableOut (tgt := 147) hx hb dX8_count_44 (by omega) (by decide) ?_
  refine lv_ldc (v := (-99999)) hx hb hown (hts _ k_543) dX8_count_147 ?_
  exact r_i hx hb hr hk hK (hP.sub [] rfl) (hD.sub [] rfl rfl) hS dX8_count_149
