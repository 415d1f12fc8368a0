set_option maxRecDepth 100000 in
set_option maxHeartbeats 4000000 in
theorem c448_X9_refuse (l : Launch) (dC : Nat → ClassId) (dI : Nat → Nat → Nat) (cI cJ cII cJJ : ClassId) (sz g a0 a1 a2 a3 a4 a5 a6 a7 a8 a9 a10 a11 a12 a13 a14 a15 a16 a17 a18 a19 a20 a21 a22 a23 a24 a25 a26 a27 : Nat) : Met l yX9_refuse (.code yX9_refuse cX9_refuse 2 (some .int) :: TT) ({ frames := 2, cells := 0, slots := 0, locals := 80 }) (PcS dC dI (TY cI cJ cII cJJ) [.ref a0, .int (-4)] [(a0, .inr (9, [.ref a2, .ref a3, .ref a4, .ref a5, .ref a6, .ref a7, .ref a8, .ref a1, .ref a9, .ref a10, .ref a11, .ref a12, .int 1, .int 0, .int 1, .ref a13, .ref a14, .ref a15, .ref a16, .ref a17, .ref a18, .int 2, .int 2, .ref a19, .ref a20, .ref a21, .ref a22, .int 0, .int 1, .ref a23, .ref a24, .ref a25, .ref a26, .int 0, .ref a27, .int 0])), (a1, .inl (cI, 8, .inl (tb [])))] sz 0 g) ((QcI dC dI (TY cI cJ cII cJJ) (-4) [(a0, .inr (9, [.ref a2, .ref a3, .ref a4, .ref a5, .ref a6, .ref a7, .ref a8, .ref a1, .ref a9, .ref a10, .ref a11, .ref a12, .int 1, .int 0, .int 1, .ref a13, .ref a14, .ref a15, .ref a16, .ref a17, .ref a18, .int 2, .int 2, .ref a19, .ref a20, .ref a21, .ref a22, .int 0, .int 1, .ref a23, .ref a24, .ref a25, .ref a26, .int 0, .ref a27, .int 0])), (a1, .inl (cI, 8, .inl (tb [0, 0, 0, 0, 1])))]) (va_A [(a0, .inr (9, [.ref a2, .ref a3, .ref a4, .ref a5, .ref a6, .ref a7, .ref a8, .ref a1, .ref a9, .ref a10, .ref a11, .ref a12, .int 1, .int 0, .int 1, .ref a13, .ref a14, .ref a15, .ref a16, .ref a17, .ref a18, .int 2, .int 2, .ref a19, .ref a20, .ref a21, .ref a22, .int 0, .int 1, .ref a23, .ref a24, .ref a25, .ref a26, .int 0, .ref a27, .int 0])), (a1, .inl (cI, 8, .inl (tb [])))] sz)) 0 0 (va_A [(a0, .inr (9, [.ref a2, .ref a3, .ref a4, .ref a5, .ref a6, .ref a7, .ref a8, .ref a1, .ref a9, .ref a10, .ref a11, .ref a12, .int 1, .int 0, .int 1, .ref a13, .ref a14, .ref a15, .ref a16, .ref a17, .ref a18, .int 2, .int 2, .ref a19, .ref a20, .ref a21, .ref a22, .int 0, .int 1, .ref a23, .ref a24, .ref a25, .ref a26, .int 0, .ref a27, .int 0])), (a1, .inl (cI, 8, .inl (tb [])))] sz) := by
  refine SM.of (y := yX9_refuse) (maxL := 2) (av := [.ref a0, .int (-4)]) (QcI dC dI (TY cI cJ cII cJJ) (-4) [(a0, .inr (9, [.ref a2, .ref a3, .ref a4, .ref a5, .ref a6, .ref a7, .ref a8, .ref a1, .ref a9, .ref a10, .ref a11, .ref a12, .int 1, .int 0, .int 1, .ref a13, .ref a14, .ref a15, .ref a16, .ref a17, .ref a18, .int 2, .int 2, .ref a19, .ref a20, .ref a21, .ref a22, .int 0, .int 1, .ref a23, .ref a24, .ref a25, .ref a26, .int 0, .ref a27, .int 0])), (a1, .inl (cI, 8, .inl (tb [0, 0, 0, 0, 1])))]) (by decide +kernel) (Nat.le_of_ble_eq_true rfl) (fun p e s m below meth c A ls hx hb hr hml hown hts hk hnm hA hK hP hD hS hX hl => ?_)
  have hown : s.vm.findClass RX9 = some m.cls := hown
  have hl : lv_has ls 2 [(0, .ref a0), (1, .int (-4))] := hl
  refine lv_aload_n hx hb dX9_refuse_0 rfl (lv_at hl 0 rfl) ?_
  refine gf (k := 7) hx hb hts inX9 hown hK hP k_802 rfl (by decide) rfl 0 rfl (.ref a1) rfl dX9_refuse_1 ?_
  refine lv_iload_n hx hb dX9_refuse_4 rfl (lv_at hl 1 rfl) ?_
  refine v_ineg hx hb dX9_refuse_5 4 (by decide +kernel) ?_
  refine lv_dup2_11 hx hb dX9_refuse_6 rfl rfl ?_
  refine ld_i hx hb hK hP 1 rfl (vin (by decide +kernel)) dX9_refuse_7 0 rfl ?_
  refine lv_iconst (v := 1) hx hb dX9_refuse_8 (by decide) ?_
  refine v_iadd hx hb dX9_refuse_9 1 (by decide +kernel) ?_
  refine st_i hx hb hK hP hD hS 1 rfl (vin (by decide +kernel)) dX9_refuse_10 (L' := [0, 0, 0, 0, 1]) rfl (W' := [(a0, .inr (9, [.ref a2, .ref a3, .ref a4, .ref a5, .ref a6, .ref a7, .ref a8, .ref a1, .ref a9, .ref a10, .ref a11, .ref a12, .int 1, .int 0, .int 1, .ref a13, .ref a14, .ref a15, .ref a16, .ref a17, .ref a18, .int 2, .int 2, .ref a19, .ref a20, .ref a21, .ref a22, .int 0, .int 1, .ref a23, .ref a24, .ref a25, .ref a26, .int 0, .ref a27, .int 0])), (a1, .inl (cI, 8, .inl (tb [0, 0, 0, 0, 1])))]) rfl (fun H locs hP hD hS => ?_)
  refine lv_iload_n hx hb dX9_refuse_11 rfl (lv_at hl 1 rfl) ?_
  exact r_i hx hb hr hk hK hP hD hS dX9_refuse_12
set_option maxRecDepth 100000 in
set_option maxHeartbeats 4000000 in
theorem c447_X9_adds (l : Launch) (dC : Nat → ClassId) (dI : Nat → Nat → Nat) (cI cJ cII cJJ : ClassId) (sz g a0 a1 a2 a3 a4 a5 a6 a7 a8 a9 a10 a11 a12 a13 a14 a15 a16 a17 a18 a19 a20 a21 a22 a23 a24 a25 a26 a27 : Nat) (x0 : Int64) (h_x0 : 10001 ≤ x0.toInt ∧ x0.toInt ≤ 2147483647) : Met l yX9_adds (.code yX9_adds cX9_adds 10 (some .int) :: TT) ({ frames := 3, cells := 0, slots := 0, locals := 140 }) (PcS dC dI (TY cI cJ cII cJJ) [.ref a0, .ref a2, .int 0, .long x0] [(a0, .inr (9, [.ref a4, .ref a5, .ref a6, .ref a7, .ref a8, .ref a9, .ref a1, .ref a3, .ref a10, .ref a11, .ref a12, .ref a13, .int 1, .int 0, .int 1, .ref a14, .ref a15, .ref a16, .ref a17, .ref a2, .ref a18, .int 2, .int 2, .ref a19, .ref a20, .ref a21, .ref a22, .int 0, .int 1, .ref a23, .ref a24, .ref a25, .ref a26, .int 0, .ref a27, .int 0])), (a1, .inl (cI, 4, .inl (tb [0, 0, 0, 0]))), (a2, .inl (cI, 24000, .inl (tb [(-1), 0, 0, 0, 1, 0, 0, 0]))), (a3, .inl (cI, 8, .inl (tb [])))] sz 0 g) ((QcI dC dI (TY cI cJ cII cJJ) (-4) []) (va_A [(a0, .inr (9, [.ref a4, .ref a5, .ref a6, .ref a7, .ref a8, .ref a9, .ref a1, .ref a3, .ref a10, .ref a11, .ref a12, .ref a13, .int 1, .int 0, .int 1, .ref a14, .ref a15, .ref a16, .ref a17, .ref a2, .ref a18, .int 2, .int 2, .ref a19, .ref a20, .ref a21, .ref a22, .int 0, .int 1, .ref a23, .ref a24, .ref a25, .ref a26, .int 0, .ref a27, .int 0])), (a1, .inl (cI, 4, .inl (tb [0, 0, 0, 0]))), (a2, .inl (cI, 24000, .inl (tb [(-1), 0, 0, 0, 1, 0, 0, 0]))), (a3, .inl (cI, 8, .inl (tb [])))] sz)) 0 0 (va_A [(a0, .inr (9, [.ref a4, .ref a5, .ref a6, .ref a7, .ref a8, .ref a9, .ref a1, .ref a3, .ref a10, .ref a11, .ref a12, .ref a13, .int 1, .int 0, .int 1, .ref a14, .ref a15, .ref a16, .ref a17, .ref a2, .ref a18, .int 2, .int 2, .ref a19, .ref a20, .ref a21, .ref a22, .int 0, .int 1, .ref a23, .ref a24, .ref a25, .ref a26, .int 0, .ref a27, .int 0])), (a1, .inl (cI, 4, .inl (tb [0, 0, 0, 0]))), (a2, .inl (cI, 24000, .inl (tb [(-1), 0, 0, 0, 1, 0, 0, 0]))), (a3, .inl (cI, 8, .inl (tb [])))] sz) := by
  refine SM.of (y := yX9_adds) (maxL := 10) (av := [.ref a0, .ref a2, .int 0, .long x0]) (QcI dC dI (TY cI cJ cII cJJ) (-4) []) (by decide +kernel) (Nat.le_of_ble_eq_true rfl) (fun p e s m below meth c A ls hx hb hr hml hown hts hk hnm hA hK hP hD hS hX hl => ?_)
  have hown : s.vm.findClass RX9 = some m.cls := hown
  have hl : lv_has ls 10 [(0, .ref a0), (1, .ref a2), (2, .int 0), (3, .long x0)] := hl
  refine lv_iconst (v := 0) hx hb dX9_adds_0 (by decide) ?_
  refine lv_istore (lv' := [(5, .int 0), (0, .ref a0), (1, .ref a2), (2, .int 0), (3, .long x0)]) hx hb dX9_adds_1 hl (by decide) rfl (fun ls hl => ?_)
  refine lv_iconst (v := 0) hx hb dX9_adds_3 (by decide) ?_
  refine lv_istore (lv' := [(6, .int 0), (5, .int 0), (0, .ref a0), (1, .ref a2), (2, .int 0), (3, .long x0)]) hx hb dX9_adds_4 hl (by decide) rfl (fun ls hl => ?_)
  refine lv_iconst (v := 0) hx hb dX9_adds_6 (by decide) ?_
  refine lv_istore (lv' := [(7, .int 0), (6, .int 0), (5, .int 0), (0, .ref a0), (1, .ref a2), (2, .int 0), (3, .long x0)]) hx hb dX9_adds_7 hl (by decide) rfl (fun ls hl => ?_)
  refine lv_iload hx hb dX9_adds_9 (lv_at hl 0 rfl) ?_
  refine lv_aload_n hx hb dX9_adds_11 rfl (lv_at hl 3 rfl) ?_
  refine gf (k := 12) hx hb hts inX9 hown hK hP k_807 rfl (by decide) rfl 0 rfl (.int 1) rfl dX9_adds_12 ?_
  refine f_icmp_ge hx hb dX9_adds_15 86 (by decide) (by decide +kernel) ?_
  refine lv_aload_n hx hb dX9_adds_18 rfl (lv_at hl 3 rfl) ?_
  refine gf (k := 6) hx hb hts inX9 hown hK hP k_801 rfl (by decide) rfl 0 rfl (.ref a1) rfl dX9_adds_19 ?_
  refine lv_iload hx hb dX9_adds_22 (lv_at hl 0 rfl) ?_
  refine ld_i hx hb hK hP 1 rfl (vin (by decide +kernel)) dX9_adds_24 0 rfl ?_
  refine lv_i2l (v := 0) hx hb dX9_adds_25 (by decide +kernel) ?_
  refine lv_lload_n hx hb dX9_adds_26 rfl (lv_at hl 6 rfl) ?_
  refine lv_aload_n hx hb dX9_adds_27 rfl (lv_at hl 4 rfl) ?_
  refine lv_iload_n hx hb dX9_adds_28 rfl (lv_at hl 5 rfl) ?_
  refine lv_iload hx hb dX9_adds_29 (lv_at hl 0 rfl) ?_
  refine v_iadd hx hb dX9_adds_31 0 (by decide +kernel) ?_
  refine ld_i hx hb hK hP 2 rfl (vin (by decide +kernel)) dX9_adds_32 (-1) rfl ?_
  refine lv_i2l (v := (-1)) hx hb dX9_adds_33 (by decide +kernel) ?_
  refine v_lmul hx hb dX9_adds_34 _ rfl ?_
  refine lv_topl (fun z102 e_z102 => ?_)
  have h_z102 : -2147483647 ≤ z102.toInt ∧ z102.toInt ≤ -10001 := by rw [e_z102]; exact (s_mulm164 h_x0 (by decide +kernel) (by decide +kernel))
  refine v_ladd hx hb dX9_adds_35 z102 (s_ladd0 z102) ?_
  refine lv_lstore (lv' := [(8, .long z102), (7, .int 0), (6, .int 0), (5, .int 0), (0, .ref a0), (1, .ref a2), (2, .int 0), (3, .long x0)]) hx hb dX9_adds_36 hl (by decide) rfl (fun ls hl => ?_)
  refine lv_iload hx hb dX9_adds_38 (lv_at hl 3 rfl) ?_
  refine f_if_ne hx hb dX9_adds_40 52 (by decide) (by decide +kernel) ?_
  refine lv_lload hx hb dX9_adds_43 (lv_at hl 0 rfl) ?_
  refine lv_ldc2 (v := (-10000)) hx hb hown (hts _ k_1079) dX9_adds_45 ?_
  refine v_lcmp hx hb dX9_adds_48 (-1) (p_clt (by rw [show ((-10000) : Int64).toInt = (-10000) from by decide +kernel]; omega)) ?_
  refine f_if_ge hx hb dX9_adds_49 56 (by decide) (by decide +kernel) ?_
  refine lv_iconst (v := 1) hx hb dX9_adds_52 (by decide) ?_
  refine lv_goto (tgt := 57) hx hb dX9_adds_53 (by decide) ?_
  refine lv_istore (lv' := [(5, .int 1), (8, .long z102), (7, .int 0), (6, .int 0), (0, .ref a0), (1, .ref a2), (2, .int 0), (3, .long x0)]) hx hb dX9_adds_57 hl (by decide) rfl (fun ls hl => ?_)
  refine lv_iload hx hb dX9_adds_59 (lv_at hl 3 rfl) ?_
  refine f_if_ne hx hb dX9_adds_61 73 (by decide) (by decide +kernel) ?_
  refine lv_lload hx hb dX9_adds_64 (lv_at hl 1 rfl) ?_
  refine lv_ldc2 (v := 10000) hx hb hown (hts _ k_1080) dX9_adds_66 ?_
  refine v_lcmp hx hb dX9_adds_69 (-1) (p_clt (by rw [show (10000 : Int64).toInt = 10000 from by decide +kernel]; omega)) ?_
  refine t_if_le hx hb dX9_adds_70 77 (by decide) (by decide +kernel) ?_
  refine lv_iconst (v := 0) hx hb dX9_adds_77 (by decide) ?_
  refine lv_istore (lv' := [(6, .int 0), (5, .int 1), (8, .long z102), (7, .int 0), (0, .ref a0), (1, .ref a2), (2, .int 0), (3, .long x0)]) hx hb dX9_adds_78 hl (by decide) rfl (fun ls hl => ?_)
  refine lv_iinc (v := 1) (lv' := [(7, .int 1), (6, .int 0), (5, .int 1), (8, .long z102), (0, .ref a0), (1, .ref a2), (2, .int 0), (3, .long x0)]) hx hb dX9_adds_80 hl (k := 3) rfl (by decide +kernel) (by decide) rfl (fun ls hl => ?_)
  refine lv_goto (tgt := 9) hx hb dX9_adds_83 (by decide) ?_
  refine lv_iload hx hb dX9_adds_9 (lv_at hl 0 rfl) ?_
  refine lv_aload_n hx hb dX9_adds_11 rfl (lv_at hl 4 rfl) ?_
  refine gf (k := 12) hx hb hts inX9 hown hK hP k_807 rfl (by decide) rfl 0 rfl (.int 1) rfl dX9_adds_12 ?_
  refine t_icmp_ge hx hb dX9_adds_15 86 (by decide) (by decide +kernel) ?_
  refine lv_iload hx hb dX9_adds_86 (lv_at hl 2 rfl) ?_
  refine f_if_eq hx hb dX9_adds_88 98 (by decide) (by decide +kernel) ?_
  refine lv_aload_n hx hb dX9_adds_91 rfl (lv_at hl 4 rfl) ?_
  refine lv_bipush (v := (-4)) hx hb dX9_adds_92 (by decide) ?_
  refine kV_i (q0 := 0) ⟨hx, hb, hml, hown, hts⟩ hK hP hD hS hA hX cv_RX9_112 [0, 3] [1, 2] (wr := [(a1, .inl (cI, 4, .inl (tb [0, 0, 0, 0]))), (a2, .inl (cI, 24000, .inl (tb [(-1), 0, 0, 0, 1, 0, 0, 0])))]) rfl rfl rfl rfl (by decide) (c448_X9_refuse l dC dI cI cJ cII cJJ s.heap.size 0 a0 a3 a4 a5 a6 a7 a8 a9 a1 a10 a11 a12 a13 a14 a15 a16 a17 a2 a18 a19 a20 a21 a22 a23 a24 a25 a26 a27) ⟨by decide +kernel, by decide +kernel⟩ rfl rfl (Or.inl rfl) (rest := []) rfl rfl rfl hl.1 rfl (Nat.le_of_ble_eq_true rfl) dX9_adds_94 ⟨Nat.le_of_ble_eq_true rfl, Nat.le_of_ble_eq_true rfl⟩ (W' := [(a1, .inl (cI, 4, .inl (tb [0, 0, 0, 0]))), (a2, .inl (cI, 24000, .inl (tb [(-1), 0, 0, 0, 1, 0, 0, 0]))), (a0, .inr (9, [.ref a4, .ref a5, .ref a6, .ref a7, .ref a8, .ref a9, .ref a1, .ref a3, .ref a10, .ref a11, .ref a12, .ref a13, .int 1, .int 0, .int 1, .ref a14, .ref a15, .ref a16, .ref a17, .ref a2, .ref a18, .int 2, .int 2, .ref a19, .ref a20, .ref a21, .ref a22, .int 0, .int 1, .ref a23, .ref a24, .ref a25, .ref a26, .int 0, .ref a27, .int 0])), (a3, .inl (cI, 8, .inl (tb [0, 0, 0, 0, 1])))]) rfl (fun H locs hP hD hS => ?_)
  exact r_i hx hb hr hk hK (hP.sub [] rfl) (hD.sub [] rfl rfl) hS dX9_adds_97
set_option maxRecDepth 100000 in
set_option maxHeartbeats 4000000 in
theorem c446_X9_add (l : Launch) (dC : Nat → ClassId) (dI : Nat → Nat → Nat) (cI cJ cII cJJ : ClassId) (sz g a0 a1 a2 a3 a4 a5 a6 a7 a8 a9 a10 a11 a12 a13 a14 a15 a16 a17 a18 a19 a20 a21 a22 a23 a24 a25 a26 a27 : Nat) (x0 : Int32) (h_x0 : 10001 ≤ x0.toInt ∧ x0.toInt ≤ 2147483647) : Met l yX9_add (.code yX9_add cX9_add 3 (some .int) :: TT) ({ frames := 7, cells := 0, slots := 0, locals := 380 }) (PcS dC dI (TY cI cJ cII cJJ) [.ref a0, .int 0, .int x0] [(a0, .inr (9, [.ref a13, .ref a14, .ref a15, .ref a16, .ref a17, .ref a18, .ref a11, .ref a12, .ref a19, .ref a20, .ref a21, .ref a22, .int 1, .int 0, .int 0, .ref a5, .ref a6, .ref a7, .ref a8, .ref a9, .ref a10, .int 0, .int 0, .ref a2, .ref a1, .ref a3, .ref a4, .int 0, .int 0, .ref a23, .ref a24, .ref a25, .ref a26, .int 0, .ref a27, .int 0])), (a1, .inl (cI, 3, .inl (tb []))), (a2, .inl (cI, 3, .inl (tb []))), (a3, .inl (cI, 4, .inl (tb []))), (a4, .inl (cI, 4, .inl (tb []))), (a5, .inl (cI, 400000, .inl (tb []))), (a6, .inl (cI, 100000, .inl (tb []))), (a7, .inl (cI, 6001, .inl (tb []))), (a8, .inl (cI, 100000, .inl (tb []))), (a9, .inl (cI, 24000, .inl (tb []))), (a10, .inl (cI, 6000, .inl (tb []))), (a11, .inl (cI, 4, .inl (tb [0, 0, 0, 0]))), (a12, .inl (cI, 8, .inl (tb [])))] sz 0 g) ((QcI dC dI (TY cI cJ cII cJJ) (-4) []) (va_A [(a0, .inr (9, [.ref a13, .ref a14, .ref a15, .ref a16, .ref a17, .ref a18, .ref a11, .ref a12, .ref a19, .ref a20, .ref a21, .ref a22, .int 1, .int 0, .int 0, .ref a5, .ref a6, .ref a7, .ref a8, .ref a9, .ref a10, .int 0, .int 0, .ref a2, .ref a1, .ref a3, .ref a4, .int 0, .int 0, .ref a23, .ref a24, .ref a25, .ref a26, .int 0, .ref a27, .int 0])), (a1, .inl (cI, 3, .inl (tb []))), (a2, .inl (cI, 3, .inl (tb []))), (a3, .inl (cI, 4, .inl (tb []))), (a4, .inl (cI, 4, .inl (tb []))), (a5, .inl (cI, 400000, .inl (tb []))), (a6, .inl (cI, 100000, .inl (tb []))), (a7, .inl (cI, 6001, .inl (tb []))), (a8, .inl (cI, 100000, .inl (tb []))), (a9, .inl (cI, 24000, .inl (tb []))), (a10, .inl (cI, 6000, .inl (tb []))), (a11, .inl (cI, 4, .inl (tb [0, 0, 0, 0]))), (a12, .inl (cI, 8, .inl (tb [])))] sz)) 0 0 (va_A [(a0, .inr (9, [.ref a13, .ref a14, .ref a15, .ref a16, .ref a17, .ref a18, .ref a11, .ref a12, .ref a19, .ref a20, .ref a21, .ref a22, .int 1, .int 0, .int 0, .ref a5, .ref a6, .ref a7, .ref a8, .ref a9, .ref a10, .int 0, .int 0, .ref a2, .ref a1, .ref a3, .ref a4, .int 0, .int 0, .ref a23, .ref a24, .ref a25, .ref a26, .int 0, .ref a27, .int 0])), (a1, .inl (cI, 3, .inl (tb []))), (a2, .inl (cI, 3, .inl (tb []))), (a3, .inl (cI, 4, .inl (tb []))), (a4, .inl (cI, 4, .inl (tb []))), (a5, .inl (cI, 400000, .inl (tb []))), (a6, .inl (cI, 100000, .inl (tb []))), (a7, .inl (cI, 6001, .inl (tb []))), (a8, .inl (cI, 100000, .inl (tb []))), (a9, .inl (cI, 24000, .inl (tb []))), (a10, .inl (cI, 6000, .inl (tb []))), (a11, .inl (cI, 4, .inl (tb [0, 0, 0, 0]))), (a12, .inl (cI, 8, .inl (tb [])))] sz) := by
  refine SM.of (y := yX9_add) (maxL := 3) (av := [.ref a0, .int 0, .int x0]) (QcI dC dI (TY cI cJ cII cJJ) (-4) []) (by decide +kernel) (Nat.le_of_ble_eq_true rfl) (fun p e s m below meth c A ls hx hb hr hml hown hts hk hnm hA hK hP hD hS hX hl => ?_)
  have hown : s.vm.findClass RX9 = some m.cls := hown
  have hl : lv_has ls 3 [(0, .ref a0), (1, .int 0), (2, .int x0)] := hl
  refine lv_aload_n hx hb dX9_add_0 rfl (lv_at hl 0 rfl) ?_
  refine kV_v (q0 := 0) ⟨hx, hb, hml, hown, hts⟩ hK hP hD hS hA hX cv_RX9_180 [0, 1, 2, 3, 4, 5, 6, 7, 8, 9, 10] [11, 12] (wr := [(a11, .inl (cI, 4, .inl (tb [0, 0, 0, 0]))), (a12, .inl (cI, 8, .inl (tb [])))]) rfl rfl rfl rfl (by decide) (c373_X9_findSteps l dC dI cI cJ cII cJJ s.heap.size 0 a0 a1 a2 a3 a4 a5 a6 a7 a8 a9 a10 a13 a14 a15 a16 a17 a18 a11 a12 a19 a20 a21 a22 a23 a24 a25 a26 a27) ⟨by decide +kernel, by decide +kernel⟩ rfl rfl (Or.inl rfl) (rest := []) rfl rfl rfl hl.1 rfl (Nat.le_of_ble_eq_true rfl) dX9_add_1 ⟨Nat.le_of_ble_eq_true rfl, Nat.le_of_ble_eq_true rfl⟩ (fun _ => rfl) (W' := [(a11, .inl (cI, 4, .inl (tb [0, 0, 0, 0]))), (a12, .inl (cI, 8, .inl (tb []))), (a7, .inl (cI, 6001, .inl (tb (0 :: 0 :: List.replicate 5999 2)))), (a8, .inl (cI, 100000, .inl (tb [0, 1]))), (a3, .inl (cI, 4, .inl (tb [0]))), (a6, .inl (cI, 100000, .inl (tb [1, 1]))), (a1, .inl (cI, 3, .inl (tb [0, 0, 0]))), (a2, .inl (cI, 3, .inl (tb [0, 0, 0]))), (a4, .inl (cI, 4, .inl (tb [1]))), (a5, .inl (cI, 400000, .inl (tb [(-1), 0, 0, 0, 1, 0, 0, 0]))), (a10, .inl (cI, 6000, .inl (tb [0, 1]))), (a0, .inr (9, [.ref a13, .ref a14, .ref a15, .ref a16, .ref a17, .ref a18, .ref a11, .ref a12, .ref a19, .ref a20, .ref a21, .ref a22, .int 1, .int 0, .int 1, .ref a5, .ref a6, .ref a7, .ref a8, .ref a9, .ref a10, .int 2, .int 2, .ref a2, .ref a1, .ref a3, .ref a4, .int 0, .int 1, .ref a23, .ref a24, .ref a25, .ref a26, .int 0, .ref a27, .int 0])), (a9, .inl (cI, 24000, .inl (tb [(-1), 0, 0, 0, 1, 0, 0, 0])))]) rfl (fun H locs hP hD hS => ?_)
  refine lv_iload_n hx hb dX9_add_4 rfl (lv_at hl 1 rfl) ?_
  refine lv_aload_n hx hb dX9_add_5 rfl (lv_at hl 0 rfl) ?_
  refine gf (k := 22) hx hb hts inX9 hown hK hP k_817 rfl (by decide) rfl 11 rfl (.int 2) rfl dX9_add_6 ?_
  refine kS_i ⟨hx, hb, hml, hown, hts⟩ hK hP hD hS hA hX cs_RX9_116 [] [0, 1, 2, 3, 4, 5, 6, 7, 8, 9, 10, 11, 12] (wr := [(a11, .inl (cI, 4, .inl (tb [0, 0, 0, 0]))), (a12, .inl (cI, 8, .inl (tb []))), (a7, .inl (cI, 6001, .inl (tb (0 :: 0 :: List.replicate 5999 2)))), (a8, .inl (cI, 100000, .inl (tb [0, 1]))), (a3, .inl (cI, 4, .inl (tb [0]))), (a6, .inl (cI, 100000, .inl (tb [1, 1]))), (a1, .inl (cI, 3, .inl (tb [0, 0, 0]))), (a2, .inl (cI, 3, .inl (tb [0, 0, 0]))), (a4, .inl (cI, 4, .inl (tb [1]))), (a5, .inl (cI, 400000, .inl (tb [(-1), 0, 0, 0, 1, 0, 0, 0]))), (a10, .inl (cI, 6000, .inl (tb [0, 1]))), (a0, .inr (9, [.ref a13, .ref a14, .ref a15, .ref a16, .ref a17, .ref a18, .ref a11, .ref a12, .ref a19, .ref a20, .ref a21, .ref a22, .int 1, .int 0, .int 1, .ref a5, .ref a6, .ref a7, .ref a8, .ref a9, .ref a10, .int 2, .int 2, .ref a2, .ref a1, .ref a3, .ref a4, .int 0, .int 1, .ref a23, .ref a24, .ref a25, .ref a26, .int 0, .ref a27, .int 0])), (a9, .inl (cI, 24000, .inl (tb [(-1), 0, 0, 0, 1, 0, 0, 0])))]) rfl rfl rfl rfl (by decide) (c397_X9_isIn l dC dI cI cJ cII cJJ H.size 0) ⟨by decide +kernel, by decide +kernel⟩ rfl rfl (Or.inl rfl) (rest := []) rfl hl.1 rfl (Nat.le_of_ble_eq_true rfl) dX9_add_9 ⟨Nat.le_of_ble_eq_true rfl, Nat.le_of_ble_eq_true rfl⟩ (W' := [(a11, .inl (cI, 4, .inl (tb [0, 0, 0, 0]))), (a12, .inl (cI, 8, .inl (tb []))), (a7, .inl (cI, 6001, .inl (tb (0 :: 0 :: List.replicate 5999 2)))), (a8, .inl (cI, 100000, .inl (tb [0, 1]))), (a3, .inl (cI, 4, .inl (tb [0]))), (a6, .inl (cI, 100000, .inl (tb [1, 1]))), (a1, .inl (cI, 3, .inl (tb [0, 0, 0]))), (a2, .inl (cI, 3, .inl (tb [0, 0, 0]))), (a4, .inl (cI, 4, .inl (tb [1]))), (a5, .inl (cI, 400000, .inl (tb [(-1), 0, 0, 0, 1, 0, 0, 0]))), (a10, .inl (cI, 6000, .inl (tb [0, 1]))), (a0, .inr (9, [.ref a13, .ref a14, .ref a15, .ref a16, .ref a17, .ref a18, .ref a11, .ref a12, .ref a19, .ref a20, .ref a21, .ref a22, .int 1, .int 0, .int 1, .ref a5, .ref a6, .ref a7, .ref a8, .ref a9, .ref a10, .int 2, .int 2, .ref a2, .ref a1, .ref a3, .ref a4, .int 0, .int 1, .ref a23, .ref a24, .ref a25, .ref a26, .int 0, .ref a27, .int 0])), (a9, .inl (cI, 24000, .inl (tb [(-1), 0, 0, 0, 1, 0, 0, 0])))]) rfl (fun H locs hP hD hS => ?_)
  refine f_if_eq hx hb dX9_add_12 36 (by decide) (by decide +kernel) ?_
  refine lv_aload_n hx hb dX9_add_15 rfl (lv_at hl 0 rfl) ?_
  refine lv_aload_n hx hb dX9_add_16 rfl (lv_at hl 0 rfl) ?_
  refine gf (k := 19) hx hb hts inX9 hown hK hP k_814 rfl (by decide) rfl 11 rfl (.ref a9) rfl dX9_add_17 ?_
  refine lv_iconst (v := 4) hx hb dX9_add_20 (by decide) ?_
  refine lv_aload_n hx hb dX9_add_21 rfl (lv_at hl 0 rfl) ?_
  refine gf (k := 20) hx hb hts inX9 hown hK hP k_815 rfl (by decide) rfl 11 rfl (.ref a10) rfl dX9_add_22 ?_
  refine lv_iload_n hx hb dX9_add_25 rfl (lv_at hl 1 rfl) ?_
  refine ld_i hx hb hK hP 10 rfl (vin (by decide +kernel)) dX9_add_26 0 rfl ?_
  refine v_imul hx hb dX9_add_27 0 (by decide +kernel) ?_
  refine lv_iload_n hx hb dX9_add_28 rfl (lv_at hl 2 rfl) ?_
  obtain ⟨z100, e_z100⟩ : ∃ w : Int64, w = x0.toInt64 := ⟨_, rfl⟩
  have h_z100 := s_i2l e_z100 h_x0
  refine lv_i2l (v := z100) hx hb dX9_add_29 e_z100.symm ?_
  refine kV_i (q0 := 0) ⟨hx, hb, hml, hown, hts⟩ hK hP hD hS hA hX cv_RX9_216 [11, 0, 12, 1] [2, 3, 4, 5, 6, 7, 8, 9, 10] (wr := [(a7, .inl (cI, 6001, .inl (tb (0 :: 0 :: List.replicate 5999 2)))), (a8, .inl (cI, 100000, .inl (tb [0, 1]))), (a3, .inl (cI, 4, .inl (tb [0]))), (a6, .inl (cI, 100000, .inl (tb [1, 1]))), (a1, .inl (cI, 3, .inl (tb [0, 0, 0]))), (a2, .inl (cI, 3, .inl (tb [0, 0, 0]))), (a4, .inl (cI, 4, .inl (tb [1]))), (a5, .inl (cI, 400000, .inl (tb [(-1), 0, 0, 0, 1, 0, 0, 0]))), (a10, .inl (cI, 6000, .inl (tb [0, 1])))]) rfl rfl rfl rfl (by decide) (c447_X9_adds l dC dI cI cJ cII cJJ H.size 0 a0 a11 a9 a12 a13 a14 a15 a16 a17 a18 a19 a20 a21 a22 a5 a6 a7 a8 a10 a2 a1 a3 a4 a23 a24 a25 a26 a27 z100 h_z100) ⟨by decide +kernel, by decide +kernel⟩ rfl rfl (Or.inl rfl) (rest := []) rfl rfl rfl hl.1 rfl (Nat.le_of_ble_eq_true rfl) dX9_add_30 ⟨Nat.le_of_ble_eq_true rfl, Nat.le_of_ble_eq_true rfl⟩ (W' := [(a7, .inl (cI, 6001, .inl (tb (0 :: 0 :: List.replicate 5999 2)))), (a8, .inl (cI, 100000, .inl (tb [0, 1]))), (a3, .inl (cI, 4, .inl (tb [0]))), (a6, .inl (cI, 100000, .inl (tb [1, 1]))), (a1, .inl (cI, 3, .inl (tb [0, 0, 0]))), (a2, .inl (cI, 3, .inl (tb [0, 0, 0]))), (a4, .inl (cI, 4, .inl (tb [1]))), (a5, .inl (cI, 400000, .inl (tb [(-1), 0, 0, 0, 1, 0, 0, 0]))), (a10, .inl (cI, 6000, .inl (tb [0, 1])))]) rfl (fun H locs hP hD hS => ?_)
  refine lv_goto (tgt := 41) hx hb dX9_add_33 (by decide) ?_
  exact r_i hx hb hr hk hK (hP.sub [] rfl) (hD.sub [] rfl rfl) hS dX9_add_41
set_option maxRecDepth 100000 in
set_option maxHeartbeats 4000000 in
theorem c450_X9_adds (l : Launch) (dC : Nat → ClassId) (dI : Nat → Nat → Nat) (cI cJ cII cJJ : ClassId) (sz g a0 a1 a2 a3 a4 a5 a6 a7 a8 a9 a10 a11 a12 a13 a14 a15 a16 a17 a18 a19 a20 a21 a22 a23 a24 a25 a26 a27 : Nat) (x0 : Int64) (h_x0 : -10000 ≤ x0.toInt ∧ x0.toInt ≤ 10000) : Met l yX9_adds (.code yX9_adds cX9_adds 10 (some .int) :: TT) ({ frames := 2, cells := 0, slots := 0, locals := 80 }) (PcS dC dI (TY cI cJ cII cJJ) [.ref a0, .ref a2, .int 0, .long x0] [(a0, .inr (9, [.ref a3, .ref a4, .ref a5, .ref a6, .ref a7, .ref a8, .ref a1, .ref a9, .ref a10, .ref a11, .ref a12, .ref a13, .int 1, .int 0, .int 1, .ref a14, .ref a15, .ref a16, .ref a17, .ref a2, .ref a18, .int 2, .int 2, .ref a19, .ref a20, .ref a21, .ref a22, .int 0, .int 1, .ref a23, .ref a24, .ref a25, .ref a26, .int 0, .ref a27, .int 0])), (a1, .inl (cI, 4, .inl (tb [0, 0, 0, 0]))), (a2, .inl (cI, 24000, .inl (tb [(-1), 0, 0, 0, 1, 0, 0, 0])))] sz 0 g) ((QcI dC dI (TY cI cJ cII cJJ) 1 []) (va_A [(a0, .inr (9, [.ref a3, .ref a4, .ref a5, .ref a6, .ref a7, .ref a8, .ref a1, .ref a9, .ref a10, .ref a11, .ref a12, .ref a13, .int 1, .int 0, .int 1, .ref a14, .ref a15, .ref a16, .ref a17, .ref a2, .ref a18, .int 2, .int 2, .ref a19, .ref a20, .ref a21, .ref a22, .int 0, .int 1, .ref a23, .ref a24, .ref a25, .ref a26, .int 0, .ref a27, .int 0])), (a1, .inl (cI, 4, .inl (tb [0, 0, 0, 0]))), (a2, .inl (cI, 24000, .inl (tb [(-1), 0, 0, 0, 1, 0, 0, 0])))] sz)) 0 0 (va_A [(a0, .inr (9, [.ref a3, .ref a4, .ref a5, .ref a6, .ref a7, .ref a8, .ref a1, .ref a9, .ref a10, .ref a11, .ref a12, .ref a13, .int 1, .int 0, .int 1, .ref a14, .ref a15, .ref a16, .ref a17, .ref a2, .ref a18, .int 2, .int 2, .ref a19, .ref a20, .ref a21, .ref a22, .int 0, .int 1, .ref a23, .ref a24, .ref a25, .ref a26, .int 0, .ref a27, .int 0])), (a1, .inl (cI, 4, .inl (tb [0, 0, 0, 0]))), (a2, .inl (cI, 24000, .inl (tb [(-1), 0, 0, 0, 1, 0, 0, 0])))] sz) := by
  refine SM.of (y := yX9_adds) (maxL := 10) (av := [.ref a0, .ref a2, .int 0, .long x0]) (QcI dC dI (TY cI cJ cII cJJ) 1 []) (by decide +kernel) (Nat.le_of_ble_eq_true rfl) (fun p e s m below meth c A ls hx hb hr hml hown hts hk hnm hA hK hP hD hS hX hl => ?_)
  have hown : s.vm.findClass RX9 = some m.cls := hown
  have hl : lv_has ls 10 [(0, .ref a0), (1, .ref a2), (2, .int 0), (3, .long x0)] := hl
  refine lv_iconst (v := 0) hx hb dX9_adds_0 (by decide) ?_
  refine lv_istore (lv' := [(5, .int 0), (0, .ref a0), (1, .ref a2), (2, .int 0), (3, .long x0)]) hx hb dX9_adds_1 hl (by decide) rfl (fun ls hl => ?_)
  refine lv_iconst (v := 0) hx hb dX9_adds_3 (by decide) ?_
  refine lv_istore (lv' := [(6, .int 0), (5, .int 0), (0, .ref a0), (1, .ref a2), (2, .int 0), (3, .long x0)]) hx hb dX9_adds_4 hl (by decide) rfl (fun ls hl => ?_)
  refine lv_iconst (v := 0) hx hb dX9_adds_6 (by decide) ?_
  refine lv_istore (lv' := [(7, .int 0), (6, .int 0), (5, .int 0), (0, .ref a0), (1, .ref a2), (2, .int 0), (3, .long x0)]) hx hb dX9_adds_7 hl (by decide) rfl (fun ls hl => ?_)
  refine lv_iload hx hb dX9_adds_9 (lv_at hl 0 rfl) ?_
  refine lv_aload_n hx hb dX9_adds_11 rfl (lv_at hl 3 rfl) ?_
  refine gf (k := 12) hx hb hts inX9 hown hK hP k_807 rfl (by decide) rfl 0 rfl (.int 1) rfl dX9_adds_12 ?_
  refine f_icmp_ge hx hb dX9_adds_15 86 (by decide) (by decide +kernel) ?_
  refine lv_aload_n hx hb dX9_adds_18 rfl (lv_at hl 3 rfl) ?_
  refine gf (k := 6) hx hb hts inX9 hown hK hP k_801 rfl (by decide) rfl 0 rfl (.ref a1) rfl dX9_adds_19 ?_
  refine lv_iload hx hb dX9_adds_22 (lv_at hl 0 rfl) ?_
  refine ld_i hx hb hK hP 1 rfl (vin (by decide +kernel)) dX9_adds_24 0 rfl ?_
  refine lv_i2l (v := 0) hx hb dX9_adds_25 (by decide +kernel) ?_
  refine lv_lload_n hx hb dX9_adds_26 rfl (lv_at hl 6 rfl) ?_
  refine lv_aload_n hx hb dX9_adds_27 rfl (lv_at hl 4 rfl) ?_
  refine lv_iload_n hx hb dX9_adds_28 rfl (lv_at hl 5 rfl) ?_
  refine lv_iload hx hb dX9_adds_29 (lv_at hl 0 rfl) ?_
  refine v_iadd hx hb dX9_adds_31 0 (by decide +kernel) ?_
  refine ld_i hx hb hK hP 2 rfl (vin (by decide +kernel)) dX9_adds_32 (-1) rfl ?_
  refine lv_i2l (v := (-1)) hx hb dX9_adds_33 (by decide +kernel) ?_
  refine v_lmul hx hb dX9_adds_34 _ rfl ?_
  refine lv_topl (fun z116 e_z116 => ?_)
  have h_z116 : -10000 ≤ z116.toInt ∧ z116.toInt ≤ 10000 := by rw [e_z116]; exact (s_mulm164 h_x0 (by decide +kernel) (by decide +kernel))
  refine v_ladd hx hb dX9_adds_35 z116 (s_ladd0 z116) ?_
  refine lv_lstore (lv' := [(8, .long z116), (7, .int 0), (6, .int 0), (5, .int 0), (0, .ref a0), (1, .ref a2), (2, .int 0), (3, .long x0)]) hx hb dX9_adds_36 hl (by decide) rfl (fun ls hl => ?_)
  refine lv_iload hx hb dX9_adds_38 (lv_at hl 3 rfl) ?_
  refine f_if_ne hx hb dX9_adds_40 52 (by decide) (by decide +kernel) ?_
  refine lv_lload hx hb dX9_adds_43 (lv_at hl 0 rfl) ?_
  refine lv_ldc2 (v := (-10000)) hx hb hown (hts _ k_1079) dX9_adds_45 ?_
  refine v_lcmp hx hb dX9_adds_48 _ rfl ?_
  refine lv_topi (fun z117 e_z117 => ?_)
  have h_z117 : 0 ≤ z117.toInt ∧ z117.toInt ≤ 1 := by rw [e_z117]; exact (p_cge (by rw [show ((-10000) : Int64).toInt = (-10000) from by decide +kernel]; omega))
  refine t_if_ge hx hb dX9_adds_49 56 (by decide) (p_le (by rw [show (0 : Int32).toInt = 0 from by decide +kernel]; omega)) ?_
  refine lv_iconst (v := 0) hx hb dX9_adds_56 (by decide) ?_
  refine lv_istore (lv' := [(5, .int 0), (8, .long z116), (7, .int 0), (6, .int 0), (0, .ref a0), (1, .ref a2), (2, .int 0), (3, .long x0)]) hx hb dX9_adds_57 hl (by decide) rfl (fun ls hl => ?_)
  refine lv_iload hx hb dX9_adds_59 (lv_at hl 3 rfl) ?_
  refine f_if_ne hx hb dX9_adds_61 73 (by decide) (by decide +kernel) ?_
  refine lv_lload hx hb dX9_adds_64 (lv_at hl 1 rfl) ?_
  refine lv_ldc2 (v := 10000) hx hb hown (hts _ k_1080) dX9_adds_66 ?_
  refine v_lcmp hx hb dX9_adds_69 _ rfl ?_
  refine lv_topi (fun z118 e_z118 => ?_)
  have h_z118 : -1 ≤ z118.toInt ∧ z118.toInt ≤ 0 := by rw [e_z118]; exact (p_cle (by rw [show (10000 : Int64).toInt = 10000 from by decide +kernel]; omega))
  refine t_if_le hx hb dX9_adds_70 77 (by decide) (p_le (by rw [show (0 : Int32).toInt = 0 from by decide +kernel]; omega)) ?_
  refine lv_iconst (v := 0) hx hb dX9_adds_77 (by decide) ?_
  refine lv_istore (lv' := [(6, .int 0), (5, .int 0), (8, .long z116), (7, .int 0), (0, .ref a0), (1, .ref a2), (2, .int 0), (3, .long x0)]) hx hb dX9_adds_78 hl (by decide) rfl (fun ls hl => ?_)
  refine lv_iinc (v := 1) (lv' := [(7, .int 1), (6, .int 0), (5, .int 0), (8, .long z116), (0, .ref a0), (1, .ref a2), (2, .int 0), (3, .long x0)]) hx hb dX9_adds_80 hl (k := 3) rfl (by decide +kernel) (by decide) rfl (fun ls hl => ?_)
  refine lv_goto (tgt := 9) hx hb dX9_adds_83 (by decide) ?_
  refine lv_iload hx hb dX9_adds_9 (lv_at hl 0 rfl) ?_
  refine lv_aload_n hx hb dX9_adds_11 rfl (lv_at hl 4 rfl) ?_
  refine gf (k := 12) hx hb hts inX9 hown hK hP k_807 rfl (by decide) rfl 0 rfl (.int 1) rfl dX9_adds_12 ?_
  refine t_icmp_ge hx hb dX9_adds_15 86 (by decide) (by decide +kernel) ?_
  refine lv_iload hx hb dX9_adds_86 (lv_at hl 2 rfl) ?_
  refine t_if_eq hx hb dX9_adds_88 98 (by decide) (by decide +kernel) ?_
  refine lv_iload hx hb dX9_adds_98 (lv_at hl 1 rfl) ?_
  refine t_if_eq hx hb dX9_adds_100 110 (by decide) (by decide +kernel) ?_
  refine lv_iconst (v := 0) hx hb dX9_adds_110 (by decide) ?_
  refine lv_istore (lv' := [(7, .int 0), (6, .int 0), (5, .int 0), (8, .long z116), (0, .ref a0), (1, .ref a2), (2, .int 0), (3, .long x0)]) hx hb dX9_adds_111 hl (by decide) rfl (fun ls hl => ?_)
  refine lv_iload hx hb dX9_adds_113 (lv_at hl 0 rfl) ?_
  refine lv_aload_n hx hb dX9_adds_115 rfl (lv_at hl 4 rfl) ?_
  refine gf (k := 12) hx hb hts inX9 hown hK hP k_807 rfl (by decide) rfl 0 rfl (.int 1) rfl dX9_adds_116 ?_
  refine f_icmp_ge hx hb dX9_adds_119 148 (by decide) (by decide +kernel) ?_
  refine lv_aload_n hx hb dX9_adds_122 rfl (lv_at hl 4 rfl) ?_
  refine gf (k := 6) hx hb hts inX9 hown hK hP k_801 rfl (by decide) rfl 0 rfl (.ref a1) rfl dX9_adds_123 ?_
  refine lv_iload hx hb dX9_adds_126 (lv_at hl 0 rfl) ?_
  refine lv_dup2_11 hx hb dX9_adds_128 rfl rfl ?_
  refine ld_i hx hb hK hP 1 rfl (vin (by decide +kernel)) dX9_adds_129 0 rfl ?_
  refine lv_lload_n hx hb dX9_adds_130 rfl (lv_at hl 7 rfl) ?_
  refine lv_aload_n hx hb dX9_adds_131 rfl (lv_at hl 5 rfl) ?_
  refine lv_iload_n hx hb dX9_adds_132 rfl (lv_at hl 6 rfl) ?_
  refine lv_iload hx hb dX9_adds_133 (lv_at hl 0 rfl) ?_
  refine v_iadd hx hb dX9_adds_135 0 (by decide +kernel) ?_
  refine ld_i hx hb hK hP 2 rfl (vin (by decide +kernel)) dX9_adds_136 (-1) rfl ?_
  refine lv_i2l (v := (-1)) hx hb dX9_adds_137 (by decide +kernel) ?_
  refine v_lmul hx hb dX9_adds_138 _ rfl ?_
  refine lv_topl (fun z119 e_z119 => ?_)
  have h_z119 : -10000 ≤ z119.toInt ∧ z119.toInt ≤ 10000 := by rw [e_z119]; exact (s_mulm164 h_x0 (by decide +kernel) (by decide +kernel))
  obtain ⟨z120, e_z120⟩ : ∃ w : Int32, w = z119.toInt32 := ⟨_, rfl⟩
  have h_z120 := s_any z120
  refine lv_l2i (v := z120) hx hb dX9_adds_139 e_z120.symm ?_
  refine v_iadd hx hb dX9_adds_140 z120 (s_add0 z120) ?_
  refine st_i hx hb hK hP hD hS 1 rfl (vin (by decide +kernel)) dX9_adds_141 (L' := [z120, 0, 0, 0]) rfl (W' := [(a0, .inr (9, [.ref a3, .ref a4, .ref a5, .ref a6, .ref a7, .ref a8, .ref a1, .ref a9, .ref a10, .ref a11, .ref a12, .ref a13, .int 1, .int 0, .int 1, .ref a14, .ref a15, .ref a16, .ref a17, .ref a2, .ref a18, .int 2, .int 2, .ref a19, .ref a20, .ref a21, .ref a22, .int 0, .int 1, .ref a23, .ref a24, .ref a25, .ref a26, .int 0, .ref a27, .int 0])), (a1, .inl (cI, 4, .inl (tb [z120, 0, 0, 0]))), (a2, .inl (cI, 24000, .inl (tb [(-1), 0, 0, 0, 1, 0, 0, 0])))]) rfl (fun H locs hP hD hS => ?_)
  refine lv_iinc (v := 1) (lv' := [(7, .int 1), (6, .int 0), (5, .int 0), (8, .long z116), (0, .ref a0), (1, .ref a2), (2, .int 0), (3, .long x0)]) hx hb dX9_adds_142 hl (k := 0) rfl (by decide +kernel) (by decide) rfl (fun ls hl => ?_)
  refine lv_goto (tgt := 113) hx hb dX9_adds_145 (by decide) ?_
  refine lv_iload hx hb dX9_adds_113 (lv_at hl 0 rfl) ?_
  refine lv_aload_n hx hb dX9_adds_115 rfl (lv_at hl 4 rfl) ?_
  refine gf (k := 12) hx hb hts inX9 hown hK hP k_807 rfl (by decide) rfl 0 rfl (.int 1) rfl dX9_adds_116 ?_
  refine t_icmp_ge hx hb dX9_adds_119 148 (by decide) (by decide +kernel) ?_
  refine lv_iconst (v := 1) hx hb dX9_adds_148 (by decide) ?_
  exact r_i hx hb hr hk hK (hP.sub [] rfl) (hD.sub [] rfl rfl) hS dX9_adds_149
set_option maxRecDepth 100000 in
set_option maxHeartbeats 4000000 in
theorem c449_X9_add (l : Launch) (dC : Nat → ClassId) (dI : Nat → Nat → Nat) (cI cJ cII cJJ : ClassId) (sz g a0 a1 a2 a3 a4 a5 a6 a7 a8 a9 a10 a11 a12 a13 a14 a15 a16 a17 a18 a19 a20 a21 a22 a23 a24 a25 a26 a27 : Nat) (x0 : Int32) (h_x0 : -10000 ≤ x0.toInt ∧ x0.toInt ≤ 10000) : Met l yX9_add (.code yX9_add cX9_add 3 (some .int) :: TT) ({ frames := 7, cells := 0, slots := 0, locals := 380 }) (PcS dC dI (TY cI cJ cII cJJ) [.ref a0, .int 0, .int x0] [(a0, .inr (9, [.ref a12, .ref a13, .ref a14, .ref a15, .ref a16, .ref a17, .ref a11, .ref a18, .ref a19, .ref a20, .ref a21, .ref a22, .int 1, .int 0, .int 0, .ref a5, .ref a6, .ref a7, .ref a8, .ref a9, .ref a10, .int 0, .int 0, .ref a2, .ref a1, .ref a3, .ref a4, .int 0, .int 0, .ref a23, .ref a24, .ref a25, .ref a26, .int 0, .ref a27, .int 0])), (a1, .inl (cI, 3, .inl (tb []))), (a2, .inl (cI, 3, .inl (tb []))), (a3, .inl (cI, 4, .inl (tb []))), (a4, .inl (cI, 4, .inl (tb []))), (a5, .inl (cI, 400000, .inl (tb []))), (a6, .inl (cI, 100000, .inl (tb []))), (a7, .inl (cI, 6001, .inl (tb []))), (a8, .inl (cI, 100000, .inl (tb []))), (a9, .inl (cI, 24000, .inl (tb []))), (a10, .inl (cI, 6000, .inl (tb []))), (a11, .inl (cI, 4, .inl (tb [0, 0, 0, 0])))] sz 0 g) ((QcI dC dI (TY cI cJ cII cJJ) 1 []) (va_A [(a0, .inr (9, [.ref a12, .ref a13, .ref a14, .ref a15, .ref a16, .ref a17, .ref a11, .ref a18, .ref a19, .ref a20, .ref a21, .ref a22, .int 1, .int 0, .int 0, .ref a5, .ref a6, .ref a7, .ref a8, .ref a9, .ref a10, .int 0, .int 0, .ref a2, .ref a1, .ref a3, .ref a4, .int 0, .int 0, .ref a23, .ref a24, .ref a25, .ref a26, .int 0, .ref a27, .int 0])), (a1, .inl (cI, 3, .inl (tb []))), (a2, .inl (cI, 3, .inl (tb []))), (a3, .inl (cI, 4, .inl (tb []))), (a4, .inl (cI, 4, .inl (tb []))), (a5, .inl (cI, 400000, .inl (tb []))), (a6, .inl (cI, 100000, .inl (tb []))), (a7, .inl (cI, 6001, .inl (tb []))), (a8, .inl (cI, 100000, .inl (tb []))), (a9, .inl (cI, 24000, .inl (tb []))), (a10, .inl (cI, 6000, .inl (tb []))), (a11, .inl (cI, 4, .inl (tb [0, 0, 0, 0])))] sz)) 0 0 (va_A [(a0, .inr (9, [.ref a12, .ref a13, .ref a14, .ref a15, .ref a16, .ref a17, .ref a11, .ref a18, .ref a19, .ref a20, .ref a21, .ref a22, .int 1, .int 0, .int 0, .ref a5, .ref a6, .ref a7, .ref a8, .ref a9, .ref a10, .int 0, .int 0, .ref a2, .ref a1, .ref a3, .ref a4, .int 0, .int 0, .ref a23, .ref a24, .ref a25, .ref a26, .int 0, .ref a27, .int 0])), (a1, .inl (cI, 3, .inl (tb []))), (a2, .inl (cI, 3, .inl (tb []))), (a3, .inl (cI, 4, .inl (tb []))), (a4, .inl (cI, 4, .inl (tb []))), (a5, .inl (cI, 400000, .inl (tb []))), (a6, .inl (cI, 100000, .inl (tb []))), (a7, .inl (cI, 6001, .inl (tb []))), (a8, .inl (cI, 100000, .inl (tb []))), (a9, .inl (cI, 24000, .inl (tb []))), (a10, .inl (cI, 6000, .inl (tb []))), (a11, .inl (cI, 4, .inl (tb [0, 0, 0, 0])))] sz) := by
  refine SM.of (y := yX9_add) (maxL := 3) (av := [.ref a0, .int 0, .int x0]) (QcI dC dI (TY cI cJ cII cJJ) 1 []) (by decide +kernel) (Nat.le_of_ble_eq_true rfl) (fun p e s m below meth c A ls hx hb hr hml hown hts hk hnm hA hK hP hD hS hX hl => ?_)
  have hown : s.vm.findClass RX9 = some m.cls := hown
  have hl : lv_has ls 3 [(0, .ref a0), (1, .int 0), (2, .int x0)] := hl
  refine lv_aload_n hx hb dX9_add_0 rfl (lv_at hl 0 rfl) ?_
  refine kV_v (q0 := 0) ⟨hx, hb, hml, hown, hts⟩ hK hP hD hS hA hX cv_RX9_180 [0, 1, 2, 3, 4, 5, 6, 7, 8, 9, 10] [11] (wr := [(a11, .inl (cI, 4, .inl (tb [0, 0, 0, 0])))]) rfl rfl rfl rfl (by decide) (c373_X9_findSteps l dC dI cI cJ cII cJJ s.heap.size 0 a0 a1 a2 a3 a4 a5 a6 a7 a8 a9 a10 a12 a13 a14 a15 a16 a17 a11 a18 a19 a20 a21 a22 a23 a24 a25 a26 a27) ⟨by decide +kernel, by decide +kernel⟩ rfl rfl (Or.inl rfl) (rest := []) rfl rfl rfl hl.1 rfl (Nat.le_of_ble_eq_true rfl) dX9_add_1 ⟨Nat.le_of_ble_eq_true rfl, Nat.le_of_ble_eq_true rfl⟩ (fun _ => rfl) (W' := [(a11, .inl (cI, 4, .inl (tb [0, 0, 0, 0]))), (a7, .inl (cI, 6001, .inl (tb (0 :: 0 :: List.replicate 5999 2)))), (a8, .inl (cI, 100000, .inl (tb [0, 1]))), (a3, .inl (cI, 4, .inl (tb [0]))), (a6, .inl (cI, 100000, .inl (tb [1, 1]))), (a1, .inl (cI, 3, .inl (tb [0, 0, 0]))), (a2, .inl (cI, 3, .inl (tb [0, 0, 0]))), (a4, .inl (cI, 4, .inl (tb [1]))), (a5, .inl (cI, 400000, .inl (tb [(-1), 0, 0, 0, 1, 0, 0, 0]))), (a10, .inl (cI, 6000, .inl (tb [0, 1]))), (a0, .inr (9, [.ref a12, .ref a13, .ref a14, .ref a15, .ref a16, .ref a17, .ref a11, .ref a18, .ref a19, .ref a20, .ref a21, .ref a22, .int 1, .int 0, .int 1, .ref a5, .ref a6, .ref a7, .ref a8, .ref a9, .ref a10, .int 2, .int 2, .ref a2, .ref a1, .ref a3, .ref a4, .int 0, .int 1, .ref a23, .ref a24, .ref a25, .ref a26, .int 0, .ref a27, .int 0])), (a9, .inl (cI, 24000, .inl (tb [(-1), 0, 0, 0, 1, 0, 0, 0])))]) rfl (fun H locs hP hD hS => ?_)
  refine lv_iload_n hx hb dX9_add_4 rfl (lv_at hl 1 rfl) ?_
  refine lv_aload_n hx hb dX9_add_5 rfl (lv_at hl 0 rfl) ?_
  refine gf (k := 22) hx hb hts inX9 hown hK hP k_817 rfl (by decide) rfl 10 rfl (.int 2) rfl dX9_add_6 ?_
  refine kS_i ⟨hx, hb, hml, hown, hts⟩ hK hP hD hS hA hX cs_RX9_116 [] [0, 1, 2, 3, 4, 5, 6, 7, 8, 9, 10, 11] (wr := [(a11, .inl (cI, 4, .inl (tb [0, 0, 0, 0]))), (a7, .inl (cI, 6001, .inl (tb (0 :: 0 :: List.replicate 5999 2)))), (a8, .inl (cI, 100000, .inl (tb [0, 1]))), (a3, .inl (cI, 4, .inl (tb [0]))), (a6, .inl (cI, 100000, .inl (tb [1, 1]))), (a1, .inl (cI, 3, .inl (tb [0, 0, 0]))), (a2, .inl (cI, 3, .inl (tb [0, 0, 0]))), (a4, .inl (cI, 4, .inl (tb [1]))), (a5, .inl (cI, 400000, .inl (tb [(-1), 0, 0, 0, 1, 0, 0, 0]))), (a10, .inl (cI, 6000, .inl (tb [0, 1]))), (a0, .inr (9, [.ref a12, .ref a13, .ref a14, .ref a15, .ref a16, .ref a17, .ref a11, .ref a18, .ref a19, .ref a20, .ref a21, .ref a22, .int 1, .int 0, .int 1, .ref a5, .ref a6, .ref a7, .ref a8, .ref a9, .ref a10, .int 2, .int 2, .ref a2, .ref a1, .ref a3, .ref a4, .int 0, .int 1, .ref a23, .ref a24, .ref a25, .ref a26, .int 0, .ref a27, .int 0])), (a9, .inl (cI, 24000, .inl (tb [(-1), 0, 0, 0, 1, 0, 0, 0])))]) rfl rfl rfl rfl (by decide) (c397_X9_isIn l dC dI cI cJ cII cJJ H.size 0) ⟨by decide +kernel, by decide +kernel⟩ rfl rfl (Or.inl rfl) (rest := []) rfl hl.1 rfl (Nat.le_of_ble_eq_true rfl) dX9_add_9 ⟨Nat.le_of_ble_eq_true rfl, Nat.le_of_ble_eq_true rfl⟩ (W' := [(a11, .inl (cI, 4, .inl (tb [0, 0, 0, 0]))), (a7, .inl (cI, 6001, .inl (tb (0 :: 0 :: List.replicate 5999 2)))), (a8, .inl (cI, 100000, .inl (tb [0, 1]))), (a3, .inl (cI, 4, .inl (tb [0]))), (a6, .inl (cI, 100000, .inl (tb [1, 1]))), (a1, .inl (cI, 3, .inl (tb [0, 0, 0]))), (a2, .inl (cI, 3, .inl (tb [0, 0, 0]))), (a4, .inl (cI, 4, .inl (tb [1]))), (a5, .inl (cI, 400000, .inl (tb [(-1), 0, 0, 0, 1, 0, 0, 0]))), (a10, .inl (cI, 6000, .inl (tb [0, 1]))), (a0, .inr (9, [.ref a12, .ref a13, .ref a14, .ref a15, .ref a16, .ref a17, .ref a11, .ref a18, .ref a19, .ref a20, .ref a21, .ref a22, .int 1, .int 0, .int 1, .ref a5, .ref a6, .ref a7, .ref a8, .ref a9, .ref a10, .int 2, .int 2, .ref a2, .ref a1, .ref a3, .ref a4, .int 0, .int 1, .ref a23, .ref a24, .ref a25, .ref a26, .int 0, .ref a27, .int 0])), (a9, .inl (cI, 24000, .inl (tb [(-1), 0, 0, 0, 1, 0, 0, 0])))]) rfl (fun H locs hP hD hS => ?_)
  refine f_if_eq hx hb dX9_add_12 36 (by decide) (by decide +kernel) ?_
  refine lv_aload_n hx hb dX9_add_15 rfl (lv_at hl 0 rfl) ?_
  refine lv_aload_n hx hb dX9_add_16 rfl (lv_at hl 0 rfl) ?_
  refine gf (k := 19) hx hb hts inX9 hown hK hP k_814 rfl (by decide) rfl 10 rfl (.ref a9) rfl dX9_add_17 ?_
  refine lv_iconst (v := 4) hx hb dX9_add_20 (by decide) ?_
  refine lv_aload_n hx hb dX9_add_21 rfl (lv_at hl 0 rfl) ?_
  refine gf (k := 20) hx hb hts inX9 hown hK hP k_815 rfl (by decide) rfl 10 rfl (.ref a10) rfl dX9_add_22 ?_
  refine lv_iload_n hx hb dX9_add_25 rfl (lv_at hl 1 rfl) ?_
  refine ld_i hx hb hK hP 9 rfl (vin (by decide +kernel)) dX9_add_26 0 rfl ?_
  refine v_imul hx hb dX9_add_27 0 (by decide +kernel) ?_
  refine lv_iload_n hx hb dX9_add_28 rfl (lv_at hl 2 rfl) ?_
  obtain ⟨z110, e_z110⟩ : ∃ w : Int64, w = x0.toInt64 := ⟨_, rfl⟩
  have h_z110 := s_i2l e_z110 h_x0
  refine lv_i2l (v := z110) hx hb dX9_add_29 e_z110.symm ?_
  refine kV_i (q0 := 0) ⟨hx, hb, hml, hown, hts⟩ hK hP hD hS hA hX cv_RX9_216 [10, 0, 11] [1, 2, 3, 4, 5, 6, 7, 8, 9] (wr := [(a7, .inl (cI, 6001, .inl (tb (0 :: 0 :: List.replicate 5999 2)))), (a8, .inl (cI, 100000, .inl (tb [0, 1]))), (a3, .inl (cI, 4, .inl (tb [0]))), (a6, .inl (cI, 100000, .inl (tb [1, 1]))), (a1, .inl (cI, 3, .inl (tb [0, 0, 0]))), (a2, .inl (cI, 3, .inl (tb [0, 0, 0]))), (a4, .inl (cI, 4, .inl (tb [1]))), (a5, .inl (cI, 400000, .inl (tb [(-1), 0, 0, 0, 1, 0, 0, 0]))), (a10, .inl (cI, 6000, .inl (tb [0, 1])))]) rfl rfl rfl rfl (by decide) (c450_X9_adds l dC dI cI cJ cII cJJ H.size 0 a0 a11 a9 a12 a13 a14 a15 a16 a17 a18 a19 a20 a21 a22 a5 a6 a7 a8 a10 a2 a1 a3 a4 a23 a24 a25 a26 a27 z110 h_z110) ⟨by decide +kernel, by decide +kernel⟩ rfl rfl (Or.inl rfl) (rest := []) rfl rfl rfl hl.1 rfl (Nat.le_of_ble_eq_true rfl) dX9_add_30 ⟨Nat.le_of_ble_eq_true rfl, Nat.le_of_ble_eq_true rfl⟩ (W' := [(a7, .inl (cI, 6001, .inl (tb (0 :: 0 :: List.replicate 5999 2)))), (a8, .inl (cI, 100000, .inl (tb [0, 1]))), (a3, .inl (cI, 4, .inl (tb [0]))), (a6, .inl (cI, 100000, .inl (tb [1, 1]))), (a1, .inl (cI, 3, .inl (tb [0, 0, 0]))), (a2, .inl (cI, 3, .inl (tb [0, 0, 0]))), (a4, .inl (cI, 4, .inl (tb [1]))), (a5, .inl (cI, 400000, .inl (tb [(-1), 0, 0, 0, 1, 0, 0, 0]))), (a10, .inl (cI, 6000, .inl (tb [0, 1])))]) rfl (fun H locs hP hD hS => ?_)
  refine lv_goto (tgt := 41) hx hb dX9_add_33 (by decide) ?_
  exact r_i hx hb hr hk hK (hP.sub [] rfl) (hD.sub [] rfl rfl) hS dX9_add_41
set_option maxRecDepth 100000 in
set_option maxHeartbeats 4000000 in
theorem c452_X9_adds (l : Launch) (dC : Nat → ClassId) (dI : Nat → Nat → Nat) (cI cJ cII cJJ : ClassId) (sz g a0 a1 a2 a3 a4 a5 a6 a7 a8 a9 a10 a11 a12 a13 a14 a15 a16 a17 a18 a19 a20 a21 a22 a23 a24 a25 a26 a27 : Nat) (x0 : Int64) (h_x0 : -2147483648 ≤ x0.toInt ∧ x0.toInt ≤ -10001) : Met l yX9_adds (.code yX9_adds cX9_adds 10 (some .int) :: TT) ({ frames := 3, cells := 0, slots := 0, locals := 140 }) (PcS dC dI (TY cI cJ cII cJJ) [.ref a0, .ref a2, .int 4, .long x0] [(a0, .inr (9, [.ref a4, .ref a5, .ref a6, .ref a7, .ref a8, .ref a9, .ref a1, .ref a3, .ref a10, .ref a11, .ref a12, .ref a13, .int 1, .int 0, .int 1, .ref a14, .ref a15, .ref a16, .ref a17, .ref a2, .ref a18, .int 2, .int 2, .ref a19, .ref a20, .ref a21, .ref a22, .int 0, .int 1, .ref a23, .ref a24, .ref a25, .ref a26, .int 0, .ref a27, .int 0])), (a1, .inl (cI, 4, .inl (tb [0, 0, 0, 0]))), (a2, .inl (cI, 24000, .inl (tb [(-1), 0, 0, 0, 1, 0, 0, 0]))), (a3, .inl (cI, 8, .inl (tb [])))] sz 0 g) ((QcI dC dI (TY cI cJ cII cJJ) (-4) []) (va_A [(a0, .inr (9, [.ref a4, .ref a5, .ref a6, .ref a7, .ref a8, .ref a9, .ref a1, .ref a3, .ref a10, .ref a11, .ref a12, .ref a13, .int 1, .int 0, .int 1, .ref a14, .ref a15, .ref a16, .ref a17, .ref a2, .ref a18, .int 2, .int 2, .ref a19, .ref a20, .ref a21, .ref a22, .int 0, .int 1, .ref a23, .ref a24, .ref a25, .ref a26, .int 0, .ref a27, .int 0])), (a1, .inl (cI, 4, .inl (tb [0, 0, 0, 0]))), (a2, .inl (cI, 24000, .inl (tb [(-1), 0, 0, 0, 1, 0, 0, 0]))), (a3, .inl (cI, 8, .inl (tb [])))] sz)) 0 0 (va_A [(a0, .inr (9, [.ref a4, .ref a5, .ref a6, .ref a7, .ref a8, .ref a9, .ref a1, .ref a3, .ref a10, .ref a11, .ref a12, .ref a13, .int 1, .int 0, .int 1, .ref a14, .ref a15, .ref a16, .ref a17, .ref a2, .ref a18, .int 2, .int 2, .ref a19, .ref a20, .ref a21, .ref a22, .int 0, .int 1, .ref a23, .ref a24, .ref a25, .ref a26, .int 0, .ref a27, .int 0])), (a1, .inl (cI, 4, .inl (tb [0, 0, 0, 0]))), (a2, .inl (cI, 24000, .inl (tb [(-1), 0, 0, 0, 1, 0, 0, 0]))), (a3, .inl (cI, 8, .inl (tb [])))] sz) := by
  refine SM.of (y := yX9_adds) (maxL := 10) (av := [.ref a0, .ref a2, .int 4, .long x0]) (QcI dC dI (TY cI cJ cII cJJ) (-4) []) (by decide +kernel) (Nat.le_of_ble_eq_true rfl) (fun p e s m below meth c A ls hx hb hr hml hown hts hk hnm hA hK hP hD hS hX hl => ?_)
  have hown : s.vm.findClass RX9 = some m.cls := hown
  have hl : lv_has ls 10 [(0, .ref a0), (1, .ref a2), (2, .int 4), (3, .long x0)] := hl
  refine lv_iconst (v := 0) hx hb dX9_adds_0 (by decide) ?_
  refine lv_istore (lv' := [(5, .int 0), (0, .ref a0), (1, .ref a2), (2, .int 4), (3, .long x0)]) hx hb dX9_adds_1 hl (by decide) rfl (fun ls hl => ?_)
  refine lv_iconst (v := 0) hx hb dX9_adds_3 (by decide) ?_
  refine lv_istore (lv' := [(6, .int 0), (5, .int 0), (0, .ref a0), (1, .ref a2), (2, .int 4), (3, .long x0)]) hx hb dX9_adds_4 hl (by decide) rfl (fun ls hl => ?_)
  refine lv_iconst (v := 0) hx hb dX9_adds_6 (by decide) ?_
  refine lv_istore (lv' := [(7, .int 0), (6, .int 0), (5, .int 0), (0, .ref a0), (1, .ref a2), (2, .int 4), (3, .long x0)]) hx hb dX9_adds_7 hl (by decide) rfl (fun ls hl => ?_)
  refine lv_iload hx hb dX9_adds_9 (lv_at hl 0 rfl) ?_
  refine lv_aload_n hx hb dX9_adds_11 rfl (lv_at hl 3 rfl) ?_
  refine gf (k := 12) hx hb hts inX9 hown hK hP k_807 rfl (by decide) rfl 0 rfl (.int 1) rfl dX9_adds_12 ?_
  refine f_icmp_ge hx hb dX9_adds_15 86 (by decide) (by decide +kernel) ?_
  refine lv_aload_n hx hb dX9_adds_18 rfl (lv_at hl 3 rfl) ?_
  refine gf (k := 6) hx hb hts inX9 hown hK hP k_801 rfl (by decide) rfl 0 rfl (.ref a1) rfl dX9_adds_19 ?_
  refine lv_iload hx hb dX9_adds_22 (lv_at hl 0 rfl) ?_
  refine ld_i hx hb hK hP 1 rfl (vin (by decide +kernel)) dX9_adds_24 0 rfl ?_
  refine lv_i2l (v := 0) hx hb dX9_adds_25 (by decide +kernel) ?_
  refine lv_lload_n hx hb dX9_adds_26 rfl (lv_at hl 6 rfl) ?_
  refine lv_aload_n hx hb dX9_adds_27 rfl (lv_at hl 4 rfl) ?_
  refine lv_iload_n hx hb dX9_adds_28 rfl (lv_at hl 5 rfl) ?_
  refine lv_iload hx hb dX9_adds_29 (lv_at hl 0 rfl) ?_
  refine v_iadd hx hb dX9_adds_31 4 (by decide +kernel) ?_
  refine ld_i hx hb hK hP 2 rfl (vin (by decide +kernel)) dX9_adds_32 1 rfl ?_
  refine lv_i2l (v := 1) hx hb dX9_adds_33 (by decide +kernel) ?_
  refine v_lmul hx hb dX9_adds_34 x0 (s_mul164 x0) ?_
  refine v_ladd hx hb dX9_adds_35 x0 (s_ladd0 x0) ?_
  refine lv_lstore (lv' := [(8, .long x0), (7, .int 0), (6, .int 0), (5, .int 0), (0, .ref a0), (1, .ref a2), (2, .int 4), (3, .long x0)]) hx hb dX9_adds_36 hl (by decide) rfl (fun ls hl => ?_)
  refine lv_iload hx hb dX9_adds_38 (lv_at hl 3 rfl) ?_
  refine f_if_ne hx hb dX9_adds_40 52 (by decide) (by decide +kernel) ?_
  refine lv_lload hx hb dX9_adds_43 (lv_at hl 0 rfl) ?_
  refine lv_ldc2 (v := (-10000)) hx hb hown (hts _ k_1079) dX9_adds_45 ?_
  refine v_lcmp hx hb dX9_adds_48 (-1) (p_clt (by rw [show ((-10000) : Int64).toInt = (-10000) from by decide +kernel]; omega)) ?_
  refine f_if_ge hx hb dX9_adds_49 56 (by decide) (by decide +kernel) ?_
  refine lv_iconst (v := 1) hx hb dX9_adds_52 (by decide) ?_
  refine lv_goto (tgt := 57) hx hb dX9_adds_53 (by decide) ?_
  refine lv_istore (lv' := [(5, .int 1), (8, .long x0), (7, .int 0), (6, .int 0), (0, .ref a0), (1, .ref a2), (2, .int 4), (3, .long x0)]) hx hb dX9_adds_57 hl (by decide) rfl (fun ls hl => ?_)
  refine lv_iload hx hb dX9_adds_59 (lv_at hl 3 rfl) ?_
  refine f_if_ne hx hb dX9_adds_61 73 (by decide) (by decide +kernel) ?_
  refine lv_lload hx hb dX9_adds_64 (lv_at hl 1 rfl) ?_
  refine lv_ldc2 (v := 10000) hx hb hown (hts _ k_1080) dX9_adds_66 ?_
  refine v_lcmp hx hb dX9_adds_69 (-1) (p_clt (by rw [show (10000 : Int64).toInt = 10000 from by decide +kernel]; omega)) ?_
  refine t_if_le hx hb dX9_adds_70 77 (by decide) (by decide +kernel) ?_
  refine lv_iconst (v := 0) hx hb dX9_adds_77 (by decide) ?_
  refine lv_istore (lv' := [(6, .int 0), (5, .int 1), (8, .long x0), (7, .int 0), (0, .ref a0), (1, .ref a2), (2, .int 4), (3, .long x0)]) hx hb dX9_adds_78 hl (by decide) rfl (fun ls hl => ?_)
  refine lv_iinc (v := 1) (lv' := [(7, .int 1), (6, .int 0), (5, .int 1), (8, .long x0), (0, .ref a0), (1, .ref a2), (2, .int 4), (3, .long x0)]) hx hb dX9_adds_80 hl (k := 3) rfl (by decide +kernel) (by decide) rfl (fun ls hl => ?_)
  refine lv_goto (tgt := 9) hx hb dX9_adds_83 (by decide) ?_
  refine lv_iload hx hb dX9_adds_9 (lv_at hl 0 rfl) ?_
  refine lv_aload_n hx hb dX9_adds_11 rfl (lv_at hl 4 rfl) ?_
  refine gf (k := 12) hx hb hts inX9 hown hK hP k_807 rfl (by decide) rfl 0 rfl (.int 1) rfl dX9_adds_12 ?_
  refine t_icmp_ge hx hb dX9_adds_15 86 (by decide) (by decide +kernel) ?_
  refine lv_iload hx hb dX9_adds_86 (lv_at hl 2 rfl) ?_
  refine f_if_eq hx hb dX9_adds_88 98 (by decide) (by decide +kernel) ?_
  refine lv_aload_n hx hb dX9_adds_91 rfl (lv_at hl 4 rfl) ?_
  refine lv_bipush (v := (-4)) hx hb dX9_adds_92 (by decide) ?_
  refine kV_i (q0 := 0) ⟨hx, hb, hml, hown, hts⟩ hK hP hD hS hA hX cv_RX9_112 [0, 3] [1, 2] (wr := [(a1, .inl (cI, 4, .inl (tb [0, 0, 0, 0]))), (a2, .inl (cI, 24000, .inl (tb [(-1), 0, 0, 0, 1, 0, 0, 0])))]) rfl rfl rfl rfl (by decide) (c448_X9_refuse l dC dI cI cJ cII cJJ s.heap.size 0 a0 a3 a4 a5 a6 a7 a8 a9 a1 a10 a11 a12 a13 a14 a15 a16 a17 a2 a18 a19 a20 a21 a22 a23 a24 a25 a26 a27) ⟨by decide +kernel, by decide +kernel⟩ rfl rfl (Or.inl rfl) (rest := []) rfl rfl rfl hl.1 rfl (Nat.le_of_ble_eq_true rfl) dX9_adds_94 ⟨Nat.le_of_ble_eq_true rfl, Nat.le_of_ble_eq_true rfl⟩ (W' := [(a1, .inl (cI, 4, .inl (tb [0, 0, 0, 0]))), (a2, .inl (cI, 24000, .inl (tb [(-1), 0, 0, 0, 1, 0, 0, 0]))), (a0, .inr (9, [.ref a4, .ref a5, .ref a6, .ref a7, .ref a8, .ref a9, .ref a1, .ref a3, .ref a10, .ref a11, .ref a12, .ref a13, .int 1, .int 0, .int 1, .ref a14, .ref a15, .ref a16, .ref a17, .ref a2, .ref a18, .int 2, .int 2, .ref a19, .ref a20, .ref a21, .ref a22, .int 0, .int 1, .ref a23, .ref a24, .ref a25, .ref a26, .int 0, .ref a27, .int 0])), (a3, .inl (cI, 8, .inl (tb [0, 0, 0, 0, 1])))]) rfl (fun H locs hP hD hS => ?_)
  exact r_i hx hb hr hk hK (hP.sub [] rfl) (hD.sub [] rfl rfl) hS dX9_adds_97
set_option maxRecDepth 100000 in
set_option maxHeartbeats 4000000 in
theorem c451_X9_add (l : Launch) (dC : Nat → ClassId) (dI : Nat → Nat → Nat) (cI cJ cII cJJ : ClassId) (sz g a0 a1 a2 a3 a4 a5 a6 a7 a8 a9 a10 a11 a12 a13 a14 a15 a16 a17 a18 a19 a20 a21 a22 a23 a24 a25 a26 a27 : Nat) (x0 : Int32) (h_x0 : -2147483648 ≤ x0.toInt ∧ x0.toInt ≤ -10001) : Met l yX9_add (.code yX9_add cX9_add 3 (some .int) :: TT) ({ frames := 7, cells := 0, slots := 0, locals := 380 }) (PcS dC dI (TY cI cJ cII cJJ) [.ref a0, .int 1, .int x0] [(a0, .inr (9, [.ref a13, .ref a14, .ref a15, .ref a16, .ref a17, .ref a18, .ref a11, .ref a12, .ref a19, .ref a20, .ref a21, .ref a22, .int 1, .int 0, .int 0, .ref a5, .ref a6, .ref a7, .ref a8, .ref a9, .ref a10, .int 0, .int 0, .ref a2, .ref a1, .ref a3, .ref a4, .int 0, .int 0, .ref a23, .ref a24, .ref a25, .ref a26, .int 0, .ref a27, .int 0])), (a1, .inl (cI, 3, .inl (tb []))), (a2, .inl (cI, 3, .inl (tb []))), (a3, .inl (cI, 4, .inl (tb []))), (a4, .inl (cI, 4, .inl (tb []))), (a5, .inl (cI, 400000, .inl (tb []))), (a6, .inl (cI, 100000, .inl (tb []))), (a7, .inl (cI, 6001, .inl (tb []))), (a8, .inl (cI, 100000, .inl (tb []))), (a9, .inl (cI, 24000, .inl (tb []))), (a10, .inl (cI, 6000, .inl (tb []))), (a11, .inl (cI, 4, .inl (tb [0, 0, 0, 0]))), (a12, .inl (cI, 8, .inl (tb [])))] sz 0 g) ((QcI dC dI (TY cI cJ cII cJJ) (-4) []) (va_A [(a0, .inr (9, [.ref a13, .ref a14, .ref a15, .ref a16, .ref a17, .ref a18, .ref a11, .ref a12, .ref a19, .ref a20, .ref a21, .ref a22, .int 1, .int 0, .int 0, .ref a5, .ref a6, .ref a7, .ref a8, .ref a9, .ref a10, .int 0, .int 0, .ref a2, .ref a1, .ref a3, .ref a4, .int 0, .int 0, .ref a23, .ref a24, .ref a25, .ref a26, .int 0, .ref a27, .int 0])), (a1, .inl (cI, 3, .inl (tb []))), (a2, .inl (cI, 3, .inl (tb []))), (a3, .inl (cI, 4, .inl (tb []))), (a4, .inl (cI, 4, .inl (tb []))), (a5, .inl (cI, 400000, .inl (tb []))), (a6, .inl (cI, 100000, .inl (tb []))), (a7, .inl (cI, 6001, .inl (tb []))), (a8, .inl (cI, 100000, .inl (tb []))), (a9, .inl (cI, 24000, .inl (tb []))), (a10, .inl (cI, 6000, .inl (tb []))), (a11, .inl (cI, 4, .inl (tb [0, 0, 0, 0]))), (a12, .inl (cI, 8, .inl (tb [])))] sz)) 0 0 (va_A [(a0, .inr (9, [.ref a13, .ref a14, .ref a15, .ref a16, .ref a17, .ref a18, .ref a11, .ref a12, .ref a19, .ref a20, .ref a21, .ref a22, .int 1, .int 0, .int 0, .ref a5, .ref a6, .ref a7, .ref a8, .ref a9, .ref a10, .int 0, .int 0, .ref a2, .ref a1, .ref a3, .ref a4, .int 0, .int 0, .ref a23, .ref a24, .ref a25, .ref a26, .int 0, .ref a27, .int 0])), (a1, .inl (cI, 3, .inl (tb []))), (a2, .inl (cI, 3, .inl (tb []))), (a3, .inl (cI, 4, .inl (tb []))), (a4, .inl (cI, 4, .inl (tb []))), (a5, .inl (cI, 400000, .inl (tb []))), (a6, .inl (cI, 100000, .inl (tb []))), (a7, .inl (cI, 6001, .inl (tb []))), (a8, .inl (cI, 100000, .inl (tb []))), (a9, .inl (cI, 24000, .inl (tb []))), (a10, .inl (cI, 6000, .inl (tb []))), (a11, .inl (cI, 4, .inl (tb [0, 0, 0, 0]))), (a12, .inl (cI, 8, .inl (tb [])))] sz) := by
  refine SM.of (y := yX9_add) (maxL := 3) (av := [.ref a0, .int 1, .int x0]) (QcI dC dI (TY cI cJ cII cJJ) (-4) []) (by decide +kernel) (Nat.le_of_ble_eq_true rfl) (fun p e s m below meth c A ls hx hb hr hml hown hts hk hnm hA hK hP hD hS hX hl => ?_)
  have hown : s.vm.findClass RX9 = some m.cls := hown
  have hl : lv_has ls 3 [(0, .ref a0), (1, .int 1), (2, .int x0)] := hl
  refine lv_aload_n hx hb dX9_add_0 rfl (lv_at hl 0 rfl) ?_
  refine kV_v (q0 := 0) ⟨hx, hb, hml, hown, hts⟩ hK hP hD hS hA hX cv_RX9_180 [0, 1, 2, 3, 4, 5, 6, 7, 8, 9, 10] [11, 12] (wr := [(a11, .inl (cI, 4, .inl (tb [0, 0, 0, 0]))), (a12, .inl (cI, 8, .inl (tb [])))]) rfl rfl rfl rfl (by decide) (c373_X9_findSteps l dC dI cI cJ cII cJJ s.heap.size 0 a0 a1 a2 a3 a4 a5 a6 a7 a8 a9 a10 a13 a14 a15 a16 a17 a18 a11 a12 a19 a20 a21 a22 a23 a24 a25 a26 a27) ⟨by decide +kernel, by decide +kernel⟩ rfl rfl (Or.inl rfl) (rest := []) rfl rfl rfl hl.1 rfl (Nat.le_of_ble_eq_true rfl) dX9_add_1 ⟨Nat.le_of_ble_eq_true rfl, Nat.le_of_ble_eq_true rfl⟩ (fun _ => rfl) (W' := [(a11, .inl (cI, 4, .inl (tb [0, 0, 0, 0]))), (a12, .inl (cI, 8, .inl (tb []))), (a7, .inl (cI, 6001, .inl (tb (0 :: 0 :: List.replicate 5999 2)))), (a8, .inl (cI, 100000, .inl (tb [0, 1]))), (a3, .inl (cI, 4, .inl (tb [0]))), (a6, .inl (cI, 100000, .inl (tb [1, 1]))), (a1, .inl (cI, 3, .inl (tb [0, 0, 0]))), (a2, .inl (cI, 3, .inl (tb [0, 0, 0]))), (a4, .inl (cI, 4, .inl (tb [1]))), (a5, .inl (cI, 400000, .inl (tb [(-1), 0, 0, 0, 1, 0, 0, 0]))), (a10, .inl (cI, 6000, .inl (tb [0, 1]))), (a0, .inr (9, [.ref a13, .ref a14, .ref a15, .ref a16, .ref a17, .ref a18, .ref a11, .ref a12, .ref a19, .ref a20, .ref a21, .ref a22, .int 1, .int 0, .int 1, .ref a5, .ref a6, .ref a7, .ref a8, .ref a9, .ref a10, .int 2, .int 2, .ref a2, .ref a1, .ref a3, .ref a4, .int 0, .int 1, .ref a23, .ref a24, .ref a25, .ref a26, .int 0, .ref a27, .int 0])), (a9, .inl (cI, 24000, .inl (tb [(-1), 0, 0, 0, 1, 0, 0, 0])))]) rfl (fun H locs hP hD hS => ?_)
  refine lv_iload_n hx hb dX9_add_4 rfl (lv_at hl 1 rfl) ?_
  refine lv_aload_n hx hb dX9_add_5 rfl (lv_at hl 0 rfl) ?_
  refine gf (k := 22) hx hb hts inX9 hown hK hP k_817 rfl (by decide) rfl 11 rfl (.int 2) rfl dX9_add_6 ?_
  refine kS_i ⟨hx, hb, hml, hown, hts⟩ hK hP hD hS hA hX cs_RX9_116 [] [0, 1, 2, 3, 4, 5, 6, 7, 8, 9, 10, 11, 12] (wr := [(a11, .inl (cI, 4, .inl (tb [0, 0, 0, 0]))), (a12, .inl (cI, 8, .inl (tb []))), (a7, .inl (cI, 6001, .inl (tb (0 :: 0 :: List.replicate 5999 2)))), (a8, .inl (cI, 100000, .inl (tb [0, 1]))), (a3, .inl (cI, 4, .inl (tb [0]))), (a6, .inl (cI, 100000, .inl (tb [1, 1]))), (a1, .inl (cI, 3, .inl (tb [0, 0, 0]))), (a2, .inl (cI, 3, .inl (tb [0, 0, 0]))), (a4, .inl (cI, 4, .inl (tb [1]))), (a5, .inl (cI, 400000, .inl (tb [(-1), 0, 0, 0, 1, 0, 0, 0]))), (a10, .inl (cI, 6000, .inl (tb [0, 1]))), (a0, .inr (9, [.ref a13, .ref a14, .ref a15, .ref a16, .ref a17, .ref a18, .ref a11, .ref a12, .ref a19, .ref a20, .ref a21, .ref a22, .int 1, .int 0, .int 1, .ref a5, .ref a6, .ref a7, .ref a8, .ref a9, .ref a10, .int 2, .int 2, .ref a2, .ref a1, .ref a3, .ref a4, .int 0, .int 1, .ref a23, .ref a24, .ref a25, .ref a26, .int 0, .ref a27, .int 0])), (a9, .inl (cI, 24000, .inl (tb [(-1), 0, 0, 0, 1, 0, 0, 0])))]) rfl rfl rfl rfl (by decide) (c402_X9_isIn l dC dI cI cJ cII cJJ H.size 0) ⟨by decide +kernel, by decide +kernel⟩ rfl rfl (Or.inl rfl) (rest := []) rfl hl.1 rfl (Nat.le_of_ble_eq_true rfl) dX9_add_9 ⟨Nat.le_of_ble_eq_true rfl, Nat.le_of_ble_eq_true rfl⟩ (W' := [(a11, .inl (cI, 4, .inl (tb [0, 0, 0, 0]))), (a12, .inl (cI, 8, .inl (tb []))), (a7, .inl (cI, 6001, .inl (tb (0 :: 0 :: List.replicate 5999 2)))), (a8, .inl (cI, 100000, .inl (tb [0, 1]))), (a3, .inl (cI, 4, .inl (tb [0]))), (a6, .inl (cI, 100000, .inl (tb [1, 1]))), (a1, .inl (cI, 3, .inl (tb [0, 0, 0]))), (a2, .inl (cI, 3, .inl (tb [0, 0, 0]))), (a4, .inl (cI, 4, .inl (tb [1]))), (a5, .inl (cI, 400000, .inl (tb [(-1), 0, 0, 0, 1, 0, 0, 0]))), (a10, .inl (cI, 6000, .inl (tb [0, 1]))), (a0, .inr (9, [.ref a13, .ref a14, .ref a15, .ref a16, .ref a17, .ref a18, .ref a11, .ref a12, .ref a19, .ref a20, .ref a21, .ref a22, .int 1, .int 0, .int 1, .ref a5, .ref a6, .ref a7, .ref a8, .ref a9, .ref a10, .int 2, .int 2, .ref a2, .ref a1, .ref a3, .ref a4, .int 0, .int 1, .ref a23, .ref a24, .ref a25, .ref a26, .int 0, .ref a27, .int 0])), (a9, .inl (cI, 24000, .inl (tb [(-1), 0, 0, 0, 1, 0, 0, 0])))]) rfl (fun H locs hP hD hS => ?_)
  refine f_if_eq hx hb dX9_add_12 36 (by decide) (by decide +kernel) ?_
  refine lv_aload_n hx hb dX9_add_15 rfl (lv_at hl 0 rfl) ?_
  refine lv_aload_n hx hb dX9_add_16 rfl (lv_at hl 0 rfl) ?_
  refine gf (k := 19) hx hb hts inX9 hown hK hP k_814 rfl (by decide) rfl 11 rfl (.ref a9) rfl dX9_add_17 ?_
  refine lv_iconst (v := 4) hx hb dX9_add_20 (by decide) ?_
  refine lv_aload_n hx hb dX9_add_21 rfl (lv_at hl 0 rfl) ?_
  refine gf (k := 20) hx hb hts inX9 hown hK hP k_815 rfl (by decide) rfl 11 rfl (.ref a10) rfl dX9_add_22 ?_
  refine lv_iload_n hx hb dX9_add_25 rfl (lv_at hl 1 rfl) ?_
  refine ld_i hx hb hK hP 10 rfl (vin (by decide +kernel)) dX9_add_26 1 rfl ?_
  refine v_imul hx hb dX9_add_27 4 (by decide +kernel) ?_
  refine lv_iload_n hx hb dX9_add_28 rfl (lv_at hl 2 rfl) ?_
  obtain ⟨z127, e_z127⟩ : ∃ w : Int64, w = x0.toInt64 := ⟨_, rfl⟩
  have h_z127 := s_i2l e_z127 h_x0
  refine lv_i2l (v := z127) hx hb dX9_add_29 e_z127.symm ?_
  refine kV_i (q0 := 0) ⟨hx, hb, hml, hown, hts⟩ hK hP hD hS hA hX cv_RX9_216 [11, 0, 12, 1] [2, 3, 4, 5, 6, 7, 8, 9, 10] (wr := [(a7, .inl (cI, 6001, .inl (tb (0 :: 0 :: List.replicate 5999 2)))), (a8, .inl (cI, 100000, .inl (tb [0, 1]))), (a3, .inl (cI, 4, .inl (tb [0]))), (a6, .inl (cI, 100000, .inl (tb [1, 1]))), (a1, .inl (cI, 3, .inl (tb [0, 0, 0]))), (a2, .inl (cI, 3, .inl (tb [0, 0, 0]))), (a4, .inl (cI, 4, .inl (tb [1]))), (a5, .inl (cI, 400000, .inl (tb [(-1), 0, 0, 0, 1, 0, 0, 0]))), (a10, .inl (cI, 6000, .inl (tb [0, 1])))]) rfl rfl rfl rfl (by decide) (c452_X9_adds l dC dI cI cJ cII cJJ H.size 0 a0 a11 a9 a12 a13 a14 a15 a16 a17 a18 a19 a20 a21 a22 a5 a6 a7 a8 a10 a2 a1 a3 a4 a23 a24 a25 a26 a27 z127 h_z127) ⟨by decide +kernel, by decide +kernel⟩ rfl rfl (Or.inl rfl) (rest := []) rfl rfl rfl hl.1 rfl (Nat.le_of_ble_eq_true rfl) dX9_add_30 ⟨Nat.le_of_ble_eq_true rfl, Nat.le_of_ble_eq_true rfl⟩ (W' := [(a7, .inl (cI, 6001, .inl (tb (0 :: 0 :: List.replicate 5999 2)))), (a8, .inl (cI, 100000, .inl (tb [0, 1]))), (a3, .inl (cI, 4, .inl (tb [0]))), (a6, .inl (cI, 100000, .inl (tb [1, 1]))), (a1, .inl (cI, 3, .inl (tb [0, 0, 0]))), (a2, .inl (cI, 3, .inl (tb [0, 0, 0]))), (a4, .inl (cI, 4, .inl (tb [1]))), (a5, .inl (cI, 400000, .inl (tb [(-1), 0, 0, 0, 1, 0, 0, 0]))), (a10, .inl (cI, 6000, .inl (tb [0, 1])))]) rfl (fun H locs hP hD hS => ?_)
  refine lv_goto (tgt := 41) hx hb dX9_add_33 (by decide) ?_
  exact r_i hx hb hr hk hK (hP.sub [] rfl) (hD.sub [] rfl rfl) hS dX9_add_41
set_option maxRecDepth 100000 in
set_option maxHeartbeats 4000000 in
theorem c454_X9_adds (l : Launch) (dC : Nat → ClassId) (dI : Nat → Nat → Nat) (cI cJ cII cJJ : ClassId) (sz g a0 a1 a2 a3 a4 a5 a6 a7 a8 a9 a10 a11 a12 a13 a14 a15 a16 a17 a18 a19 a20 a21 a22 a23 a24 a25 a26 a27 : Nat) (x0 : Int64) (h_x0 : 10001 ≤ x0.toInt ∧ x0.toInt ≤ 2147483647) : Met l yX9_adds (.code yX9_adds cX9_adds 10 (some .int) :: TT) ({ frames := 3, cells := 0, slots := 0, locals := 140 }) (PcS dC dI (TY cI cJ cII cJJ) [.ref a0, .ref a2, .int 4, .long x0] [(a0, .inr (9, [.ref a4, .ref a5, .ref a6, .ref a7, .ref a8, .ref a9, .ref a1, .ref a3, .ref a10, .ref a11, .ref a12, .ref a13, .int 1, .int 0, .int 1, .ref a14, .ref a15, .ref a16, .ref a17, .ref a2, .ref a18, .int 2, .int 2, .ref a19, .ref a20, .ref a21, .ref a22, .int 0, .int 1, .ref a23, .ref a24, .ref a25, .ref a26, .int 0, .ref a27, .int 0])), (a1, .inl (cI, 4, .inl (tb [0, 0, 0, 0]))), (a2, .inl (cI, 24000, .inl (tb [(-1), 0, 0, 0, 1, 0, 0, 0]))), (a3, .inl (cI, 8, .inl (tb [])))] sz 0 g) ((QcI dC dI (TY cI cJ cII cJJ) (-6) []) (va_A [(a0, .inr (9, [.ref a4, .ref a5, .ref a6, .ref a7, .ref a8, .ref a9, .ref a1, .ref a3, .ref a10, .ref a11, .ref a12, .ref a13, .int 1, .int 0, .int 1, .ref a14, .ref a15, .ref a16, .ref a17, .ref a2, .ref a18, .int 2, .int 2, .ref a19, .ref a20, .ref a21, .ref a22, .int 0, .int 1, .ref a23, .ref a24, .ref a25, .ref a26, .int 0, .ref a27, .int 0])), (a1, .inl (cI, 4, .inl (tb [0, 0, 0, 0]))), (a2, .inl (cI, 24000, .inl (tb [(-1), 0, 0, 0, 1, 0, 0, 0]))), (a3, .inl (cI, 8, .inl (tb [])))] sz)) 0 0 (va_A [(a0, .inr (9, [.ref a4, .ref a5, .ref a6, .ref a7, .ref a8, .ref a9, .ref a1, .ref a3, .ref a10, .ref a11, .ref a12, .ref a13, .int 1, .int 0, .int 1, .ref a14, .ref a15, .ref a16, .ref a17, .ref a2, .ref a18, .int 2, .int 2, .ref a19, .ref a20, .ref a21, .ref a22, .int 0, .int 1, .ref a23, .ref a24, .ref a25, .ref a26, .int 0, .ref a27, .int 0])), (a1, .inl (cI, 4, .inl (tb [0, 0, 0, 0]))), (a2, .inl (cI, 24000, .inl (tb [(-1), 0, 0, 0, 1, 0, 0, 0]))), (a3, .inl (cI, 8, .inl (tb [])))] sz) := by
  refine SM.of (y := yX9_adds) (maxL := 10) (av := [.ref a0, .ref a2, .int 4, .long x0]) (QcI dC dI (TY cI cJ cII cJJ) (-6) []) (by decide +kernel) (Nat.le_of_ble_eq_true rfl) (fun p e s m below meth c A ls hx hb hr hml hown hts hk hnm hA hK hP hD hS hX hl => ?_)
  have hown : s.vm.findClass RX9 = some m.cls := hown
  have hl : lv_has ls 10 [(0, .ref a0), (1, .ref a2), (2, .int 4), (3, .long x0)] := hl
  refine lv_iconst (v := 0) hx hb dX9_adds_0 (by decide) ?_
  refine lv_istore (lv' := [(5, .int 0), (0, .ref a0), (1, .ref a2), (2, .int 4), (3, .long x0)]) hx hb dX9_adds_1 hl (by decide) rfl (fun ls hl => ?_)
  refine lv_iconst (v := 0) hx hb dX9_adds_3 (by decide) ?_
  refine lv_istore (lv' := [(6, .int 0), (5, .int 0), (0, .ref a0), (1, .ref a2), (2, .int 4), (3, .long x0)]) hx hb dX9_adds_4 hl (by decide) rfl (fun ls hl => ?_)
  refine lv_iconst (v := 0) hx hb dX9_adds_6 (by decide) ?_
  refine lv_istore (lv' := [(7, .int 0), (6, .int 0), (5, .int 0), (0, .ref a0), (1, .ref a2), (2, .int 4), (3, .long x0)]) hx hb dX9_adds_7 hl (by decide) rfl (fun ls hl => ?_)
  refine lv_iload hx hb dX9_adds_9 (lv_at hl 0 rfl) ?_
  refine lv_aload_n hx hb dX9_adds_11 rfl (lv_at hl 3 rfl) ?_
  refine gf (k := 12) hx hb hts inX9 hown hK hP k_807 rfl (by decide) rfl 0 rfl (.int 1) rfl dX9_adds_12 ?_
  refine f_icmp_ge hx hb dX9_adds_15 86 (by decide) (by decide +kernel) ?_
  refine lv_aload_n hx hb dX9_adds_18 rfl (lv_at hl 3 rfl) ?_
  refine gf (k := 6) hx hb hts inX9 hown hK hP k_801 rfl (by decide) rfl 0 rfl (.ref a1) rfl dX9_adds_19 ?_
  refine lv_iload hx hb dX9_adds_22 (lv_at hl 0 rfl) ?_
  refine ld_i hx hb hK hP 1 rfl (vin (by decide +kernel)) dX9_adds_24 0 rfl ?_
  refine lv_i2l (v := 0) hx hb dX9_adds_25 (by decide +kernel) ?_
  refine lv_lload_n hx hb dX9_adds_26 rfl (lv_at hl 6 rfl) ?_
  refine lv_aload_n hx hb dX9_adds_27 rfl (lv_at hl 4 rfl) ?_
  refine lv_iload_n hx hb dX9_adds_28 rfl (lv_at hl 5 rfl) ?_
  refine lv_iload hx hb dX9_adds_29 (lv_at hl 0 rfl) ?_
  refine v_iadd hx hb dX9_adds_31 4 (by decide +kernel) ?_
  refine ld_i hx hb hK hP 2 rfl (vin (by decide +kernel)) dX9_adds_32 1 rfl ?_
  refine lv_i2l (v := 1) hx hb dX9_adds_33 (by decide +kernel) ?_
  refine v_lmul hx hb dX9_adds_34 x0 (s_mul164 x0) ?_
  refine v_ladd hx hb dX9_adds_35 x0 (s_ladd0 x0) ?_
  refine lv_lstore (lv' := [(8, .long x0), (7, .int 0), (6, .int 0), (5, .int 0), (0, .ref a0), (1, .ref a2), (2, .int 4), (3, .long x0)]) hx hb dX9_adds_36 hl (by decide) rfl (fun ls hl => ?_)
  refine lv_iload hx hb dX9_adds_38 (lv_at hl 3 rfl) ?_
  refine f_if_ne hx hb dX9_adds_40 52 (by decide) (by decide +kernel) ?_
  refine lv_lload hx hb dX9_adds_43 (lv_at hl 0 rfl) ?_
  refine lv_ldc2 (v := (-10000)) hx hb hown (hts _ k_1079) dX9_adds_45 ?_
  refine v_lcmp hx hb dX9_adds_48 1 (p_cgt (by rw [show ((-10000) : Int64).toInt = (-10000) from by decide +kernel]; omega)) ?_
  refine t_if_ge hx hb dX9_adds_49 56 (by decide) (by decide +kernel) ?_
  refine lv_iconst (v := 0) hx hb dX9_adds_56 (by decide) ?_
  refine lv_istore (lv' := [(5, .int 0), (8, .long x0), (7, .int 0), (6, .int 0), (0, .ref a0), (1, .ref a2), (2, .int 4), (3, .long x0)]) hx hb dX9_adds_57 hl (by decide) rfl (fun ls hl => ?_)
  refine lv_iload hx hb dX9_adds_59 (lv_at hl 3 rfl) ?_
  refine f_if_ne hx hb dX9_adds_61 73 (by decide) (by decide +kernel) ?_
  refine lv_lload hx hb dX9_adds_64 (lv_at hl 1 rfl) ?_
  refine lv_ldc2 (v := 10000) hx hb hown (hts _ k_1080) dX9_adds_66 ?_
  refine v_lcmp hx hb dX9_adds_69 1 (p_cgt (by rw [show (10000 : Int64).toInt = 10000 from by decide +kernel]; omega)) ?_
  refine f_if_le hx hb dX9_adds_70 77 (by decide) (by decide +kernel) ?_
  refine lv_iconst (v := 1) hx hb dX9_adds_73 (by decide) ?_
  refine lv_goto (tgt := 78) hx hb dX9_adds_74 (by decide) ?_
  refine lv_istore (lv' := [(6, .int 1), (5, .int 0), (8, .long x0), (7, .int 0), (0, .ref a0), (1, .ref a2), (2, .int 4), (3, .long x0)]) hx hb dX9_adds_78 hl (by decide) rfl (fun ls hl => ?_)
  refine lv_iinc (v := 1) (lv' := [(7, .int 1), (6, .int 1), (5, .int 0), (8, .long x0), (0, .ref a0), (1, .ref a2), (2, .int 4), (3, .long x0)]) hx hb dX9_adds_80 hl (k := 3) rfl (by decide +kernel) (by decide) rfl (fun ls hl => ?_)
  refine lv_goto (tgt := 9) hx hb dX9_adds_83 (by decide) ?_
  refine lv_iload hx hb dX9_adds_9 (lv_at hl 0 rfl) ?_
  refine lv_aload_n hx hb dX9_adds_11 rfl (lv_at hl 4 rfl) ?_
  refine gf (k := 12) hx hb hts inX9 hown hK hP k_807 rfl (by decide) rfl 0 rfl (.int 1) rfl dX9_adds_12 ?_
  refine t_icmp_ge hx hb dX9_adds_15 86 (by decide) (by decide +kernel) ?_
  refine lv_iload hx hb dX9_adds_86 (lv_at hl 2 rfl) ?_
  refine t_if_eq hx hb dX9_adds_88 98 (by decide) (by decide +kernel) ?_
  refine lv_iload hx hb dX9_adds_98 (lv_at hl 1 rfl) ?_
  refine f_if_eq hx hb dX9_adds_100 110 (by decide) (by decide +kernel) ?_
  refine lv_aload_n hx hb dX9_adds_103 rfl (lv_at hl 4 rfl) ?_
  refine lv_bipush (v := (-6)) hx hb dX9_adds_104 (by decide) ?_
  refine kV_i (q0 := 0) ⟨hx, hb, hml, hown, hts⟩ hK hP hD hS hA hX cv_RX9_112 [0, 3] [1, 2] (wr := [(a1, .inl (cI, 4, .inl (tb [0, 0, 0, 0]))), (a2, .inl (cI, 24000, .inl (tb [(-1), 0, 0, 0, 1, 0, 0, 0])))]) rfl rfl rfl rfl (by decide) (c445_X9_refuse l dC dI cI cJ cII cJJ s.heap.size 0 a0 a3 a4 a5 a6 a7 a8 a9 a1 a10 a11 a12 a13 a14 a15 a16 a17 a2 a18 a19 a20 a21 a22 a23 a24 a25 a26 a27) ⟨by decide +kernel, by decide +kernel⟩ rfl rfl (Or.inl rfl) (rest := []) rfl rfl rfl hl.1 rfl (Nat.le_of_ble_eq_true rfl) dX9_adds_106 ⟨Nat.le_of_ble_eq_true rfl, Nat.le_of_ble_eq_true rfl⟩ (W' := [(a1, .inl (cI, 4, .inl (tb [0, 0, 0, 0]))), (a2, .inl (cI, 24000, .inl (tb [(-1), 0, 0, 0, 1, 0, 0, 0]))), (a0, .inr (9, [.ref a4, .ref a5, .ref a6, .ref a7, .ref a8, .ref a9, .ref a1, .ref a3, .ref a10, .ref a11, .ref a12, .ref a13, .int 1, .int 0, .int 1, .ref a14, .ref a15, .ref a16, .ref a17, .ref a2, .ref a18, .int 2, .int 2, .ref a19, .ref a20, .ref a21, .ref a22, .int 0, .int 1, .ref a23, .ref a24, .ref a25, .ref a26, .int 0, .ref a27, .int 0])), (a3, .inl (cI, 8, .inl (tb [0, 0, 0, 0, 0, 0, 1])))]) rfl (fun H locs hP hD hS => ?_)
  exact r_i hx hb hr hk hK (hP.sub [] rfl) (hD.sub [] rfl rfl) hS dX9_adds_109
set_option maxRecDepth 100000 in
set_option maxHeartbeats 4000000 in
theorem c453_X9_add (l : Launch) (dC : Nat → ClassId) (dI : Nat → Nat → Nat) (cI cJ cII cJJ : ClassId) (sz g a0 a1 a2 a3 a4 a5 a6 a7 a8 a9 a10 a11 a12 a13 a14 a15 a16 a17 a18 a19 a20 a21 a22 a23 a24 a25 a26 a27 : Nat) (x0 : Int32) (h_x0 : 10001 ≤ x0.toInt ∧ x0.toInt ≤ 2147483647) : Met l yX9_add (.code yX9_add cX9_add 3 (some .int) :: TT) ({ frames := 7, cells := 0, slots := 0, locals := 380 }) (PcS dC dI (TY cI cJ cII cJJ) [.ref a0, .int 1, .int x0] [(a0, .inr (9, [.ref a13, .ref a14, .ref a15, .ref a16, .ref a17, .ref a18, .ref a11, .ref a12, .ref a19, .ref a20, .ref a21, .ref a22, .int 1, .int 0, .int 0, .ref a5, .ref a6, .ref a7, .ref a8, .ref a9, .ref a10, .int 0, .int 0, .ref a2, .ref a1, .ref a3, .ref a4, .int 0, .int 0, .ref a23, .ref a24, .ref a25, .ref a26, .int 0, .ref a27, .int 0])), (a1, .inl (cI, 3, .inl (tb []))), (a2, .inl (cI, 3, .inl (tb []))), (a3, .inl (cI, 4, .inl (tb []))), (a4, .inl (cI, 4, .inl (tb []))), (a5, .inl (cI, 400000, .inl (tb []))), (a6, .inl (cI, 100000, .inl (tb []))), (a7, .inl (cI, 6001, .inl (tb []))), (a8, .inl (cI, 100000, .inl (tb []))), (a9, .inl (cI, 24000, .inl (tb []))), (a10, .inl (cI, 6000, .inl (tb []))), (a11, .inl (cI, 4, .inl (tb [0, 0, 0, 0]))), (a12, .inl (cI, 8, .inl (tb [])))] sz 0 g) ((QcI dC dI (TY cI cJ cII cJJ) (-6) []) (va_A [(a0, .inr (9, [.ref a13, .ref a14, .ref a15, .ref a16, .ref a17, .ref a18, .ref a11, .ref a12, .ref a19, .ref a20, .ref a21, .ref a22, .int 1, .int 0, .int 0, .ref a5, .ref a6, .ref a7, .ref a8, .ref a9, .ref a10, .int 0, .int 0, .ref a2, .ref a1, .ref a3, .ref a4, .int 0, .int 0, .ref a23, .ref a24, .ref a25, .ref a26, .int 0, .ref a27, .int 0])), (a1, .inl (cI, 3, .inl (tb []))), (a2, .inl (cI, 3, .inl (tb []))), (a3, .inl (cI, 4, .inl (tb []))), (a4, .inl (cI, 4, .inl (tb []))), (a5, .inl (cI, 400000, .inl (tb []))), (a6, .inl (cI, 100000, .inl (tb []))), (a7, .inl (cI, 6001, .inl (tb []))), (a8, .inl (cI, 100000, .inl (tb []))), (a9, .inl (cI, 24000, .inl (tb []))), (a10, .inl (cI, 6000, .inl (tb []))), (a11, .inl (cI, 4, .inl (tb [0, 0, 0, 0]))), (a12, .inl (cI, 8, .inl (tb [])))] sz)) 0 0 (va_A [(a0, .inr (9, [.ref a13, .ref a14, .ref a15, .ref a16, .ref a17, .ref a18, .ref a11, .ref a12, .ref a19, .ref a20, .ref a21, .ref a22, .int 1, .int 0, .int 0, .ref a5, .ref a6, .ref a7, .ref a8, .ref a9, .ref a10, .int 0, .int 0, .ref a2, .ref a1, .ref a3, .ref a4, .int 0, .int 0, .ref a23, .ref a24, .ref a25, .ref a26, .int 0, .ref a27, .int 0])), (a1, .inl (cI, 3, .inl (tb []))), (a2, .inl (cI, 3, .inl (tb []))), (a3, .inl (cI, 4, .inl (tb []))), (a4, .inl (cI, 4, .inl (tb []))), (a5, .inl (cI, 400000, .inl (tb []))), (a6, .inl (cI, 100000, .inl (tb []))), (a7, .inl (cI, 6001, .inl (tb []))), (a8, .inl (cI, 100000, .inl (tb []))), (a9, .inl (cI, 24000, .inl (tb []))), (a10, .inl (cI, 6000, .inl (tb []))), (a11, .inl (cI, 4, .inl (tb [0, 0, 0, 0]))), (a12, .inl (cI, 8, .inl (tb [])))] sz) := by
  refine SM.of (y := yX9_add) (maxL := 3) (av := [.ref a0, .int 1, .int x0]) (QcI dC dI (TY cI cJ cII cJJ) (-6) []) (by decide +kernel) (Nat.le_of_ble_eq_true rfl) (fun p e s m below meth c A ls hx hb hr hml hown hts hk hnm hA hK hP hD hS hX hl => ?_)
  have hown : s.vm.findClass RX9 = some m.cls := hown
  have hl : lv_has ls 3 [(0, .ref a0), (1, .int 1), (2, .int x0)] := hl
  refine lv_aload_n hx hb dX9_add_0 rfl (lv_at hl 0 rfl) ?_
  refine kV_v (q0 := 0) ⟨hx, hb, hml, hown, hts⟩ hK hP hD hS hA hX cv_RX9_180 [0, 1, 2, 3, 4, 5, 6, 7, 8, 9, 10] [11, 12] (wr := [(a11, .inl (cI, 4, .inl (tb [0, 0, 0, 0]))), (a12, .inl (cI, 8, .inl (tb [])))]) rfl rfl rfl rfl (by decide) (c373_X9_findSteps l dC dI cI cJ cII cJJ s.heap.size 0 a0 a1 a2 a3 a4 a5 a6 a7 a8 a9 a10 a13 a14 a15 a16 a17 a18 a11 a12 a19 a20 a21 a22 a23 a24 a25 a26 a27) ⟨by decide +kernel, by decide +kernel⟩ rfl rfl (Or.inl rfl) (rest := []) rfl rfl rfl hl.1 rfl (Nat.le_of_ble_eq_true rfl) dX9_add_1 ⟨Nat.le_of_ble_eq_true rfl, Nat.le_of_ble_eq_true rfl⟩ (fun _ => rfl) (W' := [(a11, .inl (cI, 4, .inl (tb [0, 0, 0, 0]))), (a12, .inl (cI, 8, .inl (tb []))), (a7, .inl (cI, 6001, .inl (tb (0 :: 0 :: List.replicate 5999 2)))), (a8, .inl (cI, 100000, .inl (tb [0, 1]))), (a3, .inl (cI, 4, .inl (tb [0]))), (a6, .inl (cI, 100000, .inl (tb [1, 1]))), (a1, .inl (cI, 3, .inl (tb [0, 0, 0]))), (a2, .inl (cI, 3, .inl (tb [0, 0, 0]))), (a4, .inl (cI, 4, .inl (tb [1]))), (a5, .inl (cI, 400000, .inl (tb [(-1), 0, 0, 0, 1, 0, 0, 0]))), (a10, .inl (cI, 6000, .inl (tb [0, 1]))), (a0, .inr (9, [.ref a13, .ref a14, .ref a15, .ref a16, .ref a17, .ref a18, .ref a11, .ref a12, .ref a19, .ref a20, .ref a21, .ref a22, .int 1, .int 0, .int 1, .ref a5, .ref a6, .ref a7, .ref a8, .ref a9, .ref a10, .int 2, .int 2, .ref a2, .ref a1, .ref a3, .ref a4, .int 0, .int 1, .ref a23, .ref a24, .ref a25, .ref a26, .int 0, .ref a27, .int 0])), (a9, .inl (cI, 24000, .inl (tb [(-1), 0, 0, 0, 1, 0, 0, 0])))]) rfl (fun H locs hP hD hS => ?_)
  refine lv_iload_n hx hb dX9_add_4 rfl (lv_at hl 1 rfl) ?_
  refine lv_aload_n hx hb dX9_add_5 rfl (lv_at hl 0 rfl) ?_
  refine gf (k := 22) hx hb hts inX9 hown hK hP k_817 rfl (by decide) rfl 11 rfl (.int 2) rfl dX9_add_6 ?_
  refine kS_i ⟨hx, hb, hml, hown, hts⟩ hK hP hD hS hA hX cs_RX9_116 [] [0, 1, 2, 3, 4, 5, 6, 7, 8, 9, 10, 11, 12] (wr := [(a11, .inl (cI, 4, .inl (tb [0, 0, 0, 0]))), (a12, .inl (cI, 8, .inl (tb []))), (a7, .inl (cI, 6001, .inl (tb (0 :: 0 :: List.replicate 5999 2)))), (a8, .inl (cI, 100000, .inl (tb [0, 1]))), (a3, .inl (cI, 4, .inl (tb [0]))), (a6, .inl (cI, 100000, .inl (tb [1, 1]))), (a1, .inl (cI, 3, .inl (tb [0, 0, 0]))), (a2, .inl (cI, 3, .inl (tb [0, 0, 0]))), (a4, .inl (cI, 4, .inl (tb [1]))), (a5, .inl (cI, 400000, .inl (tb [(-1), 0, 0, 0, 1, 0, 0, 0]))), (a10, .inl (cI, 6000, .inl (tb [0, 1]))), (a0, .inr (9, [.ref a13, .ref a14, .ref a15, .ref a16, .ref a17, .ref a18, .ref a11, .ref a12, .ref a19, .ref a20, .ref a21, .ref a22, .int 1, .int 0, .int 1, .ref a5, .ref a6, .ref a7, .ref a8, .ref a9, .ref a10, .int 2, .int 2, .ref a2, .ref a1, .ref a3, .ref a4, .int 0, .int 1, .ref a23, .ref a24, .ref a25, .ref a26, .int 0, .ref a27, .int 0])), (a9, .inl (cI, 24000, .inl (tb [(-1), 0, 0, 0, 1, 0, 0, 0])))]) rfl rfl rfl rfl (by decide) (c402_X9_isIn l dC dI cI cJ cII cJJ H.size 0) ⟨by decide +kernel, by decide +kernel⟩ rfl rfl (Or.inl rfl) (rest := []) rfl hl.1 rfl (Nat.le_of_ble_eq_true rfl) dX9_add_9 ⟨Nat.le_of_ble_eq_true rfl, Nat.le_of_ble_eq_true rfl⟩ (W' := [(a11, .inl (cI, 4, .inl (tb [0, 0, 0, 0]))), (a12, .inl (cI, 8, .inl (tb []))), (a7, .inl (cI, 6001, .inl (tb (0 :: 0 :: List.replicate 5999 2)))), (a8, .inl (cI, 100000, .inl (tb [0, 1]))), (a3, .inl (cI, 4, .inl (tb [0]))), (a6, .inl (cI, 100000, .inl (tb [1, 1]))), (a1, .inl (cI, 3, .inl (tb [0, 0, 0]))), (a2, .inl (cI, 3, .inl (tb [0, 0, 0]))), (a4, .inl (cI, 4, .inl (tb [1]))), (a5, .inl (cI, 400000, .inl (tb [(-1), 0, 0, 0, 1, 0, 0, 0]))), (a10, .inl (cI, 6000, .inl (tb [0, 1]))), (a0, .inr (9, [.ref a13, .ref a14, .ref a15, .ref a16, .ref a17, .ref a18, .ref a11, .ref a12, .ref a19, .ref a20, .ref a21, .ref a22, .int 1, .int 0, .int 1, .ref a5, .ref a6, .ref a7, .ref a8, .ref a9, .ref a10, .int 2, .int 2, .ref a2, .ref a1, .ref a3, .ref a4, .int 0, .int 1, .ref a23, .ref a24, .ref a25, .ref a26, .int 0, .ref a27, .int 0])), (a9, .inl (cI, 24000, .inl (tb [(-1), 0, 0, 0, 1, 0, 0, 0])))]) rfl (fun H locs hP hD hS => ?_)
  refine f_if_eq hx hb dX9_add_12 36 (by decide) (by decide +kernel) ?_
  refine lv_aload_n hx hb dX9_add_15 rfl (lv_at hl 0 rfl) ?_
  refine lv_aload_n hx hb dX9_add_16 rfl (lv_at hl 0 rfl) ?_
  refine gf (k := 19) hx hb hts inX9 hown hK hP k_814 rfl (by decide) rfl 11 rfl (.ref a9) rfl dX9_add_17 ?_
  refine lv_iconst (v := 4) hx hb dX9_add_20 (by decide) ?_
  refine lv_aload_n hx hb dX9_add_21 rfl (lv_at hl 0 rfl) ?_
  refine gf (k := 20) hx hb hts inX9 hown hK hP k_815 rfl (by decide) rfl 11 rfl (.ref a10) rfl dX9_add_22 ?_
  refine lv_iload_n hx hb dX9_add_25 rfl (lv_at hl 1 rfl) ?_
  refine ld_i hx hb hK hP 10 rfl (vin (by decide +kernel)) dX9_add_26 1 rfl ?_
  refine v_imul hx hb dX9_add_27 4 (by decide +kernel) ?_
  refine lv_iload_n hx hb dX9_add_28 rfl (lv_at hl 2 rfl) ?_
  obtain ⟨z129, e_z129⟩ : ∃ w : Int64, w = x0.toInt64 := ⟨_, rfl⟩
  have h_z129 := s_i2l e_z129 h_x0
  refine lv_i2l (v := z129) hx hb dX9_add_29 e_z129.symm ?_
  refine kV_i (q0 := 0) ⟨hx, hb, hml, hown, hts⟩ hK hP hD hS hA hX cv_RX9_216 [11, 0, 12, 1] [2, 3, 4, 5, 6, 7, 8, 9, 10] (wr := [(a7, .inl (cI, 6001, .inl (tb (0 :: 0 :: List.replicate 5999 2)))), (a8, .inl (cI, 100000, .inl (tb [0, 1]))), (a3, .inl (cI, 4, .inl (tb [0]))), (a6, .inl (cI, 100000, .inl (tb [1, 1]))), (a1, .inl (cI, 3, .inl (tb [0, 0, 0]))), (a2, .inl (cI, 3, .inl (tb [0, 0, 0]))), (a4, .inl (cI, 4, .inl (tb [1]))), (a5, .inl (cI, 400000, .inl (tb [(-1), 0, 0, 0, 1, 0, 0, 0]))), (a10, .inl (cI, 6000, .inl (tb [0, 1])))]) rfl rfl rfl rfl (by decide) (c454_X9_adds l dC dI cI cJ cII cJJ H.size 0 a0 a11 a9 a12 a13 a14 a15 a16 a17 a18 a19 a20 a21 a22 a5 a6 a7 a8 a10 a2 a1 a3 a4 a23 a24 a25 a26 a27 z129 h_z129) ⟨by decide +kernel, by decide +kernel⟩ rfl rfl (Or.inl rfl) (rest := []) rfl rfl rfl hl.1 rfl (Nat.le_of_ble_eq_true rfl) dX9_add_30 ⟨Nat.le_of_ble_eq_true rfl, Nat.le_of_ble_eq_true rfl⟩ (W' := [(a7, .inl (cI, 6001, .inl (tb (0 :: 0 :: List.replicate 5999 2)))), (a8, .inl (cI, 100000, .inl (tb [0, 1]))), (a3, .inl (cI, 4, .inl (tb [0]))), (a6, .inl (cI, 100000, .inl (tb [1, 1]))), (a1, .inl (cI, 3, .inl (tb [0, 0, 0]))), (a2, .inl (cI, 3, .inl (tb [0, 0, 0]))), (a4, .inl (cI, 4, .inl (tb [1]))), (a5, .inl (cI, 400000, .inl (tb [(-1), 0, 0, 0, 1, 0, 0, 0]))), (a10, .inl (cI, 6000, .inl (tb [0, 1])))]) rfl (fun H locs hP hD hS => ?_)
  refine lv_goto (tgt := 41) hx hb dX9_add_33 (by decide) ?_
  exact r_i hx hb hr hk hK (hP.sub [] rfl) (hD.sub [] rfl rfl) hS dX9_add_41
set_option maxRecDepth 100000 in
set_option maxHeartbeats 4000000 in
theorem c456_X9_adds (l : Launch) (dC : Nat → ClassId) (dI : Nat → Nat → Nat) (cI cJ cII cJJ : ClassId) (sz g a0 a1 a2 a3 a4 a5 a6 a7 a8 a9 a10 a11 a12 a13 a14 a15 a16 a17 a18 a19 a20 a21 a22 a23 a24 a25 a26 a27 : Nat) (x0 : Int64) (h_x0 : -10000 ≤ x0.toInt ∧ x0.toInt ≤ 10000) : Met l yX9_adds (.code yX9_adds cX9_adds 10 (some .int) :: TT) ({ frames := 2, cells := 0, slots := 0, locals := 80 }) (PcS dC dI (TY cI cJ cII cJJ) [.ref a0, .ref a2, .int 4, .long x0] [(a0, .inr (9, [.ref a3, .ref a4, .ref a5, .ref a6, .ref a7, .ref a8, .ref a1, .ref a9, .ref a10, .ref a11, .ref a12, .ref a13, .int 1, .int 0, .int 1, .ref a14, .ref a15, .ref a16, .ref a17, .ref a2, .ref a18, .int 2, .int 2, .ref a19, .ref a20, .ref a21, .ref a22, .int 0, .int 1, .ref a23, .ref a24, .ref a25, .ref a26, .int 0, .ref a27, .int 0])), (a1, .inl (cI, 4, .inl (tb [0, 0, 0, 0]))), (a2, .inl (cI, 24000, .inl (tb [(-1), 0, 0, 0, 1, 0, 0, 0])))] sz 0 g) ((QcI dC dI (TY cI cJ cII cJJ) 1 []) (va_A [(a0, .inr (9, [.ref a3, .ref a4, .ref a5, .ref a6, .ref a7, .ref a8, .ref a1, .ref a9, .ref a10, .ref a11, .ref a12, .ref a13, .int 1, .int 0, .int 1, .ref a14, .ref a15, .ref a16, .ref a17, .ref a2, .ref a18, .int 2, .int 2, .ref a19, .ref a20, .ref a21, .ref a22, .int 0, .int 1, .ref a23, .ref a24, .ref a25, .ref a26, .int 0, .ref a27, .int 0])), (a1, .inl (cI, 4, .inl (tb [0, 0, 0, 0]))), (a2, .inl (cI, 24000, .inl (tb [(-1), 0, 0, 0, 1, 0, 0, 0])))] sz)) 0 0 (va_A [(a0, .inr (9, [.ref a3, .ref a4, .ref a5, .ref a6, .ref a7, .ref a8, .ref a1, .ref a9, .ref a10, .ref a11, .ref a12, .ref a13, .int 1, .int 0, .int 1, .ref a14, .ref a15, .ref a16, .ref a17, .ref a2, .ref a18, .int 2, .int 2, .ref a19, .ref a20, .ref a21, .ref a22, .int 0, .int 1, .ref a23, .ref a24, .ref a25, .ref a26, .int 0, .ref a27, .int 0])), (a1, .inl (cI, 4, .inl (tb [0, 0, 0, 0]))), (a2, .inl (cI, 24000, .inl (tb [(-1), 0, 0, 0, 1, 0, 0, 0])))] sz) := by
  refine SM.of (y := yX9_adds) (maxL := 10) (av := [.ref a0, .ref a2, .int 4, .long x0]) (QcI dC dI (TY cI cJ cII cJJ) 1 []) (by decide +kernel) (Nat.le_of_ble_eq_true rfl) (fun p e s m below meth c A ls hx hb hr hml hown hts hk hnm hA hK hP hD hS hX hl => ?_)
  have hown : s.vm.findClass RX9 = some m.cls := hown
  have hl : lv_has ls 10 [(0, .ref a0), (1, .ref a2), (2, .int 4), (3, .long x0)] := hl
  refine lv_iconst (v := 0) hx hb dX9_adds_0 (by decide) ?_
  refine lv_istore (lv' := [(5, .int 0), (0, .ref a0), (1, .ref a2), (2, .int 4), (3, .long x0)]) hx hb dX9_adds_1 hl (by decide) rfl (fun ls hl => ?_)
  refine lv_iconst (v := 0) hx hb dX9_adds_3 (by decide) ?_
  refine lv_istore (lv' := [(6, .int 0), (5, .int 0), (0, .ref a0), (1, .ref a2), (2, .int 4), (3, .long x0)]) hx hb dX9_adds_4 hl (by decide) rfl (fun ls hl => ?_)
  refine lv_iconst (v := 0) hx hb dX9_adds_6 (by decide) ?_
  refine lv_istore (lv' := [(7, .int 0), (6, .int 0), (5, .int 0), (0, .ref a0), (1, .ref a2), (2, .int 4), (3, .long x0)]) hx hb dX9_adds_7 hl (by decide) rfl (fun ls hl => ?_)
  refine lv_iload hx hb dX9_adds_9 (lv_at hl 0 rfl) ?_
  refine lv_aload_n hx hb dX9_adds_11 rfl (lv_at hl 3 rfl) ?_
  refine gf (k := 12) hx hb hts inX9 hown hK hP k_807 rfl (by decide) rfl 0 rfl (.int 1) rfl dX9_adds_12 ?_
  refine f_icmp_ge hx hb dX9_adds_15 86 (by decide) (by decide +kernel) ?_
  refine lv_aload_n hx hb dX9_adds_18 rfl (lv_at hl 3 rfl) ?_
  refine gf (k := 6) hx hb hts inX9 hown hK hP k_801 rfl (by decide) rfl 0 rfl (.ref a1) rfl dX9_adds_19 ?_
  refine lv_iload hx hb dX9_adds_22 (lv_at hl 0 rfl) ?_
  refine ld_i hx hb hK hP 1 rfl (vin (by decide +kernel)) dX9_adds_24 0 rfl ?_
  refine lv_i2l (v := 0) hx hb dX9_adds_25 (by decide +kernel) ?_
  refine lv_lload_n hx hb dX9_adds_26 rfl (lv_at hl 6 rfl) ?_
  refine lv_aload_n hx hb dX9_adds_27 rfl (lv_at hl 4 rfl) ?_
  refine lv_iload_n hx hb dX9_adds_28 rfl (lv_at hl 5 rfl) ?_
  refine lv_iload hx hb dX9_adds_29 (lv_at hl 0 rfl) ?_
  refine v_iadd hx hb dX9_adds_31 4 (by decide +kernel) ?_
  refine ld_i hx hb hK hP 2 rfl (vin (by decide +kernel)) dX9_adds_32 1 rfl ?_
  refine lv_i2l (v := 1) hx hb dX9_adds_33 (by decide +kernel) ?_
  refine v_lmul hx hb dX9_adds_34 x0 (s_mul164 x0) ?_
  refine v_ladd hx hb dX9_adds_35 x0 (s_ladd0 x0) ?_
  refine lv_lstore (lv' := [(8, .long x0), (7, .int 0), (6, .int 0), (5, .int 0), (0, .ref a0), (1, .ref a2), (2, .int 4), (3, .long x0)]) hx hb dX9_adds_36 hl (by decide) rfl (fun ls hl => ?_)
  refine lv_iload hx hb dX9_adds_38 (lv_at hl 3 rfl) ?_
  refine f_if_ne hx hb dX9_adds_40 52 (by decide) (by decide +kernel) ?_
  refine lv_lload hx hb dX9_adds_43 (lv_at hl 0 rfl) ?_
  refine lv_ldc2 (v := (-10000)) hx hb hown (hts _ k_1079) dX9_adds_45 ?_
  refine v_lcmp hx hb dX9_adds_48 _ rfl ?_
  refine lv_topi (fun z138 e_z138 => ?_)
  have h_z138 : 0 ≤ z138.toInt ∧ z138.toInt ≤ 1 := by rw [e_z138]; exact (p_cge (by rw [show ((-10000) : Int64).toInt = (-10000) from by decide +kernel]; omega))
  refine t_if_ge hx hb dX9_adds_49 56 (by decide) (p_le (by rw [show (0 : Int32).toInt = 0 from by decide +kernel]; omega)) ?_
  refine lv_iconst (v := 0) hx hb dX9_adds_56 (by decide) ?_
  refine lv_istore (lv' := [(5, .int 0), (8, .long x0), (7, .int 0), (6, .int 0), (0, .ref a0), (1, .ref a2), (2, .int 4), (3, .long x0)]) hx hb dX9_adds_57 hl (by decide) rfl (fun ls hl => ?_)
  refine lv_iload hx hb dX9_adds_59 (lv_at hl 3 rfl) ?_
  refine f_if_ne hx hb dX9_adds_61 73 (by decide) (by decide +kernel) ?_
  refine lv_lload hx hb dX9_adds_64 (lv_at hl 1 rfl) ?_
  refine lv_ldc2 (v := 10000) hx hb hown (hts _ k_1080) dX9_adds_66 ?_
  refine v_lcmp hx hb dX9_adds_69 _ rfl ?_
  refine lv_topi (fun z139 e_z139 => ?_)
  have h_z139 : -1 ≤ z139.toInt ∧ z139.toInt ≤ 0 := by rw [e_z139]; exact (p_cle (by rw [show (10000 : Int64).toInt = 10000 from by decide +kernel]; omega))
  refine t_if_le hx hb dX9_adds_70 77 (by decide) (p_le (by rw [show (0 : Int32).toInt = 0 from by decide +kernel]; omega)) ?_
  refine lv_iconst (v := 0) hx hb dX9_adds_77 (by decide) ?_
  refine lv_istore (lv' := [(6, .int 0), (5, .int 0), (8, .long x0), (7, .int 0), (0, .ref a0), (1, .ref a2), (2, .int 4), (3, .long x0)]) hx hb dX9_adds_78 hl (by decide) rfl (fun ls hl => ?_)
  refine lv_iinc (v := 1) (lv' := [(7, .int 1), (6, .int 0), (5, .int 0), (8, .long x0), (0, .ref a0), (1, .ref a2), (2, .int 4), (3, .long x0)]) hx hb dX9_adds_80 hl (k := 3) rfl (by decide +kernel) (by decide) rfl (fun ls hl => ?_)
  refine lv_goto (tgt := 9) hx hb dX9_adds_83 (by decide) ?_
  refine lv_iload hx hb dX9_adds_9 (lv_at hl 0 rfl) ?_
  refine lv_aload_n hx hb dX9_adds_11 rfl (lv_at hl 4 rfl) ?_
  refine gf (k := 12) hx hb hts inX9 hown hK hP k_807 rfl (by decide) rfl 0 rfl (.int 1) rfl dX9_adds_12 ?_
  refine t_icmp_ge hx hb dX9_adds_15 86 (by decide) (by decide +kernel) ?_
  refine lv_iload hx hb dX9_adds_86 (lv_at hl 2 rfl) ?_
  refine t_if_eq hx hb dX9_adds_88 98 (by decide) (by decide +kernel) ?_
  refine lv_iload hx hb dX9_adds_98 (lv_at hl 1 rfl) ?_
  refine t_if_eq hx hb dX9_adds_100 110 (by decide) (by decide +kernel) ?_
  refine lv_iconst (v := 0) hx hb dX9_adds_110 (by decide) ?_
  refine lv_istore (lv' := [(7, .int 0), (6, .int 0), (5, .int 0), (8, .long x0), (0, .ref a0), (1, .ref a2), (2, .int 4), (3, .long x0)]) hx hb dX9_adds_111 hl (by decide) rfl (fun ls hl => ?_)
  refine lv_iload hx hb dX9_adds_113 (lv_at hl 0 rfl) ?_
  refine lv_aload_n hx hb dX9_adds_115 rfl (lv_at hl 4 rfl) ?_
  refine gf (k := 12) hx hb hts inX9 hown hK hP k_807 rfl (by decide) rfl 0 rfl (.int 1) rfl dX9_adds_116 ?_
  refine f_icmp_ge hx hb dX9_adds_119 148 (by decide) (by decide +kernel) ?_
  refine lv_aload_n hx hb dX9_adds_122 rfl (lv_at hl 4 rfl) ?_
  refine gf (k := 6) hx hb hts inX9 hown hK hP k_801 rfl (by decide) rfl 0 rfl (.ref a1) rfl dX9_adds_123 ?_
  refine lv_iload hx hb dX9_adds_126 (lv_at hl 0 rfl) ?_
  refine lv_dup2_11 hx hb dX9_adds_128 rfl rfl ?_
  refine ld_i hx hb hK hP 1 rfl (vin (by decide +kernel)) dX9_adds_129 0 rfl ?_
  refine lv_lload_n hx hb dX9_adds_130 rfl (lv_at hl 7 rfl) ?_
  refine lv_aload_n hx hb dX9_adds_131 rfl (lv_at hl 5 rfl) ?_
  refine lv_iload_n hx hb dX9_adds_132 rfl (lv_at hl 6 rfl) ?_
  refine lv_iload hx hb dX9_adds_133 (lv_at hl 0 rfl) ?_
  refine v_iadd hx hb dX9_adds_135 4 (by decide +kernel) ?_
  refine ld_i hx hb hK hP 2 rfl (vin (by decide +kernel)) dX9_adds_136 1 rfl ?_
  refine lv_i2l (v := 1) hx hb dX9_adds_137 (by decide +kernel) ?_
  refine v_lmul hx hb dX9_adds_138 x0 (s_mul164 x0) ?_
  obtain ⟨z140, e_z140⟩ : ∃ w : Int32, w = x0.toInt32 := ⟨_, rfl⟩
  have h_z140 := s_any z140
  refine lv_l2i (v := z140) hx hb dX9_adds_139 e_z140.symm ?_
  refine v_iadd hx hb dX9_adds_140 z140 (s_add0 z140) ?_
  refine st_i hx hb hK hP hD hS 1 rfl (vin (by decide +kernel)) dX9_adds_141 (L' := [z140, 0, 0, 0]) rfl (W' := [(a0, .inr (9, [.ref a3, .ref a4, .ref a5, .ref a6, .ref a7, .ref a8, .ref a1, .ref a9, .ref a10, .ref a11, .ref a12, .ref a13, .int 1, .int 0, .int 1, .ref a14, .ref a15, .ref a16, .ref a17, .ref a2, .ref a18, .int 2, .int 2, .ref a19, .ref a20, .ref a21, .ref a22, .int 0, .int 1, .ref a23, .ref a24, .ref a25, .ref a26, .int 0, .ref a27, .int 0])), (a1, .inl (cI, 4, .inl (tb [z140, 0, 0, 0]))), (a2, .inl (cI, 24000, .inl (tb [(-1), 0, 0, 0, 1, 0, 0, 0])))]) rfl (fun H locs hP hD hS => ?_)
  refine lv_iinc (v := 1) (lv' := [(7, .int 1), (6, .int 0), (5, .int 0), (8, .long x0), (0, .ref a0), (1, .ref a2), (2, .int 4), (3, .long x0)]) hx hb dX9_adds_142 hl (k := 0) rfl (by decide +kernel) (by decide) rfl (fun ls hl => ?_)
  refine lv_goto (tgt := 113) hx hb dX9_adds_145 (by decide) ?_
  refine lv_iload hx hb dX9_adds_113 (lv_at hl 0 rfl) ?_
  refine lv_aload_n hx hb dX9_adds_115 rfl (lv_at hl 4 rfl) ?_
  refine gf (k := 12) hx hb hts inX9 hown hK hP k_807 rfl (by decide) rfl 0 rfl (.int 1) rfl dX9_adds_116 ?_
  refine t_icmp_ge hx hb dX9_adds_119 148 (by decide) (by decide +kernel) ?_
  refine lv_iconst (v := 1) hx hb dX9_adds_148 (by decide) ?_
  exact r_i hx hb hr hk hK (hP.sub [] rfl) (hD.sub [] rfl rfl) hS dX9_adds_149
set_option maxRecDepth 100000 in
set_option maxHeartbeats 4000000 in
theorem c455_X9_add (l : Launch) (dC : Nat → ClassId) (dI : Nat → Nat → Nat) (cI cJ cII cJJ : ClassId) (sz g a0 a1 a2 a3 a4 a5 a6 a7 a8 a9 a10 a11 a12 a13 a14 a15 a16 a17 a18 a19 a20 a21 a22 a23 a24 a25 a26 a27 : Nat) (x0 : Int32) (h_x0 : -10000 ≤ x0.toInt ∧ x0.toInt ≤ 10000) : Met l yX9_add (.code yX9_add cX9_add 3 (some .int) :: TT) ({ frames := 7, cells := 0, slots := 0, locals := 380 }) (PcS dC dI (TY cI cJ cII cJJ) [.ref a0, .int 1, .int x0] [(a0, .inr (9, [.ref a12, .ref a13, .ref a14, .ref a15, .ref a16, .ref a17, .ref a11, .ref a18, .ref a19, .ref a20, .ref a21, .ref a22, .int 1, .int 0, .int 0, .ref a5, .ref a6, .ref a7, .ref a8, .ref a9, .ref a10, .int 0, .int 0, .ref a2, .ref a1, .ref a3, .ref a4, .int 0, .int 0, .ref a23, .ref a24, .ref a25, .ref a26, .int 0, .ref a27, .int 0])), (a1, .inl (cI, 3, .inl (tb []))), (a2, .inl (cI, 3, .inl (tb []))), (a3, .inl (cI, 4, .inl (tb []))), (a4, .inl (cI, 4, .inl (tb []))), (a5, .inl (cI, 400000, .inl (tb []))), (a6, .inl (cI, 100000, .inl (tb []))), (a7, .inl (cI, 6001, .inl (tb []))), (a8, .inl (cI, 100000, .inl (tb []))), (a9, .inl (cI, 24000, .inl (tb []))), (a10, .inl (cI, 6000, .inl (tb []))), (a11, .inl (cI, 4, .inl (tb [0, 0, 0, 0])))] sz 0 g) ((QcI dC dI (TY cI cJ cII cJJ) 1 []) (va_A [(a0, .inr (9, [.ref a12, .ref a13, .ref a14, .ref a15, .ref a16, .ref a17, .ref a11, .ref a18, .ref a19, .ref a20, .ref a21, .ref a22, .int 1, .int 0, .int 0, .ref a5, .ref a6, .ref a7, .ref a8, .ref a9, .ref a10, .int 0, .int 0, .ref a2, .ref a1, .ref a3, .ref a4, .int 0, .int 0, .ref a23, .ref a24, .ref a25, .ref a26, .int 0, .ref a27, .int 0])), (a1, .inl (cI, 3, .inl (tb []))), (a2, .inl (cI, 3, .inl (tb []))), (a3, .inl (cI, 4, .inl (tb []))), (a4, .inl (cI, 4, .inl (tb []))), (a5, .inl (cI, 400000, .inl (tb []))), (a6, .inl (cI, 100000, .inl (tb []))), (a7, .inl (cI, 6001, .inl (tb []))), (a8, .inl (cI, 100000, .inl (tb []))), (a9, .inl (cI, 24000, .inl (tb []))), (a10, .inl (cI, 6000, .inl (tb []))), (a11, .inl (cI, 4, .inl (tb [0, 0, 0, 0])))] sz)) 0 0 (va_A [(a0, .inr (9, [.ref a12, .ref a13, .ref a14, .ref a15, .ref a16, .ref a17, .ref a11, .ref a18, .ref a19, .ref a20, .ref a21, .ref a22, .int 1, .int 0, .int 0, .ref a5, .ref a6, .ref a7, .ref a8, .ref a9, .ref a10, .int 0, .int 0, .ref a2, .ref a1, .ref a3, .ref a4, .int 0, .int 0, .ref a23, .ref a24, .ref a25, .ref a26, .int 0, .ref a27, .int 0])), (a1, .inl (cI, 3, .inl (tb []))), (a2, .inl (cI, 3, .inl (tb []))), (a3, .inl (cI, 4, .inl (tb []))), (a4, .inl (cI, 4, .inl (tb []))), (a5, .inl (cI, 400000, .inl (tb []))), (a6, .inl (cI, 100000, .inl (tb []))), (a7, .inl (cI, 6001, .inl (tb []))), (a8, .inl (cI, 100000, .inl (tb []))), (a9, .inl (cI, 24000, .inl (tb []))), (a10, .inl (cI, 6000, .inl (tb []))), (a11, .inl (cI, 4, .inl (tb [0, 0, 0, 0])))] sz) := by
  refine SM.of (y := yX9_add) (maxL := 3) (av := [.ref a0, .int 1, .int x0]) (QcI dC dI (TY cI cJ cII cJJ) 1 []) (by decide +kernel) (Nat.le_of_ble_eq_true rfl) (fun p e s m below meth c A ls hx hb hr hml hown hts hk hnm hA hK hP hD hS hX hl => ?_)
  have hown : s.vm.findClass RX9 = some m.cls := hown
  have hl : lv_has ls 3 [(0, .ref a0), (1, .int 1), (2, .int x0)] := hl
  refine lv_aload_n hx hb dX9_add_0 rfl (lv_at hl 0 rfl) ?_
  refine kV_v (q0 := 0) ⟨hx, hb, hml, hown, hts⟩ hK hP hD hS hA hX cv_RX9_180 [0, 1, 2, 3, 4, 5, 6, 7, 8, 9, 10] [11] (wr := [(a11, .inl (cI, 4, .inl (tb [0, 0, 0, 0])))]) rfl rfl rfl rfl (by decide) (c373_X9_findSteps l dC dI cI cJ cII cJJ s.heap.size 0 a0 a1 a2 a3 a4 a5 a6 a7 a8 a9 a10 a12 a13 a14 a15 a16 a17 a11 a18 a19 a20 a21 a22 a23 a24 a25 a26 a27) ⟨by decide +kernel, by decide +kernel⟩ rfl rfl (Or.inl rfl) (rest := []) rfl rfl rfl hl.1 rfl (Nat.le_of_ble_eq_true rfl) dX9_add_1 ⟨Nat.le_of_ble_eq_true rfl, Nat.le_of_ble_eq_true rfl⟩ (fun _ => rfl) (W' := [(a11, .inl (cI, 4, .inl (tb [0, 0, 0, 0]))), (a7, .inl (cI, 6001, .inl (tb (0 :: 0 :: List.replicate 5999 2)))), (a8, .inl (cI, 100000, .inl (tb [0, 1]))), (a3, .inl (cI, 4, .inl (tb [0]))), (a6, .inl (cI, 100000, .inl (tb [1, 1]))), (a1, .inl (cI, 3, .inl (tb [0, 0, 0]))), (a2, .inl (cI, 3, .inl (tb [0, 0, 0]))), (a4, .inl (cI, 4, .inl (tb [1]))), (a5, .inl (cI, 400000, .inl (tb [(-1), 0, 0, 0, 1, 0, 0, 0]))), (a10, .inl (cI, 6000, .inl (tb [0, 1]))), (a0, .inr (9, [.ref a12, .ref a13, .ref a14, .ref a15, .ref a16, .ref a17, .ref a11, .ref a18, .ref a19, .ref a20, .ref a21, .ref a22, .int 1, .int 0, .int 1, .ref a5, .ref a6, .ref a7, .ref a8, .ref a9, .ref a10, .int 2, .int 2, .ref a2, .ref a1, .ref a3, .ref a4, .int 0, .int 1, .ref a23, .ref a24, .ref a25, .ref a26, .int 0, .ref a27, .int 0])), (a9, .inl (cI, 24000, .inl (tb [(-1), 0, 0, 0, 1, 0, 0, 0])))]) rfl (fun H locs hP hD hS => ?_)
  refine lv_iload_n hx hb dX9_add_4 rfl (lv_at hl 1 rfl) ?_
  refine lv_aload_n hx hb dX9_add_5 rfl (lv_at hl 0 rfl) ?_
  refine gf (k := 22) hx hb hts inX9 hown hK hP k_817 rfl (by decide) rfl 10 rfl (.int 2) rfl dX9_add_6 ?_
  refine kS_i ⟨hx, hb, hml, hown, hts⟩ hK hP hD hS hA hX cs_RX9_116 [] [0, 1, 2, 3, 4, 5, 6, 7, 8, 9, 10, 11] (wr := [(a11, .inl (cI, 4, .inl (tb [0, 0, 0, 0]))), (a7, .inl (cI, 6001, .inl (tb (0 :: 0 :: List.replicate 5999 2)))), (a8, .inl (cI, 100000, .inl (tb [0, 1]))), (a3, .inl (cI, 4, .inl (tb [0]))), (a6, .inl (cI, 100000, .inl (tb [1, 1]))), (a1, .inl (cI, 3, .inl (tb [0, 0, 0]))), (a2, .inl (cI, 3, .inl (tb [0, 0, 0]))), (a4, .inl (cI, 4, .inl (tb [1]))), (a5, .inl (cI, 400000, .inl (tb [(-1), 0, 0, 0, 1, 0, 0, 0]))), (a10, .inl (cI, 6000, .inl (tb [0, 1]))), (a0, .inr (9, [.ref a12, .ref a13, .ref a14, .ref a15, .ref a16, .ref a17, .ref a11, .ref a18, .ref a19, .ref a20, .ref a21, .ref a22, .int 1, .int 0, .int 1, .ref a5, .ref a6, .ref a7, .ref a8, .ref a9, .ref a10, .int 2, .int 2, .ref a2, .ref a1, .ref a3, .ref a4, .int 0, .int 1, .ref a23, .ref a24, .ref a25, .ref a26, .int 0, .ref a27, .int 0])), (a9, .inl (cI, 24000, .inl (tb [(-1), 0, 0, 0, 1, 0, 0, 0])))]) rfl rfl rfl rfl (by decide) (c402_X9_isIn l dC dI cI cJ cII cJJ H.size 0) ⟨by decide +kernel, by decide +kernel⟩ rfl rfl (Or.inl rfl) (rest := []) rfl hl.1 rfl (Nat.le_of_ble_eq_true rfl) dX9_add_9 ⟨Nat.le_of_ble_eq_true rfl, Nat.le_of_ble_eq_true rfl⟩ (W' := [(a11, .inl (cI, 4, .inl (tb [0, 0, 0, 0]))), (a7, .inl (cI, 6001, .inl (tb (0 :: 0 :: List.replicate 5999 2)))), (a8, .inl (cI, 100000, .inl (tb [0, 1]))), (a3, .inl (cI, 4, .inl (tb [0]))), (a6, .inl (cI, 100000, .inl (tb [1, 1]))), (a1, .inl (cI, 3, .inl (tb [0, 0, 0]))), (a2, .inl (cI, 3, .inl (tb [0, 0, 0]))), (a4, .inl (cI, 4, .inl (tb [1]))), (a5, .inl (cI, 400000, .inl (tb [(-1), 0, 0, 0, 1, 0, 0, 0]))), (a10, .inl (cI, 6000, .inl (tb [0, 1]))), (a0, .inr (9, [.ref a12, .ref a13, .ref a14, .ref a15, .ref a16, .ref a17, .ref a11, .ref a18, .ref a19, .ref a20, .ref a21, .ref a22, .int 1, .int 0, .int 1, .ref a5, .ref a6, .ref a7, .ref a8, .ref a9, .ref a10, .int 2, .int 2, .ref a2, .ref a1, .ref a3, .ref a4, .int 0, .int 1, .ref a23, .ref a24, .ref a25, .ref a26, .int 0, .ref a27, .int 0])), (a9, .inl (cI, 24000, .inl (tb [(-1), 0, 0, 0, 1, 0, 0, 0])))]) rfl (fun H locs hP hD hS => ?_)
  refine f_if_eq hx hb dX9_add_12 36 (by decide) (by decide +kernel) ?_
  refine lv_aload_n hx hb dX9_add_15 rfl (lv_at hl 0 rfl) ?_
  refine lv_aload_n hx hb dX9_add_16 rfl (lv_at hl 0 rfl) ?_
  refine gf (k := 19) hx hb hts inX9 hown hK hP k_814 rfl (by decide) rfl 10 rfl (.ref a9) rfl dX9_add_17 ?_
  refine lv_iconst (v := 4) hx hb dX9_add_20 (by decide) ?_
  refine lv_aload_n hx hb dX9_add_21 rfl (lv_at hl 0 rfl) ?_
  refine gf (k := 20) hx hb hts inX9 hown hK hP k_815 rfl (by decide) rfl 10 rfl (.ref a10) rfl dX9_add_22 ?_
  refine lv_iload_n hx hb dX9_add_25 rfl (lv_at hl 1 rfl) ?_
  refine ld_i hx hb hK hP 9 rfl (vin (by decide +kernel)) dX9_add_26 1 rfl ?_
  refine v_imul hx hb dX9_add_27 4 (by decide +kernel) ?_
  refine lv_iload_n hx hb dX9_add_28 rfl (lv_at hl 2 rfl) ?_
  obtain ⟨z134, e_z134⟩ : ∃ w : Int64, w = x0.toInt64 := ⟨_, rfl⟩
  have h_z134 := s_i2l e_z134 h_x0
  refine lv_i2l (v := z134) hx hb dX9_add_29 e_z134.symm ?_
  refine kV_i (q0 := 0) ⟨hx, hb, hml, hown, hts⟩ hK hP hD hS hA hX cv_RX9_216 [10, 0, 11] [1, 2, 3, 4, 5, 6, 7, 8, 9] (wr := [(a7, .inl (cI, 6001, .inl (tb (0 :: 0 :: List.replicate 5999 2)))), (a8, .inl (cI, 100000, .inl (tb [0, 1]))), (a3, .inl (cI, 4, .inl (tb [0]))), (a6, .inl (cI, 100000, .inl (tb [1, 1]))), (a1, .inl (cI, 3, .inl (tb [0, 0, 0]))), (a2, .inl (cI, 3, .inl (tb [0, 0, 0]))), (a4, .inl (cI, 4, .inl (tb [1]))), (a5, .inl (cI, 400000, .inl (tb [(-1), 0, 0, 0, 1, 0, 0, 0]))), (a10, .inl (cI, 6000, .inl (tb [0, 1])))]) rfl rfl rfl rfl (by decide) (c456_X9_adds l dC dI cI cJ cII cJJ H.size 0 a0 a11 a9 a12 a13 a14 a15 a16 a17 a18 a19 a20 a21 a22 a5 a6 a7 a8 a10 a2 a1 a3 a4 a23 a24 a25 a26 a27 z134 h_z134) ⟨by decide +kernel, by decide +kernel⟩ rfl rfl (Or.inl rfl) (rest := []) rfl rfl rfl hl.1 rfl (Nat.le_of_ble_eq_true rfl) dX9_add_30 ⟨Nat.le_of_ble_eq_true rfl, Nat.le_of_ble_eq_true rfl⟩ (W' := [(a7, .inl (cI, 6001, .inl (tb (0 :: 0 :: List.replicate 5999 2)))), (a8, .inl (cI, 100000, .inl (tb [0, 1]))), (a3, .inl (cI, 4, .inl (tb [0]))), (a6, .inl (cI, 100000, .inl (tb [1, 1]))), (a1, .inl (cI, 3, .inl (tb [0, 0, 0]))), (a2, .inl (cI, 3, .inl (tb [0, 0, 0]))), (a4, .inl (cI, 4, .inl (tb [1]))), (a5, .inl (cI, 400000, .inl (tb [(-1), 0, 0, 0, 1, 0, 0, 0]))), (a10, .inl (cI, 6000, .inl (tb [0, 1])))]) rfl (fun H locs hP hD hS => ?_)
  refine lv_goto (tgt := 41) hx hb dX9_add_33 (by decide) ?_
  exact r_i hx hb hr hk hK (hP.sub [] rfl) (hD.sub [] rfl rfl) hS dX9_add_41
set_option maxRecDepth 100000 in
set_option maxHeartbeats 4000000 in
theorem c458_X9_costOf (l : Launch) (dC : Nat → ClassId) (dI : Nat → Nat → Nat) (cI cJ cII cJJ : ClassId) (sz g a0 a1 a2 a3 a4 a5 a6 a7 a8 a9 a10 a11 a12 a13 a14 a15 a16 a17 a18 a19 a20 a21 a22 a23 a24 a25 a26 a27 : Nat) : Met l yX9_costOf (.code yX9_costOf cX9_costOf 6 (some .long) :: TT) ({ frames := 2, cells := 0, slots := 0, locals := 80 }) (PcS dC dI (TY cI cJ cII cJJ) [.ref a0, .ref a2, .int 0] [(a0, .inr (9, [.ref a4, .ref a5, .ref a6, .ref a7, .ref a1, .ref a3, .ref a2, .ref a8, .ref a9, .ref a10, .ref a11, .ref a12, .int 1, .int 0, .int 0, .ref a13, .ref a14, .ref a15, .ref a16, .ref a17, .ref a18, .int 0, .int 0, .ref a19, .ref a20, .ref a21, .ref a22, .int 0, .int 0, .ref a23, .ref a24, .ref a25, .ref a26, .int 0, .ref a27, .int 0])), (a1, .inl (cI, 4, .inl (tb [0, 0, 0, 0]))), (a2, .inl (cI, 4, .inl (tb [0, 0, 0, 0]))), (a3, .inl (cI, 4, .inl (tb [0, 0, 0, 0])))] sz 0 g) ((QcL dC dI (TY cI cJ cII cJJ) 0 [(a0, .inr (9, [.ref a4, .ref a5, .ref a6, .ref a7, .ref a1, .ref a3, .ref a2, .ref a8, .ref a9, .ref a10, .ref a11, .ref a12, .int 1, .int 0, .int 0, .ref a13, .ref a14, .ref a15, .ref a16, .ref a17, .ref a18, .int 0, .int 0, .ref a19, .ref a20, .ref a21, .ref a22, .int 0, .int 0, .ref a23, .ref a24, .ref a25, .ref a26, .int 0, .ref a27, .int 0])), (a1, .inl (cI, 4, .inl (tb [0, 0, 0, 0]))), (a2, .inl (cI, 4, .inl (tb [0, 0, 0, 0]))), (a3, .inl (cI, 4, .inl (tb [0, 0, 0, 0])))]) (va_A [(a0, .inr (9, [.ref a4, .ref a5, .ref a6, .ref a7, .ref a1, .ref a3, .ref a2, .ref a8, .ref a9, .ref a10, .ref a11, .ref a12, .int 1, .int 0, .int 0, .ref a13, .ref a14, .ref a15, .ref a16, .ref a17, .ref a18, .int 0, .int 0, .ref a19, .ref a20, .ref a21, .ref a22, .int 0, .int 0, .ref a23, .ref a24, .ref a25, .ref a26, .int 0, .ref a27, .int 0])), (a1, .inl (cI, 4, .inl (tb [0, 0, 0, 0]))), (a2, .inl (cI, 4, .inl (tb [0, 0, 0, 0]))), (a3, .inl (cI, 4, .inl (tb [0, 0, 0, 0])))] sz)) 0 0 (va_A [(a0, .inr (9, [.ref a4, .ref a5, .ref a6, .ref a7, .ref a1, .ref a3, .ref a2, .ref a8, .ref a9, .ref a10, .ref a11, .ref a12, .int 1, .int 0, .int 0, .ref a13, .ref a14, .ref a15, .ref a16, .ref a17, .ref a18, .int 0, .int 0, .ref a19, .ref a20, .ref a21, .ref a22, .int 0, .int 0, .ref a23, .ref a24, .ref a25, .ref a26, .int 0, .ref a27, .int 0])), (a1, .inl (cI, 4, .inl (tb [0, 0, 0, 0]))), (a2, .inl (cI, 4, .inl (tb [0, 0, 0, 0]))), (a3, .inl (cI, 4, .inl (tb [0, 0, 0, 0])))] sz) := by
  refine SM.of (y := yX9_costOf) (maxL := 6) (av := [.ref a0, .ref a2, .int 0]) (QcL dC dI (TY cI cJ cII cJJ) 0 [(a0, .inr (9, [.ref a4, .ref a5, .ref a6, .ref a7, .ref a1, .ref a3, .ref a2, .ref a8, .ref a9, .ref a10, .ref a11, .ref a12, .int 1, .int 0, .int 0, .ref a13, .ref a14, .ref a15, .ref a16, .ref a17, .ref a18, .int 0, .int 0, .ref a19, .ref a20, .ref a21, .ref a22, .int 0, .int 0, .ref a23, .ref a24, .ref a25, .ref a26, .int 0, .ref a27, .int 0])), (a1, .inl (cI, 4, .inl (tb [0, 0, 0, 0]))), (a2, .inl (cI, 4, .inl (tb [0, 0, 0, 0]))), (a3, .inl (cI, 4, .inl (tb [0, 0, 0, 0])))]) (by decide +kernel) (Nat.le_of_ble_eq_true rfl) (fun p e s m below meth c A ls hx hb hr hml hown hts hk hnm hA hK hP hD hS hX hl => ?_)
  have hown : s.vm.findClass RX9 = some m.cls := hown
  have hl : lv_has ls 6 [(0, .ref a0), (1, .ref a2), (2, .int 0)] := hl
  refine lv_lconst (v := 0) hx hb dX9_costOf_0 (by decide) ?_
  refine lv_lstore_n (lv' := [(3, .long 0), (0, .ref a0), (1, .ref a2), (2, .int 0)]) hx hb dX9_costOf_1 rfl hl (by decide) rfl (fun ls hl => ?_)
  refine lv_iconst (v := 0) hx hb dX9_costOf_2 (by decide) ?_
  refine lv_istore (lv' := [(5, .int 0), (3, .long 0), (0, .ref a0), (1, .ref a2), (2, .int 0)]) hx hb dX9_costOf_3 hl (by decide) rfl (fun ls hl => ?_)
  refine lv_iload hx hb dX9_costOf_5 (lv_at hl 0 rfl) ?_
  refine lv_aload_n hx hb dX9_costOf_7 rfl (lv_at hl 2 rfl) ?_
  refine gf (k := 12) hx hb hts inX9 hown hK hP k_807 rfl (by decide) rfl 0 rfl (.int 1) rfl dX9_costOf_8 ?_
  refine f_icmp_ge hx hb dX9_costOf_11 64 (by decide) (by decide +kernel) ?_
  refine lv_lload_n hx hb dX9_costOf_14 rfl (lv_at hl 1 rfl) ?_
  refine lv_aload_n hx hb dX9_costOf_15 rfl (lv_at hl 2 rfl) ?_
  refine gf (k := 4) hx hb hts inX9 hown hK hP k_799 rfl (by decide) rfl 0 rfl (.ref a1) rfl dX9_costOf_16 ?_
  refine lv_iload hx hb dX9_costOf_19 (lv_at hl 0 rfl) ?_
  refine ld_i hx hb hK hP 1 rfl (vin (by decide +kernel)) dX9_costOf_21 0 rfl ?_
  refine lv_i2l (v := 0) hx hb dX9_costOf_22 (by decide +kernel) ?_
  refine lv_aload_n hx hb dX9_costOf_23 rfl (lv_at hl 3 rfl) ?_
  refine lv_iload_n hx hb dX9_costOf_24 rfl (lv_at hl 4 rfl) ?_
  refine lv_iload hx hb dX9_costOf_25 (lv_at hl 0 rfl) ?_
  refine v_iadd hx hb dX9_costOf_27 0 (by decide +kernel) ?_
  refine ld_i hx hb hK hP 2 rfl (vin (by decide +kernel)) dX9_costOf_28 0 rfl ?_
  refine lv_i2l (v := 0) hx hb dX9_costOf_29 (by decide +kernel) ?_
  refine v_lmul hx hb dX9_costOf_30 0 (by decide +kernel) ?_
  refine lv_aload_n hx hb dX9_costOf_31 rfl (lv_at hl 2 rfl) ?_
  refine gf (k := 5) hx hb hts inX9 hown hK hP k_800 rfl (by decide) rfl 0 rfl (.ref a3) rfl dX9_costOf_32 ?_
  refine lv_iload hx hb dX9_costOf_35 (lv_at hl 0 rfl) ?_
  refine ld_i hx hb hK hP 3 rfl (vin (by decide +kernel)) dX9_costOf_37 0 rfl ?_
  refine lv_i2l (v := 0) hx hb dX9_costOf_38 (by decide +kernel) ?_
  refine lv_aload_n hx hb dX9_costOf_39 rfl (lv_at hl 3 rfl) ?_
  refine lv_iload_n hx hb dX9_costOf_40 rfl (lv_at hl 4 rfl) ?_
  refine lv_iload hx hb dX9_costOf_41 (lv_at hl 0 rfl) ?_
  refine v_iadd hx hb dX9_costOf_43 0 (by decide +kernel) ?_
  refine ld_i hx hb hK hP 2 rfl (vin (by decide +kernel)) dX9_costOf_44 0 rfl ?_
  refine lv_i2l (v := 0) hx hb dX9_costOf_45 (by decide +kernel) ?_
  refine v_lmul hx hb dX9_costOf_46 0 (by decide +kernel) ?_
  refine lv_aload_n hx hb dX9_costOf_47 rfl (lv_at hl 3 rfl) ?_
  refine lv_iload_n hx hb dX9_costOf_48 rfl (lv_at hl 4 rfl) ?_
  refine lv_iload hx hb dX9_costOf_49 (lv_at hl 0 rfl) ?_
  refine v_iadd hx hb dX9_costOf_51 0 (by decide +kernel) ?_
  refine ld_i hx hb hK hP 2 rfl (vin (by decide +kernel)) dX9_costOf_52 0 rfl ?_
  refine lv_i2l (v := 0) hx hb dX9_costOf_53 (by decide +kernel) ?_
  refine v_lmul hx hb dX9_costOf_54 0 (by decide +kernel) ?_
  refine v_ladd hx hb dX9_costOf_55 0 (by decide +kernel) ?_
  refine v_ladd hx hb dX9_costOf_56 0 (by decide +kernel) ?_
  refine lv_lstore_n (lv' := [(3, .long 0), (5, .int 0), (0, .ref a0), (1, .ref a2), (2, .int 0)]) hx hb dX9_costOf_57 rfl hl (by decide) rfl (fun ls hl => ?_)
  refine lv_iinc (v := 1) (lv' := [(5, .int 1), (3, .long 0), (0, .ref a0), (1, .ref a2), (2, .int 0)]) hx hb dX9_costOf_58 hl (k := 1) rfl (by decide +kernel) (by decide) rfl (fun ls hl => ?_)
  refine lv_goto (tgt := 5) hx hb dX9_costOf_61 (by decide) ?_
  refine lv_iload hx hb dX9_costOf_5 (lv_at hl 0 rfl) ?_
  refine lv_aload_n hx hb dX9_costOf_7 rfl (lv_at hl 2 rfl) ?_
  refine gf (k := 12) hx hb hts inX9 hown hK hP k_807 rfl (by decide) rfl 0 rfl (.int 1) rfl dX9_costOf_8 ?_
  refine t_icmp_ge hx hb dX9_costOf_11 64 (by decide) (by decide +kernel) ?_
  refine lv_lload_n hx hb dX9_costOf_64 rfl (lv_at hl 1 rfl) ?_
  exact r_l hx hb hr hk hK hP hD hS dX9_costOf_65
set_option maxRecDepth 100000 in
set_option maxHeartbeats 4000000 in
theorem c457_X9_cost (l : Launch) (dC : Nat → ClassId) (dI : Nat → Nat → Nat) (cI cJ cII cJJ : ClassId) (sz g a0 a1 a2 a3 a4 a5 a6 a7 a8 a9 a10 a11 a12 a13 a14 a15 a16 a17 a18 a19 a20 a21 a22 a23 a24 a25 a26 a27 : Nat) : Met l yX9_cost (.code yX9_cost cX9_cost 1 (some .long) :: TT) ({ frames := 3, cells := 0, slots := 0, locals := 140 }) (PcS dC dI (TY cI cJ cII cJJ) [.ref a0] [(a0, .inr (9, [.ref a4, .ref a5, .ref a6, .ref a7, .ref a1, .ref a3, .ref a2, .ref a8, .ref a9, .ref a10, .ref a11, .ref a12, .int 1, .int 0, .int 0, .ref a13, .ref a14, .ref a15, .ref a16, .ref a17, .ref a18, .int 0, .int 0, .ref a19, .ref a20, .ref a21, .ref a22, .int 0, .int 0, .ref a23, .ref a24, .ref a25, .ref a26, .int 0, .ref a27, .int 0])), (a1, .inl (cI, 4, .inl (tb [0, 0, 0, 0]))), (a2, .inl (cI, 4, .inl (tb [0, 0, 0, 0]))), (a3, .inl (cI, 4, .inl (tb [0, 0, 0, 0])))] sz 0 g) ((QcL dC dI (TY cI cJ cII cJJ) 0 []) (va_A [(a0, .inr (9, [.ref a4, .ref a5, .ref a6, .ref a7, .ref a1, .ref a3, .ref a2, .ref a8, .ref a9, .ref a10, .ref a11, .ref a12, .int 1, .int 0, .int 0, .ref a13, .ref a14, .ref a15, .ref a16, .ref a17, .ref a18, .int 0, .int 0, .ref a19, .ref a20, .ref a21, .ref a22, .int 0, .int 0, .ref a23, .ref a24, .ref a25, .ref a26, .int 0, .ref a27, .int 0])), (a1, .inl (cI, 4, .inl (tb [0, 0, 0, 0]))), (a2, .inl (cI, 4, .inl (tb [0, 0, 0, 0]))), (a3, .inl (cI, 4, .inl (tb [0, 0, 0, 0])))] sz)) 0 0 (va_A [(a0, .inr (9, [.ref a4, .ref a5, .ref a6, .ref a7, .ref a1, .ref a3, .ref a2, .ref a8, .ref a9, .ref a10, .ref a11, .ref a12, .int 1, .int 0, .int 0, .ref a13, .ref a14, .ref a15, .ref a16, .ref a17, .ref a18, .int 0, .int 0, .ref a19, .ref a20, .ref a21, .ref a22, .int 0, .int 0, .ref a23, .ref a24, .ref a25, .ref a26, .int 0, .ref a27, .int 0])), (a1, .inl (cI, 4, .inl (tb [0, 0, 0, 0]))), (a2, .inl (cI, 4, .inl (tb [0, 0, 0, 0]))), (a3, .inl (cI, 4, .inl (tb [0, 0, 0, 0])))] sz) := by
  refine SM.of (y := yX9_cost) (maxL := 1) (av := [.ref a0]) (QcL dC dI (TY cI cJ cII cJJ) 0 []) (by decide +kernel) (Nat.le_of_ble_eq_true rfl) (fun p e s m below meth c A ls hx hb hr hml hown hts hk hnm hA hK hP hD hS hX hl => ?_)
  have hown : s.vm.findClass RX9 = some m.cls := hown
  have hl : lv_has ls 1 [(0, .ref a0)] := hl
  refine lv_aload_n hx hb dX9_cost_0 rfl (lv_at hl 0 rfl) ?_
  refine lv_aload_n hx hb dX9_cost_1 rfl (lv_at hl 0 rfl) ?_
  refine gf (k := 6) hx hb hts inX9 hown hK hP k_801 rfl (by decide) rfl 0 rfl (.ref a2) rfl dX9_cost_2 ?_
  refine lv_iconst (v := 0) hx hb dX9_cost_5 (by decide) ?_
  refine kV_l (q0 := 0) ⟨hx, hb, hml, hown, hts⟩ hK hP hD hS hA hX cv_RX9_220 [0, 1, 2, 3] [] (wr := []) rfl rfl rfl rfl (by decide) (c458_X9_costOf l dC dI cI cJ cII cJJ s.heap.size 0 a0 a1 a2 a3 a4 a5 a6 a7 a8 a9 a10 a11 a12 a13 a14 a15 a16 a17 a18 a19 a20 a21 a22 a23 a24 a25 a26 a27) ⟨by decide +kernel, by decide +kernel⟩ rfl rfl (Or.inl rfl) (rest := []) rfl rfl rfl hl.1 rfl (Nat.le_of_ble_eq_true rfl) dX9_cost_6 ⟨Nat.le_of_ble_eq_true rfl, Nat.le_of_ble_eq_true rfl⟩ (W' := [(a0, .inr (9, [.ref a4, .ref a5, .ref a6, .ref a7, .ref a1, .ref a3, .ref a2, .ref a8, .ref a9, .ref a10, .ref a11, .ref a12, .int 1, .int 0, .int 0, .ref a13, .ref a14, .ref a15, .ref a16, .ref a17, .ref a18, .int 0, .int 0, .ref a19, .ref a20, .ref a21, .ref a22, .int 0, .int 0, .ref a23, .ref a24, .ref a25, .ref a26, .int 0, .ref a27, .int 0])), (a1, .inl (cI, 4, .inl (tb [0, 0, 0, 0]))), (a2, .inl (cI, 4, .inl (tb [0, 0, 0, 0]))), (a3, .inl (cI, 4, .inl (tb [0, 0, 0, 0])))]) rfl (fun H locs hP hD hS => ?_)
  exact r_l hx hb hr hk hK (hP.sub [] rfl) (hD.sub [] rfl rfl) hS dX9_cost_9
set_option maxRecDepth 100000 in
set_option maxHeartbeats 4000000 in
theorem c462_X9_costOf (l : Launch) (dC : Nat → ClassId) (dI : Nat → Nat → Nat) (cI cJ cII cJJ : ClassId) (sz g a0 a1 a2 a3 a4 a5 a6 a7 a8 a9 a10 a11 a12 a13 a14 a15 a16 a17 a18 a19 a20 a21 a22 a23 a24 a25 a26 a27 : Nat) : Met l yX9_costOf (.code yX9_costOf cX9_costOf 6 (some .long) :: TT) ({ frames := 2, cells := 0, slots := 0, locals := 80 }) (PcS dC dI (TY cI cJ cII cJJ) [.ref a0, .ref a2, .int 0] [(a0, .inr (9, [.ref a4, .ref a5, .ref a6, .ref a7, .ref a1, .ref a3, .ref a2, .ref a8, .ref a9, .ref a10, .ref a11, .ref a12, .int 1, .int 0, .int 1, .ref a13, .ref a14, .ref a15, .ref a16, .ref a17, .ref a18, .int 2, .int 2, .ref a19, .ref a20, .ref a21, .ref a22, .int 0, .int 1, .ref a23, .ref a24, .ref a25, .ref a26, .int 0, .ref a27, .int 0])), (a1, .inl (cI, 4, .inl (tb [0, 0, 0, 0]))), (a2, .inl (cI, 4, .inl (tb [0, 0, 0, 0]))), (a3, .inl (cI, 4, .inl (tb [0, 0, 0, 0])))] sz 0 g) ((QcL dC dI (TY cI cJ cII cJJ) 0 [(a0, .inr (9, [.ref a4, .ref a5, .ref a6, .ref a7, .ref a1, .ref a3, .ref a2, .ref a8, .ref a9, .ref a10, .ref a11, .ref a12, .int 1, .int 0, .int 1, .ref a13, .ref a14, .ref a15, .ref a16, .ref a17, .ref a18, .int 2, .int 2, .ref a19, .ref a20, .ref a21, .ref a22, .int 0, .int 1, .ref a23, .ref a24, .ref a25, .ref a26, .int 0, .ref a27, .int 0])), (a1, .inl (cI, 4, .inl (tb [0, 0, 0, 0]))), (a2, .inl (cI, 4, .inl (tb [0, 0, 0, 0]))), (a3, .inl (cI, 4, .inl (tb [0, 0, 0, 0])))]) (va_A [(a0, .inr (9, [.ref a4, .ref a5, .ref a6, .ref a7, .ref a1, .ref a3, .ref a2, .ref a8, .ref a9, .ref a10, .ref a11, .ref a12, .int 1, .int 0, .int 1, .ref a13, .ref a14, .ref a15, .ref a16, .ref a17, .ref a18, .int 2, .int 2, .ref a19, .ref a20, .ref a21, .ref a22, .int 0, .int 1, .ref a23, .ref a24, .ref a25, .ref a26, .int 0, .ref a27, .int 0])), (a1, .inl (cI, 4, .inl (tb [0, 0, 0, 0]))), (a2, .inl (cI, 4, .inl (tb [0, 0, 0, 0]))), (a3, .inl (cI, 4, .inl (tb [0, 0, 0, 0])))] sz)) 0 0 (va_A [(a0, .inr (9, [.ref a4, .ref a5, .ref a6, .ref a7, .ref a1, .ref a3, .ref a2, .ref a8, .ref a9, .ref a10, .ref a11, .ref a12, .int 1, .int 0, .int 1, .ref a13, .ref a14, .ref a15, .ref a16, .ref a17, .ref a18, .int 2, .int 2, .ref a19, .ref a20, .ref a21, .ref a22, .int 0, .int 1, .ref a23, .ref a24, .ref a25, .ref a26, .int 0, .ref a27, .int 0])), (a1, .inl (cI, 4, .inl (tb [0, 0, 0, 0]))), (a2, .inl (cI, 4, .inl (tb [0, 0, 0, 0]))), (a3, .inl (cI, 4, .inl (tb [0, 0, 0, 0])))] sz) := by
  refine SM.of (y := yX9_costOf) (maxL := 6) (av := [.ref a0, .ref a2, .int 0]) (QcL dC dI (TY cI cJ cII cJJ) 0 [(a0, .inr (9, [.ref a4, .ref a5, .ref a6, .ref a7, .ref a1, .ref a3, .ref a2, .ref a8, .ref a9, .ref a10, .ref a11, .ref a12, .int 1, .int 0, .int 1, .ref a13, .ref a14, .ref a15, .ref a16, .ref a17, .ref a18, .int 2, .int 2, .ref a19, .ref a20, .ref a21, .ref a22, .int 0, .int 1, .ref a23, .ref a24, .ref a25, .ref a26, .int 0, .ref a27, .int 0])), (a1, .inl (cI, 4, .inl (tb [0, 0, 0, 0]))), (a2, .inl (cI, 4, .inl (tb [0, 0, 0, 0]))), (a3, .inl (cI, 4, .inl (tb [0, 0, 0, 0])))]) (by decide +kernel) (Nat.le_of_ble_eq_true rfl) (fun p e s m below meth c A ls hx hb hr hml hown hts hk hnm hA hK hP hD hS hX hl => ?_)
  have hown : s.vm.findClass RX9 = some m.cls := hown
  have hl : lv_has ls 6 [(0, .ref a0), (1, .ref a2), (2, .int 0)] := hl
  refine lv_lconst (v := 0) hx hb dX9_costOf_0 (by decide) ?_
  refine lv_lstore_n (lv' := [(3, .long 0), (0, .ref a0), (1, .ref a2), (2, .int 0)]) hx hb dX9_costOf_1 rfl hl (by decide) rfl (fun ls hl => ?_)
  refine lv_iconst (v := 0) hx hb dX9_costOf_2 (by decide) ?_
  refine lv_istore (lv' := [(5, .int 0), (3, .long 0), (0, .ref a0), (1, .ref a2), (2, .int 0)]) hx hb dX9_costOf_3 hl (by decide) rfl (fun ls hl => ?_)
  refine lv_iload hx hb dX9_costOf_5 (lv_at hl 0 rfl) ?_
  refine lv_aload_n hx hb dX9_costOf_7 rfl (lv_at hl 2 rfl) ?_
  refine gf (k := 12) hx hb hts inX9 hown hK hP k_807 rfl (by decide) rfl 0 rfl (.int 1) rfl dX9_costOf_8 ?_
  refine f_icmp_ge hx hb dX9_costOf_11 64 (by decide) (by decide +kernel) ?_
  refine lv_lload_n hx hb dX9_costOf_14 rfl (lv_at hl 1 rfl) ?_
  refine lv_aload_n hx hb dX9_costOf_15 rfl (lv_at hl 2 rfl) ?_
  refine gf (k := 4) hx hb hts inX9 hown hK hP k_799 rfl (by decide) rfl 0 rfl (.ref a1) rfl dX9_costOf_16 ?_
  refine lv_iload hx hb dX9_costOf_19 (lv_at hl 0 rfl) ?_
  refine ld_i hx hb hK hP 1 rfl (vin (by decide +kernel)) dX9_costOf_21 0 rfl ?_
  refine lv_i2l (v := 0) hx hb dX9_costOf_22 (by decide +kernel) ?_
  refine lv_aload_n hx hb dX9_costOf_23 rfl (lv_at hl 3 rfl) ?_
  refine lv_iload_n hx hb dX9_costOf_24 rfl (lv_at hl 4 rfl) ?_
  refine lv_iload hx hb dX9_costOf_25 (lv_at hl 0 rfl) ?_
  refine v_iadd hx hb dX9_costOf_27 0 (by decide +kernel) ?_
  refine ld_i hx hb hK hP 2 rfl (vin (by decide +kernel)) dX9_costOf_28 0 rfl ?_
  refine lv_i2l (v := 0) hx hb dX9_costOf_29 (by decide +kernel) ?_
  refine v_lmul hx hb dX9_costOf_30 0 (by decide +kernel) ?_
  refine lv_aload_n hx hb dX9_costOf_31 rfl (lv_at hl 2 rfl) ?_
  refine gf (k := 5) hx hb hts inX9 hown hK hP k_800 rfl (by decide) rfl 0 rfl (.ref a3) rfl dX9_costOf_32 ?_
  refine lv_iload hx hb dX9_costOf_35 (lv_at hl 0 rfl) ?_
  refine ld_i hx hb hK hP 3 rfl (vin (by decide +kernel)) dX9_costOf_37 0 rfl ?_
  refine lv_i2l (v := 0) hx hb dX9_costOf_38 (by decide +kernel) ?_
  refine lv_aload_n hx hb dX9_costOf_39 rfl (lv_at hl 3 rfl) ?_
  refine lv_iload_n hx hb dX9_costOf_40 rfl (lv_at hl 4 rfl) ?_
  refine lv_iload hx hb dX9_costOf_41 (lv_at hl 0 rfl) ?_
  refine v_iadd hx hb dX9_costOf_43 0 (by decide +kernel) ?_
  refine ld_i hx hb hK hP 2 rfl (vin (by decide +kernel)) dX9_costOf_44 0 rfl ?_
  refine lv_i2l (v := 0) hx hb dX9_costOf_45 (by decide +kernel) ?_
  refine v_lmul hx hb dX9_costOf_46 0 (by decide +kernel) ?_
  refine lv_aload_n hx hb dX9_costOf_47 rfl (lv_at hl 3 rfl) ?_
  refine lv_iload_n hx hb dX9_costOf_48 rfl (lv_at hl 4 rfl) ?_
  refine lv_iload hx hb dX9_costOf_49 (lv_at hl 0 rfl) ?_
  refine v_iadd hx hb dX9_costOf_51 0 (by decide +kernel) ?_
  refine ld_i hx hb hK hP 2 rfl (vin (by decide +kernel)) dX9_costOf_52 0 rfl ?_
  refine lv_i2l (v := 0) hx hb dX9_costOf_53 (by decide +kernel) ?_
  refine v_lmul hx hb dX9_costOf_54 0 (by decide +kernel) ?_
  refine v_ladd hx hb dX9_costOf_55 0 (by decide +kernel) ?_
  refine v_ladd hx hb dX9_costOf_56 0 (by decide +kernel) ?_
  refine lv_lstore_n (lv' := [(3, .long 0), (5, .int 0), (0, .ref a0), (1, .ref a2), (2, .int 0)]) hx hb dX9_costOf_57 rfl hl (by decide) rfl (fun ls hl => ?_)
  refine lv_iinc (v := 1) (lv' := [(5, .int 1), (3, .long 0), (0, .ref a0), (1, .ref a2), (2, .int 0)]) hx hb dX9_costOf_58 hl (k := 1) rfl (by decide +kernel) (by decide) rfl (fun ls hl => ?_)
  refine lv_goto (tgt := 5) hx hb dX9_costOf_61 (by decide) ?_
  refine lv_iload hx hb dX9_costOf_5 (lv_at hl 0 rfl) ?_
  refine lv_aload_n hx hb dX9_costOf_7 rfl (lv_at hl 2 rfl) ?_
  refine gf (k := 12) hx hb hts inX9 hown hK hP k_807 rfl (by decide) rfl 0 rfl (.int 1) rfl dX9_costOf_8 ?_
  refine t_icmp_ge hx hb dX9_costOf_11 64 (by decide) (by decide +kernel) ?_
  refine lv_lload_n hx hb dX9_costOf_64 rfl (lv_at hl 1 rfl) ?_
  exact r_l hx hb hr hk hK hP hD hS dX9_costOf_65
set_option maxRecDepth 100000 in
set_option maxHeartbeats 4000000 in
theorem c461_X9_cost (l : Launch) (dC : Nat → ClassId) (dI : Nat → Nat → Nat) (cI cJ cII cJJ : ClassId) (sz g a0 a1 a2 a3 a4 a5 a6 a7 a8 a9 a10 a11 a12 a13 a14 a15 a16 a17 a18 a19 a20 a21 a22 a23 a24 a25 a26 a27 : Nat) : Met l yX9_cost (.code yX9_cost cX9_cost 1 (some .long) :: TT) ({ frames := 3, cells := 0, slots := 0, locals := 140 }) (PcS dC dI (TY cI cJ cII cJJ) [.ref a0] [(a0, .inr (9, [.ref a4, .ref a5, .ref a6, .ref a7, .ref a1, .ref a3, .ref a2, .ref a8, .ref a9, .ref a10, .ref a11, .ref a12, .int 1, .int 0, .int 1, .ref a13, .ref a14, .ref a15, .ref a16, .ref a17, .ref a18, .int 2, .int 2, .ref a19, .ref a20, .ref a21, .ref a22, .int 0, .int 1, .ref a23, .ref a24, .ref a25, .ref a26, .int 0, .ref a27, .int 0])), (a1, .inl (cI, 4, .inl (tb [0, 0, 0, 0]))), (a2, .inl (cI, 4, .inl (tb [0, 0, 0, 0]))), (a3, .inl (cI, 4, .inl (tb [0, 0, 0, 0])))] sz 0 g) ((QcL dC dI (TY cI cJ cII cJJ) 0 [(a0, .inr (9, [.ref a4, .ref a5, .ref a6, .ref a7, .ref a1, .ref a3, .ref a2, .ref a8, .ref a9, .ref a10, .ref a11, .ref a12, .int 1, .int 0, .int 1, .ref a13, .ref a14, .ref a15, .ref a16, .ref a17, .ref a18, .int 2, .int 2, .ref a19, .ref a20, .ref a21, .ref a22, .int 0, .int 1, .ref a23, .ref a24, .ref a25, .ref a26, .int 0, .ref a27, .int 0])), (a1, .inl (cI, 4, .inl (tb [0, 0, 0, 0]))), (a2, .inl (cI, 4, .inl (tb [0, 0, 0, 0]))), (a3, .inl (cI, 4, .inl (tb [0, 0, 0, 0])))]) (va_A [(a0, .inr (9, [.ref a4, .ref a5, .ref a6, .ref a7, .ref a1, .ref a3, .ref a2, .ref a8, .ref a9, .ref a10, .ref a11, .ref a12, .int 1, .int 0, .int 1, .ref a13, .ref a14, .ref a15, .ref a16, .ref a17, .ref a18, .int 2, .int 2, .ref a19, .ref a20, .ref a21, .ref a22, .int 0, .int 1, .ref a23, .ref a24, .ref a25, .ref a26, .int 0, .ref a27, .int 0])), (a1, .inl (cI, 4, .inl (tb [0, 0, 0, 0]))), (a2, .inl (cI, 4, .inl (tb [0, 0, 0, 0]))), (a3, .inl (cI, 4, .inl (tb [0, 0, 0, 0])))] sz)) 0 0 (va_A [(a0, .inr (9, [.ref a4, .ref a5, .ref a6, .ref a7, .ref a1, .ref a3, .ref a2, .ref a8, .ref a9, .ref a10, .ref a11, .ref a12, .int 1, .int 0, .int 1, .ref a13, .ref a14, .ref a15, .ref a16, .ref a17, .ref a18, .int 2, .int 2, .ref a19, .ref a20, .ref a21, .ref a22, .int 0, .int 1, .ref a23, .ref a24, .ref a25, .ref a26, .int 0, .ref a27, .int 0])), (a1, .inl (cI, 4, .inl (tb [0, 0, 0, 0]))), (a2, .inl (cI, 4, .inl (tb [0, 0, 0, 0]))), (a3, .inl (cI, 4, .inl (tb [0, 0, 0, 0])))] sz) := by
  refine SM.of (y := yX9_cost) (maxL := 1) (av := [.ref a0]) (QcL dC dI (TY cI cJ cII cJJ) 0 [(a0, .inr (9, [.ref a4, .ref a5, .ref a6, .ref a7, .ref a1, .ref a3, .ref a2, .ref a8, .ref a9, .ref a10, .ref a11, .ref a12, .int 1, .int 0, .int 1, .ref a13, .ref a14, .ref a15, .ref a16, .ref a17, .ref a18, .int 2, .int 2, .ref a19, .ref a20, .ref a21, .ref a22, .int 0, .int 1, .ref a23, .ref a24, .ref a25, .ref a26, .int 0, .ref a27, .int 0])), (a1, .inl (cI, 4, .inl (tb [0, 0, 0, 0]))), (a2, .inl (cI, 4, .inl (tb [0, 0, 0, 0]))), (a3, .inl (cI, 4, .inl (tb [0, 0, 0, 0])))]) (by decide +kernel) (Nat.le_of_ble_eq_true rfl) (fun p e s m below meth c A ls hx hb hr hml hown hts hk hnm hA hK hP hD hS hX hl => ?_)
  have hown : s.vm.findClass RX9 = some m.cls := hown
  have hl : lv_has ls 1 [(0, .ref a0)] := hl
  refine lv_aload_n hx hb dX9_cost_0 rfl (lv_at hl 0 rfl) ?_
  refine lv_aload_n hx hb dX9_cost_1 rfl (lv_at hl 0 rfl) ?_
  refine gf (k := 6) hx hb hts inX9 hown hK hP k_801 rfl (by decide) rfl 0 rfl (.ref a2) rfl dX9_cost_2 ?_
  refine lv_iconst (v := 0) hx hb dX9_cost_5 (by decide) ?_
  refine kV_l (q0 := 0) ⟨hx, hb, hml, hown, hts⟩ hK hP hD hS hA hX cv_RX9_220 [0, 1, 2, 3] [] (wr := []) rfl rfl rfl rfl (by decide) (c462_X9_costOf l dC dI cI cJ cII cJJ s.heap.size 0 a0 a1 a2 a3 a4 a5 a6 a7 a8 a9 a10 a11 a12 a13 a14 a15 a16 a17 a18 a19 a20 a21 a22 a23 a24 a25 a26 a27) ⟨by decide +kernel, by decide +kernel⟩ rfl rfl (Or.inl rfl) (rest := []) rfl rfl rfl hl.1 rfl (Nat.le_of_ble_eq_true rfl) dX9_cost_6 ⟨Nat.le_of_ble_eq_true rfl, Nat.le_of_ble_eq_true rfl⟩ (W' := [(a0, .inr (9, [.ref a4, .ref a5, .ref a6, .ref a7, .ref a1, .ref a3, .ref a2, .ref a8, .ref a9, .ref a10, .ref a11, .ref a12, .int 1, .int 0, .int 1, .ref a13, .ref a14, .ref a15, .ref a16, .ref a17, .ref a18, .int 2, .int 2, .ref a19, .ref a20, .ref a21, .ref a22, .int 0, .int 1, .ref a23, .ref a24, .ref a25, .ref a26, .int 0, .ref a27, .int 0])), (a1, .inl (cI, 4, .inl (tb [0, 0, 0, 0]))), (a2, .inl (cI, 4, .inl (tb [0, 0, 0, 0]))), (a3, .inl (cI, 4, .inl (tb [0, 0, 0, 0])))]) rfl (fun H locs hP hD hS => ?_)
  exact r_l hx hb hr hk hK hP hD hS dX9_cost_9
set_option maxRecDepth 100000 in
set_option maxHeartbeats 4000000 in
theorem c463_X9_isPlan (l : Launch) (dC : Nat → ClassId) (dI : Nat → Nat → Nat) (cI cJ cII cJJ : ClassId) (sz g a0 a1 a2 a3 a4 a5 a6 a7 a8 a9 a10 a11 a12 a13 a14 a15 a16 a17 a18 a19 a20 a21 a22 a23 a24 a25 a26 a27 : Nat) : Met l yX9_isPlan (.code yX9_isPlan cX9_isPlan 5 (some .boolean) :: TT) ({ frames := 2, cells := 0, slots := 0, locals := 80 }) (PcS dC dI (TY cI cJ cII cJJ) [.ref a0, .ref a2, .int 0] [(a0, .inr (9, [.ref a3, .ref a4, .ref a1, .ref a5, .ref a6, .ref a7, .ref a8, .ref a9, .ref a10, .ref a11, .ref a12, .ref a13, .int 1, .int 0, .int 1, .ref a14, .ref a15, .ref a16, .ref a17, .ref a18, .ref a19, .int 2, .int 2, .ref a20, .ref a21, .ref a22, .ref a23, .int 0, .int 1, .ref a24, .ref a25, .ref a26, .ref a2, .int 0, .ref a27, .int 0])), (a1, .inl (cI, 4, .inl (tb [0, 0, 0, 0]))), (a2, .inl (cI, 4, .inl (tb [(-1)])))] sz 0 g) ((QcI dC dI (TY cI cJ cII cJJ) 0 [(a0, .inr (9, [.ref a3, .ref a4, .ref a1, .ref a5, .ref a6, .ref a7, .ref a8, .ref a9, .ref a10, .ref a11, .ref a12, .ref a13, .int 1, .int 0, .int 1, .ref a14, .ref a15, .ref a16, .ref a17, .ref a18, .ref a19, .int 2, .int 2, .ref a20, .ref a21, .ref a22, .ref a23, .int 0, .int 1, .ref a24, .ref a25, .ref a26, .ref a2, .int 0, .ref a27, .int 0])), (a1, .inl (cI, 4, .inl (tb [0, 0, 0, 0]))), (a2, .inl (cI, 4, .inl (tb [(-1)])))]) (va_A [(a0, .inr (9, [.ref a3, .ref a4, .ref a1, .ref a5, .ref a6, .ref a7, .ref a8, .ref a9, .ref a10, .ref a11, .ref a12, .ref a13, .int 1, .int 0, .int 1, .ref a14, .ref a15, .ref a16, .ref a17, .ref a18, .ref a19, .int 2, .int 2, .ref a20, .ref a21, .ref a22, .ref a23, .int 0, .int 1, .ref a24, .ref a25, .ref a26, .ref a2, .int 0, .ref a27, .int 0])), (a1, .inl (cI, 4, .inl (tb [0, 0, 0, 0]))), (a2, .inl (cI, 4, .inl (tb [(-1)])))] sz)) 0 0 (va_A [(a0, .inr (9, [.ref a3, .ref a4, .ref a1, .ref a5, .ref a6, .ref a7, .ref a8, .ref a9, .ref a10, .ref a11, .ref a12, .ref a13, .int 1, .int 0, .int 1, .ref a14, .ref a15, .ref a16, .ref a17, .ref a18, .ref a19, .int 2, .int 2, .ref a20, .ref a21, .ref a22, .ref a23, .int 0, .int 1, .ref a24, .ref a25, .ref a26, .ref a2, .int 0, .ref a27, .int 0])), (a1, .inl (cI, 4, .inl (tb [0, 0, 0, 0]))), (a2, .inl (cI, 4, .inl (tb [(-1)])))] sz) := by
  refine SM.of (y := yX9_isPlan) (maxL := 5) (av := [.ref a0, .ref a2, .int 0]) (QcI dC dI (TY cI cJ cII cJJ) 0 [(a0, .inr (9, [.ref a3, .ref a4, .ref a1, .ref a5, .ref a6, .ref a7, .ref a8, .ref a9, .ref a10, .ref a11, .ref a12, .ref a13, .int 1, .int 0, .int 1, .ref a14, .ref a15, .ref a16, .ref a17, .ref a18, .ref a19, .int 2, .int 2, .ref a20, .ref a21, .ref a22, .ref a23, .int 0, .int 1, .ref a24, .ref a25, .ref a26, .ref a2, .int 0, .ref a27, .int 0])), (a1, .inl (cI, 4, .inl (tb [0, 0, 0, 0]))), (a2, .inl (cI, 4, .inl (tb [(-1)])))]) (by decide +kernel) (Nat.le_of_ble_eq_true rfl) (fun p e s m below meth c A ls hx hb hr hml hown hts hk hnm hA hK hP hD hS hX hl => ?_)
  have hown : s.vm.findClass RX9 = some m.cls := hown
  have hl : lv_has ls 5 [(0, .ref a0), (1, .ref a2), (2, .int 0)] := hl
  refine lv_iconst (v := 1) hx hb dX9_isPlan_0 (by decide) ?_
  refine lv_istore_n (lv' := [(3, .int 1), (0, .ref a0), (1, .ref a2), (2, .int 0)]) hx hb dX9_isPlan_1 rfl hl (by decide) rfl (fun ls hl => ?_)
  refine lv_iconst (v := 0) hx hb dX9_isPlan_2 (by decide) ?_
  refine lv_istore (lv' := [(4, .int 0), (3, .int 1), (0, .ref a0), (1, .ref a2), (2, .int 0)]) hx hb dX9_isPlan_3 hl (by decide) rfl (fun ls hl => ?_)
  refine lv_iload hx hb dX9_isPlan_5 (lv_at hl 0 rfl) ?_
  refine lv_aload_n hx hb dX9_isPlan_7 rfl (lv_at hl 2 rfl) ?_
  refine gf (k := 12) hx hb hts inX9 hown hK hP k_807 rfl (by decide) rfl 0 rfl (.int 1) rfl dX9_isPlan_8 ?_
  refine f_icmp_ge hx hb dX9_isPlan_11 62 (by decide) (by decide +kernel) ?_
  refine lv_iload_n hx hb dX9_isPlan_14 rfl (lv_at hl 1 rfl) ?_
  refine f_if_eq hx hb dX9_isPlan_15 62 (by decide) (by decide +kernel) ?_
  refine lv_aload_n hx hb dX9_isPlan_18 rfl (lv_at hl 2 rfl) ?_
  refine gf (k := 2) hx hb hts inX9 hown hK hP k_797 rfl (by decide) rfl 0 rfl (.ref a1) rfl dX9_isPlan_19 ?_
  refine lv_iload hx hb dX9_isPlan_22 (lv_at hl 0 rfl) ?_
  refine ld_i hx hb hK hP 1 rfl (vin (by decide +kernel)) dX9_isPlan_24 0 rfl ?_
  refine lv_aload_n hx hb dX9_isPlan_25 rfl (lv_at hl 3 rfl) ?_
  refine lv_iload_n hx hb dX9_isPlan_26 rfl (lv_at hl 4 rfl) ?_
  refine lv_iload hx hb dX9_isPlan_27 (lv_at hl 0 rfl) ?_
  refine v_iadd hx hb dX9_isPlan_29 0 (by decide +kernel) ?_
  refine ld_i hx hb hK hP 2 rfl (vin (by decide +kernel)) dX9_isPlan_30 (-1) rfl ?_
  refine t_icmp_gt hx hb dX9_isPlan_31 54 (by decide) (by decide +kernel) ?_
  refine lv_iconst (v := 0) hx hb dX9_isPlan_54 (by decide) ?_
  refine lv_istore_n (lv' := [(3, .int 0), (4, .int 0), (0, .ref a0), (1, .ref a2), (2, .int 0)]) hx hb dX9_isPlan_55 rfl hl (by decide) rfl (fun ls hl => ?_)
  refine lv_iinc (v := 1) (lv' := [(4, .int 1), (3, .int 0), (0, .ref a0), (1, .ref a2), (2, .int 0)]) hx hb dX9_isPlan_56 hl (k := 1) rfl (by decide +kernel) (by decide) rfl (fun ls hl => ?_)
  refine lv_goto (tgt := 5) hx hb dX9_isPlan_59 (by decide) ?_
  refine lv_iload hx hb dX9_isPlan_5 (lv_at hl 0 rfl) ?_
  refine lv_aload_n hx hb dX9_isPlan_7 rfl (lv_at hl 2 rfl) ?_
  refine gf (k := 12) hx hb hts inX9 hown hK hP k_807 rfl (by decide) rfl 0 rfl (.int 1) rfl dX9_isPlan_8 ?_
  refine t_icmp_ge hx hb dX9_isPlan_11 62 (by decide) (by decide +kernel) ?_
  refine lv_iconst (v := 0) hx hb dX9_isPlan_62 (by decide) ?_
  refine lv_istore (lv' := [(4, .int 0), (3, .int 0), (0, .ref a0), (1, .ref a2), (2, .int 0)]) hx hb dX9_isPlan_63 hl (by decide) rfl (fun ls hl => ?_)
  refine lv_iload hx hb dX9_isPlan_65 (lv_at hl 0 rfl) ?_
  refine lv_aload_n hx hb dX9_isPlan_67 rfl (lv_at hl 2 rfl) ?_
  refine gf (k := 13) hx hb hts inX9 hown hK hP k_808 rfl (by decide) rfl 0 rfl (.int 0) rfl dX9_isPlan_68 ?_
  refine t_icmp_ge hx hb dX9_isPlan_71 108 (by decide) (by decide +kernel) ?_
  refine lv_iload_n hx hb dX9_isPlan_108 rfl (lv_at hl 1 rfl) ?_
  exact r_z hx hb hr hk hK hP hD hS dX9_isPlan_109 rfl
set_option maxRecDepth 100000 in
set_option maxHeartbeats 4000000 in
theorem c464_X9_isPlan (l : Launch) (dC : Nat → ClassId) (dI : Nat → Nat → Nat) (cI cJ cII cJJ : ClassId) (sz g a0 a1 a2 a3 a4 a5 a6 a7 a8 a9 a10 a11 a12 a13 a14 a15 a16 a17 a18 a19 a20 a21 a22 a23 a24 a25 a26 a27 : Nat) : Met l yX9_isPlan (.code yX9_isPlan cX9_isPlan 5 (some .boolean) :: TT) ({ frames := 2, cells := 0, slots := 0, locals := 80 }) (PcS dC dI (TY cI cJ cII cJJ) [.ref a0, .ref a2, .int 0] [(a0, .inr (9, [.ref a3, .ref a4, .ref a1, .ref a5, .ref a6, .ref a7, .ref a8, .ref a9, .ref a10, .ref a11, .ref a12, .ref a13, .int 1, .int 0, .int 1, .ref a14, .ref a15, .ref a16, .ref a17, .ref a18, .ref a19, .int 2, .int 2, .ref a20, .ref a21, .ref a22, .ref a23, .int 0, .int 1, .ref a24, .ref a25, .ref a26, .ref a2, .int 0, .ref a27, .int 0])), (a1, .inl (cI, 4, .inl (tb [0, 0, 0, 0]))), (a2, .inl (cI, 4, .inl (tb [(-2)])))] sz 0 g) ((QcI dC dI (TY cI cJ cII cJJ) 0 [(a0, .inr (9, [.ref a3, .ref a4, .ref a1, .ref a5, .ref a6, .ref a7, .ref a8, .ref a9, .ref a10, .ref a11, .ref a12, .ref a13, .int 1, .int 0, .int 1, .ref a14, .ref a15, .ref a16, .ref a17, .ref a18, .ref a19, .int 2, .int 2, .ref a20, .ref a21, .ref a22, .ref a23, .int 0, .int 1, .ref a24, .ref a25, .ref a26, .ref a2, .int 0, .ref a27, .int 0])), (a1, .inl (cI, 4, .inl (tb [0, 0, 0, 0]))), (a2, .inl (cI, 4, .inl (tb [(-2)])))]) (va_A [(a0, .inr (9, [.ref a3, .ref a4, .ref a1, .ref a5, .ref a6, .ref a7, .ref a8, .ref a9, .ref a10, .ref a11, .ref a12, .ref a13, .int 1, .int 0, .int 1, .ref a14, .ref a15, .ref a16, .ref a17, .ref a18, .ref a19, .int 2, .int 2, .ref a20, .ref a21, .ref a22, .ref a23, .int 0, .int 1, .ref a24, .ref a25, .ref a26, .ref a2, .int 0, .ref a27, .int 0])), (a1, .inl (cI, 4, .inl (tb [0, 0, 0, 0]))), (a2, .inl (cI, 4, .inl (tb [(-2)])))] sz)) 0 0 (va_A [(a0, .inr (9, [.ref a3, .ref a4, .ref a1, .ref a5, .ref a6, .ref a7, .ref a8, .ref a9, .ref a10, .ref a11, .ref a12, .ref a13, .int 1, .int 0, .int 1, .ref a14, .ref a15, .ref a16, .ref a17, .ref a18, .ref a19, .int 2, .int 2, .ref a20, .ref a21, .ref a22, .ref a23, .int 0, .int 1, .ref a24, .ref a25, .ref a26, .ref a2, .int 0, .ref a27, .int 0])), (a1, .inl (cI, 4, .inl (tb [0, 0, 0, 0]))), (a2, .inl (cI, 4, .inl (tb [(-2)])))] sz) := by
  refine SM.of (y := yX9_isPlan) (maxL := 5) (av := [.ref a0, .ref a2, .int 0]) (QcI dC dI (TY cI cJ cII cJJ) 0 [(a0, .inr (9, [.ref a3, .ref a4, .ref a1, .ref a5, .ref a6, .ref a7, .ref a8, .ref a9, .ref a10, .ref a11, .ref a12, .ref a13, .int 1, .int 0, .int 1, .ref a14, .ref a15, .ref a16, .ref a17, .ref a18, .ref a19, .int 2, .int 2, .ref a20, .ref a21, .ref a22, .ref a23, .int 0, .int 1, .ref a24, .ref a25, .ref a26, .ref a2, .int 0, .ref a27, .int 0])), (a1, .inl (cI, 4, .inl (tb [0, 0, 0, 0]))), (a2, .inl (cI, 4, .inl (tb [(-2)])))]) (by decide +kernel) (Nat.le_of_ble_eq_true rfl) (fun p e s m below meth c A ls hx hb hr hml hown hts hk hnm hA hK hP hD hS hX hl => ?_)
  have hown : s.vm.findClass RX9 = some m.cls := hown
  have hl : lv_has ls 5 [(0, .ref a0), (1, .ref a2), (2, .int 0)] := hl
  refine lv_iconst (v := 1) hx hb dX9_isPlan_0 (by decide) ?_
  refine lv_istore_n (lv' := [(3, .int 1), (0, .ref a0), (1, .ref a2), (2, .int 0)]) hx hb dX9_isPlan_1 rfl hl (by decide) rfl (fun ls hl => ?_)
  refine lv_iconst (v := 0) hx hb dX9_isPlan_2 (by decide) ?_
  refine lv_istore (lv' := [(4, .int 0), (3, .int 1), (0, .ref a0), (1, .ref a2), (2, .int 0)]) hx hb dX9_isPlan_3 hl (by decide) rfl (fun ls hl => ?_)
  refine lv_iload hx hb dX9_isPlan_5 (lv_at hl 0 rfl) ?_
  refine lv_aload_n hx hb dX9_isPlan_7 rfl (lv_at hl 2 rfl) ?_
  refine gf (k := 12) hx hb hts inX9 hown hK hP k_807 rfl (by decide) rfl 0 rfl (.int 1) rfl dX9_isPlan_8 ?_
  refine f_icmp_ge hx hb dX9_isPlan_11 62 (by decide) (by decide +kernel) ?_
  refine lv_iload_n hx hb dX9_isPlan_14 rfl (lv_at hl 1 rfl) ?_
  refine f_if_eq hx hb dX9_isPlan_15 62 (by decide) (by decide +kernel) ?_
  refine lv_aload_n hx hb dX9_isPlan_18 rfl (lv_at hl 2 rfl) ?_
  refine gf (k := 2) hx hb hts inX9 hown hK hP k_797 rfl (by decide) rfl 0 rfl (.ref a1) rfl dX9_isPlan_19 ?_
  refine lv_iload hx hb dX9_isPlan_22 (lv_at hl 0 rfl) ?_
  refine ld_i hx hb hK hP 1 rfl (vin (by decide +kernel)) dX9_isPlan_24 0 rfl ?_
  refine lv_aload_n hx hb dX9_isPlan_25 rfl (lv_at hl 3 rfl) ?_
  refine lv_iload_n hx hb dX9_isPlan_26 rfl (lv_at hl 4 rfl) ?_
  refine lv_iload hx hb dX9_isPlan_27 (lv_at hl 0 rfl) ?_
  refine v_iadd hx hb dX9_isPlan_29 0 (by decide +kernel) ?_
  refine ld_i hx hb hK hP 2 rfl (vin (by decide +kernel)) dX9_isPlan_30 (-2) rfl ?_
  refine t_icmp_gt hx hb dX9_isPlan_31 54 (by decide) (by decide +kernel) ?_
  refine lv_iconst (v := 0) hx hb dX9_isPlan_54 (by decide) ?_
  refine lv_istore_n (lv' := [(3, .int 0), (4, .int 0), (0, .ref a0), (1, .ref a2), (2, .int 0)]) hx hb dX9_isPlan_55 rfl hl (by decide) rfl (fun ls hl => ?_)
  refine lv_iinc (v := 1) (lv' := [(4, .int 1), (3, .int 0), (0, .ref a0), (1, .ref a2), (2, .int 0)]) hx hb dX9_isPlan_56 hl (k := 1) rfl (by decide +kernel) (by decide) rfl (fun ls hl => ?_)
  refine lv_goto (tgt := 5) hx hb dX9_isPlan_59 (by decide) ?_
  refine lv_iload hx hb dX9_isPlan_5 (lv_at hl 0 rfl) ?_
  refine lv_aload_n hx hb dX9_isPlan_7 rfl (lv_at hl 2 rfl) ?_
  refine gf (k := 12) hx hb hts inX9 hown hK hP k_807 rfl (by decide) rfl 0 rfl (.int 1) rfl dX9_isPlan_8 ?_
  refine t_icmp_ge hx hb dX9_isPlan_11 62 (by decide) (by decide +kernel) ?_
  refine lv_iconst (v := 0) hx hb dX9_isPlan_62 (by decide) ?_
  refine lv_istore (lv' := [(4, .int 0), (3, .int 0), (0, .ref a0), (1, .ref a2), (2, .int 0)]) hx hb dX9_isPlan_63 hl (by decide) rfl (fun ls hl => ?_)
  refine lv_iload hx hb dX9_isPlan_65 (lv_at hl 0 rfl) ?_
  refine lv_aload_n hx hb dX9_isPlan_67 rfl (lv_at hl 2 rfl) ?_
  refine gf (k := 13) hx hb hts inX9 hown hK hP k_808 rfl (by decide) rfl 0 rfl (.int 0) rfl dX9_isPlan_68 ?_
  refine t_icmp_ge hx hb dX9_isPlan_71 108 (by decide) (by decide +kernel) ?_
  refine lv_iload_n hx hb dX9_isPlan_108 rfl (lv_at hl 1 rfl) ?_
  exact r_z hx hb hr hk hK hP hD hS dX9_isPlan_109 rfl
set_option maxRecDepth 100000 in
set_option maxHeartbeats 4000000 in
theorem c465_X9_isPlan (l : Launch) (dC : Nat → ClassId) (dI : Nat → Nat → Nat) (cI cJ cII cJJ : ClassId) (sz g a0 a1 a2 a3 a4 a5 a6 a7 a8 a9 a10 a11 a12 a13 a14 a15 a16 a17 a18 a19 a20 a21 a22 a23 a24 a25 a26 a27 : Nat) : Met l yX9_isPlan (.code yX9_isPlan cX9_isPlan 5 (some .boolean) :: TT) ({ frames := 2, cells := 0, slots := 0, locals := 80 }) (PcS dC dI (TY cI cJ cII cJJ) [.ref a0, .ref a2, .int 0] [(a0, .inr (9, [.ref a3, .ref a4, .ref a1, .ref a5, .ref a6, .ref a7, .ref a8, .ref a9, .ref a10, .ref a11, .ref a12, .ref a13, .int 1, .int 0, .int 1, .ref a14, .ref a15, .ref a16, .ref a17, .ref a18, .ref a19, .int 2, .int 2, .ref a20, .ref a21, .ref a22, .ref a23, .int 0, .int 1, .ref a24, .ref a25, .ref a26, .ref a2, .int 0, .ref a27, .int 0])), (a1, .inl (cI, 4, .inl (tb [0, 0, 0, 0]))), (a2, .inl (cI, 4, .inl (tb [(-3)])))] sz 0 g) ((QcI dC dI (TY cI cJ cII cJJ) 0 [(a0, .inr (9, [.ref a3, .ref a4, .ref a1, .ref a5, .ref a6, .ref a7, .ref a8, .ref a9, .ref a10, .ref a11, .ref a12, .ref a13, .int 1, .int 0, .int 1, .ref a14, .ref a15, .ref a16, .ref a17, .ref a18, .ref a19, .int 2, .int 2, .ref a20, .ref a21, .ref a22, .ref a23, .int 0, .int 1, .ref a24, .ref a25, .ref a26, .ref a2, .int 0, .ref a27, .int 0])), (a1, .inl (cI, 4, .inl (tb [0, 0, 0, 0]))), (a2, .inl (cI, 4, .inl (tb [(-3)])))]) (va_A [(a0, .inr (9, [.ref a3, .ref a4, .ref a1, .ref a5, .ref a6, .ref a7, .ref a8, .ref a9, .ref a10, .ref a11, .ref a12, .ref a13, .int 1, .int 0, .int 1, .ref a14, .ref a15, .ref a16, .ref a17, .ref a18, .ref a19, .int 2, .int 2, .ref a20, .ref a21, .ref a22, .ref a23, .int 0, .int 1, .ref a24, .ref a25, .ref a26, .ref a2, .int 0, .ref a27, .int 0])), (a1, .inl (cI, 4, .inl (tb [0, 0, 0, 0]))), (a2, .inl (cI, 4, .inl (tb [(-3)])))] sz)) 0 0 (va_A [(a0, .inr (9, [.ref a3, .ref a4, .ref a1, .ref a5, .ref a6, .ref a7, .ref a8, .ref a9, .ref a10, .ref a11, .ref a12, .ref a13, .int 1, .int 0, .int 1, .ref a14, .ref a15, .ref a16, .ref a17, .ref a18, .ref a19, .int 2, .int 2, .ref a20, .ref a21, .ref a22, .ref a23, .int 0, .int 1, .ref a24, .ref a25, .ref a26, .ref a2, .int 0, .ref a27, .int 0])), (a1, .inl (cI, 4, .inl (tb [0, 0, 0, 0]))), (a2, .inl (cI, 4, .inl (tb [(-3)])))] sz) := by
  refine SM.of (y := yX9_isPlan) (maxL := 5) (av := [.ref a0, .ref a2, .int 0]) (QcI dC dI (TY cI cJ cII cJJ) 0 [(a0, .inr (9, [.ref a3, .ref a4, .ref a1, .ref a5, .ref a6, .ref a7, .ref a8, .ref a9, .ref a10, .ref a11, .ref a12, .ref a13, .int 1, .int 0, .int 1, .ref a14, .ref a15, .ref a16, .ref a17, .ref a18, .ref a19, .int 2, .int 2, .ref a20, .ref a21, .ref a22, .ref a23, .int 0, .int 1, .ref a24, .ref a25, .ref a26, .ref a2, .int 0, .ref a27, .int 0])), (a1, .inl (cI, 4, .inl (tb [0, 0, 0, 0]))), (a2, .inl (cI, 4, .inl (tb [(-3)])))]) (by decide +kernel) (Nat.le_of_ble_eq_true rfl) (fun p e s m below meth c A ls hx hb hr hml hown hts hk hnm hA hK hP hD hS hX hl => ?_)
  have hown : s.vm.findClass RX9 = some m.cls := hown
  have hl : lv_has ls 5 [(0, .ref a0), (1, .ref a2), (2, .int 0)] := hl
  refine lv_iconst (v := 1) hx hb dX9_isPlan_0 (by decide) ?_
  refine lv_istore_n (lv' := [(3, .int 1), (0, .ref a0), (1, .ref a2), (2, .int 0)]) hx hb dX9_isPlan_1 rfl hl (by decide) rfl (fun ls hl => ?_)
  refine lv_iconst (v := 0) hx hb dX9_isPlan_2 (by decide) ?_
  refine lv_istore (lv' := [(4, .int 0), (3, .int 1), (0, .ref a0), (1, .ref a2), (2, .int 0)]) hx hb dX9_isPlan_3 hl (by decide) rfl (fun ls hl => ?_)
  refine lv_iload hx hb dX9_isPlan_5 (lv_at hl 0 rfl) ?_
  refine lv_aload_n hx hb dX9_isPlan_7 rfl (lv_at hl 2 rfl) ?_
  refine gf (k := 12) hx hb hts inX9 hown hK hP k_807 rfl (by decide) rfl 0 rfl (.int 1) rfl dX9_isPlan_8 ?_
  refine f_icmp_ge hx hb dX9_isPlan_11 62 (by decide) (by decide +kernel) ?_
  refine lv_iload_n hx hb dX9_isPlan_14 rfl (lv_at hl 1 rfl) ?_
  refine f_if_eq hx hb dX9_isPlan_15 62 (by decide) (by decide +kernel) ?_
  refine lv_aload_n hx hb dX9_isPlan_18 rfl (lv_at hl 2 rfl) ?_
  refine gf (k := 2) hx hb hts inX9 hown hK hP k_797 rfl (by decide) rfl 0 rfl (.ref a1) rfl dX9_isPlan_19 ?_
  refine lv_iload hx hb dX9_isPlan_22 (lv_at hl 0 rfl) ?_
  refine ld_i hx hb hK hP 1 rfl (vin (by decide +kernel)) dX9_isPlan_24 0 rfl ?_
  refine lv_aload_n hx hb dX9_isPlan_25 rfl (lv_at hl 3 rfl) ?_
  refine lv_iload_n hx hb dX9_isPlan_26 rfl (lv_at hl 4 rfl) ?_
  refine lv_iload hx hb dX9_isPlan_27 (lv_at hl 0 rfl) ?_
  refine v_iadd hx hb dX9_isPlan_29 0 (by decide +kernel) ?_
  refine ld_i hx hb hK hP 2 rfl (vin (by decide +kernel)) dX9_isPlan_30 (-3) rfl ?_
  refine t_icmp_gt hx hb dX9_isPlan_31 54 (by decide) (by decide +kernel) ?_
  refine lv_iconst (v := 0) hx hb dX9_isPlan_54 (by decide) ?_
  refine lv_istore_n (lv' := [(3, .int 0), (4, .int 0), (0, .ref a0), (1, .ref a2), (2, .int 0)]) hx hb dX9_isPlan_55 rfl hl (by decide) rfl (fun ls hl => ?_)
  refine lv_iinc (v := 1) (lv' := [(4, .int 1), (3, .int 0), (0, .ref a0), (1, .ref a2), (2, .int 0)]) hx hb dX9_isPlan_56 hl (k := 1) rfl (by decide +kernel) (by decide) rfl (fun ls hl => ?_)
  refine lv_goto (tgt := 5) hx hb dX9_isPlan_59 (by decide) ?_
  refine lv_iload hx hb dX9_isPlan_5 (lv_at hl 0 rfl) ?_
  refine lv_aload_n hx hb dX9_isPlan_7 rfl (lv_at hl 2 rfl) ?_
  refine gf (k := 12) hx hb hts inX9 hown hK hP k_807 rfl (by decide) rfl 0 rfl (.int 1) rfl dX9_isPlan_8 ?_
  refine t_icmp_ge hx hb dX9_isPlan_11 62 (by decide) (by decide +kernel) ?_
  refine lv_iconst (v := 0) hx hb dX9_isPlan_62 (by decide) ?_
  refine lv_istore (lv' := [(4, .int 0), (3, .int 0), (0, .ref a0), (1, .ref a2), (2, .int 0)]) hx hb dX9_isPlan_63 hl (by decide) rfl (fun ls hl => ?_)
  refine lv_iload hx hb dX9_isPlan_65 (lv_at hl 0 rfl) ?_
  refine lv_aload_n hx hb dX9_isPlan_67 rfl (lv_at hl 2 rfl) ?_
  refine gf (k := 13) hx hb hts inX9 hown hK hP k_808 rfl (by decide) rfl 0 rfl (.int 0) rfl dX9_isPlan_68 ?_
  refine t_icmp_ge hx hb dX9_isPlan_71 108 (by decide) (by decide +kernel) ?_
  refine lv_iload_n hx hb dX9_isPlan_108 rfl (lv_at hl 1 rfl) ?_
  exact r_z hx hb hr hk hK hP hD hS dX9_isPlan_109 rfl
set_option maxRecDepth 100000 in
set_option maxHeartbeats 4000000 in
theorem c466_X9_isPlan (l : Launch) (dC : Nat → ClassId) (dI : Nat → Nat → Nat) (cI cJ cII cJJ : ClassId) (sz g a0 a1 a2 a3 a4 a5 a6 a7 a8 a9 a10 a11 a12 a13 a14 a15 a16 a17 a18 a19 a20 a21 a22 a23 a24 a25 a26 a27 : Nat) : Met l yX9_isPlan (.code yX9_isPlan cX9_isPlan 5 (some .boolean) :: TT) ({ frames := 2, cells := 0, slots := 0, locals := 80 }) (PcS dC dI (TY cI cJ cII cJJ) [.ref a0, .ref a2, .int 0] [(a0, .inr (9, [.ref a3, .ref a4, .ref a1, .ref a5, .ref a6, .ref a7, .ref a8, .ref a9, .ref a10, .ref a11, .ref a12, .ref a13, .int 1, .int 0, .int 1, .ref a14, .ref a15, .ref a16, .ref a17, .ref a18, .ref a19, .int 2, .int 2, .ref a20, .ref a21, .ref a22, .ref a23, .int 0, .int 1, .ref a24, .ref a25, .ref a26, .ref a2, .int 0, .ref a27, .int 0])), (a1, .inl (cI, 4, .inl (tb [0, 0, 0, 0]))), (a2, .inl (cI, 4, .inl (tb [(-4)])))] sz 0 g) ((QcI dC dI (TY cI cJ cII cJJ) 0 [(a0, .inr (9, [.ref a3, .ref a4, .ref a1, .ref a5, .ref a6, .ref a7, .ref a8, .ref a9, .ref a10, .ref a11, .ref a12, .ref a13, .int 1, .int 0, .int 1, .ref a14, .ref a15, .ref a16, .ref a17, .ref a18, .ref a19, .int 2, .int 2, .ref a20, .ref a21, .ref a22, .ref a23, .int 0, .int 1, .ref a24, .ref a25, .ref a26, .ref a2, .int 0, .ref a27, .int 0])), (a1, .inl (cI, 4, .inl (tb [0, 0, 0, 0]))), (a2, .inl (cI, 4, .inl (tb [(-4)])))]) (va_A [(a0, .inr (9, [.ref a3, .ref a4, .ref a1, .ref a5, .ref a6, .ref a7, .ref a8, .ref a9, .ref a10, .ref a11, .ref a12, .ref a13, .int 1, .int 0, .int 1, .ref a14, .ref a15, .ref a16, .ref a17, .ref a18, .ref a19, .int 2, .int 2, .ref a20, .ref a21, .ref a22, .ref a23, .int 0, .int 1, .ref a24, .ref a25, .ref a26, .ref a2, .int 0, .ref a27, .int 0])), (a1, .inl (cI, 4, .inl (tb [0, 0, 0, 0]))), (a2, .inl (cI, 4, .inl (tb [(-4)])))] sz)) 0 0 (va_A [(a0, .inr (9, [.ref a3, .ref a4, .ref a1, .ref a5, .ref a6, .ref a7, .ref a8, .ref a9, .ref a10, .ref a11, .ref a12, .ref a13, .int 1, .int 0, .int 1, .ref a14, .ref a15, .ref a16, .ref a17, .ref a18, .ref a19, .int 2, .int 2, .ref a20, .ref a21, .ref a22, .ref a23, .int 0, .int 1, .ref a24, .ref a25, .ref a26, .ref a2, .int 0, .ref a27, .int 0])), (a1, .inl (cI, 4, .inl (tb [0, 0, 0, 0]))), (a2, .inl (cI, 4, .inl (tb [(-4)])))] sz) := by
  refine SM.of (y := yX9_isPlan) (maxL := 5) (av := [.ref a0, .ref a2, .int 0]) (QcI dC dI (TY cI cJ cII cJJ) 0 [(a0, .inr (9, [.ref a3, .ref a4, .ref a1, .ref a5, .ref a6, .ref a7, .ref a8, .ref a9, .ref a10, .ref a11, .ref a12, .ref a13, .int 1, .int 0, .int 1, .ref a14, .ref a15, .ref a16, .ref a17, .ref a18, .ref a19, .int 2, .int 2, .ref a20, .ref a21, .ref a22, .ref a23, .int 0, .int 1, .ref a24, .ref a25, .ref a26, .ref a2, .int 0, .ref a27, .int 0])), (a1, .inl (cI, 4, .inl (tb [0, 0, 0, 0]))), (a2, .inl (cI, 4, .inl (tb [(-4)])))]) (by decide +kernel) (Nat.le_of_ble_eq_true rfl) (fun p e s m below meth c A ls hx hb hr hml hown hts hk hnm hA hK hP hD hS hX hl => ?_)
  have hown : s.vm.findClass RX9 = some m.cls := hown
  have hl : lv_has ls 5 [(0, .ref a0), (1, .ref a2), (2, .int 0)] := hl
  refine lv_iconst (v := 1) hx hb dX9_isPlan_0 (by decide) ?_
  refine lv_istore_n (lv' := [(3, .int 1), (0, .ref a0), (1, .ref a2), (2, .int 0)]) hx hb dX9_isPlan_1 rfl hl (by decide) rfl (fun ls hl => ?_)
  refine lv_iconst (v := 0) hx hb dX9_isPlan_2 (by decide) ?_
  refine lv_istore (lv' := [(4, .int 0), (3, .int 1), (0, .ref a0), (1, .ref a2), (2, .int 0)]) hx hb dX9_isPlan_3 hl (by decide) rfl (fun ls hl => ?_)
  refine lv_iload hx hb dX9_isPlan_5 (lv_at hl 0 rfl) ?_
  refine lv_aload_n hx hb dX9_isPlan_7 rfl (lv_at hl 2 rfl) ?_
  refine gf (k := 12) hx hb hts inX9 hown hK hP k_807 rfl (by decide) rfl 0 rfl (.int 1) rfl dX9_isPlan_8 ?_
  refine f_icmp_ge hx hb dX9_isPlan_11 62 (by decide) (by decide +kernel) ?_
  refine lv_iload_n hx hb dX9_isPlan_14 rfl (lv_at hl 1 rfl) ?_
  refine f_if_eq hx hb dX9_isPlan_15 62 (by decide) (by decide +kernel) ?_
  refine lv_aload_n hx hb dX9_isPlan_18 rfl (lv_at hl 2 rfl) ?_
  refine gf (k := 2) hx hb hts inX9 hown hK hP k_797 rfl (by decide) rfl 0 rfl (.ref a1) rfl dX9_isPlan_19 ?_
  refine lv_iload hx hb dX9_isPlan_22 (lv_at hl 0 rfl) ?_
  refine ld_i hx hb hK hP 1 rfl (vin (by decide +kernel)) dX9_isPlan_24 0 rfl ?_
  refine lv_aload_n hx hb dX9_isPlan_25 rfl (lv_at hl 3 rfl) ?_
  refine lv_iload_n hx hb dX9_isPlan_26 rfl (lv_at hl 4 rfl) ?_
  refine lv_iload hx hb dX9_isPlan_27 (lv_at hl 0 rfl) ?_
  refine v_iadd hx hb dX9_isPlan_29 0 (by decide +kernel) ?_
  refine ld_i hx hb hK hP 2 rfl (vin (by decide +kernel)) dX9_isPlan_30 (-4) rfl ?_
  refine t_icmp_gt hx hb dX9_isPlan_31 54 (by decide) (by decide +kernel) ?_
  refine lv_iconst (v := 0) hx hb dX9_isPlan_54 (by decide) ?_
  refine lv_istore_n (lv' := [(3, .int 0), (4, .int 0), (0, .ref a0), (1, .ref a2), (2, .int 0)]) hx hb dX9_isPlan_55 rfl hl (by decide) rfl (fun ls hl => ?_)
  refine lv_iinc (v := 1) (lv' := [(4, .int 1), (3, .int 0), (0, .ref a0), (1, .ref a2), (2, .int 0)]) hx hb dX9_isPlan_56 hl (k := 1) rfl (by decide +kernel) (by decide) rfl (fun ls hl => ?_)
  refine lv_goto (tgt := 5) hx hb dX9_isPlan_59 (by decide) ?_
  refine lv_iload hx hb dX9_isPlan_5 (lv_at hl 0 rfl) ?_
  refine lv_aload_n hx hb dX9_isPlan_7 rfl (lv_at hl 2 rfl) ?_
  refine gf (k := 12) hx hb hts inX9 hown hK hP k_807 rfl (by decide) rfl 0 rfl (.int 1) rfl dX9_isPlan_8 ?_
  refine t_icmp_ge hx hb dX9_isPlan_11 62 (by decide) (by decide +kernel) ?_
  refine lv_iconst (v := 0) hx hb dX9_isPlan_62 (by decide) ?_
  refine lv_istore (lv' := [(4, .int 0), (3, .int 0), (0, .ref a0), (1, .ref a2), (2, .int 0)]) hx hb dX9_isPlan_63 hl (by decide) rfl (fun ls hl => ?_)
  refine lv_iload hx hb dX9_isPlan_65 (lv_at hl 0 rfl) ?_
  refine lv_aload_n hx hb dX9_isPlan_67 rfl (lv_at hl 2 rfl) ?_
  refine gf (k := 13) hx hb hts inX9 hown hK hP k_808 rfl (by decide) rfl 0 rfl (.int 0) rfl dX9_isPlan_68 ?_
  refine t_icmp_ge hx hb dX9_isPlan_71 108 (by decide) (by decide +kernel) ?_
  refine lv_iload_n hx hb dX9_isPlan_108 rfl (lv_at hl 1 rfl) ?_
  exact r_z hx hb hr hk hK hP hD hS dX9_isPlan_109 rfl
set_option maxRecDepth 100000 in
set_option maxHeartbeats 4000000 in
theorem c467_X9_isPlan (l : Launch) (dC : Nat → ClassId) (dI : Nat → Nat → Nat) (cI cJ cII cJJ : ClassId) (sz g a0 a1 a2 a3 a4 a5 a6 a7 a8 a9 a10 a11 a12 a13 a14 a15 a16 a17 a18 a19 a20 a21 a22 a23 a24 a25 a26 a27 : Nat) : Met l yX9_isPlan (.code yX9_isPlan cX9_isPlan 5 (some .boolean) :: TT) ({ frames := 2, cells := 0, slots := 0, locals := 80 }) (PcS dC dI (TY cI cJ cII cJJ) [.ref a0, .ref a2, .int 0] [(a0, .inr (9, [.ref a3, .ref a4, .ref a1, .ref a5, .ref a6, .ref a7, .ref a8, .ref a9, .ref a10, .ref a11, .ref a12, .ref a13, .int 1, .int 0, .int 1, .ref a14, .ref a15, .ref a16, .ref a17, .ref a18, .ref a19, .int 2, .int 2, .ref a20, .ref a21, .ref a22, .ref a23, .int 0, .int 1, .ref a24, .ref a25, .ref a26, .ref a2, .int 0, .ref a27, .int 0])), (a1, .inl (cI, 4, .inl (tb [0, 0, 0, 0]))), (a2, .inl (cI, 4, .inl (tb [(-5)])))] sz 0 g) ((QcI dC dI (TY cI cJ cII cJJ) 0 [(a0, .inr (9, [.ref a3, .ref a4, .ref a1, .ref a5, .ref a6, .ref a7, .ref a8, .ref a9, .ref a10, .ref a11, .ref a12, .ref a13, .int 1, .int 0, .int 1, .ref a14, .ref a15, .ref a16, .ref a17, .ref a18, .ref a19, .int 2, .int 2, .ref a20, .ref a21, .ref a22, .ref a23, .int 0, .int 1, .ref a24, .ref a25, .ref a26, .ref a2, .int 0, .ref a27, .int 0])), (a1, .inl (cI, 4, .inl (tb [0, 0, 0, 0]))), (a2, .inl (cI, 4, .inl (tb [(-5)])))]) (va_A [(a0, .inr (9, [.ref a3, .ref a4, .ref a1, .ref a5, .ref a6, .ref a7, .ref a8, .ref a9, .ref a10, .ref a11, .ref a12, .ref a13, .int 1, .int 0, .int 1, .ref a14, .ref a15, .ref a16, .ref a17, .ref a18, .ref a19, .int 2, .int 2, .ref a20, .ref a21, .ref a22, .ref a23, .int 0, .int 1, .ref a24, .ref a25, .ref a26, .ref a2, .int 0, .ref a27, .int 0])), (a1, .inl (cI, 4, .inl (tb [0, 0, 0, 0]))), (a2, .inl (cI, 4, .inl (tb [(-5)])))] sz)) 0 0 (va_A [(a0, .inr (9, [.ref a3, .ref a4, .ref a1, .ref a5, .ref a6, .ref a7, .ref a8, .ref a9, .ref a10, .ref a11, .ref a12, .ref a13, .int 1, .int 0, .int 1, .ref a14, .ref a15, .ref a16, .ref a17, .ref a18, .ref a19, .int 2, .int 2, .ref a20, .ref a21, .ref a22, .ref a23, .int 0, .int 1, .ref a24, .ref a25, .ref a26, .ref a2, .int 0, .ref a27, .int 0])), (a1, .inl (cI, 4, .inl (tb [0, 0, 0, 0]))), (a2, .inl (cI, 4, .inl (tb [(-5)])))] sz) := by
  refine SM.of (y := yX9_isPlan) (maxL := 5) (av := [.ref a0, .ref a2, .int 0]) (QcI dC dI (TY cI cJ cII cJJ) 0 [(a0, .inr (9, [.ref a3, .ref a4, .ref a1, .ref a5, .ref a6, .ref a7, .ref a8, .ref a9, .ref a10, .ref a11, .ref a12, .ref a13, .int 1, .int 0, .int 1, .ref a14, .ref a15, .ref a16, .ref a17, .ref a18, .ref a19, .int 2, .int 2, .ref a20, .ref a21, .ref a22, .ref a23, .int 0, .int 1, .ref a24, .ref a25, .ref a26, .ref a2, .int 0, .ref a27, .int 0])), (a1, .inl (cI, 4, .inl (tb [0, 0, 0, 0]))), (a2, .inl (cI, 4, .inl (tb [(-5)])))]) (by decide +kernel) (Nat.le_of_ble_eq_true rfl) (fun p e s m below meth c A ls hx hb hr hml hown hts hk hnm hA hK hP hD hS hX hl => ?_)
  have hown : s.vm.findClass RX9 = some m.cls := hown
  have hl : lv_has ls 5 [(0, .ref a0), (1, .ref a2), (2, .int 0)] := hl
  refine lv_iconst (v := 1) hx hb dX9_isPlan_0 (by decide) ?_
  refine lv_istore_n (lv' := [(3, .int 1), (0, .ref a0), (1, .ref a2), (2, .int 0)]) hx hb dX9_isPlan_1 rfl hl (by decide) rfl (fun ls hl => ?_)
  refine lv_iconst (v := 0) hx hb dX9_isPlan_2 (by decide) ?_
  refine lv_istore (lv' := [(4, .int 0), (3, .int 1), (0, .ref a0), (1, .ref a2), (2, .int 0)]) hx hb dX9_isPlan_3 hl (by decide) rfl (fun ls hl => ?_)
  refine lv_iload hx hb dX9_isPlan_5 (lv_at hl 0 rfl) ?_
  refine lv_aload_n hx hb dX9_isPlan_7 rfl (lv_at hl 2 rfl) ?_
  refine gf (k := 12) hx hb hts inX9 hown hK hP k_807 rfl (by decide) rfl 0 rfl (.int 1) rfl dX9_isPlan_8 ?_
  refine f_icmp_ge hx hb dX9_isPlan_11 62 (by decide) (by decide +kernel) ?_
  refine lv_iload_n hx hb dX9_isPlan_14 rfl (lv_at hl 1 rfl) ?_
  refine f_if_eq hx hb dX9_isPlan_15 62 (by decide) (by decide +kernel) ?_
  refine lv_aload_n hx hb dX9_isPlan_18 rfl (lv_at hl 2 rfl) ?_
  refine gf (k := 2) hx hb hts inX9 hown hK hP k_797 rfl (by decide) rfl 0 rfl (.ref a1) rfl dX9_isPlan_19 ?_
  refine lv_iload hx hb dX9_isPlan_22 (lv_at hl 0 rfl) ?_
  refine ld_i hx hb hK hP 1 rfl (vin (by decide +kernel)) dX9_isPlan_24 0 rfl ?_
  refine lv_aload_n hx hb dX9_isPlan_25 rfl (lv_at hl 3 rfl) ?_
  refine lv_iload_n hx hb dX9_isPlan_26 rfl (lv_at hl 4 rfl) ?_
  refine lv_iload hx hb dX9_isPlan_27 (lv_at hl 0 rfl) ?_
  refine v_iadd hx hb dX9_isPlan_29 0 (by decide +kernel) ?_
  refine ld_i hx hb hK hP 2 rfl (vin (by decide +kernel)) dX9_isPlan_30 (-5) rfl ?_
  refine t_icmp_gt hx hb dX9_isPlan_31 54 (by decide) (by decide +kernel) ?_
  refine lv_iconst (v := 0) hx hb dX9_isPlan_54 (by decide) ?_
  refine lv_istore_n (lv' := [(3, .int 0), (4, .int 0), (0, .ref a0), (1, .ref a2), (2, .int 0)]) hx hb dX9_isPlan_55 rfl hl (by decide) rfl (fun ls hl => ?_)
  refine lv_iinc (v := 1) (lv' := [(4, .int 1), (3, .int 0), (0, .ref a0), (1, .ref a2), (2, .int 0)]) hx hb dX9_isPlan_56 hl (k := 1) rfl (by decide +kernel) (by decide) rfl (fun ls hl => ?_)
  refine lv_goto (tgt := 5) hx hb dX9_isPlan_59 (by decide) ?_
  refine lv_iload hx hb dX9_isPlan_5 (lv_at hl 0 rfl) ?_
  refine lv_aload_n hx hb dX9_isPlan_7 rfl (lv_at hl 2 rfl) ?_
  refine gf (k := 12) hx hb hts inX9 hown hK hP k_807 rfl (by decide) rfl 0 rfl (.int 1) rfl dX9_isPlan_8 ?_
  refine t_icmp_ge hx hb dX9_isPlan_11 62 (by decide) (by decide +kernel) ?_
  refine lv_iconst (v := 0) hx hb dX9_isPlan_62 (by decide) ?_
  refine lv_istore (lv' := [(4, .int 0), (3, .int 0), (0, .ref a0), (1, .ref a2), (2, .int 0)]) hx hb dX9_isPlan_63 hl (by decide) rfl (fun ls hl => ?_)
  refine lv_iload hx hb dX9_isPlan_65 (lv_at hl 0 rfl) ?_
  refine lv_aload_n hx hb dX9_isPlan_67 rfl (lv_at hl 2 rfl) ?_
  refine gf (k := 13) hx hb hts inX9 hown hK hP k_808 rfl (by decide) rfl 0 rfl (.int 0) rfl dX9_isPlan_68 ?_
  refine t_icmp_ge hx hb dX9_isPlan_71 108 (by decide) (by decide +kernel) ?_
  refine lv_iload_n hx hb dX9_isPlan_108 rfl (lv_at hl 1 rfl) ?_
  exact r_z hx hb hr hk hK hP hD hS dX9_isPlan_109 rfl
set_option maxRecDepth 100000 in
set_option maxHeartbeats 4000000 in
theorem c468_X9_isPlan (l : Launch) (dC : Nat → ClassId) (dI : Nat → Nat → Nat) (cI cJ cII cJJ : ClassId) (sz g a0 a1 a2 a3 a4 a5 a6 a7 a8 a9 a10 a11 a12 a13 a14 a15 a16 a17 a18 a19 a20 a21 a22 a23 a24 a25 a26 a27 : Nat) : Met l yX9_isPlan (.code yX9_isPlan cX9_isPlan 5 (some .boolean) :: TT) ({ frames := 2, cells := 0, slots := 0, locals := 80 }) (PcS dC dI (TY cI cJ cII cJJ) [.ref a0, .ref a2, .int 0] [(a0, .inr (9, [.ref a3, .ref a4, .ref a1, .ref a5, .ref a6, .ref a7, .ref a8, .ref a9, .ref a10, .ref a11, .ref a12, .ref a13, .int 1, .int 0, .int 1, .ref a14, .ref a15, .ref a16, .ref a17, .ref a18, .ref a19, .int 2, .int 2, .ref a20, .ref a21, .ref a22, .ref a23, .int 0, .int 1, .ref a24, .ref a25, .ref a26, .ref a2, .int 0, .ref a27, .int 0])), (a1, .inl (cI, 4, .inl (tb [0, 0, 0, 0]))), (a2, .inl (cI, 4, .inl (tb [(-6)])))] sz 0 g) ((QcI dC dI (TY cI cJ cII cJJ) 0 [(a0, .inr (9, [.ref a3, .ref a4, .ref a1, .ref a5, .ref a6, .ref a7, .ref a8, .ref a9, .ref a10, .ref a11, .ref a12, .ref a13, .int 1, .int 0, .int 1, .ref a14, .ref a15, .ref a16, .ref a17, .ref a18, .ref a19, .int 2, .int 2, .ref a20, .ref a21, .ref a22, .ref a23, .int 0, .int 1, .ref a24, .ref a25, .ref a26, .ref a2, .int 0, .ref a27, .int 0])), (a1, .inl (cI, 4, .inl (tb [0, 0, 0, 0]))), (a2, .inl (cI, 4, .inl (tb [(-6)])))]) (va_A [(a0, .inr (9, [.ref a3, .ref a4, .ref a1, .ref a5, .ref a6, .ref a7, .ref a8, .ref a9, .ref a10, .ref a11, .ref a12, .ref a13, .int 1, .int 0, .int 1, .ref a14, .ref a15, .ref a16, .ref a17, .ref a18, .ref a19, .int 2, .int 2, .ref a20, .ref a21, .ref a22, .ref a23, .int 0, .int 1, .ref a24, .ref a25, .ref a26, .ref a2, .int 0, .ref a27, .int 0])), (a1, .inl (cI, 4, .inl (tb [0, 0, 0, 0]))), (a2, .inl (cI, 4, .inl (tb [(-6)])))] sz)) 0 0 (va_A [(a0, .inr (9, [.ref a3, .ref a4, .ref a1, .ref a5, .ref a6, .ref a7, .ref a8, .ref a9, .ref a10, .ref a11, .ref a12, .ref a13, .int 1, .int 0, .int 1, .ref a14, .ref a15, .ref a16, .ref a17, .ref a18, .ref a19, .int 2, .int 2, .ref a20, .ref a21, .ref a22, .ref a23, .int 0, .int 1, .ref a24, .ref a25, .ref a26, .ref a2, .int 0, .ref a27, .int 0])), (a1, .inl (cI, 4, .inl (tb [0, 0, 0, 0]))), (a2, .inl (cI, 4, .inl (tb [(-6)])))] sz) := by
  refine SM.of (y := yX9_isPlan) (maxL := 5) (av := [.ref a0, .ref a2, .int 0]) (QcI dC dI (TY cI cJ cII cJJ) 0 [(a0, .inr (9, [.ref a3, .ref a4, .ref a1, .ref a5, .ref a6, .ref a7, .ref a8, .ref a9, .ref a10, .ref a11, .ref a12, .ref a13, .int 1, .int 0, .int 1, .ref a14, .ref a15, .ref a16, .ref a17, .ref a18, .ref a19, .int 2, .int 2, .ref a20, .ref a21, .ref a22, .ref a23, .int 0, .int 1, .ref a24, .ref a25, .ref a26, .ref a2, .int 0, .ref a27, .int 0])), (a1, .inl (cI, 4, .inl (tb [0, 0, 0, 0]))), (a2, .inl (cI, 4, .inl (tb [(-6)])))]) (by decide +kernel) (Nat.le_of_ble_eq_true rfl) (fun p e s m below meth c A ls hx hb hr hml hown hts hk hnm hA hK hP hD hS hX hl => ?_)
  have hown : s.vm.findClass RX9 = some m.cls := hown
  have hl : lv_has ls 5 [(0, .ref a0), (1, .ref a2), (2, .int 0)] := hl
  refine lv_iconst (v := 1) hx hb dX9_isPlan_0 (by decide) ?_
  refine lv_istore_n (lv' := [(3, .int 1), (0, .ref a0), (1, .ref a2), (2, .int 0)]) hx hb dX9_isPlan_1 rfl hl (by decide) rfl (fun ls hl => ?_)
  refine lv_iconst (v := 0) hx hb dX9_isPlan_2 (by decide) ?_
  refine lv_istore (lv' := [(4, .int 0), (3, .int 1), (0, .ref a0), (1, .ref a2), (2, .int 0)]) hx hb dX9_isPlan_3 hl (by decide) rfl (fun ls hl => ?_)
  refine lv_iload hx hb dX9_isPlan_5 (lv_at hl 0 rfl) ?_
  refine lv_aload_n hx hb dX9_isPlan_7 rfl (lv_at hl 2 rfl) ?_
  refine gf (k := 12) hx hb hts inX9 hown hK hP k_807 rfl (by decide) rfl 0 rfl (.int 1) rfl dX9_isPlan_8 ?_
  refine f_icmp_ge hx hb dX9_isPlan_11 62 (by decide) (by decide +kernel) ?_
  refine lv_iload_n hx hb dX9_isPlan_14 rfl (lv_at hl 1 rfl) ?_
  refine f_if_eq hx hb dX9_isPlan_15 62 (by decide) (by decide +kernel) ?_
  refine lv_aload_n hx hb dX9_isPlan_18 rfl (lv_at hl 2 rfl) ?_
  refine gf (k := 2) hx hb hts inX9 hown hK hP k_797 rfl (by decide) rfl 0 rfl (.ref a1) rfl dX9_isPlan_19 ?_
  refine lv_iload hx hb dX9_isPlan_22 (lv_at hl 0 rfl) ?_
  refine ld_i hx hb hK hP 1 rfl (vin (by decide +kernel)) dX9_isPlan_24 0 rfl ?_
  refine lv_aload_n hx hb dX9_isPlan_25 rfl (lv_at hl 3 rfl) ?_
  refine lv_iload_n hx hb dX9_isPlan_26 rfl (lv_at hl 4 rfl) ?_
  refine lv_iload hx hb dX9_isPlan_27 (lv_at hl 0 rfl) ?_
  refine v_iadd hx hb dX9_isPlan_29 0 (by decide +kernel) ?_
  refine ld_i hx hb hK hP 2 rfl (vin (by decide +kernel)) dX9_isPlan_30 (-6) rfl ?_
  refine t_icmp_gt hx hb dX9_isPlan_31 54 (by decide) (by decide +kernel) ?_
  refine lv_iconst (v := 0) hx hb dX9_isPlan_54 (by decide) ?_
  refine lv_istore_n (lv' := [(3, .int 0), (4, .int 0), (0, .ref a0), (1, .ref a2), (2, .int 0)]) hx hb dX9_isPlan_55 rfl hl (by decide) rfl (fun ls hl => ?_)
  refine lv_iinc (v := 1) (lv' := [(4, .int 1), (3, .int 0), (0, .ref a0), (1, .ref a2), (2, .int 0)]) hx hb dX9_isPlan_56 hl (k := 1) rfl (by decide +kernel) (by decide) rfl (fun ls hl => ?_)
  refine lv_goto (tgt := 5) hx hb dX9_isPlan_59 (by decide) ?_
  refine lv_iload hx hb dX9_isPlan_5 (lv_at hl 0 rfl) ?_
  refine lv_aload_n hx hb dX9_isPlan_7 rfl (lv_at hl 2 rfl) ?_
  refine gf (k := 12) hx hb hts inX9 hown hK hP k_807 rfl (by decide) rfl 0 rfl (.int 1) rfl dX9_isPlan_8 ?_
  refine t_icmp_ge hx hb dX9_isPlan_11 62 (by decide) (by decide +kernel) ?_
  refine lv_iconst (v := 0) hx hb dX9_isPlan_62 (by decide) ?_
  refine lv_istore (lv' := [(4, .int 0), (3, .int 0), (0, .ref a0), (1, .ref a2), (2, .int 0)]) hx hb dX9_isPlan_63 hl (by decide) rfl (fun ls hl => ?_)
  refine lv_iload hx hb dX9_isPlan_65 (lv_at hl 0 rfl) ?_
  refine lv_aload_n hx hb dX9_isPlan_67 rfl (lv_at hl 2 rfl) ?_
  refine gf (k := 13) hx hb hts inX9 hown hK hP k_808 rfl (by decide) rfl 0 rfl (.int 0) rfl dX9_isPlan_68 ?_
  refine t_icmp_ge hx hb dX9_isPlan_71 108 (by decide) (by decide +kernel) ?_
  refine lv_iload_n hx hb dX9_isPlan_108 rfl (lv_at hl 1 rfl) ?_
  exact r_z hx hb hr hk hK hP hD hS dX9_isPlan_109 rfl
