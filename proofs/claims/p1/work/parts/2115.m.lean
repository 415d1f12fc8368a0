set_option maxRecDepth 100000 in
set_option maxHeartbeats 4000000 in
theorem c596_X9_isBefore (l : Launch) (dC : Nat → ClassId) (dI : Nat → Nat → Nat) (cI cJ cII cJJ : ClassId) (sz g a0 a1 a2 a3 a4 a5 a6 a7 a8 a9 a10 a11 a12 a13 a14 a15 a16 a17 a18 a19 a20 a21 a22 a23 a24 a25 a26 a27 : Nat) : Met l yX9_isBefore (.code yX9_isBefore cX9_isBefore 4 (some .boolean) :: TT) ({ frames := 2, cells := 0, slots := 0, locals := 80 }) (PcS dC dI (TY cI cJ cII cJJ) [.ref a0, .int 1, .int 0] [(a0, .inr (9, [.ref a2, .ref a3, .ref a4, .ref a5, .ref a6, .ref a7, .ref a8, .ref a9, .ref a10, .ref a11, .ref a12, .ref a13, .int 1, .int 0, .int 1, .ref a14, .ref a15, .ref a16, .ref a17, .ref a1, .ref a18, .int 2, .int 2, .ref a19, .ref a20, .ref a21, .ref a22, .int 0, .int 1, .ref a23, .ref a24, .ref a25, .ref a26, .int 1, .ref a27, .int 11])), (a1, .inl (cI, 24000, .inl (tb [(-1), 0, 0, 0, 1, 0, 0, 0])))] sz 0 g) ((QcI dC dI (TY cI cJ cII cJJ) 0 [(a0, .inr (9, [.ref a2, .ref a3, .ref a4, .ref a5, .ref a6, .ref a7, .ref a8, .ref a9, .ref a10, .ref a11, .ref a12, .ref a13, .int 1, .int 0, .int 1, .ref a14, .ref a15, .ref a16, .ref a17, .ref a1, .ref a18, .int 2, .int 2, .ref a19, .ref a20, .ref a21, .ref a22, .int 0, .int 1, .ref a23, .ref a24, .ref a25, .ref a26, .int 1, .ref a27, .int 11])), (a1, .inl (cI, 24000, .inl (tb [(-1), 0, 0, 0, 1, 0, 0, 0])))]) (va_A [(a0, .inr (9, [.ref a2, .ref a3, .ref a4, .ref a5, .ref a6, .ref a7, .ref a8, .ref a9, .ref a10, .ref a11, .ref a12, .ref a13, .int 1, .int 0, .int 1, .ref a14, .ref a15, .ref a16, .ref a17, .ref a1, .ref a18, .int 2, .int 2, .ref a19, .ref a20, .ref a21, .ref a22, .int 0, .int 1, .ref a23, .ref a24, .ref a25, .ref a26, .int 1, .ref a27, .int 11])), (a1, .inl (cI, 24000, .inl (tb [(-1), 0, 0, 0, 1, 0, 0, 0])))] sz)) 0 0 (va_A [(a0, .inr (9, [.ref a2, .ref a3, .ref a4, .ref a5, .ref a6, .ref a7, .ref a8, .ref a9, .ref a10, .ref a11, .ref a12, .ref a13, .int 1, .int 0, .int 1, .ref a14, .ref a15, .ref a16, .ref a17, .ref a1, .ref a18, .int 2, .int 2, .ref a19, .ref a20, .ref a21, .ref a22, .int 0, .int 1, .ref a23, .ref a24, .ref a25, .ref a26, .int 1, .ref a27, .int 11])), (a1, .inl (cI, 24000, .inl (tb [(-1), 0, 0, 0, 1, 0, 0, 0])))] sz) := by
  refine SM.of (y := yX9_isBefore) (maxL := 4) (av := [.ref a0, .int 1, .int 0]) (QcI dC dI (TY cI cJ cII cJJ) 0 [(a0, .inr (9, [.ref a2, .ref a3, .ref a4, .ref a5, .ref a6, .ref a7, .ref a8, .ref a9, .ref a10, .ref a11, .ref a12, .ref a13, .int 1, .int 0, .int 1, .ref a14, .ref a15, .ref a16, .ref a17, .ref a1, .ref a18, .int 2, .int 2, .ref a19, .ref a20, .ref a21, .ref a22, .int 0, .int 1, .ref a23, .ref a24, .ref a25, .ref a26, .int 1, .ref a27, .int 11])), (a1, .inl (cI, 24000, .inl (tb [(-1), 0, 0, 0, 1, 0, 0, 0])))]) (by decide +kernel) (Nat.le_of_ble_eq_true rfl) (fun p e s m below meth c A ls hx hb hr hml hown hts hk hnm hA hK hP hD hS hX hl => ?_)
  have hown : s.vm.findClass RX9 = some m.cls := hown
  have hl : lv_has ls 4 [(0, .ref a0), (1, .int 1), (2, .int 0)] := hl
  refine lv_iconst (v := 0) hx hb dX9_isBefore_0 (by decide) ?_
  refine lv_istore_n (lv' := [(3, .int 0), (0, .ref a0), (1, .int 1), (2, .int 0)]) hx hb dX9_isBefore_1 rfl hl (by decide) rfl (fun ls hl => ?_)
  refine lv_iload_n hx hb dX9_isBefore_2 rfl (lv_at hl 0 rfl) ?_
  refine lv_iconst (v := 4) hx hb dX9_isBefore_3 (by decide) ?_
  refine f_icmp_ge hx hb dX9_isBefore_4 65 (by decide) (by decide +kernel) ?_
  refine lv_aload_n hx hb dX9_isBefore_7 rfl (lv_at hl 1 rfl) ?_
  refine gf (k := 19) hx hb hts inX9 hown hK hP k_814 rfl (by decide) rfl 0 rfl (.ref a1) rfl dX9_isBefore_8 ?_
  refine lv_iconst (v := 4) hx hb dX9_isBefore_11 (by decide) ?_
  refine lv_iload_n hx hb dX9_isBefore_12 rfl (lv_at hl 2 rfl) ?_
  refine v_imul hx hb dX9_isBefore_13 4 (by decide +kernel) ?_
  refine lv_iload_n hx hb dX9_isBefore_14 rfl (lv_at hl 0 rfl) ?_
  refine v_iadd hx hb dX9_isBefore_15 4 (by decide +kernel) ?_
  refine ld_i hx hb hK hP 1 rfl (vin (by decide +kernel)) dX9_isBefore_16 1 rfl ?_
  refine lv_aload_n hx hb dX9_isBefore_17 rfl (lv_at hl 1 rfl) ?_
  refine gf (k := 19) hx hb hts inX9 hown hK hP k_814 rfl (by decide) rfl 0 rfl (.ref a1) rfl dX9_isBefore_18 ?_
  refine lv_iconst (v := 4) hx hb dX9_isBefore_21 (by decide) ?_
  refine lv_iload_n hx hb dX9_isBefore_22 rfl (lv_at hl 3 rfl) ?_
  refine v_imul hx hb dX9_isBefore_23 0 (by decide +kernel) ?_
  refine lv_iload_n hx hb dX9_isBefore_24 rfl (lv_at hl 0 rfl) ?_
  refine v_iadd hx hb dX9_isBefore_25 0 (by decide +kernel) ?_
  refine ld_i hx hb hK hP 1 rfl (vin (by decide +kernel)) dX9_isBefore_26 (-1) rfl ?_
  refine f_icmp_eq hx hb dX9_isBefore_27 59 (by decide) (by decide +kernel) ?_
  refine lv_aload_n hx hb dX9_isBefore_30 rfl (lv_at hl 1 rfl) ?_
  refine gf (k := 19) hx hb hts inX9 hown hK hP k_814 rfl (by decide) rfl 0 rfl (.ref a1) rfl dX9_isBefore_31 ?_
  refine lv_iconst (v := 4) hx hb dX9_isBefore_34 (by decide) ?_
  refine lv_iload_n hx hb dX9_isBefore_35 rfl (lv_at hl 2 rfl) ?_
  refine v_imul hx hb dX9_isBefore_36 4 (by decide +kernel) ?_
  refine lv_iload_n hx hb dX9_isBefore_37 rfl (lv_at hl 0 rfl) ?_
  refine v_iadd hx hb dX9_isBefore_38 4 (by decide +kernel) ?_
  refine ld_i hx hb hK hP 1 rfl (vin (by decide +kernel)) dX9_isBefore_39 1 rfl ?_
  refine lv_aload_n hx hb dX9_isBefore_40 rfl (lv_at hl 1 rfl) ?_
  refine gf (k := 19) hx hb hts inX9 hown hK hP k_814 rfl (by decide) rfl 0 rfl (.ref a1) rfl dX9_isBefore_41 ?_
  refine lv_iconst (v := 4) hx hb dX9_isBefore_44 (by decide) ?_
  refine lv_iload_n hx hb dX9_isBefore_45 rfl (lv_at hl 3 rfl) ?_
  refine v_imul hx hb dX9_isBefore_46 0 (by decide +kernel) ?_
  refine lv_iload_n hx hb dX9_isBefore_47 rfl (lv_at hl 0 rfl) ?_
  refine v_iadd hx hb dX9_isBefore_48 0 (by decide +kernel) ?_
  refine ld_i hx hb hK hP 1 rfl (vin (by decide +kernel)) dX9_isBefore_49 (-1) rfl ?_
  refine t_icmp_ge hx hb dX9_isBefore_50 57 (by decide) (by decide +kernel) ?_
  refine lv_iconst (v := 0) hx hb dX9_isBefore_57 (by decide) ?_
  exact r_z hx hb hr hk hK hP hD hS dX9_isBefore_58 rfl
set_option maxRecDepth 100000 in
set_option maxHeartbeats 4000000 in
theorem c595_X9_sorts (l : Launch) (dC : Nat → ClassId) (dI : Nat → Nat → Nat) (cI cJ cII cJJ : ClassId) (sz g a0 a1 a2 a3 a4 a5 a6 a7 a8 a9 a10 a11 a12 a13 a14 a15 a16 a17 a18 a19 a20 a21 a22 a23 a24 a25 a26 a27 : Nat) : Met l yX9_sorts (.code yX9_sorts cX9_sorts 3 none :: TT) ({ frames := 3, cells := 0, slots := 0, locals := 140 }) (PcS dC dI (TY cI cJ cII cJJ) [.ref a0] [(a0, .inr (9, [.ref a3, .ref a4, .ref a5, .ref a6, .ref a7, .ref a8, .ref a9, .ref a10, .ref a11, .ref a12, .ref a13, .ref a14, .int 1, .int 0, .int 1, .ref a15, .ref a16, .ref a17, .ref a18, .ref a2, .ref a1, .int 2, .int 2, .ref a19, .ref a20, .ref a21, .ref a22, .int 0, .int 1, .ref a23, .ref a24, .ref a25, .ref a26, .int 1, .ref a27, .int 11])), (a1, .inl (cI, 6000, .inl (tb []))), (a2, .inl (cI, 24000, .inl (tb [(-1), 0, 0, 0, 1, 0, 0, 0])))] sz 0 g) ((QcV dC dI (TY cI cJ cII cJJ) (fun _ => [(a1, .inl (cI, 6000, .inl (tb [0, 1]))), (a0, .inr (9, [.ref a3, .ref a4, .ref a5, .ref a6, .ref a7, .ref a8, .ref a9, .ref a10, .ref a11, .ref a12, .ref a13, .ref a14, .int 1, .int 0, .int 1, .ref a15, .ref a16, .ref a17, .ref a18, .ref a2, .ref a1, .int 2, .int 2, .ref a19, .ref a20, .ref a21, .ref a22, .int 0, .int 1, .ref a23, .ref a24, .ref a25, .ref a26, .int 1, .ref a27, .int 11])), (a2, .inl (cI, 24000, .inl (tb [(-1), 0, 0, 0, 1, 0, 0, 0])))])) (va_A [(a0, .inr (9, [.ref a3, .ref a4, .ref a5, .ref a6, .ref a7, .ref a8, .ref a9, .ref a10, .ref a11, .ref a12, .ref a13, .ref a14, .int 1, .int 0, .int 1, .ref a15, .ref a16, .ref a17, .ref a18, .ref a2, .ref a1, .int 2, .int 2, .ref a19, .ref a20, .ref a21, .ref a22, .int 0, .int 1, .ref a23, .ref a24, .ref a25, .ref a26, .int 1, .ref a27, .int 11])), (a1, .inl (cI, 6000, .inl (tb []))), (a2, .inl (cI, 24000, .inl (tb [(-1), 0, 0, 0, 1, 0, 0, 0])))] sz)) 0 0 (va_A [(a0, .inr (9, [.ref a3, .ref a4, .ref a5, .ref a6, .ref a7, .ref a8, .ref a9, .ref a10, .ref a11, .ref a12, .ref a13, .ref a14, .int 1, .int 0, .int 1, .ref a15, .ref a16, .ref a17, .ref a18, .ref a2, .ref a1, .int 2, .int 2, .ref a19, .ref a20, .ref a21, .ref a22, .int 0, .int 1, .ref a23, .ref a24, .ref a25, .ref a26, .int 1, .ref a27, .int 11])), (a1, .inl (cI, 6000, .inl (tb []))), (a2, .inl (cI, 24000, .inl (tb [(-1), 0, 0, 0, 1, 0, 0, 0])))] sz) := by
  refine SM.of (y := yX9_sorts) (maxL := 3) (av := [.ref a0]) (QcV dC dI (TY cI cJ cII cJJ) (fun _ => [(a1, .inl (cI, 6000, .inl (tb [0, 1]))), (a0, .inr (9, [.ref a3, .ref a4, .ref a5, .ref a6, .ref a7, .ref a8, .ref a9, .ref a10, .ref a11, .ref a12, .ref a13, .ref a14, .int 1, .int 0, .int 1, .ref a15, .ref a16, .ref a17, .ref a18, .ref a2, .ref a1, .int 2, .int 2, .ref a19, .ref a20, .ref a21, .ref a22, .int 0, .int 1, .ref a23, .ref a24, .ref a25, .ref a26, .int 1, .ref a27, .int 11])), (a2, .inl (cI, 24000, .inl (tb [(-1), 0, 0, 0, 1, 0, 0, 0])))])) (by decide +kernel) (Nat.le_of_ble_eq_true rfl) (fun p e s m below meth c A ls hx hb hr hml hown hts hk hnm hA hK hP hD hS hX hl => ?_)
  have hown : s.vm.findClass RX9 = some m.cls := hown
  have hl : lv_has ls 3 [(0, .ref a0)] := hl
  refine lv_iconst (v := 0) hx hb dX9_sorts_0 (by decide) ?_
  refine lv_istore_n (lv' := [(1, .int 0), (0, .ref a0)]) hx hb dX9_sorts_1 rfl hl (by decide) rfl (fun ls hl => ?_)
  refine lv_iload_n hx hb dX9_sorts_2 rfl (lv_at hl 0 rfl) ?_
  refine lv_aload_n hx hb dX9_sorts_3 rfl (lv_at hl 1 rfl) ?_
  refine gf (k := 22) hx hb hts inX9 hown hK hP k_817 rfl (by decide) rfl 0 rfl (.int 2) rfl dX9_sorts_4 ?_
  refine f_icmp_ge hx hb dX9_sorts_7 65 (by decide) (by decide +kernel) ?_
  refine lv_iload_n hx hb dX9_sorts_10 rfl (lv_at hl 0 rfl) ?_
  refine lv_istore_n (lv' := [(2, .int 0), (1, .int 0), (0, .ref a0)]) hx hb dX9_sorts_11 rfl hl (by decide) rfl (fun ls hl => ?_)
  refine lv_iload_n hx hb dX9_sorts_12 rfl (lv_at hl 0 rfl) ?_
  refine t_if_le hx hb dX9_sorts_13 52 (by decide) (by decide +kernel) ?_
  refine lv_aload_n hx hb dX9_sorts_52 rfl (lv_at hl 2 rfl) ?_
  refine gf (k := 20) hx hb hts inX9 hown hK hP k_815 rfl (by decide) rfl 0 rfl (.ref a1) rfl dX9_sorts_53 ?_
  refine lv_iload_n hx hb dX9_sorts_56 rfl (lv_at hl 0 rfl) ?_
  refine lv_iload_n hx hb dX9_sorts_57 rfl (lv_at hl 1 rfl) ?_
  refine st_i hx hb hK hP hD hS 1 rfl (vin (by decide +kernel)) dX9_sorts_58 (L' := [0]) rfl (W' := [(a0, .inr (9, [.ref a3, .ref a4, .ref a5, .ref a6, .ref a7, .ref a8, .ref a9, .ref a10, .ref a11, .ref a12, .ref a13, .ref a14, .int 1, .int 0, .int 1, .ref a15, .ref a16, .ref a17, .ref a18, .ref a2, .ref a1, .int 2, .int 2, .ref a19, .ref a20, .ref a21, .ref a22, .int 0, .int 1, .ref a23, .ref a24, .ref a25, .ref a26, .int 1, .ref a27, .int 11])), (a1, .inl (cI, 6000, .inl (tb [0]))), (a2, .inl (cI, 24000, .inl (tb [(-1), 0, 0, 0, 1, 0, 0, 0])))]) rfl (fun H locs hP hD hS => ?_)
  refine lv_iinc (v := 1) (lv' := [(1, .int 1), (2, .int 0), (0, .ref a0)]) hx hb dX9_sorts_59 hl (k := 1) rfl (by decide +kernel) (by decide) rfl (fun ls hl => ?_)
  refine lv_goto (tgt := 2) hx hb dX9_sorts_62 (by decide) ?_
  refine lv_iload_n hx hb dX9_sorts_2 rfl (lv_at hl 0 rfl) ?_
  refine lv_aload_n hx hb dX9_sorts_3 rfl (lv_at hl 2 rfl) ?_
  refine gf (k := 22) hx hb hts inX9 hown hK hP k_817 rfl (by decide) rfl 0 rfl (.int 2) rfl dX9_sorts_4 ?_
  refine f_icmp_ge hx hb dX9_sorts_7 65 (by decide) (by decide +kernel) ?_
  refine lv_iload_n hx hb dX9_sorts_10 rfl (lv_at hl 0 rfl) ?_
  refine lv_istore_n (lv' := [(2, .int 1), (1, .int 1), (0, .ref a0)]) hx hb dX9_sorts_11 rfl hl (by decide) rfl (fun ls hl => ?_)
  refine lv_iload_n hx hb dX9_sorts_12 rfl (lv_at hl 0 rfl) ?_
  refine f_if_le hx hb dX9_sorts_13 52 (by decide) (by decide +kernel) ?_
  refine lv_aload_n hx hb dX9_sorts_16 rfl (lv_at hl 2 rfl) ?_
  refine lv_iload_n hx hb dX9_sorts_17 rfl (lv_at hl 1 rfl) ?_
  refine lv_aload_n hx hb dX9_sorts_18 rfl (lv_at hl 2 rfl) ?_
  refine gf (k := 20) hx hb hts inX9 hown hK hP k_815 rfl (by decide) rfl 0 rfl (.ref a1) rfl dX9_sorts_19 ?_
  refine lv_iload_n hx hb dX9_sorts_22 rfl (lv_at hl 0 rfl) ?_
  refine lv_iconst (v := 1) hx hb dX9_sorts_23 (by decide) ?_
  refine v_isub hx hb dX9_sorts_24 0 (by decide +kernel) ?_
  refine ld_i hx hb hK hP 1 rfl (vin (by decide +kernel)) dX9_sorts_25 0 rfl ?_
  refine kV_i (q0 := 0) ⟨hx, hb, hml, hown, hts⟩ hK hP hD hS hA hX cv_RX9_177 [0, 2] [1] (wr := [(a1, .inl (cI, 6000, .inl (tb [0])))]) rfl rfl rfl rfl (by decide) (c596_X9_isBefore l dC dI cI cJ cII cJJ H.size 0 a0 a2 a3 a4 a5 a6 a7 a8 a9 a10 a11 a12 a13 a14 a15 a16 a17 a18 a1 a19 a20 a21 a22 a23 a24 a25 a26 a27) ⟨by decide +kernel, by decide +kernel⟩ rfl rfl (Or.inl rfl) (rest := []) rfl rfl rfl hl.1 rfl (Nat.le_of_ble_eq_true rfl) dX9_sorts_26 ⟨Nat.le_of_ble_eq_true rfl, Nat.le_of_ble_eq_true rfl⟩ (W' := [(a1, .inl (cI, 6000, .inl (tb [0]))), (a0, .inr (9, [.ref a3, .ref a4, .ref a5, .ref a6, .ref a7, .ref a8, .ref a9, .ref a10, .ref a11, .ref a12, .ref a13, .ref a14, .int 1, .int 0, .int 1, .ref a15, .ref a16, .ref a17, .ref a18, .ref a2, .ref a1, .int 2, .int 2, .ref a19, .ref a20, .ref a21, .ref a22, .int 0, .int 1, .ref a23, .ref a24, .ref a25, .ref a26, .int 1, .ref a27, .int 11])), (a2, .inl (cI, 24000, .inl (tb [(-1), 0, 0, 0, 1, 0, 0, 0])))]) rfl (fun H locs hP hD hS => ?_)
  refine t_if_eq hx hb dX9_sorts_29 52 (by decide) (by decide +kernel) ?_
  refine lv_aload_n hx hb dX9_sorts_52 rfl (lv_at hl 2 rfl) ?_
  refine gf (k := 20) hx hb hts inX9 hown hK hP k_815 rfl (by decide) rfl 1 rfl (.ref a1) rfl dX9_sorts_53 ?_
  refine lv_iload_n hx hb dX9_sorts_56 rfl (lv_at hl 0 rfl) ?_
  refine lv_iload_n hx hb dX9_sorts_57 rfl (lv_at hl 1 rfl) ?_
  refine st_i hx hb hK hP hD hS 0 rfl (vin (by decide +kernel)) dX9_sorts_58 (L' := [0, 1]) rfl (W' := [(a1, .inl (cI, 6000, .inl (tb [0, 1]))), (a0, .inr (9, [.ref a3, .ref a4, .ref a5, .ref a6, .ref a7, .ref a8, .ref a9, .ref a10, .ref a11, .ref a12, .ref a13, .ref a14, .int 1, .int 0, .int 1, .ref a15, .ref a16, .ref a17, .ref a18, .ref a2, .ref a1, .int 2, .int 2, .ref a19, .ref a20, .ref a21, .ref a22, .int 0, .int 1, .ref a23, .ref a24, .ref a25, .ref a26, .int 1, .ref a27, .int 11])), (a2, .inl (cI, 24000, .inl (tb [(-1), 0, 0, 0, 1, 0, 0, 0])))]) rfl (fun H locs hP hD hS => ?_)
  refine lv_iinc (v := 2) (lv' := [(1, .int 2), (2, .int 1), (0, .ref a0)]) hx hb dX9_sorts_59 hl (k := 1) rfl (by decide +kernel) (by decide) rfl (fun ls hl => ?_)
  refine lv_goto (tgt := 2) hx hb dX9_sorts_62 (by decide) ?_
  refine lv_iload_n hx hb dX9_sorts_2 rfl (lv_at hl 0 rfl) ?_
  refine lv_aload_n hx hb dX9_sorts_3 rfl (lv_at hl 2 rfl) ?_
  refine gf (k := 22) hx hb hts inX9 hown hK hP k_817 rfl (by decide) rfl 1 rfl (.int 2) rfl dX9_sorts_4 ?_
  refine t_icmp_ge hx hb dX9_sorts_7 65 (by decide) (by decide +kernel) ?_
  exact r_v (fun _ => 0) hx hb hr hk hK hP hD hS dX9_sorts_65
set_option maxRecDepth 100000 in
set_option maxHeartbeats 4000000 in
theorem c581_X9_findSteps_s1 (l : Launch) (dC : Nat → ClassId) (dI : Nat → Nat → Nat) (cI cJ cII cJJ : ClassId) (g a0 a1 a2 a3 a4 a5 a6 a7 a8 a9 a10 a11 a12 a13 a14 a15 a16 a17 a18 a19 a20 a21 a22 a23 a24 a25 a26 a27 : Nat) {p : Program} {e : Env} {s : State} {m : MethodId} {below : List Frame} {meth : Method} {c : Code} {A : Nat → Prop} {ls : Array Slot} {H : Heap} {locs : List Loc} (hx : p.tables.exec = Jvm.exec) (hb : c.code = cX9_findSteps) (hr : meth.sig.returnType = none) (hml : c.maxLocals = 3) (hown : s.vm.findClass RX9 = some m.cls) (hts : ∀ w ∈ TT, w.before ([.ref a0] : List Value).toArray s = true) (hk : meth.locks = false) (hA : ∀ q, s.heap.size ≤ q → A q) (hK : va_K (dC, dI) vwCl (TY cI cJ cII cJJ) s) (hP : va_P (dC, dI) vwCl [(a7, .inl (cI, 6001, .inl (tb (0 :: List.replicate 6000 2)))), (a8, .inl (cI, 100000, .inl (tb []))), (a9, .inl (cI, 24000, .inl (tb []))), (a10, .inl (cI, 6000, .inl (tb []))), (a3, .inl (cI, 4, .inl (tb [0]))), (a5, .inl (cI, 400000, .inl (tb [(-1), 0, 0, 0, 1, 0, 0, 0]))), (a6, .inl (cI, 100000, .inl (tb [1, 1]))), (a1, .inl (cI, 3, .inl (tb [0, 0, 0]))), (a2, .inl (cI, 3, .inl (tb [0, 0, 0]))), (a4, .inl (cI, 4, .inl (tb [1]))), (a0, .inr (9, [.ref a11, .ref a12, .ref a13, .ref a14, .ref a15, .ref a16, .ref a17, .ref a18, .ref a19, .ref a20, .ref a21, .ref a22, .int 1, .int 0, .int 1, .ref a5, .ref a6, .ref a7, .ref a8, .ref a9, .ref a10, .int 2, .int 0, .ref a2, .ref a1, .ref a3, .ref a4, .int 0, .int 1, .ref a23, .ref a24, .ref a25, .ref a26, .int 1, .ref a27, .int 11]))] H) (hD : va_D A [(a7, .inl (cI, 6001, .inl (tb (0 :: List.replicate 6000 2)))), (a8, .inl (cI, 100000, .inl (tb []))), (a9, .inl (cI, 24000, .inl (tb []))), (a10, .inl (cI, 6000, .inl (tb []))), (a3, .inl (cI, 4, .inl (tb [0]))), (a5, .inl (cI, 400000, .inl (tb [(-1), 0, 0, 0, 1, 0, 0, 0]))), (a6, .inl (cI, 100000, .inl (tb [1, 1]))), (a1, .inl (cI, 3, .inl (tb [0, 0, 0]))), (a2, .inl (cI, 3, .inl (tb [0, 0, 0]))), (a4, .inl (cI, 4, .inl (tb [1]))), (a0, .inr (9, [.ref a11, .ref a12, .ref a13, .ref a14, .ref a15, .ref a16, .ref a17, .ref a18, .ref a19, .ref a20, .ref a21, .ref a22, .int 1, .int 0, .int 1, .ref a5, .ref a6, .ref a7, .ref a8, .ref a9, .ref a10, .int 2, .int 0, .ref a2, .ref a1, .ref a3, .ref a4, .int 0, .int 1, .ref a23, .ref a24, .ref a25, .ref a26, .int 1, .ref a27, .int 11]))]) (hS : va_S A s.heap H locs) (hX : GXA 0 g A s) (hl : lv_has ls 3 [(2, .int 6001), (1, .int 1), (0, .ref a0)]) : W p l e ({ frames := 6, cells := 0, slots := 0, locals := 320 } : Room) s m ([.ref a0] : List Value).toArray below meth c H locs 0 0 (MQ below ((QcV dC dI (TY cI cJ cII cJJ) (fun _ => [(a7, .inl (cI, 6001, .inl (tb (0 :: 0 :: List.replicate 5999 2)))), (a8, .inl (cI, 100000, .inl (tb [0, 1]))), (a3, .inl (cI, 4, .inl (tb [0]))), (a6, .inl (cI, 100000, .inl (tb [1, 1]))), (a1, .inl (cI, 3, .inl (tb [0, 0, 0]))), (a2, .inl (cI, 3, .inl (tb [0, 0, 0]))), (a4, .inl (cI, 4, .inl (tb [1]))), (a5, .inl (cI, 400000, .inl (tb [(-1), 0, 0, 0, 1, 0, 0, 0]))), (a10, .inl (cI, 6000, .inl (tb [0, 1]))), (a0, .inr (9, [.ref a11, .ref a12, .ref a13, .ref a14, .ref a15, .ref a16, .ref a17, .ref a18, .ref a19, .ref a20, .ref a21, .ref a22, .int 1, .int 0, .int 1, .ref a5, .ref a6, .ref a7, .ref a8, .ref a9, .ref a10, .int 2, .int 2, .ref a2, .ref a1, .ref a3, .ref a4, .int 0, .int 1, .ref a23, .ref a24, .ref a25, .ref a26, .int 1, .ref a27, .int 11])), (a9, .inl (cI, 24000, .inl (tb [(-1), 0, 0, 0, 1, 0, 0, 0])))])) A) ([.ref a0] : List Value).toArray s 0 0 A) (F0 m 223 ls [.int 1, .int 2]) := by
  refine v_isub hx hb dX9_findSteps_223 1 (by decide +kernel) ?_
  refine lv_istore_n (lv' := [(2, .int 1), (1, .int 1), (0, .ref a0)]) hx hb dX9_findSteps_224 rfl hl (by decide) rfl (fun ls hl => ?_)
  refine lv_iload_n hx hb dX9_findSteps_225 rfl (lv_at hl 0 rfl) ?_
  refine f_if_lt hx hb dX9_findSteps_226 267 (by decide) (by decide +kernel) ?_
  refine lv_aload_n hx hb dX9_findSteps_229 rfl (lv_at hl 2 rfl) ?_
  refine gf (k := 17) hx hb hts inX9 hown hK hP k_812 rfl (by decide) rfl 10 rfl (.ref a7) rfl dX9_findSteps_230 ?_
  refine lv_aload_n hx hb dX9_findSteps_233 rfl (lv_at hl 2 rfl) ?_
  refine gf (k := 16) hx hb hts inX9 hown hK hP k_811 rfl (by decide) rfl 10 rfl (.ref a6) rfl dX9_findSteps_234 ?_
  refine lv_iload_n hx hb dX9_findSteps_237 rfl (lv_at hl 0 rfl) ?_
  refine ld_i hx hb hK hP 6 rfl (vin (by decide +kernel)) dX9_findSteps_238 1 rfl ?_
  refine lv_dup2_11 hx hb dX9_findSteps_239 rfl rfl ?_
  refine ld_i hx hb hK hP 0 rfl (vin (by decide +kernel)) dX9_findSteps_240 2 rfl ?_
  refine lv_iconst (v := 1) hx hb dX9_findSteps_241 (by decide) ?_
  refine v_isub hx hb dX9_findSteps_242 1 (by decide +kernel) ?_
  refine st_i hx hb hK hP hD hS 0 rfl (vin (by decide +kernel)) dX9_findSteps_243 (L' := (0 :: 1 :: List.replicate 5999 2)) rfl (W' := [(a7, .inl (cI, 6001, .inl (tb (0 :: 1 :: List.replicate 5999 2)))), (a8, .inl (cI, 100000, .inl (tb []))), (a9, .inl (cI, 24000, .inl (tb []))), (a10, .inl (cI, 6000, .inl (tb []))), (a3, .inl (cI, 4, .inl (tb [0]))), (a5, .inl (cI, 400000, .inl (tb [(-1), 0, 0, 0, 1, 0, 0, 0]))), (a6, .inl (cI, 100000, .inl (tb [1, 1]))), (a1, .inl (cI, 3, .inl (tb [0, 0, 0]))), (a2, .inl (cI, 3, .inl (tb [0, 0, 0]))), (a4, .inl (cI, 4, .inl (tb [1]))), (a0, .inr (9, [.ref a11, .ref a12, .ref a13, .ref a14, .ref a15, .ref a16, .ref a17, .ref a18, .ref a19, .ref a20, .ref a21, .ref a22, .int 1, .int 0, .int 1, .ref a5, .ref a6, .ref a7, .ref a8, .ref a9, .ref a10, .int 2, .int 0, .ref a2, .ref a1, .ref a3, .ref a4, .int 0, .int 1, .ref a23, .ref a24, .ref a25, .ref a26, .int 1, .ref a27, .int 11]))]) rfl (fun H locs hP hD hS => ?_)
  refine lv_aload_n hx hb dX9_findSteps_244 rfl (lv_at hl 2 rfl) ?_
  refine gf (k := 18) hx hb hts inX9 hown hK hP k_813 rfl (by decide) rfl 10 rfl (.ref a8) rfl dX9_findSteps_245 ?_
  refine lv_aload_n hx hb dX9_findSteps_248 rfl (lv_at hl 2 rfl) ?_
  refine gf (k := 17) hx hb hts inX9 hown hK hP k_812 rfl (by decide) rfl 10 rfl (.ref a7) rfl dX9_findSteps_249 ?_
  refine lv_aload_n hx hb dX9_findSteps_252 rfl (lv_at hl 2 rfl) ?_
  refine gf (k := 16) hx hb hts inX9 hown hK hP k_811 rfl (by decide) rfl 10 rfl (.ref a6) rfl dX9_findSteps_253 ?_
  refine lv_iload_n hx hb dX9_findSteps_256 rfl (lv_at hl 0 rfl) ?_
  refine ld_i hx hb hK hP 6 rfl (vin (by decide +kernel)) dX9_findSteps_257 1 rfl ?_
  refine ld_i hx hb hK hP 0 rfl (vin (by decide +kernel)) dX9_findSteps_258 1 rfl ?_
  refine lv_iload_n hx hb dX9_findSteps_259 rfl (lv_at hl 0 rfl) ?_
  refine st_i hx hb hK hP hD hS 1 rfl (vin (by decide +kernel)) dX9_findSteps_260 (L' := [0, 1]) rfl (W' := [(a7, .inl (cI, 6001, .inl (tb (0 :: 1 :: List.replicate 5999 2)))), (a8, .inl (cI, 100000, .inl (tb [0, 1]))), (a9, .inl (cI, 24000, .inl (tb []))), (a10, .inl (cI, 6000, .inl (tb []))), (a3, .inl (cI, 4, .inl (tb [0]))), (a5, .inl (cI, 400000, .inl (tb [(-1), 0, 0, 0, 1, 0, 0, 0]))), (a6, .inl (cI, 100000, .inl (tb [1, 1]))), (a1, .inl (cI, 3, .inl (tb [0, 0, 0]))), (a2, .inl (cI, 3, .inl (tb [0, 0, 0]))), (a4, .inl (cI, 4, .inl (tb [1]))), (a0, .inr (9, [.ref a11, .ref a12, .ref a13, .ref a14, .ref a15, .ref a16, .ref a17, .ref a18, .ref a19, .ref a20, .ref a21, .ref a22, .int 1, .int 0, .int 1, .ref a5, .ref a6, .ref a7, .ref a8, .ref a9, .ref a10, .int 2, .int 0, .ref a2, .ref a1, .ref a3, .ref a4, .int 0, .int 1, .ref a23, .ref a24, .ref a25, .ref a26, .int 1, .ref a27, .int 11]))]) rfl (fun H locs hP hD hS => ?_)
  refine lv_iinc (v := 0) (lv' := [(2, .int 0), (1, .int 1), (0, .ref a0)]) hx hb dX9_findSteps_261 hl (k := 0) rfl (by decide +kernel) (by decide) rfl (fun ls hl => ?_)
  refine lv_goto (tgt := 225) hx hb dX9_findSteps_264 (by decide) ?_
  refine lv_iload_n hx hb dX9_findSteps_225 rfl (lv_at hl 0 rfl) ?_
  refine f_if_lt hx hb dX9_findSteps_226 267 (by decide) (by decide +kernel) ?_
  refine lv_aload_n hx hb dX9_findSteps_229 rfl (lv_at hl 2 rfl) ?_
  refine gf (k := 17) hx hb hts inX9 hown hK hP k_812 rfl (by decide) rfl 10 rfl (.ref a7) rfl dX9_findSteps_230 ?_
  refine lv_aload_n hx hb dX9_findSteps_233 rfl (lv_at hl 2 rfl) ?_
  refine gf (k := 16) hx hb hts inX9 hown hK hP k_811 rfl (by decide) rfl 10 rfl (.ref a6) rfl dX9_findSteps_234 ?_
  refine lv_iload_n hx hb dX9_findSteps_237 rfl (lv_at hl 0 rfl) ?_
  refine ld_i hx hb hK hP 6 rfl (vin (by decide +kernel)) dX9_findSteps_238 1 rfl ?_
  refine lv_dup2_11 hx hb dX9_findSteps_239 rfl rfl ?_
  refine ld_i hx hb hK hP 0 rfl (vin (by decide +kernel)) dX9_findSteps_240 1 rfl ?_
  refine lv_iconst (v := 1) hx hb dX9_findSteps_241 (by decide) ?_
  refine v_isub hx hb dX9_findSteps_242 0 (by decide +kernel) ?_
  refine st_i hx hb hK hP hD hS 0 rfl (vin (by decide +kernel)) dX9_findSteps_243 (L' := (0 :: 0 :: List.replicate 5999 2)) rfl (W' := [(a7, .inl (cI, 6001, .inl (tb (0 :: 0 :: List.replicate 5999 2)))), (a8, .inl (cI, 100000, .inl (tb [0, 1]))), (a9, .inl (cI, 24000, .inl (tb []))), (a10, .inl (cI, 6000, .inl (tb []))), (a3, .inl (cI, 4, .inl (tb [0]))), (a5, .inl (cI, 400000, .inl (tb [(-1), 0, 0, 0, 1, 0, 0, 0]))), (a6, .inl (cI, 100000, .inl (tb [1, 1]))), (a1, .inl (cI, 3, .inl (tb [0, 0, 0]))), (a2, .inl (cI, 3, .inl (tb [0, 0, 0]))), (a4, .inl (cI, 4, .inl (tb [1]))), (a0, .inr (9, [.ref a11, .ref a12, .ref a13, .ref a14, .ref a15, .ref a16, .ref a17, .ref a18, .ref a19, .ref a20, .ref a21, .ref a22, .int 1, .int 0, .int 1, .ref a5, .ref a6, .ref a7, .ref a8, .ref a9, .ref a10, .int 2, .int 0, .ref a2, .ref a1, .ref a3, .ref a4, .int 0, .int 1, .ref a23, .ref a24, .ref a25, .ref a26, .int 1, .ref a27, .int 11]))]) rfl (fun H locs hP hD hS => ?_)
  refine lv_aload_n hx hb dX9_findSteps_244 rfl (lv_at hl 2 rfl) ?_
  refine gf (k := 18) hx hb hts inX9 hown hK hP k_813 rfl (by decide) rfl 10 rfl (.ref a8) rfl dX9_findSteps_245 ?_
  refine lv_aload_n hx hb dX9_findSteps_248 rfl (lv_at hl 2 rfl) ?_
  refine gf (k := 17) hx hb hts inX9 hown hK hP k_812 rfl (by decide) rfl 10 rfl (.ref a7) rfl dX9_findSteps_249 ?_
  refine lv_aload_n hx hb dX9_findSteps_252 rfl (lv_at hl 2 rfl) ?_
  refine gf (k := 16) hx hb hts inX9 hown hK hP k_811 rfl (by decide) rfl 10 rfl (.ref a6) rfl dX9_findSteps_253 ?_
  refine lv_iload_n hx hb dX9_findSteps_256 rfl (lv_at hl 0 rfl) ?_
  refine ld_i hx hb hK hP 6 rfl (vin (by decide +kernel)) dX9_findSteps_257 1 rfl ?_
  refine ld_i hx hb hK hP 0 rfl (vin (by decide +kernel)) dX9_findSteps_258 0 rfl ?_
  refine lv_iload_n hx hb dX9_findSteps_259 rfl (lv_at hl 0 rfl) ?_
  refine st_i hx hb hK hP hD hS 1 rfl (vin (by decide +kernel)) dX9_findSteps_260 (L' := [0, 1]) rfl (W' := [(a7, .inl (cI, 6001, .inl (tb (0 :: 0 :: List.replicate 5999 2)))), (a8, .inl (cI, 100000, .inl (tb [0, 1]))), (a9, .inl (cI, 24000, .inl (tb []))), (a10, .inl (cI, 6000, .inl (tb []))), (a3, .inl (cI, 4, .inl (tb [0]))), (a5, .inl (cI, 400000, .inl (tb [(-1), 0, 0, 0, 1, 0, 0, 0]))), (a6, .inl (cI, 100000, .inl (tb [1, 1]))), (a1, .inl (cI, 3, .inl (tb [0, 0, 0]))), (a2, .inl (cI, 3, .inl (tb [0, 0, 0]))), (a4, .inl (cI, 4, .inl (tb [1]))), (a0, .inr (9, [.ref a11, .ref a12, .ref a13, .ref a14, .ref a15, .ref a16, .ref a17, .ref a18, .ref a19, .ref a20, .ref a21, .ref a22, .int 1, .int 0, .int 1, .ref a5, .ref a6, .ref a7, .ref a8, .ref a9, .ref a10, .int 2, .int 0, .ref a2, .ref a1, .ref a3, .ref a4, .int 0, .int 1, .ref a23, .ref a24, .ref a25, .ref a26, .int 1, .ref a27, .int 11]))]) rfl (fun H locs hP hD hS => ?_)
  refine lv_iinc (v := (-1)) (lv' := [(2, .int (-1)), (1, .int 1), (0, .ref a0)]) hx hb dX9_findSteps_261 hl (k := 0) rfl (by decide +kernel) (by decide) rfl (fun ls hl => ?_)
  refine lv_goto (tgt := 225) hx hb dX9_findSteps_264 (by decide) ?_
  refine lv_iload_n hx hb dX9_findSteps_225 rfl (lv_at hl 0 rfl) ?_
  refine t_if_lt hx hb dX9_findSteps_226 267 (by decide) (by decide +kernel) ?_
  refine lv_iconst (v := 0) hx hb dX9_findSteps_267 (by decide) ?_
  refine lv_istore_n (lv' := [(2, .int 0), (1, .int 1), (0, .ref a0)]) hx hb dX9_findSteps_268 rfl hl (by decide) rfl (fun ls hl => ?_)
  refine lv_iload_n hx hb dX9_findSteps_269 rfl (lv_at hl 0 rfl) ?_
  refine lv_aload_n hx hb dX9_findSteps_270 rfl (lv_at hl 2 rfl) ?_
  refine gf (k := 21) hx hb hts inX9 hown hK hP k_816 rfl (by decide) rfl 10 rfl (.int 2) rfl dX9_findSteps_271 ?_
  refine f_icmp_ge hx hb dX9_findSteps_274 293 (by decide) (by decide +kernel) ?_
  refine lv_aload_n hx hb dX9_findSteps_277 rfl (lv_at hl 2 rfl) ?_
  refine lv_aload_n hx hb dX9_findSteps_278 rfl (lv_at hl 2 rfl) ?_
  refine gf (k := 18) hx hb hts inX9 hown hK hP k_813 rfl (by decide) rfl 10 rfl (.ref a8) rfl dX9_findSteps_279 ?_
  refine lv_iload_n hx hb dX9_findSteps_282 rfl (lv_at hl 0 rfl) ?_
  refine ld_i hx hb hK hP 1 rfl (vin (by decide +kernel)) dX9_findSteps_283 0 rfl ?_
  refine kV_v (q0 := 0) ⟨hx, hb, hml, hown, hts⟩ hK hP hD hS hA hX cv_RX9_166 [10, 5, 2] [0, 1, 3, 4, 6, 7, 8, 9] (wr := [(a7, .inl (cI, 6001, .inl (tb (0 :: 0 :: List.replicate 5999 2)))), (a8, .inl (cI, 100000, .inl (tb [0, 1]))), (a10, .inl (cI, 6000, .inl (tb []))), (a3, .inl (cI, 4, .inl (tb [0]))), (a6, .inl (cI, 100000, .inl (tb [1, 1]))), (a1, .inl (cI, 3, .inl (tb [0, 0, 0]))), (a2, .inl (cI, 3, .inl (tb [0, 0, 0]))), (a4, .inl (cI, 4, .inl (tb [1])))]) rfl rfl rfl rfl (by decide) (c593_X9_leastOf l dC dI cI cJ cII cJJ H.size 0 a0 a5 a9 a11 a12 a13 a14 a15 a16 a17 a18 a19 a20 a21 a22 a6 a7 a8 a10 a2 a1 a3 a4 a23 a24 a25 a26 a27) ⟨by decide +kernel, by decide +kernel⟩ rfl rfl (Or.inl rfl) (rest := []) rfl rfl rfl hl.1 rfl (Nat.le_of_ble_eq_true rfl) dX9_findSteps_284 ⟨Nat.le_of_ble_eq_true rfl, Nat.le_of_ble_eq_true rfl⟩ (fun _ => rfl) (W' := [(a7, .inl (cI, 6001, .inl (tb (0 :: 0 :: List.replicate 5999 2)))), (a8, .inl (cI, 100000, .inl (tb [0, 1]))), (a10, .inl (cI, 6000, .inl (tb []))), (a3, .inl (cI, 4, .inl (tb [0]))), (a6, .inl (cI, 100000, .inl (tb [1, 1]))), (a1, .inl (cI, 3, .inl (tb [0, 0, 0]))), (a2, .inl (cI, 3, .inl (tb [0, 0, 0]))), (a4, .inl (cI, 4, .inl (tb [1]))), (a0, .inr (9, [.ref a11, .ref a12, .ref a13, .ref a14, .ref a15, .ref a16, .ref a17, .ref a18, .ref a19, .ref a20, .ref a21, .ref a22, .int 1, .int 0, .int 1, .ref a5, .ref a6, .ref a7, .ref a8, .ref a9, .ref a10, .int 2, .int 1, .ref a2, .ref a1, .ref a3, .ref a4, .int 0, .int 1, .ref a23, .ref a24, .ref a25, .ref a26, .int 1, .ref a27, .int 11])), (a5, .inl (cI, 400000, .inl (tb [(-1), 0, 0, 0, 1, 0, 0, 0]))), (a9, .inl (cI, 24000, .inl (tb [(-1), 0, 0, 0])))]) rfl (fun H locs hP hD hS => ?_)
  refine lv_iinc (v := 1) (lv' := [(2, .int 1), (1, .int 1), (0, .ref a0)]) hx hb dX9_findSteps_287 hl (k := 0) rfl (by decide +kernel) (by decide) rfl (fun ls hl => ?_)
  refine lv_goto (tgt := 269) hx hb dX9_findSteps_290 (by decide) ?_
  refine lv_iload_n hx hb dX9_findSteps_269 rfl (lv_at hl 0 rfl) ?_
  refine lv_aload_n hx hb dX9_findSteps_270 rfl (lv_at hl 2 rfl) ?_
  refine gf (k := 21) hx hb hts inX9 hown hK hP k_816 rfl (by decide) rfl 8 rfl (.int 2) rfl dX9_findSteps_271 ?_
  refine f_icmp_ge hx hb dX9_findSteps_274 293 (by decide) (by decide +kernel) ?_
  refine lv_aload_n hx hb dX9_findSteps_277 rfl (lv_at hl 2 rfl) ?_
  refine lv_aload_n hx hb dX9_findSteps_278 rfl (lv_at hl 2 rfl) ?_
  refine gf (k := 18) hx hb hts inX9 hown hK hP k_813 rfl (by decide) rfl 8 rfl (.ref a8) rfl dX9_findSteps_279 ?_
  refine lv_iload_n hx hb dX9_findSteps_282 rfl (lv_at hl 0 rfl) ?_
  refine ld_i hx hb hK hP 1 rfl (vin (by decide +kernel)) dX9_findSteps_283 1 rfl ?_
  refine kV_v (q0 := 0) ⟨hx, hb, hml, hown, hts⟩ hK hP hD hS hA hX cv_RX9_166 [8, 10, 9] [0, 1, 2, 3, 4, 5, 6, 7] (wr := [(a7, .inl (cI, 6001, .inl (tb (0 :: 0 :: List.replicate 5999 2)))), (a8, .inl (cI, 100000, .inl (tb [0, 1]))), (a10, .inl (cI, 6000, .inl (tb []))), (a3, .inl (cI, 4, .inl (tb [0]))), (a6, .inl (cI, 100000, .inl (tb [1, 1]))), (a1, .inl (cI, 3, .inl (tb [0, 0, 0]))), (a2, .inl (cI, 3, .inl (tb [0, 0, 0]))), (a4, .inl (cI, 4, .inl (tb [1])))]) rfl rfl rfl rfl (by decide) (c594_X9_leastOf l dC dI cI cJ cII cJJ H.size 0 a0 a9 a5 a11 a12 a13 a14 a15 a16 a17 a18 a19 a20 a21 a22 a6 a7 a8 a10 a2 a1 a3 a4 a23 a24 a25 a26 a27) ⟨by decide +kernel, by decide +kernel⟩ rfl rfl (Or.inl rfl) (rest := []) rfl rfl rfl hl.1 rfl (Nat.le_of_ble_eq_true rfl) dX9_findSteps_284 ⟨Nat.le_of_ble_eq_true rfl, Nat.le_of_ble_eq_true rfl⟩ (fun _ => rfl) (W' := [(a7, .inl (cI, 6001, .inl (tb (0 :: 0 :: List.replicate 5999 2)))), (a8, .inl (cI, 100000, .inl (tb [0, 1]))), (a10, .inl (cI, 6000, .inl (tb []))), (a3, .inl (cI, 4, .inl (tb [0]))), (a6, .inl (cI, 100000, .inl (tb [1, 1]))), (a1, .inl (cI, 3, .inl (tb [0, 0, 0]))), (a2, .inl (cI, 3, .inl (tb [0, 0, 0]))), (a4, .inl (cI, 4, .inl (tb [1]))), (a0, .inr (9, [.ref a11, .ref a12, .ref a13, .ref a14, .ref a15, .ref a16, .ref a17, .ref a18, .ref a19, .ref a20, .ref a21, .ref a22, .int 1, .int 0, .int 1, .ref a5, .ref a6, .ref a7, .ref a8, .ref a9, .ref a10, .int 2, .int 2, .ref a2, .ref a1, .ref a3, .ref a4, .int 0, .int 1, .ref a23, .ref a24, .ref a25, .ref a26, .int 1, .ref a27, .int 11])), (a9, .inl (cI, 24000, .inl (tb [(-1), 0, 0, 0, 1, 0, 0, 0]))), (a5, .inl (cI, 400000, .inl (tb [(-1), 0, 0, 0, 1, 0, 0, 0])))]) rfl (fun H locs hP hD hS => ?_)
  refine lv_iinc (v := 2) (lv' := [(2, .int 2), (1, .int 1), (0, .ref a0)]) hx hb dX9_findSteps_287 hl (k := 0) rfl (by decide +kernel) (by decide) rfl (fun ls hl => ?_)
  refine lv_goto (tgt := 269) hx hb dX9_findSteps_290 (by decide) ?_
  refine lv_iload_n hx hb dX9_findSteps_269 rfl (lv_at hl 0 rfl) ?_
  refine lv_aload_n hx hb dX9_findSteps_270 rfl (lv_at hl 2 rfl) ?_
  refine gf (k := 21) hx hb hts inX9 hown hK hP k_816 rfl (by decide) rfl 8 rfl (.int 2) rfl dX9_findSteps_271 ?_
  refine t_icmp_ge hx hb dX9_findSteps_274 293 (by decide) (by decide +kernel) ?_
  refine lv_aload_n hx hb dX9_findSteps_293 rfl (lv_at hl 2 rfl) ?_
  refine kV_v (q0 := 0) ⟨hx, hb, hml, hown, hts⟩ hK hP hD hS hA hX cv_RX9_170 [8, 2, 9] [0, 1, 3, 4, 5, 6, 7, 10] (wr := [(a7, .inl (cI, 6001, .inl (tb (0 :: 0 :: List.replicate 5999 2)))), (a8, .inl (cI, 100000, .inl (tb [0, 1]))), (a3, .inl (cI, 4, .inl (tb [0]))), (a6, .inl (cI, 100000, .inl (tb [1, 1]))), (a1, .inl (cI, 3, .inl (tb [0, 0, 0]))), (a2, .inl (cI, 3, .inl (tb [0, 0, 0]))), (a4, .inl (cI, 4, .inl (tb [1]))), (a5, .inl (cI, 400000, .inl (tb [(-1), 0, 0, 0, 1, 0, 0, 0])))]) rfl rfl rfl rfl (by decide) (c595_X9_sorts l dC dI cI cJ cII cJJ H.size 0 a0 a10 a9 a11 a12 a13 a14 a15 a16 a17 a18 a19 a20 a21 a22 a5 a6 a7 a8 a2 a1 a3 a4 a23 a24 a25 a26 a27) ⟨by decide +kernel, by decide +kernel⟩ rfl rfl (Or.inl rfl) (rest := []) rfl rfl rfl hl.1 rfl (Nat.le_of_ble_eq_true rfl) dX9_findSteps_294 ⟨Nat.le_of_ble_eq_true rfl, Nat.le_of_ble_eq_true rfl⟩ (fun _ => rfl) (W' := [(a7, .inl (cI, 6001, .inl (tb (0 :: 0 :: List.replicate 5999 2)))), (a8, .inl (cI, 100000, .inl (tb [0, 1]))), (a3, .inl (cI, 4, .inl (tb [0]))), (a6, .inl (cI, 100000, .inl (tb [1, 1]))), (a1, .inl (cI, 3, .inl (tb [0, 0, 0]))), (a2, .inl (cI, 3, .inl (tb [0, 0, 0]))), (a4, .inl (cI, 4, .inl (tb [1]))), (a5, .inl (cI, 400000, .inl (tb [(-1), 0, 0, 0, 1, 0, 0, 0]))), (a10, .inl (cI, 6000, .inl (tb [0, 1]))), (a0, .inr (9, [.ref a11, .ref a12, .ref a13, .ref a14, .ref a15, .ref a16, .ref a17, .ref a18, .ref a19, .ref a20, .ref a21, .ref a22, .int 1, .int 0, .int 1, .ref a5, .ref a6, .ref a7, .ref a8, .ref a9, .ref a10, .int 2, .int 2, .ref a2, .ref a1, .ref a3, .ref a4, .int 0, .int 1, .ref a23, .ref a24, .ref a25, .ref a26, .int 1, .ref a27, .int 11])), (a9, .inl (cI, 24000, .inl (tb [(-1), 0, 0, 0, 1, 0, 0, 0])))]) rfl (fun H locs hP hD hS => ?_)
  exact r_v (fun _ => 0) hx hb hr hk hK hP hD hS dX9_findSteps_297
set_option maxRecDepth 100000 in
set_option maxHeartbeats 4000000 in
theorem c581_X9_findSteps (l : Launch) (dC : Nat → ClassId) (dI : Nat → Nat → Nat) (cI cJ cII cJJ : ClassId) (sz g a0 a1 a2 a3 a4 a5 a6 a7 a8 a9 a10 a11 a12 a13 a14 a15 a16 a17 a18 a19 a20 a21 a22 a23 a24 a25 a26 a27 : Nat) : Met l yX9_findSteps (.code yX9_findSteps cX9_findSteps 3 none :: TT) ({ frames := 6, cells := 0, slots := 0, locals := 320 }) (PcS dC dI (TY cI cJ cII cJJ) [.ref a0] [(a0, .inr (9, [.ref a11, .ref a12, .ref a13, .ref a14, .ref a15, .ref a16, .ref a17, .ref a18, .ref a19, .ref a20, .ref a21, .ref a22, .int 1, .int 0, .int 0, .ref a5, .ref a6, .ref a7, .ref a8, .ref a9, .ref a10, .int 0, .int 0, .ref a2, .ref a1, .ref a3, .ref a4, .int 0, .int 0, .ref a23, .ref a24, .ref a25, .ref a26, .int 1, .ref a27, .int 11])), (a1, .inl (cI, 3, .inl (tb []))), (a2, .inl (cI, 3, .inl (tb []))), (a3, .inl (cI, 4, .inl (tb []))), (a4, .inl (cI, 4, .inl (tb []))), (a5, .inl (cI, 400000, .inl (tb []))), (a6, .inl (cI, 100000, .inl (tb []))), (a7, .inl (cI, 6001, .inl (tb []))), (a8, .inl (cI, 100000, .inl (tb []))), (a9, .inl (cI, 24000, .inl (tb []))), (a10, .inl (cI, 6000, .inl (tb [])))] sz 0 g) ((QcV dC dI (TY cI cJ cII cJJ) (fun _ => [(a7, .inl (cI, 6001, .inl (tb (0 :: 0 :: List.replicate 5999 2)))), (a8, .inl (cI, 100000, .inl (tb [0, 1]))), (a3, .inl (cI, 4, .inl (tb [0]))), (a6, .inl (cI, 100000, .inl (tb [1, 1]))), (a1, .inl (cI, 3, .inl (tb [0, 0, 0]))), (a2, .inl (cI, 3, .inl (tb [0, 0, 0]))), (a4, .inl (cI, 4, .inl (tb [1]))), (a5, .inl (cI, 400000, .inl (tb [(-1), 0, 0, 0, 1, 0, 0, 0]))), (a10, .inl (cI, 6000, .inl (tb [0, 1]))), (a0, .inr (9, [.ref a11, .ref a12, .ref a13, .ref a14, .ref a15, .ref a16, .ref a17, .ref a18, .ref a19, .ref a20, .ref a21, .ref a22, .int 1, .int 0, .int 1, .ref a5, .ref a6, .ref a7, .ref a8, .ref a9, .ref a10, .int 2, .int 2, .ref a2, .ref a1, .ref a3, .ref a4, .int 0, .int 1, .ref a23, .ref a24, .ref a25, .ref a26, .int 1, .ref a27, .int 11])), (a9, .inl (cI, 24000, .inl (tb [(-1), 0, 0, 0, 1, 0, 0, 0])))])) (va_A [(a0, .inr (9, [.ref a11, .ref a12, .ref a13, .ref a14, .ref a15, .ref a16, .ref a17, .ref a18, .ref a19, .ref a20, .ref a21, .ref a22, .int 1, .int 0, .int 0, .ref a5, .ref a6, .ref a7, .ref a8, .ref a9, .ref a10, .int 0, .int 0, .ref a2, .ref a1, .ref a3, .ref a4, .int 0, .int 0, .ref a23, .ref a24, .ref a25, .ref a26, .int 1, .ref a27, .int 11])), (a1, .inl (cI, 3, .inl (tb []))), (a2, .inl (cI, 3, .inl (tb []))), (a3, .inl (cI, 4, .inl (tb []))), (a4, .inl (cI, 4, .inl (tb []))), (a5, .inl (cI, 400000, .inl (tb []))), (a6, .inl (cI, 100000, .inl (tb []))), (a7, .inl (cI, 6001, .inl (tb []))), (a8, .inl (cI, 100000, .inl (tb []))), (a9, .inl (cI, 24000, .inl (tb []))), (a10, .inl (cI, 6000, .inl (tb [])))] sz)) 0 0 (va_A [(a0, .inr (9, [.ref a11, .ref a12, .ref a13, .ref a14, .ref a15, .ref a16, .ref a17, .ref a18, .ref a19, .ref a20, .ref a21, .ref a22, .int 1, .int 0, .int 0, .ref a5, .ref a6, .ref a7, .ref a8, .ref a9, .ref a10, .int 0, .int 0, .ref a2, .ref a1, .ref a3, .ref a4, .int 0, .int 0, .ref a23, .ref a24, .ref a25, .ref a26, .int 1, .ref a27, .int 11])), (a1, .inl (cI, 3, .inl (tb []))), (a2, .inl (cI, 3, .inl (tb []))), (a3, .inl (cI, 4, .inl (tb []))), (a4, .inl (cI, 4, .inl (tb []))), (a5, .inl (cI, 400000, .inl (tb []))), (a6, .inl (cI, 100000, .inl (tb []))), (a7, .inl (cI, 6001, .inl (tb []))), (a8, .inl (cI, 100000, .inl (tb []))), (a9, .inl (cI, 24000, .inl (tb []))), (a10, .inl (cI, 6000, .inl (tb [])))] sz) := by
  refine SM.of (y := yX9_findSteps) (maxL := 3) (av := [.ref a0]) (QcV dC dI (TY cI cJ cII cJJ) (fun _ => [(a7, .inl (cI, 6001, .inl (tb (0 :: 0 :: List.replicate 5999 2)))), (a8, .inl (cI, 100000, .inl (tb [0, 1]))), (a3, .inl (cI, 4, .inl (tb [0]))), (a6, .inl (cI, 100000, .inl (tb [1, 1]))), (a1, .inl (cI, 3, .inl (tb [0, 0, 0]))), (a2, .inl (cI, 3, .inl (tb [0, 0, 0]))), (a4, .inl (cI, 4, .inl (tb [1]))), (a5, .inl (cI, 400000, .inl (tb [(-1), 0, 0, 0, 1, 0, 0, 0]))), (a10, .inl (cI, 6000, .inl (tb [0, 1]))), (a0, .inr (9, [.ref a11, .ref a12, .ref a13, .ref a14, .ref a15, .ref a16, .ref a17, .ref a18, .ref a19, .ref a20, .ref a21, .ref a22, .int 1, .int 0, .int 1, .ref a5, .ref a6, .ref a7, .ref a8, .ref a9, .ref a10, .int 2, .int 2, .ref a2, .ref a1, .ref a3, .ref a4, .int 0, .int 1, .ref a23, .ref a24, .ref a25, .ref a26, .int 1, .ref a27, .int 11])), (a9, .inl (cI, 24000, .inl (tb [(-1), 0, 0, 0, 1, 0, 0, 0])))])) (by decide +kernel) (Nat.le_of_ble_eq_true rfl) (fun p e s m below meth c A ls hx hb hr hml hown hts hk hnm hA hK hP hD hS hX hl => ?_)
  have hown : s.vm.findClass RX9 = some m.cls := hown
  have hl : lv_has ls 3 [(0, .ref a0)] := hl
  refine lv_aload_n hx hb dX9_findSteps_0 rfl (lv_at hl 0 rfl) ?_
  refine gf (k := 14) hx hb hts inX9 hown hK hP k_809 rfl (by decide) rfl 0 rfl (.int 0) rfl dX9_findSteps_1 ?_
  refine t_if_eq hx hb dX9_findSteps_4 8 (by decide) (by decide +kernel) ?_
  refine lv_aload_n hx hb dX9_findSteps_8 rfl (lv_at hl 0 rfl) ?_
  refine lv_iconst (v := 1) hx hb dX9_findSteps_9 (by decide) ?_
  refine pf (k := 14) hx hb hts inX9 tyX9_ok nmX9 hown hK hP hD hS k_809 rfl (by decide) rfl rfl 0 rfl rfl rfl (Nat.le_of_ble_eq_true rfl) dX9_findSteps_10 (W' := [(a0, .inr (9, [.ref a11, .ref a12, .ref a13, .ref a14, .ref a15, .ref a16, .ref a17, .ref a18, .ref a19, .ref a20, .ref a21, .ref a22, .int 1, .int 0, .int 1, .ref a5, .ref a6, .ref a7, .ref a8, .ref a9, .ref a10, .int 0, .int 0, .ref a2, .ref a1, .ref a3, .ref a4, .int 0, .int 0, .ref a23, .ref a24, .ref a25, .ref a26, .int 1, .ref a27, .int 11])), (a1, .inl (cI, 3, .inl (tb []))), (a2, .inl (cI, 3, .inl (tb []))), (a3, .inl (cI, 4, .inl (tb []))), (a4, .inl (cI, 4, .inl (tb []))), (a5, .inl (cI, 400000, .inl (tb []))), (a6, .inl (cI, 100000, .inl (tb []))), (a7, .inl (cI, 6001, .inl (tb []))), (a8, .inl (cI, 100000, .inl (tb []))), (a9, .inl (cI, 24000, .inl (tb []))), (a10, .inl (cI, 6000, .inl (tb [])))]) rfl (fun H locs hP hD hS => ?_)
  refine lv_aload_n hx hb dX9_findSteps_13 rfl (lv_at hl 0 rfl) ?_
  refine lv_aload_n hx hb dX9_findSteps_14 rfl (lv_at hl 0 rfl) ?_
  refine gf (k := 13) hx hb hts inX9 hown hK hP k_808 rfl (by decide) rfl 0 rfl (.int 0) rfl dX9_findSteps_15 ?_
  refine lv_aload_n hx hb dX9_findSteps_18 rfl (lv_at hl 0 rfl) ?_
  refine gf (k := 12) hx hb hts inX9 hown hK hP k_807 rfl (by decide) rfl 0 rfl (.int 1) rfl dX9_findSteps_19 ?_
  refine f_icmp_ge hx hb dX9_findSteps_22 32 (by decide) (by decide +kernel) ?_
  refine lv_aload_n hx hb dX9_findSteps_25 rfl (lv_at hl 0 rfl) ?_
  refine gf (k := 13) hx hb hts inX9 hown hK hP k_808 rfl (by decide) rfl 0 rfl (.int 0) rfl dX9_findSteps_26 ?_
  refine lv_goto (tgt := 36) hx hb dX9_findSteps_29 (by decide) ?_
  refine pf (k := 27) hx hb hts inX9 tyX9_ok nmX9 hown hK hP hD hS k_822 rfl (by decide) rfl rfl 0 rfl rfl rfl (Nat.le_of_ble_eq_true rfl) dX9_findSteps_36 (W' := [(a0, .inr (9, [.ref a11, .ref a12, .ref a13, .ref a14, .ref a15, .ref a16, .ref a17, .ref a18, .ref a19, .ref a20, .ref a21, .ref a22, .int 1, .int 0, .int 1, .ref a5, .ref a6, .ref a7, .ref a8, .ref a9, .ref a10, .int 0, .int 0, .ref a2, .ref a1, .ref a3, .ref a4, .int 0, .int 0, .ref a23, .ref a24, .ref a25, .ref a26, .int 1, .ref a27, .int 11])), (a1, .inl (cI, 3, .inl (tb []))), (a2, .inl (cI, 3, .inl (tb []))), (a3, .inl (cI, 4, .inl (tb []))), (a4, .inl (cI, 4, .inl (tb []))), (a5, .inl (cI, 400000, .inl (tb []))), (a6, .inl (cI, 100000, .inl (tb []))), (a7, .inl (cI, 6001, .inl (tb []))), (a8, .inl (cI, 100000, .inl (tb []))), (a9, .inl (cI, 24000, .inl (tb []))), (a10, .inl (cI, 6000, .inl (tb [])))]) rfl (fun H locs hP hD hS => ?_)
  refine lv_aload_n hx hb dX9_findSteps_39 rfl (lv_at hl 0 rfl) ?_
  refine lv_aload_n hx hb dX9_findSteps_40 rfl (lv_at hl 0 rfl) ?_
  refine gf (k := 27) hx hb hts inX9 hown hK hP k_822 rfl (by decide) rfl 0 rfl (.int 0) rfl dX9_findSteps_41 ?_
  refine kV_i (q0 := 0) ⟨hx, hb, hml, hown, hts⟩ hK hP hD hS hA hX cv_RX9_160 [0, 1, 2, 3] [4, 5, 6, 7, 8, 9, 10] (wr := [(a4, .inl (cI, 4, .inl (tb []))), (a5, .inl (cI, 400000, .inl (tb []))), (a6, .inl (cI, 100000, .inl (tb []))), (a7, .inl (cI, 6001, .inl (tb []))), (a8, .inl (cI, 100000, .inl (tb []))), (a9, .inl (cI, 24000, .inl (tb []))), (a10, .inl (cI, 6000, .inl (tb [])))]) rfl rfl rfl rfl (by decide) (c582_X9_ranks l dC dI cI cJ cII cJJ H.size 0 a0 a1 a2 a3 a11 a12 a13 a14 a15 a16 a17 a18 a19 a20 a21 a22 a5 a6 a7 a8 a9 a10 a4 a23 a24 a25 a26 a27) ⟨by decide +kernel, by decide +kernel⟩ rfl rfl (Or.inl rfl) (rest := []) rfl rfl rfl hl.1 rfl (Nat.le_of_ble_eq_true rfl) dX9_findSteps_44 ⟨Nat.le_of_ble_eq_true rfl, Nat.le_of_ble_eq_true rfl⟩ (W' := [(a4, .inl (cI, 4, .inl (tb []))), (a5, .inl (cI, 400000, .inl (tb []))), (a6, .inl (cI, 100000, .inl (tb []))), (a7, .inl (cI, 6001, .inl (tb []))), (a8, .inl (cI, 100000, .inl (tb []))), (a9, .inl (cI, 24000, .inl (tb []))), (a10, .inl (cI, 6000, .inl (tb []))), (a3, .inl (cI, 4, .inl (tb [0]))), (a1, .inl (cI, 3, .inl (tb [0, 0, 0]))), (a2, .inl (cI, 3, .inl (tb [0, 0, 0]))), (a0, .inr (9, [.ref a11, .ref a12, .ref a13, .ref a14, .ref a15, .ref a16, .ref a17, .ref a18, .ref a19, .ref a20, .ref a21, .ref a22, .int 1, .int 0, .int 1, .ref a5, .ref a6, .ref a7, .ref a8, .ref a9, .ref a10, .int 0, .int 0, .ref a2, .ref a1, .ref a3, .ref a4, .int 0, .int 1, .ref a23, .ref a24, .ref a25, .ref a26, .int 1, .ref a27, .int 11]))]) rfl (fun H locs hP hD hS => ?_)
  refine t_if_ne hx hb dX9_findSteps_47 63 (by decide) (by decide +kernel) ?_
  refine lv_aload_n hx hb dX9_findSteps_63 rfl (lv_at hl 0 rfl) ?_
  refine gf (k := 27) hx hb hts inX9 hown hK hP k_822 rfl (by decide) rfl 10 rfl (.int 0) rfl dX9_findSteps_64 ?_
  refine f_if_ne hx hb dX9_findSteps_67 74 (by decide) (by decide +kernel) ?_
  refine lv_iconst (v := 1) hx hb dX9_findSteps_70 (by decide) ?_
  refine lv_goto (tgt := 103) hx hb dX9_findSteps_71 (by decide) ?_
  refine lv_istore_n (lv' := [(1, .int 1), (0, .ref a0)]) hx hb dX9_findSteps_103 rfl hl (by decide) rfl (fun ls hl => ?_)
  refine lv_aload_n hx hb dX9_findSteps_104 rfl (lv_at hl 1 rfl) ?_
  refine lv_iconst (v := 0) hx hb dX9_findSteps_105 (by decide) ?_
  refine pf (k := 21) hx hb hts inX9 tyX9_ok nmX9 hown hK hP hD hS k_816 rfl (by decide) rfl rfl 10 rfl rfl rfl (Nat.le_of_ble_eq_true rfl) dX9_findSteps_106 (W' := [(a4, .inl (cI, 4, .inl (tb []))), (a5, .inl (cI, 400000, .inl (tb []))), (a6, .inl (cI, 100000, .inl (tb []))), (a7, .inl (cI, 6001, .inl (tb []))), (a8, .inl (cI, 100000, .inl (tb []))), (a9, .inl (cI, 24000, .inl (tb []))), (a10, .inl (cI, 6000, .inl (tb []))), (a3, .inl (cI, 4, .inl (tb [0]))), (a1, .inl (cI, 3, .inl (tb [0, 0, 0]))), (a2, .inl (cI, 3, .inl (tb [0, 0, 0]))), (a0, .inr (9, [.ref a11, .ref a12, .ref a13, .ref a14, .ref a15, .ref a16, .ref a17, .ref a18, .ref a19, .ref a20, .ref a21, .ref a22, .int 1, .int 0, .int 1, .ref a5, .ref a6, .ref a7, .ref a8, .ref a9, .ref a10, .int 0, .int 0, .ref a2, .ref a1, .ref a3, .ref a4, .int 0, .int 1, .ref a23, .ref a24, .ref a25, .ref a26, .int 1, .ref a27, .int 11]))]) rfl (fun H locs hP hD hS => ?_)
  refine lv_aload_n hx hb dX9_findSteps_109 rfl (lv_at hl 1 rfl) ?_
  refine lv_iconst (v := 0) hx hb dX9_findSteps_110 (by decide) ?_
  refine pf (k := 22) hx hb hts inX9 tyX9_ok nmX9 hown hK hP hD hS k_817 rfl (by decide) rfl rfl 10 rfl rfl rfl (Nat.le_of_ble_eq_true rfl) dX9_findSteps_111 (W' := [(a4, .inl (cI, 4, .inl (tb []))), (a5, .inl (cI, 400000, .inl (tb []))), (a6, .inl (cI, 100000, .inl (tb []))), (a7, .inl (cI, 6001, .inl (tb []))), (a8, .inl (cI, 100000, .inl (tb []))), (a9, .inl (cI, 24000, .inl (tb []))), (a10, .inl (cI, 6000, .inl (tb []))), (a3, .inl (cI, 4, .inl (tb [0]))), (a1, .inl (cI, 3, .inl (tb [0, 0, 0]))), (a2, .inl (cI, 3, .inl (tb [0, 0, 0]))), (a0, .inr (9, [.ref a11, .ref a12, .ref a13, .ref a14, .ref a15, .ref a16, .ref a17, .ref a18, .ref a19, .ref a20, .ref a21, .ref a22, .int 1, .int 0, .int 1, .ref a5, .ref a6, .ref a7, .ref a8, .ref a9, .ref a10, .int 0, .int 0, .ref a2, .ref a1, .ref a3, .ref a4, .int 0, .int 1, .ref a23, .ref a24, .ref a25, .ref a26, .int 1, .ref a27, .int 11]))]) rfl (fun H locs hP hD hS => ?_)
  refine lv_aload_n hx hb dX9_findSteps_114 rfl (lv_at hl 1 rfl) ?_
  refine gf (k := 28) hx hb hts inX9 hown hK hP k_823 rfl (by decide) rfl 10 rfl (.int 1) rfl dX9_findSteps_115 ?_
  refine t_if_ne hx hb dX9_findSteps_118 122 (by decide) (by decide +kernel) ?_
  refine lv_aload_n hx hb dX9_findSteps_122 rfl (lv_at hl 1 rfl) ?_
  refine lv_iconst (v := 0) hx hb dX9_findSteps_123 (by decide) ?_
  refine lv_aload_n hx hb dX9_findSteps_124 rfl (lv_at hl 1 rfl) ?_
  refine gf (k := 28) hx hb hts inX9 hown hK hP k_823 rfl (by decide) rfl 10 rfl (.int 1) rfl dX9_findSteps_125 ?_
  refine lv_iload_n hx hb dX9_findSteps_128 rfl (lv_at hl 0 rfl) ?_
  refine v_imul hx hb dX9_findSteps_129 1 (by decide +kernel) ?_
  refine kV_v (q0 := 0) ⟨hx, hb, hml, hown, hts⟩ hK hP hD hS hA hX cv_RX9_156 [10, 7, 0, 8, 9, 1, 2] [3, 4, 5, 6] (wr := [(a7, .inl (cI, 6001, .inl (tb []))), (a8, .inl (cI, 100000, .inl (tb []))), (a9, .inl (cI, 24000, .inl (tb []))), (a10, .inl (cI, 6000, .inl (tb [])))]) rfl rfl rfl rfl (by decide) (c584_X9_goes l dC dI cI cJ cII cJJ H.size 0 a0 a3 a4 a1 a2 a5 a6 a11 a12 a13 a14 a15 a16 a17 a18 a19 a20 a21 a22 a7 a8 a9 a10 a23 a24 a25 a26 a27) ⟨by decide +kernel, by decide +kernel⟩ rfl rfl (Or.inl rfl) (rest := []) rfl rfl rfl hl.1 rfl (Nat.le_of_ble_eq_true rfl) dX9_findSteps_130 ⟨Nat.le_of_ble_eq_true rfl, Nat.le_of_ble_eq_true rfl⟩ (fun _ => rfl) (W' := [(a7, .inl (cI, 6001, .inl (tb []))), (a8, .inl (cI, 100000, .inl (tb []))), (a9, .inl (cI, 24000, .inl (tb []))), (a10, .inl (cI, 6000, .inl (tb []))), (a3, .inl (cI, 4, .inl (tb [0]))), (a5, .inl (cI, 400000, .inl (tb [(-1), 0, 0, 0, 1, 0, 0, 0]))), (a6, .inl (cI, 100000, .inl (tb [1, 1]))), (a1, .inl (cI, 3, .inl (tb [0, 0, 0]))), (a2, .inl (cI, 3, .inl (tb [0, 0, 0]))), (a4, .inl (cI, 4, .inl (tb [1]))), (a0, .inr (9, [.ref a11, .ref a12, .ref a13, .ref a14, .ref a15, .ref a16, .ref a17, .ref a18, .ref a19, .ref a20, .ref a21, .ref a22, .int 1, .int 0, .int 1, .ref a5, .ref a6, .ref a7, .ref a8, .ref a9, .ref a10, .int 2, .int 0, .ref a2, .ref a1, .ref a3, .ref a4, .int 0, .int 1, .ref a23, .ref a24, .ref a25, .ref a26, .int 1, .ref a27, .int 11]))]) rfl (fun H locs hP hD hS => ?_)
  refine lv_iconst (v := 0) hx hb dX9_findSteps_133 (by decide) ?_
  refine lv_istore_n (lv' := [(2, .int 0), (1, .int 1), (0, .ref a0)]) hx hb dX9_findSteps_134 rfl hl (by decide) rfl (fun ls hl => ?_)
  refine fs1 hx hb hts hown hK 10 0 rfl rfl rfl (fun H locs ls hP hD hS hl => ?_) 6002 0 (by omega) (by omega) _ _ _ hP hD hS hl
  refine lv_iconst (v := 0) hx hb dX9_findSteps_155 (by decide) ?_
  refine lv_istore_n (lv' := [(2, .int 0), (1, .int 1), (0, .ref a0)]) hx hb dX9_findSteps_156 rfl hl (by decide) rfl (fun ls hl => ?_)
  refine lv_iload_n hx hb dX9_findSteps_157 rfl (lv_at hl 0 rfl) ?_
  refine lv_aload_n hx hb dX9_findSteps_158 rfl (lv_at hl 2 rfl) ?_
  refine gf (k := 21) hx hb hts inX9 hown hK hP k_816 rfl (by decide) rfl 10 rfl (.int 2) rfl dX9_findSteps_159 ?_
  refine f_icmp_ge hx hb dX9_findSteps_162 186 (by decide) (by decide +kernel) ?_
  refine lv_aload_n hx hb dX9_findSteps_165 rfl (lv_at hl 2 rfl) ?_
  refine gf (k := 17) hx hb hts inX9 hown hK hP k_812 rfl (by decide) rfl 10 rfl (.ref a7) rfl dX9_findSteps_166 ?_
  refine lv_aload_n hx hb dX9_findSteps_169 rfl (lv_at hl 2 rfl) ?_
  refine gf (k := 16) hx hb hts inX9 hown hK hP k_811 rfl (by decide) rfl 10 rfl (.ref a6) rfl dX9_findSteps_170 ?_
  refine lv_iload_n hx hb dX9_findSteps_173 rfl (lv_at hl 0 rfl) ?_
  refine ld_i hx hb hK hP 6 rfl (vin (by decide +kernel)) dX9_findSteps_174 1 rfl ?_
  refine lv_dup2_11 hx hb dX9_findSteps_175 rfl rfl ?_
  refine ld_i hx hb hK hP 0 rfl (vin (by decide +kernel)) dX9_findSteps_176 0 rfl ?_
  refine lv_iconst (v := 1) hx hb dX9_findSteps_177 (by decide) ?_
  refine v_iadd hx hb dX9_findSteps_178 1 (by decide +kernel) ?_
  refine st_i hx hb hK hP hD hS 0 rfl (vin (by decide +kernel)) dX9_findSteps_179 (L' := [0, 1]) rfl (W' := [(a7, .inl (cI, 6001, .inl (tb [0, 1]))), (a8, .inl (cI, 100000, .inl (tb []))), (a9, .inl (cI, 24000, .inl (tb []))), (a10, .inl (cI, 6000, .inl (tb []))), (a3, .inl (cI, 4, .inl (tb [0]))), (a5, .inl (cI, 400000, .inl (tb [(-1), 0, 0, 0, 1, 0, 0, 0]))), (a6, .inl (cI, 100000, .inl (tb [1, 1]))), (a1, .inl (cI, 3, .inl (tb [0, 0, 0]))), (a2, .inl (cI, 3, .inl (tb [0, 0, 0]))), (a4, .inl (cI, 4, .inl (tb [1]))), (a0, .inr (9, [.ref a11, .ref a12, .ref a13, .ref a14, .ref a15, .ref a16, .ref a17, .ref a18, .ref a19, .ref a20, .ref a21, .ref a22, .int 1, .int 0, .int 1, .ref a5, .ref a6, .ref a7, .ref a8, .ref a9, .ref a10, .int 2, .int 0, .ref a2, .ref a1, .ref a3, .ref a4, .int 0, .int 1, .ref a23, .ref a24, .ref a25, .ref a26, .int 1, .ref a27, .int 11]))]) rfl (fun H locs hP hD hS => ?_)
  refine lv_iinc (v := 1) (lv' := [(2, .int 1), (1, .int 1), (0, .ref a0)]) hx hb dX9_findSteps_180 hl (k := 0) rfl (by decide +kernel) (by decide) rfl (fun ls hl => ?_)
  refine lv_goto (tgt := 157) hx hb dX9_findSteps_183 (by decide) ?_
  refine lv_iload_n hx hb dX9_findSteps_157 rfl (lv_at hl 0 rfl) ?_
  refine lv_aload_n hx hb dX9_findSteps_158 rfl (lv_at hl 2 rfl) ?_
  refine gf (k := 21) hx hb hts inX9 hown hK hP k_816 rfl (by decide) rfl 10 rfl (.int 2) rfl dX9_findSteps_159 ?_
  refine f_icmp_ge hx hb dX9_findSteps_162 186 (by decide) (by decide +kernel) ?_
  refine lv_aload_n hx hb dX9_findSteps_165 rfl (lv_at hl 2 rfl) ?_
  refine gf (k := 17) hx hb hts inX9 hown hK hP k_812 rfl (by decide) rfl 10 rfl (.ref a7) rfl dX9_findSteps_166 ?_
  refine lv_aload_n hx hb dX9_findSteps_169 rfl (lv_at hl 2 rfl) ?_
  refine gf (k := 16) hx hb hts inX9 hown hK hP k_811 rfl (by decide) rfl 10 rfl (.ref a6) rfl dX9_findSteps_170 ?_
  refine lv_iload_n hx hb dX9_findSteps_173 rfl (lv_at hl 0 rfl) ?_
  refine ld_i hx hb hK hP 6 rfl (vin (by decide +kernel)) dX9_findSteps_174 1 rfl ?_
  refine lv_dup2_11 hx hb dX9_findSteps_175 rfl rfl ?_
  refine ld_i hx hb hK hP 0 rfl (vin (by decide +kernel)) dX9_findSteps_176 1 rfl ?_
  refine lv_iconst (v := 1) hx hb dX9_findSteps_177 (by decide) ?_
  refine v_iadd hx hb dX9_findSteps_178 2 (by decide +kernel) ?_
  refine st_i hx hb hK hP hD hS 0 rfl (vin (by decide +kernel)) dX9_findSteps_179 (L' := [0, 2]) rfl (W' := [(a7, .inl (cI, 6001, .inl (tb [0, 2]))), (a8, .inl (cI, 100000, .inl (tb []))), (a9, .inl (cI, 24000, .inl (tb []))), (a10, .inl (cI, 6000, .inl (tb []))), (a3, .inl (cI, 4, .inl (tb [0]))), (a5, .inl (cI, 400000, .inl (tb [(-1), 0, 0, 0, 1, 0, 0, 0]))), (a6, .inl (cI, 100000, .inl (tb [1, 1]))), (a1, .inl (cI, 3, .inl (tb [0, 0, 0]))), (a2, .inl (cI, 3, .inl (tb [0, 0, 0]))), (a4, .inl (cI, 4, .inl (tb [1]))), (a0, .inr (9, [.ref a11, .ref a12, .ref a13, .ref a14, .ref a15, .ref a16, .ref a17, .ref a18, .ref a19, .ref a20, .ref a21, .ref a22, .int 1, .int 0, .int 1, .ref a5, .ref a6, .ref a7, .ref a8, .ref a9, .ref a10, .int 2, .int 0, .ref a2, .ref a1, .ref a3, .ref a4, .int 0, .int 1, .ref a23, .ref a24, .ref a25, .ref a26, .int 1, .ref a27, .int 11]))]) rfl (fun H locs hP hD hS => ?_)
  refine lv_iinc (v := 2) (lv' := [(2, .int 2), (1, .int 1), (0, .ref a0)]) hx hb dX9_findSteps_180 hl (k := 0) rfl (by decide +kernel) (by decide) rfl (fun ls hl => ?_)
  refine lv_goto (tgt := 157) hx hb dX9_findSteps_183 (by decide) ?_
  refine lv_iload_n hx hb dX9_findSteps_157 rfl (lv_at hl 0 rfl) ?_
  refine lv_aload_n hx hb dX9_findSteps_158 rfl (lv_at hl 2 rfl) ?_
  refine gf (k := 21) hx hb hts inX9 hown hK hP k_816 rfl (by decide) rfl 10 rfl (.int 2) rfl dX9_findSteps_159 ?_
  refine t_icmp_ge hx hb dX9_findSteps_162 186 (by decide) (by decide +kernel) ?_
  refine lv_iconst (v := 1) hx hb dX9_findSteps_186 (by decide) ?_
  refine lv_istore_n (lv' := [(2, .int 1), (1, .int 1), (0, .ref a0)]) hx hb dX9_findSteps_187 rfl hl (by decide) rfl (fun ls hl => ?_)
  refine lv_iload_n hx hb dX9_findSteps_188 rfl (lv_at hl 0 rfl) ?_
  refine lv_sipush (v := 6000) hx hb dX9_findSteps_189 (by decide) ?_
  refine f_icmp_gt hx hb dX9_findSteps_192 218 (by decide) (by decide +kernel) ?_
  refine lv_aload_n hx hb dX9_findSteps_195 rfl (lv_at hl 2 rfl) ?_
  refine gf (k := 17) hx hb hts inX9 hown hK hP k_812 rfl (by decide) rfl 10 rfl (.ref a7) rfl dX9_findSteps_196 ?_
  refine lv_iload_n hx hb dX9_findSteps_199 rfl (lv_at hl 0 rfl) ?_
  refine lv_dup2_11 hx hb dX9_findSteps_200 rfl rfl ?_
  refine ld_i hx hb hK hP 0 rfl (vin (by decide +kernel)) dX9_findSteps_201 2 rfl ?_
  refine lv_aload_n hx hb dX9_findSteps_202 rfl (lv_at hl 2 rfl) ?_
  refine gf (k := 17) hx hb hts inX9 hown hK hP k_812 rfl (by decide) rfl 10 rfl (.ref a7) rfl dX9_findSteps_203 ?_
  refine lv_iload_n hx hb dX9_findSteps_206 rfl (lv_at hl 0 rfl) ?_
  refine lv_iconst (v := 1) hx hb dX9_findSteps_207 (by decide) ?_
  refine v_isub hx hb dX9_findSteps_208 0 (by decide +kernel) ?_
  refine ld_i hx hb hK hP 0 rfl (vin (by decide +kernel)) dX9_findSteps_209 0 rfl ?_
  refine v_iadd hx hb dX9_findSteps_210 2 (by decide +kernel) ?_
  refine st_i hx hb hK hP hD hS 0 rfl (vin (by decide +kernel)) dX9_findSteps_211 (L' := [0, 2]) rfl (W' := [(a7, .inl (cI, 6001, .inl (tb [0, 2]))), (a8, .inl (cI, 100000, .inl (tb []))), (a9, .inl (cI, 24000, .inl (tb []))), (a10, .inl (cI, 6000, .inl (tb []))), (a3, .inl (cI, 4, .inl (tb [0]))), (a5, .inl (cI, 400000, .inl (tb [(-1), 0, 0, 0, 1, 0, 0, 0]))), (a6, .inl (cI, 100000, .inl (tb [1, 1]))), (a1, .inl (cI, 3, .inl (tb [0, 0, 0]))), (a2, .inl (cI, 3, .inl (tb [0, 0, 0]))), (a4, .inl (cI, 4, .inl (tb [1]))), (a0, .inr (9, [.ref a11, .ref a12, .ref a13, .ref a14, .ref a15, .ref a16, .ref a17, .ref a18, .ref a19, .ref a20, .ref a21, .ref a22, .int 1, .int 0, .int 1, .ref a5, .ref a6, .ref a7, .ref a8, .ref a9, .ref a10, .int 2, .int 0, .ref a2, .ref a1, .ref a3, .ref a4, .int 0, .int 1, .ref a23, .ref a24, .ref a25, .ref a26, .int 1, .ref a27, .int 11]))]) rfl (fun H locs hP hD hS => ?_)
  refine lv_iinc (v := 2) (lv' := [(2, .int 2), (1, .int 1), (0, .ref a0)]) hx hb dX9_findSteps_212 hl (k := 0) rfl (by decide +kernel) (by decide) rfl (fun ls hl => ?_)
  refine lv_goto (tgt := 188) hx hb dX9_findSteps_215 (by decide) ?_
  refine fs3e hx hb hts hown hK hP hD hS hl 10 0 (by decide) rfl rfl rfl (W' := [(a7, .inl (cI, 6001, .inl (tb (0 :: List.replicate 6000 2)))), (a8, .inl (cI, 100000, .inl (tb []))), (a9, .inl (cI, 24000, .inl (tb []))), (a10, .inl (cI, 6000, .inl (tb []))), (a3, .inl (cI, 4, .inl (tb [0]))), (a5, .inl (cI, 400000, .inl (tb [(-1), 0, 0, 0, 1, 0, 0, 0]))), (a6, .inl (cI, 100000, .inl (tb [1, 1]))), (a1, .inl (cI, 3, .inl (tb [0, 0, 0]))), (a2, .inl (cI, 3, .inl (tb [0, 0, 0]))), (a4, .inl (cI, 4, .inl (tb [1]))), (a0, .inr (9, [.ref a11, .ref a12, .ref a13, .ref a14, .ref a15, .ref a16, .ref a17, .ref a18, .ref a19, .ref a20, .ref a21, .ref a22, .int 1, .int 0, .int 1, .ref a5, .ref a6, .ref a7, .ref a8, .ref a9, .ref a10, .int 2, .int 0, .ref a2, .ref a1, .ref a3, .ref a4, .int 0, .int 1, .ref a23, .ref a24, .ref a25, .ref a26, .int 1, .ref a27, .int 11]))]) rfl (fun H locs ls hP hD hS hl => ?_)
  refine lv_aload_n hx hb dX9_findSteps_218 rfl (lv_at hl 2 rfl) ?_
  refine gf (k := 21) hx hb hts inX9 hown hK hP k_816 rfl (by decide) rfl 10 rfl (.int 2) rfl dX9_findSteps_219 ?_
  refine lv_iconst (v := 1) hx hb dX9_findSteps_222 (by decide) ?_
  exact c581_X9_findSteps_s1 l dC dI cI cJ cII cJJ g a0 a1 a2 a3 a4 a5 a6 a7 a8 a9 a10 a11 a12 a13 a14 a15 a16 a17 a18 a19 a20 a21 a22 a23 a24 a25 a26 a27 hx hb hr hml hown hts hk hA hK hP hD hS hX hl
set_option maxRecDepth 100000 in
set_option maxHeartbeats 4000000 in
theorem c597_X9_at (l : Launch) (dC : Nat → ClassId) (dI : Nat → Nat → Nat) (cI cJ cII cJJ : ClassId) (sz g a0 a1 a2 a3 a4 a5 a6 a7 a8 a9 a10 a11 a12 a13 a14 a15 a16 a17 a18 a19 a20 a21 a22 a23 a24 a25 a26 a27 : Nat) : Met l yX9_at (.code yX9_at cX9_at 3 (some .int) :: TT) ({ frames := 2, cells := 0, slots := 0, locals := 80 }) (PcS dC dI (TY cI cJ cII cJJ) [.ref a0, .int 0, .int 0] [(a0, .inr (9, [.ref a3, .ref a4, .ref a5, .ref a6, .ref a7, .ref a8, .ref a9, .ref a10, .ref a11, .ref a12, .ref a13, .ref a14, .int 1, .int 0, .int 1, .ref a15, .ref a16, .ref a17, .ref a18, .ref a2, .ref a1, .int 2, .int 2, .ref a19, .ref a20, .ref a21, .ref a22, .int 0, .int 1, .ref a23, .ref a24, .ref a25, .ref a26, .int 1, .ref a27, .int 11])), (a1, .inl (cI, 6000, .inl (tb [0, 1]))), (a2, .inl (cI, 24000, .inl (tb [(-1), 0, 0, 0, 1, 0, 0, 0])))] sz 0 g) ((QcI dC dI (TY cI cJ cII cJJ) (-1) [(a0, .inr (9, [.ref a3, .ref a4, .ref a5, .ref a6, .ref a7, .ref a8, .ref a9, .ref a10, .ref a11, .ref a12, .ref a13, .ref a14, .int 1, .int 0, .int 1, .ref a15, .ref a16, .ref a17, .ref a18, .ref a2, .ref a1, .int 2, .int 2, .ref a19, .ref a20, .ref a21, .ref a22, .int 0, .int 1, .ref a23, .ref a24, .ref a25, .ref a26, .int 1, .ref a27, .int 11])), (a1, .inl (cI, 6000, .inl (tb [0, 1]))), (a2, .inl (cI, 24000, .inl (tb [(-1), 0, 0, 0, 1, 0, 0, 0])))]) (va_A [(a0, .inr (9, [.ref a3, .ref a4, .ref a5, .ref a6, .ref a7, .ref a8, .ref a9, .ref a10, .ref a11, .ref a12, .ref a13, .ref a14, .int 1, .int 0, .int 1, .ref a15, .ref a16, .ref a17, .ref a18, .ref a2, .ref a1, .int 2, .int 2, .ref a19, .ref a20, .ref a21, .ref a22, .int 0, .int 1, .ref a23, .ref a24, .ref a25, .ref a26, .int 1, .ref a27, .int 11])), (a1, .inl (cI, 6000, .inl (tb [0, 1]))), (a2, .inl (cI, 24000, .inl (tb [(-1), 0, 0, 0, 1, 0, 0, 0])))] sz)) 0 0 (va_A [(a0, .inr (9, [.ref a3, .ref a4, .ref a5, .ref a6, .ref a7, .ref a8, .ref a9, .ref a10, .ref a11, .ref a12, .ref a13, .ref a14, .int 1, .int 0, .int 1, .ref a15, .ref a16, .ref a17, .ref a18, .ref a2, .ref a1, .int 2, .int 2, .ref a19, .ref a20, .ref a21, .ref a22, .int 0, .int 1, .ref a23, .ref a24, .ref a25, .ref a26, .int 1, .ref a27, .int 11])), (a1, .inl (cI, 6000, .inl (tb [0, 1]))), (a2, .inl (cI, 24000, .inl (tb [(-1), 0, 0, 0, 1, 0, 0, 0])))] sz) := by
  refine SM.of (y := yX9_at) (maxL := 3) (av := [.ref a0, .int 0, .int 0]) (QcI dC dI (TY cI cJ cII cJJ) (-1) [(a0, .inr (9, [.ref a3, .ref a4, .ref a5, .ref a6, .ref a7, .ref a8, .ref a9, .ref a10, .ref a11, .ref a12, .ref a13, .ref a14, .int 1, .int 0, .int 1, .ref a15, .ref a16, .ref a17, .ref a18, .ref a2, .ref a1, .int 2, .int 2, .ref a19, .ref a20, .ref a21, .ref a22, .int 0, .int 1, .ref a23, .ref a24, .ref a25, .ref a26, .int 1, .ref a27, .int 11])), (a1, .inl (cI, 6000, .inl (tb [0, 1]))), (a2, .inl (cI, 24000, .inl (tb [(-1), 0, 0, 0, 1, 0, 0, 0])))]) (by decide +kernel) (Nat.le_of_ble_eq_true rfl) (fun p e s m below meth c A ls hx hb hr hml hown hts hk hnm hA hK hP hD hS hX hl => ?_)
  have hown : s.vm.findClass RX9 = some m.cls := hown
  have hl : lv_has ls 3 [(0, .ref a0), (1, .int 0), (2, .int 0)] := hl
  refine lv_aload_n hx hb dX9_at_0 rfl (lv_at hl 0 rfl) ?_
  refine gf (k := 19) hx hb hts inX9 hown hK hP k_814 rfl (by decide) rfl 0 rfl (.ref a2) rfl dX9_at_1 ?_
  refine lv_iconst (v := 4) hx hb dX9_at_4 (by decide) ?_
  refine lv_aload_n hx hb dX9_at_5 rfl (lv_at hl 0 rfl) ?_
  refine gf (k := 20) hx hb hts inX9 hown hK hP k_815 rfl (by decide) rfl 0 rfl (.ref a1) rfl dX9_at_6 ?_
  refine lv_iload_n hx hb dX9_at_9 rfl (lv_at hl 1 rfl) ?_
  refine ld_i hx hb hK hP 1 rfl (vin (by decide +kernel)) dX9_at_10 0 rfl ?_
  refine v_imul hx hb dX9_at_11 0 (by decide +kernel) ?_
  refine lv_iload_n hx hb dX9_at_12 rfl (lv_at hl 2 rfl) ?_
  refine v_iadd hx hb dX9_at_13 0 (by decide +kernel) ?_
  refine ld_i hx hb hK hP 2 rfl (vin (by decide +kernel)) dX9_at_14 (-1) rfl ?_
  exact r_i hx hb hr hk hK hP hD hS dX9_at_15
set_option maxRecDepth 100000 in
set_option maxHeartbeats 4000000 in
theorem c598_X9_isPlan (l : Launch) (dC : Nat → ClassId) (dI : Nat → Nat → Nat) (cI cJ cII cJJ : ClassId) (sz g a0 a1 a2 a3 a4 a5 a6 a7 a8 a9 a10 a11 a12 a13 a14 a15 a16 a17 a18 a19 a20 a21 a22 a23 a24 a25 a26 a27 : Nat) : Met l yX9_isPlan (.code yX9_isPlan cX9_isPlan 5 (some .boolean) :: TT) ({ frames := 2, cells := 0, slots := 0, locals := 80 }) (PcS dC dI (TY cI cJ cII cJJ) [.ref a0, .ref a2, .int 0] [(a0, .inr (9, [.ref a3, .ref a4, .ref a1, .ref a5, .ref a6, .ref a7, .ref a8, .ref a9, .ref a10, .ref a11, .ref a12, .ref a13, .int 1, .int 0, .int 1, .ref a14, .ref a15, .ref a16, .ref a17, .ref a18, .ref a19, .int 2, .int 2, .ref a20, .ref a21, .ref a22, .ref a23, .int 0, .int 1, .ref a24, .ref a25, .ref a26, .ref a2, .int 1, .ref a27, .int 11])), (a1, .inl (cI, 4, .inl (tb [0, 0, 0, 0]))), (a2, .inl (cI, 4, .inl (tb [(-1)])))] sz 0 g) ((QcI dC dI (TY cI cJ cII cJJ) 0 [(a0, .inr (9, [.ref a3, .ref a4, .ref a1, .ref a5, .ref a6, .ref a7, .ref a8, .ref a9, .ref a10, .ref a11, .ref a12, .ref a13, .int 1, .int 0, .int 1, .ref a14, .ref a15, .ref a16, .ref a17, .ref a18, .ref a19, .int 2, .int 2, .ref a20, .ref a21, .ref a22, .ref a23, .int 0, .int 1, .ref a24, .ref a25, .ref a26, .ref a2, .int 1, .ref a27, .int 11])), (a1, .inl (cI, 4, .inl (tb [0, 0, 0, 0]))), (a2, .inl (cI, 4, .inl (tb [(-1)])))]) (va_A [(a0, .inr (9, [.ref a3, .ref a4, .ref a1, .ref a5, .ref a6, .ref a7, .ref a8, .ref a9, .ref a10, .ref a11, .ref a12, .ref a13, .int 1, .int 0, .int 1, .ref a14, .ref a15, .ref a16, .ref a17, .ref a18, .ref a19, .int 2, .int 2, .ref a20, .ref a21, .ref a22, .ref a23, .int 0, .int 1, .ref a24, .ref a25, .ref a26, .ref a2, .int 1, .ref a27, .int 11])), (a1, .inl (cI, 4, .inl (tb [0, 0, 0, 0]))), (a2, .inl (cI, 4, .inl (tb [(-1)])))] sz)) 0 0 (va_A [(a0, .inr (9, [.ref a3, .ref a4, .ref a1, .ref a5, .ref a6, .ref a7, .ref a8, .ref a9, .ref a10, .ref a11, .ref a12, .ref a13, .int 1, .int 0, .int 1, .ref a14, .ref a15, .ref a16, .ref a17, .ref a18, .ref a19, .int 2, .int 2, .ref a20, .ref a21, .ref a22, .ref a23, .int 0, .int 1, .ref a24, .ref a25, .ref a26, .ref a2, .int 1, .ref a27, .int 11])), (a1, .inl (cI, 4, .inl (tb [0, 0, 0, 0]))), (a2, .inl (cI, 4, .inl (tb [(-1)])))] sz) := by
  refine SM.of (y := yX9_isPlan) (maxL := 5) (av := [.ref a0, .ref a2, .int 0]) (QcI dC dI (TY cI cJ cII cJJ) 0 [(a0, .inr (9, [.ref a3, .ref a4, .ref a1, .ref a5, .ref a6, .ref a7, .ref a8, .ref a9, .ref a10, .ref a11, .ref a12, .ref a13, .int 1, .int 0, .int 1, .ref a14, .ref a15, .ref a16, .ref a17, .ref a18, .ref a19, .int 2, .int 2, .ref a20, .ref a21, .ref a22, .ref a23, .int 0, .int 1, .ref a24, .ref a25, .ref a26, .ref a2, .int 1, .ref a27, .int 11])), (a1, .inl (cI, 4, .inl (tb [0, 0, 0, 0]))), (a2, .inl (cI, 4, .inl (tb [(-1)])))]) (by decide +kernel) (Nat.le_of_ble_eq_true rfl) (fun p e s m below meth c A ls hx hb hr hml hown hts hk hnm hA hK hP hD hS hX hl => ?_)
  have hown : s.vm.findClass RX9 = some m.cls := hown
  have hl : lv_has ls 5 [(0, .ref a0), (1, .ref a2), (2, .int 0)] := hl
  refine lv_iconst (v := 1) hx hb dX9_isPlan_0 (by decide) ?_
  refine lv_istore_n (lv' := [(3, .int 1), (0, .ref a0), (1, .ref a2), (2, .int 0)]) hx hb dX9_isPlan_1 rfl hl (by decide) rfl (fun ls hl => ?_)
  refine lv_iconst (v := 0) hx hb dX9_isPlan_2 (by decide) ?_
  refine lv_istore (lv' := [(4, .int 0), (3, .int 1), (0, .ref a0), (1, .ref a2), (2, .int 0)]) hx hb dX9_isPlan_3 hl (by decide) rfl (fun ls hl => ?_)
  refine lv_iload hx hb dX9_isPlan_5 (lv_at hl 0 rfl) ?_
  refine lv_aload_n hx hb dX9_isPlan_7 rfl (lv_at hl 2 rfl) ?_
  refine gf (k := 12) hx hb hts inX9 hown hK hP k_807 rfl (by decide) rfl 0 rfl (.int 1) rfl dX9_isPlan_8 ?_
  refine f_icmp_ge hx hb dX9_isPlan_11 62 (by decide) (by decide +kernel) ?_
  refine lv_iload_n hx hb dX9_isPlan_14 rfl (lv_at hl 1 rfl) ?_
  refine f_if_eq hx hb dX9_isPlan_15 62 (by decide) (by decide +kernel) ?_
  refine lv_aload_n hx hb dX9_isPlan_18 rfl (lv_at hl 2 rfl) ?_
  refine gf (k := 2) hx hb hts inX9 hown hK hP k_797 rfl (by decide) rfl 0 rfl (.ref a1) rfl dX9_isPlan_19 ?_
  refine lv_iload hx hb dX9_isPlan_22 (lv_at hl 0 rfl) ?_
  refine ld_i hx hb hK hP 1 rfl (vin (by decide +kernel)) dX9_isPlan_24 0 rfl ?_
  refine lv_aload_n hx hb dX9_isPlan_25 rfl (lv_at hl 3 rfl) ?_
  refine lv_iload_n hx hb dX9_isPlan_26 rfl (lv_at hl 4 rfl) ?_
  refine lv_iload hx hb dX9_isPlan_27 (lv_at hl 0 rfl) ?_
  refine v_iadd hx hb dX9_isPlan_29 0 (by decide +kernel) ?_
  refine ld_i hx hb hK hP 2 rfl (vin (by decide +kernel)) dX9_isPlan_30 (-1) rfl ?_
  refine t_icmp_gt hx hb dX9_isPlan_31 54 (by decide) (by decide +kernel) ?_
  refine lv_iconst (v := 0) hx hb dX9_isPlan_54 (by decide) ?_
  refine lv_istore_n (lv' := [(3, .int 0), (4, .int 0), (0, .ref a0), (1, .ref a2), (2, .int 0)]) hx hb dX9_isPlan_55 rfl hl (by decide) rfl (fun ls hl => ?_)
  refine lv_iinc (v := 1) (lv' := [(4, .int 1), (3, .int 0), (0, .ref a0), (1, .ref a2), (2, .int 0)]) hx hb dX9_isPlan_56 hl (k := 1) rfl (by decide +kernel) (by decide) rfl (fun ls hl => ?_)
  refine lv_goto (tgt := 5) hx hb dX9_isPlan_59 (by decide) ?_
  refine lv_iload hx hb dX9_isPlan_5 (lv_at hl 0 rfl) ?_
  refine lv_aload_n hx hb dX9_isPlan_7 rfl (lv_at hl 2 rfl) ?_
  refine gf (k := 12) hx hb hts inX9 hown hK hP k_807 rfl (by decide) rfl 0 rfl (.int 1) rfl dX9_isPlan_8 ?_
  refine t_icmp_ge hx hb dX9_isPlan_11 62 (by decide) (by decide +kernel) ?_
  refine lv_iconst (v := 0) hx hb dX9_isPlan_62 (by decide) ?_
  refine lv_istore (lv' := [(4, .int 0), (3, .int 0), (0, .ref a0), (1, .ref a2), (2, .int 0)]) hx hb dX9_isPlan_63 hl (by decide) rfl (fun ls hl => ?_)
  refine lv_iload hx hb dX9_isPlan_65 (lv_at hl 0 rfl) ?_
  refine lv_aload_n hx hb dX9_isPlan_67 rfl (lv_at hl 2 rfl) ?_
  refine gf (k := 13) hx hb hts inX9 hown hK hP k_808 rfl (by decide) rfl 0 rfl (.int 0) rfl dX9_isPlan_68 ?_
  refine t_icmp_ge hx hb dX9_isPlan_71 108 (by decide) (by decide +kernel) ?_
  refine lv_iload_n hx hb dX9_isPlan_108 rfl (lv_at hl 1 rfl) ?_
  exact r_z hx hb hr hk hK hP hD hS dX9_isPlan_109 rfl
set_option maxRecDepth 100000 in
set_option maxHeartbeats 4000000 in
theorem c599_X9_at (l : Launch) (dC : Nat → ClassId) (dI : Nat → Nat → Nat) (cI cJ cII cJJ : ClassId) (sz g a0 a1 a2 a3 a4 a5 a6 a7 a8 a9 a10 a11 a12 a13 a14 a15 a16 a17 a18 a19 a20 a21 a22 a23 a24 a25 a26 a27 : Nat) : Met l yX9_at (.code yX9_at cX9_at 3 (some .int) :: TT) ({ frames := 2, cells := 0, slots := 0, locals := 80 }) (PcS dC dI (TY cI cJ cII cJJ) [.ref a0, .int 1, .int 0] [(a0, .inr (9, [.ref a3, .ref a4, .ref a5, .ref a6, .ref a7, .ref a8, .ref a9, .ref a10, .ref a11, .ref a12, .ref a13, .ref a14, .int 1, .int 0, .int 1, .ref a15, .ref a16, .ref a17, .ref a18, .ref a2, .ref a1, .int 2, .int 2, .ref a19, .ref a20, .ref a21, .ref a22, .int 0, .int 1, .ref a23, .ref a24, .ref a25, .ref a26, .int 1, .ref a27, .int 11])), (a1, .inl (cI, 6000, .inl (tb [0, 1]))), (a2, .inl (cI, 24000, .inl (tb [(-1), 0, 0, 0, 1, 0, 0, 0])))] sz 0 g) ((QcI dC dI (TY cI cJ cII cJJ) 1 [(a0, .inr (9, [.ref a3, .ref a4, .ref a5, .ref a6, .ref a7, .ref a8, .ref a9, .ref a10, .ref a11, .ref a12, .ref a13, .ref a14, .int 1, .int 0, .int 1, .ref a15, .ref a16, .ref a17, .ref a18, .ref a2, .ref a1, .int 2, .int 2, .ref a19, .ref a20, .ref a21, .ref a22, .int 0, .int 1, .ref a23, .ref a24, .ref a25, .ref a26, .int 1, .ref a27, .int 11])), (a1, .inl (cI, 6000, .inl (tb [0, 1]))), (a2, .inl (cI, 24000, .inl (tb [(-1), 0, 0, 0, 1, 0, 0, 0])))]) (va_A [(a0, .inr (9, [.ref a3, .ref a4, .ref a5, .ref a6, .ref a7, .ref a8, .ref a9, .ref a10, .ref a11, .ref a12, .ref a13, .ref a14, .int 1, .int 0, .int 1, .ref a15, .ref a16, .ref a17, .ref a18, .ref a2, .ref a1, .int 2, .int 2, .ref a19, .ref a20, .ref a21, .ref a22, .int 0, .int 1, .ref a23, .ref a24, .ref a25, .ref a26, .int 1, .ref a27, .int 11])), (a1, .inl (cI, 6000, .inl (tb [0, 1]))), (a2, .inl (cI, 24000, .inl (tb [(-1), 0, 0, 0, 1, 0, 0, 0])))] sz)) 0 0 (va_A [(a0, .inr (9, [.ref a3, .ref a4, .ref a5, .ref a6, .ref a7, .ref a8, .ref a9, .ref a10, .ref a11, .ref a12, .ref a13, .ref a14, .int 1, .int 0, .int 1, .ref a15, .ref a16, .ref a17, .ref a18, .ref a2, .ref a1, .int 2, .int 2, .ref a19, .ref a20, .ref a21, .ref a22, .int 0, .int 1, .ref a23, .ref a24, .ref a25, .ref a26, .int 1, .ref a27, .int 11])), (a1, .inl (cI, 6000, .inl (tb [0, 1]))), (a2, .inl (cI, 24000, .inl (tb [(-1), 0, 0, 0, 1, 0, 0, 0])))] sz) := by
  refine SM.of (y := yX9_at) (maxL := 3) (av := [.ref a0, .int 1, .int 0]) (QcI dC dI (TY cI cJ cII cJJ) 1 [(a0, .inr (9, [.ref a3, .ref a4, .ref a5, .ref a6, .ref a7, .ref a8, .ref a9, .ref a10, .ref a11, .ref a12, .ref a13, .ref a14, .int 1, .int 0, .int 1, .ref a15, .ref a16, .ref a17, .ref a18, .ref a2, .ref a1, .int 2, .int 2, .ref a19, .ref a20, .ref a21, .ref a22, .int 0, .int 1, .ref a23, .ref a24, .ref a25, .ref a26, .int 1, .ref a27, .int 11])), (a1, .inl (cI, 6000, .inl (tb [0, 1]))), (a2, .inl (cI, 24000, .inl (tb [(-1), 0, 0, 0, 1, 0, 0, 0])))]) (by decide +kernel) (Nat.le_of_ble_eq_true rfl) (fun p e s m below meth c A ls hx hb hr hml hown hts hk hnm hA hK hP hD hS hX hl => ?_)
  have hown : s.vm.findClass RX9 = some m.cls := hown
  have hl : lv_has ls 3 [(0, .ref a0), (1, .int 1), (2, .int 0)] := hl
  refine lv_aload_n hx hb dX9_at_0 rfl (lv_at hl 0 rfl) ?_
  refine gf (k := 19) hx hb hts inX9 hown hK hP k_814 rfl (by decide) rfl 0 rfl (.ref a2) rfl dX9_at_1 ?_
  refine lv_iconst (v := 4) hx hb dX9_at_4 (by decide) ?_
  refine lv_aload_n hx hb dX9_at_5 rfl (lv_at hl 0 rfl) ?_
  refine gf (k := 20) hx hb hts inX9 hown hK hP k_815 rfl (by decide) rfl 0 rfl (.ref a1) rfl dX9_at_6 ?_
  refine lv_iload_n hx hb dX9_at_9 rfl (lv_at hl 1 rfl) ?_
  refine ld_i hx hb hK hP 1 rfl (vin (by decide +kernel)) dX9_at_10 1 rfl ?_
  refine v_imul hx hb dX9_at_11 4 (by decide +kernel) ?_
  refine lv_iload_n hx hb dX9_at_12 rfl (lv_at hl 2 rfl) ?_
  refine v_iadd hx hb dX9_at_13 4 (by decide +kernel) ?_
  refine ld_i hx hb hK hP 2 rfl (vin (by decide +kernel)) dX9_at_14 1 rfl ?_
  exact r_i hx hb hr hk hK hP hD hS dX9_at_15
set_option maxRecDepth 100000 in
set_option maxHeartbeats 4000000 in
theorem c600_X9_isPlan (l : Launch) (dC : Nat → ClassId) (dI : Nat → Nat → Nat) (cI cJ cII cJJ : ClassId) (sz g a0 a1 a2 a3 a4 a5 a6 a7 a8 a9 a10 a11 a12 a13 a14 a15 a16 a17 a18 a19 a20 a21 a22 a23 a24 a25 a26 a27 : Nat) : Met l yX9_isPlan (.code yX9_isPlan cX9_isPlan 5 (some .boolean) :: TT) ({ frames := 2, cells := 0, slots := 0, locals := 80 }) (PcS dC dI (TY cI cJ cII cJJ) [.ref a0, .ref a2, .int 0] [(a0, .inr (9, [.ref a4, .ref a5, .ref a1, .ref a3, .ref a6, .ref a7, .ref a8, .ref a9, .ref a10, .ref a11, .ref a12, .ref a13, .int 1, .int 0, .int 1, .ref a14, .ref a15, .ref a16, .ref a17, .ref a18, .ref a19, .int 2, .int 2, .ref a20, .ref a21, .ref a22, .ref a23, .int 0, .int 1, .ref a24, .ref a25, .ref a26, .ref a2, .int 1, .ref a27, .int 11])), (a1, .inl (cI, 4, .inl (tb [0, 0, 0, 0]))), (a2, .inl (cI, 4, .inl (tb [1]))), (a3, .inl (cI, 4, .inl (tb [10, 10, 10, 10])))] sz 0 g) ((QcI dC dI (TY cI cJ cII cJJ) 1 [(a0, .inr (9, [.ref a4, .ref a5, .ref a1, .ref a3, .ref a6, .ref a7, .ref a8, .ref a9, .ref a10, .ref a11, .ref a12, .ref a13, .int 1, .int 0, .int 1, .ref a14, .ref a15, .ref a16, .ref a17, .ref a18, .ref a19, .int 2, .int 2, .ref a20, .ref a21, .ref a22, .ref a23, .int 0, .int 1, .ref a24, .ref a25, .ref a26, .ref a2, .int 1, .ref a27, .int 11])), (a1, .inl (cI, 4, .inl (tb [0, 0, 0, 0]))), (a2, .inl (cI, 4, .inl (tb [1]))), (a3, .inl (cI, 4, .inl (tb [10, 10, 10, 10])))]) (va_A [(a0, .inr (9, [.ref a4, .ref a5, .ref a1, .ref a3, .ref a6, .ref a7, .ref a8, .ref a9, .ref a10, .ref a11, .ref a12, .ref a13, .int 1, .int 0, .int 1, .ref a14, .ref a15, .ref a16, .ref a17, .ref a18, .ref a19, .int 2, .int 2, .ref a20, .ref a21, .ref a22, .ref a23, .int 0, .int 1, .ref a24, .ref a25, .ref a26, .ref a2, .int 1, .ref a27, .int 11])), (a1, .inl (cI, 4, .inl (tb [0, 0, 0, 0]))), (a2, .inl (cI, 4, .inl (tb [1]))), (a3, .inl (cI, 4, .inl (tb [10, 10, 10, 10])))] sz)) 0 0 (va_A [(a0, .inr (9, [.ref a4, .ref a5, .ref a1, .ref a3, .ref a6, .ref a7, .ref a8, .ref a9, .ref a10, .ref a11, .ref a12, .ref a13, .int 1, .int 0, .int 1, .ref a14, .ref a15, .ref a16, .ref a17, .ref a18, .ref a19, .int 2, .int 2, .ref a20, .ref a21, .ref a22, .ref a23, .int 0, .int 1, .ref a24, .ref a25, .ref a26, .ref a2, .int 1, .ref a27, .int 11])), (a1, .inl (cI, 4, .inl (tb [0, 0, 0, 0]))), (a2, .inl (cI, 4, .inl (tb [1]))), (a3, .inl (cI, 4, .inl (tb [10, 10, 10, 10])))] sz) := by
  refine SM.of (y := yX9_isPlan) (maxL := 5) (av := [.ref a0, .ref a2, .int 0]) (QcI dC dI (TY cI cJ cII cJJ) 1 [(a0, .inr (9, [.ref a4, .ref a5, .ref a1, .ref a3, .ref a6, .ref a7, .ref a8, .ref a9, .ref a10, .ref a11, .ref a12, .ref a13, .int 1, .int 0, .int 1, .ref a14, .ref a15, .ref a16, .ref a17, .ref a18, .ref a19, .int 2, .int 2, .ref a20, .ref a21, .ref a22, .ref a23, .int 0, .int 1, .ref a24, .ref a25, .ref a26, .ref a2, .int 1, .ref a27, .int 11])), (a1, .inl (cI, 4, .inl (tb [0, 0, 0, 0]))), (a2, .inl (cI, 4, .inl (tb [1]))), (a3, .inl (cI, 4, .inl (tb [10, 10, 10, 10])))]) (by decide +kernel) (Nat.le_of_ble_eq_true rfl) (fun p e s m below meth c A ls hx hb hr hml hown hts hk hnm hA hK hP hD hS hX hl => ?_)
  have hown : s.vm.findClass RX9 = some m.cls := hown
  have hl : lv_has ls 5 [(0, .ref a0), (1, .ref a2), (2, .int 0)] := hl
  refine lv_iconst (v := 1) hx hb dX9_isPlan_0 (by decide) ?_
  refine lv_istore_n (lv' := [(3, .int 1), (0, .ref a0), (1, .ref a2), (2, .int 0)]) hx hb dX9_isPlan_1 rfl hl (by decide) rfl (fun ls hl => ?_)
  refine lv_iconst (v := 0) hx hb dX9_isPlan_2 (by decide) ?_
  refine lv_istore (lv' := [(4, .int 0), (3, .int 1), (0, .ref a0), (1, .ref a2), (2, .int 0)]) hx hb dX9_isPlan_3 hl (by decide) rfl (fun ls hl => ?_)
  refine lv_iload hx hb dX9_isPlan_5 (lv_at hl 0 rfl) ?_
  refine lv_aload_n hx hb dX9_isPlan_7 rfl (lv_at hl 2 rfl) ?_
  refine gf (k := 12) hx hb hts inX9 hown hK hP k_807 rfl (by decide) rfl 0 rfl (.int 1) rfl dX9_isPlan_8 ?_
  refine f_icmp_ge hx hb dX9_isPlan_11 62 (by decide) (by decide +kernel) ?_
  refine lv_iload_n hx hb dX9_isPlan_14 rfl (lv_at hl 1 rfl) ?_
  refine f_if_eq hx hb dX9_isPlan_15 62 (by decide) (by decide +kernel) ?_
  refine lv_aload_n hx hb dX9_isPlan_18 rfl (lv_at hl 2 rfl) ?_
  refine gf (k := 2) hx hb hts inX9 hown hK hP k_797 rfl (by decide) rfl 0 rfl (.ref a1) rfl dX9_isPlan_19 ?_
  refine lv_iload hx hb dX9_isPlan_22 (lv_at hl 0 rfl) ?_
  refine ld_i hx hb hK hP 1 rfl (vin (by decide +kernel)) dX9_isPlan_24 0 rfl ?_
  refine lv_aload_n hx hb dX9_isPlan_25 rfl (lv_at hl 3 rfl) ?_
  refine lv_iload_n hx hb dX9_isPlan_26 rfl (lv_at hl 4 rfl) ?_
  refine lv_iload hx hb dX9_isPlan_27 (lv_at hl 0 rfl) ?_
  refine v_iadd hx hb dX9_isPlan_29 0 (by decide +kernel) ?_
  refine ld_i hx hb hK hP 2 rfl (vin (by decide +kernel)) dX9_isPlan_30 1 rfl ?_
  refine f_icmp_gt hx hb dX9_isPlan_31 54 (by decide) (by decide +kernel) ?_
  refine lv_aload_n hx hb dX9_isPlan_34 rfl (lv_at hl 3 rfl) ?_
  refine lv_iload_n hx hb dX9_isPlan_35 rfl (lv_at hl 4 rfl) ?_
  refine lv_iload hx hb dX9_isPlan_36 (lv_at hl 0 rfl) ?_
  refine v_iadd hx hb dX9_isPlan_38 0 (by decide +kernel) ?_
  refine ld_i hx hb hK hP 2 rfl (vin (by decide +kernel)) dX9_isPlan_39 1 rfl ?_
  refine lv_aload_n hx hb dX9_isPlan_40 rfl (lv_at hl 2 rfl) ?_
  refine gf (k := 3) hx hb hts inX9 hown hK hP k_798 rfl (by decide) rfl 0 rfl (.ref a3) rfl dX9_isPlan_41 ?_
  refine lv_iload hx hb dX9_isPlan_44 (lv_at hl 0 rfl) ?_
  refine ld_i hx hb hK hP 3 rfl (vin (by decide +kernel)) dX9_isPlan_46 10 rfl ?_
  refine f_icmp_gt hx hb dX9_isPlan_47 54 (by decide) (by decide +kernel) ?_
  refine lv_iconst (v := 1) hx hb dX9_isPlan_50 (by decide) ?_
  refine lv_goto (tgt := 55) hx hb dX9_isPlan_51 (by decide) ?_
  refine lv_istore_n (lv' := [(3, .int 1), (4, .int 0), (0, .ref a0), (1, .ref a2), (2, .int 0)]) hx hb dX9_isPlan_55 rfl hl (by decide) rfl (fun ls hl => ?_)
  refine lv_iinc (v := 1) (lv' := [(4, .int 1), (3, .int 1), (0, .ref a0), (1, .ref a2), (2, .int 0)]) hx hb dX9_isPlan_56 hl (k := 1) rfl (by decide +kernel) (by decide) rfl (fun ls hl => ?_)
  refine lv_goto (tgt := 5) hx hb dX9_isPlan_59 (by decide) ?_
  refine lv_iload hx hb dX9_isPlan_5 (lv_at hl 0 rfl) ?_
  refine lv_aload_n hx hb dX9_isPlan_7 rfl (lv_at hl 2 rfl) ?_
  refine gf (k := 12) hx hb hts inX9 hown hK hP k_807 rfl (by decide) rfl 0 rfl (.int 1) rfl dX9_isPlan_8 ?_
  refine t_icmp_ge hx hb dX9_isPlan_11 62 (by decide) (by decide +kernel) ?_
  refine lv_iconst (v := 0) hx hb dX9_isPlan_62 (by decide) ?_
  refine lv_istore (lv' := [(4, .int 0), (3, .int 1), (0, .ref a0), (1, .ref a2), (2, .int 0)]) hx hb dX9_isPlan_63 hl (by decide) rfl (fun ls hl => ?_)
  refine lv_iload hx hb dX9_isPlan_65 (lv_at hl 0 rfl) ?_
  refine lv_aload_n hx hb dX9_isPlan_67 rfl (lv_at hl 2 rfl) ?_
  refine gf (k := 13) hx hb hts inX9 hown hK hP k_808 rfl (by decide) rfl 0 rfl (.int 0) rfl dX9_isPlan_68 ?_
  refine t_icmp_ge hx hb dX9_isPlan_71 108 (by decide) (by decide +kernel) ?_
  refine lv_iload_n hx hb dX9_isPlan_108 rfl (lv_at hl 1 rfl) ?_
  exact r_z hx hb hr hk hK hP hD hS dX9_isPlan_109 rfl
set_option maxRecDepth 100000 in
set_option maxHeartbeats 4000000 in
theorem c579_X9_near (l : Launch) (dC : Nat → ClassId) (dI : Nat → Nat → Nat) (cI cJ cII cJJ : ClassId) (sz g a0 a1 a2 a3 a4 a5 a6 a7 a8 a9 a10 a11 a12 a13 a14 a15 a16 a17 a18 a19 a20 a21 a22 a23 a24 a25 a26 a27 : Nat) : Met l yX9_near (.code yX9_near cX9_near 5 (some .int) :: TT) ({ frames := 7, cells := 0, slots := 0, locals := 380 }) (PcS dC dI (TY cI cJ cII cJJ) [.ref a0, .int 0] [(a0, .inr (9, [.ref a15, .ref a16, .ref a1, .ref a2, .ref a17, .ref a18, .ref a19, .ref a20, .ref a21, .ref a22, .ref a23, .ref a24, .int 1, .int 0, .int 0, .ref a9, .ref a10, .ref a11, .ref a12, .ref a13, .ref a14, .int 0, .int 0, .ref a6, .ref a5, .ref a7, .ref a8, .int 0, .int 0, .ref a25, .ref a26, .ref a27, .ref a3, .int 0, .ref a4, .int 0])), (a1, .inl (cI, 4, .inl (tb [0, 0, 0, 0]))), (a2, .inl (cI, 4, .inl (tb [10, 10, 10, 10]))), (a3, .inl (cI, 4, .inl (tb []))), (a4, .inl (cI, 777924, .inl (tb []))), (a5, .inl (cI, 3, .inl (tb []))), (a6, .inl (cI, 3, .inl (tb []))), (a7, .inl (cI, 4, .inl (tb []))), (a8, .inl (cI, 4, .inl (tb []))), (a9, .inl (cI, 400000, .inl (tb []))), (a10, .inl (cI, 100000, .inl (tb []))), (a11, .inl (cI, 6001, .inl (tb []))), (a12, .inl (cI, 100000, .inl (tb []))), (a13, .inl (cI, 24000, .inl (tb []))), (a14, .inl (cI, 6000, .inl (tb [])))] sz 0 g) ((QcI dC dI (TY cI cJ cII cJJ) 1 []) (va_A [(a0, .inr (9, [.ref a15, .ref a16, .ref a1, .ref a2, .ref a17, .ref a18, .ref a19, .ref a20, .ref a21, .ref a22, .ref a23, .ref a24, .int 1, .int 0, .int 0, .ref a9, .ref a10, .ref a11, .ref a12, .ref a13, .ref a14, .int 0, .int 0, .ref a6, .ref a5, .ref a7, .ref a8, .int 0, .int 0, .ref a25, .ref a26, .ref a27, .ref a3, .int 0, .ref a4, .int 0])), (a1, .inl (cI, 4, .inl (tb [0, 0, 0, 0]))), (a2, .inl (cI, 4, .inl (tb [10, 10, 10, 10]))), (a3, .inl (cI, 4, .inl (tb []))), (a4, .inl (cI, 777924, .inl (tb []))), (a5, .inl (cI, 3, .inl (tb []))), (a6, .inl (cI, 3, .inl (tb []))), (a7, .inl (cI, 4, .inl (tb []))), (a8, .inl (cI, 4, .inl (tb []))), (a9, .inl (cI, 400000, .inl (tb []))), (a10, .inl (cI, 100000, .inl (tb []))), (a11, .inl (cI, 6001, .inl (tb []))), (a12, .inl (cI, 100000, .inl (tb []))), (a13, .inl (cI, 24000, .inl (tb []))), (a14, .inl (cI, 6000, .inl (tb [])))] sz)) 0 0 (va_A [(a0, .inr (9, [.ref a15, .ref a16, .ref a1, .ref a2, .ref a17, .ref a18, .ref a19, .ref a20, .ref a21, .ref a22, .ref a23, .ref a24, .int 1, .int 0, .int 0, .ref a9, .ref a10, .ref a11, .ref a12, .ref a13, .ref a14, .int 0, .int 0, .ref a6, .ref a5, .ref a7, .ref a8, .int 0, .int 0, .ref a25, .ref a26, .ref a27, .ref a3, .int 0, .ref a4, .int 0])), (a1, .inl (cI, 4, .inl (tb [0, 0, 0, 0]))), (a2, .inl (cI, 4, .inl (tb [10, 10, 10, 10]))), (a3, .inl (cI, 4, .inl (tb []))), (a4, .inl (cI, 777924, .inl (tb []))), (a5, .inl (cI, 3, .inl (tb []))), (a6, .inl (cI, 3, .inl (tb []))), (a7, .inl (cI, 4, .inl (tb []))), (a8, .inl (cI, 4, .inl (tb []))), (a9, .inl (cI, 400000, .inl (tb []))), (a10, .inl (cI, 100000, .inl (tb []))), (a11, .inl (cI, 6001, .inl (tb []))), (a12, .inl (cI, 100000, .inl (tb []))), (a13, .inl (cI, 24000, .inl (tb []))), (a14, .inl (cI, 6000, .inl (tb [])))] sz) := by
  refine SM.of (y := yX9_near) (maxL := 5) (av := [.ref a0, .int 0]) (QcI dC dI (TY cI cJ cII cJJ) 1 []) (by decide +kernel) (Nat.le_of_ble_eq_true rfl) (fun p e s m below meth c A ls hx hb hr hml hown hts hk hnm hA hK hP hD hS hX hl => ?_)
  have hown : s.vm.findClass RX9 = some m.cls := hown
  have hl : lv_has ls 5 [(0, .ref a0), (1, .int 0)] := hl
  refine lv_aload_n hx hb dX9_near_0 rfl (lv_at hl 0 rfl) ?_
  refine kV_v (q0 := 0) ⟨hx, hb, hml, hown, hts⟩ hK hP hD hS hA hX cv_RX9_238 [0, 1, 2, 3, 4] [5, 6, 7, 8, 9, 10, 11, 12, 13, 14] (wr := [(a5, .inl (cI, 3, .inl (tb []))), (a6, .inl (cI, 3, .inl (tb []))), (a7, .inl (cI, 4, .inl (tb []))), (a8, .inl (cI, 4, .inl (tb []))), (a9, .inl (cI, 400000, .inl (tb []))), (a10, .inl (cI, 100000, .inl (tb []))), (a11, .inl (cI, 6001, .inl (tb []))), (a12, .inl (cI, 100000, .inl (tb []))), (a13, .inl (cI, 24000, .inl (tb []))), (a14, .inl (cI, 6000, .inl (tb [])))]) rfl rfl rfl rfl (by decide) (c515_X9_gather l dC dI cI cJ cII cJJ s.heap.size 0 a0 a1 a2 a3 a4 a15 a16 a17 a18 a19 a20 a21 a22 a23 a24 a9 a10 a11 a12 a13 a14 a6 a5 a7 a8 a25 a26 a27) ⟨by decide +kernel, by decide +kernel⟩ rfl rfl (Or.inl rfl) (rest := []) rfl rfl rfl hl.1 rfl (Nat.le_of_ble_eq_true rfl) dX9_near_1 ⟨Nat.le_of_ble_eq_true rfl, Nat.le_of_ble_eq_true rfl⟩ (fun _ => rfl) (W' := [(a5, .inl (cI, 3, .inl (tb []))), (a6, .inl (cI, 3, .inl (tb []))), (a7, .inl (cI, 4, .inl (tb []))), (a8, .inl (cI, 4, .inl (tb []))), (a9, .inl (cI, 400000, .inl (tb []))), (a10, .inl (cI, 100000, .inl (tb []))), (a11, .inl (cI, 6001, .inl (tb []))), (a12, .inl (cI, 100000, .inl (tb []))), (a13, .inl (cI, 24000, .inl (tb []))), (a14, .inl (cI, 6000, .inl (tb []))), (a4, .inl (cI, 777924, .inl (tb [0, 0, 0, 0, 1, 0, 0, 0, 2, 0, 0, 0, 3, 0, 0, 0, 4, 0, 0, 0, 5, 0, 0, 0, 6, 0, 0, 0, 7, 0, 0, 0, 8, 0, 0, 0, 9, 0, 0, 0, 10]))), (a0, .inr (9, [.ref a15, .ref a16, .ref a1, .ref a2, .ref a17, .ref a18, .ref a19, .ref a20, .ref a21, .ref a22, .ref a23, .ref a24, .int 1, .int 0, .int 0, .ref a9, .ref a10, .ref a11, .ref a12, .ref a13, .ref a14, .int 0, .int 0, .ref a6, .ref a5, .ref a7, .ref a8, .int 0, .int 0, .ref a25, .ref a26, .ref a27, .ref a3, .int 1, .ref a4, .int 11])), (a1, .inl (cI, 4, .inl (tb [0, 0, 0, 0]))), (a3, .inl (cI, 4, .inl (tb [10]))), (a2, .inl (cI, 4, .inl (tb [10, 10, 10, 10])))]) rfl (fun H locs hP hD hS => ?_)
  refine lv_iload_n hx hb dX9_near_4 rfl (lv_at hl 1 rfl) ?_
  refine lv_aload_n hx hb dX9_near_5 rfl (lv_at hl 0 rfl) ?_
  refine gf (k := 35) hx hb hts inX9 hown hK hP k_830 rfl (by decide) rfl 11 rfl (.int 11) rfl dX9_near_6 ?_
  refine kS_i ⟨hx, hb, hml, hown, hts⟩ hK hP hD hS hA hX cs_RX9_116 [] [0, 1, 2, 3, 4, 5, 6, 7, 8, 9, 10, 11, 12, 13, 14] (wr := [(a5, .inl (cI, 3, .inl (tb []))), (a6, .inl (cI, 3, .inl (tb []))), (a7, .inl (cI, 4, .inl (tb []))), (a8, .inl (cI, 4, .inl (tb []))), (a9, .inl (cI, 400000, .inl (tb []))), (a10, .inl (cI, 100000, .inl (tb []))), (a11, .inl (cI, 6001, .inl (tb []))), (a12, .inl (cI, 100000, .inl (tb []))), (a13, .inl (cI, 24000, .inl (tb []))), (a14, .inl (cI, 6000, .inl (tb []))), (a4, .inl (cI, 777924, .inl (tb [0, 0, 0, 0, 1, 0, 0, 0, 2, 0, 0, 0, 3, 0, 0, 0, 4, 0, 0, 0, 5, 0, 0, 0, 6, 0, 0, 0, 7, 0, 0, 0, 8, 0, 0, 0, 9, 0, 0, 0, 10]))), (a0, .inr (9, [.ref a15, .ref a16, .ref a1, .ref a2, .ref a17, .ref a18, .ref a19, .ref a20, .ref a21, .ref a22, .ref a23, .ref a24, .int 1, .int 0, .int 0, .ref a9, .ref a10, .ref a11, .ref a12, .ref a13, .ref a14, .int 0, .int 0, .ref a6, .ref a5, .ref a7, .ref a8, .int 0, .int 0, .ref a25, .ref a26, .ref a27, .ref a3, .int 1, .ref a4, .int 11])), (a1, .inl (cI, 4, .inl (tb [0, 0, 0, 0]))), (a3, .inl (cI, 4, .inl (tb [10]))), (a2, .inl (cI, 4, .inl (tb [10, 10, 10, 10])))]) rfl rfl rfl rfl (by decide) (c580_X9_isIn l dC dI cI cJ cII cJJ H.size 0) ⟨by decide +kernel, by decide +kernel⟩ rfl rfl (Or.inl rfl) (rest := []) rfl hl.1 rfl (Nat.le_of_ble_eq_true rfl) dX9_near_9 ⟨Nat.le_of_ble_eq_true rfl, Nat.le_of_ble_eq_true rfl⟩ (W' := [(a5, .inl (cI, 3, .inl (tb []))), (a6, .inl (cI, 3, .inl (tb []))), (a7, .inl (cI, 4, .inl (tb []))), (a8, .inl (cI, 4, .inl (tb []))), (a9, .inl (cI, 400000, .inl (tb []))), (a10, .inl (cI, 100000, .inl (tb []))), (a11, .inl (cI, 6001, .inl (tb []))), (a12, .inl (cI, 100000, .inl (tb []))), (a13, .inl (cI, 24000, .inl (tb []))), (a14, .inl (cI, 6000, .inl (tb []))), (a4, .inl (cI, 777924, .inl (tb [0, 0, 0, 0, 1, 0, 0, 0, 2, 0, 0, 0, 3, 0, 0, 0, 4, 0, 0, 0, 5, 0, 0, 0, 6, 0, 0, 0, 7, 0, 0, 0, 8, 0, 0, 0, 9, 0, 0, 0, 10]))), (a0, .inr (9, [.ref a15, .ref a16, .ref a1, .ref a2, .ref a17, .ref a18, .ref a19, .ref a20, .ref a21, .ref a22, .ref a23, .ref a24, .int 1, .int 0, .int 0, .ref a9, .ref a10, .ref a11, .ref a12, .ref a13, .ref a14, .int 0, .int 0, .ref a6, .ref a5, .ref a7, .ref a8, .int 0, .int 0, .ref a25, .ref a26, .ref a27, .ref a3, .int 1, .ref a4, .int 11])), (a1, .inl (cI, 4, .inl (tb [0, 0, 0, 0]))), (a3, .inl (cI, 4, .inl (tb [10]))), (a2, .inl (cI, 4, .inl (tb [10, 10, 10, 10])))]) rfl (fun H locs hP hD hS => ?_)
  refine t_if_ne hx hb dX9_near_12 21 (by decide) (by decide +kernel) ?_
  refine lv_aload_n hx hb dX9_near_21 rfl (lv_at hl 0 rfl) ?_
  refine kV_v (q0 := 0) ⟨hx, hb, hml, hown, hts⟩ hK hP hD hS hA hX cv_RX9_180 [11, 0, 1, 2, 3, 4, 5, 6, 7, 8, 9] [10, 12, 13, 14] (wr := [(a4, .inl (cI, 777924, .inl (tb [0, 0, 0, 0, 1, 0, 0, 0, 2, 0, 0, 0, 3, 0, 0, 0, 4, 0, 0, 0, 5, 0, 0, 0, 6, 0, 0, 0, 7, 0, 0, 0, 8, 0, 0, 0, 9, 0, 0, 0, 10]))), (a1, .inl (cI, 4, .inl (tb [0, 0, 0, 0]))), (a3, .inl (cI, 4, .inl (tb [10]))), (a2, .inl (cI, 4, .inl (tb [10, 10, 10, 10])))]) rfl rfl rfl rfl (by decide) (c581_X9_findSteps l dC dI cI cJ cII cJJ H.size 0 a0 a5 a6 a7 a8 a9 a10 a11 a12 a13 a14 a15 a16 a1 a2 a17 a18 a19 a20 a21 a22 a23 a24 a25 a26 a27 a3 a4) ⟨by decide +kernel, by decide +kernel⟩ rfl rfl (Or.inl rfl) (rest := []) rfl rfl rfl hl.1 rfl (Nat.le_of_ble_eq_true rfl) dX9_near_22 ⟨Nat.le_of_ble_eq_true rfl, Nat.le_of_ble_eq_true rfl⟩ (fun _ => rfl) (W' := [(a4, .inl (cI, 777924, .inl (tb [0, 0, 0, 0, 1, 0, 0, 0, 2, 0, 0, 0, 3, 0, 0, 0, 4, 0, 0, 0, 5, 0, 0, 0, 6, 0, 0, 0, 7, 0, 0, 0, 8, 0, 0, 0, 9, 0, 0, 0, 10]))), (a1, .inl (cI, 4, .inl (tb [0, 0, 0, 0]))), (a3, .inl (cI, 4, .inl (tb [10]))), (a2, .inl (cI, 4, .inl (tb [10, 10, 10, 10]))), (a11, .inl (cI, 6001, .inl (tb (0 :: 0 :: List.replicate 5999 2)))), (a12, .inl (cI, 100000, .inl (tb [0, 1]))), (a7, .inl (cI, 4, .inl (tb [0]))), (a10, .inl (cI, 100000, .inl (tb [1, 1]))), (a5, .inl (cI, 3, .inl (tb [0, 0, 0]))), (a6, .inl (cI, 3, .inl (tb [0, 0, 0]))), (a8, .inl (cI, 4, .inl (tb [1]))), (a9, .inl (cI, 400000, .inl (tb [(-1), 0, 0, 0, 1, 0, 0, 0]))), (a14, .inl (cI, 6000, .inl (tb [0, 1]))), (a0, .inr (9, [.ref a15, .ref a16, .ref a1, .ref a2, .ref a17, .ref a18, .ref a19, .ref a20, .ref a21, .ref a22, .ref a23, .ref a24, .int 1, .int 0, .int 1, .ref a9, .ref a10, .ref a11, .ref a12, .ref a13, .ref a14, .int 2, .int 2, .ref a6, .ref a5, .ref a7, .ref a8, .int 0, .int 1, .ref a25, .ref a26, .ref a27, .ref a3, .int 1, .ref a4, .int 11])), (a13, .inl (cI, 24000, .inl (tb [(-1), 0, 0, 0, 1, 0, 0, 0])))]) rfl (fun H locs hP hD hS => ?_)
  refine lv_iconst (v := 0) hx hb dX9_near_25 (by decide) ?_
  refine lv_istore_n (lv' := [(2, .int 0), (0, .ref a0), (1, .int 0)]) hx hb dX9_near_26 rfl hl (by decide) rfl (fun ls hl => ?_)
  refine lv_iconst (v := 0) hx hb dX9_near_27 (by decide) ?_
  refine lv_istore_n (lv' := [(3, .int 0), (2, .int 0), (0, .ref a0), (1, .int 0)]) hx hb dX9_near_28 rfl hl (by decide) rfl (fun ls hl => ?_)
  refine lv_iload_n hx hb dX9_near_29 rfl (lv_at hl 0 rfl) ?_
  refine lv_aload_n hx hb dX9_near_30 rfl (lv_at hl 2 rfl) ?_
  refine gf (k := 22) hx hb hts inX9 hown hK hP k_817 rfl (by decide) rfl 13 rfl (.int 2) rfl dX9_near_31 ?_
  refine f_icmp_ge hx hb dX9_near_34 107 (by decide) (by decide +kernel) ?_
  refine lv_iconst (v := 0) hx hb dX9_near_37 (by decide) ?_
  refine lv_istore (lv' := [(4, .int 0), (3, .int 0), (2, .int 0), (0, .ref a0), (1, .int 0)]) hx hb dX9_near_38 hl (by decide) rfl (fun ls hl => ?_)
  refine lv_iload hx hb dX9_near_40 (lv_at hl 0 rfl) ?_
  refine lv_aload_n hx hb dX9_near_42 rfl (lv_at hl 3 rfl) ?_
  refine gf (k := 12) hx hb hts inX9 hown hK hP k_807 rfl (by decide) rfl 13 rfl (.int 1) rfl dX9_near_43 ?_
  refine f_icmp_ge hx hb dX9_near_46 81 (by decide) (by decide +kernel) ?_
  refine lv_aload_n hx hb dX9_near_49 rfl (lv_at hl 3 rfl) ?_
  refine gf (k := 32) hx hb hts inX9 hown hK hP k_827 rfl (by decide) rfl 13 rfl (.ref a3) rfl dX9_near_50 ?_
  refine lv_iload hx hb dX9_near_53 (lv_at hl 0 rfl) ?_
  refine lv_aload_n hx hb dX9_near_55 rfl (lv_at hl 3 rfl) ?_
  refine gf (k := 34) hx hb hts inX9 hown hK hP k_829 rfl (by decide) rfl 13 rfl (.ref a4) rfl dX9_near_56 ?_
  refine lv_iconst (v := 4) hx hb dX9_near_59 (by decide) ?_
  refine lv_iload_n hx hb dX9_near_60 rfl (lv_at hl 4 rfl) ?_
  refine v_imul hx hb dX9_near_61 0 (by decide +kernel) ?_
  refine lv_iload hx hb dX9_near_62 (lv_at hl 0 rfl) ?_
  refine v_iadd hx hb dX9_near_64 0 (by decide +kernel) ?_
  refine ld_i hx hb hK hP 0 rfl (vin (by decide +kernel)) dX9_near_65 0 rfl ?_
  refine lv_aload_n hx hb dX9_near_66 rfl (lv_at hl 3 rfl) ?_
  refine lv_iload_n hx hb dX9_near_67 rfl (lv_at hl 1 rfl) ?_
  refine lv_iload hx hb dX9_near_68 (lv_at hl 0 rfl) ?_
  refine kV_i (q0 := 0) ⟨hx, hb, hml, hown, hts⟩ hK hP hD hS hA hX cv_RX9_183 [13, 12, 14] [0, 1, 2, 3, 4, 5, 6, 7, 8, 9, 10, 11] (wr := [(a4, .inl (cI, 777924, .inl (tb [0, 0, 0, 0, 1, 0, 0, 0, 2, 0, 0, 0, 3, 0, 0, 0, 4, 0, 0, 0, 5, 0, 0, 0, 6, 0, 0, 0, 7, 0, 0, 0, 8, 0, 0, 0, 9, 0, 0, 0, 10]))), (a1, .inl (cI, 4, .inl (tb [0, 0, 0, 0]))), (a3, .inl (cI, 4, .inl (tb [10]))), (a2, .inl (cI, 4, .inl (tb [10, 10, 10, 10]))), (a11, .inl (cI, 6001, .inl (tb (0 :: 0 :: List.replicate 5999 2)))), (a12, .inl (cI, 100000, .inl (tb [0, 1]))), (a7, .inl (cI, 4, .inl (tb [0]))), (a10, .inl (cI, 100000, .inl (tb [1, 1]))), (a5, .inl (cI, 3, .inl (tb [0, 0, 0]))), (a6, .inl (cI, 3, .inl (tb [0, 0, 0]))), (a8, .inl (cI, 4, .inl (tb [1]))), (a9, .inl (cI, 400000, .inl (tb [(-1), 0, 0, 0, 1, 0, 0, 0])))]) rfl rfl rfl rfl (by decide) (c597_X9_at l dC dI cI cJ cII cJJ H.size 0 a0 a14 a13 a15 a16 a1 a2 a17 a18 a19 a20 a21 a22 a23 a24 a9 a10 a11 a12 a6 a5 a7 a8 a25 a26 a27 a3 a4) ⟨by decide +kernel, by decide +kernel⟩ rfl rfl (Or.inl rfl) (rest := [.int 0, .int 0, .ref a3]) rfl rfl rfl hl.1 rfl (Nat.le_of_ble_eq_true rfl) dX9_near_70 ⟨Nat.le_of_ble_eq_true rfl, Nat.le_of_ble_eq_true rfl⟩ (W' := [(a4, .inl (cI, 777924, .inl (tb [0, 0, 0, 0, 1, 0, 0, 0, 2, 0, 0, 0, 3, 0, 0, 0, 4, 0, 0, 0, 5, 0, 0, 0, 6, 0, 0, 0, 7, 0, 0, 0, 8, 0, 0, 0, 9, 0, 0, 0, 10]))), (a1, .inl (cI, 4, .inl (tb [0, 0, 0, 0]))), (a3, .inl (cI, 4, .inl (tb [10]))), (a2, .inl (cI, 4, .inl (tb [10, 10, 10, 10]))), (a11, .inl (cI, 6001, .inl (tb (0 :: 0 :: List.replicate 5999 2)))), (a12, .inl (cI, 100000, .inl (tb [0, 1]))), (a7, .inl (cI, 4, .inl (tb [0]))), (a10, .inl (cI, 100000, .inl (tb [1, 1]))), (a5, .inl (cI, 3, .inl (tb [0, 0, 0]))), (a6, .inl (cI, 3, .inl (tb [0, 0, 0]))), (a8, .inl (cI, 4, .inl (tb [1]))), (a9, .inl (cI, 400000, .inl (tb [(-1), 0, 0, 0, 1, 0, 0, 0]))), (a0, .inr (9, [.ref a15, .ref a16, .ref a1, .ref a2, .ref a17, .ref a18, .ref a19, .ref a20, .ref a21, .ref a22, .ref a23, .ref a24, .int 1, .int 0, .int 1, .ref a9, .ref a10, .ref a11, .ref a12, .ref a13, .ref a14, .int 2, .int 2, .ref a6, .ref a5, .ref a7, .ref a8, .int 0, .int 1, .ref a25, .ref a26, .ref a27, .ref a3, .int 1, .ref a4, .int 11])), (a14, .inl (cI, 6000, .inl (tb [0, 1]))), (a13, .inl (cI, 24000, .inl (tb [(-1), 0, 0, 0, 1, 0, 0, 0])))]) rfl (fun H locs hP hD hS => ?_)
  refine v_iadd hx hb dX9_near_73 (-1) (by decide +kernel) ?_
  refine st_i hx hb hK hP hD hS 2 rfl (vin (by decide +kernel)) dX9_near_74 (L' := [(-1)]) rfl (W' := [(a4, .inl (cI, 777924, .inl (tb [0, 0, 0, 0, 1, 0, 0, 0, 2, 0, 0, 0, 3, 0, 0, 0, 4, 0, 0, 0, 5, 0, 0, 0, 6, 0, 0, 0, 7, 0, 0, 0, 8, 0, 0, 0, 9, 0, 0, 0, 10]))), (a1, .inl (cI, 4, .inl (tb [0, 0, 0, 0]))), (a3, .inl (cI, 4, .inl (tb [(-1)]))), (a2, .inl (cI, 4, .inl (tb [10, 10, 10, 10]))), (a11, .inl (cI, 6001, .inl (tb (0 :: 0 :: List.replicate 5999 2)))), (a12, .inl (cI, 100000, .inl (tb [0, 1]))), (a7, .inl (cI, 4, .inl (tb [0]))), (a10, .inl (cI, 100000, .inl (tb [1, 1]))), (a5, .inl (cI, 3, .inl (tb [0, 0, 0]))), (a6, .inl (cI, 3, .inl (tb [0, 0, 0]))), (a8, .inl (cI, 4, .inl (tb [1]))), (a9, .inl (cI, 400000, .inl (tb [(-1), 0, 0, 0, 1, 0, 0, 0]))), (a0, .inr (9, [.ref a15, .ref a16, .ref a1, .ref a2, .ref a17, .ref a18, .ref a19, .ref a20, .ref a21, .ref a22, .ref a23, .ref a24, .int 1, .int 0, .int 1, .ref a9, .ref a10, .ref a11, .ref a12, .ref a13, .ref a14, .int 2, .int 2, .ref a6, .ref a5, .ref a7, .ref a8, .int 0, .int 1, .ref a25, .ref a26, .ref a27, .ref a3, .int 1, .ref a4, .int 11])), (a14, .inl (cI, 6000, .inl (tb [0, 1]))), (a13, .inl (cI, 24000, .inl (tb [(-1), 0, 0, 0, 1, 0, 0, 0])))]) rfl (fun H locs hP hD hS => ?_)
  refine lv_iinc (v := 1) (lv' := [(4, .int 1), (3, .int 0), (2, .int 0), (0, .ref a0), (1, .int 0)]) hx hb dX9_near_75 hl (k := 0) rfl (by decide +kernel) (by decide) rfl (fun ls hl => ?_)
  refine lv_goto (tgt := 40) hx hb dX9_near_78 (by decide) ?_
  refine lv_iload hx hb dX9_near_40 (lv_at hl 0 rfl) ?_
  refine lv_aload_n hx hb dX9_near_42 rfl (lv_at hl 3 rfl) ?_
  refine gf (k := 12) hx hb hts inX9 hown hK hP k_807 rfl (by decide) rfl 12 rfl (.int 1) rfl dX9_near_43 ?_
  refine t_icmp_ge hx hb dX9_near_46 81 (by decide) (by decide +kernel) ?_
  refine lv_iload_n hx hb dX9_near_81 rfl (lv_at hl 2 rfl) ?_
  refine lv_aload_n hx hb dX9_near_82 rfl (lv_at hl 3 rfl) ?_
  refine lv_aload_n hx hb dX9_near_83 rfl (lv_at hl 3 rfl) ?_
  refine gf (k := 32) hx hb hts inX9 hown hK hP k_827 rfl (by decide) rfl 12 rfl (.ref a3) rfl dX9_near_84 ?_
  refine lv_iconst (v := 0) hx hb dX9_near_87 (by decide) ?_
  refine kV_i (q0 := 0) ⟨hx, hb, hml, hown, hts⟩ hK hP hD hS hA hX cv_RX9_199 [12, 1, 2] [0, 3, 4, 5, 6, 7, 8, 9, 10, 11, 13, 14] (wr := [(a4, .inl (cI, 777924, .inl (tb [0, 0, 0, 0, 1, 0, 0, 0, 2, 0, 0, 0, 3, 0, 0, 0, 4, 0, 0, 0, 5, 0, 0, 0, 6, 0, 0, 0, 7, 0, 0, 0, 8, 0, 0, 0, 9, 0, 0, 0, 10]))), (a2, .inl (cI, 4, .inl (tb [10, 10, 10, 10]))), (a11, .inl (cI, 6001, .inl (tb (0 :: 0 :: List.replicate 5999 2)))), (a12, .inl (cI, 100000, .inl (tb [0, 1]))), (a7, .inl (cI, 4, .inl (tb [0]))), (a10, .inl (cI, 100000, .inl (tb [1, 1]))), (a5, .inl (cI, 3, .inl (tb [0, 0, 0]))), (a6, .inl (cI, 3, .inl (tb [0, 0, 0]))), (a8, .inl (cI, 4, .inl (tb [1]))), (a9, .inl (cI, 400000, .inl (tb [(-1), 0, 0, 0, 1, 0, 0, 0]))), (a14, .inl (cI, 6000, .inl (tb [0, 1]))), (a13, .inl (cI, 24000, .inl (tb [(-1), 0, 0, 0, 1, 0, 0, 0])))]) rfl rfl rfl rfl (by decide) (c598_X9_isPlan l dC dI cI cJ cII cJJ H.size 0 a0 a1 a3 a15 a16 a2 a17 a18 a19 a20 a21 a22 a23 a24 a9 a10 a11 a12 a13 a14 a6 a5 a7 a8 a25 a26 a27 a4) ⟨by decide +kernel, by decide +kernel⟩ rfl rfl (Or.inl rfl) (rest := [.int 0]) rfl rfl rfl hl.1 rfl (Nat.le_of_ble_eq_true rfl) dX9_near_88 ⟨Nat.le_of_ble_eq_true rfl, Nat.le_of_ble_eq_true rfl⟩ (W' := [(a4, .inl (cI, 777924, .inl (tb [0, 0, 0, 0, 1, 0, 0, 0, 2, 0, 0, 0, 3, 0, 0, 0, 4, 0, 0, 0, 5, 0, 0, 0, 6, 0, 0, 0, 7, 0, 0, 0, 8, 0, 0, 0, 9, 0, 0, 0, 10]))), (a2, .inl (cI, 4, .inl (tb [10, 10, 10, 10]))), (a11, .inl (cI, 6001, .inl (tb (0 :: 0 :: List.replicate 5999 2)))), (a12, .inl (cI, 100000, .inl (tb [0, 1]))), (a7, .inl (cI, 4, .inl (tb [0]))), (a10, .inl (cI, 100000, .inl (tb [1, 1]))), (a5, .inl (cI, 3, .inl (tb [0, 0, 0]))), (a6, .inl (cI, 3, .inl (tb [0, 0, 0]))), (a8, .inl (cI, 4, .inl (tb [1]))), (a9, .inl (cI, 400000, .inl (tb [(-1), 0, 0, 0, 1, 0, 0, 0]))), (a14, .inl (cI, 6000, .inl (tb [0, 1]))), (a13, .inl (cI, 24000, .inl (tb [(-1), 0, 0, 0, 1, 0, 0, 0]))), (a0, .inr (9, [.ref a15, .ref a16, .ref a1, .ref a2, .ref a17, .ref a18, .ref a19, .ref a20, .ref a21, .ref a22, .ref a23, .ref a24, .int 1, .int 0, .int 1, .ref a9, .ref a10, .ref a11, .ref a12, .ref a13, .ref a14, .int 2, .int 2, .ref a6, .ref a5, .ref a7, .ref a8, .int 0, .int 1, .ref a25, .ref a26, .ref a27, .ref a3, .int 1, .ref a4, .int 11])), (a1, .inl (cI, 4, .inl (tb [0, 0, 0, 0]))), (a3, .inl (cI, 4, .inl (tb [(-1)])))]) rfl (fun H locs hP hD hS => ?_)
  refine t_if_eq hx hb dX9_near_91 98 (by decide) (by decide +kernel) ?_
  refine lv_iconst (v := 0) hx hb dX9_near_98 (by decide) ?_
  refine v_iadd hx hb dX9_near_99 0 (by decide +kernel) ?_
  refine lv_istore_n (lv' := [(2, .int 0), (4, .int 1), (3, .int 0), (0, .ref a0), (1, .int 0)]) hx hb dX9_near_100 rfl hl (by decide) rfl (fun ls hl => ?_)
  refine lv_iinc (v := 1) (lv' := [(3, .int 1), (2, .int 0), (4, .int 1), (0, .ref a0), (1, .int 0)]) hx hb dX9_near_101 hl (k := 2) rfl (by decide +kernel) (by decide) rfl (fun ls hl => ?_)
  refine lv_goto (tgt := 29) hx hb dX9_near_104 (by decide) ?_
  refine lv_iload_n hx hb dX9_near_29 rfl (lv_at hl 0 rfl) ?_
  refine lv_aload_n hx hb dX9_near_30 rfl (lv_at hl 3 rfl) ?_
  refine gf (k := 22) hx hb hts inX9 hown hK hP k_817 rfl (by decide) rfl 12 rfl (.int 2) rfl dX9_near_31 ?_
  refine f_icmp_ge hx hb dX9_near_34 107 (by decide) (by decide +kernel) ?_
  refine lv_iconst (v := 0) hx hb dX9_near_37 (by decide) ?_
  refine lv_istore (lv' := [(4, .int 0), (3, .int 1), (2, .int 0), (0, .ref a0), (1, .int 0)]) hx hb dX9_near_38 hl (by decide) rfl (fun ls hl => ?_)
  refine lv_iload hx hb dX9_near_40 (lv_at hl 0 rfl) ?_
  refine lv_aload_n hx hb dX9_near_42 rfl (lv_at hl 3 rfl) ?_
  refine gf (k := 12) hx hb hts inX9 hown hK hP k_807 rfl (by decide) rfl 12 rfl (.int 1) rfl dX9_near_43 ?_
  refine f_icmp_ge hx hb dX9_near_46 81 (by decide) (by decide +kernel) ?_
  refine lv_aload_n hx hb dX9_near_49 rfl (lv_at hl 3 rfl) ?_
  refine gf (k := 32) hx hb hts inX9 hown hK hP k_827 rfl (by decide) rfl 12 rfl (.ref a3) rfl dX9_near_50 ?_
  refine lv_iload hx hb dX9_near_53 (lv_at hl 0 rfl) ?_
  refine lv_aload_n hx hb dX9_near_55 rfl (lv_at hl 3 rfl) ?_
  refine gf (k := 34) hx hb hts inX9 hown hK hP k_829 rfl (by decide) rfl 12 rfl (.ref a4) rfl dX9_near_56 ?_
  refine lv_iconst (v := 4) hx hb dX9_near_59 (by decide) ?_
  refine lv_iload_n hx hb dX9_near_60 rfl (lv_at hl 4 rfl) ?_
  refine v_imul hx hb dX9_near_61 0 (by decide +kernel) ?_
  refine lv_iload hx hb dX9_near_62 (lv_at hl 0 rfl) ?_
  refine v_iadd hx hb dX9_near_64 0 (by decide +kernel) ?_
  refine ld_i hx hb hK hP 0 rfl (vin (by decide +kernel)) dX9_near_65 0 rfl ?_
  refine lv_aload_n hx hb dX9_near_66 rfl (lv_at hl 3 rfl) ?_
  refine lv_iload_n hx hb dX9_near_67 rfl (lv_at hl 1 rfl) ?_
  refine lv_iload hx hb dX9_near_68 (lv_at hl 0 rfl) ?_
  refine kV_i (q0 := 0) ⟨hx, hb, hml, hown, hts⟩ hK hP hD hS hA hX cv_RX9_183 [12, 10, 11] [0, 1, 2, 3, 4, 5, 6, 7, 8, 9, 13, 14] (wr := [(a4, .inl (cI, 777924, .inl (tb [0, 0, 0, 0, 1, 0, 0, 0, 2, 0, 0, 0, 3, 0, 0, 0, 4, 0, 0, 0, 5, 0, 0, 0, 6, 0, 0, 0, 7, 0, 0, 0, 8, 0, 0, 0, 9, 0, 0, 0, 10]))), (a2, .inl (cI, 4, .inl (tb [10, 10, 10, 10]))), (a11, .inl (cI, 6001, .inl (tb (0 :: 0 :: List.replicate 5999 2)))), (a12, .inl (cI, 100000, .inl (tb [0, 1]))), (a7, .inl (cI, 4, .inl (tb [0]))), (a10, .inl (cI, 100000, .inl (tb [1, 1]))), (a5, .inl (cI, 3, .inl (tb [0, 0, 0]))), (a6, .inl (cI, 3, .inl (tb [0, 0, 0]))), (a8, .inl (cI, 4, .inl (tb [1]))), (a9, .inl (cI, 400000, .inl (tb [(-1), 0, 0, 0, 1, 0, 0, 0]))), (a1, .inl (cI, 4, .inl (tb [0, 0, 0, 0]))), (a3, .inl (cI, 4, .inl (tb [(-1)])))]) rfl rfl rfl rfl (by decide) (c599_X9_at l dC dI cI cJ cII cJJ H.size 0 a0 a14 a13 a15 a16 a1 a2 a17 a18 a19 a20 a21 a22 a23 a24 a9 a10 a11 a12 a6 a5 a7 a8 a25 a26 a27 a3 a4) ⟨by decide +kernel, by decide +kernel⟩ rfl rfl (Or.inl rfl) (rest := [.int 0, .int 0, .ref a3]) rfl rfl rfl hl.1 rfl (Nat.le_of_ble_eq_true rfl) dX9_near_70 ⟨Nat.le_of_ble_eq_true rfl, Nat.le_of_ble_eq_true rfl⟩ (W' := [(a4, .inl (cI, 777924, .inl (tb [0, 0, 0, 0, 1, 0, 0, 0, 2, 0, 0, 0, 3, 0, 0, 0, 4, 0, 0, 0, 5, 0, 0, 0, 6, 0, 0, 0, 7, 0, 0, 0, 8, 0, 0, 0, 9, 0, 0, 0, 10]))), (a2, .inl (cI, 4, .inl (tb [10, 10, 10, 10]))), (a11, .inl (cI, 6001, .inl (tb (0 :: 0 :: List.replicate 5999 2)))), (a12, .inl (cI, 100000, .inl (tb [0, 1]))), (a7, .inl (cI, 4, .inl (tb [0]))), (a10, .inl (cI, 100000, .inl (tb [1, 1]))), (a5, .inl (cI, 3, .inl (tb [0, 0, 0]))), (a6, .inl (cI, 3, .inl (tb [0, 0, 0]))), (a8, .inl (cI, 4, .inl (tb [1]))), (a9, .inl (cI, 400000, .inl (tb [(-1), 0, 0, 0, 1, 0, 0, 0]))), (a1, .inl (cI, 4, .inl (tb [0, 0, 0, 0]))), (a3, .inl (cI, 4, .inl (tb [(-1)]))), (a0, .inr (9, [.ref a15, .ref a16, .ref a1, .ref a2, .ref a17, .ref a18, .ref a19, .ref a20, .ref a21, .ref a22, .ref a23, .ref a24, .int 1, .int 0, .int 1, .ref a9, .ref a10, .ref a11, .ref a12, .ref a13, .ref a14, .int 2, .int 2, .ref a6, .ref a5, .ref a7, .ref a8, .int 0, .int 1, .ref a25, .ref a26, .ref a27, .ref a3, .int 1, .ref a4, .int 11])), (a14, .inl (cI, 6000, .inl (tb [0, 1]))), (a13, .inl (cI, 24000, .inl (tb [(-1), 0, 0, 0, 1, 0, 0, 0])))]) rfl (fun H locs hP hD hS => ?_)
  refine v_iadd hx hb dX9_near_73 1 (by decide +kernel) ?_
  refine st_i hx hb hK hP hD hS 11 rfl (vin (by decide +kernel)) dX9_near_74 (L' := [1]) rfl (W' := [(a4, .inl (cI, 777924, .inl (tb [0, 0, 0, 0, 1, 0, 0, 0, 2, 0, 0, 0, 3, 0, 0, 0, 4, 0, 0, 0, 5, 0, 0, 0, 6, 0, 0, 0, 7, 0, 0, 0, 8, 0, 0, 0, 9, 0, 0, 0, 10]))), (a2, .inl (cI, 4, .inl (tb [10, 10, 10, 10]))), (a11, .inl (cI, 6001, .inl (tb (0 :: 0 :: List.replicate 5999 2)))), (a12, .inl (cI, 100000, .inl (tb [0, 1]))), (a7, .inl (cI, 4, .inl (tb [0]))), (a10, .inl (cI, 100000, .inl (tb [1, 1]))), (a5, .inl (cI, 3, .inl (tb [0, 0, 0]))), (a6, .inl (cI, 3, .inl (tb [0, 0, 0]))), (a8, .inl (cI, 4, .inl (tb [1]))), (a9, .inl (cI, 400000, .inl (tb [(-1), 0, 0, 0, 1, 0, 0, 0]))), (a1, .inl (cI, 4, .inl (tb [0, 0, 0, 0]))), (a3, .inl (cI, 4, .inl (tb [1]))), (a0, .inr (9, [.ref a15, .ref a16, .ref a1, .ref a2, .ref a17, .ref a18, .ref a19, .ref a20, .ref a21, .ref a22, .ref a23, .ref a24, .int 1, .int 0, .int 1, .ref a9, .ref a10, .ref a11, .ref a12, .ref a13, .ref a14, .int 2, .int 2, .ref a6, .ref a5, .ref a7, .ref a8, .int 0, .int 1, .ref a25, .ref a26, .ref a27, .ref a3, .int 1, .ref a4, .int 11])), (a14, .inl (cI, 6000, .inl (tb [0, 1]))), (a13, .inl (cI, 24000, .inl (tb [(-1), 0, 0, 0, 1, 0, 0, 0])))]) rfl (fun H locs hP hD hS => ?_)
  refine lv_iinc (v := 1) (lv' := [(4, .int 1), (3, .int 1), (2, .int 0), (0, .ref a0), (1, .int 0)]) hx hb dX9_near_75 hl (k := 0) rfl (by decide +kernel) (by decide) rfl (fun ls hl => ?_)
  refine lv_goto (tgt := 40) hx hb dX9_near_78 (by decide) ?_
  refine lv_iload hx hb dX9_near_40 (lv_at hl 0 rfl) ?_
  refine lv_aload_n hx hb dX9_near_42 rfl (lv_at hl 3 rfl) ?_
  refine gf (k := 12) hx hb hts inX9 hown hK hP k_807 rfl (by decide) rfl 12 rfl (.int 1) rfl dX9_near_43 ?_
  refine t_icmp_ge hx hb dX9_near_46 81 (by decide) (by decide +kernel) ?_
  refine lv_iload_n hx hb dX9_near_81 rfl (lv_at hl 2 rfl) ?_
  refine lv_aload_n hx hb dX9_near_82 rfl (lv_at hl 3 rfl) ?_
  refine lv_aload_n hx hb dX9_near_83 rfl (lv_at hl 3 rfl) ?_
  refine gf (k := 32) hx hb hts inX9 hown hK hP k_827 rfl (by decide) rfl 12 rfl (.ref a3) rfl dX9_near_84 ?_
  refine lv_iconst (v := 0) hx hb dX9_near_87 (by decide) ?_
  refine kV_i (q0 := 0) ⟨hx, hb, hml, hown, hts⟩ hK hP hD hS hA hX cv_RX9_199 [12, 10, 11, 1] [0, 2, 3, 4, 5, 6, 7, 8, 9, 13, 14] (wr := [(a4, .inl (cI, 777924, .inl (tb [0, 0, 0, 0, 1, 0, 0, 0, 2, 0, 0, 0, 3, 0, 0, 0, 4, 0, 0, 0, 5, 0, 0, 0, 6, 0, 0, 0, 7, 0, 0, 0, 8, 0, 0, 0, 9, 0, 0, 0, 10]))), (a11, .inl (cI, 6001, .inl (tb (0 :: 0 :: List.replicate 5999 2)))), (a12, .inl (cI, 100000, .inl (tb [0, 1]))), (a7, .inl (cI, 4, .inl (tb [0]))), (a10, .inl (cI, 100000, .inl (tb [1, 1]))), (a5, .inl (cI, 3, .inl (tb [0, 0, 0]))), (a6, .inl (cI, 3, .inl (tb [0, 0, 0]))), (a8, .inl (cI, 4, .inl (tb [1]))), (a9, .inl (cI, 400000, .inl (tb [(-1), 0, 0, 0, 1, 0, 0, 0]))), (a14, .inl (cI, 6000, .inl (tb [0, 1]))), (a13, .inl (cI, 24000, .inl (tb [(-1), 0, 0, 0, 1, 0, 0, 0])))]) rfl rfl rfl rfl (by decide) (c600_X9_isPlan l dC dI cI cJ cII cJJ H.size 0 a0 a1 a3 a2 a15 a16 a17 a18 a19 a20 a21 a22 a23 a24 a9 a10 a11 a12 a13 a14 a6 a5 a7 a8 a25 a26 a27 a4) ⟨by decide +kernel, by decide +kernel⟩ rfl rfl (Or.inl rfl) (rest := [.int 0]) rfl rfl rfl hl.1 rfl (Nat.le_of_ble_eq_true rfl) dX9_near_88 ⟨Nat.le_of_ble_eq_true rfl, Nat.le_of_ble_eq_true rfl⟩ (W' := [(a4, .inl (cI, 777924, .inl (tb [0, 0, 0, 0, 1, 0, 0, 0, 2, 0, 0, 0, 3, 0, 0, 0, 4, 0, 0, 0, 5, 0, 0, 0, 6, 0, 0, 0, 7, 0, 0, 0, 8, 0, 0, 0, 9, 0, 0, 0, 10]))), (a11, .inl (cI, 6001, .inl (tb (0 :: 0 :: List.replicate 5999 2)))), (a12, .inl (cI, 100000, .inl (tb [0, 1]))), (a7, .inl (cI, 4, .inl (tb [0]))), (a10, .inl (cI, 100000, .inl (tb [1, 1]))), (a5, .inl (cI, 3, .inl (tb [0, 0, 0]))), (a6, .inl (cI, 3, .inl (tb [0, 0, 0]))), (a8, .inl (cI, 4, .inl (tb [1]))), (a9, .inl (cI, 400000, .inl (tb [(-1), 0, 0, 0, 1, 0, 0, 0]))), (a14, .inl (cI, 6000, .inl (tb [0, 1]))), (a13, .inl (cI, 24000, .inl (tb [(-1), 0, 0, 0, 1, 0, 0, 0]))), (a0, .inr (9, [.ref a15, .ref a16, .ref a1, .ref a2, .ref a17, .ref a18, .ref a19, .ref a20, .ref a21, .ref a22, .ref a23, .ref a24, .int 1, .int 0, .int 1, .ref a9, .ref a10, .ref a11, .ref a12, .ref a13, .ref a14, .int 2, .int 2, .ref a6, .ref a5, .ref a7, .ref a8, .int 0, .int 1, .ref a25, .ref a26, .ref a27, .ref a3, .int 1, .ref a4, .int 11])), (a1, .inl (cI, 4, .inl (tb [0, 0, 0, 0]))), (a3, .inl (cI, 4, .inl (tb [1]))), (a2, .inl (cI, 4, .inl (tb [10, 10, 10, 10])))]) rfl (fun H locs hP hD hS => ?_)
  refine f_if_eq hx hb dX9_near_91 98 (by decide) (by decide +kernel) ?_
  refine lv_iconst (v := 1) hx hb dX9_near_94 (by decide) ?_
  refine lv_goto (tgt := 99) hx hb dX9_near_95 (by decide) ?_
  refine v_iadd hx hb dX9_near_99 1 (by decide +kernel) ?_
  refine lv_istore_n (lv' := [(2, .int 1), (4, .int 1), (3, .int 1), (0, .ref a0), (1, .int 0)]) hx hb dX9_near_100 rfl hl (by decide) rfl (fun ls hl => ?_)
  refine lv_iinc (v := 2) (lv' := [(3, .int 2), (2, .int 1), (4, .int 1), (0, .ref a0), (1, .int 0)]) hx hb dX9_near_101 hl (k := 2) rfl (by decide +kernel) (by decide) rfl (fun ls hl => ?_)
  refine lv_goto (tgt := 29) hx hb dX9_near_104 (by decide) ?_
  refine lv_iload_n hx hb dX9_near_29 rfl (lv_at hl 0 rfl) ?_
  refine lv_aload_n hx hb dX9_near_30 rfl (lv_at hl 3 rfl) ?_
  refine gf (k := 22) hx hb hts inX9 hown hK hP k_817 rfl (by decide) rfl 11 rfl (.int 2) rfl dX9_near_31 ?_
  refine t_icmp_ge hx hb dX9_near_34 107 (by decide) (by decide +kernel) ?_
  refine lv_iload_n hx hb dX9_near_107 rfl (lv_at hl 1 rfl) ?_
  exact r_i hx hb hr hk hK (hP.sub [] rfl) (hD.sub [] rfl rfl) hS dX9_near_108
set_option maxRecDepth 100000 in
set_option maxHeartbeats 4000000 in
theorem c602_X9_isIn (l : Launch) (dC : Nat → ClassId) (dI : Nat → Nat → Nat) (cI cJ cII cJJ : ClassId) (sz g : Nat) (x0 : Int32) (h_x0 : 1 ≤ x0.toInt ∧ x0.toInt ≤ 9) : Met l yX9_isIn (.code yX9_isIn cX9_isIn 2 (some .boolean) :: TT) ({ frames := 2, cells := 0, slots := 0, locals := 80 }) (PcS dC dI (TY cI cJ cII cJJ) [.int x0, .int 11] [] sz 0 g) ((QcI dC dI (TY cI cJ cII cJJ) 1 []) (va_A [] sz)) 0 0 (va_A [] sz) := by
  refine SM.of (y := yX9_isIn) (maxL := 2) (av := [.int x0, .int 11]) (QcI dC dI (TY cI cJ cII cJJ) 1 []) (by decide +kernel) (Nat.le_of_ble_eq_true rfl) (fun p e s m below meth c A ls hx hb hr hml hown hts hk hnm hA hK hP hD hS hX hl => ?_)
  have hown : s.vm.findClass RX9 = some m.cls := hown
  have hl : lv_has ls 2 [(0, .int x0), (1, .int 11)] := hl
  refine lv_iload_n hx hb dX9_isIn_0 rfl (lv_at hl 0 rfl) ?_
  refine f_if_lt hx hb dX9_isIn_1 13 (by decide) (p_nlt (by rw [show (0 : Int32).toInt = 0 from by decide +kernel]; omega)) ?_
  refine lv_iload_n hx hb dX9_isIn_4 rfl (lv_at hl 0 rfl) ?_
  refine lv_iload_n hx hb dX9_isIn_5 rfl (lv_at hl 1 rfl) ?_
  refine f_icmp_ge hx hb dX9_isIn_6 13 (by decide) (p_nle (by rw [show (11 : Int32).toInt = 11 from by decide +kernel]; omega)) ?_
  refine lv_iconst (v := 1) hx hb dX9_isIn_9 (by decide) ?_
  refine lv_goto (tgt := 14) hx hb dX9_isIn_10 (by decide) ?_
  exact r_z hx hb hr hk hK hP hD hS dX9_isIn_14 rfl
set_option maxRecDepth 100000 in
set_option maxHeartbeats 4000000 in
theorem c603_X9_isPlan (l : Launch) (dC : Nat → ClassId) (dI : Nat → Nat → Nat) (cI cJ cII cJJ : ClassId) (sz g a0 a1 a2 a3 a4 a5 a6 a7 a8 a9 a10 a11 a12 a13 a14 a15 a16 a17 a18 a19 a20 a21 a22 a23 a24 a25 a26 a27 : Nat) (x0 : Int32) (h_x0 : 0 ≤ x0.toInt ∧ x0.toInt ≤ 8) : Met l yX9_isPlan (.code yX9_isPlan cX9_isPlan 5 (some .boolean) :: TT) ({ frames := 2, cells := 0, slots := 0, locals := 80 }) (PcS dC dI (TY cI cJ cII cJJ) [.ref a0, .ref a2, .int 0] [(a0, .inr (9, [.ref a4, .ref a5, .ref a1, .ref a3, .ref a6, .ref a7, .ref a8, .ref a9, .ref a10, .ref a11, .ref a12, .ref a13, .int 1, .int 0, .int 1, .ref a14, .ref a15, .ref a16, .ref a17, .ref a18, .ref a19, .int 2, .int 2, .ref a20, .ref a21, .ref a22, .ref a23, .int 0, .int 1, .ref a24, .ref a25, .ref a26, .ref a2, .int 1, .ref a27, .int 11])), (a1, .inl (cI, 4, .inl (tb [0, 0, 0, 0]))), (a2, .inl (cI, 4, .inl (tb [x0]))), (a3, .inl (cI, 4, .inl (tb [10, 10, 10, 10])))] sz 0 g) ((QcI dC dI (TY cI cJ cII cJJ) 1 [(a0, .inr (9, [.ref a4, .ref a5, .ref a1, .ref a3, .ref a6, .ref a7, .ref a8, .ref a9, .ref a10, .ref a11, .ref a12, .ref a13, .int 1, .int 0, .int 1, .ref a14, .ref a15, .ref a16, .ref a17, .ref a18, .ref a19, .int 2, .int 2, .ref a20, .ref a21, .ref a22, .ref a23, .int 0, .int 1, .ref a24, .ref a25, .ref a26, .ref a2, .int 1, .ref a27, .int 11])), (a1, .inl (cI, 4, .inl (tb [0, 0, 0, 0]))), (a2, .inl (cI, 4, .inl (tb [x0]))), (a3, .inl (cI, 4, .inl (tb [10, 10, 10, 10])))]) (va_A [(a0, .inr (9, [.ref a4, .ref a5, .ref a1, .ref a3, .ref a6, .ref a7, .ref a8, .ref a9, .ref a10, .ref a11, .ref a12, .ref a13, .int 1, .int 0, .int 1, .ref a14, .ref a15, .ref a16, .ref a17, .ref a18, .ref a19, .int 2, .int 2, .ref a20, .ref a21, .ref a22, .ref a23, .int 0, .int 1, .ref a24, .ref a25, .ref a26, .ref a2, .int 1, .ref a27, .int 11])), (a1, .inl (cI, 4, .inl (tb [0, 0, 0, 0]))), (a2, .inl (cI, 4, .inl (tb [x0]))), (a3, .inl (cI, 4, .inl (tb [10, 10, 10, 10])))] sz)) 0 0 (va_A [(a0, .inr (9, [.ref a4, .ref a5, .ref a1, .ref a3, .ref a6, .ref a7, .ref a8, .ref a9, .ref a10, .ref a11, .ref a12, .ref a13, .int 1, .int 0, .int 1, .ref a14, .ref a15, .ref a16, .ref a17, .ref a18, .ref a19, .int 2, .int 2, .ref a20, .ref a21, .ref a22, .ref a23, .int 0, .int 1, .ref a24, .ref a25, .ref a26, .ref a2, .int 1, .ref a27, .int 11])), (a1, .inl (cI, 4, .inl (tb [0, 0, 0, 0]))), (a2, .inl (cI, 4, .inl (tb [x0]))), (a3, .inl (cI, 4, .inl (tb [10, 10, 10, 10])))] sz) := by
  refine SM.of (y := yX9_isPlan) (maxL := 5) (av := [.ref a0, .ref a2, .int 0]) (QcI dC dI (TY cI cJ cII cJJ) 1 [(a0, .inr (9, [.ref a4, .ref a5, .ref a1, .ref a3, .ref a6, .ref a7, .ref a8, .ref a9, .ref a10, .ref a11, .ref a12, .ref a13, .int 1, .int 0, .int 1, .ref a14, .ref a15, .ref a16, .ref a17, .ref a18, .ref a19, .int 2, .int 2, .ref a20, .ref a21, .ref a22, .ref a23, .int 0, .int 1, .ref a24, .ref a25, .ref a26, .ref a2, .int 1, .ref a27, .int 11])), (a1, .inl (cI, 4, .inl (tb [0, 0, 0, 0]))), (a2, .inl (cI, 4, .inl (tb [x0]))), (a3, .inl (cI, 4, .inl (tb [10, 10, 10, 10])))]) (by decide +kernel) (Nat.le_of_ble_eq_true rfl) (fun p e s m below meth c A ls hx hb hr hml hown hts hk hnm hA hK hP hD hS hX hl => ?_)
  have hown : s.vm.findClass RX9 = some m.cls := hown
  have hl : lv_has ls 5 [(0, .ref a0), (1, .ref a2), (2, .int 0)] := hl
  refine lv_iconst (v := 1) hx hb dX9_isPlan_0 (by decide) ?_
  refine lv_istore_n (lv' := [(3, .int 1), (0, .ref a0), (1, .ref a2), (2, .int 0)]) hx hb dX9_isPlan_1 rfl hl (by decide) rfl (fun ls hl => ?_)
  refine lv_iconst (v := 0) hx hb dX9_isPlan_2 (by decide) ?_
  refine lv_istore (lv' := [(4, .int 0), (3, .int 1), (0, .ref a0), (1, .ref a2), (2, .int 0)]) hx hb dX9_isPlan_3 hl (by decide) rfl (fun ls hl => ?_)
  refine lv_iload hx hb dX9_isPlan_5 (lv_at hl 0 rfl) ?_
  refine lv_aload_n hx hb dX9_isPlan_7 rfl (lv_at hl 2 rfl) ?_
  refine gf (k := 12) hx hb hts inX9 hown hK hP k_807 rfl (by decide) rfl 0 rfl (.int 1) rfl dX9_isPlan_8 ?_
  refine f_icmp_ge hx hb dX9_isPlan_11 62 (by decide) (by decide +kernel) ?_
  refine lv_iload_n hx hb dX9_isPlan_14 rfl (lv_at hl 1 rfl) ?_
  refine f_if_eq hx hb dX9_isPlan_15 62 (by decide) (by decide +kernel) ?_
  refine lv_aload_n hx hb dX9_isPlan_18 rfl (lv_at hl 2 rfl) ?_
  refine gf (k := 2) hx hb hts inX9 hown hK hP k_797 rfl (by decide) rfl 0 rfl (.ref a1) rfl dX9_isPlan_19 ?_
  refine lv_iload hx hb dX9_isPlan_22 (lv_at hl 0 rfl) ?_
  refine ld_i hx hb hK hP 1 rfl (vin (by decide +kernel)) dX9_isPlan_24 0 rfl ?_
  refine lv_aload_n hx hb dX9_isPlan_25 rfl (lv_at hl 3 rfl) ?_
  refine lv_iload_n hx hb dX9_isPlan_26 rfl (lv_at hl 4 rfl) ?_
  refine lv_iload hx hb dX9_isPlan_27 (lv_at hl 0 rfl) ?_
  refine v_iadd hx hb dX9_isPlan_29 0 (by decide +kernel) ?_
  refine ld_i hx hb hK hP 2 rfl (vin (by decide +kernel)) dX9_isPlan_30 x0 rfl ?_
  refine f_icmp_gt hx hb dX9_isPlan_31 54 (by decide) (p_nlt (by rw [show (0 : Int32).toInt = 0 from by decide +kernel]; omega)) ?_
  refine lv_aload_n hx hb dX9_isPlan_34 rfl (lv_at hl 3 rfl) ?_
  refine lv_iload_n hx hb dX9_isPlan_35 rfl (lv_at hl 4 rfl) ?_
  refine lv_iload hx hb dX9_isPlan_36 (lv_at hl 0 rfl) ?_
  refine v_iadd hx hb dX9_isPlan_38 0 (by decide +kernel) ?_
  refine ld_i hx hb hK hP 2 rfl (vin (by decide +kernel)) dX9_isPlan_39 x0 rfl ?_
  refine lv_aload_n hx hb dX9_isPlan_40 rfl (lv_at hl 2 rfl) ?_
  refine gf (k := 3) hx hb hts inX9 hown hK hP k_798 rfl (by decide) rfl 0 rfl (.ref a3) rfl dX9_isPlan_41 ?_
  refine lv_iload hx hb dX9_isPlan_44 (lv_at hl 0 rfl) ?_
  refine ld_i hx hb hK hP 3 rfl (vin (by decide +kernel)) dX9_isPlan_46 10 rfl ?_
  refine f_icmp_gt hx hb dX9_isPlan_47 54 (by decide) (p_nlt (by rw [show (10 : Int32).toInt = 10 from by decide +kernel]; omega)) ?_
  refine lv_iconst (v := 1) hx hb dX9_isPlan_50 (by decide) ?_
  refine lv_goto (tgt := 55) hx hb dX9_isPlan_51 (by decide) ?_
  refine lv_istore_n (lv' := [(3, .int 1), (4, .int 0), (0, .ref a0), (1, .ref a2), (2, .int 0)]) hx hb dX9_isPlan_55 rfl hl (by decide) rfl (fun ls hl => ?_)
  refine lv_iinc (v := 1) (lv' := [(4, .int 1), (3, .int 1), (0, .ref a0), (1, .ref a2), (2, .int 0)]) hx hb dX9_isPlan_56 hl (k := 1) rfl (by decide +kernel) (by decide) rfl (fun ls hl => ?_)
  refine lv_goto (tgt := 5) hx hb dX9_isPlan_59 (by decide) ?_
  refine lv_iload hx hb dX9_isPlan_5 (lv_at hl 0 rfl) ?_
  refine lv_aload_n hx hb dX9_isPlan_7 rfl (lv_at hl 2 rfl) ?_
  refine gf (k := 12) hx hb hts inX9 hown hK hP k_807 rfl (by decide) rfl 0 rfl (.int 1) rfl dX9_isPlan_8 ?_
  refine t_icmp_ge hx hb dX9_isPlan_11 62 (by decide) (by decide +kernel) ?_
  refine lv_iconst (v := 0) hx hb dX9_isPlan_62 (by decide) ?_
  refine lv_istore (lv' := [(4, .int 0), (3, .int 1), (0, .ref a0), (1, .ref a2), (2, .int 0)]) hx hb dX9_isPlan_63 hl (by decide) rfl (fun ls hl => ?_)
  refine lv_iload hx hb dX9_isPlan_65 (lv_at hl 0 rfl) ?_
  refine lv_aload_n hx hb dX9_isPlan_67 rfl (lv_at hl 2 rfl) ?_
  refine gf (k := 13) hx hb hts inX9 hown hK hP k_808 rfl (by decide) rfl 0 rfl (.int 0) rfl dX9_isPlan_68 ?_
  refine t_icmp_ge hx hb dX9_isPlan_71 108 (by decide) (by decide +kernel) ?_
  refine lv_iload_n hx hb dX9_isPlan_108 rfl (lv_at hl 1 rfl) ?_
  exact r_z hx hb hr hk hK hP hD hS dX9_isPlan_109 rfl
set_option maxRecDepth 100000 in
set_option maxHeartbeats 4000000 in
theorem c604_X9_isPlan (l : Launch) (dC : Nat → ClassId) (dI : Nat → Nat → Nat) (cI cJ cII cJJ : ClassId) (sz g a0 a1 a2 a3 a4 a5 a6 a7 a8 a9 a10 a11 a12 a13 a14 a15 a16 a17 a18 a19 a20 a21 a22 a23 a24 a25 a26 a27 : Nat) (x0 : Int32) (h_x0 : 2 ≤ x0.toInt ∧ x0.toInt ≤ 10) : Met l yX9_isPlan (.code yX9_isPlan cX9_isPlan 5 (some .boolean) :: TT) ({ frames := 2, cells := 0, slots := 0, locals := 80 }) (PcS dC dI (TY cI cJ cII cJJ) [.ref a0, .ref a2, .int 0] [(a0, .inr (9, [.ref a4, .ref a5, .ref a1, .ref a3, .ref a6, .ref a7, .ref a8, .ref a9, .ref a10, .ref a11, .ref a12, .ref a13, .int 1, .int 0, .int 1, .ref a14, .ref a15, .ref a16, .ref a17, .ref a18, .ref a19, .int 2, .int 2, .ref a20, .ref a21, .ref a22, .ref a23, .int 0, .int 1, .ref a24, .ref a25, .ref a26, .ref a2, .int 1, .ref a27, .int 11])), (a1, .inl (cI, 4, .inl (tb [0, 0, 0, 0]))), (a2, .inl (cI, 4, .inl (tb [x0]))), (a3, .inl (cI, 4, .inl (tb [10, 10, 10, 10])))] sz 0 g) ((QcI dC dI (TY cI cJ cII cJJ) 1 [(a0, .inr (9, [.ref a4, .ref a5, .ref a1, .ref a3, .ref a6, .ref a7, .ref a8, .ref a9, .ref a10, .ref a11, .ref a12, .ref a13, .int 1, .int 0, .int 1, .ref a14, .ref a15, .ref a16, .ref a17, .ref a18, .ref a19, .int 2, .int 2, .ref a20, .ref a21, .ref a22, .ref a23, .int 0, .int 1, .ref a24, .ref a25, .ref a26, .ref a2, .int 1, .ref a27, .int 11])), (a1, .inl (cI, 4, .inl (tb [0, 0, 0, 0]))), (a2, .inl (cI, 4, .inl (tb [x0]))), (a3, .inl (cI, 4, .inl (tb [10, 10, 10, 10])))]) (va_A [(a0, .inr (9, [.ref a4, .ref a5, .ref a1, .ref a3, .ref a6, .ref a7, .ref a8, .ref a9, .ref a10, .ref a11, .ref a12, .ref a13, .int 1, .int 0, .int 1, .ref a14, .ref a15, .ref a16, .ref a17, .ref a18, .ref a19, .int 2, .int 2, .ref a20, .ref a21, .ref a22, .ref a23, .int 0, .int 1, .ref a24, .ref a25, .ref a26, .ref a2, .int 1, .ref a27, .int 11])), (a1, .inl (cI, 4, .inl (tb [0, 0, 0, 0]))), (a2, .inl (cI, 4, .inl (tb [x0]))), (a3, .inl (cI, 4, .inl (tb [10, 10, 10, 10])))] sz)) 0 0 (va_A [(a0, .inr (9, [.ref a4, .ref a5, .ref a1, .ref a3, .ref a6, .ref a7, .ref a8, .ref a9, .ref a10, .ref a11, .ref a12, .ref a13, .int 1, .int 0, .int 1, .ref a14, .ref a15, .ref a16, .ref a17, .ref a18, .ref a19, .int 2, .int 2, .ref a20, .ref a21, .ref a22, .ref a23, .int 0, .int 1, .ref a24, .ref a25, .ref a26, .ref a2, .int 1, .ref a27, .int 11])), (a1, .inl (cI, 4, .inl (tb [0, 0, 0, 0]))), (a2, .inl (cI, 4, .inl (tb [x0]))), (a3, .inl (cI, 4, .inl (tb [10, 10, 10, 10])))] sz) := by
  refine SM.of (y := yX9_isPlan) (maxL := 5) (av := [.ref a0, .ref a2, .int 0]) (QcI dC dI (TY cI cJ cII cJJ) 1 [(a0, .inr (9, [.ref a4, .ref a5, .ref a1, .ref a3, .ref a6, .ref a7, .ref a8, .ref a9, .ref a10, .ref a11, .ref a12, .ref a13, .int 1, .int 0, .int 1, .ref a14, .ref a15, .ref a16, .ref a17, .ref a18, .ref a19, .int 2, .int 2, .ref a20, .ref a21, .ref a22, .ref a23, .int 0, .int 1, .ref a24, .ref a25, .ref a26, .ref a2, .int 1, .ref a27, .int 11])), (a1, .inl (cI, 4, .inl (tb [0, 0, 0, 0]))), (a2, .inl (cI, 4, .inl (tb [x0]))), (a3, .inl (cI, 4, .inl (tb [10, 10, 10, 10])))]) (by decide +kernel) (Nat.le_of_ble_eq_true rfl) (fun p e s m below meth c A ls hx hb hr hml hown hts hk hnm hA hK hP hD hS hX hl => ?_)
  have hown : s.vm.findClass RX9 = some m.cls := hown
  have hl : lv_has ls 5 [(0, .ref a0), (1, .ref a2), (2, .int 0)] := hl
  refine lv_iconst (v := 1) hx hb dX9_isPlan_0 (by decide) ?_
  refine lv_istore_n (lv' := [(3, .int 1), (0, .ref a0), (1, .ref a2), (2, .int 0)]) hx hb dX9_isPlan_1 rfl hl (by decide) rfl (fun ls hl => ?_)
  refine lv_iconst (v := 0) hx hb dX9_isPlan_2 (by decide) ?_
  refine lv_istore (lv' := [(4, .int 0), (3, .int 1), (0, .ref a0), (1, .ref a2), (2, .int 0)]) hx hb dX9_isPlan_3 hl (by decide) rfl (fun ls hl => ?_)
  refine lv_iload hx hb dX9_isPlan_5 (lv_at hl 0 rfl) ?_
  refine lv_aload_n hx hb dX9_isPlan_7 rfl (lv_at hl 2 rfl) ?_
  refine gf (k := 12) hx hb hts inX9 hown hK hP k_807 rfl (by decide) rfl 0 rfl (.int 1) rfl dX9_isPlan_8 ?_
  refine f_icmp_ge hx hb dX9_isPlan_11 62 (by decide) (by decide +kernel) ?_
  refine lv_iload_n hx hb dX9_isPlan_14 rfl (lv_at hl 1 rfl) ?_
  refine f_if_eq hx hb dX9_isPlan_15 62 (by decide) (by decide +kernel) ?_
  refine lv_aload_n hx hb dX9_isPlan_18 rfl (lv_at hl 2 rfl) ?_
  refine gf (k := 2) hx hb hts inX9 hown hK hP k_797 rfl (by decide) rfl 0 rfl (.ref a1) rfl dX9_isPlan_19 ?_
  refine lv_iload hx hb dX9_isPlan_22 (lv_at hl 0 rfl) ?_
  refine ld_i hx hb hK hP 1 rfl (vin (by decide +kernel)) dX9_isPlan_24 0 rfl ?_
  refine lv_aload_n hx hb dX9_isPlan_25 rfl (lv_at hl 3 rfl) ?_
  refine lv_iload_n hx hb dX9_isPlan_26 rfl (lv_at hl 4 rfl) ?_
  refine lv_iload hx hb dX9_isPlan_27 (lv_at hl 0 rfl) ?_
  refine v_iadd hx hb dX9_isPlan_29 0 (by decide +kernel) ?_
  refine ld_i hx hb hK hP 2 rfl (vin (by decide +kernel)) dX9_isPlan_30 x0 rfl ?_
  refine f_icmp_gt hx hb dX9_isPlan_31 54 (by decide) (p_nlt (by rw [show (0 : Int32).toInt = 0 from by decide +kernel]; omega)) ?_
  refine lv_aload_n hx hb dX9_isPlan_34 rfl (lv_at hl 3 rfl) ?_
  refine lv_iload_n hx hb dX9_isPlan_35 rfl (lv_at hl 4 rfl) ?_
  refine lv_iload hx hb dX9_isPlan_36 (lv_at hl 0 rfl) ?_
  refine v_iadd hx hb dX9_isPlan_38 0 (by decide +kernel) ?_
  refine ld_i hx hb hK hP 2 rfl (vin (by decide +kernel)) dX9_isPlan_39 x0 rfl ?_
  refine lv_aload_n hx hb dX9_isPlan_40 rfl (lv_at hl 2 rfl) ?_
  refine gf (k := 3) hx hb hts inX9 hown hK hP k_798 rfl (by decide) rfl 0 rfl (.ref a3) rfl dX9_isPlan_41 ?_
  refine lv_iload hx hb dX9_isPlan_44 (lv_at hl 0 rfl) ?_
  refine ld_i hx hb hK hP 3 rfl (vin (by decide +kernel)) dX9_isPlan_46 10 rfl ?_
  refine f_icmp_gt hx hb dX9_isPlan_47 54 (by decide) (p_nlt (by rw [show (10 : Int32).toInt = 10 from by decide +kernel]; omega)) ?_
  refine lv_iconst (v := 1) hx hb dX9_isPlan_50 (by decide) ?_
  refine lv_goto (tgt := 55) hx hb dX9_isPlan_51 (by decide) ?_
  refine lv_istore_n (lv' := [(3, .int 1), (4, .int 0), (0, .ref a0), (1, .ref a2), (2, .int 0)]) hx hb dX9_isPlan_55 rfl hl (by decide) rfl (fun ls hl => ?_)
  refine lv_iinc (v := 1) (lv' := [(4, .int 1), (3, .int 1), (0, .ref a0), (1, .ref a2), (2, .int 0)]) hx hb dX9_isPlan_56 hl (k := 1) rfl (by decide +kernel) (by decide) rfl (fun ls hl => ?_)
  refine lv_goto (tgt := 5) hx hb dX9_isPlan_59 (by decide) ?_
  refine lv_iload hx hb dX9_isPlan_5 (lv_at hl 0 rfl) ?_
  refine lv_aload_n hx hb dX9_isPlan_7 rfl (lv_at hl 2 rfl) ?_
  refine gf (k := 12) hx hb hts inX9 hown hK hP k_807 rfl (by decide) rfl 0 rfl (.int 1) rfl dX9_isPlan_8 ?_
  refine t_icmp_ge hx hb dX9_isPlan_11 62 (by decide) (by decide +kernel) ?_
  refine lv_iconst (v := 0) hx hb dX9_isPlan_62 (by decide) ?_
  refine lv_istore (lv' := [(4, .int 0), (3, .int 1), (0, .ref a0), (1, .ref a2), (2, .int 0)]) hx hb dX9_isPlan_63 hl (by decide) rfl (fun ls hl => ?_)
  refine lv_iload hx hb dX9_isPlan_65 (lv_at hl 0 rfl) ?_
  refine lv_aload_n hx hb dX9_isPlan_67 rfl (lv_at hl 2 rfl) ?_
  refine gf (k := 13) hx hb hts inX9 hown hK hP k_808 rfl (by decide) rfl 0 rfl (.int 0) rfl dX9_isPlan_68 ?_
  refine t_icmp_ge hx hb dX9_isPlan_71 108 (by decide) (by decide +kernel) ?_
  refine lv_iload_n hx hb dX9_isPlan_108 rfl (lv_at hl 1 rfl) ?_
  exact r_z hx hb hr hk hK hP hD hS dX9_isPlan_109 rfl
set_option maxRecDepth 100000 in
set_option maxHeartbeats 4000000 in
theorem c601_X9_near (l : Launch) (dC : Nat → ClassId) (dI : Nat → Nat → Nat) (cI cJ cII cJJ : ClassId) (sz g a0 a1 a2 a3 a4 a5 a6 a7 a8 a9 a10 a11 a12 a13 a14 a15 a16 a17 a18 a19 a20 a21 a22 a23 a24 a25 a26 a27 : Nat) (x0 : Int32) (h_x0 : 1 ≤ x0.toInt ∧ x0.toInt ≤ 9) : Met l yX9_near (.code yX9_near cX9_near 5 (some .int) :: TT) ({ frames := 7, cells := 0, slots := 0, locals := 380 }) (PcS dC dI (TY cI cJ cII cJJ) [.ref a0, .int x0] [(a0, .inr (9, [.ref a15, .ref a16, .ref a1, .ref a2, .ref a17, .ref a18, .ref a19, .ref a20, .ref a21, .ref a22, .ref a23, .ref a24, .int 1, .int 0, .int 0, .ref a9, .ref a10, .ref a11, .ref a12, .ref a13, .ref a14, .int 0, .int 0, .ref a6, .ref a5, .ref a7, .ref a8, .int 0, .int 0, .ref a25, .ref a26, .ref a27, .ref a3, .int 0, .ref a4, .int 0])), (a1, .inl (cI, 4, .inl (tb [0, 0, 0, 0]))), (a2, .inl (cI, 4, .inl (tb [10, 10, 10, 10]))), (a3, .inl (cI, 4, .inl (tb []))), (a4, .inl (cI, 777924, .inl (tb []))), (a5, .inl (cI, 3, .inl (tb []))), (a6, .inl (cI, 3, .inl (tb []))), (a7, .inl (cI, 4, .inl (tb []))), (a8, .inl (cI, 4, .inl (tb []))), (a9, .inl (cI, 400000, .inl (tb []))), (a10, .inl (cI, 100000, .inl (tb []))), (a11, .inl (cI, 6001, .inl (tb []))), (a12, .inl (cI, 100000, .inl (tb []))), (a13, .inl (cI, 24000, .inl (tb []))), (a14, .inl (cI, 6000, .inl (tb [])))] sz 0 g) ((QcI dC dI (TY cI cJ cII cJJ) 2 []) (va_A [(a0, .inr (9, [.ref a15, .ref a16, .ref a1, .ref a2, .ref a17, .ref a18, .ref a19, .ref a20, .ref a21, .ref a22, .ref a23, .ref a24, .int 1, .int 0, .int 0, .ref a9, .ref a10, .ref a11, .ref a12, .ref a13, .ref a14, .int 0, .int 0, .ref a6, .ref a5, .ref a7, .ref a8, .int 0, .int 0, .ref a25, .ref a26, .ref a27, .ref a3, .int 0, .ref a4, .int 0])), (a1, .inl (cI, 4, .inl (tb [0, 0, 0, 0]))), (a2, .inl (cI, 4, .inl (tb [10, 10, 10, 10]))), (a3, .inl (cI, 4, .inl (tb []))), (a4, .inl (cI, 777924, .inl (tb []))), (a5, .inl (cI, 3, .inl (tb []))), (a6, .inl (cI, 3, .inl (tb []))), (a7, .inl (cI, 4, .inl (tb []))), (a8, .inl (cI, 4, .inl (tb []))), (a9, .inl (cI, 400000, .inl (tb []))), (a10, .inl (cI, 100000, .inl (tb []))), (a11, .inl (cI, 6001, .inl (tb []))), (a12, .inl (cI, 100000, .inl (tb []))), (a13, .inl (cI, 24000, .inl (tb []))), (a14, .inl (cI, 6000, .inl (tb [])))] sz)) 0 0 (va_A [(a0, .inr (9, [.ref a15, .ref a16, .ref a1, .ref a2, .ref a17, .ref a18, .ref a19, .ref a20, .ref a21, .ref a22, .ref a23, .ref a24, .int 1, .int 0, .int 0, .ref a9, .ref a10, .ref a11, .ref a12, .ref a13, .ref a14, .int 0, .int 0, .ref a6, .ref a5, .ref a7, .ref a8, .int 0, .int 0, .ref a25, .ref a26, .ref a27, .ref a3, .int 0, .ref a4, .int 0])), (a1, .inl (cI, 4, .inl (tb [0, 0, 0, 0]))), (a2, .inl (cI, 4, .inl (tb [10, 10, 10, 10]))), (a3, .inl (cI, 4, .inl (tb []))), (a4, .inl (cI, 777924, .inl (tb []))), (a5, .inl (cI, 3, .inl (tb []))), (a6, .inl (cI, 3, .inl (tb []))), (a7, .inl (cI, 4, .inl (tb []))), (a8, .inl (cI, 4, .inl (tb []))), (a9, .inl (cI, 400000, .inl (tb []))), (a10, .inl (cI, 100000, .inl (tb []))), (a11, .inl (cI, 6001, .inl (tb []))), (a12, .inl (cI, 100000, .inl (tb []))), (a13, .inl (cI, 24000, .inl (tb []))), (a14, .inl (cI, 6000, .inl (tb [])))] sz) := by
  refine SM.of (y := yX9_near) (maxL := 5) (av := [.ref a0, .int x0]) (QcI dC dI (TY cI cJ cII cJJ) 2 []) (by decide +kernel) (Nat.le_of_ble_eq_true rfl) (fun p e s m below meth c A ls hx hb hr hml hown hts hk hnm hA hK hP hD hS hX hl => ?_)
  have hown : s.vm.findClass RX9 = some m.cls := hown
  have hl : lv_has ls 5 [(0, .ref a0), (1, .int x0)] := hl
  refine lv_aload_n hx hb dX9_near_0 rfl (lv_at hl 0 rfl) ?_
  refine kV_v (q0 := 0) ⟨hx, hb, hml, hown, hts⟩ hK hP hD hS hA hX cv_RX9_238 [0, 1, 2, 3, 4] [5, 6, 7, 8, 9, 10, 11, 12, 13, 14] (wr := [(a5, .inl (cI, 3, .inl (tb []))), (a6, .inl (cI, 3, .inl (tb []))), (a7, .inl (cI, 4, .inl (tb []))), (a8, .inl (cI, 4, .inl (tb []))), (a9, .inl (cI, 400000, .inl (tb []))), (a10, .inl (cI, 100000, .inl (tb []))), (a11, .inl (cI, 6001, .inl (tb []))), (a12, .inl (cI, 100000, .inl (tb []))), (a13, .inl (cI, 24000, .inl (tb []))), (a14, .inl (cI, 6000, .inl (tb [])))]) rfl rfl rfl rfl (by decide) (c515_X9_gather l dC dI cI cJ cII cJJ s.heap.size 0 a0 a1 a2 a3 a4 a15 a16 a17 a18 a19 a20 a21 a22 a23 a24 a9 a10 a11 a12 a13 a14 a6 a5 a7 a8 a25 a26 a27) ⟨by decide +kernel, by decide +kernel⟩ rfl rfl (Or.inl rfl) (rest := []) rfl rfl rfl hl.1 rfl (Nat.le_of_ble_eq_true rfl) dX9_near_1 ⟨Nat.le_of_ble_eq_true rfl, Nat.le_of_ble_eq_true rfl⟩ (fun _ => rfl) (W' := [(a5, .inl (cI, 3, .inl (tb []))), (a6, .inl (cI, 3, .inl (tb []))), (a7, .inl (cI, 4, .inl (tb []))), (a8, .inl (cI, 4, .inl (tb []))), (a9, .inl (cI, 400000, .inl (tb []))), (a10, .inl (cI, 100000, .inl (tb []))), (a11, .inl (cI, 6001, .inl (tb []))), (a12, .inl (cI, 100000, .inl (tb []))), (a13, .inl (cI, 24000, .inl (tb []))), (a14, .inl (cI, 6000, .inl (tb []))), (a4, .inl (cI, 777924, .inl (tb [0, 0, 0, 0, 1, 0, 0, 0, 2, 0, 0, 0, 3, 0, 0, 0, 4, 0, 0, 0, 5, 0, 0, 0, 6, 0, 0, 0, 7, 0, 0, 0, 8, 0, 0, 0, 9, 0, 0, 0, 10]))), (a0, .inr (9, [.ref a15, .ref a16, .ref a1, .ref a2, .ref a17, .ref a18, .ref a19, .ref a20, .ref a21, .ref a22, .ref a23, .ref a24, .int 1, .int 0, .int 0, .ref a9, .ref a10, .ref a11, .ref a12, .ref a13, .ref a14, .int 0, .int 0, .ref a6, .ref a5, .ref a7, .ref a8, .int 0, .int 0, .ref a25, .ref a26, .ref a27, .ref a3, .int 1, .ref a4, .int 11])), (a1, .inl (cI, 4, .inl (tb [0, 0, 0, 0]))), (a3, .inl (cI, 4, .inl (tb [10]))), (a2, .inl (cI, 4, .inl (tb [10, 10, 10, 10])))]) rfl (fun H locs hP hD hS => ?_)
  refine lv_iload_n hx hb dX9_near_4 rfl (lv_at hl 1 rfl) ?_
  refine lv_aload_n hx hb dX9_near_5 rfl (lv_at hl 0 rfl) ?_
  refine gf (k := 35) hx hb hts inX9 hown hK hP k_830 rfl (by decide) rfl 11 rfl (.int 11) rfl dX9_near_6 ?_
  refine kS_i ⟨hx, hb, hml, hown, hts⟩ hK hP hD hS hA hX cs_RX9_116 [] [0, 1, 2, 3, 4, 5, 6, 7, 8, 9, 10, 11, 12, 13, 14] (wr := [(a5, .inl (cI, 3, .inl (tb []))), (a6, .inl (cI, 3, .inl (tb []))), (a7, .inl (cI, 4, .inl (tb []))), (a8, .inl (cI, 4, .inl (tb []))), (a9, .inl (cI, 400000, .inl (tb []))), (a10, .inl (cI, 100000, .inl (tb []))), (a11, .inl (cI, 6001, .inl (tb []))), (a12, .inl (cI, 100000, .inl (tb []))), (a13, .inl (cI, 24000, .inl (tb []))), (a14, .inl (cI, 6000, .inl (tb []))), (a4, .inl (cI, 777924, .inl (tb [0, 0, 0, 0, 1, 0, 0, 0, 2, 0, 0, 0, 3, 0, 0, 0, 4, 0, 0, 0, 5, 0, 0, 0, 6, 0, 0, 0, 7, 0, 0, 0, 8, 0, 0, 0, 9, 0, 0, 0, 10]))), (a0, .inr (9, [.ref a15, .ref a16, .ref a1, .ref a2, .ref a17, .ref a18, .ref a19, .ref a20, .ref a21, .ref a22, .ref a23, .ref a24, .int 1, .int 0, .int 0, .ref a9, .ref a10, .ref a11, .ref a12, .ref a13, .ref a14, .int 0, .int 0, .ref a6, .ref a5, .ref a7, .ref a8, .int 0, .int 0, .ref a25, .ref a26, .ref a27, .ref a3, .int 1, .ref a4, .int 11])), (a1, .inl (cI, 4, .inl (tb [0, 0, 0, 0]))), (a3, .inl (cI, 4, .inl (tb [10]))), (a2, .inl (cI, 4, .inl (tb [10, 10, 10, 10])))]) rfl rfl rfl rfl (by decide) (c602_X9_isIn l dC dI cI cJ cII cJJ H.size 0 x0 h_x0) ⟨by decide +kernel, by decide +kernel⟩ rfl rfl (Or.inl rfl) (rest := []) rfl hl.1 rfl (Nat.le_of_ble_eq_true rfl) dX9_near_9 ⟨Nat.le_of_ble_eq_true rfl, Nat.le_of_ble_eq_true rfl⟩ (W' := [(a5, .inl (cI, 3, .inl (tb []))), (a6, .inl (cI, 3, .inl (tb []))), (a7, .inl (cI, 4, .inl (tb []))), (a8, .inl (cI, 4, .inl (tb []))), (a9, .inl (cI, 400000, .inl (tb []))), (a10, .inl (cI, 100000, .inl (tb []))), (a11, .inl (cI, 6001, .inl (tb []))), (a12, .inl (cI, 100000, .inl (tb []))), (a13, .inl (cI, 24000, .inl (tb []))), (a14, .inl (cI, 6000, .inl (tb []))), (a4, .inl (cI, 777924, .inl (tb [0, 0, 0, 0, 1, 0, 0, 0, 2, 0, 0, 0, 3, 0, 0, 0, 4, 0, 0, 0, 5, 0, 0, 0, 6, 0, 0, 0, 7, 0, 0, 0, 8, 0, 0, 0, 9, 0, 0, 0, 10]))), (a0, .inr (9, [.ref a15, .ref a16, .ref a1, .ref a2, .ref a17, .ref a18, .ref a19, .ref a20, .ref a21, .ref a22, .ref a23, .ref a24, .int 1, .int 0, .int 0, .ref a9, .ref a10, .ref a11, .ref a12, .ref a13, .ref a14, .int 0, .int 0, .ref a6, .ref a5, .ref a7, .ref a8, .int 0, .int 0, .ref a25, .ref a26, .ref a27, .ref a3, .int 1, .ref a4, .int 11])), (a1, .inl (cI, 4, .inl (tb [0, 0, 0, 0]))), (a3, .inl (cI, 4, .inl (tb [10]))), (a2, .inl (cI, 4, .inl (tb [10, 10, 10, 10])))]) rfl (fun H locs hP hD hS => ?_)
  refine t_if_ne hx hb dX9_near_12 21 (by decide) (by decide +kernel) ?_
  refine lv_aload_n hx hb dX9_near_21 rfl (lv_at hl 0 rfl) ?_
  refine kV_v (q0 := 0) ⟨hx, hb, hml, hown, hts⟩ hK hP hD hS hA hX cv_RX9_180 [11, 0, 1, 2, 3, 4, 5, 6, 7, 8, 9] [10, 12, 13, 14] (wr := [(a4, .inl (cI, 777924, .inl (tb [0, 0, 0, 0, 1, 0, 0, 0, 2, 0, 0, 0, 3, 0, 0, 0, 4, 0, 0, 0, 5, 0, 0, 0, 6, 0, 0, 0, 7, 0, 0, 0, 8, 0, 0, 0, 9, 0, 0, 0, 10]))), (a1, .inl (cI, 4, .inl (tb [0, 0, 0, 0]))), (a3, .inl (cI, 4, .inl (tb [10]))), (a2, .inl (cI, 4, .inl (tb [10, 10, 10, 10])))]) rfl rfl rfl rfl (by decide) (c581_X9_findSteps l dC dI cI cJ cII cJJ H.size 0 a0 a5 a6 a7 a8 a9 a10 a11 a12 a13 a14 a15 a16 a1 a2 a17 a18 a19 a20 a21 a22 a23 a24 a25 a26 a27 a3 a4) ⟨by decide +kernel, by decide +kernel⟩ rfl rfl (Or.inl rfl) (rest := []) rfl rfl rfl hl.1 rfl (Nat.le_of_ble_eq_true rfl) dX9_near_22 ⟨Nat.le_of_ble_eq_true rfl, Nat.le_of_ble_eq_true rfl⟩ (fun _ => rfl) (W' := [(a4, .inl (cI, 777924, .inl (tb [0, 0, 0, 0, 1, 0, 0, 0, 2, 0, 0, 0, 3, 0, 0, 0, 4, 0, 0, 0, 5, 0, 0, 0, 6, 0, 0, 0, 7, 0, 0, 0, 8, 0, 0, 0, 9, 0, 0, 0, 10]))), (a1, .inl (cI, 4, .inl (tb [0, 0, 0, 0]))), (a3, .inl (cI, 4, .inl (tb [10]))), (a2, .inl (cI, 4, .inl (tb [10, 10, 10, 10]))), (a11, .inl (cI, 6001, .inl (tb (0 :: 0 :: List.replicate 5999 2)))), (a12, .inl (cI, 100000, .inl (tb [0, 1]))), (a7, .inl (cI, 4, .inl (tb [0]))), (a10, .inl (cI, 100000, .inl (tb [1, 1]))), (a5, .inl (cI, 3, .inl (tb [0, 0, 0]))), (a6, .inl (cI, 3, .inl (tb [0, 0, 0]))), (a8, .inl (cI, 4, .inl (tb [1]))), (a9, .inl (cI, 400000, .inl (tb [(-1), 0, 0, 0, 1, 0, 0, 0]))), (a14, .inl (cI, 6000, .inl (tb [0, 1]))), (a0, .inr (9, [.ref a15, .ref a16, .ref a1, .ref a2, .ref a17, .ref a18, .ref a19, .ref a20, .ref a21, .ref a22, .ref a23, .ref a24, .int 1, .int 0, .int 1, .ref a9, .ref a10, .ref a11, .ref a12, .ref a13, .ref a14, .int 2, .int 2, .ref a6, .ref a5, .ref a7, .ref a8, .int 0, .int 1, .ref a25, .ref a26, .ref a27, .ref a3, .int 1, .ref a4, .int 11])), (a13, .inl (cI, 24000, .inl (tb [(-1), 0, 0, 0, 1, 0, 0, 0])))]) rfl (fun H locs hP hD hS => ?_)
  refine lv_iconst (v := 0) hx hb dX9_near_25 (by decide) ?_
  refine lv_istore_n (lv' := [(2, .int 0), (0, .ref a0), (1, .int x0)]) hx hb dX9_near_26 rfl hl (by decide) rfl (fun ls hl => ?_)
  refine lv_iconst (v := 0) hx hb dX9_near_27 (by decide) ?_
  refine lv_istore_n (lv' := [(3, .int 0), (2, .int 0), (0, .ref a0), (1, .int x0)]) hx hb dX9_near_28 rfl hl (by decide) rfl (fun ls hl => ?_)
  refine lv_iload_n hx hb dX9_near_29 rfl (lv_at hl 0 rfl) ?_
  refine lv_aload_n hx hb dX9_near_30 rfl (lv_at hl 2 rfl) ?_
  refine gf (k := 22) hx hb hts inX9 hown hK hP k_817 rfl (by decide) rfl 13 rfl (.int 2) rfl dX9_near_31 ?_
  refine f_icmp_ge hx hb dX9_near_34 107 (by decide) (by decide +kernel) ?_
  refine lv_iconst (v := 0) hx hb dX9_near_37 (by decide) ?_
  refine lv_istore (lv' := [(4, .int 0), (3, .int 0), (2, .int 0), (0, .ref a0), (1, .int x0)]) hx hb dX9_near_38 hl (by decide) rfl (fun ls hl => ?_)
  refine lv_iload hx hb dX9_near_40 (lv_at hl 0 rfl) ?_
  refine lv_aload_n hx hb dX9_near_42 rfl (lv_at hl 3 rfl) ?_
  refine gf (k := 12) hx hb hts inX9 hown hK hP k_807 rfl (by decide) rfl 13 rfl (.int 1) rfl dX9_near_43 ?_
  refine f_icmp_ge hx hb dX9_near_46 81 (by decide) (by decide +kernel) ?_
  refine lv_aload_n hx hb dX9_near_49 rfl (lv_at hl 3 rfl) ?_
  refine gf (k := 32) hx hb hts inX9 hown hK hP k_827 rfl (by decide) rfl 13 rfl (.ref a3) rfl dX9_near_50 ?_
  refine lv_iload hx hb dX9_near_53 (lv_at hl 0 rfl) ?_
  refine lv_aload_n hx hb dX9_near_55 rfl (lv_at hl 3 rfl) ?_
  refine gf (k := 34) hx hb hts inX9 hown hK hP k_829 rfl (by decide) rfl 13 rfl (.ref a4) rfl dX9_near_56 ?_
  refine lv_iconst (v := 4) hx hb dX9_near_59 (by decide) ?_
  refine lv_iload_n hx hb dX9_near_60 rfl (lv_at hl 4 rfl) ?_
  refine v_imul hx hb dX9_near_61 _ rfl ?_
  refine lv_topi (fun z174 e_z174 => ?_)
  have h_z174 : 4 ≤ z174.toInt ∧ z174.toInt ≤ 36 := by rw [e_z174]; exact (s_cmul32 (k := 4) h_x0 (by decide +kernel) (by decide +kernel) (by decide +kernel))
  refine lv_iload hx hb dX9_near_62 (lv_at hl 0 rfl) ?_
  refine v_iadd hx hb dX9_near_64 z174 (s_0add z174) ?_
  refine ld_i hx hb hK hP 0 rfl (s_vin (n := 777924) h_z174 (by decide +kernel) (by decide +kernel)) dX9_near_65 x0 (s_plans e_z174 h_x0 (by decide +kernel) (by decide +kernel)) ?_
  refine lv_aload_n hx hb dX9_near_66 rfl (lv_at hl 3 rfl) ?_
  refine lv_iload_n hx hb dX9_near_67 rfl (lv_at hl 1 rfl) ?_
  refine lv_iload hx hb dX9_near_68 (lv_at hl 0 rfl) ?_
  refine kV_i (q0 := 0) ⟨hx, hb, hml, hown, hts⟩ hK hP hD hS hA hX cv_RX9_183 [13, 12, 14] [0, 1, 2, 3, 4, 5, 6, 7, 8, 9, 10, 11] (wr := [(a4, .inl (cI, 777924, .inl (tb [0, 0, 0, 0, 1, 0, 0, 0, 2, 0, 0, 0, 3, 0, 0, 0, 4, 0, 0, 0, 5, 0, 0, 0, 6, 0, 0, 0, 7, 0, 0, 0, 8, 0, 0, 0, 9, 0, 0, 0, 10]))), (a1, .inl (cI, 4, .inl (tb [0, 0, 0, 0]))), (a3, .inl (cI, 4, .inl (tb [10]))), (a2, .inl (cI, 4, .inl (tb [10, 10, 10, 10]))), (a11, .inl (cI, 6001, .inl (tb (0 :: 0 :: List.replicate 5999 2)))), (a12, .inl (cI, 100000, .inl (tb [0, 1]))), (a7, .inl (cI, 4, .inl (tb [0]))), (a10, .inl (cI, 100000, .inl (tb [1, 1]))), (a5, .inl (cI, 3, .inl (tb [0, 0, 0]))), (a6, .inl (cI, 3, .inl (tb [0, 0, 0]))), (a8, .inl (cI, 4, .inl (tb [1]))), (a9, .inl (cI, 400000, .inl (tb [(-1), 0, 0, 0, 1, 0, 0, 0])))]) rfl rfl rfl rfl (by decide) (c597_X9_at l dC dI cI cJ cII cJJ H.size 0 a0 a14 a13 a15 a16 a1 a2 a17 a18 a19 a20 a21 a22 a23 a24 a9 a10 a11 a12 a6 a5 a7 a8 a25 a26 a27 a3 a4) ⟨by decide +kernel, by decide +kernel⟩ rfl rfl (Or.inl rfl) (rest := [.int x0, .int 0, .ref a3]) rfl rfl rfl hl.1 rfl (Nat.le_of_ble_eq_true rfl) dX9_near_70 ⟨Nat.le_of_ble_eq_true rfl, Nat.le_of_ble_eq_true rfl⟩ (W' := [(a4, .inl (cI, 777924, .inl (tb [0, 0, 0, 0, 1, 0, 0, 0, 2, 0, 0, 0, 3, 0, 0, 0, 4, 0, 0, 0, 5, 0, 0, 0, 6, 0, 0, 0, 7, 0, 0, 0, 8, 0, 0, 0, 9, 0, 0, 0, 10]))), (a1, .inl (cI, 4, .inl (tb [0, 0, 0, 0]))), (a3, .inl (cI, 4, .inl (tb [10]))), (a2, .inl (cI, 4, .inl (tb [10, 10, 10, 10]))), (a11, .inl (cI, 6001, .inl (tb (0 :: 0 :: List.replicate 5999 2)))), (a12, .inl (cI, 100000, .inl (tb [0, 1]))), (a7, .inl (cI, 4, .inl (tb [0]))), (a10, .inl (cI, 100000, .inl (tb [1, 1]))), (a5, .inl (cI, 3, .inl (tb [0, 0, 0]))), (a6, .inl (cI, 3, .inl (tb [0, 0, 0]))), (a8, .inl (cI, 4, .inl (tb [1]))), (a9, .inl (cI, 400000, .inl (tb [(-1), 0, 0, 0, 1, 0, 0, 0]))), (a0, .inr (9, [.ref a15, .ref a16, .ref a1, .ref a2, .ref a17, .ref a18, .ref a19, .ref a20, .ref a21, .ref a22, .ref a23, .ref a24, .int 1, .int 0, .int 1, .ref a9, .ref a10, .ref a11, .ref a12, .ref a13, .ref a14, .int 2, .int 2, .ref a6, .ref a5, .ref a7, .ref a8, .int 0, .int 1, .ref a25, .ref a26, .ref a27, .ref a3, .int 1, .ref a4, .int 11])), (a14, .inl (cI, 6000, .inl (tb [0, 1]))), (a13, .inl (cI, 24000, .inl (tb [(-1), 0, 0, 0, 1, 0, 0, 0])))]) rfl (fun H locs hP hD hS => ?_)
  refine v_iadd hx hb dX9_near_73 _ rfl ?_
  refine lv_topi (fun z175 e_z175 => ?_)
  have h_z175 : 0 ≤ z175.toInt ∧ z175.toInt ≤ 8 := by rw [e_z175]; have q9 := (s_addr32 h_x0 (s_lit32 (a := (-1)) (-1) (by decide +kernel)) (by decide +kernel) (by decide +kernel)); omega
  refine st_i hx hb hK hP hD hS 2 rfl (vin (by decide +kernel)) dX9_near_74 (L' := [z175]) rfl (W' := [(a4, .inl (cI, 777924, .inl (tb [0, 0, 0, 0, 1, 0, 0, 0, 2, 0, 0, 0, 3, 0, 0, 0, 4, 0, 0, 0, 5, 0, 0, 0, 6, 0, 0, 0, 7, 0, 0, 0, 8, 0, 0, 0, 9, 0, 0, 0, 10]))), (a1, .inl (cI, 4, .inl (tb [0, 0, 0, 0]))), (a3, .inl (cI, 4, .inl (tb [z175]))), (a2, .inl (cI, 4, .inl (tb [10, 10, 10, 10]))), (a11, .inl (cI, 6001, .inl (tb (0 :: 0 :: List.replicate 5999 2)))), (a12, .inl (cI, 100000, .inl (tb [0, 1]))), (a7, .inl (cI, 4, .inl (tb [0]))), (a10, .inl (cI, 100000, .inl (tb [1, 1]))), (a5, .inl (cI, 3, .inl (tb [0, 0, 0]))), (a6, .inl (cI, 3, .inl (tb [0, 0, 0]))), (a8, .inl (cI, 4, .inl (tb [1]))), (a9, .inl (cI, 400000, .inl (tb [(-1), 0, 0, 0, 1, 0, 0, 0]))), (a0, .inr (9, [.ref a15, .ref a16, .ref a1, .ref a2, .ref a17, .ref a18, .ref a19, .ref a20, .ref a21, .ref a22, .ref a23, .ref a24, .int 1, .int 0, .int 1, .ref a9, .ref a10, .ref a11, .ref a12, .ref a13, .ref a14, .int 2, .int 2, .ref a6, .ref a5, .ref a7, .ref a8, .int 0, .int 1, .ref a25, .ref a26, .ref a27, .ref a3, .int 1, .ref a4, .int 11])), (a14, .inl (cI, 6000, .inl (tb [0, 1]))), (a13, .inl (cI, 24000, .inl (tb [(-1), 0, 0, 0, 1, 0, 0, 0])))]) rfl (fun H locs hP hD hS => ?_)
  refine lv_iinc (v := 1) (lv' := [(4, .int 1), (3, .int 0), (2, .int 0), (0, .ref a0), (1, .int x0)]) hx hb dX9_near_75 hl (k := 0) rfl (by decide +kernel) (by decide) rfl (fun ls hl => ?_)
  refine lv_goto (tgt := 40) hx hb dX9_near_78 (by decide) ?_
  refine lv_iload hx hb dX9_near_40 (lv_at hl 0 rfl) ?_
  refine lv_aload_n hx hb dX9_near_42 rfl (lv_at hl 3 rfl) ?_
  refine gf (k := 12) hx hb hts inX9 hown hK hP k_807 rfl (by decide) rfl 12 rfl (.int 1) rfl dX9_near_43 ?_
  refine t_icmp_ge hx hb dX9_near_46 81 (by decide) (by decide +kernel) ?_
  refine lv_iload_n hx hb dX9_near_81 rfl (lv_at hl 2 rfl) ?_
  refine lv_aload_n hx hb dX9_near_82 rfl (lv_at hl 3 rfl) ?_
  refine lv_aload_n hx hb dX9_near_83 rfl (lv_at hl 3 rfl) ?_
  refine gf (k := 32) hx hb hts inX9 hown hK hP k_827 rfl (by decide) rfl 12 rfl (.ref a3) rfl dX9_near_84 ?_
  refine lv_iconst (v := 0) hx hb dX9_near_87 (by decide) ?_
  refine kV_i (q0 := 0) ⟨hx, hb, hml, hown, hts⟩ hK hP hD hS hA hX cv_RX9_199 [12, 1, 2, 3] [0, 4, 5, 6, 7, 8, 9, 10, 11, 13, 14] (wr := [(a4, .inl (cI, 777924, .inl (tb [0, 0, 0, 0, 1, 0, 0, 0, 2, 0, 0, 0, 3, 0, 0, 0, 4, 0, 0, 0, 5, 0, 0, 0, 6, 0, 0, 0, 7, 0, 0, 0, 8, 0, 0, 0, 9, 0, 0, 0, 10]))), (a11, .inl (cI, 6001, .inl (tb (0 :: 0 :: List.replicate 5999 2)))), (a12, .inl (cI, 100000, .inl (tb [0, 1]))), (a7, .inl (cI, 4, .inl (tb [0]))), (a10, .inl (cI, 100000, .inl (tb [1, 1]))), (a5, .inl (cI, 3, .inl (tb [0, 0, 0]))), (a6, .inl (cI, 3, .inl (tb [0, 0, 0]))), (a8, .inl (cI, 4, .inl (tb [1]))), (a9, .inl (cI, 400000, .inl (tb [(-1), 0, 0, 0, 1, 0, 0, 0]))), (a14, .inl (cI, 6000, .inl (tb [0, 1]))), (a13, .inl (cI, 24000, .inl (tb [(-1), 0, 0, 0, 1, 0, 0, 0])))]) rfl rfl rfl rfl (by decide) (c603_X9_isPlan l dC dI cI cJ cII cJJ H.size 0 a0 a1 a3 a2 a15 a16 a17 a18 a19 a20 a21 a22 a23 a24 a9 a10 a11 a12 a13 a14 a6 a5 a7 a8 a25 a26 a27 a4 z175 h_z175) ⟨by decide +kernel, by decide +kernel⟩ rfl rfl (Or.inl rfl) (rest := [.int 0]) rfl rfl rfl hl.1 rfl (Nat.le_of_ble_eq_true rfl) dX9_near_88 ⟨Nat.le_of_ble_eq_true rfl, Nat.le_of_ble_eq_true rfl⟩ (W' := [(a4, .inl (cI, 777924, .inl (tb [0, 0, 0, 0, 1, 0, 0, 0, 2, 0, 0, 0, 3, 0, 0, 0, 4, 0, 0, 0, 5, 0, 0, 0, 6, 0, 0, 0, 7, 0, 0, 0, 8, 0, 0, 0, 9, 0, 0, 0, 10]))), (a11, .inl (cI, 6001, .inl (tb (0 :: 0 :: List.replicate 5999 2)))), (a12, .inl (cI, 100000, .inl (tb [0, 1]))), (a7, .inl (cI, 4, .inl (tb [0]))), (a10, .inl (cI, 100000, .inl (tb [1, 1]))), (a5, .inl (cI, 3, .inl (tb [0, 0, 0]))), (a6, .inl (cI, 3, .inl (tb [0, 0, 0]))), (a8, .inl (cI, 4, .inl (tb [1]))), (a9, .inl (cI, 400000, .inl (tb [(-1), 0, 0, 0, 1, 0, 0, 0]))), (a14, .inl (cI, 6000, .inl (tb [0, 1]))), (a13, .inl (cI, 24000, .inl (tb [(-1), 0, 0, 0, 1, 0, 0, 0]))), (a0, .inr (9, [.ref a15, .ref a16, .ref a1, .ref a2, .ref a17, .ref a18, .ref a19, .ref a20, .ref a21, .ref a22, .ref a23, .ref a24, .int 1, .int 0, .int 1, .ref a9, .ref a10, .ref a11, .ref a12, .ref a13, .ref a14, .int 2, .int 2, .ref a6, .ref a5, .ref a7, .ref a8, .int 0, .int 1, .ref a25, .ref a26, .ref a27, .ref a3, .int 1, .ref a4, .int 11])), (a1, .inl (cI, 4, .inl (tb [0, 0, 0, 0]))), (a3, .inl (cI, 4, .inl (tb [z175]))), (a2, .inl (cI, 4, .inl (tb [10, 10, 10, 10])))]) rfl (fun H locs hP hD hS => ?_)
  refine f_if_eq hx hb dX9_near_91 98 (by decide) (by decide +kernel) ?_
  refine lv_iconst (v := 1) hx hb dX9_near_94 (by decide) ?_
  refine lv_goto (tgt := 99) hx hb dX9_near_95 (by decide) ?_
  refine v_iadd hx hb dX9_near_99 1 (by decide +kernel) ?_
  refine lv_istore_n (lv' := [(2, .int 1), (4, .int 1), (3, .int 0), (0, .ref a0), (1, .int x0)]) hx hb dX9_near_100 rfl hl (by decide) rfl (fun ls hl => ?_)
  refine lv_iinc (v := 1) (lv' := [(3, .int 1), (2, .int 1), (4, .int 1), (0, .ref a0), (1, .int x0)]) hx hb dX9_near_101 hl (k := 2) rfl (by decide +kernel) (by decide) rfl (fun ls hl => ?_)
  refine lv_goto (tgt := 29) hx hb dX9_near_104 (by decide) ?_
  refine lv_iload_n hx hb dX9_near_29 rfl (lv_at hl 0 rfl) ?_
  refine lv_aload_n hx hb dX9_near_30 rfl (lv_at hl 3 rfl) ?_
  refine gf (k := 22) hx hb hts inX9 hown hK hP k_817 rfl (by decide) rfl 11 rfl (.int 2) rfl dX9_near_31 ?_
  refine f_icmp_ge hx hb dX9_near_34 107 (by decide) (by decide +kernel) ?_
  refine lv_iconst (v := 0) hx hb dX9_near_37 (by decide) ?_
  refine lv_istore (lv' := [(4, .int 0), (3, .int 1), (2, .int 1), (0, .ref a0), (1, .int x0)]) hx hb dX9_near_38 hl (by decide) rfl (fun ls hl => ?_)
  refine lv_iload hx hb dX9_near_40 (lv_at hl 0 rfl) ?_
  refine lv_aload_n hx hb dX9_near_42 rfl (lv_at hl 3 rfl) ?_
  refine gf (k := 12) hx hb hts inX9 hown hK hP k_807 rfl (by decide) rfl 11 rfl (.int 1) rfl dX9_near_43 ?_
  refine f_icmp_ge hx hb dX9_near_46 81 (by decide) (by decide +kernel) ?_
  refine lv_aload_n hx hb dX9_near_49 rfl (lv_at hl 3 rfl) ?_
  refine gf (k := 32) hx hb hts inX9 hown hK hP k_827 rfl (by decide) rfl 11 rfl (.ref a3) rfl dX9_near_50 ?_
  refine lv_iload hx hb dX9_near_53 (lv_at hl 0 rfl) ?_
  refine lv_aload_n hx hb dX9_near_55 rfl (lv_at hl 3 rfl) ?_
  refine gf (k := 34) hx hb hts inX9 hown hK hP k_829 rfl (by decide) rfl 11 rfl (.ref a4) rfl dX9_near_56 ?_
  refine lv_iconst (v := 4) hx hb dX9_near_59 (by decide) ?_
  refine lv_iload_n hx hb dX9_near_60 rfl (lv_at hl 4 rfl) ?_
  refine v_imul hx hb dX9_near_61 _ rfl ?_
  refine lv_topi (fun z176 e_z176 => ?_)
  have h_z176 : 4 ≤ z176.toInt ∧ z176.toInt ≤ 36 := by rw [e_z176]; exact (s_cmul32 (k := 4) h_x0 (by decide +kernel) (by decide +kernel) (by decide +kernel))
  refine lv_iload hx hb dX9_near_62 (lv_at hl 0 rfl) ?_
  refine v_iadd hx hb dX9_near_64 z176 (s_0add z176) ?_
  refine ld_i hx hb hK hP 0 rfl (s_vin (n := 777924) h_z176 (by decide +kernel) (by decide +kernel)) dX9_near_65 x0 (s_plans e_z176 h_x0 (by decide +kernel) (by decide +kernel)) ?_
  refine lv_aload_n hx hb dX9_near_66 rfl (lv_at hl 3 rfl) ?_
  refine lv_iload_n hx hb dX9_near_67 rfl (lv_at hl 1 rfl) ?_
  refine lv_iload hx hb dX9_near_68 (lv_at hl 0 rfl) ?_
  refine kV_i (q0 := 0) ⟨hx, hb, hml, hown, hts⟩ hK hP hD hS hA hX cv_RX9_183 [11, 9, 10] [0, 1, 2, 3, 4, 5, 6, 7, 8, 12, 13, 14] (wr := [(a4, .inl (cI, 777924, .inl (tb [0, 0, 0, 0, 1, 0, 0, 0, 2, 0, 0, 0, 3, 0, 0, 0, 4, 0, 0, 0, 5, 0, 0, 0, 6, 0, 0, 0, 7, 0, 0, 0, 8, 0, 0, 0, 9, 0, 0, 0, 10]))), (a11, .inl (cI, 6001, .inl (tb (0 :: 0 :: List.replicate 5999 2)))), (a12, .inl (cI, 100000, .inl (tb [0, 1]))), (a7, .inl (cI, 4, .inl (tb [0]))), (a10, .inl (cI, 100000, .inl (tb [1, 1]))), (a5, .inl (cI, 3, .inl (tb [0, 0, 0]))), (a6, .inl (cI, 3, .inl (tb [0, 0, 0]))), (a8, .inl (cI, 4, .inl (tb [1]))), (a9, .inl (cI, 400000, .inl (tb [(-1), 0, 0, 0, 1, 0, 0, 0]))), (a1, .inl (cI, 4, .inl (tb [0, 0, 0, 0]))), (a3, .inl (cI, 4, .inl (tb [z175]))), (a2, .inl (cI, 4, .inl (tb [10, 10, 10, 10])))]) rfl rfl rfl rfl (by decide) (c599_X9_at l dC dI cI cJ cII cJJ H.size 0 a0 a14 a13 a15 a16 a1 a2 a17 a18 a19 a20 a21 a22 a23 a24 a9 a10 a11 a12 a6 a5 a7 a8 a25 a26 a27 a3 a4) ⟨by decide +kernel, by decide +kernel⟩ rfl rfl (Or.inl rfl) (rest := [.int x0, .int 0, .ref a3]) rfl rfl rfl hl.1 rfl (Nat.le_of_ble_eq_true rfl) dX9_near_70 ⟨Nat.le_of_ble_eq_true rfl, Nat.le_of_ble_eq_true rfl⟩ (W' := [(a4, .inl (cI, 777924, .inl (tb [0, 0, 0, 0, 1, 0, 0, 0, 2, 0, 0, 0, 3, 0, 0, 0, 4, 0, 0, 0, 5, 0, 0, 0, 6, 0, 0, 0, 7, 0, 0, 0, 8, 0, 0, 0, 9, 0, 0, 0, 10]))), (a11, .inl (cI, 6001, .inl (tb (0 :: 0 :: List.replicate 5999 2)))), (a12, .inl (cI, 100000, .inl (tb [0, 1]))), (a7, .inl (cI, 4, .inl (tb [0]))), (a10, .inl (cI, 100000, .inl (tb [1, 1]))), (a5, .inl (cI, 3, .inl (tb [0, 0, 0]))), (a6, .inl (cI, 3, .inl (tb [0, 0, 0]))), (a8, .inl (cI, 4, .inl (tb [1]))), (a9, .inl (cI, 400000, .inl (tb [(-1), 0, 0, 0, 1, 0, 0, 0]))), (a1, .inl (cI, 4, .inl (tb [0, 0, 0, 0]))), (a3, .inl (cI, 4, .inl (tb [z175]))), (a2, .inl (cI, 4, .inl (tb [10, 10, 10, 10]))), (a0, .inr (9, [.ref a15, .ref a16, .ref a1, .ref a2, .ref a17, .ref a18, .ref a19, .ref a20, .ref a21, .ref a22, .ref a23, .ref a24, .int 1, .int 0, .int 1, .ref a9, .ref a10, .ref a11, .ref a12, .ref a13, .ref a14, .int 2, .int 2, .ref a6, .ref a5, .ref a7, .ref a8, .int 0, .int 1, .ref a25, .ref a26, .ref a27, .ref a3, .int 1, .ref a4, .int 11])), (a14, .inl (cI, 6000, .inl (tb [0, 1]))), (a13, .inl (cI, 24000, .inl (tb [(-1), 0, 0, 0, 1, 0, 0, 0])))]) rfl (fun H locs hP hD hS => ?_)
  refine v_iadd hx hb dX9_near_73 _ rfl ?_
  refine lv_topi (fun z177 e_z177 => ?_)
  have h_z177 : 2 ≤ z177.toInt ∧ z177.toInt ≤ 10 := by rw [e_z177]; have q9 := (s_addr32 h_x0 (s_lit32 (a := 1) 1 (by decide +kernel)) (by decide +kernel) (by decide +kernel)); omega
  refine st_i hx hb hK hP hD hS 10 rfl (vin (by decide +kernel)) dX9_near_74 (L' := [z177]) rfl (W' := [(a4, .inl (cI, 777924, .inl (tb [0, 0, 0, 0, 1, 0, 0, 0, 2, 0, 0, 0, 3, 0, 0, 0, 4, 0, 0, 0, 5, 0, 0, 0, 6, 0, 0, 0, 7, 0, 0, 0, 8, 0, 0, 0, 9, 0, 0, 0, 10]))), (a11, .inl (cI, 6001, .inl (tb (0 :: 0 :: List.replicate 5999 2)))), (a12, .inl (cI, 100000, .inl (tb [0, 1]))), (a7, .inl (cI, 4, .inl (tb [0]))), (a10, .inl (cI, 100000, .inl (tb [1, 1]))), (a5, .inl (cI, 3, .inl (tb [0, 0, 0]))), (a6, .inl (cI, 3, .inl (tb [0, 0, 0]))), (a8, .inl (cI, 4, .inl (tb [1]))), (a9, .inl (cI, 400000, .inl (tb [(-1), 0, 0, 0, 1, 0, 0, 0]))), (a1, .inl (cI, 4, .inl (tb [0, 0, 0, 0]))), (a3, .inl (cI, 4, .inl (tb [z177]))), (a2, .inl (cI, 4, .inl (tb [10, 10, 10, 10]))), (a0, .inr (9, [.ref a15, .ref a16, .ref a1, .ref a2, .ref a17, .ref a18, .ref a19, .ref a20, .ref a21, .ref a22, .ref a23, .ref a24, .int 1, .int 0, .int 1, .ref a9, .ref a10, .ref a11, .ref a12, .ref a13, .ref a14, .int 2, .int 2, .ref a6, .ref a5, .ref a7, .ref a8, .int 0, .int 1, .ref a25, .ref a26, .ref a27, .ref a3, .int 1, .ref a4, .int 11])), (a14, .inl (cI, 6000, .inl (tb [0, 1]))), (a13, .inl (cI, 24000, .inl (tb [(-1), 0, 0, 0, 1, 0, 0, 0])))]) rfl (fun H locs hP hD hS => ?_)
  refine lv_iinc (v := 1) (lv' := [(4, .int 1), (3, .int 1), (2, .int 1), (0, .ref a0), (1, .int x0)]) hx hb dX9_near_75 hl (k := 0) rfl (by decide +kernel) (by decide) rfl (fun ls hl => ?_)
  refine lv_goto (tgt := 40) hx hb dX9_near_78 (by decide) ?_
  refine lv_iload hx hb dX9_near_40 (lv_at hl 0 rfl) ?_
  refine lv_aload_n hx hb dX9_near_42 rfl (lv_at hl 3 rfl) ?_
  refine gf (k := 12) hx hb hts inX9 hown hK hP k_807 rfl (by decide) rfl 12 rfl (.int 1) rfl dX9_near_43 ?_
  refine t_icmp_ge hx hb dX9_near_46 81 (by decide) (by decide +kernel) ?_
  refine lv_iload_n hx hb dX9_near_81 rfl (lv_at hl 2 rfl) ?_
  refine lv_aload_n hx hb dX9_near_82 rfl (lv_at hl 3 rfl) ?_
  refine lv_aload_n hx hb dX9_near_83 rfl (lv_at hl 3 rfl) ?_
  refine gf (k := 32) hx hb hts inX9 hown hK hP k_827 rfl (by decide) rfl 12 rfl (.ref a3) rfl dX9_near_84 ?_
  refine lv_iconst (v := 0) hx hb dX9_near_87 (by decide) ?_
  refine kV_i (q0 := 0) ⟨hx, hb, hml, hown, hts⟩ hK hP hD hS hA hX cv_RX9_199 [12, 9, 10, 11] [0, 1, 2, 3, 4, 5, 6, 7, 8, 13, 14] (wr := [(a4, .inl (cI, 777924, .inl (tb [0, 0, 0, 0, 1, 0, 0, 0, 2, 0, 0, 0, 3, 0, 0, 0, 4, 0, 0, 0, 5, 0, 0, 0, 6, 0, 0, 0, 7, 0, 0, 0, 8, 0, 0, 0, 9, 0, 0, 0, 10]))), (a11, .inl (cI, 6001, .inl (tb (0 :: 0 :: List.replicate 5999 2)))), (a12, .inl (cI, 100000, .inl (tb [0, 1]))), (a7, .inl (cI, 4, .inl (tb [0]))), (a10, .inl (cI, 100000, .inl (tb [1, 1]))), (a5, .inl (cI, 3, .inl (tb [0, 0, 0]))), (a6, .inl (cI, 3, .inl (tb [0, 0, 0]))), (a8, .inl (cI, 4, .inl (tb [1]))), (a9, .inl (cI, 400000, .inl (tb [(-1), 0, 0, 0, 1, 0, 0, 0]))), (a14, .inl (cI, 6000, .inl (tb [0, 1]))), (a13, .inl (cI, 24000, .inl (tb [(-1), 0, 0, 0, 1, 0, 0, 0])))]) rfl rfl rfl rfl (by decide) (c604_X9_isPlan l dC dI cI cJ cII cJJ H.size 0 a0 a1 a3 a2 a15 a16 a17 a18 a19 a20 a21 a22 a23 a24 a9 a10 a11 a12 a13 a14 a6 a5 a7 a8 a25 a26 a27 a4 z177 h_z177) ⟨by decide +kernel, by decide +kernel⟩ rfl rfl (Or.inl rfl) (rest := [.int 1]) rfl rfl rfl hl.1 rfl (Nat.le_of_ble_eq_true rfl) dX9_near_88 ⟨Nat.le_of_ble_eq_true rfl, Nat.le_of_ble_eq_true rfl⟩ (W' := [(a4, .inl (cI, 777924, .inl (tb [0, 0, 0, 0, 1, 0, 0, 0, 2, 0, 0, 0, 3, 0, 0, 0, 4, 0, 0, 0, 5, 0, 0, 0, 6, 0, 0, 0, 7, 0, 0, 0, 8, 0, 0, 0, 9, 0, 0, 0, 10]))), (a11, .inl (cI, 6001, .inl (tb (0 :: 0 :: List.replicate 5999 2)))), (a12, .inl (cI, 100000, .inl (tb [0, 1]))), (a7, .inl (cI, 4, .inl (tb [0]))), (a10, .inl (cI, 100000, .inl (tb [1, 1]))), (a5, .inl (cI, 3, .inl (tb [0, 0, 0]))), (a6, .inl (cI, 3, .inl (tb [0, 0, 0]))), (a8, .inl (cI, 4, .inl (tb [1]))), (a9, .inl (cI, 400000, .inl (tb [(-1), 0, 0, 0, 1, 0, 0, 0]))), (a14, .inl (cI, 6000, .inl (tb [0, 1]))), (a13, .inl (cI, 24000, .inl (tb [(-1), 0, 0, 0, 1, 0, 0, 0]))), (a0, .inr (9, [.ref a15, .ref a16, .ref a1, .ref a2, .ref a17, .ref a18, .ref a19, .ref a20, .ref a21, .ref a22, .ref a23, .ref a24, .int 1, .int 0, .int 1, .ref a9, .ref a10, .ref a11, .ref a12, .ref a13, .ref a14, .int 2, .int 2, .ref a6, .ref a5, .ref a7, .ref a8, .int 0, .int 1, .ref a25, .ref a26, .ref a27, .ref a3, .int 1, .ref a4, .int 11])), (a1, .inl (cI, 4, .inl (tb [0, 0, 0, 0]))), (a3, .inl (cI, 4, .inl (tb [z177]))), (a2, .inl (cI, 4, .inl (tb [10, 10, 10, 10])))]) rfl (fun H locs hP hD hS => ?_)
  refine f_if_eq hx hb dX9_near_91 98 (by decide) (by decide +kernel) ?_
  refine lv_iconst (v := 1) hx hb dX9_near_94 (by decide) ?_
  refine lv_goto (tgt := 99) hx hb dX9_near_95 (by decide) ?_
  refine v_iadd hx hb dX9_near_99 2 (by decide +kernel) ?_
  refine lv_istore_n (lv' := [(2, .int 2), (4, .int 1), (3, .int 1), (0, .ref a0), (1, .int x0)]) hx hb dX9_near_100 rfl hl (by decide) rfl (fun ls hl => ?_)
  refine lv_iinc (v := 2) (lv' := [(3, .int 2), (2, .int 2), (4, .int 1), (0, .ref a0), (1, .int x0)]) hx hb dX9_near_101 hl (k := 2) rfl (by decide +kernel) (by decide) rfl (fun ls hl => ?_)
  refine lv_goto (tgt := 29) hx hb dX9_near_104 (by decide) ?_
  refine lv_iload_n hx hb dX9_near_29 rfl (lv_at hl 0 rfl) ?_
  refine lv_aload_n hx hb dX9_near_30 rfl (lv_at hl 3 rfl) ?_
  refine gf (k := 22) hx hb hts inX9 hown hK hP k_817 rfl (by decide) rfl 11 rfl (.int 2) rfl dX9_near_31 ?_
  refine t_icmp_ge hx hb dX9_near_34 107 (by decide) (by decide +kernel) ?_
  refine lv_iload_n hx hb dX9_near_107 rfl (lv_at hl 1 rfl) ?_
  exact r_i hx hb hr hk hK (hP.sub [] rfl) (hD.sub [] rfl rfl) hS dX9_near_108
set_option maxRecDepth 100000 in
set_option maxHeartbeats 4000000 in
theorem c606_X9_isIn (l : Launch) (dC : Nat → ClassId) (dI : Nat → Nat → Nat) (cI cJ cII cJJ : ClassId) (sz g : Nat) : Met l yX9_isIn (.code yX9_isIn cX9_isIn 2 (some .boolean) :: TT) ({ frames := 2, cells := 0, slots := 0, locals := 80 }) (PcS dC dI (TY cI cJ cII cJJ) [.int 10, .int 11] [] sz 0 g) ((QcI dC dI (TY cI cJ cII cJJ) 1 []) (va_A [] sz)) 0 0 (va_A [] sz) := by
  refine SM.of (y := yX9_isIn) (maxL := 2) (av := [.int 10, .int 11]) (QcI dC dI (TY cI cJ cII cJJ) 1 []) (by decide +kernel) (Nat.le_of_ble_eq_true rfl) (fun p e s m below meth c A ls hx hb hr hml hown hts hk hnm hA hK hP hD hS hX hl => ?_)
  have hown : s.vm.findClass RX9 = some m.cls := hown
  have hl : lv_has ls 2 [(0, .int 10), (1, .int 11)] := hl
  refine lv_iload_n hx hb dX9_isIn_0 rfl (lv_at hl 0 rfl) ?_
  refine f_if_lt hx hb dX9_isIn_1 13 (by decide) (by decide +kernel) ?_
  refine lv_iload_n hx hb dX9_isIn_4 rfl (lv_at hl 0 rfl) ?_
  refine lv_iload_n hx hb dX9_isIn_5 rfl (lv_at hl 1 rfl) ?_
  refine f_icmp_ge hx hb dX9_isIn_6 13 (by decide) (by decide +kernel) ?_
  refine lv_iconst (v := 1) hx hb dX9_isIn_9 (by decide) ?_
  refine lv_goto (tgt := 14) hx hb dX9_isIn_10 (by decide) ?_
  exact r_z hx hb hr hk hK hP hD hS dX9_isIn_14 rfl
set_option maxRecDepth 100000 in
set_option maxHeartbeats 4000000 in
theorem c607_X9_isPlan (l : Launch) (dC : Nat → ClassId) (dI : Nat → Nat → Nat) (cI cJ cII cJJ : ClassId) (sz g a0 a1 a2 a3 a4 a5 a6 a7 a8 a9 a10 a11 a12 a13 a14 a15 a16 a17 a18 a19 a20 a21 a22 a23 a24 a25 a26 a27 : Nat) : Met l yX9_isPlan (.code yX9_isPlan cX9_isPlan 5 (some .boolean) :: TT) ({ frames := 2, cells := 0, slots := 0, locals := 80 }) (PcS dC dI (TY cI cJ cII cJJ) [.ref a0, .ref a2, .int 0] [(a0, .inr (9, [.ref a4, .ref a5, .ref a1, .ref a3, .ref a6, .ref a7, .ref a8, .ref a9, .ref a10, .ref a11, .ref a12, .ref a13, .int 1, .int 0, .int 1, .ref a14, .ref a15, .ref a16, .ref a17, .ref a18, .ref a19, .int 2, .int 2, .ref a20, .ref a21, .ref a22, .ref a23, .int 0, .int 1, .ref a24, .ref a25, .ref a26, .ref a2, .int 1, .ref a27, .int 11])), (a1, .inl (cI, 4, .inl (tb [0, 0, 0, 0]))), (a2, .inl (cI, 4, .inl (tb [9]))), (a3, .inl (cI, 4, .inl (tb [10, 10, 10, 10])))] sz 0 g) ((QcI dC dI (TY cI cJ cII cJJ) 1 [(a0, .inr (9, [.ref a4, .ref a5, .ref a1, .ref a3, .ref a6, .ref a7, .ref a8, .ref a9, .ref a10, .ref a11, .ref a12, .ref a13, .int 1, .int 0, .int 1, .ref a14, .ref a15, .ref a16, .ref a17, .ref a18, .ref a19, .int 2, .int 2, .ref a20, .ref a21, .ref a22, .ref a23, .int 0, .int 1, .ref a24, .ref a25, .ref a26, .ref a2, .int 1, .ref a27, .int 11])), (a1, .inl (cI, 4, .inl (tb [0, 0, 0, 0]))), (a2, .inl (cI, 4, .inl (tb [9]))), (a3, .inl (cI, 4, .inl (tb [10, 10, 10, 10])))]) (va_A [(a0, .inr (9, [.ref a4, .ref a5, .ref a1, .ref a3, .ref a6, .ref a7, .ref a8, .ref a9, .ref a10, .ref a11, .ref a12, .ref a13, .int 1, .int 0, .int 1, .ref a14, .ref a15, .ref a16, .ref a17, .ref a18, .ref a19, .int 2, .int 2, .ref a20, .ref a21, .ref a22, .ref a23, .int 0, .int 1, .ref a24, .ref a25, .ref a26, .ref a2, .int 1, .ref a27, .int 11])), (a1, .inl (cI, 4, .inl (tb [0, 0, 0, 0]))), (a2, .inl (cI, 4, .inl (tb [9]))), (a3, .inl (cI, 4, .inl (tb [10, 10, 10, 10])))] sz)) 0 0 (va_A [(a0, .inr (9, [.ref a4, .ref a5, .ref a1, .ref a3, .ref a6, .ref a7, .ref a8, .ref a9, .ref a10, .ref a11, .ref a12, .ref a13, .int 1, .int 0, .int 1, .ref a14, .ref a15, .ref a16, .ref a17, .ref a18, .ref a19, .int 2, .int 2, .ref a20, .ref a21, .ref a22, .ref a23, .int 0, .int 1, .ref a24, .ref a25, .ref a26, .ref a2, .int 1, .ref a27, .int 11])), (a1, .inl (cI, 4, .inl (tb [0, 0, 0, 0]))), (a2, .inl (cI, 4, .inl (tb [9]))), (a3, .inl (cI, 4, .inl (tb [10, 10, 10, 10])))] sz) := by
  refine SM.of (y := yX9_isPlan) (maxL := 5) (av := [.ref a0, .ref a2, .int 0]) (QcI dC dI (TY cI cJ cII cJJ) 1 [(a0, .inr (9, [.ref a4, .ref a5, .ref a1, .ref a3, .ref a6, .ref a7, .ref a8, .ref a9, .ref a10, .ref a11, .ref a12, .ref a13, .int 1, .int 0, .int 1, .ref a14, .ref a15, .ref a16, .ref a17, .ref a18, .ref a19, .int 2, .int 2, .ref a20, .ref a21, .ref a22, .ref a23, .int 0, .int 1, .ref a24, .ref a25, .ref a26, .ref a2, .int 1, .ref a27, .int 11])), (a1, .inl (cI, 4, .inl (tb [0, 0, 0, 0]))), (a2, .inl (cI, 4, .inl (tb [9]))), (a3, .inl (cI, 4, .inl (tb [10, 10, 10, 10])))]) (by decide +kernel) (Nat.le_of_ble_eq_true rfl) (fun p e s m below meth c A ls hx hb hr hml hown hts hk hnm hA hK hP hD hS hX hl => ?_)
  have hown : s.vm.findClass RX9 = some m.cls := hown
  have hl : lv_has ls 5 [(0, .ref a0), (1, .ref a2), (2, .int 0)] := hl
  refine lv_iconst (v := 1) hx hb dX9_isPlan_0 (by decide) ?_
  refine lv_istore_n (lv' := [(3, .int 1), (0, .ref a0), (1, .ref a2), (2, .int 0)]) hx hb dX9_isPlan_1 rfl hl (by decide) rfl (fun ls hl => ?_)
  refine lv_iconst (v := 0) hx hb dX9_isPlan_2 (by decide) ?_
  refine lv_istore (lv' := [(4, .int 0), (3, .int 1), (0, .ref a0), (1, .ref a2), (2, .int 0)]) hx hb dX9_isPlan_3 hl (by decide) rfl (fun ls hl => ?_)
  refine lv_iload hx hb dX9_isPlan_5 (lv_at hl 0 rfl) ?_
  refine lv_aload_n hx hb dX9_isPlan_7 rfl (lv_at hl 2 rfl) ?_
  refine gf (k := 12) hx hb hts inX9 hown hK hP k_807 rfl (by decide) rfl 0 rfl (.int 1) rfl dX9_isPlan_8 ?_
  refine f_icmp_ge hx hb dX9_isPlan_11 62 (by decide) (by decide +kernel) ?_
  refine lv_iload_n hx hb dX9_isPlan_14 rfl (lv_at hl 1 rfl) ?_
  refine f_if_eq hx hb dX9_isPlan_15 62 (by decide) (by decide +kernel) ?_
  refine lv_aload_n hx hb dX9_isPlan_18 rfl (lv_at hl 2 rfl) ?_
  refine gf (k := 2) hx hb hts inX9 hown hK hP k_797 rfl (by decide) rfl 0 rfl (.ref a1) rfl dX9_isPlan_19 ?_
  refine lv_iload hx hb dX9_isPlan_22 (lv_at hl 0 rfl) ?_
  refine ld_i hx hb hK hP 1 rfl (vin (by decide +kernel)) dX9_isPlan_24 0 rfl ?_
  refine lv_aload_n hx hb dX9_isPlan_25 rfl (lv_at hl 3 rfl) ?_
  refine lv_iload_n hx hb dX9_isPlan_26 rfl (lv_at hl 4 rfl) ?_
  refine lv_iload hx hb dX9_isPlan_27 (lv_at hl 0 rfl) ?_
  refine v_iadd hx hb dX9_isPlan_29 0 (by decide +kernel) ?_
  refine ld_i hx hb hK hP 2 rfl (vin (by decide +kernel)) dX9_isPlan_30 9 rfl ?_
  refine f_icmp_gt hx hb dX9_isPlan_31 54 (by decide) (by decide +kernel) ?_
  refine lv_aload_n hx hb dX9_isPlan_34 rfl (lv_at hl 3 rfl) ?_
  refine lv_iload_n hx hb dX9_isPlan_35 rfl (lv_at hl 4 rfl) ?_
  refine lv_iload hx hb dX9_isPlan_36 (lv_at hl 0 rfl) ?_
  refine v_iadd hx hb dX9_isPlan_38 0 (by decide +kernel) ?_
  refine ld_i hx hb hK hP 2 rfl (vin (by decide +kernel)) dX9_isPlan_39 9 rfl ?_
  refine lv_aload_n hx hb dX9_isPlan_40 rfl (lv_at hl 2 rfl) ?_
  refine gf (k := 3) hx hb hts inX9 hown hK hP k_798 rfl (by decide) rfl 0 rfl (.ref a3) rfl dX9_isPlan_41 ?_
  refine lv_iload hx hb dX9_isPlan_44 (lv_at hl 0 rfl) ?_
  refine ld_i hx hb hK hP 3 rfl (vin (by decide +kernel)) dX9_isPlan_46 10 rfl ?_
  refine f_icmp_gt hx hb dX9_isPlan_47 54 (by decide) (by decide +kernel) ?_
  refine lv_iconst (v := 1) hx hb dX9_isPlan_50 (by decide) ?_
  refine lv_goto (tgt := 55) hx hb dX9_isPlan_51 (by decide) ?_
  refine lv_istore_n (lv' := [(3, .int 1), (4, .int 0), (0, .ref a0), (1, .ref a2), (2, .int 0)]) hx hb dX9_isPlan_55 rfl hl (by decide) rfl (fun ls hl => ?_)
  refine lv_iinc (v := 1) (lv' := [(4, .int 1), (3, .int 1), (0, .ref a0), (1, .ref a2), (2, .int 0)]) hx hb dX9_isPlan_56 hl (k := 1) rfl (by decide +kernel) (by decide) rfl (fun ls hl => ?_)
  refine lv_goto (tgt := 5) hx hb dX9_isPlan_59 (by decide) ?_
  refine lv_iload hx hb dX9_isPlan_5 (lv_at hl 0 rfl) ?_
  refine lv_aload_n hx hb dX9_isPlan_7 rfl (lv_at hl 2 rfl) ?_
  refine gf (k := 12) hx hb hts inX9 hown hK hP k_807 rfl (by decide) rfl 0 rfl (.int 1) rfl dX9_isPlan_8 ?_
  refine t_icmp_ge hx hb dX9_isPlan_11 62 (by decide) (by decide +kernel) ?_
  refine lv_iconst (v := 0) hx hb dX9_isPlan_62 (by decide) ?_
  refine lv_istore (lv' := [(4, .int 0), (3, .int 1), (0, .ref a0), (1, .ref a2), (2, .int 0)]) hx hb dX9_isPlan_63 hl (by decide) rfl (fun ls hl => ?_)
  refine lv_iload hx hb dX9_isPlan_65 (lv_at hl 0 rfl) ?_
  refine lv_aload_n hx hb dX9_isPlan_67 rfl (lv_at hl 2 rfl) ?_
  refine gf (k := 13) hx hb hts inX9 hown hK hP k_808 rfl (by decide) rfl 0 rfl (.int 0) rfl dX9_isPlan_68 ?_
  refine t_icmp_ge hx hb dX9_isPlan_71 108 (by decide) (by decide +kernel) ?_
  refine lv_iload_n hx hb dX9_isPlan_108 rfl (lv_at hl 1 rfl) ?_
  exact r_z hx hb hr hk hK hP hD hS dX9_isPlan_109 rfl
set_option maxRecDepth 100000 in
set_option maxHeartbeats 4000000 in
theorem c608_X9_isPlan (l : Launch) (dC : Nat → ClassId) (dI : Nat → Nat → Nat) (cI cJ cII cJJ : ClassId) (sz g a0 a1 a2 a3 a4 a5 a6 a7 a8 a9 a10 a11 a12 a13 a14 a15 a16 a17 a18 a19 a20 a21 a22 a23 a24 a25 a26 a27 : Nat) : Met l yX9_isPlan (.code yX9_isPlan cX9_isPlan 5 (some .boolean) :: TT) ({ frames := 2, cells := 0, slots := 0, locals := 80 }) (PcS dC dI (TY cI cJ cII cJJ) [.ref a0, .ref a2, .int 0] [(a0, .inr (9, [.ref a4, .ref a5, .ref a1, .ref a3, .ref a6, .ref a7, .ref a8, .ref a9, .ref a10, .ref a11, .ref a12, .ref a13, .int 1, .int 0, .int 1, .ref a14, .ref a15, .ref a16, .ref a17, .ref a18, .ref a19, .int 2, .int 2, .ref a20, .ref a21, .ref a22, .ref a23, .int 0, .int 1, .ref a24, .ref a25, .ref a26, .ref a2, .int 1, .ref a27, .int 11])), (a1, .inl (cI, 4, .inl (tb [0, 0, 0, 0]))), (a2, .inl (cI, 4, .inl (tb [11]))), (a3, .inl (cI, 4, .inl (tb [10, 10, 10, 10])))] sz 0 g) ((QcI dC dI (TY cI cJ cII cJJ) 0 [(a0, .inr (9, [.ref a4, .ref a5, .ref a1, .ref a3, .ref a6, .ref a7, .ref a8, .ref a9, .ref a10, .ref a11, .ref a12, .ref a13, .int 1, .int 0, .int 1, .ref a14, .ref a15, .ref a16, .ref a17, .ref a18, .ref a19, .int 2, .int 2, .ref a20, .ref a21, .ref a22, .ref a23, .int 0, .int 1, .ref a24, .ref a25, .ref a26, .ref a2, .int 1, .ref a27, .int 11])), (a1, .inl (cI, 4, .inl (tb [0, 0, 0, 0]))), (a2, .inl (cI, 4, .inl (tb [11]))), (a3, .inl (cI, 4, .inl (tb [10, 10, 10, 10])))]) (va_A [(a0, .inr (9, [.ref a4, .ref a5, .ref a1, .ref a3, .ref a6, .ref a7, .ref a8, .ref a9, .ref a10, .ref a11, .ref a12, .ref a13, .int 1, .int 0, .int 1, .ref a14, .ref a15, .ref a16, .ref a17, .ref a18, .ref a19, .int 2, .int 2, .ref a20, .ref a21, .ref a22, .ref a23, .int 0, .int 1, .ref a24, .ref a25, .ref a26, .ref a2, .int 1, .ref a27, .int 11])), (a1, .inl (cI, 4, .inl (tb [0, 0, 0, 0]))), (a2, .inl (cI, 4, .inl (tb [11]))), (a3, .inl (cI, 4, .inl (tb [10, 10, 10, 10])))] sz)) 0 0 (va_A [(a0, .inr (9, [.ref a4, .ref a5, .ref a1, .ref a3, .ref a6, .ref a7, .ref a8, .ref a9, .ref a10, .ref a11, .ref a12, .ref a13, .int 1, .int 0, .int 1, .ref a14, .ref a15, .ref a16, .ref a17, .ref a18, .ref a19, .int 2, .int 2, .ref a20, .ref a21, .ref a22, .ref a23, .int 0, .int 1, .ref a24, .ref a25, .ref a26, .ref a2, .int 1, .ref a27, .int 11])), (a1, .inl (cI, 4, .inl (tb [0, 0, 0, 0]))), (a2, .inl (cI, 4, .inl (tb [11]))), (a3, .inl (cI, 4, .inl (tb [10, 10, 10, 10])))] sz) := by
  refine SM.of (y := yX9_isPlan) (maxL := 5) (av := [.ref a0, .ref a2, .int 0]) (QcI dC dI (TY cI cJ cII cJJ) 0 [(a0, .inr (9, [.ref a4, .ref a5, .ref a1, .ref a3, .ref a6, .ref a7, .ref a8, .ref a9, .ref a10, .ref a11, .ref a12, .ref a13, .int 1, .int 0, .int 1, .ref a14, .ref a15, .ref a16, .ref a17, .ref a18, .ref a19, .int 2, .int 2, .ref a20, .ref a21, .ref a22, .ref a23, .int 0, .int 1, .ref a24, .ref a25, .ref a26, .ref a2, .int 1, .ref a27, .int 11])), (a1, .inl (cI, 4, .inl (tb [0, 0, 0, 0]))), (a2, .inl (cI, 4, .inl (tb [11]))), (a3, .inl (cI, 4, .inl (tb [10, 10, 10, 10])))]) (by decide +kernel) (Nat.le_of_ble_eq_true rfl) (fun p e s m below meth c A ls hx hb hr hml hown hts hk hnm hA hK hP hD hS hX hl => ?_)
  have hown : s.vm.findClass RX9 = some m.cls := hown
  have hl : lv_has ls 5 [(0, .ref a0), (1, .ref a2), (2, .int 0)] := hl
  refine lv_iconst (v := 1) hx hb dX9_isPlan_0 (by decide) ?_
  refine lv_istore_n (lv' := [(3, .int 1), (0, .ref a0), (1, .ref a2), (2, .int 0)]) hx hb dX9_isPlan_1 rfl hl (by decide) rfl (fun ls hl => ?_)
  refine lv_iconst (v := 0) hx hb dX9_isPlan_2 (by decide) ?_
  refine lv_istore (lv' := [(4, .int 0), (3, .int 1), (0, .ref a0), (1, .ref a2), (2, .int 0)]) hx hb dX9_isPlan_3 hl (by decide) rfl (fun ls hl => ?_)
  refine lv_iload hx hb dX9_isPlan_5 (lv_at hl 0 rfl) ?_
  refine lv_aload_n hx hb dX9_isPlan_7 rfl (lv_at hl 2 rfl) ?_
  refine gf (k := 12) hx hb hts inX9 hown hK hP k_807 rfl (by decide) rfl 0 rfl (.int 1) rfl dX9_isPlan_8 ?_
  refine f_icmp_ge hx hb dX9_isPlan_11 62 (by decide) (by decide +kernel) ?_
  refine lv_iload_n hx hb dX9_isPlan_14 rfl (lv_at hl 1 rfl) ?_
  refine f_if_eq hx hb dX9_isPlan_15 62 (by decide) (by decide +kernel) ?_
  refine lv_aload_n hx hb dX9_isPlan_18 rfl (lv_at hl 2 rfl) ?_
  refine gf (k := 2) hx hb hts inX9 hown hK hP k_797 rfl (by decide) rfl 0 rfl (.ref a1) rfl dX9_isPlan_19 ?_
  refine lv_iload hx hb dX9_isPlan_22 (lv_at hl 0 rfl) ?_
  refine ld_i hx hb hK hP 1 rfl (vin (by decide +kernel)) dX9_isPlan_24 0 rfl ?_
  refine lv_aload_n hx hb dX9_isPlan_25 rfl (lv_at hl 3 rfl) ?_
  refine lv_iload_n hx hb dX9_isPlan_26 rfl (lv_at hl 4 rfl) ?_
  refine lv_iload hx hb dX9_isPlan_27 (lv_at hl 0 rfl) ?_
  refine v_iadd hx hb dX9_isPlan_29 0 (by decide +kernel) ?_
  refine ld_i hx hb hK hP 2 rfl (vin (by decide +kernel)) dX9_isPlan_30 11 rfl ?_
  refine f_icmp_gt hx hb dX9_isPlan_31 54 (by decide) (by decide +kernel) ?_
  refine lv_aload_n hx hb dX9_isPlan_34 rfl (lv_at hl 3 rfl) ?_
  refine lv_iload_n hx hb dX9_isPlan_35 rfl (lv_at hl 4 rfl) ?_
  refine lv_iload hx hb dX9_isPlan_36 (lv_at hl 0 rfl) ?_
  refine v_iadd hx hb dX9_isPlan_38 0 (by decide +kernel) ?_
  refine ld_i hx hb hK hP 2 rfl (vin (by decide +kernel)) dX9_isPlan_39 11 rfl ?_
  refine lv_aload_n hx hb dX9_isPlan_40 rfl (lv_at hl 2 rfl) ?_
  refine gf (k := 3) hx hb hts inX9 hown hK hP k_798 rfl (by decide) rfl 0 rfl (.ref a3) rfl dX9_isPlan_41 ?_
  refine lv_iload hx hb dX9_isPlan_44 (lv_at hl 0 rfl) ?_
  refine ld_i hx hb hK hP 3 rfl (vin (by decide +kernel)) dX9_isPlan_46 10 rfl ?_
  refine t_icmp_gt hx hb dX9_isPlan_47 54 (by decide) (by decide +kernel) ?_
  refine lv_iconst (v := 0) hx hb dX9_isPlan_54 (by decide) ?_
  refine lv_istore_n (lv' := [(3, .int 0), (4, .int 0), (0, .ref a0), (1, .ref a2), (2, .int 0)]) hx hb dX9_isPlan_55 rfl hl (by decide) rfl (fun ls hl => ?_)
  refine lv_iinc (v := 1) (lv' := [(4, .int 1), (3, .int 0), (0, .ref a0), (1, .ref a2), (2, .int 0)]) hx hb dX9_isPlan_56 hl (k := 1) rfl (by decide +kernel) (by decide) rfl (fun ls hl => ?_)
  refine lv_goto (tgt := 5) hx hb dX9_isPlan_59 (by decide) ?_
  refine lv_iload hx hb dX9_isPlan_5 (lv_at hl 0 rfl) ?_
  refine lv_aload_n hx hb dX9_isPlan_7 rfl (lv_at hl 2 rfl) ?_
  refine gf (k := 12) hx hb hts inX9 hown hK hP k_807 rfl (by decide) rfl 0 rfl (.int 1) rfl dX9_isPlan_8 ?_
  refine t_icmp_ge hx hb dX9_isPlan_11 62 (by decide) (by decide +kernel) ?_
  refine lv_iconst (v := 0) hx hb dX9_isPlan_62 (by decide) ?_
  refine lv_istore (lv' := [(4, .int 0), (3, .int 0), (0, .ref a0), (1, .ref a2), (2, .int 0)]) hx hb dX9_isPlan_63 hl (by decide) rfl (fun ls hl => ?_)
  refine lv_iload hx hb dX9_isPlan_65 (lv_at hl 0 rfl) ?_
  refine lv_aload_n hx hb dX9_isPlan_67 rfl (lv_at hl 2 rfl) ?_
  refine gf (k := 13) hx hb hts inX9 hown hK hP k_808 rfl (by decide) rfl 0 rfl (.int 0) rfl dX9_isPlan_68 ?_
  refine t_icmp_ge hx hb dX9_isPlan_71 108 (by decide) (by decide +kernel) ?_
  refine lv_iload_n hx hb dX9_isPlan_108 rfl (lv_at hl 1 rfl) ?_
  exact r_z hx hb hr hk hK hP hD hS dX9_isPlan_109 rfl
