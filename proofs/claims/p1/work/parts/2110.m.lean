set_option maxRecDepth 100000 in
set_option maxHeartbeats 4000000 in
theorem c460_X9_betters (l : Launch) (dC : Nat → ClassId) (dI : Nat → Nat → Nat) (cI cJ cII cJJ : ClassId) (sz g a0 a1 a2 a3 a4 a5 a6 a7 a8 a9 a10 a11 a12 a13 a14 a15 a16 a17 a18 a19 a20 a21 a22 a23 a24 a25 a26 a27 : Nat) : Met l yX9_betters (.code yX9_betters cX9_betters 8 (some .int) :: TT) ({ frames := 7, cells := 0, slots := 0, locals := 380 }) (PcS dC dI (TY cI cJ cII cJJ) [.ref a0] [(a0, .inr (9, [.ref a17, .ref a18, .ref a15, .ref a16, .ref a11, .ref a13, .ref a12, .ref a19, .ref a20, .ref a21, .ref a22, .ref a23, .int 1, .int 0, .int 0, .ref a5, .ref a6, .ref a7, .ref a8, .ref a9, .ref a10, .int 0, .int 0, .ref a2, .ref a1, .ref a3, .ref a4, .int 0, .int 0, .ref a24, .ref a25, .ref a26, .ref a14, .int 0, .ref a27, .int 0])), (a1, .inl (cI, 3, .inl (tb []))), (a2, .inl (cI, 3, .inl (tb []))), (a3, .inl (cI, 4, .inl (tb []))), (a4, .inl (cI, 4, .inl (tb []))), (a5, .inl (cI, 400000, .inl (tb []))), (a6, .inl (cI, 100000, .inl (tb []))), (a7, .inl (cI, 6001, .inl (tb []))), (a8, .inl (cI, 100000, .inl (tb []))), (a9, .inl (cI, 24000, .inl (tb []))), (a10, .inl (cI, 6000, .inl (tb []))), (a11, .inl (cI, 4, .inl (tb [0, 0, 0, 0]))), (a12, .inl (cI, 4, .inl (tb [0, 0, 0, 0]))), (a13, .inl (cI, 4, .inl (tb [0, 0, 0, 0]))), (a14, .inl (cI, 4, .inl (tb []))), (a15, .inl (cI, 4, .inl (tb [0, 0, 0, 0]))), (a16, .inl (cI, 4, .inl (tb [10, 10, 10, 10])))] sz 0 g) ((QcI dC dI (TY cI cJ cII cJJ) (-99999) [(a7, .inl (cI, 6001, .inl (tb (0 :: 0 :: List.replicate 5999 2)))), (a8, .inl (cI, 100000, .inl (tb [0, 1]))), (a3, .inl (cI, 4, .inl (tb [0]))), (a6, .inl (cI, 100000, .inl (tb [1, 1]))), (a1, .inl (cI, 3, .inl (tb [0, 0, 0]))), (a2, .inl (cI, 3, .inl (tb [0, 0, 0]))), (a4, .inl (cI, 4, .inl (tb [1]))), (a5, .inl (cI, 400000, .inl (tb [(-1), 0, 0, 0, 1, 0, 0, 0]))), (a12, .inl (cI, 4, .inl (tb [0, 0, 0, 0]))), (a11, .inl (cI, 4, .inl (tb [0, 0, 0, 0]))), (a13, .inl (cI, 4, .inl (tb [0, 0, 0, 0]))), (a10, .inl (cI, 6000, .inl (tb [0, 1]))), (a9, .inl (cI, 24000, .inl (tb [(-1), 0, 0, 0, 1, 0, 0, 0]))), (a0, .inr (9, [.ref a17, .ref a18, .ref a15, .ref a16, .ref a11, .ref a13, .ref a12, .ref a19, .ref a20, .ref a21, .ref a22, .ref a23, .int 1, .int 0, .int 1, .ref a5, .ref a6, .ref a7, .ref a8, .ref a9, .ref a10, .int 2, .int 2, .ref a2, .ref a1, .ref a3, .ref a4, .int 0, .int 1, .ref a24, .ref a25, .ref a26, .ref a14, .int 0, .ref a27, .int 0])), (a15, .inl (cI, 4, .inl (tb [0, 0, 0, 0]))), (a14, .inl (cI, 4, .inl (tb [20]))), (a16, .inl (cI, 4, .inl (tb [10, 10, 10, 10])))]) (va_A [(a0, .inr (9, [.ref a17, .ref a18, .ref a15, .ref a16, .ref a11, .ref a13, .ref a12, .ref a19, .ref a20, .ref a21, .ref a22, .ref a23, .int 1, .int 0, .int 0, .ref a5, .ref a6, .ref a7, .ref a8, .ref a9, .ref a10, .int 0, .int 0, .ref a2, .ref a1, .ref a3, .ref a4, .int 0, .int 0, .ref a24, .ref a25, .ref a26, .ref a14, .int 0, .ref a27, .int 0])), (a1, .inl (cI, 3, .inl (tb []))), (a2, .inl (cI, 3, .inl (tb []))), (a3, .inl (cI, 4, .inl (tb []))), (a4, .inl (cI, 4, .inl (tb []))), (a5, .inl (cI, 400000, .inl (tb []))), (a6, .inl (cI, 100000, .inl (tb []))), (a7, .inl (cI, 6001, .inl (tb []))), (a8, .inl (cI, 100000, .inl (tb []))), (a9, .inl (cI, 24000, .inl (tb []))), (a10, .inl (cI, 6000, .inl (tb []))), (a11, .inl (cI, 4, .inl (tb [0, 0, 0, 0]))), (a12, .inl (cI, 4, .inl (tb [0, 0, 0, 0]))), (a13, .inl (cI, 4, .inl (tb [0, 0, 0, 0]))), (a14, .inl (cI, 4, .inl (tb []))), (a15, .inl (cI, 4, .inl (tb [0, 0, 0, 0]))), (a16, .inl (cI, 4, .inl (tb [10, 10, 10, 10])))] sz)) 0 0 (va_A [(a0, .inr (9, [.ref a17, .ref a18, .ref a15, .ref a16, .ref a11, .ref a13, .ref a12, .ref a19, .ref a20, .ref a21, .ref a22, .ref a23, .int 1, .int 0, .int 0, .ref a5, .ref a6, .ref a7, .ref a8, .ref a9, .ref a10, .int 0, .int 0, .ref a2, .ref a1, .ref a3, .ref a4, .int 0, .int 0, .ref a24, .ref a25, .ref a26, .ref a14, .int 0, .ref a27, .int 0])), (a1, .inl (cI, 3, .inl (tb []))), (a2, .inl (cI, 3, .inl (tb []))), (a3, .inl (cI, 4, .inl (tb []))), (a4, .inl (cI, 4, .inl (tb []))), (a5, .inl (cI, 400000, .inl (tb []))), (a6, .inl (cI, 100000, .inl (tb []))), (a7, .inl (cI, 6001, .inl (tb []))), (a8, .inl (cI, 100000, .inl (tb []))), (a9, .inl (cI, 24000, .inl (tb []))), (a10, .inl (cI, 6000, .inl (tb []))), (a11, .inl (cI, 4, .inl (tb [0, 0, 0, 0]))), (a12, .inl (cI, 4, .inl (tb [0, 0, 0, 0]))), (a13, .inl (cI, 4, .inl (tb [0, 0, 0, 0]))), (a14, .inl (cI, 4, .inl (tb []))), (a15, .inl (cI, 4, .inl (tb [0, 0, 0, 0]))), (a16, .inl (cI, 4, .inl (tb [10, 10, 10, 10])))] sz) := by
  refine SM.of (y := yX9_betters) (maxL := 8) (av := [.ref a0]) (QcI dC dI (TY cI cJ cII cJJ) (-99999) [(a7, .inl (cI, 6001, .inl (tb (0 :: 0 :: List.replicate 5999 2)))), (a8, .inl (cI, 100000, .inl (tb [0, 1]))), (a3, .inl (cI, 4, .inl (tb [0]))), (a6, .inl (cI, 100000, .inl (tb [1, 1]))), (a1, .inl (cI, 3, .inl (tb [0, 0, 0]))), (a2, .inl (cI, 3, .inl (tb [0, 0, 0]))), (a4, .inl (cI, 4, .inl (tb [1]))), (a5, .inl (cI, 400000, .inl (tb [(-1), 0, 0, 0, 1, 0, 0, 0]))), (a12, .inl (cI, 4, .inl (tb [0, 0, 0, 0]))), (a11, .inl (cI, 4, .inl (tb [0, 0, 0, 0]))), (a13, .inl (cI, 4, .inl (tb [0, 0, 0, 0]))), (a10, .inl (cI, 6000, .inl (tb [0, 1]))), (a9, .inl (cI, 24000, .inl (tb [(-1), 0, 0, 0, 1, 0, 0, 0]))), (a0, .inr (9, [.ref a17, .ref a18, .ref a15, .ref a16, .ref a11, .ref a13, .ref a12, .ref a19, .ref a20, .ref a21, .ref a22, .ref a23, .int 1, .int 0, .int 1, .ref a5, .ref a6, .ref a7, .ref a8, .ref a9, .ref a10, .int 2, .int 2, .ref a2, .ref a1, .ref a3, .ref a4, .int 0, .int 1, .ref a24, .ref a25, .ref a26, .ref a14, .int 0, .ref a27, .int 0])), (a15, .inl (cI, 4, .inl (tb [0, 0, 0, 0]))), (a14, .inl (cI, 4, .inl (tb [20]))), (a16, .inl (cI, 4, .inl (tb [10, 10, 10, 10])))]) (by decide +kernel) (Nat.le_of_ble_eq_true rfl) (fun p e s m below meth c A ls hx hb hr hml hown hts hk hnm hA hK hP hD hS hX hl => ?_)
  have hown : s.vm.findClass RX9 = some m.cls := hown
  have hl : lv_has ls 8 [(0, .ref a0)] := hl
  refine lv_aload_n hx hb dX9_betters_0 rfl (lv_at hl 0 rfl) ?_
  refine kV_v (q0 := 0) ⟨hx, hb, hml, hown, hts⟩ hK hP hD hS hA hX cv_RX9_180 [0, 1, 2, 3, 4, 5, 6, 7, 8, 9, 10] [11, 12, 13, 14, 15, 16] (wr := [(a11, .inl (cI, 4, .inl (tb [0, 0, 0, 0]))), (a12, .inl (cI, 4, .inl (tb [0, 0, 0, 0]))), (a13, .inl (cI, 4, .inl (tb [0, 0, 0, 0]))), (a14, .inl (cI, 4, .inl (tb []))), (a15, .inl (cI, 4, .inl (tb [0, 0, 0, 0]))), (a16, .inl (cI, 4, .inl (tb [10, 10, 10, 10])))]) rfl rfl rfl rfl (by decide) (c373_X9_findSteps l dC dI cI cJ cII cJJ s.heap.size 0 a0 a1 a2 a3 a4 a5 a6 a7 a8 a9 a10 a17 a18 a15 a16 a11 a13 a12 a19 a20 a21 a22 a23 a24 a25 a26 a14 a27) ⟨by decide +kernel, by decide +kernel⟩ rfl rfl (Or.inl rfl) (rest := []) rfl rfl rfl hl.1 rfl (Nat.le_of_ble_eq_true rfl) dX9_betters_1 ⟨Nat.le_of_ble_eq_true rfl, Nat.le_of_ble_eq_true rfl⟩ (fun _ => rfl) (W' := [(a11, .inl (cI, 4, .inl (tb [0, 0, 0, 0]))), (a12, .inl (cI, 4, .inl (tb [0, 0, 0, 0]))), (a13, .inl (cI, 4, .inl (tb [0, 0, 0, 0]))), (a14, .inl (cI, 4, .inl (tb []))), (a15, .inl (cI, 4, .inl (tb [0, 0, 0, 0]))), (a16, .inl (cI, 4, .inl (tb [10, 10, 10, 10]))), (a7, .inl (cI, 6001, .inl (tb (0 :: 0 :: List.replicate 5999 2)))), (a8, .inl (cI, 100000, .inl (tb [0, 1]))), (a3, .inl (cI, 4, .inl (tb [0]))), (a6, .inl (cI, 100000, .inl (tb [1, 1]))), (a1, .inl (cI, 3, .inl (tb [0, 0, 0]))), (a2, .inl (cI, 3, .inl (tb [0, 0, 0]))), (a4, .inl (cI, 4, .inl (tb [1]))), (a5, .inl (cI, 400000, .inl (tb [(-1), 0, 0, 0, 1, 0, 0, 0]))), (a10, .inl (cI, 6000, .inl (tb [0, 1]))), (a0, .inr (9, [.ref a17, .ref a18, .ref a15, .ref a16, .ref a11, .ref a13, .ref a12, .ref a19, .ref a20, .ref a21, .ref a22, .ref a23, .int 1, .int 0, .int 1, .ref a5, .ref a6, .ref a7, .ref a8, .ref a9, .ref a10, .int 2, .int 2, .ref a2, .ref a1, .ref a3, .ref a4, .int 0, .int 1, .ref a24, .ref a25, .ref a26, .ref a14, .int 0, .ref a27, .int 0])), (a9, .inl (cI, 24000, .inl (tb [(-1), 0, 0, 0, 1, 0, 0, 0])))]) rfl (fun H locs hP hD hS => ?_)
  refine lv_ldc (v := (-99999)) hx hb hown (hts _ k_1014) dX9_betters_4 ?_
  refine lv_istore_n (lv' := [(1, .int (-99999)), (0, .ref a0)]) hx hb dX9_betters_6 rfl hl (by decide) rfl (fun ls hl => ?_)
  refine lv_iconst (v := 0) hx hb dX9_betters_7 (by decide) ?_
  refine lv_istore_n (lv' := [(2, .int 0), (1, .int (-99999)), (0, .ref a0)]) hx hb dX9_betters_8 rfl hl (by decide) rfl (fun ls hl => ?_)
  refine lv_aload_n hx hb dX9_betters_9 rfl (lv_at hl 2 rfl) ?_
  refine kV_l (q0 := 0) ⟨hx, hb, hml, hown, hts⟩ hK hP hD hS hA hX cv_RX9_224 [15, 0, 1, 2] [3, 4, 5, 6, 7, 8, 9, 10, 11, 12, 13, 14, 16] (wr := [(a14, .inl (cI, 4, .inl (tb []))), (a15, .inl (cI, 4, .inl (tb [0, 0, 0, 0]))), (a16, .inl (cI, 4, .inl (tb [10, 10, 10, 10]))), (a7, .inl (cI, 6001, .inl (tb (0 :: 0 :: List.replicate 5999 2)))), (a8, .inl (cI, 100000, .inl (tb [0, 1]))), (a3, .inl (cI, 4, .inl (tb [0]))), (a6, .inl (cI, 100000, .inl (tb [1, 1]))), (a1, .inl (cI, 3, .inl (tb [0, 0, 0]))), (a2, .inl (cI, 3, .inl (tb [0, 0, 0]))), (a4, .inl (cI, 4, .inl (tb [1]))), (a5, .inl (cI, 400000, .inl (tb [(-1), 0, 0, 0, 1, 0, 0, 0]))), (a10, .inl (cI, 6000, .inl (tb [0, 1]))), (a9, .inl (cI, 24000, .inl (tb [(-1), 0, 0, 0, 1, 0, 0, 0])))]) rfl rfl rfl rfl (by decide) (c461_X9_cost l dC dI cI cJ cII cJJ H.size 0 a0 a11 a12 a13 a17 a18 a15 a16 a19 a20 a21 a22 a23 a5 a6 a7 a8 a9 a10 a2 a1 a3 a4 a24 a25 a26 a14 a27) ⟨by decide +kernel, by decide +kernel⟩ rfl rfl (Or.inl rfl) (rest := []) rfl rfl rfl hl.1 rfl (Nat.le_of_ble_eq_true rfl) dX9_betters_10 ⟨Nat.le_of_ble_eq_true rfl, Nat.le_of_ble_eq_true rfl⟩ (W' := [(a14, .inl (cI, 4, .inl (tb []))), (a15, .inl (cI, 4, .inl (tb [0, 0, 0, 0]))), (a16, .inl (cI, 4, .inl (tb [10, 10, 10, 10]))), (a7, .inl (cI, 6001, .inl (tb (0 :: 0 :: List.replicate 5999 2)))), (a8, .inl (cI, 100000, .inl (tb [0, 1]))), (a3, .inl (cI, 4, .inl (tb [0]))), (a6, .inl (cI, 100000, .inl (tb [1, 1]))), (a1, .inl (cI, 3, .inl (tb [0, 0, 0]))), (a2, .inl (cI, 3, .inl (tb [0, 0, 0]))), (a4, .inl (cI, 4, .inl (tb [1]))), (a5, .inl (cI, 400000, .inl (tb [(-1), 0, 0, 0, 1, 0, 0, 0]))), (a10, .inl (cI, 6000, .inl (tb [0, 1]))), (a9, .inl (cI, 24000, .inl (tb [(-1), 0, 0, 0, 1, 0, 0, 0]))), (a0, .inr (9, [.ref a17, .ref a18, .ref a15, .ref a16, .ref a11, .ref a13, .ref a12, .ref a19, .ref a20, .ref a21, .ref a22, .ref a23, .int 1, .int 0, .int 1, .ref a5, .ref a6, .ref a7, .ref a8, .ref a9, .ref a10, .int 2, .int 2, .ref a2, .ref a1, .ref a3, .ref a4, .int 0, .int 1, .ref a24, .ref a25, .ref a26, .ref a14, .int 0, .ref a27, .int 0])), (a11, .inl (cI, 4, .inl (tb [0, 0, 0, 0]))), (a12, .inl (cI, 4, .inl (tb [0, 0, 0, 0]))), (a13, .inl (cI, 4, .inl (tb [0, 0, 0, 0])))]) rfl (fun H locs hP hD hS => ?_)
  refine lv_lstore_n (lv' := [(3, .long 0), (2, .int 0), (1, .int (-99999)), (0, .ref a0)]) hx hb dX9_betters_13 rfl hl (by decide) rfl (fun ls hl => ?_)
  refine lv_iconst (v := 0) hx hb dX9_betters_14 (by decide) ?_
  refine lv_istore (lv' := [(5, .int 0), (3, .long 0), (2, .int 0), (1, .int (-99999)), (0, .ref a0)]) hx hb dX9_betters_15 hl (by decide) rfl (fun ls hl => ?_)
  refine lv_iload hx hb dX9_betters_17 (lv_at hl 0 rfl) ?_
  refine lv_aload_n hx hb dX9_betters_19 rfl (lv_at hl 4 rfl) ?_
  refine gf (k := 22) hx hb hts inX9 hown hK hP k_817 rfl (by decide) rfl 13 rfl (.int 2) rfl dX9_betters_20 ?_
  refine f_icmp_ge hx hb dX9_betters_23 137 (by decide) (by decide +kernel) ?_
  refine lv_iconst (v := 1) hx hb dX9_betters_26 (by decide) ?_
  refine lv_istore (lv' := [(6, .int 1), (5, .int 0), (3, .long 0), (2, .int 0), (1, .int (-99999)), (0, .ref a0)]) hx hb dX9_betters_27 hl (by decide) rfl (fun ls hl => ?_)
  refine lv_iload hx hb dX9_betters_29 (lv_at hl 0 rfl) ?_
  refine lv_bipush (v := 20) hx hb dX9_betters_31 (by decide) ?_
  refine f_icmp_gt hx hb dX9_betters_33 131 (by decide) (by decide +kernel) ?_
  refine lv_iconst (v := 0) hx hb dX9_betters_36 (by decide) ?_
  refine lv_istore (lv' := [(7, .int 0), (6, .int 1), (5, .int 0), (3, .long 0), (2, .int 0), (1, .int (-99999)), (0, .ref a0)]) hx hb dX9_betters_37 hl (by decide) rfl (fun ls hl => ?_)
  refine lv_iload hx hb dX9_betters_39 (lv_at hl 0 rfl) ?_
  refine lv_aload_n hx hb dX9_betters_41 rfl (lv_at hl 6 rfl) ?_
  refine gf (k := 12) hx hb hts inX9 hown hK hP k_807 rfl (by decide) rfl 13 rfl (.int 1) rfl dX9_betters_42 ?_
  refine f_icmp_ge hx hb dX9_betters_45 80 (by decide) (by decide +kernel) ?_
  refine lv_aload_n hx hb dX9_betters_48 rfl (lv_at hl 6 rfl) ?_
  refine gf (k := 32) hx hb hts inX9 hown hK hP k_827 rfl (by decide) rfl 13 rfl (.ref a14) rfl dX9_betters_49 ?_
  refine lv_iload hx hb dX9_betters_52 (lv_at hl 0 rfl) ?_
  refine lv_aload_n hx hb dX9_betters_54 rfl (lv_at hl 6 rfl) ?_
  refine gf (k := 6) hx hb hts inX9 hown hK hP k_801 rfl (by decide) rfl 13 rfl (.ref a12) rfl dX9_betters_55 ?_
  refine lv_iload hx hb dX9_betters_58 (lv_at hl 0 rfl) ?_
  refine ld_i hx hb hK hP 15 rfl (vin (by decide +kernel)) dX9_betters_60 0 rfl ?_
  refine lv_iload hx hb dX9_betters_61 (lv_at hl 1 rfl) ?_
  refine lv_aload_n hx hb dX9_betters_63 rfl (lv_at hl 6 rfl) ?_
  refine lv_iload hx hb dX9_betters_64 (lv_at hl 2 rfl) ?_
  refine lv_iload hx hb dX9_betters_66 (lv_at hl 0 rfl) ?_
  refine kV_i (q0 := 0) ⟨hx, hb, hml, hown, hts⟩ hK hP hD hS hA hX cv_RX9_183 [13, 11, 12] [0, 1, 2, 3, 4, 5, 6, 7, 8, 9, 10, 14, 15, 16] (wr := [(a14, .inl (cI, 4, .inl (tb []))), (a15, .inl (cI, 4, .inl (tb [0, 0, 0, 0]))), (a16, .inl (cI, 4, .inl (tb [10, 10, 10, 10]))), (a7, .inl (cI, 6001, .inl (tb (0 :: 0 :: List.replicate 5999 2)))), (a8, .inl (cI, 100000, .inl (tb [0, 1]))), (a3, .inl (cI, 4, .inl (tb [0]))), (a6, .inl (cI, 100000, .inl (tb [1, 1]))), (a1, .inl (cI, 3, .inl (tb [0, 0, 0]))), (a2, .inl (cI, 3, .inl (tb [0, 0, 0]))), (a4, .inl (cI, 4, .inl (tb [1]))), (a5, .inl (cI, 400000, .inl (tb [(-1), 0, 0, 0, 1, 0, 0, 0]))), (a11, .inl (cI, 4, .inl (tb [0, 0, 0, 0]))), (a12, .inl (cI, 4, .inl (tb [0, 0, 0, 0]))), (a13, .inl (cI, 4, .inl (tb [0, 0, 0, 0])))]) rfl rfl rfl rfl (by decide) (c400_X9_at l dC dI cI cJ cII cJJ H.size 0 a0 a10 a9 a17 a18 a15 a16 a11 a13 a12 a19 a20 a21 a22 a23 a5 a6 a7 a8 a2 a1 a3 a4 a24 a25 a26 a14 a27) ⟨by decide +kernel, by decide +kernel⟩ rfl rfl (Or.inl rfl) (rest := [.int 1, .int 0, .int 0, .ref a14]) rfl rfl rfl hl.1 rfl (Nat.le_of_ble_eq_true rfl) dX9_betters_68 ⟨Nat.le_of_ble_eq_true rfl, Nat.le_of_ble_eq_true rfl⟩ (W' := [(a14, .inl (cI, 4, .inl (tb []))), (a15, .inl (cI, 4, .inl (tb [0, 0, 0, 0]))), (a16, .inl (cI, 4, .inl (tb [10, 10, 10, 10]))), (a7, .inl (cI, 6001, .inl (tb (0 :: 0 :: List.replicate 5999 2)))), (a8, .inl (cI, 100000, .inl (tb [0, 1]))), (a3, .inl (cI, 4, .inl (tb [0]))), (a6, .inl (cI, 100000, .inl (tb [1, 1]))), (a1, .inl (cI, 3, .inl (tb [0, 0, 0]))), (a2, .inl (cI, 3, .inl (tb [0, 0, 0]))), (a4, .inl (cI, 4, .inl (tb [1]))), (a5, .inl (cI, 400000, .inl (tb [(-1), 0, 0, 0, 1, 0, 0, 0]))), (a11, .inl (cI, 4, .inl (tb [0, 0, 0, 0]))), (a12, .inl (cI, 4, .inl (tb [0, 0, 0, 0]))), (a13, .inl (cI, 4, .inl (tb [0, 0, 0, 0]))), (a0, .inr (9, [.ref a17, .ref a18, .ref a15, .ref a16, .ref a11, .ref a13, .ref a12, .ref a19, .ref a20, .ref a21, .ref a22, .ref a23, .int 1, .int 0, .int 1, .ref a5, .ref a6, .ref a7, .ref a8, .ref a9, .ref a10, .int 2, .int 2, .ref a2, .ref a1, .ref a3, .ref a4, .int 0, .int 1, .ref a24, .ref a25, .ref a26, .ref a14, .int 0, .ref a27, .int 0])), (a10, .inl (cI, 6000, .inl (tb [0, 1]))), (a9, .inl (cI, 24000, .inl (tb [(-1), 0, 0, 0, 1, 0, 0, 0])))]) rfl (fun H locs hP hD hS => ?_)
  refine v_imul hx hb dX9_betters_71 (-1) (by decide +kernel) ?_
  refine v_iadd hx hb dX9_betters_72 (-1) (by decide +kernel) ?_
  refine st_i hx hb hK hP hD hS 0 rfl (vin (by decide +kernel)) dX9_betters_73 (L' := [(-1)]) rfl (W' := [(a14, .inl (cI, 4, .inl (tb [(-1)]))), (a15, .inl (cI, 4, .inl (tb [0, 0, 0, 0]))), (a16, .inl (cI, 4, .inl (tb [10, 10, 10, 10]))), (a7, .inl (cI, 6001, .inl (tb (0 :: 0 :: List.replicate 5999 2)))), (a8, .inl (cI, 100000, .inl (tb [0, 1]))), (a3, .inl (cI, 4, .inl (tb [0]))), (a6, .inl (cI, 100000, .inl (tb [1, 1]))), (a1, .inl (cI, 3, .inl (tb [0, 0, 0]))), (a2, .inl (cI, 3, .inl (tb [0, 0, 0]))), (a4, .inl (cI, 4, .inl (tb [1]))), (a5, .inl (cI, 400000, .inl (tb [(-1), 0, 0, 0, 1, 0, 0, 0]))), (a11, .inl (cI, 4, .inl (tb [0, 0, 0, 0]))), (a12, .inl (cI, 4, .inl (tb [0, 0, 0, 0]))), (a13, .inl (cI, 4, .inl (tb [0, 0, 0, 0]))), (a0, .inr (9, [.ref a17, .ref a18, .ref a15, .ref a16, .ref a11, .ref a13, .ref a12, .ref a19, .ref a20, .ref a21, .ref a22, .ref a23, .int 1, .int 0, .int 1, .ref a5, .ref a6, .ref a7, .ref a8, .ref a9, .ref a10, .int 2, .int 2, .ref a2, .ref a1, .ref a3, .ref a4, .int 0, .int 1, .ref a24, .ref a25, .ref a26, .ref a14, .int 0, .ref a27, .int 0])), (a10, .inl (cI, 6000, .inl (tb [0, 1]))), (a9, .inl (cI, 24000, .inl (tb [(-1), 0, 0, 0, 1, 0, 0, 0])))]) rfl (fun H locs hP hD hS => ?_)
  refine lv_iinc (v := 1) (lv' := [(7, .int 1), (6, .int 1), (5, .int 0), (3, .long 0), (2, .int 0), (1, .int (-99999)), (0, .ref a0)]) hx hb dX9_betters_74 hl (k := 0) rfl (by decide +kernel) (by decide) rfl (fun ls hl => ?_)
  refine lv_goto (tgt := 39) hx hb dX9_betters_77 (by decide) ?_
  refine lv_iload hx hb dX9_betters_39 (lv_at hl 0 rfl) ?_
  refine lv_aload_n hx hb dX9_betters_41 rfl (lv_at hl 6 rfl) ?_
  refine gf (k := 12) hx hb hts inX9 hown hK hP k_807 rfl (by decide) rfl 14 rfl (.int 1) rfl dX9_betters_42 ?_
  refine t_icmp_ge hx hb dX9_betters_45 80 (by decide) (by decide +kernel) ?_
  refine lv_aload_n hx hb dX9_betters_80 rfl (lv_at hl 6 rfl) ?_
  refine lv_aload_n hx hb dX9_betters_81 rfl (lv_at hl 6 rfl) ?_
  refine gf (k := 32) hx hb hts inX9 hown hK hP k_827 rfl (by decide) rfl 14 rfl (.ref a14) rfl dX9_betters_82 ?_
  refine lv_iconst (v := 0) hx hb dX9_betters_85 (by decide) ?_
  refine kV_i (q0 := 0) ⟨hx, hb, hml, hown, hts⟩ hK hP hD hS hA hX cv_RX9_199 [14, 1, 0] [2, 3, 4, 5, 6, 7, 8, 9, 10, 11, 12, 13, 15, 16] (wr := [(a16, .inl (cI, 4, .inl (tb [10, 10, 10, 10]))), (a7, .inl (cI, 6001, .inl (tb (0 :: 0 :: List.replicate 5999 2)))), (a8, .inl (cI, 100000, .inl (tb [0, 1]))), (a3, .inl (cI, 4, .inl (tb [0]))), (a6, .inl (cI, 100000, .inl (tb [1, 1]))), (a1, .inl (cI, 3, .inl (tb [0, 0, 0]))), (a2, .inl (cI, 3, .inl (tb [0, 0, 0]))), (a4, .inl (cI, 4, .inl (tb [1]))), (a5, .inl (cI, 400000, .inl (tb [(-1), 0, 0, 0, 1, 0, 0, 0]))), (a11, .inl (cI, 4, .inl (tb [0, 0, 0, 0]))), (a12, .inl (cI, 4, .inl (tb [0, 0, 0, 0]))), (a13, .inl (cI, 4, .inl (tb [0, 0, 0, 0]))), (a10, .inl (cI, 6000, .inl (tb [0, 1]))), (a9, .inl (cI, 24000, .inl (tb [(-1), 0, 0, 0, 1, 0, 0, 0])))]) rfl rfl rfl rfl (by decide) (c463_X9_isPlan l dC dI cI cJ cII cJJ H.size 0 a0 a15 a14 a17 a18 a16 a11 a13 a12 a19 a20 a21 a22 a23 a5 a6 a7 a8 a9 a10 a2 a1 a3 a4 a24 a25 a26 a27) ⟨by decide +kernel, by decide +kernel⟩ rfl rfl (Or.inl rfl) (rest := []) rfl rfl rfl hl.1 rfl (Nat.le_of_ble_eq_true rfl) dX9_betters_86 ⟨Nat.le_of_ble_eq_true rfl, Nat.le_of_ble_eq_true rfl⟩ (W' := [(a16, .inl (cI, 4, .inl (tb [10, 10, 10, 10]))), (a7, .inl (cI, 6001, .inl (tb (0 :: 0 :: List.replicate 5999 2)))), (a8, .inl (cI, 100000, .inl (tb [0, 1]))), (a3, .inl (cI, 4, .inl (tb [0]))), (a6, .inl (cI, 100000, .inl (tb [1, 1]))), (a1, .inl (cI, 3, .inl (tb [0, 0, 0]))), (a2, .inl (cI, 3, .inl (tb [0, 0, 0]))), (a4, .inl (cI, 4, .inl (tb [1]))), (a5, .inl (cI, 400000, .inl (tb [(-1), 0, 0, 0, 1, 0, 0, 0]))), (a11, .inl (cI, 4, .inl (tb [0, 0, 0, 0]))), (a12, .inl (cI, 4, .inl (tb [0, 0, 0, 0]))), (a13, .inl (cI, 4, .inl (tb [0, 0, 0, 0]))), (a10, .inl (cI, 6000, .inl (tb [0, 1]))), (a9, .inl (cI, 24000, .inl (tb [(-1), 0, 0, 0, 1, 0, 0, 0]))), (a0, .inr (9, [.ref a17, .ref a18, .ref a15, .ref a16, .ref a11, .ref a13, .ref a12, .ref a19, .ref a20, .ref a21, .ref a22, .ref a23, .int 1, .int 0, .int 1, .ref a5, .ref a6, .ref a7, .ref a8, .ref a9, .ref a10, .int 2, .int 2, .ref a2, .ref a1, .ref a3, .ref a4, .int 0, .int 1, .ref a24, .ref a25, .ref a26, .ref a14, .int 0, .ref a27, .int 0])), (a15, .inl (cI, 4, .inl (tb [0, 0, 0, 0]))), (a14, .inl (cI, 4, .inl (tb [(-1)])))]) rfl (fun H locs hP hD hS => ?_)
  refine t_if_eq hx hb dX9_betters_89 125 (by decide) (by decide +kernel) ?_
  refine lv_iinc (v := 2) (lv' := [(6, .int 2), (7, .int 1), (5, .int 0), (3, .long 0), (2, .int 0), (1, .int (-99999)), (0, .ref a0)]) hx hb dX9_betters_125 hl (k := 1) rfl (by decide +kernel) (by decide) rfl (fun ls hl => ?_)
  refine lv_goto (tgt := 29) hx hb dX9_betters_128 (by decide) ?_
  refine lv_iload hx hb dX9_betters_29 (lv_at hl 0 rfl) ?_
  refine lv_bipush (v := 20) hx hb dX9_betters_31 (by decide) ?_
  refine f_icmp_gt hx hb dX9_betters_33 131 (by decide) (by decide +kernel) ?_
  refine lv_iconst (v := 0) hx hb dX9_betters_36 (by decide) ?_
  refine lv_istore (lv' := [(7, .int 0), (6, .int 2), (5, .int 0), (3, .long 0), (2, .int 0), (1, .int (-99999)), (0, .ref a0)]) hx hb dX9_betters_37 hl (by decide) rfl (fun ls hl => ?_)
  refine lv_iload hx hb dX9_betters_39 (lv_at hl 0 rfl) ?_
  refine lv_aload_n hx hb dX9_betters_41 rfl (lv_at hl 6 rfl) ?_
  refine gf (k := 12) hx hb hts inX9 hown hK hP k_807 rfl (by decide) rfl 14 rfl (.int 1) rfl dX9_betters_42 ?_
  refine f_icmp_ge hx hb dX9_betters_45 80 (by decide) (by decide +kernel) ?_
  refine lv_aload_n hx hb dX9_betters_48 rfl (lv_at hl 6 rfl) ?_
  refine gf (k := 32) hx hb hts inX9 hown hK hP k_827 rfl (by decide) rfl 14 rfl (.ref a14) rfl dX9_betters_49 ?_
  refine lv_iload hx hb dX9_betters_52 (lv_at hl 0 rfl) ?_
  refine lv_aload_n hx hb dX9_betters_54 rfl (lv_at hl 6 rfl) ?_
  refine gf (k := 6) hx hb hts inX9 hown hK hP k_801 rfl (by decide) rfl 14 rfl (.ref a12) rfl dX9_betters_55 ?_
  refine lv_iload hx hb dX9_betters_58 (lv_at hl 0 rfl) ?_
  refine ld_i hx hb hK hP 10 rfl (vin (by decide +kernel)) dX9_betters_60 0 rfl ?_
  refine lv_iload hx hb dX9_betters_61 (lv_at hl 1 rfl) ?_
  refine lv_aload_n hx hb dX9_betters_63 rfl (lv_at hl 6 rfl) ?_
  refine lv_iload hx hb dX9_betters_64 (lv_at hl 2 rfl) ?_
  refine lv_iload hx hb dX9_betters_66 (lv_at hl 0 rfl) ?_
  refine kV_i (q0 := 0) ⟨hx, hb, hml, hown, hts⟩ hK hP hD hS hA hX cv_RX9_183 [14, 12, 13] [0, 1, 2, 3, 4, 5, 6, 7, 8, 9, 10, 11, 15, 16] (wr := [(a16, .inl (cI, 4, .inl (tb [10, 10, 10, 10]))), (a7, .inl (cI, 6001, .inl (tb (0 :: 0 :: List.replicate 5999 2)))), (a8, .inl (cI, 100000, .inl (tb [0, 1]))), (a3, .inl (cI, 4, .inl (tb [0]))), (a6, .inl (cI, 100000, .inl (tb [1, 1]))), (a1, .inl (cI, 3, .inl (tb [0, 0, 0]))), (a2, .inl (cI, 3, .inl (tb [0, 0, 0]))), (a4, .inl (cI, 4, .inl (tb [1]))), (a5, .inl (cI, 400000, .inl (tb [(-1), 0, 0, 0, 1, 0, 0, 0]))), (a11, .inl (cI, 4, .inl (tb [0, 0, 0, 0]))), (a12, .inl (cI, 4, .inl (tb [0, 0, 0, 0]))), (a13, .inl (cI, 4, .inl (tb [0, 0, 0, 0]))), (a15, .inl (cI, 4, .inl (tb [0, 0, 0, 0]))), (a14, .inl (cI, 4, .inl (tb [(-1)])))]) rfl rfl rfl rfl (by decide) (c400_X9_at l dC dI cI cJ cII cJJ H.size 0 a0 a10 a9 a17 a18 a15 a16 a11 a13 a12 a19 a20 a21 a22 a23 a5 a6 a7 a8 a2 a1 a3 a4 a24 a25 a26 a14 a27) ⟨by decide +kernel, by decide +kernel⟩ rfl rfl (Or.inl rfl) (rest := [.int 2, .int 0, .int 0, .ref a14]) rfl rfl rfl hl.1 rfl (Nat.le_of_ble_eq_true rfl) dX9_betters_68 ⟨Nat.le_of_ble_eq_true rfl, Nat.le_of_ble_eq_true rfl⟩ (W' := [(a16, .inl (cI, 4, .inl (tb [10, 10, 10, 10]))), (a7, .inl (cI, 6001, .inl (tb (0 :: 0 :: List.replicate 5999 2)))), (a8, .inl (cI, 100000, .inl (tb [0, 1]))), (a3, .inl (cI, 4, .inl (tb [0]))), (a6, .inl (cI, 100000, .inl (tb [1, 1]))), (a1, .inl (cI, 3, .inl (tb [0, 0, 0]))), (a2, .inl (cI, 3, .inl (tb [0, 0, 0]))), (a4, .inl (cI, 4, .inl (tb [1]))), (a5, .inl (cI, 400000, .inl (tb [(-1), 0, 0, 0, 1, 0, 0, 0]))), (a11, .inl (cI, 4, .inl (tb [0, 0, 0, 0]))), (a12, .inl (cI, 4, .inl (tb [0, 0, 0, 0]))), (a13, .inl (cI, 4, .inl (tb [0, 0, 0, 0]))), (a15, .inl (cI, 4, .inl (tb [0, 0, 0, 0]))), (a14, .inl (cI, 4, .inl (tb [(-1)]))), (a0, .inr (9, [.ref a17, .ref a18, .ref a15, .ref a16, .ref a11, .ref a13, .ref a12, .ref a19, .ref a20, .ref a21, .ref a22, .ref a23, .int 1, .int 0, .int 1, .ref a5, .ref a6, .ref a7, .ref a8, .ref a9, .ref a10, .int 2, .int 2, .ref a2, .ref a1, .ref a3, .ref a4, .int 0, .int 1, .ref a24, .ref a25, .ref a26, .ref a14, .int 0, .ref a27, .int 0])), (a10, .inl (cI, 6000, .inl (tb [0, 1]))), (a9, .inl (cI, 24000, .inl (tb [(-1), 0, 0, 0, 1, 0, 0, 0])))]) rfl (fun H locs hP hD hS => ?_)
  refine v_imul hx hb dX9_betters_71 (-2) (by decide +kernel) ?_
  refine v_iadd hx hb dX9_betters_72 (-2) (by decide +kernel) ?_
  refine st_i hx hb hK hP hD hS 13 rfl (vin (by decide +kernel)) dX9_betters_73 (L' := [(-2)]) rfl (W' := [(a16, .inl (cI, 4, .inl (tb [10, 10, 10, 10]))), (a7, .inl (cI, 6001, .inl (tb (0 :: 0 :: List.replicate 5999 2)))), (a8, .inl (cI, 100000, .inl (tb [0, 1]))), (a3, .inl (cI, 4, .inl (tb [0]))), (a6, .inl (cI, 100000, .inl (tb [1, 1]))), (a1, .inl (cI, 3, .inl (tb [0, 0, 0]))), (a2, .inl (cI, 3, .inl (tb [0, 0, 0]))), (a4, .inl (cI, 4, .inl (tb [1]))), (a5, .inl (cI, 400000, .inl (tb [(-1), 0, 0, 0, 1, 0, 0, 0]))), (a11, .inl (cI, 4, .inl (tb [0, 0, 0, 0]))), (a12, .inl (cI, 4, .inl (tb [0, 0, 0, 0]))), (a13, .inl (cI, 4, .inl (tb [0, 0, 0, 0]))), (a15, .inl (cI, 4, .inl (tb [0, 0, 0, 0]))), (a14, .inl (cI, 4, .inl (tb [(-2)]))), (a0, .inr (9, [.ref a17, .ref a18, .ref a15, .ref a16, .ref a11, .ref a13, .ref a12, .ref a19, .ref a20, .ref a21, .ref a22, .ref a23, .int 1, .int 0, .int 1, .ref a5, .ref a6, .ref a7, .ref a8, .ref a9, .ref a10, .int 2, .int 2, .ref a2, .ref a1, .ref a3, .ref a4, .int 0, .int 1, .ref a24, .ref a25, .ref a26, .ref a14, .int 0, .ref a27, .int 0])), (a10, .inl (cI, 6000, .inl (tb [0, 1]))), (a9, .inl (cI, 24000, .inl (tb [(-1), 0, 0, 0, 1, 0, 0, 0])))]) rfl (fun H locs hP hD hS => ?_)
  refine lv_iinc (v := 1) (lv' := [(7, .int 1), (6, .int 2), (5, .int 0), (3, .long 0), (2, .int 0), (1, .int (-99999)), (0, .ref a0)]) hx hb dX9_betters_74 hl (k := 0) rfl (by decide +kernel) (by decide) rfl (fun ls hl => ?_)
  refine lv_goto (tgt := 39) hx hb dX9_betters_77 (by decide) ?_
  refine lv_iload hx hb dX9_betters_39 (lv_at hl 0 rfl) ?_
  refine lv_aload_n hx hb dX9_betters_41 rfl (lv_at hl 6 rfl) ?_
  refine gf (k := 12) hx hb hts inX9 hown hK hP k_807 rfl (by decide) rfl 14 rfl (.int 1) rfl dX9_betters_42 ?_
  refine t_icmp_ge hx hb dX9_betters_45 80 (by decide) (by decide +kernel) ?_
  refine lv_aload_n hx hb dX9_betters_80 rfl (lv_at hl 6 rfl) ?_
  refine lv_aload_n hx hb dX9_betters_81 rfl (lv_at hl 6 rfl) ?_
  refine gf (k := 32) hx hb hts inX9 hown hK hP k_827 rfl (by decide) rfl 14 rfl (.ref a14) rfl dX9_betters_82 ?_
  refine lv_iconst (v := 0) hx hb dX9_betters_85 (by decide) ?_
  refine kV_i (q0 := 0) ⟨hx, hb, hml, hown, hts⟩ hK hP hD hS hA hX cv_RX9_199 [14, 12, 13] [0, 1, 2, 3, 4, 5, 6, 7, 8, 9, 10, 11, 15, 16] (wr := [(a16, .inl (cI, 4, .inl (tb [10, 10, 10, 10]))), (a7, .inl (cI, 6001, .inl (tb (0 :: 0 :: List.replicate 5999 2)))), (a8, .inl (cI, 100000, .inl (tb [0, 1]))), (a3, .inl (cI, 4, .inl (tb [0]))), (a6, .inl (cI, 100000, .inl (tb [1, 1]))), (a1, .inl (cI, 3, .inl (tb [0, 0, 0]))), (a2, .inl (cI, 3, .inl (tb [0, 0, 0]))), (a4, .inl (cI, 4, .inl (tb [1]))), (a5, .inl (cI, 400000, .inl (tb [(-1), 0, 0, 0, 1, 0, 0, 0]))), (a11, .inl (cI, 4, .inl (tb [0, 0, 0, 0]))), (a12, .inl (cI, 4, .inl (tb [0, 0, 0, 0]))), (a13, .inl (cI, 4, .inl (tb [0, 0, 0, 0]))), (a10, .inl (cI, 6000, .inl (tb [0, 1]))), (a9, .inl (cI, 24000, .inl (tb [(-1), 0, 0, 0, 1, 0, 0, 0])))]) rfl rfl rfl rfl (by decide) (c464_X9_isPlan l dC dI cI cJ cII cJJ H.size 0 a0 a15 a14 a17 a18 a16 a11 a13 a12 a19 a20 a21 a22 a23 a5 a6 a7 a8 a9 a10 a2 a1 a3 a4 a24 a25 a26 a27) ⟨by decide +kernel, by decide +kernel⟩ rfl rfl (Or.inl rfl) (rest := []) rfl rfl rfl hl.1 rfl (Nat.le_of_ble_eq_true rfl) dX9_betters_86 ⟨Nat.le_of_ble_eq_true rfl, Nat.le_of_ble_eq_true rfl⟩ (W' := [(a16, .inl (cI, 4, .inl (tb [10, 10, 10, 10]))), (a7, .inl (cI, 6001, .inl (tb (0 :: 0 :: List.replicate 5999 2)))), (a8, .inl (cI, 100000, .inl (tb [0, 1]))), (a3, .inl (cI, 4, .inl (tb [0]))), (a6, .inl (cI, 100000, .inl (tb [1, 1]))), (a1, .inl (cI, 3, .inl (tb [0, 0, 0]))), (a2, .inl (cI, 3, .inl (tb [0, 0, 0]))), (a4, .inl (cI, 4, .inl (tb [1]))), (a5, .inl (cI, 400000, .inl (tb [(-1), 0, 0, 0, 1, 0, 0, 0]))), (a11, .inl (cI, 4, .inl (tb [0, 0, 0, 0]))), (a12, .inl (cI, 4, .inl (tb [0, 0, 0, 0]))), (a13, .inl (cI, 4, .inl (tb [0, 0, 0, 0]))), (a10, .inl (cI, 6000, .inl (tb [0, 1]))), (a9, .inl (cI, 24000, .inl (tb [(-1), 0, 0, 0, 1, 0, 0, 0]))), (a0, .inr (9, [.ref a17, .ref a18, .ref a15, .ref a16, .ref a11, .ref a13, .ref a12, .ref a19, .ref a20, .ref a21, .ref a22, .ref a23, .int 1, .int 0, .int 1, .ref a5, .ref a6, .ref a7, .ref a8, .ref a9, .ref a10, .int 2, .int 2, .ref a2, .ref a1, .ref a3, .ref a4, .int 0, .int 1, .ref a24, .ref a25, .ref a26, .ref a14, .int 0, .ref a27, .int 0])), (a15, .inl (cI, 4, .inl (tb [0, 0, 0, 0]))), (a14, .inl (cI, 4, .inl (tb [(-2)])))]) rfl (fun H locs hP hD hS => ?_)
  refine t_if_eq hx hb dX9_betters_89 125 (by decide) (by decide +kernel) ?_
  refine lv_iinc (v := 3) (lv' := [(6, .int 3), (7, .int 1), (5, .int 0), (3, .long 0), (2, .int 0), (1, .int (-99999)), (0, .ref a0)]) hx hb dX9_betters_125 hl (k := 1) rfl (by decide +kernel) (by decide) rfl (fun ls hl => ?_)
  refine lv_goto (tgt := 29) hx hb dX9_betters_128 (by decide) ?_
  refine lv_iload hx hb dX9_betters_29 (lv_at hl 0 rfl) ?_
  refine lv_bipush (v := 20) hx hb dX9_betters_31 (by decide) ?_
  refine f_icmp_gt hx hb dX9_betters_33 131 (by decide) (by decide +kernel) ?_
  refine lv_iconst (v := 0) hx hb dX9_betters_36 (by decide) ?_
  refine lv_istore (lv' := [(7, .int 0), (6, .int 3), (5, .int 0), (3, .long 0), (2, .int 0), (1, .int (-99999)), (0, .ref a0)]) hx hb dX9_betters_37 hl (by decide) rfl (fun ls hl => ?_)
  refine lv_iload hx hb dX9_betters_39 (lv_at hl 0 rfl) ?_
  refine lv_aload_n hx hb dX9_betters_41 rfl (lv_at hl 6 rfl) ?_
  refine gf (k := 12) hx hb hts inX9 hown hK hP k_807 rfl (by decide) rfl 14 rfl (.int 1) rfl dX9_betters_42 ?_
  refine f_icmp_ge hx hb dX9_betters_45 80 (by decide) (by decide +kernel) ?_
  refine lv_aload_n hx hb dX9_betters_48 rfl (lv_at hl 6 rfl) ?_
  refine gf (k := 32) hx hb hts inX9 hown hK hP k_827 rfl (by decide) rfl 14 rfl (.ref a14) rfl dX9_betters_49 ?_
  refine lv_iload hx hb dX9_betters_52 (lv_at hl 0 rfl) ?_
  refine lv_aload_n hx hb dX9_betters_54 rfl (lv_at hl 6 rfl) ?_
  refine gf (k := 6) hx hb hts inX9 hown hK hP k_801 rfl (by decide) rfl 14 rfl (.ref a12) rfl dX9_betters_55 ?_
  refine lv_iload hx hb dX9_betters_58 (lv_at hl 0 rfl) ?_
  refine ld_i hx hb hK hP 10 rfl (vin (by decide +kernel)) dX9_betters_60 0 rfl ?_
  refine lv_iload hx hb dX9_betters_61 (lv_at hl 1 rfl) ?_
  exact c460_X9_betters_s1 l dC dI cI cJ cII cJJ g a0 a1 a2 a3 a4 a5 a6 a7 a8 a9 a10 a11 a12 a13 a14 a15 a16 a17 a18 a19 a20 a21 a22 a23 a24 a25 a26 a27 hx hb hr hml hown hts hk hA hK hP hD hS hX hl
set_option maxRecDepth 100000 in
set_option maxHeartbeats 4000000 in
theorem c459_X9_better (l : Launch) (dC : Nat → ClassId) (dI : Nat → Nat → Nat) (cI cJ cII cJJ : ClassId) (sz g a0 a1 a2 a3 a4 a5 a6 a7 a8 a9 a10 a11 a12 a13 a14 a15 a16 a17 a18 a19 a20 a21 a22 a23 a24 a25 a26 a27 : Nat) : Met l yX9_better (.code yX9_better cX9_better 1 (some .int) :: TT) ({ frames := 8, cells := 0, slots := 0, locals := 440 }) (PcS dC dI (TY cI cJ cII cJJ) [.ref a0] [(a0, .inr (9, [.ref a17, .ref a18, .ref a1, .ref a3, .ref a14, .ref a15, .ref a2, .ref a19, .ref a20, .ref a21, .ref a22, .ref a23, .int 1, .int 0, .int 0, .ref a8, .ref a9, .ref a10, .ref a11, .ref a12, .ref a13, .int 0, .int 0, .ref a5, .ref a4, .ref a6, .ref a7, .int 0, .int 0, .ref a24, .ref a25, .ref a26, .ref a16, .int 0, .ref a27, .int 0])), (a1, .inl (cI, 4, .inl (tb [0, 0, 0, 0]))), (a2, .inl (cI, 4, .inl (tb [0, 0, 0, 0]))), (a3, .inl (cI, 4, .inl (tb [10, 10, 10, 10]))), (a4, .inl (cI, 3, .inl (tb []))), (a5, .inl (cI, 3, .inl (tb []))), (a6, .inl (cI, 4, .inl (tb []))), (a7, .inl (cI, 4, .inl (tb []))), (a8, .inl (cI, 400000, .inl (tb []))), (a9, .inl (cI, 100000, .inl (tb []))), (a10, .inl (cI, 6001, .inl (tb []))), (a11, .inl (cI, 100000, .inl (tb []))), (a12, .inl (cI, 24000, .inl (tb []))), (a13, .inl (cI, 6000, .inl (tb []))), (a14, .inl (cI, 4, .inl (tb [0, 0, 0, 0]))), (a15, .inl (cI, 4, .inl (tb [0, 0, 0, 0]))), (a16, .inl (cI, 4, .inl (tb [])))] sz 0 g) ((QcI dC dI (TY cI cJ cII cJJ) (-99999) []) (va_A [(a0, .inr (9, [.ref a17, .ref a18, .ref a1, .ref a3, .ref a14, .ref a15, .ref a2, .ref a19, .ref a20, .ref a21, .ref a22, .ref a23, .int 1, .int 0, .int 0, .ref a8, .ref a9, .ref a10, .ref a11, .ref a12, .ref a13, .int 0, .int 0, .ref a5, .ref a4, .ref a6, .ref a7, .int 0, .int 0, .ref a24, .ref a25, .ref a26, .ref a16, .int 0, .ref a27, .int 0])), (a1, .inl (cI, 4, .inl (tb [0, 0, 0, 0]))), (a2, .inl (cI, 4, .inl (tb [0, 0, 0, 0]))), (a3, .inl (cI, 4, .inl (tb [10, 10, 10, 10]))), (a4, .inl (cI, 3, .inl (tb []))), (a5, .inl (cI, 3, .inl (tb []))), (a6, .inl (cI, 4, .inl (tb []))), (a7, .inl (cI, 4, .inl (tb []))), (a8, .inl (cI, 400000, .inl (tb []))), (a9, .inl (cI, 100000, .inl (tb []))), (a10, .inl (cI, 6001, .inl (tb []))), (a11, .inl (cI, 100000, .inl (tb []))), (a12, .inl (cI, 24000, .inl (tb []))), (a13, .inl (cI, 6000, .inl (tb []))), (a14, .inl (cI, 4, .inl (tb [0, 0, 0, 0]))), (a15, .inl (cI, 4, .inl (tb [0, 0, 0, 0]))), (a16, .inl (cI, 4, .inl (tb [])))] sz)) 0 0 (va_A [(a0, .inr (9, [.ref a17, .ref a18, .ref a1, .ref a3, .ref a14, .ref a15, .ref a2, .ref a19, .ref a20, .ref a21, .ref a22, .ref a23, .int 1, .int 0, .int 0, .ref a8, .ref a9, .ref a10, .ref a11, .ref a12, .ref a13, .int 0, .int 0, .ref a5, .ref a4, .ref a6, .ref a7, .int 0, .int 0, .ref a24, .ref a25, .ref a26, .ref a16, .int 0, .ref a27, .int 0])), (a1, .inl (cI, 4, .inl (tb [0, 0, 0, 0]))), (a2, .inl (cI, 4, .inl (tb [0, 0, 0, 0]))), (a3, .inl (cI, 4, .inl (tb [10, 10, 10, 10]))), (a4, .inl (cI, 3, .inl (tb []))), (a5, .inl (cI, 3, .inl (tb []))), (a6, .inl (cI, 4, .inl (tb []))), (a7, .inl (cI, 4, .inl (tb []))), (a8, .inl (cI, 400000, .inl (tb []))), (a9, .inl (cI, 100000, .inl (tb []))), (a10, .inl (cI, 6001, .inl (tb []))), (a11, .inl (cI, 100000, .inl (tb []))), (a12, .inl (cI, 24000, .inl (tb []))), (a13, .inl (cI, 6000, .inl (tb []))), (a14, .inl (cI, 4, .inl (tb [0, 0, 0, 0]))), (a15, .inl (cI, 4, .inl (tb [0, 0, 0, 0]))), (a16, .inl (cI, 4, .inl (tb [])))] sz) := by
  refine SM.of (y := yX9_better) (maxL := 1) (av := [.ref a0]) (QcI dC dI (TY cI cJ cII cJJ) (-99999) []) (by decide +kernel) (Nat.le_of_ble_eq_true rfl) (fun p e s m below meth c A ls hx hb hr hml hown hts hk hnm hA hK hP hD hS hX hl => ?_)
  have hown : s.vm.findClass RX9 = some m.cls := hown
  have hl : lv_has ls 1 [(0, .ref a0)] := hl
  refine lv_aload_n hx hb dX9_better_0 rfl (lv_at hl 0 rfl) ?_
  refine lv_aload_n hx hb dX9_better_1 rfl (lv_at hl 0 rfl) ?_
  refine gf (k := 6) hx hb hts inX9 hown hK hP k_801 rfl (by decide) rfl 0 rfl (.ref a2) rfl dX9_better_2 ?_
  refine lv_iconst (v := 0) hx hb dX9_better_5 (by decide) ?_
  refine kV_i (q0 := 0) ⟨hx, hb, hml, hown, hts⟩ hK hP hD hS hA hX cv_RX9_199 [0, 1, 2, 3] [4, 5, 6, 7, 8, 9, 10, 11, 12, 13, 14, 15, 16] (wr := [(a4, .inl (cI, 3, .inl (tb []))), (a5, .inl (cI, 3, .inl (tb []))), (a6, .inl (cI, 4, .inl (tb []))), (a7, .inl (cI, 4, .inl (tb []))), (a8, .inl (cI, 400000, .inl (tb []))), (a9, .inl (cI, 100000, .inl (tb []))), (a10, .inl (cI, 6001, .inl (tb []))), (a11, .inl (cI, 100000, .inl (tb []))), (a12, .inl (cI, 24000, .inl (tb []))), (a13, .inl (cI, 6000, .inl (tb []))), (a14, .inl (cI, 4, .inl (tb [0, 0, 0, 0]))), (a15, .inl (cI, 4, .inl (tb [0, 0, 0, 0]))), (a16, .inl (cI, 4, .inl (tb [])))]) rfl rfl rfl rfl (by decide) (c427_X9_isPlan l dC dI cI cJ cII cJJ s.heap.size 0 a0 a1 a2 a3 a17 a18 a14 a15 a19 a20 a21 a22 a23 a8 a9 a10 a11 a12 a13 a5 a4 a6 a7 a24 a25 a26 a16 a27) ⟨by decide +kernel, by decide +kernel⟩ rfl rfl (Or.inl rfl) (rest := []) rfl rfl rfl hl.1 rfl (Nat.le_of_ble_eq_true rfl) dX9_better_6 ⟨Nat.le_of_ble_eq_true rfl, Nat.le_of_ble_eq_true rfl⟩ (W' := [(a4, .inl (cI, 3, .inl (tb []))), (a5, .inl (cI, 3, .inl (tb []))), (a6, .inl (cI, 4, .inl (tb []))), (a7, .inl (cI, 4, .inl (tb []))), (a8, .inl (cI, 400000, .inl (tb []))), (a9, .inl (cI, 100000, .inl (tb []))), (a10, .inl (cI, 6001, .inl (tb []))), (a11, .inl (cI, 100000, .inl (tb []))), (a12, .inl (cI, 24000, .inl (tb []))), (a13, .inl (cI, 6000, .inl (tb []))), (a14, .inl (cI, 4, .inl (tb [0, 0, 0, 0]))), (a15, .inl (cI, 4, .inl (tb [0, 0, 0, 0]))), (a16, .inl (cI, 4, .inl (tb []))), (a0, .inr (9, [.ref a17, .ref a18, .ref a1, .ref a3, .ref a14, .ref a15, .ref a2, .ref a19, .ref a20, .ref a21, .ref a22, .ref a23, .int 1, .int 0, .int 0, .ref a8, .ref a9, .ref a10, .ref a11, .ref a12, .ref a13, .int 0, .int 0, .ref a5, .ref a4, .ref a6, .ref a7, .int 0, .int 0, .ref a24, .ref a25, .ref a26, .ref a16, .int 0, .ref a27, .int 0])), (a1, .inl (cI, 4, .inl (tb [0, 0, 0, 0]))), (a2, .inl (cI, 4, .inl (tb [0, 0, 0, 0]))), (a3, .inl (cI, 4, .inl (tb [10, 10, 10, 10])))]) rfl (fun H locs hP hD hS => ?_)
  refine f_if_eq hx hb dX9_better_9 19 (by decide) (by decide +kernel) ?_
  refine lv_aload_n hx hb dX9_better_12 rfl (lv_at hl 0 rfl) ?_
  refine kV_i (q0 := 0) ⟨hx, hb, hml, hown, hts⟩ hK hP hD hS hA hX cv_RX9_228 [13, 0, 1, 2, 3, 4, 5, 6, 7, 8, 9, 10, 15, 11, 12, 14, 16] [] (wr := []) rfl rfl rfl rfl (by decide) (c460_X9_betters l dC dI cI cJ cII cJJ H.size 0 a0 a4 a5 a6 a7 a8 a9 a10 a11 a12 a13 a14 a2 a15 a16 a1 a3 a17 a18 a19 a20 a21 a22 a23 a24 a25 a26 a27) ⟨by decide +kernel, by decide +kernel⟩ rfl rfl (Or.inl rfl) (rest := []) rfl rfl rfl hl.1 rfl (Nat.le_of_ble_eq_true rfl) dX9_better_13 ⟨Nat.le_of_ble_eq_true rfl, Nat.le_of_ble_eq_true rfl⟩ (W' := [(a10, .inl (cI, 6001, .inl (tb (0 :: 0 :: List.replicate 5999 2)))), (a11, .inl (cI, 100000, .inl (tb [0, 1]))), (a6, .inl (cI, 4, .inl (tb [0]))), (a9, .inl (cI, 100000, .inl (tb [1, 1]))), (a4, .inl (cI, 3, .inl (tb [0, 0, 0]))), (a5, .inl (cI, 3, .inl (tb [0, 0, 0]))), (a7, .inl (cI, 4, .inl (tb [1]))), (a8, .inl (cI, 400000, .inl (tb [(-1), 0, 0, 0, 1, 0, 0, 0]))), (a2, .inl (cI, 4, .inl (tb [0, 0, 0, 0]))), (a14, .inl (cI, 4, .inl (tb [0, 0, 0, 0]))), (a15, .inl (cI, 4, .inl (tb [0, 0, 0, 0]))), (a13, .inl (cI, 6000, .inl (tb [0, 1]))), (a12, .inl (cI, 24000, .inl (tb [(-1), 0, 0, 0, 1, 0, 0, 0]))), (a0, .inr (9, [.ref a17, .ref a18, .ref a1, .ref a3, .ref a14, .ref a15, .ref a2, .ref a19, .ref a20, .ref a21, .ref a22, .ref a23, .int 1, .int 0, .int 1, .ref a8, .ref a9, .ref a10, .ref a11, .ref a12, .ref a13, .int 2, .int 2, .ref a5, .ref a4, .ref a6, .ref a7, .int 0, .int 1, .ref a24, .ref a25, .ref a26, .ref a16, .int 0, .ref a27, .int 0])), (a1, .inl (cI, 4, .inl (tb [0, 0, 0, 0]))), (a16, .inl (cI, 4, .inl (tb [20]))), (a3, .inl (cI, 4, .inl (tb [10, 10, 10, 10])))]) rfl (fun H locs hP hD hS => ?_)
  refine lv_goto (tgt := 25) hx hb dX9_better_16 (by decide) ?_
  exact r_i hx hb hr hk hK (hP.sub [] rfl) (hD.sub [] rfl rfl) hS dX9_better_25
set_option maxRecDepth 100000 in
set_option maxHeartbeats 4000000 in
theorem c513_X9_best (l : Launch) (dC : Nat → ClassId) (dI : Nat → Nat → Nat) (cI cJ cII cJJ : ClassId) (sz g a0 a1 a2 a3 a4 a5 a6 a7 a8 a9 a10 a11 a12 a13 a14 a15 a16 a17 a18 a19 a20 a21 a22 a23 a24 a25 a26 a27 : Nat) : Met l yX9_best (.code yX9_best cX9_best 2 (some .int) :: TT) ({ frames := 8, cells := 0, slots := 0, locals := 440 }) (PcS dC dI (TY cI cJ cII cJJ) [.ref a0] [(a0, .inr (9, [.ref a17, .ref a18, .ref a1, .ref a3, .ref a14, .ref a15, .ref a2, .ref a19, .ref a20, .ref a21, .ref a22, .ref a23, .int 1, .int 0, .int 0, .ref a8, .ref a9, .ref a10, .ref a11, .ref a12, .ref a13, .int 0, .int 0, .ref a5, .ref a4, .ref a6, .ref a7, .int 0, .int 0, .ref a24, .ref a25, .ref a26, .ref a16, .int 0, .ref a27, .int 0])), (a1, .inl (cI, 4, .inl (tb [0, 0, 0, 0]))), (a2, .inl (cI, 4, .inl (tb [0, 0, 0, 0]))), (a3, .inl (cI, 4, .inl (tb [10, 10, 10, 10]))), (a4, .inl (cI, 3, .inl (tb []))), (a5, .inl (cI, 3, .inl (tb []))), (a6, .inl (cI, 4, .inl (tb []))), (a7, .inl (cI, 4, .inl (tb []))), (a8, .inl (cI, 400000, .inl (tb []))), (a9, .inl (cI, 100000, .inl (tb []))), (a10, .inl (cI, 6001, .inl (tb []))), (a11, .inl (cI, 100000, .inl (tb []))), (a12, .inl (cI, 24000, .inl (tb []))), (a13, .inl (cI, 6000, .inl (tb []))), (a14, .inl (cI, 4, .inl (tb [0, 0, 0, 0]))), (a15, .inl (cI, 4, .inl (tb [0, 0, 0, 0]))), (a16, .inl (cI, 4, .inl (tb [])))] sz 0 g) ((QcI dC dI (TY cI cJ cII cJJ) 0 []) (va_A [(a0, .inr (9, [.ref a17, .ref a18, .ref a1, .ref a3, .ref a14, .ref a15, .ref a2, .ref a19, .ref a20, .ref a21, .ref a22, .ref a23, .int 1, .int 0, .int 0, .ref a8, .ref a9, .ref a10, .ref a11, .ref a12, .ref a13, .int 0, .int 0, .ref a5, .ref a4, .ref a6, .ref a7, .int 0, .int 0, .ref a24, .ref a25, .ref a26, .ref a16, .int 0, .ref a27, .int 0])), (a1, .inl (cI, 4, .inl (tb [0, 0, 0, 0]))), (a2, .inl (cI, 4, .inl (tb [0, 0, 0, 0]))), (a3, .inl (cI, 4, .inl (tb [10, 10, 10, 10]))), (a4, .inl (cI, 3, .inl (tb []))), (a5, .inl (cI, 3, .inl (tb []))), (a6, .inl (cI, 4, .inl (tb []))), (a7, .inl (cI, 4, .inl (tb []))), (a8, .inl (cI, 400000, .inl (tb []))), (a9, .inl (cI, 100000, .inl (tb []))), (a10, .inl (cI, 6001, .inl (tb []))), (a11, .inl (cI, 100000, .inl (tb []))), (a12, .inl (cI, 24000, .inl (tb []))), (a13, .inl (cI, 6000, .inl (tb []))), (a14, .inl (cI, 4, .inl (tb [0, 0, 0, 0]))), (a15, .inl (cI, 4, .inl (tb [0, 0, 0, 0]))), (a16, .inl (cI, 4, .inl (tb [])))] sz)) 0 0 (va_A [(a0, .inr (9, [.ref a17, .ref a18, .ref a1, .ref a3, .ref a14, .ref a15, .ref a2, .ref a19, .ref a20, .ref a21, .ref a22, .ref a23, .int 1, .int 0, .int 0, .ref a8, .ref a9, .ref a10, .ref a11, .ref a12, .ref a13, .int 0, .int 0, .ref a5, .ref a4, .ref a6, .ref a7, .int 0, .int 0, .ref a24, .ref a25, .ref a26, .ref a16, .int 0, .ref a27, .int 0])), (a1, .inl (cI, 4, .inl (tb [0, 0, 0, 0]))), (a2, .inl (cI, 4, .inl (tb [0, 0, 0, 0]))), (a3, .inl (cI, 4, .inl (tb [10, 10, 10, 10]))), (a4, .inl (cI, 3, .inl (tb []))), (a5, .inl (cI, 3, .inl (tb []))), (a6, .inl (cI, 4, .inl (tb []))), (a7, .inl (cI, 4, .inl (tb []))), (a8, .inl (cI, 400000, .inl (tb []))), (a9, .inl (cI, 100000, .inl (tb []))), (a10, .inl (cI, 6001, .inl (tb []))), (a11, .inl (cI, 100000, .inl (tb []))), (a12, .inl (cI, 24000, .inl (tb []))), (a13, .inl (cI, 6000, .inl (tb []))), (a14, .inl (cI, 4, .inl (tb [0, 0, 0, 0]))), (a15, .inl (cI, 4, .inl (tb [0, 0, 0, 0]))), (a16, .inl (cI, 4, .inl (tb [])))] sz) := by
  refine SM.of (y := yX9_best) (maxL := 2) (av := [.ref a0]) (QcI dC dI (TY cI cJ cII cJJ) 0 []) (by decide +kernel) (Nat.le_of_ble_eq_true rfl) (fun p e s m below meth c A ls hx hb hr hml hown hts hk hnm hA hK hP hD hS hX hl => ?_)
  have hown : s.vm.findClass RX9 = some m.cls := hown
  have hl : lv_has ls 2 [(0, .ref a0)] := hl
  refine lv_aload_n hx hb dX9_best_0 rfl (lv_at hl 0 rfl) ?_
  refine lv_aload_n hx hb dX9_best_1 rfl (lv_at hl 0 rfl) ?_
  refine gf (k := 6) hx hb hts inX9 hown hK hP k_801 rfl (by decide) rfl 0 rfl (.ref a2) rfl dX9_best_2 ?_
  refine lv_iconst (v := 0) hx hb dX9_best_5 (by decide) ?_
  refine kV_i (q0 := 0) ⟨hx, hb, hml, hown, hts⟩ hK hP hD hS hA hX cv_RX9_199 [0, 1, 2, 3] [4, 5, 6, 7, 8, 9, 10, 11, 12, 13, 14, 15, 16] (wr := [(a4, .inl (cI, 3, .inl (tb []))), (a5, .inl (cI, 3, .inl (tb []))), (a6, .inl (cI, 4, .inl (tb []))), (a7, .inl (cI, 4, .inl (tb []))), (a8, .inl (cI, 400000, .inl (tb []))), (a9, .inl (cI, 100000, .inl (tb []))), (a10, .inl (cI, 6001, .inl (tb []))), (a11, .inl (cI, 100000, .inl (tb []))), (a12, .inl (cI, 24000, .inl (tb []))), (a13, .inl (cI, 6000, .inl (tb []))), (a14, .inl (cI, 4, .inl (tb [0, 0, 0, 0]))), (a15, .inl (cI, 4, .inl (tb [0, 0, 0, 0]))), (a16, .inl (cI, 4, .inl (tb [])))]) rfl rfl rfl rfl (by decide) (c427_X9_isPlan l dC dI cI cJ cII cJJ s.heap.size 0 a0 a1 a2 a3 a17 a18 a14 a15 a19 a20 a21 a22 a23 a8 a9 a10 a11 a12 a13 a5 a4 a6 a7 a24 a25 a26 a16 a27) ⟨by decide +kernel, by decide +kernel⟩ rfl rfl (Or.inl rfl) (rest := []) rfl rfl rfl hl.1 rfl (Nat.le_of_ble_eq_true rfl) dX9_best_6 ⟨Nat.le_of_ble_eq_true rfl, Nat.le_of_ble_eq_true rfl⟩ (W' := [(a4, .inl (cI, 3, .inl (tb []))), (a5, .inl (cI, 3, .inl (tb []))), (a6, .inl (cI, 4, .inl (tb []))), (a7, .inl (cI, 4, .inl (tb []))), (a8, .inl (cI, 400000, .inl (tb []))), (a9, .inl (cI, 100000, .inl (tb []))), (a10, .inl (cI, 6001, .inl (tb []))), (a11, .inl (cI, 100000, .inl (tb []))), (a12, .inl (cI, 24000, .inl (tb []))), (a13, .inl (cI, 6000, .inl (tb []))), (a14, .inl (cI, 4, .inl (tb [0, 0, 0, 0]))), (a15, .inl (cI, 4, .inl (tb [0, 0, 0, 0]))), (a16, .inl (cI, 4, .inl (tb []))), (a0, .inr (9, [.ref a17, .ref a18, .ref a1, .ref a3, .ref a14, .ref a15, .ref a2, .ref a19, .ref a20, .ref a21, .ref a22, .ref a23, .int 1, .int 0, .int 0, .ref a8, .ref a9, .ref a10, .ref a11, .ref a12, .ref a13, .int 0, .int 0, .ref a5, .ref a4, .ref a6, .ref a7, .int 0, .int 0, .ref a24, .ref a25, .ref a26, .ref a16, .int 0, .ref a27, .int 0])), (a1, .inl (cI, 4, .inl (tb [0, 0, 0, 0]))), (a2, .inl (cI, 4, .inl (tb [0, 0, 0, 0]))), (a3, .inl (cI, 4, .inl (tb [10, 10, 10, 10])))]) rfl (fun H locs hP hD hS => ?_)
  refine t_if_ne hx hb dX9_best_9 19 (by decide) (by decide +kernel) ?_
  refine lv_iconst (v := 0) hx hb dX9_best_19 (by decide) ?_
  refine lv_istore_n (lv' := [(1, .int 0), (0, .ref a0)]) hx hb dX9_best_20 rfl hl (by decide) rfl (fun ls hl => ?_)
  refine lv_aload_n hx hb dX9_best_21 rfl (lv_at hl 1 rfl) ?_
  refine kV_i (q0 := 0) ⟨hx, hb, hml, hown, hts⟩ hK hP hD hS hA hX cv_RX9_228 [13, 0, 1, 2, 3, 4, 5, 6, 7, 8, 9, 10, 15, 11, 12, 14, 16] [] (wr := []) rfl rfl rfl rfl (by decide) (c460_X9_betters l dC dI cI cJ cII cJJ H.size 0 a0 a4 a5 a6 a7 a8 a9 a10 a11 a12 a13 a14 a2 a15 a16 a1 a3 a17 a18 a19 a20 a21 a22 a23 a24 a25 a26 a27) ⟨by decide +kernel, by decide +kernel⟩ rfl rfl (Or.inl rfl) (rest := []) rfl rfl rfl hl.1 rfl (Nat.le_of_ble_eq_true rfl) dX9_best_22 ⟨Nat.le_of_ble_eq_true rfl, Nat.le_of_ble_eq_true rfl⟩ (W' := [(a10, .inl (cI, 6001, .inl (tb (0 :: 0 :: List.replicate 5999 2)))), (a11, .inl (cI, 100000, .inl (tb [0, 1]))), (a6, .inl (cI, 4, .inl (tb [0]))), (a9, .inl (cI, 100000, .inl (tb [1, 1]))), (a4, .inl (cI, 3, .inl (tb [0, 0, 0]))), (a5, .inl (cI, 3, .inl (tb [0, 0, 0]))), (a7, .inl (cI, 4, .inl (tb [1]))), (a8, .inl (cI, 400000, .inl (tb [(-1), 0, 0, 0, 1, 0, 0, 0]))), (a2, .inl (cI, 4, .inl (tb [0, 0, 0, 0]))), (a14, .inl (cI, 4, .inl (tb [0, 0, 0, 0]))), (a15, .inl (cI, 4, .inl (tb [0, 0, 0, 0]))), (a13, .inl (cI, 6000, .inl (tb [0, 1]))), (a12, .inl (cI, 24000, .inl (tb [(-1), 0, 0, 0, 1, 0, 0, 0]))), (a0, .inr (9, [.ref a17, .ref a18, .ref a1, .ref a3, .ref a14, .ref a15, .ref a2, .ref a19, .ref a20, .ref a21, .ref a22, .ref a23, .int 1, .int 0, .int 1, .ref a8, .ref a9, .ref a10, .ref a11, .ref a12, .ref a13, .int 2, .int 2, .ref a5, .ref a4, .ref a6, .ref a7, .int 0, .int 1, .ref a24, .ref a25, .ref a26, .ref a16, .int 0, .ref a27, .int 0])), (a1, .inl (cI, 4, .inl (tb [0, 0, 0, 0]))), (a16, .inl (cI, 4, .inl (tb [20]))), (a3, .inl (cI, 4, .inl (tb [10, 10, 10, 10])))]) rfl (fun H locs hP hD hS => ?_)
  refine lv_ldc (v := (-99999)) hx hb hown (hts _ k_1014) dX9_best_25 ?_
  refine t_icmp_eq hx hb dX9_best_27 36 (by decide) (by decide +kernel) ?_
  refine lv_iload_n hx hb dX9_best_36 rfl (lv_at hl 0 rfl) ?_
  exact r_i hx hb hr hk hK (hP.sub [] rfl) (hD.sub [] rfl rfl) hS dX9_best_37
set_option maxRecDepth 100000 in
set_option maxHeartbeats 4000000 in
theorem c518_X9_isPlan (l : Launch) (dC : Nat → ClassId) (dI : Nat → Nat → Nat) (cI cJ cII cJJ : ClassId) (sz g a0 a1 a2 a3 a4 a5 a6 a7 a8 a9 a10 a11 a12 a13 a14 a15 a16 a17 a18 a19 a20 a21 a22 a23 a24 a25 a26 a27 : Nat) : Met l yX9_isPlan (.code yX9_isPlan cX9_isPlan 5 (some .boolean) :: TT) ({ frames := 2, cells := 0, slots := 0, locals := 80 }) (PcS dC dI (TY cI cJ cII cJJ) [.ref a0, .ref a2, .int 0] [(a0, .inr (9, [.ref a4, .ref a5, .ref a1, .ref a3, .ref a6, .ref a7, .ref a8, .ref a9, .ref a10, .ref a11, .ref a12, .ref a13, .int 1, .int 0, .int 0, .ref a14, .ref a15, .ref a16, .ref a17, .ref a18, .ref a19, .int 0, .int 0, .ref a20, .ref a21, .ref a22, .ref a23, .int 0, .int 0, .ref a24, .ref a25, .ref a26, .ref a2, .int 1, .ref a27, .int 0])), (a1, .inl (cI, 4, .inl (tb [0, 0, 0, 0]))), (a2, .inl (cI, 4, .inl (tb [0]))), (a3, .inl (cI, 4, .inl (tb [10, 10, 10, 10])))] sz 0 g) ((QcI dC dI (TY cI cJ cII cJJ) 1 [(a0, .inr (9, [.ref a4, .ref a5, .ref a1, .ref a3, .ref a6, .ref a7, .ref a8, .ref a9, .ref a10, .ref a11, .ref a12, .ref a13, .int 1, .int 0, .int 0, .ref a14, .ref a15, .ref a16, .ref a17, .ref a18, .ref a19, .int 0, .int 0, .ref a20, .ref a21, .ref a22, .ref a23, .int 0, .int 0, .ref a24, .ref a25, .ref a26, .ref a2, .int 1, .ref a27, .int 0])), (a1, .inl (cI, 4, .inl (tb [0, 0, 0, 0]))), (a2, .inl (cI, 4, .inl (tb [0]))), (a3, .inl (cI, 4, .inl (tb [10, 10, 10, 10])))]) (va_A [(a0, .inr (9, [.ref a4, .ref a5, .ref a1, .ref a3, .ref a6, .ref a7, .ref a8, .ref a9, .ref a10, .ref a11, .ref a12, .ref a13, .int 1, .int 0, .int 0, .ref a14, .ref a15, .ref a16, .ref a17, .ref a18, .ref a19, .int 0, .int 0, .ref a20, .ref a21, .ref a22, .ref a23, .int 0, .int 0, .ref a24, .ref a25, .ref a26, .ref a2, .int 1, .ref a27, .int 0])), (a1, .inl (cI, 4, .inl (tb [0, 0, 0, 0]))), (a2, .inl (cI, 4, .inl (tb [0]))), (a3, .inl (cI, 4, .inl (tb [10, 10, 10, 10])))] sz)) 0 0 (va_A [(a0, .inr (9, [.ref a4, .ref a5, .ref a1, .ref a3, .ref a6, .ref a7, .ref a8, .ref a9, .ref a10, .ref a11, .ref a12, .ref a13, .int 1, .int 0, .int 0, .ref a14, .ref a15, .ref a16, .ref a17, .ref a18, .ref a19, .int 0, .int 0, .ref a20, .ref a21, .ref a22, .ref a23, .int 0, .int 0, .ref a24, .ref a25, .ref a26, .ref a2, .int 1, .ref a27, .int 0])), (a1, .inl (cI, 4, .inl (tb [0, 0, 0, 0]))), (a2, .inl (cI, 4, .inl (tb [0]))), (a3, .inl (cI, 4, .inl (tb [10, 10, 10, 10])))] sz) := by
  refine SM.of (y := yX9_isPlan) (maxL := 5) (av := [.ref a0, .ref a2, .int 0]) (QcI dC dI (TY cI cJ cII cJJ) 1 [(a0, .inr (9, [.ref a4, .ref a5, .ref a1, .ref a3, .ref a6, .ref a7, .ref a8, .ref a9, .ref a10, .ref a11, .ref a12, .ref a13, .int 1, .int 0, .int 0, .ref a14, .ref a15, .ref a16, .ref a17, .ref a18, .ref a19, .int 0, .int 0, .ref a20, .ref a21, .ref a22, .ref a23, .int 0, .int 0, .ref a24, .ref a25, .ref a26, .ref a2, .int 1, .ref a27, .int 0])), (a1, .inl (cI, 4, .inl (tb [0, 0, 0, 0]))), (a2, .inl (cI, 4, .inl (tb [0]))), (a3, .inl (cI, 4, .inl (tb [10, 10, 10, 10])))]) (by decide +kernel) (Nat.le_of_ble_eq_true rfl) (fun p e s m below meth c A ls hx hb hr hml hown hts hk hnm hA hK hP hD hS hX hl => ?_)
  have hown : s.vm.findClass RX9 = some m.cls := hown
  have hl : lv_has ls 5 [(0, .ref a0), (1, .ref a2), (2, .int 0)] := hl
  refine lv_iconst (v := 1) hx hb dX9_isPlan_0 (by decide) ?_
  refine lv_istore_n (lv' := [(3, .int 1), (0, .ref a0), (1, .ref a2), (2, .int 0)]) hx hb dX9_isPlan_1 rfl hl (by decide) rfl (fun ls hl => ?_)
  refine lv_iconst (v := 0) hx hb dX9_isPlan_2 (by decide) ?_
  refine lv_istore (lv' := [(4, .int 0), (3, .int 1), (0, .ref a0), (1, .ref a2), (2, .int 0)]) hx hb dX9_isPlan_3 hl (by decide) rfl (fun ls hl => ?_)
  refine lv_iload hx hb dX9_isPlan_5 (lv_at hl 0 rfl) ?_
  refine lv_aload_n hx hb dX9_isPlan_7 rfl (lv_at hl 2 rfl) ?_
  refine gf (k := 12) hx hb hts inX9 hown hK hP k_807 rfl (by decide) rfl 0 rfl (.int 1) rfl dX9_isPlan_8 ?_
  refine f_icmp_ge hx hb dX9_isPlan_11 62 (by decide) (by decide +kernel) ?_
  refine lv_iload_n hx hb dX9_isPlan_14 rfl (lv_at hl 1 rfl) ?_
  refine f_if_eq hx hb dX9_isPlan_15 62 (by decide) (by decide +kernel) ?_
  refine lv_aload_n hx hb dX9_isPlan_18 rfl (lv_at hl 2 rfl) ?_
  refine gf (k := 2) hx hb hts inX9 hown hK hP k_797 rfl (by decide) rfl 0 rfl (.ref a1) rfl dX9_isPlan_19 ?_
  refine lv_iload hx hb dX9_isPlan_22 (lv_at hl 0 rfl) ?_
  refine ld_i hx hb hK hP 1 rfl (vin (by decide +kernel)) dX9_isPlan_24 0 rfl ?_
  refine lv_aload_n hx hb dX9_isPlan_25 rfl (lv_at hl 3 rfl) ?_
  refine lv_iload_n hx hb dX9_isPlan_26 rfl (lv_at hl 4 rfl) ?_
  refine lv_iload hx hb dX9_isPlan_27 (lv_at hl 0 rfl) ?_
  refine v_iadd hx hb dX9_isPlan_29 0 (by decide +kernel) ?_
  refine ld_i hx hb hK hP 2 rfl (vin (by decide +kernel)) dX9_isPlan_30 0 rfl ?_
  refine f_icmp_gt hx hb dX9_isPlan_31 54 (by decide) (by decide +kernel) ?_
  refine lv_aload_n hx hb dX9_isPlan_34 rfl (lv_at hl 3 rfl) ?_
  refine lv_iload_n hx hb dX9_isPlan_35 rfl (lv_at hl 4 rfl) ?_
  refine lv_iload hx hb dX9_isPlan_36 (lv_at hl 0 rfl) ?_
  refine v_iadd hx hb dX9_isPlan_38 0 (by decide +kernel) ?_
  refine ld_i hx hb hK hP 2 rfl (vin (by decide +kernel)) dX9_isPlan_39 0 rfl ?_
  refine lv_aload_n hx hb dX9_isPlan_40 rfl (lv_at hl 2 rfl) ?_
  refine gf (k := 3) hx hb hts inX9 hown hK hP k_798 rfl (by decide) rfl 0 rfl (.ref a3) rfl dX9_isPlan_41 ?_
  refine lv_iload hx hb dX9_isPlan_44 (lv_at hl 0 rfl) ?_
  refine ld_i hx hb hK hP 3 rfl (vin (by decide +kernel)) dX9_isPlan_46 10 rfl ?_
  refine f_icmp_gt hx hb dX9_isPlan_47 54 (by decide) (by decide +kernel) ?_
  refine lv_iconst (v := 1) hx hb dX9_isPlan_50 (by decide) ?_
  refine lv_goto (tgt := 55) hx hb dX9_isPlan_51 (by decide) ?_
  refine lv_istore_n (lv' := [(3, .int 1), (4, .int 0), (0, .ref a0), (1, .ref a2), (2, .int 0)]) hx hb dX9_isPlan_55 rfl hl (by decide) rfl (fun ls hl => ?_)
  refine lv_iinc (v := 1) (lv' := [(4, .int 1), (3, .int 1), (0, .ref a0), (1, .ref a2), (2, .int 0)]) hx hb dX9_isPlan_56 hl (k := 1) rfl (by decide +kernel) (by decide) rfl (fun ls hl => ?_)
  refine lv_goto (tgt := 5) hx hb dX9_isPlan_59 (by decide) ?_
  refine lv_iload hx hb dX9_isPlan_5 (lv_at hl 0 rfl) ?_
  refine lv_aload_n hx hb dX9_isPlan_7 rfl (lv_at hl 2 rfl) ?_
  refine gf (k := 12) hx hb hts inX9 hown hK hP k_807 rfl (by decide) rfl 0 rfl (.int 1) rfl dX9_isPlan_8 ?_
  refine t_icmp_ge hx hb dX9_isPlan_11 62 (by decide) (by decide +kernel) ?_
  refine lv_iconst (v := 0) hx hb dX9_isPlan_62 (by decide) ?_
  refine lv_istore (lv' := [(4, .int 0), (3, .int 1), (0, .ref a0), (1, .ref a2), (2, .int 0)]) hx hb dX9_isPlan_63 hl (by decide) rfl (fun ls hl => ?_)
  refine lv_iload hx hb dX9_isPlan_65 (lv_at hl 0 rfl) ?_
  refine lv_aload_n hx hb dX9_isPlan_67 rfl (lv_at hl 2 rfl) ?_
  refine gf (k := 13) hx hb hts inX9 hown hK hP k_808 rfl (by decide) rfl 0 rfl (.int 0) rfl dX9_isPlan_68 ?_
  refine t_icmp_ge hx hb dX9_isPlan_71 108 (by decide) (by decide +kernel) ?_
  refine lv_iload_n hx hb dX9_isPlan_108 rfl (lv_at hl 1 rfl) ?_
  exact r_z hx hb hr hk hK hP hD hS dX9_isPlan_109 rfl
set_option maxRecDepth 100000 in
set_option maxHeartbeats 4000000 in
theorem c517_X9_gathers (l : Launch) (dC : Nat → ClassId) (dI : Nat → Nat → Nat) (cI cJ cII cJJ : ClassId) (sz g a0 a1 a2 a3 a4 a5 a6 a7 a8 a9 a10 a11 a12 a13 a14 a15 a16 a17 a18 a19 a20 a21 a22 a23 a24 a25 a26 a27 : Nat) : Met l yX9_gathers (.code yX9_gathers cX9_gathers 3 none :: TT) ({ frames := 3, cells := 0, slots := 0, locals := 140 }) (PcS dC dI (TY cI cJ cII cJJ) [.ref a0, .int 1] [(a0, .inr (9, [.ref a5, .ref a6, .ref a1, .ref a3, .ref a7, .ref a8, .ref a9, .ref a10, .ref a11, .ref a12, .ref a13, .ref a14, .int 1, .int 0, .int 0, .ref a15, .ref a16, .ref a17, .ref a18, .ref a19, .ref a20, .int 0, .int 0, .ref a21, .ref a22, .ref a23, .ref a24, .int 0, .int 0, .ref a25, .ref a26, .ref a27, .ref a2, .int 1, .ref a4, .int 0])), (a1, .inl (cI, 4, .inl (tb [0, 0, 0, 0]))), (a2, .inl (cI, 4, .inl (tb [0]))), (a3, .inl (cI, 4, .inl (tb [10, 10, 10, 10]))), (a4, .inl (cI, 777924, .inl (tb [])))] sz 0 g) ((QcV dC dI (TY cI cJ cII cJJ) (fun _ => [(a4, .inl (cI, 777924, .inl (tb [0]))), (a0, .inr (9, [.ref a5, .ref a6, .ref a1, .ref a3, .ref a7, .ref a8, .ref a9, .ref a10, .ref a11, .ref a12, .ref a13, .ref a14, .int 1, .int 0, .int 0, .ref a15, .ref a16, .ref a17, .ref a18, .ref a19, .ref a20, .int 0, .int 0, .ref a21, .ref a22, .ref a23, .ref a24, .int 0, .int 0, .ref a25, .ref a26, .ref a27, .ref a2, .int 1, .ref a4, .int 1])), (a1, .inl (cI, 4, .inl (tb [0, 0, 0, 0]))), (a2, .inl (cI, 4, .inl (tb [0]))), (a3, .inl (cI, 4, .inl (tb [10, 10, 10, 10])))])) (va_A [(a0, .inr (9, [.ref a5, .ref a6, .ref a1, .ref a3, .ref a7, .ref a8, .ref a9, .ref a10, .ref a11, .ref a12, .ref a13, .ref a14, .int 1, .int 0, .int 0, .ref a15, .ref a16, .ref a17, .ref a18, .ref a19, .ref a20, .int 0, .int 0, .ref a21, .ref a22, .ref a23, .ref a24, .int 0, .int 0, .ref a25, .ref a26, .ref a27, .ref a2, .int 1, .ref a4, .int 0])), (a1, .inl (cI, 4, .inl (tb [0, 0, 0, 0]))), (a2, .inl (cI, 4, .inl (tb [0]))), (a3, .inl (cI, 4, .inl (tb [10, 10, 10, 10]))), (a4, .inl (cI, 777924, .inl (tb [])))] sz)) 0 0 (va_A [(a0, .inr (9, [.ref a5, .ref a6, .ref a1, .ref a3, .ref a7, .ref a8, .ref a9, .ref a10, .ref a11, .ref a12, .ref a13, .ref a14, .int 1, .int 0, .int 0, .ref a15, .ref a16, .ref a17, .ref a18, .ref a19, .ref a20, .int 0, .int 0, .ref a21, .ref a22, .ref a23, .ref a24, .int 0, .int 0, .ref a25, .ref a26, .ref a27, .ref a2, .int 1, .ref a4, .int 0])), (a1, .inl (cI, 4, .inl (tb [0, 0, 0, 0]))), (a2, .inl (cI, 4, .inl (tb [0]))), (a3, .inl (cI, 4, .inl (tb [10, 10, 10, 10]))), (a4, .inl (cI, 777924, .inl (tb [])))] sz) := by
  refine SM.of (y := yX9_gathers) (maxL := 3) (av := [.ref a0, .int 1]) (QcV dC dI (TY cI cJ cII cJJ) (fun _ => [(a4, .inl (cI, 777924, .inl (tb [0]))), (a0, .inr (9, [.ref a5, .ref a6, .ref a1, .ref a3, .ref a7, .ref a8, .ref a9, .ref a10, .ref a11, .ref a12, .ref a13, .ref a14, .int 1, .int 0, .int 0, .ref a15, .ref a16, .ref a17, .ref a18, .ref a19, .ref a20, .int 0, .int 0, .ref a21, .ref a22, .ref a23, .ref a24, .int 0, .int 0, .ref a25, .ref a26, .ref a27, .ref a2, .int 1, .ref a4, .int 1])), (a1, .inl (cI, 4, .inl (tb [0, 0, 0, 0]))), (a2, .inl (cI, 4, .inl (tb [0]))), (a3, .inl (cI, 4, .inl (tb [10, 10, 10, 10])))])) (by decide +kernel) (Nat.le_of_ble_eq_true rfl) (fun p e s m below meth c A ls hx hb hr hml hown hts hk hnm hA hK hP hD hS hX hl => ?_)
  have hown : s.vm.findClass RX9 = some m.cls := hown
  have hl : lv_has ls 3 [(0, .ref a0), (1, .int 1)] := hl
  refine lv_iload_n hx hb dX9_gathers_0 rfl (lv_at hl 1 rfl) ?_
  refine lv_aload_n hx hb dX9_gathers_1 rfl (lv_at hl 0 rfl) ?_
  refine gf (k := 12) hx hb hts inX9 hown hK hP k_807 rfl (by decide) rfl 0 rfl (.int 1) rfl dX9_gathers_2 ?_
  refine t_icmp_ge hx hb dX9_gathers_5 46 (by decide) (by decide +kernel) ?_
  refine lv_aload_n hx hb dX9_gathers_46 rfl (lv_at hl 0 rfl) ?_
  refine lv_aload_n hx hb dX9_gathers_47 rfl (lv_at hl 0 rfl) ?_
  refine gf (k := 32) hx hb hts inX9 hown hK hP k_827 rfl (by decide) rfl 0 rfl (.ref a2) rfl dX9_gathers_48 ?_
  refine lv_iconst (v := 0) hx hb dX9_gathers_51 (by decide) ?_
  refine kV_i (q0 := 0) ⟨hx, hb, hml, hown, hts⟩ hK hP hD hS hA hX cv_RX9_199 [0, 1, 2, 3] [4] (wr := [(a4, .inl (cI, 777924, .inl (tb [])))]) rfl rfl rfl rfl (by decide) (c518_X9_isPlan l dC dI cI cJ cII cJJ s.heap.size 0 a0 a1 a2 a3 a5 a6 a7 a8 a9 a10 a11 a12 a13 a14 a15 a16 a17 a18 a19 a20 a21 a22 a23 a24 a25 a26 a27 a4) ⟨by decide +kernel, by decide +kernel⟩ rfl rfl (Or.inl rfl) (rest := []) rfl rfl rfl hl.1 rfl (Nat.le_of_ble_eq_true rfl) dX9_gathers_52 ⟨Nat.le_of_ble_eq_true rfl, Nat.le_of_ble_eq_true rfl⟩ (W' := [(a4, .inl (cI, 777924, .inl (tb []))), (a0, .inr (9, [.ref a5, .ref a6, .ref a1, .ref a3, .ref a7, .ref a8, .ref a9, .ref a10, .ref a11, .ref a12, .ref a13, .ref a14, .int 1, .int 0, .int 0, .ref a15, .ref a16, .ref a17, .ref a18, .ref a19, .ref a20, .int 0, .int 0, .ref a21, .ref a22, .ref a23, .ref a24, .int 0, .int 0, .ref a25, .ref a26, .ref a27, .ref a2, .int 1, .ref a4, .int 0])), (a1, .inl (cI, 4, .inl (tb [0, 0, 0, 0]))), (a2, .inl (cI, 4, .inl (tb [0]))), (a3, .inl (cI, 4, .inl (tb [10, 10, 10, 10])))]) rfl (fun H locs hP hD hS => ?_)
  refine t_if_ne hx hb dX9_gathers_55 59 (by decide) (by decide +kernel) ?_
  refine lv_iconst (v := 0) hx hb dX9_gathers_59 (by decide) ?_
  refine lv_istore_n (lv' := [(2, .int 0), (0, .ref a0), (1, .int 1)]) hx hb dX9_gathers_60 rfl hl (by decide) rfl (fun ls hl => ?_)
  refine lv_iload_n hx hb dX9_gathers_61 rfl (lv_at hl 0 rfl) ?_
  refine lv_aload_n hx hb dX9_gathers_62 rfl (lv_at hl 1 rfl) ?_
  refine gf (k := 12) hx hb hts inX9 hown hK hP k_807 rfl (by decide) rfl 1 rfl (.int 1) rfl dX9_gathers_63 ?_
  refine f_icmp_ge hx hb dX9_gathers_66 94 (by decide) (by decide +kernel) ?_
  refine lv_aload_n hx hb dX9_gathers_69 rfl (lv_at hl 1 rfl) ?_
  refine gf (k := 34) hx hb hts inX9 hown hK hP k_829 rfl (by decide) rfl 1 rfl (.ref a4) rfl dX9_gathers_70 ?_
  refine lv_iconst (v := 4) hx hb dX9_gathers_73 (by decide) ?_
  refine lv_aload_n hx hb dX9_gathers_74 rfl (lv_at hl 1 rfl) ?_
  refine gf (k := 35) hx hb hts inX9 hown hK hP k_830 rfl (by decide) rfl 1 rfl (.int 0) rfl dX9_gathers_75 ?_
  refine v_imul hx hb dX9_gathers_78 0 (by decide +kernel) ?_
  refine lv_iload_n hx hb dX9_gathers_79 rfl (lv_at hl 0 rfl) ?_
  refine v_iadd hx hb dX9_gathers_80 0 (by decide +kernel) ?_
  refine lv_aload_n hx hb dX9_gathers_81 rfl (lv_at hl 1 rfl) ?_
  refine gf (k := 32) hx hb hts inX9 hown hK hP k_827 rfl (by decide) rfl 1 rfl (.ref a2) rfl dX9_gathers_82 ?_
  refine lv_iload_n hx hb dX9_gathers_85 rfl (lv_at hl 0 rfl) ?_
  refine ld_i hx hb hK hP 3 rfl (vin (by decide +kernel)) dX9_gathers_86 0 rfl ?_
  refine st_i hx hb hK hP hD hS 0 rfl (vin (by decide +kernel)) dX9_gathers_87 (L' := [0]) rfl (W' := [(a4, .inl (cI, 777924, .inl (tb [0]))), (a0, .inr (9, [.ref a5, .ref a6, .ref a1, .ref a3, .ref a7, .ref a8, .ref a9, .ref a10, .ref a11, .ref a12, .ref a13, .ref a14, .int 1, .int 0, .int 0, .ref a15, .ref a16, .ref a17, .ref a18, .ref a19, .ref a20, .int 0, .int 0, .ref a21, .ref a22, .ref a23, .ref a24, .int 0, .int 0, .ref a25, .ref a26, .ref a27, .ref a2, .int 1, .ref a4, .int 0])), (a1, .inl (cI, 4, .inl (tb [0, 0, 0, 0]))), (a2, .inl (cI, 4, .inl (tb [0]))), (a3, .inl (cI, 4, .inl (tb [10, 10, 10, 10])))]) rfl (fun H locs hP hD hS => ?_)
  refine lv_iinc (v := 1) (lv' := [(2, .int 1), (0, .ref a0), (1, .int 1)]) hx hb dX9_gathers_88 hl (k := 0) rfl (by decide +kernel) (by decide) rfl (fun ls hl => ?_)
  refine lv_goto (tgt := 61) hx hb dX9_gathers_91 (by decide) ?_
  refine lv_iload_n hx hb dX9_gathers_61 rfl (lv_at hl 0 rfl) ?_
  refine lv_aload_n hx hb dX9_gathers_62 rfl (lv_at hl 1 rfl) ?_
  refine gf (k := 12) hx hb hts inX9 hown hK hP k_807 rfl (by decide) rfl 1 rfl (.int 1) rfl dX9_gathers_63 ?_
  refine t_icmp_ge hx hb dX9_gathers_66 94 (by decide) (by decide +kernel) ?_
  refine lv_aload_n hx hb dX9_gathers_94 rfl (lv_at hl 1 rfl) ?_
  refine lv_dup hx hb dX9_gathers_95 rfl ?_
  refine gf (k := 35) hx hb hts inX9 hown hK hP k_830 rfl (by decide) rfl 1 rfl (.int 0) rfl dX9_gathers_96 ?_
  refine lv_iconst (v := 1) hx hb dX9_gathers_99 (by decide) ?_
  refine v_iadd hx hb dX9_gathers_100 1 (by decide +kernel) ?_
  refine pf (k := 35) hx hb hts inX9 tyX9_ok nmX9 hown hK hP hD hS k_830 rfl (by decide) rfl rfl 1 rfl rfl rfl (Nat.le_of_ble_eq_true rfl) dX9_gathers_101 (W' := [(a4, .inl (cI, 777924, .inl (tb [0]))), (a0, .inr (9, [.ref a5, .ref a6, .ref a1, .ref a3, .ref a7, .ref a8, .ref a9, .ref a10, .ref a11, .ref a12, .ref a13, .ref a14, .int 1, .int 0, .int 0, .ref a15, .ref a16, .ref a17, .ref a18, .ref a19, .ref a20, .int 0, .int 0, .ref a21, .ref a22, .ref a23, .ref a24, .int 0, .int 0, .ref a25, .ref a26, .ref a27, .ref a2, .int 1, .ref a4, .int 1])), (a1, .inl (cI, 4, .inl (tb [0, 0, 0, 0]))), (a2, .inl (cI, 4, .inl (tb [0]))), (a3, .inl (cI, 4, .inl (tb [10, 10, 10, 10])))]) rfl (fun H locs hP hD hS => ?_)
  exact r_v (fun _ => 0) hx hb hr hk hK hP hD hS dX9_gathers_104
set_option maxRecDepth 100000 in
set_option maxHeartbeats 4000000 in
theorem c520_X9_isPlan (l : Launch) (dC : Nat → ClassId) (dI : Nat → Nat → Nat) (cI cJ cII cJJ : ClassId) (sz g a0 a1 a2 a3 a4 a5 a6 a7 a8 a9 a10 a11 a12 a13 a14 a15 a16 a17 a18 a19 a20 a21 a22 a23 a24 a25 a26 a27 : Nat) : Met l yX9_isPlan (.code yX9_isPlan cX9_isPlan 5 (some .boolean) :: TT) ({ frames := 2, cells := 0, slots := 0, locals := 80 }) (PcS dC dI (TY cI cJ cII cJJ) [.ref a0, .ref a2, .int 0] [(a0, .inr (9, [.ref a4, .ref a5, .ref a1, .ref a3, .ref a6, .ref a7, .ref a8, .ref a9, .ref a10, .ref a11, .ref a12, .ref a13, .int 1, .int 0, .int 0, .ref a14, .ref a15, .ref a16, .ref a17, .ref a18, .ref a19, .int 0, .int 0, .ref a20, .ref a21, .ref a22, .ref a23, .int 0, .int 0, .ref a24, .ref a25, .ref a26, .ref a2, .int 1, .ref a27, .int 1])), (a1, .inl (cI, 4, .inl (tb [0, 0, 0, 0]))), (a2, .inl (cI, 4, .inl (tb [1]))), (a3, .inl (cI, 4, .inl (tb [10, 10, 10, 10])))] sz 0 g) ((QcI dC dI (TY cI cJ cII cJJ) 1 [(a0, .inr (9, [.ref a4, .ref a5, .ref a1, .ref a3, .ref a6, .ref a7, .ref a8, .ref a9, .ref a10, .ref a11, .ref a12, .ref a13, .int 1, .int 0, .int 0, .ref a14, .ref a15, .ref a16, .ref a17, .ref a18, .ref a19, .int 0, .int 0, .ref a20, .ref a21, .ref a22, .ref a23, .int 0, .int 0, .ref a24, .ref a25, .ref a26, .ref a2, .int 1, .ref a27, .int 1])), (a1, .inl (cI, 4, .inl (tb [0, 0, 0, 0]))), (a2, .inl (cI, 4, .inl (tb [1]))), (a3, .inl (cI, 4, .inl (tb [10, 10, 10, 10])))]) (va_A [(a0, .inr (9, [.ref a4, .ref a5, .ref a1, .ref a3, .ref a6, .ref a7, .ref a8, .ref a9, .ref a10, .ref a11, .ref a12, .ref a13, .int 1, .int 0, .int 0, .ref a14, .ref a15, .ref a16, .ref a17, .ref a18, .ref a19, .int 0, .int 0, .ref a20, .ref a21, .ref a22, .ref a23, .int 0, .int 0, .ref a24, .ref a25, .ref a26, .ref a2, .int 1, .ref a27, .int 1])), (a1, .inl (cI, 4, .inl (tb [0, 0, 0, 0]))), (a2, .inl (cI, 4, .inl (tb [1]))), (a3, .inl (cI, 4, .inl (tb [10, 10, 10, 10])))] sz)) 0 0 (va_A [(a0, .inr (9, [.ref a4, .ref a5, .ref a1, .ref a3, .ref a6, .ref a7, .ref a8, .ref a9, .ref a10, .ref a11, .ref a12, .ref a13, .int 1, .int 0, .int 0, .ref a14, .ref a15, .ref a16, .ref a17, .ref a18, .ref a19, .int 0, .int 0, .ref a20, .ref a21, .ref a22, .ref a23, .int 0, .int 0, .ref a24, .ref a25, .ref a26, .ref a2, .int 1, .ref a27, .int 1])), (a1, .inl (cI, 4, .inl (tb [0, 0, 0, 0]))), (a2, .inl (cI, 4, .inl (tb [1]))), (a3, .inl (cI, 4, .inl (tb [10, 10, 10, 10])))] sz) := by
  refine SM.of (y := yX9_isPlan) (maxL := 5) (av := [.ref a0, .ref a2, .int 0]) (QcI dC dI (TY cI cJ cII cJJ) 1 [(a0, .inr (9, [.ref a4, .ref a5, .ref a1, .ref a3, .ref a6, .ref a7, .ref a8, .ref a9, .ref a10, .ref a11, .ref a12, .ref a13, .int 1, .int 0, .int 0, .ref a14, .ref a15, .ref a16, .ref a17, .ref a18, .ref a19, .int 0, .int 0, .ref a20, .ref a21, .ref a22, .ref a23, .int 0, .int 0, .ref a24, .ref a25, .ref a26, .ref a2, .int 1, .ref a27, .int 1])), (a1, .inl (cI, 4, .inl (tb [0, 0, 0, 0]))), (a2, .inl (cI, 4, .inl (tb [1]))), (a3, .inl (cI, 4, .inl (tb [10, 10, 10, 10])))]) (by decide +kernel) (Nat.le_of_ble_eq_true rfl) (fun p e s m below meth c A ls hx hb hr hml hown hts hk hnm hA hK hP hD hS hX hl => ?_)
  have hown : s.vm.findClass RX9 = some m.cls := hown
  have hl : lv_has ls 5 [(0, .ref a0), (1, .ref a2), (2, .int 0)] := hl
  refine lv_iconst (v := 1) hx hb dX9_isPlan_0 (by decide) ?_
  refine lv_istore_n (lv' := [(3, .int 1), (0, .ref a0), (1, .ref a2), (2, .int 0)]) hx hb dX9_isPlan_1 rfl hl (by decide) rfl (fun ls hl => ?_)
  refine lv_iconst (v := 0) hx hb dX9_isPlan_2 (by decide) ?_
  refine lv_istore (lv' := [(4, .int 0), (3, .int 1), (0, .ref a0), (1, .ref a2), (2, .int 0)]) hx hb dX9_isPlan_3 hl (by decide) rfl (fun ls hl => ?_)
  refine lv_iload hx hb dX9_isPlan_5 (lv_at hl 0 rfl) ?_
  refine lv_aload_n hx hb dX9_isPlan_7 rfl (lv_at hl 2 rfl) ?_
  refine gf (k := 12) hx hb hts inX9 hown hK hP k_807 rfl (by decide) rfl 0 rfl (.int 1) rfl dX9_isPlan_8 ?_
  refine f_icmp_ge hx hb dX9_isPlan_11 62 (by decide) (by decide +kernel) ?_
  refine lv_iload_n hx hb dX9_isPlan_14 rfl (lv_at hl 1 rfl) ?_
  refine f_if_eq hx hb dX9_isPlan_15 62 (by decide) (by decide +kernel) ?_
  refine lv_aload_n hx hb dX9_isPlan_18 rfl (lv_at hl 2 rfl) ?_
  refine gf (k := 2) hx hb hts inX9 hown hK hP k_797 rfl (by decide) rfl 0 rfl (.ref a1) rfl dX9_isPlan_19 ?_
  refine lv_iload hx hb dX9_isPlan_22 (lv_at hl 0 rfl) ?_
  refine ld_i hx hb hK hP 1 rfl (vin (by decide +kernel)) dX9_isPlan_24 0 rfl ?_
  refine lv_aload_n hx hb dX9_isPlan_25 rfl (lv_at hl 3 rfl) ?_
  refine lv_iload_n hx hb dX9_isPlan_26 rfl (lv_at hl 4 rfl) ?_
  refine lv_iload hx hb dX9_isPlan_27 (lv_at hl 0 rfl) ?_
  refine v_iadd hx hb dX9_isPlan_29 0 (by decide +kernel) ?_
  refine ld_i hx hb hK hP 2 rfl (vin (by decide +kernel)) dX9_isPlan_30 1 rfl ?_
  refine f_icmp_gt hx hb dX9_isPlan_31 54 (by decide) (by decide +kernel) ?_
  refine lv_aload_n hx hb dX9_isPlan_34 rfl (lv_at hl 3 rfl) ?_
  refine lv_iload_n hx hb dX9_isPlan_35 rfl (lv_at hl 4 rfl) ?_
  refine lv_iload hx hb dX9_isPlan_36 (lv_at hl 0 rfl) ?_
  refine v_iadd hx hb dX9_isPlan_38 0 (by decide +kernel) ?_
  refine ld_i hx hb hK hP 2 rfl (vin (by decide +kernel)) dX9_isPlan_39 1 rfl ?_
  refine lv_aload_n hx hb dX9_isPlan_40 rfl (lv_at hl 2 rfl) ?_
  refine gf (k := 3) hx hb hts inX9 hown hK hP k_798 rfl (by decide) rfl 0 rfl (.ref a3) rfl dX9_isPlan_41 ?_
  refine lv_iload hx hb dX9_isPlan_44 (lv_at hl 0 rfl) ?_
  refine ld_i hx hb hK hP 3 rfl (vin (by decide +kernel)) dX9_isPlan_46 10 rfl ?_
  refine f_icmp_gt hx hb dX9_isPlan_47 54 (by decide) (by decide +kernel) ?_
  refine lv_iconst (v := 1) hx hb dX9_isPlan_50 (by decide) ?_
  refine lv_goto (tgt := 55) hx hb dX9_isPlan_51 (by decide) ?_
  refine lv_istore_n (lv' := [(3, .int 1), (4, .int 0), (0, .ref a0), (1, .ref a2), (2, .int 0)]) hx hb dX9_isPlan_55 rfl hl (by decide) rfl (fun ls hl => ?_)
  refine lv_iinc (v := 1) (lv' := [(4, .int 1), (3, .int 1), (0, .ref a0), (1, .ref a2), (2, .int 0)]) hx hb dX9_isPlan_56 hl (k := 1) rfl (by decide +kernel) (by decide) rfl (fun ls hl => ?_)
  refine lv_goto (tgt := 5) hx hb dX9_isPlan_59 (by decide) ?_
  refine lv_iload hx hb dX9_isPlan_5 (lv_at hl 0 rfl) ?_
  refine lv_aload_n hx hb dX9_isPlan_7 rfl (lv_at hl 2 rfl) ?_
  refine gf (k := 12) hx hb hts inX9 hown hK hP k_807 rfl (by decide) rfl 0 rfl (.int 1) rfl dX9_isPlan_8 ?_
  refine t_icmp_ge hx hb dX9_isPlan_11 62 (by decide) (by decide +kernel) ?_
  refine lv_iconst (v := 0) hx hb dX9_isPlan_62 (by decide) ?_
  refine lv_istore (lv' := [(4, .int 0), (3, .int 1), (0, .ref a0), (1, .ref a2), (2, .int 0)]) hx hb dX9_isPlan_63 hl (by decide) rfl (fun ls hl => ?_)
  refine lv_iload hx hb dX9_isPlan_65 (lv_at hl 0 rfl) ?_
  refine lv_aload_n hx hb dX9_isPlan_67 rfl (lv_at hl 2 rfl) ?_
  refine gf (k := 13) hx hb hts inX9 hown hK hP k_808 rfl (by decide) rfl 0 rfl (.int 0) rfl dX9_isPlan_68 ?_
  refine t_icmp_ge hx hb dX9_isPlan_71 108 (by decide) (by decide +kernel) ?_
  refine lv_iload_n hx hb dX9_isPlan_108 rfl (lv_at hl 1 rfl) ?_
  exact r_z hx hb hr hk hK hP hD hS dX9_isPlan_109 rfl
set_option maxRecDepth 100000 in
set_option maxHeartbeats 4000000 in
theorem c519_X9_gathers (l : Launch) (dC : Nat → ClassId) (dI : Nat → Nat → Nat) (cI cJ cII cJJ : ClassId) (sz g a0 a1 a2 a3 a4 a5 a6 a7 a8 a9 a10 a11 a12 a13 a14 a15 a16 a17 a18 a19 a20 a21 a22 a23 a24 a25 a26 a27 : Nat) : Met l yX9_gathers (.code yX9_gathers cX9_gathers 3 none :: TT) ({ frames := 3, cells := 0, slots := 0, locals := 140 }) (PcS dC dI (TY cI cJ cII cJJ) [.ref a0, .int 1] [(a0, .inr (9, [.ref a5, .ref a6, .ref a1, .ref a3, .ref a7, .ref a8, .ref a9, .ref a10, .ref a11, .ref a12, .ref a13, .ref a14, .int 1, .int 0, .int 0, .ref a15, .ref a16, .ref a17, .ref a18, .ref a19, .ref a20, .int 0, .int 0, .ref a21, .ref a22, .ref a23, .ref a24, .int 0, .int 0, .ref a25, .ref a26, .ref a27, .ref a2, .int 1, .ref a4, .int 1])), (a1, .inl (cI, 4, .inl (tb [0, 0, 0, 0]))), (a2, .inl (cI, 4, .inl (tb [1]))), (a3, .inl (cI, 4, .inl (tb [10, 10, 10, 10]))), (a4, .inl (cI, 777924, .inl (tb [0])))] sz 0 g) ((QcV dC dI (TY cI cJ cII cJJ) (fun _ => [(a4, .inl (cI, 777924, .inl (tb [0, 0, 0, 0, 1]))), (a0, .inr (9, [.ref a5, .ref a6, .ref a1, .ref a3, .ref a7, .ref a8, .ref a9, .ref a10, .ref a11, .ref a12, .ref a13, .ref a14, .int 1, .int 0, .int 0, .ref a15, .ref a16, .ref a17, .ref a18, .ref a19, .ref a20, .int 0, .int 0, .ref a21, .ref a22, .ref a23, .ref a24, .int 0, .int 0, .ref a25, .ref a26, .ref a27, .ref a2, .int 1, .ref a4, .int 2])), (a1, .inl (cI, 4, .inl (tb [0, 0, 0, 0]))), (a2, .inl (cI, 4, .inl (tb [1]))), (a3, .inl (cI, 4, .inl (tb [10, 10, 10, 10])))])) (va_A [(a0, .inr (9, [.ref a5, .ref a6, .ref a1, .ref a3, .ref a7, .ref a8, .ref a9, .ref a10, .ref a11, .ref a12, .ref a13, .ref a14, .int 1, .int 0, .int 0, .ref a15, .ref a16, .ref a17, .ref a18, .ref a19, .ref a20, .int 0, .int 0, .ref a21, .ref a22, .ref a23, .ref a24, .int 0, .int 0, .ref a25, .ref a26, .ref a27, .ref a2, .int 1, .ref a4, .int 1])), (a1, .inl (cI, 4, .inl (tb [0, 0, 0, 0]))), (a2, .inl (cI, 4, .inl (tb [1]))), (a3, .inl (cI, 4, .inl (tb [10, 10, 10, 10]))), (a4, .inl (cI, 777924, .inl (tb [0])))] sz)) 0 0 (va_A [(a0, .inr (9, [.ref a5, .ref a6, .ref a1, .ref a3, .ref a7, .ref a8, .ref a9, .ref a10, .ref a11, .ref a12, .ref a13, .ref a14, .int 1, .int 0, .int 0, .ref a15, .ref a16, .ref a17, .ref a18, .ref a19, .ref a20, .int 0, .int 0, .ref a21, .ref a22, .ref a23, .ref a24, .int 0, .int 0, .ref a25, .ref a26, .ref a27, .ref a2, .int 1, .ref a4, .int 1])), (a1, .inl (cI, 4, .inl (tb [0, 0, 0, 0]))), (a2, .inl (cI, 4, .inl (tb [1]))), (a3, .inl (cI, 4, .inl (tb [10, 10, 10, 10]))), (a4, .inl (cI, 777924, .inl (tb [0])))] sz) := by
  refine SM.of (y := yX9_gathers) (maxL := 3) (av := [.ref a0, .int 1]) (QcV dC dI (TY cI cJ cII cJJ) (fun _ => [(a4, .inl (cI, 777924, .inl (tb [0, 0, 0, 0, 1]))), (a0, .inr (9, [.ref a5, .ref a6, .ref a1, .ref a3, .ref a7, .ref a8, .ref a9, .ref a10, .ref a11, .ref a12, .ref a13, .ref a14, .int 1, .int 0, .int 0, .ref a15, .ref a16, .ref a17, .ref a18, .ref a19, .ref a20, .int 0, .int 0, .ref a21, .ref a22, .ref a23, .ref a24, .int 0, .int 0, .ref a25, .ref a26, .ref a27, .ref a2, .int 1, .ref a4, .int 2])), (a1, .inl (cI, 4, .inl (tb [0, 0, 0, 0]))), (a2, .inl (cI, 4, .inl (tb [1]))), (a3, .inl (cI, 4, .inl (tb [10, 10, 10, 10])))])) (by decide +kernel) (Nat.le_of_ble_eq_true rfl) (fun p e s m below meth c A ls hx hb hr hml hown hts hk hnm hA hK hP hD hS hX hl => ?_)
  have hown : s.vm.findClass RX9 = some m.cls := hown
  have hl : lv_has ls 3 [(0, .ref a0), (1, .int 1)] := hl
  refine lv_iload_n hx hb dX9_gathers_0 rfl (lv_at hl 1 rfl) ?_
  refine lv_aload_n hx hb dX9_gathers_1 rfl (lv_at hl 0 rfl) ?_
  refine gf (k := 12) hx hb hts inX9 hown hK hP k_807 rfl (by decide) rfl 0 rfl (.int 1) rfl dX9_gathers_2 ?_
  refine t_icmp_ge hx hb dX9_gathers_5 46 (by decide) (by decide +kernel) ?_
  refine lv_aload_n hx hb dX9_gathers_46 rfl (lv_at hl 0 rfl) ?_
  refine lv_aload_n hx hb dX9_gathers_47 rfl (lv_at hl 0 rfl) ?_
  refine gf (k := 32) hx hb hts inX9 hown hK hP k_827 rfl (by decide) rfl 0 rfl (.ref a2) rfl dX9_gathers_48 ?_
  refine lv_iconst (v := 0) hx hb dX9_gathers_51 (by decide) ?_
  refine kV_i (q0 := 0) ⟨hx, hb, hml, hown, hts⟩ hK hP hD hS hA hX cv_RX9_199 [0, 1, 2, 3] [4] (wr := [(a4, .inl (cI, 777924, .inl (tb [0])))]) rfl rfl rfl rfl (by decide) (c520_X9_isPlan l dC dI cI cJ cII cJJ s.heap.size 0 a0 a1 a2 a3 a5 a6 a7 a8 a9 a10 a11 a12 a13 a14 a15 a16 a17 a18 a19 a20 a21 a22 a23 a24 a25 a26 a27 a4) ⟨by decide +kernel, by decide +kernel⟩ rfl rfl (Or.inl rfl) (rest := []) rfl rfl rfl hl.1 rfl (Nat.le_of_ble_eq_true rfl) dX9_gathers_52 ⟨Nat.le_of_ble_eq_true rfl, Nat.le_of_ble_eq_true rfl⟩ (W' := [(a4, .inl (cI, 777924, .inl (tb [0]))), (a0, .inr (9, [.ref a5, .ref a6, .ref a1, .ref a3, .ref a7, .ref a8, .ref a9, .ref a10, .ref a11, .ref a12, .ref a13, .ref a14, .int 1, .int 0, .int 0, .ref a15, .ref a16, .ref a17, .ref a18, .ref a19, .ref a20, .int 0, .int 0, .ref a21, .ref a22, .ref a23, .ref a24, .int 0, .int 0, .ref a25, .ref a26, .ref a27, .ref a2, .int 1, .ref a4, .int 1])), (a1, .inl (cI, 4, .inl (tb [0, 0, 0, 0]))), (a2, .inl (cI, 4, .inl (tb [1]))), (a3, .inl (cI, 4, .inl (tb [10, 10, 10, 10])))]) rfl (fun H locs hP hD hS => ?_)
  refine t_if_ne hx hb dX9_gathers_55 59 (by decide) (by decide +kernel) ?_
  refine lv_iconst (v := 0) hx hb dX9_gathers_59 (by decide) ?_
  refine lv_istore_n (lv' := [(2, .int 0), (0, .ref a0), (1, .int 1)]) hx hb dX9_gathers_60 rfl hl (by decide) rfl (fun ls hl => ?_)
  refine lv_iload_n hx hb dX9_gathers_61 rfl (lv_at hl 0 rfl) ?_
  refine lv_aload_n hx hb dX9_gathers_62 rfl (lv_at hl 1 rfl) ?_
  refine gf (k := 12) hx hb hts inX9 hown hK hP k_807 rfl (by decide) rfl 1 rfl (.int 1) rfl dX9_gathers_63 ?_
  refine f_icmp_ge hx hb dX9_gathers_66 94 (by decide) (by decide +kernel) ?_
  refine lv_aload_n hx hb dX9_gathers_69 rfl (lv_at hl 1 rfl) ?_
  refine gf (k := 34) hx hb hts inX9 hown hK hP k_829 rfl (by decide) rfl 1 rfl (.ref a4) rfl dX9_gathers_70 ?_
  refine lv_iconst (v := 4) hx hb dX9_gathers_73 (by decide) ?_
  refine lv_aload_n hx hb dX9_gathers_74 rfl (lv_at hl 1 rfl) ?_
  refine gf (k := 35) hx hb hts inX9 hown hK hP k_830 rfl (by decide) rfl 1 rfl (.int 1) rfl dX9_gathers_75 ?_
  refine v_imul hx hb dX9_gathers_78 4 (by decide +kernel) ?_
  refine lv_iload_n hx hb dX9_gathers_79 rfl (lv_at hl 0 rfl) ?_
  refine v_iadd hx hb dX9_gathers_80 4 (by decide +kernel) ?_
  refine lv_aload_n hx hb dX9_gathers_81 rfl (lv_at hl 1 rfl) ?_
  refine gf (k := 32) hx hb hts inX9 hown hK hP k_827 rfl (by decide) rfl 1 rfl (.ref a2) rfl dX9_gathers_82 ?_
  refine lv_iload_n hx hb dX9_gathers_85 rfl (lv_at hl 0 rfl) ?_
  refine ld_i hx hb hK hP 3 rfl (vin (by decide +kernel)) dX9_gathers_86 1 rfl ?_
  refine st_i hx hb hK hP hD hS 0 rfl (vin (by decide +kernel)) dX9_gathers_87 (L' := [0, 0, 0, 0, 1]) rfl (W' := [(a4, .inl (cI, 777924, .inl (tb [0, 0, 0, 0, 1]))), (a0, .inr (9, [.ref a5, .ref a6, .ref a1, .ref a3, .ref a7, .ref a8, .ref a9, .ref a10, .ref a11, .ref a12, .ref a13, .ref a14, .int 1, .int 0, .int 0, .ref a15, .ref a16, .ref a17, .ref a18, .ref a19, .ref a20, .int 0, .int 0, .ref a21, .ref a22, .ref a23, .ref a24, .int 0, .int 0, .ref a25, .ref a26, .ref a27, .ref a2, .int 1, .ref a4, .int 1])), (a1, .inl (cI, 4, .inl (tb [0, 0, 0, 0]))), (a2, .inl (cI, 4, .inl (tb [1]))), (a3, .inl (cI, 4, .inl (tb [10, 10, 10, 10])))]) rfl (fun H locs hP hD hS => ?_)
  refine lv_iinc (v := 1) (lv' := [(2, .int 1), (0, .ref a0), (1, .int 1)]) hx hb dX9_gathers_88 hl (k := 0) rfl (by decide +kernel) (by decide) rfl (fun ls hl => ?_)
  refine lv_goto (tgt := 61) hx hb dX9_gathers_91 (by decide) ?_
  refine lv_iload_n hx hb dX9_gathers_61 rfl (lv_at hl 0 rfl) ?_
  refine lv_aload_n hx hb dX9_gathers_62 rfl (lv_at hl 1 rfl) ?_
  refine gf (k := 12) hx hb hts inX9 hown hK hP k_807 rfl (by decide) rfl 1 rfl (.int 1) rfl dX9_gathers_63 ?_
  refine t_icmp_ge hx hb dX9_gathers_66 94 (by decide) (by decide +kernel) ?_
  refine lv_aload_n hx hb dX9_gathers_94 rfl (lv_at hl 1 rfl) ?_
  refine lv_dup hx hb dX9_gathers_95 rfl ?_
  refine gf (k := 35) hx hb hts inX9 hown hK hP k_830 rfl (by decide) rfl 1 rfl (.int 1) rfl dX9_gathers_96 ?_
  refine lv_iconst (v := 1) hx hb dX9_gathers_99 (by decide) ?_
  refine v_iadd hx hb dX9_gathers_100 2 (by decide +kernel) ?_
  refine pf (k := 35) hx hb hts inX9 tyX9_ok nmX9 hown hK hP hD hS k_830 rfl (by decide) rfl rfl 1 rfl rfl rfl (Nat.le_of_ble_eq_true rfl) dX9_gathers_101 (W' := [(a4, .inl (cI, 777924, .inl (tb [0, 0, 0, 0, 1]))), (a0, .inr (9, [.ref a5, .ref a6, .ref a1, .ref a3, .ref a7, .ref a8, .ref a9, .ref a10, .ref a11, .ref a12, .ref a13, .ref a14, .int 1, .int 0, .int 0, .ref a15, .ref a16, .ref a17, .ref a18, .ref a19, .ref a20, .int 0, .int 0, .ref a21, .ref a22, .ref a23, .ref a24, .int 0, .int 0, .ref a25, .ref a26, .ref a27, .ref a2, .int 1, .ref a4, .int 2])), (a1, .inl (cI, 4, .inl (tb [0, 0, 0, 0]))), (a2, .inl (cI, 4, .inl (tb [1]))), (a3, .inl (cI, 4, .inl (tb [10, 10, 10, 10])))]) rfl (fun H locs hP hD hS => ?_)
  exact r_v (fun _ => 0) hx hb hr hk hK hP hD hS dX9_gathers_104
set_option maxRecDepth 100000 in
set_option maxHeartbeats 4000000 in
theorem c522_X9_isPlan (l : Launch) (dC : Nat → ClassId) (dI : Nat → Nat → Nat) (cI cJ cII cJJ : ClassId) (sz g a0 a1 a2 a3 a4 a5 a6 a7 a8 a9 a10 a11 a12 a13 a14 a15 a16 a17 a18 a19 a20 a21 a22 a23 a24 a25 a26 a27 : Nat) : Met l yX9_isPlan (.code yX9_isPlan cX9_isPlan 5 (some .boolean) :: TT) ({ frames := 2, cells := 0, slots := 0, locals := 80 }) (PcS dC dI (TY cI cJ cII cJJ) [.ref a0, .ref a2, .int 0] [(a0, .inr (9, [.ref a4, .ref a5, .ref a1, .ref a3, .ref a6, .ref a7, .ref a8, .ref a9, .ref a10, .ref a11, .ref a12, .ref a13, .int 1, .int 0, .int 0, .ref a14, .ref a15, .ref a16, .ref a17, .ref a18, .ref a19, .int 0, .int 0, .ref a20, .ref a21, .ref a22, .ref a23, .int 0, .int 0, .ref a24, .ref a25, .ref a26, .ref a2, .int 1, .ref a27, .int 2])), (a1, .inl (cI, 4, .inl (tb [0, 0, 0, 0]))), (a2, .inl (cI, 4, .inl (tb [2]))), (a3, .inl (cI, 4, .inl (tb [10, 10, 10, 10])))] sz 0 g) ((QcI dC dI (TY cI cJ cII cJJ) 1 [(a0, .inr (9, [.ref a4, .ref a5, .ref a1, .ref a3, .ref a6, .ref a7, .ref a8, .ref a9, .ref a10, .ref a11, .ref a12, .ref a13, .int 1, .int 0, .int 0, .ref a14, .ref a15, .ref a16, .ref a17, .ref a18, .ref a19, .int 0, .int 0, .ref a20, .ref a21, .ref a22, .ref a23, .int 0, .int 0, .ref a24, .ref a25, .ref a26, .ref a2, .int 1, .ref a27, .int 2])), (a1, .inl (cI, 4, .inl (tb [0, 0, 0, 0]))), (a2, .inl (cI, 4, .inl (tb [2]))), (a3, .inl (cI, 4, .inl (tb [10, 10, 10, 10])))]) (va_A [(a0, .inr (9, [.ref a4, .ref a5, .ref a1, .ref a3, .ref a6, .ref a7, .ref a8, .ref a9, .ref a10, .ref a11, .ref a12, .ref a13, .int 1, .int 0, .int 0, .ref a14, .ref a15, .ref a16, .ref a17, .ref a18, .ref a19, .int 0, .int 0, .ref a20, .ref a21, .ref a22, .ref a23, .int 0, .int 0, .ref a24, .ref a25, .ref a26, .ref a2, .int 1, .ref a27, .int 2])), (a1, .inl (cI, 4, .inl (tb [0, 0, 0, 0]))), (a2, .inl (cI, 4, .inl (tb [2]))), (a3, .inl (cI, 4, .inl (tb [10, 10, 10, 10])))] sz)) 0 0 (va_A [(a0, .inr (9, [.ref a4, .ref a5, .ref a1, .ref a3, .ref a6, .ref a7, .ref a8, .ref a9, .ref a10, .ref a11, .ref a12, .ref a13, .int 1, .int 0, .int 0, .ref a14, .ref a15, .ref a16, .ref a17, .ref a18, .ref a19, .int 0, .int 0, .ref a20, .ref a21, .ref a22, .ref a23, .int 0, .int 0, .ref a24, .ref a25, .ref a26, .ref a2, .int 1, .ref a27, .int 2])), (a1, .inl (cI, 4, .inl (tb [0, 0, 0, 0]))), (a2, .inl (cI, 4, .inl (tb [2]))), (a3, .inl (cI, 4, .inl (tb [10, 10, 10, 10])))] sz) := by
  refine SM.of (y := yX9_isPlan) (maxL := 5) (av := [.ref a0, .ref a2, .int 0]) (QcI dC dI (TY cI cJ cII cJJ) 1 [(a0, .inr (9, [.ref a4, .ref a5, .ref a1, .ref a3, .ref a6, .ref a7, .ref a8, .ref a9, .ref a10, .ref a11, .ref a12, .ref a13, .int 1, .int 0, .int 0, .ref a14, .ref a15, .ref a16, .ref a17, .ref a18, .ref a19, .int 0, .int 0, .ref a20, .ref a21, .ref a22, .ref a23, .int 0, .int 0, .ref a24, .ref a25, .ref a26, .ref a2, .int 1, .ref a27, .int 2])), (a1, .inl (cI, 4, .inl (tb [0, 0, 0, 0]))), (a2, .inl (cI, 4, .inl (tb [2]))), (a3, .inl (cI, 4, .inl (tb [10, 10, 10, 10])))]) (by decide +kernel) (Nat.le_of_ble_eq_true rfl) (fun p e s m below meth c A ls hx hb hr hml hown hts hk hnm hA hK hP hD hS hX hl => ?_)
  have hown : s.vm.findClass RX9 = some m.cls := hown
  have hl : lv_has ls 5 [(0, .ref a0), (1, .ref a2), (2, .int 0)] := hl
  refine lv_iconst (v := 1) hx hb dX9_isPlan_0 (by decide) ?_
  refine lv_istore_n (lv' := [(3, .int 1), (0, .ref a0), (1, .ref a2), (2, .int 0)]) hx hb dX9_isPlan_1 rfl hl (by decide) rfl (fun ls hl => ?_)
  refine lv_iconst (v := 0) hx hb dX9_isPlan_2 (by decide) ?_
  refine lv_istore (lv' := [(4, .int 0), (3, .int 1), (0, .ref a0), (1, .ref a2), (2, .int 0)]) hx hb dX9_isPlan_3 hl (by decide) rfl (fun ls hl => ?_)
  refine lv_iload hx hb dX9_isPlan_5 (lv_at hl 0 rfl) ?_
  refine lv_aload_n hx hb dX9_isPlan_7 rfl (lv_at hl 2 rfl) ?_
  refine gf (k := 12) hx hb hts inX9 hown hK hP k_807 rfl (by decide) rfl 0 rfl (.int 1) rfl dX9_isPlan_8 ?_
  refine f_icmp_ge hx hb dX9_isPlan_11 62 (by decide) (by decide +kernel) ?_
  refine lv_iload_n hx hb dX9_isPlan_14 rfl (lv_at hl 1 rfl) ?_
  refine f_if_eq hx hb dX9_isPlan_15 62 (by decide) (by decide +kernel) ?_
  refine lv_aload_n hx hb dX9_isPlan_18 rfl (lv_at hl 2 rfl) ?_
  refine gf (k := 2) hx hb hts inX9 hown hK hP k_797 rfl (by decide) rfl 0 rfl (.ref a1) rfl dX9_isPlan_19 ?_
  refine lv_iload hx hb dX9_isPlan_22 (lv_at hl 0 rfl) ?_
  refine ld_i hx hb hK hP 1 rfl (vin (by decide +kernel)) dX9_isPlan_24 0 rfl ?_
  refine lv_aload_n hx hb dX9_isPlan_25 rfl (lv_at hl 3 rfl) ?_
  refine lv_iload_n hx hb dX9_isPlan_26 rfl (lv_at hl 4 rfl) ?_
  refine lv_iload hx hb dX9_isPlan_27 (lv_at hl 0 rfl) ?_
  refine v_iadd hx hb dX9_isPlan_29 0 (by decide +kernel) ?_
  refine ld_i hx hb hK hP 2 rfl (vin (by decide +kernel)) dX9_isPlan_30 2 rfl ?_
  refine f_icmp_gt hx hb dX9_isPlan_31 54 (by decide) (by decide +kernel) ?_
  refine lv_aload_n hx hb dX9_isPlan_34 rfl (lv_at hl 3 rfl) ?_
  refine lv_iload_n hx hb dX9_isPlan_35 rfl (lv_at hl 4 rfl) ?_
  refine lv_iload hx hb dX9_isPlan_36 (lv_at hl 0 rfl) ?_
  refine v_iadd hx hb dX9_isPlan_38 0 (by decide +kernel) ?_
  refine ld_i hx hb hK hP 2 rfl (vin (by decide +kernel)) dX9_isPlan_39 2 rfl ?_
  refine lv_aload_n hx hb dX9_isPlan_40 rfl (lv_at hl 2 rfl) ?_
  refine gf (k := 3) hx hb hts inX9 hown hK hP k_798 rfl (by decide) rfl 0 rfl (.ref a3) rfl dX9_isPlan_41 ?_
  refine lv_iload hx hb dX9_isPlan_44 (lv_at hl 0 rfl) ?_
  refine ld_i hx hb hK hP 3 rfl (vin (by decide +kernel)) dX9_isPlan_46 10 rfl ?_
  refine f_icmp_gt hx hb dX9_isPlan_47 54 (by decide) (by decide +kernel) ?_
  refine lv_iconst (v := 1) hx hb dX9_isPlan_50 (by decide) ?_
  refine lv_goto (tgt := 55) hx hb dX9_isPlan_51 (by decide) ?_
  refine lv_istore_n (lv' := [(3, .int 1), (4, .int 0), (0, .ref a0), (1, .ref a2), (2, .int 0)]) hx hb dX9_isPlan_55 rfl hl (by decide) rfl (fun ls hl => ?_)
  refine lv_iinc (v := 1) (lv' := [(4, .int 1), (3, .int 1), (0, .ref a0), (1, .ref a2), (2, .int 0)]) hx hb dX9_isPlan_56 hl (k := 1) rfl (by decide +kernel) (by decide) rfl (fun ls hl => ?_)
  refine lv_goto (tgt := 5) hx hb dX9_isPlan_59 (by decide) ?_
  refine lv_iload hx hb dX9_isPlan_5 (lv_at hl 0 rfl) ?_
  refine lv_aload_n hx hb dX9_isPlan_7 rfl (lv_at hl 2 rfl) ?_
  refine gf (k := 12) hx hb hts inX9 hown hK hP k_807 rfl (by decide) rfl 0 rfl (.int 1) rfl dX9_isPlan_8 ?_
  refine t_icmp_ge hx hb dX9_isPlan_11 62 (by decide) (by decide +kernel) ?_
  refine lv_iconst (v := 0) hx hb dX9_isPlan_62 (by decide) ?_
  refine lv_istore (lv' := [(4, .int 0), (3, .int 1), (0, .ref a0), (1, .ref a2), (2, .int 0)]) hx hb dX9_isPlan_63 hl (by decide) rfl (fun ls hl => ?_)
  refine lv_iload hx hb dX9_isPlan_65 (lv_at hl 0 rfl) ?_
  refine lv_aload_n hx hb dX9_isPlan_67 rfl (lv_at hl 2 rfl) ?_
  refine gf (k := 13) hx hb hts inX9 hown hK hP k_808 rfl (by decide) rfl 0 rfl (.int 0) rfl dX9_isPlan_68 ?_
  refine t_icmp_ge hx hb dX9_isPlan_71 108 (by decide) (by decide +kernel) ?_
  refine lv_iload_n hx hb dX9_isPlan_108 rfl (lv_at hl 1 rfl) ?_
  exact r_z hx hb hr hk hK hP hD hS dX9_isPlan_109 rfl
set_option maxRecDepth 100000 in
set_option maxHeartbeats 4000000 in
theorem c521_X9_gathers (l : Launch) (dC : Nat → ClassId) (dI : Nat → Nat → Nat) (cI cJ cII cJJ : ClassId) (sz g a0 a1 a2 a3 a4 a5 a6 a7 a8 a9 a10 a11 a12 a13 a14 a15 a16 a17 a18 a19 a20 a21 a22 a23 a24 a25 a26 a27 : Nat) : Met l yX9_gathers (.code yX9_gathers cX9_gathers 3 none :: TT) ({ frames := 3, cells := 0, slots := 0, locals := 140 }) (PcS dC dI (TY cI cJ cII cJJ) [.ref a0, .int 1] [(a0, .inr (9, [.ref a5, .ref a6, .ref a1, .ref a3, .ref a7, .ref a8, .ref a9, .ref a10, .ref a11, .ref a12, .ref a13, .ref a14, .int 1, .int 0, .int 0, .ref a15, .ref a16, .ref a17, .ref a18, .ref a19, .ref a20, .int 0, .int 0, .ref a21, .ref a22, .ref a23, .ref a24, .int 0, .int 0, .ref a25, .ref a26, .ref a27, .ref a2, .int 1, .ref a4, .int 2])), (a1, .inl (cI, 4, .inl (tb [0, 0, 0, 0]))), (a2, .inl (cI, 4, .inl (tb [2]))), (a3, .inl (cI, 4, .inl (tb [10, 10, 10, 10]))), (a4, .inl (cI, 777924, .inl (tb [0, 0, 0, 0, 1])))] sz 0 g) ((QcV dC dI (TY cI cJ cII cJJ) (fun _ => [(a4, .inl (cI, 777924, .inl (tb [0, 0, 0, 0, 1, 0, 0, 0, 2]))), (a0, .inr (9, [.ref a5, .ref a6, .ref a1, .ref a3, .ref a7, .ref a8, .ref a9, .ref a10, .ref a11, .ref a12, .ref a13, .ref a14, .int 1, .int 0, .int 0, .ref a15, .ref a16, .ref a17, .ref a18, .ref a19, .ref a20, .int 0, .int 0, .ref a21, .ref a22, .ref a23, .ref a24, .int 0, .int 0, .ref a25, .ref a26, .ref a27, .ref a2, .int 1, .ref a4, .int 3])), (a1, .inl (cI, 4, .inl (tb [0, 0, 0, 0]))), (a2, .inl (cI, 4, .inl (tb [2]))), (a3, .inl (cI, 4, .inl (tb [10, 10, 10, 10])))])) (va_A [(a0, .inr (9, [.ref a5, .ref a6, .ref a1, .ref a3, .ref a7, .ref a8, .ref a9, .ref a10, .ref a11, .ref a12, .ref a13, .ref a14, .int 1, .int 0, .int 0, .ref a15, .ref a16, .ref a17, .ref a18, .ref a19, .ref a20, .int 0, .int 0, .ref a21, .ref a22, .ref a23, .ref a24, .int 0, .int 0, .ref a25, .ref a26, .ref a27, .ref a2, .int 1, .ref a4, .int 2])), (a1, .inl (cI, 4, .inl (tb [0, 0, 0, 0]))), (a2, .inl (cI, 4, .inl (tb [2]))), (a3, .inl (cI, 4, .inl (tb [10, 10, 10, 10]))), (a4, .inl (cI, 777924, .inl (tb [0, 0, 0, 0, 1])))] sz)) 0 0 (va_A [(a0, .inr (9, [.ref a5, .ref a6, .ref a1, .ref a3, .ref a7, .ref a8, .ref a9, .ref a10, .ref a11, .ref a12, .ref a13, .ref a14, .int 1, .int 0, .int 0, .ref a15, .ref a16, .ref a17, .ref a18, .ref a19, .ref a20, .int 0, .int 0, .ref a21, .ref a22, .ref a23, .ref a24, .int 0, .int 0, .ref a25, .ref a26, .ref a27, .ref a2, .int 1, .ref a4, .int 2])), (a1, .inl (cI, 4, .inl (tb [0, 0, 0, 0]))), (a2, .inl (cI, 4, .inl (tb [2]))), (a3, .inl (cI, 4, .inl (tb [10, 10, 10, 10]))), (a4, .inl (cI, 777924, .inl (tb [0, 0, 0, 0, 1])))] sz) := by
  refine SM.of (y := yX9_gathers) (maxL := 3) (av := [.ref a0, .int 1]) (QcV dC dI (TY cI cJ cII cJJ) (fun _ => [(a4, .inl (cI, 777924, .inl (tb [0, 0, 0, 0, 1, 0, 0, 0, 2]))), (a0, .inr (9, [.ref a5, .ref a6, .ref a1, .ref a3, .ref a7, .ref a8, .ref a9, .ref a10, .ref a11, .ref a12, .ref a13, .ref a14, .int 1, .int 0, .int 0, .ref a15, .ref a16, .ref a17, .ref a18, .ref a19, .ref a20, .int 0, .int 0, .ref a21, .ref a22, .ref a23, .ref a24, .int 0, .int 0, .ref a25, .ref a26, .ref a27, .ref a2, .int 1, .ref a4, .int 3])), (a1, .inl (cI, 4, .inl (tb [0, 0, 0, 0]))), (a2, .inl (cI, 4, .inl (tb [2]))), (a3, .inl (cI, 4, .inl (tb [10, 10, 10, 10])))])) (by decide +kernel) (Nat.le_of_ble_eq_true rfl) (fun p e s m below meth c A ls hx hb hr hml hown hts hk hnm hA hK hP hD hS hX hl => ?_)
  have hown : s.vm.findClass RX9 = some m.cls := hown
  have hl : lv_has ls 3 [(0, .ref a0), (1, .int 1)] := hl
  refine lv_iload_n hx hb dX9_gathers_0 rfl (lv_at hl 1 rfl) ?_
  refine lv_aload_n hx hb dX9_gathers_1 rfl (lv_at hl 0 rfl) ?_
  refine gf (k := 12) hx hb hts inX9 hown hK hP k_807 rfl (by decide) rfl 0 rfl (.int 1) rfl dX9_gathers_2 ?_
  refine t_icmp_ge hx hb dX9_gathers_5 46 (by decide) (by decide +kernel) ?_
  refine lv_aload_n hx hb dX9_gathers_46 rfl (lv_at hl 0 rfl) ?_
  refine lv_aload_n hx hb dX9_gathers_47 rfl (lv_at hl 0 rfl) ?_
  refine gf (k := 32) hx hb hts inX9 hown hK hP k_827 rfl (by decide) rfl 0 rfl (.ref a2) rfl dX9_gathers_48 ?_
  refine lv_iconst (v := 0) hx hb dX9_gathers_51 (by decide) ?_
  refine kV_i (q0 := 0) ⟨hx, hb, hml, hown, hts⟩ hK hP hD hS hA hX cv_RX9_199 [0, 1, 2, 3] [4] (wr := [(a4, .inl (cI, 777924, .inl (tb [0, 0, 0, 0, 1])))]) rfl rfl rfl rfl (by decide) (c522_X9_isPlan l dC dI cI cJ cII cJJ s.heap.size 0 a0 a1 a2 a3 a5 a6 a7 a8 a9 a10 a11 a12 a13 a14 a15 a16 a17 a18 a19 a20 a21 a22 a23 a24 a25 a26 a27 a4) ⟨by decide +kernel, by decide +kernel⟩ rfl rfl (Or.inl rfl) (rest := []) rfl rfl rfl hl.1 rfl (Nat.le_of_ble_eq_true rfl) dX9_gathers_52 ⟨Nat.le_of_ble_eq_true rfl, Nat.le_of_ble_eq_true rfl⟩ (W' := [(a4, .inl (cI, 777924, .inl (tb [0, 0, 0, 0, 1]))), (a0, .inr (9, [.ref a5, .ref a6, .ref a1, .ref a3, .ref a7, .ref a8, .ref a9, .ref a10, .ref a11, .ref a12, .ref a13, .ref a14, .int 1, .int 0, .int 0, .ref a15, .ref a16, .ref a17, .ref a18, .ref a19, .ref a20, .int 0, .int 0, .ref a21, .ref a22, .ref a23, .ref a24, .int 0, .int 0, .ref a25, .ref a26, .ref a27, .ref a2, .int 1, .ref a4, .int 2])), (a1, .inl (cI, 4, .inl (tb [0, 0, 0, 0]))), (a2, .inl (cI, 4, .inl (tb [2]))), (a3, .inl (cI, 4, .inl (tb [10, 10, 10, 10])))]) rfl (fun H locs hP hD hS => ?_)
  refine t_if_ne hx hb dX9_gathers_55 59 (by decide) (by decide +kernel) ?_
  refine lv_iconst (v := 0) hx hb dX9_gathers_59 (by decide) ?_
  refine lv_istore_n (lv' := [(2, .int 0), (0, .ref a0), (1, .int 1)]) hx hb dX9_gathers_60 rfl hl (by decide) rfl (fun ls hl => ?_)
  refine lv_iload_n hx hb dX9_gathers_61 rfl (lv_at hl 0 rfl) ?_
  refine lv_aload_n hx hb dX9_gathers_62 rfl (lv_at hl 1 rfl) ?_
  refine gf (k := 12) hx hb hts inX9 hown hK hP k_807 rfl (by decide) rfl 1 rfl (.int 1) rfl dX9_gathers_63 ?_
  refine f_icmp_ge hx hb dX9_gathers_66 94 (by decide) (by decide +kernel) ?_
  refine lv_aload_n hx hb dX9_gathers_69 rfl (lv_at hl 1 rfl) ?_
  refine gf (k := 34) hx hb hts inX9 hown hK hP k_829 rfl (by decide) rfl 1 rfl (.ref a4) rfl dX9_gathers_70 ?_
  refine lv_iconst (v := 4) hx hb dX9_gathers_73 (by decide) ?_
  refine lv_aload_n hx hb dX9_gathers_74 rfl (lv_at hl 1 rfl) ?_
  refine gf (k := 35) hx hb hts inX9 hown hK hP k_830 rfl (by decide) rfl 1 rfl (.int 2) rfl dX9_gathers_75 ?_
  refine v_imul hx hb dX9_gathers_78 8 (by decide +kernel) ?_
  refine lv_iload_n hx hb dX9_gathers_79 rfl (lv_at hl 0 rfl) ?_
  refine v_iadd hx hb dX9_gathers_80 8 (by decide +kernel) ?_
  refine lv_aload_n hx hb dX9_gathers_81 rfl (lv_at hl 1 rfl) ?_
  refine gf (k := 32) hx hb hts inX9 hown hK hP k_827 rfl (by decide) rfl 1 rfl (.ref a2) rfl dX9_gathers_82 ?_
  refine lv_iload_n hx hb dX9_gathers_85 rfl (lv_at hl 0 rfl) ?_
  refine ld_i hx hb hK hP 3 rfl (vin (by decide +kernel)) dX9_gathers_86 2 rfl ?_
  refine st_i hx hb hK hP hD hS 0 rfl (vin (by decide +kernel)) dX9_gathers_87 (L' := [0, 0, 0, 0, 1, 0, 0, 0, 2]) rfl (W' := [(a4, .inl (cI, 777924, .inl (tb [0, 0, 0, 0, 1, 0, 0, 0, 2]))), (a0, .inr (9, [.ref a5, .ref a6, .ref a1, .ref a3, .ref a7, .ref a8, .ref a9, .ref a10, .ref a11, .ref a12, .ref a13, .ref a14, .int 1, .int 0, .int 0, .ref a15, .ref a16, .ref a17, .ref a18, .ref a19, .ref a20, .int 0, .int 0, .ref a21, .ref a22, .ref a23, .ref a24, .int 0, .int 0, .ref a25, .ref a26, .ref a27, .ref a2, .int 1, .ref a4, .int 2])), (a1, .inl (cI, 4, .inl (tb [0, 0, 0, 0]))), (a2, .inl (cI, 4, .inl (tb [2]))), (a3, .inl (cI, 4, .inl (tb [10, 10, 10, 10])))]) rfl (fun H locs hP hD hS => ?_)
  refine lv_iinc (v := 1) (lv' := [(2, .int 1), (0, .ref a0), (1, .int 1)]) hx hb dX9_gathers_88 hl (k := 0) rfl (by decide +kernel) (by decide) rfl (fun ls hl => ?_)
  refine lv_goto (tgt := 61) hx hb dX9_gathers_91 (by decide) ?_
  refine lv_iload_n hx hb dX9_gathers_61 rfl (lv_at hl 0 rfl) ?_
  refine lv_aload_n hx hb dX9_gathers_62 rfl (lv_at hl 1 rfl) ?_
  refine gf (k := 12) hx hb hts inX9 hown hK hP k_807 rfl (by decide) rfl 1 rfl (.int 1) rfl dX9_gathers_63 ?_
  refine t_icmp_ge hx hb dX9_gathers_66 94 (by decide) (by decide +kernel) ?_
  refine lv_aload_n hx hb dX9_gathers_94 rfl (lv_at hl 1 rfl) ?_
  refine lv_dup hx hb dX9_gathers_95 rfl ?_
  refine gf (k := 35) hx hb hts inX9 hown hK hP k_830 rfl (by decide) rfl 1 rfl (.int 2) rfl dX9_gathers_96 ?_
  refine lv_iconst (v := 1) hx hb dX9_gathers_99 (by decide) ?_
  refine v_iadd hx hb dX9_gathers_100 3 (by decide +kernel) ?_
  refine pf (k := 35) hx hb hts inX9 tyX9_ok nmX9 hown hK hP hD hS k_830 rfl (by decide) rfl rfl 1 rfl rfl rfl (Nat.le_of_ble_eq_true rfl) dX9_gathers_101 (W' := [(a4, .inl (cI, 777924, .inl (tb [0, 0, 0, 0, 1, 0, 0, 0, 2]))), (a0, .inr (9, [.ref a5, .ref a6, .ref a1, .ref a3, .ref a7, .ref a8, .ref a9, .ref a10, .ref a11, .ref a12, .ref a13, .ref a14, .int 1, .int 0, .int 0, .ref a15, .ref a16, .ref a17, .ref a18, .ref a19, .ref a20, .int 0, .int 0, .ref a21, .ref a22, .ref a23, .ref a24, .int 0, .int 0, .ref a25, .ref a26, .ref a27, .ref a2, .int 1, .ref a4, .int 3])), (a1, .inl (cI, 4, .inl (tb [0, 0, 0, 0]))), (a2, .inl (cI, 4, .inl (tb [2]))), (a3, .inl (cI, 4, .inl (tb [10, 10, 10, 10])))]) rfl (fun H locs hP hD hS => ?_)
  exact r_v (fun _ => 0) hx hb hr hk hK hP hD hS dX9_gathers_104
set_option maxRecDepth 100000 in
set_option maxHeartbeats 4000000 in
theorem c524_X9_isPlan (l : Launch) (dC : Nat → ClassId) (dI : Nat → Nat → Nat) (cI cJ cII cJJ : ClassId) (sz g a0 a1 a2 a3 a4 a5 a6 a7 a8 a9 a10 a11 a12 a13 a14 a15 a16 a17 a18 a19 a20 a21 a22 a23 a24 a25 a26 a27 : Nat) : Met l yX9_isPlan (.code yX9_isPlan cX9_isPlan 5 (some .boolean) :: TT) ({ frames := 2, cells := 0, slots := 0, locals := 80 }) (PcS dC dI (TY cI cJ cII cJJ) [.ref a0, .ref a2, .int 0] [(a0, .inr (9, [.ref a4, .ref a5, .ref a1, .ref a3, .ref a6, .ref a7, .ref a8, .ref a9, .ref a10, .ref a11, .ref a12, .ref a13, .int 1, .int 0, .int 0, .ref a14, .ref a15, .ref a16, .ref a17, .ref a18, .ref a19, .int 0, .int 0, .ref a20, .ref a21, .ref a22, .ref a23, .int 0, .int 0, .ref a24, .ref a25, .ref a26, .ref a2, .int 1, .ref a27, .int 3])), (a1, .inl (cI, 4, .inl (tb [0, 0, 0, 0]))), (a2, .inl (cI, 4, .inl (tb [3]))), (a3, .inl (cI, 4, .inl (tb [10, 10, 10, 10])))] sz 0 g) ((QcI dC dI (TY cI cJ cII cJJ) 1 [(a0, .inr (9, [.ref a4, .ref a5, .ref a1, .ref a3, .ref a6, .ref a7, .ref a8, .ref a9, .ref a10, .ref a11, .ref a12, .ref a13, .int 1, .int 0, .int 0, .ref a14, .ref a15, .ref a16, .ref a17, .ref a18, .ref a19, .int 0, .int 0, .ref a20, .ref a21, .ref a22, .ref a23, .int 0, .int 0, .ref a24, .ref a25, .ref a26, .ref a2, .int 1, .ref a27, .int 3])), (a1, .inl (cI, 4, .inl (tb [0, 0, 0, 0]))), (a2, .inl (cI, 4, .inl (tb [3]))), (a3, .inl (cI, 4, .inl (tb [10, 10, 10, 10])))]) (va_A [(a0, .inr (9, [.ref a4, .ref a5, .ref a1, .ref a3, .ref a6, .ref a7, .ref a8, .ref a9, .ref a10, .ref a11, .ref a12, .ref a13, .int 1, .int 0, .int 0, .ref a14, .ref a15, .ref a16, .ref a17, .ref a18, .ref a19, .int 0, .int 0, .ref a20, .ref a21, .ref a22, .ref a23, .int 0, .int 0, .ref a24, .ref a25, .ref a26, .ref a2, .int 1, .ref a27, .int 3])), (a1, .inl (cI, 4, .inl (tb [0, 0, 0, 0]))), (a2, .inl (cI, 4, .inl (tb [3]))), (a3, .inl (cI, 4, .inl (tb [10, 10, 10, 10])))] sz)) 0 0 (va_A [(a0, .inr (9, [.ref a4, .ref a5, .ref a1, .ref a3, .ref a6, .ref a7, .ref a8, .ref a9, .ref a10, .ref a11, .ref a12, .ref a13, .int 1, .int 0, .int 0, .ref a14, .ref a15, .ref a16, .ref a17, .ref a18, .ref a19, .int 0, .int 0, .ref a20, .ref a21, .ref a22, .ref a23, .int 0, .int 0, .ref a24, .ref a25, .ref a26, .ref a2, .int 1, .ref a27, .int 3])), (a1, .inl (cI, 4, .inl (tb [0, 0, 0, 0]))), (a2, .inl (cI, 4, .inl (tb [3]))), (a3, .inl (cI, 4, .inl (tb [10, 10, 10, 10])))] sz) := by
  refine SM.of (y := yX9_isPlan) (maxL := 5) (av := [.ref a0, .ref a2, .int 0]) (QcI dC dI (TY cI cJ cII cJJ) 1 [(a0, .inr (9, [.ref a4, .ref a5, .ref a1, .ref a3, .ref a6, .ref a7, .ref a8, .ref a9, .ref a10, .ref a11, .ref a12, .ref a13, .int 1, .int 0, .int 0, .ref a14, .ref a15, .ref a16, .ref a17, .ref a18, .ref a19, .int 0, .int 0, .ref a20, .ref a21, .ref a22, .ref a23, .int 0, .int 0, .ref a24, .ref a25, .ref a26, .ref a2, .int 1, .ref a27, .int 3])), (a1, .inl (cI, 4, .inl (tb [0, 0, 0, 0]))), (a2, .inl (cI, 4, .inl (tb [3]))), (a3, .inl (cI, 4, .inl (tb [10, 10, 10, 10])))]) (by decide +kernel) (Nat.le_of_ble_eq_true rfl) (fun p e s m below meth c A ls hx hb hr hml hown hts hk hnm hA hK hP hD hS hX hl => ?_)
  have hown : s.vm.findClass RX9 = some m.cls := hown
  have hl : lv_has ls 5 [(0, .ref a0), (1, .ref a2), (2, .int 0)] := hl
  refine lv_iconst (v := 1) hx hb dX9_isPlan_0 (by decide) ?_
  refine lv_istore_n (lv' := [(3, .int 1), (0, .ref a0), (1, .ref a2), (2, .int 0)]) hx hb dX9_isPlan_1 rfl hl (by decide) rfl (fun ls hl => ?_)
  refine lv_iconst (v := 0) hx hb dX9_isPlan_2 (by decide) ?_
  refine lv_istore (lv' := [(4, .int 0), (3, .int 1), (0, .ref a0), (1, .ref a2), (2, .int 0)]) hx hb dX9_isPlan_3 hl (by decide) rfl (fun ls hl => ?_)
  refine lv_iload hx hb dX9_isPlan_5 (lv_at hl 0 rfl) ?_
  refine lv_aload_n hx hb dX9_isPlan_7 rfl (lv_at hl 2 rfl) ?_
  refine gf (k := 12) hx hb hts inX9 hown hK hP k_807 rfl (by decide) rfl 0 rfl (.int 1) rfl dX9_isPlan_8 ?_
  refine f_icmp_ge hx hb dX9_isPlan_11 62 (by decide) (by decide +kernel) ?_
  refine lv_iload_n hx hb dX9_isPlan_14 rfl (lv_at hl 1 rfl) ?_
  refine f_if_eq hx hb dX9_isPlan_15 62 (by decide) (by decide +kernel) ?_
  refine lv_aload_n hx hb dX9_isPlan_18 rfl (lv_at hl 2 rfl) ?_
  refine gf (k := 2) hx hb hts inX9 hown hK hP k_797 rfl (by decide) rfl 0 rfl (.ref a1) rfl dX9_isPlan_19 ?_
  refine lv_iload hx hb dX9_isPlan_22 (lv_at hl 0 rfl) ?_
  refine ld_i hx hb hK hP 1 rfl (vin (by decide +kernel)) dX9_isPlan_24 0 rfl ?_
  refine lv_aload_n hx hb dX9_isPlan_25 rfl (lv_at hl 3 rfl) ?_
  refine lv_iload_n hx hb dX9_isPlan_26 rfl (lv_at hl 4 rfl) ?_
  refine lv_iload hx hb dX9_isPlan_27 (lv_at hl 0 rfl) ?_
  refine v_iadd hx hb dX9_isPlan_29 0 (by decide +kernel) ?_
  refine ld_i hx hb hK hP 2 rfl (vin (by decide +kernel)) dX9_isPlan_30 3 rfl ?_
  refine f_icmp_gt hx hb dX9_isPlan_31 54 (by decide) (by decide +kernel) ?_
  refine lv_aload_n hx hb dX9_isPlan_34 rfl (lv_at hl 3 rfl) ?_
  refine lv_iload_n hx hb dX9_isPlan_35 rfl (lv_at hl 4 rfl) ?_
  refine lv_iload hx hb dX9_isPlan_36 (lv_at hl 0 rfl) ?_
  refine v_iadd hx hb dX9_isPlan_38 0 (by decide +kernel) ?_
  refine ld_i hx hb hK hP 2 rfl (vin (by decide +kernel)) dX9_isPlan_39 3 rfl ?_
  refine lv_aload_n hx hb dX9_isPlan_40 rfl (lv_at hl 2 rfl) ?_
  refine gf (k := 3) hx hb hts inX9 hown hK hP k_798 rfl (by decide) rfl 0 rfl (.ref a3) rfl dX9_isPlan_41 ?_
  refine lv_iload hx hb dX9_isPlan_44 (lv_at hl 0 rfl) ?_
  refine ld_i hx hb hK hP 3 rfl (vin (by decide +kernel)) dX9_isPlan_46 10 rfl ?_
  refine f_icmp_gt hx hb dX9_isPlan_47 54 (by decide) (by decide +kernel) ?_
  refine lv_iconst (v := 1) hx hb dX9_isPlan_50 (by decide) ?_
  refine lv_goto (tgt := 55) hx hb dX9_isPlan_51 (by decide) ?_
  refine lv_istore_n (lv' := [(3, .int 1), (4, .int 0), (0, .ref a0), (1, .ref a2), (2, .int 0)]) hx hb dX9_isPlan_55 rfl hl (by decide) rfl (fun ls hl => ?_)
  refine lv_iinc (v := 1) (lv' := [(4, .int 1), (3, .int 1), (0, .ref a0), (1, .ref a2), (2, .int 0)]) hx hb dX9_isPlan_56 hl (k := 1) rfl (by decide +kernel) (by decide) rfl (fun ls hl => ?_)
  refine lv_goto (tgt := 5) hx hb dX9_isPlan_59 (by decide) ?_
  refine lv_iload hx hb dX9_isPlan_5 (lv_at hl 0 rfl) ?_
  refine lv_aload_n hx hb dX9_isPlan_7 rfl (lv_at hl 2 rfl) ?_
  refine gf (k := 12) hx hb hts inX9 hown hK hP k_807 rfl (by decide) rfl 0 rfl (.int 1) rfl dX9_isPlan_8 ?_
  refine t_icmp_ge hx hb dX9_isPlan_11 62 (by decide) (by decide +kernel) ?_
  refine lv_iconst (v := 0) hx hb dX9_isPlan_62 (by decide) ?_
  refine lv_istore (lv' := [(4, .int 0), (3, .int 1), (0, .ref a0), (1, .ref a2), (2, .int 0)]) hx hb dX9_isPlan_63 hl (by decide) rfl (fun ls hl => ?_)
  refine lv_iload hx hb dX9_isPlan_65 (lv_at hl 0 rfl) ?_
  refine lv_aload_n hx hb dX9_isPlan_67 rfl (lv_at hl 2 rfl) ?_
  refine gf (k := 13) hx hb hts inX9 hown hK hP k_808 rfl (by decide) rfl 0 rfl (.int 0) rfl dX9_isPlan_68 ?_
  refine t_icmp_ge hx hb dX9_isPlan_71 108 (by decide) (by decide +kernel) ?_
  refine lv_iload_n hx hb dX9_isPlan_108 rfl (lv_at hl 1 rfl) ?_
  exact r_z hx hb hr hk hK hP hD hS dX9_isPlan_109 rfl
set_option maxRecDepth 100000 in
set_option maxHeartbeats 4000000 in
theorem c523_X9_gathers (l : Launch) (dC : Nat → ClassId) (dI : Nat → Nat → Nat) (cI cJ cII cJJ : ClassId) (sz g a0 a1 a2 a3 a4 a5 a6 a7 a8 a9 a10 a11 a12 a13 a14 a15 a16 a17 a18 a19 a20 a21 a22 a23 a24 a25 a26 a27 : Nat) : Met l yX9_gathers (.code yX9_gathers cX9_gathers 3 none :: TT) ({ frames := 3, cells := 0, slots := 0, locals := 140 }) (PcS dC dI (TY cI cJ cII cJJ) [.ref a0, .int 1] [(a0, .inr (9, [.ref a5, .ref a6, .ref a1, .ref a3, .ref a7, .ref a8, .ref a9, .ref a10, .ref a11, .ref a12, .ref a13, .ref a14, .int 1, .int 0, .int 0, .ref a15, .ref a16, .ref a17, .ref a18, .ref a19, .ref a20, .int 0, .int 0, .ref a21, .ref a22, .ref a23, .ref a24, .int 0, .int 0, .ref a25, .ref a26, .ref a27, .ref a2, .int 1, .ref a4, .int 3])), (a1, .inl (cI, 4, .inl (tb [0, 0, 0, 0]))), (a2, .inl (cI, 4, .inl (tb [3]))), (a3, .inl (cI, 4, .inl (tb [10, 10, 10, 10]))), (a4, .inl (cI, 777924, .inl (tb [0, 0, 0, 0, 1, 0, 0, 0, 2])))] sz 0 g) ((QcV dC dI (TY cI cJ cII cJJ) (fun _ => [(a4, .inl (cI, 777924, .inl (tb [0, 0, 0, 0, 1, 0, 0, 0, 2, 0, 0, 0, 3]))), (a0, .inr (9, [.ref a5, .ref a6, .ref a1, .ref a3, .ref a7, .ref a8, .ref a9, .ref a10, .ref a11, .ref a12, .ref a13, .ref a14, .int 1, .int 0, .int 0, .ref a15, .ref a16, .ref a17, .ref a18, .ref a19, .ref a20, .int 0, .int 0, .ref a21, .ref a22, .ref a23, .ref a24, .int 0, .int 0, .ref a25, .ref a26, .ref a27, .ref a2, .int 1, .ref a4, .int 4])), (a1, .inl (cI, 4, .inl (tb [0, 0, 0, 0]))), (a2, .inl (cI, 4, .inl (tb [3]))), (a3, .inl (cI, 4, .inl (tb [10, 10, 10, 10])))])) (va_A [(a0, .inr (9, [.ref a5, .ref a6, .ref a1, .ref a3, .ref a7, .ref a8, .ref a9, .ref a10, .ref a11, .ref a12, .ref a13, .ref a14, .int 1, .int 0, .int 0, .ref a15, .ref a16, .ref a17, .ref a18, .ref a19, .ref a20, .int 0, .int 0, .ref a21, .ref a22, .ref a23, .ref a24, .int 0, .int 0, .ref a25, .ref a26, .ref a27, .ref a2, .int 1, .ref a4, .int 3])), (a1, .inl (cI, 4, .inl (tb [0, 0, 0, 0]))), (a2, .inl (cI, 4, .inl (tb [3]))), (a3, .inl (cI, 4, .inl (tb [10, 10, 10, 10]))), (a4, .inl (cI, 777924, .inl (tb [0, 0, 0, 0, 1, 0, 0, 0, 2])))] sz)) 0 0 (va_A [(a0, .inr (9, [.ref a5, .ref a6, .ref a1, .ref a3, .ref a7, .ref a8, .ref a9, .ref a10, .ref a11, .ref a12, .ref a13, .ref a14, .int 1, .int 0, .int 0, .ref a15, .ref a16, .ref a17, .ref a18, .ref a19, .ref a20, .int 0, .int 0, .ref a21, .ref a22, .ref a23, .ref a24, .int 0, .int 0, .ref a25, .ref a26, .ref a27, .ref a2, .int 1, .ref a4, .int 3])), (a1, .inl (cI, 4, .inl (tb [0, 0, 0, 0]))), (a2, .inl (cI, 4, .inl (tb [3]))), (a3, .inl (cI, 4, .inl (tb [10, 10, 10, 10]))), (a4, .inl (cI, 777924, .inl (tb [0, 0, 0, 0, 1, 0, 0, 0, 2])))] sz) := by
  refine SM.of (y := yX9_gathers) (maxL := 3) (av := [.ref a0, .int 1]) (QcV dC dI (TY cI cJ cII cJJ) (fun _ => [(a4, .inl (cI, 777924, .inl (tb [0, 0, 0, 0, 1, 0, 0, 0, 2, 0, 0, 0, 3]))), (a0, .inr (9, [.ref a5, .ref a6, .ref a1, .ref a3, .ref a7, .ref a8, .ref a9, .ref a10, .ref a11, .ref a12, .ref a13, .ref a14, .int 1, .int 0, .int 0, .ref a15, .ref a16, .ref a17, .ref a18, .ref a19, .ref a20, .int 0, .int 0, .ref a21, .ref a22, .ref a23, .ref a24, .int 0, .int 0, .ref a25, .ref a26, .ref a27, .ref a2, .int 1, .ref a4, .int 4])), (a1, .inl (cI, 4, .inl (tb [0, 0, 0, 0]))), (a2, .inl (cI, 4, .inl (tb [3]))), (a3, .inl (cI, 4, .inl (tb [10, 10, 10, 10])))])) (by decide +kernel) (Nat.le_of_ble_eq_true rfl) (fun p e s m below meth c A ls hx hb hr hml hown hts hk hnm hA hK hP hD hS hX hl => ?_)
  have hown : s.vm.findClass RX9 = some m.cls := hown
  have hl : lv_has ls 3 [(0, .ref a0), (1, .int 1)] := hl
  refine lv_iload_n hx hb dX9_gathers_0 rfl (lv_at hl 1 rfl) ?_
  refine lv_aload_n hx hb dX9_gathers_1 rfl (lv_at hl 0 rfl) ?_
  refine gf (k := 12) hx hb hts inX9 hown hK hP k_807 rfl (by decide) rfl 0 rfl (.int 1) rfl dX9_gathers_2 ?_
  refine t_icmp_ge hx hb dX9_gathers_5 46 (by decide) (by decide +kernel) ?_
  refine lv_aload_n hx hb dX9_gathers_46 rfl (lv_at hl 0 rfl) ?_
  refine lv_aload_n hx hb dX9_gathers_47 rfl (lv_at hl 0 rfl) ?_
  refine gf (k := 32) hx hb hts inX9 hown hK hP k_827 rfl (by decide) rfl 0 rfl (.ref a2) rfl dX9_gathers_48 ?_
  refine lv_iconst (v := 0) hx hb dX9_gathers_51 (by decide) ?_
  refine kV_i (q0 := 0) ⟨hx, hb, hml, hown, hts⟩ hK hP hD hS hA hX cv_RX9_199 [0, 1, 2, 3] [4] (wr := [(a4, .inl (cI, 777924, .inl (tb [0, 0, 0, 0, 1, 0, 0, 0, 2])))]) rfl rfl rfl rfl (by decide) (c524_X9_isPlan l dC dI cI cJ cII cJJ s.heap.size 0 a0 a1 a2 a3 a5 a6 a7 a8 a9 a10 a11 a12 a13 a14 a15 a16 a17 a18 a19 a20 a21 a22 a23 a24 a25 a26 a27 a4) ⟨by decide +kernel, by decide +kernel⟩ rfl rfl (Or.inl rfl) (rest := []) rfl rfl rfl hl.1 rfl (Nat.le_of_ble_eq_true rfl) dX9_gathers_52 ⟨Nat.le_of_ble_eq_true rfl, Nat.le_of_ble_eq_true rfl⟩ (W' := [(a4, .inl (cI, 777924, .inl (tb [0, 0, 0, 0, 1, 0, 0, 0, 2]))), (a0, .inr (9, [.ref a5, .ref a6, .ref a1, .ref a3, .ref a7, .ref a8, .ref a9, .ref a10, .ref a11, .ref a12, .ref a13, .ref a14, .int 1, .int 0, .int 0, .ref a15, .ref a16, .ref a17, .ref a18, .ref a19, .ref a20, .int 0, .int 0, .ref a21, .ref a22, .ref a23, .ref a24, .int 0, .int 0, .ref a25, .ref a26, .ref a27, .ref a2, .int 1, .ref a4, .int 3])), (a1, .inl (cI, 4, .inl (tb [0, 0, 0, 0]))), (a2, .inl (cI, 4, .inl (tb [3]))), (a3, .inl (cI, 4, .inl (tb [10, 10, 10, 10])))]) rfl (fun H locs hP hD hS => ?_)
  refine t_if_ne hx hb dX9_gathers_55 59 (by decide) (by decide +kernel) ?_
  refine lv_iconst (v := 0) hx hb dX9_gathers_59 (by decide) ?_
  refine lv_istore_n (lv' := [(2, .int 0), (0, .ref a0), (1, .int 1)]) hx hb dX9_gathers_60 rfl hl (by decide) rfl (fun ls hl => ?_)
  refine lv_iload_n hx hb dX9_gathers_61 rfl (lv_at hl 0 rfl) ?_
  refine lv_aload_n hx hb dX9_gathers_62 rfl (lv_at hl 1 rfl) ?_
  refine gf (k := 12) hx hb hts inX9 hown hK hP k_807 rfl (by decide) rfl 1 rfl (.int 1) rfl dX9_gathers_63 ?_
  refine f_icmp_ge hx hb dX9_gathers_66 94 (by decide) (by decide +kernel) ?_
  refine lv_aload_n hx hb dX9_gathers_69 rfl (lv_at hl 1 rfl) ?_
  refine gf (k := 34) hx hb hts inX9 hown hK hP k_829 rfl (by decide) rfl 1 rfl (.ref a4) rfl dX9_gathers_70 ?_
  refine lv_iconst (v := 4) hx hb dX9_gathers_73 (by decide) ?_
  refine lv_aload_n hx hb dX9_gathers_74 rfl (lv_at hl 1 rfl) ?_
  refine gf (k := 35) hx hb hts inX9 hown hK hP k_830 rfl (by decide) rfl 1 rfl (.int 3) rfl dX9_gathers_75 ?_
  refine v_imul hx hb dX9_gathers_78 12 (by decide +kernel) ?_
  refine lv_iload_n hx hb dX9_gathers_79 rfl (lv_at hl 0 rfl) ?_
  refine v_iadd hx hb dX9_gathers_80 12 (by decide +kernel) ?_
  refine lv_aload_n hx hb dX9_gathers_81 rfl (lv_at hl 1 rfl) ?_
  refine gf (k := 32) hx hb hts inX9 hown hK hP k_827 rfl (by decide) rfl 1 rfl (.ref a2) rfl dX9_gathers_82 ?_
  refine lv_iload_n hx hb dX9_gathers_85 rfl (lv_at hl 0 rfl) ?_
  refine ld_i hx hb hK hP 3 rfl (vin (by decide +kernel)) dX9_gathers_86 3 rfl ?_
  refine st_i hx hb hK hP hD hS 0 rfl (vin (by decide +kernel)) dX9_gathers_87 (L' := [0, 0, 0, 0, 1, 0, 0, 0, 2, 0, 0, 0, 3]) rfl (W' := [(a4, .inl (cI, 777924, .inl (tb [0, 0, 0, 0, 1, 0, 0, 0, 2, 0, 0, 0, 3]))), (a0, .inr (9, [.ref a5, .ref a6, .ref a1, .ref a3, .ref a7, .ref a8, .ref a9, .ref a10, .ref a11, .ref a12, .ref a13, .ref a14, .int 1, .int 0, .int 0, .ref a15, .ref a16, .ref a17, .ref a18, .ref a19, .ref a20, .int 0, .int 0, .ref a21, .ref a22, .ref a23, .ref a24, .int 0, .int 0, .ref a25, .ref a26, .ref a27, .ref a2, .int 1, .ref a4, .int 3])), (a1, .inl (cI, 4, .inl (tb [0, 0, 0, 0]))), (a2, .inl (cI, 4, .inl (tb [3]))), (a3, .inl (cI, 4, .inl (tb [10, 10, 10, 10])))]) rfl (fun H locs hP hD hS => ?_)
  refine lv_iinc (v := 1) (lv' := [(2, .int 1), (0, .ref a0), (1, .int 1)]) hx hb dX9_gathers_88 hl (k := 0) rfl (by decide +kernel) (by decide) rfl (fun ls hl => ?_)
  refine lv_goto (tgt := 61) hx hb dX9_gathers_91 (by decide) ?_
  refine lv_iload_n hx hb dX9_gathers_61 rfl (lv_at hl 0 rfl) ?_
  refine lv_aload_n hx hb dX9_gathers_62 rfl (lv_at hl 1 rfl) ?_
  refine gf (k := 12) hx hb hts inX9 hown hK hP k_807 rfl (by decide) rfl 1 rfl (.int 1) rfl dX9_gathers_63 ?_
  refine t_icmp_ge hx hb dX9_gathers_66 94 (by decide) (by decide +kernel) ?_
  refine lv_aload_n hx hb dX9_gathers_94 rfl (lv_at hl 1 rfl) ?_
  refine lv_dup hx hb dX9_gathers_95 rfl ?_
  refine gf (k := 35) hx hb hts inX9 hown hK hP k_830 rfl (by decide) rfl 1 rfl (.int 3) rfl dX9_gathers_96 ?_
  refine lv_iconst (v := 1) hx hb dX9_gathers_99 (by decide) ?_
  refine v_iadd hx hb dX9_gathers_100 4 (by decide +kernel) ?_
  refine pf (k := 35) hx hb hts inX9 tyX9_ok nmX9 hown hK hP hD hS k_830 rfl (by decide) rfl rfl 1 rfl rfl rfl (Nat.le_of_ble_eq_true rfl) dX9_gathers_101 (W' := [(a4, .inl (cI, 777924, .inl (tb [0, 0, 0, 0, 1, 0, 0, 0, 2, 0, 0, 0, 3]))), (a0, .inr (9, [.ref a5, .ref a6, .ref a1, .ref a3, .ref a7, .ref a8, .ref a9, .ref a10, .ref a11, .ref a12, .ref a13, .ref a14, .int 1, .int 0, .int 0, .ref a15, .ref a16, .ref a17, .ref a18, .ref a19, .ref a20, .int 0, .int 0, .ref a21, .ref a22, .ref a23, .ref a24, .int 0, .int 0, .ref a25, .ref a26, .ref a27, .ref a2, .int 1, .ref a4, .int 4])), (a1, .inl (cI, 4, .inl (tb [0, 0, 0, 0]))), (a2, .inl (cI, 4, .inl (tb [3]))), (a3, .inl (cI, 4, .inl (tb [10, 10, 10, 10])))]) rfl (fun H locs hP hD hS => ?_)
  exact r_v (fun _ => 0) hx hb hr hk hK hP hD hS dX9_gathers_104
set_option maxRecDepth 100000 in
set_option maxHeartbeats 4000000 in
theorem c526_X9_isPlan (l : Launch) (dC : Nat → ClassId) (dI : Nat → Nat → Nat) (cI cJ cII cJJ : ClassId) (sz g a0 a1 a2 a3 a4 a5 a6 a7 a8 a9 a10 a11 a12 a13 a14 a15 a16 a17 a18 a19 a20 a21 a22 a23 a24 a25 a26 a27 : Nat) : Met l yX9_isPlan (.code yX9_isPlan cX9_isPlan 5 (some .boolean) :: TT) ({ frames := 2, cells := 0, slots := 0, locals := 80 }) (PcS dC dI (TY cI cJ cII cJJ) [.ref a0, .ref a2, .int 0] [(a0, .inr (9, [.ref a4, .ref a5, .ref a1, .ref a3, .ref a6, .ref a7, .ref a8, .ref a9, .ref a10, .ref a11, .ref a12, .ref a13, .int 1, .int 0, .int 0, .ref a14, .ref a15, .ref a16, .ref a17, .ref a18, .ref a19, .int 0, .int 0, .ref a20, .ref a21, .ref a22, .ref a23, .int 0, .int 0, .ref a24, .ref a25, .ref a26, .ref a2, .int 1, .ref a27, .int 4])), (a1, .inl (cI, 4, .inl (tb [0, 0, 0, 0]))), (a2, .inl (cI, 4, .inl (tb [4]))), (a3, .inl (cI, 4, .inl (tb [10, 10, 10, 10])))] sz 0 g) ((QcI dC dI (TY cI cJ cII cJJ) 1 [(a0, .inr (9, [.ref a4, .ref a5, .ref a1, .ref a3, .ref a6, .ref a7, .ref a8, .ref a9, .ref a10, .ref a11, .ref a12, .ref a13, .int 1, .int 0, .int 0, .ref a14, .ref a15, .ref a16, .ref a17, .ref a18, .ref a19, .int 0, .int 0, .ref a20, .ref a21, .ref a22, .ref a23, .int 0, .int 0, .ref a24, .ref a25, .ref a26, .ref a2, .int 1, .ref a27, .int 4])), (a1, .inl (cI, 4, .inl (tb [0, 0, 0, 0]))), (a2, .inl (cI, 4, .inl (tb [4]))), (a3, .inl (cI, 4, .inl (tb [10, 10, 10, 10])))]) (va_A [(a0, .inr (9, [.ref a4, .ref a5, .ref a1, .ref a3, .ref a6, .ref a7, .ref a8, .ref a9, .ref a10, .ref a11, .ref a12, .ref a13, .int 1, .int 0, .int 0, .ref a14, .ref a15, .ref a16, .ref a17, .ref a18, .ref a19, .int 0, .int 0, .ref a20, .ref a21, .ref a22, .ref a23, .int 0, .int 0, .ref a24, .ref a25, .ref a26, .ref a2, .int 1, .ref a27, .int 4])), (a1, .inl (cI, 4, .inl (tb [0, 0, 0, 0]))), (a2, .inl (cI, 4, .inl (tb [4]))), (a3, .inl (cI, 4, .inl (tb [10, 10, 10, 10])))] sz)) 0 0 (va_A [(a0, .inr (9, [.ref a4, .ref a5, .ref a1, .ref a3, .ref a6, .ref a7, .ref a8, .ref a9, .ref a10, .ref a11, .ref a12, .ref a13, .int 1, .int 0, .int 0, .ref a14, .ref a15, .ref a16, .ref a17, .ref a18, .ref a19, .int 0, .int 0, .ref a20, .ref a21, .ref a22, .ref a23, .int 0, .int 0, .ref a24, .ref a25, .ref a26, .ref a2, .int 1, .ref a27, .int 4])), (a1, .inl (cI, 4, .inl (tb [0, 0, 0, 0]))), (a2, .inl (cI, 4, .inl (tb [4]))), (a3, .inl (cI, 4, .inl (tb [10, 10, 10, 10])))] sz) := by
  refine SM.of (y := yX9_isPlan) (maxL := 5) (av := [.ref a0, .ref a2, .int 0]) (QcI dC dI (TY cI cJ cII cJJ) 1 [(a0, .inr (9, [.ref a4, .ref a5, .ref a1, .ref a3, .ref a6, .ref a7, .ref a8, .ref a9, .ref a10, .ref a11, .ref a12, .ref a13, .int 1, .int 0, .int 0, .ref a14, .ref a15, .ref a16, .ref a17, .ref a18, .ref a19, .int 0, .int 0, .ref a20, .ref a21, .ref a22, .ref a23, .int 0, .int 0, .ref a24, .ref a25, .ref a26, .ref a2, .int 1, .ref a27, .int 4])), (a1, .inl (cI, 4, .inl (tb [0, 0, 0, 0]))), (a2, .inl (cI, 4, .inl (tb [4]))), (a3, .inl (cI, 4, .inl (tb [10, 10, 10, 10])))]) (by decide +kernel) (Nat.le_of_ble_eq_true rfl) (fun p e s m below meth c A ls hx hb hr hml hown hts hk hnm hA hK hP hD hS hX hl => ?_)
  have hown : s.vm.findClass RX9 = some m.cls := hown
  have hl : lv_has ls 5 [(0, .ref a0), (1, .ref a2), (2, .int 0)] := hl
  refine lv_iconst (v := 1) hx hb dX9_isPlan_0 (by decide) ?_
  refine lv_istore_n (lv' := [(3, .int 1), (0, .ref a0), (1, .ref a2), (2, .int 0)]) hx hb dX9_isPlan_1 rfl hl (by decide) rfl (fun ls hl => ?_)
  refine lv_iconst (v := 0) hx hb dX9_isPlan_2 (by decide) ?_
  refine lv_istore (lv' := [(4, .int 0), (3, .int 1), (0, .ref a0), (1, .ref a2), (2, .int 0)]) hx hb dX9_isPlan_3 hl (by decide) rfl (fun ls hl => ?_)
  refine lv_iload hx hb dX9_isPlan_5 (lv_at hl 0 rfl) ?_
  refine lv_aload_n hx hb dX9_isPlan_7 rfl (lv_at hl 2 rfl) ?_
  refine gf (k := 12) hx hb hts inX9 hown hK hP k_807 rfl (by decide) rfl 0 rfl (.int 1) rfl dX9_isPlan_8 ?_
  refine f_icmp_ge hx hb dX9_isPlan_11 62 (by decide) (by decide +kernel) ?_
  refine lv_iload_n hx hb dX9_isPlan_14 rfl (lv_at hl 1 rfl) ?_
  refine f_if_eq hx hb dX9_isPlan_15 62 (by decide) (by decide +kernel) ?_
  refine lv_aload_n hx hb dX9_isPlan_18 rfl (lv_at hl 2 rfl) ?_
  refine gf (k := 2) hx hb hts inX9 hown hK hP k_797 rfl (by decide) rfl 0 rfl (.ref a1) rfl dX9_isPlan_19 ?_
  refine lv_iload hx hb dX9_isPlan_22 (lv_at hl 0 rfl) ?_
  refine ld_i hx hb hK hP 1 rfl (vin (by decide +kernel)) dX9_isPlan_24 0 rfl ?_
  refine lv_aload_n hx hb dX9_isPlan_25 rfl (lv_at hl 3 rfl) ?_
  refine lv_iload_n hx hb dX9_isPlan_26 rfl (lv_at hl 4 rfl) ?_
  refine lv_iload hx hb dX9_isPlan_27 (lv_at hl 0 rfl) ?_
  refine v_iadd hx hb dX9_isPlan_29 0 (by decide +kernel) ?_
  refine ld_i hx hb hK hP 2 rfl (vin (by decide +kernel)) dX9_isPlan_30 4 rfl ?_
  refine f_icmp_gt hx hb dX9_isPlan_31 54 (by decide) (by decide +kernel) ?_
  refine lv_aload_n hx hb dX9_isPlan_34 rfl (lv_at hl 3 rfl) ?_
  refine lv_iload_n hx hb dX9_isPlan_35 rfl (lv_at hl 4 rfl) ?_
  refine lv_iload hx hb dX9_isPlan_36 (lv_at hl 0 rfl) ?_
  refine v_iadd hx hb dX9_isPlan_38 0 (by decide +kernel) ?_
  refine ld_i hx hb hK hP 2 rfl (vin (by decide +kernel)) dX9_isPlan_39 4 rfl ?_
  refine lv_aload_n hx hb dX9_isPlan_40 rfl (lv_at hl 2 rfl) ?_
  refine gf (k := 3) hx hb hts inX9 hown hK hP k_798 rfl (by decide) rfl 0 rfl (.ref a3) rfl dX9_isPlan_41 ?_
  refine lv_iload hx hb dX9_isPlan_44 (lv_at hl 0 rfl) ?_
  refine ld_i hx hb hK hP 3 rfl (vin (by decide +kernel)) dX9_isPlan_46 10 rfl ?_
  refine f_icmp_gt hx hb dX9_isPlan_47 54 (by decide) (by decide +kernel) ?_
  refine lv_iconst (v := 1) hx hb dX9_isPlan_50 (by decide) ?_
  refine lv_goto (tgt := 55) hx hb dX9_isPlan_51 (by decide) ?_
  refine lv_istore_n (lv' := [(3, .int 1), (4, .int 0), (0, .ref a0), (1, .ref a2), (2, .int 0)]) hx hb dX9_isPlan_55 rfl hl (by decide) rfl (fun ls hl => ?_)
  refine lv_iinc (v := 1) (lv' := [(4, .int 1), (3, .int 1), (0, .ref a0), (1, .ref a2), (2, .int 0)]) hx hb dX9_isPlan_56 hl (k := 1) rfl (by decide +kernel) (by decide) rfl (fun ls hl => ?_)
  refine lv_goto (tgt := 5) hx hb dX9_isPlan_59 (by decide) ?_
  refine lv_iload hx hb dX9_isPlan_5 (lv_at hl 0 rfl) ?_
  refine lv_aload_n hx hb dX9_isPlan_7 rfl (lv_at hl 2 rfl) ?_
  refine gf (k := 12) hx hb hts inX9 hown hK hP k_807 rfl (by decide) rfl 0 rfl (.int 1) rfl dX9_isPlan_8 ?_
  refine t_icmp_ge hx hb dX9_isPlan_11 62 (by decide) (by decide +kernel) ?_
  refine lv_iconst (v := 0) hx hb dX9_isPlan_62 (by decide) ?_
  refine lv_istore (lv' := [(4, .int 0), (3, .int 1), (0, .ref a0), (1, .ref a2), (2, .int 0)]) hx hb dX9_isPlan_63 hl (by decide) rfl (fun ls hl => ?_)
  refine lv_iload hx hb dX9_isPlan_65 (lv_at hl 0 rfl) ?_
  refine lv_aload_n hx hb dX9_isPlan_67 rfl (lv_at hl 2 rfl) ?_
  refine gf (k := 13) hx hb hts inX9 hown hK hP k_808 rfl (by decide) rfl 0 rfl (.int 0) rfl dX9_isPlan_68 ?_
  refine t_icmp_ge hx hb dX9_isPlan_71 108 (by decide) (by decide +kernel) ?_
  refine lv_iload_n hx hb dX9_isPlan_108 rfl (lv_at hl 1 rfl) ?_
  exact r_z hx hb hr hk hK hP hD hS dX9_isPlan_109 rfl
set_option maxRecDepth 100000 in
set_option maxHeartbeats 4000000 in
theorem c525_X9_gathers (l : Launch) (dC : Nat → ClassId) (dI : Nat → Nat → Nat) (cI cJ cII cJJ : ClassId) (sz g a0 a1 a2 a3 a4 a5 a6 a7 a8 a9 a10 a11 a12 a13 a14 a15 a16 a17 a18 a19 a20 a21 a22 a23 a24 a25 a26 a27 : Nat) : Met l yX9_gathers (.code yX9_gathers cX9_gathers 3 none :: TT) ({ frames := 3, cells := 0, slots := 0, locals := 140 }) (PcS dC dI (TY cI cJ cII cJJ) [.ref a0, .int 1] [(a0, .inr (9, [.ref a5, .ref a6, .ref a1, .ref a3, .ref a7, .ref a8, .ref a9, .ref a10, .ref a11, .ref a12, .ref a13, .ref a14, .int 1, .int 0, .int 0, .ref a15, .ref a16, .ref a17, .ref a18, .ref a19, .ref a20, .int 0, .int 0, .ref a21, .ref a22, .ref a23, .ref a24, .int 0, .int 0, .ref a25, .ref a26, .ref a27, .ref a2, .int 1, .ref a4, .int 4])), (a1, .inl (cI, 4, .inl (tb [0, 0, 0, 0]))), (a2, .inl (cI, 4, .inl (tb [4]))), (a3, .inl (cI, 4, .inl (tb [10, 10, 10, 10]))), (a4, .inl (cI, 777924, .inl (tb [0, 0, 0, 0, 1, 0, 0, 0, 2, 0, 0, 0, 3])))] sz 0 g) ((QcV dC dI (TY cI cJ cII cJJ) (fun _ => [(a4, .inl (cI, 777924, .inl (tb [0, 0, 0, 0, 1, 0, 0, 0, 2, 0, 0, 0, 3, 0, 0, 0, 4]))), (a0, .inr (9, [.ref a5, .ref a6, .ref a1, .ref a3, .ref a7, .ref a8, .ref a9, .ref a10, .ref a11, .ref a12, .ref a13, .ref a14, .int 1, .int 0, .int 0, .ref a15, .ref a16, .ref a17, .ref a18, .ref a19, .ref a20, .int 0, .int 0, .ref a21, .ref a22, .ref a23, .ref a24, .int 0, .int 0, .ref a25, .ref a26, .ref a27, .ref a2, .int 1, .ref a4, .int 5])), (a1, .inl (cI, 4, .inl (tb [0, 0, 0, 0]))), (a2, .inl (cI, 4, .inl (tb [4]))), (a3, .inl (cI, 4, .inl (tb [10, 10, 10, 10])))])) (va_A [(a0, .inr (9, [.ref a5, .ref a6, .ref a1, .ref a3, .ref a7, .ref a8, .ref a9, .ref a10, .ref a11, .ref a12, .ref a13, .ref a14, .int 1, .int 0, .int 0, .ref a15, .ref a16, .ref a17, .ref a18, .ref a19, .ref a20, .int 0, .int 0, .ref a21, .ref a22, .ref a23, .ref a24, .int 0, .int 0, .ref a25, .ref a26, .ref a27, .ref a2, .int 1, .ref a4, .int 4])), (a1, .inl (cI, 4, .inl (tb [0, 0, 0, 0]))), (a2, .inl (cI, 4, .inl (tb [4]))), (a3, .inl (cI, 4, .inl (tb [10, 10, 10, 10]))), (a4, .inl (cI, 777924, .inl (tb [0, 0, 0, 0, 1, 0, 0, 0, 2, 0, 0, 0, 3])))] sz)) 0 0 (va_A [(a0, .inr (9, [.ref a5, .ref a6, .ref a1, .ref a3, .ref a7, .ref a8, .ref a9, .ref a10, .ref a11, .ref a12, .ref a13, .ref a14, .int 1, .int 0, .int 0, .ref a15, .ref a16, .ref a17, .ref a18, .ref a19, .ref a20, .int 0, .int 0, .ref a21, .ref a22, .ref a23, .ref a24, .int 0, .int 0, .ref a25, .ref a26, .ref a27, .ref a2, .int 1, .ref a4, .int 4])), (a1, .inl (cI, 4, .inl (tb [0, 0, 0, 0]))), (a2, .inl (cI, 4, .inl (tb [4]))), (a3, .inl (cI, 4, .inl (tb [10, 10, 10, 10]))), (a4, .inl (cI, 777924, .inl (tb [0, 0, 0, 0, 1, 0, 0, 0, 2, 0, 0, 0, 3])))] sz) := by
  refine SM.of (y := yX9_gathers) (maxL := 3) (av := [.ref a0, .int 1]) (QcV dC dI (TY cI cJ cII cJJ) (fun _ => [(a4, .inl (cI, 777924, .inl (tb [0, 0, 0, 0, 1, 0, 0, 0, 2, 0, 0, 0, 3, 0, 0, 0, 4]))), (a0, .inr (9, [.ref a5, .ref a6, .ref a1, .ref a3, .ref a7, .ref a8, .ref a9, .ref a10, .ref a11, .ref a12, .ref a13, .ref a14, .int 1, .int 0, .int 0, .ref a15, .ref a16, .ref a17, .ref a18, .ref a19, .ref a20, .int 0, .int 0, .ref a21, .ref a22, .ref a23, .ref a24, .int 0, .int 0, .ref a25, .ref a26, .ref a27, .ref a2, .int 1, .ref a4, .int 5])), (a1, .inl (cI, 4, .inl (tb [0, 0, 0, 0]))), (a2, .inl (cI, 4, .inl (tb [4]))), (a3, .inl (cI, 4, .inl (tb [10, 10, 10, 10])))])) (by decide +kernel) (Nat.le_of_ble_eq_true rfl) (fun p e s m below meth c A ls hx hb hr hml hown hts hk hnm hA hK hP hD hS hX hl => ?_)
  have hown : s.vm.findClass RX9 = some m.cls := hown
  have hl : lv_has ls 3 [(0, .ref a0), (1, .int 1)] := hl
  refine lv_iload_n hx hb dX9_gathers_0 rfl (lv_at hl 1 rfl) ?_
  refine lv_aload_n hx hb dX9_gathers_1 rfl (lv_at hl 0 rfl) ?_
  refine gf (k := 12) hx hb hts inX9 hown hK hP k_807 rfl (by decide) rfl 0 rfl (.int 1) rfl dX9_gathers_2 ?_
  refine t_icmp_ge hx hb dX9_gathers_5 46 (by decide) (by decide +kernel) ?_
  refine lv_aload_n hx hb dX9_gathers_46 rfl (lv_at hl 0 rfl) ?_
  refine lv_aload_n hx hb dX9_gathers_47 rfl (lv_at hl 0 rfl) ?_
  refine gf (k := 32) hx hb hts inX9 hown hK hP k_827 rfl (by decide) rfl 0 rfl (.ref a2) rfl dX9_gathers_48 ?_
  refine lv_iconst (v := 0) hx hb dX9_gathers_51 (by decide) ?_
  refine kV_i (q0 := 0) ⟨hx, hb, hml, hown, hts⟩ hK hP hD hS hA hX cv_RX9_199 [0, 1, 2, 3] [4] (wr := [(a4, .inl (cI, 777924, .inl (tb [0, 0, 0, 0, 1, 0, 0, 0, 2, 0, 0, 0, 3])))]) rfl rfl rfl rfl (by decide) (c526_X9_isPlan l dC dI cI cJ cII cJJ s.heap.size 0 a0 a1 a2 a3 a5 a6 a7 a8 a9 a10 a11 a12 a13 a14 a15 a16 a17 a18 a19 a20 a21 a22 a23 a24 a25 a26 a27 a4) ⟨by decide +kernel, by decide +kernel⟩ rfl rfl (Or.inl rfl) (rest := []) rfl rfl rfl hl.1 rfl (Nat.le_of_ble_eq_true rfl) dX9_gathers_52 ⟨Nat.le_of_ble_eq_true rfl, Nat.le_of_ble_eq_true rfl⟩ (W' := [(a4, .inl (cI, 777924, .inl (tb [0, 0, 0, 0, 1, 0, 0, 0, 2, 0, 0, 0, 3]))), (a0, .inr (9, [.ref a5, .ref a6, .ref a1, .ref a3, .ref a7, .ref a8, .ref a9, .ref a10, .ref a11, .ref a12, .ref a13, .ref a14, .int 1, .int 0, .int 0, .ref a15, .ref a16, .ref a17, .ref a18, .ref a19, .ref a20, .int 0, .int 0, .ref a21, .ref a22, .ref a23, .ref a24, .int 0, .int 0, .ref a25, .ref a26, .ref a27, .ref a2, .int 1, .ref a4, .int 4])), (a1, .inl (cI, 4, .inl (tb [0, 0, 0, 0]))), (a2, .inl (cI, 4, .inl (tb [4]))), (a3, .inl (cI, 4, .inl (tb [10, 10, 10, 10])))]) rfl (fun H locs hP hD hS => ?_)
  refine t_if_ne hx hb dX9_gathers_55 59 (by decide) (by decide +kernel) ?_
  refine lv_iconst (v := 0) hx hb dX9_gathers_59 (by decide) ?_
  refine lv_istore_n (lv' := [(2, .int 0), (0, .ref a0), (1, .int 1)]) hx hb dX9_gathers_60 rfl hl (by decide) rfl (fun ls hl => ?_)
  refine lv_iload_n hx hb dX9_gathers_61 rfl (lv_at hl 0 rfl) ?_
  refine lv_aload_n hx hb dX9_gathers_62 rfl (lv_at hl 1 rfl) ?_
  refine gf (k := 12) hx hb hts inX9 hown hK hP k_807 rfl (by decide) rfl 1 rfl (.int 1) rfl dX9_gathers_63 ?_
  refine f_icmp_ge hx hb dX9_gathers_66 94 (by decide) (by decide +kernel) ?_
  refine lv_aload_n hx hb dX9_gathers_69 rfl (lv_at hl 1 rfl) ?_
  refine gf (k := 34) hx hb hts inX9 hown hK hP k_829 rfl (by decide) rfl 1 rfl (.ref a4) rfl dX9_gathers_70 ?_
  refine lv_iconst (v := 4) hx hb dX9_gathers_73 (by decide) ?_
  refine lv_aload_n hx hb dX9_gathers_74 rfl (lv_at hl 1 rfl) ?_
  refine gf (k := 35) hx hb hts inX9 hown hK hP k_830 rfl (by decide) rfl 1 rfl (.int 4) rfl dX9_gathers_75 ?_
  refine v_imul hx hb dX9_gathers_78 16 (by decide +kernel) ?_
  refine lv_iload_n hx hb dX9_gathers_79 rfl (lv_at hl 0 rfl) ?_
  refine v_iadd hx hb dX9_gathers_80 16 (by decide +kernel) ?_
  refine lv_aload_n hx hb dX9_gathers_81 rfl (lv_at hl 1 rfl) ?_
  refine gf (k := 32) hx hb hts inX9 hown hK hP k_827 rfl (by decide) rfl 1 rfl (.ref a2) rfl dX9_gathers_82 ?_
  refine lv_iload_n hx hb dX9_gathers_85 rfl (lv_at hl 0 rfl) ?_
  refine ld_i hx hb hK hP 3 rfl (vin (by decide +kernel)) dX9_gathers_86 4 rfl ?_
  refine st_i hx hb hK hP hD hS 0 rfl (vin (by decide +kernel)) dX9_gathers_87 (L' := [0, 0, 0, 0, 1, 0, 0, 0, 2, 0, 0, 0, 3, 0, 0, 0, 4]) rfl (W' := [(a4, .inl (cI, 777924, .inl (tb [0, 0, 0, 0, 1, 0, 0, 0, 2, 0, 0, 0, 3, 0, 0, 0, 4]))), (a0, .inr (9, [.ref a5, .ref a6, .ref a1, .ref a3, .ref a7, .ref a8, .ref a9, .ref a10, .ref a11, .ref a12, .ref a13, .ref a14, .int 1, .int 0, .int 0, .ref a15, .ref a16, .ref a17, .ref a18, .ref a19, .ref a20, .int 0, .int 0, .ref a21, .ref a22, .ref a23, .ref a24, .int 0, .int 0, .ref a25, .ref a26, .ref a27, .ref a2, .int 1, .ref a4, .int 4])), (a1, .inl (cI, 4, .inl (tb [0, 0, 0, 0]))), (a2, .inl (cI, 4, .inl (tb [4]))), (a3, .inl (cI, 4, .inl (tb [10, 10, 10, 10])))]) rfl (fun H locs hP hD hS => ?_)
  refine lv_iinc (v := 1) (lv' := [(2, .int 1), (0, .ref a0), (1, .int 1)]) hx hb dX9_gathers_88 hl (k := 0) rfl (by decide +kernel) (by decide) rfl (fun ls hl => ?_)
  refine lv_goto (tgt := 61) hx hb dX9_gathers_91 (by decide) ?_
  refine lv_iload_n hx hb dX9_gathers_61 rfl (lv_at hl 0 rfl) ?_
  refine lv_aload_n hx hb dX9_gathers_62 rfl (lv_at hl 1 rfl) ?_
  refine gf (k := 12) hx hb hts inX9 hown hK hP k_807 rfl (by decide) rfl 1 rfl (.int 1) rfl dX9_gathers_63 ?_
  refine t_icmp_ge hx hb dX9_gathers_66 94 (by decide) (by decide +kernel) ?_
  refine lv_aload_n hx hb dX9_gathers_94 rfl (lv_at hl 1 rfl) ?_
  refine lv_dup hx hb dX9_gathers_95 rfl ?_
  refine gf (k := 35) hx hb hts inX9 hown hK hP k_830 rfl (by decide) rfl 1 rfl (.int 4) rfl dX9_gathers_96 ?_
  refine lv_iconst (v := 1) hx hb dX9_gathers_99 (by decide) ?_
  refine v_iadd hx hb dX9_gathers_100 5 (by decide +kernel) ?_
  refine pf (k := 35) hx hb hts inX9 tyX9_ok nmX9 hown hK hP hD hS k_830 rfl (by decide) rfl rfl 1 rfl rfl rfl (Nat.le_of_ble_eq_true rfl) dX9_gathers_101 (W' := [(a4, .inl (cI, 777924, .inl (tb [0, 0, 0, 0, 1, 0, 0, 0, 2, 0, 0, 0, 3, 0, 0, 0, 4]))), (a0, .inr (9, [.ref a5, .ref a6, .ref a1, .ref a3, .ref a7, .ref a8, .ref a9, .ref a10, .ref a11, .ref a12, .ref a13, .ref a14, .int 1, .int 0, .int 0, .ref a15, .ref a16, .ref a17, .ref a18, .ref a19, .ref a20, .int 0, .int 0, .ref a21, .ref a22, .ref a23, .ref a24, .int 0, .int 0, .ref a25, .ref a26, .ref a27, .ref a2, .int 1, .ref a4, .int 5])), (a1, .inl (cI, 4, .inl (tb [0, 0, 0, 0]))), (a2, .inl (cI, 4, .inl (tb [4]))), (a3, .inl (cI, 4, .inl (tb [10, 10, 10, 10])))]) rfl (fun H locs hP hD hS => ?_)
  exact r_v (fun _ => 0) hx hb hr hk hK hP hD hS dX9_gathers_104
set_option maxRecDepth 100000 in
set_option maxHeartbeats 4000000 in
theorem c528_X9_isPlan (l : Launch) (dC : Nat → ClassId) (dI : Nat → Nat → Nat) (cI cJ cII cJJ : ClassId) (sz g a0 a1 a2 a3 a4 a5 a6 a7 a8 a9 a10 a11 a12 a13 a14 a15 a16 a17 a18 a19 a20 a21 a22 a23 a24 a25 a26 a27 : Nat) : Met l yX9_isPlan (.code yX9_isPlan cX9_isPlan 5 (some .boolean) :: TT) ({ frames := 2, cells := 0, slots := 0, locals := 80 }) (PcS dC dI (TY cI cJ cII cJJ) [.ref a0, .ref a2, .int 0] [(a0, .inr (9, [.ref a4, .ref a5, .ref a1, .ref a3, .ref a6, .ref a7, .ref a8, .ref a9, .ref a10, .ref a11, .ref a12, .ref a13, .int 1, .int 0, .int 0, .ref a14, .ref a15, .ref a16, .ref a17, .ref a18, .ref a19, .int 0, .int 0, .ref a20, .ref a21, .ref a22, .ref a23, .int 0, .int 0, .ref a24, .ref a25, .ref a26, .ref a2, .int 1, .ref a27, .int 5])), (a1, .inl (cI, 4, .inl (tb [0, 0, 0, 0]))), (a2, .inl (cI, 4, .inl (tb [5]))), (a3, .inl (cI, 4, .inl (tb [10, 10, 10, 10])))] sz 0 g) ((QcI dC dI (TY cI cJ cII cJJ) 1 [(a0, .inr (9, [.ref a4, .ref a5, .ref a1, .ref a3, .ref a6, .ref a7, .ref a8, .ref a9, .ref a10, .ref a11, .ref a12, .ref a13, .int 1, .int 0, .int 0, .ref a14, .ref a15, .ref a16, .ref a17, .ref a18, .ref a19, .int 0, .int 0, .ref a20, .ref a21, .ref a22, .ref a23, .int 0, .int 0, .ref a24, .ref a25, .ref a26, .ref a2, .int 1, .ref a27, .int 5])), (a1, .inl (cI, 4, .inl (tb [0, 0, 0, 0]))), (a2, .inl (cI, 4, .inl (tb [5]))), (a3, .inl (cI, 4, .inl (tb [10, 10, 10, 10])))]) (va_A [(a0, .inr (9, [.ref a4, .ref a5, .ref a1, .ref a3, .ref a6, .ref a7, .ref a8, .ref a9, .ref a10, .ref a11, .ref a12, .ref a13, .int 1, .int 0, .int 0, .ref a14, .ref a15, .ref a16, .ref a17, .ref a18, .ref a19, .int 0, .int 0, .ref a20, .ref a21, .ref a22, .ref a23, .int 0, .int 0, .ref a24, .ref a25, .ref a26, .ref a2, .int 1, .ref a27, .int 5])), (a1, .inl (cI, 4, .inl (tb [0, 0, 0, 0]))), (a2, .inl (cI, 4, .inl (tb [5]))), (a3, .inl (cI, 4, .inl (tb [10, 10, 10, 10])))] sz)) 0 0 (va_A [(a0, .inr (9, [.ref a4, .ref a5, .ref a1, .ref a3, .ref a6, .ref a7, .ref a8, .ref a9, .ref a10, .ref a11, .ref a12, .ref a13, .int 1, .int 0, .int 0, .ref a14, .ref a15, .ref a16, .ref a17, .ref a18, .ref a19, .int 0, .int 0, .ref a20, .ref a21, .ref a22, .ref a23, .int 0, .int 0, .ref a24, .ref a25, .ref a26, .ref a2, .int 1, .ref a27, .int 5])), (a1, .inl (cI, 4, .inl (tb [0, 0, 0, 0]))), (a2, .inl (cI, 4, .inl (tb [5]))), (a3, .inl (cI, 4, .inl (tb [10, 10, 10, 10])))] sz) := by
  refine SM.of (y := yX9_isPlan) (maxL := 5) (av := [.ref a0, .ref a2, .int 0]) (QcI dC dI (TY cI cJ cII cJJ) 1 [(a0, .inr (9, [.ref a4, .ref a5, .ref a1, .ref a3, .ref a6, .ref a7, .ref a8, .ref a9, .ref a10, .ref a11, .ref a12, .ref a13, .int 1, .int 0, .int 0, .ref a14, .ref a15, .ref a16, .ref a17, .ref a18, .ref a19, .int 0, .int 0, .ref a20, .ref a21, .ref a22, .ref a23, .int 0, .int 0, .ref a24, .ref a25, .ref a26, .ref a2, .int 1, .ref a27, .int 5])), (a1, .inl (cI, 4, .inl (tb [0, 0, 0, 0]))), (a2, .inl (cI, 4, .inl (tb [5]))), (a3, .inl (cI, 4, .inl (tb [10, 10, 10, 10])))]) (by decide +kernel) (Nat.le_of_ble_eq_true rfl) (fun p e s m below meth c A ls hx hb hr hml hown hts hk hnm hA hK hP hD hS hX hl => ?_)
  have hown : s.vm.findClass RX9 = some m.cls := hown
  have hl : lv_has ls 5 [(0, .ref a0), (1, .ref a2), (2, .int 0)] := hl
  refine lv_iconst (v := 1) hx hb dX9_isPlan_0 (by decide) ?_
  refine lv_istore_n (lv' := [(3, .int 1), (0, .ref a0), (1, .ref a2), (2, .int 0)]) hx hb dX9_isPlan_1 rfl hl (by decide) rfl (fun ls hl => ?_)
  refine lv_iconst (v := 0) hx hb dX9_isPlan_2 (by decide) ?_
  refine lv_istore (lv' := [(4, .int 0), (3, .int 1), (0, .ref a0), (1, .ref a2), (2, .int 0)]) hx hb dX9_isPlan_3 hl (by decide) rfl (fun ls hl => ?_)
  refine lv_iload hx hb dX9_isPlan_5 (lv_at hl 0 rfl) ?_
  refine lv_aload_n hx hb dX9_isPlan_7 rfl (lv_at hl 2 rfl) ?_
  refine gf (k := 12) hx hb hts inX9 hown hK hP k_807 rfl (by decide) rfl 0 rfl (.int 1) rfl dX9_isPlan_8 ?_
  refine f_icmp_ge hx hb dX9_isPlan_11 62 (by decide) (by decide +kernel) ?_
  refine lv_iload_n hx hb dX9_isPlan_14 rfl (lv_at hl 1 rfl) ?_
  refine f_if_eq hx hb dX9_isPlan_15 62 (by decide) (by decide +kernel) ?_
  refine lv_aload_n hx hb dX9_isPlan_18 rfl (lv_at hl 2 rfl) ?_
  refine gf (k := 2) hx hb hts inX9 hown hK hP k_797 rfl (by decide) rfl 0 rfl (.ref a1) rfl dX9_isPlan_19 ?_
  refine lv_iload hx hb dX9_isPlan_22 (lv_at hl 0 rfl) ?_
  refine ld_i hx hb hK hP 1 rfl (vin (by decide +kernel)) dX9_isPlan_24 0 rfl ?_
  refine lv_aload_n hx hb dX9_isPlan_25 rfl (lv_at hl 3 rfl) ?_
  refine lv_iload_n hx hb dX9_isPlan_26 rfl (lv_at hl 4 rfl) ?_
  refine lv_iload hx hb dX9_isPlan_27 (lv_at hl 0 rfl) ?_
  refine v_iadd hx hb dX9_isPlan_29 0 (by decide +kernel) ?_
  refine ld_i hx hb hK hP 2 rfl (vin (by decide +kernel)) dX9_isPlan_30 5 rfl ?_
  refine f_icmp_gt hx hb dX9_isPlan_31 54 (by decide) (by decide +kernel) ?_
  refine lv_aload_n hx hb dX9_isPlan_34 rfl (lv_at hl 3 rfl) ?_
  refine lv_iload_n hx hb dX9_isPlan_35 rfl (lv_at hl 4 rfl) ?_
  refine lv_iload hx hb dX9_isPlan_36 (lv_at hl 0 rfl) ?_
  refine v_iadd hx hb dX9_isPlan_38 0 (by decide +kernel) ?_
  refine ld_i hx hb hK hP 2 rfl (vin (by decide +kernel)) dX9_isPlan_39 5 rfl ?_
  refine lv_aload_n hx hb dX9_isPlan_40 rfl (lv_at hl 2 rfl) ?_
  refine gf (k := 3) hx hb hts inX9 hown hK hP k_798 rfl (by decide) rfl 0 rfl (.ref a3) rfl dX9_isPlan_41 ?_
  refine lv_iload hx hb dX9_isPlan_44 (lv_at hl 0 rfl) ?_
  refine ld_i hx hb hK hP 3 rfl (vin (by decide +kernel)) dX9_isPlan_46 10 rfl ?_
  refine f_icmp_gt hx hb dX9_isPlan_47 54 (by decide) (by decide +kernel) ?_
  refine lv_iconst (v := 1) hx hb dX9_isPlan_50 (by decide) ?_
  refine lv_goto (tgt := 55) hx hb dX9_isPlan_51 (by decide) ?_
  refine lv_istore_n (lv' := [(3, .int 1), (4, .int 0), (0, .ref a0), (1, .ref a2), (2, .int 0)]) hx hb dX9_isPlan_55 rfl hl (by decide) rfl (fun ls hl => ?_)
  refine lv_iinc (v := 1) (lv' := [(4, .int 1), (3, .int 1), (0, .ref a0), (1, .ref a2), (2, .int 0)]) hx hb dX9_isPlan_56 hl (k := 1) rfl (by decide +kernel) (by decide) rfl (fun ls hl => ?_)
  refine lv_goto (tgt := 5) hx hb dX9_isPlan_59 (by decide) ?_
  refine lv_iload hx hb dX9_isPlan_5 (lv_at hl 0 rfl) ?_
  refine lv_aload_n hx hb dX9_isPlan_7 rfl (lv_at hl 2 rfl) ?_
  refine gf (k := 12) hx hb hts inX9 hown hK hP k_807 rfl (by decide) rfl 0 rfl (.int 1) rfl dX9_isPlan_8 ?_
  refine t_icmp_ge hx hb dX9_isPlan_11 62 (by decide) (by decide +kernel) ?_
  refine lv_iconst (v := 0) hx hb dX9_isPlan_62 (by decide) ?_
  refine lv_istore (lv' := [(4, .int 0), (3, .int 1), (0, .ref a0), (1, .ref a2), (2, .int 0)]) hx hb dX9_isPlan_63 hl (by decide) rfl (fun ls hl => ?_)
  refine lv_iload hx hb dX9_isPlan_65 (lv_at hl 0 rfl) ?_
  refine lv_aload_n hx hb dX9_isPlan_67 rfl (lv_at hl 2 rfl) ?_
  refine gf (k := 13) hx hb hts inX9 hown hK hP k_808 rfl (by decide) rfl 0 rfl (.int 0) rfl dX9_isPlan_68 ?_
  refine t_icmp_ge hx hb dX9_isPlan_71 108 (by decide) (by decide +kernel) ?_
  refine lv_iload_n hx hb dX9_isPlan_108 rfl (lv_at hl 1 rfl) ?_
  exact r_z hx hb hr hk hK hP hD hS dX9_isPlan_109 rfl
set_option maxRecDepth 100000 in
set_option maxHeartbeats 4000000 in
theorem c527_X9_gathers (l : Launch) (dC : Nat → ClassId) (dI : Nat → Nat → Nat) (cI cJ cII cJJ : ClassId) (sz g a0 a1 a2 a3 a4 a5 a6 a7 a8 a9 a10 a11 a12 a13 a14 a15 a16 a17 a18 a19 a20 a21 a22 a23 a24 a25 a26 a27 : Nat) : Met l yX9_gathers (.code yX9_gathers cX9_gathers 3 none :: TT) ({ frames := 3, cells := 0, slots := 0, locals := 140 }) (PcS dC dI (TY cI cJ cII cJJ) [.ref a0, .int 1] [(a0, .inr (9, [.ref a5, .ref a6, .ref a1, .ref a3, .ref a7, .ref a8, .ref a9, .ref a10, .ref a11, .ref a12, .ref a13, .ref a14, .int 1, .int 0, .int 0, .ref a15, .ref a16, .ref a17, .ref a18, .ref a19, .ref a20, .int 0, .int 0, .ref a21, .ref a22, .ref a23, .ref a24, .int 0, .int 0, .ref a25, .ref a26, .ref a27, .ref a2, .int 1, .ref a4, .int 5])), (a1, .inl (cI, 4, .inl (tb [0, 0, 0, 0]))), (a2, .inl (cI, 4, .inl (tb [5]))), (a3, .inl (cI, 4, .inl (tb [10, 10, 10, 10]))), (a4, .inl (cI, 777924, .inl (tb [0, 0, 0, 0, 1, 0, 0, 0, 2, 0, 0, 0, 3, 0, 0, 0, 4])))] sz 0 g) ((QcV dC dI (TY cI cJ cII cJJ) (fun _ => [(a4, .inl (cI, 777924, .inl (tb [0, 0, 0, 0, 1, 0, 0, 0, 2, 0, 0, 0, 3, 0, 0, 0, 4, 0, 0, 0, 5]))), (a0, .inr (9, [.ref a5, .ref a6, .ref a1, .ref a3, .ref a7, .ref a8, .ref a9, .ref a10, .ref a11, .ref a12, .ref a13, .ref a14, .int 1, .int 0, .int 0, .ref a15, .ref a16, .ref a17, .ref a18, .ref a19, .ref a20, .int 0, .int 0, .ref a21, .ref a22, .ref a23, .ref a24, .int 0, .int 0, .ref a25, .ref a26, .ref a27, .ref a2, .int 1, .ref a4, .int 6])), (a1, .inl (cI, 4, .inl (tb [0, 0, 0, 0]))), (a2, .inl (cI, 4, .inl (tb [5]))), (a3, .inl (cI, 4, .inl (tb [10, 10, 10, 10])))])) (va_A [(a0, .inr (9, [.ref a5, .ref a6, .ref a1, .ref a3, .ref a7, .ref a8, .ref a9, .ref a10, .ref a11, .ref a12, .ref a13, .ref a14, .int 1, .int 0, .int 0, .ref a15, .ref a16, .ref a17, .ref a18, .ref a19, .ref a20, .int 0, .int 0, .ref a21, .ref a22, .ref a23, .ref a24, .int 0, .int 0, .ref a25, .ref a26, .ref a27, .ref a2, .int 1, .ref a4, .int 5])), (a1, .inl (cI, 4, .inl (tb [0, 0, 0, 0]))), (a2, .inl (cI, 4, .inl (tb [5]))), (a3, .inl (cI, 4, .inl (tb [10, 10, 10, 10]))), (a4, .inl (cI, 777924, .inl (tb [0, 0, 0, 0, 1, 0, 0, 0, 2, 0, 0, 0, 3, 0, 0, 0, 4])))] sz)) 0 0 (va_A [(a0, .inr (9, [.ref a5, .ref a6, .ref a1, .ref a3, .ref a7, .ref a8, .ref a9, .ref a10, .ref a11, .ref a12, .ref a13, .ref a14, .int 1, .int 0, .int 0, .ref a15, .ref a16, .ref a17, .ref a18, .ref a19, .ref a20, .int 0, .int 0, .ref a21, .ref a22, .ref a23, .ref a24, .int 0, .int 0, .ref a25, .ref a26, .ref a27, .ref a2, .int 1, .ref a4, .int 5])), (a1, .inl (cI, 4, .inl (tb [0, 0, 0, 0]))), (a2, .inl (cI, 4, .inl (tb [5]))), (a3, .inl (cI, 4, .inl (tb [10, 10, 10, 10]))), (a4, .inl (cI, 777924, .inl (tb [0, 0, 0, 0, 1, 0, 0, 0, 2, 0, 0, 0, 3, 0, 0, 0, 4])))] sz) := by
  refine SM.of (y := yX9_gathers) (maxL := 3) (av := [.ref a0, .int 1]) (QcV dC dI (TY cI cJ cII cJJ) (fun _ => [(a4, .inl (cI, 777924, .inl (tb [0, 0, 0, 0, 1, 0, 0, 0, 2, 0, 0, 0, 3, 0, 0, 0, 4, 0, 0, 0, 5]))), (a0, .inr (9, [.ref a5, .ref a6, .ref a1, .ref a3, .ref a7, .ref a8, .ref a9, .ref a10, .ref a11, .ref a12, .ref a13, .ref a14, .int 1, .int 0, .int 0, .ref a15, .ref a16, .ref a17, .ref a18, .ref a19, .ref a20, .int 0, .int 0, .ref a21, .ref a22, .ref a23, .ref a24, .int 0, .int 0, .ref a25, .ref a26, .ref a27, .ref a2, .int 1, .ref a4, .int 6])), (a1, .inl (cI, 4, .inl (tb [0, 0, 0, 0]))), (a2, .inl (cI, 4, .inl (tb [5]))), (a3, .inl (cI, 4, .inl (tb [10, 10, 10, 10])))])) (by decide +kernel) (Nat.le_of_ble_eq_true rfl) (fun p e s m below meth c A ls hx hb hr hml hown hts hk hnm hA hK hP hD hS hX hl => ?_)
  have hown : s.vm.findClass RX9 = some m.cls := hown
  have hl : lv_has ls 3 [(0, .ref a0), (1, .int 1)] := hl
  refine lv_iload_n hx hb dX9_gathers_0 rfl (lv_at hl 1 rfl) ?_
  refine lv_aload_n hx hb dX9_gathers_1 rfl (lv_at hl 0 rfl) ?_
  refine gf (k := 12) hx hb hts inX9 hown hK hP k_807 rfl (by decide) rfl 0 rfl (.int 1) rfl dX9_gathers_2 ?_
  refine t_icmp_ge hx hb dX9_gathers_5 46 (by decide) (by decide +kernel) ?_
  refine lv_aload_n hx hb dX9_gathers_46 rfl (lv_at hl 0 rfl) ?_
  refine lv_aload_n hx hb dX9_gathers_47 rfl (lv_at hl 0 rfl) ?_
  refine gf (k := 32) hx hb hts inX9 hown hK hP k_827 rfl (by decide) rfl 0 rfl (.ref a2) rfl dX9_gathers_48 ?_
  refine lv_iconst (v := 0) hx hb dX9_gathers_51 (by decide) ?_
  refine kV_i (q0 := 0) ⟨hx, hb, hml, hown, hts⟩ hK hP hD hS hA hX cv_RX9_199 [0, 1, 2, 3] [4] (wr := [(a4, .inl (cI, 777924, .inl (tb [0, 0, 0, 0, 1, 0, 0, 0, 2, 0, 0, 0, 3, 0, 0, 0, 4])))]) rfl rfl rfl rfl (by decide) (c528_X9_isPlan l dC dI cI cJ cII cJJ s.heap.size 0 a0 a1 a2 a3 a5 a6 a7 a8 a9 a10 a11 a12 a13 a14 a15 a16 a17 a18 a19 a20 a21 a22 a23 a24 a25 a26 a27 a4) ⟨by decide +kernel, by decide +kernel⟩ rfl rfl (Or.inl rfl) (rest := []) rfl rfl rfl hl.1 rfl (Nat.le_of_ble_eq_true rfl) dX9_gathers_52 ⟨Nat.le_of_ble_eq_true rfl, Nat.le_of_ble_eq_true rfl⟩ (W' := [(a4, .inl (cI, 777924, .inl (tb [0, 0, 0, 0, 1, 0, 0, 0, 2, 0, 0, 0, 3, 0, 0, 0, 4]))), (a0, .inr (9, [.ref a5, .ref a6, .ref a1, .ref a3, .ref a7, .ref a8, .ref a9, .ref a10, .ref a11, .ref a12, .ref a13, .ref a14, .int 1, .int 0, .int 0, .ref a15, .ref a16, .ref a17, .ref a18, .ref a19, .ref a20, .int 0, .int 0, .ref a21, .ref a22, .ref a23, .ref a24, .int 0, .int 0, .ref a25, .ref a26, .ref a27, .ref a2, .int 1, .ref a4, .int 5])), (a1, .inl (cI, 4, .inl (tb [0, 0, 0, 0]))), (a2, .inl (cI, 4, .inl (tb [5]))), (a3, .inl (cI, 4, .inl (tb [10, 10, 10, 10])))]) rfl (fun H locs hP hD hS => ?_)
  refine t_if_ne hx hb dX9_gathers_55 59 (by decide) (by decide +kernel) ?_
  refine lv_iconst (v := 0) hx hb dX9_gathers_59 (by decide) ?_
  refine lv_istore_n (lv' := [(2, .int 0), (0, .ref a0), (1, .int 1)]) hx hb dX9_gathers_60 rfl hl (by decide) rfl (fun ls hl => ?_)
  refine lv_iload_n hx hb dX9_gathers_61 rfl (lv_at hl 0 rfl) ?_
  refine lv_aload_n hx hb dX9_gathers_62 rfl (lv_at hl 1 rfl) ?_
  refine gf (k := 12) hx hb hts inX9 hown hK hP k_807 rfl (by decide) rfl 1 rfl (.int 1) rfl dX9_gathers_63 ?_
  refine f_icmp_ge hx hb dX9_gathers_66 94 (by decide) (by decide +kernel) ?_
  refine lv_aload_n hx hb dX9_gathers_69 rfl (lv_at hl 1 rfl) ?_
  refine gf (k := 34) hx hb hts inX9 hown hK hP k_829 rfl (by decide) rfl 1 rfl (.ref a4) rfl dX9_gathers_70 ?_
  refine lv_iconst (v := 4) hx hb dX9_gathers_73 (by decide) ?_
  refine lv_aload_n hx hb dX9_gathers_74 rfl (lv_at hl 1 rfl) ?_
  refine gf (k := 35) hx hb hts inX9 hown hK hP k_830 rfl (by decide) rfl 1 rfl (.int 5) rfl dX9_gathers_75 ?_
  refine v_imul hx hb dX9_gathers_78 20 (by decide +kernel) ?_
  refine lv_iload_n hx hb dX9_gathers_79 rfl (lv_at hl 0 rfl) ?_
  refine v_iadd hx hb dX9_gathers_80 20 (by decide +kernel) ?_
  refine lv_aload_n hx hb dX9_gathers_81 rfl (lv_at hl 1 rfl) ?_
  refine gf (k := 32) hx hb hts inX9 hown hK hP k_827 rfl (by decide) rfl 1 rfl (.ref a2) rfl dX9_gathers_82 ?_
  refine lv_iload_n hx hb dX9_gathers_85 rfl (lv_at hl 0 rfl) ?_
  refine ld_i hx hb hK hP 3 rfl (vin (by decide +kernel)) dX9_gathers_86 5 rfl ?_
  refine st_i hx hb hK hP hD hS 0 rfl (vin (by decide +kernel)) dX9_gathers_87 (L' := [0, 0, 0, 0, 1, 0, 0, 0, 2, 0, 0, 0, 3, 0, 0, 0, 4, 0, 0, 0, 5]) rfl (W' := [(a4, .inl (cI, 777924, .inl (tb [0, 0, 0, 0, 1, 0, 0, 0, 2, 0, 0, 0, 3, 0, 0, 0, 4, 0, 0, 0, 5]))), (a0, .inr (9, [.ref a5, .ref a6, .ref a1, .ref a3, .ref a7, .ref a8, .ref a9, .ref a10, .ref a11, .ref a12, .ref a13, .ref a14, .int 1, .int 0, .int 0, .ref a15, .ref a16, .ref a17, .ref a18, .ref a19, .ref a20, .int 0, .int 0, .ref a21, .ref a22, .ref a23, .ref a24, .int 0, .int 0, .ref a25, .ref a26, .ref a27, .ref a2, .int 1, .ref a4, .int 5])), (a1, .inl (cI, 4, .inl (tb [0, 0, 0, 0]))), (a2, .inl (cI, 4, .inl (tb [5]))), (a3, .inl (cI, 4, .inl (tb [10, 10, 10, 10])))]) rfl (fun H locs hP hD hS => ?_)
  refine lv_iinc (v := 1) (lv' := [(2, .int 1), (0, .ref a0), (1, .int 1)]) hx hb dX9_gathers_88 hl (k := 0) rfl (by decide +kernel) (by decide) rfl (fun ls hl => ?_)
  refine lv_goto (tgt := 61) hx hb dX9_gathers_91 (by decide) ?_
  refine lv_iload_n hx hb dX9_gathers_61 rfl (lv_at hl 0 rfl) ?_
  refine lv_aload_n hx hb dX9_gathers_62 rfl (lv_at hl 1 rfl) ?_
  refine gf (k := 12) hx hb hts inX9 hown hK hP k_807 rfl (by decide) rfl 1 rfl (.int 1) rfl dX9_gathers_63 ?_
  refine t_icmp_ge hx hb dX9_gathers_66 94 (by decide) (by decide +kernel) ?_
  refine lv_aload_n hx hb dX9_gathers_94 rfl (lv_at hl 1 rfl) ?_
  refine lv_dup hx hb dX9_gathers_95 rfl ?_
  refine gf (k := 35) hx hb hts inX9 hown hK hP k_830 rfl (by decide) rfl 1 rfl (.int 5) rfl dX9_gathers_96 ?_
  refine lv_iconst (v := 1) hx hb dX9_gathers_99 (by decide) ?_
  refine v_iadd hx hb dX9_gathers_100 6 (by decide +kernel) ?_
  refine pf (k := 35) hx hb hts inX9 tyX9_ok nmX9 hown hK hP hD hS k_830 rfl (by decide) rfl rfl 1 rfl rfl rfl (Nat.le_of_ble_eq_true rfl) dX9_gathers_101 (W' := [(a4, .inl (cI, 777924, .inl (tb [0, 0, 0, 0, 1, 0, 0, 0, 2, 0, 0, 0, 3, 0, 0, 0, 4, 0, 0, 0, 5]))), (a0, .inr (9, [.ref a5, .ref a6, .ref a1, .ref a3, .ref a7, .ref a8, .ref a9, .ref a10, .ref a11, .ref a12, .ref a13, .ref a14, .int 1, .int 0, .int 0, .ref a15, .ref a16, .ref a17, .ref a18, .ref a19, .ref a20, .int 0, .int 0, .ref a21, .ref a22, .ref a23, .ref a24, .int 0, .int 0, .ref a25, .ref a26, .ref a27, .ref a2, .int 1, .ref a4, .int 6])), (a1, .inl (cI, 4, .inl (tb [0, 0, 0, 0]))), (a2, .inl (cI, 4, .inl (tb [5]))), (a3, .inl (cI, 4, .inl (tb [10, 10, 10, 10])))]) rfl (fun H locs hP hD hS => ?_)
  exact r_v (fun _ => 0) hx hb hr hk hK hP hD hS dX9_gathers_104
set_option maxRecDepth 100000 in
set_option maxHeartbeats 4000000 in
theorem c530_X9_isPlan (l : Launch) (dC : Nat → ClassId) (dI : Nat → Nat → Nat) (cI cJ cII cJJ : ClassId) (sz g a0 a1 a2 a3 a4 a5 a6 a7 a8 a9 a10 a11 a12 a13 a14 a15 a16 a17 a18 a19 a20 a21 a22 a23 a24 a25 a26 a27 : Nat) : Met l yX9_isPlan (.code yX9_isPlan cX9_isPlan 5 (some .boolean) :: TT) ({ frames := 2, cells := 0, slots := 0, locals := 80 }) (PcS dC dI (TY cI cJ cII cJJ) [.ref a0, .ref a2, .int 0] [(a0, .inr (9, [.ref a4, .ref a5, .ref a1, .ref a3, .ref a6, .ref a7, .ref a8, .ref a9, .ref a10, .ref a11, .ref a12, .ref a13, .int 1, .int 0, .int 0, .ref a14, .ref a15, .ref a16, .ref a17, .ref a18, .ref a19, .int 0, .int 0, .ref a20, .ref a21, .ref a22, .ref a23, .int 0, .int 0, .ref a24, .ref a25, .ref a26, .ref a2, .int 1, .ref a27, .int 6])), (a1, .inl (cI, 4, .inl (tb [0, 0, 0, 0]))), (a2, .inl (cI, 4, .inl (tb [6]))), (a3, .inl (cI, 4, .inl (tb [10, 10, 10, 10])))] sz 0 g) ((QcI dC dI (TY cI cJ cII cJJ) 1 [(a0, .inr (9, [.ref a4, .ref a5, .ref a1, .ref a3, .ref a6, .ref a7, .ref a8, .ref a9, .ref a10, .ref a11, .ref a12, .ref a13, .int 1, .int 0, .int 0, .ref a14, .ref a15, .ref a16, .ref a17, .ref a18, .ref a19, .int 0, .int 0, .ref a20, .ref a21, .ref a22, .ref a23, .int 0, .int 0, .ref a24, .ref a25, .ref a26, .ref a2, .int 1, .ref a27, .int 6])), (a1, .inl (cI, 4, .inl (tb [0, 0, 0, 0]))), (a2, .inl (cI, 4, .inl (tb [6]))), (a3, .inl (cI, 4, .inl (tb [10, 10, 10, 10])))]) (va_A [(a0, .inr (9, [.ref a4, .ref a5, .ref a1, .ref a3, .ref a6, .ref a7, .ref a8, .ref a9, .ref a10, .ref a11, .ref a12, .ref a13, .int 1, .int 0, .int 0, .ref a14, .ref a15, .ref a16, .ref a17, .ref a18, .ref a19, .int 0, .int 0, .ref a20, .ref a21, .ref a22, .ref a23, .int 0, .int 0, .ref a24, .ref a25, .ref a26, .ref a2, .int 1, .ref a27, .int 6])), (a1, .inl (cI, 4, .inl (tb [0, 0, 0, 0]))), (a2, .inl (cI, 4, .inl (tb [6]))), (a3, .inl (cI, 4, .inl (tb [10, 10, 10, 10])))] sz)) 0 0 (va_A [(a0, .inr (9, [.ref a4, .ref a5, .ref a1, .ref a3, .ref a6, .ref a7, .ref a8, .ref a9, .ref a10, .ref a11, .ref a12, .ref a13, .int 1, .int 0, .int 0, .ref a14, .ref a15, .ref a16, .ref a17, .ref a18, .ref a19, .int 0, .int 0, .ref a20, .ref a21, .ref a22, .ref a23, .int 0, .int 0, .ref a24, .ref a25, .ref a26, .ref a2, .int 1, .ref a27, .int 6])), (a1, .inl (cI, 4, .inl (tb [0, 0, 0, 0]))), (a2, .inl (cI, 4, .inl (tb [6]))), (a3, .inl (cI, 4, .inl (tb [10, 10, 10, 10])))] sz) := by
  refine SM.of (y := yX9_isPlan) (maxL := 5) (av := [.ref a0, .ref a2, .int 0]) (QcI dC dI (TY cI cJ cII cJJ) 1 [(a0, .inr (9, [.ref a4, .ref a5, .ref a1, .ref a3, .ref a6, .ref a7, .ref a8, .ref a9, .ref a10, .ref a11, .ref a12, .ref a13, .int 1, .int 0, .int 0, .ref a14, .ref a15, .ref a16, .ref a17, .ref a18, .ref a19, .int 0, .int 0, .ref a20, .ref a21, .ref a22, .ref a23, .int 0, .int 0, .ref a24, .ref a25, .ref a26, .ref a2, .int 1, .ref a27, .int 6])), (a1, .inl (cI, 4, .inl (tb [0, 0, 0, 0]))), (a2, .inl (cI, 4, .inl (tb [6]))), (a3, .inl (cI, 4, .inl (tb [10, 10, 10, 10])))]) (by decide +kernel) (Nat.le_of_ble_eq_true rfl) (fun p e s m below meth c A ls hx hb hr hml hown hts hk hnm hA hK hP hD hS hX hl => ?_)
  have hown : s.vm.findClass RX9 = some m.cls := hown
  have hl : lv_has ls 5 [(0, .ref a0), (1, .ref a2), (2, .int 0)] := hl
  refine lv_iconst (v := 1) hx hb dX9_isPlan_0 (by decide) ?_
  refine lv_istore_n (lv' := [(3, .int 1), (0, .ref a0), (1, .ref a2), (2, .int 0)]) hx hb dX9_isPlan_1 rfl hl (by decide) rfl (fun ls hl => ?_)
  refine lv_iconst (v := 0) hx hb dX9_isPlan_2 (by decide) ?_
  refine lv_istore (lv' := [(4, .int 0), (3, .int 1), (0, .ref a0), (1, .ref a2), (2, .int 0)]) hx hb dX9_isPlan_3 hl (by decide) rfl (fun ls hl => ?_)
  refine lv_iload hx hb dX9_isPlan_5 (lv_at hl 0 rfl) ?_
  refine lv_aload_n hx hb dX9_isPlan_7 rfl (lv_at hl 2 rfl) ?_
  refine gf (k := 12) hx hb hts inX9 hown hK hP k_807 rfl (by decide) rfl 0 rfl (.int 1) rfl dX9_isPlan_8 ?_
  refine f_icmp_ge hx hb dX9_isPlan_11 62 (by decide) (by decide +kernel) ?_
  refine lv_iload_n hx hb dX9_isPlan_14 rfl (lv_at hl 1 rfl) ?_
  refine f_if_eq hx hb dX9_isPlan_15 62 (by decide) (by decide +kernel) ?_
  refine lv_aload_n hx hb dX9_isPlan_18 rfl (lv_at hl 2 rfl) ?_
  refine gf (k := 2) hx hb hts inX9 hown hK hP k_797 rfl (by decide) rfl 0 rfl (.ref a1) rfl dX9_isPlan_19 ?_
  refine lv_iload hx hb dX9_isPlan_22 (lv_at hl 0 rfl) ?_
  refine ld_i hx hb hK hP 1 rfl (vin (by decide +kernel)) dX9_isPlan_24 0 rfl ?_
  refine lv_aload_n hx hb dX9_isPlan_25 rfl (lv_at hl 3 rfl) ?_
  refine lv_iload_n hx hb dX9_isPlan_26 rfl (lv_at hl 4 rfl) ?_
  refine lv_iload hx hb dX9_isPlan_27 (lv_at hl 0 rfl) ?_
  refine v_iadd hx hb dX9_isPlan_29 0 (by decide +kernel) ?_
  refine ld_i hx hb hK hP 2 rfl (vin (by decide +kernel)) dX9_isPlan_30 6 rfl ?_
  refine f_icmp_gt hx hb dX9_isPlan_31 54 (by decide) (by decide +kernel) ?_
  refine lv_aload_n hx hb dX9_isPlan_34 rfl (lv_at hl 3 rfl) ?_
  refine lv_iload_n hx hb dX9_isPlan_35 rfl (lv_at hl 4 rfl) ?_
  refine lv_iload hx hb dX9_isPlan_36 (lv_at hl 0 rfl) ?_
  refine v_iadd hx hb dX9_isPlan_38 0 (by decide +kernel) ?_
  refine ld_i hx hb hK hP 2 rfl (vin (by decide +kernel)) dX9_isPlan_39 6 rfl ?_
  refine lv_aload_n hx hb dX9_isPlan_40 rfl (lv_at hl 2 rfl) ?_
  refine gf (k := 3) hx hb hts inX9 hown hK hP k_798 rfl (by decide) rfl 0 rfl (.ref a3) rfl dX9_isPlan_41 ?_
  refine lv_iload hx hb dX9_isPlan_44 (lv_at hl 0 rfl) ?_
  refine ld_i hx hb hK hP 3 rfl (vin (by decide +kernel)) dX9_isPlan_46 10 rfl ?_
  refine f_icmp_gt hx hb dX9_isPlan_47 54 (by decide) (by decide +kernel) ?_
  refine lv_iconst (v := 1) hx hb dX9_isPlan_50 (by decide) ?_
  refine lv_goto (tgt := 55) hx hb dX9_isPlan_51 (by decide) ?_
  refine lv_istore_n (lv' := [(3, .int 1), (4, .int 0), (0, .ref a0), (1, .ref a2), (2, .int 0)]) hx hb dX9_isPlan_55 rfl hl (by decide) rfl (fun ls hl => ?_)
  refine lv_iinc (v := 1) (lv' := [(4, .int 1), (3, .int 1), (0, .ref a0), (1, .ref a2), (2, .int 0)]) hx hb dX9_isPlan_56 hl (k := 1) rfl (by decide +kernel) (by decide) rfl (fun ls hl => ?_)
  refine lv_goto (tgt := 5) hx hb dX9_isPlan_59 (by decide) ?_
  refine lv_iload hx hb dX9_isPlan_5 (lv_at hl 0 rfl) ?_
  refine lv_aload_n hx hb dX9_isPlan_7 rfl (lv_at hl 2 rfl) ?_
  refine gf (k := 12) hx hb hts inX9 hown hK hP k_807 rfl (by decide) rfl 0 rfl (.int 1) rfl dX9_isPlan_8 ?_
  refine t_icmp_ge hx hb dX9_isPlan_11 62 (by decide) (by decide +kernel) ?_
  refine lv_iconst (v := 0) hx hb dX9_isPlan_62 (by decide) ?_
  refine lv_istore (lv' := [(4, .int 0), (3, .int 1), (0, .ref a0), (1, .ref a2), (2, .int 0)]) hx hb dX9_isPlan_63 hl (by decide) rfl (fun ls hl => ?_)
  refine lv_iload hx hb dX9_isPlan_65 (lv_at hl 0 rfl) ?_
  refine lv_aload_n hx hb dX9_isPlan_67 rfl (lv_at hl 2 rfl) ?_
  refine gf (k := 13) hx hb hts inX9 hown hK hP k_808 rfl (by decide) rfl 0 rfl (.int 0) rfl dX9_isPlan_68 ?_
  refine t_icmp_ge hx hb dX9_isPlan_71 108 (by decide) (by decide +kernel) ?_
  refine lv_iload_n hx hb dX9_isPlan_108 rfl (lv_at hl 1 rfl) ?_
  exact r_z hx hb hr hk hK hP hD hS dX9_isPlan_109 rfl
set_option maxRecDepth 100000 in
set_option maxHeartbeats 4000000 in
theorem c529_X9_gathers (l : Launch) (dC : Nat → ClassId) (dI : Nat → Nat → Nat) (cI cJ cII cJJ : ClassId) (sz g a0 a1 a2 a3 a4 a5 a6 a7 a8 a9 a10 a11 a12 a13 a14 a15 a16 a17 a18 a19 a20 a21 a22 a23 a24 a25 a26 a27 : Nat) : Met l yX9_gathers (.code yX9_gathers cX9_gathers 3 none :: TT) ({ frames := 3, cells := 0, slots := 0, locals := 140 }) (PcS dC dI (TY cI cJ cII cJJ) [.ref a0, .int 1] [(a0, .inr (9, [.ref a5, .ref a6, .ref a1, .ref a3, .ref a7, .ref a8, .ref a9, .ref a10, .ref a11, .ref a12, .ref a13, .ref a14, .int 1, .int 0, .int 0, .ref a15, .ref a16, .ref a17, .ref a18, .ref a19, .ref a20, .int 0, .int 0, .ref a21, .ref a22, .ref a23, .ref a24, .int 0, .int 0, .ref a25, .ref a26, .ref a27, .ref a2, .int 1, .ref a4, .int 6])), (a1, .inl (cI, 4, .inl (tb [0, 0, 0, 0]))), (a2, .inl (cI, 4, .inl (tb [6]))), (a3, .inl (cI, 4, .inl (tb [10, 10, 10, 10]))), (a4, .inl (cI, 777924, .inl (tb [0, 0, 0, 0, 1, 0, 0, 0, 2, 0, 0, 0, 3, 0, 0, 0, 4, 0, 0, 0, 5])))] sz 0 g) ((QcV dC dI (TY cI cJ cII cJJ) (fun _ => [(a4, .inl (cI, 777924, .inl (tb [0, 0, 0, 0, 1, 0, 0, 0, 2, 0, 0, 0, 3, 0, 0, 0, 4, 0, 0, 0, 5, 0, 0, 0, 6]))), (a0, .inr (9, [.ref a5, .ref a6, .ref a1, .ref a3, .ref a7, .ref a8, .ref a9, .ref a10, .ref a11, .ref a12, .ref a13, .ref a14, .int 1, .int 0, .int 0, .ref a15, .ref a16, .ref a17, .ref a18, .ref a19, .ref a20, .int 0, .int 0, .ref a21, .ref a22, .ref a23, .ref a24, .int 0, .int 0, .ref a25, .ref a26, .ref a27, .ref a2, .int 1, .ref a4, .int 7])), (a1, .inl (cI, 4, .inl (tb [0, 0, 0, 0]))), (a2, .inl (cI, 4, .inl (tb [6]))), (a3, .inl (cI, 4, .inl (tb [10, 10, 10, 10])))])) (va_A [(a0, .inr (9, [.ref a5, .ref a6, .ref a1, .ref a3, .ref a7, .ref a8, .ref a9, .ref a10, .ref a11, .ref a12, .ref a13, .ref a14, .int 1, .int 0, .int 0, .ref a15, .ref a16, .ref a17, .ref a18, .ref a19, .ref a20, .int 0, .int 0, .ref a21, .ref a22, .ref a23, .ref a24, .int 0, .int 0, .ref a25, .ref a26, .ref a27, .ref a2, .int 1, .ref a4, .int 6])), (a1, .inl (cI, 4, .inl (tb [0, 0, 0, 0]))), (a2, .inl (cI, 4, .inl (tb [6]))), (a3, .inl (cI, 4, .inl (tb [10, 10, 10, 10]))), (a4, .inl (cI, 777924, .inl (tb [0, 0, 0, 0, 1, 0, 0, 0, 2, 0, 0, 0, 3, 0, 0, 0, 4, 0, 0, 0, 5])))] sz)) 0 0 (va_A [(a0, .inr (9, [.ref a5, .ref a6, .ref a1, .ref a3, .ref a7, .ref a8, .ref a9, .ref a10, .ref a11, .ref a12, .ref a13, .ref a14, .int 1, .int 0, .int 0, .ref a15, .ref a16, .ref a17, .ref a18, .ref a19, .ref a20, .int 0, .int 0, .ref a21, .ref a22, .ref a23, .ref a24, .int 0, .int 0, .ref a25, .ref a26, .ref a27, .ref a2, .int 1, .ref a4, .int 6])), (a1, .inl (cI, 4, .inl (tb [0, 0, 0, 0]))), (a2, .inl (cI, 4, .inl (tb [6]))), (a3, .inl (cI, 4, .inl (tb [10, 10, 10, 10]))), (a4, .inl (cI, 777924, .inl (tb [0, 0, 0, 0, 1, 0, 0, 0, 2, 0, 0, 0, 3, 0, 0, 0, 4, 0, 0, 0, 5])))] sz) := by
  refine SM.of (y := yX9_gathers) (maxL := 3) (av := [.ref a0, .int 1]) (QcV dC dI (TY cI cJ cII cJJ) (fun _ => [(a4, .inl (cI, 777924, .inl (tb [0, 0, 0, 0, 1, 0, 0, 0, 2, 0, 0, 0, 3, 0, 0, 0, 4, 0, 0, 0, 5, 0, 0, 0, 6]))), (a0, .inr (9, [.ref a5, .ref a6, .ref a1, .ref a3, .ref a7, .ref a8, .ref a9, .ref a10, .ref a11, .ref a12, .ref a13, .ref a14, .int 1, .int 0, .int 0, .ref a15, .ref a16, .ref a17, .ref a18, .ref a19, .ref a20, .int 0, .int 0, .ref a21, .ref a22, .ref a23, .ref a24, .int 0, .int 0, .ref a25, .ref a26, .ref a27, .ref a2, .int 1, .ref a4, .int 7])), (a1, .inl (cI, 4, .inl (tb [0, 0, 0, 0]))), (a2, .inl (cI, 4, .inl (tb [6]))), (a3, .inl (cI, 4, .inl (tb [10, 10, 10, 10])))])) (by decide +kernel) (Nat.le_of_ble_eq_true rfl) (fun p e s m below meth c A ls hx hb hr hml hown hts hk hnm hA hK hP hD hS hX hl => ?_)
  have hown : s.vm.findClass RX9 = some m.cls := hown
  have hl : lv_has ls 3 [(0, .ref a0), (1, .int 1)] := hl
  refine lv_iload_n hx hb dX9_gathers_0 rfl (lv_at hl 1 rfl) ?_
  refine lv_aload_n hx hb dX9_gathers_1 rfl (lv_at hl 0 rfl) ?_
  refine gf (k := 12) hx hb hts inX9 hown hK hP k_807 rfl (by decide) rfl 0 rfl (.int 1) rfl dX9_gathers_2 ?_
  refine t_icmp_ge hx hb dX9_gathers_5 46 (by decide) (by decide +kernel) ?_
  refine lv_aload_n hx hb dX9_gathers_46 rfl (lv_at hl 0 rfl) ?_
  refine lv_aload_n hx hb dX9_gathers_47 rfl (lv_at hl 0 rfl) ?_
  refine gf (k := 32) hx hb hts inX9 hown hK hP k_827 rfl (by decide) rfl 0 rfl (.ref a2) rfl dX9_gathers_48 ?_
  refine lv_iconst (v := 0) hx hb dX9_gathers_51 (by decide) ?_
  refine kV_i (q0 := 0) ⟨hx, hb, hml, hown, hts⟩ hK hP hD hS hA hX cv_RX9_199 [0, 1, 2, 3] [4] (wr := [(a4, .inl (cI, 777924, .inl (tb [0, 0, 0, 0, 1, 0, 0, 0, 2, 0, 0, 0, 3, 0, 0, 0, 4, 0, 0, 0, 5])))]) rfl rfl rfl rfl (by decide) (c530_X9_isPlan l dC dI cI cJ cII cJJ s.heap.size 0 a0 a1 a2 a3 a5 a6 a7 a8 a9 a10 a11 a12 a13 a14 a15 a16 a17 a18 a19 a20 a21 a22 a23 a24 a25 a26 a27 a4) ⟨by decide +kernel, by decide +kernel⟩ rfl rfl (Or.inl rfl) (rest := []) rfl rfl rfl hl.1 rfl (Nat.le_of_ble_eq_true rfl) dX9_gathers_52 ⟨Nat.le_of_ble_eq_true rfl, Nat.le_of_ble_eq_true rfl⟩ (W' := [(a4, .inl (cI, 777924, .inl (tb [0, 0, 0, 0, 1, 0, 0, 0, 2, 0, 0, 0, 3, 0, 0, 0, 4, 0, 0, 0, 5]))), (a0, .inr (9, [.ref a5, .ref a6, .ref a1, .ref a3, .ref a7, .ref a8, .ref a9, .ref a10, .ref a11, .ref a12, .ref a13, .ref a14, .int 1, .int 0, .int 0, .ref a15, .ref a16, .ref a17, .ref a18, .ref a19, .ref a20, .int 0, .int 0, .ref a21, .ref a22, .ref a23, .ref a24, .int 0, .int 0, .ref a25, .ref a26, .ref a27, .ref a2, .int 1, .ref a4, .int 6])), (a1, .inl (cI, 4, .inl (tb [0, 0, 0, 0]))), (a2, .inl (cI, 4, .inl (tb [6]))), (a3, .inl (cI, 4, .inl (tb [10, 10, 10, 10])))]) rfl (fun H locs hP hD hS => ?_)
  refine t_if_ne hx hb dX9_gathers_55 59 (by decide) (by decide +kernel) ?_
  refine lv_iconst (v := 0) hx hb dX9_gathers_59 (by decide) ?_
  refine lv_istore_n (lv' := [(2, .int 0), (0, .ref a0), (1, .int 1)]) hx hb dX9_gathers_60 rfl hl (by decide) rfl (fun ls hl => ?_)
  refine lv_iload_n hx hb dX9_gathers_61 rfl (lv_at hl 0 rfl) ?_
  refine lv_aload_n hx hb dX9_gathers_62 rfl (lv_at hl 1 rfl) ?_
  refine gf (k := 12) hx hb hts inX9 hown hK hP k_807 rfl (by decide) rfl 1 rfl (.int 1) rfl dX9_gathers_63 ?_
  refine f_icmp_ge hx hb dX9_gathers_66 94 (by decide) (by decide +kernel) ?_
  refine lv_aload_n hx hb dX9_gathers_69 rfl (lv_at hl 1 rfl) ?_
  refine gf (k := 34) hx hb hts inX9 hown hK hP k_829 rfl (by decide) rfl 1 rfl (.ref a4) rfl dX9_gathers_70 ?_
  refine lv_iconst (v := 4) hx hb dX9_gathers_73 (by decide) ?_
  refine lv_aload_n hx hb dX9_gathers_74 rfl (lv_at hl 1 rfl) ?_
  refine gf (k := 35) hx hb hts inX9 hown hK hP k_830 rfl (by decide) rfl 1 rfl (.int 6) rfl dX9_gathers_75 ?_
  refine v_imul hx hb dX9_gathers_78 24 (by decide +kernel) ?_
  refine lv_iload_n hx hb dX9_gathers_79 rfl (lv_at hl 0 rfl) ?_
  refine v_iadd hx hb dX9_gathers_80 24 (by decide +kernel) ?_
  refine lv_aload_n hx hb dX9_gathers_81 rfl (lv_at hl 1 rfl) ?_
  refine gf (k := 32) hx hb hts inX9 hown hK hP k_827 rfl (by decide) rfl 1 rfl (.ref a2) rfl dX9_gathers_82 ?_
  refine lv_iload_n hx hb dX9_gathers_85 rfl (lv_at hl 0 rfl) ?_
  refine ld_i hx hb hK hP 3 rfl (vin (by decide +kernel)) dX9_gathers_86 6 rfl ?_
  refine st_i hx hb hK hP hD hS 0 rfl (vin (by decide +kernel)) dX9_gathers_87 (L' := [0, 0, 0, 0, 1, 0, 0, 0, 2, 0, 0, 0, 3, 0, 0, 0, 4, 0, 0, 0, 5, 0, 0, 0, 6]) rfl (W' := [(a4, .inl (cI, 777924, .inl (tb [0, 0, 0, 0, 1, 0, 0, 0, 2, 0, 0, 0, 3, 0, 0, 0, 4, 0, 0, 0, 5, 0, 0, 0, 6]))), (a0, .inr (9, [.ref a5, .ref a6, .ref a1, .ref a3, .ref a7, .ref a8, .ref a9, .ref a10, .ref a11, .ref a12, .ref a13, .ref a14, .int 1, .int 0, .int 0, .ref a15, .ref a16, .ref a17, .ref a18, .ref a19, .ref a20, .int 0, .int 0, .ref a21, .ref a22, .ref a23, .ref a24, .int 0, .int 0, .ref a25, .ref a26, .ref a27, .ref a2, .int 1, .ref a4, .int 6])), (a1, .inl (cI, 4, .inl (tb [0, 0, 0, 0]))), (a2, .inl (cI, 4, .inl (tb [6]))), (a3, .inl (cI, 4, .inl (tb [10, 10, 10, 10])))]) rfl (fun H locs hP hD hS => ?_)
  refine lv_iinc (v := 1) (lv' := [(2, .int 1), (0, .ref a0), (1, .int 1)]) hx hb dX9_gathers_88 hl (k := 0) rfl (by decide +kernel) (by decide) rfl (fun ls hl => ?_)
  refine lv_goto (tgt := 61) hx hb dX9_gathers_91 (by decide) ?_
  refine lv_iload_n hx hb dX9_gathers_61 rfl (lv_at hl 0 rfl) ?_
  refine lv_aload_n hx hb dX9_gathers_62 rfl (lv_at hl 1 rfl) ?_
  refine gf (k := 12) hx hb hts inX9 hown hK hP k_807 rfl (by decide) rfl 1 rfl (.int 1) rfl dX9_gathers_63 ?_
  refine t_icmp_ge hx hb dX9_gathers_66 94 (by decide) (by decide +kernel) ?_
  refine lv_aload_n hx hb dX9_gathers_94 rfl (lv_at hl 1 rfl) ?_
  refine lv_dup hx hb dX9_gathers_95 rfl ?_
  refine gf (k := 35) hx hb hts inX9 hown hK hP k_830 rfl (by decide) rfl 1 rfl (.int 6) rfl dX9_gathers_96 ?_
  refine lv_iconst (v := 1) hx hb dX9_gathers_99 (by decide) ?_
  refine v_iadd hx hb dX9_gathers_100 7 (by decide +kernel) ?_
  refine pf (k := 35) hx hb hts inX9 tyX9_ok nmX9 hown hK hP hD hS k_830 rfl (by decide) rfl rfl 1 rfl rfl rfl (Nat.le_of_ble_eq_true rfl) dX9_gathers_101 (W' := [(a4, .inl (cI, 777924, .inl (tb [0, 0, 0, 0, 1, 0, 0, 0, 2, 0, 0, 0, 3, 0, 0, 0, 4, 0, 0, 0, 5, 0, 0, 0, 6]))), (a0, .inr (9, [.ref a5, .ref a6, .ref a1, .ref a3, .ref a7, .ref a8, .ref a9, .ref a10, .ref a11, .ref a12, .ref a13, .ref a14, .int 1, .int 0, .int 0, .ref a15, .ref a16, .ref a17, .ref a18, .ref a19, .ref a20, .int 0, .int 0, .ref a21, .ref a22, .ref a23, .ref a24, .int 0, .int 0, .ref a25, .ref a26, .ref a27, .ref a2, .int 1, .ref a4, .int 7])), (a1, .inl (cI, 4, .inl (tb [0, 0, 0, 0]))), (a2, .inl (cI, 4, .inl (tb [6]))), (a3, .inl (cI, 4, .inl (tb [10, 10, 10, 10])))]) rfl (fun H locs hP hD hS => ?_)
  exact r_v (fun _ => 0) hx hb hr hk hK hP hD hS dX9_gathers_104
set_option maxRecDepth 100000 in
set_option maxHeartbeats 4000000 in
theorem c532_X9_isPlan (l : Launch) (dC : Nat → ClassId) (dI : Nat → Nat → Nat) (cI cJ cII cJJ : ClassId) (sz g a0 a1 a2 a3 a4 a5 a6 a7 a8 a9 a10 a11 a12 a13 a14 a15 a16 a17 a18 a19 a20 a21 a22 a23 a24 a25 a26 a27 : Nat) : Met l yX9_isPlan (.code yX9_isPlan cX9_isPlan 5 (some .boolean) :: TT) ({ frames := 2, cells := 0, slots := 0, locals := 80 }) (PcS dC dI (TY cI cJ cII cJJ) [.ref a0, .ref a2, .int 0] [(a0, .inr (9, [.ref a4, .ref a5, .ref a1, .ref a3, .ref a6, .ref a7, .ref a8, .ref a9, .ref a10, .ref a11, .ref a12, .ref a13, .int 1, .int 0, .int 0, .ref a14, .ref a15, .ref a16, .ref a17, .ref a18, .ref a19, .int 0, .int 0, .ref a20, .ref a21, .ref a22, .ref a23, .int 0, .int 0, .ref a24, .ref a25, .ref a26, .ref a2, .int 1, .ref a27, .int 7])), (a1, .inl (cI, 4, .inl (tb [0, 0, 0, 0]))), (a2, .inl (cI, 4, .inl (tb [7]))), (a3, .inl (cI, 4, .inl (tb [10, 10, 10, 10])))] sz 0 g) ((QcI dC dI (TY cI cJ cII cJJ) 1 [(a0, .inr (9, [.ref a4, .ref a5, .ref a1, .ref a3, .ref a6, .ref a7, .ref a8, .ref a9, .ref a10, .ref a11, .ref a12, .ref a13, .int 1, .int 0, .int 0, .ref a14, .ref a15, .ref a16, .ref a17, .ref a18, .ref a19, .int 0, .int 0, .ref a20, .ref a21, .ref a22, .ref a23, .int 0, .int 0, .ref a24, .ref a25, .ref a26, .ref a2, .int 1, .ref a27, .int 7])), (a1, .inl (cI, 4, .inl (tb [0, 0, 0, 0]))), (a2, .inl (cI, 4, .inl (tb [7]))), (a3, .inl (cI, 4, .inl (tb [10, 10, 10, 10])))]) (va_A [(a0, .inr (9, [.ref a4, .ref a5, .ref a1, .ref a3, .ref a6, .ref a7, .ref a8, .ref a9, .ref a10, .ref a11, .ref a12, .ref a13, .int 1, .int 0, .int 0, .ref a14, .ref a15, .ref a16, .ref a17, .ref a18, .ref a19, .int 0, .int 0, .ref a20, .ref a21, .ref a22, .ref a23, .int 0, .int 0, .ref a24, .ref a25, .ref a26, .ref a2, .int 1, .ref a27, .int 7])), (a1, .inl (cI, 4, .inl (tb [0, 0, 0, 0]))), (a2, .inl (cI, 4, .inl (tb [7]))), (a3, .inl (cI, 4, .inl (tb [10, 10, 10, 10])))] sz)) 0 0 (va_A [(a0, .inr (9, [.ref a4, .ref a5, .ref a1, .ref a3, .ref a6, .ref a7, .ref a8, .ref a9, .ref a10, .ref a11, .ref a12, .ref a13, .int 1, .int 0, .int 0, .ref a14, .ref a15, .ref a16, .ref a17, .ref a18, .ref a19, .int 0, .int 0, .ref a20, .ref a21, .ref a22, .ref a23, .int 0, .int 0, .ref a24, .ref a25, .ref a26, .ref a2, .int 1, .ref a27, .int 7])), (a1, .inl (cI, 4, .inl (tb [0, 0, 0, 0]))), (a2, .inl (cI, 4, .inl (tb [7]))), (a3, .inl (cI, 4, .inl (tb [10, 10, 10, 10])))] sz) := by
  refine SM.of (y := yX9_isPlan) (maxL := 5) (av := [.ref a0, .ref a2, .int 0]) (QcI dC dI (TY cI cJ cII cJJ) 1 [(a0, .inr (9, [.ref a4, .ref a5, .ref a1, .ref a3, .ref a6, .ref a7, .ref a8, .ref a9, .ref a10, .ref a11, .ref a12, .ref a13, .int 1, .int 0, .int 0, .ref a14, .ref a15, .ref a16, .ref a17, .ref a18, .ref a19, .int 0, .int 0, .ref a20, .ref a21, .ref a22, .ref a23, .int 0, .int 0, .ref a24, .ref a25, .ref a26, .ref a2, .int 1, .ref a27, .int 7])), (a1, .inl (cI, 4, .inl (tb [0, 0, 0, 0]))), (a2, .inl (cI, 4, .inl (tb [7]))), (a3, .inl (cI, 4, .inl (tb [10, 10, 10, 10])))]) (by decide +kernel) (Nat.le_of_ble_eq_true rfl) (fun p e s m below meth c A ls hx hb hr hml hown hts hk hnm hA hK hP hD hS hX hl => ?_)
  have hown : s.vm.findClass RX9 = some m.cls := hown
  have hl : lv_has ls 5 [(0, .ref a0), (1, .ref a2), (2, .int 0)] := hl
  refine lv_iconst (v := 1) hx hb dX9_isPlan_0 (by decide) ?_
  refine lv_istore_n (lv' := [(3, .int 1), (0, .ref a0), (1, .ref a2), (2, .int 0)]) hx hb dX9_isPlan_1 rfl hl (by decide) rfl (fun ls hl => ?_)
  refine lv_iconst (v := 0) hx hb dX9_isPlan_2 (by decide) ?_
  refine lv_istore (lv' := [(4, .int 0), (3, .int 1), (0, .ref a0), (1, .ref a2), (2, .int 0)]) hx hb dX9_isPlan_3 hl (by decide) rfl (fun ls hl => ?_)
  refine lv_iload hx hb dX9_isPlan_5 (lv_at hl 0 rfl) ?_
  refine lv_aload_n hx hb dX9_isPlan_7 rfl (lv_at hl 2 rfl) ?_
  refine gf (k := 12) hx hb hts inX9 hown hK hP k_807 rfl (by decide) rfl 0 rfl (.int 1) rfl dX9_isPlan_8 ?_
  refine f_icmp_ge hx hb dX9_isPlan_11 62 (by decide) (by decide +kernel) ?_
  refine lv_iload_n hx hb dX9_isPlan_14 rfl (lv_at hl 1 rfl) ?_
  refine f_if_eq hx hb dX9_isPlan_15 62 (by decide) (by decide +kernel) ?_
  refine lv_aload_n hx hb dX9_isPlan_18 rfl (lv_at hl 2 rfl) ?_
  refine gf (k := 2) hx hb hts inX9 hown hK hP k_797 rfl (by decide) rfl 0 rfl (.ref a1) rfl dX9_isPlan_19 ?_
  refine lv_iload hx hb dX9_isPlan_22 (lv_at hl 0 rfl) ?_
  refine ld_i hx hb hK hP 1 rfl (vin (by decide +kernel)) dX9_isPlan_24 0 rfl ?_
  refine lv_aload_n hx hb dX9_isPlan_25 rfl (lv_at hl 3 rfl) ?_
  refine lv_iload_n hx hb dX9_isPlan_26 rfl (lv_at hl 4 rfl) ?_
  refine lv_iload hx hb dX9_isPlan_27 (lv_at hl 0 rfl) ?_
  refine v_iadd hx hb dX9_isPlan_29 0 (by decide +kernel) ?_
  refine ld_i hx hb hK hP 2 rfl (vin (by decide +kernel)) dX9_isPlan_30 7 rfl ?_
  refine f_icmp_gt hx hb dX9_isPlan_31 54 (by decide) (by decide +kernel) ?_
  refine lv_aload_n hx hb dX9_isPlan_34 rfl (lv_at hl 3 rfl) ?_
  refine lv_iload_n hx hb dX9_isPlan_35 rfl (lv_at hl 4 rfl) ?_
  refine lv_iload hx hb dX9_isPlan_36 (lv_at hl 0 rfl) ?_
  refine v_iadd hx hb dX9_isPlan_38 0 (by decide +kernel) ?_
  refine ld_i hx hb hK hP 2 rfl (vin (by decide +kernel)) dX9_isPlan_39 7 rfl ?_
  refine lv_aload_n hx hb dX9_isPlan_40 rfl (lv_at hl 2 rfl) ?_
  refine gf (k := 3) hx hb hts inX9 hown hK hP k_798 rfl (by decide) rfl 0 rfl (.ref a3) rfl dX9_isPlan_41 ?_
  refine lv_iload hx hb dX9_isPlan_44 (lv_at hl 0 rfl) ?_
  refine ld_i hx hb hK hP 3 rfl (vin (by decide +kernel)) dX9_isPlan_46 10 rfl ?_
  refine f_icmp_gt hx hb dX9_isPlan_47 54 (by decide) (by decide +kernel) ?_
  refine lv_iconst (v := 1) hx hb dX9_isPlan_50 (by decide) ?_
  refine lv_goto (tgt := 55) hx hb dX9_isPlan_51 (by decide) ?_
  refine lv_istore_n (lv' := [(3, .int 1), (4, .int 0), (0, .ref a0), (1, .ref a2), (2, .int 0)]) hx hb dX9_isPlan_55 rfl hl (by decide) rfl (fun ls hl => ?_)
  refine lv_iinc (v := 1) (lv' := [(4, .int 1), (3, .int 1), (0, .ref a0), (1, .ref a2), (2, .int 0)]) hx hb dX9_isPlan_56 hl (k := 1) rfl (by decide +kernel) (by decide) rfl (fun ls hl => ?_)
  refine lv_goto (tgt := 5) hx hb dX9_isPlan_59 (by decide) ?_
  refine lv_iload hx hb dX9_isPlan_5 (lv_at hl 0 rfl) ?_
  refine lv_aload_n hx hb dX9_isPlan_7 rfl (lv_at hl 2 rfl) ?_
  refine gf (k := 12) hx hb hts inX9 hown hK hP k_807 rfl (by decide) rfl 0 rfl (.int 1) rfl dX9_isPlan_8 ?_
  refine t_icmp_ge hx hb dX9_isPlan_11 62 (by decide) (by decide +kernel) ?_
  refine lv_iconst (v := 0) hx hb dX9_isPlan_62 (by decide) ?_
  refine lv_istore (lv' := [(4, .int 0), (3, .int 1), (0, .ref a0), (1, .ref a2), (2, .int 0)]) hx hb dX9_isPlan_63 hl (by decide) rfl (fun ls hl => ?_)
  refine lv_iload hx hb dX9_isPlan_65 (lv_at hl 0 rfl) ?_
  refine lv_aload_n hx hb dX9_isPlan_67 rfl (lv_at hl 2 rfl) ?_
  refine gf (k := 13) hx hb hts inX9 hown hK hP k_808 rfl (by decide) rfl 0 rfl (.int 0) rfl dX9_isPlan_68 ?_
  refine t_icmp_ge hx hb dX9_isPlan_71 108 (by decide) (by decide +kernel) ?_
  refine lv_iload_n hx hb dX9_isPlan_108 rfl (lv_at hl 1 rfl) ?_
  exact r_z hx hb hr hk hK hP hD hS dX9_isPlan_109 rfl
set_option maxRecDepth 100000 in
set_option maxHeartbeats 4000000 in
theorem c531_X9_gathers (l : Launch) (dC : Nat → ClassId) (dI : Nat → Nat → Nat) (cI cJ cII cJJ : ClassId) (sz g a0 a1 a2 a3 a4 a5 a6 a7 a8 a9 a10 a11 a12 a13 a14 a15 a16 a17 a18 a19 a20 a21 a22 a23 a24 a25 a26 a27 : Nat) : Met l yX9_gathers (.code yX9_gathers cX9_gathers 3 none :: TT) ({ frames := 3, cells := 0, slots := 0, locals := 140 }) (PcS dC dI (TY cI cJ cII cJJ) [.ref a0, .int 1] [(a0, .inr (9, [.ref a5, .ref a6, .ref a1, .ref a3, .ref a7, .ref a8, .ref a9, .ref a10, .ref a11, .ref a12, .ref a13, .ref a14, .int 1, .int 0, .int 0, .ref a15, .ref a16, .ref a17, .ref a18, .ref a19, .ref a20, .int 0, .int 0, .ref a21, .ref a22, .ref a23, .ref a24, .int 0, .int 0, .ref a25, .ref a26, .ref a27, .ref a2, .int 1, .ref a4, .int 7])), (a1, .inl (cI, 4, .inl (tb [0, 0, 0, 0]))), (a2, .inl (cI, 4, .inl (tb [7]))), (a3, .inl (cI, 4, .inl (tb [10, 10, 10, 10]))), (a4, .inl (cI, 777924, .inl (tb [0, 0, 0, 0, 1, 0, 0, 0, 2, 0, 0, 0, 3, 0, 0, 0, 4, 0, 0, 0, 5, 0, 0, 0, 6])))] sz 0 g) ((QcV dC dI (TY cI cJ cII cJJ) (fun _ => [(a4, .inl (cI, 777924, .inl (tb [0, 0, 0, 0, 1, 0, 0, 0, 2, 0, 0, 0, 3, 0, 0, 0, 4, 0, 0, 0, 5, 0, 0, 0, 6, 0, 0, 0, 7]))), (a0, .inr (9, [.ref a5, .ref a6, .ref a1, .ref a3, .ref a7, .ref a8, .ref a9, .ref a10, .ref a11, .ref a12, .ref a13, .ref a14, .int 1, .int 0, .int 0, .ref a15, .ref a16, .ref a17, .ref a18, .ref a19, .ref a20, .int 0, .int 0, .ref a21, .ref a22, .ref a23, .ref a24, .int 0, .int 0, .ref a25, .ref a26, .ref a27, .ref a2, .int 1, .ref a4, .int 8])), (a1, .inl (cI, 4, .inl (tb [0, 0, 0, 0]))), (a2, .inl (cI, 4, .inl (tb [7]))), (a3, .inl (cI, 4, .inl (tb [10, 10, 10, 10])))])) (va_A [(a0, .inr (9, [.ref a5, .ref a6, .ref a1, .ref a3, .ref a7, .ref a8, .ref a9, .ref a10, .ref a11, .ref a12, .ref a13, .ref a14, .int 1, .int 0, .int 0, .ref a15, .ref a16, .ref a17, .ref a18, .ref a19, .ref a20, .int 0, .int 0, .ref a21, .ref a22, .ref a23, .ref a24, .int 0, .int 0, .ref a25, .ref a26, .ref a27, .ref a2, .int 1, .ref a4, .int 7])), (a1, .inl (cI, 4, .inl (tb [0, 0, 0, 0]))), (a2, .inl (cI, 4, .inl (tb [7]))), (a3, .inl (cI, 4, .inl (tb [10, 10, 10, 10]))), (a4, .inl (cI, 777924, .inl (tb [0, 0, 0, 0, 1, 0, 0, 0, 2, 0, 0, 0, 3, 0, 0, 0, 4, 0, 0, 0, 5, 0, 0, 0, 6])))] sz)) 0 0 (va_A [(a0, .inr (9, [.ref a5, .ref a6, .ref a1, .ref a3, .ref a7, .ref a8, .ref a9, .ref a10, .ref a11, .ref a12, .ref a13, .ref a14, .int 1, .int 0, .int 0, .ref a15, .ref a16, .ref a17, .ref a18, .ref a19, .ref a20, .int 0, .int 0, .ref a21, .ref a22, .ref a23, .ref a24, .int 0, .int 0, .ref a25, .ref a26, .ref a27, .ref a2, .int 1, .ref a4, .int 7])), (a1, .inl (cI, 4, .inl (tb [0, 0, 0, 0]))), (a2, .inl (cI, 4, .inl (tb [7]))), (a3, .inl (cI, 4, .inl (tb [10, 10, 10, 10]))), (a4, .inl (cI, 777924, .inl (tb [0, 0, 0, 0, 1, 0, 0, 0, 2, 0, 0, 0, 3, 0, 0, 0, 4, 0, 0, 0, 5, 0, 0, 0, 6])))] sz) := by
  refine SM.of (y := yX9_gathers) (maxL := 3) (av := [.ref a0, .int 1]) (QcV dC dI (TY cI cJ cII cJJ) (fun _ => [(a4, .inl (cI, 777924, .inl (tb [0, 0, 0, 0, 1, 0, 0, 0, 2, 0, 0, 0, 3, 0, 0, 0, 4, 0, 0, 0, 5, 0, 0, 0, 6, 0, 0, 0, 7]))), (a0, .inr (9, [.ref a5, .ref a6, .ref a1, .ref a3, .ref a7, .ref a8, .ref a9, .ref a10, .ref a11, .ref a12, .ref a13, .ref a14, .int 1, .int 0, .int 0, .ref a15, .ref a16, .ref a17, .ref a18, .ref a19, .ref a20, .int 0, .int 0, .ref a21, .ref a22, .ref a23, .ref a24, .int 0, .int 0, .ref a25, .ref a26, .ref a27, .ref a2, .int 1, .ref a4, .int 8])), (a1, .inl (cI, 4, .inl (tb [0, 0, 0, 0]))), (a2, .inl (cI, 4, .inl (tb [7]))), (a3, .inl (cI, 4, .inl (tb [10, 10, 10, 10])))])) (by decide +kernel) (Nat.le_of_ble_eq_true rfl) (fun p e s m below meth c A ls hx hb hr hml hown hts hk hnm hA hK hP hD hS hX hl => ?_)
  have hown : s.vm.findClass RX9 = some m.cls := hown
  have hl : lv_has ls 3 [(0, .ref a0), (1, .int 1)] := hl
  refine lv_iload_n hx hb dX9_gathers_0 rfl (lv_at hl 1 rfl) ?_
  refine lv_aload_n hx hb dX9_gathers_1 rfl (lv_at hl 0 rfl) ?_
  refine gf (k := 12) hx hb hts inX9 hown hK hP k_807 rfl (by decide) rfl 0 rfl (.int 1) rfl dX9_gathers_2 ?_
  refine t_icmp_ge hx hb dX9_gathers_5 46 (by decide) (by decide +kernel) ?_
  refine lv_aload_n hx hb dX9_gathers_46 rfl (lv_at hl 0 rfl) ?_
  refine lv_aload_n hx hb dX9_gathers_47 rfl (lv_at hl 0 rfl) ?_
  refine gf (k := 32) hx hb hts inX9 hown hK hP k_827 rfl (by decide) rfl 0 rfl (.ref a2) rfl dX9_gathers_48 ?_
  refine lv_iconst (v := 0) hx hb dX9_gathers_51 (by decide) ?_
  refine kV_i (q0 := 0) ⟨hx, hb, hml, hown, hts⟩ hK hP hD hS hA hX cv_RX9_199 [0, 1, 2, 3] [4] (wr := [(a4, .inl (cI, 777924, .inl (tb [0, 0, 0, 0, 1, 0, 0, 0, 2, 0, 0, 0, 3, 0, 0, 0, 4, 0, 0, 0, 5, 0, 0, 0, 6])))]) rfl rfl rfl rfl (by decide) (c532_X9_isPlan l dC dI cI cJ cII cJJ s.heap.size 0 a0 a1 a2 a3 a5 a6 a7 a8 a9 a10 a11 a12 a13 a14 a15 a16 a17 a18 a19 a20 a21 a22 a23 a24 a25 a26 a27 a4) ⟨by decide +kernel, by decide +kernel⟩ rfl rfl (Or.inl rfl) (rest := []) rfl rfl rfl hl.1 rfl (Nat.le_of_ble_eq_true rfl) dX9_gathers_52 ⟨Nat.le_of_ble_eq_true rfl, Nat.le_of_ble_eq_true rfl⟩ (W' := [(a4, .inl (cI, 777924, .inl (tb [0, 0, 0, 0, 1, 0, 0, 0, 2, 0, 0, 0, 3, 0, 0, 0, 4, 0, 0, 0, 5, 0, 0, 0, 6]))), (a0, .inr (9, [.ref a5, .ref a6, .ref a1, .ref a3, .ref a7, .ref a8, .ref a9, .ref a10, .ref a11, .ref a12, .ref a13, .ref a14, .int 1, .int 0, .int 0, .ref a15, .ref a16, .ref a17, .ref a18, .ref a19, .ref a20, .int 0, .int 0, .ref a21, .ref a22, .ref a23, .ref a24, .int 0, .int 0, .ref a25, .ref a26, .ref a27, .ref a2, .int 1, .ref a4, .int 7])), (a1, .inl (cI, 4, .inl (tb [0, 0, 0, 0]))), (a2, .inl (cI, 4, .inl (tb [7]))), (a3, .inl (cI, 4, .inl (tb [10, 10, 10, 10])))]) rfl (fun H locs hP hD hS => ?_)
  refine t_if_ne hx hb dX9_gathers_55 59 (by decide) (by decide +kernel) ?_
  refine lv_iconst (v := 0) hx hb dX9_gathers_59 (by decide) ?_
  refine lv_istore_n (lv' := [(2, .int 0), (0, .ref a0), (1, .int 1)]) hx hb dX9_gathers_60 rfl hl (by decide) rfl (fun ls hl => ?_)
  refine lv_iload_n hx hb dX9_gathers_61 rfl (lv_at hl 0 rfl) ?_
  refine lv_aload_n hx hb dX9_gathers_62 rfl (lv_at hl 1 rfl) ?_
  refine gf (k := 12) hx hb hts inX9 hown hK hP k_807 rfl (by decide) rfl 1 rfl (.int 1) rfl dX9_gathers_63 ?_
  refine f_icmp_ge hx hb dX9_gathers_66 94 (by decide) (by decide +kernel) ?_
  refine lv_aload_n hx hb dX9_gathers_69 rfl (lv_at hl 1 rfl) ?_
  refine gf (k := 34) hx hb hts inX9 hown hK hP k_829 rfl (by decide) rfl 1 rfl (.ref a4) rfl dX9_gathers_70 ?_
  refine lv_iconst (v := 4) hx hb dX9_gathers_73 (by decide) ?_
  refine lv_aload_n hx hb dX9_gathers_74 rfl (lv_at hl 1 rfl) ?_
  refine gf (k := 35) hx hb hts inX9 hown hK hP k_830 rfl (by decide) rfl 1 rfl (.int 7) rfl dX9_gathers_75 ?_
  refine v_imul hx hb dX9_gathers_78 28 (by decide +kernel) ?_
  refine lv_iload_n hx hb dX9_gathers_79 rfl (lv_at hl 0 rfl) ?_
  refine v_iadd hx hb dX9_gathers_80 28 (by decide +kernel) ?_
  refine lv_aload_n hx hb dX9_gathers_81 rfl (lv_at hl 1 rfl) ?_
  refine gf (k := 32) hx hb hts inX9 hown hK hP k_827 rfl (by decide) rfl 1 rfl (.ref a2) rfl dX9_gathers_82 ?_
  refine lv_iload_n hx hb dX9_gathers_85 rfl (lv_at hl 0 rfl) ?_
  refine ld_i hx hb hK hP 3 rfl (vin (by decide +kernel)) dX9_gathers_86 7 rfl ?_
  refine st_i hx hb hK hP hD hS 0 rfl (vin (by decide +kernel)) dX9_gathers_87 (L' := [0, 0, 0, 0, 1, 0, 0, 0, 2, 0, 0, 0, 3, 0, 0, 0, 4, 0, 0, 0, 5, 0, 0, 0, 6, 0, 0, 0, 7]) rfl (W' := [(a4, .inl (cI, 777924, .inl (tb [0, 0, 0, 0, 1, 0, 0, 0, 2, 0, 0, 0, 3, 0, 0, 0, 4, 0, 0, 0, 5, 0, 0, 0, 6, 0, 0, 0, 7]))), (a0, .inr (9, [.ref a5, .ref a6, .ref a1, .ref a3, .ref a7, .ref a8, .ref a9, .ref a10, .ref a11, .ref a12, .ref a13, .ref a14, .int 1, .int 0, .int 0, .ref a15, .ref a16, .ref a17, .ref a18, .ref a19, .ref a20, .int 0, .int 0, .ref a21, .ref a22, .ref a23, .ref a24, .int 0, .int 0, .ref a25, .ref a26, .ref a27, .ref a2, .int 1, .ref a4, .int 7])), (a1, .inl (cI, 4, .inl (tb [0, 0, 0, 0]))), (a2, .inl (cI, 4, .inl (tb [7]))), (a3, .inl (cI, 4, .inl (tb [10, 10, 10, 10])))]) rfl (fun H locs hP hD hS => ?_)
  refine lv_iinc (v := 1) (lv' := [(2, .int 1), (0, .ref a0), (1, .int 1)]) hx hb dX9_gathers_88 hl (k := 0) rfl (by decide +kernel) (by decide) rfl (fun ls hl => ?_)
  refine lv_goto (tgt := 61) hx hb dX9_gathers_91 (by decide) ?_
  refine lv_iload_n hx hb dX9_gathers_61 rfl (lv_at hl 0 rfl) ?_
  refine lv_aload_n hx hb dX9_gathers_62 rfl (lv_at hl 1 rfl) ?_
  refine gf (k := 12) hx hb hts inX9 hown hK hP k_807 rfl (by decide) rfl 1 rfl (.int 1) rfl dX9_gathers_63 ?_
  refine t_icmp_ge hx hb dX9_gathers_66 94 (by decide) (by decide +kernel) ?_
  refine lv_aload_n hx hb dX9_gathers_94 rfl (lv_at hl 1 rfl) ?_
  refine lv_dup hx hb dX9_gathers_95 rfl ?_
  refine gf (k := 35) hx hb hts inX9 hown hK hP k_830 rfl (by decide) rfl 1 rfl (.int 7) rfl dX9_gathers_96 ?_
  refine lv_iconst (v := 1) hx hb dX9_gathers_99 (by decide) ?_
  refine v_iadd hx hb dX9_gathers_100 8 (by decide +kernel) ?_
  refine pf (k := 35) hx hb hts inX9 tyX9_ok nmX9 hown hK hP hD hS k_830 rfl (by decide) rfl rfl 1 rfl rfl rfl (Nat.le_of_ble_eq_true rfl) dX9_gathers_101 (W' := [(a4, .inl (cI, 777924, .inl (tb [0, 0, 0, 0, 1, 0, 0, 0, 2, 0, 0, 0, 3, 0, 0, 0, 4, 0, 0, 0, 5, 0, 0, 0, 6, 0, 0, 0, 7]))), (a0, .inr (9, [.ref a5, .ref a6, .ref a1, .ref a3, .ref a7, .ref a8, .ref a9, .ref a10, .ref a11, .ref a12, .ref a13, .ref a14, .int 1, .int 0, .int 0, .ref a15, .ref a16, .ref a17, .ref a18, .ref a19, .ref a20, .int 0, .int 0, .ref a21, .ref a22, .ref a23, .ref a24, .int 0, .int 0, .ref a25, .ref a26, .ref a27, .ref a2, .int 1, .ref a4, .int 8])), (a1, .inl (cI, 4, .inl (tb [0, 0, 0, 0]))), (a2, .inl (cI, 4, .inl (tb [7]))), (a3, .inl (cI, 4, .inl (tb [10, 10, 10, 10])))]) rfl (fun H locs hP hD hS => ?_)
  exact r_v (fun _ => 0) hx hb hr hk hK hP hD hS dX9_gathers_104
