set_option maxRecDepth 100000 in
set_option maxHeartbeats 4000000 in
theorem c605_X9_near (l : Launch) (dC : Nat → ClassId) (dI : Nat → Nat → Nat) (cI cJ cII cJJ : ClassId) (sz g a0 a1 a2 a3 a4 a5 a6 a7 a8 a9 a10 a11 a12 a13 a14 a15 a16 a17 a18 a19 a20 a21 a22 a23 a24 a25 a26 a27 : Nat) : Met l yX9_near (.code yX9_near cX9_near 5 (some .int) :: TT) ({ frames := 7, cells := 0, slots := 0, locals := 380 }) (PcS dC dI (TY cI cJ cII cJJ) [.ref a0, .int 10] [(a0, .inr (9, [.ref a15, .ref a16, .ref a1, .ref a2, .ref a17, .ref a18, .ref a19, .ref a20, .ref a21, .ref a22, .ref a23, .ref a24, .int 1, .int 0, .int 0, .ref a9, .ref a10, .ref a11, .ref a12, .ref a13, .ref a14, .int 0, .int 0, .ref a6, .ref a5, .ref a7, .ref a8, .int 0, .int 0, .ref a25, .ref a26, .ref a27, .ref a3, .int 0, .ref a4, .int 0])), (a1, .inl (cI, 4, .inl (tb [0, 0, 0, 0]))), (a2, .inl (cI, 4, .inl (tb [10, 10, 10, 10]))), (a3, .inl (cI, 4, .inl (tb []))), (a4, .inl (cI, 777924, .inl (tb []))), (a5, .inl (cI, 3, .inl (tb []))), (a6, .inl (cI, 3, .inl (tb []))), (a7, .inl (cI, 4, .inl (tb []))), (a8, .inl (cI, 4, .inl (tb []))), (a9, .inl (cI, 400000, .inl (tb []))), (a10, .inl (cI, 100000, .inl (tb []))), (a11, .inl (cI, 6001, .inl (tb []))), (a12, .inl (cI, 100000, .inl (tb []))), (a13, .inl (cI, 24000, .inl (tb []))), (a14, .inl (cI, 6000, .inl (tb [])))] sz 0 g) ((QcI dC dI (TY cI cJ cII cJJ) 1 []) (va_A [(a0, .inr (9, [.ref a15, .ref a16, .ref a1, .ref a2, .ref a17, .ref a18, .ref a19, .ref a20, .ref a21, .ref a22, .ref a23, .ref a24, .int 1, .int 0, .int 0, .ref a9, .ref a10, .ref a11, .ref a12, .ref a13, .ref a14, .int 0, .int 0, .ref a6, .ref a5, .ref a7, .ref a8, .int 0, .int 0, .ref a25, .ref a26, .ref a27, .ref a3, .int 0, .ref a4, .int 0])), (a1, .inl (cI, 4, .inl (tb [0, 0, 0, 0]))), (a2, .inl (cI, 4, .inl (tb [10, 10, 10, 10]))), (a3, .inl (cI, 4, .inl (tb []))), (a4, .inl (cI, 777924, .inl (tb []))), (a5, .inl (cI, 3, .inl (tb []))), (a6, .inl (cI, 3, .inl (tb []))), (a7, .inl (cI, 4, .inl (tb []))), (a8, .inl (cI, 4, .inl (tb []))), (a9, .inl (cI, 400000, .inl (tb []))), (a10, .inl (cI, 100000, .inl (tb []))), (a11, .inl (cI, 6001, .inl (tb []))), (a12, .inl (cI, 100000, .inl (tb []))), (a13, .inl (cI, 24000, .inl (tb []))), (a14, .inl (cI, 6000, .inl (tb [])))] sz)) 0 0 (va_A [(a0, .inr (9, [.ref a15, .ref a16, .ref a1, .ref a2, .ref a17, .ref a18, .ref a19, .ref a20, .ref a21, .ref a22, .ref a23, .ref a24, .int 1, .int 0, .int 0, .ref a9, .ref a10, .ref a11, .ref a12, .ref a13, .ref a14, .int 0, .int 0, .ref a6, .ref a5, .ref a7, .ref a8, .int 0, .int 0, .ref a25, .ref a26, .ref a27, .ref a3, .int 0, .ref a4, .int 0])), (a1, .inl (cI, 4, .inl (tb [0, 0, 0, 0]))), (a2, .inl (cI, 4, .inl (tb [10, 10, 10, 10]))), (a3, .inl (cI, 4, .inl (tb []))), (a4, .inl (cI, 777924, .inl (tb []))), (a5, .inl (cI, 3, .inl (tb []))), (a6, .inl (cI, 3, .inl (tb []))), (a7, .inl (cI, 4, .inl (tb []))), (a8, .inl (cI, 4, .inl (tb []))), (a9, .inl (cI, 400000, .inl (tb []))), (a10, .inl (cI, 100000, .inl (tb []))), (a11, .inl (cI, 6001, .inl (tb []))), (a12, .inl (cI, 100000, .inl (tb []))), (a13, .inl (cI, 24000, .inl (tb []))), (a14, .inl (cI, 6000, .inl (tb [])))] sz) := by
  refine SM.of (y := yX9_near) (maxL := 5) (av := [.ref a0, .int 10]) (QcI dC dI (TY cI cJ cII cJJ) 1 []) (by decide +kernel) (Nat.le_of_ble_eq_true rfl) (fun p e s m below meth c A ls hx hb hr hml hown hts hk hnm hA hK hP hD hS hX hl => ?_)
  have hown : s.vm.findClass RX9 = some m.cls := hown
  have hl : lv_has ls 5 [(0, .ref a0), (1, .int 10)] := hl
  refine lv_aload_n hx hb dX9_near_0 rfl (lv_at hl 0 rfl) ?_
  refine kV_v (q0 := 0) ⟨hx, hb, hml, hown, hts⟩ hK hP hD hS hA hX cv_RX9_238 [0, 1, 2, 3, 4] [5, 6, 7, 8, 9, 10, 11, 12, 13, 14] (wr := [(a5, .inl (cI, 3, .inl (tb []))), (a6, .inl (cI, 3, .inl (tb []))), (a7, .inl (cI, 4, .inl (tb []))), (a8, .inl (cI, 4, .inl (tb []))), (a9, .inl (cI, 400000, .inl (tb []))), (a10, .inl (cI, 100000, .inl (tb []))), (a11, .inl (cI, 6001, .inl (tb []))), (a12, .inl (cI, 100000, .inl (tb []))), (a13, .inl (cI, 24000, .inl (tb []))), (a14, .inl (cI, 6000, .inl (tb [])))]) rfl rfl rfl rfl (by decide) (c515_X9_gather l dC dI cI cJ cII cJJ s.heap.size 0 a0 a1 a2 a3 a4 a15 a16 a17 a18 a19 a20 a21 a22 a23 a24 a9 a10 a11 a12 a13 a14 a6 a5 a7 a8 a25 a26 a27) ⟨by decide +kernel, by decide +kernel⟩ rfl rfl (Or.inl rfl) (rest := []) rfl rfl rfl hl.1 rfl (Nat.le_of_ble_eq_true rfl) dX9_near_1 ⟨Nat.le_of_ble_eq_true rfl, Nat.le_of_ble_eq_true rfl⟩ (fun _ => rfl) (W' := [(a5, .inl (cI, 3, .inl (tb []))), (a6, .inl (cI, 3, .inl (tb []))), (a7, .inl (cI, 4, .inl (tb []))), (a8, .inl (cI, 4, .inl (tb []))), (a9, .inl (cI, 400000, .inl (tb []))), (a10, .inl (cI, 100000, .inl (tb []))), (a11, .inl (cI, 6001, .inl (tb []))), (a12, .inl (cI, 100000, .inl (tb []))), (a13, .inl (cI, 24000, .inl (tb []))), (a14, .inl (cI, 6000, .inl (tb []))), (a4, .inl (cI, 777924, .inl (tb [0, 0, 0, 0, 1, 0, 0, 0, 2, 0, 0, 0, 3, 0, 0, 0, 4, 0, 0, 0, 5, 0, 0, 0, 6, 0, 0, 0, 7, 0, 0, 0, 8, 0, 0, 0, 9, 0, 0, 0, 10]))), (a0, .inr (9, [.ref a15, .ref a16, .ref a1, .ref a2, .ref a17, .ref a18, .ref a19, .ref a20, .ref a21, .ref a22, .ref a23, .ref a24, .int 1, .int 0, .int 0, .ref a9, .ref a10, .ref a11, .ref a12, .ref a13, .ref a14, .int 0, .int 0, .ref a6, .ref a5, .ref a7, .ref a8, .int 0, .int 0, .ref a25, .ref a26, .ref a27, .ref a3, .int 1, .ref a4, .int 11])), (a1, .inl (cI, 4, .inl (tb [0, 0, 0, 0]))), (a3, .inl (cI, 4, .inl (tb [10]))), (a2, .inl (cI, 4, .inl (tb [10, 10, 10, 10])))]) rfl (fun H locs hP hD hS => ?_)
  refine lv_iload_n hx hb dX9_near_4 rfl (lv_at hl 1 rfl) ?_
  refine lv_aload_n hx hb dX9_near_5 rfl (lv_at hl 0 rfl) ?_
  refine gf (k := 35) hx hb hts inX9 hown hK hP k_830 rfl (by decide) rfl 11 rfl (.int 11) rfl dX9_near_6 ?_
  refine kS_i ⟨hx, hb, hml, hown, hts⟩ hK hP hD hS hA hX cs_RX9_116 [] [0, 1, 2, 3, 4, 5, 6, 7, 8, 9, 10, 11, 12, 13, 14] (wr := [(a5, .inl (cI, 3, .inl (tb []))), (a6, .inl (cI, 3, .inl (tb []))), (a7, .inl (cI, 4, .inl (tb []))), (a8, .inl (cI, 4, .inl (tb []))), (a9, .inl (cI, 400000, .inl (tb []))), (a10, .inl (cI, 100000, .inl (tb []))), (a11, .inl (cI, 6001, .inl (tb []))), (a12, .inl (cI, 100000, .inl (tb []))), (a13, .inl (cI, 24000, .inl (tb []))), (a14, .inl (cI, 6000, .inl (tb []))), (a4, .inl (cI, 777924, .inl (tb [0, 0, 0, 0, 1, 0, 0, 0, 2, 0, 0, 0, 3, 0, 0, 0, 4, 0, 0, 0, 5, 0, 0, 0, 6, 0, 0, 0, 7, 0, 0, 0, 8, 0, 0, 0, 9, 0, 0, 0, 10]))), (a0, .inr (9, [.ref a15, .ref a16, .ref a1, .ref a2, .ref a17, .ref a18, .ref a19, .ref a20, .ref a21, .ref a22, .ref a23, .ref a24, .int 1, .int 0, .int 0, .ref a9, .ref a10, .ref a11, .ref a12, .ref a13, .ref a14, .int 0, .int 0, .ref a6, .ref a5, .ref a7, .ref a8, .int 0, .int 0, .ref a25, .ref a26, .ref a27, .ref a3, .int 1, .ref a4, .int 11])), (a1, .inl (cI, 4, .inl (tb [0, 0, 0, 0]))), (a3, .inl (cI, 4, .inl (tb [10]))), (a2, .inl (cI, 4, .inl (tb [10, 10, 10, 10])))]) rfl rfl rfl rfl (by decide) (c606_X9_isIn l dC dI cI cJ cII cJJ H.size 0) ⟨by decide +kernel, by decide +kernel⟩ rfl rfl (Or.inl rfl) (rest := []) rfl hl.1 rfl (Nat.le_of_ble_eq_true rfl) dX9_near_9 ⟨Nat.le_of_ble_eq_true rfl, Nat.le_of_ble_eq_true rfl⟩ (W' := [(a5, .inl (cI, 3, .inl (tb []))), (a6, .inl (cI, 3, .inl (tb []))), (a7, .inl (cI, 4, .inl (tb []))), (a8, .inl (cI, 4, .inl (tb []))), (a9, .inl (cI, 400000, .inl (tb []))), (a10, .inl (cI, 100000, .inl (tb []))), (a11, .inl (cI, 6001, .inl (tb []))), (a12, .inl (cI, 100000, .inl (tb []))), (a13, .inl (cI, 24000, .inl (tb []))), (a14, .inl (cI, 6000, .inl (tb []))), (a4, .inl (cI, 777924, .inl (tb [0, 0, 0, 0, 1, 0, 0, 0, 2, 0, 0, 0, 3, 0, 0, 0, 4, 0, 0, 0, 5, 0, 0, 0, 6, 0, 0, 0, 7, 0, 0, 0, 8, 0, 0, 0, 9, 0, 0, 0, 10]))), (a0, .inr (9, [.ref a15, .ref a16, .ref a1, .ref a2, .ref a17, .ref a18, .ref a19, .ref a20, .ref a21, .ref a22, .ref a23, .ref a24, .int 1, .int 0, .int 0, .ref a9, .ref a10, .ref a11, .ref a12, .ref a13, .ref a14, .int 0, .int 0, .ref a6, .ref a5, .ref a7, .ref a8, .int 0, .int 0, .ref a25, .ref a26, .ref a27, .ref a3, .int 1, .ref a4, .int 11])), (a1, .inl (cI, 4, .inl (tb [0, 0, 0, 0]))), (a3, .inl (cI, 4, .inl (tb [10]))), (a2, .inl (cI, 4, .inl (tb [10, 10, 10, 10])))]) rfl (fun H locs hP hD hS => ?_)
  refine t_if_ne hx hb dX9_near_12 21 (by decide) (by decide +kernel) ?_
  refine lv_aload_n hx hb dX9_near_21 rfl (lv_at hl 0 rfl) ?_
  refine kV_v (q0 := 0) ⟨hx, hb, hml, hown, hts⟩ hK hP hD hS hA hX cv_RX9_180 [11, 0, 1, 2, 3, 4, 5, 6, 7, 8, 9] [10, 12, 13, 14] (wr := [(a4, .inl (cI, 777924, .inl (tb [0, 0, 0, 0, 1, 0, 0, 0, 2, 0, 0, 0, 3, 0, 0, 0, 4, 0, 0, 0, 5, 0, 0, 0, 6, 0, 0, 0, 7, 0, 0, 0, 8, 0, 0, 0, 9, 0, 0, 0, 10]))), (a1, .inl (cI, 4, .inl (tb [0, 0, 0, 0]))), (a3, .inl (cI, 4, .inl (tb [10]))), (a2, .inl (cI, 4, .inl (tb [10, 10, 10, 10])))]) rfl rfl rfl rfl (by decide) (c581_X9_findSteps l dC dI cI cJ cII cJJ H.size 0 a0 a5 a6 a7 a8 a9 a10 a11 a12 a13 a14 a15 a16 a1 a2 a17 a18 a19 a20 a21 a22 a23 a24 a25 a26 a27 a3 a4) ⟨by decide +kernel, by decide +kernel⟩ rfl rfl (Or.inl rfl) (rest := []) rfl rfl rfl hl.1 rfl (Nat.le_of_ble_eq_true rfl) dX9_near_22 ⟨Nat.le_of_ble_eq_true rfl, Nat.le_of_ble_eq_true rfl⟩ (fun _ => rfl) (W' := [(a4, .inl (cI, 777924, .inl (tb [0, 0, 0, 0, 1, 0, 0, 0, 2, 0, 0, 0, 3, 0, 0, 0, 4, 0, 0, 0, 5, 0, 0, 0, 6, 0, 0, 0, 7, 0, 0, 0, 8, 0, 0, 0, 9, 0, 0, 0, 10]))), (a1, .inl (cI, 4, .inl (tb [0, 0, 0, 0]))), (a3, .inl (cI, 4, .inl (tb [10]))), (a2, .inl (cI, 4, .inl (tb [10, 10, 10, 10]))), (a11, .inl (cI, 6001, .inl (tb (0 :: 0 :: List.replicate 5999 2)))), (a12, .inl (cI, 100000, .inl (tb [0, 1]))), (a7, .inl (cI, 4, .inl (tb [0]))), (a10, .inl (cI, 100000, .inl (tb [1, 1]))), (a5, .inl (cI, 3, .inl (tb [0, 0, 0]))), (a6, .inl (cI, 3, .inl (tb [0, 0, 0]))), (a8, .inl (cI, 4, .inl (tb [1]))), (a9, .inl (cI, 400000, .inl (tb [(-1), 0, 0, 0, 1, 0, 0, 0]))), (a14, .inl (cI, 6000, .inl (tb [0, 1]))), (a0, .inr (9, [.ref a15, .ref a16, .ref a1, .ref a2, .ref a17, .ref a18, .ref a19, .ref a20, .ref a21, .ref a22, .ref a23, .ref a24, .int 1, .int 0, .int 1, .ref a9, .ref a10, .ref a11, .ref a12, .ref a13, .ref a14, .int 2, .int 2, .ref a6, .ref a5, .ref a7, .ref a8, .int 0, .int 1, .ref a25, .ref a26, .ref a27, .ref a3, .int 1, .ref a4, .int 11])), (a13, .inl (cI, 24000, .inl (tb [(-1), 0, 0, 0, 1, 0, 0, 0])))]) rfl (fun H locs hP hD hS => ?_)
  refine lv_iconst (v := 0) hx hb dX9_near_25 (by decide) ?_
  refine lv_istore_n (lv' := [(2, .int 0), (0, .ref a0), (1, .int 10)]) hx hb dX9_near_26 rfl hl (by decide) rfl (fun ls hl => ?_)
  refine lv_iconst (v := 0) hx hb dX9_near_27 (by decide) ?_
  refine lv_istore_n (lv' := [(3, .int 0), (2, .int 0), (0, .ref a0), (1, .int 10)]) hx hb dX9_near_28 rfl hl (by decide) rfl (fun ls hl => ?_)
  refine lv_iload_n hx hb dX9_near_29 rfl (lv_at hl 0 rfl) ?_
  refine lv_aload_n hx hb dX9_near_30 rfl (lv_at hl 2 rfl) ?_
  refine gf (k := 22) hx hb hts inX9 hown hK hP k_817 rfl (by decide) rfl 13 rfl (.int 2) rfl dX9_near_31 ?_
  refine f_icmp_ge hx hb dX9_near_34 107 (by decide) (by decide +kernel) ?_
  refine lv_iconst (v := 0) hx hb dX9_near_37 (by decide) ?_
  refine lv_istore (lv' := [(4, .int 0), (3, .int 0), (2, .int 0), (0, .ref a0), (1, .int 10)]) hx hb dX9_near_38 hl (by decide) rfl (fun ls hl => ?_)
  refine lv_iload hx hb dX9_near_40 (lv_at hl 0 rfl) ?_
  refine lv_aload_n hx hb dX9_near_42 rfl (lv_at hl 3 rfl) ?_
  refine gf (k := 12) hx hb hts inX9 hown hK hP k_807 rfl (by decide) rfl 13 rfl (.int 1) rfl dX9_near_43 ?_
  refine f_icmp_ge hx hb dX9_near_46 81 (by decide) (by decide +kernel) ?_
  refine lv_aload_n hx hb dX9_near_49 rfl (lv_at hl 3 rfl) ?_
  refine gf (k := 32) hx hb hts inX9 hown hK hP k_827 rfl (by decide) rfl 13 rfl (.ref a3) rfl dX9_near_50 ?_
  refine lv_iload hx hb dX9_near_53 (lv_at hl 0 rfl) ?_
  refine lv_aload_n hx hb dX9_near_55 rfl (lv_at hl 3 rfl) ?_
  refine gf (k := 34) hx hb hts inX9 hown hK hP k_829 rfl (by decide) rfl 13 rfl (.ref a4) rfl dX9_near_56 ?_
  refine lv_iconst (v := 4) hx hb dX9_near_59 (by decide) ?_
  refine lv_iload_n hx hb dX9_near_60 rfl (lv_at hl 4 rfl) ?_
  refine v_imul hx hb dX9_near_61 40 (by decide +kernel) ?_
  refine lv_iload hx hb dX9_near_62 (lv_at hl 0 rfl) ?_
  refine v_iadd hx hb dX9_near_64 40 (by decide +kernel) ?_
  refine ld_i hx hb hK hP 0 rfl (vin (by decide +kernel)) dX9_near_65 10 rfl ?_
  refine lv_aload_n hx hb dX9_near_66 rfl (lv_at hl 3 rfl) ?_
  refine lv_iload_n hx hb dX9_near_67 rfl (lv_at hl 1 rfl) ?_
  refine lv_iload hx hb dX9_near_68 (lv_at hl 0 rfl) ?_
  refine kV_i (q0 := 0) ⟨hx, hb, hml, hown, hts⟩ hK hP hD hS hA hX cv_RX9_183 [13, 12, 14] [0, 1, 2, 3, 4, 5, 6, 7, 8, 9, 10, 11] (wr := [(a4, .inl (cI, 777924, .inl (tb [0, 0, 0, 0, 1, 0, 0, 0, 2, 0, 0, 0, 3, 0, 0, 0, 4, 0, 0, 0, 5, 0, 0, 0, 6, 0, 0, 0, 7, 0, 0, 0, 8, 0, 0, 0, 9, 0, 0, 0, 10]))), (a1, .inl (cI, 4, .inl (tb [0, 0, 0, 0]))), (a3, .inl (cI, 4, .inl (tb [10]))), (a2, .inl (cI, 4, .inl (tb [10, 10, 10, 10]))), (a11, .inl (cI, 6001, .inl (tb (0 :: 0 :: List.replicate 5999 2)))), (a12, .inl (cI, 100000, .inl (tb [0, 1]))), (a7, .inl (cI, 4, .inl (tb [0]))), (a10, .inl (cI, 100000, .inl (tb [1, 1]))), (a5, .inl (cI, 3, .inl (tb [0, 0, 0]))), (a6, .inl (cI, 3, .inl (tb [0, 0, 0]))), (a8, .inl (cI, 4, .inl (tb [1]))), (a9, .inl (cI, 400000, .inl (tb [(-1), 0, 0, 0, 1, 0, 0, 0])))]) rfl rfl rfl rfl (by decide) (c597_X9_at l dC dI cI cJ cII cJJ H.size 0 a0 a14 a13 a15 a16 a1 a2 a17 a18 a19 a20 a21 a22 a23 a24 a9 a10 a11 a12 a6 a5 a7 a8 a25 a26 a27 a3 a4) ⟨by decide +kernel, by decide +kernel⟩ rfl rfl (Or.inl rfl) (rest := [.int 10, .int 0, .ref a3]) rfl rfl rfl hl.1 rfl (Nat.le_of_ble_eq_true rfl) dX9_near_70 ⟨Nat.le_of_ble_eq_true rfl, Nat.le_of_ble_eq_true rfl⟩ (W' := [(a4, .inl (cI, 777924, .inl (tb [0, 0, 0, 0, 1, 0, 0, 0, 2, 0, 0, 0, 3, 0, 0, 0, 4, 0, 0, 0, 5, 0, 0, 0, 6, 0, 0, 0, 7, 0, 0, 0, 8, 0, 0, 0, 9, 0, 0, 0, 10]))), (a1, .inl (cI, 4, .inl (tb [0, 0, 0, 0]))), (a3, .inl (cI, 4, .inl (tb [10]))), (a2, .inl (cI, 4, .inl (tb [10, 10, 10, 10]))), (a11, .inl (cI, 6001, .inl (tb (0 :: 0 :: List.replicate 5999 2)))), (a12, .inl (cI, 100000, .inl (tb [0, 1]))), (a7, .inl (cI, 4, .inl (tb [0]))), (a10, .inl (cI, 100000, .inl (tb [1, 1]))), (a5, .inl (cI, 3, .inl (tb [0, 0, 0]))), (a6, .inl (cI, 3, .inl (tb [0, 0, 0]))), (a8, .inl (cI, 4, .inl (tb [1]))), (a9, .inl (cI, 400000, .inl (tb [(-1), 0, 0, 0, 1, 0, 0, 0]))), (a0, .inr (9, [.ref a15, .ref a16, .ref a1, .ref a2, .ref a17, .ref a18, .ref a19, .ref a20, .ref a21, .ref a22, .ref a23, .ref a24, .int 1, .int 0, .int 1, .ref a9, .ref a10, .ref a11, .ref a12, .ref a13, .ref a14, .int 2, .int 2, .ref a6, .ref a5, .ref a7, .ref a8, .int 0, .int 1, .ref a25, .ref a26, .ref a27, .ref a3, .int 1, .ref a4, .int 11])), (a14, .inl (cI, 6000, .inl (tb [0, 1]))), (a13, .inl (cI, 24000, .inl (tb [(-1), 0, 0, 0, 1, 0, 0, 0])))]) rfl (fun H locs hP hD hS => ?_)
  refine v_iadd hx hb dX9_near_73 9 (by decide +kernel) ?_
  refine st_i hx hb hK hP hD hS 2 rfl (vin (by decide +kernel)) dX9_near_74 (L' := [9]) rfl (W' := [(a4, .inl (cI, 777924, .inl (tb [0, 0, 0, 0, 1, 0, 0, 0, 2, 0, 0, 0, 3, 0, 0, 0, 4, 0, 0, 0, 5, 0, 0, 0, 6, 0, 0, 0, 7, 0, 0, 0, 8, 0, 0, 0, 9, 0, 0, 0, 10]))), (a1, .inl (cI, 4, .inl (tb [0, 0, 0, 0]))), (a3, .inl (cI, 4, .inl (tb [9]))), (a2, .inl (cI, 4, .inl (tb [10, 10, 10, 10]))), (a11, .inl (cI, 6001, .inl (tb (0 :: 0 :: List.replicate 5999 2)))), (a12, .inl (cI, 100000, .inl (tb [0, 1]))), (a7, .inl (cI, 4, .inl (tb [0]))), (a10, .inl (cI, 100000, .inl (tb [1, 1]))), (a5, .inl (cI, 3, .inl (tb [0, 0, 0]))), (a6, .inl (cI, 3, .inl (tb [0, 0, 0]))), (a8, .inl (cI, 4, .inl (tb [1]))), (a9, .inl (cI, 400000, .inl (tb [(-1), 0, 0, 0, 1, 0, 0, 0]))), (a0, .inr (9, [.ref a15, .ref a16, .ref a1, .ref a2, .ref a17, .ref a18, .ref a19, .ref a20, .ref a21, .ref a22, .ref a23, .ref a24, .int 1, .int 0, .int 1, .ref a9, .ref a10, .ref a11, .ref a12, .ref a13, .ref a14, .int 2, .int 2, .ref a6, .ref a5, .ref a7, .ref a8, .int 0, .int 1, .ref a25, .ref a26, .ref a27, .ref a3, .int 1, .ref a4, .int 11])), (a14, .inl (cI, 6000, .inl (tb [0, 1]))), (a13, .inl (cI, 24000, .inl (tb [(-1), 0, 0, 0, 1, 0, 0, 0])))]) rfl (fun H locs hP hD hS => ?_)
  refine lv_iinc (v := 1) (lv' := [(4, .int 1), (3, .int 0), (2, .int 0), (0, .ref a0), (1, .int 10)]) hx hb dX9_near_75 hl (k := 0) rfl (by decide +kernel) (by decide) rfl (fun ls hl => ?_)
  refine lv_goto (tgt := 40) hx hb dX9_near_78 (by decide) ?_
  refine lv_iload hx hb dX9_near_40 (lv_at hl 0 rfl) ?_
  refine lv_aload_n hx hb dX9_near_42 rfl (lv_at hl 3 rfl) ?_
  refine gf (k := 12) hx hb hts inX9 hown hK hP k_807 rfl (by decide) rfl 12 rfl (.int 1) rfl dX9_near_43 ?_
  refine t_icmp_ge hx hb dX9_near_46 81 (by decide) (by decide +kernel) ?_
  refine lv_iload_n hx hb dX9_near_81 rfl (lv_at hl 2 rfl) ?_
  refine lv_aload_n hx hb dX9_near_82 rfl (lv_at hl 3 rfl) ?_
  refine lv_aload_n hx hb dX9_near_83 rfl (lv_at hl 3 rfl) ?_
  refine gf (k := 32) hx hb hts inX9 hown hK hP k_827 rfl (by decide) rfl 12 rfl (.ref a3) rfl dX9_near_84 ?_
  refine lv_iconst (v := 0) hx hb dX9_near_87 (by decide) ?_
  refine kV_i (q0 := 0) ⟨hx, hb, hml, hown, hts⟩ hK hP hD hS hA hX cv_RX9_199 [12, 1, 2, 3] [0, 4, 5, 6, 7, 8, 9, 10, 11, 13, 14] (wr := [(a4, .inl (cI, 777924, .inl (tb [0, 0, 0, 0, 1, 0, 0, 0, 2, 0, 0, 0, 3, 0, 0, 0, 4, 0, 0, 0, 5, 0, 0, 0, 6, 0, 0, 0, 7, 0, 0, 0, 8, 0, 0, 0, 9, 0, 0, 0, 10]))), (a11, .inl (cI, 6001, .inl (tb (0 :: 0 :: List.replicate 5999 2)))), (a12, .inl (cI, 100000, .inl (tb [0, 1]))), (a7, .inl (cI, 4, .inl (tb [0]))), (a10, .inl (cI, 100000, .inl (tb [1, 1]))), (a5, .inl (cI, 3, .inl (tb [0, 0, 0]))), (a6, .inl (cI, 3, .inl (tb [0, 0, 0]))), (a8, .inl (cI, 4, .inl (tb [1]))), (a9, .inl (cI, 400000, .inl (tb [(-1), 0, 0, 0, 1, 0, 0, 0]))), (a14, .inl (cI, 6000, .inl (tb [0, 1]))), (a13, .inl (cI, 24000, .inl (tb [(-1), 0, 0, 0, 1, 0, 0, 0])))]) rfl rfl rfl rfl (by decide) (c607_X9_isPlan l dC dI cI cJ cII cJJ H.size 0 a0 a1 a3 a2 a15 a16 a17 a18 a19 a20 a21 a22 a23 a24 a9 a10 a11 a12 a13 a14 a6 a5 a7 a8 a25 a26 a27 a4) ⟨by decide +kernel, by decide +kernel⟩ rfl rfl (Or.inl rfl) (rest := [.int 0]) rfl rfl rfl hl.1 rfl (Nat.le_of_ble_eq_true rfl) dX9_near_88 ⟨Nat.le_of_ble_eq_true rfl, Nat.le_of_ble_eq_true rfl⟩ (W' := [(a4, .inl (cI, 777924, .inl (tb [0, 0, 0, 0, 1, 0, 0, 0, 2, 0, 0, 0, 3, 0, 0, 0, 4, 0, 0, 0, 5, 0, 0, 0, 6, 0, 0, 0, 7, 0, 0, 0, 8, 0, 0, 0, 9, 0, 0, 0, 10]))), (a11, .inl (cI, 6001, .inl (tb (0 :: 0 :: List.replicate 5999 2)))), (a12, .inl (cI, 100000, .inl (tb [0, 1]))), (a7, .inl (cI, 4, .inl (tb [0]))), (a10, .inl (cI, 100000, .inl (tb [1, 1]))), (a5, .inl (cI, 3, .inl (tb [0, 0, 0]))), (a6, .inl (cI, 3, .inl (tb [0, 0, 0]))), (a8, .inl (cI, 4, .inl (tb [1]))), (a9, .inl (cI, 400000, .inl (tb [(-1), 0, 0, 0, 1, 0, 0, 0]))), (a14, .inl (cI, 6000, .inl (tb [0, 1]))), (a13, .inl (cI, 24000, .inl (tb [(-1), 0, 0, 0, 1, 0, 0, 0]))), (a0, .inr (9, [.ref a15, .ref a16, .ref a1, .ref a2, .ref a17, .ref a18, .ref a19, .ref a20, .ref a21, .ref a22, .ref a23, .ref a24, .int 1, .int 0, .int 1, .ref a9, .ref a10, .ref a11, .ref a12, .ref a13, .ref a14, .int 2, .int 2, .ref a6, .ref a5, .ref a7, .ref a8, .int 0, .int 1, .ref a25, .ref a26, .ref a27, .ref a3, .int 1, .ref a4, .int 11])), (a1, .inl (cI, 4, .inl (tb [0, 0, 0, 0]))), (a3, .inl (cI, 4, .inl (tb [9]))), (a2, .inl (cI, 4, .inl (tb [10, 10, 10, 10])))]) rfl (fun H locs hP hD hS => ?_)
  refine f_if_eq hx hb dX9_near_91 98 (by decide) (by decide +kernel) ?_
  refine lv_iconst (v := 1) hx hb dX9_near_94 (by decide) ?_
  refine lv_goto (tgt := 99) hx hb dX9_near_95 (by decide) ?_
  refine v_iadd hx hb dX9_near_99 1 (by decide +kernel) ?_
  refine lv_istore_n (lv' := [(2, .int 1), (4, .int 1), (3, .int 0), (0, .ref a0), (1, .int 10)]) hx hb dX9_near_100 rfl hl (by decide) rfl (fun ls hl => ?_)
  refine lv_iinc (v := 1) (lv' := [(3, .int 1), (2, .int 1), (4, .int 1), (0, .ref a0), (1, .int 10)]) hx hb dX9_near_101 hl (k := 2) rfl (by decide +kernel) (by decide) rfl (fun ls hl => ?_)
  refine lv_goto (tgt := 29) hx hb dX9_near_104 (by decide) ?_
  refine lv_iload_n hx hb dX9_near_29 rfl (lv_at hl 0 rfl) ?_
  refine lv_aload_n hx hb dX9_near_30 rfl (lv_at hl 3 rfl) ?_
  refine gf (k := 22) hx hb hts inX9 hown hK hP k_817 rfl (by decide) rfl 11 rfl (.int 2) rfl dX9_near_31 ?_
  refine f_icmp_ge hx hb dX9_near_34 107 (by decide) (by decide +kernel) ?_
  refine lv_iconst (v := 0) hx hb dX9_near_37 (by decide) ?_
  refine lv_istore (lv' := [(4, .int 0), (3, .int 1), (2, .int 1), (0, .ref a0), (1, .int 10)]) hx hb dX9_near_38 hl (by decide) rfl (fun ls hl => ?_)
  refine lv_iload hx hb dX9_near_40 (lv_at hl 0 rfl) ?_
  refine lv_aload_n hx hb dX9_near_42 rfl (lv_at hl 3 rfl) ?_
  refine gf (k := 12) hx hb hts inX9 hown hK hP k_807 rfl (by decide) rfl 11 rfl (.int 1) rfl dX9_near_43 ?_
  refine f_icmp_ge hx hb dX9_near_46 81 (by decide) (by decide +kernel) ?_
  refine lv_aload_n hx hb dX9_near_49 rfl (lv_at hl 3 rfl) ?_
  refine gf (k := 32) hx hb hts inX9 hown hK hP k_827 rfl (by decide) rfl 11 rfl (.ref a3) rfl dX9_near_50 ?_
  refine lv_iload hx hb dX9_near_53 (lv_at hl 0 rfl) ?_
  refine lv_aload_n hx hb dX9_near_55 rfl (lv_at hl 3 rfl) ?_
  refine gf (k := 34) hx hb hts inX9 hown hK hP k_829 rfl (by decide) rfl 11 rfl (.ref a4) rfl dX9_near_56 ?_
  refine lv_iconst (v := 4) hx hb dX9_near_59 (by decide) ?_
  refine lv_iload_n hx hb dX9_near_60 rfl (lv_at hl 4 rfl) ?_
  refine v_imul hx hb dX9_near_61 40 (by decide +kernel) ?_
  refine lv_iload hx hb dX9_near_62 (lv_at hl 0 rfl) ?_
  refine v_iadd hx hb dX9_near_64 40 (by decide +kernel) ?_
  refine ld_i hx hb hK hP 0 rfl (vin (by decide +kernel)) dX9_near_65 10 rfl ?_
  refine lv_aload_n hx hb dX9_near_66 rfl (lv_at hl 3 rfl) ?_
  refine lv_iload_n hx hb dX9_near_67 rfl (lv_at hl 1 rfl) ?_
  refine lv_iload hx hb dX9_near_68 (lv_at hl 0 rfl) ?_
  refine kV_i (q0 := 0) ⟨hx, hb, hml, hown, hts⟩ hK hP hD hS hA hX cv_RX9_183 [11, 9, 10] [0, 1, 2, 3, 4, 5, 6, 7, 8, 12, 13, 14] (wr := [(a4, .inl (cI, 777924, .inl (tb [0, 0, 0, 0, 1, 0, 0, 0, 2, 0, 0, 0, 3, 0, 0, 0, 4, 0, 0, 0, 5, 0, 0, 0, 6, 0, 0, 0, 7, 0, 0, 0, 8, 0, 0, 0, 9, 0, 0, 0, 10]))), (a11, .inl (cI, 6001, .inl (tb (0 :: 0 :: List.replicate 5999 2)))), (a12, .inl (cI, 100000, .inl (tb [0, 1]))), (a7, .inl (cI, 4, .inl (tb [0]))), (a10, .inl (cI, 100000, .inl (tb [1, 1]))), (a5, .inl (cI, 3, .inl (tb [0, 0, 0]))), (a6, .inl (cI, 3, .inl (tb [0, 0, 0]))), (a8, .inl (cI, 4, .inl (tb [1]))), (a9, .inl (cI, 400000, .inl (tb [(-1), 0, 0, 0, 1, 0, 0, 0]))), (a1, .inl (cI, 4, .inl (tb [0, 0, 0, 0]))), (a3, .inl (cI, 4, .inl (tb [9]))), (a2, .inl (cI, 4, .inl (tb [10, 10, 10, 10])))]) rfl rfl rfl rfl (by decide) (c599_X9_at l dC dI cI cJ cII cJJ H.size 0 a0 a14 a13 a15 a16 a1 a2 a17 a18 a19 a20 a21 a22 a23 a24 a9 a10 a11 a12 a6 a5 a7 a8 a25 a26 a27 a3 a4) ⟨by decide +kernel, by decide +kernel⟩ rfl rfl (Or.inl rfl) (rest := [.int 10, .int 0, .ref a3]) rfl rfl rfl hl.1 rfl (Nat.le_of_ble_eq_true rfl) dX9_near_70 ⟨Nat.le_of_ble_eq_true rfl, Nat.le_of_ble_eq_true rfl⟩ (W' := [(a4, .inl (cI, 777924, .inl (tb [0, 0, 0, 0, 1, 0, 0, 0, 2, 0, 0, 0, 3, 0, 0, 0, 4, 0, 0, 0, 5, 0, 0, 0, 6, 0, 0, 0, 7, 0, 0, 0, 8, 0, 0, 0, 9, 0, 0, 0, 10]))), (a11, .inl (cI, 6001, .inl (tb (0 :: 0 :: List.replicate 5999 2)))), (a12, .inl (cI, 100000, .inl (tb [0, 1]))), (a7, .inl (cI, 4, .inl (tb [0]))), (a10, .inl (cI, 100000, .inl (tb [1, 1]))), (a5, .inl (cI, 3, .inl (tb [0, 0, 0]))), (a6, .inl (cI, 3, .inl (tb [0, 0, 0]))), (a8, .inl (cI, 4, .inl (tb [1]))), (a9, .inl (cI, 400000, .inl (tb [(-1), 0, 0, 0, 1, 0, 0, 0]))), (a1, .inl (cI, 4, .inl (tb [0, 0, 0, 0]))), (a3, .inl (cI, 4, .inl (tb [9]))), (a2, .inl (cI, 4, .inl (tb [10, 10, 10, 10]))), (a0, .inr (9, [.ref a15, .ref a16, .ref a1, .ref a2, .ref a17, .ref a18, .ref a19, .ref a20, .ref a21, .ref a22, .ref a23, .ref a24, .int 1, .int 0, .int 1, .ref a9, .ref a10, .ref a11, .ref a12, .ref a13, .ref a14, .int 2, .int 2, .ref a6, .ref a5, .ref a7, .ref a8, .int 0, .int 1, .ref a25, .ref a26, .ref a27, .ref a3, .int 1, .ref a4, .int 11])), (a14, .inl (cI, 6000, .inl (tb [0, 1]))), (a13, .inl (cI, 24000, .inl (tb [(-1), 0, 0, 0, 1, 0, 0, 0])))]) rfl (fun H locs hP hD hS => ?_)
  refine v_iadd hx hb dX9_near_73 11 (by decide +kernel) ?_
  refine st_i hx hb hK hP hD hS 10 rfl (vin (by decide +kernel)) dX9_near_74 (L' := [11]) rfl (W' := [(a4, .inl (cI, 777924, .inl (tb [0, 0, 0, 0, 1, 0, 0, 0, 2, 0, 0, 0, 3, 0, 0, 0, 4, 0, 0, 0, 5, 0, 0, 0, 6, 0, 0, 0, 7, 0, 0, 0, 8, 0, 0, 0, 9, 0, 0, 0, 10]))), (a11, .inl (cI, 6001, .inl (tb (0 :: 0 :: List.replicate 5999 2)))), (a12, .inl (cI, 100000, .inl (tb [0, 1]))), (a7, .inl (cI, 4, .inl (tb [0]))), (a10, .inl (cI, 100000, .inl (tb [1, 1]))), (a5, .inl (cI, 3, .inl (tb [0, 0, 0]))), (a6, .inl (cI, 3, .inl (tb [0, 0, 0]))), (a8, .inl (cI, 4, .inl (tb [1]))), (a9, .inl (cI, 400000, .inl (tb [(-1), 0, 0, 0, 1, 0, 0, 0]))), (a1, .inl (cI, 4, .inl (tb [0, 0, 0, 0]))), (a3, .inl (cI, 4, .inl (tb [11]))), (a2, .inl (cI, 4, .inl (tb [10, 10, 10, 10]))), (a0, .inr (9, [.ref a15, .ref a16, .ref a1, .ref a2, .ref a17, .ref a18, .ref a19, .ref a20, .ref a21, .ref a22, .ref a23, .ref a24, .int 1, .int 0, .int 1, .ref a9, .ref a10, .ref a11, .ref a12, .ref a13, .ref a14, .int 2, .int 2, .ref a6, .ref a5, .ref a7, .ref a8, .int 0, .int 1, .ref a25, .ref a26, .ref a27, .ref a3, .int 1, .ref a4, .int 11])), (a14, .inl (cI, 6000, .inl (tb [0, 1]))), (a13, .inl (cI, 24000, .inl (tb [(-1), 0, 0, 0, 1, 0, 0, 0])))]) rfl (fun H locs hP hD hS => ?_)
  refine lv_iinc (v := 1) (lv' := [(4, .int 1), (3, .int 1), (2, .int 1), (0, .ref a0), (1, .int 10)]) hx hb dX9_near_75 hl (k := 0) rfl (by decide +kernel) (by decide) rfl (fun ls hl => ?_)
  refine lv_goto (tgt := 40) hx hb dX9_near_78 (by decide) ?_
  refine lv_iload hx hb dX9_near_40 (lv_at hl 0 rfl) ?_
  refine lv_aload_n hx hb dX9_near_42 rfl (lv_at hl 3 rfl) ?_
  refine gf (k := 12) hx hb hts inX9 hown hK hP k_807 rfl (by decide) rfl 12 rfl (.int 1) rfl dX9_near_43 ?_
  refine t_icmp_ge hx hb dX9_near_46 81 (by decide) (by decide +kernel) ?_
  refine lv_iload_n hx hb dX9_near_81 rfl (lv_at hl 2 rfl) ?_
  refine lv_aload_n hx hb dX9_near_82 rfl (lv_at hl 3 rfl) ?_
  refine lv_aload_n hx hb dX9_near_83 rfl (lv_at hl 3 rfl) ?_
  refine gf (k := 32) hx hb hts inX9 hown hK hP k_827 rfl (by decide) rfl 12 rfl (.ref a3) rfl dX9_near_84 ?_
  refine lv_iconst (v := 0) hx hb dX9_near_87 (by decide) ?_
  refine kV_i (q0 := 0) ⟨hx, hb, hml, hown, hts⟩ hK hP hD hS hA hX cv_RX9_199 [12, 9, 10, 11] [0, 1, 2, 3, 4, 5, 6, 7, 8, 13, 14] (wr := [(a4, .inl (cI, 777924, .inl (tb [0, 0, 0, 0, 1, 0, 0, 0, 2, 0, 0, 0, 3, 0, 0, 0, 4, 0, 0, 0, 5, 0, 0, 0, 6, 0, 0, 0, 7, 0, 0, 0, 8, 0, 0, 0, 9, 0, 0, 0, 10]))), (a11, .inl (cI, 6001, .inl (tb (0 :: 0 :: List.replicate 5999 2)))), (a12, .inl (cI, 100000, .inl (tb [0, 1]))), (a7, .inl (cI, 4, .inl (tb [0]))), (a10, .inl (cI, 100000, .inl (tb [1, 1]))), (a5, .inl (cI, 3, .inl (tb [0, 0, 0]))), (a6, .inl (cI, 3, .inl (tb [0, 0, 0]))), (a8, .inl (cI, 4, .inl (tb [1]))), (a9, .inl (cI, 400000, .inl (tb [(-1), 0, 0, 0, 1, 0, 0, 0]))), (a14, .inl (cI, 6000, .inl (tb [0, 1]))), (a13, .inl (cI, 24000, .inl (tb [(-1), 0, 0, 0, 1, 0, 0, 0])))]) rfl rfl rfl rfl (by decide) (c608_X9_isPlan l dC dI cI cJ cII cJJ H.size 0 a0 a1 a3 a2 a15 a16 a17 a18 a19 a20 a21 a22 a23 a24 a9 a10 a11 a12 a13 a14 a6 a5 a7 a8 a25 a26 a27 a4) ⟨by decide +kernel, by decide +kernel⟩ rfl rfl (Or.inl rfl) (rest := [.int 1]) rfl rfl rfl hl.1 rfl (Nat.le_of_ble_eq_true rfl) dX9_near_88 ⟨Nat.le_of_ble_eq_true rfl, Nat.le_of_ble_eq_true rfl⟩ (W' := [(a4, .inl (cI, 777924, .inl (tb [0, 0, 0, 0, 1, 0, 0, 0, 2, 0, 0, 0, 3, 0, 0, 0, 4, 0, 0, 0, 5, 0, 0, 0, 6, 0, 0, 0, 7, 0, 0, 0, 8, 0, 0, 0, 9, 0, 0, 0, 10]))), (a11, .inl (cI, 6001, .inl (tb (0 :: 0 :: List.replicate 5999 2)))), (a12, .inl (cI, 100000, .inl (tb [0, 1]))), (a7, .inl (cI, 4, .inl (tb [0]))), (a10, .inl (cI, 100000, .inl (tb [1, 1]))), (a5, .inl (cI, 3, .inl (tb [0, 0, 0]))), (a6, .inl (cI, 3, .inl (tb [0, 0, 0]))), (a8, .inl (cI, 4, .inl (tb [1]))), (a9, .inl (cI, 400000, .inl (tb [(-1), 0, 0, 0, 1, 0, 0, 0]))), (a14, .inl (cI, 6000, .inl (tb [0, 1]))), (a13, .inl (cI, 24000, .inl (tb [(-1), 0, 0, 0, 1, 0, 0, 0]))), (a0, .inr (9, [.ref a15, .ref a16, .ref a1, .ref a2, .ref a17, .ref a18, .ref a19, .ref a20, .ref a21, .ref a22, .ref a23, .ref a24, .int 1, .int 0, .int 1, .ref a9, .ref a10, .ref a11, .ref a12, .ref a13, .ref a14, .int 2, .int 2, .ref a6, .ref a5, .ref a7, .ref a8, .int 0, .int 1, .ref a25, .ref a26, .ref a27, .ref a3, .int 1, .ref a4, .int 11])), (a1, .inl (cI, 4, .inl (tb [0, 0, 0, 0]))), (a3, .inl (cI, 4, .inl (tb [11]))), (a2, .inl (cI, 4, .inl (tb [10, 10, 10, 10])))]) rfl (fun H locs hP hD hS => ?_)
  refine t_if_eq hx hb dX9_near_91 98 (by decide) (by decide +kernel) ?_
  refine lv_iconst (v := 0) hx hb dX9_near_98 (by decide) ?_
  refine v_iadd hx hb dX9_near_99 1 (by decide +kernel) ?_
  refine lv_istore_n (lv' := [(2, .int 1), (4, .int 1), (3, .int 1), (0, .ref a0), (1, .int 10)]) hx hb dX9_near_100 rfl hl (by decide) rfl (fun ls hl => ?_)
  refine lv_iinc (v := 2) (lv' := [(3, .int 2), (2, .int 1), (4, .int 1), (0, .ref a0), (1, .int 10)]) hx hb dX9_near_101 hl (k := 2) rfl (by decide +kernel) (by decide) rfl (fun ls hl => ?_)
  refine lv_goto (tgt := 29) hx hb dX9_near_104 (by decide) ?_
  refine lv_iload_n hx hb dX9_near_29 rfl (lv_at hl 0 rfl) ?_
  refine lv_aload_n hx hb dX9_near_30 rfl (lv_at hl 3 rfl) ?_
  refine gf (k := 22) hx hb hts inX9 hown hK hP k_817 rfl (by decide) rfl 11 rfl (.int 2) rfl dX9_near_31 ?_
  refine t_icmp_ge hx hb dX9_near_34 107 (by decide) (by decide +kernel) ?_
  refine lv_iload_n hx hb dX9_near_107 rfl (lv_at hl 1 rfl) ?_
  exact r_i hx hb hr hk hK (hP.sub [] rfl) (hD.sub [] rfl rfl) hS dX9_near_108
set_option maxRecDepth 100000 in
set_option maxHeartbeats 4000000 in
theorem c609_X9_count (l : Launch) (dC : Nat → ClassId) (dI : Nat → Nat → Nat) (cI cJ cII cJJ : ClassId) (sz g a0 a1 a2 a3 a4 a5 a6 a7 a8 a9 a10 a11 a12 a13 a14 a15 a16 a17 a18 a19 a20 a21 a22 a23 a24 a25 a26 a27 : Nat) (x0 : Int32) (h_x0 : -2147483648 ≤ x0.toInt ∧ x0.toInt ≤ -1) : Met l yX9_count (.code yX9_count cX9_count 4 (some .int) :: TT) ({ frames := 2, cells := 0, slots := 0, locals := 80 }) (PcS dC dI (TY cI cJ cII cJJ) [.ref a0, .int x0] [(a0, .inr (9, [.ref a1, .ref a2, .ref a3, .ref a4, .ref a5, .ref a6, .ref a7, .ref a8, .ref a9, .ref a10, .ref a11, .ref a12, .int 1, .int 0, .int 0, .ref a13, .ref a14, .ref a15, .ref a16, .ref a17, .ref a18, .int 0, .int 0, .ref a19, .ref a20, .ref a21, .ref a22, .int 0, .int 0, .ref a23, .ref a24, .ref a25, .ref a26, .int 0, .ref a27, .int 0]))] sz 0 g) ((QcI dC dI (TY cI cJ cII cJJ) (-99999) []) (va_A [(a0, .inr (9, [.ref a1, .ref a2, .ref a3, .ref a4, .ref a5, .ref a6, .ref a7, .ref a8, .ref a9, .ref a10, .ref a11, .ref a12, .int 1, .int 0, .int 0, .ref a13, .ref a14, .ref a15, .ref a16, .ref a17, .ref a18, .int 0, .int 0, .ref a19, .ref a20, .ref a21, .ref a22, .int 0, .int 0, .ref a23, .ref a24, .ref a25, .ref a26, .int 0, .ref a27, .int 0]))] sz)) 0 0 (va_A [(a0, .inr (9, [.ref a1, .ref a2, .ref a3, .ref a4, .ref a5, .ref a6, .ref a7, .ref a8, .ref a9, .ref a10, .ref a11, .ref a12, .int 1, .int 0, .int 0, .ref a13, .ref a14, .ref a15, .ref a16, .ref a17, .ref a18, .int 0, .int 0, .ref a19, .ref a20, .ref a21, .ref a22, .int 0, .int 0, .ref a23, .ref a24, .ref a25, .ref a26, .int 0, .ref a27, .int 0]))] sz) := by
  refine SM.of (y := yX9_count) (maxL := 4) (av := [.ref a0, .int x0]) (QcI dC dI (TY cI cJ cII cJJ) (-99999) []) (by decide +kernel) (Nat.le_of_ble_eq_true rfl) (fun p e s m below meth c A ls hx hb hr hml hown hts hk hnm hA hK hP hD hS hX hl => ?_)
  have hown : s.vm.findClass RX9 = some m.cls := hown
  have hl : lv_has ls 4 [(0, .ref a0), (1, .int x0)] := hl
  refine lv_iload_n hx hb dX9_count_0 rfl (lv_at hl 1 rfl) ?_
  refine lv_bipush (v := 10) hx hb dX9_count_1 (by decide) ?_
  refine t_icmp_le hx hb dX9_count_3 22 (by decide) (p_le (by rw [show (10 : Int32).toInt = 10 from by decide +kernel]; omega)) ?_
  refine lv_iconst (v := 0) hx hb dX9_count_22 (by decide) ?_
  refine lv_istore_n (lv' := [(2, .int 0), (0, .ref a0), (1, .int x0)]) hx hb dX9_count_23 rfl hl (by decide) rfl (fun ls hl => ?_)
  refine lv_iload_n hx hb dX9_count_24 rfl (lv_at hl 2 rfl) ?_
  refine lv_tableOut (tgt := 177) hx hb dX9_count_25 (by omega) (by decide) ?_
  refine lv_ldc (v := (-99999)) hx hb hown (hts _ k_1014) dX9_count_177 ?_
  exact r_i hx hb hr hk hK (hP.sub [] rfl) (hD.sub [] rfl rfl) hS dX9_count_179
set_option maxRecDepth 100000 in
set_option maxHeartbeats 4000000 in
theorem c610_X9_count (l : Launch) (dC : Nat → ClassId) (dI : Nat → Nat → Nat) (cI cJ cII cJJ : ClassId) (sz g a0 a1 a2 a3 a4 a5 a6 a7 a8 a9 a10 a11 a12 a13 a14 a15 a16 a17 a18 a19 a20 a21 a22 a23 a24 a25 a26 a27 : Nat) : Met l yX9_count (.code yX9_count cX9_count 4 (some .int) :: TT) ({ frames := 2, cells := 0, slots := 0, locals := 80 }) (PcS dC dI (TY cI cJ cII cJJ) [.ref a0, .int 0] [(a0, .inr (9, [.ref a1, .ref a2, .ref a3, .ref a4, .ref a5, .ref a6, .ref a7, .ref a8, .ref a9, .ref a10, .ref a11, .ref a12, .int 1, .int 0, .int 0, .ref a13, .ref a14, .ref a15, .ref a16, .ref a17, .ref a18, .int 0, .int 0, .ref a19, .ref a20, .ref a21, .ref a22, .int 0, .int 0, .ref a23, .ref a24, .ref a25, .ref a26, .int 0, .ref a27, .int 0]))] sz 0 g) ((QcI dC dI (TY cI cJ cII cJJ) 1 []) (va_A [(a0, .inr (9, [.ref a1, .ref a2, .ref a3, .ref a4, .ref a5, .ref a6, .ref a7, .ref a8, .ref a9, .ref a10, .ref a11, .ref a12, .int 1, .int 0, .int 0, .ref a13, .ref a14, .ref a15, .ref a16, .ref a17, .ref a18, .int 0, .int 0, .ref a19, .ref a20, .ref a21, .ref a22, .int 0, .int 0, .ref a23, .ref a24, .ref a25, .ref a26, .int 0, .ref a27, .int 0]))] sz)) 0 0 (va_A [(a0, .inr (9, [.ref a1, .ref a2, .ref a3, .ref a4, .ref a5, .ref a6, .ref a7, .ref a8, .ref a9, .ref a10, .ref a11, .ref a12, .int 1, .int 0, .int 0, .ref a13, .ref a14, .ref a15, .ref a16, .ref a17, .ref a18, .int 0, .int 0, .ref a19, .ref a20, .ref a21, .ref a22, .int 0, .int 0, .ref a23, .ref a24, .ref a25, .ref a26, .int 0, .ref a27, .int 0]))] sz) := by
  refine SM.of (y := yX9_count) (maxL := 4) (av := [.ref a0, .int 0]) (QcI dC dI (TY cI cJ cII cJJ) 1 []) (by decide +kernel) (Nat.le_of_ble_eq_true rfl) (fun p e s m below meth c A ls hx hb hr hml hown hts hk hnm hA hK hP hD hS hX hl => ?_)
  have hown : s.vm.findClass RX9 = some m.cls := hown
  have hl : lv_has ls 4 [(0, .ref a0), (1, .int 0)] := hl
  refine lv_iload_n hx hb dX9_count_0 rfl (lv_at hl 1 rfl) ?_
  refine lv_bipush (v := 10) hx hb dX9_count_1 (by decide) ?_
  refine t_icmp_le hx hb dX9_count_3 22 (by decide) (by decide +kernel) ?_
  refine lv_iconst (v := 0) hx hb dX9_count_22 (by decide) ?_
  refine lv_istore_n (lv' := [(2, .int 0), (0, .ref a0), (1, .int 0)]) hx hb dX9_count_23 rfl hl (by decide) rfl (fun ls hl => ?_)
  refine lv_iload_n hx hb dX9_count_24 rfl (lv_at hl 2 rfl) ?_
  refine lv_tableIn (off := 43) (tgt := 68) hx hb dX9_count_25 (by decide +kernel) (by decide +kernel) (by decide +kernel) (by decide) ?_
  refine lv_aload_n hx hb dX9_count_68 rfl (lv_at hl 1 rfl) ?_
  refine gf (k := 12) hx hb hts inX9 hown hK hP k_807 rfl (by decide) rfl 0 rfl (.int 1) rfl dX9_count_69 ?_
  exact r_i hx hb hr hk hK (hP.sub [] rfl) (hD.sub [] rfl rfl) hS dX9_count_72
set_option maxRecDepth 100000 in
set_option maxHeartbeats 4000000 in
theorem c611_X9_count (l : Launch) (dC : Nat → ClassId) (dI : Nat → Nat → Nat) (cI cJ cII cJJ : ClassId) (sz g a0 a1 a2 a3 a4 a5 a6 a7 a8 a9 a10 a11 a12 a13 a14 a15 a16 a17 a18 a19 a20 a21 a22 a23 a24 a25 a26 a27 : Nat) : Met l yX9_count (.code yX9_count cX9_count 4 (some .int) :: TT) ({ frames := 2, cells := 0, slots := 0, locals := 80 }) (PcS dC dI (TY cI cJ cII cJJ) [.ref a0, .int 1] [(a0, .inr (9, [.ref a1, .ref a2, .ref a3, .ref a4, .ref a5, .ref a6, .ref a7, .ref a8, .ref a9, .ref a10, .ref a11, .ref a12, .int 1, .int 0, .int 0, .ref a13, .ref a14, .ref a15, .ref a16, .ref a17, .ref a18, .int 0, .int 0, .ref a19, .ref a20, .ref a21, .ref a22, .int 0, .int 0, .ref a23, .ref a24, .ref a25, .ref a26, .int 0, .ref a27, .int 0]))] sz 0 g) ((QcI dC dI (TY cI cJ cII cJJ) 0 []) (va_A [(a0, .inr (9, [.ref a1, .ref a2, .ref a3, .ref a4, .ref a5, .ref a6, .ref a7, .ref a8, .ref a9, .ref a10, .ref a11, .ref a12, .int 1, .int 0, .int 0, .ref a13, .ref a14, .ref a15, .ref a16, .ref a17, .ref a18, .int 0, .int 0, .ref a19, .ref a20, .ref a21, .ref a22, .int 0, .int 0, .ref a23, .ref a24, .ref a25, .ref a26, .int 0, .ref a27, .int 0]))] sz)) 0 0 (va_A [(a0, .inr (9, [.ref a1, .ref a2, .ref a3, .ref a4, .ref a5, .ref a6, .ref a7, .ref a8, .ref a9, .ref a10, .ref a11, .ref a12, .int 1, .int 0, .int 0, .ref a13, .ref a14, .ref a15, .ref a16, .ref a17, .ref a18, .int 0, .int 0, .ref a19, .ref a20, .ref a21, .ref a22, .int 0, .int 0, .ref a23, .ref a24, .ref a25, .ref a26, .int 0, .ref a27, .int 0]))] sz) := by
  refine SM.of (y := yX9_count) (maxL := 4) (av := [.ref a0, .int 1]) (QcI dC dI (TY cI cJ cII cJJ) 0 []) (by decide +kernel) (Nat.le_of_ble_eq_true rfl) (fun p e s m below meth c A ls hx hb hr hml hown hts hk hnm hA hK hP hD hS hX hl => ?_)
  have hown : s.vm.findClass RX9 = some m.cls := hown
  have hl : lv_has ls 4 [(0, .ref a0), (1, .int 1)] := hl
  refine lv_iload_n hx hb dX9_count_0 rfl (lv_at hl 1 rfl) ?_
  refine lv_bipush (v := 10) hx hb dX9_count_1 (by decide) ?_
  refine t_icmp_le hx hb dX9_count_3 22 (by decide) (by decide +kernel) ?_
  refine lv_iconst (v := 0) hx hb dX9_count_22 (by decide) ?_
  refine lv_istore_n (lv' := [(2, .int 0), (0, .ref a0), (1, .int 1)]) hx hb dX9_count_23 rfl hl (by decide) rfl (fun ls hl => ?_)
  refine lv_iload_n hx hb dX9_count_24 rfl (lv_at hl 2 rfl) ?_
  refine lv_tableIn (off := 48) (tgt := 73) hx hb dX9_count_25 (by decide +kernel) (by decide +kernel) (by decide +kernel) (by decide) ?_
  refine lv_aload_n hx hb dX9_count_73 rfl (lv_at hl 1 rfl) ?_
  refine gf (k := 13) hx hb hts inX9 hown hK hP k_808 rfl (by decide) rfl 0 rfl (.int 0) rfl dX9_count_74 ?_
  exact r_i hx hb hr hk hK (hP.sub [] rfl) (hD.sub [] rfl rfl) hS dX9_count_77
set_option maxRecDepth 100000 in
set_option maxHeartbeats 4000000 in
theorem c612_X9_count (l : Launch) (dC : Nat → ClassId) (dI : Nat → Nat → Nat) (cI cJ cII cJJ : ClassId) (sz g a0 a1 a2 a3 a4 a5 a6 a7 a8 a9 a10 a11 a12 a13 a14 a15 a16 a17 a18 a19 a20 a21 a22 a23 a24 a25 a26 a27 : Nat) : Met l yX9_count (.code yX9_count cX9_count 4 (some .int) :: TT) ({ frames := 7, cells := 0, slots := 0, locals := 380 }) (PcS dC dI (TY cI cJ cII cJJ) [.ref a0, .int 2] [(a0, .inr (9, [.ref a11, .ref a12, .ref a13, .ref a14, .ref a15, .ref a16, .ref a17, .ref a18, .ref a19, .ref a20, .ref a21, .ref a22, .int 1, .int 0, .int 0, .ref a5, .ref a6, .ref a7, .ref a8, .ref a9, .ref a10, .int 0, .int 0, .ref a2, .ref a1, .ref a3, .ref a4, .int 0, .int 0, .ref a23, .ref a24, .ref a25, .ref a26, .int 0, .ref a27, .int 0])), (a1, .inl (cI, 3, .inl (tb []))), (a2, .inl (cI, 3, .inl (tb []))), (a3, .inl (cI, 4, .inl (tb []))), (a4, .inl (cI, 4, .inl (tb []))), (a5, .inl (cI, 400000, .inl (tb []))), (a6, .inl (cI, 100000, .inl (tb []))), (a7, .inl (cI, 6001, .inl (tb []))), (a8, .inl (cI, 100000, .inl (tb []))), (a9, .inl (cI, 24000, .inl (tb []))), (a10, .inl (cI, 6000, .inl (tb [])))] sz 0 g) ((QcI dC dI (TY cI cJ cII cJJ) 0 []) (va_A [(a0, .inr (9, [.ref a11, .ref a12, .ref a13, .ref a14, .ref a15, .ref a16, .ref a17, .ref a18, .ref a19, .ref a20, .ref a21, .ref a22, .int 1, .int 0, .int 0, .ref a5, .ref a6, .ref a7, .ref a8, .ref a9, .ref a10, .int 0, .int 0, .ref a2, .ref a1, .ref a3, .ref a4, .int 0, .int 0, .ref a23, .ref a24, .ref a25, .ref a26, .int 0, .ref a27, .int 0])), (a1, .inl (cI, 3, .inl (tb []))), (a2, .inl (cI, 3, .inl (tb []))), (a3, .inl (cI, 4, .inl (tb []))), (a4, .inl (cI, 4, .inl (tb []))), (a5, .inl (cI, 400000, .inl (tb []))), (a6, .inl (cI, 100000, .inl (tb []))), (a7, .inl (cI, 6001, .inl (tb []))), (a8, .inl (cI, 100000, .inl (tb []))), (a9, .inl (cI, 24000, .inl (tb []))), (a10, .inl (cI, 6000, .inl (tb [])))] sz)) 0 0 (va_A [(a0, .inr (9, [.ref a11, .ref a12, .ref a13, .ref a14, .ref a15, .ref a16, .ref a17, .ref a18, .ref a19, .ref a20, .ref a21, .ref a22, .int 1, .int 0, .int 0, .ref a5, .ref a6, .ref a7, .ref a8, .ref a9, .ref a10, .int 0, .int 0, .ref a2, .ref a1, .ref a3, .ref a4, .int 0, .int 0, .ref a23, .ref a24, .ref a25, .ref a26, .int 0, .ref a27, .int 0])), (a1, .inl (cI, 3, .inl (tb []))), (a2, .inl (cI, 3, .inl (tb []))), (a3, .inl (cI, 4, .inl (tb []))), (a4, .inl (cI, 4, .inl (tb []))), (a5, .inl (cI, 400000, .inl (tb []))), (a6, .inl (cI, 100000, .inl (tb []))), (a7, .inl (cI, 6001, .inl (tb []))), (a8, .inl (cI, 100000, .inl (tb []))), (a9, .inl (cI, 24000, .inl (tb []))), (a10, .inl (cI, 6000, .inl (tb [])))] sz) := by
  refine SM.of (y := yX9_count) (maxL := 4) (av := [.ref a0, .int 2]) (QcI dC dI (TY cI cJ cII cJJ) 0 []) (by decide +kernel) (Nat.le_of_ble_eq_true rfl) (fun p e s m below meth c A ls hx hb hr hml hown hts hk hnm hA hK hP hD hS hX hl => ?_)
  have hown : s.vm.findClass RX9 = some m.cls := hown
  have hl : lv_has ls 4 [(0, .ref a0), (1, .int 2)] := hl
  refine lv_iload_n hx hb dX9_count_0 rfl (lv_at hl 1 rfl) ?_
  refine lv_bipush (v := 10) hx hb dX9_count_1 (by decide) ?_
  refine t_icmp_le hx hb dX9_count_3 22 (by decide) (by decide +kernel) ?_
  refine lv_iconst (v := 0) hx hb dX9_count_22 (by decide) ?_
  refine lv_istore_n (lv' := [(2, .int 0), (0, .ref a0), (1, .int 2)]) hx hb dX9_count_23 rfl hl (by decide) rfl (fun ls hl => ?_)
  refine lv_iload_n hx hb dX9_count_24 rfl (lv_at hl 2 rfl) ?_
  refine lv_tableIn (off := 53) (tgt := 78) hx hb dX9_count_25 (by decide +kernel) (by decide +kernel) (by decide +kernel) (by decide) ?_
  refine lv_aload_n hx hb dX9_count_78 rfl (lv_at hl 1 rfl) ?_
  refine kV_v (q0 := 0) ⟨hx, hb, hml, hown, hts⟩ hK hP hD hS hA hX cv_RX9_180 [0, 1, 2, 3, 4, 5, 6, 7, 8, 9, 10] [] (wr := []) rfl rfl rfl rfl (by decide) (c373_X9_findSteps l dC dI cI cJ cII cJJ s.heap.size 0 a0 a1 a2 a3 a4 a5 a6 a7 a8 a9 a10 a11 a12 a13 a14 a15 a16 a17 a18 a19 a20 a21 a22 a23 a24 a25 a26 a27) ⟨by decide +kernel, by decide +kernel⟩ rfl rfl (Or.inl rfl) (rest := []) rfl rfl rfl hl.1 rfl (Nat.le_of_ble_eq_true rfl) dX9_count_79 ⟨Nat.le_of_ble_eq_true rfl, Nat.le_of_ble_eq_true rfl⟩ (fun _ => rfl) (W' := [(a7, .inl (cI, 6001, .inl (tb (0 :: 0 :: List.replicate 5999 2)))), (a8, .inl (cI, 100000, .inl (tb [0, 1]))), (a3, .inl (cI, 4, .inl (tb [0]))), (a6, .inl (cI, 100000, .inl (tb [1, 1]))), (a1, .inl (cI, 3, .inl (tb [0, 0, 0]))), (a2, .inl (cI, 3, .inl (tb [0, 0, 0]))), (a4, .inl (cI, 4, .inl (tb [1]))), (a5, .inl (cI, 400000, .inl (tb [(-1), 0, 0, 0, 1, 0, 0, 0]))), (a10, .inl (cI, 6000, .inl (tb [0, 1]))), (a0, .inr (9, [.ref a11, .ref a12, .ref a13, .ref a14, .ref a15, .ref a16, .ref a17, .ref a18, .ref a19, .ref a20, .ref a21, .ref a22, .int 1, .int 0, .int 1, .ref a5, .ref a6, .ref a7, .ref a8, .ref a9, .ref a10, .int 2, .int 2, .ref a2, .ref a1, .ref a3, .ref a4, .int 0, .int 1, .ref a23, .ref a24, .ref a25, .ref a26, .int 0, .ref a27, .int 0])), (a9, .inl (cI, 24000, .inl (tb [(-1), 0, 0, 0, 1, 0, 0, 0])))]) rfl (fun H locs hP hD hS => ?_)
  refine lv_iconst (v := 0) hx hb dX9_count_82 (by decide) ?_
  refine lv_istore_n (lv' := [(3, .int 0), (2, .int 0), (0, .ref a0), (1, .int 2)]) hx hb dX9_count_83 rfl hl (by decide) rfl (fun ls hl => ?_)
  refine lv_iload_n hx hb dX9_count_84 rfl (lv_at hl 0 rfl) ?_
  refine lv_aload_n hx hb dX9_count_85 rfl (lv_at hl 2 rfl) ?_
  refine gf (k := 22) hx hb hts inX9 hown hK hP k_817 rfl (by decide) rfl 9 rfl (.int 2) rfl dX9_count_86 ?_
  refine f_icmp_ge hx hb dX9_count_89 117 (by decide) (by decide +kernel) ?_
  refine lv_iload_n hx hb dX9_count_92 rfl (lv_at hl 1 rfl) ?_
  refine lv_aload_n hx hb dX9_count_93 rfl (lv_at hl 2 rfl) ?_
  refine lv_iload_n hx hb dX9_count_94 rfl (lv_at hl 0 rfl) ?_
  refine kV_i (q0 := 0) ⟨hx, hb, hml, hown, hts⟩ hK hP hD hS hA hX cv_RX9_188 [9, 8, 10] [0, 1, 2, 3, 4, 5, 6, 7] (wr := [(a7, .inl (cI, 6001, .inl (tb (0 :: 0 :: List.replicate 5999 2)))), (a8, .inl (cI, 100000, .inl (tb [0, 1]))), (a3, .inl (cI, 4, .inl (tb [0]))), (a6, .inl (cI, 100000, .inl (tb [1, 1]))), (a1, .inl (cI, 3, .inl (tb [0, 0, 0]))), (a2, .inl (cI, 3, .inl (tb [0, 0, 0]))), (a4, .inl (cI, 4, .inl (tb [1]))), (a5, .inl (cI, 400000, .inl (tb [(-1), 0, 0, 0, 1, 0, 0, 0])))]) rfl rfl rfl rfl (by decide) (c409_X9_kindOf l dC dI cI cJ cII cJJ H.size 0 a0 a10 a9 a11 a12 a13 a14 a15 a16 a17 a18 a19 a20 a21 a22 a5 a6 a7 a8 a2 a1 a3 a4 a23 a24 a25 a26 a27) ⟨by decide +kernel, by decide +kernel⟩ rfl rfl (Or.inl rfl) (rest := [.int 0]) rfl rfl rfl hl.1 rfl (Nat.le_of_ble_eq_true rfl) dX9_count_95 ⟨Nat.le_of_ble_eq_true rfl, Nat.le_of_ble_eq_true rfl⟩ (W' := [(a7, .inl (cI, 6001, .inl (tb (0 :: 0 :: List.replicate 5999 2)))), (a8, .inl (cI, 100000, .inl (tb [0, 1]))), (a3, .inl (cI, 4, .inl (tb [0]))), (a6, .inl (cI, 100000, .inl (tb [1, 1]))), (a1, .inl (cI, 3, .inl (tb [0, 0, 0]))), (a2, .inl (cI, 3, .inl (tb [0, 0, 0]))), (a4, .inl (cI, 4, .inl (tb [1]))), (a5, .inl (cI, 400000, .inl (tb [(-1), 0, 0, 0, 1, 0, 0, 0]))), (a0, .inr (9, [.ref a11, .ref a12, .ref a13, .ref a14, .ref a15, .ref a16, .ref a17, .ref a18, .ref a19, .ref a20, .ref a21, .ref a22, .int 1, .int 0, .int 1, .ref a5, .ref a6, .ref a7, .ref a8, .ref a9, .ref a10, .int 2, .int 2, .ref a2, .ref a1, .ref a3, .ref a4, .int 0, .int 1, .ref a23, .ref a24, .ref a25, .ref a26, .int 0, .ref a27, .int 0])), (a10, .inl (cI, 6000, .inl (tb [0, 1]))), (a9, .inl (cI, 24000, .inl (tb [(-1), 0, 0, 0, 1, 0, 0, 0])))]) rfl (fun H locs hP hD hS => ?_)
  refine lv_iload_n hx hb dX9_count_98 rfl (lv_at hl 3 rfl) ?_
  refine lv_iconst (v := 1) hx hb dX9_count_99 (by decide) ?_
  refine v_isub hx hb dX9_count_100 1 (by decide +kernel) ?_
  refine t_icmp_ne hx hb dX9_count_101 108 (by decide) (by decide +kernel) ?_
  refine lv_iconst (v := 0) hx hb dX9_count_108 (by decide) ?_
  refine v_iadd hx hb dX9_count_109 0 (by decide +kernel) ?_
  refine lv_istore_n (lv' := [(2, .int 0), (3, .int 0), (0, .ref a0), (1, .int 2)]) hx hb dX9_count_110 rfl hl (by decide) rfl (fun ls hl => ?_)
  refine lv_iinc (v := 1) (lv' := [(3, .int 1), (2, .int 0), (0, .ref a0), (1, .int 2)]) hx hb dX9_count_111 hl (k := 1) rfl (by decide +kernel) (by decide) rfl (fun ls hl => ?_)
  refine lv_goto (tgt := 84) hx hb dX9_count_114 (by decide) ?_
  refine lv_iload_n hx hb dX9_count_84 rfl (lv_at hl 0 rfl) ?_
  refine lv_aload_n hx hb dX9_count_85 rfl (lv_at hl 2 rfl) ?_
  refine gf (k := 22) hx hb hts inX9 hown hK hP k_817 rfl (by decide) rfl 8 rfl (.int 2) rfl dX9_count_86 ?_
  refine f_icmp_ge hx hb dX9_count_89 117 (by decide) (by decide +kernel) ?_
  refine lv_iload_n hx hb dX9_count_92 rfl (lv_at hl 1 rfl) ?_
  refine lv_aload_n hx hb dX9_count_93 rfl (lv_at hl 2 rfl) ?_
  refine lv_iload_n hx hb dX9_count_94 rfl (lv_at hl 0 rfl) ?_
  refine kV_i (q0 := 0) ⟨hx, hb, hml, hown, hts⟩ hK hP hD hS hA hX cv_RX9_188 [8, 9, 10] [0, 1, 2, 3, 4, 5, 6, 7] (wr := [(a7, .inl (cI, 6001, .inl (tb (0 :: 0 :: List.replicate 5999 2)))), (a8, .inl (cI, 100000, .inl (tb [0, 1]))), (a3, .inl (cI, 4, .inl (tb [0]))), (a6, .inl (cI, 100000, .inl (tb [1, 1]))), (a1, .inl (cI, 3, .inl (tb [0, 0, 0]))), (a2, .inl (cI, 3, .inl (tb [0, 0, 0]))), (a4, .inl (cI, 4, .inl (tb [1]))), (a5, .inl (cI, 400000, .inl (tb [(-1), 0, 0, 0, 1, 0, 0, 0])))]) rfl rfl rfl rfl (by decide) (c411_X9_kindOf l dC dI cI cJ cII cJJ H.size 0 a0 a10 a9 a11 a12 a13 a14 a15 a16 a17 a18 a19 a20 a21 a22 a5 a6 a7 a8 a2 a1 a3 a4 a23 a24 a25 a26 a27) ⟨by decide +kernel, by decide +kernel⟩ rfl rfl (Or.inl rfl) (rest := [.int 0]) rfl rfl rfl hl.1 rfl (Nat.le_of_ble_eq_true rfl) dX9_count_95 ⟨Nat.le_of_ble_eq_true rfl, Nat.le_of_ble_eq_true rfl⟩ (W' := [(a7, .inl (cI, 6001, .inl (tb (0 :: 0 :: List.replicate 5999 2)))), (a8, .inl (cI, 100000, .inl (tb [0, 1]))), (a3, .inl (cI, 4, .inl (tb [0]))), (a6, .inl (cI, 100000, .inl (tb [1, 1]))), (a1, .inl (cI, 3, .inl (tb [0, 0, 0]))), (a2, .inl (cI, 3, .inl (tb [0, 0, 0]))), (a4, .inl (cI, 4, .inl (tb [1]))), (a5, .inl (cI, 400000, .inl (tb [(-1), 0, 0, 0, 1, 0, 0, 0]))), (a0, .inr (9, [.ref a11, .ref a12, .ref a13, .ref a14, .ref a15, .ref a16, .ref a17, .ref a18, .ref a19, .ref a20, .ref a21, .ref a22, .int 1, .int 0, .int 1, .ref a5, .ref a6, .ref a7, .ref a8, .ref a9, .ref a10, .int 2, .int 2, .ref a2, .ref a1, .ref a3, .ref a4, .int 0, .int 1, .ref a23, .ref a24, .ref a25, .ref a26, .int 0, .ref a27, .int 0])), (a10, .inl (cI, 6000, .inl (tb [0, 1]))), (a9, .inl (cI, 24000, .inl (tb [(-1), 0, 0, 0, 1, 0, 0, 0])))]) rfl (fun H locs hP hD hS => ?_)
  refine lv_iload_n hx hb dX9_count_98 rfl (lv_at hl 3 rfl) ?_
  refine lv_iconst (v := 1) hx hb dX9_count_99 (by decide) ?_
  refine v_isub hx hb dX9_count_100 1 (by decide +kernel) ?_
  refine t_icmp_ne hx hb dX9_count_101 108 (by decide) (by decide +kernel) ?_
  refine lv_iconst (v := 0) hx hb dX9_count_108 (by decide) ?_
  refine v_iadd hx hb dX9_count_109 0 (by decide +kernel) ?_
  refine lv_istore_n (lv' := [(2, .int 0), (3, .int 1), (0, .ref a0), (1, .int 2)]) hx hb dX9_count_110 rfl hl (by decide) rfl (fun ls hl => ?_)
  refine lv_iinc (v := 2) (lv' := [(3, .int 2), (2, .int 0), (0, .ref a0), (1, .int 2)]) hx hb dX9_count_111 hl (k := 1) rfl (by decide +kernel) (by decide) rfl (fun ls hl => ?_)
  refine lv_goto (tgt := 84) hx hb dX9_count_114 (by decide) ?_
  refine lv_iload_n hx hb dX9_count_84 rfl (lv_at hl 0 rfl) ?_
  refine lv_aload_n hx hb dX9_count_85 rfl (lv_at hl 2 rfl) ?_
  refine gf (k := 22) hx hb hts inX9 hown hK hP k_817 rfl (by decide) rfl 8 rfl (.int 2) rfl dX9_count_86 ?_
  refine t_icmp_ge hx hb dX9_count_89 117 (by decide) (by decide +kernel) ?_
  refine lv_iload_n hx hb dX9_count_117 rfl (lv_at hl 1 rfl) ?_
  exact r_i hx hb hr hk hK (hP.sub [] rfl) (hD.sub [] rfl rfl) hS dX9_count_118
set_option maxRecDepth 100000 in
set_option maxHeartbeats 4000000 in
theorem c613_X9_count (l : Launch) (dC : Nat → ClassId) (dI : Nat → Nat → Nat) (cI cJ cII cJJ : ClassId) (sz g a0 a1 a2 a3 a4 a5 a6 a7 a8 a9 a10 a11 a12 a13 a14 a15 a16 a17 a18 a19 a20 a21 a22 a23 a24 a25 a26 a27 : Nat) : Met l yX9_count (.code yX9_count cX9_count 4 (some .int) :: TT) ({ frames := 7, cells := 0, slots := 0, locals := 380 }) (PcS dC dI (TY cI cJ cII cJJ) [.ref a0, .int 3] [(a0, .inr (9, [.ref a11, .ref a12, .ref a13, .ref a14, .ref a15, .ref a16, .ref a17, .ref a18, .ref a19, .ref a20, .ref a21, .ref a22, .int 1, .int 0, .int 0, .ref a5, .ref a6, .ref a7, .ref a8, .ref a9, .ref a10, .int 0, .int 0, .ref a2, .ref a1, .ref a3, .ref a4, .int 0, .int 0, .ref a23, .ref a24, .ref a25, .ref a26, .int 0, .ref a27, .int 0])), (a1, .inl (cI, 3, .inl (tb []))), (a2, .inl (cI, 3, .inl (tb []))), (a3, .inl (cI, 4, .inl (tb []))), (a4, .inl (cI, 4, .inl (tb []))), (a5, .inl (cI, 400000, .inl (tb []))), (a6, .inl (cI, 100000, .inl (tb []))), (a7, .inl (cI, 6001, .inl (tb []))), (a8, .inl (cI, 100000, .inl (tb []))), (a9, .inl (cI, 24000, .inl (tb []))), (a10, .inl (cI, 6000, .inl (tb [])))] sz 0 g) ((QcI dC dI (TY cI cJ cII cJJ) 0 []) (va_A [(a0, .inr (9, [.ref a11, .ref a12, .ref a13, .ref a14, .ref a15, .ref a16, .ref a17, .ref a18, .ref a19, .ref a20, .ref a21, .ref a22, .int 1, .int 0, .int 0, .ref a5, .ref a6, .ref a7, .ref a8, .ref a9, .ref a10, .int 0, .int 0, .ref a2, .ref a1, .ref a3, .ref a4, .int 0, .int 0, .ref a23, .ref a24, .ref a25, .ref a26, .int 0, .ref a27, .int 0])), (a1, .inl (cI, 3, .inl (tb []))), (a2, .inl (cI, 3, .inl (tb []))), (a3, .inl (cI, 4, .inl (tb []))), (a4, .inl (cI, 4, .inl (tb []))), (a5, .inl (cI, 400000, .inl (tb []))), (a6, .inl (cI, 100000, .inl (tb []))), (a7, .inl (cI, 6001, .inl (tb []))), (a8, .inl (cI, 100000, .inl (tb []))), (a9, .inl (cI, 24000, .inl (tb []))), (a10, .inl (cI, 6000, .inl (tb [])))] sz)) 0 0 (va_A [(a0, .inr (9, [.ref a11, .ref a12, .ref a13, .ref a14, .ref a15, .ref a16, .ref a17, .ref a18, .ref a19, .ref a20, .ref a21, .ref a22, .int 1, .int 0, .int 0, .ref a5, .ref a6, .ref a7, .ref a8, .ref a9, .ref a10, .int 0, .int 0, .ref a2, .ref a1, .ref a3, .ref a4, .int 0, .int 0, .ref a23, .ref a24, .ref a25, .ref a26, .int 0, .ref a27, .int 0])), (a1, .inl (cI, 3, .inl (tb []))), (a2, .inl (cI, 3, .inl (tb []))), (a3, .inl (cI, 4, .inl (tb []))), (a4, .inl (cI, 4, .inl (tb []))), (a5, .inl (cI, 400000, .inl (tb []))), (a6, .inl (cI, 100000, .inl (tb []))), (a7, .inl (cI, 6001, .inl (tb []))), (a8, .inl (cI, 100000, .inl (tb []))), (a9, .inl (cI, 24000, .inl (tb []))), (a10, .inl (cI, 6000, .inl (tb [])))] sz) := by
  refine SM.of (y := yX9_count) (maxL := 4) (av := [.ref a0, .int 3]) (QcI dC dI (TY cI cJ cII cJJ) 0 []) (by decide +kernel) (Nat.le_of_ble_eq_true rfl) (fun p e s m below meth c A ls hx hb hr hml hown hts hk hnm hA hK hP hD hS hX hl => ?_)
  have hown : s.vm.findClass RX9 = some m.cls := hown
  have hl : lv_has ls 4 [(0, .ref a0), (1, .int 3)] := hl
  refine lv_iload_n hx hb dX9_count_0 rfl (lv_at hl 1 rfl) ?_
  refine lv_bipush (v := 10) hx hb dX9_count_1 (by decide) ?_
  refine t_icmp_le hx hb dX9_count_3 22 (by decide) (by decide +kernel) ?_
  refine lv_iconst (v := 0) hx hb dX9_count_22 (by decide) ?_
  refine lv_istore_n (lv' := [(2, .int 0), (0, .ref a0), (1, .int 3)]) hx hb dX9_count_23 rfl hl (by decide) rfl (fun ls hl => ?_)
  refine lv_iload_n hx hb dX9_count_24 rfl (lv_at hl 2 rfl) ?_
  refine lv_tableIn (off := 53) (tgt := 78) hx hb dX9_count_25 (by decide +kernel) (by decide +kernel) (by decide +kernel) (by decide) ?_
  refine lv_aload_n hx hb dX9_count_78 rfl (lv_at hl 1 rfl) ?_
  refine kV_v (q0 := 0) ⟨hx, hb, hml, hown, hts⟩ hK hP hD hS hA hX cv_RX9_180 [0, 1, 2, 3, 4, 5, 6, 7, 8, 9, 10] [] (wr := []) rfl rfl rfl rfl (by decide) (c373_X9_findSteps l dC dI cI cJ cII cJJ s.heap.size 0 a0 a1 a2 a3 a4 a5 a6 a7 a8 a9 a10 a11 a12 a13 a14 a15 a16 a17 a18 a19 a20 a21 a22 a23 a24 a25 a26 a27) ⟨by decide +kernel, by decide +kernel⟩ rfl rfl (Or.inl rfl) (rest := []) rfl rfl rfl hl.1 rfl (Nat.le_of_ble_eq_true rfl) dX9_count_79 ⟨Nat.le_of_ble_eq_true rfl, Nat.le_of_ble_eq_true rfl⟩ (fun _ => rfl) (W' := [(a7, .inl (cI, 6001, .inl (tb (0 :: 0 :: List.replicate 5999 2)))), (a8, .inl (cI, 100000, .inl (tb [0, 1]))), (a3, .inl (cI, 4, .inl (tb [0]))), (a6, .inl (cI, 100000, .inl (tb [1, 1]))), (a1, .inl (cI, 3, .inl (tb [0, 0, 0]))), (a2, .inl (cI, 3, .inl (tb [0, 0, 0]))), (a4, .inl (cI, 4, .inl (tb [1]))), (a5, .inl (cI, 400000, .inl (tb [(-1), 0, 0, 0, 1, 0, 0, 0]))), (a10, .inl (cI, 6000, .inl (tb [0, 1]))), (a0, .inr (9, [.ref a11, .ref a12, .ref a13, .ref a14, .ref a15, .ref a16, .ref a17, .ref a18, .ref a19, .ref a20, .ref a21, .ref a22, .int 1, .int 0, .int 1, .ref a5, .ref a6, .ref a7, .ref a8, .ref a9, .ref a10, .int 2, .int 2, .ref a2, .ref a1, .ref a3, .ref a4, .int 0, .int 1, .ref a23, .ref a24, .ref a25, .ref a26, .int 0, .ref a27, .int 0])), (a9, .inl (cI, 24000, .inl (tb [(-1), 0, 0, 0, 1, 0, 0, 0])))]) rfl (fun H locs hP hD hS => ?_)
  refine lv_iconst (v := 0) hx hb dX9_count_82 (by decide) ?_
  refine lv_istore_n (lv' := [(3, .int 0), (2, .int 0), (0, .ref a0), (1, .int 3)]) hx hb dX9_count_83 rfl hl (by decide) rfl (fun ls hl => ?_)
  refine lv_iload_n hx hb dX9_count_84 rfl (lv_at hl 0 rfl) ?_
  refine lv_aload_n hx hb dX9_count_85 rfl (lv_at hl 2 rfl) ?_
  refine gf (k := 22) hx hb hts inX9 hown hK hP k_817 rfl (by decide) rfl 9 rfl (.int 2) rfl dX9_count_86 ?_
  refine f_icmp_ge hx hb dX9_count_89 117 (by decide) (by decide +kernel) ?_
  refine lv_iload_n hx hb dX9_count_92 rfl (lv_at hl 1 rfl) ?_
  refine lv_aload_n hx hb dX9_count_93 rfl (lv_at hl 2 rfl) ?_
  refine lv_iload_n hx hb dX9_count_94 rfl (lv_at hl 0 rfl) ?_
  refine kV_i (q0 := 0) ⟨hx, hb, hml, hown, hts⟩ hK hP hD hS hA hX cv_RX9_188 [9, 8, 10] [0, 1, 2, 3, 4, 5, 6, 7] (wr := [(a7, .inl (cI, 6001, .inl (tb (0 :: 0 :: List.replicate 5999 2)))), (a8, .inl (cI, 100000, .inl (tb [0, 1]))), (a3, .inl (cI, 4, .inl (tb [0]))), (a6, .inl (cI, 100000, .inl (tb [1, 1]))), (a1, .inl (cI, 3, .inl (tb [0, 0, 0]))), (a2, .inl (cI, 3, .inl (tb [0, 0, 0]))), (a4, .inl (cI, 4, .inl (tb [1]))), (a5, .inl (cI, 400000, .inl (tb [(-1), 0, 0, 0, 1, 0, 0, 0])))]) rfl rfl rfl rfl (by decide) (c409_X9_kindOf l dC dI cI cJ cII cJJ H.size 0 a0 a10 a9 a11 a12 a13 a14 a15 a16 a17 a18 a19 a20 a21 a22 a5 a6 a7 a8 a2 a1 a3 a4 a23 a24 a25 a26 a27) ⟨by decide +kernel, by decide +kernel⟩ rfl rfl (Or.inl rfl) (rest := [.int 0]) rfl rfl rfl hl.1 rfl (Nat.le_of_ble_eq_true rfl) dX9_count_95 ⟨Nat.le_of_ble_eq_true rfl, Nat.le_of_ble_eq_true rfl⟩ (W' := [(a7, .inl (cI, 6001, .inl (tb (0 :: 0 :: List.replicate 5999 2)))), (a8, .inl (cI, 100000, .inl (tb [0, 1]))), (a3, .inl (cI, 4, .inl (tb [0]))), (a6, .inl (cI, 100000, .inl (tb [1, 1]))), (a1, .inl (cI, 3, .inl (tb [0, 0, 0]))), (a2, .inl (cI, 3, .inl (tb [0, 0, 0]))), (a4, .inl (cI, 4, .inl (tb [1]))), (a5, .inl (cI, 400000, .inl (tb [(-1), 0, 0, 0, 1, 0, 0, 0]))), (a0, .inr (9, [.ref a11, .ref a12, .ref a13, .ref a14, .ref a15, .ref a16, .ref a17, .ref a18, .ref a19, .ref a20, .ref a21, .ref a22, .int 1, .int 0, .int 1, .ref a5, .ref a6, .ref a7, .ref a8, .ref a9, .ref a10, .int 2, .int 2, .ref a2, .ref a1, .ref a3, .ref a4, .int 0, .int 1, .ref a23, .ref a24, .ref a25, .ref a26, .int 0, .ref a27, .int 0])), (a10, .inl (cI, 6000, .inl (tb [0, 1]))), (a9, .inl (cI, 24000, .inl (tb [(-1), 0, 0, 0, 1, 0, 0, 0])))]) rfl (fun H locs hP hD hS => ?_)
  refine lv_iload_n hx hb dX9_count_98 rfl (lv_at hl 3 rfl) ?_
  refine lv_iconst (v := 1) hx hb dX9_count_99 (by decide) ?_
  refine v_isub hx hb dX9_count_100 2 (by decide +kernel) ?_
  refine t_icmp_ne hx hb dX9_count_101 108 (by decide) (by decide +kernel) ?_
  refine lv_iconst (v := 0) hx hb dX9_count_108 (by decide) ?_
  refine v_iadd hx hb dX9_count_109 0 (by decide +kernel) ?_
  refine lv_istore_n (lv' := [(2, .int 0), (3, .int 0), (0, .ref a0), (1, .int 3)]) hx hb dX9_count_110 rfl hl (by decide) rfl (fun ls hl => ?_)
  refine lv_iinc (v := 1) (lv' := [(3, .int 1), (2, .int 0), (0, .ref a0), (1, .int 3)]) hx hb dX9_count_111 hl (k := 1) rfl (by decide +kernel) (by decide) rfl (fun ls hl => ?_)
  refine lv_goto (tgt := 84) hx hb dX9_count_114 (by decide) ?_
  refine lv_iload_n hx hb dX9_count_84 rfl (lv_at hl 0 rfl) ?_
  refine lv_aload_n hx hb dX9_count_85 rfl (lv_at hl 2 rfl) ?_
  refine gf (k := 22) hx hb hts inX9 hown hK hP k_817 rfl (by decide) rfl 8 rfl (.int 2) rfl dX9_count_86 ?_
  refine f_icmp_ge hx hb dX9_count_89 117 (by decide) (by decide +kernel) ?_
  refine lv_iload_n hx hb dX9_count_92 rfl (lv_at hl 1 rfl) ?_
  refine lv_aload_n hx hb dX9_count_93 rfl (lv_at hl 2 rfl) ?_
  refine lv_iload_n hx hb dX9_count_94 rfl (lv_at hl 0 rfl) ?_
  refine kV_i (q0 := 0) ⟨hx, hb, hml, hown, hts⟩ hK hP hD hS hA hX cv_RX9_188 [8, 9, 10] [0, 1, 2, 3, 4, 5, 6, 7] (wr := [(a7, .inl (cI, 6001, .inl (tb (0 :: 0 :: List.replicate 5999 2)))), (a8, .inl (cI, 100000, .inl (tb [0, 1]))), (a3, .inl (cI, 4, .inl (tb [0]))), (a6, .inl (cI, 100000, .inl (tb [1, 1]))), (a1, .inl (cI, 3, .inl (tb [0, 0, 0]))), (a2, .inl (cI, 3, .inl (tb [0, 0, 0]))), (a4, .inl (cI, 4, .inl (tb [1]))), (a5, .inl (cI, 400000, .inl (tb [(-1), 0, 0, 0, 1, 0, 0, 0])))]) rfl rfl rfl rfl (by decide) (c411_X9_kindOf l dC dI cI cJ cII cJJ H.size 0 a0 a10 a9 a11 a12 a13 a14 a15 a16 a17 a18 a19 a20 a21 a22 a5 a6 a7 a8 a2 a1 a3 a4 a23 a24 a25 a26 a27) ⟨by decide +kernel, by decide +kernel⟩ rfl rfl (Or.inl rfl) (rest := [.int 0]) rfl rfl rfl hl.1 rfl (Nat.le_of_ble_eq_true rfl) dX9_count_95 ⟨Nat.le_of_ble_eq_true rfl, Nat.le_of_ble_eq_true rfl⟩ (W' := [(a7, .inl (cI, 6001, .inl (tb (0 :: 0 :: List.replicate 5999 2)))), (a8, .inl (cI, 100000, .inl (tb [0, 1]))), (a3, .inl (cI, 4, .inl (tb [0]))), (a6, .inl (cI, 100000, .inl (tb [1, 1]))), (a1, .inl (cI, 3, .inl (tb [0, 0, 0]))), (a2, .inl (cI, 3, .inl (tb [0, 0, 0]))), (a4, .inl (cI, 4, .inl (tb [1]))), (a5, .inl (cI, 400000, .inl (tb [(-1), 0, 0, 0, 1, 0, 0, 0]))), (a0, .inr (9, [.ref a11, .ref a12, .ref a13, .ref a14, .ref a15, .ref a16, .ref a17, .ref a18, .ref a19, .ref a20, .ref a21, .ref a22, .int 1, .int 0, .int 1, .ref a5, .ref a6, .ref a7, .ref a8, .ref a9, .ref a10, .int 2, .int 2, .ref a2, .ref a1, .ref a3, .ref a4, .int 0, .int 1, .ref a23, .ref a24, .ref a25, .ref a26, .int 0, .ref a27, .int 0])), (a10, .inl (cI, 6000, .inl (tb [0, 1]))), (a9, .inl (cI, 24000, .inl (tb [(-1), 0, 0, 0, 1, 0, 0, 0])))]) rfl (fun H locs hP hD hS => ?_)
  refine lv_iload_n hx hb dX9_count_98 rfl (lv_at hl 3 rfl) ?_
  refine lv_iconst (v := 1) hx hb dX9_count_99 (by decide) ?_
  refine v_isub hx hb dX9_count_100 2 (by decide +kernel) ?_
  refine t_icmp_ne hx hb dX9_count_101 108 (by decide) (by decide +kernel) ?_
  refine lv_iconst (v := 0) hx hb dX9_count_108 (by decide) ?_
  refine v_iadd hx hb dX9_count_109 0 (by decide +kernel) ?_
  refine lv_istore_n (lv' := [(2, .int 0), (3, .int 1), (0, .ref a0), (1, .int 3)]) hx hb dX9_count_110 rfl hl (by decide) rfl (fun ls hl => ?_)
  refine lv_iinc (v := 2) (lv' := [(3, .int 2), (2, .int 0), (0, .ref a0), (1, .int 3)]) hx hb dX9_count_111 hl (k := 1) rfl (by decide +kernel) (by decide) rfl (fun ls hl => ?_)
  refine lv_goto (tgt := 84) hx hb dX9_count_114 (by decide) ?_
  refine lv_iload_n hx hb dX9_count_84 rfl (lv_at hl 0 rfl) ?_
  refine lv_aload_n hx hb dX9_count_85 rfl (lv_at hl 2 rfl) ?_
  refine gf (k := 22) hx hb hts inX9 hown hK hP k_817 rfl (by decide) rfl 8 rfl (.int 2) rfl dX9_count_86 ?_
  refine t_icmp_ge hx hb dX9_count_89 117 (by decide) (by decide +kernel) ?_
  refine lv_iload_n hx hb dX9_count_117 rfl (lv_at hl 1 rfl) ?_
  exact r_i hx hb hr hk hK (hP.sub [] rfl) (hD.sub [] rfl rfl) hS dX9_count_118
set_option maxRecDepth 100000 in
set_option maxHeartbeats 4000000 in
theorem c614_X9_count (l : Launch) (dC : Nat → ClassId) (dI : Nat → Nat → Nat) (cI cJ cII cJJ : ClassId) (sz g a0 a1 a2 a3 a4 a5 a6 a7 a8 a9 a10 a11 a12 a13 a14 a15 a16 a17 a18 a19 a20 a21 a22 a23 a24 a25 a26 a27 : Nat) : Met l yX9_count (.code yX9_count cX9_count 4 (some .int) :: TT) ({ frames := 7, cells := 0, slots := 0, locals := 380 }) (PcS dC dI (TY cI cJ cII cJJ) [.ref a0, .int 4] [(a0, .inr (9, [.ref a11, .ref a12, .ref a13, .ref a14, .ref a15, .ref a16, .ref a17, .ref a18, .ref a19, .ref a20, .ref a21, .ref a22, .int 1, .int 0, .int 0, .ref a5, .ref a6, .ref a7, .ref a8, .ref a9, .ref a10, .int 0, .int 0, .ref a2, .ref a1, .ref a3, .ref a4, .int 0, .int 0, .ref a23, .ref a24, .ref a25, .ref a26, .int 0, .ref a27, .int 0])), (a1, .inl (cI, 3, .inl (tb []))), (a2, .inl (cI, 3, .inl (tb []))), (a3, .inl (cI, 4, .inl (tb []))), (a4, .inl (cI, 4, .inl (tb []))), (a5, .inl (cI, 400000, .inl (tb []))), (a6, .inl (cI, 100000, .inl (tb []))), (a7, .inl (cI, 6001, .inl (tb []))), (a8, .inl (cI, 100000, .inl (tb []))), (a9, .inl (cI, 24000, .inl (tb []))), (a10, .inl (cI, 6000, .inl (tb [])))] sz 0 g) ((QcI dC dI (TY cI cJ cII cJJ) 2 []) (va_A [(a0, .inr (9, [.ref a11, .ref a12, .ref a13, .ref a14, .ref a15, .ref a16, .ref a17, .ref a18, .ref a19, .ref a20, .ref a21, .ref a22, .int 1, .int 0, .int 0, .ref a5, .ref a6, .ref a7, .ref a8, .ref a9, .ref a10, .int 0, .int 0, .ref a2, .ref a1, .ref a3, .ref a4, .int 0, .int 0, .ref a23, .ref a24, .ref a25, .ref a26, .int 0, .ref a27, .int 0])), (a1, .inl (cI, 3, .inl (tb []))), (a2, .inl (cI, 3, .inl (tb []))), (a3, .inl (cI, 4, .inl (tb []))), (a4, .inl (cI, 4, .inl (tb []))), (a5, .inl (cI, 400000, .inl (tb []))), (a6, .inl (cI, 100000, .inl (tb []))), (a7, .inl (cI, 6001, .inl (tb []))), (a8, .inl (cI, 100000, .inl (tb []))), (a9, .inl (cI, 24000, .inl (tb []))), (a10, .inl (cI, 6000, .inl (tb [])))] sz)) 0 0 (va_A [(a0, .inr (9, [.ref a11, .ref a12, .ref a13, .ref a14, .ref a15, .ref a16, .ref a17, .ref a18, .ref a19, .ref a20, .ref a21, .ref a22, .int 1, .int 0, .int 0, .ref a5, .ref a6, .ref a7, .ref a8, .ref a9, .ref a10, .int 0, .int 0, .ref a2, .ref a1, .ref a3, .ref a4, .int 0, .int 0, .ref a23, .ref a24, .ref a25, .ref a26, .int 0, .ref a27, .int 0])), (a1, .inl (cI, 3, .inl (tb []))), (a2, .inl (cI, 3, .inl (tb []))), (a3, .inl (cI, 4, .inl (tb []))), (a4, .inl (cI, 4, .inl (tb []))), (a5, .inl (cI, 400000, .inl (tb []))), (a6, .inl (cI, 100000, .inl (tb []))), (a7, .inl (cI, 6001, .inl (tb []))), (a8, .inl (cI, 100000, .inl (tb []))), (a9, .inl (cI, 24000, .inl (tb []))), (a10, .inl (cI, 6000, .inl (tb [])))] sz) := by
  refine SM.of (y := yX9_count) (maxL := 4) (av := [.ref a0, .int 4]) (QcI dC dI (TY cI cJ cII cJJ) 2 []) (by decide +kernel) (Nat.le_of_ble_eq_true rfl) (fun p e s m below meth c A ls hx hb hr hml hown hts hk hnm hA hK hP hD hS hX hl => ?_)
  have hown : s.vm.findClass RX9 = some m.cls := hown
  have hl : lv_has ls 4 [(0, .ref a0), (1, .int 4)] := hl
  refine lv_iload_n hx hb dX9_count_0 rfl (lv_at hl 1 rfl) ?_
  refine lv_bipush (v := 10) hx hb dX9_count_1 (by decide) ?_
  refine t_icmp_le hx hb dX9_count_3 22 (by decide) (by decide +kernel) ?_
  refine lv_iconst (v := 0) hx hb dX9_count_22 (by decide) ?_
  refine lv_istore_n (lv' := [(2, .int 0), (0, .ref a0), (1, .int 4)]) hx hb dX9_count_23 rfl hl (by decide) rfl (fun ls hl => ?_)
  refine lv_iload_n hx hb dX9_count_24 rfl (lv_at hl 2 rfl) ?_
  refine lv_tableIn (off := 53) (tgt := 78) hx hb dX9_count_25 (by decide +kernel) (by decide +kernel) (by decide +kernel) (by decide) ?_
  refine lv_aload_n hx hb dX9_count_78 rfl (lv_at hl 1 rfl) ?_
  refine kV_v (q0 := 0) ⟨hx, hb, hml, hown, hts⟩ hK hP hD hS hA hX cv_RX9_180 [0, 1, 2, 3, 4, 5, 6, 7, 8, 9, 10] [] (wr := []) rfl rfl rfl rfl (by decide) (c373_X9_findSteps l dC dI cI cJ cII cJJ s.heap.size 0 a0 a1 a2 a3 a4 a5 a6 a7 a8 a9 a10 a11 a12 a13 a14 a15 a16 a17 a18 a19 a20 a21 a22 a23 a24 a25 a26 a27) ⟨by decide +kernel, by decide +kernel⟩ rfl rfl (Or.inl rfl) (rest := []) rfl rfl rfl hl.1 rfl (Nat.le_of_ble_eq_true rfl) dX9_count_79 ⟨Nat.le_of_ble_eq_true rfl, Nat.le_of_ble_eq_true rfl⟩ (fun _ => rfl) (W' := [(a7, .inl (cI, 6001, .inl (tb (0 :: 0 :: List.replicate 5999 2)))), (a8, .inl (cI, 100000, .inl (tb [0, 1]))), (a3, .inl (cI, 4, .inl (tb [0]))), (a6, .inl (cI, 100000, .inl (tb [1, 1]))), (a1, .inl (cI, 3, .inl (tb [0, 0, 0]))), (a2, .inl (cI, 3, .inl (tb [0, 0, 0]))), (a4, .inl (cI, 4, .inl (tb [1]))), (a5, .inl (cI, 400000, .inl (tb [(-1), 0, 0, 0, 1, 0, 0, 0]))), (a10, .inl (cI, 6000, .inl (tb [0, 1]))), (a0, .inr (9, [.ref a11, .ref a12, .ref a13, .ref a14, .ref a15, .ref a16, .ref a17, .ref a18, .ref a19, .ref a20, .ref a21, .ref a22, .int 1, .int 0, .int 1, .ref a5, .ref a6, .ref a7, .ref a8, .ref a9, .ref a10, .int 2, .int 2, .ref a2, .ref a1, .ref a3, .ref a4, .int 0, .int 1, .ref a23, .ref a24, .ref a25, .ref a26, .int 0, .ref a27, .int 0])), (a9, .inl (cI, 24000, .inl (tb [(-1), 0, 0, 0, 1, 0, 0, 0])))]) rfl (fun H locs hP hD hS => ?_)
  refine lv_iconst (v := 0) hx hb dX9_count_82 (by decide) ?_
  refine lv_istore_n (lv' := [(3, .int 0), (2, .int 0), (0, .ref a0), (1, .int 4)]) hx hb dX9_count_83 rfl hl (by decide) rfl (fun ls hl => ?_)
  refine lv_iload_n hx hb dX9_count_84 rfl (lv_at hl 0 rfl) ?_
  refine lv_aload_n hx hb dX9_count_85 rfl (lv_at hl 2 rfl) ?_
  refine gf (k := 22) hx hb hts inX9 hown hK hP k_817 rfl (by decide) rfl 9 rfl (.int 2) rfl dX9_count_86 ?_
  refine f_icmp_ge hx hb dX9_count_89 117 (by decide) (by decide +kernel) ?_
  refine lv_iload_n hx hb dX9_count_92 rfl (lv_at hl 1 rfl) ?_
  refine lv_aload_n hx hb dX9_count_93 rfl (lv_at hl 2 rfl) ?_
  refine lv_iload_n hx hb dX9_count_94 rfl (lv_at hl 0 rfl) ?_
  refine kV_i (q0 := 0) ⟨hx, hb, hml, hown, hts⟩ hK hP hD hS hA hX cv_RX9_188 [9, 8, 10] [0, 1, 2, 3, 4, 5, 6, 7] (wr := [(a7, .inl (cI, 6001, .inl (tb (0 :: 0 :: List.replicate 5999 2)))), (a8, .inl (cI, 100000, .inl (tb [0, 1]))), (a3, .inl (cI, 4, .inl (tb [0]))), (a6, .inl (cI, 100000, .inl (tb [1, 1]))), (a1, .inl (cI, 3, .inl (tb [0, 0, 0]))), (a2, .inl (cI, 3, .inl (tb [0, 0, 0]))), (a4, .inl (cI, 4, .inl (tb [1]))), (a5, .inl (cI, 400000, .inl (tb [(-1), 0, 0, 0, 1, 0, 0, 0])))]) rfl rfl rfl rfl (by decide) (c409_X9_kindOf l dC dI cI cJ cII cJJ H.size 0 a0 a10 a9 a11 a12 a13 a14 a15 a16 a17 a18 a19 a20 a21 a22 a5 a6 a7 a8 a2 a1 a3 a4 a23 a24 a25 a26 a27) ⟨by decide +kernel, by decide +kernel⟩ rfl rfl (Or.inl rfl) (rest := [.int 0]) rfl rfl rfl hl.1 rfl (Nat.le_of_ble_eq_true rfl) dX9_count_95 ⟨Nat.le_of_ble_eq_true rfl, Nat.le_of_ble_eq_true rfl⟩ (W' := [(a7, .inl (cI, 6001, .inl (tb (0 :: 0 :: List.replicate 5999 2)))), (a8, .inl (cI, 100000, .inl (tb [0, 1]))), (a3, .inl (cI, 4, .inl (tb [0]))), (a6, .inl (cI, 100000, .inl (tb [1, 1]))), (a1, .inl (cI, 3, .inl (tb [0, 0, 0]))), (a2, .inl (cI, 3, .inl (tb [0, 0, 0]))), (a4, .inl (cI, 4, .inl (tb [1]))), (a5, .inl (cI, 400000, .inl (tb [(-1), 0, 0, 0, 1, 0, 0, 0]))), (a0, .inr (9, [.ref a11, .ref a12, .ref a13, .ref a14, .ref a15, .ref a16, .ref a17, .ref a18, .ref a19, .ref a20, .ref a21, .ref a22, .int 1, .int 0, .int 1, .ref a5, .ref a6, .ref a7, .ref a8, .ref a9, .ref a10, .int 2, .int 2, .ref a2, .ref a1, .ref a3, .ref a4, .int 0, .int 1, .ref a23, .ref a24, .ref a25, .ref a26, .int 0, .ref a27, .int 0])), (a10, .inl (cI, 6000, .inl (tb [0, 1]))), (a9, .inl (cI, 24000, .inl (tb [(-1), 0, 0, 0, 1, 0, 0, 0])))]) rfl (fun H locs hP hD hS => ?_)
  refine lv_iload_n hx hb dX9_count_98 rfl (lv_at hl 3 rfl) ?_
  refine lv_iconst (v := 1) hx hb dX9_count_99 (by decide) ?_
  refine v_isub hx hb dX9_count_100 3 (by decide +kernel) ?_
  refine f_icmp_ne hx hb dX9_count_101 108 (by decide) (by decide +kernel) ?_
  refine lv_iconst (v := 1) hx hb dX9_count_104 (by decide) ?_
  refine lv_goto (tgt := 109) hx hb dX9_count_105 (by decide) ?_
  refine v_iadd hx hb dX9_count_109 1 (by decide +kernel) ?_
  refine lv_istore_n (lv' := [(2, .int 1), (3, .int 0), (0, .ref a0), (1, .int 4)]) hx hb dX9_count_110 rfl hl (by decide) rfl (fun ls hl => ?_)
  refine lv_iinc (v := 1) (lv' := [(3, .int 1), (2, .int 1), (0, .ref a0), (1, .int 4)]) hx hb dX9_count_111 hl (k := 1) rfl (by decide +kernel) (by decide) rfl (fun ls hl => ?_)
  refine lv_goto (tgt := 84) hx hb dX9_count_114 (by decide) ?_
  refine lv_iload_n hx hb dX9_count_84 rfl (lv_at hl 0 rfl) ?_
  refine lv_aload_n hx hb dX9_count_85 rfl (lv_at hl 2 rfl) ?_
  refine gf (k := 22) hx hb hts inX9 hown hK hP k_817 rfl (by decide) rfl 8 rfl (.int 2) rfl dX9_count_86 ?_
  refine f_icmp_ge hx hb dX9_count_89 117 (by decide) (by decide +kernel) ?_
  refine lv_iload_n hx hb dX9_count_92 rfl (lv_at hl 1 rfl) ?_
  refine lv_aload_n hx hb dX9_count_93 rfl (lv_at hl 2 rfl) ?_
  refine lv_iload_n hx hb dX9_count_94 rfl (lv_at hl 0 rfl) ?_
  refine kV_i (q0 := 0) ⟨hx, hb, hml, hown, hts⟩ hK hP hD hS hA hX cv_RX9_188 [8, 9, 10] [0, 1, 2, 3, 4, 5, 6, 7] (wr := [(a7, .inl (cI, 6001, .inl (tb (0 :: 0 :: List.replicate 5999 2)))), (a8, .inl (cI, 100000, .inl (tb [0, 1]))), (a3, .inl (cI, 4, .inl (tb [0]))), (a6, .inl (cI, 100000, .inl (tb [1, 1]))), (a1, .inl (cI, 3, .inl (tb [0, 0, 0]))), (a2, .inl (cI, 3, .inl (tb [0, 0, 0]))), (a4, .inl (cI, 4, .inl (tb [1]))), (a5, .inl (cI, 400000, .inl (tb [(-1), 0, 0, 0, 1, 0, 0, 0])))]) rfl rfl rfl rfl (by decide) (c411_X9_kindOf l dC dI cI cJ cII cJJ H.size 0 a0 a10 a9 a11 a12 a13 a14 a15 a16 a17 a18 a19 a20 a21 a22 a5 a6 a7 a8 a2 a1 a3 a4 a23 a24 a25 a26 a27) ⟨by decide +kernel, by decide +kernel⟩ rfl rfl (Or.inl rfl) (rest := [.int 1]) rfl rfl rfl hl.1 rfl (Nat.le_of_ble_eq_true rfl) dX9_count_95 ⟨Nat.le_of_ble_eq_true rfl, Nat.le_of_ble_eq_true rfl⟩ (W' := [(a7, .inl (cI, 6001, .inl (tb (0 :: 0 :: List.replicate 5999 2)))), (a8, .inl (cI, 100000, .inl (tb [0, 1]))), (a3, .inl (cI, 4, .inl (tb [0]))), (a6, .inl (cI, 100000, .inl (tb [1, 1]))), (a1, .inl (cI, 3, .inl (tb [0, 0, 0]))), (a2, .inl (cI, 3, .inl (tb [0, 0, 0]))), (a4, .inl (cI, 4, .inl (tb [1]))), (a5, .inl (cI, 400000, .inl (tb [(-1), 0, 0, 0, 1, 0, 0, 0]))), (a0, .inr (9, [.ref a11, .ref a12, .ref a13, .ref a14, .ref a15, .ref a16, .ref a17, .ref a18, .ref a19, .ref a20, .ref a21, .ref a22, .int 1, .int 0, .int 1, .ref a5, .ref a6, .ref a7, .ref a8, .ref a9, .ref a10, .int 2, .int 2, .ref a2, .ref a1, .ref a3, .ref a4, .int 0, .int 1, .ref a23, .ref a24, .ref a25, .ref a26, .int 0, .ref a27, .int 0])), (a10, .inl (cI, 6000, .inl (tb [0, 1]))), (a9, .inl (cI, 24000, .inl (tb [(-1), 0, 0, 0, 1, 0, 0, 0])))]) rfl (fun H locs hP hD hS => ?_)
  refine lv_iload_n hx hb dX9_count_98 rfl (lv_at hl 3 rfl) ?_
  refine lv_iconst (v := 1) hx hb dX9_count_99 (by decide) ?_
  refine v_isub hx hb dX9_count_100 3 (by decide +kernel) ?_
  refine f_icmp_ne hx hb dX9_count_101 108 (by decide) (by decide +kernel) ?_
  refine lv_iconst (v := 1) hx hb dX9_count_104 (by decide) ?_
  refine lv_goto (tgt := 109) hx hb dX9_count_105 (by decide) ?_
  refine v_iadd hx hb dX9_count_109 2 (by decide +kernel) ?_
  refine lv_istore_n (lv' := [(2, .int 2), (3, .int 1), (0, .ref a0), (1, .int 4)]) hx hb dX9_count_110 rfl hl (by decide) rfl (fun ls hl => ?_)
  refine lv_iinc (v := 2) (lv' := [(3, .int 2), (2, .int 2), (0, .ref a0), (1, .int 4)]) hx hb dX9_count_111 hl (k := 1) rfl (by decide +kernel) (by decide) rfl (fun ls hl => ?_)
  refine lv_goto (tgt := 84) hx hb dX9_count_114 (by decide) ?_
  refine lv_iload_n hx hb dX9_count_84 rfl (lv_at hl 0 rfl) ?_
  refine lv_aload_n hx hb dX9_count_85 rfl (lv_at hl 2 rfl) ?_
  refine gf (k := 22) hx hb hts inX9 hown hK hP k_817 rfl (by decide) rfl 8 rfl (.int 2) rfl dX9_count_86 ?_
  refine t_icmp_ge hx hb dX9_count_89 117 (by decide) (by decide +kernel) ?_
  refine lv_iload_n hx hb dX9_count_117 rfl (lv_at hl 1 rfl) ?_
  exact r_i hx hb hr hk hK (hP.sub [] rfl) (hD.sub [] rfl rfl) hS dX9_count_118
set_option maxRecDepth 100000 in
set_option maxHeartbeats 4000000 in
theorem c615_X9_count (l : Launch) (dC : Nat → ClassId) (dI : Nat → Nat → Nat) (cI cJ cII cJJ : ClassId) (sz g a0 a1 a2 a3 a4 a5 a6 a7 a8 a9 a10 a11 a12 a13 a14 a15 a16 a17 a18 a19 a20 a21 a22 a23 a24 a25 a26 a27 : Nat) : Met l yX9_count (.code yX9_count cX9_count 4 (some .int) :: TT) ({ frames := 2, cells := 0, slots := 0, locals := 80 }) (PcS dC dI (TY cI cJ cII cJJ) [.ref a0, .int 5] [(a0, .inr (9, [.ref a2, .ref a3, .ref a4, .ref a5, .ref a6, .ref a7, .ref a8, .ref a9, .ref a1, .ref a10, .ref a11, .ref a12, .int 1, .int 0, .int 0, .ref a13, .ref a14, .ref a15, .ref a16, .ref a17, .ref a18, .int 0, .int 0, .ref a19, .ref a20, .ref a21, .ref a22, .int 0, .int 0, .ref a23, .ref a24, .ref a25, .ref a26, .int 0, .ref a27, .int 0])), (a1, .inl (cI, 4, .inl (tb [(-1), (-1), (-1), (-1)])))] sz 0 g) ((QcI dC dI (TY cI cJ cII cJJ) 0 []) (va_A [(a0, .inr (9, [.ref a2, .ref a3, .ref a4, .ref a5, .ref a6, .ref a7, .ref a8, .ref a9, .ref a1, .ref a10, .ref a11, .ref a12, .int 1, .int 0, .int 0, .ref a13, .ref a14, .ref a15, .ref a16, .ref a17, .ref a18, .int 0, .int 0, .ref a19, .ref a20, .ref a21, .ref a22, .int 0, .int 0, .ref a23, .ref a24, .ref a25, .ref a26, .int 0, .ref a27, .int 0])), (a1, .inl (cI, 4, .inl (tb [(-1), (-1), (-1), (-1)])))] sz)) 0 0 (va_A [(a0, .inr (9, [.ref a2, .ref a3, .ref a4, .ref a5, .ref a6, .ref a7, .ref a8, .ref a9, .ref a1, .ref a10, .ref a11, .ref a12, .int 1, .int 0, .int 0, .ref a13, .ref a14, .ref a15, .ref a16, .ref a17, .ref a18, .int 0, .int 0, .ref a19, .ref a20, .ref a21, .ref a22, .int 0, .int 0, .ref a23, .ref a24, .ref a25, .ref a26, .int 0, .ref a27, .int 0])), (a1, .inl (cI, 4, .inl (tb [(-1), (-1), (-1), (-1)])))] sz) := by
  refine SM.of (y := yX9_count) (maxL := 4) (av := [.ref a0, .int 5]) (QcI dC dI (TY cI cJ cII cJJ) 0 []) (by decide +kernel) (Nat.le_of_ble_eq_true rfl) (fun p e s m below meth c A ls hx hb hr hml hown hts hk hnm hA hK hP hD hS hX hl => ?_)
  have hown : s.vm.findClass RX9 = some m.cls := hown
  have hl : lv_has ls 4 [(0, .ref a0), (1, .int 5)] := hl
  refine lv_iload_n hx hb dX9_count_0 rfl (lv_at hl 1 rfl) ?_
  refine lv_bipush (v := 10) hx hb dX9_count_1 (by decide) ?_
  refine t_icmp_le hx hb dX9_count_3 22 (by decide) (by decide +kernel) ?_
  refine lv_iconst (v := 0) hx hb dX9_count_22 (by decide) ?_
  refine lv_istore_n (lv' := [(2, .int 0), (0, .ref a0), (1, .int 5)]) hx hb dX9_count_23 rfl hl (by decide) rfl (fun ls hl => ?_)
  refine lv_iload_n hx hb dX9_count_24 rfl (lv_at hl 2 rfl) ?_
  refine lv_tableIn (off := 94) (tgt := 119) hx hb dX9_count_25 (by decide +kernel) (by decide +kernel) (by decide +kernel) (by decide) ?_
  refine lv_iconst (v := 0) hx hb dX9_count_119 (by decide) ?_
  refine lv_istore_n (lv' := [(3, .int 0), (2, .int 0), (0, .ref a0), (1, .int 5)]) hx hb dX9_count_120 rfl hl (by decide) rfl (fun ls hl => ?_)
  refine lv_iload_n hx hb dX9_count_121 rfl (lv_at hl 0 rfl) ?_
  refine lv_iconst (v := 4) hx hb dX9_count_122 (by decide) ?_
  refine f_icmp_ge hx hb dX9_count_123 154 (by decide) (by decide +kernel) ?_
  refine lv_iload_n hx hb dX9_count_126 rfl (lv_at hl 1 rfl) ?_
  refine lv_aload_n hx hb dX9_count_127 rfl (lv_at hl 2 rfl) ?_
  refine gf (k := 8) hx hb hts inX9 hown hK hP k_803 rfl (by decide) rfl 0 rfl (.ref a1) rfl dX9_count_128 ?_
  refine lv_iload_n hx hb dX9_count_131 rfl (lv_at hl 0 rfl) ?_
  refine ld_i hx hb hK hP 1 rfl (vin (by decide +kernel)) dX9_count_132 (-1) rfl ?_
  refine f_if_ge hx hb dX9_count_133 140 (by decide) (by decide +kernel) ?_
  refine lv_iconst (v := 0) hx hb dX9_count_136 (by decide) ?_
  refine lv_goto (tgt := 146) hx hb dX9_count_137 (by decide) ?_
  refine v_iadd hx hb dX9_count_146 0 (by decide +kernel) ?_
  refine lv_istore_n (lv' := [(2, .int 0), (3, .int 0), (0, .ref a0), (1, .int 5)]) hx hb dX9_count_147 rfl hl (by decide) rfl (fun ls hl => ?_)
  refine lv_iinc (v := 1) (lv' := [(3, .int 1), (2, .int 0), (0, .ref a0), (1, .int 5)]) hx hb dX9_count_148 hl (k := 1) rfl (by decide +kernel) (by decide) rfl (fun ls hl => ?_)
  refine lv_goto (tgt := 121) hx hb dX9_count_151 (by decide) ?_
  refine lv_iload_n hx hb dX9_count_121 rfl (lv_at hl 0 rfl) ?_
  refine lv_iconst (v := 4) hx hb dX9_count_122 (by decide) ?_
  refine f_icmp_ge hx hb dX9_count_123 154 (by decide) (by decide +kernel) ?_
  refine lv_iload_n hx hb dX9_count_126 rfl (lv_at hl 1 rfl) ?_
  refine lv_aload_n hx hb dX9_count_127 rfl (lv_at hl 2 rfl) ?_
  refine gf (k := 8) hx hb hts inX9 hown hK hP k_803 rfl (by decide) rfl 0 rfl (.ref a1) rfl dX9_count_128 ?_
  refine lv_iload_n hx hb dX9_count_131 rfl (lv_at hl 0 rfl) ?_
  refine ld_i hx hb hK hP 1 rfl (vin (by decide +kernel)) dX9_count_132 (-1) rfl ?_
  refine f_if_ge hx hb dX9_count_133 140 (by decide) (by decide +kernel) ?_
  refine lv_iconst (v := 0) hx hb dX9_count_136 (by decide) ?_
  refine lv_goto (tgt := 146) hx hb dX9_count_137 (by decide) ?_
  refine v_iadd hx hb dX9_count_146 0 (by decide +kernel) ?_
  refine lv_istore_n (lv' := [(2, .int 0), (3, .int 1), (0, .ref a0), (1, .int 5)]) hx hb dX9_count_147 rfl hl (by decide) rfl (fun ls hl => ?_)
  refine lv_iinc (v := 2) (lv' := [(3, .int 2), (2, .int 0), (0, .ref a0), (1, .int 5)]) hx hb dX9_count_148 hl (k := 1) rfl (by decide +kernel) (by decide) rfl (fun ls hl => ?_)
  refine lv_goto (tgt := 121) hx hb dX9_count_151 (by decide) ?_
  refine lv_iload_n hx hb dX9_count_121 rfl (lv_at hl 0 rfl) ?_
  refine lv_iconst (v := 4) hx hb dX9_count_122 (by decide) ?_
  refine f_icmp_ge hx hb dX9_count_123 154 (by decide) (by decide +kernel) ?_
  refine lv_iload_n hx hb dX9_count_126 rfl (lv_at hl 1 rfl) ?_
  refine lv_aload_n hx hb dX9_count_127 rfl (lv_at hl 2 rfl) ?_
  refine gf (k := 8) hx hb hts inX9 hown hK hP k_803 rfl (by decide) rfl 0 rfl (.ref a1) rfl dX9_count_128 ?_
  refine lv_iload_n hx hb dX9_count_131 rfl (lv_at hl 0 rfl) ?_
  refine ld_i hx hb hK hP 1 rfl (vin (by decide +kernel)) dX9_count_132 (-1) rfl ?_
  refine f_if_ge hx hb dX9_count_133 140 (by decide) (by decide +kernel) ?_
  refine lv_iconst (v := 0) hx hb dX9_count_136 (by decide) ?_
  refine lv_goto (tgt := 146) hx hb dX9_count_137 (by decide) ?_
  refine v_iadd hx hb dX9_count_146 0 (by decide +kernel) ?_
  refine lv_istore_n (lv' := [(2, .int 0), (3, .int 2), (0, .ref a0), (1, .int 5)]) hx hb dX9_count_147 rfl hl (by decide) rfl (fun ls hl => ?_)
  refine lv_iinc (v := 3) (lv' := [(3, .int 3), (2, .int 0), (0, .ref a0), (1, .int 5)]) hx hb dX9_count_148 hl (k := 1) rfl (by decide +kernel) (by decide) rfl (fun ls hl => ?_)
  refine lv_goto (tgt := 121) hx hb dX9_count_151 (by decide) ?_
  refine lv_iload_n hx hb dX9_count_121 rfl (lv_at hl 0 rfl) ?_
  refine lv_iconst (v := 4) hx hb dX9_count_122 (by decide) ?_
  refine f_icmp_ge hx hb dX9_count_123 154 (by decide) (by decide +kernel) ?_
  refine lv_iload_n hx hb dX9_count_126 rfl (lv_at hl 1 rfl) ?_
  refine lv_aload_n hx hb dX9_count_127 rfl (lv_at hl 2 rfl) ?_
  refine gf (k := 8) hx hb hts inX9 hown hK hP k_803 rfl (by decide) rfl 0 rfl (.ref a1) rfl dX9_count_128 ?_
  refine lv_iload_n hx hb dX9_count_131 rfl (lv_at hl 0 rfl) ?_
  refine ld_i hx hb hK hP 1 rfl (vin (by decide +kernel)) dX9_count_132 (-1) rfl ?_
  refine f_if_ge hx hb dX9_count_133 140 (by decide) (by decide +kernel) ?_
  refine lv_iconst (v := 0) hx hb dX9_count_136 (by decide) ?_
  refine lv_goto (tgt := 146) hx hb dX9_count_137 (by decide) ?_
  refine v_iadd hx hb dX9_count_146 0 (by decide +kernel) ?_
  refine lv_istore_n (lv' := [(2, .int 0), (3, .int 3), (0, .ref a0), (1, .int 5)]) hx hb dX9_count_147 rfl hl (by decide) rfl (fun ls hl => ?_)
  refine lv_iinc (v := 4) (lv' := [(3, .int 4), (2, .int 0), (0, .ref a0), (1, .int 5)]) hx hb dX9_count_148 hl (k := 1) rfl (by decide +kernel) (by decide) rfl (fun ls hl => ?_)
  refine lv_goto (tgt := 121) hx hb dX9_count_151 (by decide) ?_
  refine lv_iload_n hx hb dX9_count_121 rfl (lv_at hl 0 rfl) ?_
  refine lv_iconst (v := 4) hx hb dX9_count_122 (by decide) ?_
  refine t_icmp_ge hx hb dX9_count_123 154 (by decide) (by decide +kernel) ?_
  refine lv_iload_n hx hb dX9_count_154 rfl (lv_at hl 1 rfl) ?_
  exact r_i hx hb hr hk hK (hP.sub [] rfl) (hD.sub [] rfl rfl) hS dX9_count_155
set_option maxRecDepth 100000 in
set_option maxHeartbeats 4000000 in
theorem c616_X9_count (l : Launch) (dC : Nat → ClassId) (dI : Nat → Nat → Nat) (cI cJ cII cJJ : ClassId) (sz g a0 a1 a2 a3 a4 a5 a6 a7 a8 a9 a10 a11 a12 a13 a14 a15 a16 a17 a18 a19 a20 a21 a22 a23 a24 a25 a26 a27 : Nat) : Met l yX9_count (.code yX9_count cX9_count 4 (some .int) :: TT) ({ frames := 7, cells := 0, slots := 0, locals := 380 }) (PcS dC dI (TY cI cJ cII cJJ) [.ref a0, .int 6] [(a0, .inr (9, [.ref a12, .ref a13, .ref a14, .ref a15, .ref a16, .ref a17, .ref a11, .ref a18, .ref a19, .ref a20, .ref a21, .ref a22, .int 1, .int 0, .int 0, .ref a5, .ref a6, .ref a7, .ref a8, .ref a9, .ref a10, .int 0, .int 0, .ref a2, .ref a1, .ref a3, .ref a4, .int 0, .int 0, .ref a23, .ref a24, .ref a25, .ref a26, .int 0, .ref a27, .int 0])), (a1, .inl (cI, 3, .inl (tb []))), (a2, .inl (cI, 3, .inl (tb []))), (a3, .inl (cI, 4, .inl (tb []))), (a4, .inl (cI, 4, .inl (tb []))), (a5, .inl (cI, 400000, .inl (tb []))), (a6, .inl (cI, 100000, .inl (tb []))), (a7, .inl (cI, 6001, .inl (tb []))), (a8, .inl (cI, 100000, .inl (tb []))), (a9, .inl (cI, 24000, .inl (tb []))), (a10, .inl (cI, 6000, .inl (tb []))), (a11, .inl (cI, 4, .inl (tb [0, 0, 0, 0])))] sz 0 g) ((QcI dC dI (TY cI cJ cII cJJ) 0 []) (va_A [(a0, .inr (9, [.ref a12, .ref a13, .ref a14, .ref a15, .ref a16, .ref a17, .ref a11, .ref a18, .ref a19, .ref a20, .ref a21, .ref a22, .int 1, .int 0, .int 0, .ref a5, .ref a6, .ref a7, .ref a8, .ref a9, .ref a10, .int 0, .int 0, .ref a2, .ref a1, .ref a3, .ref a4, .int 0, .int 0, .ref a23, .ref a24, .ref a25, .ref a26, .int 0, .ref a27, .int 0])), (a1, .inl (cI, 3, .inl (tb []))), (a2, .inl (cI, 3, .inl (tb []))), (a3, .inl (cI, 4, .inl (tb []))), (a4, .inl (cI, 4, .inl (tb []))), (a5, .inl (cI, 400000, .inl (tb []))), (a6, .inl (cI, 100000, .inl (tb []))), (a7, .inl (cI, 6001, .inl (tb []))), (a8, .inl (cI, 100000, .inl (tb []))), (a9, .inl (cI, 24000, .inl (tb []))), (a10, .inl (cI, 6000, .inl (tb []))), (a11, .inl (cI, 4, .inl (tb [0, 0, 0, 0])))] sz)) 0 0 (va_A [(a0, .inr (9, [.ref a12, .ref a13, .ref a14, .ref a15, .ref a16, .ref a17, .ref a11, .ref a18, .ref a19, .ref a20, .ref a21, .ref a22, .int 1, .int 0, .int 0, .ref a5, .ref a6, .ref a7, .ref a8, .ref a9, .ref a10, .int 0, .int 0, .ref a2, .ref a1, .ref a3, .ref a4, .int 0, .int 0, .ref a23, .ref a24, .ref a25, .ref a26, .int 0, .ref a27, .int 0])), (a1, .inl (cI, 3, .inl (tb []))), (a2, .inl (cI, 3, .inl (tb []))), (a3, .inl (cI, 4, .inl (tb []))), (a4, .inl (cI, 4, .inl (tb []))), (a5, .inl (cI, 400000, .inl (tb []))), (a6, .inl (cI, 100000, .inl (tb []))), (a7, .inl (cI, 6001, .inl (tb []))), (a8, .inl (cI, 100000, .inl (tb []))), (a9, .inl (cI, 24000, .inl (tb []))), (a10, .inl (cI, 6000, .inl (tb []))), (a11, .inl (cI, 4, .inl (tb [0, 0, 0, 0])))] sz) := by
  refine SM.of (y := yX9_count) (maxL := 4) (av := [.ref a0, .int 6]) (QcI dC dI (TY cI cJ cII cJJ) 0 []) (by decide +kernel) (Nat.le_of_ble_eq_true rfl) (fun p e s m below meth c A ls hx hb hr hml hown hts hk hnm hA hK hP hD hS hX hl => ?_)
  have hown : s.vm.findClass RX9 = some m.cls := hown
  have hl : lv_has ls 4 [(0, .ref a0), (1, .int 6)] := hl
  refine lv_iload_n hx hb dX9_count_0 rfl (lv_at hl 1 rfl) ?_
  refine lv_bipush (v := 10) hx hb dX9_count_1 (by decide) ?_
  refine t_icmp_le hx hb dX9_count_3 22 (by decide) (by decide +kernel) ?_
  refine lv_iconst (v := 0) hx hb dX9_count_22 (by decide) ?_
  refine lv_istore_n (lv' := [(2, .int 0), (0, .ref a0), (1, .int 6)]) hx hb dX9_count_23 rfl hl (by decide) rfl (fun ls hl => ?_)
  refine lv_iload_n hx hb dX9_count_24 rfl (lv_at hl 2 rfl) ?_
  refine lv_tableIn (off := 131) (tgt := 156) hx hb dX9_count_25 (by decide +kernel) (by decide +kernel) (by decide +kernel) (by decide) ?_
  refine lv_aload_n hx hb dX9_count_156 rfl (lv_at hl 1 rfl) ?_
  refine kV_v (q0 := 0) ⟨hx, hb, hml, hown, hts⟩ hK hP hD hS hA hX cv_RX9_180 [0, 1, 2, 3, 4, 5, 6, 7, 8, 9, 10] [11] (wr := [(a11, .inl (cI, 4, .inl (tb [0, 0, 0, 0])))]) rfl rfl rfl rfl (by decide) (c373_X9_findSteps l dC dI cI cJ cII cJJ s.heap.size 0 a0 a1 a2 a3 a4 a5 a6 a7 a8 a9 a10 a12 a13 a14 a15 a16 a17 a11 a18 a19 a20 a21 a22 a23 a24 a25 a26 a27) ⟨by decide +kernel, by decide +kernel⟩ rfl rfl (Or.inl rfl) (rest := []) rfl rfl rfl hl.1 rfl (Nat.le_of_ble_eq_true rfl) dX9_count_157 ⟨Nat.le_of_ble_eq_true rfl, Nat.le_of_ble_eq_true rfl⟩ (fun _ => rfl) (W' := [(a11, .inl (cI, 4, .inl (tb [0, 0, 0, 0]))), (a7, .inl (cI, 6001, .inl (tb (0 :: 0 :: List.replicate 5999 2)))), (a8, .inl (cI, 100000, .inl (tb [0, 1]))), (a3, .inl (cI, 4, .inl (tb [0]))), (a6, .inl (cI, 100000, .inl (tb [1, 1]))), (a1, .inl (cI, 3, .inl (tb [0, 0, 0]))), (a2, .inl (cI, 3, .inl (tb [0, 0, 0]))), (a4, .inl (cI, 4, .inl (tb [1]))), (a5, .inl (cI, 400000, .inl (tb [(-1), 0, 0, 0, 1, 0, 0, 0]))), (a10, .inl (cI, 6000, .inl (tb [0, 1]))), (a0, .inr (9, [.ref a12, .ref a13, .ref a14, .ref a15, .ref a16, .ref a17, .ref a11, .ref a18, .ref a19, .ref a20, .ref a21, .ref a22, .int 1, .int 0, .int 1, .ref a5, .ref a6, .ref a7, .ref a8, .ref a9, .ref a10, .int 2, .int 2, .ref a2, .ref a1, .ref a3, .ref a4, .int 0, .int 1, .ref a23, .ref a24, .ref a25, .ref a26, .int 0, .ref a27, .int 0])), (a9, .inl (cI, 24000, .inl (tb [(-1), 0, 0, 0, 1, 0, 0, 0])))]) rfl (fun H locs hP hD hS => ?_)
  refine lv_aload_n hx hb dX9_count_160 rfl (lv_at hl 1 rfl) ?_
  refine kV_i (q0 := 0) ⟨hx, hb, hml, hown, hts⟩ hK hP hD hS hA hX cv_RX9_195 [10, 0] [1, 2, 3, 4, 5, 6, 7, 8, 9, 11] (wr := [(a7, .inl (cI, 6001, .inl (tb (0 :: 0 :: List.replicate 5999 2)))), (a8, .inl (cI, 100000, .inl (tb [0, 1]))), (a3, .inl (cI, 4, .inl (tb [0]))), (a6, .inl (cI, 100000, .inl (tb [1, 1]))), (a1, .inl (cI, 3, .inl (tb [0, 0, 0]))), (a2, .inl (cI, 3, .inl (tb [0, 0, 0]))), (a4, .inl (cI, 4, .inl (tb [1]))), (a5, .inl (cI, 400000, .inl (tb [(-1), 0, 0, 0, 1, 0, 0, 0]))), (a10, .inl (cI, 6000, .inl (tb [0, 1]))), (a9, .inl (cI, 24000, .inl (tb [(-1), 0, 0, 0, 1, 0, 0, 0])))]) rfl rfl rfl rfl (by decide) (c438_X9_isStep l dC dI cI cJ cII cJJ H.size 0 a0 a11 a12 a13 a14 a15 a16 a17 a18 a19 a20 a21 a22 a5 a6 a7 a8 a9 a10 a2 a1 a3 a4 a23 a24 a25 a26 a27) ⟨by decide +kernel, by decide +kernel⟩ rfl rfl (Or.inl rfl) (rest := []) rfl rfl rfl hl.1 rfl (Nat.le_of_ble_eq_true rfl) dX9_count_161 ⟨Nat.le_of_ble_eq_true rfl, Nat.le_of_ble_eq_true rfl⟩ (W' := [(a7, .inl (cI, 6001, .inl (tb (0 :: 0 :: List.replicate 5999 2)))), (a8, .inl (cI, 100000, .inl (tb [0, 1]))), (a3, .inl (cI, 4, .inl (tb [0]))), (a6, .inl (cI, 100000, .inl (tb [1, 1]))), (a1, .inl (cI, 3, .inl (tb [0, 0, 0]))), (a2, .inl (cI, 3, .inl (tb [0, 0, 0]))), (a4, .inl (cI, 4, .inl (tb [1]))), (a5, .inl (cI, 400000, .inl (tb [(-1), 0, 0, 0, 1, 0, 0, 0]))), (a10, .inl (cI, 6000, .inl (tb [0, 1]))), (a9, .inl (cI, 24000, .inl (tb [(-1), 0, 0, 0, 1, 0, 0, 0]))), (a0, .inr (9, [.ref a12, .ref a13, .ref a14, .ref a15, .ref a16, .ref a17, .ref a11, .ref a18, .ref a19, .ref a20, .ref a21, .ref a22, .int 1, .int 0, .int 1, .ref a5, .ref a6, .ref a7, .ref a8, .ref a9, .ref a10, .int 2, .int 2, .ref a2, .ref a1, .ref a3, .ref a4, .int 0, .int 1, .ref a23, .ref a24, .ref a25, .ref a26, .int 0, .ref a27, .int 0])), (a11, .inl (cI, 4, .inl (tb [0, 0, 0, 0])))]) rfl (fun H locs hP hD hS => ?_)
  refine t_if_eq hx hb dX9_count_164 175 (by decide) (by decide +kernel) ?_
  refine lv_iconst (v := 0) hx hb dX9_count_175 (by decide) ?_
  exact r_i hx hb hr hk hK (hP.sub [] rfl) (hD.sub [] rfl rfl) hS dX9_count_176
set_option maxRecDepth 100000 in
set_option maxHeartbeats 4000000 in
theorem c617_X9_count (l : Launch) (dC : Nat → ClassId) (dI : Nat → Nat → Nat) (cI cJ cII cJJ : ClassId) (sz g a0 a1 a2 a3 a4 a5 a6 a7 a8 a9 a10 a11 a12 a13 a14 a15 a16 a17 a18 a19 a20 a21 a22 a23 a24 a25 a26 a27 : Nat) (x0 : Int32) (h_x0 : 7 ≤ x0.toInt ∧ x0.toInt ≤ 10) : Met l yX9_count (.code yX9_count cX9_count 4 (some .int) :: TT) ({ frames := 2, cells := 0, slots := 0, locals := 80 }) (PcS dC dI (TY cI cJ cII cJJ) [.ref a0, .int x0] [(a0, .inr (9, [.ref a1, .ref a2, .ref a3, .ref a4, .ref a5, .ref a6, .ref a7, .ref a8, .ref a9, .ref a10, .ref a11, .ref a12, .int 1, .int 0, .int 0, .ref a13, .ref a14, .ref a15, .ref a16, .ref a17, .ref a18, .int 0, .int 0, .ref a19, .ref a20, .ref a21, .ref a22, .int 0, .int 0, .ref a23, .ref a24, .ref a25, .ref a26, .int 0, .ref a27, .int 0]))] sz 0 g) ((QcI dC dI (TY cI cJ cII cJJ) (-99999) []) (va_A [(a0, .inr (9, [.ref a1, .ref a2, .ref a3, .ref a4, .ref a5, .ref a6, .ref a7, .ref a8, .ref a9, .ref a10, .ref a11, .ref a12, .int 1, .int 0, .int 0, .ref a13, .ref a14, .ref a15, .ref a16, .ref a17, .ref a18, .int 0, .int 0, .ref a19, .ref a20, .ref a21, .ref a22, .int 0, .int 0, .ref a23, .ref a24, .ref a25, .ref a26, .int 0, .ref a27, .int 0]))] sz)) 0 0 (va_A [(a0, .inr (9, [.ref a1, .ref a2, .ref a3, .ref a4, .ref a5, .ref a6, .ref a7, .ref a8, .ref a9, .ref a10, .ref a11, .ref a12, .int 1, .int 0, .int 0, .ref a13, .ref a14, .ref a15, .ref a16, .ref a17, .ref a18, .int 0, .int 0, .ref a19, .ref a20, .ref a21, .ref a22, .int 0, .int 0, .ref a23, .ref a24, .ref a25, .ref a26, .int 0, .ref a27, .int 0]))] sz) := by
  refine SM.of (y := yX9_count) (maxL := 4) (av := [.ref a0, .int x0]) (QcI dC dI (TY cI cJ cII cJJ) (-99999) []) (by decide +kernel) (Nat.le_of_ble_eq_true rfl) (fun p e s m below meth c A ls hx hb hr hml hown hts hk hnm hA hK hP hD hS hX hl => ?_)
  have hown : s.vm.findClass RX9 = some m.cls := hown
  have hl : lv_has ls 4 [(0, .ref a0), (1, .int x0)] := hl
  refine lv_iload_n hx hb dX9_count_0 rfl (lv_at hl 1 rfl) ?_
  refine lv_bipush (v := 10) hx hb dX9_count_1 (by decide) ?_
  refine t_icmp_le hx hb dX9_count_3 22 (by decide) (p_le (by rw [show (10 : Int32).toInt = 10 from by decide +kernel]; omega)) ?_
  refine lv_iconst (v := 0) hx hb dX9_count_22 (by decide) ?_
  refine lv_istore_n (lv' := [(2, .int 0), (0, .ref a0), (1, .int x0)]) hx hb dX9_count_23 rfl hl (by decide) rfl (fun ls hl => ?_)
  refine lv_iload_n hx hb dX9_count_24 rfl (lv_at hl 2 rfl) ?_
  refine lv_tableOut (tgt := 177) hx hb dX9_count_25 (by omega) (by decide) ?_
  refine lv_ldc (v := (-99999)) hx hb hown (hts _ k_1014) dX9_count_177 ?_
  exact r_i hx hb hr hk hK (hP.sub [] rfl) (hD.sub [] rfl rfl) hS dX9_count_179
set_option maxRecDepth 100000 in
set_option maxHeartbeats 4000000 in
theorem c618_X9_count (l : Launch) (dC : Nat → ClassId) (dI : Nat → Nat → Nat) (cI cJ cII cJJ : ClassId) (sz g a0 a1 a2 a3 a4 a5 a6 a7 a8 a9 a10 a11 a12 a13 a14 a15 a16 a17 a18 a19 a20 a21 a22 a23 a24 a25 a26 a27 : Nat) : Met l yX9_count (.code yX9_count cX9_count 4 (some .int) :: TT) ({ frames := 2, cells := 0, slots := 0, locals := 80 }) (PcS dC dI (TY cI cJ cII cJJ) [.ref a0, .int 11] [(a0, .inr (9, [.ref a2, .ref a3, .ref a4, .ref a5, .ref a6, .ref a7, .ref a8, .ref a1, .ref a9, .ref a10, .ref a11, .ref a12, .int 1, .int 0, .int 0, .ref a13, .ref a14, .ref a15, .ref a16, .ref a17, .ref a18, .int 0, .int 0, .ref a19, .ref a20, .ref a21, .ref a22, .int 0, .int 0, .ref a23, .ref a24, .ref a25, .ref a26, .int 0, .ref a27, .int 0])), (a1, .inl (cI, 8, .inl (tb [])))] sz 0 g) ((QcI dC dI (TY cI cJ cII cJJ) 0 []) (va_A [(a0, .inr (9, [.ref a2, .ref a3, .ref a4, .ref a5, .ref a6, .ref a7, .ref a8, .ref a1, .ref a9, .ref a10, .ref a11, .ref a12, .int 1, .int 0, .int 0, .ref a13, .ref a14, .ref a15, .ref a16, .ref a17, .ref a18, .int 0, .int 0, .ref a19, .ref a20, .ref a21, .ref a22, .int 0, .int 0, .ref a23, .ref a24, .ref a25, .ref a26, .int 0, .ref a27, .int 0])), (a1, .inl (cI, 8, .inl (tb [])))] sz)) 0 0 (va_A [(a0, .inr (9, [.ref a2, .ref a3, .ref a4, .ref a5, .ref a6, .ref a7, .ref a8, .ref a1, .ref a9, .ref a10, .ref a11, .ref a12, .int 1, .int 0, .int 0, .ref a13, .ref a14, .ref a15, .ref a16, .ref a17, .ref a18, .int 0, .int 0, .ref a19, .ref a20, .ref a21, .ref a22, .int 0, .int 0, .ref a23, .ref a24, .ref a25, .ref a26, .int 0, .ref a27, .int 0])), (a1, .inl (cI, 8, .inl (tb [])))] sz) := by
  refine SM.of (y := yX9_count) (maxL := 4) (av := [.ref a0, .int 11]) (QcI dC dI (TY cI cJ cII cJJ) 0 []) (by decide +kernel) (Nat.le_of_ble_eq_true rfl) (fun p e s m below meth c A ls hx hb hr hml hown hts hk hnm hA hK hP hD hS hX hl => ?_)
  have hown : s.vm.findClass RX9 = some m.cls := hown
  have hl : lv_has ls 4 [(0, .ref a0), (1, .int 11)] := hl
  refine lv_iload_n hx hb dX9_count_0 rfl (lv_at hl 1 rfl) ?_
  refine lv_bipush (v := 10) hx hb dX9_count_1 (by decide) ?_
  refine f_icmp_le hx hb dX9_count_3 22 (by decide) (by decide +kernel) ?_
  refine lv_iload_n hx hb dX9_count_6 rfl (lv_at hl 1 rfl) ?_
  refine lv_bipush (v := 18) hx hb dX9_count_7 (by decide) ?_
  refine f_icmp_ge hx hb dX9_count_9 22 (by decide) (by decide +kernel) ?_
  refine lv_aload_n hx hb dX9_count_12 rfl (lv_at hl 0 rfl) ?_
  refine gf (k := 7) hx hb hts inX9 hown hK hP k_802 rfl (by decide) rfl 0 rfl (.ref a1) rfl dX9_count_13 ?_
  refine lv_iload_n hx hb dX9_count_16 rfl (lv_at hl 1 rfl) ?_
  refine lv_bipush (v := 10) hx hb dX9_count_17 (by decide) ?_
  refine v_isub hx hb dX9_count_19 1 (by decide +kernel) ?_
  refine ld_i hx hb hK hP 1 rfl (vin (by decide +kernel)) dX9_count_20 0 rfl ?_
  exact r_i hx hb hr hk hK (hP.sub [] rfl) (hD.sub [] rfl rfl) hS dX9_count_21
set_option maxRecDepth 100000 in
set_option maxHeartbeats 4000000 in
theorem c619_X9_count (l : Launch) (dC : Nat → ClassId) (dI : Nat → Nat → Nat) (cI cJ cII cJJ : ClassId) (sz g a0 a1 a2 a3 a4 a5 a6 a7 a8 a9 a10 a11 a12 a13 a14 a15 a16 a17 a18 a19 a20 a21 a22 a23 a24 a25 a26 a27 : Nat) : Met l yX9_count (.code yX9_count cX9_count 4 (some .int) :: TT) ({ frames := 2, cells := 0, slots := 0, locals := 80 }) (PcS dC dI (TY cI cJ cII cJJ) [.ref a0, .int 12] [(a0, .inr (9, [.ref a2, .ref a3, .ref a4, .ref a5, .ref a6, .ref a7, .ref a8, .ref a1, .ref a9, .ref a10, .ref a11, .ref a12, .int 1, .int 0, .int 0, .ref a13, .ref a14, .ref a15, .ref a16, .ref a17, .ref a18, .int 0, .int 0, .ref a19, .ref a20, .ref a21, .ref a22, .int 0, .int 0, .ref a23, .ref a24, .ref a25, .ref a26, .int 0, .ref a27, .int 0])), (a1, .inl (cI, 8, .inl (tb [])))] sz 0 g) ((QcI dC dI (TY cI cJ cII cJJ) 0 []) (va_A [(a0, .inr (9, [.ref a2, .ref a3, .ref a4, .ref a5, .ref a6, .ref a7, .ref a8, .ref a1, .ref a9, .ref a10, .ref a11, .ref a12, .int 1, .int 0, .int 0, .ref a13, .ref a14, .ref a15, .ref a16, .ref a17, .ref a18, .int 0, .int 0, .ref a19, .ref a20, .ref a21, .ref a22, .int 0, .int 0, .ref a23, .ref a24, .ref a25, .ref a26, .int 0, .ref a27, .int 0])), (a1, .inl (cI, 8, .inl (tb [])))] sz)) 0 0 (va_A [(a0, .inr (9, [.ref a2, .ref a3, .ref a4, .ref a5, .ref a6, .ref a7, .ref a8, .ref a1, .ref a9, .ref a10, .ref a11, .ref a12, .int 1, .int 0, .int 0, .ref a13, .ref a14, .ref a15, .ref a16, .ref a17, .ref a18, .int 0, .int 0, .ref a19, .ref a20, .ref a21, .ref a22, .int 0, .int 0, .ref a23, .ref a24, .ref a25, .ref a26, .int 0, .ref a27, .int 0])), (a1, .inl (cI, 8, .inl (tb [])))] sz) := by
  refine SM.of (y := yX9_count) (maxL := 4) (av := [.ref a0, .int 12]) (QcI dC dI (TY cI cJ cII cJJ) 0 []) (by decide +kernel) (Nat.le_of_ble_eq_true rfl) (fun p e s m below meth c A ls hx hb hr hml hown hts hk hnm hA hK hP hD hS hX hl => ?_)
  have hown : s.vm.findClass RX9 = some m.cls := hown
  have hl : lv_has ls 4 [(0, .ref a0), (1, .int 12)] := hl
  refine lv_iload_n hx hb dX9_count_0 rfl (lv_at hl 1 rfl) ?_
  refine lv_bipush (v := 10) hx hb dX9_count_1 (by decide) ?_
  refine f_icmp_le hx hb dX9_count_3 22 (by decide) (by decide +kernel) ?_
  refine lv_iload_n hx hb dX9_count_6 rfl (lv_at hl 1 rfl) ?_
  refine lv_bipush (v := 18) hx hb dX9_count_7 (by decide) ?_
  refine f_icmp_ge hx hb dX9_count_9 22 (by decide) (by decide +kernel) ?_
  refine lv_aload_n hx hb dX9_count_12 rfl (lv_at hl 0 rfl) ?_
  refine gf (k := 7) hx hb hts inX9 hown hK hP k_802 rfl (by decide) rfl 0 rfl (.ref a1) rfl dX9_count_13 ?_
  refine lv_iload_n hx hb dX9_count_16 rfl (lv_at hl 1 rfl) ?_
  refine lv_bipush (v := 10) hx hb dX9_count_17 (by decide) ?_
  refine v_isub hx hb dX9_count_19 2 (by decide +kernel) ?_
  refine ld_i hx hb hK hP 1 rfl (vin (by decide +kernel)) dX9_count_20 0 rfl ?_
  exact r_i hx hb hr hk hK (hP.sub [] rfl) (hD.sub [] rfl rfl) hS dX9_count_21
set_option maxRecDepth 100000 in
set_option maxHeartbeats 4000000 in
theorem c620_X9_count (l : Launch) (dC : Nat → ClassId) (dI : Nat → Nat → Nat) (cI cJ cII cJJ : ClassId) (sz g a0 a1 a2 a3 a4 a5 a6 a7 a8 a9 a10 a11 a12 a13 a14 a15 a16 a17 a18 a19 a20 a21 a22 a23 a24 a25 a26 a27 : Nat) : Met l yX9_count (.code yX9_count cX9_count 4 (some .int) :: TT) ({ frames := 2, cells := 0, slots := 0, locals := 80 }) (PcS dC dI (TY cI cJ cII cJJ) [.ref a0, .int 13] [(a0, .inr (9, [.ref a2, .ref a3, .ref a4, .ref a5, .ref a6, .ref a7, .ref a8, .ref a1, .ref a9, .ref a10, .ref a11, .ref a12, .int 1, .int 0, .int 0, .ref a13, .ref a14, .ref a15, .ref a16, .ref a17, .ref a18, .int 0, .int 0, .ref a19, .ref a20, .ref a21, .ref a22, .int 0, .int 0, .ref a23, .ref a24, .ref a25, .ref a26, .int 0, .ref a27, .int 0])), (a1, .inl (cI, 8, .inl (tb [])))] sz 0 g) ((QcI dC dI (TY cI cJ cII cJJ) 0 []) (va_A [(a0, .inr (9, [.ref a2, .ref a3, .ref a4, .ref a5, .ref a6, .ref a7, .ref a8, .ref a1, .ref a9, .ref a10, .ref a11, .ref a12, .int 1, .int 0, .int 0, .ref a13, .ref a14, .ref a15, .ref a16, .ref a17, .ref a18, .int 0, .int 0, .ref a19, .ref a20, .ref a21, .ref a22, .int 0, .int 0, .ref a23, .ref a24, .ref a25, .ref a26, .int 0, .ref a27, .int 0])), (a1, .inl (cI, 8, .inl (tb [])))] sz)) 0 0 (va_A [(a0, .inr (9, [.ref a2, .ref a3, .ref a4, .ref a5, .ref a6, .ref a7, .ref a8, .ref a1, .ref a9, .ref a10, .ref a11, .ref a12, .int 1, .int 0, .int 0, .ref a13, .ref a14, .ref a15, .ref a16, .ref a17, .ref a18, .int 0, .int 0, .ref a19, .ref a20, .ref a21, .ref a22, .int 0, .int 0, .ref a23, .ref a24, .ref a25, .ref a26, .int 0, .ref a27, .int 0])), (a1, .inl (cI, 8, .inl (tb [])))] sz) := by
  refine SM.of (y := yX9_count) (maxL := 4) (av := [.ref a0, .int 13]) (QcI dC dI (TY cI cJ cII cJJ) 0 []) (by decide +kernel) (Nat.le_of_ble_eq_true rfl) (fun p e s m below meth c A ls hx hb hr hml hown hts hk hnm hA hK hP hD hS hX hl => ?_)
  have hown : s.vm.findClass RX9 = some m.cls := hown
  have hl : lv_has ls 4 [(0, .ref a0), (1, .int 13)] := hl
  refine lv_iload_n hx hb dX9_count_0 rfl (lv_at hl 1 rfl) ?_
  refine lv_bipush (v := 10) hx hb dX9_count_1 (by decide) ?_
  refine f_icmp_le hx hb dX9_count_3 22 (by decide) (by decide +kernel) ?_
  refine lv_iload_n hx hb dX9_count_6 rfl (lv_at hl 1 rfl) ?_
  refine lv_bipush (v := 18) hx hb dX9_count_7 (by decide) ?_
  refine f_icmp_ge hx hb dX9_count_9 22 (by decide) (by decide +kernel) ?_
  refine lv_aload_n hx hb dX9_count_12 rfl (lv_at hl 0 rfl) ?_
  refine gf (k := 7) hx hb hts inX9 hown hK hP k_802 rfl (by decide) rfl 0 rfl (.ref a1) rfl dX9_count_13 ?_
  refine lv_iload_n hx hb dX9_count_16 rfl (lv_at hl 1 rfl) ?_
  refine lv_bipush (v := 10) hx hb dX9_count_17 (by decide) ?_
  refine v_isub hx hb dX9_count_19 3 (by decide +kernel) ?_
  refine ld_i hx hb hK hP 1 rfl (vin (by decide +kernel)) dX9_count_20 0 rfl ?_
  exact r_i hx hb hr hk hK (hP.sub [] rfl) (hD.sub [] rfl rfl) hS dX9_count_21
set_option maxRecDepth 100000 in
set_option maxHeartbeats 4000000 in
theorem c621_X9_count (l : Launch) (dC : Nat → ClassId) (dI : Nat → Nat → Nat) (cI cJ cII cJJ : ClassId) (sz g a0 a1 a2 a3 a4 a5 a6 a7 a8 a9 a10 a11 a12 a13 a14 a15 a16 a17 a18 a19 a20 a21 a22 a23 a24 a25 a26 a27 : Nat) : Met l yX9_count (.code yX9_count cX9_count 4 (some .int) :: TT) ({ frames := 2, cells := 0, slots := 0, locals := 80 }) (PcS dC dI (TY cI cJ cII cJJ) [.ref a0, .int 14] [(a0, .inr (9, [.ref a2, .ref a3, .ref a4, .ref a5, .ref a6, .ref a7, .ref a8, .ref a1, .ref a9, .ref a10, .ref a11, .ref a12, .int 1, .int 0, .int 0, .ref a13, .ref a14, .ref a15, .ref a16, .ref a17, .ref a18, .int 0, .int 0, .ref a19, .ref a20, .ref a21, .ref a22, .int 0, .int 0, .ref a23, .ref a24, .ref a25, .ref a26, .int 0, .ref a27, .int 0])), (a1, .inl (cI, 8, .inl (tb [])))] sz 0 g) ((QcI dC dI (TY cI cJ cII cJJ) 0 []) (va_A [(a0, .inr (9, [.ref a2, .ref a3, .ref a4, .ref a5, .ref a6, .ref a7, .ref a8, .ref a1, .ref a9, .ref a10, .ref a11, .ref a12, .int 1, .int 0, .int 0, .ref a13, .ref a14, .ref a15, .ref a16, .ref a17, .ref a18, .int 0, .int 0, .ref a19, .ref a20, .ref a21, .ref a22, .int 0, .int 0, .ref a23, .ref a24, .ref a25, .ref a26, .int 0, .ref a27, .int 0])), (a1, .inl (cI, 8, .inl (tb [])))] sz)) 0 0 (va_A [(a0, .inr (9, [.ref a2, .ref a3, .ref a4, .ref a5, .ref a6, .ref a7, .ref a8, .ref a1, .ref a9, .ref a10, .ref a11, .ref a12, .int 1, .int 0, .int 0, .ref a13, .ref a14, .ref a15, .ref a16, .ref a17, .ref a18, .int 0, .int 0, .ref a19, .ref a20, .ref a21, .ref a22, .int 0, .int 0, .ref a23, .ref a24, .ref a25, .ref a26, .int 0, .ref a27, .int 0])), (a1, .inl (cI, 8, .inl (tb [])))] sz) := by
  refine SM.of (y := yX9_count) (maxL := 4) (av := [.ref a0, .int 14]) (QcI dC dI (TY cI cJ cII cJJ) 0 []) (by decide +kernel) (Nat.le_of_ble_eq_true rfl) (fun p e s m below meth c A ls hx hb hr hml hown hts hk hnm hA hK hP hD hS hX hl => ?_)
  have hown : s.vm.findClass RX9 = some m.cls := hown
  have hl : lv_has ls 4 [(0, .ref a0), (1, .int 14)] := hl
  refine lv_iload_n hx hb dX9_count_0 rfl (lv_at hl 1 rfl) ?_
  refine lv_bipush (v := 10) hx hb dX9_count_1 (by decide) ?_
  refine f_icmp_le hx hb dX9_count_3 22 (by decide) (by decide +kernel) ?_
  refine lv_iload_n hx hb dX9_count_6 rfl (lv_at hl 1 rfl) ?_
  refine lv_bipush (v := 18) hx hb dX9_count_7 (by decide) ?_
  refine f_icmp_ge hx hb dX9_count_9 22 (by decide) (by decide +kernel) ?_
  refine lv_aload_n hx hb dX9_count_12 rfl (lv_at hl 0 rfl) ?_
  refine gf (k := 7) hx hb hts inX9 hown hK hP k_802 rfl (by decide) rfl 0 rfl (.ref a1) rfl dX9_count_13 ?_
  refine lv_iload_n hx hb dX9_count_16 rfl (lv_at hl 1 rfl) ?_
  refine lv_bipush (v := 10) hx hb dX9_count_17 (by decide) ?_
  refine v_isub hx hb dX9_count_19 4 (by decide +kernel) ?_
  refine ld_i hx hb hK hP 1 rfl (vin (by decide +kernel)) dX9_count_20 0 rfl ?_
  exact r_i hx hb hr hk hK (hP.sub [] rfl) (hD.sub [] rfl rfl) hS dX9_count_21
set_option maxRecDepth 100000 in
set_option maxHeartbeats 4000000 in
theorem c622_X9_count (l : Launch) (dC : Nat → ClassId) (dI : Nat → Nat → Nat) (cI cJ cII cJJ : ClassId) (sz g a0 a1 a2 a3 a4 a5 a6 a7 a8 a9 a10 a11 a12 a13 a14 a15 a16 a17 a18 a19 a20 a21 a22 a23 a24 a25 a26 a27 : Nat) : Met l yX9_count (.code yX9_count cX9_count 4 (some .int) :: TT) ({ frames := 2, cells := 0, slots := 0, locals := 80 }) (PcS dC dI (TY cI cJ cII cJJ) [.ref a0, .int 15] [(a0, .inr (9, [.ref a2, .ref a3, .ref a4, .ref a5, .ref a6, .ref a7, .ref a8, .ref a1, .ref a9, .ref a10, .ref a11, .ref a12, .int 1, .int 0, .int 0, .ref a13, .ref a14, .ref a15, .ref a16, .ref a17, .ref a18, .int 0, .int 0, .ref a19, .ref a20, .ref a21, .ref a22, .int 0, .int 0, .ref a23, .ref a24, .ref a25, .ref a26, .int 0, .ref a27, .int 0])), (a1, .inl (cI, 8, .inl (tb [])))] sz 0 g) ((QcI dC dI (TY cI cJ cII cJJ) 0 []) (va_A [(a0, .inr (9, [.ref a2, .ref a3, .ref a4, .ref a5, .ref a6, .ref a7, .ref a8, .ref a1, .ref a9, .ref a10, .ref a11, .ref a12, .int 1, .int 0, .int 0, .ref a13, .ref a14, .ref a15, .ref a16, .ref a17, .ref a18, .int 0, .int 0, .ref a19, .ref a20, .ref a21, .ref a22, .int 0, .int 0, .ref a23, .ref a24, .ref a25, .ref a26, .int 0, .ref a27, .int 0])), (a1, .inl (cI, 8, .inl (tb [])))] sz)) 0 0 (va_A [(a0, .inr (9, [.ref a2, .ref a3, .ref a4, .ref a5, .ref a6, .ref a7, .ref a8, .ref a1, .ref a9, .ref a10, .ref a11, .ref a12, .int 1, .int 0, .int 0, .ref a13, .ref a14, .ref a15, .ref a16, .ref a17, .ref a18, .int 0, .int 0, .ref a19, .ref a20, .ref a21, .ref a22, .int 0, .int 0, .ref a23, .ref a24, .ref a25, .ref a26, .int 0, .ref a27, .int 0])), (a1, .inl (cI, 8, .inl (tb [])))] sz) := by
  refine SM.of (y := yX9_count) (maxL := 4) (av := [.ref a0, .int 15]) (QcI dC dI (TY cI cJ cII cJJ) 0 []) (by decide +kernel) (Nat.le_of_ble_eq_true rfl) (fun p e s m below meth c A ls hx hb hr hml hown hts hk hnm hA hK hP hD hS hX hl => ?_)
  have hown : s.vm.findClass RX9 = some m.cls := hown
  have hl : lv_has ls 4 [(0, .ref a0), (1, .int 15)] := hl
  refine lv_iload_n hx hb dX9_count_0 rfl (lv_at hl 1 rfl) ?_
  refine lv_bipush (v := 10) hx hb dX9_count_1 (by decide) ?_
  refine f_icmp_le hx hb dX9_count_3 22 (by decide) (by decide +kernel) ?_
  refine lv_iload_n hx hb dX9_count_6 rfl (lv_at hl 1 rfl) ?_
  refine lv_bipush (v := 18) hx hb dX9_count_7 (by decide) ?_
  refine f_icmp_ge hx hb dX9_count_9 22 (by decide) (by decide +kernel) ?_
  refine lv_aload_n hx hb dX9_count_12 rfl (lv_at hl 0 rfl) ?_
  refine gf (k := 7) hx hb hts inX9 hown hK hP k_802 rfl (by decide) rfl 0 rfl (.ref a1) rfl dX9_count_13 ?_
  refine lv_iload_n hx hb dX9_count_16 rfl (lv_at hl 1 rfl) ?_
  refine lv_bipush (v := 10) hx hb dX9_count_17 (by decide) ?_
  refine v_isub hx hb dX9_count_19 5 (by decide +kernel) ?_
  refine ld_i hx hb hK hP 1 rfl (vin (by decide +kernel)) dX9_count_20 0 rfl ?_
  exact r_i hx hb hr hk hK (hP.sub [] rfl) (hD.sub [] rfl rfl) hS dX9_count_21
set_option maxRecDepth 100000 in
set_option maxHeartbeats 4000000 in
theorem c623_X9_count (l : Launch) (dC : Nat → ClassId) (dI : Nat → Nat → Nat) (cI cJ cII cJJ : ClassId) (sz g a0 a1 a2 a3 a4 a5 a6 a7 a8 a9 a10 a11 a12 a13 a14 a15 a16 a17 a18 a19 a20 a21 a22 a23 a24 a25 a26 a27 : Nat) : Met l yX9_count (.code yX9_count cX9_count 4 (some .int) :: TT) ({ frames := 2, cells := 0, slots := 0, locals := 80 }) (PcS dC dI (TY cI cJ cII cJJ) [.ref a0, .int 16] [(a0, .inr (9, [.ref a2, .ref a3, .ref a4, .ref a5, .ref a6, .ref a7, .ref a8, .ref a1, .ref a9, .ref a10, .ref a11, .ref a12, .int 1, .int 0, .int 0, .ref a13, .ref a14, .ref a15, .ref a16, .ref a17, .ref a18, .int 0, .int 0, .ref a19, .ref a20, .ref a21, .ref a22, .int 0, .int 0, .ref a23, .ref a24, .ref a25, .ref a26, .int 0, .ref a27, .int 0])), (a1, .inl (cI, 8, .inl (tb [])))] sz 0 g) ((QcI dC dI (TY cI cJ cII cJJ) 0 []) (va_A [(a0, .inr (9, [.ref a2, .ref a3, .ref a4, .ref a5, .ref a6, .ref a7, .ref a8, .ref a1, .ref a9, .ref a10, .ref a11, .ref a12, .int 1, .int 0, .int 0, .ref a13, .ref a14, .ref a15, .ref a16, .ref a17, .ref a18, .int 0, .int 0, .ref a19, .ref a20, .ref a21, .ref a22, .int 0, .int 0, .ref a23, .ref a24, .ref a25, .ref a26, .int 0, .ref a27, .int 0])), (a1, .inl (cI, 8, .inl (tb [])))] sz)) 0 0 (va_A [(a0, .inr (9, [.ref a2, .ref a3, .ref a4, .ref a5, .ref a6, .ref a7, .ref a8, .ref a1, .ref a9, .ref a10, .ref a11, .ref a12, .int 1, .int 0, .int 0, .ref a13, .ref a14, .ref a15, .ref a16, .ref a17, .ref a18, .int 0, .int 0, .ref a19, .ref a20, .ref a21, .ref a22, .int 0, .int 0, .ref a23, .ref a24, .ref a25, .ref a26, .int 0, .ref a27, .int 0])), (a1, .inl (cI, 8, .inl (tb [])))] sz) := by
  refine SM.of (y := yX9_count) (maxL := 4) (av := [.ref a0, .int 16]) (QcI dC dI (TY cI cJ cII cJJ) 0 []) (by decide +kernel) (Nat.le_of_ble_eq_true rfl) (fun p e s m below meth c A ls hx hb hr hml hown hts hk hnm hA hK hP hD hS hX hl => ?_)
  have hown : s.vm.findClass RX9 = some m.cls := hown
  have hl : lv_has ls 4 [(0, .ref a0), (1, .int 16)] := hl
  refine lv_iload_n hx hb dX9_count_0 rfl (lv_at hl 1 rfl) ?_
  refine lv_bipush (v := 10) hx hb dX9_count_1 (by decide) ?_
  refine f_icmp_le hx hb dX9_count_3 22 (by decide) (by decide +kernel) ?_
  refine lv_iload_n hx hb dX9_count_6 rfl (lv_at hl 1 rfl) ?_
  refine lv_bipush (v := 18) hx hb dX9_count_7 (by decide) ?_
  refine f_icmp_ge hx hb dX9_count_9 22 (by decide) (by decide +kernel) ?_
  refine lv_aload_n hx hb dX9_count_12 rfl (lv_at hl 0 rfl) ?_
  refine gf (k := 7) hx hb hts inX9 hown hK hP k_802 rfl (by decide) rfl 0 rfl (.ref a1) rfl dX9_count_13 ?_
  refine lv_iload_n hx hb dX9_count_16 rfl (lv_at hl 1 rfl) ?_
  refine lv_bipush (v := 10) hx hb dX9_count_17 (by decide) ?_
  refine v_isub hx hb dX9_count_19 6 (by decide +kernel) ?_
  refine ld_i hx hb hK hP 1 rfl (vin (by decide +kernel)) dX9_count_20 0 rfl ?_
  exact r_i hx hb hr hk hK (hP.sub [] rfl) (hD.sub [] rfl rfl) hS dX9_count_21
set_option maxRecDepth 100000 in
set_option maxHeartbeats 4000000 in
theorem c624_X9_count (l : Launch) (dC : Nat → ClassId) (dI : Nat → Nat → Nat) (cI cJ cII cJJ : ClassId) (sz g a0 a1 a2 a3 a4 a5 a6 a7 a8 a9 a10 a11 a12 a13 a14 a15 a16 a17 a18 a19 a20 a21 a22 a23 a24 a25 a26 a27 : Nat) : Met l yX9_count (.code yX9_count cX9_count 4 (some .int) :: TT) ({ frames := 2, cells := 0, slots := 0, locals := 80 }) (PcS dC dI (TY cI cJ cII cJJ) [.ref a0, .int 17] [(a0, .inr (9, [.ref a2, .ref a3, .ref a4, .ref a5, .ref a6, .ref a7, .ref a8, .ref a1, .ref a9, .ref a10, .ref a11, .ref a12, .int 1, .int 0, .int 0, .ref a13, .ref a14, .ref a15, .ref a16, .ref a17, .ref a18, .int 0, .int 0, .ref a19, .ref a20, .ref a21, .ref a22, .int 0, .int 0, .ref a23, .ref a24, .ref a25, .ref a26, .int 0, .ref a27, .int 0])), (a1, .inl (cI, 8, .inl (tb [])))] sz 0 g) ((QcI dC dI (TY cI cJ cII cJJ) 0 []) (va_A [(a0, .inr (9, [.ref a2, .ref a3, .ref a4, .ref a5, .ref a6, .ref a7, .ref a8, .ref a1, .ref a9, .ref a10, .ref a11, .ref a12, .int 1, .int 0, .int 0, .ref a13, .ref a14, .ref a15, .ref a16, .ref a17, .ref a18, .int 0, .int 0, .ref a19, .ref a20, .ref a21, .ref a22, .int 0, .int 0, .ref a23, .ref a24, .ref a25, .ref a26, .int 0, .ref a27, .int 0])), (a1, .inl (cI, 8, .inl (tb [])))] sz)) 0 0 (va_A [(a0, .inr (9, [.ref a2, .ref a3, .ref a4, .ref a5, .ref a6, .ref a7, .ref a8, .ref a1, .ref a9, .ref a10, .ref a11, .ref a12, .int 1, .int 0, .int 0, .ref a13, .ref a14, .ref a15, .ref a16, .ref a17, .ref a18, .int 0, .int 0, .ref a19, .ref a20, .ref a21, .ref a22, .int 0, .int 0, .ref a23, .ref a24, .ref a25, .ref a26, .int 0, .ref a27, .int 0])), (a1, .inl (cI, 8, .inl (tb [])))] sz) := by
  refine SM.of (y := yX9_count) (maxL := 4) (av := [.ref a0, .int 17]) (QcI dC dI (TY cI cJ cII cJJ) 0 []) (by decide +kernel) (Nat.le_of_ble_eq_true rfl) (fun p e s m below meth c A ls hx hb hr hml hown hts hk hnm hA hK hP hD hS hX hl => ?_)
  have hown : s.vm.findClass RX9 = some m.cls := hown
  have hl : lv_has ls 4 [(0, .ref a0), (1, .int 17)] := hl
  refine lv_iload_n hx hb dX9_count_0 rfl (lv_at hl 1 rfl) ?_
  refine lv_bipush (v := 10) hx hb dX9_count_1 (by decide) ?_
  refine f_icmp_le hx hb dX9_count_3 22 (by decide) (by decide +kernel) ?_
  refine lv_iload_n hx hb dX9_count_6 rfl (lv_at hl 1 rfl) ?_
  refine lv_bipush (v := 18) hx hb dX9_count_7 (by decide) ?_
  refine f_icmp_ge hx hb dX9_count_9 22 (by decide) (by decide +kernel) ?_
  refine lv_aload_n hx hb dX9_count_12 rfl (lv_at hl 0 rfl) ?_
  refine gf (k := 7) hx hb hts inX9 hown hK hP k_802 rfl (by decide) rfl 0 rfl (.ref a1) rfl dX9_count_13 ?_
  refine lv_iload_n hx hb dX9_count_16 rfl (lv_at hl 1 rfl) ?_
  refine lv_bipush (v := 10) hx hb dX9_count_17 (by decide) ?_
  refine v_isub hx hb dX9_count_19 7 (by decide +kernel) ?_
  refine ld_i hx hb hK hP 1 rfl (vin (by decide +kernel)) dX9_count_20 0 rfl ?_
  exact r_i hx hb hr hk hK (hP.sub [] rfl) (hD.sub [] rfl rfl) hS dX9_count_21
set_option maxRecDepth 100000 in
set_option maxHeartbeats 4000000 in
theorem c625_X9_count (l : Launch) (dC : Nat → ClassId) (dI : Nat → Nat → Nat) (cI cJ cII cJJ : ClassId) (sz g a0 a1 a2 a3 a4 a5 a6 a7 a8 a9 a10 a11 a12 a13 a14 a15 a16 a17 a18 a19 a20 a21 a22 a23 a24 a25 a26 a27 : Nat) (x0 : Int32) (h_x0 : 18 ≤ x0.toInt ∧ x0.toInt ≤ 2147483647) : Met l yX9_count (.code yX9_count cX9_count 4 (some .int) :: TT) ({ frames := 2, cells := 0, slots := 0, locals := 80 }) (PcS dC dI (TY cI cJ cII cJJ) [.ref a0, .int x0] [(a0, .inr (9, [.ref a1, .ref a2, .ref a3, .ref a4, .ref a5, .ref a6, .ref a7, .ref a8, .ref a9, .ref a10, .ref a11, .ref a12, .int 1, .int 0, .int 0, .ref a13, .ref a14, .ref a15, .ref a16, .ref a17, .ref a18, .int 0, .int 0, .ref a19, .ref a20, .ref a21, .ref a22, .int 0, .int 0, .ref a23, .ref a24, .ref a25, .ref a26, .int 0, .ref a27, .int 0]))] sz 0 g) ((QcI dC dI (TY cI cJ cII cJJ) (-99999) []) (va_A [(a0, .inr (9, [.ref a1, .ref a2, .ref a3, .ref a4, .ref a5, .ref a6, .ref a7, .ref a8, .ref a9, .ref a10, .ref a11, .ref a12, .int 1, .int 0, .int 0, .ref a13, .ref a14, .ref a15, .ref a16, .ref a17, .ref a18, .int 0, .int 0, .ref a19, .ref a20, .ref a21, .ref a22, .int 0, .int 0, .ref a23, .ref a24, .ref a25, .ref a26, .int 0, .ref a27, .int 0]))] sz)) 0 0 (va_A [(a0, .inr (9, [.ref a1, .ref a2, .ref a3, .ref a4, .ref a5, .ref a6, .ref a7, .ref a8, .ref a9, .ref a10, .ref a11, .ref a12, .int 1, .int 0, .int 0, .ref a13, .ref a14, .ref a15, .ref a16, .ref a17, .ref a18, .int 0, .int 0, .ref a19, .ref a20, .ref a21, .ref a22, .int 0, .int 0, .ref a23, .ref a24, .ref a25, .ref a26, .int 0, .ref a27, .int 0]))] sz) := by
  refine SM.of (y := yX9_count) (maxL := 4) (av := [.ref a0, .int x0]) (QcI dC dI (TY cI cJ cII cJJ) (-99999) []) (by decide +kernel) (Nat.le_of_ble_eq_true rfl) (fun p e s m below meth c A ls hx hb hr hml hown hts hk hnm hA hK hP hD hS hX hl => ?_)
  have hown : s.vm.findClass RX9 = some m.cls := hown
  have hl : lv_has ls 4 [(0, .ref a0), (1, .int x0)] := hl
  refine lv_iload_n hx hb dX9_count_0 rfl (lv_at hl 1 rfl) ?_
  refine lv_bipush (v := 10) hx hb dX9_count_1 (by decide) ?_
  refine f_icmp_le hx hb dX9_count_3 22 (by decide) (p_nle (by rw [show (10 : Int32).toInt = 10 from by decide +kernel]; omega)) ?_
  refine lv_iload_n hx hb dX9_count_6 rfl (lv_at hl 1 rfl) ?_
  refine lv_bipush (v := 18) hx hb dX9_count_7 (by decide) ?_
  refine t_icmp_ge hx hb dX9_count_9 22 (by decide) (p_le (by rw [show (18 : Int32).toInt = 18 from by decide +kernel]; omega)) ?_
  refine lv_iconst (v := 0) hx hb dX9_count_22 (by decide) ?_
  refine lv_istore_n (lv' := [(2, .int 0), (0, .ref a0), (1, .int x0)]) hx hb dX9_count_23 rfl hl (by decide) rfl (fun ls hl => ?_)
  refine lv_iload_n hx hb dX9_count_24 rfl (lv_at hl 2 rfl) ?_
  refine lv_tableOut (tgt := 177) hx hb dX9_count_25 (by omega) (by decide) ?_
  refine lv_ldc (v := (-99999)) hx hb hown (hts _ k_1014) dX9_count_177 ?_
  exact r_i hx hb hr hk hK (hP.sub [] rfl) (hD.sub [] rfl rfl) hS dX9_count_179
