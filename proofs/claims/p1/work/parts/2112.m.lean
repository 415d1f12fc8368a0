set_option maxRecDepth 100000 in
set_option maxHeartbeats 4000000 in
theorem c555_X9_find (l : Launch) (dC : Nat → ClassId) (dI : Nat → Nat → Nat) (cI cJ cII cJJ : ClassId) (sz g a0 a1 a2 a3 a4 a5 a6 a7 a8 a9 a10 a11 a12 a13 a14 a15 a16 a17 a18 a19 a20 a21 a22 a23 a24 a25 a26 a27 : Nat) : Met l yX9_find (.code yX9_find cX9_find 4 (some .int) :: TT) ({ frames := 6, cells := 0, slots := 0, locals := 320 }) (PcS dC dI (TY cI cJ cII cJJ) [.ref a0] [(a0, .inr (9, [.ref a6, .ref a7, .ref a1, .ref a3, .ref a8, .ref a9, .ref a2, .ref a10, .ref a11, .ref a12, .ref a13, .ref a14, .int 1, .int 0, .int 0, .ref a15, .ref a16, .ref a17, .ref a18, .ref a19, .ref a20, .int 0, .int 0, .ref a21, .ref a22, .ref a23, .ref a24, .int 0, .int 0, .ref a25, .ref a26, .ref a27, .ref a4, .int 0, .ref a5, .int 0])), (a1, .inl (cI, 4, .inl (tb [0, 0, 0, 0]))), (a2, .inl (cI, 4, .inl (tb [0, 0, 0, 0]))), (a3, .inl (cI, 4, .inl (tb [10, 10, 10, 10]))), (a4, .inl (cI, 4, .inl (tb []))), (a5, .inl (cI, 777924, .inl (tb [])))] sz 0 g) ((QcI dC dI (TY cI cJ cII cJJ) 0 []) (va_A [(a0, .inr (9, [.ref a6, .ref a7, .ref a1, .ref a3, .ref a8, .ref a9, .ref a2, .ref a10, .ref a11, .ref a12, .ref a13, .ref a14, .int 1, .int 0, .int 0, .ref a15, .ref a16, .ref a17, .ref a18, .ref a19, .ref a20, .int 0, .int 0, .ref a21, .ref a22, .ref a23, .ref a24, .int 0, .int 0, .ref a25, .ref a26, .ref a27, .ref a4, .int 0, .ref a5, .int 0])), (a1, .inl (cI, 4, .inl (tb [0, 0, 0, 0]))), (a2, .inl (cI, 4, .inl (tb [0, 0, 0, 0]))), (a3, .inl (cI, 4, .inl (tb [10, 10, 10, 10]))), (a4, .inl (cI, 4, .inl (tb []))), (a5, .inl (cI, 777924, .inl (tb [])))] sz)) 0 0 (va_A [(a0, .inr (9, [.ref a6, .ref a7, .ref a1, .ref a3, .ref a8, .ref a9, .ref a2, .ref a10, .ref a11, .ref a12, .ref a13, .ref a14, .int 1, .int 0, .int 0, .ref a15, .ref a16, .ref a17, .ref a18, .ref a19, .ref a20, .int 0, .int 0, .ref a21, .ref a22, .ref a23, .ref a24, .int 0, .int 0, .ref a25, .ref a26, .ref a27, .ref a4, .int 0, .ref a5, .int 0])), (a1, .inl (cI, 4, .inl (tb [0, 0, 0, 0]))), (a2, .inl (cI, 4, .inl (tb [0, 0, 0, 0]))), (a3, .inl (cI, 4, .inl (tb [10, 10, 10, 10]))), (a4, .inl (cI, 4, .inl (tb []))), (a5, .inl (cI, 777924, .inl (tb [])))] sz) := by
  refine SM.of (y := yX9_find) (maxL := 4) (av := [.ref a0]) (QcI dC dI (TY cI cJ cII cJJ) 0 []) (by decide +kernel) (Nat.le_of_ble_eq_true rfl) (fun p e s m below meth c A ls hx hb hr hml hown hts hk hnm hA hK hP hD hS hX hl => ?_)
  have hown : s.vm.findClass RX9 = some m.cls := hown
  have hl : lv_has ls 4 [(0, .ref a0)] := hl
  refine lv_aload_n hx hb dX9_find_0 rfl (lv_at hl 0 rfl) ?_
  refine lv_aload_n hx hb dX9_find_1 rfl (lv_at hl 0 rfl) ?_
  refine gf (k := 6) hx hb hts inX9 hown hK hP k_801 rfl (by decide) rfl 0 rfl (.ref a2) rfl dX9_find_2 ?_
  refine lv_iconst (v := 0) hx hb dX9_find_5 (by decide) ?_
  refine kV_i (q0 := 0) ⟨hx, hb, hml, hown, hts⟩ hK hP hD hS hA hX cv_RX9_199 [0, 1, 2, 3] [4, 5] (wr := [(a4, .inl (cI, 4, .inl (tb []))), (a5, .inl (cI, 777924, .inl (tb [])))]) rfl rfl rfl rfl (by decide) (c427_X9_isPlan l dC dI cI cJ cII cJJ s.heap.size 0 a0 a1 a2 a3 a6 a7 a8 a9 a10 a11 a12 a13 a14 a15 a16 a17 a18 a19 a20 a21 a22 a23 a24 a25 a26 a27 a4 a5) ⟨by decide +kernel, by decide +kernel⟩ rfl rfl (Or.inl rfl) (rest := []) rfl rfl rfl hl.1 rfl (Nat.le_of_ble_eq_true rfl) dX9_find_6 ⟨Nat.le_of_ble_eq_true rfl, Nat.le_of_ble_eq_true rfl⟩ (W' := [(a4, .inl (cI, 4, .inl (tb []))), (a5, .inl (cI, 777924, .inl (tb []))), (a0, .inr (9, [.ref a6, .ref a7, .ref a1, .ref a3, .ref a8, .ref a9, .ref a2, .ref a10, .ref a11, .ref a12, .ref a13, .ref a14, .int 1, .int 0, .int 0, .ref a15, .ref a16, .ref a17, .ref a18, .ref a19, .ref a20, .int 0, .int 0, .ref a21, .ref a22, .ref a23, .ref a24, .int 0, .int 0, .ref a25, .ref a26, .ref a27, .ref a4, .int 0, .ref a5, .int 0])), (a1, .inl (cI, 4, .inl (tb [0, 0, 0, 0]))), (a2, .inl (cI, 4, .inl (tb [0, 0, 0, 0]))), (a3, .inl (cI, 4, .inl (tb [10, 10, 10, 10])))]) rfl (fun H locs hP hD hS => ?_)
  refine t_if_ne hx hb dX9_find_9 19 (by decide) (by decide +kernel) ?_
  refine lv_aload_n hx hb dX9_find_19 rfl (lv_at hl 0 rfl) ?_
  refine kV_v (q0 := 0) ⟨hx, hb, hml, hown, hts⟩ hK hP hD hS hA hX cv_RX9_238 [2, 3, 5, 0, 1] [4] (wr := [(a2, .inl (cI, 4, .inl (tb [0, 0, 0, 0])))]) rfl rfl rfl rfl (by decide) (c515_X9_gather l dC dI cI cJ cII cJJ H.size 0 a0 a1 a3 a4 a5 a6 a7 a8 a9 a2 a10 a11 a12 a13 a14 a15 a16 a17 a18 a19 a20 a21 a22 a23 a24 a25 a26 a27) ⟨by decide +kernel, by decide +kernel⟩ rfl rfl (Or.inl rfl) (rest := []) rfl rfl rfl hl.1 rfl (Nat.le_of_ble_eq_true rfl) dX9_find_20 ⟨Nat.le_of_ble_eq_true rfl, Nat.le_of_ble_eq_true rfl⟩ (fun _ => rfl) (W' := [(a2, .inl (cI, 4, .inl (tb [0, 0, 0, 0]))), (a5, .inl (cI, 777924, .inl (tb [0, 0, 0, 0, 1, 0, 0, 0, 2, 0, 0, 0, 3, 0, 0, 0, 4, 0, 0, 0, 5, 0, 0, 0, 6, 0, 0, 0, 7, 0, 0, 0, 8, 0, 0, 0, 9, 0, 0, 0, 10]))), (a0, .inr (9, [.ref a6, .ref a7, .ref a1, .ref a3, .ref a8, .ref a9, .ref a2, .ref a10, .ref a11, .ref a12, .ref a13, .ref a14, .int 1, .int 0, .int 0, .ref a15, .ref a16, .ref a17, .ref a18, .ref a19, .ref a20, .int 0, .int 0, .ref a21, .ref a22, .ref a23, .ref a24, .int 0, .int 0, .ref a25, .ref a26, .ref a27, .ref a4, .int 1, .ref a5, .int 11])), (a1, .inl (cI, 4, .inl (tb [0, 0, 0, 0]))), (a4, .inl (cI, 4, .inl (tb [10]))), (a3, .inl (cI, 4, .inl (tb [10, 10, 10, 10])))]) rfl (fun H locs hP hD hS => ?_)
  refine lv_iconst (v := 0) hx hb dX9_find_23 (by decide) ?_
  refine lv_istore_n (lv' := [(1, .int 0), (0, .ref a0)]) hx hb dX9_find_24 rfl hl (by decide) rfl (fun ls hl => ?_)
  refine lv_iload_n hx hb dX9_find_25 rfl (lv_at hl 0 rfl) ?_
  refine lv_aload_n hx hb dX9_find_26 rfl (lv_at hl 1 rfl) ?_
  refine gf (k := 35) hx hb hts inX9 hown hK hP k_830 rfl (by decide) rfl 2 rfl (.int 11) rfl dX9_find_27 ?_
  refine f_icmp_ge hx hb dX9_find_30 92 (by decide) (by decide +kernel) ?_
  refine lv_iconst (v := 1) hx hb dX9_find_33 (by decide) ?_
  refine lv_istore_n (lv' := [(2, .int 1), (1, .int 0), (0, .ref a0)]) hx hb dX9_find_34 rfl hl (by decide) rfl (fun ls hl => ?_)
  refine lv_iconst (v := 0) hx hb dX9_find_35 (by decide) ?_
  refine lv_istore_n (lv' := [(3, .int 0), (2, .int 1), (1, .int 0), (0, .ref a0)]) hx hb dX9_find_36 rfl hl (by decide) rfl (fun ls hl => ?_)
  refine lv_iload_n hx hb dX9_find_37 rfl (lv_at hl 0 rfl) ?_
  refine lv_aload_n hx hb dX9_find_38 rfl (lv_at hl 3 rfl) ?_
  refine gf (k := 12) hx hb hts inX9 hown hK hP k_807 rfl (by decide) rfl 2 rfl (.int 1) rfl dX9_find_39 ?_
  refine f_icmp_ge hx hb dX9_find_42 80 (by decide) (by decide +kernel) ?_
  refine lv_iload_n hx hb dX9_find_45 rfl (lv_at hl 1 rfl) ?_
  refine f_if_eq hx hb dX9_find_46 80 (by decide) (by decide +kernel) ?_
  refine lv_aload_n hx hb dX9_find_49 rfl (lv_at hl 3 rfl) ?_
  refine gf (k := 34) hx hb hts inX9 hown hK hP k_829 rfl (by decide) rfl 2 rfl (.ref a5) rfl dX9_find_50 ?_
  refine lv_iconst (v := 4) hx hb dX9_find_53 (by decide) ?_
  refine lv_iload_n hx hb dX9_find_54 rfl (lv_at hl 2 rfl) ?_
  refine v_imul hx hb dX9_find_55 0 (by decide +kernel) ?_
  refine lv_iload_n hx hb dX9_find_56 rfl (lv_at hl 0 rfl) ?_
  refine v_iadd hx hb dX9_find_57 0 (by decide +kernel) ?_
  refine ld_i hx hb hK hP 1 rfl (vin (by decide +kernel)) dX9_find_58 0 rfl ?_
  refine lv_aload_n hx hb dX9_find_59 rfl (lv_at hl 3 rfl) ?_
  refine gf (k := 6) hx hb hts inX9 hown hK hP k_801 rfl (by decide) rfl 2 rfl (.ref a2) rfl dX9_find_60 ?_
  refine lv_iload_n hx hb dX9_find_63 rfl (lv_at hl 0 rfl) ?_
  refine ld_i hx hb hK hP 0 rfl (vin (by decide +kernel)) dX9_find_64 0 rfl ?_
  refine f_icmp_ne hx hb dX9_find_65 72 (by decide) (by decide +kernel) ?_
  refine lv_iconst (v := 1) hx hb dX9_find_68 (by decide) ?_
  refine lv_goto (tgt := 73) hx hb dX9_find_69 (by decide) ?_
  refine lv_istore_n (lv' := [(2, .int 1), (3, .int 0), (1, .int 0), (0, .ref a0)]) hx hb dX9_find_73 rfl hl (by decide) rfl (fun ls hl => ?_)
  refine lv_iinc (v := 1) (lv' := [(3, .int 1), (2, .int 1), (1, .int 0), (0, .ref a0)]) hx hb dX9_find_74 hl (k := 1) rfl (by decide +kernel) (by decide) rfl (fun ls hl => ?_)
  refine lv_goto (tgt := 37) hx hb dX9_find_77 (by decide) ?_
  refine lv_iload_n hx hb dX9_find_37 rfl (lv_at hl 0 rfl) ?_
  refine lv_aload_n hx hb dX9_find_38 rfl (lv_at hl 3 rfl) ?_
  refine gf (k := 12) hx hb hts inX9 hown hK hP k_807 rfl (by decide) rfl 2 rfl (.int 1) rfl dX9_find_39 ?_
  refine t_icmp_ge hx hb dX9_find_42 80 (by decide) (by decide +kernel) ?_
  refine lv_iload_n hx hb dX9_find_80 rfl (lv_at hl 1 rfl) ?_
  refine f_if_eq hx hb dX9_find_81 86 (by decide) (by decide +kernel) ?_
  refine lv_iload_n hx hb dX9_find_84 rfl (lv_at hl 2 rfl) ?_
  exact r_i hx hb hr hk hK (hP.sub [] rfl) (hD.sub [] rfl rfl) hS dX9_find_85
set_option maxRecDepth 100000 in
set_option maxHeartbeats 4000000 in
theorem c556_X9_span (l : Launch) (dC : Nat → ClassId) (dI : Nat → Nat → Nat) (cI cJ cII cJJ : ClassId) (sz g a0 a1 a2 a3 a4 a5 a6 a7 a8 a9 a10 a11 a12 a13 a14 a15 a16 a17 a18 a19 a20 a21 a22 a23 a24 a25 a26 a27 : Nat) (x0 : Int32) (h_x0 : -2147483648 ≤ x0.toInt ∧ x0.toInt ≤ -1) (x1 : Int32) (h_x1 : -2147483648 ≤ x1.toInt ∧ x1.toInt ≤ 2147483647) : Met l yX9_span (.code yX9_span cX9_span 6 (some .int) :: TT) ({ frames := 6, cells := 0, slots := 0, locals := 320 }) (PcS dC dI (TY cI cJ cII cJJ) [.ref a0, .int x0, .int x1] [(a0, .inr (9, [.ref a5, .ref a6, .ref a1, .ref a2, .ref a7, .ref a8, .ref a9, .ref a10, .ref a11, .ref a12, .ref a13, .ref a14, .int 1, .int 0, .int 0, .ref a15, .ref a16, .ref a17, .ref a18, .ref a19, .ref a20, .int 0, .int 0, .ref a21, .ref a22, .ref a23, .ref a24, .int 0, .int 0, .ref a25, .ref a26, .ref a27, .ref a3, .int 0, .ref a4, .int 0])), (a1, .inl (cI, 4, .inl (tb [0, 0, 0, 0]))), (a2, .inl (cI, 4, .inl (tb [10, 10, 10, 10]))), (a3, .inl (cI, 4, .inl (tb []))), (a4, .inl (cI, 777924, .inl (tb [])))] sz 0 g) ((QcI dC dI (TY cI cJ cII cJJ) (-99999) []) (va_A [(a0, .inr (9, [.ref a5, .ref a6, .ref a1, .ref a2, .ref a7, .ref a8, .ref a9, .ref a10, .ref a11, .ref a12, .ref a13, .ref a14, .int 1, .int 0, .int 0, .ref a15, .ref a16, .ref a17, .ref a18, .ref a19, .ref a20, .int 0, .int 0, .ref a21, .ref a22, .ref a23, .ref a24, .int 0, .int 0, .ref a25, .ref a26, .ref a27, .ref a3, .int 0, .ref a4, .int 0])), (a1, .inl (cI, 4, .inl (tb [0, 0, 0, 0]))), (a2, .inl (cI, 4, .inl (tb [10, 10, 10, 10]))), (a3, .inl (cI, 4, .inl (tb []))), (a4, .inl (cI, 777924, .inl (tb [])))] sz)) 0 0 (va_A [(a0, .inr (9, [.ref a5, .ref a6, .ref a1, .ref a2, .ref a7, .ref a8, .ref a9, .ref a10, .ref a11, .ref a12, .ref a13, .ref a14, .int 1, .int 0, .int 0, .ref a15, .ref a16, .ref a17, .ref a18, .ref a19, .ref a20, .int 0, .int 0, .ref a21, .ref a22, .ref a23, .ref a24, .int 0, .int 0, .ref a25, .ref a26, .ref a27, .ref a3, .int 0, .ref a4, .int 0])), (a1, .inl (cI, 4, .inl (tb [0, 0, 0, 0]))), (a2, .inl (cI, 4, .inl (tb [10, 10, 10, 10]))), (a3, .inl (cI, 4, .inl (tb []))), (a4, .inl (cI, 777924, .inl (tb [])))] sz) := by
  refine SM.of (y := yX9_span) (maxL := 6) (av := [.ref a0, .int x0, .int x1]) (QcI dC dI (TY cI cJ cII cJJ) (-99999) []) (by decide +kernel) (Nat.le_of_ble_eq_true rfl) (fun p e s m below meth c A ls hx hb hr hml hown hts hk hnm hA hK hP hD hS hX hl => ?_)
  have hown : s.vm.findClass RX9 = some m.cls := hown
  have hl : lv_has ls 6 [(0, .ref a0), (1, .int x0), (2, .int x1)] := hl
  refine lv_aload_n hx hb dX9_span_0 rfl (lv_at hl 0 rfl) ?_
  refine kV_v (q0 := 0) ⟨hx, hb, hml, hown, hts⟩ hK hP hD hS hA hX cv_RX9_238 [0, 1, 2, 3, 4] [] (wr := []) rfl rfl rfl rfl (by decide) (c515_X9_gather l dC dI cI cJ cII cJJ s.heap.size 0 a0 a1 a2 a3 a4 a5 a6 a7 a8 a9 a10 a11 a12 a13 a14 a15 a16 a17 a18 a19 a20 a21 a22 a23 a24 a25 a26 a27) ⟨by decide +kernel, by decide +kernel⟩ rfl rfl (Or.inl rfl) (rest := []) rfl rfl rfl hl.1 rfl (Nat.le_of_ble_eq_true rfl) dX9_span_1 ⟨Nat.le_of_ble_eq_true rfl, Nat.le_of_ble_eq_true rfl⟩ (fun _ => rfl) (W' := [(a4, .inl (cI, 777924, .inl (tb [0, 0, 0, 0, 1, 0, 0, 0, 2, 0, 0, 0, 3, 0, 0, 0, 4, 0, 0, 0, 5, 0, 0, 0, 6, 0, 0, 0, 7, 0, 0, 0, 8, 0, 0, 0, 9, 0, 0, 0, 10]))), (a0, .inr (9, [.ref a5, .ref a6, .ref a1, .ref a2, .ref a7, .ref a8, .ref a9, .ref a10, .ref a11, .ref a12, .ref a13, .ref a14, .int 1, .int 0, .int 0, .ref a15, .ref a16, .ref a17, .ref a18, .ref a19, .ref a20, .int 0, .int 0, .ref a21, .ref a22, .ref a23, .ref a24, .int 0, .int 0, .ref a25, .ref a26, .ref a27, .ref a3, .int 1, .ref a4, .int 11])), (a1, .inl (cI, 4, .inl (tb [0, 0, 0, 0]))), (a3, .inl (cI, 4, .inl (tb [10]))), (a2, .inl (cI, 4, .inl (tb [10, 10, 10, 10])))]) rfl (fun H locs hP hD hS => ?_)
  refine lv_aload_n hx hb dX9_span_4 rfl (lv_at hl 0 rfl) ?_
  refine gf (k := 35) hx hb hts inX9 hown hK hP k_830 rfl (by decide) rfl 1 rfl (.int 11) rfl dX9_span_5 ?_
  refine f_if_eq hx hb dX9_span_8 30 (by decide) (by decide +kernel) ?_
  refine lv_iload_n hx hb dX9_span_11 rfl (lv_at hl 1 rfl) ?_
  refine lv_aload_n hx hb dX9_span_12 rfl (lv_at hl 0 rfl) ?_
  refine gf (k := 12) hx hb hts inX9 hown hK hP k_807 rfl (by decide) rfl 1 rfl (.int 1) rfl dX9_span_13 ?_
  refine kS_i ⟨hx, hb, hml, hown, hts⟩ hK hP hD hS hA hX cs_RX9_116 [] [0, 1, 2, 3, 4] (wr := [(a4, .inl (cI, 777924, .inl (tb [0, 0, 0, 0, 1, 0, 0, 0, 2, 0, 0, 0, 3, 0, 0, 0, 4, 0, 0, 0, 5, 0, 0, 0, 6, 0, 0, 0, 7, 0, 0, 0, 8, 0, 0, 0, 9, 0, 0, 0, 10]))), (a0, .inr (9, [.ref a5, .ref a6, .ref a1, .ref a2, .ref a7, .ref a8, .ref a9, .ref a10, .ref a11, .ref a12, .ref a13, .ref a14, .int 1, .int 0, .int 0, .ref a15, .ref a16, .ref a17, .ref a18, .ref a19, .ref a20, .int 0, .int 0, .ref a21, .ref a22, .ref a23, .ref a24, .int 0, .int 0, .ref a25, .ref a26, .ref a27, .ref a3, .int 1, .ref a4, .int 11])), (a1, .inl (cI, 4, .inl (tb [0, 0, 0, 0]))), (a3, .inl (cI, 4, .inl (tb [10]))), (a2, .inl (cI, 4, .inl (tb [10, 10, 10, 10])))]) rfl rfl rfl rfl (by decide) (c319_X9_isIn l dC dI cI cJ cII cJJ H.size 0 x0 h_x0) ⟨by decide +kernel, by decide +kernel⟩ rfl rfl (Or.inl rfl) (rest := []) rfl hl.1 rfl (Nat.le_of_ble_eq_true rfl) dX9_span_16 ⟨Nat.le_of_ble_eq_true rfl, Nat.le_of_ble_eq_true rfl⟩ (W' := [(a4, .inl (cI, 777924, .inl (tb [0, 0, 0, 0, 1, 0, 0, 0, 2, 0, 0, 0, 3, 0, 0, 0, 4, 0, 0, 0, 5, 0, 0, 0, 6, 0, 0, 0, 7, 0, 0, 0, 8, 0, 0, 0, 9, 0, 0, 0, 10]))), (a0, .inr (9, [.ref a5, .ref a6, .ref a1, .ref a2, .ref a7, .ref a8, .ref a9, .ref a10, .ref a11, .ref a12, .ref a13, .ref a14, .int 1, .int 0, .int 0, .ref a15, .ref a16, .ref a17, .ref a18, .ref a19, .ref a20, .int 0, .int 0, .ref a21, .ref a22, .ref a23, .ref a24, .int 0, .int 0, .ref a25, .ref a26, .ref a27, .ref a3, .int 1, .ref a4, .int 11])), (a1, .inl (cI, 4, .inl (tb [0, 0, 0, 0]))), (a3, .inl (cI, 4, .inl (tb [10]))), (a2, .inl (cI, 4, .inl (tb [10, 10, 10, 10])))]) rfl (fun H locs hP hD hS => ?_)
  refine t_if_eq hx hb dX9_span_19 30 (by decide) (by decide +kernel) ?_
  refine lv_ldc (v := (-99999)) hx hb hown (hts _ k_1014) dX9_span_30 ?_
  exact r_i hx hb hr hk hK (hP.sub [] rfl) (hD.sub [] rfl rfl) hS dX9_span_32
set_option maxRecDepth 100000 in
set_option maxHeartbeats 4000000 in
theorem c557_X9_span (l : Launch) (dC : Nat → ClassId) (dI : Nat → Nat → Nat) (cI cJ cII cJJ : ClassId) (sz g a0 a1 a2 a3 a4 a5 a6 a7 a8 a9 a10 a11 a12 a13 a14 a15 a16 a17 a18 a19 a20 a21 a22 a23 a24 a25 a26 a27 : Nat) (x0 : Int32) (h_x0 : 1 ≤ x0.toInt ∧ x0.toInt ≤ 2147483647) (x1 : Int32) (h_x1 : -2147483648 ≤ x1.toInt ∧ x1.toInt ≤ 2147483647) : Met l yX9_span (.code yX9_span cX9_span 6 (some .int) :: TT) ({ frames := 6, cells := 0, slots := 0, locals := 320 }) (PcS dC dI (TY cI cJ cII cJJ) [.ref a0, .int x0, .int x1] [(a0, .inr (9, [.ref a5, .ref a6, .ref a1, .ref a2, .ref a7, .ref a8, .ref a9, .ref a10, .ref a11, .ref a12, .ref a13, .ref a14, .int 1, .int 0, .int 0, .ref a15, .ref a16, .ref a17, .ref a18, .ref a19, .ref a20, .int 0, .int 0, .ref a21, .ref a22, .ref a23, .ref a24, .int 0, .int 0, .ref a25, .ref a26, .ref a27, .ref a3, .int 0, .ref a4, .int 0])), (a1, .inl (cI, 4, .inl (tb [0, 0, 0, 0]))), (a2, .inl (cI, 4, .inl (tb [10, 10, 10, 10]))), (a3, .inl (cI, 4, .inl (tb []))), (a4, .inl (cI, 777924, .inl (tb [])))] sz 0 g) ((QcI dC dI (TY cI cJ cII cJJ) (-99999) []) (va_A [(a0, .inr (9, [.ref a5, .ref a6, .ref a1, .ref a2, .ref a7, .ref a8, .ref a9, .ref a10, .ref a11, .ref a12, .ref a13, .ref a14, .int 1, .int 0, .int 0, .ref a15, .ref a16, .ref a17, .ref a18, .ref a19, .ref a20, .int 0, .int 0, .ref a21, .ref a22, .ref a23, .ref a24, .int 0, .int 0, .ref a25, .ref a26, .ref a27, .ref a3, .int 0, .ref a4, .int 0])), (a1, .inl (cI, 4, .inl (tb [0, 0, 0, 0]))), (a2, .inl (cI, 4, .inl (tb [10, 10, 10, 10]))), (a3, .inl (cI, 4, .inl (tb []))), (a4, .inl (cI, 777924, .inl (tb [])))] sz)) 0 0 (va_A [(a0, .inr (9, [.ref a5, .ref a6, .ref a1, .ref a2, .ref a7, .ref a8, .ref a9, .ref a10, .ref a11, .ref a12, .ref a13, .ref a14, .int 1, .int 0, .int 0, .ref a15, .ref a16, .ref a17, .ref a18, .ref a19, .ref a20, .int 0, .int 0, .ref a21, .ref a22, .ref a23, .ref a24, .int 0, .int 0, .ref a25, .ref a26, .ref a27, .ref a3, .int 0, .ref a4, .int 0])), (a1, .inl (cI, 4, .inl (tb [0, 0, 0, 0]))), (a2, .inl (cI, 4, .inl (tb [10, 10, 10, 10]))), (a3, .inl (cI, 4, .inl (tb []))), (a4, .inl (cI, 777924, .inl (tb [])))] sz) := by
  refine SM.of (y := yX9_span) (maxL := 6) (av := [.ref a0, .int x0, .int x1]) (QcI dC dI (TY cI cJ cII cJJ) (-99999) []) (by decide +kernel) (Nat.le_of_ble_eq_true rfl) (fun p e s m below meth c A ls hx hb hr hml hown hts hk hnm hA hK hP hD hS hX hl => ?_)
  have hown : s.vm.findClass RX9 = some m.cls := hown
  have hl : lv_has ls 6 [(0, .ref a0), (1, .int x0), (2, .int x1)] := hl
  refine lv_aload_n hx hb dX9_span_0 rfl (lv_at hl 0 rfl) ?_
  refine kV_v (q0 := 0) ⟨hx, hb, hml, hown, hts⟩ hK hP hD hS hA hX cv_RX9_238 [0, 1, 2, 3, 4] [] (wr := []) rfl rfl rfl rfl (by decide) (c515_X9_gather l dC dI cI cJ cII cJJ s.heap.size 0 a0 a1 a2 a3 a4 a5 a6 a7 a8 a9 a10 a11 a12 a13 a14 a15 a16 a17 a18 a19 a20 a21 a22 a23 a24 a25 a26 a27) ⟨by decide +kernel, by decide +kernel⟩ rfl rfl (Or.inl rfl) (rest := []) rfl rfl rfl hl.1 rfl (Nat.le_of_ble_eq_true rfl) dX9_span_1 ⟨Nat.le_of_ble_eq_true rfl, Nat.le_of_ble_eq_true rfl⟩ (fun _ => rfl) (W' := [(a4, .inl (cI, 777924, .inl (tb [0, 0, 0, 0, 1, 0, 0, 0, 2, 0, 0, 0, 3, 0, 0, 0, 4, 0, 0, 0, 5, 0, 0, 0, 6, 0, 0, 0, 7, 0, 0, 0, 8, 0, 0, 0, 9, 0, 0, 0, 10]))), (a0, .inr (9, [.ref a5, .ref a6, .ref a1, .ref a2, .ref a7, .ref a8, .ref a9, .ref a10, .ref a11, .ref a12, .ref a13, .ref a14, .int 1, .int 0, .int 0, .ref a15, .ref a16, .ref a17, .ref a18, .ref a19, .ref a20, .int 0, .int 0, .ref a21, .ref a22, .ref a23, .ref a24, .int 0, .int 0, .ref a25, .ref a26, .ref a27, .ref a3, .int 1, .ref a4, .int 11])), (a1, .inl (cI, 4, .inl (tb [0, 0, 0, 0]))), (a3, .inl (cI, 4, .inl (tb [10]))), (a2, .inl (cI, 4, .inl (tb [10, 10, 10, 10])))]) rfl (fun H locs hP hD hS => ?_)
  refine lv_aload_n hx hb dX9_span_4 rfl (lv_at hl 0 rfl) ?_
  refine gf (k := 35) hx hb hts inX9 hown hK hP k_830 rfl (by decide) rfl 1 rfl (.int 11) rfl dX9_span_5 ?_
  refine f_if_eq hx hb dX9_span_8 30 (by decide) (by decide +kernel) ?_
  refine lv_iload_n hx hb dX9_span_11 rfl (lv_at hl 1 rfl) ?_
  refine lv_aload_n hx hb dX9_span_12 rfl (lv_at hl 0 rfl) ?_
  refine gf (k := 12) hx hb hts inX9 hown hK hP k_807 rfl (by decide) rfl 1 rfl (.int 1) rfl dX9_span_13 ?_
  refine kS_i ⟨hx, hb, hml, hown, hts⟩ hK hP hD hS hA hX cs_RX9_116 [] [0, 1, 2, 3, 4] (wr := [(a4, .inl (cI, 777924, .inl (tb [0, 0, 0, 0, 1, 0, 0, 0, 2, 0, 0, 0, 3, 0, 0, 0, 4, 0, 0, 0, 5, 0, 0, 0, 6, 0, 0, 0, 7, 0, 0, 0, 8, 0, 0, 0, 9, 0, 0, 0, 10]))), (a0, .inr (9, [.ref a5, .ref a6, .ref a1, .ref a2, .ref a7, .ref a8, .ref a9, .ref a10, .ref a11, .ref a12, .ref a13, .ref a14, .int 1, .int 0, .int 0, .ref a15, .ref a16, .ref a17, .ref a18, .ref a19, .ref a20, .int 0, .int 0, .ref a21, .ref a22, .ref a23, .ref a24, .int 0, .int 0, .ref a25, .ref a26, .ref a27, .ref a3, .int 1, .ref a4, .int 11])), (a1, .inl (cI, 4, .inl (tb [0, 0, 0, 0]))), (a3, .inl (cI, 4, .inl (tb [10]))), (a2, .inl (cI, 4, .inl (tb [10, 10, 10, 10])))]) rfl rfl rfl rfl (by decide) (c321_X9_isIn l dC dI cI cJ cII cJJ H.size 0 x0 h_x0) ⟨by decide +kernel, by decide +kernel⟩ rfl rfl (Or.inl rfl) (rest := []) rfl hl.1 rfl (Nat.le_of_ble_eq_true rfl) dX9_span_16 ⟨Nat.le_of_ble_eq_true rfl, Nat.le_of_ble_eq_true rfl⟩ (W' := [(a4, .inl (cI, 777924, .inl (tb [0, 0, 0, 0, 1, 0, 0, 0, 2, 0, 0, 0, 3, 0, 0, 0, 4, 0, 0, 0, 5, 0, 0, 0, 6, 0, 0, 0, 7, 0, 0, 0, 8, 0, 0, 0, 9, 0, 0, 0, 10]))), (a0, .inr (9, [.ref a5, .ref a6, .ref a1, .ref a2, .ref a7, .ref a8, .ref a9, .ref a10, .ref a11, .ref a12, .ref a13, .ref a14, .int 1, .int 0, .int 0, .ref a15, .ref a16, .ref a17, .ref a18, .ref a19, .ref a20, .int 0, .int 0, .ref a21, .ref a22, .ref a23, .ref a24, .int 0, .int 0, .ref a25, .ref a26, .ref a27, .ref a3, .int 1, .ref a4, .int 11])), (a1, .inl (cI, 4, .inl (tb [0, 0, 0, 0]))), (a3, .inl (cI, 4, .inl (tb [10]))), (a2, .inl (cI, 4, .inl (tb [10, 10, 10, 10])))]) rfl (fun H locs hP hD hS => ?_)
  refine t_if_eq hx hb dX9_span_19 30 (by decide) (by decide +kernel) ?_
  refine lv_ldc (v := (-99999)) hx hb hown (hts _ k_1014) dX9_span_30 ?_
  exact r_i hx hb hr hk hK (hP.sub [] rfl) (hD.sub [] rfl rfl) hS dX9_span_32
set_option maxRecDepth 100000 in
set_option maxHeartbeats 4000000 in
theorem c558_X9_span (l : Launch) (dC : Nat → ClassId) (dI : Nat → Nat → Nat) (cI cJ cII cJJ : ClassId) (sz g a0 a1 a2 a3 a4 a5 a6 a7 a8 a9 a10 a11 a12 a13 a14 a15 a16 a17 a18 a19 a20 a21 a22 a23 a24 a25 a26 a27 : Nat) (x0 : Int32) (h_x0 : -2147483648 ≤ x0.toInt ∧ x0.toInt ≤ -1) : Met l yX9_span (.code yX9_span cX9_span 6 (some .int) :: TT) ({ frames := 6, cells := 0, slots := 0, locals := 320 }) (PcS dC dI (TY cI cJ cII cJJ) [.ref a0, .int 0, .int x0] [(a0, .inr (9, [.ref a5, .ref a6, .ref a1, .ref a2, .ref a7, .ref a8, .ref a9, .ref a10, .ref a11, .ref a12, .ref a13, .ref a14, .int 1, .int 0, .int 0, .ref a15, .ref a16, .ref a17, .ref a18, .ref a19, .ref a20, .int 0, .int 0, .ref a21, .ref a22, .ref a23, .ref a24, .int 0, .int 0, .ref a25, .ref a26, .ref a27, .ref a3, .int 0, .ref a4, .int 0])), (a1, .inl (cI, 4, .inl (tb [0, 0, 0, 0]))), (a2, .inl (cI, 4, .inl (tb [10, 10, 10, 10]))), (a3, .inl (cI, 4, .inl (tb []))), (a4, .inl (cI, 777924, .inl (tb [])))] sz 0 g) ((QcI dC dI (TY cI cJ cII cJJ) (-99999) []) (va_A [(a0, .inr (9, [.ref a5, .ref a6, .ref a1, .ref a2, .ref a7, .ref a8, .ref a9, .ref a10, .ref a11, .ref a12, .ref a13, .ref a14, .int 1, .int 0, .int 0, .ref a15, .ref a16, .ref a17, .ref a18, .ref a19, .ref a20, .int 0, .int 0, .ref a21, .ref a22, .ref a23, .ref a24, .int 0, .int 0, .ref a25, .ref a26, .ref a27, .ref a3, .int 0, .ref a4, .int 0])), (a1, .inl (cI, 4, .inl (tb [0, 0, 0, 0]))), (a2, .inl (cI, 4, .inl (tb [10, 10, 10, 10]))), (a3, .inl (cI, 4, .inl (tb []))), (a4, .inl (cI, 777924, .inl (tb [])))] sz)) 0 0 (va_A [(a0, .inr (9, [.ref a5, .ref a6, .ref a1, .ref a2, .ref a7, .ref a8, .ref a9, .ref a10, .ref a11, .ref a12, .ref a13, .ref a14, .int 1, .int 0, .int 0, .ref a15, .ref a16, .ref a17, .ref a18, .ref a19, .ref a20, .int 0, .int 0, .ref a21, .ref a22, .ref a23, .ref a24, .int 0, .int 0, .ref a25, .ref a26, .ref a27, .ref a3, .int 0, .ref a4, .int 0])), (a1, .inl (cI, 4, .inl (tb [0, 0, 0, 0]))), (a2, .inl (cI, 4, .inl (tb [10, 10, 10, 10]))), (a3, .inl (cI, 4, .inl (tb []))), (a4, .inl (cI, 777924, .inl (tb [])))] sz) := by
  refine SM.of (y := yX9_span) (maxL := 6) (av := [.ref a0, .int 0, .int x0]) (QcI dC dI (TY cI cJ cII cJJ) (-99999) []) (by decide +kernel) (Nat.le_of_ble_eq_true rfl) (fun p e s m below meth c A ls hx hb hr hml hown hts hk hnm hA hK hP hD hS hX hl => ?_)
  have hown : s.vm.findClass RX9 = some m.cls := hown
  have hl : lv_has ls 6 [(0, .ref a0), (1, .int 0), (2, .int x0)] := hl
  refine lv_aload_n hx hb dX9_span_0 rfl (lv_at hl 0 rfl) ?_
  refine kV_v (q0 := 0) ⟨hx, hb, hml, hown, hts⟩ hK hP hD hS hA hX cv_RX9_238 [0, 1, 2, 3, 4] [] (wr := []) rfl rfl rfl rfl (by decide) (c515_X9_gather l dC dI cI cJ cII cJJ s.heap.size 0 a0 a1 a2 a3 a4 a5 a6 a7 a8 a9 a10 a11 a12 a13 a14 a15 a16 a17 a18 a19 a20 a21 a22 a23 a24 a25 a26 a27) ⟨by decide +kernel, by decide +kernel⟩ rfl rfl (Or.inl rfl) (rest := []) rfl rfl rfl hl.1 rfl (Nat.le_of_ble_eq_true rfl) dX9_span_1 ⟨Nat.le_of_ble_eq_true rfl, Nat.le_of_ble_eq_true rfl⟩ (fun _ => rfl) (W' := [(a4, .inl (cI, 777924, .inl (tb [0, 0, 0, 0, 1, 0, 0, 0, 2, 0, 0, 0, 3, 0, 0, 0, 4, 0, 0, 0, 5, 0, 0, 0, 6, 0, 0, 0, 7, 0, 0, 0, 8, 0, 0, 0, 9, 0, 0, 0, 10]))), (a0, .inr (9, [.ref a5, .ref a6, .ref a1, .ref a2, .ref a7, .ref a8, .ref a9, .ref a10, .ref a11, .ref a12, .ref a13, .ref a14, .int 1, .int 0, .int 0, .ref a15, .ref a16, .ref a17, .ref a18, .ref a19, .ref a20, .int 0, .int 0, .ref a21, .ref a22, .ref a23, .ref a24, .int 0, .int 0, .ref a25, .ref a26, .ref a27, .ref a3, .int 1, .ref a4, .int 11])), (a1, .inl (cI, 4, .inl (tb [0, 0, 0, 0]))), (a3, .inl (cI, 4, .inl (tb [10]))), (a2, .inl (cI, 4, .inl (tb [10, 10, 10, 10])))]) rfl (fun H locs hP hD hS => ?_)
  refine lv_aload_n hx hb dX9_span_4 rfl (lv_at hl 0 rfl) ?_
  refine gf (k := 35) hx hb hts inX9 hown hK hP k_830 rfl (by decide) rfl 1 rfl (.int 11) rfl dX9_span_5 ?_
  refine f_if_eq hx hb dX9_span_8 30 (by decide) (by decide +kernel) ?_
  refine lv_iload_n hx hb dX9_span_11 rfl (lv_at hl 1 rfl) ?_
  refine lv_aload_n hx hb dX9_span_12 rfl (lv_at hl 0 rfl) ?_
  refine gf (k := 12) hx hb hts inX9 hown hK hP k_807 rfl (by decide) rfl 1 rfl (.int 1) rfl dX9_span_13 ?_
  refine kS_i ⟨hx, hb, hml, hown, hts⟩ hK hP hD hS hA hX cs_RX9_116 [] [0, 1, 2, 3, 4] (wr := [(a4, .inl (cI, 777924, .inl (tb [0, 0, 0, 0, 1, 0, 0, 0, 2, 0, 0, 0, 3, 0, 0, 0, 4, 0, 0, 0, 5, 0, 0, 0, 6, 0, 0, 0, 7, 0, 0, 0, 8, 0, 0, 0, 9, 0, 0, 0, 10]))), (a0, .inr (9, [.ref a5, .ref a6, .ref a1, .ref a2, .ref a7, .ref a8, .ref a9, .ref a10, .ref a11, .ref a12, .ref a13, .ref a14, .int 1, .int 0, .int 0, .ref a15, .ref a16, .ref a17, .ref a18, .ref a19, .ref a20, .int 0, .int 0, .ref a21, .ref a22, .ref a23, .ref a24, .int 0, .int 0, .ref a25, .ref a26, .ref a27, .ref a3, .int 1, .ref a4, .int 11])), (a1, .inl (cI, 4, .inl (tb [0, 0, 0, 0]))), (a3, .inl (cI, 4, .inl (tb [10]))), (a2, .inl (cI, 4, .inl (tb [10, 10, 10, 10])))]) rfl rfl rfl rfl (by decide) (c323_X9_isIn l dC dI cI cJ cII cJJ H.size 0) ⟨by decide +kernel, by decide +kernel⟩ rfl rfl (Or.inl rfl) (rest := []) rfl hl.1 rfl (Nat.le_of_ble_eq_true rfl) dX9_span_16 ⟨Nat.le_of_ble_eq_true rfl, Nat.le_of_ble_eq_true rfl⟩ (W' := [(a4, .inl (cI, 777924, .inl (tb [0, 0, 0, 0, 1, 0, 0, 0, 2, 0, 0, 0, 3, 0, 0, 0, 4, 0, 0, 0, 5, 0, 0, 0, 6, 0, 0, 0, 7, 0, 0, 0, 8, 0, 0, 0, 9, 0, 0, 0, 10]))), (a0, .inr (9, [.ref a5, .ref a6, .ref a1, .ref a2, .ref a7, .ref a8, .ref a9, .ref a10, .ref a11, .ref a12, .ref a13, .ref a14, .int 1, .int 0, .int 0, .ref a15, .ref a16, .ref a17, .ref a18, .ref a19, .ref a20, .int 0, .int 0, .ref a21, .ref a22, .ref a23, .ref a24, .int 0, .int 0, .ref a25, .ref a26, .ref a27, .ref a3, .int 1, .ref a4, .int 11])), (a1, .inl (cI, 4, .inl (tb [0, 0, 0, 0]))), (a3, .inl (cI, 4, .inl (tb [10]))), (a2, .inl (cI, 4, .inl (tb [10, 10, 10, 10])))]) rfl (fun H locs hP hD hS => ?_)
  refine f_if_eq hx hb dX9_span_19 30 (by decide) (by decide +kernel) ?_
  refine lv_iload_n hx hb dX9_span_22 rfl (lv_at hl 2 rfl) ?_
  refine lv_iconst (v := 2) hx hb dX9_span_23 (by decide) ?_
  refine kS_i ⟨hx, hb, hml, hown, hts⟩ hK hP hD hS hA hX cs_RX9_116 [] [0, 1, 2, 3, 4] (wr := [(a4, .inl (cI, 777924, .inl (tb [0, 0, 0, 0, 1, 0, 0, 0, 2, 0, 0, 0, 3, 0, 0, 0, 4, 0, 0, 0, 5, 0, 0, 0, 6, 0, 0, 0, 7, 0, 0, 0, 8, 0, 0, 0, 9, 0, 0, 0, 10]))), (a0, .inr (9, [.ref a5, .ref a6, .ref a1, .ref a2, .ref a7, .ref a8, .ref a9, .ref a10, .ref a11, .ref a12, .ref a13, .ref a14, .int 1, .int 0, .int 0, .ref a15, .ref a16, .ref a17, .ref a18, .ref a19, .ref a20, .int 0, .int 0, .ref a21, .ref a22, .ref a23, .ref a24, .int 0, .int 0, .ref a25, .ref a26, .ref a27, .ref a3, .int 1, .ref a4, .int 11])), (a1, .inl (cI, 4, .inl (tb [0, 0, 0, 0]))), (a3, .inl (cI, 4, .inl (tb [10]))), (a2, .inl (cI, 4, .inl (tb [10, 10, 10, 10])))]) rfl rfl rfl rfl (by decide) (c393_X9_isIn l dC dI cI cJ cII cJJ H.size 0 x0 h_x0) ⟨by decide +kernel, by decide +kernel⟩ rfl rfl (Or.inl rfl) (rest := []) rfl hl.1 rfl (Nat.le_of_ble_eq_true rfl) dX9_span_24 ⟨Nat.le_of_ble_eq_true rfl, Nat.le_of_ble_eq_true rfl⟩ (W' := [(a4, .inl (cI, 777924, .inl (tb [0, 0, 0, 0, 1, 0, 0, 0, 2, 0, 0, 0, 3, 0, 0, 0, 4, 0, 0, 0, 5, 0, 0, 0, 6, 0, 0, 0, 7, 0, 0, 0, 8, 0, 0, 0, 9, 0, 0, 0, 10]))), (a0, .inr (9, [.ref a5, .ref a6, .ref a1, .ref a2, .ref a7, .ref a8, .ref a9, .ref a10, .ref a11, .ref a12, .ref a13, .ref a14, .int 1, .int 0, .int 0, .ref a15, .ref a16, .ref a17, .ref a18, .ref a19, .ref a20, .int 0, .int 0, .ref a21, .ref a22, .ref a23, .ref a24, .int 0, .int 0, .ref a25, .ref a26, .ref a27, .ref a3, .int 1, .ref a4, .int 11])), (a1, .inl (cI, 4, .inl (tb [0, 0, 0, 0]))), (a3, .inl (cI, 4, .inl (tb [10]))), (a2, .inl (cI, 4, .inl (tb [10, 10, 10, 10])))]) rfl (fun H locs hP hD hS => ?_)
  refine f_if_ne hx hb dX9_span_27 33 (by decide) (by decide +kernel) ?_
  refine lv_ldc (v := (-99999)) hx hb hown (hts _ k_1014) dX9_span_30 ?_
  exact r_i hx hb hr hk hK (hP.sub [] rfl) (hD.sub [] rfl rfl) hS dX9_span_32
set_option maxRecDepth 100000 in
set_option maxHeartbeats 4000000 in
theorem c559_X9_span (l : Launch) (dC : Nat → ClassId) (dI : Nat → Nat → Nat) (cI cJ cII cJJ : ClassId) (sz g a0 a1 a2 a3 a4 a5 a6 a7 a8 a9 a10 a11 a12 a13 a14 a15 a16 a17 a18 a19 a20 a21 a22 a23 a24 a25 a26 a27 : Nat) (x0 : Int32) (h_x0 : 2 ≤ x0.toInt ∧ x0.toInt ≤ 2147483647) : Met l yX9_span (.code yX9_span cX9_span 6 (some .int) :: TT) ({ frames := 6, cells := 0, slots := 0, locals := 320 }) (PcS dC dI (TY cI cJ cII cJJ) [.ref a0, .int 0, .int x0] [(a0, .inr (9, [.ref a5, .ref a6, .ref a1, .ref a2, .ref a7, .ref a8, .ref a9, .ref a10, .ref a11, .ref a12, .ref a13, .ref a14, .int 1, .int 0, .int 0, .ref a15, .ref a16, .ref a17, .ref a18, .ref a19, .ref a20, .int 0, .int 0, .ref a21, .ref a22, .ref a23, .ref a24, .int 0, .int 0, .ref a25, .ref a26, .ref a27, .ref a3, .int 0, .ref a4, .int 0])), (a1, .inl (cI, 4, .inl (tb [0, 0, 0, 0]))), (a2, .inl (cI, 4, .inl (tb [10, 10, 10, 10]))), (a3, .inl (cI, 4, .inl (tb []))), (a4, .inl (cI, 777924, .inl (tb [])))] sz 0 g) ((QcI dC dI (TY cI cJ cII cJJ) (-99999) []) (va_A [(a0, .inr (9, [.ref a5, .ref a6, .ref a1, .ref a2, .ref a7, .ref a8, .ref a9, .ref a10, .ref a11, .ref a12, .ref a13, .ref a14, .int 1, .int 0, .int 0, .ref a15, .ref a16, .ref a17, .ref a18, .ref a19, .ref a20, .int 0, .int 0, .ref a21, .ref a22, .ref a23, .ref a24, .int 0, .int 0, .ref a25, .ref a26, .ref a27, .ref a3, .int 0, .ref a4, .int 0])), (a1, .inl (cI, 4, .inl (tb [0, 0, 0, 0]))), (a2, .inl (cI, 4, .inl (tb [10, 10, 10, 10]))), (a3, .inl (cI, 4, .inl (tb []))), (a4, .inl (cI, 777924, .inl (tb [])))] sz)) 0 0 (va_A [(a0, .inr (9, [.ref a5, .ref a6, .ref a1, .ref a2, .ref a7, .ref a8, .ref a9, .ref a10, .ref a11, .ref a12, .ref a13, .ref a14, .int 1, .int 0, .int 0, .ref a15, .ref a16, .ref a17, .ref a18, .ref a19, .ref a20, .int 0, .int 0, .ref a21, .ref a22, .ref a23, .ref a24, .int 0, .int 0, .ref a25, .ref a26, .ref a27, .ref a3, .int 0, .ref a4, .int 0])), (a1, .inl (cI, 4, .inl (tb [0, 0, 0, 0]))), (a2, .inl (cI, 4, .inl (tb [10, 10, 10, 10]))), (a3, .inl (cI, 4, .inl (tb []))), (a4, .inl (cI, 777924, .inl (tb [])))] sz) := by
  refine SM.of (y := yX9_span) (maxL := 6) (av := [.ref a0, .int 0, .int x0]) (QcI dC dI (TY cI cJ cII cJJ) (-99999) []) (by decide +kernel) (Nat.le_of_ble_eq_true rfl) (fun p e s m below meth c A ls hx hb hr hml hown hts hk hnm hA hK hP hD hS hX hl => ?_)
  have hown : s.vm.findClass RX9 = some m.cls := hown
  have hl : lv_has ls 6 [(0, .ref a0), (1, .int 0), (2, .int x0)] := hl
  refine lv_aload_n hx hb dX9_span_0 rfl (lv_at hl 0 rfl) ?_
  refine kV_v (q0 := 0) ⟨hx, hb, hml, hown, hts⟩ hK hP hD hS hA hX cv_RX9_238 [0, 1, 2, 3, 4] [] (wr := []) rfl rfl rfl rfl (by decide) (c515_X9_gather l dC dI cI cJ cII cJJ s.heap.size 0 a0 a1 a2 a3 a4 a5 a6 a7 a8 a9 a10 a11 a12 a13 a14 a15 a16 a17 a18 a19 a20 a21 a22 a23 a24 a25 a26 a27) ⟨by decide +kernel, by decide +kernel⟩ rfl rfl (Or.inl rfl) (rest := []) rfl rfl rfl hl.1 rfl (Nat.le_of_ble_eq_true rfl) dX9_span_1 ⟨Nat.le_of_ble_eq_true rfl, Nat.le_of_ble_eq_true rfl⟩ (fun _ => rfl) (W' := [(a4, .inl (cI, 777924, .inl (tb [0, 0, 0, 0, 1, 0, 0, 0, 2, 0, 0, 0, 3, 0, 0, 0, 4, 0, 0, 0, 5, 0, 0, 0, 6, 0, 0, 0, 7, 0, 0, 0, 8, 0, 0, 0, 9, 0, 0, 0, 10]))), (a0, .inr (9, [.ref a5, .ref a6, .ref a1, .ref a2, .ref a7, .ref a8, .ref a9, .ref a10, .ref a11, .ref a12, .ref a13, .ref a14, .int 1, .int 0, .int 0, .ref a15, .ref a16, .ref a17, .ref a18, .ref a19, .ref a20, .int 0, .int 0, .ref a21, .ref a22, .ref a23, .ref a24, .int 0, .int 0, .ref a25, .ref a26, .ref a27, .ref a3, .int 1, .ref a4, .int 11])), (a1, .inl (cI, 4, .inl (tb [0, 0, 0, 0]))), (a3, .inl (cI, 4, .inl (tb [10]))), (a2, .inl (cI, 4, .inl (tb [10, 10, 10, 10])))]) rfl (fun H locs hP hD hS => ?_)
  refine lv_aload_n hx hb dX9_span_4 rfl (lv_at hl 0 rfl) ?_
  refine gf (k := 35) hx hb hts inX9 hown hK hP k_830 rfl (by decide) rfl 1 rfl (.int 11) rfl dX9_span_5 ?_
  refine f_if_eq hx hb dX9_span_8 30 (by decide) (by decide +kernel) ?_
  refine lv_iload_n hx hb dX9_span_11 rfl (lv_at hl 1 rfl) ?_
  refine lv_aload_n hx hb dX9_span_12 rfl (lv_at hl 0 rfl) ?_
  refine gf (k := 12) hx hb hts inX9 hown hK hP k_807 rfl (by decide) rfl 1 rfl (.int 1) rfl dX9_span_13 ?_
  refine kS_i ⟨hx, hb, hml, hown, hts⟩ hK hP hD hS hA hX cs_RX9_116 [] [0, 1, 2, 3, 4] (wr := [(a4, .inl (cI, 777924, .inl (tb [0, 0, 0, 0, 1, 0, 0, 0, 2, 0, 0, 0, 3, 0, 0, 0, 4, 0, 0, 0, 5, 0, 0, 0, 6, 0, 0, 0, 7, 0, 0, 0, 8, 0, 0, 0, 9, 0, 0, 0, 10]))), (a0, .inr (9, [.ref a5, .ref a6, .ref a1, .ref a2, .ref a7, .ref a8, .ref a9, .ref a10, .ref a11, .ref a12, .ref a13, .ref a14, .int 1, .int 0, .int 0, .ref a15, .ref a16, .ref a17, .ref a18, .ref a19, .ref a20, .int 0, .int 0, .ref a21, .ref a22, .ref a23, .ref a24, .int 0, .int 0, .ref a25, .ref a26, .ref a27, .ref a3, .int 1, .ref a4, .int 11])), (a1, .inl (cI, 4, .inl (tb [0, 0, 0, 0]))), (a3, .inl (cI, 4, .inl (tb [10]))), (a2, .inl (cI, 4, .inl (tb [10, 10, 10, 10])))]) rfl rfl rfl rfl (by decide) (c323_X9_isIn l dC dI cI cJ cII cJJ H.size 0) ⟨by decide +kernel, by decide +kernel⟩ rfl rfl (Or.inl rfl) (rest := []) rfl hl.1 rfl (Nat.le_of_ble_eq_true rfl) dX9_span_16 ⟨Nat.le_of_ble_eq_true rfl, Nat.le_of_ble_eq_true rfl⟩ (W' := [(a4, .inl (cI, 777924, .inl (tb [0, 0, 0, 0, 1, 0, 0, 0, 2, 0, 0, 0, 3, 0, 0, 0, 4, 0, 0, 0, 5, 0, 0, 0, 6, 0, 0, 0, 7, 0, 0, 0, 8, 0, 0, 0, 9, 0, 0, 0, 10]))), (a0, .inr (9, [.ref a5, .ref a6, .ref a1, .ref a2, .ref a7, .ref a8, .ref a9, .ref a10, .ref a11, .ref a12, .ref a13, .ref a14, .int 1, .int 0, .int 0, .ref a15, .ref a16, .ref a17, .ref a18, .ref a19, .ref a20, .int 0, .int 0, .ref a21, .ref a22, .ref a23, .ref a24, .int 0, .int 0, .ref a25, .ref a26, .ref a27, .ref a3, .int 1, .ref a4, .int 11])), (a1, .inl (cI, 4, .inl (tb [0, 0, 0, 0]))), (a3, .inl (cI, 4, .inl (tb [10]))), (a2, .inl (cI, 4, .inl (tb [10, 10, 10, 10])))]) rfl (fun H locs hP hD hS => ?_)
  refine f_if_eq hx hb dX9_span_19 30 (by decide) (by decide +kernel) ?_
  refine lv_iload_n hx hb dX9_span_22 rfl (lv_at hl 2 rfl) ?_
  refine lv_iconst (v := 2) hx hb dX9_span_23 (by decide) ?_
  refine kS_i ⟨hx, hb, hml, hown, hts⟩ hK hP hD hS hA hX cs_RX9_116 [] [0, 1, 2, 3, 4] (wr := [(a4, .inl (cI, 777924, .inl (tb [0, 0, 0, 0, 1, 0, 0, 0, 2, 0, 0, 0, 3, 0, 0, 0, 4, 0, 0, 0, 5, 0, 0, 0, 6, 0, 0, 0, 7, 0, 0, 0, 8, 0, 0, 0, 9, 0, 0, 0, 10]))), (a0, .inr (9, [.ref a5, .ref a6, .ref a1, .ref a2, .ref a7, .ref a8, .ref a9, .ref a10, .ref a11, .ref a12, .ref a13, .ref a14, .int 1, .int 0, .int 0, .ref a15, .ref a16, .ref a17, .ref a18, .ref a19, .ref a20, .int 0, .int 0, .ref a21, .ref a22, .ref a23, .ref a24, .int 0, .int 0, .ref a25, .ref a26, .ref a27, .ref a3, .int 1, .ref a4, .int 11])), (a1, .inl (cI, 4, .inl (tb [0, 0, 0, 0]))), (a3, .inl (cI, 4, .inl (tb [10]))), (a2, .inl (cI, 4, .inl (tb [10, 10, 10, 10])))]) rfl rfl rfl rfl (by decide) (c395_X9_isIn l dC dI cI cJ cII cJJ H.size 0 x0 h_x0) ⟨by decide +kernel, by decide +kernel⟩ rfl rfl (Or.inl rfl) (rest := []) rfl hl.1 rfl (Nat.le_of_ble_eq_true rfl) dX9_span_24 ⟨Nat.le_of_ble_eq_true rfl, Nat.le_of_ble_eq_true rfl⟩ (W' := [(a4, .inl (cI, 777924, .inl (tb [0, 0, 0, 0, 1, 0, 0, 0, 2, 0, 0, 0, 3, 0, 0, 0, 4, 0, 0, 0, 5, 0, 0, 0, 6, 0, 0, 0, 7, 0, 0, 0, 8, 0, 0, 0, 9, 0, 0, 0, 10]))), (a0, .inr (9, [.ref a5, .ref a6, .ref a1, .ref a2, .ref a7, .ref a8, .ref a9, .ref a10, .ref a11, .ref a12, .ref a13, .ref a14, .int 1, .int 0, .int 0, .ref a15, .ref a16, .ref a17, .ref a18, .ref a19, .ref a20, .int 0, .int 0, .ref a21, .ref a22, .ref a23, .ref a24, .int 0, .int 0, .ref a25, .ref a26, .ref a27, .ref a3, .int 1, .ref a4, .int 11])), (a1, .inl (cI, 4, .inl (tb [0, 0, 0, 0]))), (a3, .inl (cI, 4, .inl (tb [10]))), (a2, .inl (cI, 4, .inl (tb [10, 10, 10, 10])))]) rfl (fun H locs hP hD hS => ?_)
  refine f_if_ne hx hb dX9_span_27 33 (by decide) (by decide +kernel) ?_
  refine lv_ldc (v := (-99999)) hx hb hown (hts _ k_1014) dX9_span_30 ?_
  exact r_i hx hb hr hk hK (hP.sub [] rfl) (hD.sub [] rfl rfl) hS dX9_span_32
set_option maxRecDepth 100000 in
set_option maxHeartbeats 4000000 in
theorem c560_X9_span_s2 (l : Launch) (dC : Nat → ClassId) (dI : Nat → Nat → Nat) (cI cJ cII cJJ : ClassId) (g a0 a1 a2 a3 a4 a5 a6 a7 a8 a9 a10 a11 a12 a13 a14 a15 a16 a17 a18 a19 a20 a21 a22 a23 a24 a25 a26 a27 : Nat) {p : Program} {e : Env} {s : State} {m : MethodId} {below : List Frame} {meth : Method} {c : Code} {A : Nat → Prop} {ls : Array Slot} {H : Heap} {locs : List Loc} (hx : p.tables.exec = Jvm.exec) (hb : c.code = cX9_span) (hr : meth.sig.returnType = (some .int)) (hml : c.maxLocals = 6) (hown : s.vm.findClass RX9 = some m.cls) (hts : ∀ w ∈ TT, w.before ([.ref a0, .int 0, .int 0] : List Value).toArray s = true) (hk : meth.locks = false) (hA : ∀ q, s.heap.size ≤ q → A q) (hK : va_K (dC, dI) vwCl (TY cI cJ cII cJJ) s) (hP : va_P (dC, dI) vwCl [(a4, .inl (cI, 777924, .inl (tb [0, 0, 0, 0, 1, 0, 0, 0, 2, 0, 0, 0, 3, 0, 0, 0, 4, 0, 0, 0, 5, 0, 0, 0, 6, 0, 0, 0, 7, 0, 0, 0, 8, 0, 0, 0, 9, 0, 0, 0, 10]))), (a0, .inr (9, [.ref a5, .ref a6, .ref a1, .ref a2, .ref a7, .ref a8, .ref a9, .ref a10, .ref a11, .ref a12, .ref a13, .ref a14, .int 1, .int 0, .int 0, .ref a15, .ref a16, .ref a17, .ref a18, .ref a19, .ref a20, .int 0, .int 0, .ref a21, .ref a22, .ref a23, .ref a24, .int 0, .int 0, .ref a25, .ref a26, .ref a27, .ref a3, .int 1, .ref a4, .int 11])), (a1, .inl (cI, 4, .inl (tb [0, 0, 0, 0]))), (a3, .inl (cI, 4, .inl (tb [10]))), (a2, .inl (cI, 4, .inl (tb [10, 10, 10, 10])))] H) (hD : va_D A [(a4, .inl (cI, 777924, .inl (tb [0, 0, 0, 0, 1, 0, 0, 0, 2, 0, 0, 0, 3, 0, 0, 0, 4, 0, 0, 0, 5, 0, 0, 0, 6, 0, 0, 0, 7, 0, 0, 0, 8, 0, 0, 0, 9, 0, 0, 0, 10]))), (a0, .inr (9, [.ref a5, .ref a6, .ref a1, .ref a2, .ref a7, .ref a8, .ref a9, .ref a10, .ref a11, .ref a12, .ref a13, .ref a14, .int 1, .int 0, .int 0, .ref a15, .ref a16, .ref a17, .ref a18, .ref a19, .ref a20, .int 0, .int 0, .ref a21, .ref a22, .ref a23, .ref a24, .int 0, .int 0, .ref a25, .ref a26, .ref a27, .ref a3, .int 1, .ref a4, .int 11])), (a1, .inl (cI, 4, .inl (tb [0, 0, 0, 0]))), (a3, .inl (cI, 4, .inl (tb [10]))), (a2, .inl (cI, 4, .inl (tb [10, 10, 10, 10])))]) (hS : va_S A s.heap H locs) (hX : GXA 0 g A s) (hl : lv_has ls 6 [(5, .int 9), (4, .int 9), (3, .int 0), (0, .ref a0), (1, .int 0), (2, .int 0)]) : W p l e ({ frames := 6, cells := 0, slots := 0, locals := 320 } : Room) s m ([.ref a0, .int 0, .int 0] : List Value).toArray below meth c H locs 0 0 (MQ below ((QcI dC dI (TY cI cJ cII cJJ) 0 []) A) ([.ref a0, .int 0, .int 0] : List Value).toArray s 0 0 A) (F0 m 69 ls []) := by
  refine lv_iload hx hb dX9_span_69 (lv_at hl 0 rfl) ?_
  refine lv_iload_n hx hb dX9_span_71 rfl (lv_at hl 2 rfl) ?_
  refine t_icmp_ge hx hb dX9_span_72 80 (by decide) (by decide +kernel) ?_
  refine lv_iload_n hx hb dX9_span_80 rfl (lv_at hl 2 rfl) ?_
  refine lv_goto (tgt := 96) hx hb dX9_span_81 (by decide) ?_
  refine lv_istore_n (lv' := [(3, .int 0), (5, .int 9), (4, .int 9), (0, .ref a0), (1, .int 0), (2, .int 0)]) hx hb dX9_span_96 rfl hl (by decide) rfl (fun ls hl => ?_)
  refine lv_iinc (v := 10) (lv' := [(4, .int 10), (3, .int 0), (5, .int 9), (0, .ref a0), (1, .int 0), (2, .int 0)]) hx hb dX9_span_97 hl (k := 2) rfl (by decide +kernel) (by decide) rfl (fun ls hl => ?_)
  refine lv_goto (tgt := 43) hx hb dX9_span_100 (by decide) ?_
  refine lv_iload hx hb dX9_span_43 (lv_at hl 0 rfl) ?_
  refine lv_aload_n hx hb dX9_span_45 rfl (lv_at hl 3 rfl) ?_
  refine gf (k := 35) hx hb hts inX9 hown hK hP k_830 rfl (by decide) rfl 1 rfl (.int 11) rfl dX9_span_46 ?_
  refine f_icmp_ge hx hb dX9_span_49 103 (by decide) (by decide +kernel) ?_
  refine lv_aload_n hx hb dX9_span_52 rfl (lv_at hl 3 rfl) ?_
  refine gf (k := 34) hx hb hts inX9 hown hK hP k_829 rfl (by decide) rfl 1 rfl (.ref a4) rfl dX9_span_53 ?_
  refine lv_iconst (v := 4) hx hb dX9_span_56 (by decide) ?_
  refine lv_iload hx hb dX9_span_57 (lv_at hl 0 rfl) ?_
  refine v_imul hx hb dX9_span_59 40 (by decide +kernel) ?_
  refine lv_iload_n hx hb dX9_span_60 rfl (lv_at hl 4 rfl) ?_
  refine v_iadd hx hb dX9_span_61 40 (by decide +kernel) ?_
  refine ld_i hx hb hK hP 0 rfl (vin (by decide +kernel)) dX9_span_62 10 rfl ?_
  refine lv_istore (lv' := [(5, .int 10), (4, .int 10), (3, .int 0), (0, .ref a0), (1, .int 0), (2, .int 0)]) hx hb dX9_span_63 hl (by decide) rfl (fun ls hl => ?_)
  refine lv_iload_n hx hb dX9_span_65 rfl (lv_at hl 5 rfl) ?_
  refine f_if_ne hx hb dX9_span_66 84 (by decide) (by decide +kernel) ?_
  refine lv_iload hx hb dX9_span_69 (lv_at hl 0 rfl) ?_
  refine lv_iload_n hx hb dX9_span_71 rfl (lv_at hl 2 rfl) ?_
  refine t_icmp_ge hx hb dX9_span_72 80 (by decide) (by decide +kernel) ?_
  refine lv_iload_n hx hb dX9_span_80 rfl (lv_at hl 2 rfl) ?_
  refine lv_goto (tgt := 96) hx hb dX9_span_81 (by decide) ?_
  refine lv_istore_n (lv' := [(3, .int 0), (5, .int 10), (4, .int 10), (0, .ref a0), (1, .int 0), (2, .int 0)]) hx hb dX9_span_96 rfl hl (by decide) rfl (fun ls hl => ?_)
  refine lv_iinc (v := 11) (lv' := [(4, .int 11), (3, .int 0), (5, .int 10), (0, .ref a0), (1, .int 0), (2, .int 0)]) hx hb dX9_span_97 hl (k := 2) rfl (by decide +kernel) (by decide) rfl (fun ls hl => ?_)
  refine lv_goto (tgt := 43) hx hb dX9_span_100 (by decide) ?_
  refine lv_iload hx hb dX9_span_43 (lv_at hl 0 rfl) ?_
  refine lv_aload_n hx hb dX9_span_45 rfl (lv_at hl 3 rfl) ?_
  refine gf (k := 35) hx hb hts inX9 hown hK hP k_830 rfl (by decide) rfl 1 rfl (.int 11) rfl dX9_span_46 ?_
  refine t_icmp_ge hx hb dX9_span_49 103 (by decide) (by decide +kernel) ?_
  refine lv_iload_n hx hb dX9_span_103 rfl (lv_at hl 1 rfl) ?_
  exact r_i hx hb hr hk hK (hP.sub [] rfl) (hD.sub [] rfl rfl) hS dX9_span_104
set_option maxRecDepth 100000 in
set_option maxHeartbeats 4000000 in
theorem c560_X9_span_s1 (l : Launch) (dC : Nat → ClassId) (dI : Nat → Nat → Nat) (cI cJ cII cJJ : ClassId) (g a0 a1 a2 a3 a4 a5 a6 a7 a8 a9 a10 a11 a12 a13 a14 a15 a16 a17 a18 a19 a20 a21 a22 a23 a24 a25 a26 a27 : Nat) {p : Program} {e : Env} {s : State} {m : MethodId} {below : List Frame} {meth : Method} {c : Code} {A : Nat → Prop} {ls : Array Slot} {H : Heap} {locs : List Loc} (hx : p.tables.exec = Jvm.exec) (hb : c.code = cX9_span) (hr : meth.sig.returnType = (some .int)) (hml : c.maxLocals = 6) (hown : s.vm.findClass RX9 = some m.cls) (hts : ∀ w ∈ TT, w.before ([.ref a0, .int 0, .int 0] : List Value).toArray s = true) (hk : meth.locks = false) (hA : ∀ q, s.heap.size ≤ q → A q) (hK : va_K (dC, dI) vwCl (TY cI cJ cII cJJ) s) (hP : va_P (dC, dI) vwCl [(a4, .inl (cI, 777924, .inl (tb [0, 0, 0, 0, 1, 0, 0, 0, 2, 0, 0, 0, 3, 0, 0, 0, 4, 0, 0, 0, 5, 0, 0, 0, 6, 0, 0, 0, 7, 0, 0, 0, 8, 0, 0, 0, 9, 0, 0, 0, 10]))), (a0, .inr (9, [.ref a5, .ref a6, .ref a1, .ref a2, .ref a7, .ref a8, .ref a9, .ref a10, .ref a11, .ref a12, .ref a13, .ref a14, .int 1, .int 0, .int 0, .ref a15, .ref a16, .ref a17, .ref a18, .ref a19, .ref a20, .int 0, .int 0, .ref a21, .ref a22, .ref a23, .ref a24, .int 0, .int 0, .ref a25, .ref a26, .ref a27, .ref a3, .int 1, .ref a4, .int 11])), (a1, .inl (cI, 4, .inl (tb [0, 0, 0, 0]))), (a3, .inl (cI, 4, .inl (tb [10]))), (a2, .inl (cI, 4, .inl (tb [10, 10, 10, 10])))] H) (hD : va_D A [(a4, .inl (cI, 777924, .inl (tb [0, 0, 0, 0, 1, 0, 0, 0, 2, 0, 0, 0, 3, 0, 0, 0, 4, 0, 0, 0, 5, 0, 0, 0, 6, 0, 0, 0, 7, 0, 0, 0, 8, 0, 0, 0, 9, 0, 0, 0, 10]))), (a0, .inr (9, [.ref a5, .ref a6, .ref a1, .ref a2, .ref a7, .ref a8, .ref a9, .ref a10, .ref a11, .ref a12, .ref a13, .ref a14, .int 1, .int 0, .int 0, .ref a15, .ref a16, .ref a17, .ref a18, .ref a19, .ref a20, .int 0, .int 0, .ref a21, .ref a22, .ref a23, .ref a24, .int 0, .int 0, .ref a25, .ref a26, .ref a27, .ref a3, .int 1, .ref a4, .int 11])), (a1, .inl (cI, 4, .inl (tb [0, 0, 0, 0]))), (a3, .inl (cI, 4, .inl (tb [10]))), (a2, .inl (cI, 4, .inl (tb [10, 10, 10, 10])))]) (hS : va_S A s.heap H locs) (hX : GXA 0 g A s) (hl : lv_has ls 6 [(5, .int 4), (4, .int 4), (3, .int 0), (0, .ref a0), (1, .int 0), (2, .int 0)]) : W p l e ({ frames := 6, cells := 0, slots := 0, locals := 320 } : Room) s m ([.ref a0, .int 0, .int 0] : List Value).toArray below meth c H locs 0 0 (MQ below ((QcI dC dI (TY cI cJ cII cJJ) 0 []) A) ([.ref a0, .int 0, .int 0] : List Value).toArray s 0 0 A) (F0 m 96 ls [.int 0]) := by
  refine lv_istore_n (lv' := [(3, .int 0), (5, .int 4), (4, .int 4), (0, .ref a0), (1, .int 0), (2, .int 0)]) hx hb dX9_span_96 rfl hl (by decide) rfl (fun ls hl => ?_)
  refine lv_iinc (v := 5) (lv' := [(4, .int 5), (3, .int 0), (5, .int 4), (0, .ref a0), (1, .int 0), (2, .int 0)]) hx hb dX9_span_97 hl (k := 2) rfl (by decide +kernel) (by decide) rfl (fun ls hl => ?_)
  refine lv_goto (tgt := 43) hx hb dX9_span_100 (by decide) ?_
  refine lv_iload hx hb dX9_span_43 (lv_at hl 0 rfl) ?_
  refine lv_aload_n hx hb dX9_span_45 rfl (lv_at hl 3 rfl) ?_
  refine gf (k := 35) hx hb hts inX9 hown hK hP k_830 rfl (by decide) rfl 1 rfl (.int 11) rfl dX9_span_46 ?_
  refine f_icmp_ge hx hb dX9_span_49 103 (by decide) (by decide +kernel) ?_
  refine lv_aload_n hx hb dX9_span_52 rfl (lv_at hl 3 rfl) ?_
  refine gf (k := 34) hx hb hts inX9 hown hK hP k_829 rfl (by decide) rfl 1 rfl (.ref a4) rfl dX9_span_53 ?_
  refine lv_iconst (v := 4) hx hb dX9_span_56 (by decide) ?_
  refine lv_iload hx hb dX9_span_57 (lv_at hl 0 rfl) ?_
  refine v_imul hx hb dX9_span_59 20 (by decide +kernel) ?_
  refine lv_iload_n hx hb dX9_span_60 rfl (lv_at hl 4 rfl) ?_
  refine v_iadd hx hb dX9_span_61 20 (by decide +kernel) ?_
  refine ld_i hx hb hK hP 0 rfl (vin (by decide +kernel)) dX9_span_62 5 rfl ?_
  refine lv_istore (lv' := [(5, .int 5), (4, .int 5), (3, .int 0), (0, .ref a0), (1, .int 0), (2, .int 0)]) hx hb dX9_span_63 hl (by decide) rfl (fun ls hl => ?_)
  refine lv_iload_n hx hb dX9_span_65 rfl (lv_at hl 5 rfl) ?_
  refine f_if_ne hx hb dX9_span_66 84 (by decide) (by decide +kernel) ?_
  refine lv_iload hx hb dX9_span_69 (lv_at hl 0 rfl) ?_
  refine lv_iload_n hx hb dX9_span_71 rfl (lv_at hl 2 rfl) ?_
  refine t_icmp_ge hx hb dX9_span_72 80 (by decide) (by decide +kernel) ?_
  refine lv_iload_n hx hb dX9_span_80 rfl (lv_at hl 2 rfl) ?_
  refine lv_goto (tgt := 96) hx hb dX9_span_81 (by decide) ?_
  refine lv_istore_n (lv' := [(3, .int 0), (5, .int 5), (4, .int 5), (0, .ref a0), (1, .int 0), (2, .int 0)]) hx hb dX9_span_96 rfl hl (by decide) rfl (fun ls hl => ?_)
  refine lv_iinc (v := 6) (lv' := [(4, .int 6), (3, .int 0), (5, .int 5), (0, .ref a0), (1, .int 0), (2, .int 0)]) hx hb dX9_span_97 hl (k := 2) rfl (by decide +kernel) (by decide) rfl (fun ls hl => ?_)
  refine lv_goto (tgt := 43) hx hb dX9_span_100 (by decide) ?_
  refine lv_iload hx hb dX9_span_43 (lv_at hl 0 rfl) ?_
  refine lv_aload_n hx hb dX9_span_45 rfl (lv_at hl 3 rfl) ?_
  refine gf (k := 35) hx hb hts inX9 hown hK hP k_830 rfl (by decide) rfl 1 rfl (.int 11) rfl dX9_span_46 ?_
  refine f_icmp_ge hx hb dX9_span_49 103 (by decide) (by decide +kernel) ?_
  refine lv_aload_n hx hb dX9_span_52 rfl (lv_at hl 3 rfl) ?_
  refine gf (k := 34) hx hb hts inX9 hown hK hP k_829 rfl (by decide) rfl 1 rfl (.ref a4) rfl dX9_span_53 ?_
  refine lv_iconst (v := 4) hx hb dX9_span_56 (by decide) ?_
  refine lv_iload hx hb dX9_span_57 (lv_at hl 0 rfl) ?_
  refine v_imul hx hb dX9_span_59 24 (by decide +kernel) ?_
  refine lv_iload_n hx hb dX9_span_60 rfl (lv_at hl 4 rfl) ?_
  refine v_iadd hx hb dX9_span_61 24 (by decide +kernel) ?_
  refine ld_i hx hb hK hP 0 rfl (vin (by decide +kernel)) dX9_span_62 6 rfl ?_
  refine lv_istore (lv' := [(5, .int 6), (4, .int 6), (3, .int 0), (0, .ref a0), (1, .int 0), (2, .int 0)]) hx hb dX9_span_63 hl (by decide) rfl (fun ls hl => ?_)
  refine lv_iload_n hx hb dX9_span_65 rfl (lv_at hl 5 rfl) ?_
  refine f_if_ne hx hb dX9_span_66 84 (by decide) (by decide +kernel) ?_
  refine lv_iload hx hb dX9_span_69 (lv_at hl 0 rfl) ?_
  refine lv_iload_n hx hb dX9_span_71 rfl (lv_at hl 2 rfl) ?_
  refine t_icmp_ge hx hb dX9_span_72 80 (by decide) (by decide +kernel) ?_
  refine lv_iload_n hx hb dX9_span_80 rfl (lv_at hl 2 rfl) ?_
  refine lv_goto (tgt := 96) hx hb dX9_span_81 (by decide) ?_
  refine lv_istore_n (lv' := [(3, .int 0), (5, .int 6), (4, .int 6), (0, .ref a0), (1, .int 0), (2, .int 0)]) hx hb dX9_span_96 rfl hl (by decide) rfl (fun ls hl => ?_)
  refine lv_iinc (v := 7) (lv' := [(4, .int 7), (3, .int 0), (5, .int 6), (0, .ref a0), (1, .int 0), (2, .int 0)]) hx hb dX9_span_97 hl (k := 2) rfl (by decide +kernel) (by decide) rfl (fun ls hl => ?_)
  refine lv_goto (tgt := 43) hx hb dX9_span_100 (by decide) ?_
  refine lv_iload hx hb dX9_span_43 (lv_at hl 0 rfl) ?_
  refine lv_aload_n hx hb dX9_span_45 rfl (lv_at hl 3 rfl) ?_
  refine gf (k := 35) hx hb hts inX9 hown hK hP k_830 rfl (by decide) rfl 1 rfl (.int 11) rfl dX9_span_46 ?_
  refine f_icmp_ge hx hb dX9_span_49 103 (by decide) (by decide +kernel) ?_
  refine lv_aload_n hx hb dX9_span_52 rfl (lv_at hl 3 rfl) ?_
  refine gf (k := 34) hx hb hts inX9 hown hK hP k_829 rfl (by decide) rfl 1 rfl (.ref a4) rfl dX9_span_53 ?_
  refine lv_iconst (v := 4) hx hb dX9_span_56 (by decide) ?_
  refine lv_iload hx hb dX9_span_57 (lv_at hl 0 rfl) ?_
  refine v_imul hx hb dX9_span_59 28 (by decide +kernel) ?_
  refine lv_iload_n hx hb dX9_span_60 rfl (lv_at hl 4 rfl) ?_
  refine v_iadd hx hb dX9_span_61 28 (by decide +kernel) ?_
  refine ld_i hx hb hK hP 0 rfl (vin (by decide +kernel)) dX9_span_62 7 rfl ?_
  refine lv_istore (lv' := [(5, .int 7), (4, .int 7), (3, .int 0), (0, .ref a0), (1, .int 0), (2, .int 0)]) hx hb dX9_span_63 hl (by decide) rfl (fun ls hl => ?_)
  refine lv_iload_n hx hb dX9_span_65 rfl (lv_at hl 5 rfl) ?_
  refine f_if_ne hx hb dX9_span_66 84 (by decide) (by decide +kernel) ?_
  refine lv_iload hx hb dX9_span_69 (lv_at hl 0 rfl) ?_
  refine lv_iload_n hx hb dX9_span_71 rfl (lv_at hl 2 rfl) ?_
  refine t_icmp_ge hx hb dX9_span_72 80 (by decide) (by decide +kernel) ?_
  refine lv_iload_n hx hb dX9_span_80 rfl (lv_at hl 2 rfl) ?_
  refine lv_goto (tgt := 96) hx hb dX9_span_81 (by decide) ?_
  refine lv_istore_n (lv' := [(3, .int 0), (5, .int 7), (4, .int 7), (0, .ref a0), (1, .int 0), (2, .int 0)]) hx hb dX9_span_96 rfl hl (by decide) rfl (fun ls hl => ?_)
  refine lv_iinc (v := 8) (lv' := [(4, .int 8), (3, .int 0), (5, .int 7), (0, .ref a0), (1, .int 0), (2, .int 0)]) hx hb dX9_span_97 hl (k := 2) rfl (by decide +kernel) (by decide) rfl (fun ls hl => ?_)
  refine lv_goto (tgt := 43) hx hb dX9_span_100 (by decide) ?_
  refine lv_iload hx hb dX9_span_43 (lv_at hl 0 rfl) ?_
  refine lv_aload_n hx hb dX9_span_45 rfl (lv_at hl 3 rfl) ?_
  refine gf (k := 35) hx hb hts inX9 hown hK hP k_830 rfl (by decide) rfl 1 rfl (.int 11) rfl dX9_span_46 ?_
  refine f_icmp_ge hx hb dX9_span_49 103 (by decide) (by decide +kernel) ?_
  refine lv_aload_n hx hb dX9_span_52 rfl (lv_at hl 3 rfl) ?_
  refine gf (k := 34) hx hb hts inX9 hown hK hP k_829 rfl (by decide) rfl 1 rfl (.ref a4) rfl dX9_span_53 ?_
  refine lv_iconst (v := 4) hx hb dX9_span_56 (by decide) ?_
  refine lv_iload hx hb dX9_span_57 (lv_at hl 0 rfl) ?_
  refine v_imul hx hb dX9_span_59 32 (by decide +kernel) ?_
  refine lv_iload_n hx hb dX9_span_60 rfl (lv_at hl 4 rfl) ?_
  refine v_iadd hx hb dX9_span_61 32 (by decide +kernel) ?_
  refine ld_i hx hb hK hP 0 rfl (vin (by decide +kernel)) dX9_span_62 8 rfl ?_
  refine lv_istore (lv' := [(5, .int 8), (4, .int 8), (3, .int 0), (0, .ref a0), (1, .int 0), (2, .int 0)]) hx hb dX9_span_63 hl (by decide) rfl (fun ls hl => ?_)
  refine lv_iload_n hx hb dX9_span_65 rfl (lv_at hl 5 rfl) ?_
  refine f_if_ne hx hb dX9_span_66 84 (by decide) (by decide +kernel) ?_
  refine lv_iload hx hb dX9_span_69 (lv_at hl 0 rfl) ?_
  refine lv_iload_n hx hb dX9_span_71 rfl (lv_at hl 2 rfl) ?_
  refine t_icmp_ge hx hb dX9_span_72 80 (by decide) (by decide +kernel) ?_
  refine lv_iload_n hx hb dX9_span_80 rfl (lv_at hl 2 rfl) ?_
  refine lv_goto (tgt := 96) hx hb dX9_span_81 (by decide) ?_
  refine lv_istore_n (lv' := [(3, .int 0), (5, .int 8), (4, .int 8), (0, .ref a0), (1, .int 0), (2, .int 0)]) hx hb dX9_span_96 rfl hl (by decide) rfl (fun ls hl => ?_)
  refine lv_iinc (v := 9) (lv' := [(4, .int 9), (3, .int 0), (5, .int 8), (0, .ref a0), (1, .int 0), (2, .int 0)]) hx hb dX9_span_97 hl (k := 2) rfl (by decide +kernel) (by decide) rfl (fun ls hl => ?_)
  refine lv_goto (tgt := 43) hx hb dX9_span_100 (by decide) ?_
  refine lv_iload hx hb dX9_span_43 (lv_at hl 0 rfl) ?_
  refine lv_aload_n hx hb dX9_span_45 rfl (lv_at hl 3 rfl) ?_
  refine gf (k := 35) hx hb hts inX9 hown hK hP k_830 rfl (by decide) rfl 1 rfl (.int 11) rfl dX9_span_46 ?_
  refine f_icmp_ge hx hb dX9_span_49 103 (by decide) (by decide +kernel) ?_
  refine lv_aload_n hx hb dX9_span_52 rfl (lv_at hl 3 rfl) ?_
  refine gf (k := 34) hx hb hts inX9 hown hK hP k_829 rfl (by decide) rfl 1 rfl (.ref a4) rfl dX9_span_53 ?_
  refine lv_iconst (v := 4) hx hb dX9_span_56 (by decide) ?_
  refine lv_iload hx hb dX9_span_57 (lv_at hl 0 rfl) ?_
  refine v_imul hx hb dX9_span_59 36 (by decide +kernel) ?_
  refine lv_iload_n hx hb dX9_span_60 rfl (lv_at hl 4 rfl) ?_
  refine v_iadd hx hb dX9_span_61 36 (by decide +kernel) ?_
  refine ld_i hx hb hK hP 0 rfl (vin (by decide +kernel)) dX9_span_62 9 rfl ?_
  refine lv_istore (lv' := [(5, .int 9), (4, .int 9), (3, .int 0), (0, .ref a0), (1, .int 0), (2, .int 0)]) hx hb dX9_span_63 hl (by decide) rfl (fun ls hl => ?_)
  refine lv_iload_n hx hb dX9_span_65 rfl (lv_at hl 5 rfl) ?_
  refine f_if_ne hx hb dX9_span_66 84 (by decide) (by decide +kernel) ?_
  exact c560_X9_span_s2 l dC dI cI cJ cII cJJ g a0 a1 a2 a3 a4 a5 a6 a7 a8 a9 a10 a11 a12 a13 a14 a15 a16 a17 a18 a19 a20 a21 a22 a23 a24 a25 a26 a27 hx hb hr hml hown hts hk hA hK hP hD hS hX hl
set_option maxRecDepth 100000 in
set_option maxHeartbeats 4000000 in
theorem c560_X9_span (l : Launch) (dC : Nat → ClassId) (dI : Nat → Nat → Nat) (cI cJ cII cJJ : ClassId) (sz g a0 a1 a2 a3 a4 a5 a6 a7 a8 a9 a10 a11 a12 a13 a14 a15 a16 a17 a18 a19 a20 a21 a22 a23 a24 a25 a26 a27 : Nat) : Met l yX9_span (.code yX9_span cX9_span 6 (some .int) :: TT) ({ frames := 6, cells := 0, slots := 0, locals := 320 }) (PcS dC dI (TY cI cJ cII cJJ) [.ref a0, .int 0, .int 0] [(a0, .inr (9, [.ref a5, .ref a6, .ref a1, .ref a2, .ref a7, .ref a8, .ref a9, .ref a10, .ref a11, .ref a12, .ref a13, .ref a14, .int 1, .int 0, .int 0, .ref a15, .ref a16, .ref a17, .ref a18, .ref a19, .ref a20, .int 0, .int 0, .ref a21, .ref a22, .ref a23, .ref a24, .int 0, .int 0, .ref a25, .ref a26, .ref a27, .ref a3, .int 0, .ref a4, .int 0])), (a1, .inl (cI, 4, .inl (tb [0, 0, 0, 0]))), (a2, .inl (cI, 4, .inl (tb [10, 10, 10, 10]))), (a3, .inl (cI, 4, .inl (tb []))), (a4, .inl (cI, 777924, .inl (tb [])))] sz 0 g) ((QcI dC dI (TY cI cJ cII cJJ) 0 []) (va_A [(a0, .inr (9, [.ref a5, .ref a6, .ref a1, .ref a2, .ref a7, .ref a8, .ref a9, .ref a10, .ref a11, .ref a12, .ref a13, .ref a14, .int 1, .int 0, .int 0, .ref a15, .ref a16, .ref a17, .ref a18, .ref a19, .ref a20, .int 0, .int 0, .ref a21, .ref a22, .ref a23, .ref a24, .int 0, .int 0, .ref a25, .ref a26, .ref a27, .ref a3, .int 0, .ref a4, .int 0])), (a1, .inl (cI, 4, .inl (tb [0, 0, 0, 0]))), (a2, .inl (cI, 4, .inl (tb [10, 10, 10, 10]))), (a3, .inl (cI, 4, .inl (tb []))), (a4, .inl (cI, 777924, .inl (tb [])))] sz)) 0 0 (va_A [(a0, .inr (9, [.ref a5, .ref a6, .ref a1, .ref a2, .ref a7, .ref a8, .ref a9, .ref a10, .ref a11, .ref a12, .ref a13, .ref a14, .int 1, .int 0, .int 0, .ref a15, .ref a16, .ref a17, .ref a18, .ref a19, .ref a20, .int 0, .int 0, .ref a21, .ref a22, .ref a23, .ref a24, .int 0, .int 0, .ref a25, .ref a26, .ref a27, .ref a3, .int 0, .ref a4, .int 0])), (a1, .inl (cI, 4, .inl (tb [0, 0, 0, 0]))), (a2, .inl (cI, 4, .inl (tb [10, 10, 10, 10]))), (a3, .inl (cI, 4, .inl (tb []))), (a4, .inl (cI, 777924, .inl (tb [])))] sz) := by
  refine SM.of (y := yX9_span) (maxL := 6) (av := [.ref a0, .int 0, .int 0]) (QcI dC dI (TY cI cJ cII cJJ) 0 []) (by decide +kernel) (Nat.le_of_ble_eq_true rfl) (fun p e s m below meth c A ls hx hb hr hml hown hts hk hnm hA hK hP hD hS hX hl => ?_)
  have hown : s.vm.findClass RX9 = some m.cls := hown
  have hl : lv_has ls 6 [(0, .ref a0), (1, .int 0), (2, .int 0)] := hl
  refine lv_aload_n hx hb dX9_span_0 rfl (lv_at hl 0 rfl) ?_
  refine kV_v (q0 := 0) ⟨hx, hb, hml, hown, hts⟩ hK hP hD hS hA hX cv_RX9_238 [0, 1, 2, 3, 4] [] (wr := []) rfl rfl rfl rfl (by decide) (c515_X9_gather l dC dI cI cJ cII cJJ s.heap.size 0 a0 a1 a2 a3 a4 a5 a6 a7 a8 a9 a10 a11 a12 a13 a14 a15 a16 a17 a18 a19 a20 a21 a22 a23 a24 a25 a26 a27) ⟨by decide +kernel, by decide +kernel⟩ rfl rfl (Or.inl rfl) (rest := []) rfl rfl rfl hl.1 rfl (Nat.le_of_ble_eq_true rfl) dX9_span_1 ⟨Nat.le_of_ble_eq_true rfl, Nat.le_of_ble_eq_true rfl⟩ (fun _ => rfl) (W' := [(a4, .inl (cI, 777924, .inl (tb [0, 0, 0, 0, 1, 0, 0, 0, 2, 0, 0, 0, 3, 0, 0, 0, 4, 0, 0, 0, 5, 0, 0, 0, 6, 0, 0, 0, 7, 0, 0, 0, 8, 0, 0, 0, 9, 0, 0, 0, 10]))), (a0, .inr (9, [.ref a5, .ref a6, .ref a1, .ref a2, .ref a7, .ref a8, .ref a9, .ref a10, .ref a11, .ref a12, .ref a13, .ref a14, .int 1, .int 0, .int 0, .ref a15, .ref a16, .ref a17, .ref a18, .ref a19, .ref a20, .int 0, .int 0, .ref a21, .ref a22, .ref a23, .ref a24, .int 0, .int 0, .ref a25, .ref a26, .ref a27, .ref a3, .int 1, .ref a4, .int 11])), (a1, .inl (cI, 4, .inl (tb [0, 0, 0, 0]))), (a3, .inl (cI, 4, .inl (tb [10]))), (a2, .inl (cI, 4, .inl (tb [10, 10, 10, 10])))]) rfl (fun H locs hP hD hS => ?_)
  refine lv_aload_n hx hb dX9_span_4 rfl (lv_at hl 0 rfl) ?_
  refine gf (k := 35) hx hb hts inX9 hown hK hP k_830 rfl (by decide) rfl 1 rfl (.int 11) rfl dX9_span_5 ?_
  refine f_if_eq hx hb dX9_span_8 30 (by decide) (by decide +kernel) ?_
  refine lv_iload_n hx hb dX9_span_11 rfl (lv_at hl 1 rfl) ?_
  refine lv_aload_n hx hb dX9_span_12 rfl (lv_at hl 0 rfl) ?_
  refine gf (k := 12) hx hb hts inX9 hown hK hP k_807 rfl (by decide) rfl 1 rfl (.int 1) rfl dX9_span_13 ?_
  refine kS_i ⟨hx, hb, hml, hown, hts⟩ hK hP hD hS hA hX cs_RX9_116 [] [0, 1, 2, 3, 4] (wr := [(a4, .inl (cI, 777924, .inl (tb [0, 0, 0, 0, 1, 0, 0, 0, 2, 0, 0, 0, 3, 0, 0, 0, 4, 0, 0, 0, 5, 0, 0, 0, 6, 0, 0, 0, 7, 0, 0, 0, 8, 0, 0, 0, 9, 0, 0, 0, 10]))), (a0, .inr (9, [.ref a5, .ref a6, .ref a1, .ref a2, .ref a7, .ref a8, .ref a9, .ref a10, .ref a11, .ref a12, .ref a13, .ref a14, .int 1, .int 0, .int 0, .ref a15, .ref a16, .ref a17, .ref a18, .ref a19, .ref a20, .int 0, .int 0, .ref a21, .ref a22, .ref a23, .ref a24, .int 0, .int 0, .ref a25, .ref a26, .ref a27, .ref a3, .int 1, .ref a4, .int 11])), (a1, .inl (cI, 4, .inl (tb [0, 0, 0, 0]))), (a3, .inl (cI, 4, .inl (tb [10]))), (a2, .inl (cI, 4, .inl (tb [10, 10, 10, 10])))]) rfl rfl rfl rfl (by decide) (c323_X9_isIn l dC dI cI cJ cII cJJ H.size 0) ⟨by decide +kernel, by decide +kernel⟩ rfl rfl (Or.inl rfl) (rest := []) rfl hl.1 rfl (Nat.le_of_ble_eq_true rfl) dX9_span_16 ⟨Nat.le_of_ble_eq_true rfl, Nat.le_of_ble_eq_true rfl⟩ (W' := [(a4, .inl (cI, 777924, .inl (tb [0, 0, 0, 0, 1, 0, 0, 0, 2, 0, 0, 0, 3, 0, 0, 0, 4, 0, 0, 0, 5, 0, 0, 0, 6, 0, 0, 0, 7, 0, 0, 0, 8, 0, 0, 0, 9, 0, 0, 0, 10]))), (a0, .inr (9, [.ref a5, .ref a6, .ref a1, .ref a2, .ref a7, .ref a8, .ref a9, .ref a10, .ref a11, .ref a12, .ref a13, .ref a14, .int 1, .int 0, .int 0, .ref a15, .ref a16, .ref a17, .ref a18, .ref a19, .ref a20, .int 0, .int 0, .ref a21, .ref a22, .ref a23, .ref a24, .int 0, .int 0, .ref a25, .ref a26, .ref a27, .ref a3, .int 1, .ref a4, .int 11])), (a1, .inl (cI, 4, .inl (tb [0, 0, 0, 0]))), (a3, .inl (cI, 4, .inl (tb [10]))), (a2, .inl (cI, 4, .inl (tb [10, 10, 10, 10])))]) rfl (fun H locs hP hD hS => ?_)
  refine f_if_eq hx hb dX9_span_19 30 (by decide) (by decide +kernel) ?_
  refine lv_iload_n hx hb dX9_span_22 rfl (lv_at hl 2 rfl) ?_
  refine lv_iconst (v := 2) hx hb dX9_span_23 (by decide) ?_
  refine kS_i ⟨hx, hb, hml, hown, hts⟩ hK hP hD hS hA hX cs_RX9_116 [] [0, 1, 2, 3, 4] (wr := [(a4, .inl (cI, 777924, .inl (tb [0, 0, 0, 0, 1, 0, 0, 0, 2, 0, 0, 0, 3, 0, 0, 0, 4, 0, 0, 0, 5, 0, 0, 0, 6, 0, 0, 0, 7, 0, 0, 0, 8, 0, 0, 0, 9, 0, 0, 0, 10]))), (a0, .inr (9, [.ref a5, .ref a6, .ref a1, .ref a2, .ref a7, .ref a8, .ref a9, .ref a10, .ref a11, .ref a12, .ref a13, .ref a14, .int 1, .int 0, .int 0, .ref a15, .ref a16, .ref a17, .ref a18, .ref a19, .ref a20, .int 0, .int 0, .ref a21, .ref a22, .ref a23, .ref a24, .int 0, .int 0, .ref a25, .ref a26, .ref a27, .ref a3, .int 1, .ref a4, .int 11])), (a1, .inl (cI, 4, .inl (tb [0, 0, 0, 0]))), (a3, .inl (cI, 4, .inl (tb [10]))), (a2, .inl (cI, 4, .inl (tb [10, 10, 10, 10])))]) rfl rfl rfl rfl (by decide) (c397_X9_isIn l dC dI cI cJ cII cJJ H.size 0) ⟨by decide +kernel, by decide +kernel⟩ rfl rfl (Or.inl rfl) (rest := []) rfl hl.1 rfl (Nat.le_of_ble_eq_true rfl) dX9_span_24 ⟨Nat.le_of_ble_eq_true rfl, Nat.le_of_ble_eq_true rfl⟩ (W' := [(a4, .inl (cI, 777924, .inl (tb [0, 0, 0, 0, 1, 0, 0, 0, 2, 0, 0, 0, 3, 0, 0, 0, 4, 0, 0, 0, 5, 0, 0, 0, 6, 0, 0, 0, 7, 0, 0, 0, 8, 0, 0, 0, 9, 0, 0, 0, 10]))), (a0, .inr (9, [.ref a5, .ref a6, .ref a1, .ref a2, .ref a7, .ref a8, .ref a9, .ref a10, .ref a11, .ref a12, .ref a13, .ref a14, .int 1, .int 0, .int 0, .ref a15, .ref a16, .ref a17, .ref a18, .ref a19, .ref a20, .int 0, .int 0, .ref a21, .ref a22, .ref a23, .ref a24, .int 0, .int 0, .ref a25, .ref a26, .ref a27, .ref a3, .int 1, .ref a4, .int 11])), (a1, .inl (cI, 4, .inl (tb [0, 0, 0, 0]))), (a3, .inl (cI, 4, .inl (tb [10]))), (a2, .inl (cI, 4, .inl (tb [10, 10, 10, 10])))]) rfl (fun H locs hP hD hS => ?_)
  refine t_if_ne hx hb dX9_span_27 33 (by decide) (by decide +kernel) ?_
  refine lv_aload_n hx hb dX9_span_33 rfl (lv_at hl 0 rfl) ?_
  refine gf (k := 34) hx hb hts inX9 hown hK hP k_829 rfl (by decide) rfl 1 rfl (.ref a4) rfl dX9_span_34 ?_
  refine lv_iload_n hx hb dX9_span_37 rfl (lv_at hl 1 rfl) ?_
  refine ld_i hx hb hK hP 0 rfl (vin (by decide +kernel)) dX9_span_38 0 rfl ?_
  refine lv_istore_n (lv' := [(3, .int 0), (0, .ref a0), (1, .int 0), (2, .int 0)]) hx hb dX9_span_39 rfl hl (by decide) rfl (fun ls hl => ?_)
  refine lv_iconst (v := 1) hx hb dX9_span_40 (by decide) ?_
  refine lv_istore (lv' := [(4, .int 1), (3, .int 0), (0, .ref a0), (1, .int 0), (2, .int 0)]) hx hb dX9_span_41 hl (by decide) rfl (fun ls hl => ?_)
  refine lv_iload hx hb dX9_span_43 (lv_at hl 0 rfl) ?_
  refine lv_aload_n hx hb dX9_span_45 rfl (lv_at hl 2 rfl) ?_
  refine gf (k := 35) hx hb hts inX9 hown hK hP k_830 rfl (by decide) rfl 1 rfl (.int 11) rfl dX9_span_46 ?_
  refine f_icmp_ge hx hb dX9_span_49 103 (by decide) (by decide +kernel) ?_
  refine lv_aload_n hx hb dX9_span_52 rfl (lv_at hl 2 rfl) ?_
  refine gf (k := 34) hx hb hts inX9 hown hK hP k_829 rfl (by decide) rfl 1 rfl (.ref a4) rfl dX9_span_53 ?_
  refine lv_iconst (v := 4) hx hb dX9_span_56 (by decide) ?_
  refine lv_iload hx hb dX9_span_57 (lv_at hl 0 rfl) ?_
  refine v_imul hx hb dX9_span_59 4 (by decide +kernel) ?_
  refine lv_iload_n hx hb dX9_span_60 rfl (lv_at hl 3 rfl) ?_
  refine v_iadd hx hb dX9_span_61 4 (by decide +kernel) ?_
  refine ld_i hx hb hK hP 0 rfl (vin (by decide +kernel)) dX9_span_62 1 rfl ?_
  refine lv_istore (lv' := [(5, .int 1), (4, .int 1), (3, .int 0), (0, .ref a0), (1, .int 0), (2, .int 0)]) hx hb dX9_span_63 hl (by decide) rfl (fun ls hl => ?_)
  refine lv_iload_n hx hb dX9_span_65 rfl (lv_at hl 5 rfl) ?_
  refine f_if_ne hx hb dX9_span_66 84 (by decide) (by decide +kernel) ?_
  refine lv_iload hx hb dX9_span_69 (lv_at hl 0 rfl) ?_
  refine lv_iload_n hx hb dX9_span_71 rfl (lv_at hl 2 rfl) ?_
  refine t_icmp_ge hx hb dX9_span_72 80 (by decide) (by decide +kernel) ?_
  refine lv_iload_n hx hb dX9_span_80 rfl (lv_at hl 2 rfl) ?_
  refine lv_goto (tgt := 96) hx hb dX9_span_81 (by decide) ?_
  refine lv_istore_n (lv' := [(3, .int 0), (5, .int 1), (4, .int 1), (0, .ref a0), (1, .int 0), (2, .int 0)]) hx hb dX9_span_96 rfl hl (by decide) rfl (fun ls hl => ?_)
  refine lv_iinc (v := 2) (lv' := [(4, .int 2), (3, .int 0), (5, .int 1), (0, .ref a0), (1, .int 0), (2, .int 0)]) hx hb dX9_span_97 hl (k := 2) rfl (by decide +kernel) (by decide) rfl (fun ls hl => ?_)
  refine lv_goto (tgt := 43) hx hb dX9_span_100 (by decide) ?_
  refine lv_iload hx hb dX9_span_43 (lv_at hl 0 rfl) ?_
  refine lv_aload_n hx hb dX9_span_45 rfl (lv_at hl 3 rfl) ?_
  refine gf (k := 35) hx hb hts inX9 hown hK hP k_830 rfl (by decide) rfl 1 rfl (.int 11) rfl dX9_span_46 ?_
  refine f_icmp_ge hx hb dX9_span_49 103 (by decide) (by decide +kernel) ?_
  refine lv_aload_n hx hb dX9_span_52 rfl (lv_at hl 3 rfl) ?_
  refine gf (k := 34) hx hb hts inX9 hown hK hP k_829 rfl (by decide) rfl 1 rfl (.ref a4) rfl dX9_span_53 ?_
  refine lv_iconst (v := 4) hx hb dX9_span_56 (by decide) ?_
  refine lv_iload hx hb dX9_span_57 (lv_at hl 0 rfl) ?_
  refine v_imul hx hb dX9_span_59 8 (by decide +kernel) ?_
  refine lv_iload_n hx hb dX9_span_60 rfl (lv_at hl 4 rfl) ?_
  refine v_iadd hx hb dX9_span_61 8 (by decide +kernel) ?_
  refine ld_i hx hb hK hP 0 rfl (vin (by decide +kernel)) dX9_span_62 2 rfl ?_
  refine lv_istore (lv' := [(5, .int 2), (4, .int 2), (3, .int 0), (0, .ref a0), (1, .int 0), (2, .int 0)]) hx hb dX9_span_63 hl (by decide) rfl (fun ls hl => ?_)
  refine lv_iload_n hx hb dX9_span_65 rfl (lv_at hl 5 rfl) ?_
  refine f_if_ne hx hb dX9_span_66 84 (by decide) (by decide +kernel) ?_
  refine lv_iload hx hb dX9_span_69 (lv_at hl 0 rfl) ?_
  refine lv_iload_n hx hb dX9_span_71 rfl (lv_at hl 2 rfl) ?_
  refine t_icmp_ge hx hb dX9_span_72 80 (by decide) (by decide +kernel) ?_
  refine lv_iload_n hx hb dX9_span_80 rfl (lv_at hl 2 rfl) ?_
  refine lv_goto (tgt := 96) hx hb dX9_span_81 (by decide) ?_
  refine lv_istore_n (lv' := [(3, .int 0), (5, .int 2), (4, .int 2), (0, .ref a0), (1, .int 0), (2, .int 0)]) hx hb dX9_span_96 rfl hl (by decide) rfl (fun ls hl => ?_)
  refine lv_iinc (v := 3) (lv' := [(4, .int 3), (3, .int 0), (5, .int 2), (0, .ref a0), (1, .int 0), (2, .int 0)]) hx hb dX9_span_97 hl (k := 2) rfl (by decide +kernel) (by decide) rfl (fun ls hl => ?_)
  refine lv_goto (tgt := 43) hx hb dX9_span_100 (by decide) ?_
  refine lv_iload hx hb dX9_span_43 (lv_at hl 0 rfl) ?_
  refine lv_aload_n hx hb dX9_span_45 rfl (lv_at hl 3 rfl) ?_
  refine gf (k := 35) hx hb hts inX9 hown hK hP k_830 rfl (by decide) rfl 1 rfl (.int 11) rfl dX9_span_46 ?_
  refine f_icmp_ge hx hb dX9_span_49 103 (by decide) (by decide +kernel) ?_
  refine lv_aload_n hx hb dX9_span_52 rfl (lv_at hl 3 rfl) ?_
  refine gf (k := 34) hx hb hts inX9 hown hK hP k_829 rfl (by decide) rfl 1 rfl (.ref a4) rfl dX9_span_53 ?_
  refine lv_iconst (v := 4) hx hb dX9_span_56 (by decide) ?_
  refine lv_iload hx hb dX9_span_57 (lv_at hl 0 rfl) ?_
  refine v_imul hx hb dX9_span_59 12 (by decide +kernel) ?_
  refine lv_iload_n hx hb dX9_span_60 rfl (lv_at hl 4 rfl) ?_
  refine v_iadd hx hb dX9_span_61 12 (by decide +kernel) ?_
  refine ld_i hx hb hK hP 0 rfl (vin (by decide +kernel)) dX9_span_62 3 rfl ?_
  refine lv_istore (lv' := [(5, .int 3), (4, .int 3), (3, .int 0), (0, .ref a0), (1, .int 0), (2, .int 0)]) hx hb dX9_span_63 hl (by decide) rfl (fun ls hl => ?_)
  refine lv_iload_n hx hb dX9_span_65 rfl (lv_at hl 5 rfl) ?_
  refine f_if_ne hx hb dX9_span_66 84 (by decide) (by decide +kernel) ?_
  refine lv_iload hx hb dX9_span_69 (lv_at hl 0 rfl) ?_
  refine lv_iload_n hx hb dX9_span_71 rfl (lv_at hl 2 rfl) ?_
  refine t_icmp_ge hx hb dX9_span_72 80 (by decide) (by decide +kernel) ?_
  refine lv_iload_n hx hb dX9_span_80 rfl (lv_at hl 2 rfl) ?_
  refine lv_goto (tgt := 96) hx hb dX9_span_81 (by decide) ?_
  refine lv_istore_n (lv' := [(3, .int 0), (5, .int 3), (4, .int 3), (0, .ref a0), (1, .int 0), (2, .int 0)]) hx hb dX9_span_96 rfl hl (by decide) rfl (fun ls hl => ?_)
  refine lv_iinc (v := 4) (lv' := [(4, .int 4), (3, .int 0), (5, .int 3), (0, .ref a0), (1, .int 0), (2, .int 0)]) hx hb dX9_span_97 hl (k := 2) rfl (by decide +kernel) (by decide) rfl (fun ls hl => ?_)
  refine lv_goto (tgt := 43) hx hb dX9_span_100 (by decide) ?_
  refine lv_iload hx hb dX9_span_43 (lv_at hl 0 rfl) ?_
  refine lv_aload_n hx hb dX9_span_45 rfl (lv_at hl 3 rfl) ?_
  refine gf (k := 35) hx hb hts inX9 hown hK hP k_830 rfl (by decide) rfl 1 rfl (.int 11) rfl dX9_span_46 ?_
  refine f_icmp_ge hx hb dX9_span_49 103 (by decide) (by decide +kernel) ?_
  refine lv_aload_n hx hb dX9_span_52 rfl (lv_at hl 3 rfl) ?_
  refine gf (k := 34) hx hb hts inX9 hown hK hP k_829 rfl (by decide) rfl 1 rfl (.ref a4) rfl dX9_span_53 ?_
  refine lv_iconst (v := 4) hx hb dX9_span_56 (by decide) ?_
  refine lv_iload hx hb dX9_span_57 (lv_at hl 0 rfl) ?_
  refine v_imul hx hb dX9_span_59 16 (by decide +kernel) ?_
  refine lv_iload_n hx hb dX9_span_60 rfl (lv_at hl 4 rfl) ?_
  refine v_iadd hx hb dX9_span_61 16 (by decide +kernel) ?_
  refine ld_i hx hb hK hP 0 rfl (vin (by decide +kernel)) dX9_span_62 4 rfl ?_
  refine lv_istore (lv' := [(5, .int 4), (4, .int 4), (3, .int 0), (0, .ref a0), (1, .int 0), (2, .int 0)]) hx hb dX9_span_63 hl (by decide) rfl (fun ls hl => ?_)
  refine lv_iload_n hx hb dX9_span_65 rfl (lv_at hl 5 rfl) ?_
  refine f_if_ne hx hb dX9_span_66 84 (by decide) (by decide +kernel) ?_
  refine lv_iload hx hb dX9_span_69 (lv_at hl 0 rfl) ?_
  refine lv_iload_n hx hb dX9_span_71 rfl (lv_at hl 2 rfl) ?_
  refine t_icmp_ge hx hb dX9_span_72 80 (by decide) (by decide +kernel) ?_
  refine lv_iload_n hx hb dX9_span_80 rfl (lv_at hl 2 rfl) ?_
  refine lv_goto (tgt := 96) hx hb dX9_span_81 (by decide) ?_
  exact c560_X9_span_s1 l dC dI cI cJ cII cJJ g a0 a1 a2 a3 a4 a5 a6 a7 a8 a9 a10 a11 a12 a13 a14 a15 a16 a17 a18 a19 a20 a21 a22 a23 a24 a25 a26 a27 hx hb hr hml hown hts hk hA hK hP hD hS hX hl
set_option maxRecDepth 100000 in
set_option maxHeartbeats 4000000 in
theorem c561_X9_span_s2 (l : Launch) (dC : Nat → ClassId) (dI : Nat → Nat → Nat) (cI cJ cII cJJ : ClassId) (g a0 a1 a2 a3 a4 a5 a6 a7 a8 a9 a10 a11 a12 a13 a14 a15 a16 a17 a18 a19 a20 a21 a22 a23 a24 a25 a26 a27 : Nat) {p : Program} {e : Env} {s : State} {m : MethodId} {below : List Frame} {meth : Method} {c : Code} {A : Nat → Prop} {ls : Array Slot} {H : Heap} {locs : List Loc} (hx : p.tables.exec = Jvm.exec) (hb : c.code = cX9_span) (hr : meth.sig.returnType = (some .int)) (hml : c.maxLocals = 6) (hown : s.vm.findClass RX9 = some m.cls) (hts : ∀ w ∈ TT, w.before ([.ref a0, .int 0, .int 1] : List Value).toArray s = true) (hk : meth.locks = false) (hA : ∀ q, s.heap.size ≤ q → A q) (hK : va_K (dC, dI) vwCl (TY cI cJ cII cJJ) s) (hP : va_P (dC, dI) vwCl [(a4, .inl (cI, 777924, .inl (tb [0, 0, 0, 0, 1, 0, 0, 0, 2, 0, 0, 0, 3, 0, 0, 0, 4, 0, 0, 0, 5, 0, 0, 0, 6, 0, 0, 0, 7, 0, 0, 0, 8, 0, 0, 0, 9, 0, 0, 0, 10]))), (a0, .inr (9, [.ref a5, .ref a6, .ref a1, .ref a2, .ref a7, .ref a8, .ref a9, .ref a10, .ref a11, .ref a12, .ref a13, .ref a14, .int 1, .int 0, .int 0, .ref a15, .ref a16, .ref a17, .ref a18, .ref a19, .ref a20, .int 0, .int 0, .ref a21, .ref a22, .ref a23, .ref a24, .int 0, .int 0, .ref a25, .ref a26, .ref a27, .ref a3, .int 1, .ref a4, .int 11])), (a1, .inl (cI, 4, .inl (tb [0, 0, 0, 0]))), (a3, .inl (cI, 4, .inl (tb [10]))), (a2, .inl (cI, 4, .inl (tb [10, 10, 10, 10])))] H) (hD : va_D A [(a4, .inl (cI, 777924, .inl (tb [0, 0, 0, 0, 1, 0, 0, 0, 2, 0, 0, 0, 3, 0, 0, 0, 4, 0, 0, 0, 5, 0, 0, 0, 6, 0, 0, 0, 7, 0, 0, 0, 8, 0, 0, 0, 9, 0, 0, 0, 10]))), (a0, .inr (9, [.ref a5, .ref a6, .ref a1, .ref a2, .ref a7, .ref a8, .ref a9, .ref a10, .ref a11, .ref a12, .ref a13, .ref a14, .int 1, .int 0, .int 0, .ref a15, .ref a16, .ref a17, .ref a18, .ref a19, .ref a20, .int 0, .int 0, .ref a21, .ref a22, .ref a23, .ref a24, .int 0, .int 0, .ref a25, .ref a26, .ref a27, .ref a3, .int 1, .ref a4, .int 11])), (a1, .inl (cI, 4, .inl (tb [0, 0, 0, 0]))), (a3, .inl (cI, 4, .inl (tb [10]))), (a2, .inl (cI, 4, .inl (tb [10, 10, 10, 10])))]) (hS : va_S A s.heap H locs) (hX : GXA 0 g A s) (hl : lv_has ls 6 [(5, .int 9), (4, .int 9), (3, .int 8), (0, .ref a0), (1, .int 0), (2, .int 1)]) : W p l e ({ frames := 6, cells := 0, slots := 0, locals := 320 } : Room) s m ([.ref a0, .int 0, .int 1] : List Value).toArray below meth c H locs 0 0 (MQ below ((QcI dC dI (TY cI cJ cII cJJ) 10 []) A) ([.ref a0, .int 0, .int 1] : List Value).toArray s 0 0 A) (F0 m 84 ls []) := by
  refine lv_iload hx hb dX9_span_84 (lv_at hl 0 rfl) ?_
  refine lv_iload_n hx hb dX9_span_86 rfl (lv_at hl 2 rfl) ?_
  refine f_icmp_le hx hb dX9_span_87 95 (by decide) (by decide +kernel) ?_
  refine lv_iload hx hb dX9_span_90 (lv_at hl 0 rfl) ?_
  refine lv_goto (tgt := 96) hx hb dX9_span_92 (by decide) ?_
  refine lv_istore_n (lv' := [(3, .int 9), (5, .int 9), (4, .int 9), (0, .ref a0), (1, .int 0), (2, .int 1)]) hx hb dX9_span_96 rfl hl (by decide) rfl (fun ls hl => ?_)
  refine lv_iinc (v := 10) (lv' := [(4, .int 10), (3, .int 9), (5, .int 9), (0, .ref a0), (1, .int 0), (2, .int 1)]) hx hb dX9_span_97 hl (k := 2) rfl (by decide +kernel) (by decide) rfl (fun ls hl => ?_)
  refine lv_goto (tgt := 43) hx hb dX9_span_100 (by decide) ?_
  refine lv_iload hx hb dX9_span_43 (lv_at hl 0 rfl) ?_
  refine lv_aload_n hx hb dX9_span_45 rfl (lv_at hl 3 rfl) ?_
  refine gf (k := 35) hx hb hts inX9 hown hK hP k_830 rfl (by decide) rfl 1 rfl (.int 11) rfl dX9_span_46 ?_
  refine f_icmp_ge hx hb dX9_span_49 103 (by decide) (by decide +kernel) ?_
  refine lv_aload_n hx hb dX9_span_52 rfl (lv_at hl 3 rfl) ?_
  refine gf (k := 34) hx hb hts inX9 hown hK hP k_829 rfl (by decide) rfl 1 rfl (.ref a4) rfl dX9_span_53 ?_
  refine lv_iconst (v := 4) hx hb dX9_span_56 (by decide) ?_
  refine lv_iload hx hb dX9_span_57 (lv_at hl 0 rfl) ?_
  refine v_imul hx hb dX9_span_59 40 (by decide +kernel) ?_
  refine lv_iload_n hx hb dX9_span_60 rfl (lv_at hl 4 rfl) ?_
  refine v_iadd hx hb dX9_span_61 40 (by decide +kernel) ?_
  refine ld_i hx hb hK hP 0 rfl (vin (by decide +kernel)) dX9_span_62 10 rfl ?_
  refine lv_istore (lv' := [(5, .int 10), (4, .int 10), (3, .int 9), (0, .ref a0), (1, .int 0), (2, .int 1)]) hx hb dX9_span_63 hl (by decide) rfl (fun ls hl => ?_)
  refine lv_iload_n hx hb dX9_span_65 rfl (lv_at hl 5 rfl) ?_
  refine t_if_ne hx hb dX9_span_66 84 (by decide) (by decide +kernel) ?_
  refine lv_iload hx hb dX9_span_84 (lv_at hl 0 rfl) ?_
  refine lv_iload_n hx hb dX9_span_86 rfl (lv_at hl 2 rfl) ?_
  refine f_icmp_le hx hb dX9_span_87 95 (by decide) (by decide +kernel) ?_
  refine lv_iload hx hb dX9_span_90 (lv_at hl 0 rfl) ?_
  refine lv_goto (tgt := 96) hx hb dX9_span_92 (by decide) ?_
  refine lv_istore_n (lv' := [(3, .int 10), (5, .int 10), (4, .int 10), (0, .ref a0), (1, .int 0), (2, .int 1)]) hx hb dX9_span_96 rfl hl (by decide) rfl (fun ls hl => ?_)
  refine lv_iinc (v := 11) (lv' := [(4, .int 11), (3, .int 10), (5, .int 10), (0, .ref a0), (1, .int 0), (2, .int 1)]) hx hb dX9_span_97 hl (k := 2) rfl (by decide +kernel) (by decide) rfl (fun ls hl => ?_)
  refine lv_goto (tgt := 43) hx hb dX9_span_100 (by decide) ?_
  refine lv_iload hx hb dX9_span_43 (lv_at hl 0 rfl) ?_
  refine lv_aload_n hx hb dX9_span_45 rfl (lv_at hl 3 rfl) ?_
  refine gf (k := 35) hx hb hts inX9 hown hK hP k_830 rfl (by decide) rfl 1 rfl (.int 11) rfl dX9_span_46 ?_
  refine t_icmp_ge hx hb dX9_span_49 103 (by decide) (by decide +kernel) ?_
  refine lv_iload_n hx hb dX9_span_103 rfl (lv_at hl 1 rfl) ?_
  exact r_i hx hb hr hk hK (hP.sub [] rfl) (hD.sub [] rfl rfl) hS dX9_span_104
set_option maxRecDepth 100000 in
set_option maxHeartbeats 4000000 in
theorem c561_X9_span_s1 (l : Launch) (dC : Nat → ClassId) (dI : Nat → Nat → Nat) (cI cJ cII cJJ : ClassId) (g a0 a1 a2 a3 a4 a5 a6 a7 a8 a9 a10 a11 a12 a13 a14 a15 a16 a17 a18 a19 a20 a21 a22 a23 a24 a25 a26 a27 : Nat) {p : Program} {e : Env} {s : State} {m : MethodId} {below : List Frame} {meth : Method} {c : Code} {A : Nat → Prop} {ls : Array Slot} {H : Heap} {locs : List Loc} (hx : p.tables.exec = Jvm.exec) (hb : c.code = cX9_span) (hr : meth.sig.returnType = (some .int)) (hml : c.maxLocals = 6) (hown : s.vm.findClass RX9 = some m.cls) (hts : ∀ w ∈ TT, w.before ([.ref a0, .int 0, .int 1] : List Value).toArray s = true) (hk : meth.locks = false) (hA : ∀ q, s.heap.size ≤ q → A q) (hK : va_K (dC, dI) vwCl (TY cI cJ cII cJJ) s) (hP : va_P (dC, dI) vwCl [(a4, .inl (cI, 777924, .inl (tb [0, 0, 0, 0, 1, 0, 0, 0, 2, 0, 0, 0, 3, 0, 0, 0, 4, 0, 0, 0, 5, 0, 0, 0, 6, 0, 0, 0, 7, 0, 0, 0, 8, 0, 0, 0, 9, 0, 0, 0, 10]))), (a0, .inr (9, [.ref a5, .ref a6, .ref a1, .ref a2, .ref a7, .ref a8, .ref a9, .ref a10, .ref a11, .ref a12, .ref a13, .ref a14, .int 1, .int 0, .int 0, .ref a15, .ref a16, .ref a17, .ref a18, .ref a19, .ref a20, .int 0, .int 0, .ref a21, .ref a22, .ref a23, .ref a24, .int 0, .int 0, .ref a25, .ref a26, .ref a27, .ref a3, .int 1, .ref a4, .int 11])), (a1, .inl (cI, 4, .inl (tb [0, 0, 0, 0]))), (a3, .inl (cI, 4, .inl (tb [10]))), (a2, .inl (cI, 4, .inl (tb [10, 10, 10, 10])))] H) (hD : va_D A [(a4, .inl (cI, 777924, .inl (tb [0, 0, 0, 0, 1, 0, 0, 0, 2, 0, 0, 0, 3, 0, 0, 0, 4, 0, 0, 0, 5, 0, 0, 0, 6, 0, 0, 0, 7, 0, 0, 0, 8, 0, 0, 0, 9, 0, 0, 0, 10]))), (a0, .inr (9, [.ref a5, .ref a6, .ref a1, .ref a2, .ref a7, .ref a8, .ref a9, .ref a10, .ref a11, .ref a12, .ref a13, .ref a14, .int 1, .int 0, .int 0, .ref a15, .ref a16, .ref a17, .ref a18, .ref a19, .ref a20, .int 0, .int 0, .ref a21, .ref a22, .ref a23, .ref a24, .int 0, .int 0, .ref a25, .ref a26, .ref a27, .ref a3, .int 1, .ref a4, .int 11])), (a1, .inl (cI, 4, .inl (tb [0, 0, 0, 0]))), (a3, .inl (cI, 4, .inl (tb [10]))), (a2, .inl (cI, 4, .inl (tb [10, 10, 10, 10])))]) (hS : va_S A s.heap H locs) (hX : GXA 0 g A s) (hl : lv_has ls 6 [(5, .int 4), (4, .int 4), (3, .int 3), (0, .ref a0), (1, .int 0), (2, .int 1)]) : W p l e ({ frames := 6, cells := 0, slots := 0, locals := 320 } : Room) s m ([.ref a0, .int 0, .int 1] : List Value).toArray below meth c H locs 0 0 (MQ below ((QcI dC dI (TY cI cJ cII cJJ) 10 []) A) ([.ref a0, .int 0, .int 1] : List Value).toArray s 0 0 A) (F0 m 96 ls [.int 4]) := by
  refine lv_istore_n (lv' := [(3, .int 4), (5, .int 4), (4, .int 4), (0, .ref a0), (1, .int 0), (2, .int 1)]) hx hb dX9_span_96 rfl hl (by decide) rfl (fun ls hl => ?_)
  refine lv_iinc (v := 5) (lv' := [(4, .int 5), (3, .int 4), (5, .int 4), (0, .ref a0), (1, .int 0), (2, .int 1)]) hx hb dX9_span_97 hl (k := 2) rfl (by decide +kernel) (by decide) rfl (fun ls hl => ?_)
  refine lv_goto (tgt := 43) hx hb dX9_span_100 (by decide) ?_
  refine lv_iload hx hb dX9_span_43 (lv_at hl 0 rfl) ?_
  refine lv_aload_n hx hb dX9_span_45 rfl (lv_at hl 3 rfl) ?_
  refine gf (k := 35) hx hb hts inX9 hown hK hP k_830 rfl (by decide) rfl 1 rfl (.int 11) rfl dX9_span_46 ?_
  refine f_icmp_ge hx hb dX9_span_49 103 (by decide) (by decide +kernel) ?_
  refine lv_aload_n hx hb dX9_span_52 rfl (lv_at hl 3 rfl) ?_
  refine gf (k := 34) hx hb hts inX9 hown hK hP k_829 rfl (by decide) rfl 1 rfl (.ref a4) rfl dX9_span_53 ?_
  refine lv_iconst (v := 4) hx hb dX9_span_56 (by decide) ?_
  refine lv_iload hx hb dX9_span_57 (lv_at hl 0 rfl) ?_
  refine v_imul hx hb dX9_span_59 20 (by decide +kernel) ?_
  refine lv_iload_n hx hb dX9_span_60 rfl (lv_at hl 4 rfl) ?_
  refine v_iadd hx hb dX9_span_61 20 (by decide +kernel) ?_
  refine ld_i hx hb hK hP 0 rfl (vin (by decide +kernel)) dX9_span_62 5 rfl ?_
  refine lv_istore (lv' := [(5, .int 5), (4, .int 5), (3, .int 4), (0, .ref a0), (1, .int 0), (2, .int 1)]) hx hb dX9_span_63 hl (by decide) rfl (fun ls hl => ?_)
  refine lv_iload_n hx hb dX9_span_65 rfl (lv_at hl 5 rfl) ?_
  refine t_if_ne hx hb dX9_span_66 84 (by decide) (by decide +kernel) ?_
  refine lv_iload hx hb dX9_span_84 (lv_at hl 0 rfl) ?_
  refine lv_iload_n hx hb dX9_span_86 rfl (lv_at hl 2 rfl) ?_
  refine f_icmp_le hx hb dX9_span_87 95 (by decide) (by decide +kernel) ?_
  refine lv_iload hx hb dX9_span_90 (lv_at hl 0 rfl) ?_
  refine lv_goto (tgt := 96) hx hb dX9_span_92 (by decide) ?_
  refine lv_istore_n (lv' := [(3, .int 5), (5, .int 5), (4, .int 5), (0, .ref a0), (1, .int 0), (2, .int 1)]) hx hb dX9_span_96 rfl hl (by decide) rfl (fun ls hl => ?_)
  refine lv_iinc (v := 6) (lv' := [(4, .int 6), (3, .int 5), (5, .int 5), (0, .ref a0), (1, .int 0), (2, .int 1)]) hx hb dX9_span_97 hl (k := 2) rfl (by decide +kernel) (by decide) rfl (fun ls hl => ?_)
  refine lv_goto (tgt := 43) hx hb dX9_span_100 (by decide) ?_
  refine lv_iload hx hb dX9_span_43 (lv_at hl 0 rfl) ?_
  refine lv_aload_n hx hb dX9_span_45 rfl (lv_at hl 3 rfl) ?_
  refine gf (k := 35) hx hb hts inX9 hown hK hP k_830 rfl (by decide) rfl 1 rfl (.int 11) rfl dX9_span_46 ?_
  refine f_icmp_ge hx hb dX9_span_49 103 (by decide) (by decide +kernel) ?_
  refine lv_aload_n hx hb dX9_span_52 rfl (lv_at hl 3 rfl) ?_
  refine gf (k := 34) hx hb hts inX9 hown hK hP k_829 rfl (by decide) rfl 1 rfl (.ref a4) rfl dX9_span_53 ?_
  refine lv_iconst (v := 4) hx hb dX9_span_56 (by decide) ?_
  refine lv_iload hx hb dX9_span_57 (lv_at hl 0 rfl) ?_
  refine v_imul hx hb dX9_span_59 24 (by decide +kernel) ?_
  refine lv_iload_n hx hb dX9_span_60 rfl (lv_at hl 4 rfl) ?_
  refine v_iadd hx hb dX9_span_61 24 (by decide +kernel) ?_
  refine ld_i hx hb hK hP 0 rfl (vin (by decide +kernel)) dX9_span_62 6 rfl ?_
  refine lv_istore (lv' := [(5, .int 6), (4, .int 6), (3, .int 5), (0, .ref a0), (1, .int 0), (2, .int 1)]) hx hb dX9_span_63 hl (by decide) rfl (fun ls hl => ?_)
  refine lv_iload_n hx hb dX9_span_65 rfl (lv_at hl 5 rfl) ?_
  refine t_if_ne hx hb dX9_span_66 84 (by decide) (by decide +kernel) ?_
  refine lv_iload hx hb dX9_span_84 (lv_at hl 0 rfl) ?_
  refine lv_iload_n hx hb dX9_span_86 rfl (lv_at hl 2 rfl) ?_
  refine f_icmp_le hx hb dX9_span_87 95 (by decide) (by decide +kernel) ?_
  refine lv_iload hx hb dX9_span_90 (lv_at hl 0 rfl) ?_
  refine lv_goto (tgt := 96) hx hb dX9_span_92 (by decide) ?_
  refine lv_istore_n (lv' := [(3, .int 6), (5, .int 6), (4, .int 6), (0, .ref a0), (1, .int 0), (2, .int 1)]) hx hb dX9_span_96 rfl hl (by decide) rfl (fun ls hl => ?_)
  refine lv_iinc (v := 7) (lv' := [(4, .int 7), (3, .int 6), (5, .int 6), (0, .ref a0), (1, .int 0), (2, .int 1)]) hx hb dX9_span_97 hl (k := 2) rfl (by decide +kernel) (by decide) rfl (fun ls hl => ?_)
  refine lv_goto (tgt := 43) hx hb dX9_span_100 (by decide) ?_
  refine lv_iload hx hb dX9_span_43 (lv_at hl 0 rfl) ?_
  refine lv_aload_n hx hb dX9_span_45 rfl (lv_at hl 3 rfl) ?_
  refine gf (k := 35) hx hb hts inX9 hown hK hP k_830 rfl (by decide) rfl 1 rfl (.int 11) rfl dX9_span_46 ?_
  refine f_icmp_ge hx hb dX9_span_49 103 (by decide) (by decide +kernel) ?_
  refine lv_aload_n hx hb dX9_span_52 rfl (lv_at hl 3 rfl) ?_
  refine gf (k := 34) hx hb hts inX9 hown hK hP k_829 rfl (by decide) rfl 1 rfl (.ref a4) rfl dX9_span_53 ?_
  refine lv_iconst (v := 4) hx hb dX9_span_56 (by decide) ?_
  refine lv_iload hx hb dX9_span_57 (lv_at hl 0 rfl) ?_
  refine v_imul hx hb dX9_span_59 28 (by decide +kernel) ?_
  refine lv_iload_n hx hb dX9_span_60 rfl (lv_at hl 4 rfl) ?_
  refine v_iadd hx hb dX9_span_61 28 (by decide +kernel) ?_
  refine ld_i hx hb hK hP 0 rfl (vin (by decide +kernel)) dX9_span_62 7 rfl ?_
  refine lv_istore (lv' := [(5, .int 7), (4, .int 7), (3, .int 6), (0, .ref a0), (1, .int 0), (2, .int 1)]) hx hb dX9_span_63 hl (by decide) rfl (fun ls hl => ?_)
  refine lv_iload_n hx hb dX9_span_65 rfl (lv_at hl 5 rfl) ?_
  refine t_if_ne hx hb dX9_span_66 84 (by decide) (by decide +kernel) ?_
  refine lv_iload hx hb dX9_span_84 (lv_at hl 0 rfl) ?_
  refine lv_iload_n hx hb dX9_span_86 rfl (lv_at hl 2 rfl) ?_
  refine f_icmp_le hx hb dX9_span_87 95 (by decide) (by decide +kernel) ?_
  refine lv_iload hx hb dX9_span_90 (lv_at hl 0 rfl) ?_
  refine lv_goto (tgt := 96) hx hb dX9_span_92 (by decide) ?_
  refine lv_istore_n (lv' := [(3, .int 7), (5, .int 7), (4, .int 7), (0, .ref a0), (1, .int 0), (2, .int 1)]) hx hb dX9_span_96 rfl hl (by decide) rfl (fun ls hl => ?_)
  refine lv_iinc (v := 8) (lv' := [(4, .int 8), (3, .int 7), (5, .int 7), (0, .ref a0), (1, .int 0), (2, .int 1)]) hx hb dX9_span_97 hl (k := 2) rfl (by decide +kernel) (by decide) rfl (fun ls hl => ?_)
  refine lv_goto (tgt := 43) hx hb dX9_span_100 (by decide) ?_
  refine lv_iload hx hb dX9_span_43 (lv_at hl 0 rfl) ?_
  refine lv_aload_n hx hb dX9_span_45 rfl (lv_at hl 3 rfl) ?_
  refine gf (k := 35) hx hb hts inX9 hown hK hP k_830 rfl (by decide) rfl 1 rfl (.int 11) rfl dX9_span_46 ?_
  refine f_icmp_ge hx hb dX9_span_49 103 (by decide) (by decide +kernel) ?_
  refine lv_aload_n hx hb dX9_span_52 rfl (lv_at hl 3 rfl) ?_
  refine gf (k := 34) hx hb hts inX9 hown hK hP k_829 rfl (by decide) rfl 1 rfl (.ref a4) rfl dX9_span_53 ?_
  refine lv_iconst (v := 4) hx hb dX9_span_56 (by decide) ?_
  refine lv_iload hx hb dX9_span_57 (lv_at hl 0 rfl) ?_
  refine v_imul hx hb dX9_span_59 32 (by decide +kernel) ?_
  refine lv_iload_n hx hb dX9_span_60 rfl (lv_at hl 4 rfl) ?_
  refine v_iadd hx hb dX9_span_61 32 (by decide +kernel) ?_
  refine ld_i hx hb hK hP 0 rfl (vin (by decide +kernel)) dX9_span_62 8 rfl ?_
  refine lv_istore (lv' := [(5, .int 8), (4, .int 8), (3, .int 7), (0, .ref a0), (1, .int 0), (2, .int 1)]) hx hb dX9_span_63 hl (by decide) rfl (fun ls hl => ?_)
  refine lv_iload_n hx hb dX9_span_65 rfl (lv_at hl 5 rfl) ?_
  refine t_if_ne hx hb dX9_span_66 84 (by decide) (by decide +kernel) ?_
  refine lv_iload hx hb dX9_span_84 (lv_at hl 0 rfl) ?_
  refine lv_iload_n hx hb dX9_span_86 rfl (lv_at hl 2 rfl) ?_
  refine f_icmp_le hx hb dX9_span_87 95 (by decide) (by decide +kernel) ?_
  refine lv_iload hx hb dX9_span_90 (lv_at hl 0 rfl) ?_
  refine lv_goto (tgt := 96) hx hb dX9_span_92 (by decide) ?_
  refine lv_istore_n (lv' := [(3, .int 8), (5, .int 8), (4, .int 8), (0, .ref a0), (1, .int 0), (2, .int 1)]) hx hb dX9_span_96 rfl hl (by decide) rfl (fun ls hl => ?_)
  refine lv_iinc (v := 9) (lv' := [(4, .int 9), (3, .int 8), (5, .int 8), (0, .ref a0), (1, .int 0), (2, .int 1)]) hx hb dX9_span_97 hl (k := 2) rfl (by decide +kernel) (by decide) rfl (fun ls hl => ?_)
  refine lv_goto (tgt := 43) hx hb dX9_span_100 (by decide) ?_
  refine lv_iload hx hb dX9_span_43 (lv_at hl 0 rfl) ?_
  refine lv_aload_n hx hb dX9_span_45 rfl (lv_at hl 3 rfl) ?_
  refine gf (k := 35) hx hb hts inX9 hown hK hP k_830 rfl (by decide) rfl 1 rfl (.int 11) rfl dX9_span_46 ?_
  refine f_icmp_ge hx hb dX9_span_49 103 (by decide) (by decide +kernel) ?_
  refine lv_aload_n hx hb dX9_span_52 rfl (lv_at hl 3 rfl) ?_
  refine gf (k := 34) hx hb hts inX9 hown hK hP k_829 rfl (by decide) rfl 1 rfl (.ref a4) rfl dX9_span_53 ?_
  refine lv_iconst (v := 4) hx hb dX9_span_56 (by decide) ?_
  refine lv_iload hx hb dX9_span_57 (lv_at hl 0 rfl) ?_
  refine v_imul hx hb dX9_span_59 36 (by decide +kernel) ?_
  refine lv_iload_n hx hb dX9_span_60 rfl (lv_at hl 4 rfl) ?_
  refine v_iadd hx hb dX9_span_61 36 (by decide +kernel) ?_
  refine ld_i hx hb hK hP 0 rfl (vin (by decide +kernel)) dX9_span_62 9 rfl ?_
  refine lv_istore (lv' := [(5, .int 9), (4, .int 9), (3, .int 8), (0, .ref a0), (1, .int 0), (2, .int 1)]) hx hb dX9_span_63 hl (by decide) rfl (fun ls hl => ?_)
  refine lv_iload_n hx hb dX9_span_65 rfl (lv_at hl 5 rfl) ?_
  refine t_if_ne hx hb dX9_span_66 84 (by decide) (by decide +kernel) ?_
  exact c561_X9_span_s2 l dC dI cI cJ cII cJJ g a0 a1 a2 a3 a4 a5 a6 a7 a8 a9 a10 a11 a12 a13 a14 a15 a16 a17 a18 a19 a20 a21 a22 a23 a24 a25 a26 a27 hx hb hr hml hown hts hk hA hK hP hD hS hX hl
set_option maxRecDepth 100000 in
set_option maxHeartbeats 4000000 in
theorem c561_X9_span (l : Launch) (dC : Nat → ClassId) (dI : Nat → Nat → Nat) (cI cJ cII cJJ : ClassId) (sz g a0 a1 a2 a3 a4 a5 a6 a7 a8 a9 a10 a11 a12 a13 a14 a15 a16 a17 a18 a19 a20 a21 a22 a23 a24 a25 a26 a27 : Nat) : Met l yX9_span (.code yX9_span cX9_span 6 (some .int) :: TT) ({ frames := 6, cells := 0, slots := 0, locals := 320 }) (PcS dC dI (TY cI cJ cII cJJ) [.ref a0, .int 0, .int 1] [(a0, .inr (9, [.ref a5, .ref a6, .ref a1, .ref a2, .ref a7, .ref a8, .ref a9, .ref a10, .ref a11, .ref a12, .ref a13, .ref a14, .int 1, .int 0, .int 0, .ref a15, .ref a16, .ref a17, .ref a18, .ref a19, .ref a20, .int 0, .int 0, .ref a21, .ref a22, .ref a23, .ref a24, .int 0, .int 0, .ref a25, .ref a26, .ref a27, .ref a3, .int 0, .ref a4, .int 0])), (a1, .inl (cI, 4, .inl (tb [0, 0, 0, 0]))), (a2, .inl (cI, 4, .inl (tb [10, 10, 10, 10]))), (a3, .inl (cI, 4, .inl (tb []))), (a4, .inl (cI, 777924, .inl (tb [])))] sz 0 g) ((QcI dC dI (TY cI cJ cII cJJ) 10 []) (va_A [(a0, .inr (9, [.ref a5, .ref a6, .ref a1, .ref a2, .ref a7, .ref a8, .ref a9, .ref a10, .ref a11, .ref a12, .ref a13, .ref a14, .int 1, .int 0, .int 0, .ref a15, .ref a16, .ref a17, .ref a18, .ref a19, .ref a20, .int 0, .int 0, .ref a21, .ref a22, .ref a23, .ref a24, .int 0, .int 0, .ref a25, .ref a26, .ref a27, .ref a3, .int 0, .ref a4, .int 0])), (a1, .inl (cI, 4, .inl (tb [0, 0, 0, 0]))), (a2, .inl (cI, 4, .inl (tb [10, 10, 10, 10]))), (a3, .inl (cI, 4, .inl (tb []))), (a4, .inl (cI, 777924, .inl (tb [])))] sz)) 0 0 (va_A [(a0, .inr (9, [.ref a5, .ref a6, .ref a1, .ref a2, .ref a7, .ref a8, .ref a9, .ref a10, .ref a11, .ref a12, .ref a13, .ref a14, .int 1, .int 0, .int 0, .ref a15, .ref a16, .ref a17, .ref a18, .ref a19, .ref a20, .int 0, .int 0, .ref a21, .ref a22, .ref a23, .ref a24, .int 0, .int 0, .ref a25, .ref a26, .ref a27, .ref a3, .int 0, .ref a4, .int 0])), (a1, .inl (cI, 4, .inl (tb [0, 0, 0, 0]))), (a2, .inl (cI, 4, .inl (tb [10, 10, 10, 10]))), (a3, .inl (cI, 4, .inl (tb []))), (a4, .inl (cI, 777924, .inl (tb [])))] sz) := by
  refine SM.of (y := yX9_span) (maxL := 6) (av := [.ref a0, .int 0, .int 1]) (QcI dC dI (TY cI cJ cII cJJ) 10 []) (by decide +kernel) (Nat.le_of_ble_eq_true rfl) (fun p e s m below meth c A ls hx hb hr hml hown hts hk hnm hA hK hP hD hS hX hl => ?_)
  have hown : s.vm.findClass RX9 = some m.cls := hown
  have hl : lv_has ls 6 [(0, .ref a0), (1, .int 0), (2, .int 1)] := hl
  refine lv_aload_n hx hb dX9_span_0 rfl (lv_at hl 0 rfl) ?_
  refine kV_v (q0 := 0) ⟨hx, hb, hml, hown, hts⟩ hK hP hD hS hA hX cv_RX9_238 [0, 1, 2, 3, 4] [] (wr := []) rfl rfl rfl rfl (by decide) (c515_X9_gather l dC dI cI cJ cII cJJ s.heap.size 0 a0 a1 a2 a3 a4 a5 a6 a7 a8 a9 a10 a11 a12 a13 a14 a15 a16 a17 a18 a19 a20 a21 a22 a23 a24 a25 a26 a27) ⟨by decide +kernel, by decide +kernel⟩ rfl rfl (Or.inl rfl) (rest := []) rfl rfl rfl hl.1 rfl (Nat.le_of_ble_eq_true rfl) dX9_span_1 ⟨Nat.le_of_ble_eq_true rfl, Nat.le_of_ble_eq_true rfl⟩ (fun _ => rfl) (W' := [(a4, .inl (cI, 777924, .inl (tb [0, 0, 0, 0, 1, 0, 0, 0, 2, 0, 0, 0, 3, 0, 0, 0, 4, 0, 0, 0, 5, 0, 0, 0, 6, 0, 0, 0, 7, 0, 0, 0, 8, 0, 0, 0, 9, 0, 0, 0, 10]))), (a0, .inr (9, [.ref a5, .ref a6, .ref a1, .ref a2, .ref a7, .ref a8, .ref a9, .ref a10, .ref a11, .ref a12, .ref a13, .ref a14, .int 1, .int 0, .int 0, .ref a15, .ref a16, .ref a17, .ref a18, .ref a19, .ref a20, .int 0, .int 0, .ref a21, .ref a22, .ref a23, .ref a24, .int 0, .int 0, .ref a25, .ref a26, .ref a27, .ref a3, .int 1, .ref a4, .int 11])), (a1, .inl (cI, 4, .inl (tb [0, 0, 0, 0]))), (a3, .inl (cI, 4, .inl (tb [10]))), (a2, .inl (cI, 4, .inl (tb [10, 10, 10, 10])))]) rfl (fun H locs hP hD hS => ?_)
  refine lv_aload_n hx hb dX9_span_4 rfl (lv_at hl 0 rfl) ?_
  refine gf (k := 35) hx hb hts inX9 hown hK hP k_830 rfl (by decide) rfl 1 rfl (.int 11) rfl dX9_span_5 ?_
  refine f_if_eq hx hb dX9_span_8 30 (by decide) (by decide +kernel) ?_
  refine lv_iload_n hx hb dX9_span_11 rfl (lv_at hl 1 rfl) ?_
  refine lv_aload_n hx hb dX9_span_12 rfl (lv_at hl 0 rfl) ?_
  refine gf (k := 12) hx hb hts inX9 hown hK hP k_807 rfl (by decide) rfl 1 rfl (.int 1) rfl dX9_span_13 ?_
  refine kS_i ⟨hx, hb, hml, hown, hts⟩ hK hP hD hS hA hX cs_RX9_116 [] [0, 1, 2, 3, 4] (wr := [(a4, .inl (cI, 777924, .inl (tb [0, 0, 0, 0, 1, 0, 0, 0, 2, 0, 0, 0, 3, 0, 0, 0, 4, 0, 0, 0, 5, 0, 0, 0, 6, 0, 0, 0, 7, 0, 0, 0, 8, 0, 0, 0, 9, 0, 0, 0, 10]))), (a0, .inr (9, [.ref a5, .ref a6, .ref a1, .ref a2, .ref a7, .ref a8, .ref a9, .ref a10, .ref a11, .ref a12, .ref a13, .ref a14, .int 1, .int 0, .int 0, .ref a15, .ref a16, .ref a17, .ref a18, .ref a19, .ref a20, .int 0, .int 0, .ref a21, .ref a22, .ref a23, .ref a24, .int 0, .int 0, .ref a25, .ref a26, .ref a27, .ref a3, .int 1, .ref a4, .int 11])), (a1, .inl (cI, 4, .inl (tb [0, 0, 0, 0]))), (a3, .inl (cI, 4, .inl (tb [10]))), (a2, .inl (cI, 4, .inl (tb [10, 10, 10, 10])))]) rfl rfl rfl rfl (by decide) (c323_X9_isIn l dC dI cI cJ cII cJJ H.size 0) ⟨by decide +kernel, by decide +kernel⟩ rfl rfl (Or.inl rfl) (rest := []) rfl hl.1 rfl (Nat.le_of_ble_eq_true rfl) dX9_span_16 ⟨Nat.le_of_ble_eq_true rfl, Nat.le_of_ble_eq_true rfl⟩ (W' := [(a4, .inl (cI, 777924, .inl (tb [0, 0, 0, 0, 1, 0, 0, 0, 2, 0, 0, 0, 3, 0, 0, 0, 4, 0, 0, 0, 5, 0, 0, 0, 6, 0, 0, 0, 7, 0, 0, 0, 8, 0, 0, 0, 9, 0, 0, 0, 10]))), (a0, .inr (9, [.ref a5, .ref a6, .ref a1, .ref a2, .ref a7, .ref a8, .ref a9, .ref a10, .ref a11, .ref a12, .ref a13, .ref a14, .int 1, .int 0, .int 0, .ref a15, .ref a16, .ref a17, .ref a18, .ref a19, .ref a20, .int 0, .int 0, .ref a21, .ref a22, .ref a23, .ref a24, .int 0, .int 0, .ref a25, .ref a26, .ref a27, .ref a3, .int 1, .ref a4, .int 11])), (a1, .inl (cI, 4, .inl (tb [0, 0, 0, 0]))), (a3, .inl (cI, 4, .inl (tb [10]))), (a2, .inl (cI, 4, .inl (tb [10, 10, 10, 10])))]) rfl (fun H locs hP hD hS => ?_)
  refine f_if_eq hx hb dX9_span_19 30 (by decide) (by decide +kernel) ?_
  refine lv_iload_n hx hb dX9_span_22 rfl (lv_at hl 2 rfl) ?_
  refine lv_iconst (v := 2) hx hb dX9_span_23 (by decide) ?_
  refine kS_i ⟨hx, hb, hml, hown, hts⟩ hK hP hD hS hA hX cs_RX9_116 [] [0, 1, 2, 3, 4] (wr := [(a4, .inl (cI, 777924, .inl (tb [0, 0, 0, 0, 1, 0, 0, 0, 2, 0, 0, 0, 3, 0, 0, 0, 4, 0, 0, 0, 5, 0, 0, 0, 6, 0, 0, 0, 7, 0, 0, 0, 8, 0, 0, 0, 9, 0, 0, 0, 10]))), (a0, .inr (9, [.ref a5, .ref a6, .ref a1, .ref a2, .ref a7, .ref a8, .ref a9, .ref a10, .ref a11, .ref a12, .ref a13, .ref a14, .int 1, .int 0, .int 0, .ref a15, .ref a16, .ref a17, .ref a18, .ref a19, .ref a20, .int 0, .int 0, .ref a21, .ref a22, .ref a23, .ref a24, .int 0, .int 0, .ref a25, .ref a26, .ref a27, .ref a3, .int 1, .ref a4, .int 11])), (a1, .inl (cI, 4, .inl (tb [0, 0, 0, 0]))), (a3, .inl (cI, 4, .inl (tb [10]))), (a2, .inl (cI, 4, .inl (tb [10, 10, 10, 10])))]) rfl rfl rfl rfl (by decide) (c402_X9_isIn l dC dI cI cJ cII cJJ H.size 0) ⟨by decide +kernel, by decide +kernel⟩ rfl rfl (Or.inl rfl) (rest := []) rfl hl.1 rfl (Nat.le_of_ble_eq_true rfl) dX9_span_24 ⟨Nat.le_of_ble_eq_true rfl, Nat.le_of_ble_eq_true rfl⟩ (W' := [(a4, .inl (cI, 777924, .inl (tb [0, 0, 0, 0, 1, 0, 0, 0, 2, 0, 0, 0, 3, 0, 0, 0, 4, 0, 0, 0, 5, 0, 0, 0, 6, 0, 0, 0, 7, 0, 0, 0, 8, 0, 0, 0, 9, 0, 0, 0, 10]))), (a0, .inr (9, [.ref a5, .ref a6, .ref a1, .ref a2, .ref a7, .ref a8, .ref a9, .ref a10, .ref a11, .ref a12, .ref a13, .ref a14, .int 1, .int 0, .int 0, .ref a15, .ref a16, .ref a17, .ref a18, .ref a19, .ref a20, .int 0, .int 0, .ref a21, .ref a22, .ref a23, .ref a24, .int 0, .int 0, .ref a25, .ref a26, .ref a27, .ref a3, .int 1, .ref a4, .int 11])), (a1, .inl (cI, 4, .inl (tb [0, 0, 0, 0]))), (a3, .inl (cI, 4, .inl (tb [10]))), (a2, .inl (cI, 4, .inl (tb [10, 10, 10, 10])))]) rfl (fun H locs hP hD hS => ?_)
  refine t_if_ne hx hb dX9_span_27 33 (by decide) (by decide +kernel) ?_
  refine lv_aload_n hx hb dX9_span_33 rfl (lv_at hl 0 rfl) ?_
  refine gf (k := 34) hx hb hts inX9 hown hK hP k_829 rfl (by decide) rfl 1 rfl (.ref a4) rfl dX9_span_34 ?_
  refine lv_iload_n hx hb dX9_span_37 rfl (lv_at hl 1 rfl) ?_
  refine ld_i hx hb hK hP 0 rfl (vin (by decide +kernel)) dX9_span_38 0 rfl ?_
  refine lv_istore_n (lv' := [(3, .int 0), (0, .ref a0), (1, .int 0), (2, .int 1)]) hx hb dX9_span_39 rfl hl (by decide) rfl (fun ls hl => ?_)
  refine lv_iconst (v := 1) hx hb dX9_span_40 (by decide) ?_
  refine lv_istore (lv' := [(4, .int 1), (3, .int 0), (0, .ref a0), (1, .int 0), (2, .int 1)]) hx hb dX9_span_41 hl (by decide) rfl (fun ls hl => ?_)
  refine lv_iload hx hb dX9_span_43 (lv_at hl 0 rfl) ?_
  refine lv_aload_n hx hb dX9_span_45 rfl (lv_at hl 2 rfl) ?_
  refine gf (k := 35) hx hb hts inX9 hown hK hP k_830 rfl (by decide) rfl 1 rfl (.int 11) rfl dX9_span_46 ?_
  refine f_icmp_ge hx hb dX9_span_49 103 (by decide) (by decide +kernel) ?_
  refine lv_aload_n hx hb dX9_span_52 rfl (lv_at hl 2 rfl) ?_
  refine gf (k := 34) hx hb hts inX9 hown hK hP k_829 rfl (by decide) rfl 1 rfl (.ref a4) rfl dX9_span_53 ?_
  refine lv_iconst (v := 4) hx hb dX9_span_56 (by decide) ?_
  refine lv_iload hx hb dX9_span_57 (lv_at hl 0 rfl) ?_
  refine v_imul hx hb dX9_span_59 4 (by decide +kernel) ?_
  refine lv_iload_n hx hb dX9_span_60 rfl (lv_at hl 3 rfl) ?_
  refine v_iadd hx hb dX9_span_61 4 (by decide +kernel) ?_
  refine ld_i hx hb hK hP 0 rfl (vin (by decide +kernel)) dX9_span_62 1 rfl ?_
  refine lv_istore (lv' := [(5, .int 1), (4, .int 1), (3, .int 0), (0, .ref a0), (1, .int 0), (2, .int 1)]) hx hb dX9_span_63 hl (by decide) rfl (fun ls hl => ?_)
  refine lv_iload_n hx hb dX9_span_65 rfl (lv_at hl 5 rfl) ?_
  refine t_if_ne hx hb dX9_span_66 84 (by decide) (by decide +kernel) ?_
  refine lv_iload hx hb dX9_span_84 (lv_at hl 0 rfl) ?_
  refine lv_iload_n hx hb dX9_span_86 rfl (lv_at hl 2 rfl) ?_
  refine f_icmp_le hx hb dX9_span_87 95 (by decide) (by decide +kernel) ?_
  refine lv_iload hx hb dX9_span_90 (lv_at hl 0 rfl) ?_
  refine lv_goto (tgt := 96) hx hb dX9_span_92 (by decide) ?_
  refine lv_istore_n (lv' := [(3, .int 1), (5, .int 1), (4, .int 1), (0, .ref a0), (1, .int 0), (2, .int 1)]) hx hb dX9_span_96 rfl hl (by decide) rfl (fun ls hl => ?_)
  refine lv_iinc (v := 2) (lv' := [(4, .int 2), (3, .int 1), (5, .int 1), (0, .ref a0), (1, .int 0), (2, .int 1)]) hx hb dX9_span_97 hl (k := 2) rfl (by decide +kernel) (by decide) rfl (fun ls hl => ?_)
  refine lv_goto (tgt := 43) hx hb dX9_span_100 (by decide) ?_
  refine lv_iload hx hb dX9_span_43 (lv_at hl 0 rfl) ?_
  refine lv_aload_n hx hb dX9_span_45 rfl (lv_at hl 3 rfl) ?_
  refine gf (k := 35) hx hb hts inX9 hown hK hP k_830 rfl (by decide) rfl 1 rfl (.int 11) rfl dX9_span_46 ?_
  refine f_icmp_ge hx hb dX9_span_49 103 (by decide) (by decide +kernel) ?_
  refine lv_aload_n hx hb dX9_span_52 rfl (lv_at hl 3 rfl) ?_
  refine gf (k := 34) hx hb hts inX9 hown hK hP k_829 rfl (by decide) rfl 1 rfl (.ref a4) rfl dX9_span_53 ?_
  refine lv_iconst (v := 4) hx hb dX9_span_56 (by decide) ?_
  refine lv_iload hx hb dX9_span_57 (lv_at hl 0 rfl) ?_
  refine v_imul hx hb dX9_span_59 8 (by decide +kernel) ?_
  refine lv_iload_n hx hb dX9_span_60 rfl (lv_at hl 4 rfl) ?_
  refine v_iadd hx hb dX9_span_61 8 (by decide +kernel) ?_
  refine ld_i hx hb hK hP 0 rfl (vin (by decide +kernel)) dX9_span_62 2 rfl ?_
  refine lv_istore (lv' := [(5, .int 2), (4, .int 2), (3, .int 1), (0, .ref a0), (1, .int 0), (2, .int 1)]) hx hb dX9_span_63 hl (by decide) rfl (fun ls hl => ?_)
  refine lv_iload_n hx hb dX9_span_65 rfl (lv_at hl 5 rfl) ?_
  refine t_if_ne hx hb dX9_span_66 84 (by decide) (by decide +kernel) ?_
  refine lv_iload hx hb dX9_span_84 (lv_at hl 0 rfl) ?_
  refine lv_iload_n hx hb dX9_span_86 rfl (lv_at hl 2 rfl) ?_
  refine f_icmp_le hx hb dX9_span_87 95 (by decide) (by decide +kernel) ?_
  refine lv_iload hx hb dX9_span_90 (lv_at hl 0 rfl) ?_
  refine lv_goto (tgt := 96) hx hb dX9_span_92 (by decide) ?_
  refine lv_istore_n (lv' := [(3, .int 2), (5, .int 2), (4, .int 2), (0, .ref a0), (1, .int 0), (2, .int 1)]) hx hb dX9_span_96 rfl hl (by decide) rfl (fun ls hl => ?_)
  refine lv_iinc (v := 3) (lv' := [(4, .int 3), (3, .int 2), (5, .int 2), (0, .ref a0), (1, .int 0), (2, .int 1)]) hx hb dX9_span_97 hl (k := 2) rfl (by decide +kernel) (by decide) rfl (fun ls hl => ?_)
  refine lv_goto (tgt := 43) hx hb dX9_span_100 (by decide) ?_
  refine lv_iload hx hb dX9_span_43 (lv_at hl 0 rfl) ?_
  refine lv_aload_n hx hb dX9_span_45 rfl (lv_at hl 3 rfl) ?_
  refine gf (k := 35) hx hb hts inX9 hown hK hP k_830 rfl (by decide) rfl 1 rfl (.int 11) rfl dX9_span_46 ?_
  refine f_icmp_ge hx hb dX9_span_49 103 (by decide) (by decide +kernel) ?_
  refine lv_aload_n hx hb dX9_span_52 rfl (lv_at hl 3 rfl) ?_
  refine gf (k := 34) hx hb hts inX9 hown hK hP k_829 rfl (by decide) rfl 1 rfl (.ref a4) rfl dX9_span_53 ?_
  refine lv_iconst (v := 4) hx hb dX9_span_56 (by decide) ?_
  refine lv_iload hx hb dX9_span_57 (lv_at hl 0 rfl) ?_
  refine v_imul hx hb dX9_span_59 12 (by decide +kernel) ?_
  refine lv_iload_n hx hb dX9_span_60 rfl (lv_at hl 4 rfl) ?_
  refine v_iadd hx hb dX9_span_61 12 (by decide +kernel) ?_
  refine ld_i hx hb hK hP 0 rfl (vin (by decide +kernel)) dX9_span_62 3 rfl ?_
  refine lv_istore (lv' := [(5, .int 3), (4, .int 3), (3, .int 2), (0, .ref a0), (1, .int 0), (2, .int 1)]) hx hb dX9_span_63 hl (by decide) rfl (fun ls hl => ?_)
  refine lv_iload_n hx hb dX9_span_65 rfl (lv_at hl 5 rfl) ?_
  refine t_if_ne hx hb dX9_span_66 84 (by decide) (by decide +kernel) ?_
  refine lv_iload hx hb dX9_span_84 (lv_at hl 0 rfl) ?_
  refine lv_iload_n hx hb dX9_span_86 rfl (lv_at hl 2 rfl) ?_
  refine f_icmp_le hx hb dX9_span_87 95 (by decide) (by decide +kernel) ?_
  refine lv_iload hx hb dX9_span_90 (lv_at hl 0 rfl) ?_
  refine lv_goto (tgt := 96) hx hb dX9_span_92 (by decide) ?_
  refine lv_istore_n (lv' := [(3, .int 3), (5, .int 3), (4, .int 3), (0, .ref a0), (1, .int 0), (2, .int 1)]) hx hb dX9_span_96 rfl hl (by decide) rfl (fun ls hl => ?_)
  refine lv_iinc (v := 4) (lv' := [(4, .int 4), (3, .int 3), (5, .int 3), (0, .ref a0), (1, .int 0), (2, .int 1)]) hx hb dX9_span_97 hl (k := 2) rfl (by decide +kernel) (by decide) rfl (fun ls hl => ?_)
  refine lv_goto (tgt := 43) hx hb dX9_span_100 (by decide) ?_
  refine lv_iload hx hb dX9_span_43 (lv_at hl 0 rfl) ?_
  refine lv_aload_n hx hb dX9_span_45 rfl (lv_at hl 3 rfl) ?_
  refine gf (k := 35) hx hb hts inX9 hown hK hP k_830 rfl (by decide) rfl 1 rfl (.int 11) rfl dX9_span_46 ?_
  refine f_icmp_ge hx hb dX9_span_49 103 (by decide) (by decide +kernel) ?_
  refine lv_aload_n hx hb dX9_span_52 rfl (lv_at hl 3 rfl) ?_
  refine gf (k := 34) hx hb hts inX9 hown hK hP k_829 rfl (by decide) rfl 1 rfl (.ref a4) rfl dX9_span_53 ?_
  refine lv_iconst (v := 4) hx hb dX9_span_56 (by decide) ?_
  refine lv_iload hx hb dX9_span_57 (lv_at hl 0 rfl) ?_
  refine v_imul hx hb dX9_span_59 16 (by decide +kernel) ?_
  refine lv_iload_n hx hb dX9_span_60 rfl (lv_at hl 4 rfl) ?_
  refine v_iadd hx hb dX9_span_61 16 (by decide +kernel) ?_
  refine ld_i hx hb hK hP 0 rfl (vin (by decide +kernel)) dX9_span_62 4 rfl ?_
  refine lv_istore (lv' := [(5, .int 4), (4, .int 4), (3, .int 3), (0, .ref a0), (1, .int 0), (2, .int 1)]) hx hb dX9_span_63 hl (by decide) rfl (fun ls hl => ?_)
  refine lv_iload_n hx hb dX9_span_65 rfl (lv_at hl 5 rfl) ?_
  refine t_if_ne hx hb dX9_span_66 84 (by decide) (by decide +kernel) ?_
  refine lv_iload hx hb dX9_span_84 (lv_at hl 0 rfl) ?_
  refine lv_iload_n hx hb dX9_span_86 rfl (lv_at hl 2 rfl) ?_
  refine f_icmp_le hx hb dX9_span_87 95 (by decide) (by decide +kernel) ?_
  refine lv_iload hx hb dX9_span_90 (lv_at hl 0 rfl) ?_
  refine lv_goto (tgt := 96) hx hb dX9_span_92 (by decide) ?_
  exact c561_X9_span_s1 l dC dI cI cJ cII cJJ g a0 a1 a2 a3 a4 a5 a6 a7 a8 a9 a10 a11 a12 a13 a14 a15 a16 a17 a18 a19 a20 a21 a22 a23 a24 a25 a26 a27 hx hb hr hml hown hts hk hA hK hP hD hS hX hl
set_option maxRecDepth 100000 in
set_option maxHeartbeats 4000000 in
theorem c562_X9_extreme (l : Launch) (dC : Nat → ClassId) (dI : Nat → Nat → Nat) (cI cJ cII cJJ : ClassId) (sz g a0 a1 a2 a3 a4 a5 a6 a7 a8 a9 a10 a11 a12 a13 a14 a15 a16 a17 a18 a19 a20 a21 a22 a23 a24 a25 a26 a27 : Nat) (x0 : Int32) (h_x0 : -2147483648 ≤ x0.toInt ∧ x0.toInt ≤ -1) : Met l yX9_extreme (.code yX9_extreme cX9_extreme 8 (some .int) :: TT) ({ frames := 6, cells := 0, slots := 0, locals := 320 }) (PcS dC dI (TY cI cJ cII cJJ) [.ref a0, .int x0] [(a0, .inr (9, [.ref a5, .ref a6, .ref a1, .ref a2, .ref a7, .ref a8, .ref a9, .ref a10, .ref a11, .ref a12, .ref a13, .ref a14, .int 1, .int 0, .int 0, .ref a15, .ref a16, .ref a17, .ref a18, .ref a19, .ref a20, .int 0, .int 0, .ref a21, .ref a22, .ref a23, .ref a24, .int 0, .int 0, .ref a25, .ref a26, .ref a27, .ref a3, .int 0, .ref a4, .int 0])), (a1, .inl (cI, 4, .inl (tb [0, 0, 0, 0]))), (a2, .inl (cI, 4, .inl (tb [10, 10, 10, 10]))), (a3, .inl (cI, 4, .inl (tb []))), (a4, .inl (cI, 777924, .inl (tb [])))] sz 0 g) ((QcI dC dI (TY cI cJ cII cJJ) (-2) []) (va_A [(a0, .inr (9, [.ref a5, .ref a6, .ref a1, .ref a2, .ref a7, .ref a8, .ref a9, .ref a10, .ref a11, .ref a12, .ref a13, .ref a14, .int 1, .int 0, .int 0, .ref a15, .ref a16, .ref a17, .ref a18, .ref a19, .ref a20, .int 0, .int 0, .ref a21, .ref a22, .ref a23, .ref a24, .int 0, .int 0, .ref a25, .ref a26, .ref a27, .ref a3, .int 0, .ref a4, .int 0])), (a1, .inl (cI, 4, .inl (tb [0, 0, 0, 0]))), (a2, .inl (cI, 4, .inl (tb [10, 10, 10, 10]))), (a3, .inl (cI, 4, .inl (tb []))), (a4, .inl (cI, 777924, .inl (tb [])))] sz)) 0 0 (va_A [(a0, .inr (9, [.ref a5, .ref a6, .ref a1, .ref a2, .ref a7, .ref a8, .ref a9, .ref a10, .ref a11, .ref a12, .ref a13, .ref a14, .int 1, .int 0, .int 0, .ref a15, .ref a16, .ref a17, .ref a18, .ref a19, .ref a20, .int 0, .int 0, .ref a21, .ref a22, .ref a23, .ref a24, .int 0, .int 0, .ref a25, .ref a26, .ref a27, .ref a3, .int 0, .ref a4, .int 0])), (a1, .inl (cI, 4, .inl (tb [0, 0, 0, 0]))), (a2, .inl (cI, 4, .inl (tb [10, 10, 10, 10]))), (a3, .inl (cI, 4, .inl (tb []))), (a4, .inl (cI, 777924, .inl (tb [])))] sz) := by
  refine SM.of (y := yX9_extreme) (maxL := 8) (av := [.ref a0, .int x0]) (QcI dC dI (TY cI cJ cII cJJ) (-2) []) (by decide +kernel) (Nat.le_of_ble_eq_true rfl) (fun p e s m below meth c A ls hx hb hr hml hown hts hk hnm hA hK hP hD hS hX hl => ?_)
  have hown : s.vm.findClass RX9 = some m.cls := hown
  have hl : lv_has ls 8 [(0, .ref a0), (1, .int x0)] := hl
  refine lv_aload_n hx hb dX9_extreme_0 rfl (lv_at hl 0 rfl) ?_
  refine kV_v (q0 := 0) ⟨hx, hb, hml, hown, hts⟩ hK hP hD hS hA hX cv_RX9_238 [0, 1, 2, 3, 4] [] (wr := []) rfl rfl rfl rfl (by decide) (c515_X9_gather l dC dI cI cJ cII cJJ s.heap.size 0 a0 a1 a2 a3 a4 a5 a6 a7 a8 a9 a10 a11 a12 a13 a14 a15 a16 a17 a18 a19 a20 a21 a22 a23 a24 a25 a26 a27) ⟨by decide +kernel, by decide +kernel⟩ rfl rfl (Or.inl rfl) (rest := []) rfl rfl rfl hl.1 rfl (Nat.le_of_ble_eq_true rfl) dX9_extreme_1 ⟨Nat.le_of_ble_eq_true rfl, Nat.le_of_ble_eq_true rfl⟩ (fun _ => rfl) (W' := [(a4, .inl (cI, 777924, .inl (tb [0, 0, 0, 0, 1, 0, 0, 0, 2, 0, 0, 0, 3, 0, 0, 0, 4, 0, 0, 0, 5, 0, 0, 0, 6, 0, 0, 0, 7, 0, 0, 0, 8, 0, 0, 0, 9, 0, 0, 0, 10]))), (a0, .inr (9, [.ref a5, .ref a6, .ref a1, .ref a2, .ref a7, .ref a8, .ref a9, .ref a10, .ref a11, .ref a12, .ref a13, .ref a14, .int 1, .int 0, .int 0, .ref a15, .ref a16, .ref a17, .ref a18, .ref a19, .ref a20, .int 0, .int 0, .ref a21, .ref a22, .ref a23, .ref a24, .int 0, .int 0, .ref a25, .ref a26, .ref a27, .ref a3, .int 1, .ref a4, .int 11])), (a1, .inl (cI, 4, .inl (tb [0, 0, 0, 0]))), (a3, .inl (cI, 4, .inl (tb [10]))), (a2, .inl (cI, 4, .inl (tb [10, 10, 10, 10])))]) rfl (fun H locs hP hD hS => ?_)
  refine lv_aload_n hx hb dX9_extreme_4 rfl (lv_at hl 0 rfl) ?_
  refine gf (k := 35) hx hb hts inX9 hown hK hP k_830 rfl (by decide) rfl 1 rfl (.int 11) rfl dX9_extreme_5 ?_
  refine t_if_ne hx hb dX9_extreme_8 13 (by decide) (by decide +kernel) ?_
  refine lv_iload_n hx hb dX9_extreme_13 rfl (lv_at hl 1 rfl) ?_
  refine lv_iconst (v := 2) hx hb dX9_extreme_14 (by decide) ?_
  refine kS_i ⟨hx, hb, hml, hown, hts⟩ hK hP hD hS hA hX cs_RX9_116 [] [0, 1, 2, 3, 4] (wr := [(a4, .inl (cI, 777924, .inl (tb [0, 0, 0, 0, 1, 0, 0, 0, 2, 0, 0, 0, 3, 0, 0, 0, 4, 0, 0, 0, 5, 0, 0, 0, 6, 0, 0, 0, 7, 0, 0, 0, 8, 0, 0, 0, 9, 0, 0, 0, 10]))), (a0, .inr (9, [.ref a5, .ref a6, .ref a1, .ref a2, .ref a7, .ref a8, .ref a9, .ref a10, .ref a11, .ref a12, .ref a13, .ref a14, .int 1, .int 0, .int 0, .ref a15, .ref a16, .ref a17, .ref a18, .ref a19, .ref a20, .int 0, .int 0, .ref a21, .ref a22, .ref a23, .ref a24, .int 0, .int 0, .ref a25, .ref a26, .ref a27, .ref a3, .int 1, .ref a4, .int 11])), (a1, .inl (cI, 4, .inl (tb [0, 0, 0, 0]))), (a3, .inl (cI, 4, .inl (tb [10]))), (a2, .inl (cI, 4, .inl (tb [10, 10, 10, 10])))]) rfl rfl rfl rfl (by decide) (c393_X9_isIn l dC dI cI cJ cII cJJ H.size 0 x0 h_x0) ⟨by decide +kernel, by decide +kernel⟩ rfl rfl (Or.inl rfl) (rest := []) rfl hl.1 rfl (Nat.le_of_ble_eq_true rfl) dX9_extreme_15 ⟨Nat.le_of_ble_eq_true rfl, Nat.le_of_ble_eq_true rfl⟩ (W' := [(a4, .inl (cI, 777924, .inl (tb [0, 0, 0, 0, 1, 0, 0, 0, 2, 0, 0, 0, 3, 0, 0, 0, 4, 0, 0, 0, 5, 0, 0, 0, 6, 0, 0, 0, 7, 0, 0, 0, 8, 0, 0, 0, 9, 0, 0, 0, 10]))), (a0, .inr (9, [.ref a5, .ref a6, .ref a1, .ref a2, .ref a7, .ref a8, .ref a9, .ref a10, .ref a11, .ref a12, .ref a13, .ref a14, .int 1, .int 0, .int 0, .ref a15, .ref a16, .ref a17, .ref a18, .ref a19, .ref a20, .int 0, .int 0, .ref a21, .ref a22, .ref a23, .ref a24, .int 0, .int 0, .ref a25, .ref a26, .ref a27, .ref a3, .int 1, .ref a4, .int 11])), (a1, .inl (cI, 4, .inl (tb [0, 0, 0, 0]))), (a3, .inl (cI, 4, .inl (tb [10]))), (a2, .inl (cI, 4, .inl (tb [10, 10, 10, 10])))]) rfl (fun H locs hP hD hS => ?_)
  refine f_if_ne hx hb dX9_extreme_18 24 (by decide) (by decide +kernel) ?_
  refine lv_bipush (v := (-2)) hx hb dX9_extreme_21 (by decide) ?_
  exact r_i hx hb hr hk hK (hP.sub [] rfl) (hD.sub [] rfl rfl) hS dX9_extreme_23
set_option maxRecDepth 100000 in
set_option maxHeartbeats 4000000 in
theorem c563_X9_extreme (l : Launch) (dC : Nat → ClassId) (dI : Nat → Nat → Nat) (cI cJ cII cJJ : ClassId) (sz g a0 a1 a2 a3 a4 a5 a6 a7 a8 a9 a10 a11 a12 a13 a14 a15 a16 a17 a18 a19 a20 a21 a22 a23 a24 a25 a26 a27 : Nat) (x0 : Int32) (h_x0 : 2 ≤ x0.toInt ∧ x0.toInt ≤ 2147483647) : Met l yX9_extreme (.code yX9_extreme cX9_extreme 8 (some .int) :: TT) ({ frames := 6, cells := 0, slots := 0, locals := 320 }) (PcS dC dI (TY cI cJ cII cJJ) [.ref a0, .int x0] [(a0, .inr (9, [.ref a5, .ref a6, .ref a1, .ref a2, .ref a7, .ref a8, .ref a9, .ref a10, .ref a11, .ref a12, .ref a13, .ref a14, .int 1, .int 0, .int 0, .ref a15, .ref a16, .ref a17, .ref a18, .ref a19, .ref a20, .int 0, .int 0, .ref a21, .ref a22, .ref a23, .ref a24, .int 0, .int 0, .ref a25, .ref a26, .ref a27, .ref a3, .int 0, .ref a4, .int 0])), (a1, .inl (cI, 4, .inl (tb [0, 0, 0, 0]))), (a2, .inl (cI, 4, .inl (tb [10, 10, 10, 10]))), (a3, .inl (cI, 4, .inl (tb []))), (a4, .inl (cI, 777924, .inl (tb [])))] sz 0 g) ((QcI dC dI (TY cI cJ cII cJJ) (-2) []) (va_A [(a0, .inr (9, [.ref a5, .ref a6, .ref a1, .ref a2, .ref a7, .ref a8, .ref a9, .ref a10, .ref a11, .ref a12, .ref a13, .ref a14, .int 1, .int 0, .int 0, .ref a15, .ref a16, .ref a17, .ref a18, .ref a19, .ref a20, .int 0, .int 0, .ref a21, .ref a22, .ref a23, .ref a24, .int 0, .int 0, .ref a25, .ref a26, .ref a27, .ref a3, .int 0, .ref a4, .int 0])), (a1, .inl (cI, 4, .inl (tb [0, 0, 0, 0]))), (a2, .inl (cI, 4, .inl (tb [10, 10, 10, 10]))), (a3, .inl (cI, 4, .inl (tb []))), (a4, .inl (cI, 777924, .inl (tb [])))] sz)) 0 0 (va_A [(a0, .inr (9, [.ref a5, .ref a6, .ref a1, .ref a2, .ref a7, .ref a8, .ref a9, .ref a10, .ref a11, .ref a12, .ref a13, .ref a14, .int 1, .int 0, .int 0, .ref a15, .ref a16, .ref a17, .ref a18, .ref a19, .ref a20, .int 0, .int 0, .ref a21, .ref a22, .ref a23, .ref a24, .int 0, .int 0, .ref a25, .ref a26, .ref a27, .ref a3, .int 0, .ref a4, .int 0])), (a1, .inl (cI, 4, .inl (tb [0, 0, 0, 0]))), (a2, .inl (cI, 4, .inl (tb [10, 10, 10, 10]))), (a3, .inl (cI, 4, .inl (tb []))), (a4, .inl (cI, 777924, .inl (tb [])))] sz) := by
  refine SM.of (y := yX9_extreme) (maxL := 8) (av := [.ref a0, .int x0]) (QcI dC dI (TY cI cJ cII cJJ) (-2) []) (by decide +kernel) (Nat.le_of_ble_eq_true rfl) (fun p e s m below meth c A ls hx hb hr hml hown hts hk hnm hA hK hP hD hS hX hl => ?_)
  have hown : s.vm.findClass RX9 = some m.cls := hown
  have hl : lv_has ls 8 [(0, .ref a0), (1, .int x0)] := hl
  refine lv_aload_n hx hb dX9_extreme_0 rfl (lv_at hl 0 rfl) ?_
  refine kV_v (q0 := 0) ⟨hx, hb, hml, hown, hts⟩ hK hP hD hS hA hX cv_RX9_238 [0, 1, 2, 3, 4] [] (wr := []) rfl rfl rfl rfl (by decide) (c515_X9_gather l dC dI cI cJ cII cJJ s.heap.size 0 a0 a1 a2 a3 a4 a5 a6 a7 a8 a9 a10 a11 a12 a13 a14 a15 a16 a17 a18 a19 a20 a21 a22 a23 a24 a25 a26 a27) ⟨by decide +kernel, by decide +kernel⟩ rfl rfl (Or.inl rfl) (rest := []) rfl rfl rfl hl.1 rfl (Nat.le_of_ble_eq_true rfl) dX9_extreme_1 ⟨Nat.le_of_ble_eq_true rfl, Nat.le_of_ble_eq_true rfl⟩ (fun _ => rfl) (W' := [(a4, .inl (cI, 777924, .inl (tb [0, 0, 0, 0, 1, 0, 0, 0, 2, 0, 0, 0, 3, 0, 0, 0, 4, 0, 0, 0, 5, 0, 0, 0, 6, 0, 0, 0, 7, 0, 0, 0, 8, 0, 0, 0, 9, 0, 0, 0, 10]))), (a0, .inr (9, [.ref a5, .ref a6, .ref a1, .ref a2, .ref a7, .ref a8, .ref a9, .ref a10, .ref a11, .ref a12, .ref a13, .ref a14, .int 1, .int 0, .int 0, .ref a15, .ref a16, .ref a17, .ref a18, .ref a19, .ref a20, .int 0, .int 0, .ref a21, .ref a22, .ref a23, .ref a24, .int 0, .int 0, .ref a25, .ref a26, .ref a27, .ref a3, .int 1, .ref a4, .int 11])), (a1, .inl (cI, 4, .inl (tb [0, 0, 0, 0]))), (a3, .inl (cI, 4, .inl (tb [10]))), (a2, .inl (cI, 4, .inl (tb [10, 10, 10, 10])))]) rfl (fun H locs hP hD hS => ?_)
  refine lv_aload_n hx hb dX9_extreme_4 rfl (lv_at hl 0 rfl) ?_
  refine gf (k := 35) hx hb hts inX9 hown hK hP k_830 rfl (by decide) rfl 1 rfl (.int 11) rfl dX9_extreme_5 ?_
  refine t_if_ne hx hb dX9_extreme_8 13 (by decide) (by decide +kernel) ?_
  refine lv_iload_n hx hb dX9_extreme_13 rfl (lv_at hl 1 rfl) ?_
  refine lv_iconst (v := 2) hx hb dX9_extreme_14 (by decide) ?_
  refine kS_i ⟨hx, hb, hml, hown, hts⟩ hK hP hD hS hA hX cs_RX9_116 [] [0, 1, 2, 3, 4] (wr := [(a4, .inl (cI, 777924, .inl (tb [0, 0, 0, 0, 1, 0, 0, 0, 2, 0, 0, 0, 3, 0, 0, 0, 4, 0, 0, 0, 5, 0, 0, 0, 6, 0, 0, 0, 7, 0, 0, 0, 8, 0, 0, 0, 9, 0, 0, 0, 10]))), (a0, .inr (9, [.ref a5, .ref a6, .ref a1, .ref a2, .ref a7, .ref a8, .ref a9, .ref a10, .ref a11, .ref a12, .ref a13, .ref a14, .int 1, .int 0, .int 0, .ref a15, .ref a16, .ref a17, .ref a18, .ref a19, .ref a20, .int 0, .int 0, .ref a21, .ref a22, .ref a23, .ref a24, .int 0, .int 0, .ref a25, .ref a26, .ref a27, .ref a3, .int 1, .ref a4, .int 11])), (a1, .inl (cI, 4, .inl (tb [0, 0, 0, 0]))), (a3, .inl (cI, 4, .inl (tb [10]))), (a2, .inl (cI, 4, .inl (tb [10, 10, 10, 10])))]) rfl rfl rfl rfl (by decide) (c395_X9_isIn l dC dI cI cJ cII cJJ H.size 0 x0 h_x0) ⟨by decide +kernel, by decide +kernel⟩ rfl rfl (Or.inl rfl) (rest := []) rfl hl.1 rfl (Nat.le_of_ble_eq_true rfl) dX9_extreme_15 ⟨Nat.le_of_ble_eq_true rfl, Nat.le_of_ble_eq_true rfl⟩ (W' := [(a4, .inl (cI, 777924, .inl (tb [0, 0, 0, 0, 1, 0, 0, 0, 2, 0, 0, 0, 3, 0, 0, 0, 4, 0, 0, 0, 5, 0, 0, 0, 6, 0, 0, 0, 7, 0, 0, 0, 8, 0, 0, 0, 9, 0, 0, 0, 10]))), (a0, .inr (9, [.ref a5, .ref a6, .ref a1, .ref a2, .ref a7, .ref a8, .ref a9, .ref a10, .ref a11, .ref a12, .ref a13, .ref a14, .int 1, .int 0, .int 0, .ref a15, .ref a16, .ref a17, .ref a18, .ref a19, .ref a20, .int 0, .int 0, .ref a21, .ref a22, .ref a23, .ref a24, .int 0, .int 0, .ref a25, .ref a26, .ref a27, .ref a3, .int 1, .ref a4, .int 11])), (a1, .inl (cI, 4, .inl (tb [0, 0, 0, 0]))), (a3, .inl (cI, 4, .inl (tb [10]))), (a2, .inl (cI, 4, .inl (tb [10, 10, 10, 10])))]) rfl (fun H locs hP hD hS => ?_)
  refine f_if_ne hx hb dX9_extreme_18 24 (by decide) (by decide +kernel) ?_
  refine lv_bipush (v := (-2)) hx hb dX9_extreme_21 (by decide) ?_
  exact r_i hx hb hr hk hK (hP.sub [] rfl) (hD.sub [] rfl rfl) hS dX9_extreme_23
set_option maxRecDepth 100000 in
set_option maxHeartbeats 4000000 in
theorem c565_X9_costOf (l : Launch) (dC : Nat → ClassId) (dI : Nat → Nat → Nat) (cI cJ cII cJJ : ClassId) (sz g a0 a1 a2 a3 a4 a5 a6 a7 a8 a9 a10 a11 a12 a13 a14 a15 a16 a17 a18 a19 a20 a21 a22 a23 a24 a25 a26 a27 : Nat) : Met l yX9_costOf (.code yX9_costOf cX9_costOf 6 (some .long) :: TT) ({ frames := 2, cells := 0, slots := 0, locals := 80 }) (PcS dC dI (TY cI cJ cII cJJ) [.ref a0, .ref a2, .int 0] [(a0, .inr (9, [.ref a4, .ref a5, .ref a6, .ref a7, .ref a1, .ref a3, .ref a8, .ref a9, .ref a10, .ref a11, .ref a12, .ref a13, .int 1, .int 0, .int 0, .ref a14, .ref a15, .ref a16, .ref a17, .ref a18, .ref a19, .int 0, .int 0, .ref a20, .ref a21, .ref a22, .ref a23, .int 0, .int 0, .ref a24, .ref a25, .ref a26, .ref a27, .int 1, .ref a2, .int 11])), (a1, .inl (cI, 4, .inl (tb [0, 0, 0, 0]))), (a2, .inl (cI, 777924, .inl (tb [0, 0, 0, 0, 1, 0, 0, 0, 2, 0, 0, 0, 3, 0, 0, 0, 4, 0, 0, 0, 5, 0, 0, 0, 6, 0, 0, 0, 7, 0, 0, 0, 8, 0, 0, 0, 9, 0, 0, 0, 10]))), (a3, .inl (cI, 4, .inl (tb [0, 0, 0, 0])))] sz 0 g) ((QcL dC dI (TY cI cJ cII cJJ) 0 [(a0, .inr (9, [.ref a4, .ref a5, .ref a6, .ref a7, .ref a1, .ref a3, .ref a8, .ref a9, .ref a10, .ref a11, .ref a12, .ref a13, .int 1, .int 0, .int 0, .ref a14, .ref a15, .ref a16, .ref a17, .ref a18, .ref a19, .int 0, .int 0, .ref a20, .ref a21, .ref a22, .ref a23, .int 0, .int 0, .ref a24, .ref a25, .ref a26, .ref a27, .int 1, .ref a2, .int 11])), (a1, .inl (cI, 4, .inl (tb [0, 0, 0, 0]))), (a2, .inl (cI, 777924, .inl (tb [0, 0, 0, 0, 1, 0, 0, 0, 2, 0, 0, 0, 3, 0, 0, 0, 4, 0, 0, 0, 5, 0, 0, 0, 6, 0, 0, 0, 7, 0, 0, 0, 8, 0, 0, 0, 9, 0, 0, 0, 10]))), (a3, .inl (cI, 4, .inl (tb [0, 0, 0, 0])))]) (va_A [(a0, .inr (9, [.ref a4, .ref a5, .ref a6, .ref a7, .ref a1, .ref a3, .ref a8, .ref a9, .ref a10, .ref a11, .ref a12, .ref a13, .int 1, .int 0, .int 0, .ref a14, .ref a15, .ref a16, .ref a17, .ref a18, .ref a19, .int 0, .int 0, .ref a20, .ref a21, .ref a22, .ref a23, .int 0, .int 0, .ref a24, .ref a25, .ref a26, .ref a27, .int 1, .ref a2, .int 11])), (a1, .inl (cI, 4, .inl (tb [0, 0, 0, 0]))), (a2, .inl (cI, 777924, .inl (tb [0, 0, 0, 0, 1, 0, 0, 0, 2, 0, 0, 0, 3, 0, 0, 0, 4, 0, 0, 0, 5, 0, 0, 0, 6, 0, 0, 0, 7, 0, 0, 0, 8, 0, 0, 0, 9, 0, 0, 0, 10]))), (a3, .inl (cI, 4, .inl (tb [0, 0, 0, 0])))] sz)) 0 0 (va_A [(a0, .inr (9, [.ref a4, .ref a5, .ref a6, .ref a7, .ref a1, .ref a3, .ref a8, .ref a9, .ref a10, .ref a11, .ref a12, .ref a13, .int 1, .int 0, .int 0, .ref a14, .ref a15, .ref a16, .ref a17, .ref a18, .ref a19, .int 0, .int 0, .ref a20, .ref a21, .ref a22, .ref a23, .int 0, .int 0, .ref a24, .ref a25, .ref a26, .ref a27, .int 1, .ref a2, .int 11])), (a1, .inl (cI, 4, .inl (tb [0, 0, 0, 0]))), (a2, .inl (cI, 777924, .inl (tb [0, 0, 0, 0, 1, 0, 0, 0, 2, 0, 0, 0, 3, 0, 0, 0, 4, 0, 0, 0, 5, 0, 0, 0, 6, 0, 0, 0, 7, 0, 0, 0, 8, 0, 0, 0, 9, 0, 0, 0, 10]))), (a3, .inl (cI, 4, .inl (tb [0, 0, 0, 0])))] sz) := by
  refine SM.of (y := yX9_costOf) (maxL := 6) (av := [.ref a0, .ref a2, .int 0]) (QcL dC dI (TY cI cJ cII cJJ) 0 [(a0, .inr (9, [.ref a4, .ref a5, .ref a6, .ref a7, .ref a1, .ref a3, .ref a8, .ref a9, .ref a10, .ref a11, .ref a12, .ref a13, .int 1, .int 0, .int 0, .ref a14, .ref a15, .ref a16, .ref a17, .ref a18, .ref a19, .int 0, .int 0, .ref a20, .ref a21, .ref a22, .ref a23, .int 0, .int 0, .ref a24, .ref a25, .ref a26, .ref a27, .int 1, .ref a2, .int 11])), (a1, .inl (cI, 4, .inl (tb [0, 0, 0, 0]))), (a2, .inl (cI, 777924, .inl (tb [0, 0, 0, 0, 1, 0, 0, 0, 2, 0, 0, 0, 3, 0, 0, 0, 4, 0, 0, 0, 5, 0, 0, 0, 6, 0, 0, 0, 7, 0, 0, 0, 8, 0, 0, 0, 9, 0, 0, 0, 10]))), (a3, .inl (cI, 4, .inl (tb [0, 0, 0, 0])))]) (by decide +kernel) (Nat.le_of_ble_eq_true rfl) (fun p e s m below meth c A ls hx hb hr hml hown hts hk hnm hA hK hP hD hS hX hl => ?_)
  have hown : s.vm.findClass RX9 = some m.cls := hown
  have hl : lv_has ls 6 [(0, .ref a0), (1, .ref a2), (2, .int 0)] := hl
  refine lv_lconst (v := 0) hx hb dX9_costOf_0 (by decide) ?_
  refine lv_lstore_n (lv' := [(3, .long 0), (0, .ref a0), (1, .ref a2), (2, .int 0)]) hx hb dX9_costOf_1 rfl hl (by decide) rfl (fun ls hl => ?_)
  refine lv_iconst (v := 0) hx hb dX9_costOf_2 (by decide) ?_
  refine lv_istore (lv' := [(5, .int 0), (3, .long 0), (0, .ref a0), (1, .ref a2), (2, .int 0)]) hx hb dX9_costOf_3 hl (by decide) rfl (fun ls hl => ?_)
  refine lv_iload hx hb dX9_costOf_5 (lv_at hl 0 rfl) ?_
  refine lv_aload_n hx hb dX9_costOf_7 rfl (lv_at hl 2 rfl) ?_
  refine gf (k := 12) hx hb hts inX9 hown hK hP k_807 rfl (by decide) rfl 0 rfl (.int 1) rfl dX9_costOf_8 ?_
  refine f_icmp_ge hx hb dX9_costOf_11 64 (by decide) (by decide +kernel) ?_
  refine lv_lload_n hx hb dX9_costOf_14 rfl (lv_at hl 1 rfl) ?_
  refine lv_aload_n hx hb dX9_costOf_15 rfl (lv_at hl 2 rfl) ?_
  refine gf (k := 4) hx hb hts inX9 hown hK hP k_799 rfl (by decide) rfl 0 rfl (.ref a1) rfl dX9_costOf_16 ?_
  refine lv_iload hx hb dX9_costOf_19 (lv_at hl 0 rfl) ?_
  refine ld_i hx hb hK hP 1 rfl (vin (by decide +kernel)) dX9_costOf_21 0 rfl ?_
  refine lv_i2l (v := 0) hx hb dX9_costOf_22 (by decide +kernel) ?_
  refine lv_aload_n hx hb dX9_costOf_23 rfl (lv_at hl 3 rfl) ?_
  refine lv_iload_n hx hb dX9_costOf_24 rfl (lv_at hl 4 rfl) ?_
  refine lv_iload hx hb dX9_costOf_25 (lv_at hl 0 rfl) ?_
  refine v_iadd hx hb dX9_costOf_27 0 (by decide +kernel) ?_
  refine ld_i hx hb hK hP 2 rfl (vin (by decide +kernel)) dX9_costOf_28 0 rfl ?_
  refine lv_i2l (v := 0) hx hb dX9_costOf_29 (by decide +kernel) ?_
  refine v_lmul hx hb dX9_costOf_30 0 (by decide +kernel) ?_
  refine lv_aload_n hx hb dX9_costOf_31 rfl (lv_at hl 2 rfl) ?_
  refine gf (k := 5) hx hb hts inX9 hown hK hP k_800 rfl (by decide) rfl 0 rfl (.ref a3) rfl dX9_costOf_32 ?_
  refine lv_iload hx hb dX9_costOf_35 (lv_at hl 0 rfl) ?_
  refine ld_i hx hb hK hP 3 rfl (vin (by decide +kernel)) dX9_costOf_37 0 rfl ?_
  refine lv_i2l (v := 0) hx hb dX9_costOf_38 (by decide +kernel) ?_
  refine lv_aload_n hx hb dX9_costOf_39 rfl (lv_at hl 3 rfl) ?_
  refine lv_iload_n hx hb dX9_costOf_40 rfl (lv_at hl 4 rfl) ?_
  refine lv_iload hx hb dX9_costOf_41 (lv_at hl 0 rfl) ?_
  refine v_iadd hx hb dX9_costOf_43 0 (by decide +kernel) ?_
  refine ld_i hx hb hK hP 2 rfl (vin (by decide +kernel)) dX9_costOf_44 0 rfl ?_
  refine lv_i2l (v := 0) hx hb dX9_costOf_45 (by decide +kernel) ?_
  refine v_lmul hx hb dX9_costOf_46 0 (by decide +kernel) ?_
  refine lv_aload_n hx hb dX9_costOf_47 rfl (lv_at hl 3 rfl) ?_
  refine lv_iload_n hx hb dX9_costOf_48 rfl (lv_at hl 4 rfl) ?_
  refine lv_iload hx hb dX9_costOf_49 (lv_at hl 0 rfl) ?_
  refine v_iadd hx hb dX9_costOf_51 0 (by decide +kernel) ?_
  refine ld_i hx hb hK hP 2 rfl (vin (by decide +kernel)) dX9_costOf_52 0 rfl ?_
  refine lv_i2l (v := 0) hx hb dX9_costOf_53 (by decide +kernel) ?_
  refine v_lmul hx hb dX9_costOf_54 0 (by decide +kernel) ?_
  refine v_ladd hx hb dX9_costOf_55 0 (by decide +kernel) ?_
  refine v_ladd hx hb dX9_costOf_56 0 (by decide +kernel) ?_
  refine lv_lstore_n (lv' := [(3, .long 0), (5, .int 0), (0, .ref a0), (1, .ref a2), (2, .int 0)]) hx hb dX9_costOf_57 rfl hl (by decide) rfl (fun ls hl => ?_)
  refine lv_iinc (v := 1) (lv' := [(5, .int 1), (3, .long 0), (0, .ref a0), (1, .ref a2), (2, .int 0)]) hx hb dX9_costOf_58 hl (k := 1) rfl (by decide +kernel) (by decide) rfl (fun ls hl => ?_)
  refine lv_goto (tgt := 5) hx hb dX9_costOf_61 (by decide) ?_
  refine lv_iload hx hb dX9_costOf_5 (lv_at hl 0 rfl) ?_
  refine lv_aload_n hx hb dX9_costOf_7 rfl (lv_at hl 2 rfl) ?_
  refine gf (k := 12) hx hb hts inX9 hown hK hP k_807 rfl (by decide) rfl 0 rfl (.int 1) rfl dX9_costOf_8 ?_
  refine t_icmp_ge hx hb dX9_costOf_11 64 (by decide) (by decide +kernel) ?_
  refine lv_lload_n hx hb dX9_costOf_64 rfl (lv_at hl 1 rfl) ?_
  exact r_l hx hb hr hk hK hP hD hS dX9_costOf_65
set_option maxRecDepth 100000 in
set_option maxHeartbeats 4000000 in
theorem c566_X9_costOf (l : Launch) (dC : Nat → ClassId) (dI : Nat → Nat → Nat) (cI cJ cII cJJ : ClassId) (sz g a0 a1 a2 a3 a4 a5 a6 a7 a8 a9 a10 a11 a12 a13 a14 a15 a16 a17 a18 a19 a20 a21 a22 a23 a24 a25 a26 a27 : Nat) : Met l yX9_costOf (.code yX9_costOf cX9_costOf 6 (some .long) :: TT) ({ frames := 2, cells := 0, slots := 0, locals := 80 }) (PcS dC dI (TY cI cJ cII cJJ) [.ref a0, .ref a2, .int 4] [(a0, .inr (9, [.ref a4, .ref a5, .ref a6, .ref a7, .ref a1, .ref a3, .ref a8, .ref a9, .ref a10, .ref a11, .ref a12, .ref a13, .int 1, .int 0, .int 0, .ref a14, .ref a15, .ref a16, .ref a17, .ref a18, .ref a19, .int 0, .int 0, .ref a20, .ref a21, .ref a22, .ref a23, .int 0, .int 0, .ref a24, .ref a25, .ref a26, .ref a27, .int 1, .ref a2, .int 11])), (a1, .inl (cI, 4, .inl (tb [0, 0, 0, 0]))), (a2, .inl (cI, 777924, .inl (tb [0, 0, 0, 0, 1, 0, 0, 0, 2, 0, 0, 0, 3, 0, 0, 0, 4, 0, 0, 0, 5, 0, 0, 0, 6, 0, 0, 0, 7, 0, 0, 0, 8, 0, 0, 0, 9, 0, 0, 0, 10]))), (a3, .inl (cI, 4, .inl (tb [0, 0, 0, 0])))] sz 0 g) ((QcL dC dI (TY cI cJ cII cJJ) 0 [(a0, .inr (9, [.ref a4, .ref a5, .ref a6, .ref a7, .ref a1, .ref a3, .ref a8, .ref a9, .ref a10, .ref a11, .ref a12, .ref a13, .int 1, .int 0, .int 0, .ref a14, .ref a15, .ref a16, .ref a17, .ref a18, .ref a19, .int 0, .int 0, .ref a20, .ref a21, .ref a22, .ref a23, .int 0, .int 0, .ref a24, .ref a25, .ref a26, .ref a27, .int 1, .ref a2, .int 11])), (a1, .inl (cI, 4, .inl (tb [0, 0, 0, 0]))), (a2, .inl (cI, 777924, .inl (tb [0, 0, 0, 0, 1, 0, 0, 0, 2, 0, 0, 0, 3, 0, 0, 0, 4, 0, 0, 0, 5, 0, 0, 0, 6, 0, 0, 0, 7, 0, 0, 0, 8, 0, 0, 0, 9, 0, 0, 0, 10]))), (a3, .inl (cI, 4, .inl (tb [0, 0, 0, 0])))]) (va_A [(a0, .inr (9, [.ref a4, .ref a5, .ref a6, .ref a7, .ref a1, .ref a3, .ref a8, .ref a9, .ref a10, .ref a11, .ref a12, .ref a13, .int 1, .int 0, .int 0, .ref a14, .ref a15, .ref a16, .ref a17, .ref a18, .ref a19, .int 0, .int 0, .ref a20, .ref a21, .ref a22, .ref a23, .int 0, .int 0, .ref a24, .ref a25, .ref a26, .ref a27, .int 1, .ref a2, .int 11])), (a1, .inl (cI, 4, .inl (tb [0, 0, 0, 0]))), (a2, .inl (cI, 777924, .inl (tb [0, 0, 0, 0, 1, 0, 0, 0, 2, 0, 0, 0, 3, 0, 0, 0, 4, 0, 0, 0, 5, 0, 0, 0, 6, 0, 0, 0, 7, 0, 0, 0, 8, 0, 0, 0, 9, 0, 0, 0, 10]))), (a3, .inl (cI, 4, .inl (tb [0, 0, 0, 0])))] sz)) 0 0 (va_A [(a0, .inr (9, [.ref a4, .ref a5, .ref a6, .ref a7, .ref a1, .ref a3, .ref a8, .ref a9, .ref a10, .ref a11, .ref a12, .ref a13, .int 1, .int 0, .int 0, .ref a14, .ref a15, .ref a16, .ref a17, .ref a18, .ref a19, .int 0, .int 0, .ref a20, .ref a21, .ref a22, .ref a23, .int 0, .int 0, .ref a24, .ref a25, .ref a26, .ref a27, .int 1, .ref a2, .int 11])), (a1, .inl (cI, 4, .inl (tb [0, 0, 0, 0]))), (a2, .inl (cI, 777924, .inl (tb [0, 0, 0, 0, 1, 0, 0, 0, 2, 0, 0, 0, 3, 0, 0, 0, 4, 0, 0, 0, 5, 0, 0, 0, 6, 0, 0, 0, 7, 0, 0, 0, 8, 0, 0, 0, 9, 0, 0, 0, 10]))), (a3, .inl (cI, 4, .inl (tb [0, 0, 0, 0])))] sz) := by
  refine SM.of (y := yX9_costOf) (maxL := 6) (av := [.ref a0, .ref a2, .int 4]) (QcL dC dI (TY cI cJ cII cJJ) 0 [(a0, .inr (9, [.ref a4, .ref a5, .ref a6, .ref a7, .ref a1, .ref a3, .ref a8, .ref a9, .ref a10, .ref a11, .ref a12, .ref a13, .int 1, .int 0, .int 0, .ref a14, .ref a15, .ref a16, .ref a17, .ref a18, .ref a19, .int 0, .int 0, .ref a20, .ref a21, .ref a22, .ref a23, .int 0, .int 0, .ref a24, .ref a25, .ref a26, .ref a27, .int 1, .ref a2, .int 11])), (a1, .inl (cI, 4, .inl (tb [0, 0, 0, 0]))), (a2, .inl (cI, 777924, .inl (tb [0, 0, 0, 0, 1, 0, 0, 0, 2, 0, 0, 0, 3, 0, 0, 0, 4, 0, 0, 0, 5, 0, 0, 0, 6, 0, 0, 0, 7, 0, 0, 0, 8, 0, 0, 0, 9, 0, 0, 0, 10]))), (a3, .inl (cI, 4, .inl (tb [0, 0, 0, 0])))]) (by decide +kernel) (Nat.le_of_ble_eq_true rfl) (fun p e s m below meth c A ls hx hb hr hml hown hts hk hnm hA hK hP hD hS hX hl => ?_)
  have hown : s.vm.findClass RX9 = some m.cls := hown
  have hl : lv_has ls 6 [(0, .ref a0), (1, .ref a2), (2, .int 4)] := hl
  refine lv_lconst (v := 0) hx hb dX9_costOf_0 (by decide) ?_
  refine lv_lstore_n (lv' := [(3, .long 0), (0, .ref a0), (1, .ref a2), (2, .int 4)]) hx hb dX9_costOf_1 rfl hl (by decide) rfl (fun ls hl => ?_)
  refine lv_iconst (v := 0) hx hb dX9_costOf_2 (by decide) ?_
  refine lv_istore (lv' := [(5, .int 0), (3, .long 0), (0, .ref a0), (1, .ref a2), (2, .int 4)]) hx hb dX9_costOf_3 hl (by decide) rfl (fun ls hl => ?_)
  refine lv_iload hx hb dX9_costOf_5 (lv_at hl 0 rfl) ?_
  refine lv_aload_n hx hb dX9_costOf_7 rfl (lv_at hl 2 rfl) ?_
  refine gf (k := 12) hx hb hts inX9 hown hK hP k_807 rfl (by decide) rfl 0 rfl (.int 1) rfl dX9_costOf_8 ?_
  refine f_icmp_ge hx hb dX9_costOf_11 64 (by decide) (by decide +kernel) ?_
  refine lv_lload_n hx hb dX9_costOf_14 rfl (lv_at hl 1 rfl) ?_
  refine lv_aload_n hx hb dX9_costOf_15 rfl (lv_at hl 2 rfl) ?_
  refine gf (k := 4) hx hb hts inX9 hown hK hP k_799 rfl (by decide) rfl 0 rfl (.ref a1) rfl dX9_costOf_16 ?_
  refine lv_iload hx hb dX9_costOf_19 (lv_at hl 0 rfl) ?_
  refine ld_i hx hb hK hP 1 rfl (vin (by decide +kernel)) dX9_costOf_21 0 rfl ?_
  refine lv_i2l (v := 0) hx hb dX9_costOf_22 (by decide +kernel) ?_
  refine lv_aload_n hx hb dX9_costOf_23 rfl (lv_at hl 3 rfl) ?_
  refine lv_iload_n hx hb dX9_costOf_24 rfl (lv_at hl 4 rfl) ?_
  refine lv_iload hx hb dX9_costOf_25 (lv_at hl 0 rfl) ?_
  refine v_iadd hx hb dX9_costOf_27 4 (by decide +kernel) ?_
  refine ld_i hx hb hK hP 2 rfl (vin (by decide +kernel)) dX9_costOf_28 1 rfl ?_
  refine lv_i2l (v := 1) hx hb dX9_costOf_29 (by decide +kernel) ?_
  refine v_lmul hx hb dX9_costOf_30 0 (by decide +kernel) ?_
  refine lv_aload_n hx hb dX9_costOf_31 rfl (lv_at hl 2 rfl) ?_
  refine gf (k := 5) hx hb hts inX9 hown hK hP k_800 rfl (by decide) rfl 0 rfl (.ref a3) rfl dX9_costOf_32 ?_
  refine lv_iload hx hb dX9_costOf_35 (lv_at hl 0 rfl) ?_
  refine ld_i hx hb hK hP 3 rfl (vin (by decide +kernel)) dX9_costOf_37 0 rfl ?_
  refine lv_i2l (v := 0) hx hb dX9_costOf_38 (by decide +kernel) ?_
  refine lv_aload_n hx hb dX9_costOf_39 rfl (lv_at hl 3 rfl) ?_
  refine lv_iload_n hx hb dX9_costOf_40 rfl (lv_at hl 4 rfl) ?_
  refine lv_iload hx hb dX9_costOf_41 (lv_at hl 0 rfl) ?_
  refine v_iadd hx hb dX9_costOf_43 4 (by decide +kernel) ?_
  refine ld_i hx hb hK hP 2 rfl (vin (by decide +kernel)) dX9_costOf_44 1 rfl ?_
  refine lv_i2l (v := 1) hx hb dX9_costOf_45 (by decide +kernel) ?_
  refine v_lmul hx hb dX9_costOf_46 0 (by decide +kernel) ?_
  refine lv_aload_n hx hb dX9_costOf_47 rfl (lv_at hl 3 rfl) ?_
  refine lv_iload_n hx hb dX9_costOf_48 rfl (lv_at hl 4 rfl) ?_
  refine lv_iload hx hb dX9_costOf_49 (lv_at hl 0 rfl) ?_
  refine v_iadd hx hb dX9_costOf_51 4 (by decide +kernel) ?_
  refine ld_i hx hb hK hP 2 rfl (vin (by decide +kernel)) dX9_costOf_52 1 rfl ?_
  refine lv_i2l (v := 1) hx hb dX9_costOf_53 (by decide +kernel) ?_
  refine v_lmul hx hb dX9_costOf_54 0 (by decide +kernel) ?_
  refine v_ladd hx hb dX9_costOf_55 0 (by decide +kernel) ?_
  refine v_ladd hx hb dX9_costOf_56 0 (by decide +kernel) ?_
  refine lv_lstore_n (lv' := [(3, .long 0), (5, .int 0), (0, .ref a0), (1, .ref a2), (2, .int 4)]) hx hb dX9_costOf_57 rfl hl (by decide) rfl (fun ls hl => ?_)
  refine lv_iinc (v := 1) (lv' := [(5, .int 1), (3, .long 0), (0, .ref a0), (1, .ref a2), (2, .int 4)]) hx hb dX9_costOf_58 hl (k := 1) rfl (by decide +kernel) (by decide) rfl (fun ls hl => ?_)
  refine lv_goto (tgt := 5) hx hb dX9_costOf_61 (by decide) ?_
  refine lv_iload hx hb dX9_costOf_5 (lv_at hl 0 rfl) ?_
  refine lv_aload_n hx hb dX9_costOf_7 rfl (lv_at hl 2 rfl) ?_
  refine gf (k := 12) hx hb hts inX9 hown hK hP k_807 rfl (by decide) rfl 0 rfl (.int 1) rfl dX9_costOf_8 ?_
  refine t_icmp_ge hx hb dX9_costOf_11 64 (by decide) (by decide +kernel) ?_
  refine lv_lload_n hx hb dX9_costOf_64 rfl (lv_at hl 1 rfl) ?_
  exact r_l hx hb hr hk hK hP hD hS dX9_costOf_65
set_option maxRecDepth 100000 in
set_option maxHeartbeats 4000000 in
theorem c567_X9_costOf (l : Launch) (dC : Nat → ClassId) (dI : Nat → Nat → Nat) (cI cJ cII cJJ : ClassId) (sz g a0 a1 a2 a3 a4 a5 a6 a7 a8 a9 a10 a11 a12 a13 a14 a15 a16 a17 a18 a19 a20 a21 a22 a23 a24 a25 a26 a27 : Nat) : Met l yX9_costOf (.code yX9_costOf cX9_costOf 6 (some .long) :: TT) ({ frames := 2, cells := 0, slots := 0, locals := 80 }) (PcS dC dI (TY cI cJ cII cJJ) [.ref a0, .ref a2, .int 8] [(a0, .inr (9, [.ref a4, .ref a5, .ref a6, .ref a7, .ref a1, .ref a3, .ref a8, .ref a9, .ref a10, .ref a11, .ref a12, .ref a13, .int 1, .int 0, .int 0, .ref a14, .ref a15, .ref a16, .ref a17, .ref a18, .ref a19, .int 0, .int 0, .ref a20, .ref a21, .ref a22, .ref a23, .int 0, .int 0, .ref a24, .ref a25, .ref a26, .ref a27, .int 1, .ref a2, .int 11])), (a1, .inl (cI, 4, .inl (tb [0, 0, 0, 0]))), (a2, .inl (cI, 777924, .inl (tb [0, 0, 0, 0, 1, 0, 0, 0, 2, 0, 0, 0, 3, 0, 0, 0, 4, 0, 0, 0, 5, 0, 0, 0, 6, 0, 0, 0, 7, 0, 0, 0, 8, 0, 0, 0, 9, 0, 0, 0, 10]))), (a3, .inl (cI, 4, .inl (tb [0, 0, 0, 0])))] sz 0 g) ((QcL dC dI (TY cI cJ cII cJJ) 0 [(a0, .inr (9, [.ref a4, .ref a5, .ref a6, .ref a7, .ref a1, .ref a3, .ref a8, .ref a9, .ref a10, .ref a11, .ref a12, .ref a13, .int 1, .int 0, .int 0, .ref a14, .ref a15, .ref a16, .ref a17, .ref a18, .ref a19, .int 0, .int 0, .ref a20, .ref a21, .ref a22, .ref a23, .int 0, .int 0, .ref a24, .ref a25, .ref a26, .ref a27, .int 1, .ref a2, .int 11])), (a1, .inl (cI, 4, .inl (tb [0, 0, 0, 0]))), (a2, .inl (cI, 777924, .inl (tb [0, 0, 0, 0, 1, 0, 0, 0, 2, 0, 0, 0, 3, 0, 0, 0, 4, 0, 0, 0, 5, 0, 0, 0, 6, 0, 0, 0, 7, 0, 0, 0, 8, 0, 0, 0, 9, 0, 0, 0, 10]))), (a3, .inl (cI, 4, .inl (tb [0, 0, 0, 0])))]) (va_A [(a0, .inr (9, [.ref a4, .ref a5, .ref a6, .ref a7, .ref a1, .ref a3, .ref a8, .ref a9, .ref a10, .ref a11, .ref a12, .ref a13, .int 1, .int 0, .int 0, .ref a14, .ref a15, .ref a16, .ref a17, .ref a18, .ref a19, .int 0, .int 0, .ref a20, .ref a21, .ref a22, .ref a23, .int 0, .int 0, .ref a24, .ref a25, .ref a26, .ref a27, .int 1, .ref a2, .int 11])), (a1, .inl (cI, 4, .inl (tb [0, 0, 0, 0]))), (a2, .inl (cI, 777924, .inl (tb [0, 0, 0, 0, 1, 0, 0, 0, 2, 0, 0, 0, 3, 0, 0, 0, 4, 0, 0, 0, 5, 0, 0, 0, 6, 0, 0, 0, 7, 0, 0, 0, 8, 0, 0, 0, 9, 0, 0, 0, 10]))), (a3, .inl (cI, 4, .inl (tb [0, 0, 0, 0])))] sz)) 0 0 (va_A [(a0, .inr (9, [.ref a4, .ref a5, .ref a6, .ref a7, .ref a1, .ref a3, .ref a8, .ref a9, .ref a10, .ref a11, .ref a12, .ref a13, .int 1, .int 0, .int 0, .ref a14, .ref a15, .ref a16, .ref a17, .ref a18, .ref a19, .int 0, .int 0, .ref a20, .ref a21, .ref a22, .ref a23, .int 0, .int 0, .ref a24, .ref a25, .ref a26, .ref a27, .int 1, .ref a2, .int 11])), (a1, .inl (cI, 4, .inl (tb [0, 0, 0, 0]))), (a2, .inl (cI, 777924, .inl (tb [0, 0, 0, 0, 1, 0, 0, 0, 2, 0, 0, 0, 3, 0, 0, 0, 4, 0, 0, 0, 5, 0, 0, 0, 6, 0, 0, 0, 7, 0, 0, 0, 8, 0, 0, 0, 9, 0, 0, 0, 10]))), (a3, .inl (cI, 4, .inl (tb [0, 0, 0, 0])))] sz) := by
  refine SM.of (y := yX9_costOf) (maxL := 6) (av := [.ref a0, .ref a2, .int 8]) (QcL dC dI (TY cI cJ cII cJJ) 0 [(a0, .inr (9, [.ref a4, .ref a5, .ref a6, .ref a7, .ref a1, .ref a3, .ref a8, .ref a9, .ref a10, .ref a11, .ref a12, .ref a13, .int 1, .int 0, .int 0, .ref a14, .ref a15, .ref a16, .ref a17, .ref a18, .ref a19, .int 0, .int 0, .ref a20, .ref a21, .ref a22, .ref a23, .int 0, .int 0, .ref a24, .ref a25, .ref a26, .ref a27, .int 1, .ref a2, .int 11])), (a1, .inl (cI, 4, .inl (tb [0, 0, 0, 0]))), (a2, .inl (cI, 777924, .inl (tb [0, 0, 0, 0, 1, 0, 0, 0, 2, 0, 0, 0, 3, 0, 0, 0, 4, 0, 0, 0, 5, 0, 0, 0, 6, 0, 0, 0, 7, 0, 0, 0, 8, 0, 0, 0, 9, 0, 0, 0, 10]))), (a3, .inl (cI, 4, .inl (tb [0, 0, 0, 0])))]) (by decide +kernel) (Nat.le_of_ble_eq_true rfl) (fun p e s m below meth c A ls hx hb hr hml hown hts hk hnm hA hK hP hD hS hX hl => ?_)
  have hown : s.vm.findClass RX9 = some m.cls := hown
  have hl : lv_has ls 6 [(0, .ref a0), (1, .ref a2), (2, .int 8)] := hl
  refine lv_lconst (v := 0) hx hb dX9_costOf_0 (by decide) ?_
  refine lv_lstore_n (lv' := [(3, .long 0), (0, .ref a0), (1, .ref a2), (2, .int 8)]) hx hb dX9_costOf_1 rfl hl (by decide) rfl (fun ls hl => ?_)
  refine lv_iconst (v := 0) hx hb dX9_costOf_2 (by decide) ?_
  refine lv_istore (lv' := [(5, .int 0), (3, .long 0), (0, .ref a0), (1, .ref a2), (2, .int 8)]) hx hb dX9_costOf_3 hl (by decide) rfl (fun ls hl => ?_)
  refine lv_iload hx hb dX9_costOf_5 (lv_at hl 0 rfl) ?_
  refine lv_aload_n hx hb dX9_costOf_7 rfl (lv_at hl 2 rfl) ?_
  refine gf (k := 12) hx hb hts inX9 hown hK hP k_807 rfl (by decide) rfl 0 rfl (.int 1) rfl dX9_costOf_8 ?_
  refine f_icmp_ge hx hb dX9_costOf_11 64 (by decide) (by decide +kernel) ?_
  refine lv_lload_n hx hb dX9_costOf_14 rfl (lv_at hl 1 rfl) ?_
  refine lv_aload_n hx hb dX9_costOf_15 rfl (lv_at hl 2 rfl) ?_
  refine gf (k := 4) hx hb hts inX9 hown hK hP k_799 rfl (by decide) rfl 0 rfl (.ref a1) rfl dX9_costOf_16 ?_
  refine lv_iload hx hb dX9_costOf_19 (lv_at hl 0 rfl) ?_
  refine ld_i hx hb hK hP 1 rfl (vin (by decide +kernel)) dX9_costOf_21 0 rfl ?_
  refine lv_i2l (v := 0) hx hb dX9_costOf_22 (by decide +kernel) ?_
  refine lv_aload_n hx hb dX9_costOf_23 rfl (lv_at hl 3 rfl) ?_
  refine lv_iload_n hx hb dX9_costOf_24 rfl (lv_at hl 4 rfl) ?_
  refine lv_iload hx hb dX9_costOf_25 (lv_at hl 0 rfl) ?_
  refine v_iadd hx hb dX9_costOf_27 8 (by decide +kernel) ?_
  refine ld_i hx hb hK hP 2 rfl (vin (by decide +kernel)) dX9_costOf_28 2 rfl ?_
  refine lv_i2l (v := 2) hx hb dX9_costOf_29 (by decide +kernel) ?_
  refine v_lmul hx hb dX9_costOf_30 0 (by decide +kernel) ?_
  refine lv_aload_n hx hb dX9_costOf_31 rfl (lv_at hl 2 rfl) ?_
  refine gf (k := 5) hx hb hts inX9 hown hK hP k_800 rfl (by decide) rfl 0 rfl (.ref a3) rfl dX9_costOf_32 ?_
  refine lv_iload hx hb dX9_costOf_35 (lv_at hl 0 rfl) ?_
  refine ld_i hx hb hK hP 3 rfl (vin (by decide +kernel)) dX9_costOf_37 0 rfl ?_
  refine lv_i2l (v := 0) hx hb dX9_costOf_38 (by decide +kernel) ?_
  refine lv_aload_n hx hb dX9_costOf_39 rfl (lv_at hl 3 rfl) ?_
  refine lv_iload_n hx hb dX9_costOf_40 rfl (lv_at hl 4 rfl) ?_
  refine lv_iload hx hb dX9_costOf_41 (lv_at hl 0 rfl) ?_
  refine v_iadd hx hb dX9_costOf_43 8 (by decide +kernel) ?_
  refine ld_i hx hb hK hP 2 rfl (vin (by decide +kernel)) dX9_costOf_44 2 rfl ?_
  refine lv_i2l (v := 2) hx hb dX9_costOf_45 (by decide +kernel) ?_
  refine v_lmul hx hb dX9_costOf_46 0 (by decide +kernel) ?_
  refine lv_aload_n hx hb dX9_costOf_47 rfl (lv_at hl 3 rfl) ?_
  refine lv_iload_n hx hb dX9_costOf_48 rfl (lv_at hl 4 rfl) ?_
  refine lv_iload hx hb dX9_costOf_49 (lv_at hl 0 rfl) ?_
  refine v_iadd hx hb dX9_costOf_51 8 (by decide +kernel) ?_
  refine ld_i hx hb hK hP 2 rfl (vin (by decide +kernel)) dX9_costOf_52 2 rfl ?_
  refine lv_i2l (v := 2) hx hb dX9_costOf_53 (by decide +kernel) ?_
  refine v_lmul hx hb dX9_costOf_54 0 (by decide +kernel) ?_
  refine v_ladd hx hb dX9_costOf_55 0 (by decide +kernel) ?_
  refine v_ladd hx hb dX9_costOf_56 0 (by decide +kernel) ?_
  refine lv_lstore_n (lv' := [(3, .long 0), (5, .int 0), (0, .ref a0), (1, .ref a2), (2, .int 8)]) hx hb dX9_costOf_57 rfl hl (by decide) rfl (fun ls hl => ?_)
  refine lv_iinc (v := 1) (lv' := [(5, .int 1), (3, .long 0), (0, .ref a0), (1, .ref a2), (2, .int 8)]) hx hb dX9_costOf_58 hl (k := 1) rfl (by decide +kernel) (by decide) rfl (fun ls hl => ?_)
  refine lv_goto (tgt := 5) hx hb dX9_costOf_61 (by decide) ?_
  refine lv_iload hx hb dX9_costOf_5 (lv_at hl 0 rfl) ?_
  refine lv_aload_n hx hb dX9_costOf_7 rfl (lv_at hl 2 rfl) ?_
  refine gf (k := 12) hx hb hts inX9 hown hK hP k_807 rfl (by decide) rfl 0 rfl (.int 1) rfl dX9_costOf_8 ?_
  refine t_icmp_ge hx hb dX9_costOf_11 64 (by decide) (by decide +kernel) ?_
  refine lv_lload_n hx hb dX9_costOf_64 rfl (lv_at hl 1 rfl) ?_
  exact r_l hx hb hr hk hK hP hD hS dX9_costOf_65
set_option maxRecDepth 100000 in
set_option maxHeartbeats 4000000 in
theorem c568_X9_costOf (l : Launch) (dC : Nat → ClassId) (dI : Nat → Nat → Nat) (cI cJ cII cJJ : ClassId) (sz g a0 a1 a2 a3 a4 a5 a6 a7 a8 a9 a10 a11 a12 a13 a14 a15 a16 a17 a18 a19 a20 a21 a22 a23 a24 a25 a26 a27 : Nat) : Met l yX9_costOf (.code yX9_costOf cX9_costOf 6 (some .long) :: TT) ({ frames := 2, cells := 0, slots := 0, locals := 80 }) (PcS dC dI (TY cI cJ cII cJJ) [.ref a0, .ref a2, .int 12] [(a0, .inr (9, [.ref a4, .ref a5, .ref a6, .ref a7, .ref a1, .ref a3, .ref a8, .ref a9, .ref a10, .ref a11, .ref a12, .ref a13, .int 1, .int 0, .int 0, .ref a14, .ref a15, .ref a16, .ref a17, .ref a18, .ref a19, .int 0, .int 0, .ref a20, .ref a21, .ref a22, .ref a23, .int 0, .int 0, .ref a24, .ref a25, .ref a26, .ref a27, .int 1, .ref a2, .int 11])), (a1, .inl (cI, 4, .inl (tb [0, 0, 0, 0]))), (a2, .inl (cI, 777924, .inl (tb [0, 0, 0, 0, 1, 0, 0, 0, 2, 0, 0, 0, 3, 0, 0, 0, 4, 0, 0, 0, 5, 0, 0, 0, 6, 0, 0, 0, 7, 0, 0, 0, 8, 0, 0, 0, 9, 0, 0, 0, 10]))), (a3, .inl (cI, 4, .inl (tb [0, 0, 0, 0])))] sz 0 g) ((QcL dC dI (TY cI cJ cII cJJ) 0 [(a0, .inr (9, [.ref a4, .ref a5, .ref a6, .ref a7, .ref a1, .ref a3, .ref a8, .ref a9, .ref a10, .ref a11, .ref a12, .ref a13, .int 1, .int 0, .int 0, .ref a14, .ref a15, .ref a16, .ref a17, .ref a18, .ref a19, .int 0, .int 0, .ref a20, .ref a21, .ref a22, .ref a23, .int 0, .int 0, .ref a24, .ref a25, .ref a26, .ref a27, .int 1, .ref a2, .int 11])), (a1, .inl (cI, 4, .inl (tb [0, 0, 0, 0]))), (a2, .inl (cI, 777924, .inl (tb [0, 0, 0, 0, 1, 0, 0, 0, 2, 0, 0, 0, 3, 0, 0, 0, 4, 0, 0, 0, 5, 0, 0, 0, 6, 0, 0, 0, 7, 0, 0, 0, 8, 0, 0, 0, 9, 0, 0, 0, 10]))), (a3, .inl (cI, 4, .inl (tb [0, 0, 0, 0])))]) (va_A [(a0, .inr (9, [.ref a4, .ref a5, .ref a6, .ref a7, .ref a1, .ref a3, .ref a8, .ref a9, .ref a10, .ref a11, .ref a12, .ref a13, .int 1, .int 0, .int 0, .ref a14, .ref a15, .ref a16, .ref a17, .ref a18, .ref a19, .int 0, .int 0, .ref a20, .ref a21, .ref a22, .ref a23, .int 0, .int 0, .ref a24, .ref a25, .ref a26, .ref a27, .int 1, .ref a2, .int 11])), (a1, .inl (cI, 4, .inl (tb [0, 0, 0, 0]))), (a2, .inl (cI, 777924, .inl (tb [0, 0, 0, 0, 1, 0, 0, 0, 2, 0, 0, 0, 3, 0, 0, 0, 4, 0, 0, 0, 5, 0, 0, 0, 6, 0, 0, 0, 7, 0, 0, 0, 8, 0, 0, 0, 9, 0, 0, 0, 10]))), (a3, .inl (cI, 4, .inl (tb [0, 0, 0, 0])))] sz)) 0 0 (va_A [(a0, .inr (9, [.ref a4, .ref a5, .ref a6, .ref a7, .ref a1, .ref a3, .ref a8, .ref a9, .ref a10, .ref a11, .ref a12, .ref a13, .int 1, .int 0, .int 0, .ref a14, .ref a15, .ref a16, .ref a17, .ref a18, .ref a19, .int 0, .int 0, .ref a20, .ref a21, .ref a22, .ref a23, .int 0, .int 0, .ref a24, .ref a25, .ref a26, .ref a27, .int 1, .ref a2, .int 11])), (a1, .inl (cI, 4, .inl (tb [0, 0, 0, 0]))), (a2, .inl (cI, 777924, .inl (tb [0, 0, 0, 0, 1, 0, 0, 0, 2, 0, 0, 0, 3, 0, 0, 0, 4, 0, 0, 0, 5, 0, 0, 0, 6, 0, 0, 0, 7, 0, 0, 0, 8, 0, 0, 0, 9, 0, 0, 0, 10]))), (a3, .inl (cI, 4, .inl (tb [0, 0, 0, 0])))] sz) := by
  refine SM.of (y := yX9_costOf) (maxL := 6) (av := [.ref a0, .ref a2, .int 12]) (QcL dC dI (TY cI cJ cII cJJ) 0 [(a0, .inr (9, [.ref a4, .ref a5, .ref a6, .ref a7, .ref a1, .ref a3, .ref a8, .ref a9, .ref a10, .ref a11, .ref a12, .ref a13, .int 1, .int 0, .int 0, .ref a14, .ref a15, .ref a16, .ref a17, .ref a18, .ref a19, .int 0, .int 0, .ref a20, .ref a21, .ref a22, .ref a23, .int 0, .int 0, .ref a24, .ref a25, .ref a26, .ref a27, .int 1, .ref a2, .int 11])), (a1, .inl (cI, 4, .inl (tb [0, 0, 0, 0]))), (a2, .inl (cI, 777924, .inl (tb [0, 0, 0, 0, 1, 0, 0, 0, 2, 0, 0, 0, 3, 0, 0, 0, 4, 0, 0, 0, 5, 0, 0, 0, 6, 0, 0, 0, 7, 0, 0, 0, 8, 0, 0, 0, 9, 0, 0, 0, 10]))), (a3, .inl (cI, 4, .inl (tb [0, 0, 0, 0])))]) (by decide +kernel) (Nat.le_of_ble_eq_true rfl) (fun p e s m below meth c A ls hx hb hr hml hown hts hk hnm hA hK hP hD hS hX hl => ?_)
  have hown : s.vm.findClass RX9 = some m.cls := hown
  have hl : lv_has ls 6 [(0, .ref a0), (1, .ref a2), (2, .int 12)] := hl
  refine lv_lconst (v := 0) hx hb dX9_costOf_0 (by decide) ?_
  refine lv_lstore_n (lv' := [(3, .long 0), (0, .ref a0), (1, .ref a2), (2, .int 12)]) hx hb dX9_costOf_1 rfl hl (by decide) rfl (fun ls hl => ?_)
  refine lv_iconst (v := 0) hx hb dX9_costOf_2 (by decide) ?_
  refine lv_istore (lv' := [(5, .int 0), (3, .long 0), (0, .ref a0), (1, .ref a2), (2, .int 12)]) hx hb dX9_costOf_3 hl (by decide) rfl (fun ls hl => ?_)
  refine lv_iload hx hb dX9_costOf_5 (lv_at hl 0 rfl) ?_
  refine lv_aload_n hx hb dX9_costOf_7 rfl (lv_at hl 2 rfl) ?_
  refine gf (k := 12) hx hb hts inX9 hown hK hP k_807 rfl (by decide) rfl 0 rfl (.int 1) rfl dX9_costOf_8 ?_
  refine f_icmp_ge hx hb dX9_costOf_11 64 (by decide) (by decide +kernel) ?_
  refine lv_lload_n hx hb dX9_costOf_14 rfl (lv_at hl 1 rfl) ?_
  refine lv_aload_n hx hb dX9_costOf_15 rfl (lv_at hl 2 rfl) ?_
  refine gf (k := 4) hx hb hts inX9 hown hK hP k_799 rfl (by decide) rfl 0 rfl (.ref a1) rfl dX9_costOf_16 ?_
  refine lv_iload hx hb dX9_costOf_19 (lv_at hl 0 rfl) ?_
  refine ld_i hx hb hK hP 1 rfl (vin (by decide +kernel)) dX9_costOf_21 0 rfl ?_
  refine lv_i2l (v := 0) hx hb dX9_costOf_22 (by decide +kernel) ?_
  refine lv_aload_n hx hb dX9_costOf_23 rfl (lv_at hl 3 rfl) ?_
  refine lv_iload_n hx hb dX9_costOf_24 rfl (lv_at hl 4 rfl) ?_
  refine lv_iload hx hb dX9_costOf_25 (lv_at hl 0 rfl) ?_
  refine v_iadd hx hb dX9_costOf_27 12 (by decide +kernel) ?_
  refine ld_i hx hb hK hP 2 rfl (vin (by decide +kernel)) dX9_costOf_28 3 rfl ?_
  refine lv_i2l (v := 3) hx hb dX9_costOf_29 (by decide +kernel) ?_
  refine v_lmul hx hb dX9_costOf_30 0 (by decide +kernel) ?_
  refine lv_aload_n hx hb dX9_costOf_31 rfl (lv_at hl 2 rfl) ?_
  refine gf (k := 5) hx hb hts inX9 hown hK hP k_800 rfl (by decide) rfl 0 rfl (.ref a3) rfl dX9_costOf_32 ?_
  refine lv_iload hx hb dX9_costOf_35 (lv_at hl 0 rfl) ?_
  refine ld_i hx hb hK hP 3 rfl (vin (by decide +kernel)) dX9_costOf_37 0 rfl ?_
  refine lv_i2l (v := 0) hx hb dX9_costOf_38 (by decide +kernel) ?_
  refine lv_aload_n hx hb dX9_costOf_39 rfl (lv_at hl 3 rfl) ?_
  refine lv_iload_n hx hb dX9_costOf_40 rfl (lv_at hl 4 rfl) ?_
  refine lv_iload hx hb dX9_costOf_41 (lv_at hl 0 rfl) ?_
  refine v_iadd hx hb dX9_costOf_43 12 (by decide +kernel) ?_
  refine ld_i hx hb hK hP 2 rfl (vin (by decide +kernel)) dX9_costOf_44 3 rfl ?_
  refine lv_i2l (v := 3) hx hb dX9_costOf_45 (by decide +kernel) ?_
  refine v_lmul hx hb dX9_costOf_46 0 (by decide +kernel) ?_
  refine lv_aload_n hx hb dX9_costOf_47 rfl (lv_at hl 3 rfl) ?_
  refine lv_iload_n hx hb dX9_costOf_48 rfl (lv_at hl 4 rfl) ?_
  refine lv_iload hx hb dX9_costOf_49 (lv_at hl 0 rfl) ?_
  refine v_iadd hx hb dX9_costOf_51 12 (by decide +kernel) ?_
  refine ld_i hx hb hK hP 2 rfl (vin (by decide +kernel)) dX9_costOf_52 3 rfl ?_
  refine lv_i2l (v := 3) hx hb dX9_costOf_53 (by decide +kernel) ?_
  refine v_lmul hx hb dX9_costOf_54 0 (by decide +kernel) ?_
  refine v_ladd hx hb dX9_costOf_55 0 (by decide +kernel) ?_
  refine v_ladd hx hb dX9_costOf_56 0 (by decide +kernel) ?_
  refine lv_lstore_n (lv' := [(3, .long 0), (5, .int 0), (0, .ref a0), (1, .ref a2), (2, .int 12)]) hx hb dX9_costOf_57 rfl hl (by decide) rfl (fun ls hl => ?_)
  refine lv_iinc (v := 1) (lv' := [(5, .int 1), (3, .long 0), (0, .ref a0), (1, .ref a2), (2, .int 12)]) hx hb dX9_costOf_58 hl (k := 1) rfl (by decide +kernel) (by decide) rfl (fun ls hl => ?_)
  refine lv_goto (tgt := 5) hx hb dX9_costOf_61 (by decide) ?_
  refine lv_iload hx hb dX9_costOf_5 (lv_at hl 0 rfl) ?_
  refine lv_aload_n hx hb dX9_costOf_7 rfl (lv_at hl 2 rfl) ?_
  refine gf (k := 12) hx hb hts inX9 hown hK hP k_807 rfl (by decide) rfl 0 rfl (.int 1) rfl dX9_costOf_8 ?_
  refine t_icmp_ge hx hb dX9_costOf_11 64 (by decide) (by decide +kernel) ?_
  refine lv_lload_n hx hb dX9_costOf_64 rfl (lv_at hl 1 rfl) ?_
  exact r_l hx hb hr hk hK hP hD hS dX9_costOf_65
