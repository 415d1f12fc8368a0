set_option maxRecDepth 100000 in
set_option maxHeartbeats 4000000 in
theorem c377_X9_minor (l : Launch) (dC : Nat → ClassId) (dI : Nat → Nat → Nat) (cI cJ cII cJJ : ClassId) (sz g a0 a1 a2 a3 a4 a5 a6 a7 a8 a9 a10 a11 a12 a13 a14 a15 a16 a17 a18 a19 a20 a21 a22 a23 a24 a25 a26 a27 : Nat) : Met l yX9_minor (.code yX9_minor cX9_minor 8 (some .long) :: TT) ({ frames := 2, cells := 0, slots := 0, locals := 80 }) (PcS dC dI (TY cI cJ cII cJJ) [.ref a0, .int 0, .int 0, .int 0, .int 0, .int 0, .int 0, .int 0] [(a0, .inr (9, [.ref a1, .ref a2, .ref a3, .ref a4, .ref a5, .ref a6, .ref a7, .ref a8, .ref a9, .ref a10, .ref a11, .ref a12, .int 1, .int 0, .int 1, .ref a13, .ref a14, .ref a15, .ref a16, .ref a17, .ref a18, .int 0, .int 0, .ref a19, .ref a20, .ref a21, .ref a22, .int 0, .int 0, .ref a23, .ref a24, .ref a25, .ref a26, .int 0, .ref a27, .int 0]))] sz 0 g) ((QcL dC dI (TY cI cJ cII cJJ) 1 [(a0, .inr (9, [.ref a1, .ref a2, .ref a3, .ref a4, .ref a5, .ref a6, .ref a7, .ref a8, .ref a9, .ref a10, .ref a11, .ref a12, .int 1, .int 0, .int 1, .ref a13, .ref a14, .ref a15, .ref a16, .ref a17, .ref a18, .int 0, .int 0, .ref a19, .ref a20, .ref a21, .ref a22, .int 0, .int 0, .ref a23, .ref a24, .ref a25, .ref a26, .int 0, .ref a27, .int 0]))]) (va_A [(a0, .inr (9, [.ref a1, .ref a2, .ref a3, .ref a4, .ref a5, .ref a6, .ref a7, .ref a8, .ref a9, .ref a10, .ref a11, .ref a12, .int 1, .int 0, .int 1, .ref a13, .ref a14, .ref a15, .ref a16, .ref a17, .ref a18, .int 0, .int 0, .ref a19, .ref a20, .ref a21, .ref a22, .int 0, .int 0, .ref a23, .ref a24, .ref a25, .ref a26, .int 0, .ref a27, .int 0]))] sz)) 0 0 (va_A [(a0, .inr (9, [.ref a1, .ref a2, .ref a3, .ref a4, .ref a5, .ref a6, .ref a7, .ref a8, .ref a9, .ref a10, .ref a11, .ref a12, .int 1, .int 0, .int 1, .ref a13, .ref a14, .ref a15, .ref a16, .ref a17, .ref a18, .int 0, .int 0, .ref a19, .ref a20, .ref a21, .ref a22, .int 0, .int 0, .ref a23, .ref a24, .ref a25, .ref a26, .int 0, .ref a27, .int 0]))] sz) := by
  refine SM.of (y := yX9_minor) (maxL := 8) (av := [.ref a0, .int 0, .int 0, .int 0, .int 0, .int 0, .int 0, .int 0]) (QcL dC dI (TY cI cJ cII cJJ) 1 [(a0, .inr (9, [.ref a1, .ref a2, .ref a3, .ref a4, .ref a5, .ref a6, .ref a7, .ref a8, .ref a9, .ref a10, .ref a11, .ref a12, .int 1, .int 0, .int 1, .ref a13, .ref a14, .ref a15, .ref a16, .ref a17, .ref a18, .int 0, .int 0, .ref a19, .ref a20, .ref a21, .ref a22, .int 0, .int 0, .ref a23, .ref a24, .ref a25, .ref a26, .int 0, .ref a27, .int 0]))]) (by decide +kernel) (Nat.le_of_ble_eq_true rfl) (fun p e s m below meth c A ls hx hb hr hml hown hts hk hnm hA hK hP hD hS hX hl => ?_)
  have hown : s.vm.findClass RX9 = some m.cls := hown
  have hl : lv_has ls 8 [(0, .ref a0), (1, .int 0), (2, .int 0), (3, .int 0), (4, .int 0), (5, .int 0), (6, .int 0), (7, .int 0)] := hl
  refine lv_iload_n hx hb dX9_minor_0 rfl (lv_at hl 1 rfl) ?_
  refine f_if_ne hx hb dX9_minor_1 6 (by decide) (by decide +kernel) ?_
  refine lv_lconst (v := 1) hx hb dX9_minor_4 (by decide) ?_
  exact r_l hx hb hr hk hK hP hD hS dX9_minor_5
set_option maxRecDepth 100000 in
set_option maxHeartbeats 4000000 in
theorem c374_X9_ranks (l : Launch) (dC : Nat → ClassId) (dI : Nat → Nat → Nat) (cI cJ cII cJJ : ClassId) (sz g a0 a1 a2 a3 a4 a5 a6 a7 a8 a9 a10 a11 a12 a13 a14 a15 a16 a17 a18 a19 a20 a21 a22 a23 a24 a25 a26 a27 : Nat) : Met l yX9_ranks (.code yX9_ranks cX9_ranks 5 (some .boolean) :: TT) ({ frames := 3, cells := 0, slots := 0, locals := 140 }) (PcS dC dI (TY cI cJ cII cJJ) [.ref a0, .int 0] [(a0, .inr (9, [.ref a4, .ref a5, .ref a6, .ref a7, .ref a8, .ref a9, .ref a10, .ref a11, .ref a12, .ref a13, .ref a14, .ref a15, .int 1, .int 0, .int 1, .ref a16, .ref a17, .ref a18, .ref a19, .ref a20, .ref a21, .int 0, .int 0, .ref a2, .ref a1, .ref a3, .ref a22, .int 0, .int 0, .ref a23, .ref a24, .ref a25, .ref a26, .int 0, .ref a27, .int 0])), (a1, .inl (cI, 3, .inl (tb []))), (a2, .inl (cI, 3, .inl (tb []))), (a3, .inl (cI, 4, .inl (tb [])))] sz 0 g) ((QcI dC dI (TY cI cJ cII cJJ) 1 [(a3, .inl (cI, 4, .inl (tb [0]))), (a1, .inl (cI, 3, .inl (tb [0, 0, 0]))), (a2, .inl (cI, 3, .inl (tb [0, 0, 0]))), (a0, .inr (9, [.ref a4, .ref a5, .ref a6, .ref a7, .ref a8, .ref a9, .ref a10, .ref a11, .ref a12, .ref a13, .ref a14, .ref a15, .int 1, .int 0, .int 1, .ref a16, .ref a17, .ref a18, .ref a19, .ref a20, .ref a21, .int 0, .int 0, .ref a2, .ref a1, .ref a3, .ref a22, .int 0, .int 1, .ref a23, .ref a24, .ref a25, .ref a26, .int 0, .ref a27, .int 0]))]) (va_A [(a0, .inr (9, [.ref a4, .ref a5, .ref a6, .ref a7, .ref a8, .ref a9, .ref a10, .ref a11, .ref a12, .ref a13, .ref a14, .ref a15, .int 1, .int 0, .int 1, .ref a16, .ref a17, .ref a18, .ref a19, .ref a20, .ref a21, .int 0, .int 0, .ref a2, .ref a1, .ref a3, .ref a22, .int 0, .int 0, .ref a23, .ref a24, .ref a25, .ref a26, .int 0, .ref a27, .int 0])), (a1, .inl (cI, 3, .inl (tb []))), (a2, .inl (cI, 3, .inl (tb []))), (a3, .inl (cI, 4, .inl (tb [])))] sz)) 0 0 (va_A [(a0, .inr (9, [.ref a4, .ref a5, .ref a6, .ref a7, .ref a8, .ref a9, .ref a10, .ref a11, .ref a12, .ref a13, .ref a14, .ref a15, .int 1, .int 0, .int 1, .ref a16, .ref a17, .ref a18, .ref a19, .ref a20, .ref a21, .int 0, .int 0, .ref a2, .ref a1, .ref a3, .ref a22, .int 0, .int 0, .ref a23, .ref a24, .ref a25, .ref a26, .int 0, .ref a27, .int 0])), (a1, .inl (cI, 3, .inl (tb []))), (a2, .inl (cI, 3, .inl (tb []))), (a3, .inl (cI, 4, .inl (tb [])))] sz) := by
  refine SM.of (y := yX9_ranks) (maxL := 5) (av := [.ref a0, .int 0]) (QcI dC dI (TY cI cJ cII cJJ) 1 [(a3, .inl (cI, 4, .inl (tb [0]))), (a1, .inl (cI, 3, .inl (tb [0, 0, 0]))), (a2, .inl (cI, 3, .inl (tb [0, 0, 0]))), (a0, .inr (9, [.ref a4, .ref a5, .ref a6, .ref a7, .ref a8, .ref a9, .ref a10, .ref a11, .ref a12, .ref a13, .ref a14, .ref a15, .int 1, .int 0, .int 1, .ref a16, .ref a17, .ref a18, .ref a19, .ref a20, .ref a21, .int 0, .int 0, .ref a2, .ref a1, .ref a3, .ref a22, .int 0, .int 1, .ref a23, .ref a24, .ref a25, .ref a26, .int 0, .ref a27, .int 0]))]) (by decide +kernel) (Nat.le_of_ble_eq_true rfl) (fun p e s m below meth c A ls hx hb hr hml hown hts hk hnm hA hK hP hD hS hX hl => ?_)
  have hown : s.vm.findClass RX9 = some m.cls := hown
  have hl : lv_has ls 5 [(0, .ref a0), (1, .int 0)] := hl
  refine lv_iconst (v := 0) hx hb dX9_ranks_0 (by decide) ?_
  refine lv_istore_n (lv' := [(2, .int 0), (0, .ref a0), (1, .int 0)]) hx hb dX9_ranks_1 rfl hl (by decide) rfl (fun ls hl => ?_)
  refine lv_iload_n hx hb dX9_ranks_2 rfl (lv_at hl 0 rfl) ?_
  refine lv_iconst (v := 1) hx hb dX9_ranks_3 (by decide) ?_
  refine lv_aload_n hx hb dX9_ranks_4 rfl (lv_at hl 1 rfl) ?_
  refine gf (k := 13) hx hb hts inX9 hown hK hP k_808 rfl (by decide) rfl 0 rfl (.int 0) rfl dX9_ranks_5 ?_
  refine v_ishl hx hb dX9_ranks_8 1 (by decide +kernel) ?_
  refine f_icmp_ge hx hb dX9_ranks_9 182 (by decide) (by decide +kernel) ?_
  refine lv_iload_n hx hb dX9_ranks_12 rfl (lv_at hl 0 rfl) ?_
  refine kS_i ⟨hx, hb, hml, hown, hts⟩ hK hP hD hS hA hX cs_RX9_128 [] [0, 1, 2, 3] (wr := [(a0, .inr (9, [.ref a4, .ref a5, .ref a6, .ref a7, .ref a8, .ref a9, .ref a10, .ref a11, .ref a12, .ref a13, .ref a14, .ref a15, .int 1, .int 0, .int 1, .ref a16, .ref a17, .ref a18, .ref a19, .ref a20, .ref a21, .int 0, .int 0, .ref a2, .ref a1, .ref a3, .ref a22, .int 0, .int 0, .ref a23, .ref a24, .ref a25, .ref a26, .int 0, .ref a27, .int 0])), (a1, .inl (cI, 3, .inl (tb []))), (a2, .inl (cI, 3, .inl (tb []))), (a3, .inl (cI, 4, .inl (tb [])))]) rfl rfl rfl rfl (by decide) (c375_X9_bits l dC dI cI cJ cII cJJ s.heap.size 0) ⟨by decide +kernel, by decide +kernel⟩ rfl rfl (Or.inl rfl) (rest := []) rfl hl.1 rfl (Nat.le_of_ble_eq_true rfl) dX9_ranks_13 ⟨Nat.le_of_ble_eq_true rfl, Nat.le_of_ble_eq_true rfl⟩ (W' := [(a0, .inr (9, [.ref a4, .ref a5, .ref a6, .ref a7, .ref a8, .ref a9, .ref a10, .ref a11, .ref a12, .ref a13, .ref a14, .ref a15, .int 1, .int 0, .int 1, .ref a16, .ref a17, .ref a18, .ref a19, .ref a20, .ref a21, .int 0, .int 0, .ref a2, .ref a1, .ref a3, .ref a22, .int 0, .int 0, .ref a23, .ref a24, .ref a25, .ref a26, .int 0, .ref a27, .int 0])), (a1, .inl (cI, 3, .inl (tb []))), (a2, .inl (cI, 3, .inl (tb []))), (a3, .inl (cI, 4, .inl (tb [])))]) rfl (fun H locs hP hD hS => ?_)
  refine lv_iload_n hx hb dX9_ranks_16 rfl (lv_at hl 2 rfl) ?_
  refine t_icmp_eq hx hb dX9_ranks_17 23 (by decide) (by decide +kernel) ?_
  refine lv_iconst (v := 0) hx hb dX9_ranks_23 (by decide) ?_
  refine lv_istore_n (lv' := [(3, .int 0), (2, .int 0), (0, .ref a0), (1, .int 0)]) hx hb dX9_ranks_24 rfl hl (by decide) rfl (fun ls hl => ?_)
  refine lv_iload_n hx hb dX9_ranks_25 rfl (lv_at hl 0 rfl) ?_
  refine lv_iconst (v := 1) hx hb dX9_ranks_26 (by decide) ?_
  refine lv_aload_n hx hb dX9_ranks_27 rfl (lv_at hl 2 rfl) ?_
  refine gf (k := 12) hx hb hts inX9 hown hK hP k_807 rfl (by decide) rfl 0 rfl (.int 1) rfl dX9_ranks_28 ?_
  refine v_ishl hx hb dX9_ranks_31 2 (by decide +kernel) ?_
  refine f_icmp_ge hx hb dX9_ranks_32 176 (by decide) (by decide +kernel) ?_
  refine lv_iload_n hx hb dX9_ranks_35 rfl (lv_at hl 0 rfl) ?_
  refine kS_i ⟨hx, hb, hml, hown, hts⟩ hK hP hD hS hA hX cs_RX9_128 [] [0, 1, 2, 3] (wr := [(a0, .inr (9, [.ref a4, .ref a5, .ref a6, .ref a7, .ref a8, .ref a9, .ref a10, .ref a11, .ref a12, .ref a13, .ref a14, .ref a15, .int 1, .int 0, .int 1, .ref a16, .ref a17, .ref a18, .ref a19, .ref a20, .ref a21, .int 0, .int 0, .ref a2, .ref a1, .ref a3, .ref a22, .int 0, .int 0, .ref a23, .ref a24, .ref a25, .ref a26, .int 0, .ref a27, .int 0])), (a1, .inl (cI, 3, .inl (tb []))), (a2, .inl (cI, 3, .inl (tb []))), (a3, .inl (cI, 4, .inl (tb [])))]) rfl rfl rfl rfl (by decide) (c375_X9_bits l dC dI cI cJ cII cJJ H.size 0) ⟨by decide +kernel, by decide +kernel⟩ rfl rfl (Or.inl rfl) (rest := []) rfl hl.1 rfl (Nat.le_of_ble_eq_true rfl) dX9_ranks_36 ⟨Nat.le_of_ble_eq_true rfl, Nat.le_of_ble_eq_true rfl⟩ (W' := [(a0, .inr (9, [.ref a4, .ref a5, .ref a6, .ref a7, .ref a8, .ref a9, .ref a10, .ref a11, .ref a12, .ref a13, .ref a14, .ref a15, .int 1, .int 0, .int 1, .ref a16, .ref a17, .ref a18, .ref a19, .ref a20, .ref a21, .int 0, .int 0, .ref a2, .ref a1, .ref a3, .ref a22, .int 0, .int 0, .ref a23, .ref a24, .ref a25, .ref a26, .int 0, .ref a27, .int 0])), (a1, .inl (cI, 3, .inl (tb []))), (a2, .inl (cI, 3, .inl (tb []))), (a3, .inl (cI, 4, .inl (tb [])))]) rfl (fun H locs hP hD hS => ?_)
  refine lv_iload_n hx hb dX9_ranks_39 rfl (lv_at hl 3 rfl) ?_
  refine t_icmp_eq hx hb dX9_ranks_40 46 (by decide) (by decide +kernel) ?_
  refine lv_iload_n hx hb dX9_ranks_46 rfl (lv_at hl 1 rfl) ?_
  refine lv_aload_n hx hb dX9_ranks_47 rfl (lv_at hl 2 rfl) ?_
  refine gf (k := 24) hx hb hts inX9 hown hK hP k_819 rfl (by decide) rfl 0 rfl (.ref a1) rfl dX9_ranks_48 ?_
  refine kS_v ⟨hx, hb, hml, hown, hts⟩ hK hP hD hS hA hX cs_RX9_131 [1] [0, 2, 3] (wr := [(a0, .inr (9, [.ref a4, .ref a5, .ref a6, .ref a7, .ref a8, .ref a9, .ref a10, .ref a11, .ref a12, .ref a13, .ref a14, .ref a15, .int 1, .int 0, .int 1, .ref a16, .ref a17, .ref a18, .ref a19, .ref a20, .ref a21, .int 0, .int 0, .ref a2, .ref a1, .ref a3, .ref a22, .int 0, .int 0, .ref a23, .ref a24, .ref a25, .ref a26, .int 0, .ref a27, .int 0])), (a2, .inl (cI, 3, .inl (tb []))), (a3, .inl (cI, 4, .inl (tb [])))]) rfl rfl rfl rfl (by decide) (c376_X9_takes l dC dI cI cJ cII cJJ H.size 0 a1) ⟨by decide +kernel, by decide +kernel⟩ rfl rfl (Or.inl rfl) (rest := []) rfl hl.1 rfl (Nat.le_of_ble_eq_true rfl) dX9_ranks_51 ⟨Nat.le_of_ble_eq_true rfl, Nat.le_of_ble_eq_true rfl⟩ (fun _ => rfl) (W' := [(a0, .inr (9, [.ref a4, .ref a5, .ref a6, .ref a7, .ref a8, .ref a9, .ref a10, .ref a11, .ref a12, .ref a13, .ref a14, .ref a15, .int 1, .int 0, .int 1, .ref a16, .ref a17, .ref a18, .ref a19, .ref a20, .ref a21, .int 0, .int 0, .ref a2, .ref a1, .ref a3, .ref a22, .int 0, .int 0, .ref a23, .ref a24, .ref a25, .ref a26, .int 0, .ref a27, .int 0])), (a2, .inl (cI, 3, .inl (tb []))), (a3, .inl (cI, 4, .inl (tb []))), (a1, .inl (cI, 3, .inl (tb [0, 0, 0])))]) rfl (fun H locs hP hD hS => ?_)
  refine lv_iload_n hx hb dX9_ranks_54 rfl (lv_at hl 0 rfl) ?_
  refine lv_aload_n hx hb dX9_ranks_55 rfl (lv_at hl 2 rfl) ?_
  refine gf (k := 23) hx hb hts inX9 hown hK hP k_818 rfl (by decide) rfl 0 rfl (.ref a2) rfl dX9_ranks_56 ?_
  refine kS_v ⟨hx, hb, hml, hown, hts⟩ hK hP hD hS hA hX cs_RX9_131 [1] [0, 2, 3] (wr := [(a0, .inr (9, [.ref a4, .ref a5, .ref a6, .ref a7, .ref a8, .ref a9, .ref a10, .ref a11, .ref a12, .ref a13, .ref a14, .ref a15, .int 1, .int 0, .int 1, .ref a16, .ref a17, .ref a18, .ref a19, .ref a20, .ref a21, .int 0, .int 0, .ref a2, .ref a1, .ref a3, .ref a22, .int 0, .int 0, .ref a23, .ref a24, .ref a25, .ref a26, .int 0, .ref a27, .int 0])), (a3, .inl (cI, 4, .inl (tb []))), (a1, .inl (cI, 3, .inl (tb [0, 0, 0])))]) rfl rfl rfl rfl (by decide) (c376_X9_takes l dC dI cI cJ cII cJJ H.size 0 a2) ⟨by decide +kernel, by decide +kernel⟩ rfl rfl (Or.inl rfl) (rest := []) rfl hl.1 rfl (Nat.le_of_ble_eq_true rfl) dX9_ranks_59 ⟨Nat.le_of_ble_eq_true rfl, Nat.le_of_ble_eq_true rfl⟩ (fun _ => rfl) (W' := [(a0, .inr (9, [.ref a4, .ref a5, .ref a6, .ref a7, .ref a8, .ref a9, .ref a10, .ref a11, .ref a12, .ref a13, .ref a14, .ref a15, .int 1, .int 0, .int 1, .ref a16, .ref a17, .ref a18, .ref a19, .ref a20, .ref a21, .int 0, .int 0, .ref a2, .ref a1, .ref a3, .ref a22, .int 0, .int 0, .ref a23, .ref a24, .ref a25, .ref a26, .int 0, .ref a27, .int 0])), (a3, .inl (cI, 4, .inl (tb []))), (a1, .inl (cI, 3, .inl (tb [0, 0, 0]))), (a2, .inl (cI, 3, .inl (tb [0, 0, 0])))]) rfl (fun H locs hP hD hS => ?_)
  refine lv_aload_n hx hb dX9_ranks_62 rfl (lv_at hl 2 rfl) ?_
  refine lv_iload_n hx hb dX9_ranks_63 rfl (lv_at hl 3 rfl) ?_
  refine lv_aload_n hx hb dX9_ranks_64 rfl (lv_at hl 2 rfl) ?_
  refine gf (k := 24) hx hb hts inX9 hown hK hP k_819 rfl (by decide) rfl 0 rfl (.ref a1) rfl dX9_ranks_65 ?_
  refine lv_iconst (v := 0) hx hb dX9_ranks_68 (by decide) ?_
  refine ld_i hx hb hK hP 2 rfl (vin (by decide +kernel)) dX9_ranks_69 0 rfl ?_
  refine lv_aload_n hx hb dX9_ranks_70 rfl (lv_at hl 2 rfl) ?_
  refine gf (k := 24) hx hb hts inX9 hown hK hP k_819 rfl (by decide) rfl 0 rfl (.ref a1) rfl dX9_ranks_71 ?_
  refine lv_iconst (v := 1) hx hb dX9_ranks_74 (by decide) ?_
  refine ld_i hx hb hK hP 2 rfl (vin (by decide +kernel)) dX9_ranks_75 0 rfl ?_
  refine lv_aload_n hx hb dX9_ranks_76 rfl (lv_at hl 2 rfl) ?_
  refine gf (k := 24) hx hb hts inX9 hown hK hP k_819 rfl (by decide) rfl 0 rfl (.ref a1) rfl dX9_ranks_77 ?_
  refine lv_iconst (v := 2) hx hb dX9_ranks_80 (by decide) ?_
  refine ld_i hx hb hK hP 2 rfl (vin (by decide +kernel)) dX9_ranks_81 0 rfl ?_
  refine lv_aload_n hx hb dX9_ranks_82 rfl (lv_at hl 2 rfl) ?_
  refine gf (k := 23) hx hb hts inX9 hown hK hP k_818 rfl (by decide) rfl 0 rfl (.ref a2) rfl dX9_ranks_83 ?_
  refine lv_iconst (v := 0) hx hb dX9_ranks_86 (by decide) ?_
  refine ld_i hx hb hK hP 3 rfl (vin (by decide +kernel)) dX9_ranks_87 0 rfl ?_
  refine lv_aload_n hx hb dX9_ranks_88 rfl (lv_at hl 2 rfl) ?_
  refine gf (k := 23) hx hb hts inX9 hown hK hP k_818 rfl (by decide) rfl 0 rfl (.ref a2) rfl dX9_ranks_89 ?_
  refine lv_iconst (v := 1) hx hb dX9_ranks_92 (by decide) ?_
  refine ld_i hx hb hK hP 3 rfl (vin (by decide +kernel)) dX9_ranks_93 0 rfl ?_
  refine lv_aload_n hx hb dX9_ranks_94 rfl (lv_at hl 2 rfl) ?_
  refine gf (k := 23) hx hb hts inX9 hown hK hP k_818 rfl (by decide) rfl 0 rfl (.ref a2) rfl dX9_ranks_95 ?_
  refine lv_iconst (v := 2) hx hb dX9_ranks_98 (by decide) ?_
  refine ld_i hx hb hK hP 3 rfl (vin (by decide +kernel)) dX9_ranks_99 0 rfl ?_
  refine kV_l (q0 := 0) ⟨hx, hb, hml, hown, hts⟩ hK hP hD hS hA hX cv_RX9_135 [0] [1, 2, 3] (wr := [(a3, .inl (cI, 4, .inl (tb []))), (a1, .inl (cI, 3, .inl (tb [0, 0, 0]))), (a2, .inl (cI, 3, .inl (tb [0, 0, 0])))]) rfl rfl rfl rfl (by decide) (c377_X9_minor l dC dI cI cJ cII cJJ H.size 0 a0 a4 a5 a6 a7 a8 a9 a10 a11 a12 a13 a14 a15 a16 a17 a18 a19 a20 a21 a2 a1 a3 a22 a23 a24 a25 a26 a27) ⟨by decide +kernel, by decide +kernel⟩ rfl rfl (Or.inl rfl) (rest := []) rfl rfl rfl hl.1 rfl (Nat.le_of_ble_eq_true rfl) dX9_ranks_100 ⟨Nat.le_of_ble_eq_true rfl, Nat.le_of_ble_eq_true rfl⟩ (W' := [(a3, .inl (cI, 4, .inl (tb []))), (a1, .inl (cI, 3, .inl (tb [0, 0, 0]))), (a2, .inl (cI, 3, .inl (tb [0, 0, 0]))), (a0, .inr (9, [.ref a4, .ref a5, .ref a6, .ref a7, .ref a8, .ref a9, .ref a10, .ref a11, .ref a12, .ref a13, .ref a14, .ref a15, .int 1, .int 0, .int 1, .ref a16, .ref a17, .ref a18, .ref a19, .ref a20, .ref a21, .int 0, .int 0, .ref a2, .ref a1, .ref a3, .ref a22, .int 0, .int 0, .ref a23, .ref a24, .ref a25, .ref a26, .int 0, .ref a27, .int 0]))]) rfl (fun H locs hP hD hS => ?_)
  refine lv_lconst (v := 0) hx hb dX9_ranks_103 (by decide) ?_
  refine v_lcmp hx hb dX9_ranks_104 1 (by decide +kernel) ?_
  refine t_if_ne hx hb dX9_ranks_105 111 (by decide) (by decide +kernel) ?_
  refine lv_aload_n hx hb dX9_ranks_111 rfl (lv_at hl 2 rfl) ?_
  refine lv_iconst (v := 0) hx hb dX9_ranks_112 (by decide) ?_
  refine pf (k := 28) hx hb hts inX9 tyX9_ok nmX9 hown hK hP hD hS k_823 rfl (by decide) rfl rfl 3 rfl rfl rfl (Nat.le_of_ble_eq_true rfl) dX9_ranks_113 (W' := [(a3, .inl (cI, 4, .inl (tb []))), (a1, .inl (cI, 3, .inl (tb [0, 0, 0]))), (a2, .inl (cI, 3, .inl (tb [0, 0, 0]))), (a0, .inr (9, [.ref a4, .ref a5, .ref a6, .ref a7, .ref a8, .ref a9, .ref a10, .ref a11, .ref a12, .ref a13, .ref a14, .ref a15, .int 1, .int 0, .int 1, .ref a16, .ref a17, .ref a18, .ref a19, .ref a20, .ref a21, .int 0, .int 0, .ref a2, .ref a1, .ref a3, .ref a22, .int 0, .int 0, .ref a23, .ref a24, .ref a25, .ref a26, .int 0, .ref a27, .int 0]))]) rfl (fun H locs hP hD hS => ?_)
  refine lv_iconst (v := 0) hx hb dX9_ranks_116 (by decide) ?_
  refine lv_istore (lv' := [(4, .int 0), (3, .int 0), (2, .int 0), (0, .ref a0), (1, .int 0)]) hx hb dX9_ranks_117 hl (by decide) rfl (fun ls hl => ?_)
  refine lv_iload hx hb dX9_ranks_119 (lv_at hl 0 rfl) ?_
  refine lv_aload_n hx hb dX9_ranks_121 rfl (lv_at hl 3 rfl) ?_
  refine gf (k := 12) hx hb hts inX9 hown hK hP k_807 rfl (by decide) rfl 3 rfl (.int 1) rfl dX9_ranks_122 ?_
  refine f_icmp_ge hx hb dX9_ranks_125 168 (by decide) (by decide +kernel) ?_
  refine lv_iload_n hx hb dX9_ranks_128 rfl (lv_at hl 1 rfl) ?_
  refine lv_iload hx hb dX9_ranks_129 (lv_at hl 0 rfl) ?_
  refine v_ishr hx hb dX9_ranks_131 0 (by decide +kernel) ?_
  refine lv_iconst (v := 1) hx hb dX9_ranks_132 (by decide) ?_
  refine v_iand hx hb dX9_ranks_133 0 (by decide +kernel) ?_
  refine lv_iconst (v := 1) hx hb dX9_ranks_134 (by decide) ?_
  refine t_icmp_ne hx hb dX9_ranks_135 141 (by decide) (by decide +kernel) ?_
  refine lv_aload_n hx hb dX9_ranks_141 rfl (lv_at hl 3 rfl) ?_
  refine gf (k := 25) hx hb hts inX9 hown hK hP k_820 rfl (by decide) rfl 3 rfl (.ref a3) rfl dX9_ranks_142 ?_
  refine lv_aload_n hx hb dX9_ranks_145 rfl (lv_at hl 3 rfl) ?_
  refine gf (k := 28) hx hb hts inX9 hown hK hP k_823 rfl (by decide) rfl 3 rfl (.int 0) rfl dX9_ranks_146 ?_
  refine lv_iload hx hb dX9_ranks_149 (lv_at hl 0 rfl) ?_
  refine st_i hx hb hK hP hD hS 0 rfl (vin (by decide +kernel)) dX9_ranks_151 (L' := [0]) rfl (W' := [(a3, .inl (cI, 4, .inl (tb [0]))), (a1, .inl (cI, 3, .inl (tb [0, 0, 0]))), (a2, .inl (cI, 3, .inl (tb [0, 0, 0]))), (a0, .inr (9, [.ref a4, .ref a5, .ref a6, .ref a7, .ref a8, .ref a9, .ref a10, .ref a11, .ref a12, .ref a13, .ref a14, .ref a15, .int 1, .int 0, .int 1, .ref a16, .ref a17, .ref a18, .ref a19, .ref a20, .ref a21, .int 0, .int 0, .ref a2, .ref a1, .ref a3, .ref a22, .int 0, .int 0, .ref a23, .ref a24, .ref a25, .ref a26, .int 0, .ref a27, .int 0]))]) rfl (fun H locs hP hD hS => ?_)
  refine lv_aload_n hx hb dX9_ranks_152 rfl (lv_at hl 3 rfl) ?_
  refine lv_dup hx hb dX9_ranks_153 rfl ?_
  refine gf (k := 28) hx hb hts inX9 hown hK hP k_823 rfl (by decide) rfl 3 rfl (.int 0) rfl dX9_ranks_154 ?_
  refine lv_iconst (v := 1) hx hb dX9_ranks_157 (by decide) ?_
  refine v_iadd hx hb dX9_ranks_158 1 (by decide +kernel) ?_
  refine pf (k := 28) hx hb hts inX9 tyX9_ok nmX9 hown hK hP hD hS k_823 rfl (by decide) rfl rfl 3 rfl rfl rfl (Nat.le_of_ble_eq_true rfl) dX9_ranks_159 (W' := [(a3, .inl (cI, 4, .inl (tb [0]))), (a1, .inl (cI, 3, .inl (tb [0, 0, 0]))), (a2, .inl (cI, 3, .inl (tb [0, 0, 0]))), (a0, .inr (9, [.ref a4, .ref a5, .ref a6, .ref a7, .ref a8, .ref a9, .ref a10, .ref a11, .ref a12, .ref a13, .ref a14, .ref a15, .int 1, .int 0, .int 1, .ref a16, .ref a17, .ref a18, .ref a19, .ref a20, .ref a21, .int 0, .int 0, .ref a2, .ref a1, .ref a3, .ref a22, .int 0, .int 1, .ref a23, .ref a24, .ref a25, .ref a26, .int 0, .ref a27, .int 0]))]) rfl (fun H locs hP hD hS => ?_)
  refine lv_iinc (v := 1) (lv' := [(4, .int 1), (3, .int 0), (2, .int 0), (0, .ref a0), (1, .int 0)]) hx hb dX9_ranks_162 hl (k := 0) rfl (by decide +kernel) (by decide) rfl (fun ls hl => ?_)
  refine lv_goto (tgt := 119) hx hb dX9_ranks_165 (by decide) ?_
  refine lv_iload hx hb dX9_ranks_119 (lv_at hl 0 rfl) ?_
  refine lv_aload_n hx hb dX9_ranks_121 rfl (lv_at hl 3 rfl) ?_
  refine gf (k := 12) hx hb hts inX9 hown hK hP k_807 rfl (by decide) rfl 3 rfl (.int 1) rfl dX9_ranks_122 ?_
  refine t_icmp_ge hx hb dX9_ranks_125 168 (by decide) (by decide +kernel) ?_
  refine lv_iconst (v := 1) hx hb dX9_ranks_168 (by decide) ?_
  exact r_z hx hb hr hk hK hP hD hS dX9_ranks_169 rfl
set_option maxRecDepth 100000 in
set_option maxHeartbeats 4000000 in
theorem c381_X9_minor (l : Launch) (dC : Nat → ClassId) (dI : Nat → Nat → Nat) (cI cJ cII cJJ : ClassId) (sz g a0 a1 a2 a3 a4 a5 a6 a7 a8 a9 a10 a11 a12 a13 a14 a15 a16 a17 a18 a19 a20 a21 a22 a23 a24 a25 a26 a27 : Nat) : Met l yX9_minor (.code yX9_minor cX9_minor 8 (some .long) :: TT) ({ frames := 2, cells := 0, slots := 0, locals := 80 }) (PcS dC dI (TY cI cJ cII cJJ) [.ref a0, .int 0, .int 0, .int 0, .int 0, .int 0, .int 0, .int 0] [(a0, .inr (9, [.ref a1, .ref a2, .ref a3, .ref a4, .ref a5, .ref a6, .ref a7, .ref a8, .ref a9, .ref a10, .ref a11, .ref a12, .int 1, .int 0, .int 1, .ref a13, .ref a14, .ref a15, .ref a16, .ref a17, .ref a18, .int 0, .int 0, .ref a19, .ref a20, .ref a21, .ref a22, .int 0, .int 1, .ref a23, .ref a24, .ref a25, .ref a26, .int 0, .ref a27, .int 0]))] sz 0 g) ((QcL dC dI (TY cI cJ cII cJJ) 1 [(a0, .inr (9, [.ref a1, .ref a2, .ref a3, .ref a4, .ref a5, .ref a6, .ref a7, .ref a8, .ref a9, .ref a10, .ref a11, .ref a12, .int 1, .int 0, .int 1, .ref a13, .ref a14, .ref a15, .ref a16, .ref a17, .ref a18, .int 0, .int 0, .ref a19, .ref a20, .ref a21, .ref a22, .int 0, .int 1, .ref a23, .ref a24, .ref a25, .ref a26, .int 0, .ref a27, .int 0]))]) (va_A [(a0, .inr (9, [.ref a1, .ref a2, .ref a3, .ref a4, .ref a5, .ref a6, .ref a7, .ref a8, .ref a9, .ref a10, .ref a11, .ref a12, .int 1, .int 0, .int 1, .ref a13, .ref a14, .ref a15, .ref a16, .ref a17, .ref a18, .int 0, .int 0, .ref a19, .ref a20, .ref a21, .ref a22, .int 0, .int 1, .ref a23, .ref a24, .ref a25, .ref a26, .int 0, .ref a27, .int 0]))] sz)) 0 0 (va_A [(a0, .inr (9, [.ref a1, .ref a2, .ref a3, .ref a4, .ref a5, .ref a6, .ref a7, .ref a8, .ref a9, .ref a10, .ref a11, .ref a12, .int 1, .int 0, .int 1, .ref a13, .ref a14, .ref a15, .ref a16, .ref a17, .ref a18, .int 0, .int 0, .ref a19, .ref a20, .ref a21, .ref a22, .int 0, .int 1, .ref a23, .ref a24, .ref a25, .ref a26, .int 0, .ref a27, .int 0]))] sz) := by
  refine SM.of (y := yX9_minor) (maxL := 8) (av := [.ref a0, .int 0, .int 0, .int 0, .int 0, .int 0, .int 0, .int 0]) (QcL dC dI (TY cI cJ cII cJJ) 1 [(a0, .inr (9, [.ref a1, .ref a2, .ref a3, .ref a4, .ref a5, .ref a6, .ref a7, .ref a8, .ref a9, .ref a10, .ref a11, .ref a12, .int 1, .int 0, .int 1, .ref a13, .ref a14, .ref a15, .ref a16, .ref a17, .ref a18, .int 0, .int 0, .ref a19, .ref a20, .ref a21, .ref a22, .int 0, .int 1, .ref a23, .ref a24, .ref a25, .ref a26, .int 0, .ref a27, .int 0]))]) (by decide +kernel) (Nat.le_of_ble_eq_true rfl) (fun p e s m below meth c A ls hx hb hr hml hown hts hk hnm hA hK hP hD hS hX hl => ?_)
  have hown : s.vm.findClass RX9 = some m.cls := hown
  have hl : lv_has ls 8 [(0, .ref a0), (1, .int 0), (2, .int 0), (3, .int 0), (4, .int 0), (5, .int 0), (6, .int 0), (7, .int 0)] := hl
  refine lv_iload_n hx hb dX9_minor_0 rfl (lv_at hl 1 rfl) ?_
  refine f_if_ne hx hb dX9_minor_1 6 (by decide) (by decide +kernel) ?_
  refine lv_lconst (v := 1) hx hb dX9_minor_4 (by decide) ?_
  exact r_l hx hb hr hk hK hP hD hS dX9_minor_5
set_option maxRecDepth 100000 in
set_option maxHeartbeats 4000000 in
theorem c380_X9_makes (l : Launch) (dC : Nat → ClassId) (dI : Nat → Nat → Nat) (cI cJ cII cJJ : ClassId) (sz g a0 a1 a2 a3 a4 a5 a6 a7 a8 a9 a10 a11 a12 a13 a14 a15 a16 a17 a18 a19 a20 a21 a22 a23 a24 a25 a26 a27 : Nat) : Met l yX9_makes (.code yX9_makes cX9_makes 7 (some .boolean) :: TT) ({ frames := 3, cells := 0, slots := 0, locals := 140 }) (PcS dC dI (TY cI cJ cII cJJ) [.ref a0, .int 1] [(a0, .inr (9, [.ref a4, .ref a5, .ref a6, .ref a7, .ref a8, .ref a9, .ref a10, .ref a11, .ref a12, .ref a13, .ref a14, .ref a15, .int 1, .int 0, .int 1, .ref a16, .ref a17, .ref a18, .ref a19, .ref a20, .ref a21, .int 0, .int 0, .ref a2, .ref a1, .ref a22, .ref a3, .int 0, .int 1, .ref a23, .ref a24, .ref a25, .ref a26, .int 0, .ref a27, .int 0])), (a1, .inl (cI, 3, .inl (tb [0, 0, 0]))), (a2, .inl (cI, 3, .inl (tb [0, 0, 0]))), (a3, .inl (cI, 4, .inl (tb [(-1)])))] sz 0 g) ((QcI dC dI (TY cI cJ cII cJJ) 1 [(a1, .inl (cI, 3, .inl (tb [0, 0, 0]))), (a2, .inl (cI, 3, .inl (tb [0, 0, 0]))), (a3, .inl (cI, 4, .inl (tb [(-1)]))), (a0, .inr (9, [.ref a4, .ref a5, .ref a6, .ref a7, .ref a8, .ref a9, .ref a10, .ref a11, .ref a12, .ref a13, .ref a14, .ref a15, .int 1, .int 0, .int 1, .ref a16, .ref a17, .ref a18, .ref a19, .ref a20, .ref a21, .int 0, .int 0, .ref a2, .ref a1, .ref a22, .ref a3, .int 0, .int 1, .ref a23, .ref a24, .ref a25, .ref a26, .int 0, .ref a27, .int 0]))]) (va_A [(a0, .inr (9, [.ref a4, .ref a5, .ref a6, .ref a7, .ref a8, .ref a9, .ref a10, .ref a11, .ref a12, .ref a13, .ref a14, .ref a15, .int 1, .int 0, .int 1, .ref a16, .ref a17, .ref a18, .ref a19, .ref a20, .ref a21, .int 0, .int 0, .ref a2, .ref a1, .ref a22, .ref a3, .int 0, .int 1, .ref a23, .ref a24, .ref a25, .ref a26, .int 0, .ref a27, .int 0])), (a1, .inl (cI, 3, .inl (tb [0, 0, 0]))), (a2, .inl (cI, 3, .inl (tb [0, 0, 0]))), (a3, .inl (cI, 4, .inl (tb [(-1)])))] sz)) 0 0 (va_A [(a0, .inr (9, [.ref a4, .ref a5, .ref a6, .ref a7, .ref a8, .ref a9, .ref a10, .ref a11, .ref a12, .ref a13, .ref a14, .ref a15, .int 1, .int 0, .int 1, .ref a16, .ref a17, .ref a18, .ref a19, .ref a20, .ref a21, .int 0, .int 0, .ref a2, .ref a1, .ref a22, .ref a3, .int 0, .int 1, .ref a23, .ref a24, .ref a25, .ref a26, .int 0, .ref a27, .int 0])), (a1, .inl (cI, 3, .inl (tb [0, 0, 0]))), (a2, .inl (cI, 3, .inl (tb [0, 0, 0]))), (a3, .inl (cI, 4, .inl (tb [(-1)])))] sz) := by
  refine SM.of (y := yX9_makes) (maxL := 7) (av := [.ref a0, .int 1]) (QcI dC dI (TY cI cJ cII cJJ) 1 [(a1, .inl (cI, 3, .inl (tb [0, 0, 0]))), (a2, .inl (cI, 3, .inl (tb [0, 0, 0]))), (a3, .inl (cI, 4, .inl (tb [(-1)]))), (a0, .inr (9, [.ref a4, .ref a5, .ref a6, .ref a7, .ref a8, .ref a9, .ref a10, .ref a11, .ref a12, .ref a13, .ref a14, .ref a15, .int 1, .int 0, .int 1, .ref a16, .ref a17, .ref a18, .ref a19, .ref a20, .ref a21, .int 0, .int 0, .ref a2, .ref a1, .ref a22, .ref a3, .int 0, .int 1, .ref a23, .ref a24, .ref a25, .ref a26, .int 0, .ref a27, .int 0]))]) (by decide +kernel) (Nat.le_of_ble_eq_true rfl) (fun p e s m below meth c A ls hx hb hr hml hown hts hk hnm hA hK hP hD hS hX hl => ?_)
  have hown : s.vm.findClass RX9 = some m.cls := hown
  have hl : lv_has ls 7 [(0, .ref a0), (1, .int 1)] := hl
  refine lv_aload_n hx hb dX9_makes_0 rfl (lv_at hl 0 rfl) ?_
  refine lv_aload_n hx hb dX9_makes_1 rfl (lv_at hl 0 rfl) ?_
  refine gf (k := 27) hx hb hts inX9 hown hK hP k_822 rfl (by decide) rfl 0 rfl (.int 0) rfl dX9_makes_2 ?_
  refine lv_aload_n hx hb dX9_makes_5 rfl (lv_at hl 0 rfl) ?_
  refine gf (k := 24) hx hb hts inX9 hown hK hP k_819 rfl (by decide) rfl 0 rfl (.ref a1) rfl dX9_makes_6 ?_
  refine lv_iconst (v := 0) hx hb dX9_makes_9 (by decide) ?_
  refine ld_i hx hb hK hP 1 rfl (vin (by decide +kernel)) dX9_makes_10 0 rfl ?_
  refine lv_aload_n hx hb dX9_makes_11 rfl (lv_at hl 0 rfl) ?_
  refine gf (k := 24) hx hb hts inX9 hown hK hP k_819 rfl (by decide) rfl 0 rfl (.ref a1) rfl dX9_makes_12 ?_
  refine lv_iconst (v := 1) hx hb dX9_makes_15 (by decide) ?_
  refine ld_i hx hb hK hP 1 rfl (vin (by decide +kernel)) dX9_makes_16 0 rfl ?_
  refine lv_aload_n hx hb dX9_makes_17 rfl (lv_at hl 0 rfl) ?_
  refine gf (k := 24) hx hb hts inX9 hown hK hP k_819 rfl (by decide) rfl 0 rfl (.ref a1) rfl dX9_makes_18 ?_
  refine lv_iconst (v := 2) hx hb dX9_makes_21 (by decide) ?_
  refine ld_i hx hb hK hP 1 rfl (vin (by decide +kernel)) dX9_makes_22 0 rfl ?_
  refine lv_aload_n hx hb dX9_makes_23 rfl (lv_at hl 0 rfl) ?_
  refine gf (k := 23) hx hb hts inX9 hown hK hP k_818 rfl (by decide) rfl 0 rfl (.ref a2) rfl dX9_makes_24 ?_
  refine lv_iconst (v := 0) hx hb dX9_makes_27 (by decide) ?_
  refine ld_i hx hb hK hP 2 rfl (vin (by decide +kernel)) dX9_makes_28 0 rfl ?_
  refine lv_aload_n hx hb dX9_makes_29 rfl (lv_at hl 0 rfl) ?_
  refine gf (k := 23) hx hb hts inX9 hown hK hP k_818 rfl (by decide) rfl 0 rfl (.ref a2) rfl dX9_makes_30 ?_
  refine lv_iconst (v := 1) hx hb dX9_makes_33 (by decide) ?_
  refine ld_i hx hb hK hP 2 rfl (vin (by decide +kernel)) dX9_makes_34 0 rfl ?_
  refine lv_aload_n hx hb dX9_makes_35 rfl (lv_at hl 0 rfl) ?_
  refine gf (k := 23) hx hb hts inX9 hown hK hP k_818 rfl (by decide) rfl 0 rfl (.ref a2) rfl dX9_makes_36 ?_
  refine lv_iconst (v := 2) hx hb dX9_makes_39 (by decide) ?_
  refine ld_i hx hb hK hP 2 rfl (vin (by decide +kernel)) dX9_makes_40 0 rfl ?_
  refine kV_l (q0 := 0) ⟨hx, hb, hml, hown, hts⟩ hK hP hD hS hA hX cv_RX9_135 [0] [1, 2, 3] (wr := [(a1, .inl (cI, 3, .inl (tb [0, 0, 0]))), (a2, .inl (cI, 3, .inl (tb [0, 0, 0]))), (a3, .inl (cI, 4, .inl (tb [(-1)])))]) rfl rfl rfl rfl (by decide) (c381_X9_minor l dC dI cI cJ cII cJJ s.heap.size 0 a0 a4 a5 a6 a7 a8 a9 a10 a11 a12 a13 a14 a15 a16 a17 a18 a19 a20 a21 a2 a1 a22 a3 a23 a24 a25 a26 a27) ⟨by decide +kernel, by decide +kernel⟩ rfl rfl (Or.inl rfl) (rest := []) rfl rfl rfl hl.1 rfl (Nat.le_of_ble_eq_true rfl) dX9_makes_41 ⟨Nat.le_of_ble_eq_true rfl, Nat.le_of_ble_eq_true rfl⟩ (W' := [(a1, .inl (cI, 3, .inl (tb [0, 0, 0]))), (a2, .inl (cI, 3, .inl (tb [0, 0, 0]))), (a3, .inl (cI, 4, .inl (tb [(-1)]))), (a0, .inr (9, [.ref a4, .ref a5, .ref a6, .ref a7, .ref a8, .ref a9, .ref a10, .ref a11, .ref a12, .ref a13, .ref a14, .ref a15, .int 1, .int 0, .int 1, .ref a16, .ref a17, .ref a18, .ref a19, .ref a20, .ref a21, .int 0, .int 0, .ref a2, .ref a1, .ref a22, .ref a3, .int 0, .int 1, .ref a23, .ref a24, .ref a25, .ref a26, .int 0, .ref a27, .int 0]))]) rfl (fun H locs hP hD hS => ?_)
  refine lv_lstore_n (lv' := [(2, .long 1), (0, .ref a0), (1, .int 1)]) hx hb dX9_makes_44 rfl hl (by decide) rfl (fun ls hl => ?_)
  refine lv_iconst (v := 0) hx hb dX9_makes_45 (by decide) ?_
  refine lv_istore (lv' := [(4, .int 0), (2, .long 1), (0, .ref a0), (1, .int 1)]) hx hb dX9_makes_46 hl (by decide) rfl (fun ls hl => ?_)
  refine lv_iload hx hb dX9_makes_48 (lv_at hl 0 rfl) ?_
  refine lv_aload_n hx hb dX9_makes_50 rfl (lv_at hl 2 rfl) ?_
  refine gf (k := 27) hx hb hts inX9 hown hK hP k_822 rfl (by decide) rfl 3 rfl (.int 0) rfl dX9_makes_51 ?_
  refine t_icmp_ge hx hb dX9_makes_54 131 (by decide) (by decide +kernel) ?_
  refine lv_iconst (v := 0) hx hb dX9_makes_131 (by decide) ?_
  refine lv_istore (lv' := [(4, .int 0), (2, .long 1), (0, .ref a0), (1, .int 1)]) hx hb dX9_makes_132 hl (by decide) rfl (fun ls hl => ?_)
  refine lv_iload hx hb dX9_makes_134 (lv_at hl 0 rfl) ?_
  refine lv_aload_n hx hb dX9_makes_136 rfl (lv_at hl 2 rfl) ?_
  refine gf (k := 27) hx hb hts inX9 hown hK hP k_822 rfl (by decide) rfl 3 rfl (.int 0) rfl dX9_makes_137 ?_
  refine t_icmp_ge hx hb dX9_makes_140 210 (by decide) (by decide +kernel) ?_
  refine lv_iconst (v := 0) hx hb dX9_makes_210 (by decide) ?_
  refine lv_istore (lv' := [(4, .int 0), (2, .long 1), (0, .ref a0), (1, .int 1)]) hx hb dX9_makes_211 hl (by decide) rfl (fun ls hl => ?_)
  refine lv_iconst (v := 0) hx hb dX9_makes_213 (by decide) ?_
  refine lv_istore (lv' := [(5, .int 0), (4, .int 0), (2, .long 1), (0, .ref a0), (1, .int 1)]) hx hb dX9_makes_214 hl (by decide) rfl (fun ls hl => ?_)
  refine lv_iload hx hb dX9_makes_216 (lv_at hl 0 rfl) ?_
  refine lv_aload_n hx hb dX9_makes_218 rfl (lv_at hl 3 rfl) ?_
  refine gf (k := 12) hx hb hts inX9 hown hK hP k_807 rfl (by decide) rfl 3 rfl (.int 1) rfl dX9_makes_219 ?_
  refine f_icmp_ge hx hb dX9_makes_222 253 (by decide) (by decide +kernel) ?_
  refine lv_iload hx hb dX9_makes_225 (lv_at hl 1 rfl) ?_
  refine f_if_ne hx hb dX9_makes_227 240 (by decide) (by decide +kernel) ?_
  refine lv_aload_n hx hb dX9_makes_230 rfl (lv_at hl 3 rfl) ?_
  refine gf (k := 26) hx hb hts inX9 hown hK hP k_821 rfl (by decide) rfl 3 rfl (.ref a3) rfl dX9_makes_231 ?_
  refine lv_iload hx hb dX9_makes_234 (lv_at hl 0 rfl) ?_
  refine ld_i hx hb hK hP 2 rfl (vin (by decide +kernel)) dX9_makes_236 (-1) rfl ?_
  refine f_if_eq hx hb dX9_makes_237 244 (by decide) (by decide +kernel) ?_
  refine lv_iconst (v := 1) hx hb dX9_makes_240 (by decide) ?_
  refine lv_goto (tgt := 245) hx hb dX9_makes_241 (by decide) ?_
  refine lv_istore (lv' := [(4, .int 1), (5, .int 0), (2, .long 1), (0, .ref a0), (1, .int 1)]) hx hb dX9_makes_245 hl (by decide) rfl (fun ls hl => ?_)
  refine lv_iinc (v := 1) (lv' := [(5, .int 1), (4, .int 1), (2, .long 1), (0, .ref a0), (1, .int 1)]) hx hb dX9_makes_247 hl (k := 1) rfl (by decide +kernel) (by decide) rfl (fun ls hl => ?_)
  refine lv_goto (tgt := 216) hx hb dX9_makes_250 (by decide) ?_
  refine lv_iload hx hb dX9_makes_216 (lv_at hl 0 rfl) ?_
  refine lv_aload_n hx hb dX9_makes_218 rfl (lv_at hl 3 rfl) ?_
  refine gf (k := 12) hx hb hts inX9 hown hK hP k_807 rfl (by decide) rfl 3 rfl (.int 1) rfl dX9_makes_219 ?_
  refine t_icmp_ge hx hb dX9_makes_222 253 (by decide) (by decide +kernel) ?_
  refine lv_iload hx hb dX9_makes_253 (lv_at hl 1 rfl) ?_
  exact r_z hx hb hr hk hK hP hD hS dX9_makes_255 rfl
set_option maxRecDepth 100000 in
set_option maxHeartbeats 4000000 in
theorem c379_X9_goes_s1 (l : Launch) (dC : Nat → ClassId) (dI : Nat → Nat → Nat) (cI cJ cII cJJ : ClassId) (g a0 a1 a2 a3 a4 a5 a6 a7 a8 a9 a10 a11 a12 a13 a14 a15 a16 a17 a18 a19 a20 a21 a22 a23 a24 a25 a26 a27 : Nat) {p : Program} {e : Env} {s : State} {m : MethodId} {below : List Frame} {meth : Method} {c : Code} {A : Nat → Prop} {ls : Array Slot} {H : Heap} {locs : List Loc} (hx : p.tables.exec = Jvm.exec) (hb : c.code = cX9_goes) (hr : meth.sig.returnType = none) (hml : c.maxLocals = 6) (hown : s.vm.findClass RX9 = some m.cls) (hts : ∀ w ∈ TT, w.before ([.ref a0, .int 1, .int 1] : List Value).toArray s = true) (hk : meth.locks = false) (hA : ∀ q, s.heap.size ≤ q → A q) (hK : va_K (dC, dI) vwCl (TY cI cJ cII cJJ) s) (hP : va_P (dC, dI) vwCl [(a4, .inl (cI, 400000, .inl (tb [(-1), 0, 0]))), (a5, .inl (cI, 100000, .inl (tb []))), (a1, .inl (cI, 3, .inl (tb [0, 0, 0]))), (a2, .inl (cI, 3, .inl (tb [0, 0, 0]))), (a3, .inl (cI, 4, .inl (tb [(-1)]))), (a0, .inr (9, [.ref a6, .ref a7, .ref a8, .ref a9, .ref a10, .ref a11, .ref a12, .ref a13, .ref a14, .ref a15, .ref a16, .ref a17, .int 1, .int 0, .int 1, .ref a4, .ref a5, .ref a18, .ref a19, .ref a20, .ref a21, .int 0, .int 0, .ref a2, .ref a1, .ref a22, .ref a3, .int 0, .int 1, .ref a23, .ref a24, .ref a25, .ref a26, .int 0, .ref a27, .int 0]))] H) (hD : va_D A [(a4, .inl (cI, 400000, .inl (tb [(-1), 0, 0]))), (a5, .inl (cI, 100000, .inl (tb []))), (a1, .inl (cI, 3, .inl (tb [0, 0, 0]))), (a2, .inl (cI, 3, .inl (tb [0, 0, 0]))), (a3, .inl (cI, 4, .inl (tb [(-1)]))), (a0, .inr (9, [.ref a6, .ref a7, .ref a8, .ref a9, .ref a10, .ref a11, .ref a12, .ref a13, .ref a14, .ref a15, .ref a16, .ref a17, .int 1, .int 0, .int 1, .ref a4, .ref a5, .ref a18, .ref a19, .ref a20, .ref a21, .int 0, .int 0, .ref a2, .ref a1, .ref a22, .ref a3, .int 0, .int 1, .ref a23, .ref a24, .ref a25, .ref a26, .int 0, .ref a27, .int 0]))]) (hS : va_S A s.heap H locs) (hX : GXA 0 g A s) (hl : lv_has ls 6 [(5, .int 0), (4, .int 3), (3, .int 1), (0, .ref a0), (1, .int 1), (2, .int 1)]) : W p l e ({ frames := 4, cells := 0, slots := 0, locals := 200 } : Room) s m ([.ref a0, .int 1, .int 1] : List Value).toArray below meth c H locs 0 0 (MQ below ((QcV dC dI (TY cI cJ cII cJJ) (fun _ => [(a4, .inl (cI, 400000, .inl (tb [(-1), 0, 0, 0]))), (a5, .inl (cI, 100000, .inl (tb [1]))), (a1, .inl (cI, 3, .inl (tb [0, 0, 0]))), (a2, .inl (cI, 3, .inl (tb [0, 0, 0]))), (a3, .inl (cI, 4, .inl (tb [(-1)]))), (a0, .inr (9, [.ref a6, .ref a7, .ref a8, .ref a9, .ref a10, .ref a11, .ref a12, .ref a13, .ref a14, .ref a15, .ref a16, .ref a17, .int 1, .int 0, .int 1, .ref a4, .ref a5, .ref a18, .ref a19, .ref a20, .ref a21, .int 1, .int 0, .ref a2, .ref a1, .ref a22, .ref a3, .int 0, .int 1, .ref a23, .ref a24, .ref a25, .ref a26, .int 0, .ref a27, .int 0]))])) A) ([.ref a0, .int 1, .int 1] : List Value).toArray s 0 0 A) (F0 m 54 ls [.ref a4]) := by
  refine lv_iconst (v := 4) hx hb dX9_goes_54 (by decide) ?_
  refine lv_aload_n hx hb dX9_goes_55 rfl (lv_at hl 3 rfl) ?_
  refine gf (k := 21) hx hb hts inX9 hown hK hP k_816 rfl (by decide) rfl 5 rfl (.int 0) rfl dX9_goes_56 ?_
  refine v_imul hx hb dX9_goes_59 0 (by decide +kernel) ?_
  refine lv_iload hx hb dX9_goes_60 (lv_at hl 1 rfl) ?_
  refine v_iadd hx hb dX9_goes_62 3 (by decide +kernel) ?_
  refine lv_iload hx hb dX9_goes_63 (lv_at hl 0 rfl) ?_
  refine st_i hx hb hK hP hD hS 0 rfl (vin (by decide +kernel)) dX9_goes_65 (L' := [(-1), 0, 0, 0]) rfl (W' := [(a4, .inl (cI, 400000, .inl (tb [(-1), 0, 0, 0]))), (a5, .inl (cI, 100000, .inl (tb []))), (a1, .inl (cI, 3, .inl (tb [0, 0, 0]))), (a2, .inl (cI, 3, .inl (tb [0, 0, 0]))), (a3, .inl (cI, 4, .inl (tb [(-1)]))), (a0, .inr (9, [.ref a6, .ref a7, .ref a8, .ref a9, .ref a10, .ref a11, .ref a12, .ref a13, .ref a14, .ref a15, .ref a16, .ref a17, .int 1, .int 0, .int 1, .ref a4, .ref a5, .ref a18, .ref a19, .ref a20, .ref a21, .int 0, .int 0, .ref a2, .ref a1, .ref a22, .ref a3, .int 0, .int 1, .ref a23, .ref a24, .ref a25, .ref a26, .int 0, .ref a27, .int 0]))]) rfl (fun H locs hP hD hS => ?_)
  refine lv_iload_n hx hb dX9_goes_66 rfl (lv_at hl 2 rfl) ?_
  refine lv_iload hx hb dX9_goes_67 (lv_at hl 0 rfl) ?_
  refine t_if_ge hx hb dX9_goes_69 78 (by decide) (by decide +kernel) ?_
  refine lv_iload hx hb dX9_goes_78 (lv_at hl 0 rfl) ?_
  refine v_iadd hx hb dX9_goes_80 1 (by decide +kernel) ?_
  refine lv_istore_n (lv' := [(3, .int 1), (5, .int 0), (4, .int 3), (0, .ref a0), (1, .int 1), (2, .int 1)]) hx hb dX9_goes_81 rfl hl (by decide) rfl (fun ls hl => ?_)
  refine lv_iinc (v := 4) (lv' := [(4, .int 4), (3, .int 1), (5, .int 0), (0, .ref a0), (1, .int 1), (2, .int 1)]) hx hb dX9_goes_82 hl (k := 2) rfl (by decide +kernel) (by decide) rfl (fun ls hl => ?_)
  refine lv_goto (tgt := 22) hx hb dX9_goes_85 (by decide) ?_
  refine lv_iload hx hb dX9_goes_22 (lv_at hl 0 rfl) ?_
  refine lv_iconst (v := 4) hx hb dX9_goes_24 (by decide) ?_
  refine t_icmp_ge hx hb dX9_goes_25 88 (by decide) (by decide +kernel) ?_
  refine lv_aload_n hx hb dX9_goes_88 rfl (lv_at hl 3 rfl) ?_
  refine gf (k := 16) hx hb hts inX9 hown hK hP k_811 rfl (by decide) rfl 5 rfl (.ref a5) rfl dX9_goes_89 ?_
  refine lv_aload_n hx hb dX9_goes_92 rfl (lv_at hl 3 rfl) ?_
  refine gf (k := 21) hx hb hts inX9 hown hK hP k_816 rfl (by decide) rfl 5 rfl (.int 0) rfl dX9_goes_93 ?_
  refine lv_iload_n hx hb dX9_goes_96 rfl (lv_at hl 1 rfl) ?_
  refine st_i hx hb hK hP hD hS 1 rfl (vin (by decide +kernel)) dX9_goes_97 (L' := [1]) rfl (W' := [(a4, .inl (cI, 400000, .inl (tb [(-1), 0, 0, 0]))), (a5, .inl (cI, 100000, .inl (tb [1]))), (a1, .inl (cI, 3, .inl (tb [0, 0, 0]))), (a2, .inl (cI, 3, .inl (tb [0, 0, 0]))), (a3, .inl (cI, 4, .inl (tb [(-1)]))), (a0, .inr (9, [.ref a6, .ref a7, .ref a8, .ref a9, .ref a10, .ref a11, .ref a12, .ref a13, .ref a14, .ref a15, .ref a16, .ref a17, .int 1, .int 0, .int 1, .ref a4, .ref a5, .ref a18, .ref a19, .ref a20, .ref a21, .int 0, .int 0, .ref a2, .ref a1, .ref a22, .ref a3, .int 0, .int 1, .ref a23, .ref a24, .ref a25, .ref a26, .int 0, .ref a27, .int 0]))]) rfl (fun H locs hP hD hS => ?_)
  refine lv_aload_n hx hb dX9_goes_98 rfl (lv_at hl 3 rfl) ?_
  refine lv_dup hx hb dX9_goes_99 rfl ?_
  refine gf (k := 21) hx hb hts inX9 hown hK hP k_816 rfl (by decide) rfl 5 rfl (.int 0) rfl dX9_goes_100 ?_
  refine lv_iconst (v := 1) hx hb dX9_goes_103 (by decide) ?_
  refine v_iadd hx hb dX9_goes_104 1 (by decide +kernel) ?_
  refine pf (k := 21) hx hb hts inX9 tyX9_ok nmX9 hown hK hP hD hS k_816 rfl (by decide) rfl rfl 5 rfl rfl rfl (Nat.le_of_ble_eq_true rfl) dX9_goes_105 (W' := [(a4, .inl (cI, 400000, .inl (tb [(-1), 0, 0, 0]))), (a5, .inl (cI, 100000, .inl (tb [1]))), (a1, .inl (cI, 3, .inl (tb [0, 0, 0]))), (a2, .inl (cI, 3, .inl (tb [0, 0, 0]))), (a3, .inl (cI, 4, .inl (tb [(-1)]))), (a0, .inr (9, [.ref a6, .ref a7, .ref a8, .ref a9, .ref a10, .ref a11, .ref a12, .ref a13, .ref a14, .ref a15, .ref a16, .ref a17, .int 1, .int 0, .int 1, .ref a4, .ref a5, .ref a18, .ref a19, .ref a20, .ref a21, .int 1, .int 0, .ref a2, .ref a1, .ref a22, .ref a3, .int 0, .int 1, .ref a23, .ref a24, .ref a25, .ref a26, .int 0, .ref a27, .int 0]))]) rfl (fun H locs hP hD hS => ?_)
  exact r_v (fun _ => 0) hx hb hr hk hK hP hD hS dX9_goes_108
set_option maxRecDepth 100000 in
set_option maxHeartbeats 4000000 in
theorem c379_X9_goes (l : Launch) (dC : Nat → ClassId) (dI : Nat → Nat → Nat) (cI cJ cII cJJ : ClassId) (sz g a0 a1 a2 a3 a4 a5 a6 a7 a8 a9 a10 a11 a12 a13 a14 a15 a16 a17 a18 a19 a20 a21 a22 a23 a24 a25 a26 a27 : Nat) : Met l yX9_goes (.code yX9_goes cX9_goes 6 none :: TT) ({ frames := 4, cells := 0, slots := 0, locals := 200 }) (PcS dC dI (TY cI cJ cII cJJ) [.ref a0, .int 1, .int 1] [(a0, .inr (9, [.ref a6, .ref a7, .ref a8, .ref a9, .ref a10, .ref a11, .ref a12, .ref a13, .ref a14, .ref a15, .ref a16, .ref a17, .int 1, .int 0, .int 1, .ref a4, .ref a5, .ref a18, .ref a19, .ref a20, .ref a21, .int 0, .int 0, .ref a2, .ref a1, .ref a22, .ref a3, .int 0, .int 1, .ref a23, .ref a24, .ref a25, .ref a26, .int 0, .ref a27, .int 0])), (a1, .inl (cI, 3, .inl (tb [0, 0, 0]))), (a2, .inl (cI, 3, .inl (tb [0, 0, 0]))), (a3, .inl (cI, 4, .inl (tb [(-1)]))), (a4, .inl (cI, 400000, .inl (tb []))), (a5, .inl (cI, 100000, .inl (tb [])))] sz 0 g) ((QcV dC dI (TY cI cJ cII cJJ) (fun _ => [(a4, .inl (cI, 400000, .inl (tb [(-1), 0, 0, 0]))), (a5, .inl (cI, 100000, .inl (tb [1]))), (a1, .inl (cI, 3, .inl (tb [0, 0, 0]))), (a2, .inl (cI, 3, .inl (tb [0, 0, 0]))), (a3, .inl (cI, 4, .inl (tb [(-1)]))), (a0, .inr (9, [.ref a6, .ref a7, .ref a8, .ref a9, .ref a10, .ref a11, .ref a12, .ref a13, .ref a14, .ref a15, .ref a16, .ref a17, .int 1, .int 0, .int 1, .ref a4, .ref a5, .ref a18, .ref a19, .ref a20, .ref a21, .int 1, .int 0, .ref a2, .ref a1, .ref a22, .ref a3, .int 0, .int 1, .ref a23, .ref a24, .ref a25, .ref a26, .int 0, .ref a27, .int 0]))])) (va_A [(a0, .inr (9, [.ref a6, .ref a7, .ref a8, .ref a9, .ref a10, .ref a11, .ref a12, .ref a13, .ref a14, .ref a15, .ref a16, .ref a17, .int 1, .int 0, .int 1, .ref a4, .ref a5, .ref a18, .ref a19, .ref a20, .ref a21, .int 0, .int 0, .ref a2, .ref a1, .ref a22, .ref a3, .int 0, .int 1, .ref a23, .ref a24, .ref a25, .ref a26, .int 0, .ref a27, .int 0])), (a1, .inl (cI, 3, .inl (tb [0, 0, 0]))), (a2, .inl (cI, 3, .inl (tb [0, 0, 0]))), (a3, .inl (cI, 4, .inl (tb [(-1)]))), (a4, .inl (cI, 400000, .inl (tb []))), (a5, .inl (cI, 100000, .inl (tb [])))] sz)) 0 0 (va_A [(a0, .inr (9, [.ref a6, .ref a7, .ref a8, .ref a9, .ref a10, .ref a11, .ref a12, .ref a13, .ref a14, .ref a15, .ref a16, .ref a17, .int 1, .int 0, .int 1, .ref a4, .ref a5, .ref a18, .ref a19, .ref a20, .ref a21, .int 0, .int 0, .ref a2, .ref a1, .ref a22, .ref a3, .int 0, .int 1, .ref a23, .ref a24, .ref a25, .ref a26, .int 0, .ref a27, .int 0])), (a1, .inl (cI, 3, .inl (tb [0, 0, 0]))), (a2, .inl (cI, 3, .inl (tb [0, 0, 0]))), (a3, .inl (cI, 4, .inl (tb [(-1)]))), (a4, .inl (cI, 400000, .inl (tb []))), (a5, .inl (cI, 100000, .inl (tb [])))] sz) := by
  refine SM.of (y := yX9_goes) (maxL := 6) (av := [.ref a0, .int 1, .int 1]) (QcV dC dI (TY cI cJ cII cJJ) (fun _ => [(a4, .inl (cI, 400000, .inl (tb [(-1), 0, 0, 0]))), (a5, .inl (cI, 100000, .inl (tb [1]))), (a1, .inl (cI, 3, .inl (tb [0, 0, 0]))), (a2, .inl (cI, 3, .inl (tb [0, 0, 0]))), (a3, .inl (cI, 4, .inl (tb [(-1)]))), (a0, .inr (9, [.ref a6, .ref a7, .ref a8, .ref a9, .ref a10, .ref a11, .ref a12, .ref a13, .ref a14, .ref a15, .ref a16, .ref a17, .int 1, .int 0, .int 1, .ref a4, .ref a5, .ref a18, .ref a19, .ref a20, .ref a21, .int 1, .int 0, .ref a2, .ref a1, .ref a22, .ref a3, .int 0, .int 1, .ref a23, .ref a24, .ref a25, .ref a26, .int 0, .ref a27, .int 0]))])) (by decide +kernel) (Nat.le_of_ble_eq_true rfl) (fun p e s m below meth c A ls hx hb hr hml hown hts hk hnm hA hK hP hD hS hX hl => ?_)
  have hown : s.vm.findClass RX9 = some m.cls := hown
  have hl : lv_has ls 6 [(0, .ref a0), (1, .int 1), (2, .int 1)] := hl
  refine lv_iload_n hx hb dX9_goes_0 rfl (lv_at hl 1 rfl) ?_
  refine lv_aload_n hx hb dX9_goes_1 rfl (lv_at hl 0 rfl) ?_
  refine gf (k := 28) hx hb hts inX9 hown hK hP k_823 rfl (by decide) rfl 0 rfl (.int 1) rfl dX9_goes_2 ?_
  refine f_icmp_ne hx hb dX9_goes_5 109 (by decide) (by decide +kernel) ?_
  refine lv_aload_n hx hb dX9_goes_8 rfl (lv_at hl 0 rfl) ?_
  refine lv_iload_n hx hb dX9_goes_9 rfl (lv_at hl 2 rfl) ?_
  refine kV_i (q0 := 0) ⟨hx, hb, hml, hown, hts⟩ hK hP hD hS hA hX cv_RX9_149 [0, 1, 2, 3] [4, 5] (wr := [(a4, .inl (cI, 400000, .inl (tb []))), (a5, .inl (cI, 100000, .inl (tb [])))]) rfl rfl rfl rfl (by decide) (c380_X9_makes l dC dI cI cJ cII cJJ s.heap.size 0 a0 a1 a2 a3 a6 a7 a8 a9 a10 a11 a12 a13 a14 a15 a16 a17 a4 a5 a18 a19 a20 a21 a22 a23 a24 a25 a26 a27) ⟨by decide +kernel, by decide +kernel⟩ rfl rfl (Or.inl rfl) (rest := []) rfl rfl rfl hl.1 rfl (Nat.le_of_ble_eq_true rfl) dX9_goes_10 ⟨Nat.le_of_ble_eq_true rfl, Nat.le_of_ble_eq_true rfl⟩ (W' := [(a4, .inl (cI, 400000, .inl (tb []))), (a5, .inl (cI, 100000, .inl (tb []))), (a1, .inl (cI, 3, .inl (tb [0, 0, 0]))), (a2, .inl (cI, 3, .inl (tb [0, 0, 0]))), (a3, .inl (cI, 4, .inl (tb [(-1)]))), (a0, .inr (9, [.ref a6, .ref a7, .ref a8, .ref a9, .ref a10, .ref a11, .ref a12, .ref a13, .ref a14, .ref a15, .ref a16, .ref a17, .int 1, .int 0, .int 1, .ref a4, .ref a5, .ref a18, .ref a19, .ref a20, .ref a21, .int 0, .int 0, .ref a2, .ref a1, .ref a22, .ref a3, .int 0, .int 1, .ref a23, .ref a24, .ref a25, .ref a26, .int 0, .ref a27, .int 0]))]) rfl (fun H locs hP hD hS => ?_)
  refine t_if_ne hx hb dX9_goes_13 17 (by decide) (by decide +kernel) ?_
  refine lv_iconst (v := 0) hx hb dX9_goes_17 (by decide) ?_
  refine lv_istore_n (lv' := [(3, .int 0), (0, .ref a0), (1, .int 1), (2, .int 1)]) hx hb dX9_goes_18 rfl hl (by decide) rfl (fun ls hl => ?_)
  refine lv_iconst (v := 0) hx hb dX9_goes_19 (by decide) ?_
  refine lv_istore (lv' := [(4, .int 0), (3, .int 0), (0, .ref a0), (1, .int 1), (2, .int 1)]) hx hb dX9_goes_20 hl (by decide) rfl (fun ls hl => ?_)
  refine lv_iload hx hb dX9_goes_22 (lv_at hl 0 rfl) ?_
  refine lv_iconst (v := 4) hx hb dX9_goes_24 (by decide) ?_
  refine f_icmp_ge hx hb dX9_goes_25 88 (by decide) (by decide +kernel) ?_
  refine lv_iload hx hb dX9_goes_28 (lv_at hl 0 rfl) ?_
  refine lv_aload_n hx hb dX9_goes_30 rfl (lv_at hl 2 rfl) ?_
  refine gf (k := 12) hx hb hts inX9 hown hK hP k_807 rfl (by decide) rfl 5 rfl (.int 1) rfl dX9_goes_31 ?_
  refine f_icmp_ge hx hb dX9_goes_34 47 (by decide) (by decide +kernel) ?_
  refine lv_aload_n hx hb dX9_goes_37 rfl (lv_at hl 2 rfl) ?_
  refine gf (k := 26) hx hb hts inX9 hown hK hP k_821 rfl (by decide) rfl 5 rfl (.ref a3) rfl dX9_goes_38 ?_
  refine lv_iload hx hb dX9_goes_41 (lv_at hl 0 rfl) ?_
  refine ld_i hx hb hK hP 4 rfl (vin (by decide +kernel)) dX9_goes_43 (-1) rfl ?_
  refine lv_goto (tgt := 48) hx hb dX9_goes_44 (by decide) ?_
  refine lv_istore (lv' := [(5, .int (-1)), (4, .int 0), (3, .int 0), (0, .ref a0), (1, .int 1), (2, .int 1)]) hx hb dX9_goes_48 hl (by decide) rfl (fun ls hl => ?_)
  refine lv_aload_n hx hb dX9_goes_50 rfl (lv_at hl 3 rfl) ?_
  refine gf (k := 15) hx hb hts inX9 hown hK hP k_810 rfl (by decide) rfl 5 rfl (.ref a4) rfl dX9_goes_51 ?_
  refine lv_iconst (v := 4) hx hb dX9_goes_54 (by decide) ?_
  refine lv_aload_n hx hb dX9_goes_55 rfl (lv_at hl 3 rfl) ?_
  refine gf (k := 21) hx hb hts inX9 hown hK hP k_816 rfl (by decide) rfl 5 rfl (.int 0) rfl dX9_goes_56 ?_
  refine v_imul hx hb dX9_goes_59 0 (by decide +kernel) ?_
  refine lv_iload hx hb dX9_goes_60 (lv_at hl 1 rfl) ?_
  refine v_iadd hx hb dX9_goes_62 0 (by decide +kernel) ?_
  refine lv_iload hx hb dX9_goes_63 (lv_at hl 0 rfl) ?_
  refine st_i hx hb hK hP hD hS 0 rfl (vin (by decide +kernel)) dX9_goes_65 (L' := [(-1)]) rfl (W' := [(a4, .inl (cI, 400000, .inl (tb [(-1)]))), (a5, .inl (cI, 100000, .inl (tb []))), (a1, .inl (cI, 3, .inl (tb [0, 0, 0]))), (a2, .inl (cI, 3, .inl (tb [0, 0, 0]))), (a3, .inl (cI, 4, .inl (tb [(-1)]))), (a0, .inr (9, [.ref a6, .ref a7, .ref a8, .ref a9, .ref a10, .ref a11, .ref a12, .ref a13, .ref a14, .ref a15, .ref a16, .ref a17, .int 1, .int 0, .int 1, .ref a4, .ref a5, .ref a18, .ref a19, .ref a20, .ref a21, .int 0, .int 0, .ref a2, .ref a1, .ref a22, .ref a3, .int 0, .int 1, .ref a23, .ref a24, .ref a25, .ref a26, .int 0, .ref a27, .int 0]))]) rfl (fun H locs hP hD hS => ?_)
  refine lv_iload_n hx hb dX9_goes_66 rfl (lv_at hl 2 rfl) ?_
  refine lv_iload hx hb dX9_goes_67 (lv_at hl 0 rfl) ?_
  refine f_if_ge hx hb dX9_goes_69 78 (by decide) (by decide +kernel) ?_
  refine lv_iload hx hb dX9_goes_72 (lv_at hl 0 rfl) ?_
  refine v_ineg hx hb dX9_goes_74 1 (by decide +kernel) ?_
  refine lv_goto (tgt := 80) hx hb dX9_goes_75 (by decide) ?_
  refine v_iadd hx hb dX9_goes_80 1 (by decide +kernel) ?_
  refine lv_istore_n (lv' := [(3, .int 1), (5, .int (-1)), (4, .int 0), (0, .ref a0), (1, .int 1), (2, .int 1)]) hx hb dX9_goes_81 rfl hl (by decide) rfl (fun ls hl => ?_)
  refine lv_iinc (v := 1) (lv' := [(4, .int 1), (3, .int 1), (5, .int (-1)), (0, .ref a0), (1, .int 1), (2, .int 1)]) hx hb dX9_goes_82 hl (k := 2) rfl (by decide +kernel) (by decide) rfl (fun ls hl => ?_)
  refine lv_goto (tgt := 22) hx hb dX9_goes_85 (by decide) ?_
  refine lv_iload hx hb dX9_goes_22 (lv_at hl 0 rfl) ?_
  refine lv_iconst (v := 4) hx hb dX9_goes_24 (by decide) ?_
  refine f_icmp_ge hx hb dX9_goes_25 88 (by decide) (by decide +kernel) ?_
  refine lv_iload hx hb dX9_goes_28 (lv_at hl 0 rfl) ?_
  refine lv_aload_n hx hb dX9_goes_30 rfl (lv_at hl 3 rfl) ?_
  refine gf (k := 12) hx hb hts inX9 hown hK hP k_807 rfl (by decide) rfl 5 rfl (.int 1) rfl dX9_goes_31 ?_
  refine t_icmp_ge hx hb dX9_goes_34 47 (by decide) (by decide +kernel) ?_
  refine lv_iconst (v := 0) hx hb dX9_goes_47 (by decide) ?_
  refine lv_istore (lv' := [(5, .int 0), (4, .int 1), (3, .int 1), (0, .ref a0), (1, .int 1), (2, .int 1)]) hx hb dX9_goes_48 hl (by decide) rfl (fun ls hl => ?_)
  refine lv_aload_n hx hb dX9_goes_50 rfl (lv_at hl 3 rfl) ?_
  refine gf (k := 15) hx hb hts inX9 hown hK hP k_810 rfl (by decide) rfl 5 rfl (.ref a4) rfl dX9_goes_51 ?_
  refine lv_iconst (v := 4) hx hb dX9_goes_54 (by decide) ?_
  refine lv_aload_n hx hb dX9_goes_55 rfl (lv_at hl 3 rfl) ?_
  refine gf (k := 21) hx hb hts inX9 hown hK hP k_816 rfl (by decide) rfl 5 rfl (.int 0) rfl dX9_goes_56 ?_
  refine v_imul hx hb dX9_goes_59 0 (by decide +kernel) ?_
  refine lv_iload hx hb dX9_goes_60 (lv_at hl 1 rfl) ?_
  refine v_iadd hx hb dX9_goes_62 1 (by decide +kernel) ?_
  refine lv_iload hx hb dX9_goes_63 (lv_at hl 0 rfl) ?_
  refine st_i hx hb hK hP hD hS 0 rfl (vin (by decide +kernel)) dX9_goes_65 (L' := [(-1), 0]) rfl (W' := [(a4, .inl (cI, 400000, .inl (tb [(-1), 0]))), (a5, .inl (cI, 100000, .inl (tb []))), (a1, .inl (cI, 3, .inl (tb [0, 0, 0]))), (a2, .inl (cI, 3, .inl (tb [0, 0, 0]))), (a3, .inl (cI, 4, .inl (tb [(-1)]))), (a0, .inr (9, [.ref a6, .ref a7, .ref a8, .ref a9, .ref a10, .ref a11, .ref a12, .ref a13, .ref a14, .ref a15, .ref a16, .ref a17, .int 1, .int 0, .int 1, .ref a4, .ref a5, .ref a18, .ref a19, .ref a20, .ref a21, .int 0, .int 0, .ref a2, .ref a1, .ref a22, .ref a3, .int 0, .int 1, .ref a23, .ref a24, .ref a25, .ref a26, .int 0, .ref a27, .int 0]))]) rfl (fun H locs hP hD hS => ?_)
  refine lv_iload_n hx hb dX9_goes_66 rfl (lv_at hl 2 rfl) ?_
  refine lv_iload hx hb dX9_goes_67 (lv_at hl 0 rfl) ?_
  refine t_if_ge hx hb dX9_goes_69 78 (by decide) (by decide +kernel) ?_
  refine lv_iload hx hb dX9_goes_78 (lv_at hl 0 rfl) ?_
  refine v_iadd hx hb dX9_goes_80 1 (by decide +kernel) ?_
  refine lv_istore_n (lv' := [(3, .int 1), (5, .int 0), (4, .int 1), (0, .ref a0), (1, .int 1), (2, .int 1)]) hx hb dX9_goes_81 rfl hl (by decide) rfl (fun ls hl => ?_)
  refine lv_iinc (v := 2) (lv' := [(4, .int 2), (3, .int 1), (5, .int 0), (0, .ref a0), (1, .int 1), (2, .int 1)]) hx hb dX9_goes_82 hl (k := 2) rfl (by decide +kernel) (by decide) rfl (fun ls hl => ?_)
  refine lv_goto (tgt := 22) hx hb dX9_goes_85 (by decide) ?_
  refine lv_iload hx hb dX9_goes_22 (lv_at hl 0 rfl) ?_
  refine lv_iconst (v := 4) hx hb dX9_goes_24 (by decide) ?_
  refine f_icmp_ge hx hb dX9_goes_25 88 (by decide) (by decide +kernel) ?_
  refine lv_iload hx hb dX9_goes_28 (lv_at hl 0 rfl) ?_
  refine lv_aload_n hx hb dX9_goes_30 rfl (lv_at hl 3 rfl) ?_
  refine gf (k := 12) hx hb hts inX9 hown hK hP k_807 rfl (by decide) rfl 5 rfl (.int 1) rfl dX9_goes_31 ?_
  refine t_icmp_ge hx hb dX9_goes_34 47 (by decide) (by decide +kernel) ?_
  refine lv_iconst (v := 0) hx hb dX9_goes_47 (by decide) ?_
  refine lv_istore (lv' := [(5, .int 0), (4, .int 2), (3, .int 1), (0, .ref a0), (1, .int 1), (2, .int 1)]) hx hb dX9_goes_48 hl (by decide) rfl (fun ls hl => ?_)
  refine lv_aload_n hx hb dX9_goes_50 rfl (lv_at hl 3 rfl) ?_
  refine gf (k := 15) hx hb hts inX9 hown hK hP k_810 rfl (by decide) rfl 5 rfl (.ref a4) rfl dX9_goes_51 ?_
  refine lv_iconst (v := 4) hx hb dX9_goes_54 (by decide) ?_
  refine lv_aload_n hx hb dX9_goes_55 rfl (lv_at hl 3 rfl) ?_
  refine gf (k := 21) hx hb hts inX9 hown hK hP k_816 rfl (by decide) rfl 5 rfl (.int 0) rfl dX9_goes_56 ?_
  refine v_imul hx hb dX9_goes_59 0 (by decide +kernel) ?_
  refine lv_iload hx hb dX9_goes_60 (lv_at hl 1 rfl) ?_
  refine v_iadd hx hb dX9_goes_62 2 (by decide +kernel) ?_
  refine lv_iload hx hb dX9_goes_63 (lv_at hl 0 rfl) ?_
  refine st_i hx hb hK hP hD hS 0 rfl (vin (by decide +kernel)) dX9_goes_65 (L' := [(-1), 0, 0]) rfl (W' := [(a4, .inl (cI, 400000, .inl (tb [(-1), 0, 0]))), (a5, .inl (cI, 100000, .inl (tb []))), (a1, .inl (cI, 3, .inl (tb [0, 0, 0]))), (a2, .inl (cI, 3, .inl (tb [0, 0, 0]))), (a3, .inl (cI, 4, .inl (tb [(-1)]))), (a0, .inr (9, [.ref a6, .ref a7, .ref a8, .ref a9, .ref a10, .ref a11, .ref a12, .ref a13, .ref a14, .ref a15, .ref a16, .ref a17, .int 1, .int 0, .int 1, .ref a4, .ref a5, .ref a18, .ref a19, .ref a20, .ref a21, .int 0, .int 0, .ref a2, .ref a1, .ref a22, .ref a3, .int 0, .int 1, .ref a23, .ref a24, .ref a25, .ref a26, .int 0, .ref a27, .int 0]))]) rfl (fun H locs hP hD hS => ?_)
  refine lv_iload_n hx hb dX9_goes_66 rfl (lv_at hl 2 rfl) ?_
  refine lv_iload hx hb dX9_goes_67 (lv_at hl 0 rfl) ?_
  refine t_if_ge hx hb dX9_goes_69 78 (by decide) (by decide +kernel) ?_
  refine lv_iload hx hb dX9_goes_78 (lv_at hl 0 rfl) ?_
  refine v_iadd hx hb dX9_goes_80 1 (by decide +kernel) ?_
  refine lv_istore_n (lv' := [(3, .int 1), (5, .int 0), (4, .int 2), (0, .ref a0), (1, .int 1), (2, .int 1)]) hx hb dX9_goes_81 rfl hl (by decide) rfl (fun ls hl => ?_)
  refine lv_iinc (v := 3) (lv' := [(4, .int 3), (3, .int 1), (5, .int 0), (0, .ref a0), (1, .int 1), (2, .int 1)]) hx hb dX9_goes_82 hl (k := 2) rfl (by decide +kernel) (by decide) rfl (fun ls hl => ?_)
  refine lv_goto (tgt := 22) hx hb dX9_goes_85 (by decide) ?_
  refine lv_iload hx hb dX9_goes_22 (lv_at hl 0 rfl) ?_
  refine lv_iconst (v := 4) hx hb dX9_goes_24 (by decide) ?_
  refine f_icmp_ge hx hb dX9_goes_25 88 (by decide) (by decide +kernel) ?_
  refine lv_iload hx hb dX9_goes_28 (lv_at hl 0 rfl) ?_
  refine lv_aload_n hx hb dX9_goes_30 rfl (lv_at hl 3 rfl) ?_
  refine gf (k := 12) hx hb hts inX9 hown hK hP k_807 rfl (by decide) rfl 5 rfl (.int 1) rfl dX9_goes_31 ?_
  refine t_icmp_ge hx hb dX9_goes_34 47 (by decide) (by decide +kernel) ?_
  refine lv_iconst (v := 0) hx hb dX9_goes_47 (by decide) ?_
  refine lv_istore (lv' := [(5, .int 0), (4, .int 3), (3, .int 1), (0, .ref a0), (1, .int 1), (2, .int 1)]) hx hb dX9_goes_48 hl (by decide) rfl (fun ls hl => ?_)
  refine lv_aload_n hx hb dX9_goes_50 rfl (lv_at hl 3 rfl) ?_
  refine gf (k := 15) hx hb hts inX9 hown hK hP k_810 rfl (by decide) rfl 5 rfl (.ref a4) rfl dX9_goes_51 ?_
  exact c379_X9_goes_s1 l dC dI cI cJ cII cJJ g a0 a1 a2 a3 a4 a5 a6 a7 a8 a9 a10 a11 a12 a13 a14 a15 a16 a17 a18 a19 a20 a21 a22 a23 a24 a25 a26 a27 hx hb hr hml hown hts hk hA hK hP hD hS hX hl
set_option maxRecDepth 100000 in
set_option maxHeartbeats 4000000 in
theorem c384_X9_minor (l : Launch) (dC : Nat → ClassId) (dI : Nat → Nat → Nat) (cI cJ cII cJJ : ClassId) (sz g a0 a1 a2 a3 a4 a5 a6 a7 a8 a9 a10 a11 a12 a13 a14 a15 a16 a17 a18 a19 a20 a21 a22 a23 a24 a25 a26 a27 : Nat) : Met l yX9_minor (.code yX9_minor cX9_minor 8 (some .long) :: TT) ({ frames := 2, cells := 0, slots := 0, locals := 80 }) (PcS dC dI (TY cI cJ cII cJJ) [.ref a0, .int 0, .int 0, .int 0, .int 0, .int 0, .int 0, .int 0] [(a0, .inr (9, [.ref a1, .ref a2, .ref a3, .ref a4, .ref a5, .ref a6, .ref a7, .ref a8, .ref a9, .ref a10, .ref a11, .ref a12, .int 1, .int 0, .int 1, .ref a13, .ref a14, .ref a15, .ref a16, .ref a17, .ref a18, .int 1, .int 0, .ref a19, .ref a20, .ref a21, .ref a22, .int 0, .int 1, .ref a23, .ref a24, .ref a25, .ref a26, .int 0, .ref a27, .int 0]))] sz 0 g) ((QcL dC dI (TY cI cJ cII cJJ) 1 [(a0, .inr (9, [.ref a1, .ref a2, .ref a3, .ref a4, .ref a5, .ref a6, .ref a7, .ref a8, .ref a9, .ref a10, .ref a11, .ref a12, .int 1, .int 0, .int 1, .ref a13, .ref a14, .ref a15, .ref a16, .ref a17, .ref a18, .int 1, .int 0, .ref a19, .ref a20, .ref a21, .ref a22, .int 0, .int 1, .ref a23, .ref a24, .ref a25, .ref a26, .int 0, .ref a27, .int 0]))]) (va_A [(a0, .inr (9, [.ref a1, .ref a2, .ref a3, .ref a4, .ref a5, .ref a6, .ref a7, .ref a8, .ref a9, .ref a10, .ref a11, .ref a12, .int 1, .int 0, .int 1, .ref a13, .ref a14, .ref a15, .ref a16, .ref a17, .ref a18, .int 1, .int 0, .ref a19, .ref a20, .ref a21, .ref a22, .int 0, .int 1, .ref a23, .ref a24, .ref a25, .ref a26, .int 0, .ref a27, .int 0]))] sz)) 0 0 (va_A [(a0, .inr (9, [.ref a1, .ref a2, .ref a3, .ref a4, .ref a5, .ref a6, .ref a7, .ref a8, .ref a9, .ref a10, .ref a11, .ref a12, .int 1, .int 0, .int 1, .ref a13, .ref a14, .ref a15, .ref a16, .ref a17, .ref a18, .int 1, .int 0, .ref a19, .ref a20, .ref a21, .ref a22, .int 0, .int 1, .ref a23, .ref a24, .ref a25, .ref a26, .int 0, .ref a27, .int 0]))] sz) := by
  refine SM.of (y := yX9_minor) (maxL := 8) (av := [.ref a0, .int 0, .int 0, .int 0, .int 0, .int 0, .int 0, .int 0]) (QcL dC dI (TY cI cJ cII cJJ) 1 [(a0, .inr (9, [.ref a1, .ref a2, .ref a3, .ref a4, .ref a5, .ref a6, .ref a7, .ref a8, .ref a9, .ref a10, .ref a11, .ref a12, .int 1, .int 0, .int 1, .ref a13, .ref a14, .ref a15, .ref a16, .ref a17, .ref a18, .int 1, .int 0, .ref a19, .ref a20, .ref a21, .ref a22, .int 0, .int 1, .ref a23, .ref a24, .ref a25, .ref a26, .int 0, .ref a27, .int 0]))]) (by decide +kernel) (Nat.le_of_ble_eq_true rfl) (fun p e s m below meth c A ls hx hb hr hml hown hts hk hnm hA hK hP hD hS hX hl => ?_)
  have hown : s.vm.findClass RX9 = some m.cls := hown
  have hl : lv_has ls 8 [(0, .ref a0), (1, .int 0), (2, .int 0), (3, .int 0), (4, .int 0), (5, .int 0), (6, .int 0), (7, .int 0)] := hl
  refine lv_iload_n hx hb dX9_minor_0 rfl (lv_at hl 1 rfl) ?_
  refine f_if_ne hx hb dX9_minor_1 6 (by decide) (by decide +kernel) ?_
  refine lv_lconst (v := 1) hx hb dX9_minor_4 (by decide) ?_
  exact r_l hx hb hr hk hK hP hD hS dX9_minor_5
set_option maxRecDepth 100000 in
set_option maxHeartbeats 4000000 in
theorem c383_X9_makes (l : Launch) (dC : Nat → ClassId) (dI : Nat → Nat → Nat) (cI cJ cII cJJ : ClassId) (sz g a0 a1 a2 a3 a4 a5 a6 a7 a8 a9 a10 a11 a12 a13 a14 a15 a16 a17 a18 a19 a20 a21 a22 a23 a24 a25 a26 a27 : Nat) : Met l yX9_makes (.code yX9_makes cX9_makes 7 (some .boolean) :: TT) ({ frames := 3, cells := 0, slots := 0, locals := 140 }) (PcS dC dI (TY cI cJ cII cJJ) [.ref a0, .int 1] [(a0, .inr (9, [.ref a4, .ref a5, .ref a6, .ref a7, .ref a8, .ref a9, .ref a10, .ref a11, .ref a12, .ref a13, .ref a14, .ref a15, .int 1, .int 0, .int 1, .ref a16, .ref a17, .ref a18, .ref a19, .ref a20, .ref a21, .int 1, .int 0, .ref a2, .ref a1, .ref a22, .ref a3, .int 0, .int 1, .ref a23, .ref a24, .ref a25, .ref a26, .int 0, .ref a27, .int 0])), (a1, .inl (cI, 3, .inl (tb [0, 0, 0]))), (a2, .inl (cI, 3, .inl (tb [0, 0, 0]))), (a3, .inl (cI, 4, .inl (tb [0])))] sz 0 g) ((QcI dC dI (TY cI cJ cII cJJ) 0 [(a1, .inl (cI, 3, .inl (tb [0, 0, 0]))), (a2, .inl (cI, 3, .inl (tb [0, 0, 0]))), (a3, .inl (cI, 4, .inl (tb [0]))), (a0, .inr (9, [.ref a4, .ref a5, .ref a6, .ref a7, .ref a8, .ref a9, .ref a10, .ref a11, .ref a12, .ref a13, .ref a14, .ref a15, .int 1, .int 0, .int 1, .ref a16, .ref a17, .ref a18, .ref a19, .ref a20, .ref a21, .int 1, .int 0, .ref a2, .ref a1, .ref a22, .ref a3, .int 0, .int 1, .ref a23, .ref a24, .ref a25, .ref a26, .int 0, .ref a27, .int 0]))]) (va_A [(a0, .inr (9, [.ref a4, .ref a5, .ref a6, .ref a7, .ref a8, .ref a9, .ref a10, .ref a11, .ref a12, .ref a13, .ref a14, .ref a15, .int 1, .int 0, .int 1, .ref a16, .ref a17, .ref a18, .ref a19, .ref a20, .ref a21, .int 1, .int 0, .ref a2, .ref a1, .ref a22, .ref a3, .int 0, .int 1, .ref a23, .ref a24, .ref a25, .ref a26, .int 0, .ref a27, .int 0])), (a1, .inl (cI, 3, .inl (tb [0, 0, 0]))), (a2, .inl (cI, 3, .inl (tb [0, 0, 0]))), (a3, .inl (cI, 4, .inl (tb [0])))] sz)) 0 0 (va_A [(a0, .inr (9, [.ref a4, .ref a5, .ref a6, .ref a7, .ref a8, .ref a9, .ref a10, .ref a11, .ref a12, .ref a13, .ref a14, .ref a15, .int 1, .int 0, .int 1, .ref a16, .ref a17, .ref a18, .ref a19, .ref a20, .ref a21, .int 1, .int 0, .ref a2, .ref a1, .ref a22, .ref a3, .int 0, .int 1, .ref a23, .ref a24, .ref a25, .ref a26, .int 0, .ref a27, .int 0])), (a1, .inl (cI, 3, .inl (tb [0, 0, 0]))), (a2, .inl (cI, 3, .inl (tb [0, 0, 0]))), (a3, .inl (cI, 4, .inl (tb [0])))] sz) := by
  refine SM.of (y := yX9_makes) (maxL := 7) (av := [.ref a0, .int 1]) (QcI dC dI (TY cI cJ cII cJJ) 0 [(a1, .inl (cI, 3, .inl (tb [0, 0, 0]))), (a2, .inl (cI, 3, .inl (tb [0, 0, 0]))), (a3, .inl (cI, 4, .inl (tb [0]))), (a0, .inr (9, [.ref a4, .ref a5, .ref a6, .ref a7, .ref a8, .ref a9, .ref a10, .ref a11, .ref a12, .ref a13, .ref a14, .ref a15, .int 1, .int 0, .int 1, .ref a16, .ref a17, .ref a18, .ref a19, .ref a20, .ref a21, .int 1, .int 0, .ref a2, .ref a1, .ref a22, .ref a3, .int 0, .int 1, .ref a23, .ref a24, .ref a25, .ref a26, .int 0, .ref a27, .int 0]))]) (by decide +kernel) (Nat.le_of_ble_eq_true rfl) (fun p e s m below meth c A ls hx hb hr hml hown hts hk hnm hA hK hP hD hS hX hl => ?_)
  have hown : s.vm.findClass RX9 = some m.cls := hown
  have hl : lv_has ls 7 [(0, .ref a0), (1, .int 1)] := hl
  refine lv_aload_n hx hb dX9_makes_0 rfl (lv_at hl 0 rfl) ?_
  refine lv_aload_n hx hb dX9_makes_1 rfl (lv_at hl 0 rfl) ?_
  refine gf (k := 27) hx hb hts inX9 hown hK hP k_822 rfl (by decide) rfl 0 rfl (.int 0) rfl dX9_makes_2 ?_
  refine lv_aload_n hx hb dX9_makes_5 rfl (lv_at hl 0 rfl) ?_
  refine gf (k := 24) hx hb hts inX9 hown hK hP k_819 rfl (by decide) rfl 0 rfl (.ref a1) rfl dX9_makes_6 ?_
  refine lv_iconst (v := 0) hx hb dX9_makes_9 (by decide) ?_
  refine ld_i hx hb hK hP 1 rfl (vin (by decide +kernel)) dX9_makes_10 0 rfl ?_
  refine lv_aload_n hx hb dX9_makes_11 rfl (lv_at hl 0 rfl) ?_
  refine gf (k := 24) hx hb hts inX9 hown hK hP k_819 rfl (by decide) rfl 0 rfl (.ref a1) rfl dX9_makes_12 ?_
  refine lv_iconst (v := 1) hx hb dX9_makes_15 (by decide) ?_
  refine ld_i hx hb hK hP 1 rfl (vin (by decide +kernel)) dX9_makes_16 0 rfl ?_
  refine lv_aload_n hx hb dX9_makes_17 rfl (lv_at hl 0 rfl) ?_
  refine gf (k := 24) hx hb hts inX9 hown hK hP k_819 rfl (by decide) rfl 0 rfl (.ref a1) rfl dX9_makes_18 ?_
  refine lv_iconst (v := 2) hx hb dX9_makes_21 (by decide) ?_
  refine ld_i hx hb hK hP 1 rfl (vin (by decide +kernel)) dX9_makes_22 0 rfl ?_
  refine lv_aload_n hx hb dX9_makes_23 rfl (lv_at hl 0 rfl) ?_
  refine gf (k := 23) hx hb hts inX9 hown hK hP k_818 rfl (by decide) rfl 0 rfl (.ref a2) rfl dX9_makes_24 ?_
  refine lv_iconst (v := 0) hx hb dX9_makes_27 (by decide) ?_
  refine ld_i hx hb hK hP 2 rfl (vin (by decide +kernel)) dX9_makes_28 0 rfl ?_
  refine lv_aload_n hx hb dX9_makes_29 rfl (lv_at hl 0 rfl) ?_
  refine gf (k := 23) hx hb hts inX9 hown hK hP k_818 rfl (by decide) rfl 0 rfl (.ref a2) rfl dX9_makes_30 ?_
  refine lv_iconst (v := 1) hx hb dX9_makes_33 (by decide) ?_
  refine ld_i hx hb hK hP 2 rfl (vin (by decide +kernel)) dX9_makes_34 0 rfl ?_
  refine lv_aload_n hx hb dX9_makes_35 rfl (lv_at hl 0 rfl) ?_
  refine gf (k := 23) hx hb hts inX9 hown hK hP k_818 rfl (by decide) rfl 0 rfl (.ref a2) rfl dX9_makes_36 ?_
  refine lv_iconst (v := 2) hx hb dX9_makes_39 (by decide) ?_
  refine ld_i hx hb hK hP 2 rfl (vin (by decide +kernel)) dX9_makes_40 0 rfl ?_
  refine kV_l (q0 := 0) ⟨hx, hb, hml, hown, hts⟩ hK hP hD hS hA hX cv_RX9_135 [0] [1, 2, 3] (wr := [(a1, .inl (cI, 3, .inl (tb [0, 0, 0]))), (a2, .inl (cI, 3, .inl (tb [0, 0, 0]))), (a3, .inl (cI, 4, .inl (tb [0])))]) rfl rfl rfl rfl (by decide) (c384_X9_minor l dC dI cI cJ cII cJJ s.heap.size 0 a0 a4 a5 a6 a7 a8 a9 a10 a11 a12 a13 a14 a15 a16 a17 a18 a19 a20 a21 a2 a1 a22 a3 a23 a24 a25 a26 a27) ⟨by decide +kernel, by decide +kernel⟩ rfl rfl (Or.inl rfl) (rest := []) rfl rfl rfl hl.1 rfl (Nat.le_of_ble_eq_true rfl) dX9_makes_41 ⟨Nat.le_of_ble_eq_true rfl, Nat.le_of_ble_eq_true rfl⟩ (W' := [(a1, .inl (cI, 3, .inl (tb [0, 0, 0]))), (a2, .inl (cI, 3, .inl (tb [0, 0, 0]))), (a3, .inl (cI, 4, .inl (tb [0]))), (a0, .inr (9, [.ref a4, .ref a5, .ref a6, .ref a7, .ref a8, .ref a9, .ref a10, .ref a11, .ref a12, .ref a13, .ref a14, .ref a15, .int 1, .int 0, .int 1, .ref a16, .ref a17, .ref a18, .ref a19, .ref a20, .ref a21, .int 1, .int 0, .ref a2, .ref a1, .ref a22, .ref a3, .int 0, .int 1, .ref a23, .ref a24, .ref a25, .ref a26, .int 0, .ref a27, .int 0]))]) rfl (fun H locs hP hD hS => ?_)
  refine lv_lstore_n (lv' := [(2, .long 1), (0, .ref a0), (1, .int 1)]) hx hb dX9_makes_44 rfl hl (by decide) rfl (fun ls hl => ?_)
  refine lv_iconst (v := 0) hx hb dX9_makes_45 (by decide) ?_
  refine lv_istore (lv' := [(4, .int 0), (2, .long 1), (0, .ref a0), (1, .int 1)]) hx hb dX9_makes_46 hl (by decide) rfl (fun ls hl => ?_)
  refine lv_iload hx hb dX9_makes_48 (lv_at hl 0 rfl) ?_
  refine lv_aload_n hx hb dX9_makes_50 rfl (lv_at hl 2 rfl) ?_
  refine gf (k := 27) hx hb hts inX9 hown hK hP k_822 rfl (by decide) rfl 3 rfl (.int 0) rfl dX9_makes_51 ?_
  refine t_icmp_ge hx hb dX9_makes_54 131 (by decide) (by decide +kernel) ?_
  refine lv_iconst (v := 0) hx hb dX9_makes_131 (by decide) ?_
  refine lv_istore (lv' := [(4, .int 0), (2, .long 1), (0, .ref a0), (1, .int 1)]) hx hb dX9_makes_132 hl (by decide) rfl (fun ls hl => ?_)
  refine lv_iload hx hb dX9_makes_134 (lv_at hl 0 rfl) ?_
  refine lv_aload_n hx hb dX9_makes_136 rfl (lv_at hl 2 rfl) ?_
  refine gf (k := 27) hx hb hts inX9 hown hK hP k_822 rfl (by decide) rfl 3 rfl (.int 0) rfl dX9_makes_137 ?_
  refine t_icmp_ge hx hb dX9_makes_140 210 (by decide) (by decide +kernel) ?_
  refine lv_iconst (v := 0) hx hb dX9_makes_210 (by decide) ?_
  refine lv_istore (lv' := [(4, .int 0), (2, .long 1), (0, .ref a0), (1, .int 1)]) hx hb dX9_makes_211 hl (by decide) rfl (fun ls hl => ?_)
  refine lv_iconst (v := 0) hx hb dX9_makes_213 (by decide) ?_
  refine lv_istore (lv' := [(5, .int 0), (4, .int 0), (2, .long 1), (0, .ref a0), (1, .int 1)]) hx hb dX9_makes_214 hl (by decide) rfl (fun ls hl => ?_)
  refine lv_iload hx hb dX9_makes_216 (lv_at hl 0 rfl) ?_
  refine lv_aload_n hx hb dX9_makes_218 rfl (lv_at hl 3 rfl) ?_
  refine gf (k := 12) hx hb hts inX9 hown hK hP k_807 rfl (by decide) rfl 3 rfl (.int 1) rfl dX9_makes_219 ?_
  refine f_icmp_ge hx hb dX9_makes_222 253 (by decide) (by decide +kernel) ?_
  refine lv_iload hx hb dX9_makes_225 (lv_at hl 1 rfl) ?_
  refine f_if_ne hx hb dX9_makes_227 240 (by decide) (by decide +kernel) ?_
  refine lv_aload_n hx hb dX9_makes_230 rfl (lv_at hl 3 rfl) ?_
  refine gf (k := 26) hx hb hts inX9 hown hK hP k_821 rfl (by decide) rfl 3 rfl (.ref a3) rfl dX9_makes_231 ?_
  refine lv_iload hx hb dX9_makes_234 (lv_at hl 0 rfl) ?_
  refine ld_i hx hb hK hP 2 rfl (vin (by decide +kernel)) dX9_makes_236 0 rfl ?_
  refine t_if_eq hx hb dX9_makes_237 244 (by decide) (by decide +kernel) ?_
  refine lv_iconst (v := 0) hx hb dX9_makes_244 (by decide) ?_
  refine lv_istore (lv' := [(4, .int 0), (5, .int 0), (2, .long 1), (0, .ref a0), (1, .int 1)]) hx hb dX9_makes_245 hl (by decide) rfl (fun ls hl => ?_)
  refine lv_iinc (v := 1) (lv' := [(5, .int 1), (4, .int 0), (2, .long 1), (0, .ref a0), (1, .int 1)]) hx hb dX9_makes_247 hl (k := 1) rfl (by decide +kernel) (by decide) rfl (fun ls hl => ?_)
  refine lv_goto (tgt := 216) hx hb dX9_makes_250 (by decide) ?_
  refine lv_iload hx hb dX9_makes_216 (lv_at hl 0 rfl) ?_
  refine lv_aload_n hx hb dX9_makes_218 rfl (lv_at hl 3 rfl) ?_
  refine gf (k := 12) hx hb hts inX9 hown hK hP k_807 rfl (by decide) rfl 3 rfl (.int 1) rfl dX9_makes_219 ?_
  refine t_icmp_ge hx hb dX9_makes_222 253 (by decide) (by decide +kernel) ?_
  refine lv_iload hx hb dX9_makes_253 (lv_at hl 1 rfl) ?_
  exact r_z hx hb hr hk hK hP hD hS dX9_makes_255 rfl
set_option maxRecDepth 100000 in
set_option maxHeartbeats 4000000 in
theorem c382_X9_goes (l : Launch) (dC : Nat → ClassId) (dI : Nat → Nat → Nat) (cI cJ cII cJJ : ClassId) (sz g a0 a1 a2 a3 a4 a5 a6 a7 a8 a9 a10 a11 a12 a13 a14 a15 a16 a17 a18 a19 a20 a21 a22 a23 a24 a25 a26 a27 : Nat) : Met l yX9_goes (.code yX9_goes cX9_goes 6 none :: TT) ({ frames := 4, cells := 0, slots := 0, locals := 200 }) (PcS dC dI (TY cI cJ cII cJJ) [.ref a0, .int 1, .int 1] [(a0, .inr (9, [.ref a4, .ref a5, .ref a6, .ref a7, .ref a8, .ref a9, .ref a10, .ref a11, .ref a12, .ref a13, .ref a14, .ref a15, .int 1, .int 0, .int 1, .ref a16, .ref a17, .ref a18, .ref a19, .ref a20, .ref a21, .int 1, .int 0, .ref a2, .ref a1, .ref a22, .ref a3, .int 0, .int 1, .ref a23, .ref a24, .ref a25, .ref a26, .int 0, .ref a27, .int 0])), (a1, .inl (cI, 3, .inl (tb [0, 0, 0]))), (a2, .inl (cI, 3, .inl (tb [0, 0, 0]))), (a3, .inl (cI, 4, .inl (tb [0])))] sz 0 g) ((QcV dC dI (TY cI cJ cII cJJ) (fun _ => [(a1, .inl (cI, 3, .inl (tb [0, 0, 0]))), (a2, .inl (cI, 3, .inl (tb [0, 0, 0]))), (a3, .inl (cI, 4, .inl (tb [0]))), (a0, .inr (9, [.ref a4, .ref a5, .ref a6, .ref a7, .ref a8, .ref a9, .ref a10, .ref a11, .ref a12, .ref a13, .ref a14, .ref a15, .int 1, .int 0, .int 1, .ref a16, .ref a17, .ref a18, .ref a19, .ref a20, .ref a21, .int 1, .int 0, .ref a2, .ref a1, .ref a22, .ref a3, .int 0, .int 1, .ref a23, .ref a24, .ref a25, .ref a26, .int 0, .ref a27, .int 0]))])) (va_A [(a0, .inr (9, [.ref a4, .ref a5, .ref a6, .ref a7, .ref a8, .ref a9, .ref a10, .ref a11, .ref a12, .ref a13, .ref a14, .ref a15, .int 1, .int 0, .int 1, .ref a16, .ref a17, .ref a18, .ref a19, .ref a20, .ref a21, .int 1, .int 0, .ref a2, .ref a1, .ref a22, .ref a3, .int 0, .int 1, .ref a23, .ref a24, .ref a25, .ref a26, .int 0, .ref a27, .int 0])), (a1, .inl (cI, 3, .inl (tb [0, 0, 0]))), (a2, .inl (cI, 3, .inl (tb [0, 0, 0]))), (a3, .inl (cI, 4, .inl (tb [0])))] sz)) 0 0 (va_A [(a0, .inr (9, [.ref a4, .ref a5, .ref a6, .ref a7, .ref a8, .ref a9, .ref a10, .ref a11, .ref a12, .ref a13, .ref a14, .ref a15, .int 1, .int 0, .int 1, .ref a16, .ref a17, .ref a18, .ref a19, .ref a20, .ref a21, .int 1, .int 0, .ref a2, .ref a1, .ref a22, .ref a3, .int 0, .int 1, .ref a23, .ref a24, .ref a25, .ref a26, .int 0, .ref a27, .int 0])), (a1, .inl (cI, 3, .inl (tb [0, 0, 0]))), (a2, .inl (cI, 3, .inl (tb [0, 0, 0]))), (a3, .inl (cI, 4, .inl (tb [0])))] sz) := by
  refine SM.of (y := yX9_goes) (maxL := 6) (av := [.ref a0, .int 1, .int 1]) (QcV dC dI (TY cI cJ cII cJJ) (fun _ => [(a1, .inl (cI, 3, .inl (tb [0, 0, 0]))), (a2, .inl (cI, 3, .inl (tb [0, 0, 0]))), (a3, .inl (cI, 4, .inl (tb [0]))), (a0, .inr (9, [.ref a4, .ref a5, .ref a6, .ref a7, .ref a8, .ref a9, .ref a10, .ref a11, .ref a12, .ref a13, .ref a14, .ref a15, .int 1, .int 0, .int 1, .ref a16, .ref a17, .ref a18, .ref a19, .ref a20, .ref a21, .int 1, .int 0, .ref a2, .ref a1, .ref a22, .ref a3, .int 0, .int 1, .ref a23, .ref a24, .ref a25, .ref a26, .int 0, .ref a27, .int 0]))])) (by decide +kernel) (Nat.le_of_ble_eq_true rfl) (fun p e s m below meth c A ls hx hb hr hml hown hts hk hnm hA hK hP hD hS hX hl => ?_)
  have hown : s.vm.findClass RX9 = some m.cls := hown
  have hl : lv_has ls 6 [(0, .ref a0), (1, .int 1), (2, .int 1)] := hl
  refine lv_iload_n hx hb dX9_goes_0 rfl (lv_at hl 1 rfl) ?_
  refine lv_aload_n hx hb dX9_goes_1 rfl (lv_at hl 0 rfl) ?_
  refine gf (k := 28) hx hb hts inX9 hown hK hP k_823 rfl (by decide) rfl 0 rfl (.int 1) rfl dX9_goes_2 ?_
  refine f_icmp_ne hx hb dX9_goes_5 109 (by decide) (by decide +kernel) ?_
  refine lv_aload_n hx hb dX9_goes_8 rfl (lv_at hl 0 rfl) ?_
  refine lv_iload_n hx hb dX9_goes_9 rfl (lv_at hl 2 rfl) ?_
  refine kV_i (q0 := 0) ⟨hx, hb, hml, hown, hts⟩ hK hP hD hS hA hX cv_RX9_149 [0, 1, 2, 3] [] (wr := []) rfl rfl rfl rfl (by decide) (c383_X9_makes l dC dI cI cJ cII cJJ s.heap.size 0 a0 a1 a2 a3 a4 a5 a6 a7 a8 a9 a10 a11 a12 a13 a14 a15 a16 a17 a18 a19 a20 a21 a22 a23 a24 a25 a26 a27) ⟨by decide +kernel, by decide +kernel⟩ rfl rfl (Or.inl rfl) (rest := []) rfl rfl rfl hl.1 rfl (Nat.le_of_ble_eq_true rfl) dX9_goes_10 ⟨Nat.le_of_ble_eq_true rfl, Nat.le_of_ble_eq_true rfl⟩ (W' := [(a1, .inl (cI, 3, .inl (tb [0, 0, 0]))), (a2, .inl (cI, 3, .inl (tb [0, 0, 0]))), (a3, .inl (cI, 4, .inl (tb [0]))), (a0, .inr (9, [.ref a4, .ref a5, .ref a6, .ref a7, .ref a8, .ref a9, .ref a10, .ref a11, .ref a12, .ref a13, .ref a14, .ref a15, .int 1, .int 0, .int 1, .ref a16, .ref a17, .ref a18, .ref a19, .ref a20, .ref a21, .int 1, .int 0, .ref a2, .ref a1, .ref a22, .ref a3, .int 0, .int 1, .ref a23, .ref a24, .ref a25, .ref a26, .int 0, .ref a27, .int 0]))]) rfl (fun H locs hP hD hS => ?_)
  refine f_if_ne hx hb dX9_goes_13 17 (by decide) (by decide +kernel) ?_
  exact r_v (fun _ => 0) hx hb hr hk hK hP hD hS dX9_goes_16
set_option maxRecDepth 100000 in
set_option maxHeartbeats 4000000 in
theorem c386_X9_makes (l : Launch) (dC : Nat → ClassId) (dI : Nat → Nat → Nat) (cI cJ cII cJJ : ClassId) (sz g a0 a1 a2 a3 a4 a5 a6 a7 a8 a9 a10 a11 a12 a13 a14 a15 a16 a17 a18 a19 a20 a21 a22 a23 a24 a25 a26 a27 : Nat) : Met l yX9_makes (.code yX9_makes cX9_makes 7 (some .boolean) :: TT) ({ frames := 3, cells := 0, slots := 0, locals := 140 }) (PcS dC dI (TY cI cJ cII cJJ) [.ref a0, .int 1] [(a0, .inr (9, [.ref a4, .ref a5, .ref a6, .ref a7, .ref a8, .ref a9, .ref a10, .ref a11, .ref a12, .ref a13, .ref a14, .ref a15, .int 1, .int 0, .int 1, .ref a16, .ref a17, .ref a18, .ref a19, .ref a20, .ref a21, .int 1, .int 0, .ref a2, .ref a1, .ref a22, .ref a3, .int 0, .int 1, .ref a23, .ref a24, .ref a25, .ref a26, .int 0, .ref a27, .int 0])), (a1, .inl (cI, 3, .inl (tb [0, 0, 0]))), (a2, .inl (cI, 3, .inl (tb [0, 0, 0]))), (a3, .inl (cI, 4, .inl (tb [1])))] sz 0 g) ((QcI dC dI (TY cI cJ cII cJJ) 1 [(a1, .inl (cI, 3, .inl (tb [0, 0, 0]))), (a2, .inl (cI, 3, .inl (tb [0, 0, 0]))), (a3, .inl (cI, 4, .inl (tb [1]))), (a0, .inr (9, [.ref a4, .ref a5, .ref a6, .ref a7, .ref a8, .ref a9, .ref a10, .ref a11, .ref a12, .ref a13, .ref a14, .ref a15, .int 1, .int 0, .int 1, .ref a16, .ref a17, .ref a18, .ref a19, .ref a20, .ref a21, .int 1, .int 0, .ref a2, .ref a1, .ref a22, .ref a3, .int 0, .int 1, .ref a23, .ref a24, .ref a25, .ref a26, .int 0, .ref a27, .int 0]))]) (va_A [(a0, .inr (9, [.ref a4, .ref a5, .ref a6, .ref a7, .ref a8, .ref a9, .ref a10, .ref a11, .ref a12, .ref a13, .ref a14, .ref a15, .int 1, .int 0, .int 1, .ref a16, .ref a17, .ref a18, .ref a19, .ref a20, .ref a21, .int 1, .int 0, .ref a2, .ref a1, .ref a22, .ref a3, .int 0, .int 1, .ref a23, .ref a24, .ref a25, .ref a26, .int 0, .ref a27, .int 0])), (a1, .inl (cI, 3, .inl (tb [0, 0, 0]))), (a2, .inl (cI, 3, .inl (tb [0, 0, 0]))), (a3, .inl (cI, 4, .inl (tb [1])))] sz)) 0 0 (va_A [(a0, .inr (9, [.ref a4, .ref a5, .ref a6, .ref a7, .ref a8, .ref a9, .ref a10, .ref a11, .ref a12, .ref a13, .ref a14, .ref a15, .int 1, .int 0, .int 1, .ref a16, .ref a17, .ref a18, .ref a19, .ref a20, .ref a21, .int 1, .int 0, .ref a2, .ref a1, .ref a22, .ref a3, .int 0, .int 1, .ref a23, .ref a24, .ref a25, .ref a26, .int 0, .ref a27, .int 0])), (a1, .inl (cI, 3, .inl (tb [0, 0, 0]))), (a2, .inl (cI, 3, .inl (tb [0, 0, 0]))), (a3, .inl (cI, 4, .inl (tb [1])))] sz) := by
  refine SM.of (y := yX9_makes) (maxL := 7) (av := [.ref a0, .int 1]) (QcI dC dI (TY cI cJ cII cJJ) 1 [(a1, .inl (cI, 3, .inl (tb [0, 0, 0]))), (a2, .inl (cI, 3, .inl (tb [0, 0, 0]))), (a3, .inl (cI, 4, .inl (tb [1]))), (a0, .inr (9, [.ref a4, .ref a5, .ref a6, .ref a7, .ref a8, .ref a9, .ref a10, .ref a11, .ref a12, .ref a13, .ref a14, .ref a15, .int 1, .int 0, .int 1, .ref a16, .ref a17, .ref a18, .ref a19, .ref a20, .ref a21, .int 1, .int 0, .ref a2, .ref a1, .ref a22, .ref a3, .int 0, .int 1, .ref a23, .ref a24, .ref a25, .ref a26, .int 0, .ref a27, .int 0]))]) (by decide +kernel) (Nat.le_of_ble_eq_true rfl) (fun p e s m below meth c A ls hx hb hr hml hown hts hk hnm hA hK hP hD hS hX hl => ?_)
  have hown : s.vm.findClass RX9 = some m.cls := hown
  have hl : lv_has ls 7 [(0, .ref a0), (1, .int 1)] := hl
  refine lv_aload_n hx hb dX9_makes_0 rfl (lv_at hl 0 rfl) ?_
  refine lv_aload_n hx hb dX9_makes_1 rfl (lv_at hl 0 rfl) ?_
  refine gf (k := 27) hx hb hts inX9 hown hK hP k_822 rfl (by decide) rfl 0 rfl (.int 0) rfl dX9_makes_2 ?_
  refine lv_aload_n hx hb dX9_makes_5 rfl (lv_at hl 0 rfl) ?_
  refine gf (k := 24) hx hb hts inX9 hown hK hP k_819 rfl (by decide) rfl 0 rfl (.ref a1) rfl dX9_makes_6 ?_
  refine lv_iconst (v := 0) hx hb dX9_makes_9 (by decide) ?_
  refine ld_i hx hb hK hP 1 rfl (vin (by decide +kernel)) dX9_makes_10 0 rfl ?_
  refine lv_aload_n hx hb dX9_makes_11 rfl (lv_at hl 0 rfl) ?_
  refine gf (k := 24) hx hb hts inX9 hown hK hP k_819 rfl (by decide) rfl 0 rfl (.ref a1) rfl dX9_makes_12 ?_
  refine lv_iconst (v := 1) hx hb dX9_makes_15 (by decide) ?_
  refine ld_i hx hb hK hP 1 rfl (vin (by decide +kernel)) dX9_makes_16 0 rfl ?_
  refine lv_aload_n hx hb dX9_makes_17 rfl (lv_at hl 0 rfl) ?_
  refine gf (k := 24) hx hb hts inX9 hown hK hP k_819 rfl (by decide) rfl 0 rfl (.ref a1) rfl dX9_makes_18 ?_
  refine lv_iconst (v := 2) hx hb dX9_makes_21 (by decide) ?_
  refine ld_i hx hb hK hP 1 rfl (vin (by decide +kernel)) dX9_makes_22 0 rfl ?_
  refine lv_aload_n hx hb dX9_makes_23 rfl (lv_at hl 0 rfl) ?_
  refine gf (k := 23) hx hb hts inX9 hown hK hP k_818 rfl (by decide) rfl 0 rfl (.ref a2) rfl dX9_makes_24 ?_
  refine lv_iconst (v := 0) hx hb dX9_makes_27 (by decide) ?_
  refine ld_i hx hb hK hP 2 rfl (vin (by decide +kernel)) dX9_makes_28 0 rfl ?_
  refine lv_aload_n hx hb dX9_makes_29 rfl (lv_at hl 0 rfl) ?_
  refine gf (k := 23) hx hb hts inX9 hown hK hP k_818 rfl (by decide) rfl 0 rfl (.ref a2) rfl dX9_makes_30 ?_
  refine lv_iconst (v := 1) hx hb dX9_makes_33 (by decide) ?_
  refine ld_i hx hb hK hP 2 rfl (vin (by decide +kernel)) dX9_makes_34 0 rfl ?_
  refine lv_aload_n hx hb dX9_makes_35 rfl (lv_at hl 0 rfl) ?_
  refine gf (k := 23) hx hb hts inX9 hown hK hP k_818 rfl (by decide) rfl 0 rfl (.ref a2) rfl dX9_makes_36 ?_
  refine lv_iconst (v := 2) hx hb dX9_makes_39 (by decide) ?_
  refine ld_i hx hb hK hP 2 rfl (vin (by decide +kernel)) dX9_makes_40 0 rfl ?_
  refine kV_l (q0 := 0) ⟨hx, hb, hml, hown, hts⟩ hK hP hD hS hA hX cv_RX9_135 [0] [1, 2, 3] (wr := [(a1, .inl (cI, 3, .inl (tb [0, 0, 0]))), (a2, .inl (cI, 3, .inl (tb [0, 0, 0]))), (a3, .inl (cI, 4, .inl (tb [1])))]) rfl rfl rfl rfl (by decide) (c384_X9_minor l dC dI cI cJ cII cJJ s.heap.size 0 a0 a4 a5 a6 a7 a8 a9 a10 a11 a12 a13 a14 a15 a16 a17 a18 a19 a20 a21 a2 a1 a22 a3 a23 a24 a25 a26 a27) ⟨by decide +kernel, by decide +kernel⟩ rfl rfl (Or.inl rfl) (rest := []) rfl rfl rfl hl.1 rfl (Nat.le_of_ble_eq_true rfl) dX9_makes_41 ⟨Nat.le_of_ble_eq_true rfl, Nat.le_of_ble_eq_true rfl⟩ (W' := [(a1, .inl (cI, 3, .inl (tb [0, 0, 0]))), (a2, .inl (cI, 3, .inl (tb [0, 0, 0]))), (a3, .inl (cI, 4, .inl (tb [1]))), (a0, .inr (9, [.ref a4, .ref a5, .ref a6, .ref a7, .ref a8, .ref a9, .ref a10, .ref a11, .ref a12, .ref a13, .ref a14, .ref a15, .int 1, .int 0, .int 1, .ref a16, .ref a17, .ref a18, .ref a19, .ref a20, .ref a21, .int 1, .int 0, .ref a2, .ref a1, .ref a22, .ref a3, .int 0, .int 1, .ref a23, .ref a24, .ref a25, .ref a26, .int 0, .ref a27, .int 0]))]) rfl (fun H locs hP hD hS => ?_)
  refine lv_lstore_n (lv' := [(2, .long 1), (0, .ref a0), (1, .int 1)]) hx hb dX9_makes_44 rfl hl (by decide) rfl (fun ls hl => ?_)
  refine lv_iconst (v := 0) hx hb dX9_makes_45 (by decide) ?_
  refine lv_istore (lv' := [(4, .int 0), (2, .long 1), (0, .ref a0), (1, .int 1)]) hx hb dX9_makes_46 hl (by decide) rfl (fun ls hl => ?_)
  refine lv_iload hx hb dX9_makes_48 (lv_at hl 0 rfl) ?_
  refine lv_aload_n hx hb dX9_makes_50 rfl (lv_at hl 2 rfl) ?_
  refine gf (k := 27) hx hb hts inX9 hown hK hP k_822 rfl (by decide) rfl 3 rfl (.int 0) rfl dX9_makes_51 ?_
  refine t_icmp_ge hx hb dX9_makes_54 131 (by decide) (by decide +kernel) ?_
  refine lv_iconst (v := 0) hx hb dX9_makes_131 (by decide) ?_
  refine lv_istore (lv' := [(4, .int 0), (2, .long 1), (0, .ref a0), (1, .int 1)]) hx hb dX9_makes_132 hl (by decide) rfl (fun ls hl => ?_)
  refine lv_iload hx hb dX9_makes_134 (lv_at hl 0 rfl) ?_
  refine lv_aload_n hx hb dX9_makes_136 rfl (lv_at hl 2 rfl) ?_
  refine gf (k := 27) hx hb hts inX9 hown hK hP k_822 rfl (by decide) rfl 3 rfl (.int 0) rfl dX9_makes_137 ?_
  refine t_icmp_ge hx hb dX9_makes_140 210 (by decide) (by decide +kernel) ?_
  refine lv_iconst (v := 0) hx hb dX9_makes_210 (by decide) ?_
  refine lv_istore (lv' := [(4, .int 0), (2, .long 1), (0, .ref a0), (1, .int 1)]) hx hb dX9_makes_211 hl (by decide) rfl (fun ls hl => ?_)
  refine lv_iconst (v := 0) hx hb dX9_makes_213 (by decide) ?_
  refine lv_istore (lv' := [(5, .int 0), (4, .int 0), (2, .long 1), (0, .ref a0), (1, .int 1)]) hx hb dX9_makes_214 hl (by decide) rfl (fun ls hl => ?_)
  refine lv_iload hx hb dX9_makes_216 (lv_at hl 0 rfl) ?_
  refine lv_aload_n hx hb dX9_makes_218 rfl (lv_at hl 3 rfl) ?_
  refine gf (k := 12) hx hb hts inX9 hown hK hP k_807 rfl (by decide) rfl 3 rfl (.int 1) rfl dX9_makes_219 ?_
  refine f_icmp_ge hx hb dX9_makes_222 253 (by decide) (by decide +kernel) ?_
  refine lv_iload hx hb dX9_makes_225 (lv_at hl 1 rfl) ?_
  refine f_if_ne hx hb dX9_makes_227 240 (by decide) (by decide +kernel) ?_
  refine lv_aload_n hx hb dX9_makes_230 rfl (lv_at hl 3 rfl) ?_
  refine gf (k := 26) hx hb hts inX9 hown hK hP k_821 rfl (by decide) rfl 3 rfl (.ref a3) rfl dX9_makes_231 ?_
  refine lv_iload hx hb dX9_makes_234 (lv_at hl 0 rfl) ?_
  refine ld_i hx hb hK hP 2 rfl (vin (by decide +kernel)) dX9_makes_236 1 rfl ?_
  refine f_if_eq hx hb dX9_makes_237 244 (by decide) (by decide +kernel) ?_
  refine lv_iconst (v := 1) hx hb dX9_makes_240 (by decide) ?_
  refine lv_goto (tgt := 245) hx hb dX9_makes_241 (by decide) ?_
  refine lv_istore (lv' := [(4, .int 1), (5, .int 0), (2, .long 1), (0, .ref a0), (1, .int 1)]) hx hb dX9_makes_245 hl (by decide) rfl (fun ls hl => ?_)
  refine lv_iinc (v := 1) (lv' := [(5, .int 1), (4, .int 1), (2, .long 1), (0, .ref a0), (1, .int 1)]) hx hb dX9_makes_247 hl (k := 1) rfl (by decide +kernel) (by decide) rfl (fun ls hl => ?_)
  refine lv_goto (tgt := 216) hx hb dX9_makes_250 (by decide) ?_
  refine lv_iload hx hb dX9_makes_216 (lv_at hl 0 rfl) ?_
  refine lv_aload_n hx hb dX9_makes_218 rfl (lv_at hl 3 rfl) ?_
  refine gf (k := 12) hx hb hts inX9 hown hK hP k_807 rfl (by decide) rfl 3 rfl (.int 1) rfl dX9_makes_219 ?_
  refine t_icmp_ge hx hb dX9_makes_222 253 (by decide) (by decide +kernel) ?_
  refine lv_iload hx hb dX9_makes_253 (lv_at hl 1 rfl) ?_
  exact r_z hx hb hr hk hK hP hD hS dX9_makes_255 rfl
set_option maxRecDepth 100000 in
set_option maxHeartbeats 4000000 in
theorem c385_X9_goes_s1 (l : Launch) (dC : Nat → ClassId) (dI : Nat → Nat → Nat) (cI cJ cII cJJ : ClassId) (g a0 a1 a2 a3 a4 a5 a6 a7 a8 a9 a10 a11 a12 a13 a14 a15 a16 a17 a18 a19 a20 a21 a22 a23 a24 a25 a26 a27 : Nat) {p : Program} {e : Env} {s : State} {m : MethodId} {below : List Frame} {meth : Method} {c : Code} {A : Nat → Prop} {ls : Array Slot} {H : Heap} {locs : List Loc} (hx : p.tables.exec = Jvm.exec) (hb : c.code = cX9_goes) (hr : meth.sig.returnType = none) (hml : c.maxLocals = 6) (hown : s.vm.findClass RX9 = some m.cls) (hts : ∀ w ∈ TT, w.before ([.ref a0, .int 1, .int 1] : List Value).toArray s = true) (hk : meth.locks = false) (hA : ∀ q, s.heap.size ≤ q → A q) (hK : va_K (dC, dI) vwCl (TY cI cJ cII cJJ) s) (hP : va_P (dC, dI) vwCl [(a4, .inl (cI, 400000, .inl (tb [(-1), 0, 0, 0, 1, 0, 0]))), (a5, .inl (cI, 100000, .inl (tb [1]))), (a1, .inl (cI, 3, .inl (tb [0, 0, 0]))), (a2, .inl (cI, 3, .inl (tb [0, 0, 0]))), (a3, .inl (cI, 4, .inl (tb [1]))), (a0, .inr (9, [.ref a6, .ref a7, .ref a8, .ref a9, .ref a10, .ref a11, .ref a12, .ref a13, .ref a14, .ref a15, .ref a16, .ref a17, .int 1, .int 0, .int 1, .ref a4, .ref a5, .ref a18, .ref a19, .ref a20, .ref a21, .int 1, .int 0, .ref a2, .ref a1, .ref a22, .ref a3, .int 0, .int 1, .ref a23, .ref a24, .ref a25, .ref a26, .int 0, .ref a27, .int 0]))] H) (hD : va_D A [(a4, .inl (cI, 400000, .inl (tb [(-1), 0, 0, 0, 1, 0, 0]))), (a5, .inl (cI, 100000, .inl (tb [1]))), (a1, .inl (cI, 3, .inl (tb [0, 0, 0]))), (a2, .inl (cI, 3, .inl (tb [0, 0, 0]))), (a3, .inl (cI, 4, .inl (tb [1]))), (a0, .inr (9, [.ref a6, .ref a7, .ref a8, .ref a9, .ref a10, .ref a11, .ref a12, .ref a13, .ref a14, .ref a15, .ref a16, .ref a17, .int 1, .int 0, .int 1, .ref a4, .ref a5, .ref a18, .ref a19, .ref a20, .ref a21, .int 1, .int 0, .ref a2, .ref a1, .ref a22, .ref a3, .int 0, .int 1, .ref a23, .ref a24, .ref a25, .ref a26, .int 0, .ref a27, .int 0]))]) (hS : va_S A s.heap H locs) (hX : GXA 0 g A s) (hl : lv_has ls 6 [(5, .int 0), (4, .int 3), (3, .int 1), (0, .ref a0), (1, .int 1), (2, .int 1)]) : W p l e ({ frames := 4, cells := 0, slots := 0, locals := 200 } : Room) s m ([.ref a0, .int 1, .int 1] : List Value).toArray below meth c H locs 0 0 (MQ below ((QcV dC dI (TY cI cJ cII cJJ) (fun _ => [(a4, .inl (cI, 400000, .inl (tb [(-1), 0, 0, 0, 1, 0, 0, 0]))), (a5, .inl (cI, 100000, .inl (tb [1, 1]))), (a1, .inl (cI, 3, .inl (tb [0, 0, 0]))), (a2, .inl (cI, 3, .inl (tb [0, 0, 0]))), (a3, .inl (cI, 4, .inl (tb [1]))), (a0, .inr (9, [.ref a6, .ref a7, .ref a8, .ref a9, .ref a10, .ref a11, .ref a12, .ref a13, .ref a14, .ref a15, .ref a16, .ref a17, .int 1, .int 0, .int 1, .ref a4, .ref a5, .ref a18, .ref a19, .ref a20, .ref a21, .int 2, .int 0, .ref a2, .ref a1, .ref a22, .ref a3, .int 0, .int 1, .ref a23, .ref a24, .ref a25, .ref a26, .int 0, .ref a27, .int 0]))])) A) ([.ref a0, .int 1, .int 1] : List Value).toArray s 0 0 A) (F0 m 56 ls [.ref a0, .int 4, .ref a4]) := by
  refine gf (k := 21) hx hb hts inX9 hown hK hP k_816 rfl (by decide) rfl 5 rfl (.int 1) rfl dX9_goes_56 ?_
  refine v_imul hx hb dX9_goes_59 4 (by decide +kernel) ?_
  refine lv_iload hx hb dX9_goes_60 (lv_at hl 1 rfl) ?_
  refine v_iadd hx hb dX9_goes_62 7 (by decide +kernel) ?_
  refine lv_iload hx hb dX9_goes_63 (lv_at hl 0 rfl) ?_
  refine st_i hx hb hK hP hD hS 0 rfl (vin (by decide +kernel)) dX9_goes_65 (L' := [(-1), 0, 0, 0, 1, 0, 0, 0]) rfl (W' := [(a4, .inl (cI, 400000, .inl (tb [(-1), 0, 0, 0, 1, 0, 0, 0]))), (a5, .inl (cI, 100000, .inl (tb [1]))), (a1, .inl (cI, 3, .inl (tb [0, 0, 0]))), (a2, .inl (cI, 3, .inl (tb [0, 0, 0]))), (a3, .inl (cI, 4, .inl (tb [1]))), (a0, .inr (9, [.ref a6, .ref a7, .ref a8, .ref a9, .ref a10, .ref a11, .ref a12, .ref a13, .ref a14, .ref a15, .ref a16, .ref a17, .int 1, .int 0, .int 1, .ref a4, .ref a5, .ref a18, .ref a19, .ref a20, .ref a21, .int 1, .int 0, .ref a2, .ref a1, .ref a22, .ref a3, .int 0, .int 1, .ref a23, .ref a24, .ref a25, .ref a26, .int 0, .ref a27, .int 0]))]) rfl (fun H locs hP hD hS => ?_)
  refine lv_iload_n hx hb dX9_goes_66 rfl (lv_at hl 2 rfl) ?_
  refine lv_iload hx hb dX9_goes_67 (lv_at hl 0 rfl) ?_
  refine t_if_ge hx hb dX9_goes_69 78 (by decide) (by decide +kernel) ?_
  refine lv_iload hx hb dX9_goes_78 (lv_at hl 0 rfl) ?_
  refine v_iadd hx hb dX9_goes_80 1 (by decide +kernel) ?_
  refine lv_istore_n (lv' := [(3, .int 1), (5, .int 0), (4, .int 3), (0, .ref a0), (1, .int 1), (2, .int 1)]) hx hb dX9_goes_81 rfl hl (by decide) rfl (fun ls hl => ?_)
  refine lv_iinc (v := 4) (lv' := [(4, .int 4), (3, .int 1), (5, .int 0), (0, .ref a0), (1, .int 1), (2, .int 1)]) hx hb dX9_goes_82 hl (k := 2) rfl (by decide +kernel) (by decide) rfl (fun ls hl => ?_)
  refine lv_goto (tgt := 22) hx hb dX9_goes_85 (by decide) ?_
  refine lv_iload hx hb dX9_goes_22 (lv_at hl 0 rfl) ?_
  refine lv_iconst (v := 4) hx hb dX9_goes_24 (by decide) ?_
  refine t_icmp_ge hx hb dX9_goes_25 88 (by decide) (by decide +kernel) ?_
  refine lv_aload_n hx hb dX9_goes_88 rfl (lv_at hl 3 rfl) ?_
  refine gf (k := 16) hx hb hts inX9 hown hK hP k_811 rfl (by decide) rfl 5 rfl (.ref a5) rfl dX9_goes_89 ?_
  refine lv_aload_n hx hb dX9_goes_92 rfl (lv_at hl 3 rfl) ?_
  refine gf (k := 21) hx hb hts inX9 hown hK hP k_816 rfl (by decide) rfl 5 rfl (.int 1) rfl dX9_goes_93 ?_
  refine lv_iload_n hx hb dX9_goes_96 rfl (lv_at hl 1 rfl) ?_
  refine st_i hx hb hK hP hD hS 1 rfl (vin (by decide +kernel)) dX9_goes_97 (L' := [1, 1]) rfl (W' := [(a4, .inl (cI, 400000, .inl (tb [(-1), 0, 0, 0, 1, 0, 0, 0]))), (a5, .inl (cI, 100000, .inl (tb [1, 1]))), (a1, .inl (cI, 3, .inl (tb [0, 0, 0]))), (a2, .inl (cI, 3, .inl (tb [0, 0, 0]))), (a3, .inl (cI, 4, .inl (tb [1]))), (a0, .inr (9, [.ref a6, .ref a7, .ref a8, .ref a9, .ref a10, .ref a11, .ref a12, .ref a13, .ref a14, .ref a15, .ref a16, .ref a17, .int 1, .int 0, .int 1, .ref a4, .ref a5, .ref a18, .ref a19, .ref a20, .ref a21, .int 1, .int 0, .ref a2, .ref a1, .ref a22, .ref a3, .int 0, .int 1, .ref a23, .ref a24, .ref a25, .ref a26, .int 0, .ref a27, .int 0]))]) rfl (fun H locs hP hD hS => ?_)
  refine lv_aload_n hx hb dX9_goes_98 rfl (lv_at hl 3 rfl) ?_
  refine lv_dup hx hb dX9_goes_99 rfl ?_
  refine gf (k := 21) hx hb hts inX9 hown hK hP k_816 rfl (by decide) rfl 5 rfl (.int 1) rfl dX9_goes_100 ?_
  refine lv_iconst (v := 1) hx hb dX9_goes_103 (by decide) ?_
  refine v_iadd hx hb dX9_goes_104 2 (by decide +kernel) ?_
  refine pf (k := 21) hx hb hts inX9 tyX9_ok nmX9 hown hK hP hD hS k_816 rfl (by decide) rfl rfl 5 rfl rfl rfl (Nat.le_of_ble_eq_true rfl) dX9_goes_105 (W' := [(a4, .inl (cI, 400000, .inl (tb [(-1), 0, 0, 0, 1, 0, 0, 0]))), (a5, .inl (cI, 100000, .inl (tb [1, 1]))), (a1, .inl (cI, 3, .inl (tb [0, 0, 0]))), (a2, .inl (cI, 3, .inl (tb [0, 0, 0]))), (a3, .inl (cI, 4, .inl (tb [1]))), (a0, .inr (9, [.ref a6, .ref a7, .ref a8, .ref a9, .ref a10, .ref a11, .ref a12, .ref a13, .ref a14, .ref a15, .ref a16, .ref a17, .int 1, .int 0, .int 1, .ref a4, .ref a5, .ref a18, .ref a19, .ref a20, .ref a21, .int 2, .int 0, .ref a2, .ref a1, .ref a22, .ref a3, .int 0, .int 1, .ref a23, .ref a24, .ref a25, .ref a26, .int 0, .ref a27, .int 0]))]) rfl (fun H locs hP hD hS => ?_)
  exact r_v (fun _ => 0) hx hb hr hk hK hP hD hS dX9_goes_108
set_option maxRecDepth 100000 in
set_option maxHeartbeats 4000000 in
theorem c385_X9_goes (l : Launch) (dC : Nat → ClassId) (dI : Nat → Nat → Nat) (cI cJ cII cJJ : ClassId) (sz g a0 a1 a2 a3 a4 a5 a6 a7 a8 a9 a10 a11 a12 a13 a14 a15 a16 a17 a18 a19 a20 a21 a22 a23 a24 a25 a26 a27 : Nat) : Met l yX9_goes (.code yX9_goes cX9_goes 6 none :: TT) ({ frames := 4, cells := 0, slots := 0, locals := 200 }) (PcS dC dI (TY cI cJ cII cJJ) [.ref a0, .int 1, .int 1] [(a0, .inr (9, [.ref a6, .ref a7, .ref a8, .ref a9, .ref a10, .ref a11, .ref a12, .ref a13, .ref a14, .ref a15, .ref a16, .ref a17, .int 1, .int 0, .int 1, .ref a4, .ref a5, .ref a18, .ref a19, .ref a20, .ref a21, .int 1, .int 0, .ref a2, .ref a1, .ref a22, .ref a3, .int 0, .int 1, .ref a23, .ref a24, .ref a25, .ref a26, .int 0, .ref a27, .int 0])), (a1, .inl (cI, 3, .inl (tb [0, 0, 0]))), (a2, .inl (cI, 3, .inl (tb [0, 0, 0]))), (a3, .inl (cI, 4, .inl (tb [1]))), (a4, .inl (cI, 400000, .inl (tb [(-1), 0, 0, 0]))), (a5, .inl (cI, 100000, .inl (tb [1])))] sz 0 g) ((QcV dC dI (TY cI cJ cII cJJ) (fun _ => [(a4, .inl (cI, 400000, .inl (tb [(-1), 0, 0, 0, 1, 0, 0, 0]))), (a5, .inl (cI, 100000, .inl (tb [1, 1]))), (a1, .inl (cI, 3, .inl (tb [0, 0, 0]))), (a2, .inl (cI, 3, .inl (tb [0, 0, 0]))), (a3, .inl (cI, 4, .inl (tb [1]))), (a0, .inr (9, [.ref a6, .ref a7, .ref a8, .ref a9, .ref a10, .ref a11, .ref a12, .ref a13, .ref a14, .ref a15, .ref a16, .ref a17, .int 1, .int 0, .int 1, .ref a4, .ref a5, .ref a18, .ref a19, .ref a20, .ref a21, .int 2, .int 0, .ref a2, .ref a1, .ref a22, .ref a3, .int 0, .int 1, .ref a23, .ref a24, .ref a25, .ref a26, .int 0, .ref a27, .int 0]))])) (va_A [(a0, .inr (9, [.ref a6, .ref a7, .ref a8, .ref a9, .ref a10, .ref a11, .ref a12, .ref a13, .ref a14, .ref a15, .ref a16, .ref a17, .int 1, .int 0, .int 1, .ref a4, .ref a5, .ref a18, .ref a19, .ref a20, .ref a21, .int 1, .int 0, .ref a2, .ref a1, .ref a22, .ref a3, .int 0, .int 1, .ref a23, .ref a24, .ref a25, .ref a26, .int 0, .ref a27, .int 0])), (a1, .inl (cI, 3, .inl (tb [0, 0, 0]))), (a2, .inl (cI, 3, .inl (tb [0, 0, 0]))), (a3, .inl (cI, 4, .inl (tb [1]))), (a4, .inl (cI, 400000, .inl (tb [(-1), 0, 0, 0]))), (a5, .inl (cI, 100000, .inl (tb [1])))] sz)) 0 0 (va_A [(a0, .inr (9, [.ref a6, .ref a7, .ref a8, .ref a9, .ref a10, .ref a11, .ref a12, .ref a13, .ref a14, .ref a15, .ref a16, .ref a17, .int 1, .int 0, .int 1, .ref a4, .ref a5, .ref a18, .ref a19, .ref a20, .ref a21, .int 1, .int 0, .ref a2, .ref a1, .ref a22, .ref a3, .int 0, .int 1, .ref a23, .ref a24, .ref a25, .ref a26, .int 0, .ref a27, .int 0])), (a1, .inl (cI, 3, .inl (tb [0, 0, 0]))), (a2, .inl (cI, 3, .inl (tb [0, 0, 0]))), (a3, .inl (cI, 4, .inl (tb [1]))), (a4, .inl (cI, 400000, .inl (tb [(-1), 0, 0, 0]))), (a5, .inl (cI, 100000, .inl (tb [1])))] sz) := by
  refine SM.of (y := yX9_goes) (maxL := 6) (av := [.ref a0, .int 1, .int 1]) (QcV dC dI (TY cI cJ cII cJJ) (fun _ => [(a4, .inl (cI, 400000, .inl (tb [(-1), 0, 0, 0, 1, 0, 0, 0]))), (a5, .inl (cI, 100000, .inl (tb [1, 1]))), (a1, .inl (cI, 3, .inl (tb [0, 0, 0]))), (a2, .inl (cI, 3, .inl (tb [0, 0, 0]))), (a3, .inl (cI, 4, .inl (tb [1]))), (a0, .inr (9, [.ref a6, .ref a7, .ref a8, .ref a9, .ref a10, .ref a11, .ref a12, .ref a13, .ref a14, .ref a15, .ref a16, .ref a17, .int 1, .int 0, .int 1, .ref a4, .ref a5, .ref a18, .ref a19, .ref a20, .ref a21, .int 2, .int 0, .ref a2, .ref a1, .ref a22, .ref a3, .int 0, .int 1, .ref a23, .ref a24, .ref a25, .ref a26, .int 0, .ref a27, .int 0]))])) (by decide +kernel) (Nat.le_of_ble_eq_true rfl) (fun p e s m below meth c A ls hx hb hr hml hown hts hk hnm hA hK hP hD hS hX hl => ?_)
  have hown : s.vm.findClass RX9 = some m.cls := hown
  have hl : lv_has ls 6 [(0, .ref a0), (1, .int 1), (2, .int 1)] := hl
  refine lv_iload_n hx hb dX9_goes_0 rfl (lv_at hl 1 rfl) ?_
  refine lv_aload_n hx hb dX9_goes_1 rfl (lv_at hl 0 rfl) ?_
  refine gf (k := 28) hx hb hts inX9 hown hK hP k_823 rfl (by decide) rfl 0 rfl (.int 1) rfl dX9_goes_2 ?_
  refine f_icmp_ne hx hb dX9_goes_5 109 (by decide) (by decide +kernel) ?_
  refine lv_aload_n hx hb dX9_goes_8 rfl (lv_at hl 0 rfl) ?_
  refine lv_iload_n hx hb dX9_goes_9 rfl (lv_at hl 2 rfl) ?_
  refine kV_i (q0 := 0) ⟨hx, hb, hml, hown, hts⟩ hK hP hD hS hA hX cv_RX9_149 [0, 1, 2, 3] [4, 5] (wr := [(a4, .inl (cI, 400000, .inl (tb [(-1), 0, 0, 0]))), (a5, .inl (cI, 100000, .inl (tb [1])))]) rfl rfl rfl rfl (by decide) (c386_X9_makes l dC dI cI cJ cII cJJ s.heap.size 0 a0 a1 a2 a3 a6 a7 a8 a9 a10 a11 a12 a13 a14 a15 a16 a17 a4 a5 a18 a19 a20 a21 a22 a23 a24 a25 a26 a27) ⟨by decide +kernel, by decide +kernel⟩ rfl rfl (Or.inl rfl) (rest := []) rfl rfl rfl hl.1 rfl (Nat.le_of_ble_eq_true rfl) dX9_goes_10 ⟨Nat.le_of_ble_eq_true rfl, Nat.le_of_ble_eq_true rfl⟩ (W' := [(a4, .inl (cI, 400000, .inl (tb [(-1), 0, 0, 0]))), (a5, .inl (cI, 100000, .inl (tb [1]))), (a1, .inl (cI, 3, .inl (tb [0, 0, 0]))), (a2, .inl (cI, 3, .inl (tb [0, 0, 0]))), (a3, .inl (cI, 4, .inl (tb [1]))), (a0, .inr (9, [.ref a6, .ref a7, .ref a8, .ref a9, .ref a10, .ref a11, .ref a12, .ref a13, .ref a14, .ref a15, .ref a16, .ref a17, .int 1, .int 0, .int 1, .ref a4, .ref a5, .ref a18, .ref a19, .ref a20, .ref a21, .int 1, .int 0, .ref a2, .ref a1, .ref a22, .ref a3, .int 0, .int 1, .ref a23, .ref a24, .ref a25, .ref a26, .int 0, .ref a27, .int 0]))]) rfl (fun H locs hP hD hS => ?_)
  refine t_if_ne hx hb dX9_goes_13 17 (by decide) (by decide +kernel) ?_
  refine lv_iconst (v := 0) hx hb dX9_goes_17 (by decide) ?_
  refine lv_istore_n (lv' := [(3, .int 0), (0, .ref a0), (1, .int 1), (2, .int 1)]) hx hb dX9_goes_18 rfl hl (by decide) rfl (fun ls hl => ?_)
  refine lv_iconst (v := 0) hx hb dX9_goes_19 (by decide) ?_
  refine lv_istore (lv' := [(4, .int 0), (3, .int 0), (0, .ref a0), (1, .int 1), (2, .int 1)]) hx hb dX9_goes_20 hl (by decide) rfl (fun ls hl => ?_)
  refine lv_iload hx hb dX9_goes_22 (lv_at hl 0 rfl) ?_
  refine lv_iconst (v := 4) hx hb dX9_goes_24 (by decide) ?_
  refine f_icmp_ge hx hb dX9_goes_25 88 (by decide) (by decide +kernel) ?_
  refine lv_iload hx hb dX9_goes_28 (lv_at hl 0 rfl) ?_
  refine lv_aload_n hx hb dX9_goes_30 rfl (lv_at hl 2 rfl) ?_
  refine gf (k := 12) hx hb hts inX9 hown hK hP k_807 rfl (by decide) rfl 5 rfl (.int 1) rfl dX9_goes_31 ?_
  refine f_icmp_ge hx hb dX9_goes_34 47 (by decide) (by decide +kernel) ?_
  refine lv_aload_n hx hb dX9_goes_37 rfl (lv_at hl 2 rfl) ?_
  refine gf (k := 26) hx hb hts inX9 hown hK hP k_821 rfl (by decide) rfl 5 rfl (.ref a3) rfl dX9_goes_38 ?_
  refine lv_iload hx hb dX9_goes_41 (lv_at hl 0 rfl) ?_
  refine ld_i hx hb hK hP 4 rfl (vin (by decide +kernel)) dX9_goes_43 1 rfl ?_
  refine lv_goto (tgt := 48) hx hb dX9_goes_44 (by decide) ?_
  refine lv_istore (lv' := [(5, .int 1), (4, .int 0), (3, .int 0), (0, .ref a0), (1, .int 1), (2, .int 1)]) hx hb dX9_goes_48 hl (by decide) rfl (fun ls hl => ?_)
  refine lv_aload_n hx hb dX9_goes_50 rfl (lv_at hl 3 rfl) ?_
  refine gf (k := 15) hx hb hts inX9 hown hK hP k_810 rfl (by decide) rfl 5 rfl (.ref a4) rfl dX9_goes_51 ?_
  refine lv_iconst (v := 4) hx hb dX9_goes_54 (by decide) ?_
  refine lv_aload_n hx hb dX9_goes_55 rfl (lv_at hl 3 rfl) ?_
  refine gf (k := 21) hx hb hts inX9 hown hK hP k_816 rfl (by decide) rfl 5 rfl (.int 1) rfl dX9_goes_56 ?_
  refine v_imul hx hb dX9_goes_59 4 (by decide +kernel) ?_
  refine lv_iload hx hb dX9_goes_60 (lv_at hl 1 rfl) ?_
  refine v_iadd hx hb dX9_goes_62 4 (by decide +kernel) ?_
  refine lv_iload hx hb dX9_goes_63 (lv_at hl 0 rfl) ?_
  refine st_i hx hb hK hP hD hS 0 rfl (vin (by decide +kernel)) dX9_goes_65 (L' := [(-1), 0, 0, 0, 1]) rfl (W' := [(a4, .inl (cI, 400000, .inl (tb [(-1), 0, 0, 0, 1]))), (a5, .inl (cI, 100000, .inl (tb [1]))), (a1, .inl (cI, 3, .inl (tb [0, 0, 0]))), (a2, .inl (cI, 3, .inl (tb [0, 0, 0]))), (a3, .inl (cI, 4, .inl (tb [1]))), (a0, .inr (9, [.ref a6, .ref a7, .ref a8, .ref a9, .ref a10, .ref a11, .ref a12, .ref a13, .ref a14, .ref a15, .ref a16, .ref a17, .int 1, .int 0, .int 1, .ref a4, .ref a5, .ref a18, .ref a19, .ref a20, .ref a21, .int 1, .int 0, .ref a2, .ref a1, .ref a22, .ref a3, .int 0, .int 1, .ref a23, .ref a24, .ref a25, .ref a26, .int 0, .ref a27, .int 0]))]) rfl (fun H locs hP hD hS => ?_)
  refine lv_iload_n hx hb dX9_goes_66 rfl (lv_at hl 2 rfl) ?_
  refine lv_iload hx hb dX9_goes_67 (lv_at hl 0 rfl) ?_
  refine t_if_ge hx hb dX9_goes_69 78 (by decide) (by decide +kernel) ?_
  refine lv_iload hx hb dX9_goes_78 (lv_at hl 0 rfl) ?_
  refine v_iadd hx hb dX9_goes_80 1 (by decide +kernel) ?_
  refine lv_istore_n (lv' := [(3, .int 1), (5, .int 1), (4, .int 0), (0, .ref a0), (1, .int 1), (2, .int 1)]) hx hb dX9_goes_81 rfl hl (by decide) rfl (fun ls hl => ?_)
  refine lv_iinc (v := 1) (lv' := [(4, .int 1), (3, .int 1), (5, .int 1), (0, .ref a0), (1, .int 1), (2, .int 1)]) hx hb dX9_goes_82 hl (k := 2) rfl (by decide +kernel) (by decide) rfl (fun ls hl => ?_)
  refine lv_goto (tgt := 22) hx hb dX9_goes_85 (by decide) ?_
  refine lv_iload hx hb dX9_goes_22 (lv_at hl 0 rfl) ?_
  refine lv_iconst (v := 4) hx hb dX9_goes_24 (by decide) ?_
  refine f_icmp_ge hx hb dX9_goes_25 88 (by decide) (by decide +kernel) ?_
  refine lv_iload hx hb dX9_goes_28 (lv_at hl 0 rfl) ?_
  refine lv_aload_n hx hb dX9_goes_30 rfl (lv_at hl 3 rfl) ?_
  refine gf (k := 12) hx hb hts inX9 hown hK hP k_807 rfl (by decide) rfl 5 rfl (.int 1) rfl dX9_goes_31 ?_
  refine t_icmp_ge hx hb dX9_goes_34 47 (by decide) (by decide +kernel) ?_
  refine lv_iconst (v := 0) hx hb dX9_goes_47 (by decide) ?_
  refine lv_istore (lv' := [(5, .int 0), (4, .int 1), (3, .int 1), (0, .ref a0), (1, .int 1), (2, .int 1)]) hx hb dX9_goes_48 hl (by decide) rfl (fun ls hl => ?_)
  refine lv_aload_n hx hb dX9_goes_50 rfl (lv_at hl 3 rfl) ?_
  refine gf (k := 15) hx hb hts inX9 hown hK hP k_810 rfl (by decide) rfl 5 rfl (.ref a4) rfl dX9_goes_51 ?_
  refine lv_iconst (v := 4) hx hb dX9_goes_54 (by decide) ?_
  refine lv_aload_n hx hb dX9_goes_55 rfl (lv_at hl 3 rfl) ?_
  refine gf (k := 21) hx hb hts inX9 hown hK hP k_816 rfl (by decide) rfl 5 rfl (.int 1) rfl dX9_goes_56 ?_
  refine v_imul hx hb dX9_goes_59 4 (by decide +kernel) ?_
  refine lv_iload hx hb dX9_goes_60 (lv_at hl 1 rfl) ?_
  refine v_iadd hx hb dX9_goes_62 5 (by decide +kernel) ?_
  refine lv_iload hx hb dX9_goes_63 (lv_at hl 0 rfl) ?_
  refine st_i hx hb hK hP hD hS 0 rfl (vin (by decide +kernel)) dX9_goes_65 (L' := [(-1), 0, 0, 0, 1, 0]) rfl (W' := [(a4, .inl (cI, 400000, .inl (tb [(-1), 0, 0, 0, 1, 0]))), (a5, .inl (cI, 100000, .inl (tb [1]))), (a1, .inl (cI, 3, .inl (tb [0, 0, 0]))), (a2, .inl (cI, 3, .inl (tb [0, 0, 0]))), (a3, .inl (cI, 4, .inl (tb [1]))), (a0, .inr (9, [.ref a6, .ref a7, .ref a8, .ref a9, .ref a10, .ref a11, .ref a12, .ref a13, .ref a14, .ref a15, .ref a16, .ref a17, .int 1, .int 0, .int 1, .ref a4, .ref a5, .ref a18, .ref a19, .ref a20, .ref a21, .int 1, .int 0, .ref a2, .ref a1, .ref a22, .ref a3, .int 0, .int 1, .ref a23, .ref a24, .ref a25, .ref a26, .int 0, .ref a27, .int 0]))]) rfl (fun H locs hP hD hS => ?_)
  refine lv_iload_n hx hb dX9_goes_66 rfl (lv_at hl 2 rfl) ?_
  refine lv_iload hx hb dX9_goes_67 (lv_at hl 0 rfl) ?_
  refine t_if_ge hx hb dX9_goes_69 78 (by decide) (by decide +kernel) ?_
  refine lv_iload hx hb dX9_goes_78 (lv_at hl 0 rfl) ?_
  refine v_iadd hx hb dX9_goes_80 1 (by decide +kernel) ?_
  refine lv_istore_n (lv' := [(3, .int 1), (5, .int 0), (4, .int 1), (0, .ref a0), (1, .int 1), (2, .int 1)]) hx hb dX9_goes_81 rfl hl (by decide) rfl (fun ls hl => ?_)
  refine lv_iinc (v := 2) (lv' := [(4, .int 2), (3, .int 1), (5, .int 0), (0, .ref a0), (1, .int 1), (2, .int 1)]) hx hb dX9_goes_82 hl (k := 2) rfl (by decide +kernel) (by decide) rfl (fun ls hl => ?_)
  refine lv_goto (tgt := 22) hx hb dX9_goes_85 (by decide) ?_
  refine lv_iload hx hb dX9_goes_22 (lv_at hl 0 rfl) ?_
  refine lv_iconst (v := 4) hx hb dX9_goes_24 (by decide) ?_
  refine f_icmp_ge hx hb dX9_goes_25 88 (by decide) (by decide +kernel) ?_
  refine lv_iload hx hb dX9_goes_28 (lv_at hl 0 rfl) ?_
  refine lv_aload_n hx hb dX9_goes_30 rfl (lv_at hl 3 rfl) ?_
  refine gf (k := 12) hx hb hts inX9 hown hK hP k_807 rfl (by decide) rfl 5 rfl (.int 1) rfl dX9_goes_31 ?_
  refine t_icmp_ge hx hb dX9_goes_34 47 (by decide) (by decide +kernel) ?_
  refine lv_iconst (v := 0) hx hb dX9_goes_47 (by decide) ?_
  refine lv_istore (lv' := [(5, .int 0), (4, .int 2), (3, .int 1), (0, .ref a0), (1, .int 1), (2, .int 1)]) hx hb dX9_goes_48 hl (by decide) rfl (fun ls hl => ?_)
  refine lv_aload_n hx hb dX9_goes_50 rfl (lv_at hl 3 rfl) ?_
  refine gf (k := 15) hx hb hts inX9 hown hK hP k_810 rfl (by decide) rfl 5 rfl (.ref a4) rfl dX9_goes_51 ?_
  refine lv_iconst (v := 4) hx hb dX9_goes_54 (by decide) ?_
  refine lv_aload_n hx hb dX9_goes_55 rfl (lv_at hl 3 rfl) ?_
  refine gf (k := 21) hx hb hts inX9 hown hK hP k_816 rfl (by decide) rfl 5 rfl (.int 1) rfl dX9_goes_56 ?_
  refine v_imul hx hb dX9_goes_59 4 (by decide +kernel) ?_
  refine lv_iload hx hb dX9_goes_60 (lv_at hl 1 rfl) ?_
  refine v_iadd hx hb dX9_goes_62 6 (by decide +kernel) ?_
  refine lv_iload hx hb dX9_goes_63 (lv_at hl 0 rfl) ?_
  refine st_i hx hb hK hP hD hS 0 rfl (vin (by decide +kernel)) dX9_goes_65 (L' := [(-1), 0, 0, 0, 1, 0, 0]) rfl (W' := [(a4, .inl (cI, 400000, .inl (tb [(-1), 0, 0, 0, 1, 0, 0]))), (a5, .inl (cI, 100000, .inl (tb [1]))), (a1, .inl (cI, 3, .inl (tb [0, 0, 0]))), (a2, .inl (cI, 3, .inl (tb [0, 0, 0]))), (a3, .inl (cI, 4, .inl (tb [1]))), (a0, .inr (9, [.ref a6, .ref a7, .ref a8, .ref a9, .ref a10, .ref a11, .ref a12, .ref a13, .ref a14, .ref a15, .ref a16, .ref a17, .int 1, .int 0, .int 1, .ref a4, .ref a5, .ref a18, .ref a19, .ref a20, .ref a21, .int 1, .int 0, .ref a2, .ref a1, .ref a22, .ref a3, .int 0, .int 1, .ref a23, .ref a24, .ref a25, .ref a26, .int 0, .ref a27, .int 0]))]) rfl (fun H locs hP hD hS => ?_)
  refine lv_iload_n hx hb dX9_goes_66 rfl (lv_at hl 2 rfl) ?_
  refine lv_iload hx hb dX9_goes_67 (lv_at hl 0 rfl) ?_
  refine t_if_ge hx hb dX9_goes_69 78 (by decide) (by decide +kernel) ?_
  refine lv_iload hx hb dX9_goes_78 (lv_at hl 0 rfl) ?_
  refine v_iadd hx hb dX9_goes_80 1 (by decide +kernel) ?_
  refine lv_istore_n (lv' := [(3, .int 1), (5, .int 0), (4, .int 2), (0, .ref a0), (1, .int 1), (2, .int 1)]) hx hb dX9_goes_81 rfl hl (by decide) rfl (fun ls hl => ?_)
  refine lv_iinc (v := 3) (lv' := [(4, .int 3), (3, .int 1), (5, .int 0), (0, .ref a0), (1, .int 1), (2, .int 1)]) hx hb dX9_goes_82 hl (k := 2) rfl (by decide +kernel) (by decide) rfl (fun ls hl => ?_)
  refine lv_goto (tgt := 22) hx hb dX9_goes_85 (by decide) ?_
  refine lv_iload hx hb dX9_goes_22 (lv_at hl 0 rfl) ?_
  refine lv_iconst (v := 4) hx hb dX9_goes_24 (by decide) ?_
  refine f_icmp_ge hx hb dX9_goes_25 88 (by decide) (by decide +kernel) ?_
  refine lv_iload hx hb dX9_goes_28 (lv_at hl 0 rfl) ?_
  refine lv_aload_n hx hb dX9_goes_30 rfl (lv_at hl 3 rfl) ?_
  refine gf (k := 12) hx hb hts inX9 hown hK hP k_807 rfl (by decide) rfl 5 rfl (.int 1) rfl dX9_goes_31 ?_
  refine t_icmp_ge hx hb dX9_goes_34 47 (by decide) (by decide +kernel) ?_
  refine lv_iconst (v := 0) hx hb dX9_goes_47 (by decide) ?_
  refine lv_istore (lv' := [(5, .int 0), (4, .int 3), (3, .int 1), (0, .ref a0), (1, .int 1), (2, .int 1)]) hx hb dX9_goes_48 hl (by decide) rfl (fun ls hl => ?_)
  refine lv_aload_n hx hb dX9_goes_50 rfl (lv_at hl 3 rfl) ?_
  refine gf (k := 15) hx hb hts inX9 hown hK hP k_810 rfl (by decide) rfl 5 rfl (.ref a4) rfl dX9_goes_51 ?_
  refine lv_iconst (v := 4) hx hb dX9_goes_54 (by decide) ?_
  refine lv_aload_n hx hb dX9_goes_55 rfl (lv_at hl 3 rfl) ?_
  exact c385_X9_goes_s1 l dC dI cI cJ cII cJJ g a0 a1 a2 a3 a4 a5 a6 a7 a8 a9 a10 a11 a12 a13 a14 a15 a16 a17 a18 a19 a20 a21 a22 a23 a24 a25 a26 a27 hx hb hr hml hown hts hk hA hK hP hD hS hX hl
set_option maxRecDepth 100000 in
set_option maxHeartbeats 4000000 in
theorem c378_X9_goes (l : Launch) (dC : Nat → ClassId) (dI : Nat → Nat → Nat) (cI cJ cII cJJ : ClassId) (sz g a0 a1 a2 a3 a4 a5 a6 a7 a8 a9 a10 a11 a12 a13 a14 a15 a16 a17 a18 a19 a20 a21 a22 a23 a24 a25 a26 a27 : Nat) : Met l yX9_goes (.code yX9_goes cX9_goes 6 none :: TT) ({ frames := 5, cells := 0, slots := 0, locals := 260 }) (PcS dC dI (TY cI cJ cII cJJ) [.ref a0, .int 0, .int 1] [(a0, .inr (9, [.ref a7, .ref a8, .ref a9, .ref a10, .ref a11, .ref a12, .ref a13, .ref a14, .ref a15, .ref a16, .ref a17, .ref a18, .int 1, .int 0, .int 1, .ref a5, .ref a6, .ref a19, .ref a20, .ref a21, .ref a22, .int 0, .int 0, .ref a4, .ref a3, .ref a1, .ref a2, .int 0, .int 1, .ref a23, .ref a24, .ref a25, .ref a26, .int 0, .ref a27, .int 0])), (a1, .inl (cI, 4, .inl (tb [0]))), (a2, .inl (cI, 4, .inl (tb []))), (a3, .inl (cI, 3, .inl (tb [0, 0, 0]))), (a4, .inl (cI, 3, .inl (tb [0, 0, 0]))), (a5, .inl (cI, 400000, .inl (tb []))), (a6, .inl (cI, 100000, .inl (tb [])))] sz 0 g) ((QcV dC dI (TY cI cJ cII cJJ) (fun _ => [(a1, .inl (cI, 4, .inl (tb [0]))), (a5, .inl (cI, 400000, .inl (tb [(-1), 0, 0, 0, 1, 0, 0, 0]))), (a6, .inl (cI, 100000, .inl (tb [1, 1]))), (a3, .inl (cI, 3, .inl (tb [0, 0, 0]))), (a4, .inl (cI, 3, .inl (tb [0, 0, 0]))), (a2, .inl (cI, 4, .inl (tb [1]))), (a0, .inr (9, [.ref a7, .ref a8, .ref a9, .ref a10, .ref a11, .ref a12, .ref a13, .ref a14, .ref a15, .ref a16, .ref a17, .ref a18, .int 1, .int 0, .int 1, .ref a5, .ref a6, .ref a19, .ref a20, .ref a21, .ref a22, .int 2, .int 0, .ref a4, .ref a3, .ref a1, .ref a2, .int 0, .int 1, .ref a23, .ref a24, .ref a25, .ref a26, .int 0, .ref a27, .int 0]))])) (va_A [(a0, .inr (9, [.ref a7, .ref a8, .ref a9, .ref a10, .ref a11, .ref a12, .ref a13, .ref a14, .ref a15, .ref a16, .ref a17, .ref a18, .int 1, .int 0, .int 1, .ref a5, .ref a6, .ref a19, .ref a20, .ref a21, .ref a22, .int 0, .int 0, .ref a4, .ref a3, .ref a1, .ref a2, .int 0, .int 1, .ref a23, .ref a24, .ref a25, .ref a26, .int 0, .ref a27, .int 0])), (a1, .inl (cI, 4, .inl (tb [0]))), (a2, .inl (cI, 4, .inl (tb []))), (a3, .inl (cI, 3, .inl (tb [0, 0, 0]))), (a4, .inl (cI, 3, .inl (tb [0, 0, 0]))), (a5, .inl (cI, 400000, .inl (tb []))), (a6, .inl (cI, 100000, .inl (tb [])))] sz)) 0 0 (va_A [(a0, .inr (9, [.ref a7, .ref a8, .ref a9, .ref a10, .ref a11, .ref a12, .ref a13, .ref a14, .ref a15, .ref a16, .ref a17, .ref a18, .int 1, .int 0, .int 1, .ref a5, .ref a6, .ref a19, .ref a20, .ref a21, .ref a22, .int 0, .int 0, .ref a4, .ref a3, .ref a1, .ref a2, .int 0, .int 1, .ref a23, .ref a24, .ref a25, .ref a26, .int 0, .ref a27, .int 0])), (a1, .inl (cI, 4, .inl (tb [0]))), (a2, .inl (cI, 4, .inl (tb []))), (a3, .inl (cI, 3, .inl (tb [0, 0, 0]))), (a4, .inl (cI, 3, .inl (tb [0, 0, 0]))), (a5, .inl (cI, 400000, .inl (tb []))), (a6, .inl (cI, 100000, .inl (tb [])))] sz) := by
  refine SM.of (y := yX9_goes) (maxL := 6) (av := [.ref a0, .int 0, .int 1]) (QcV dC dI (TY cI cJ cII cJJ) (fun _ => [(a1, .inl (cI, 4, .inl (tb [0]))), (a5, .inl (cI, 400000, .inl (tb [(-1), 0, 0, 0, 1, 0, 0, 0]))), (a6, .inl (cI, 100000, .inl (tb [1, 1]))), (a3, .inl (cI, 3, .inl (tb [0, 0, 0]))), (a4, .inl (cI, 3, .inl (tb [0, 0, 0]))), (a2, .inl (cI, 4, .inl (tb [1]))), (a0, .inr (9, [.ref a7, .ref a8, .ref a9, .ref a10, .ref a11, .ref a12, .ref a13, .ref a14, .ref a15, .ref a16, .ref a17, .ref a18, .int 1, .int 0, .int 1, .ref a5, .ref a6, .ref a19, .ref a20, .ref a21, .ref a22, .int 2, .int 0, .ref a4, .ref a3, .ref a1, .ref a2, .int 0, .int 1, .ref a23, .ref a24, .ref a25, .ref a26, .int 0, .ref a27, .int 0]))])) (by decide +kernel) (Nat.le_of_ble_eq_true rfl) (fun p e s m below meth c A ls hx hb hr hml hown hts hk hnm hA hK hP hD hS hX hl => ?_)
  have hown : s.vm.findClass RX9 = some m.cls := hown
  have hl : lv_has ls 6 [(0, .ref a0), (1, .int 0), (2, .int 1)] := hl
  refine lv_iload_n hx hb dX9_goes_0 rfl (lv_at hl 1 rfl) ?_
  refine lv_aload_n hx hb dX9_goes_1 rfl (lv_at hl 0 rfl) ?_
  refine gf (k := 28) hx hb hts inX9 hown hK hP k_823 rfl (by decide) rfl 0 rfl (.int 1) rfl dX9_goes_2 ?_
  refine t_icmp_ne hx hb dX9_goes_5 109 (by decide) (by decide +kernel) ?_
  refine lv_iload_n hx hb dX9_goes_109 rfl (lv_at hl 2 rfl) ?_
  refine v_ineg hx hb dX9_goes_110 (-1) (by decide +kernel) ?_
  refine lv_istore_n (lv' := [(3, .int (-1)), (0, .ref a0), (1, .int 0), (2, .int 1)]) hx hb dX9_goes_111 rfl hl (by decide) rfl (fun ls hl => ?_)
  refine lv_iload_n hx hb dX9_goes_112 rfl (lv_at hl 0 rfl) ?_
  refine lv_iload_n hx hb dX9_goes_113 rfl (lv_at hl 3 rfl) ?_
  refine f_icmp_gt hx hb dX9_goes_114 143 (by decide) (by decide +kernel) ?_
  refine lv_aload_n hx hb dX9_goes_117 rfl (lv_at hl 1 rfl) ?_
  refine gf (k := 26) hx hb hts inX9 hown hK hP k_821 rfl (by decide) rfl 0 rfl (.ref a2) rfl dX9_goes_118 ?_
  refine lv_aload_n hx hb dX9_goes_121 rfl (lv_at hl 1 rfl) ?_
  refine gf (k := 25) hx hb hts inX9 hown hK hP k_820 rfl (by decide) rfl 0 rfl (.ref a1) rfl dX9_goes_122 ?_
  refine lv_iload_n hx hb dX9_goes_125 rfl (lv_at hl 2 rfl) ?_
  refine ld_i hx hb hK hP 1 rfl (vin (by decide +kernel)) dX9_goes_126 0 rfl ?_
  refine lv_iload_n hx hb dX9_goes_127 rfl (lv_at hl 0 rfl) ?_
  refine st_i hx hb hK hP hD hS 2 rfl (vin (by decide +kernel)) dX9_goes_128 (L' := [(-1)]) rfl (W' := [(a0, .inr (9, [.ref a7, .ref a8, .ref a9, .ref a10, .ref a11, .ref a12, .ref a13, .ref a14, .ref a15, .ref a16, .ref a17, .ref a18, .int 1, .int 0, .int 1, .ref a5, .ref a6, .ref a19, .ref a20, .ref a21, .ref a22, .int 0, .int 0, .ref a4, .ref a3, .ref a1, .ref a2, .int 0, .int 1, .ref a23, .ref a24, .ref a25, .ref a26, .int 0, .ref a27, .int 0])), (a1, .inl (cI, 4, .inl (tb [0]))), (a2, .inl (cI, 4, .inl (tb [(-1)]))), (a3, .inl (cI, 3, .inl (tb [0, 0, 0]))), (a4, .inl (cI, 3, .inl (tb [0, 0, 0]))), (a5, .inl (cI, 400000, .inl (tb []))), (a6, .inl (cI, 100000, .inl (tb [])))]) rfl (fun H locs hP hD hS => ?_)
  refine lv_aload_n hx hb dX9_goes_129 rfl (lv_at hl 1 rfl) ?_
  refine lv_iload_n hx hb dX9_goes_130 rfl (lv_at hl 2 rfl) ?_
  refine lv_iconst (v := 1) hx hb dX9_goes_131 (by decide) ?_
  refine v_iadd hx hb dX9_goes_132 1 (by decide +kernel) ?_
  refine lv_iload_n hx hb dX9_goes_133 rfl (lv_at hl 3 rfl) ?_
  refine kV_v (q0 := 0) ⟨hx, hb, hml, hown, hts⟩ hK hP hD hS hA hX cv_RX9_156 [0, 3, 4, 2, 5, 6] [1] (wr := [(a1, .inl (cI, 4, .inl (tb [0])))]) rfl rfl rfl rfl (by decide) (c379_X9_goes l dC dI cI cJ cII cJJ H.size 0 a0 a3 a4 a2 a5 a6 a7 a8 a9 a10 a11 a12 a13 a14 a15 a16 a17 a18 a19 a20 a21 a22 a1 a23 a24 a25 a26 a27) ⟨by decide +kernel, by decide +kernel⟩ rfl rfl (Or.inl rfl) (rest := []) rfl rfl rfl hl.1 rfl (Nat.le_of_ble_eq_true rfl) dX9_goes_134 ⟨Nat.le_of_ble_eq_true rfl, Nat.le_of_ble_eq_true rfl⟩ (fun _ => rfl) (W' := [(a1, .inl (cI, 4, .inl (tb [0]))), (a5, .inl (cI, 400000, .inl (tb [(-1), 0, 0, 0]))), (a6, .inl (cI, 100000, .inl (tb [1]))), (a3, .inl (cI, 3, .inl (tb [0, 0, 0]))), (a4, .inl (cI, 3, .inl (tb [0, 0, 0]))), (a2, .inl (cI, 4, .inl (tb [(-1)]))), (a0, .inr (9, [.ref a7, .ref a8, .ref a9, .ref a10, .ref a11, .ref a12, .ref a13, .ref a14, .ref a15, .ref a16, .ref a17, .ref a18, .int 1, .int 0, .int 1, .ref a5, .ref a6, .ref a19, .ref a20, .ref a21, .ref a22, .int 1, .int 0, .ref a4, .ref a3, .ref a1, .ref a2, .int 0, .int 1, .ref a23, .ref a24, .ref a25, .ref a26, .int 0, .ref a27, .int 0]))]) rfl (fun H locs hP hD hS => ?_)
  refine lv_iinc (v := 0) (lv' := [(3, .int 0), (0, .ref a0), (1, .int 0), (2, .int 1)]) hx hb dX9_goes_137 hl (k := 0) rfl (by decide +kernel) (by decide) rfl (fun ls hl => ?_)
  refine lv_goto (tgt := 112) hx hb dX9_goes_140 (by decide) ?_
  refine lv_iload_n hx hb dX9_goes_112 rfl (lv_at hl 0 rfl) ?_
  refine lv_iload_n hx hb dX9_goes_113 rfl (lv_at hl 3 rfl) ?_
  refine f_icmp_gt hx hb dX9_goes_114 143 (by decide) (by decide +kernel) ?_
  refine lv_aload_n hx hb dX9_goes_117 rfl (lv_at hl 1 rfl) ?_
  refine gf (k := 26) hx hb hts inX9 hown hK hP k_821 rfl (by decide) rfl 6 rfl (.ref a2) rfl dX9_goes_118 ?_
  refine lv_aload_n hx hb dX9_goes_121 rfl (lv_at hl 1 rfl) ?_
  refine gf (k := 25) hx hb hts inX9 hown hK hP k_820 rfl (by decide) rfl 6 rfl (.ref a1) rfl dX9_goes_122 ?_
  refine lv_iload_n hx hb dX9_goes_125 rfl (lv_at hl 2 rfl) ?_
  refine ld_i hx hb hK hP 0 rfl (vin (by decide +kernel)) dX9_goes_126 0 rfl ?_
  refine lv_iload_n hx hb dX9_goes_127 rfl (lv_at hl 0 rfl) ?_
  refine st_i hx hb hK hP hD hS 5 rfl (vin (by decide +kernel)) dX9_goes_128 (L' := [0]) rfl (W' := [(a1, .inl (cI, 4, .inl (tb [0]))), (a5, .inl (cI, 400000, .inl (tb [(-1), 0, 0, 0]))), (a6, .inl (cI, 100000, .inl (tb [1]))), (a3, .inl (cI, 3, .inl (tb [0, 0, 0]))), (a4, .inl (cI, 3, .inl (tb [0, 0, 0]))), (a2, .inl (cI, 4, .inl (tb [0]))), (a0, .inr (9, [.ref a7, .ref a8, .ref a9, .ref a10, .ref a11, .ref a12, .ref a13, .ref a14, .ref a15, .ref a16, .ref a17, .ref a18, .int 1, .int 0, .int 1, .ref a5, .ref a6, .ref a19, .ref a20, .ref a21, .ref a22, .int 1, .int 0, .ref a4, .ref a3, .ref a1, .ref a2, .int 0, .int 1, .ref a23, .ref a24, .ref a25, .ref a26, .int 0, .ref a27, .int 0]))]) rfl (fun H locs hP hD hS => ?_)
  refine lv_aload_n hx hb dX9_goes_129 rfl (lv_at hl 1 rfl) ?_
  refine lv_iload_n hx hb dX9_goes_130 rfl (lv_at hl 2 rfl) ?_
  refine lv_iconst (v := 1) hx hb dX9_goes_131 (by decide) ?_
  refine v_iadd hx hb dX9_goes_132 1 (by decide +kernel) ?_
  refine lv_iload_n hx hb dX9_goes_133 rfl (lv_at hl 3 rfl) ?_
  refine kV_v (q0 := 0) ⟨hx, hb, hml, hown, hts⟩ hK hP hD hS hA hX cv_RX9_156 [6, 3, 4, 5] [0, 1, 2] (wr := [(a1, .inl (cI, 4, .inl (tb [0]))), (a5, .inl (cI, 400000, .inl (tb [(-1), 0, 0, 0]))), (a6, .inl (cI, 100000, .inl (tb [1])))]) rfl rfl rfl rfl (by decide) (c382_X9_goes l dC dI cI cJ cII cJJ H.size 0 a0 a3 a4 a2 a7 a8 a9 a10 a11 a12 a13 a14 a15 a16 a17 a18 a5 a6 a19 a20 a21 a22 a1 a23 a24 a25 a26 a27) ⟨by decide +kernel, by decide +kernel⟩ rfl rfl (Or.inl rfl) (rest := []) rfl rfl rfl hl.1 rfl (Nat.le_of_ble_eq_true rfl) dX9_goes_134 ⟨Nat.le_of_ble_eq_true rfl, Nat.le_of_ble_eq_true rfl⟩ (fun _ => rfl) (W' := [(a1, .inl (cI, 4, .inl (tb [0]))), (a5, .inl (cI, 400000, .inl (tb [(-1), 0, 0, 0]))), (a6, .inl (cI, 100000, .inl (tb [1]))), (a3, .inl (cI, 3, .inl (tb [0, 0, 0]))), (a4, .inl (cI, 3, .inl (tb [0, 0, 0]))), (a2, .inl (cI, 4, .inl (tb [0]))), (a0, .inr (9, [.ref a7, .ref a8, .ref a9, .ref a10, .ref a11, .ref a12, .ref a13, .ref a14, .ref a15, .ref a16, .ref a17, .ref a18, .int 1, .int 0, .int 1, .ref a5, .ref a6, .ref a19, .ref a20, .ref a21, .ref a22, .int 1, .int 0, .ref a4, .ref a3, .ref a1, .ref a2, .int 0, .int 1, .ref a23, .ref a24, .ref a25, .ref a26, .int 0, .ref a27, .int 0]))]) rfl (fun H locs hP hD hS => ?_)
  refine lv_iinc (v := 1) (lv' := [(3, .int 1), (0, .ref a0), (1, .int 0), (2, .int 1)]) hx hb dX9_goes_137 hl (k := 0) rfl (by decide +kernel) (by decide) rfl (fun ls hl => ?_)
  refine lv_goto (tgt := 112) hx hb dX9_goes_140 (by decide) ?_
  refine lv_iload_n hx hb dX9_goes_112 rfl (lv_at hl 0 rfl) ?_
  refine lv_iload_n hx hb dX9_goes_113 rfl (lv_at hl 3 rfl) ?_
  refine f_icmp_gt hx hb dX9_goes_114 143 (by decide) (by decide +kernel) ?_
  refine lv_aload_n hx hb dX9_goes_117 rfl (lv_at hl 1 rfl) ?_
  refine gf (k := 26) hx hb hts inX9 hown hK hP k_821 rfl (by decide) rfl 6 rfl (.ref a2) rfl dX9_goes_118 ?_
  refine lv_aload_n hx hb dX9_goes_121 rfl (lv_at hl 1 rfl) ?_
  refine gf (k := 25) hx hb hts inX9 hown hK hP k_820 rfl (by decide) rfl 6 rfl (.ref a1) rfl dX9_goes_122 ?_
  refine lv_iload_n hx hb dX9_goes_125 rfl (lv_at hl 2 rfl) ?_
  refine ld_i hx hb hK hP 0 rfl (vin (by decide +kernel)) dX9_goes_126 0 rfl ?_
  refine lv_iload_n hx hb dX9_goes_127 rfl (lv_at hl 0 rfl) ?_
  refine st_i hx hb hK hP hD hS 5 rfl (vin (by decide +kernel)) dX9_goes_128 (L' := [1]) rfl (W' := [(a1, .inl (cI, 4, .inl (tb [0]))), (a5, .inl (cI, 400000, .inl (tb [(-1), 0, 0, 0]))), (a6, .inl (cI, 100000, .inl (tb [1]))), (a3, .inl (cI, 3, .inl (tb [0, 0, 0]))), (a4, .inl (cI, 3, .inl (tb [0, 0, 0]))), (a2, .inl (cI, 4, .inl (tb [1]))), (a0, .inr (9, [.ref a7, .ref a8, .ref a9, .ref a10, .ref a11, .ref a12, .ref a13, .ref a14, .ref a15, .ref a16, .ref a17, .ref a18, .int 1, .int 0, .int 1, .ref a5, .ref a6, .ref a19, .ref a20, .ref a21, .ref a22, .int 1, .int 0, .ref a4, .ref a3, .ref a1, .ref a2, .int 0, .int 1, .ref a23, .ref a24, .ref a25, .ref a26, .int 0, .ref a27, .int 0]))]) rfl (fun H locs hP hD hS => ?_)
  refine lv_aload_n hx hb dX9_goes_129 rfl (lv_at hl 1 rfl) ?_
  refine lv_iload_n hx hb dX9_goes_130 rfl (lv_at hl 2 rfl) ?_
  refine lv_iconst (v := 1) hx hb dX9_goes_131 (by decide) ?_
  refine v_iadd hx hb dX9_goes_132 1 (by decide +kernel) ?_
  refine lv_iload_n hx hb dX9_goes_133 rfl (lv_at hl 3 rfl) ?_
  refine kV_v (q0 := 0) ⟨hx, hb, hml, hown, hts⟩ hK hP hD hS hA hX cv_RX9_156 [6, 3, 4, 5, 1, 2] [0] (wr := [(a1, .inl (cI, 4, .inl (tb [0])))]) rfl rfl rfl rfl (by decide) (c385_X9_goes l dC dI cI cJ cII cJJ H.size 0 a0 a3 a4 a2 a5 a6 a7 a8 a9 a10 a11 a12 a13 a14 a15 a16 a17 a18 a19 a20 a21 a22 a1 a23 a24 a25 a26 a27) ⟨by decide +kernel, by decide +kernel⟩ rfl rfl (Or.inl rfl) (rest := []) rfl rfl rfl hl.1 rfl (Nat.le_of_ble_eq_true rfl) dX9_goes_134 ⟨Nat.le_of_ble_eq_true rfl, Nat.le_of_ble_eq_true rfl⟩ (fun _ => rfl) (W' := [(a1, .inl (cI, 4, .inl (tb [0]))), (a5, .inl (cI, 400000, .inl (tb [(-1), 0, 0, 0, 1, 0, 0, 0]))), (a6, .inl (cI, 100000, .inl (tb [1, 1]))), (a3, .inl (cI, 3, .inl (tb [0, 0, 0]))), (a4, .inl (cI, 3, .inl (tb [0, 0, 0]))), (a2, .inl (cI, 4, .inl (tb [1]))), (a0, .inr (9, [.ref a7, .ref a8, .ref a9, .ref a10, .ref a11, .ref a12, .ref a13, .ref a14, .ref a15, .ref a16, .ref a17, .ref a18, .int 1, .int 0, .int 1, .ref a5, .ref a6, .ref a19, .ref a20, .ref a21, .ref a22, .int 2, .int 0, .ref a4, .ref a3, .ref a1, .ref a2, .int 0, .int 1, .ref a23, .ref a24, .ref a25, .ref a26, .int 0, .ref a27, .int 0]))]) rfl (fun H locs hP hD hS => ?_)
  refine lv_iinc (v := 2) (lv' := [(3, .int 2), (0, .ref a0), (1, .int 0), (2, .int 1)]) hx hb dX9_goes_137 hl (k := 0) rfl (by decide +kernel) (by decide) rfl (fun ls hl => ?_)
  refine lv_goto (tgt := 112) hx hb dX9_goes_140 (by decide) ?_
  refine lv_iload_n hx hb dX9_goes_112 rfl (lv_at hl 0 rfl) ?_
  refine lv_iload_n hx hb dX9_goes_113 rfl (lv_at hl 3 rfl) ?_
  refine t_icmp_gt hx hb dX9_goes_114 143 (by decide) (by decide +kernel) ?_
  exact r_v (fun _ => 0) hx hb hr hk hK hP hD hS dX9_goes_143
set_option maxRecDepth 100000 in
set_option maxHeartbeats 4000000 in
theorem c387_X9_leastOf (l : Launch) (dC : Nat → ClassId) (dI : Nat → Nat → Nat) (cI cJ cII cJJ : ClassId) (sz g a0 a1 a2 a3 a4 a5 a6 a7 a8 a9 a10 a11 a12 a13 a14 a15 a16 a17 a18 a19 a20 a21 a22 a23 a24 a25 a26 a27 : Nat) : Met l yX9_leastOf (.code yX9_leastOf cX9_leastOf 3 none :: TT) ({ frames := 2, cells := 0, slots := 0, locals := 80 }) (PcS dC dI (TY cI cJ cII cJJ) [.ref a0, .int 0] [(a0, .inr (9, [.ref a3, .ref a4, .ref a5, .ref a6, .ref a7, .ref a8, .ref a9, .ref a10, .ref a11, .ref a12, .ref a13, .ref a14, .int 1, .int 0, .int 1, .ref a1, .ref a15, .ref a16, .ref a17, .ref a2, .ref a18, .int 2, .int 0, .ref a19, .ref a20, .ref a21, .ref a22, .int 0, .int 1, .ref a23, .ref a24, .ref a25, .ref a26, .int 0, .ref a27, .int 0])), (a1, .inl (cI, 400000, .inl (tb [(-1), 0, 0, 0, 1, 0, 0, 0]))), (a2, .inl (cI, 24000, .inl (tb [])))] sz 0 g) ((QcV dC dI (TY cI cJ cII cJJ) (fun _ => [(a0, .inr (9, [.ref a3, .ref a4, .ref a5, .ref a6, .ref a7, .ref a8, .ref a9, .ref a10, .ref a11, .ref a12, .ref a13, .ref a14, .int 1, .int 0, .int 1, .ref a1, .ref a15, .ref a16, .ref a17, .ref a2, .ref a18, .int 2, .int 1, .ref a19, .ref a20, .ref a21, .ref a22, .int 0, .int 1, .ref a23, .ref a24, .ref a25, .ref a26, .int 0, .ref a27, .int 0])), (a1, .inl (cI, 400000, .inl (tb [(-1), 0, 0, 0, 1, 0, 0, 0]))), (a2, .inl (cI, 24000, .inl (tb [(-1), 0, 0, 0])))])) (va_A [(a0, .inr (9, [.ref a3, .ref a4, .ref a5, .ref a6, .ref a7, .ref a8, .ref a9, .ref a10, .ref a11, .ref a12, .ref a13, .ref a14, .int 1, .int 0, .int 1, .ref a1, .ref a15, .ref a16, .ref a17, .ref a2, .ref a18, .int 2, .int 0, .ref a19, .ref a20, .ref a21, .ref a22, .int 0, .int 1, .ref a23, .ref a24, .ref a25, .ref a26, .int 0, .ref a27, .int 0])), (a1, .inl (cI, 400000, .inl (tb [(-1), 0, 0, 0, 1, 0, 0, 0]))), (a2, .inl (cI, 24000, .inl (tb [])))] sz)) 0 0 (va_A [(a0, .inr (9, [.ref a3, .ref a4, .ref a5, .ref a6, .ref a7, .ref a8, .ref a9, .ref a10, .ref a11, .ref a12, .ref a13, .ref a14, .int 1, .int 0, .int 1, .ref a1, .ref a15, .ref a16, .ref a17, .ref a2, .ref a18, .int 2, .int 0, .ref a19, .ref a20, .ref a21, .ref a22, .int 0, .int 1, .ref a23, .ref a24, .ref a25, .ref a26, .int 0, .ref a27, .int 0])), (a1, .inl (cI, 400000, .inl (tb [(-1), 0, 0, 0, 1, 0, 0, 0]))), (a2, .inl (cI, 24000, .inl (tb [])))] sz) := by
  refine SM.of (y := yX9_leastOf) (maxL := 3) (av := [.ref a0, .int 0]) (QcV dC dI (TY cI cJ cII cJJ) (fun _ => [(a0, .inr (9, [.ref a3, .ref a4, .ref a5, .ref a6, .ref a7, .ref a8, .ref a9, .ref a10, .ref a11, .ref a12, .ref a13, .ref a14, .int 1, .int 0, .int 1, .ref a1, .ref a15, .ref a16, .ref a17, .ref a2, .ref a18, .int 2, .int 1, .ref a19, .ref a20, .ref a21, .ref a22, .int 0, .int 1, .ref a23, .ref a24, .ref a25, .ref a26, .int 0, .ref a27, .int 0])), (a1, .inl (cI, 400000, .inl (tb [(-1), 0, 0, 0, 1, 0, 0, 0]))), (a2, .inl (cI, 24000, .inl (tb [(-1), 0, 0, 0])))])) (by decide +kernel) (Nat.le_of_ble_eq_true rfl) (fun p e s m below meth c A ls hx hb hr hml hown hts hk hnm hA hK hP hD hS hX hl => ?_)
  have hown : s.vm.findClass RX9 = some m.cls := hown
  have hl : lv_has ls 3 [(0, .ref a0), (1, .int 0)] := hl
  refine lv_iconst (v := 0) hx hb dX9_leastOf_0 (by decide) ?_
  refine lv_istore_n (lv' := [(2, .int 0), (0, .ref a0), (1, .int 0)]) hx hb dX9_leastOf_1 rfl hl (by decide) rfl (fun ls hl => ?_)
  refine lv_iload_n hx hb dX9_leastOf_2 rfl (lv_at hl 0 rfl) ?_
  refine lv_aload_n hx hb dX9_leastOf_3 rfl (lv_at hl 1 rfl) ?_
  refine gf (k := 22) hx hb hts inX9 hown hK hP k_817 rfl (by decide) rfl 0 rfl (.int 0) rfl dX9_leastOf_4 ?_
  refine t_icmp_ge hx hb dX9_leastOf_7 33 (by decide) (by decide +kernel) ?_
  refine lv_iconst (v := 0) hx hb dX9_leastOf_33 (by decide) ?_
  refine lv_istore_n (lv' := [(2, .int 0), (0, .ref a0), (1, .int 0)]) hx hb dX9_leastOf_34 rfl hl (by decide) rfl (fun ls hl => ?_)
  refine lv_iload_n hx hb dX9_leastOf_35 rfl (lv_at hl 0 rfl) ?_
  refine lv_iconst (v := 4) hx hb dX9_leastOf_36 (by decide) ?_
  refine f_icmp_ge hx hb dX9_leastOf_37 69 (by decide) (by decide +kernel) ?_
  refine lv_aload_n hx hb dX9_leastOf_40 rfl (lv_at hl 1 rfl) ?_
  refine gf (k := 19) hx hb hts inX9 hown hK hP k_814 rfl (by decide) rfl 0 rfl (.ref a2) rfl dX9_leastOf_41 ?_
  refine lv_iconst (v := 4) hx hb dX9_leastOf_44 (by decide) ?_
  refine lv_aload_n hx hb dX9_leastOf_45 rfl (lv_at hl 1 rfl) ?_
  refine gf (k := 22) hx hb hts inX9 hown hK hP k_817 rfl (by decide) rfl 0 rfl (.int 0) rfl dX9_leastOf_46 ?_
  refine v_imul hx hb dX9_leastOf_49 0 (by decide +kernel) ?_
  refine lv_iload_n hx hb dX9_leastOf_50 rfl (lv_at hl 0 rfl) ?_
  refine v_iadd hx hb dX9_leastOf_51 0 (by decide +kernel) ?_
  refine lv_aload_n hx hb dX9_leastOf_52 rfl (lv_at hl 1 rfl) ?_
  refine gf (k := 15) hx hb hts inX9 hown hK hP k_810 rfl (by decide) rfl 0 rfl (.ref a1) rfl dX9_leastOf_53 ?_
  refine lv_iconst (v := 4) hx hb dX9_leastOf_56 (by decide) ?_
  refine lv_iload_n hx hb dX9_leastOf_57 rfl (lv_at hl 2 rfl) ?_
  refine v_imul hx hb dX9_leastOf_58 0 (by decide +kernel) ?_
  refine lv_iload_n hx hb dX9_leastOf_59 rfl (lv_at hl 0 rfl) ?_
  refine v_iadd hx hb dX9_leastOf_60 0 (by decide +kernel) ?_
  refine ld_i hx hb hK hP 1 rfl (vin (by decide +kernel)) dX9_leastOf_61 (-1) rfl ?_
  refine st_i hx hb hK hP hD hS 2 rfl (vin (by decide +kernel)) dX9_leastOf_62 (L' := [(-1)]) rfl (W' := [(a0, .inr (9, [.ref a3, .ref a4, .ref a5, .ref a6, .ref a7, .ref a8, .ref a9, .ref a10, .ref a11, .ref a12, .ref a13, .ref a14, .int 1, .int 0, .int 1, .ref a1, .ref a15, .ref a16, .ref a17, .ref a2, .ref a18, .int 2, .int 0, .ref a19, .ref a20, .ref a21, .ref a22, .int 0, .int 1, .ref a23, .ref a24, .ref a25, .ref a26, .int 0, .ref a27, .int 0])), (a1, .inl (cI, 400000, .inl (tb [(-1), 0, 0, 0, 1, 0, 0, 0]))), (a2, .inl (cI, 24000, .inl (tb [(-1)])))]) rfl (fun H locs hP hD hS => ?_)
  refine lv_iinc (v := 1) (lv' := [(2, .int 1), (0, .ref a0), (1, .int 0)]) hx hb dX9_leastOf_63 hl (k := 0) rfl (by decide +kernel) (by decide) rfl (fun ls hl => ?_)
  refine lv_goto (tgt := 35) hx hb dX9_leastOf_66 (by decide) ?_
  refine lv_iload_n hx hb dX9_leastOf_35 rfl (lv_at hl 0 rfl) ?_
  refine lv_iconst (v := 4) hx hb dX9_leastOf_36 (by decide) ?_
  refine f_icmp_ge hx hb dX9_leastOf_37 69 (by decide) (by decide +kernel) ?_
  refine lv_aload_n hx hb dX9_leastOf_40 rfl (lv_at hl 1 rfl) ?_
  refine gf (k := 19) hx hb hts inX9 hown hK hP k_814 rfl (by decide) rfl 0 rfl (.ref a2) rfl dX9_leastOf_41 ?_
  refine lv_iconst (v := 4) hx hb dX9_leastOf_44 (by decide) ?_
  refine lv_aload_n hx hb dX9_leastOf_45 rfl (lv_at hl 1 rfl) ?_
  refine gf (k := 22) hx hb hts inX9 hown hK hP k_817 rfl (by decide) rfl 0 rfl (.int 0) rfl dX9_leastOf_46 ?_
  refine v_imul hx hb dX9_leastOf_49 0 (by decide +kernel) ?_
  refine lv_iload_n hx hb dX9_leastOf_50 rfl (lv_at hl 0 rfl) ?_
  refine v_iadd hx hb dX9_leastOf_51 1 (by decide +kernel) ?_
  refine lv_aload_n hx hb dX9_leastOf_52 rfl (lv_at hl 1 rfl) ?_
  refine gf (k := 15) hx hb hts inX9 hown hK hP k_810 rfl (by decide) rfl 0 rfl (.ref a1) rfl dX9_leastOf_53 ?_
  refine lv_iconst (v := 4) hx hb dX9_leastOf_56 (by decide) ?_
  refine lv_iload_n hx hb dX9_leastOf_57 rfl (lv_at hl 2 rfl) ?_
  refine v_imul hx hb dX9_leastOf_58 0 (by decide +kernel) ?_
  refine lv_iload_n hx hb dX9_leastOf_59 rfl (lv_at hl 0 rfl) ?_
  refine v_iadd hx hb dX9_leastOf_60 1 (by decide +kernel) ?_
  refine ld_i hx hb hK hP 1 rfl (vin (by decide +kernel)) dX9_leastOf_61 0 rfl ?_
  refine st_i hx hb hK hP hD hS 2 rfl (vin (by decide +kernel)) dX9_leastOf_62 (L' := [(-1), 0]) rfl (W' := [(a0, .inr (9, [.ref a3, .ref a4, .ref a5, .ref a6, .ref a7, .ref a8, .ref a9, .ref a10, .ref a11, .ref a12, .ref a13, .ref a14, .int 1, .int 0, .int 1, .ref a1, .ref a15, .ref a16, .ref a17, .ref a2, .ref a18, .int 2, .int 0, .ref a19, .ref a20, .ref a21, .ref a22, .int 0, .int 1, .ref a23, .ref a24, .ref a25, .ref a26, .int 0, .ref a27, .int 0])), (a1, .inl (cI, 400000, .inl (tb [(-1), 0, 0, 0, 1, 0, 0, 0]))), (a2, .inl (cI, 24000, .inl (tb [(-1), 0])))]) rfl (fun H locs hP hD hS => ?_)
  refine lv_iinc (v := 2) (lv' := [(2, .int 2), (0, .ref a0), (1, .int 0)]) hx hb dX9_leastOf_63 hl (k := 0) rfl (by decide +kernel) (by decide) rfl (fun ls hl => ?_)
  refine lv_goto (tgt := 35) hx hb dX9_leastOf_66 (by decide) ?_
  refine lv_iload_n hx hb dX9_leastOf_35 rfl (lv_at hl 0 rfl) ?_
  refine lv_iconst (v := 4) hx hb dX9_leastOf_36 (by decide) ?_
  refine f_icmp_ge hx hb dX9_leastOf_37 69 (by decide) (by decide +kernel) ?_
  refine lv_aload_n hx hb dX9_leastOf_40 rfl (lv_at hl 1 rfl) ?_
  refine gf (k := 19) hx hb hts inX9 hown hK hP k_814 rfl (by decide) rfl 0 rfl (.ref a2) rfl dX9_leastOf_41 ?_
  refine lv_iconst (v := 4) hx hb dX9_leastOf_44 (by decide) ?_
  refine lv_aload_n hx hb dX9_leastOf_45 rfl (lv_at hl 1 rfl) ?_
  refine gf (k := 22) hx hb hts inX9 hown hK hP k_817 rfl (by decide) rfl 0 rfl (.int 0) rfl dX9_leastOf_46 ?_
  refine v_imul hx hb dX9_leastOf_49 0 (by decide +kernel) ?_
  refine lv_iload_n hx hb dX9_leastOf_50 rfl (lv_at hl 0 rfl) ?_
  refine v_iadd hx hb dX9_leastOf_51 2 (by decide +kernel) ?_
  refine lv_aload_n hx hb dX9_leastOf_52 rfl (lv_at hl 1 rfl) ?_
  refine gf (k := 15) hx hb hts inX9 hown hK hP k_810 rfl (by decide) rfl 0 rfl (.ref a1) rfl dX9_leastOf_53 ?_
  refine lv_iconst (v := 4) hx hb dX9_leastOf_56 (by decide) ?_
  refine lv_iload_n hx hb dX9_leastOf_57 rfl (lv_at hl 2 rfl) ?_
  refine v_imul hx hb dX9_leastOf_58 0 (by decide +kernel) ?_
  refine lv_iload_n hx hb dX9_leastOf_59 rfl (lv_at hl 0 rfl) ?_
  refine v_iadd hx hb dX9_leastOf_60 2 (by decide +kernel) ?_
  refine ld_i hx hb hK hP 1 rfl (vin (by decide +kernel)) dX9_leastOf_61 0 rfl ?_
  refine st_i hx hb hK hP hD hS 2 rfl (vin (by decide +kernel)) dX9_leastOf_62 (L' := [(-1), 0, 0]) rfl (W' := [(a0, .inr (9, [.ref a3, .ref a4, .ref a5, .ref a6, .ref a7, .ref a8, .ref a9, .ref a10, .ref a11, .ref a12, .ref a13, .ref a14, .int 1, .int 0, .int 1, .ref a1, .ref a15, .ref a16, .ref a17, .ref a2, .ref a18, .int 2, .int 0, .ref a19, .ref a20, .ref a21, .ref a22, .int 0, .int 1, .ref a23, .ref a24, .ref a25, .ref a26, .int 0, .ref a27, .int 0])), (a1, .inl (cI, 400000, .inl (tb [(-1), 0, 0, 0, 1, 0, 0, 0]))), (a2, .inl (cI, 24000, .inl (tb [(-1), 0, 0])))]) rfl (fun H locs hP hD hS => ?_)
  refine lv_iinc (v := 3) (lv' := [(2, .int 3), (0, .ref a0), (1, .int 0)]) hx hb dX9_leastOf_63 hl (k := 0) rfl (by decide +kernel) (by decide) rfl (fun ls hl => ?_)
  refine lv_goto (tgt := 35) hx hb dX9_leastOf_66 (by decide) ?_
  refine lv_iload_n hx hb dX9_leastOf_35 rfl (lv_at hl 0 rfl) ?_
  refine lv_iconst (v := 4) hx hb dX9_leastOf_36 (by decide) ?_
  refine f_icmp_ge hx hb dX9_leastOf_37 69 (by decide) (by decide +kernel) ?_
  refine lv_aload_n hx hb dX9_leastOf_40 rfl (lv_at hl 1 rfl) ?_
  refine gf (k := 19) hx hb hts inX9 hown hK hP k_814 rfl (by decide) rfl 0 rfl (.ref a2) rfl dX9_leastOf_41 ?_
  refine lv_iconst (v := 4) hx hb dX9_leastOf_44 (by decide) ?_
  refine lv_aload_n hx hb dX9_leastOf_45 rfl (lv_at hl 1 rfl) ?_
  refine gf (k := 22) hx hb hts inX9 hown hK hP k_817 rfl (by decide) rfl 0 rfl (.int 0) rfl dX9_leastOf_46 ?_
  refine v_imul hx hb dX9_leastOf_49 0 (by decide +kernel) ?_
  refine lv_iload_n hx hb dX9_leastOf_50 rfl (lv_at hl 0 rfl) ?_
  refine v_iadd hx hb dX9_leastOf_51 3 (by decide +kernel) ?_
  refine lv_aload_n hx hb dX9_leastOf_52 rfl (lv_at hl 1 rfl) ?_
  refine gf (k := 15) hx hb hts inX9 hown hK hP k_810 rfl (by decide) rfl 0 rfl (.ref a1) rfl dX9_leastOf_53 ?_
  refine lv_iconst (v := 4) hx hb dX9_leastOf_56 (by decide) ?_
  refine lv_iload_n hx hb dX9_leastOf_57 rfl (lv_at hl 2 rfl) ?_
  refine v_imul hx hb dX9_leastOf_58 0 (by decide +kernel) ?_
  refine lv_iload_n hx hb dX9_leastOf_59 rfl (lv_at hl 0 rfl) ?_
  refine v_iadd hx hb dX9_leastOf_60 3 (by decide +kernel) ?_
  refine ld_i hx hb hK hP 1 rfl (vin (by decide +kernel)) dX9_leastOf_61 0 rfl ?_
  refine st_i hx hb hK hP hD hS 2 rfl (vin (by decide +kernel)) dX9_leastOf_62 (L' := [(-1), 0, 0, 0]) rfl (W' := [(a0, .inr (9, [.ref a3, .ref a4, .ref a5, .ref a6, .ref a7, .ref a8, .ref a9, .ref a10, .ref a11, .ref a12, .ref a13, .ref a14, .int 1, .int 0, .int 1, .ref a1, .ref a15, .ref a16, .ref a17, .ref a2, .ref a18, .int 2, .int 0, .ref a19, .ref a20, .ref a21, .ref a22, .int 0, .int 1, .ref a23, .ref a24, .ref a25, .ref a26, .int 0, .ref a27, .int 0])), (a1, .inl (cI, 400000, .inl (tb [(-1), 0, 0, 0, 1, 0, 0, 0]))), (a2, .inl (cI, 24000, .inl (tb [(-1), 0, 0, 0])))]) rfl (fun H locs hP hD hS => ?_)
  refine lv_iinc (v := 4) (lv' := [(2, .int 4), (0, .ref a0), (1, .int 0)]) hx hb dX9_leastOf_63 hl (k := 0) rfl (by decide +kernel) (by decide) rfl (fun ls hl => ?_)
  refine lv_goto (tgt := 35) hx hb dX9_leastOf_66 (by decide) ?_
  refine lv_iload_n hx hb dX9_leastOf_35 rfl (lv_at hl 0 rfl) ?_
  refine lv_iconst (v := 4) hx hb dX9_leastOf_36 (by decide) ?_
  refine t_icmp_ge hx hb dX9_leastOf_37 69 (by decide) (by decide +kernel) ?_
  refine lv_aload_n hx hb dX9_leastOf_69 rfl (lv_at hl 1 rfl) ?_
  refine lv_dup hx hb dX9_leastOf_70 rfl ?_
  refine gf (k := 22) hx hb hts inX9 hown hK hP k_817 rfl (by decide) rfl 0 rfl (.int 0) rfl dX9_leastOf_71 ?_
  refine lv_iconst (v := 1) hx hb dX9_leastOf_74 (by decide) ?_
  refine v_iadd hx hb dX9_leastOf_75 1 (by decide +kernel) ?_
  refine pf (k := 22) hx hb hts inX9 tyX9_ok nmX9 hown hK hP hD hS k_817 rfl (by decide) rfl rfl 0 rfl rfl rfl (Nat.le_of_ble_eq_true rfl) dX9_leastOf_76 (W' := [(a0, .inr (9, [.ref a3, .ref a4, .ref a5, .ref a6, .ref a7, .ref a8, .ref a9, .ref a10, .ref a11, .ref a12, .ref a13, .ref a14, .int 1, .int 0, .int 1, .ref a1, .ref a15, .ref a16, .ref a17, .ref a2, .ref a18, .int 2, .int 1, .ref a19, .ref a20, .ref a21, .ref a22, .int 0, .int 1, .ref a23, .ref a24, .ref a25, .ref a26, .int 0, .ref a27, .int 0])), (a1, .inl (cI, 400000, .inl (tb [(-1), 0, 0, 0, 1, 0, 0, 0]))), (a2, .inl (cI, 24000, .inl (tb [(-1), 0, 0, 0])))]) rfl (fun H locs hP hD hS => ?_)
  exact r_v (fun _ => 0) hx hb hr hk hK hP hD hS dX9_leastOf_79
set_option maxRecDepth 100000 in
set_option maxHeartbeats 4000000 in
theorem c389_X9_fitsIn (l : Launch) (dC : Nat → ClassId) (dI : Nat → Nat → Nat) (cI cJ cII cJJ : ClassId) (sz g a0 a1 : Nat) : Met l yX9_fitsIn (.code yX9_fitsIn cX9_fitsIn 7 (some .boolean) :: TT) ({ frames := 2, cells := 0, slots := 0, locals := 80 }) (PcS dC dI (TY cI cJ cII cJJ) [.ref a0, .int 0, .ref a1, .int 1] [(a0, .inl (cI, 24000, .inl (tb [(-1), 0, 0, 0]))), (a1, .inl (cI, 400000, .inl (tb [(-1), 0, 0, 0, 1, 0, 0, 0])))] sz 0 g) ((QcI dC dI (TY cI cJ cII cJJ) 0 [(a0, .inl (cI, 24000, .inl (tb [(-1), 0, 0, 0]))), (a1, .inl (cI, 400000, .inl (tb [(-1), 0, 0, 0, 1, 0, 0, 0])))]) (va_A [(a0, .inl (cI, 24000, .inl (tb [(-1), 0, 0, 0]))), (a1, .inl (cI, 400000, .inl (tb [(-1), 0, 0, 0, 1, 0, 0, 0])))] sz)) 0 0 (va_A [(a0, .inl (cI, 24000, .inl (tb [(-1), 0, 0, 0]))), (a1, .inl (cI, 400000, .inl (tb [(-1), 0, 0, 0, 1, 0, 0, 0])))] sz) := by
  refine SM.of (y := yX9_fitsIn) (maxL := 7) (av := [.ref a0, .int 0, .ref a1, .int 1]) (QcI dC dI (TY cI cJ cII cJJ) 0 [(a0, .inl (cI, 24000, .inl (tb [(-1), 0, 0, 0]))), (a1, .inl (cI, 400000, .inl (tb [(-1), 0, 0, 0, 1, 0, 0, 0])))]) (by decide +kernel) (Nat.le_of_ble_eq_true rfl) (fun p e s m below meth c A ls hx hb hr hml hown hts hk hnm hA hK hP hD hS hX hl => ?_)
  have hown : s.vm.findClass RX9 = some m.cls := hown
  have hl : lv_has ls 7 [(0, .ref a0), (1, .int 0), (2, .ref a1), (3, .int 1)] := hl
  refine lv_iconst (v := 0) hx hb dX9_fitsIn_0 (by decide) ?_
  refine lv_istore (lv' := [(4, .int 0), (0, .ref a0), (1, .int 0), (2, .ref a1), (3, .int 1)]) hx hb dX9_fitsIn_1 hl (by decide) rfl (fun ls hl => ?_)
  refine lv_iload hx hb dX9_fitsIn_3 (lv_at hl 0 rfl) ?_
  refine lv_iconst (v := 4) hx hb dX9_fitsIn_5 (by decide) ?_
  refine f_icmp_ge hx hb dX9_fitsIn_6 61 (by decide) (by decide +kernel) ?_
  refine lv_aload_n hx hb dX9_fitsIn_9 rfl (lv_at hl 1 rfl) ?_
  refine lv_iconst (v := 4) hx hb dX9_fitsIn_10 (by decide) ?_
  refine lv_iload_n hx hb dX9_fitsIn_11 rfl (lv_at hl 2 rfl) ?_
  refine v_imul hx hb dX9_fitsIn_12 0 (by decide +kernel) ?_
  refine lv_iload hx hb dX9_fitsIn_13 (lv_at hl 0 rfl) ?_
  refine v_iadd hx hb dX9_fitsIn_15 0 (by decide +kernel) ?_
  refine ld_i hx hb hK hP 0 rfl (vin (by decide +kernel)) dX9_fitsIn_16 (-1) rfl ?_
  refine lv_istore (lv' := [(5, .int (-1)), (4, .int 0), (0, .ref a0), (1, .int 0), (2, .ref a1), (3, .int 1)]) hx hb dX9_fitsIn_17 hl (by decide) rfl (fun ls hl => ?_)
  refine lv_aload_n hx hb dX9_fitsIn_19 rfl (lv_at hl 4 rfl) ?_
  refine lv_iconst (v := 4) hx hb dX9_fitsIn_20 (by decide) ?_
  refine lv_iload_n hx hb dX9_fitsIn_21 rfl (lv_at hl 5 rfl) ?_
  refine v_imul hx hb dX9_fitsIn_22 4 (by decide +kernel) ?_
  refine lv_iload hx hb dX9_fitsIn_23 (lv_at hl 1 rfl) ?_
  refine v_iadd hx hb dX9_fitsIn_25 4 (by decide +kernel) ?_
  refine ld_i hx hb hK hP 1 rfl (vin (by decide +kernel)) dX9_fitsIn_26 1 rfl ?_
  refine lv_istore (lv' := [(6, .int 1), (5, .int (-1)), (4, .int 0), (0, .ref a0), (1, .int 0), (2, .ref a1), (3, .int 1)]) hx hb dX9_fitsIn_27 hl (by decide) rfl (fun ls hl => ?_)
  refine lv_iload hx hb dX9_fitsIn_29 (lv_at hl 1 rfl) ?_
  refine t_if_le hx hb dX9_fitsIn_31 41 (by decide) (by decide +kernel) ?_
  refine lv_iload hx hb dX9_fitsIn_41 (lv_at hl 1 rfl) ?_
  refine f_if_ge hx hb dX9_fitsIn_43 55 (by decide) (by decide +kernel) ?_
  refine lv_iload hx hb dX9_fitsIn_46 (lv_at hl 1 rfl) ?_
  refine lv_iload hx hb dX9_fitsIn_48 (lv_at hl 0 rfl) ?_
  refine f_icmp_ge hx hb dX9_fitsIn_50 55 (by decide) (by decide +kernel) ?_
  refine lv_iconst (v := 0) hx hb dX9_fitsIn_53 (by decide) ?_
  exact r_z hx hb hr hk hK hP hD hS dX9_fitsIn_54 rfl
set_option maxRecDepth 100000 in
set_option maxHeartbeats 4000000 in
theorem c388_X9_leastOf_s1 (l : Launch) (dC : Nat → ClassId) (dI : Nat → Nat → Nat) (cI cJ cII cJJ : ClassId) (g a0 a1 a2 a3 a4 a5 a6 a7 a8 a9 a10 a11 a12 a13 a14 a15 a16 a17 a18 a19 a20 a21 a22 a23 a24 a25 a26 a27 : Nat) {p : Program} {e : Env} {s : State} {m : MethodId} {below : List Frame} {meth : Method} {c : Code} {A : Nat → Prop} {ls : Array Slot} {H : Heap} {locs : List Loc} (hx : p.tables.exec = Jvm.exec) (hb : c.code = cX9_leastOf) (hr : meth.sig.returnType = none) (hml : c.maxLocals = 3) (hown : s.vm.findClass RX9 = some m.cls) (hts : ∀ w ∈ TT, w.before ([.ref a0, .int 1] : List Value).toArray s = true) (hk : meth.locks = false) (hA : ∀ q, s.heap.size ≤ q → A q) (hK : va_K (dC, dI) vwCl (TY cI cJ cII cJJ) s) (hP : va_P (dC, dI) vwCl [(a0, .inr (9, [.ref a3, .ref a4, .ref a5, .ref a6, .ref a7, .ref a8, .ref a9, .ref a10, .ref a11, .ref a12, .ref a13, .ref a14, .int 1, .int 0, .int 1, .ref a2, .ref a15, .ref a16, .ref a17, .ref a1, .ref a18, .int 2, .int 1, .ref a19, .ref a20, .ref a21, .ref a22, .int 0, .int 1, .ref a23, .ref a24, .ref a25, .ref a26, .int 0, .ref a27, .int 0])), (a1, .inl (cI, 24000, .inl (tb [(-1), 0, 0, 0, 1, 0, 0, 0]))), (a2, .inl (cI, 400000, .inl (tb [(-1), 0, 0, 0, 1, 0, 0, 0])))] H) (hD : va_D A [(a0, .inr (9, [.ref a3, .ref a4, .ref a5, .ref a6, .ref a7, .ref a8, .ref a9, .ref a10, .ref a11, .ref a12, .ref a13, .ref a14, .int 1, .int 0, .int 1, .ref a2, .ref a15, .ref a16, .ref a17, .ref a1, .ref a18, .int 2, .int 1, .ref a19, .ref a20, .ref a21, .ref a22, .int 0, .int 1, .ref a23, .ref a24, .ref a25, .ref a26, .int 0, .ref a27, .int 0])), (a1, .inl (cI, 24000, .inl (tb [(-1), 0, 0, 0, 1, 0, 0, 0]))), (a2, .inl (cI, 400000, .inl (tb [(-1), 0, 0, 0, 1, 0, 0, 0])))]) (hS : va_S A s.heap H locs) (hX : GXA 0 g A s) (hl : lv_has ls 3 [(2, .int 4), (0, .ref a0), (1, .int 1)]) : W p l e ({ frames := 3, cells := 0, slots := 0, locals := 140 } : Room) s m ([.ref a0, .int 1] : List Value).toArray below meth c H locs 0 0 (MQ below ((QcV dC dI (TY cI cJ cII cJJ) (fun _ => [(a0, .inr (9, [.ref a3, .ref a4, .ref a5, .ref a6, .ref a7, .ref a8, .ref a9, .ref a10, .ref a11, .ref a12, .ref a13, .ref a14, .int 1, .int 0, .int 1, .ref a2, .ref a15, .ref a16, .ref a17, .ref a1, .ref a18, .int 2, .int 2, .ref a19, .ref a20, .ref a21, .ref a22, .int 0, .int 1, .ref a23, .ref a24, .ref a25, .ref a26, .int 0, .ref a27, .int 0])), (a1, .inl (cI, 24000, .inl (tb [(-1), 0, 0, 0, 1, 0, 0, 0]))), (a2, .inl (cI, 400000, .inl (tb [(-1), 0, 0, 0, 1, 0, 0, 0])))])) A) ([.ref a0, .int 1] : List Value).toArray s 0 0 A) (F0 m 35 ls []) := by
  refine lv_iload_n hx hb dX9_leastOf_35 rfl (lv_at hl 0 rfl) ?_
  refine lv_iconst (v := 4) hx hb dX9_leastOf_36 (by decide) ?_
  refine t_icmp_ge hx hb dX9_leastOf_37 69 (by decide) (by decide +kernel) ?_
  refine lv_aload_n hx hb dX9_leastOf_69 rfl (lv_at hl 1 rfl) ?_
  refine lv_dup hx hb dX9_leastOf_70 rfl ?_
  refine gf (k := 22) hx hb hts inX9 hown hK hP k_817 rfl (by decide) rfl 0 rfl (.int 1) rfl dX9_leastOf_71 ?_
  refine lv_iconst (v := 1) hx hb dX9_leastOf_74 (by decide) ?_
  refine v_iadd hx hb dX9_leastOf_75 2 (by decide +kernel) ?_
  refine pf (k := 22) hx hb hts inX9 tyX9_ok nmX9 hown hK hP hD hS k_817 rfl (by decide) rfl rfl 0 rfl rfl rfl (Nat.le_of_ble_eq_true rfl) dX9_leastOf_76 (W' := [(a0, .inr (9, [.ref a3, .ref a4, .ref a5, .ref a6, .ref a7, .ref a8, .ref a9, .ref a10, .ref a11, .ref a12, .ref a13, .ref a14, .int 1, .int 0, .int 1, .ref a2, .ref a15, .ref a16, .ref a17, .ref a1, .ref a18, .int 2, .int 2, .ref a19, .ref a20, .ref a21, .ref a22, .int 0, .int 1, .ref a23, .ref a24, .ref a25, .ref a26, .int 0, .ref a27, .int 0])), (a1, .inl (cI, 24000, .inl (tb [(-1), 0, 0, 0, 1, 0, 0, 0]))), (a2, .inl (cI, 400000, .inl (tb [(-1), 0, 0, 0, 1, 0, 0, 0])))]) rfl (fun H locs hP hD hS => ?_)
  exact r_v (fun _ => 0) hx hb hr hk hK hP hD hS dX9_leastOf_79
set_option maxRecDepth 100000 in
set_option maxHeartbeats 4000000 in
theorem c388_X9_leastOf (l : Launch) (dC : Nat → ClassId) (dI : Nat → Nat → Nat) (cI cJ cII cJJ : ClassId) (sz g a0 a1 a2 a3 a4 a5 a6 a7 a8 a9 a10 a11 a12 a13 a14 a15 a16 a17 a18 a19 a20 a21 a22 a23 a24 a25 a26 a27 : Nat) : Met l yX9_leastOf (.code yX9_leastOf cX9_leastOf 3 none :: TT) ({ frames := 3, cells := 0, slots := 0, locals := 140 }) (PcS dC dI (TY cI cJ cII cJJ) [.ref a0, .int 1] [(a0, .inr (9, [.ref a3, .ref a4, .ref a5, .ref a6, .ref a7, .ref a8, .ref a9, .ref a10, .ref a11, .ref a12, .ref a13, .ref a14, .int 1, .int 0, .int 1, .ref a2, .ref a15, .ref a16, .ref a17, .ref a1, .ref a18, .int 2, .int 1, .ref a19, .ref a20, .ref a21, .ref a22, .int 0, .int 1, .ref a23, .ref a24, .ref a25, .ref a26, .int 0, .ref a27, .int 0])), (a1, .inl (cI, 24000, .inl (tb [(-1), 0, 0, 0]))), (a2, .inl (cI, 400000, .inl (tb [(-1), 0, 0, 0, 1, 0, 0, 0])))] sz 0 g) ((QcV dC dI (TY cI cJ cII cJJ) (fun _ => [(a0, .inr (9, [.ref a3, .ref a4, .ref a5, .ref a6, .ref a7, .ref a8, .ref a9, .ref a10, .ref a11, .ref a12, .ref a13, .ref a14, .int 1, .int 0, .int 1, .ref a2, .ref a15, .ref a16, .ref a17, .ref a1, .ref a18, .int 2, .int 2, .ref a19, .ref a20, .ref a21, .ref a22, .int 0, .int 1, .ref a23, .ref a24, .ref a25, .ref a26, .int 0, .ref a27, .int 0])), (a1, .inl (cI, 24000, .inl (tb [(-1), 0, 0, 0, 1, 0, 0, 0]))), (a2, .inl (cI, 400000, .inl (tb [(-1), 0, 0, 0, 1, 0, 0, 0])))])) (va_A [(a0, .inr (9, [.ref a3, .ref a4, .ref a5, .ref a6, .ref a7, .ref a8, .ref a9, .ref a10, .ref a11, .ref a12, .ref a13, .ref a14, .int 1, .int 0, .int 1, .ref a2, .ref a15, .ref a16, .ref a17, .ref a1, .ref a18, .int 2, .int 1, .ref a19, .ref a20, .ref a21, .ref a22, .int 0, .int 1, .ref a23, .ref a24, .ref a25, .ref a26, .int 0, .ref a27, .int 0])), (a1, .inl (cI, 24000, .inl (tb [(-1), 0, 0, 0]))), (a2, .inl (cI, 400000, .inl (tb [(-1), 0, 0, 0, 1, 0, 0, 0])))] sz)) 0 0 (va_A [(a0, .inr (9, [.ref a3, .ref a4, .ref a5, .ref a6, .ref a7, .ref a8, .ref a9, .ref a10, .ref a11, .ref a12, .ref a13, .ref a14, .int 1, .int 0, .int 1, .ref a2, .ref a15, .ref a16, .ref a17, .ref a1, .ref a18, .int 2, .int 1, .ref a19, .ref a20, .ref a21, .ref a22, .int 0, .int 1, .ref a23, .ref a24, .ref a25, .ref a26, .int 0, .ref a27, .int 0])), (a1, .inl (cI, 24000, .inl (tb [(-1), 0, 0, 0]))), (a2, .inl (cI, 400000, .inl (tb [(-1), 0, 0, 0, 1, 0, 0, 0])))] sz) := by
  refine SM.of (y := yX9_leastOf) (maxL := 3) (av := [.ref a0, .int 1]) (QcV dC dI (TY cI cJ cII cJJ) (fun _ => [(a0, .inr (9, [.ref a3, .ref a4, .ref a5, .ref a6, .ref a7, .ref a8, .ref a9, .ref a10, .ref a11, .ref a12, .ref a13, .ref a14, .int 1, .int 0, .int 1, .ref a2, .ref a15, .ref a16, .ref a17, .ref a1, .ref a18, .int 2, .int 2, .ref a19, .ref a20, .ref a21, .ref a22, .int 0, .int 1, .ref a23, .ref a24, .ref a25, .ref a26, .int 0, .ref a27, .int 0])), (a1, .inl (cI, 24000, .inl (tb [(-1), 0, 0, 0, 1, 0, 0, 0]))), (a2, .inl (cI, 400000, .inl (tb [(-1), 0, 0, 0, 1, 0, 0, 0])))])) (by decide +kernel) (Nat.le_of_ble_eq_true rfl) (fun p e s m below meth c A ls hx hb hr hml hown hts hk hnm hA hK hP hD hS hX hl => ?_)
  have hown : s.vm.findClass RX9 = some m.cls := hown
  have hl : lv_has ls 3 [(0, .ref a0), (1, .int 1)] := hl
  refine lv_iconst (v := 0) hx hb dX9_leastOf_0 (by decide) ?_
  refine lv_istore_n (lv' := [(2, .int 0), (0, .ref a0), (1, .int 1)]) hx hb dX9_leastOf_1 rfl hl (by decide) rfl (fun ls hl => ?_)
  refine lv_iload_n hx hb dX9_leastOf_2 rfl (lv_at hl 0 rfl) ?_
  refine lv_aload_n hx hb dX9_leastOf_3 rfl (lv_at hl 1 rfl) ?_
  refine gf (k := 22) hx hb hts inX9 hown hK hP k_817 rfl (by decide) rfl 0 rfl (.int 1) rfl dX9_leastOf_4 ?_
  refine f_icmp_ge hx hb dX9_leastOf_7 33 (by decide) (by decide +kernel) ?_
  refine lv_aload_n hx hb dX9_leastOf_10 rfl (lv_at hl 1 rfl) ?_
  refine gf (k := 19) hx hb hts inX9 hown hK hP k_814 rfl (by decide) rfl 0 rfl (.ref a1) rfl dX9_leastOf_11 ?_
  refine lv_iload_n hx hb dX9_leastOf_14 rfl (lv_at hl 0 rfl) ?_
  refine lv_aload_n hx hb dX9_leastOf_15 rfl (lv_at hl 1 rfl) ?_
  refine gf (k := 15) hx hb hts inX9 hown hK hP k_810 rfl (by decide) rfl 0 rfl (.ref a2) rfl dX9_leastOf_16 ?_
  refine lv_iload_n hx hb dX9_leastOf_19 rfl (lv_at hl 2 rfl) ?_
  refine kS_i ⟨hx, hb, hml, hown, hts⟩ hK hP hD hS hA hX cs_RX9_173 [1, 2] [0] (wr := [(a0, .inr (9, [.ref a3, .ref a4, .ref a5, .ref a6, .ref a7, .ref a8, .ref a9, .ref a10, .ref a11, .ref a12, .ref a13, .ref a14, .int 1, .int 0, .int 1, .ref a2, .ref a15, .ref a16, .ref a17, .ref a1, .ref a18, .int 2, .int 1, .ref a19, .ref a20, .ref a21, .ref a22, .int 0, .int 1, .ref a23, .ref a24, .ref a25, .ref a26, .int 0, .ref a27, .int 0]))]) rfl rfl rfl rfl (by decide) (c389_X9_fitsIn l dC dI cI cJ cII cJJ s.heap.size 0 a1 a2) ⟨by decide +kernel, by decide +kernel⟩ rfl rfl (Or.inl rfl) (rest := []) rfl hl.1 rfl (Nat.le_of_ble_eq_true rfl) dX9_leastOf_20 ⟨Nat.le_of_ble_eq_true rfl, Nat.le_of_ble_eq_true rfl⟩ (W' := [(a0, .inr (9, [.ref a3, .ref a4, .ref a5, .ref a6, .ref a7, .ref a8, .ref a9, .ref a10, .ref a11, .ref a12, .ref a13, .ref a14, .int 1, .int 0, .int 1, .ref a2, .ref a15, .ref a16, .ref a17, .ref a1, .ref a18, .int 2, .int 1, .ref a19, .ref a20, .ref a21, .ref a22, .int 0, .int 1, .ref a23, .ref a24, .ref a25, .ref a26, .int 0, .ref a27, .int 0])), (a1, .inl (cI, 24000, .inl (tb [(-1), 0, 0, 0]))), (a2, .inl (cI, 400000, .inl (tb [(-1), 0, 0, 0, 1, 0, 0, 0])))]) rfl (fun H locs hP hD hS => ?_)
  refine t_if_eq hx hb dX9_leastOf_23 27 (by decide) (by decide +kernel) ?_
  refine lv_iinc (v := 1) (lv' := [(2, .int 1), (0, .ref a0), (1, .int 1)]) hx hb dX9_leastOf_27 hl (k := 0) rfl (by decide +kernel) (by decide) rfl (fun ls hl => ?_)
  refine lv_goto (tgt := 2) hx hb dX9_leastOf_30 (by decide) ?_
  refine lv_iload_n hx hb dX9_leastOf_2 rfl (lv_at hl 0 rfl) ?_
  refine lv_aload_n hx hb dX9_leastOf_3 rfl (lv_at hl 1 rfl) ?_
  refine gf (k := 22) hx hb hts inX9 hown hK hP k_817 rfl (by decide) rfl 0 rfl (.int 1) rfl dX9_leastOf_4 ?_
  refine t_icmp_ge hx hb dX9_leastOf_7 33 (by decide) (by decide +kernel) ?_
  refine lv_iconst (v := 0) hx hb dX9_leastOf_33 (by decide) ?_
  refine lv_istore_n (lv' := [(2, .int 0), (0, .ref a0), (1, .int 1)]) hx hb dX9_leastOf_34 rfl hl (by decide) rfl (fun ls hl => ?_)
  refine lv_iload_n hx hb dX9_leastOf_35 rfl (lv_at hl 0 rfl) ?_
  refine lv_iconst (v := 4) hx hb dX9_leastOf_36 (by decide) ?_
  refine f_icmp_ge hx hb dX9_leastOf_37 69 (by decide) (by decide +kernel) ?_
  refine lv_aload_n hx hb dX9_leastOf_40 rfl (lv_at hl 1 rfl) ?_
  refine gf (k := 19) hx hb hts inX9 hown hK hP k_814 rfl (by decide) rfl 0 rfl (.ref a1) rfl dX9_leastOf_41 ?_
  refine lv_iconst (v := 4) hx hb dX9_leastOf_44 (by decide) ?_
  refine lv_aload_n hx hb dX9_leastOf_45 rfl (lv_at hl 1 rfl) ?_
  refine gf (k := 22) hx hb hts inX9 hown hK hP k_817 rfl (by decide) rfl 0 rfl (.int 1) rfl dX9_leastOf_46 ?_
  refine v_imul hx hb dX9_leastOf_49 4 (by decide +kernel) ?_
  refine lv_iload_n hx hb dX9_leastOf_50 rfl (lv_at hl 0 rfl) ?_
  refine v_iadd hx hb dX9_leastOf_51 4 (by decide +kernel) ?_
  refine lv_aload_n hx hb dX9_leastOf_52 rfl (lv_at hl 1 rfl) ?_
  refine gf (k := 15) hx hb hts inX9 hown hK hP k_810 rfl (by decide) rfl 0 rfl (.ref a2) rfl dX9_leastOf_53 ?_
  refine lv_iconst (v := 4) hx hb dX9_leastOf_56 (by decide) ?_
  refine lv_iload_n hx hb dX9_leastOf_57 rfl (lv_at hl 2 rfl) ?_
  refine v_imul hx hb dX9_leastOf_58 4 (by decide +kernel) ?_
  refine lv_iload_n hx hb dX9_leastOf_59 rfl (lv_at hl 0 rfl) ?_
  refine v_iadd hx hb dX9_leastOf_60 4 (by decide +kernel) ?_
  refine ld_i hx hb hK hP 2 rfl (vin (by decide +kernel)) dX9_leastOf_61 1 rfl ?_
  refine st_i hx hb hK hP hD hS 1 rfl (vin (by decide +kernel)) dX9_leastOf_62 (L' := [(-1), 0, 0, 0, 1]) rfl (W' := [(a0, .inr (9, [.ref a3, .ref a4, .ref a5, .ref a6, .ref a7, .ref a8, .ref a9, .ref a10, .ref a11, .ref a12, .ref a13, .ref a14, .int 1, .int 0, .int 1, .ref a2, .ref a15, .ref a16, .ref a17, .ref a1, .ref a18, .int 2, .int 1, .ref a19, .ref a20, .ref a21, .ref a22, .int 0, .int 1, .ref a23, .ref a24, .ref a25, .ref a26, .int 0, .ref a27, .int 0])), (a1, .inl (cI, 24000, .inl (tb [(-1), 0, 0, 0, 1]))), (a2, .inl (cI, 400000, .inl (tb [(-1), 0, 0, 0, 1, 0, 0, 0])))]) rfl (fun H locs hP hD hS => ?_)
  refine lv_iinc (v := 1) (lv' := [(2, .int 1), (0, .ref a0), (1, .int 1)]) hx hb dX9_leastOf_63 hl (k := 0) rfl (by decide +kernel) (by decide) rfl (fun ls hl => ?_)
  refine lv_goto (tgt := 35) hx hb dX9_leastOf_66 (by decide) ?_
  refine lv_iload_n hx hb dX9_leastOf_35 rfl (lv_at hl 0 rfl) ?_
  refine lv_iconst (v := 4) hx hb dX9_leastOf_36 (by decide) ?_
  refine f_icmp_ge hx hb dX9_leastOf_37 69 (by decide) (by decide +kernel) ?_
  refine lv_aload_n hx hb dX9_leastOf_40 rfl (lv_at hl 1 rfl) ?_
  refine gf (k := 19) hx hb hts inX9 hown hK hP k_814 rfl (by decide) rfl 0 rfl (.ref a1) rfl dX9_leastOf_41 ?_
  refine lv_iconst (v := 4) hx hb dX9_leastOf_44 (by decide) ?_
  refine lv_aload_n hx hb dX9_leastOf_45 rfl (lv_at hl 1 rfl) ?_
  refine gf (k := 22) hx hb hts inX9 hown hK hP k_817 rfl (by decide) rfl 0 rfl (.int 1) rfl dX9_leastOf_46 ?_
  refine v_imul hx hb dX9_leastOf_49 4 (by decide +kernel) ?_
  refine lv_iload_n hx hb dX9_leastOf_50 rfl (lv_at hl 0 rfl) ?_
  refine v_iadd hx hb dX9_leastOf_51 5 (by decide +kernel) ?_
  refine lv_aload_n hx hb dX9_leastOf_52 rfl (lv_at hl 1 rfl) ?_
  refine gf (k := 15) hx hb hts inX9 hown hK hP k_810 rfl (by decide) rfl 0 rfl (.ref a2) rfl dX9_leastOf_53 ?_
  refine lv_iconst (v := 4) hx hb dX9_leastOf_56 (by decide) ?_
  refine lv_iload_n hx hb dX9_leastOf_57 rfl (lv_at hl 2 rfl) ?_
  refine v_imul hx hb dX9_leastOf_58 4 (by decide +kernel) ?_
  refine lv_iload_n hx hb dX9_leastOf_59 rfl (lv_at hl 0 rfl) ?_
  refine v_iadd hx hb dX9_leastOf_60 5 (by decide +kernel) ?_
  refine ld_i hx hb hK hP 2 rfl (vin (by decide +kernel)) dX9_leastOf_61 0 rfl ?_
  refine st_i hx hb hK hP hD hS 1 rfl (vin (by decide +kernel)) dX9_leastOf_62 (L' := [(-1), 0, 0, 0, 1, 0]) rfl (W' := [(a0, .inr (9, [.ref a3, .ref a4, .ref a5, .ref a6, .ref a7, .ref a8, .ref a9, .ref a10, .ref a11, .ref a12, .ref a13, .ref a14, .int 1, .int 0, .int 1, .ref a2, .ref a15, .ref a16, .ref a17, .ref a1, .ref a18, .int 2, .int 1, .ref a19, .ref a20, .ref a21, .ref a22, .int 0, .int 1, .ref a23, .ref a24, .ref a25, .ref a26, .int 0, .ref a27, .int 0])), (a1, .inl (cI, 24000, .inl (tb [(-1), 0, 0, 0, 1, 0]))), (a2, .inl (cI, 400000, .inl (tb [(-1), 0, 0, 0, 1, 0, 0, 0])))]) rfl (fun H locs hP hD hS => ?_)
  refine lv_iinc (v := 2) (lv' := [(2, .int 2), (0, .ref a0), (1, .int 1)]) hx hb dX9_leastOf_63 hl (k := 0) rfl (by decide +kernel) (by decide) rfl (fun ls hl => ?_)
  refine lv_goto (tgt := 35) hx hb dX9_leastOf_66 (by decide) ?_
  refine lv_iload_n hx hb dX9_leastOf_35 rfl (lv_at hl 0 rfl) ?_
  refine lv_iconst (v := 4) hx hb dX9_leastOf_36 (by decide) ?_
  refine f_icmp_ge hx hb dX9_leastOf_37 69 (by decide) (by decide +kernel) ?_
  refine lv_aload_n hx hb dX9_leastOf_40 rfl (lv_at hl 1 rfl) ?_
  refine gf (k := 19) hx hb hts inX9 hown hK hP k_814 rfl (by decide) rfl 0 rfl (.ref a1) rfl dX9_leastOf_41 ?_
  refine lv_iconst (v := 4) hx hb dX9_leastOf_44 (by decide) ?_
  refine lv_aload_n hx hb dX9_leastOf_45 rfl (lv_at hl 1 rfl) ?_
  refine gf (k := 22) hx hb hts inX9 hown hK hP k_817 rfl (by decide) rfl 0 rfl (.int 1) rfl dX9_leastOf_46 ?_
  refine v_imul hx hb dX9_leastOf_49 4 (by decide +kernel) ?_
  refine lv_iload_n hx hb dX9_leastOf_50 rfl (lv_at hl 0 rfl) ?_
  refine v_iadd hx hb dX9_leastOf_51 6 (by decide +kernel) ?_
  refine lv_aload_n hx hb dX9_leastOf_52 rfl (lv_at hl 1 rfl) ?_
  refine gf (k := 15) hx hb hts inX9 hown hK hP k_810 rfl (by decide) rfl 0 rfl (.ref a2) rfl dX9_leastOf_53 ?_
  refine lv_iconst (v := 4) hx hb dX9_leastOf_56 (by decide) ?_
  refine lv_iload_n hx hb dX9_leastOf_57 rfl (lv_at hl 2 rfl) ?_
  refine v_imul hx hb dX9_leastOf_58 4 (by decide +kernel) ?_
  refine lv_iload_n hx hb dX9_leastOf_59 rfl (lv_at hl 0 rfl) ?_
  refine v_iadd hx hb dX9_leastOf_60 6 (by decide +kernel) ?_
  refine ld_i hx hb hK hP 2 rfl (vin (by decide +kernel)) dX9_leastOf_61 0 rfl ?_
  refine st_i hx hb hK hP hD hS 1 rfl (vin (by decide +kernel)) dX9_leastOf_62 (L' := [(-1), 0, 0, 0, 1, 0, 0]) rfl (W' := [(a0, .inr (9, [.ref a3, .ref a4, .ref a5, .ref a6, .ref a7, .ref a8, .ref a9, .ref a10, .ref a11, .ref a12, .ref a13, .ref a14, .int 1, .int 0, .int 1, .ref a2, .ref a15, .ref a16, .ref a17, .ref a1, .ref a18, .int 2, .int 1, .ref a19, .ref a20, .ref a21, .ref a22, .int 0, .int 1, .ref a23, .ref a24, .ref a25, .ref a26, .int 0, .ref a27, .int 0])), (a1, .inl (cI, 24000, .inl (tb [(-1), 0, 0, 0, 1, 0, 0]))), (a2, .inl (cI, 400000, .inl (tb [(-1), 0, 0, 0, 1, 0, 0, 0])))]) rfl (fun H locs hP hD hS => ?_)
  refine lv_iinc (v := 3) (lv' := [(2, .int 3), (0, .ref a0), (1, .int 1)]) hx hb dX9_leastOf_63 hl (k := 0) rfl (by decide +kernel) (by decide) rfl (fun ls hl => ?_)
  refine lv_goto (tgt := 35) hx hb dX9_leastOf_66 (by decide) ?_
  refine lv_iload_n hx hb dX9_leastOf_35 rfl (lv_at hl 0 rfl) ?_
  refine lv_iconst (v := 4) hx hb dX9_leastOf_36 (by decide) ?_
  refine f_icmp_ge hx hb dX9_leastOf_37 69 (by decide) (by decide +kernel) ?_
  refine lv_aload_n hx hb dX9_leastOf_40 rfl (lv_at hl 1 rfl) ?_
  refine gf (k := 19) hx hb hts inX9 hown hK hP k_814 rfl (by decide) rfl 0 rfl (.ref a1) rfl dX9_leastOf_41 ?_
  refine lv_iconst (v := 4) hx hb dX9_leastOf_44 (by decide) ?_
  refine lv_aload_n hx hb dX9_leastOf_45 rfl (lv_at hl 1 rfl) ?_
  refine gf (k := 22) hx hb hts inX9 hown hK hP k_817 rfl (by decide) rfl 0 rfl (.int 1) rfl dX9_leastOf_46 ?_
  refine v_imul hx hb dX9_leastOf_49 4 (by decide +kernel) ?_
  refine lv_iload_n hx hb dX9_leastOf_50 rfl (lv_at hl 0 rfl) ?_
  refine v_iadd hx hb dX9_leastOf_51 7 (by decide +kernel) ?_
  refine lv_aload_n hx hb dX9_leastOf_52 rfl (lv_at hl 1 rfl) ?_
  refine gf (k := 15) hx hb hts inX9 hown hK hP k_810 rfl (by decide) rfl 0 rfl (.ref a2) rfl dX9_leastOf_53 ?_
  refine lv_iconst (v := 4) hx hb dX9_leastOf_56 (by decide) ?_
  refine lv_iload_n hx hb dX9_leastOf_57 rfl (lv_at hl 2 rfl) ?_
  refine v_imul hx hb dX9_leastOf_58 4 (by decide +kernel) ?_
  refine lv_iload_n hx hb dX9_leastOf_59 rfl (lv_at hl 0 rfl) ?_
  refine v_iadd hx hb dX9_leastOf_60 7 (by decide +kernel) ?_
  refine ld_i hx hb hK hP 2 rfl (vin (by decide +kernel)) dX9_leastOf_61 0 rfl ?_
  refine st_i hx hb hK hP hD hS 1 rfl (vin (by decide +kernel)) dX9_leastOf_62 (L' := [(-1), 0, 0, 0, 1, 0, 0, 0]) rfl (W' := [(a0, .inr (9, [.ref a3, .ref a4, .ref a5, .ref a6, .ref a7, .ref a8, .ref a9, .ref a10, .ref a11, .ref a12, .ref a13, .ref a14, .int 1, .int 0, .int 1, .ref a2, .ref a15, .ref a16, .ref a17, .ref a1, .ref a18, .int 2, .int 1, .ref a19, .ref a20, .ref a21, .ref a22, .int 0, .int 1, .ref a23, .ref a24, .ref a25, .ref a26, .int 0, .ref a27, .int 0])), (a1, .inl (cI, 24000, .inl (tb [(-1), 0, 0, 0, 1, 0, 0, 0]))), (a2, .inl (cI, 400000, .inl (tb [(-1), 0, 0, 0, 1, 0, 0, 0])))]) rfl (fun H locs hP hD hS => ?_)
  refine lv_iinc (v := 4) (lv' := [(2, .int 4), (0, .ref a0), (1, .int 1)]) hx hb dX9_leastOf_63 hl (k := 0) rfl (by decide +kernel) (by decide) rfl (fun ls hl => ?_)
  refine lv_goto (tgt := 35) hx hb dX9_leastOf_66 (by decide) ?_
  exact c388_X9_leastOf_s1 l dC dI cI cJ cII cJJ g a0 a1 a2 a3 a4 a5 a6 a7 a8 a9 a10 a11 a12 a13 a14 a15 a16 a17 a18 a19 a20 a21 a22 a23 a24 a25 a26 a27 hx hb hr hml hown hts hk hA hK hP hD hS hX hl
