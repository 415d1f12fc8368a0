set_option maxRecDepth 100000 in
set_option maxHeartbeats 4000000 in
theorem c230_X8_less (l : Launch) (dC : Nat → ClassId) (dI : Nat → Nat → Nat) (cI cJ cII cJJ : ClassId) (sz g a0 a1 a2 a3 a4 a5 a6 a7 a8 a9 a10 a11 a12 a13 a14 a15 a16 a17 a18 a19 a20 a21 : Nat) (x0 : Int32) (h_x0 : 0 ≤ x0.toInt ∧ x0.toInt ≤ 10) : Met l yX8_less (.code yX8_less cX8_less 3 (some .int) :: TT) ({ frames := 6, cells := 0, slots := 0, locals := 320 }) (PcS dC dI (TY cI cJ cII cJJ) [.ref a0, .int x0] [(a0, .inr (8, [.ref a2, .ref a11, .ref a1, .ref a12, .ref a9, .ref a8, .ref a10, .ref a13])), (a1, .inr (4, [.ref a2, .ref a7, .ref a14, .ref a5, .ref a6, .ref a15, .ref a16, .ref a17, .int 0, .int 0, .int 0, .int 1])), (a2, .inr (3, [.int 1, .int 0, .ref a18, .ref a19, .ref a4, .ref a3, .ref a20, .ref a21])), (a3, .inl (cI, 4, .inl (tb [10, 10, 10, 10]))), (a4, .inl (cI, 4, .inl (tb [0, 0, 0, 0]))), (a5, .inl (cI, 4, .inl (tb []))), (a6, .inl (cI, 4, .inl (tb []))), (a7, .inl (cI, 9261, .inl (tb []))), (a8, .inl (cI, 4, .inl (tb []))), (a9, .inl (cI, 4, .inl (tb []))), (a10, .inl (cJ, 4, .inr (.inl (tbl []))))] sz 0 g) ((QcI dC dI (TY cI cJ cII cJJ) 1 []) (va_A [(a0, .inr (8, [.ref a2, .ref a11, .ref a1, .ref a12, .ref a9, .ref a8, .ref a10, .ref a13])), (a1, .inr (4, [.ref a2, .ref a7, .ref a14, .ref a5, .ref a6, .ref a15, .ref a16, .ref a17, .int 0, .int 0, .int 0, .int 1])), (a2, .inr (3, [.int 1, .int 0, .ref a18, .ref a19, .ref a4, .ref a3, .ref a20, .ref a21])), (a3, .inl (cI, 4, .inl (tb [10, 10, 10, 10]))), (a4, .inl (cI, 4, .inl (tb [0, 0, 0, 0]))), (a5, .inl (cI, 4, .inl (tb []))), (a6, .inl (cI, 4, .inl (tb []))), (a7, .inl (cI, 9261, .inl (tb []))), (a8, .inl (cI, 4, .inl (tb []))), (a9, .inl (cI, 4, .inl (tb []))), (a10, .inl (cJ, 4, .inr (.inl (tbl []))))] sz)) 0 0 (va_A [(a0, .inr (8, [.ref a2, .ref a11, .ref a1, .ref a12, .ref a9, .ref a8, .ref a10, .ref a13])), (a1, .inr (4, [.ref a2, .ref a7, .ref a14, .ref a5, .ref a6, .ref a15, .ref a16, .ref a17, .int 0, .int 0, .int 0, .int 1])), (a2, .inr (3, [.int 1, .int 0, .ref a18, .ref a19, .ref a4, .ref a3, .ref a20, .ref a21])), (a3, .inl (cI, 4, .inl (tb [10, 10, 10, 10]))), (a4, .inl (cI, 4, .inl (tb [0, 0, 0, 0]))), (a5, .inl (cI, 4, .inl (tb []))), (a6, .inl (cI, 4, .inl (tb []))), (a7, .inl (cI, 9261, .inl (tb []))), (a8, .inl (cI, 4, .inl (tb []))), (a9, .inl (cI, 4, .inl (tb []))), (a10, .inl (cJ, 4, .inr (.inl (tbl []))))] sz) := by
  refine SM.of (y := yX8_less) (maxL := 3) (av := [.ref a0, .int x0]) (QcI dC dI (TY cI cJ cII cJJ) 1 []) (by decide +kernel) (Nat.le_of_ble_eq_true rfl) (fun p e s m below meth c A ls hx hb hr hml hown hts hk hnm hA hK hP hD hS hX hl => ?_)
  have hown : s.vm.findClass RX8 = some m.cls := hown
  have hl : lv_has ls 3 [(0, .ref a0), (1, .int x0)] := hl
  refine lv_aload_n hx hb dX8_less_0 rfl (lv_at hl 0 rfl) ?_
  refine kV_a (q0 := 0) ⟨hx, hb, hml, hown, hts⟩ hK hP hD hS hA hX cv_RX8_196 [0, 1, 2, 3, 4, 5, 6, 7] [8, 9, 10] (wr := [(a8, .inl (cI, 4, .inl (tb []))), (a9, .inl (cI, 4, .inl (tb []))), (a10, .inl (cJ, 4, .inr (.inl (tbl []))))]) rfl rfl rfl rfl (by decide) (c208_X8_freshPlans l dC dI cI cJ cII cJJ s.heap.size 0 a0 a1 a2 a3 a4 a5 a6 a7 a11 a12 a9 a8 a10 a13 a14 a15 a16 a17 a18 a19 a20 a21) ⟨by decide +kernel, by decide +kernel⟩ rfl rfl (Or.inl rfl) (rest := []) rfl rfl rfl hl.1 rfl (Nat.le_of_ble_eq_true rfl) dX8_less_1 ⟨Nat.le_of_ble_eq_true rfl, Nat.le_of_ble_eq_true rfl⟩ (W' := [(a8, .inl (cI, 4, .inl (tb []))), (a9, .inl (cI, 4, .inl (tb []))), (a10, .inl (cJ, 4, .inr (.inl (tbl [])))), (a0, .inr (8, [.ref a2, .ref a11, .ref a1, .ref a12, .ref a9, .ref a8, .ref a10, .ref a13])), (a2, .inr (3, [.int 1, .int 0, .ref a18, .ref a19, .ref a4, .ref a3, .ref a20, .ref a21])), (a4, .inl (cI, 4, .inl (tb [0, 0, 0, 0]))), (a5, .inl (cI, 4, .inl (tb [0]))), (a3, .inl (cI, 4, .inl (tb [10, 10, 10, 10]))), (a6, .inl (cI, 4, .inl (tb [10]))), (a1, .inr (4, [.ref a2, .ref a7, .ref a14, .ref a5, .ref a6, .ref a15, .ref a16, .ref a17, .int 1, .int 11, .int 1, .int 0])), (a7, .inl (cI, 9261, .inl (tb [10])))]) rfl (fun H locs hP hD hS => ?_)
  refine lv_iload_n hx hb dX8_less_4 rfl (lv_at hl 1 rfl) ?_
  refine kV_i (q0 := 0) ⟨hx, hb, hml, hown, hts⟩ hK hP hD hS hA hX cv_RX8_201 [9] [0, 1, 2, 3, 4, 5, 6, 7, 8, 10] (wr := [(a8, .inl (cI, 4, .inl (tb []))), (a9, .inl (cI, 4, .inl (tb []))), (a10, .inl (cJ, 4, .inr (.inl (tbl [])))), (a0, .inr (8, [.ref a2, .ref a11, .ref a1, .ref a12, .ref a9, .ref a8, .ref a10, .ref a13])), (a2, .inr (3, [.int 1, .int 0, .ref a18, .ref a19, .ref a4, .ref a3, .ref a20, .ref a21])), (a4, .inl (cI, 4, .inl (tb [0, 0, 0, 0]))), (a5, .inl (cI, 4, .inl (tb [0]))), (a3, .inl (cI, 4, .inl (tb [10, 10, 10, 10]))), (a6, .inl (cI, 4, .inl (tb [10]))), (a7, .inl (cI, 9261, .inl (tb [10])))]) rfl rfl rfl rfl (by decide) (c220_X4_isNumber l dC dI cI cJ cII cJJ H.size 0 a1 a2 a7 a14 a5 a6 a15 a16 a17 x0 h_x0) ⟨by decide +kernel, by decide +kernel⟩ rfl rfl (Or.inl rfl) (rest := []) rfl rfl rfl hl.1 rfl (Nat.le_of_ble_eq_true rfl) dX8_less_5 ⟨Nat.le_of_ble_eq_true rfl, Nat.le_of_ble_eq_true rfl⟩ (W' := [(a8, .inl (cI, 4, .inl (tb []))), (a9, .inl (cI, 4, .inl (tb []))), (a10, .inl (cJ, 4, .inr (.inl (tbl [])))), (a0, .inr (8, [.ref a2, .ref a11, .ref a1, .ref a12, .ref a9, .ref a8, .ref a10, .ref a13])), (a2, .inr (3, [.int 1, .int 0, .ref a18, .ref a19, .ref a4, .ref a3, .ref a20, .ref a21])), (a4, .inl (cI, 4, .inl (tb [0, 0, 0, 0]))), (a5, .inl (cI, 4, .inl (tb [0]))), (a3, .inl (cI, 4, .inl (tb [10, 10, 10, 10]))), (a6, .inl (cI, 4, .inl (tb [10]))), (a7, .inl (cI, 9261, .inl (tb [10]))), (a1, .inr (4, [.ref a2, .ref a7, .ref a14, .ref a5, .ref a6, .ref a15, .ref a16, .ref a17, .int 1, .int 11, .int 1, .int 0]))]) rfl (fun H locs hP hD hS => ?_)
  refine t_if_ne hx hb dX8_less_8 17 (by decide) (by decide +kernel) ?_
  refine lv_aload_n hx hb dX8_less_17 rfl (lv_at hl 0 rfl) ?_
  refine gf (k := 2) hx hb hts inX8 hown hK hP k_266 rfl (by decide) rfl 3 rfl (.ref a1) rfl dX8_less_18 ?_
  refine lv_iload_n hx hb dX8_less_21 rfl (lv_at hl 1 rfl) ?_
  refine lv_aload_n hx hb dX8_less_22 rfl (lv_at hl 0 rfl) ?_
  refine gf (k := 5) hx hb hts inX8 hown hK hP k_269 rfl (by decide) rfl 3 rfl (.ref a8) rfl dX8_less_23 ?_
  refine kV_v (q0 := 0) ⟨hx, hb, hml, hown, hts⟩ hK hP hD hS hA hX cv_RX8_204 [10, 9, 0, 4] [1, 2, 3, 5, 6, 7, 8] (wr := [(a9, .inl (cI, 4, .inl (tb []))), (a10, .inl (cJ, 4, .inr (.inl (tbl [])))), (a0, .inr (8, [.ref a2, .ref a11, .ref a1, .ref a12, .ref a9, .ref a8, .ref a10, .ref a13])), (a4, .inl (cI, 4, .inl (tb [0, 0, 0, 0]))), (a5, .inl (cI, 4, .inl (tb [0]))), (a3, .inl (cI, 4, .inl (tb [10, 10, 10, 10]))), (a6, .inl (cI, 4, .inl (tb [10])))]) rfl rfl rfl rfl (by decide) (c223_X4_read l dC dI cI cJ cII cJJ H.size 0 a1 a7 a8 a2 a14 a5 a6 a15 a16 a17 a18 a19 a4 a3 a20 a21 x0 h_x0) ⟨by decide +kernel, by decide +kernel⟩ rfl rfl (Or.inl rfl) (rest := []) rfl rfl rfl hl.1 rfl (Nat.le_of_ble_eq_true rfl) dX8_less_26 ⟨Nat.le_of_ble_eq_true rfl, Nat.le_of_ble_eq_true rfl⟩ (fun _ => rfl) (W' := [(a9, .inl (cI, 4, .inl (tb []))), (a10, .inl (cJ, 4, .inr (.inl (tbl [])))), (a0, .inr (8, [.ref a2, .ref a11, .ref a1, .ref a12, .ref a9, .ref a8, .ref a10, .ref a13])), (a4, .inl (cI, 4, .inl (tb [0, 0, 0, 0]))), (a5, .inl (cI, 4, .inl (tb [0]))), (a3, .inl (cI, 4, .inl (tb [10, 10, 10, 10]))), (a6, .inl (cI, 4, .inl (tb [10]))), (a1, .inr (4, [.ref a2, .ref a7, .ref a14, .ref a5, .ref a6, .ref a15, .ref a16, .ref a17, .int 1, .int 11, .int 1, .int 0])), (a7, .inl (cI, 9261, .inl (tb [10]))), (a2, .inr (3, [.int 1, .int 0, .ref a18, .ref a19, .ref a4, .ref a3, .ref a20, .ref a21])), (a8, .inl (cI, 4, .inl (tb [x0, 0, 0, 0])))]) rfl (fun H locs hP hD hS => ?_)
  refine lv_iconst (v := 0) hx hb dX8_less_29 (by decide) ?_
  refine lv_istore_n (lv' := [(2, .int 0), (0, .ref a0), (1, .int x0)]) hx hb dX8_less_30 rfl hl (by decide) rfl (fun ls hl => ?_)
  refine lv_iload_n hx hb dX8_less_31 rfl (lv_at hl 0 rfl) ?_
  refine lv_iconst (v := 4) hx hb dX8_less_32 (by decide) ?_
  refine f_icmp_ge hx hb dX8_less_33 62 (by decide) (by decide +kernel) ?_
  refine lv_aload_n hx hb dX8_less_36 rfl (lv_at hl 1 rfl) ?_
  refine gf (k := 6) hx hb hts inX8 hown hK hP k_270 rfl (by decide) rfl 2 rfl (.ref a10) rfl dX8_less_37 ?_
  refine lv_iload_n hx hb dX8_less_40 rfl (lv_at hl 0 rfl) ?_
  refine lv_aload_n hx hb dX8_less_41 rfl (lv_at hl 1 rfl) ?_
  refine gf (k := 4) hx hb hts inX8 hown hK hP k_268 rfl (by decide) rfl 2 rfl (.ref a9) rfl dX8_less_42 ?_
  refine lv_iload_n hx hb dX8_less_45 rfl (lv_at hl 0 rfl) ?_
  refine ld_i hx hb hK hP 0 rfl (vin (by decide +kernel)) dX8_less_46 0 rfl ?_
  refine lv_aload_n hx hb dX8_less_47 rfl (lv_at hl 1 rfl) ?_
  refine gf (k := 5) hx hb hts inX8 hown hK hP k_269 rfl (by decide) rfl 2 rfl (.ref a8) rfl dX8_less_48 ?_
  refine lv_iload_n hx hb dX8_less_51 rfl (lv_at hl 0 rfl) ?_
  refine ld_i hx hb hK hP 10 rfl (vin (by decide +kernel)) dX8_less_52 x0 rfl ?_
  refine v_isub hx hb dX8_less_53 _ rfl ?_
  refine lv_topi (fun z79 e_z79 => ?_)
  have h_z79 : -10 ≤ z79.toInt ∧ z79.toInt ≤ 0 := by rw [e_z79]; exact (s_sub32 (s_lit32 (a := 0) 0 (by decide +kernel)) h_x0 (by decide +kernel) (by decide +kernel))
  obtain ⟨z80, e_z80⟩ : ∃ w : Int64, w = z79.toInt64 := ⟨_, rfl⟩
  have h_z80 := s_i2l e_z80 h_z79
  refine lv_i2l (v := z80) hx hb dX8_less_54 e_z80.symm ?_
  refine st_l hx hb hK hP hD hS 1 rfl (vin (by decide +kernel)) dX8_less_55 (L' := [z80]) rfl (W' := [(a9, .inl (cI, 4, .inl (tb []))), (a10, .inl (cJ, 4, .inr (.inl (tbl [z80])))), (a0, .inr (8, [.ref a2, .ref a11, .ref a1, .ref a12, .ref a9, .ref a8, .ref a10, .ref a13])), (a4, .inl (cI, 4, .inl (tb [0, 0, 0, 0]))), (a5, .inl (cI, 4, .inl (tb [0]))), (a3, .inl (cI, 4, .inl (tb [10, 10, 10, 10]))), (a6, .inl (cI, 4, .inl (tb [10]))), (a1, .inr (4, [.ref a2, .ref a7, .ref a14, .ref a5, .ref a6, .ref a15, .ref a16, .ref a17, .int 1, .int 11, .int 1, .int 0])), (a7, .inl (cI, 9261, .inl (tb [10]))), (a2, .inr (3, [.int 1, .int 0, .ref a18, .ref a19, .ref a4, .ref a3, .ref a20, .ref a21])), (a8, .inl (cI, 4, .inl (tb [x0, 0, 0, 0])))]) rfl (fun H locs hP hD hS => ?_)
  refine lv_iinc (v := 1) (lv' := [(2, .int 1), (0, .ref a0), (1, .int x0)]) hx hb dX8_less_56 hl (k := 0) rfl (by decide +kernel) (by decide) rfl (fun ls hl => ?_)
  refine lv_goto (tgt := 31) hx hb dX8_less_59 (by decide) ?_
  refine lv_iload_n hx hb dX8_less_31 rfl (lv_at hl 0 rfl) ?_
  refine lv_iconst (v := 4) hx hb dX8_less_32 (by decide) ?_
  refine f_icmp_ge hx hb dX8_less_33 62 (by decide) (by decide +kernel) ?_
  refine lv_aload_n hx hb dX8_less_36 rfl (lv_at hl 1 rfl) ?_
  refine gf (k := 6) hx hb hts inX8 hown hK hP k_270 rfl (by decide) rfl 2 rfl (.ref a10) rfl dX8_less_37 ?_
  refine lv_iload_n hx hb dX8_less_40 rfl (lv_at hl 0 rfl) ?_
  refine lv_aload_n hx hb dX8_less_41 rfl (lv_at hl 1 rfl) ?_
  refine gf (k := 4) hx hb hts inX8 hown hK hP k_268 rfl (by decide) rfl 2 rfl (.ref a9) rfl dX8_less_42 ?_
  refine lv_iload_n hx hb dX8_less_45 rfl (lv_at hl 0 rfl) ?_
  refine ld_i hx hb hK hP 0 rfl (vin (by decide +kernel)) dX8_less_46 0 rfl ?_
  refine lv_aload_n hx hb dX8_less_47 rfl (lv_at hl 1 rfl) ?_
  refine gf (k := 5) hx hb hts inX8 hown hK hP k_269 rfl (by decide) rfl 2 rfl (.ref a8) rfl dX8_less_48 ?_
  refine lv_iload_n hx hb dX8_less_51 rfl (lv_at hl 0 rfl) ?_
  refine ld_i hx hb hK hP 10 rfl (vin (by decide +kernel)) dX8_less_52 0 rfl ?_
  refine v_isub hx hb dX8_less_53 0 (by decide +kernel) ?_
  refine lv_i2l (v := 0) hx hb dX8_less_54 (by decide +kernel) ?_
  refine st_l hx hb hK hP hD hS 1 rfl (vin (by decide +kernel)) dX8_less_55 (L' := [z80, 0]) rfl (W' := [(a9, .inl (cI, 4, .inl (tb []))), (a10, .inl (cJ, 4, .inr (.inl (tbl [z80, 0])))), (a0, .inr (8, [.ref a2, .ref a11, .ref a1, .ref a12, .ref a9, .ref a8, .ref a10, .ref a13])), (a4, .inl (cI, 4, .inl (tb [0, 0, 0, 0]))), (a5, .inl (cI, 4, .inl (tb [0]))), (a3, .inl (cI, 4, .inl (tb [10, 10, 10, 10]))), (a6, .inl (cI, 4, .inl (tb [10]))), (a1, .inr (4, [.ref a2, .ref a7, .ref a14, .ref a5, .ref a6, .ref a15, .ref a16, .ref a17, .int 1, .int 11, .int 1, .int 0])), (a7, .inl (cI, 9261, .inl (tb [10]))), (a2, .inr (3, [.int 1, .int 0, .ref a18, .ref a19, .ref a4, .ref a3, .ref a20, .ref a21])), (a8, .inl (cI, 4, .inl (tb [x0, 0, 0, 0])))]) rfl (fun H locs hP hD hS => ?_)
  refine lv_iinc (v := 2) (lv' := [(2, .int 2), (0, .ref a0), (1, .int x0)]) hx hb dX8_less_56 hl (k := 0) rfl (by decide +kernel) (by decide) rfl (fun ls hl => ?_)
  refine lv_goto (tgt := 31) hx hb dX8_less_59 (by decide) ?_
  refine lv_iload_n hx hb dX8_less_31 rfl (lv_at hl 0 rfl) ?_
  refine lv_iconst (v := 4) hx hb dX8_less_32 (by decide) ?_
  refine f_icmp_ge hx hb dX8_less_33 62 (by decide) (by decide +kernel) ?_
  refine lv_aload_n hx hb dX8_less_36 rfl (lv_at hl 1 rfl) ?_
  refine gf (k := 6) hx hb hts inX8 hown hK hP k_270 rfl (by decide) rfl 2 rfl (.ref a10) rfl dX8_less_37 ?_
  refine lv_iload_n hx hb dX8_less_40 rfl (lv_at hl 0 rfl) ?_
  refine lv_aload_n hx hb dX8_less_41 rfl (lv_at hl 1 rfl) ?_
  refine gf (k := 4) hx hb hts inX8 hown hK hP k_268 rfl (by decide) rfl 2 rfl (.ref a9) rfl dX8_less_42 ?_
  refine lv_iload_n hx hb dX8_less_45 rfl (lv_at hl 0 rfl) ?_
  refine ld_i hx hb hK hP 0 rfl (vin (by decide +kernel)) dX8_less_46 0 rfl ?_
  refine lv_aload_n hx hb dX8_less_47 rfl (lv_at hl 1 rfl) ?_
  refine gf (k := 5) hx hb hts inX8 hown hK hP k_269 rfl (by decide) rfl 2 rfl (.ref a8) rfl dX8_less_48 ?_
  refine lv_iload_n hx hb dX8_less_51 rfl (lv_at hl 0 rfl) ?_
  refine ld_i hx hb hK hP 10 rfl (vin (by decide +kernel)) dX8_less_52 0 rfl ?_
  refine v_isub hx hb dX8_less_53 0 (by decide +kernel) ?_
  refine lv_i2l (v := 0) hx hb dX8_less_54 (by decide +kernel) ?_
  refine st_l hx hb hK hP hD hS 1 rfl (vin (by decide +kernel)) dX8_less_55 (L' := [z80, 0, 0]) rfl (W' := [(a9, .inl (cI, 4, .inl (tb []))), (a10, .inl (cJ, 4, .inr (.inl (tbl [z80, 0, 0])))), (a0, .inr (8, [.ref a2, .ref a11, .ref a1, .ref a12, .ref a9, .ref a8, .ref a10, .ref a13])), (a4, .inl (cI, 4, .inl (tb [0, 0, 0, 0]))), (a5, .inl (cI, 4, .inl (tb [0]))), (a3, .inl (cI, 4, .inl (tb [10, 10, 10, 10]))), (a6, .inl (cI, 4, .inl (tb [10]))), (a1, .inr (4, [.ref a2, .ref a7, .ref a14, .ref a5, .ref a6, .ref a15, .ref a16, .ref a17, .int 1, .int 11, .int 1, .int 0])), (a7, .inl (cI, 9261, .inl (tb [10]))), (a2, .inr (3, [.int 1, .int 0, .ref a18, .ref a19, .ref a4, .ref a3, .ref a20, .ref a21])), (a8, .inl (cI, 4, .inl (tb [x0, 0, 0, 0])))]) rfl (fun H locs hP hD hS => ?_)
  refine lv_iinc (v := 3) (lv' := [(2, .int 3), (0, .ref a0), (1, .int x0)]) hx hb dX8_less_56 hl (k := 0) rfl (by decide +kernel) (by decide) rfl (fun ls hl => ?_)
  refine lv_goto (tgt := 31) hx hb dX8_less_59 (by decide) ?_
  refine lv_iload_n hx hb dX8_less_31 rfl (lv_at hl 0 rfl) ?_
  refine lv_iconst (v := 4) hx hb dX8_less_32 (by decide) ?_
  refine f_icmp_ge hx hb dX8_less_33 62 (by decide) (by decide +kernel) ?_
  refine lv_aload_n hx hb dX8_less_36 rfl (lv_at hl 1 rfl) ?_
  refine gf (k := 6) hx hb hts inX8 hown hK hP k_270 rfl (by decide) rfl 2 rfl (.ref a10) rfl dX8_less_37 ?_
  refine lv_iload_n hx hb dX8_less_40 rfl (lv_at hl 0 rfl) ?_
  refine lv_aload_n hx hb dX8_less_41 rfl (lv_at hl 1 rfl) ?_
  refine gf (k := 4) hx hb hts inX8 hown hK hP k_268 rfl (by decide) rfl 2 rfl (.ref a9) rfl dX8_less_42 ?_
  refine lv_iload_n hx hb dX8_less_45 rfl (lv_at hl 0 rfl) ?_
  refine ld_i hx hb hK hP 0 rfl (vin (by decide +kernel)) dX8_less_46 0 rfl ?_
  refine lv_aload_n hx hb dX8_less_47 rfl (lv_at hl 1 rfl) ?_
  refine gf (k := 5) hx hb hts inX8 hown hK hP k_269 rfl (by decide) rfl 2 rfl (.ref a8) rfl dX8_less_48 ?_
  refine lv_iload_n hx hb dX8_less_51 rfl (lv_at hl 0 rfl) ?_
  refine ld_i hx hb hK hP 10 rfl (vin (by decide +kernel)) dX8_less_52 0 rfl ?_
  refine v_isub hx hb dX8_less_53 0 (by decide +kernel) ?_
  refine lv_i2l (v := 0) hx hb dX8_less_54 (by decide +kernel) ?_
  refine st_l hx hb hK hP hD hS 1 rfl (vin (by decide +kernel)) dX8_less_55 (L' := [z80, 0, 0, 0]) rfl (W' := [(a9, .inl (cI, 4, .inl (tb []))), (a10, .inl (cJ, 4, .inr (.inl (tbl [z80, 0, 0, 0])))), (a0, .inr (8, [.ref a2, .ref a11, .ref a1, .ref a12, .ref a9, .ref a8, .ref a10, .ref a13])), (a4, .inl (cI, 4, .inl (tb [0, 0, 0, 0]))), (a5, .inl (cI, 4, .inl (tb [0]))), (a3, .inl (cI, 4, .inl (tb [10, 10, 10, 10]))), (a6, .inl (cI, 4, .inl (tb [10]))), (a1, .inr (4, [.ref a2, .ref a7, .ref a14, .ref a5, .ref a6, .ref a15, .ref a16, .ref a17, .int 1, .int 11, .int 1, .int 0])), (a7, .inl (cI, 9261, .inl (tb [10]))), (a2, .inr (3, [.int 1, .int 0, .ref a18, .ref a19, .ref a4, .ref a3, .ref a20, .ref a21])), (a8, .inl (cI, 4, .inl (tb [x0, 0, 0, 0])))]) rfl (fun H locs hP hD hS => ?_)
  refine lv_iinc (v := 4) (lv' := [(2, .int 4), (0, .ref a0), (1, .int x0)]) hx hb dX8_less_56 hl (k := 0) rfl (by decide +kernel) (by decide) rfl (fun ls hl => ?_)
  refine lv_goto (tgt := 31) hx hb dX8_less_59 (by decide) ?_
  refine lv_iload_n hx hb dX8_less_31 rfl (lv_at hl 0 rfl) ?_
  refine lv_iconst (v := 4) hx hb dX8_less_32 (by decide) ?_
  refine t_icmp_ge hx hb dX8_less_33 62 (by decide) (by decide +kernel) ?_
  refine lv_aload_n hx hb dX8_less_62 rfl (lv_at hl 1 rfl) ?_
  refine kV_i (q0 := 0) ⟨hx, hb, hml, hown, hts⟩ hK hP hD hS hA hX cv_RX8_184 [2, 1, 0] [3, 4, 5, 6, 7, 8, 9, 10] (wr := [(a4, .inl (cI, 4, .inl (tb [0, 0, 0, 0]))), (a5, .inl (cI, 4, .inl (tb [0]))), (a3, .inl (cI, 4, .inl (tb [10, 10, 10, 10]))), (a6, .inl (cI, 4, .inl (tb [10]))), (a1, .inr (4, [.ref a2, .ref a7, .ref a14, .ref a5, .ref a6, .ref a15, .ref a16, .ref a17, .int 1, .int 11, .int 1, .int 0])), (a7, .inl (cI, 9261, .inl (tb [10]))), (a2, .inr (3, [.int 1, .int 0, .ref a18, .ref a19, .ref a4, .ref a3, .ref a20, .ref a21])), (a8, .inl (cI, 4, .inl (tb [x0, 0, 0, 0])))]) rfl rfl rfl rfl (by decide) (c231_X8_moveHand l dC dI cI cJ cII cJJ H.size 0 a0 a10 a9 a2 a11 a1 a12 a8 a13 z80 h_z80) ⟨by decide +kernel, by decide +kernel⟩ rfl rfl (Or.inl rfl) (rest := []) rfl rfl rfl hl.1 rfl (Nat.le_of_ble_eq_true rfl) dX8_less_63 ⟨Nat.le_of_ble_eq_true rfl, Nat.le_of_ble_eq_true rfl⟩ (W' := [(a4, .inl (cI, 4, .inl (tb [0, 0, 0, 0]))), (a5, .inl (cI, 4, .inl (tb [0]))), (a3, .inl (cI, 4, .inl (tb [10, 10, 10, 10]))), (a6, .inl (cI, 4, .inl (tb [10]))), (a1, .inr (4, [.ref a2, .ref a7, .ref a14, .ref a5, .ref a6, .ref a15, .ref a16, .ref a17, .int 1, .int 11, .int 1, .int 0])), (a7, .inl (cI, 9261, .inl (tb [10]))), (a2, .inr (3, [.int 1, .int 0, .ref a18, .ref a19, .ref a4, .ref a3, .ref a20, .ref a21])), (a8, .inl (cI, 4, .inl (tb [x0, 0, 0, 0])))]) rfl (fun H locs hP hD hS => ?_)
  exact r_i hx hb hr hk hK (hP.sub [] rfl) (hD.sub [] rfl rfl) hS dX8_less_66
set_option maxRecDepth 100000 in
set_option maxHeartbeats 4000000 in
theorem c234_X4_blockOf (l : Launch) (dC : Nat → ClassId) (dI : Nat → Nat → Nat) (cI cJ cII cJJ : ClassId) (sz g a0 a1 a2 a3 a4 a5 a6 a7 a8 : Nat) : Met l yX4_blockOf (.code yX4_blockOf cX4_blockOf 6 (some .int) :: TT) ({ frames := 2, cells := 0, slots := 0, locals := 80 }) (PcS dC dI (TY cI cJ cII cJJ) [.ref a0, .int 10] [(a0, .inr (4, [.ref a1, .ref a2, .ref a3, .ref a4, .ref a5, .ref a6, .ref a7, .ref a8, .int 1, .int 11, .int 1, .int 0]))] sz 0 g) ((QcI dC dI (TY cI cJ cII cJJ) 0 [(a0, .inr (4, [.ref a1, .ref a2, .ref a3, .ref a4, .ref a5, .ref a6, .ref a7, .ref a8, .int 1, .int 11, .int 1, .int 0]))]) (va_A [(a0, .inr (4, [.ref a1, .ref a2, .ref a3, .ref a4, .ref a5, .ref a6, .ref a7, .ref a8, .int 1, .int 11, .int 1, .int 0]))] sz)) 0 0 (va_A [(a0, .inr (4, [.ref a1, .ref a2, .ref a3, .ref a4, .ref a5, .ref a6, .ref a7, .ref a8, .int 1, .int 11, .int 1, .int 0]))] sz) := by
  refine SM.of (y := yX4_blockOf) (maxL := 6) (av := [.ref a0, .int 10]) (QcI dC dI (TY cI cJ cII cJJ) 0 [(a0, .inr (4, [.ref a1, .ref a2, .ref a3, .ref a4, .ref a5, .ref a6, .ref a7, .ref a8, .int 1, .int 11, .int 1, .int 0]))]) (by decide +kernel) (Nat.le_of_ble_eq_true rfl) (fun p e s m below meth c A ls hx hb hr hml hown hts hk hnm hA hK hP hD hS hX hl => ?_)
  have hown : s.vm.findClass RX4 = some m.cls := hown
  have hl : lv_has ls 6 [(0, .ref a0), (1, .int 10)] := hl
  refine lv_iconst (v := 0) hx hb dX4_blockOf_0 (by decide) ?_
  refine lv_istore_n (lv' := [(2, .int 0), (0, .ref a0), (1, .int 10)]) hx hb dX4_blockOf_1 rfl hl (by decide) rfl (fun ls hl => ?_)
  refine lv_aload_n hx hb dX4_blockOf_2 rfl (lv_at hl 1 rfl) ?_
  refine gf (k := 8) hx hb hts inX4 hown hK hP k_213 rfl (by decide) rfl 0 rfl (.int 1) rfl dX4_blockOf_3 ?_
  refine lv_iconst (v := 1) hx hb dX4_blockOf_6 (by decide) ?_
  refine v_isub hx hb dX4_blockOf_7 0 (by decide +kernel) ?_
  refine lv_istore_n (lv' := [(3, .int 0), (2, .int 0), (0, .ref a0), (1, .int 10)]) hx hb dX4_blockOf_8 rfl hl (by decide) rfl (fun ls hl => ?_)
  refine lv_iconst (v := 0) hx hb dX4_blockOf_9 (by decide) ?_
  refine lv_istore (lv' := [(4, .int 0), (3, .int 0), (2, .int 0), (0, .ref a0), (1, .int 10)]) hx hb dX4_blockOf_10 hl (by decide) rfl (fun ls hl => ?_)
  refine lv_iload hx hb dX4_blockOf_12 (lv_at hl 0 rfl) ?_
  refine lv_bipush (v := 20) hx hb dX4_blockOf_14 (by decide) ?_
  refine f_icmp_ge hx hb dX4_blockOf_16 59 (by decide) (by decide +kernel) ?_
  refine lv_iload_n hx hb dX4_blockOf_19 rfl (lv_at hl 2 rfl) ?_
  refine lv_iload_n hx hb dX4_blockOf_20 rfl (lv_at hl 1 rfl) ?_
  refine t_icmp_ge hx hb dX4_blockOf_21 59 (by decide) (by decide +kernel) ?_
  refine lv_iload_n hx hb dX4_blockOf_59 rfl (lv_at hl 2 rfl) ?_
  exact r_i hx hb hr hk hK hP hD hS dX4_blockOf_60
set_option maxRecDepth 100000 in
set_option maxHeartbeats 4000000 in
theorem c233_X4_numberOf (l : Launch) (dC : Nat → ClassId) (dI : Nat → Nat → Nat) (cI cJ cII cJJ : ClassId) (sz g a0 a1 a2 a3 a4 a5 a6 a7 a8 a9 a10 a11 a12 a13 a14 a15 : Nat) : Met l yX4_numberOf (.code yX4_numberOf cX4_numberOf 6 (some .int) :: TT) ({ frames := 3, cells := 0, slots := 0, locals := 140 }) (PcS dC dI (TY cI cJ cII cJJ) [.ref a0, .ref a2] [(a0, .inr (4, [.ref a1, .ref a4, .ref a5, .ref a6, .ref a7, .ref a8, .ref a9, .ref a10, .int 1, .int 11, .int 1, .int 0])), (a1, .inr (3, [.int 1, .int 0, .ref a11, .ref a12, .ref a3, .ref a13, .ref a14, .ref a15])), (a2, .inl (cI, 4, .inl (tb []))), (a3, .inl (cI, 4, .inl (tb [0, 0, 0, 0])))] sz 0 g) ((QcI dC dI (TY cI cJ cII cJJ) 0 [(a1, .inr (3, [.int 1, .int 0, .ref a11, .ref a12, .ref a3, .ref a13, .ref a14, .ref a15])), (a2, .inl (cI, 4, .inl (tb []))), (a3, .inl (cI, 4, .inl (tb [0, 0, 0, 0]))), (a0, .inr (4, [.ref a1, .ref a4, .ref a5, .ref a6, .ref a7, .ref a8, .ref a9, .ref a10, .int 1, .int 11, .int 1, .int 0]))]) (va_A [(a0, .inr (4, [.ref a1, .ref a4, .ref a5, .ref a6, .ref a7, .ref a8, .ref a9, .ref a10, .int 1, .int 11, .int 1, .int 0])), (a1, .inr (3, [.int 1, .int 0, .ref a11, .ref a12, .ref a3, .ref a13, .ref a14, .ref a15])), (a2, .inl (cI, 4, .inl (tb []))), (a3, .inl (cI, 4, .inl (tb [0, 0, 0, 0])))] sz)) 0 0 (va_A [(a0, .inr (4, [.ref a1, .ref a4, .ref a5, .ref a6, .ref a7, .ref a8, .ref a9, .ref a10, .int 1, .int 11, .int 1, .int 0])), (a1, .inr (3, [.int 1, .int 0, .ref a11, .ref a12, .ref a3, .ref a13, .ref a14, .ref a15])), (a2, .inl (cI, 4, .inl (tb []))), (a3, .inl (cI, 4, .inl (tb [0, 0, 0, 0])))] sz) := by
  refine SM.of (y := yX4_numberOf) (maxL := 6) (av := [.ref a0, .ref a2]) (QcI dC dI (TY cI cJ cII cJJ) 0 [(a1, .inr (3, [.int 1, .int 0, .ref a11, .ref a12, .ref a3, .ref a13, .ref a14, .ref a15])), (a2, .inl (cI, 4, .inl (tb []))), (a3, .inl (cI, 4, .inl (tb [0, 0, 0, 0]))), (a0, .inr (4, [.ref a1, .ref a4, .ref a5, .ref a6, .ref a7, .ref a8, .ref a9, .ref a10, .int 1, .int 11, .int 1, .int 0]))]) (by decide +kernel) (Nat.le_of_ble_eq_true rfl) (fun p e s m below meth c A ls hx hb hr hml hown hts hk hnm hA hK hP hD hS hX hl => ?_)
  have hown : s.vm.findClass RX4 = some m.cls := hown
  have hl : lv_has ls 6 [(0, .ref a0), (1, .ref a2)] := hl
  refine lv_aload_n hx hb dX4_numberOf_0 rfl (lv_at hl 0 rfl) ?_
  refine gf (k := 0) hx hb hts inX4 hown hK hP k_205 rfl (by decide) rfl 0 rfl (.ref a1) rfl dX4_numberOf_1 ?_
  refine gf (k := 0) hx hb hts inX3 hown hK hP k_39 rfl (by decide) rfl 1 rfl (.int 1) rfl dX4_numberOf_4 ?_
  refine lv_iconst (v := 1) hx hb dX4_numberOf_7 (by decide) ?_
  refine v_isub hx hb dX4_numberOf_8 0 (by decide +kernel) ?_
  refine lv_istore_n (lv' := [(2, .int 0), (0, .ref a0), (1, .ref a2)]) hx hb dX4_numberOf_9 rfl hl (by decide) rfl (fun ls hl => ?_)
  refine lv_aload_n hx hb dX4_numberOf_10 rfl (lv_at hl 1 rfl) ?_
  refine gf (k := 10) hx hb hts inX4 hown hK hP k_215 rfl (by decide) rfl 0 rfl (.int 1) rfl dX4_numberOf_11 ?_
  refine f_if_eq hx hb dX4_numberOf_14 33 (by decide) (by decide +kernel) ?_
  refine lv_aload_n hx hb dX4_numberOf_17 rfl (lv_at hl 2 rfl) ?_
  refine lv_iload_n hx hb dX4_numberOf_18 rfl (lv_at hl 0 rfl) ?_
  refine ld_i hx hb hK hP 2 rfl (vin (by decide +kernel)) dX4_numberOf_19 0 rfl ?_
  refine lv_aload_n hx hb dX4_numberOf_20 rfl (lv_at hl 1 rfl) ?_
  refine gf (k := 0) hx hb hts inX4 hown hK hP k_205 rfl (by decide) rfl 0 rfl (.ref a1) rfl dX4_numberOf_21 ?_
  refine gf (k := 4) hx hb hts inX3 hown hK hP k_57 rfl (by decide) rfl 1 rfl (.ref a3) rfl dX4_numberOf_24 ?_
  refine lv_iload_n hx hb dX4_numberOf_27 rfl (lv_at hl 0 rfl) ?_
  refine ld_i hx hb hK hP 3 rfl (vin (by decide +kernel)) dX4_numberOf_28 0 rfl ?_
  refine v_isub hx hb dX4_numberOf_29 0 (by decide +kernel) ?_
  refine lv_goto (tgt := 34) hx hb dX4_numberOf_30 (by decide) ?_
  refine lv_istore_n (lv' := [(3, .int 0), (2, .int 0), (0, .ref a0), (1, .ref a2)]) hx hb dX4_numberOf_34 rfl hl (by decide) rfl (fun ls hl => ?_)
  refine lv_iconst (v := 0) hx hb dX4_numberOf_35 (by decide) ?_
  refine lv_istore (lv' := [(4, .int 0), (3, .int 0), (2, .int 0), (0, .ref a0), (1, .ref a2)]) hx hb dX4_numberOf_36 hl (by decide) rfl (fun ls hl => ?_)
  refine lv_iconst (v := 0) hx hb dX4_numberOf_38 (by decide) ?_
  refine lv_istore (lv' := [(5, .int 0), (4, .int 0), (3, .int 0), (2, .int 0), (0, .ref a0), (1, .ref a2)]) hx hb dX4_numberOf_39 hl (by decide) rfl (fun ls hl => ?_)
  refine lv_iload hx hb dX4_numberOf_41 (lv_at hl 0 rfl) ?_
  refine lv_iload_n hx hb dX4_numberOf_43 rfl (lv_at hl 3 rfl) ?_
  refine f_icmp_gt hx hb dX4_numberOf_44 68 (by decide) (by decide +kernel) ?_
  refine lv_iload hx hb dX4_numberOf_47 (lv_at hl 1 rfl) ?_
  refine lv_bipush (v := 21) hx hb dX4_numberOf_49 (by decide) ?_
  refine v_imul hx hb dX4_numberOf_51 0 (by decide +kernel) ?_
  refine lv_aload_n hx hb dX4_numberOf_52 rfl (lv_at hl 5 rfl) ?_
  refine lv_iload hx hb dX4_numberOf_53 (lv_at hl 0 rfl) ?_
  refine ld_i hx hb hK hP 2 rfl (vin (by decide +kernel)) dX4_numberOf_55 0 rfl ?_
  refine v_iadd hx hb dX4_numberOf_56 0 (by decide +kernel) ?_
  refine lv_bipush (v := 10) hx hb dX4_numberOf_57 (by decide) ?_
  refine v_iadd hx hb dX4_numberOf_59 10 (by decide +kernel) ?_
  refine lv_istore (lv' := [(4, .int 10), (5, .int 0), (3, .int 0), (2, .int 0), (0, .ref a0), (1, .ref a2)]) hx hb dX4_numberOf_60 hl (by decide) rfl (fun ls hl => ?_)
  refine lv_iinc (v := 1) (lv' := [(5, .int 1), (4, .int 10), (3, .int 0), (2, .int 0), (0, .ref a0), (1, .ref a2)]) hx hb dX4_numberOf_62 hl (k := 1) rfl (by decide +kernel) (by decide) rfl (fun ls hl => ?_)
  refine lv_goto (tgt := 41) hx hb dX4_numberOf_65 (by decide) ?_
  refine lv_iload hx hb dX4_numberOf_41 (lv_at hl 0 rfl) ?_
  refine lv_iload_n hx hb dX4_numberOf_43 rfl (lv_at hl 3 rfl) ?_
  refine t_icmp_gt hx hb dX4_numberOf_44 68 (by decide) (by decide +kernel) ?_
  refine lv_aload_n hx hb dX4_numberOf_68 rfl (lv_at hl 4 rfl) ?_
  refine lv_iload hx hb dX4_numberOf_69 (lv_at hl 1 rfl) ?_
  refine lv_iload_n hx hb dX4_numberOf_71 rfl (lv_at hl 2 rfl) ?_
  refine v_isub hx hb dX4_numberOf_72 10 (by decide +kernel) ?_
  refine kV_i (q0 := 0) ⟨hx, hb, hml, hown, hts⟩ hK hP hD hS hA hX cv_RX4_89 [0] [1, 2, 3] (wr := [(a1, .inr (3, [.int 1, .int 0, .ref a11, .ref a12, .ref a3, .ref a13, .ref a14, .ref a15])), (a2, .inl (cI, 4, .inl (tb []))), (a3, .inl (cI, 4, .inl (tb [0, 0, 0, 0])))]) rfl rfl rfl rfl (by decide) (c234_X4_blockOf l dC dI cI cJ cII cJJ s.heap.size 0 a0 a1 a4 a5 a6 a7 a8 a9 a10) ⟨by decide +kernel, by decide +kernel⟩ rfl rfl (Or.inl rfl) (rest := []) rfl rfl rfl hl.1 rfl (Nat.le_of_ble_eq_true rfl) dX4_numberOf_73 ⟨Nat.le_of_ble_eq_true rfl, Nat.le_of_ble_eq_true rfl⟩ (W' := [(a1, .inr (3, [.int 1, .int 0, .ref a11, .ref a12, .ref a3, .ref a13, .ref a14, .ref a15])), (a2, .inl (cI, 4, .inl (tb []))), (a3, .inl (cI, 4, .inl (tb [0, 0, 0, 0]))), (a0, .inr (4, [.ref a1, .ref a4, .ref a5, .ref a6, .ref a7, .ref a8, .ref a9, .ref a10, .int 1, .int 11, .int 1, .int 0]))]) rfl (fun H locs hP hD hS => ?_)
  refine lv_aload_n hx hb dX4_numberOf_76 rfl (lv_at hl 4 rfl) ?_
  refine gf (k := 9) hx hb hts inX4 hown hK hP k_214 rfl (by decide) rfl 3 rfl (.int 11) rfl dX4_numberOf_77 ?_
  refine v_imul hx hb dX4_numberOf_80 0 (by decide +kernel) ?_
  refine lv_iload_n hx hb dX4_numberOf_81 rfl (lv_at hl 2 rfl) ?_
  refine v_iadd hx hb dX4_numberOf_82 0 (by decide +kernel) ?_
  exact r_i hx hb hr hk hK hP hD hS dX4_numberOf_83
set_option maxRecDepth 100000 in
set_option maxHeartbeats 4000000 in
theorem c232_X8_find (l : Launch) (dC : Nat → ClassId) (dI : Nat → Nat → Nat) (cI cJ cII cJJ : ClassId) (sz g a0 a1 a2 a3 a4 a5 a6 a7 a8 a9 a10 a11 a12 a13 a14 a15 a16 a17 a18 a19 a20 a21 : Nat) : Met l yX8_find (.code yX8_find cX8_find 1 (some .int) :: TT) ({ frames := 6, cells := 0, slots := 0, locals := 320 }) (PcS dC dI (TY cI cJ cII cJJ) [.ref a0] [(a0, .inr (8, [.ref a1, .ref a9, .ref a5, .ref a10, .ref a2, .ref a11, .ref a12, .ref a13])), (a1, .inr (3, [.int 1, .int 0, .ref a14, .ref a15, .ref a3, .ref a4, .ref a16, .ref a17])), (a2, .inl (cI, 4, .inl (tb []))), (a3, .inl (cI, 4, .inl (tb [0, 0, 0, 0]))), (a4, .inl (cI, 4, .inl (tb [10, 10, 10, 10]))), (a5, .inr (4, [.ref a1, .ref a8, .ref a18, .ref a6, .ref a7, .ref a19, .ref a20, .ref a21, .int 0, .int 0, .int 0, .int 1])), (a6, .inl (cI, 4, .inl (tb []))), (a7, .inl (cI, 4, .inl (tb []))), (a8, .inl (cI, 9261, .inl (tb [])))] sz 0 g) ((QcI dC dI (TY cI cJ cII cJJ) 0 []) (va_A [(a0, .inr (8, [.ref a1, .ref a9, .ref a5, .ref a10, .ref a2, .ref a11, .ref a12, .ref a13])), (a1, .inr (3, [.int 1, .int 0, .ref a14, .ref a15, .ref a3, .ref a4, .ref a16, .ref a17])), (a2, .inl (cI, 4, .inl (tb []))), (a3, .inl (cI, 4, .inl (tb [0, 0, 0, 0]))), (a4, .inl (cI, 4, .inl (tb [10, 10, 10, 10]))), (a5, .inr (4, [.ref a1, .ref a8, .ref a18, .ref a6, .ref a7, .ref a19, .ref a20, .ref a21, .int 0, .int 0, .int 0, .int 1])), (a6, .inl (cI, 4, .inl (tb []))), (a7, .inl (cI, 4, .inl (tb []))), (a8, .inl (cI, 9261, .inl (tb [])))] sz)) 0 0 (va_A [(a0, .inr (8, [.ref a1, .ref a9, .ref a5, .ref a10, .ref a2, .ref a11, .ref a12, .ref a13])), (a1, .inr (3, [.int 1, .int 0, .ref a14, .ref a15, .ref a3, .ref a4, .ref a16, .ref a17])), (a2, .inl (cI, 4, .inl (tb []))), (a3, .inl (cI, 4, .inl (tb [0, 0, 0, 0]))), (a4, .inl (cI, 4, .inl (tb [10, 10, 10, 10]))), (a5, .inr (4, [.ref a1, .ref a8, .ref a18, .ref a6, .ref a7, .ref a19, .ref a20, .ref a21, .int 0, .int 0, .int 0, .int 1])), (a6, .inl (cI, 4, .inl (tb []))), (a7, .inl (cI, 4, .inl (tb []))), (a8, .inl (cI, 9261, .inl (tb [])))] sz) := by
  refine SM.of (y := yX8_find) (maxL := 1) (av := [.ref a0]) (QcI dC dI (TY cI cJ cII cJJ) 0 []) (by decide +kernel) (Nat.le_of_ble_eq_true rfl) (fun p e s m below meth c A ls hx hb hr hml hown hts hk hnm hA hK hP hD hS hX hl => ?_)
  have hown : s.vm.findClass RX8 = some m.cls := hown
  have hl : lv_has ls 1 [(0, .ref a0)] := hl
  refine lv_aload_n hx hb dX8_find_0 rfl (lv_at hl 0 rfl) ?_
  refine gf (k := 0) hx hb hts inX8 hown hK hP k_264 rfl (by decide) rfl 0 rfl (.ref a1) rfl dX8_find_1 ?_
  refine lv_aload_n hx hb dX8_find_4 rfl (lv_at hl 0 rfl) ?_
  refine gf (k := 4) hx hb hts inX8 hown hK hP k_268 rfl (by decide) rfl 0 rfl (.ref a2) rfl dX8_find_5 ?_
  refine kV_i (q0 := 0) ⟨hx, hb, hml, hown, hts⟩ hK hP hD hS hA hX cv_RX8_173 [1, 2, 3, 4] [0, 5, 6, 7, 8] (wr := [(a0, .inr (8, [.ref a1, .ref a9, .ref a5, .ref a10, .ref a2, .ref a11, .ref a12, .ref a13])), (a5, .inr (4, [.ref a1, .ref a8, .ref a18, .ref a6, .ref a7, .ref a19, .ref a20, .ref a21, .int 0, .int 0, .int 0, .int 1])), (a6, .inl (cI, 4, .inl (tb []))), (a7, .inl (cI, 4, .inl (tb []))), (a8, .inl (cI, 9261, .inl (tb [])))]) rfl rfl rfl rfl (by decide) (c172_X3_isPlan l dC dI cI cJ cII cJJ s.heap.size 0 a1 a2 a3 a4 a14 a15 a16 a17) ⟨by decide +kernel, by decide +kernel⟩ rfl rfl (Or.inl rfl) (rest := []) rfl rfl rfl hl.1 rfl (Nat.le_of_ble_eq_true rfl) dX8_find_8 ⟨Nat.le_of_ble_eq_true rfl, Nat.le_of_ble_eq_true rfl⟩ (W' := [(a0, .inr (8, [.ref a1, .ref a9, .ref a5, .ref a10, .ref a2, .ref a11, .ref a12, .ref a13])), (a5, .inr (4, [.ref a1, .ref a8, .ref a18, .ref a6, .ref a7, .ref a19, .ref a20, .ref a21, .int 0, .int 0, .int 0, .int 1])), (a6, .inl (cI, 4, .inl (tb []))), (a7, .inl (cI, 4, .inl (tb []))), (a8, .inl (cI, 9261, .inl (tb []))), (a1, .inr (3, [.int 1, .int 0, .ref a14, .ref a15, .ref a3, .ref a4, .ref a16, .ref a17])), (a2, .inl (cI, 4, .inl (tb []))), (a3, .inl (cI, 4, .inl (tb [0, 0, 0, 0]))), (a4, .inl (cI, 4, .inl (tb [10, 10, 10, 10])))]) rfl (fun H locs hP hD hS => ?_)
  refine t_if_ne hx hb dX8_find_11 21 (by decide) (by decide +kernel) ?_
  refine lv_aload_n hx hb dX8_find_21 rfl (lv_at hl 0 rfl) ?_
  refine kV_a (q0 := 0) ⟨hx, hb, hml, hown, hts⟩ hK hP hD hS hA hX cv_RX8_196 [0, 1, 5, 8, 7, 2, 3, 4] [6] (wr := [(a2, .inl (cI, 4, .inl (tb [])))]) rfl rfl rfl rfl (by decide) (c208_X8_freshPlans l dC dI cI cJ cII cJJ H.size 0 a0 a5 a1 a4 a3 a6 a7 a8 a9 a10 a2 a11 a12 a13 a18 a19 a20 a21 a14 a15 a16 a17) ⟨by decide +kernel, by decide +kernel⟩ rfl rfl (Or.inl rfl) (rest := []) rfl rfl rfl hl.1 rfl (Nat.le_of_ble_eq_true rfl) dX8_find_22 ⟨Nat.le_of_ble_eq_true rfl, Nat.le_of_ble_eq_true rfl⟩ (W' := [(a2, .inl (cI, 4, .inl (tb []))), (a0, .inr (8, [.ref a1, .ref a9, .ref a5, .ref a10, .ref a2, .ref a11, .ref a12, .ref a13])), (a1, .inr (3, [.int 1, .int 0, .ref a14, .ref a15, .ref a3, .ref a4, .ref a16, .ref a17])), (a3, .inl (cI, 4, .inl (tb [0, 0, 0, 0]))), (a6, .inl (cI, 4, .inl (tb [0]))), (a4, .inl (cI, 4, .inl (tb [10, 10, 10, 10]))), (a7, .inl (cI, 4, .inl (tb [10]))), (a5, .inr (4, [.ref a1, .ref a8, .ref a18, .ref a6, .ref a7, .ref a19, .ref a20, .ref a21, .int 1, .int 11, .int 1, .int 0])), (a8, .inl (cI, 9261, .inl (tb [10])))]) rfl (fun H locs hP hD hS => ?_)
  refine lv_aload_n hx hb dX8_find_25 rfl (lv_at hl 0 rfl) ?_
  refine gf (k := 4) hx hb hts inX8 hown hK hP k_268 rfl (by decide) rfl 1 rfl (.ref a2) rfl dX8_find_26 ?_
  refine kV_i (q0 := 0) ⟨hx, hb, hml, hown, hts⟩ hK hP hD hS hA hX cv_RX8_208 [7, 2, 0, 3] [1, 4, 5, 6, 8] (wr := [(a0, .inr (8, [.ref a1, .ref a9, .ref a5, .ref a10, .ref a2, .ref a11, .ref a12, .ref a13])), (a6, .inl (cI, 4, .inl (tb [0]))), (a4, .inl (cI, 4, .inl (tb [10, 10, 10, 10]))), (a7, .inl (cI, 4, .inl (tb [10]))), (a8, .inl (cI, 9261, .inl (tb [10])))]) rfl rfl rfl rfl (by decide) (c233_X4_numberOf l dC dI cI cJ cII cJJ H.size 0 a5 a1 a2 a3 a8 a18 a6 a7 a19 a20 a21 a14 a15 a4 a16 a17) ⟨by decide +kernel, by decide +kernel⟩ rfl rfl (Or.inl rfl) (rest := []) rfl rfl rfl hl.1 rfl (Nat.le_of_ble_eq_true rfl) dX8_find_29 ⟨Nat.le_of_ble_eq_true rfl, Nat.le_of_ble_eq_true rfl⟩ (W' := [(a0, .inr (8, [.ref a1, .ref a9, .ref a5, .ref a10, .ref a2, .ref a11, .ref a12, .ref a13])), (a6, .inl (cI, 4, .inl (tb [0]))), (a4, .inl (cI, 4, .inl (tb [10, 10, 10, 10]))), (a7, .inl (cI, 4, .inl (tb [10]))), (a8, .inl (cI, 9261, .inl (tb [10]))), (a1, .inr (3, [.int 1, .int 0, .ref a14, .ref a15, .ref a3, .ref a4, .ref a16, .ref a17])), (a2, .inl (cI, 4, .inl (tb []))), (a3, .inl (cI, 4, .inl (tb [0, 0, 0, 0]))), (a5, .inr (4, [.ref a1, .ref a8, .ref a18, .ref a6, .ref a7, .ref a19, .ref a20, .ref a21, .int 1, .int 11, .int 1, .int 0]))]) rfl (fun H locs hP hD hS => ?_)
  exact r_i hx hb hr hk hK (hP.sub [] rfl) (hD.sub [] rfl rfl) hS dX8_find_32
set_option maxRecDepth 100000 in
set_option maxHeartbeats 4000000 in
theorem c235_X8_span (l : Launch) (dC : Nat → ClassId) (dI : Nat → Nat → Nat) (cI cJ cII cJJ : ClassId) (sz g a0 a1 a2 a3 a4 a5 a6 a7 a8 a9 a10 a11 a12 a13 a14 a15 a16 a17 a18 a19 a20 a21 : Nat) (x0 : Int32) (h_x0 : -2147483648 ≤ x0.toInt ∧ x0.toInt ≤ -1) (x1 : Int32) (h_x1 : -2147483648 ≤ x1.toInt ∧ x1.toInt ≤ 2147483647) : Met l yX8_span (.code yX8_span cX8_span 3 (some .int) :: TT) ({ frames := 6, cells := 0, slots := 0, locals := 320 }) (PcS dC dI (TY cI cJ cII cJJ) [.ref a0, .int x0, .int x1] [(a0, .inr (8, [.ref a2, .ref a8, .ref a1, .ref a9, .ref a10, .ref a11, .ref a12, .ref a13])), (a1, .inr (4, [.ref a2, .ref a7, .ref a14, .ref a5, .ref a6, .ref a15, .ref a16, .ref a17, .int 0, .int 0, .int 0, .int 1])), (a2, .inr (3, [.int 1, .int 0, .ref a18, .ref a19, .ref a4, .ref a3, .ref a20, .ref a21])), (a3, .inl (cI, 4, .inl (tb [10, 10, 10, 10]))), (a4, .inl (cI, 4, .inl (tb [0, 0, 0, 0]))), (a5, .inl (cI, 4, .inl (tb []))), (a6, .inl (cI, 4, .inl (tb []))), (a7, .inl (cI, 9261, .inl (tb [])))] sz 0 g) ((QcI dC dI (TY cI cJ cII cJJ) (-99999) []) (va_A [(a0, .inr (8, [.ref a2, .ref a8, .ref a1, .ref a9, .ref a10, .ref a11, .ref a12, .ref a13])), (a1, .inr (4, [.ref a2, .ref a7, .ref a14, .ref a5, .ref a6, .ref a15, .ref a16, .ref a17, .int 0, .int 0, .int 0, .int 1])), (a2, .inr (3, [.int 1, .int 0, .ref a18, .ref a19, .ref a4, .ref a3, .ref a20, .ref a21])), (a3, .inl (cI, 4, .inl (tb [10, 10, 10, 10]))), (a4, .inl (cI, 4, .inl (tb [0, 0, 0, 0]))), (a5, .inl (cI, 4, .inl (tb []))), (a6, .inl (cI, 4, .inl (tb []))), (a7, .inl (cI, 9261, .inl (tb [])))] sz)) 0 0 (va_A [(a0, .inr (8, [.ref a2, .ref a8, .ref a1, .ref a9, .ref a10, .ref a11, .ref a12, .ref a13])), (a1, .inr (4, [.ref a2, .ref a7, .ref a14, .ref a5, .ref a6, .ref a15, .ref a16, .ref a17, .int 0, .int 0, .int 0, .int 1])), (a2, .inr (3, [.int 1, .int 0, .ref a18, .ref a19, .ref a4, .ref a3, .ref a20, .ref a21])), (a3, .inl (cI, 4, .inl (tb [10, 10, 10, 10]))), (a4, .inl (cI, 4, .inl (tb [0, 0, 0, 0]))), (a5, .inl (cI, 4, .inl (tb []))), (a6, .inl (cI, 4, .inl (tb []))), (a7, .inl (cI, 9261, .inl (tb [])))] sz) := by
  refine SM.of (y := yX8_span) (maxL := 3) (av := [.ref a0, .int x0, .int x1]) (QcI dC dI (TY cI cJ cII cJJ) (-99999) []) (by decide +kernel) (Nat.le_of_ble_eq_true rfl) (fun p e s m below meth c A ls hx hb hr hml hown hts hk hnm hA hK hP hD hS hX hl => ?_)
  have hown : s.vm.findClass RX8 = some m.cls := hown
  have hl : lv_has ls 3 [(0, .ref a0), (1, .int x0), (2, .int x1)] := hl
  refine lv_aload_n hx hb dX8_span_0 rfl (lv_at hl 0 rfl) ?_
  refine kV_a (q0 := 0) ⟨hx, hb, hml, hown, hts⟩ hK hP hD hS hA hX cv_RX8_196 [0, 1, 2, 3, 4, 5, 6, 7] [] (wr := []) rfl rfl rfl rfl (by decide) (c208_X8_freshPlans l dC dI cI cJ cII cJJ s.heap.size 0 a0 a1 a2 a3 a4 a5 a6 a7 a8 a9 a10 a11 a12 a13 a14 a15 a16 a17 a18 a19 a20 a21) ⟨by decide +kernel, by decide +kernel⟩ rfl rfl (Or.inl rfl) (rest := []) rfl rfl rfl hl.1 rfl (Nat.le_of_ble_eq_true rfl) dX8_span_1 ⟨Nat.le_of_ble_eq_true rfl, Nat.le_of_ble_eq_true rfl⟩ (W' := [(a0, .inr (8, [.ref a2, .ref a8, .ref a1, .ref a9, .ref a10, .ref a11, .ref a12, .ref a13])), (a2, .inr (3, [.int 1, .int 0, .ref a18, .ref a19, .ref a4, .ref a3, .ref a20, .ref a21])), (a4, .inl (cI, 4, .inl (tb [0, 0, 0, 0]))), (a5, .inl (cI, 4, .inl (tb [0]))), (a3, .inl (cI, 4, .inl (tb [10, 10, 10, 10]))), (a6, .inl (cI, 4, .inl (tb [10]))), (a1, .inr (4, [.ref a2, .ref a7, .ref a14, .ref a5, .ref a6, .ref a15, .ref a16, .ref a17, .int 1, .int 11, .int 1, .int 0])), (a7, .inl (cI, 9261, .inl (tb [10])))]) rfl (fun H locs hP hD hS => ?_)
  refine kV_i (q0 := 0) ⟨hx, hb, hml, hown, hts⟩ hK hP hD hS hA hX cv_RX8_200 [6] [0, 1, 2, 3, 4, 5, 7] (wr := [(a0, .inr (8, [.ref a2, .ref a8, .ref a1, .ref a9, .ref a10, .ref a11, .ref a12, .ref a13])), (a2, .inr (3, [.int 1, .int 0, .ref a18, .ref a19, .ref a4, .ref a3, .ref a20, .ref a21])), (a4, .inl (cI, 4, .inl (tb [0, 0, 0, 0]))), (a5, .inl (cI, 4, .inl (tb [0]))), (a3, .inl (cI, 4, .inl (tb [10, 10, 10, 10]))), (a6, .inl (cI, 4, .inl (tb [10]))), (a7, .inl (cI, 9261, .inl (tb [10])))]) rfl rfl rfl rfl (by decide) (c214_X4_size l dC dI cI cJ cII cJJ H.size 0 a1 a2 a7 a14 a5 a6 a15 a16 a17) ⟨by decide +kernel, by decide +kernel⟩ rfl rfl (Or.inl rfl) (rest := []) rfl rfl rfl hl.1 rfl (Nat.le_of_ble_eq_true rfl) dX8_span_4 ⟨Nat.le_of_ble_eq_true rfl, Nat.le_of_ble_eq_true rfl⟩ (W' := [(a0, .inr (8, [.ref a2, .ref a8, .ref a1, .ref a9, .ref a10, .ref a11, .ref a12, .ref a13])), (a2, .inr (3, [.int 1, .int 0, .ref a18, .ref a19, .ref a4, .ref a3, .ref a20, .ref a21])), (a4, .inl (cI, 4, .inl (tb [0, 0, 0, 0]))), (a5, .inl (cI, 4, .inl (tb [0]))), (a3, .inl (cI, 4, .inl (tb [10, 10, 10, 10]))), (a6, .inl (cI, 4, .inl (tb [10]))), (a7, .inl (cI, 9261, .inl (tb [10]))), (a1, .inr (4, [.ref a2, .ref a7, .ref a14, .ref a5, .ref a6, .ref a15, .ref a16, .ref a17, .int 1, .int 11, .int 1, .int 0]))]) rfl (fun H locs hP hD hS => ?_)
  refine f_if_eq hx hb dX8_span_7 30 (by decide) (by decide +kernel) ?_
  refine lv_aload_n hx hb dX8_span_10 rfl (lv_at hl 0 rfl) ?_
  refine gf (k := 0) hx hb hts inX8 hown hK hP k_264 rfl (by decide) rfl 0 rfl (.ref a2) rfl dX8_span_11 ?_
  refine lv_iload_n hx hb dX8_span_14 rfl (lv_at hl 1 rfl) ?_
  refine kV_i (q0 := 0) ⟨hx, hb, hml, hown, hts⟩ hK hP hD hS hA hX cv_RX8_82 [1] [0, 2, 3, 4, 5, 6, 7] (wr := [(a0, .inr (8, [.ref a2, .ref a8, .ref a1, .ref a9, .ref a10, .ref a11, .ref a12, .ref a13])), (a4, .inl (cI, 4, .inl (tb [0, 0, 0, 0]))), (a5, .inl (cI, 4, .inl (tb [0]))), (a3, .inl (cI, 4, .inl (tb [10, 10, 10, 10]))), (a6, .inl (cI, 4, .inl (tb [10]))), (a7, .inl (cI, 9261, .inl (tb [10]))), (a1, .inr (4, [.ref a2, .ref a7, .ref a14, .ref a5, .ref a6, .ref a15, .ref a16, .ref a17, .int 1, .int 11, .int 1, .int 0]))]) rfl rfl rfl rfl (by decide) (c033_X3_hasUnknown l dC dI cI cJ cII cJJ H.size 0 a2 a18 a19 a4 a3 a20 a21 x0 h_x0) ⟨by decide +kernel, by decide +kernel⟩ rfl rfl (Or.inl rfl) (rest := []) rfl rfl rfl hl.1 rfl (Nat.le_of_ble_eq_true rfl) dX8_span_15 ⟨Nat.le_of_ble_eq_true rfl, Nat.le_of_ble_eq_true rfl⟩ (W' := [(a0, .inr (8, [.ref a2, .ref a8, .ref a1, .ref a9, .ref a10, .ref a11, .ref a12, .ref a13])), (a4, .inl (cI, 4, .inl (tb [0, 0, 0, 0]))), (a5, .inl (cI, 4, .inl (tb [0]))), (a3, .inl (cI, 4, .inl (tb [10, 10, 10, 10]))), (a6, .inl (cI, 4, .inl (tb [10]))), (a7, .inl (cI, 9261, .inl (tb [10]))), (a1, .inr (4, [.ref a2, .ref a7, .ref a14, .ref a5, .ref a6, .ref a15, .ref a16, .ref a17, .int 1, .int 11, .int 1, .int 0])), (a2, .inr (3, [.int 1, .int 0, .ref a18, .ref a19, .ref a4, .ref a3, .ref a20, .ref a21]))]) rfl (fun H locs hP hD hS => ?_)
  refine t_if_eq hx hb dX8_span_18 30 (by decide) (by decide +kernel) ?_
  refine lv_ldc (v := (-99999)) hx hb hown (hts _ k_543) dX8_span_30 ?_
  exact r_i hx hb hr hk hK (hP.sub [] rfl) (hD.sub [] rfl rfl) hS dX8_span_32
set_option maxRecDepth 100000 in
set_option maxHeartbeats 4000000 in
theorem c236_X8_span (l : Launch) (dC : Nat → ClassId) (dI : Nat → Nat → Nat) (cI cJ cII cJJ : ClassId) (sz g a0 a1 a2 a3 a4 a5 a6 a7 a8 a9 a10 a11 a12 a13 a14 a15 a16 a17 a18 a19 a20 a21 : Nat) (x0 : Int32) (h_x0 : 1 ≤ x0.toInt ∧ x0.toInt ≤ 2147483647) (x1 : Int32) (h_x1 : -2147483648 ≤ x1.toInt ∧ x1.toInt ≤ 2147483647) : Met l yX8_span (.code yX8_span cX8_span 3 (some .int) :: TT) ({ frames := 6, cells := 0, slots := 0, locals := 320 }) (PcS dC dI (TY cI cJ cII cJJ) [.ref a0, .int x0, .int x1] [(a0, .inr (8, [.ref a2, .ref a8, .ref a1, .ref a9, .ref a10, .ref a11, .ref a12, .ref a13])), (a1, .inr (4, [.ref a2, .ref a7, .ref a14, .ref a5, .ref a6, .ref a15, .ref a16, .ref a17, .int 0, .int 0, .int 0, .int 1])), (a2, .inr (3, [.int 1, .int 0, .ref a18, .ref a19, .ref a4, .ref a3, .ref a20, .ref a21])), (a3, .inl (cI, 4, .inl (tb [10, 10, 10, 10]))), (a4, .inl (cI, 4, .inl (tb [0, 0, 0, 0]))), (a5, .inl (cI, 4, .inl (tb []))), (a6, .inl (cI, 4, .inl (tb []))), (a7, .inl (cI, 9261, .inl (tb [])))] sz 0 g) ((QcI dC dI (TY cI cJ cII cJJ) (-99999) []) (va_A [(a0, .inr (8, [.ref a2, .ref a8, .ref a1, .ref a9, .ref a10, .ref a11, .ref a12, .ref a13])), (a1, .inr (4, [.ref a2, .ref a7, .ref a14, .ref a5, .ref a6, .ref a15, .ref a16, .ref a17, .int 0, .int 0, .int 0, .int 1])), (a2, .inr (3, [.int 1, .int 0, .ref a18, .ref a19, .ref a4, .ref a3, .ref a20, .ref a21])), (a3, .inl (cI, 4, .inl (tb [10, 10, 10, 10]))), (a4, .inl (cI, 4, .inl (tb [0, 0, 0, 0]))), (a5, .inl (cI, 4, .inl (tb []))), (a6, .inl (cI, 4, .inl (tb []))), (a7, .inl (cI, 9261, .inl (tb [])))] sz)) 0 0 (va_A [(a0, .inr (8, [.ref a2, .ref a8, .ref a1, .ref a9, .ref a10, .ref a11, .ref a12, .ref a13])), (a1, .inr (4, [.ref a2, .ref a7, .ref a14, .ref a5, .ref a6, .ref a15, .ref a16, .ref a17, .int 0, .int 0, .int 0, .int 1])), (a2, .inr (3, [.int 1, .int 0, .ref a18, .ref a19, .ref a4, .ref a3, .ref a20, .ref a21])), (a3, .inl (cI, 4, .inl (tb [10, 10, 10, 10]))), (a4, .inl (cI, 4, .inl (tb [0, 0, 0, 0]))), (a5, .inl (cI, 4, .inl (tb []))), (a6, .inl (cI, 4, .inl (tb []))), (a7, .inl (cI, 9261, .inl (tb [])))] sz) := by
  refine SM.of (y := yX8_span) (maxL := 3) (av := [.ref a0, .int x0, .int x1]) (QcI dC dI (TY cI cJ cII cJJ) (-99999) []) (by decide +kernel) (Nat.le_of_ble_eq_true rfl) (fun p e s m below meth c A ls hx hb hr hml hown hts hk hnm hA hK hP hD hS hX hl => ?_)
  have hown : s.vm.findClass RX8 = some m.cls := hown
  have hl : lv_has ls 3 [(0, .ref a0), (1, .int x0), (2, .int x1)] := hl
  refine lv_aload_n hx hb dX8_span_0 rfl (lv_at hl 0 rfl) ?_
  refine kV_a (q0 := 0) ⟨hx, hb, hml, hown, hts⟩ hK hP hD hS hA hX cv_RX8_196 [0, 1, 2, 3, 4, 5, 6, 7] [] (wr := []) rfl rfl rfl rfl (by decide) (c208_X8_freshPlans l dC dI cI cJ cII cJJ s.heap.size 0 a0 a1 a2 a3 a4 a5 a6 a7 a8 a9 a10 a11 a12 a13 a14 a15 a16 a17 a18 a19 a20 a21) ⟨by decide +kernel, by decide +kernel⟩ rfl rfl (Or.inl rfl) (rest := []) rfl rfl rfl hl.1 rfl (Nat.le_of_ble_eq_true rfl) dX8_span_1 ⟨Nat.le_of_ble_eq_true rfl, Nat.le_of_ble_eq_true rfl⟩ (W' := [(a0, .inr (8, [.ref a2, .ref a8, .ref a1, .ref a9, .ref a10, .ref a11, .ref a12, .ref a13])), (a2, .inr (3, [.int 1, .int 0, .ref a18, .ref a19, .ref a4, .ref a3, .ref a20, .ref a21])), (a4, .inl (cI, 4, .inl (tb [0, 0, 0, 0]))), (a5, .inl (cI, 4, .inl (tb [0]))), (a3, .inl (cI, 4, .inl (tb [10, 10, 10, 10]))), (a6, .inl (cI, 4, .inl (tb [10]))), (a1, .inr (4, [.ref a2, .ref a7, .ref a14, .ref a5, .ref a6, .ref a15, .ref a16, .ref a17, .int 1, .int 11, .int 1, .int 0])), (a7, .inl (cI, 9261, .inl (tb [10])))]) rfl (fun H locs hP hD hS => ?_)
  refine kV_i (q0 := 0) ⟨hx, hb, hml, hown, hts⟩ hK hP hD hS hA hX cv_RX8_200 [6] [0, 1, 2, 3, 4, 5, 7] (wr := [(a0, .inr (8, [.ref a2, .ref a8, .ref a1, .ref a9, .ref a10, .ref a11, .ref a12, .ref a13])), (a2, .inr (3, [.int 1, .int 0, .ref a18, .ref a19, .ref a4, .ref a3, .ref a20, .ref a21])), (a4, .inl (cI, 4, .inl (tb [0, 0, 0, 0]))), (a5, .inl (cI, 4, .inl (tb [0]))), (a3, .inl (cI, 4, .inl (tb [10, 10, 10, 10]))), (a6, .inl (cI, 4, .inl (tb [10]))), (a7, .inl (cI, 9261, .inl (tb [10])))]) rfl rfl rfl rfl (by decide) (c214_X4_size l dC dI cI cJ cII cJJ H.size 0 a1 a2 a7 a14 a5 a6 a15 a16 a17) ⟨by decide +kernel, by decide +kernel⟩ rfl rfl (Or.inl rfl) (rest := []) rfl rfl rfl hl.1 rfl (Nat.le_of_ble_eq_true rfl) dX8_span_4 ⟨Nat.le_of_ble_eq_true rfl, Nat.le_of_ble_eq_true rfl⟩ (W' := [(a0, .inr (8, [.ref a2, .ref a8, .ref a1, .ref a9, .ref a10, .ref a11, .ref a12, .ref a13])), (a2, .inr (3, [.int 1, .int 0, .ref a18, .ref a19, .ref a4, .ref a3, .ref a20, .ref a21])), (a4, .inl (cI, 4, .inl (tb [0, 0, 0, 0]))), (a5, .inl (cI, 4, .inl (tb [0]))), (a3, .inl (cI, 4, .inl (tb [10, 10, 10, 10]))), (a6, .inl (cI, 4, .inl (tb [10]))), (a7, .inl (cI, 9261, .inl (tb [10]))), (a1, .inr (4, [.ref a2, .ref a7, .ref a14, .ref a5, .ref a6, .ref a15, .ref a16, .ref a17, .int 1, .int 11, .int 1, .int 0]))]) rfl (fun H locs hP hD hS => ?_)
  refine f_if_eq hx hb dX8_span_7 30 (by decide) (by decide +kernel) ?_
  refine lv_aload_n hx hb dX8_span_10 rfl (lv_at hl 0 rfl) ?_
  refine gf (k := 0) hx hb hts inX8 hown hK hP k_264 rfl (by decide) rfl 0 rfl (.ref a2) rfl dX8_span_11 ?_
  refine lv_iload_n hx hb dX8_span_14 rfl (lv_at hl 1 rfl) ?_
  refine kV_i (q0 := 0) ⟨hx, hb, hml, hown, hts⟩ hK hP hD hS hA hX cv_RX8_82 [1] [0, 2, 3, 4, 5, 6, 7] (wr := [(a0, .inr (8, [.ref a2, .ref a8, .ref a1, .ref a9, .ref a10, .ref a11, .ref a12, .ref a13])), (a4, .inl (cI, 4, .inl (tb [0, 0, 0, 0]))), (a5, .inl (cI, 4, .inl (tb [0]))), (a3, .inl (cI, 4, .inl (tb [10, 10, 10, 10]))), (a6, .inl (cI, 4, .inl (tb [10]))), (a7, .inl (cI, 9261, .inl (tb [10]))), (a1, .inr (4, [.ref a2, .ref a7, .ref a14, .ref a5, .ref a6, .ref a15, .ref a16, .ref a17, .int 1, .int 11, .int 1, .int 0]))]) rfl rfl rfl rfl (by decide) (c035_X3_hasUnknown l dC dI cI cJ cII cJJ H.size 0 a2 a18 a19 a4 a3 a20 a21 x0 h_x0) ⟨by decide +kernel, by decide +kernel⟩ rfl rfl (Or.inl rfl) (rest := []) rfl rfl rfl hl.1 rfl (Nat.le_of_ble_eq_true rfl) dX8_span_15 ⟨Nat.le_of_ble_eq_true rfl, Nat.le_of_ble_eq_true rfl⟩ (W' := [(a0, .inr (8, [.ref a2, .ref a8, .ref a1, .ref a9, .ref a10, .ref a11, .ref a12, .ref a13])), (a4, .inl (cI, 4, .inl (tb [0, 0, 0, 0]))), (a5, .inl (cI, 4, .inl (tb [0]))), (a3, .inl (cI, 4, .inl (tb [10, 10, 10, 10]))), (a6, .inl (cI, 4, .inl (tb [10]))), (a7, .inl (cI, 9261, .inl (tb [10]))), (a1, .inr (4, [.ref a2, .ref a7, .ref a14, .ref a5, .ref a6, .ref a15, .ref a16, .ref a17, .int 1, .int 11, .int 1, .int 0])), (a2, .inr (3, [.int 1, .int 0, .ref a18, .ref a19, .ref a4, .ref a3, .ref a20, .ref a21]))]) rfl (fun H locs hP hD hS => ?_)
  refine t_if_eq hx hb dX8_span_18 30 (by decide) (by decide +kernel) ?_
  refine lv_ldc (v := (-99999)) hx hb hown (hts _ k_543) dX8_span_30 ?_
  exact r_i hx hb hr hk hK (hP.sub [] rfl) (hD.sub [] rfl rfl) hS dX8_span_32
set_option maxRecDepth 100000 in
set_option maxHeartbeats 4000000 in
theorem c237_X8_span (l : Launch) (dC : Nat → ClassId) (dI : Nat → Nat → Nat) (cI cJ cII cJJ : ClassId) (sz g a0 a1 a2 a3 a4 a5 a6 a7 a8 a9 a10 a11 a12 a13 a14 a15 a16 a17 a18 a19 a20 a21 : Nat) (x0 : Int32) (h_x0 : -2147483648 ≤ x0.toInt ∧ x0.toInt ≤ -1) : Met l yX8_span (.code yX8_span cX8_span 3 (some .int) :: TT) ({ frames := 6, cells := 0, slots := 0, locals := 320 }) (PcS dC dI (TY cI cJ cII cJJ) [.ref a0, .int 0, .int x0] [(a0, .inr (8, [.ref a2, .ref a8, .ref a1, .ref a9, .ref a10, .ref a11, .ref a12, .ref a13])), (a1, .inr (4, [.ref a2, .ref a7, .ref a14, .ref a5, .ref a6, .ref a15, .ref a16, .ref a17, .int 0, .int 0, .int 0, .int 1])), (a2, .inr (3, [.int 1, .int 0, .ref a18, .ref a19, .ref a4, .ref a3, .ref a20, .ref a21])), (a3, .inl (cI, 4, .inl (tb [10, 10, 10, 10]))), (a4, .inl (cI, 4, .inl (tb [0, 0, 0, 0]))), (a5, .inl (cI, 4, .inl (tb []))), (a6, .inl (cI, 4, .inl (tb []))), (a7, .inl (cI, 9261, .inl (tb [])))] sz 0 g) ((QcI dC dI (TY cI cJ cII cJJ) (-99999) []) (va_A [(a0, .inr (8, [.ref a2, .ref a8, .ref a1, .ref a9, .ref a10, .ref a11, .ref a12, .ref a13])), (a1, .inr (4, [.ref a2, .ref a7, .ref a14, .ref a5, .ref a6, .ref a15, .ref a16, .ref a17, .int 0, .int 0, .int 0, .int 1])), (a2, .inr (3, [.int 1, .int 0, .ref a18, .ref a19, .ref a4, .ref a3, .ref a20, .ref a21])), (a3, .inl (cI, 4, .inl (tb [10, 10, 10, 10]))), (a4, .inl (cI, 4, .inl (tb [0, 0, 0, 0]))), (a5, .inl (cI, 4, .inl (tb []))), (a6, .inl (cI, 4, .inl (tb []))), (a7, .inl (cI, 9261, .inl (tb [])))] sz)) 0 0 (va_A [(a0, .inr (8, [.ref a2, .ref a8, .ref a1, .ref a9, .ref a10, .ref a11, .ref a12, .ref a13])), (a1, .inr (4, [.ref a2, .ref a7, .ref a14, .ref a5, .ref a6, .ref a15, .ref a16, .ref a17, .int 0, .int 0, .int 0, .int 1])), (a2, .inr (3, [.int 1, .int 0, .ref a18, .ref a19, .ref a4, .ref a3, .ref a20, .ref a21])), (a3, .inl (cI, 4, .inl (tb [10, 10, 10, 10]))), (a4, .inl (cI, 4, .inl (tb [0, 0, 0, 0]))), (a5, .inl (cI, 4, .inl (tb []))), (a6, .inl (cI, 4, .inl (tb []))), (a7, .inl (cI, 9261, .inl (tb [])))] sz) := by
  refine SM.of (y := yX8_span) (maxL := 3) (av := [.ref a0, .int 0, .int x0]) (QcI dC dI (TY cI cJ cII cJJ) (-99999) []) (by decide +kernel) (Nat.le_of_ble_eq_true rfl) (fun p e s m below meth c A ls hx hb hr hml hown hts hk hnm hA hK hP hD hS hX hl => ?_)
  have hown : s.vm.findClass RX8 = some m.cls := hown
  have hl : lv_has ls 3 [(0, .ref a0), (1, .int 0), (2, .int x0)] := hl
  refine lv_aload_n hx hb dX8_span_0 rfl (lv_at hl 0 rfl) ?_
  refine kV_a (q0 := 0) ⟨hx, hb, hml, hown, hts⟩ hK hP hD hS hA hX cv_RX8_196 [0, 1, 2, 3, 4, 5, 6, 7] [] (wr := []) rfl rfl rfl rfl (by decide) (c208_X8_freshPlans l dC dI cI cJ cII cJJ s.heap.size 0 a0 a1 a2 a3 a4 a5 a6 a7 a8 a9 a10 a11 a12 a13 a14 a15 a16 a17 a18 a19 a20 a21) ⟨by decide +kernel, by decide +kernel⟩ rfl rfl (Or.inl rfl) (rest := []) rfl rfl rfl hl.1 rfl (Nat.le_of_ble_eq_true rfl) dX8_span_1 ⟨Nat.le_of_ble_eq_true rfl, Nat.le_of_ble_eq_true rfl⟩ (W' := [(a0, .inr (8, [.ref a2, .ref a8, .ref a1, .ref a9, .ref a10, .ref a11, .ref a12, .ref a13])), (a2, .inr (3, [.int 1, .int 0, .ref a18, .ref a19, .ref a4, .ref a3, .ref a20, .ref a21])), (a4, .inl (cI, 4, .inl (tb [0, 0, 0, 0]))), (a5, .inl (cI, 4, .inl (tb [0]))), (a3, .inl (cI, 4, .inl (tb [10, 10, 10, 10]))), (a6, .inl (cI, 4, .inl (tb [10]))), (a1, .inr (4, [.ref a2, .ref a7, .ref a14, .ref a5, .ref a6, .ref a15, .ref a16, .ref a17, .int 1, .int 11, .int 1, .int 0])), (a7, .inl (cI, 9261, .inl (tb [10])))]) rfl (fun H locs hP hD hS => ?_)
  refine kV_i (q0 := 0) ⟨hx, hb, hml, hown, hts⟩ hK hP hD hS hA hX cv_RX8_200 [6] [0, 1, 2, 3, 4, 5, 7] (wr := [(a0, .inr (8, [.ref a2, .ref a8, .ref a1, .ref a9, .ref a10, .ref a11, .ref a12, .ref a13])), (a2, .inr (3, [.int 1, .int 0, .ref a18, .ref a19, .ref a4, .ref a3, .ref a20, .ref a21])), (a4, .inl (cI, 4, .inl (tb [0, 0, 0, 0]))), (a5, .inl (cI, 4, .inl (tb [0]))), (a3, .inl (cI, 4, .inl (tb [10, 10, 10, 10]))), (a6, .inl (cI, 4, .inl (tb [10]))), (a7, .inl (cI, 9261, .inl (tb [10])))]) rfl rfl rfl rfl (by decide) (c214_X4_size l dC dI cI cJ cII cJJ H.size 0 a1 a2 a7 a14 a5 a6 a15 a16 a17) ⟨by decide +kernel, by decide +kernel⟩ rfl rfl (Or.inl rfl) (rest := []) rfl rfl rfl hl.1 rfl (Nat.le_of_ble_eq_true rfl) dX8_span_4 ⟨Nat.le_of_ble_eq_true rfl, Nat.le_of_ble_eq_true rfl⟩ (W' := [(a0, .inr (8, [.ref a2, .ref a8, .ref a1, .ref a9, .ref a10, .ref a11, .ref a12, .ref a13])), (a2, .inr (3, [.int 1, .int 0, .ref a18, .ref a19, .ref a4, .ref a3, .ref a20, .ref a21])), (a4, .inl (cI, 4, .inl (tb [0, 0, 0, 0]))), (a5, .inl (cI, 4, .inl (tb [0]))), (a3, .inl (cI, 4, .inl (tb [10, 10, 10, 10]))), (a6, .inl (cI, 4, .inl (tb [10]))), (a7, .inl (cI, 9261, .inl (tb [10]))), (a1, .inr (4, [.ref a2, .ref a7, .ref a14, .ref a5, .ref a6, .ref a15, .ref a16, .ref a17, .int 1, .int 11, .int 1, .int 0]))]) rfl (fun H locs hP hD hS => ?_)
  refine f_if_eq hx hb dX8_span_7 30 (by decide) (by decide +kernel) ?_
  refine lv_aload_n hx hb dX8_span_10 rfl (lv_at hl 0 rfl) ?_
  refine gf (k := 0) hx hb hts inX8 hown hK hP k_264 rfl (by decide) rfl 0 rfl (.ref a2) rfl dX8_span_11 ?_
  refine lv_iload_n hx hb dX8_span_14 rfl (lv_at hl 1 rfl) ?_
  refine kV_i (q0 := 0) ⟨hx, hb, hml, hown, hts⟩ hK hP hD hS hA hX cv_RX8_82 [1] [0, 2, 3, 4, 5, 6, 7] (wr := [(a0, .inr (8, [.ref a2, .ref a8, .ref a1, .ref a9, .ref a10, .ref a11, .ref a12, .ref a13])), (a4, .inl (cI, 4, .inl (tb [0, 0, 0, 0]))), (a5, .inl (cI, 4, .inl (tb [0]))), (a3, .inl (cI, 4, .inl (tb [10, 10, 10, 10]))), (a6, .inl (cI, 4, .inl (tb [10]))), (a7, .inl (cI, 9261, .inl (tb [10]))), (a1, .inr (4, [.ref a2, .ref a7, .ref a14, .ref a5, .ref a6, .ref a15, .ref a16, .ref a17, .int 1, .int 11, .int 1, .int 0]))]) rfl rfl rfl rfl (by decide) (c037_X3_hasUnknown l dC dI cI cJ cII cJJ H.size 0 a2 a18 a19 a4 a3 a20 a21) ⟨by decide +kernel, by decide +kernel⟩ rfl rfl (Or.inl rfl) (rest := []) rfl rfl rfl hl.1 rfl (Nat.le_of_ble_eq_true rfl) dX8_span_15 ⟨Nat.le_of_ble_eq_true rfl, Nat.le_of_ble_eq_true rfl⟩ (W' := [(a0, .inr (8, [.ref a2, .ref a8, .ref a1, .ref a9, .ref a10, .ref a11, .ref a12, .ref a13])), (a4, .inl (cI, 4, .inl (tb [0, 0, 0, 0]))), (a5, .inl (cI, 4, .inl (tb [0]))), (a3, .inl (cI, 4, .inl (tb [10, 10, 10, 10]))), (a6, .inl (cI, 4, .inl (tb [10]))), (a7, .inl (cI, 9261, .inl (tb [10]))), (a1, .inr (4, [.ref a2, .ref a7, .ref a14, .ref a5, .ref a6, .ref a15, .ref a16, .ref a17, .int 1, .int 11, .int 1, .int 0])), (a2, .inr (3, [.int 1, .int 0, .ref a18, .ref a19, .ref a4, .ref a3, .ref a20, .ref a21]))]) rfl (fun H locs hP hD hS => ?_)
  refine f_if_eq hx hb dX8_span_18 30 (by decide) (by decide +kernel) ?_
  refine lv_iload_n hx hb dX8_span_21 rfl (lv_at hl 2 rfl) ?_
  refine t_if_lt hx hb dX8_span_22 30 (by decide) (p_lt (by rw [show (0 : Int32).toInt = 0 from by decide +kernel]; omega)) ?_
  refine lv_ldc (v := (-99999)) hx hb hown (hts _ k_543) dX8_span_30 ?_
  exact r_i hx hb hr hk hK (hP.sub [] rfl) (hD.sub [] rfl rfl) hS dX8_span_32
set_option maxRecDepth 100000 in
set_option maxHeartbeats 4000000 in
theorem c238_X8_span (l : Launch) (dC : Nat → ClassId) (dI : Nat → Nat → Nat) (cI cJ cII cJJ : ClassId) (sz g a0 a1 a2 a3 a4 a5 a6 a7 a8 a9 a10 a11 a12 a13 a14 a15 a16 a17 a18 a19 a20 a21 : Nat) (x0 : Int32) (h_x0 : 2 ≤ x0.toInt ∧ x0.toInt ≤ 2147483647) : Met l yX8_span (.code yX8_span cX8_span 3 (some .int) :: TT) ({ frames := 6, cells := 0, slots := 0, locals := 320 }) (PcS dC dI (TY cI cJ cII cJJ) [.ref a0, .int 0, .int x0] [(a0, .inr (8, [.ref a2, .ref a8, .ref a1, .ref a9, .ref a10, .ref a11, .ref a12, .ref a13])), (a1, .inr (4, [.ref a2, .ref a7, .ref a14, .ref a5, .ref a6, .ref a15, .ref a16, .ref a17, .int 0, .int 0, .int 0, .int 1])), (a2, .inr (3, [.int 1, .int 0, .ref a18, .ref a19, .ref a4, .ref a3, .ref a20, .ref a21])), (a3, .inl (cI, 4, .inl (tb [10, 10, 10, 10]))), (a4, .inl (cI, 4, .inl (tb [0, 0, 0, 0]))), (a5, .inl (cI, 4, .inl (tb []))), (a6, .inl (cI, 4, .inl (tb []))), (a7, .inl (cI, 9261, .inl (tb [])))] sz 0 g) ((QcI dC dI (TY cI cJ cII cJJ) (-99999) []) (va_A [(a0, .inr (8, [.ref a2, .ref a8, .ref a1, .ref a9, .ref a10, .ref a11, .ref a12, .ref a13])), (a1, .inr (4, [.ref a2, .ref a7, .ref a14, .ref a5, .ref a6, .ref a15, .ref a16, .ref a17, .int 0, .int 0, .int 0, .int 1])), (a2, .inr (3, [.int 1, .int 0, .ref a18, .ref a19, .ref a4, .ref a3, .ref a20, .ref a21])), (a3, .inl (cI, 4, .inl (tb [10, 10, 10, 10]))), (a4, .inl (cI, 4, .inl (tb [0, 0, 0, 0]))), (a5, .inl (cI, 4, .inl (tb []))), (a6, .inl (cI, 4, .inl (tb []))), (a7, .inl (cI, 9261, .inl (tb [])))] sz)) 0 0 (va_A [(a0, .inr (8, [.ref a2, .ref a8, .ref a1, .ref a9, .ref a10, .ref a11, .ref a12, .ref a13])), (a1, .inr (4, [.ref a2, .ref a7, .ref a14, .ref a5, .ref a6, .ref a15, .ref a16, .ref a17, .int 0, .int 0, .int 0, .int 1])), (a2, .inr (3, [.int 1, .int 0, .ref a18, .ref a19, .ref a4, .ref a3, .ref a20, .ref a21])), (a3, .inl (cI, 4, .inl (tb [10, 10, 10, 10]))), (a4, .inl (cI, 4, .inl (tb [0, 0, 0, 0]))), (a5, .inl (cI, 4, .inl (tb []))), (a6, .inl (cI, 4, .inl (tb []))), (a7, .inl (cI, 9261, .inl (tb [])))] sz) := by
  refine SM.of (y := yX8_span) (maxL := 3) (av := [.ref a0, .int 0, .int x0]) (QcI dC dI (TY cI cJ cII cJJ) (-99999) []) (by decide +kernel) (Nat.le_of_ble_eq_true rfl) (fun p e s m below meth c A ls hx hb hr hml hown hts hk hnm hA hK hP hD hS hX hl => ?_)
  have hown : s.vm.findClass RX8 = some m.cls := hown
  have hl : lv_has ls 3 [(0, .ref a0), (1, .int 0), (2, .int x0)] := hl
  refine lv_aload_n hx hb dX8_span_0 rfl (lv_at hl 0 rfl) ?_
  refine kV_a (q0 := 0) ⟨hx, hb, hml, hown, hts⟩ hK hP hD hS hA hX cv_RX8_196 [0, 1, 2, 3, 4, 5, 6, 7] [] (wr := []) rfl rfl rfl rfl (by decide) (c208_X8_freshPlans l dC dI cI cJ cII cJJ s.heap.size 0 a0 a1 a2 a3 a4 a5 a6 a7 a8 a9 a10 a11 a12 a13 a14 a15 a16 a17 a18 a19 a20 a21) ⟨by decide +kernel, by decide +kernel⟩ rfl rfl (Or.inl rfl) (rest := []) rfl rfl rfl hl.1 rfl (Nat.le_of_ble_eq_true rfl) dX8_span_1 ⟨Nat.le_of_ble_eq_true rfl, Nat.le_of_ble_eq_true rfl⟩ (W' := [(a0, .inr (8, [.ref a2, .ref a8, .ref a1, .ref a9, .ref a10, .ref a11, .ref a12, .ref a13])), (a2, .inr (3, [.int 1, .int 0, .ref a18, .ref a19, .ref a4, .ref a3, .ref a20, .ref a21])), (a4, .inl (cI, 4, .inl (tb [0, 0, 0, 0]))), (a5, .inl (cI, 4, .inl (tb [0]))), (a3, .inl (cI, 4, .inl (tb [10, 10, 10, 10]))), (a6, .inl (cI, 4, .inl (tb [10]))), (a1, .inr (4, [.ref a2, .ref a7, .ref a14, .ref a5, .ref a6, .ref a15, .ref a16, .ref a17, .int 1, .int 11, .int 1, .int 0])), (a7, .inl (cI, 9261, .inl (tb [10])))]) rfl (fun H locs hP hD hS => ?_)
  refine kV_i (q0 := 0) ⟨hx, hb, hml, hown, hts⟩ hK hP hD hS hA hX cv_RX8_200 [6] [0, 1, 2, 3, 4, 5, 7] (wr := [(a0, .inr (8, [.ref a2, .ref a8, .ref a1, .ref a9, .ref a10, .ref a11, .ref a12, .ref a13])), (a2, .inr (3, [.int 1, .int 0, .ref a18, .ref a19, .ref a4, .ref a3, .ref a20, .ref a21])), (a4, .inl (cI, 4, .inl (tb [0, 0, 0, 0]))), (a5, .inl (cI, 4, .inl (tb [0]))), (a3, .inl (cI, 4, .inl (tb [10, 10, 10, 10]))), (a6, .inl (cI, 4, .inl (tb [10]))), (a7, .inl (cI, 9261, .inl (tb [10])))]) rfl rfl rfl rfl (by decide) (c214_X4_size l dC dI cI cJ cII cJJ H.size 0 a1 a2 a7 a14 a5 a6 a15 a16 a17) ⟨by decide +kernel, by decide +kernel⟩ rfl rfl (Or.inl rfl) (rest := []) rfl rfl rfl hl.1 rfl (Nat.le_of_ble_eq_true rfl) dX8_span_4 ⟨Nat.le_of_ble_eq_true rfl, Nat.le_of_ble_eq_true rfl⟩ (W' := [(a0, .inr (8, [.ref a2, .ref a8, .ref a1, .ref a9, .ref a10, .ref a11, .ref a12, .ref a13])), (a2, .inr (3, [.int 1, .int 0, .ref a18, .ref a19, .ref a4, .ref a3, .ref a20, .ref a21])), (a4, .inl (cI, 4, .inl (tb [0, 0, 0, 0]))), (a5, .inl (cI, 4, .inl (tb [0]))), (a3, .inl (cI, 4, .inl (tb [10, 10, 10, 10]))), (a6, .inl (cI, 4, .inl (tb [10]))), (a7, .inl (cI, 9261, .inl (tb [10]))), (a1, .inr (4, [.ref a2, .ref a7, .ref a14, .ref a5, .ref a6, .ref a15, .ref a16, .ref a17, .int 1, .int 11, .int 1, .int 0]))]) rfl (fun H locs hP hD hS => ?_)
  refine f_if_eq hx hb dX8_span_7 30 (by decide) (by decide +kernel) ?_
  refine lv_aload_n hx hb dX8_span_10 rfl (lv_at hl 0 rfl) ?_
  refine gf (k := 0) hx hb hts inX8 hown hK hP k_264 rfl (by decide) rfl 0 rfl (.ref a2) rfl dX8_span_11 ?_
  refine lv_iload_n hx hb dX8_span_14 rfl (lv_at hl 1 rfl) ?_
  refine kV_i (q0 := 0) ⟨hx, hb, hml, hown, hts⟩ hK hP hD hS hA hX cv_RX8_82 [1] [0, 2, 3, 4, 5, 6, 7] (wr := [(a0, .inr (8, [.ref a2, .ref a8, .ref a1, .ref a9, .ref a10, .ref a11, .ref a12, .ref a13])), (a4, .inl (cI, 4, .inl (tb [0, 0, 0, 0]))), (a5, .inl (cI, 4, .inl (tb [0]))), (a3, .inl (cI, 4, .inl (tb [10, 10, 10, 10]))), (a6, .inl (cI, 4, .inl (tb [10]))), (a7, .inl (cI, 9261, .inl (tb [10]))), (a1, .inr (4, [.ref a2, .ref a7, .ref a14, .ref a5, .ref a6, .ref a15, .ref a16, .ref a17, .int 1, .int 11, .int 1, .int 0]))]) rfl rfl rfl rfl (by decide) (c037_X3_hasUnknown l dC dI cI cJ cII cJJ H.size 0 a2 a18 a19 a4 a3 a20 a21) ⟨by decide +kernel, by decide +kernel⟩ rfl rfl (Or.inl rfl) (rest := []) rfl rfl rfl hl.1 rfl (Nat.le_of_ble_eq_true rfl) dX8_span_15 ⟨Nat.le_of_ble_eq_true rfl, Nat.le_of_ble_eq_true rfl⟩ (W' := [(a0, .inr (8, [.ref a2, .ref a8, .ref a1, .ref a9, .ref a10, .ref a11, .ref a12, .ref a13])), (a4, .inl (cI, 4, .inl (tb [0, 0, 0, 0]))), (a5, .inl (cI, 4, .inl (tb [0]))), (a3, .inl (cI, 4, .inl (tb [10, 10, 10, 10]))), (a6, .inl (cI, 4, .inl (tb [10]))), (a7, .inl (cI, 9261, .inl (tb [10]))), (a1, .inr (4, [.ref a2, .ref a7, .ref a14, .ref a5, .ref a6, .ref a15, .ref a16, .ref a17, .int 1, .int 11, .int 1, .int 0])), (a2, .inr (3, [.int 1, .int 0, .ref a18, .ref a19, .ref a4, .ref a3, .ref a20, .ref a21]))]) rfl (fun H locs hP hD hS => ?_)
  refine f_if_eq hx hb dX8_span_18 30 (by decide) (by decide +kernel) ?_
  refine lv_iload_n hx hb dX8_span_21 rfl (lv_at hl 2 rfl) ?_
  refine f_if_lt hx hb dX8_span_22 30 (by decide) (p_nlt (by rw [show (0 : Int32).toInt = 0 from by decide +kernel]; omega)) ?_
  refine lv_iload_n hx hb dX8_span_25 rfl (lv_at hl 2 rfl) ?_
  refine lv_iconst (v := 1) hx hb dX8_span_26 (by decide) ?_
  refine f_icmp_le hx hb dX8_span_27 33 (by decide) (p_nle (by rw [show (1 : Int32).toInt = 1 from by decide +kernel]; omega)) ?_
  refine lv_ldc (v := (-99999)) hx hb hown (hts _ k_543) dX8_span_30 ?_
  exact r_i hx hb hr hk hK (hP.sub [] rfl) (hD.sub [] rfl rfl) hS dX8_span_32
set_option maxRecDepth 100000 in
set_option maxHeartbeats 4000000 in
theorem c241_X4_digitOf (l : Launch) (dC : Nat → ClassId) (dI : Nat → Nat → Nat) (cI cJ cII cJJ : ClassId) (sz g a0 a1 a2 a3 a4 a5 a6 a7 a8 a9 a10 a11 a12 a13 a14 : Nat) : Met l yX4_digitOf (.code yX4_digitOf cX4_digitOf 5 (some .int) :: TT) ({ frames := 2, cells := 0, slots := 0, locals := 80 }) (PcS dC dI (TY cI cJ cII cJJ) [.ref a0, .int 0, .int 0] [(a0, .inr (4, [.ref a2, .ref a1, .ref a3, .ref a4, .ref a5, .ref a6, .ref a7, .ref a8, .int 1, .int 11, .int 1, .int 0])), (a1, .inl (cI, 9261, .inl (tb [10]))), (a2, .inr (3, [.int 1, .int 0, .ref a9, .ref a10, .ref a11, .ref a12, .ref a13, .ref a14]))] sz 0 g) ((QcI dC dI (TY cI cJ cII cJJ) 0 [(a0, .inr (4, [.ref a2, .ref a1, .ref a3, .ref a4, .ref a5, .ref a6, .ref a7, .ref a8, .int 1, .int 11, .int 1, .int 0])), (a1, .inl (cI, 9261, .inl (tb [10]))), (a2, .inr (3, [.int 1, .int 0, .ref a9, .ref a10, .ref a11, .ref a12, .ref a13, .ref a14]))]) (va_A [(a0, .inr (4, [.ref a2, .ref a1, .ref a3, .ref a4, .ref a5, .ref a6, .ref a7, .ref a8, .int 1, .int 11, .int 1, .int 0])), (a1, .inl (cI, 9261, .inl (tb [10]))), (a2, .inr (3, [.int 1, .int 0, .ref a9, .ref a10, .ref a11, .ref a12, .ref a13, .ref a14]))] sz)) 0 0 (va_A [(a0, .inr (4, [.ref a2, .ref a1, .ref a3, .ref a4, .ref a5, .ref a6, .ref a7, .ref a8, .int 1, .int 11, .int 1, .int 0])), (a1, .inl (cI, 9261, .inl (tb [10]))), (a2, .inr (3, [.int 1, .int 0, .ref a9, .ref a10, .ref a11, .ref a12, .ref a13, .ref a14]))] sz) := by
  refine SM.of (y := yX4_digitOf) (maxL := 5) (av := [.ref a0, .int 0, .int 0]) (QcI dC dI (TY cI cJ cII cJJ) 0 [(a0, .inr (4, [.ref a2, .ref a1, .ref a3, .ref a4, .ref a5, .ref a6, .ref a7, .ref a8, .int 1, .int 11, .int 1, .int 0])), (a1, .inl (cI, 9261, .inl (tb [10]))), (a2, .inr (3, [.int 1, .int 0, .ref a9, .ref a10, .ref a11, .ref a12, .ref a13, .ref a14]))]) (by decide +kernel) (Nat.le_of_ble_eq_true rfl) (fun p e s m below meth c A ls hx hb hr hml hown hts hk hnm hA hK hP hD hS hX hl => ?_)
  have hown : s.vm.findClass RX4 = some m.cls := hown
  have hl : lv_has ls 5 [(0, .ref a0), (1, .int 0), (2, .int 0)] := hl
  refine lv_aload_n hx hb dX4_digitOf_0 rfl (lv_at hl 0 rfl) ?_
  refine gf (k := 1) hx hb hts inX4 hown hK hP k_206 rfl (by decide) rfl 0 rfl (.ref a1) rfl dX4_digitOf_1 ?_
  refine lv_iload_n hx hb dX4_digitOf_4 rfl (lv_at hl 1 rfl) ?_
  refine ld_i hx hb hK hP 1 rfl (vin (by decide +kernel)) dX4_digitOf_5 10 rfl ?_
  refine lv_istore_n (lv' := [(3, .int 10), (0, .ref a0), (1, .int 0), (2, .int 0)]) hx hb dX4_digitOf_6 rfl hl (by decide) rfl (fun ls hl => ?_)
  refine lv_aload_n hx hb dX4_digitOf_7 rfl (lv_at hl 1 rfl) ?_
  refine gf (k := 0) hx hb hts inX4 hown hK hP k_205 rfl (by decide) rfl 0 rfl (.ref a2) rfl dX4_digitOf_8 ?_
  refine gf (k := 0) hx hb hts inX3 hown hK hP k_39 rfl (by decide) rfl 2 rfl (.int 1) rfl dX4_digitOf_11 ?_
  refine lv_iconst (v := 1) hx hb dX4_digitOf_14 (by decide) ?_
  refine v_isub hx hb dX4_digitOf_15 0 (by decide +kernel) ?_
  refine lv_istore (lv' := [(4, .int 0), (3, .int 10), (0, .ref a0), (1, .int 0), (2, .int 0)]) hx hb dX4_digitOf_16 hl (by decide) rfl (fun ls hl => ?_)
  refine lv_iload hx hb dX4_digitOf_18 (lv_at hl 0 rfl) ?_
  refine lv_iload_n hx hb dX4_digitOf_20 rfl (lv_at hl 4 rfl) ?_
  refine t_icmp_le hx hb dX4_digitOf_21 35 (by decide) (by decide +kernel) ?_
  refine lv_iload_n hx hb dX4_digitOf_35 rfl (lv_at hl 1 rfl) ?_
  refine lv_bipush (v := 21) hx hb dX4_digitOf_36 (by decide) ?_
  refine v_irem hx hb dX4_digitOf_38 (by decide +kernel) 10 (by decide +kernel) ?_
  refine lv_bipush (v := 10) hx hb dX4_digitOf_39 (by decide) ?_
  refine v_isub hx hb dX4_digitOf_41 0 (by decide +kernel) ?_
  exact r_i hx hb hr hk hK hP hD hS dX4_digitOf_42
set_option maxRecDepth 100000 in
set_option maxHeartbeats 4000000 in
theorem c240_X4_leastOf (l : Launch) (dC : Nat → ClassId) (dI : Nat → Nat → Nat) (cI cJ cII cJJ : ClassId) (sz g a0 a1 a2 a3 a4 a5 a6 a7 a8 a9 a10 a11 a12 a13 a14 : Nat) : Met l yX4_leastOf (.code yX4_leastOf cX4_leastOf 4 (some .int) :: TT) ({ frames := 3, cells := 0, slots := 0, locals := 140 }) (PcS dC dI (TY cI cJ cII cJJ) [.ref a0, .int 0] [(a0, .inr (4, [.ref a2, .ref a1, .ref a3, .ref a4, .ref a5, .ref a6, .ref a7, .ref a8, .int 1, .int 11, .int 1, .int 0])), (a1, .inl (cI, 9261, .inl (tb [10]))), (a2, .inr (3, [.int 1, .int 0, .ref a9, .ref a10, .ref a11, .ref a12, .ref a13, .ref a14]))] sz 0 g) ((QcI dC dI (TY cI cJ cII cJJ) 0 [(a0, .inr (4, [.ref a2, .ref a1, .ref a3, .ref a4, .ref a5, .ref a6, .ref a7, .ref a8, .int 1, .int 11, .int 1, .int 0])), (a1, .inl (cI, 9261, .inl (tb [10]))), (a2, .inr (3, [.int 1, .int 0, .ref a9, .ref a10, .ref a11, .ref a12, .ref a13, .ref a14]))]) (va_A [(a0, .inr (4, [.ref a2, .ref a1, .ref a3, .ref a4, .ref a5, .ref a6, .ref a7, .ref a8, .int 1, .int 11, .int 1, .int 0])), (a1, .inl (cI, 9261, .inl (tb [10]))), (a2, .inr (3, [.int 1, .int 0, .ref a9, .ref a10, .ref a11, .ref a12, .ref a13, .ref a14]))] sz)) 0 0 (va_A [(a0, .inr (4, [.ref a2, .ref a1, .ref a3, .ref a4, .ref a5, .ref a6, .ref a7, .ref a8, .int 1, .int 11, .int 1, .int 0])), (a1, .inl (cI, 9261, .inl (tb [10]))), (a2, .inr (3, [.int 1, .int 0, .ref a9, .ref a10, .ref a11, .ref a12, .ref a13, .ref a14]))] sz) := by
  refine SM.of (y := yX4_leastOf) (maxL := 4) (av := [.ref a0, .int 0]) (QcI dC dI (TY cI cJ cII cJJ) 0 [(a0, .inr (4, [.ref a2, .ref a1, .ref a3, .ref a4, .ref a5, .ref a6, .ref a7, .ref a8, .int 1, .int 11, .int 1, .int 0])), (a1, .inl (cI, 9261, .inl (tb [10]))), (a2, .inr (3, [.int 1, .int 0, .ref a9, .ref a10, .ref a11, .ref a12, .ref a13, .ref a14]))]) (by decide +kernel) (Nat.le_of_ble_eq_true rfl) (fun p e s m below meth c A ls hx hb hr hml hown hts hk hnm hA hK hP hD hS hX hl => ?_)
  have hown : s.vm.findClass RX4 = some m.cls := hown
  have hl : lv_has ls 4 [(0, .ref a0), (1, .int 0)] := hl
  refine lv_bipush (v := 10) hx hb dX4_leastOf_0 (by decide) ?_
  refine lv_istore_n (lv' := [(2, .int 10), (0, .ref a0), (1, .int 0)]) hx hb dX4_leastOf_2 rfl hl (by decide) rfl (fun ls hl => ?_)
  refine lv_iconst (v := 0) hx hb dX4_leastOf_3 (by decide) ?_
  refine lv_istore_n (lv' := [(3, .int 0), (2, .int 10), (0, .ref a0), (1, .int 0)]) hx hb dX4_leastOf_4 rfl hl (by decide) rfl (fun ls hl => ?_)
  refine lv_iload_n hx hb dX4_leastOf_5 rfl (lv_at hl 0 rfl) ?_
  refine lv_aload_n hx hb dX4_leastOf_6 rfl (lv_at hl 2 rfl) ?_
  refine gf (k := 8) hx hb hts inX4 hown hK hP k_213 rfl (by decide) rfl 0 rfl (.int 1) rfl dX4_leastOf_7 ?_
  refine f_icmp_ge hx hb dX4_leastOf_10 30 (by decide) (by decide +kernel) ?_
  refine lv_iload_n hx hb dX4_leastOf_13 rfl (lv_at hl 1 rfl) ?_
  refine lv_aload_n hx hb dX4_leastOf_14 rfl (lv_at hl 2 rfl) ?_
  refine lv_iload_n hx hb dX4_leastOf_15 rfl (lv_at hl 0 rfl) ?_
  refine lv_iload_n hx hb dX4_leastOf_16 rfl (lv_at hl 3 rfl) ?_
  refine kV_i (q0 := 0) ⟨hx, hb, hml, hown, hts⟩ hK hP hD hS hA hX cv_RX4_93 [0, 1, 2] [] (wr := []) rfl rfl rfl rfl (by decide) (c241_X4_digitOf l dC dI cI cJ cII cJJ s.heap.size 0 a0 a1 a2 a3 a4 a5 a6 a7 a8 a9 a10 a11 a12 a13 a14) ⟨by decide +kernel, by decide +kernel⟩ rfl rfl (Or.inl rfl) (rest := [.int 10]) rfl rfl rfl hl.1 rfl (Nat.le_of_ble_eq_true rfl) dX4_leastOf_17 ⟨Nat.le_of_ble_eq_true rfl, Nat.le_of_ble_eq_true rfl⟩ (W' := [(a0, .inr (4, [.ref a2, .ref a1, .ref a3, .ref a4, .ref a5, .ref a6, .ref a7, .ref a8, .int 1, .int 11, .int 1, .int 0])), (a1, .inl (cI, 9261, .inl (tb [10]))), (a2, .inr (3, [.int 1, .int 0, .ref a9, .ref a10, .ref a11, .ref a12, .ref a13, .ref a14]))]) rfl (fun H locs hP hD hS => ?_)
  refine va_mmin hx hb (by rw [hml]; exact hl.1.symm) hown (hts _ k_672) (hts _ k_464) (hts _ k_13) (hts _ k_465) (by decide) (Nat.le_of_ble_eq_true rfl) (Nat.le_of_ble_eq_true rfl) (Nat.le_of_ble_eq_true rfl) dX4_leastOf_20 ?_
  refine tvi (v := 0) (by decide +kernel) ?_
  refine lv_istore_n (lv' := [(2, .int 0), (3, .int 0), (0, .ref a0), (1, .int 0)]) hx hb dX4_leastOf_23 rfl hl (by decide) rfl (fun ls hl => ?_)
  refine lv_iinc (v := 1) (lv' := [(3, .int 1), (2, .int 0), (0, .ref a0), (1, .int 0)]) hx hb dX4_leastOf_24 hl (k := 1) rfl (by decide +kernel) (by decide) rfl (fun ls hl => ?_)
  refine lv_goto (tgt := 5) hx hb dX4_leastOf_27 (by decide) ?_
  refine lv_iload_n hx hb dX4_leastOf_5 rfl (lv_at hl 0 rfl) ?_
  refine lv_aload_n hx hb dX4_leastOf_6 rfl (lv_at hl 2 rfl) ?_
  refine gf (k := 8) hx hb hts inX4 hown hK hP k_213 rfl (by decide) rfl 0 rfl (.int 1) rfl dX4_leastOf_7 ?_
  refine t_icmp_ge hx hb dX4_leastOf_10 30 (by decide) (by decide +kernel) ?_
  refine lv_iload_n hx hb dX4_leastOf_30 rfl (lv_at hl 1 rfl) ?_
  exact r_i hx hb hr hk hK hP hD hS dX4_leastOf_31
set_option maxRecDepth 100000 in
set_option maxHeartbeats 4000000 in
theorem c239_X8_span (l : Launch) (dC : Nat → ClassId) (dI : Nat → Nat → Nat) (cI cJ cII cJJ : ClassId) (sz g a0 a1 a2 a3 a4 a5 a6 a7 a8 a9 a10 a11 a12 a13 a14 a15 a16 a17 a18 a19 a20 a21 : Nat) : Met l yX8_span (.code yX8_span cX8_span 3 (some .int) :: TT) ({ frames := 6, cells := 0, slots := 0, locals := 320 }) (PcS dC dI (TY cI cJ cII cJJ) [.ref a0, .int 0, .int 0] [(a0, .inr (8, [.ref a2, .ref a8, .ref a1, .ref a9, .ref a10, .ref a11, .ref a12, .ref a13])), (a1, .inr (4, [.ref a2, .ref a7, .ref a14, .ref a5, .ref a6, .ref a15, .ref a16, .ref a17, .int 0, .int 0, .int 0, .int 1])), (a2, .inr (3, [.int 1, .int 0, .ref a18, .ref a19, .ref a4, .ref a3, .ref a20, .ref a21])), (a3, .inl (cI, 4, .inl (tb [10, 10, 10, 10]))), (a4, .inl (cI, 4, .inl (tb [0, 0, 0, 0]))), (a5, .inl (cI, 4, .inl (tb []))), (a6, .inl (cI, 4, .inl (tb []))), (a7, .inl (cI, 9261, .inl (tb [])))] sz 0 g) ((QcI dC dI (TY cI cJ cII cJJ) 0 []) (va_A [(a0, .inr (8, [.ref a2, .ref a8, .ref a1, .ref a9, .ref a10, .ref a11, .ref a12, .ref a13])), (a1, .inr (4, [.ref a2, .ref a7, .ref a14, .ref a5, .ref a6, .ref a15, .ref a16, .ref a17, .int 0, .int 0, .int 0, .int 1])), (a2, .inr (3, [.int 1, .int 0, .ref a18, .ref a19, .ref a4, .ref a3, .ref a20, .ref a21])), (a3, .inl (cI, 4, .inl (tb [10, 10, 10, 10]))), (a4, .inl (cI, 4, .inl (tb [0, 0, 0, 0]))), (a5, .inl (cI, 4, .inl (tb []))), (a6, .inl (cI, 4, .inl (tb []))), (a7, .inl (cI, 9261, .inl (tb [])))] sz)) 0 0 (va_A [(a0, .inr (8, [.ref a2, .ref a8, .ref a1, .ref a9, .ref a10, .ref a11, .ref a12, .ref a13])), (a1, .inr (4, [.ref a2, .ref a7, .ref a14, .ref a5, .ref a6, .ref a15, .ref a16, .ref a17, .int 0, .int 0, .int 0, .int 1])), (a2, .inr (3, [.int 1, .int 0, .ref a18, .ref a19, .ref a4, .ref a3, .ref a20, .ref a21])), (a3, .inl (cI, 4, .inl (tb [10, 10, 10, 10]))), (a4, .inl (cI, 4, .inl (tb [0, 0, 0, 0]))), (a5, .inl (cI, 4, .inl (tb []))), (a6, .inl (cI, 4, .inl (tb []))), (a7, .inl (cI, 9261, .inl (tb [])))] sz) := by
  refine SM.of (y := yX8_span) (maxL := 3) (av := [.ref a0, .int 0, .int 0]) (QcI dC dI (TY cI cJ cII cJJ) 0 []) (by decide +kernel) (Nat.le_of_ble_eq_true rfl) (fun p e s m below meth c A ls hx hb hr hml hown hts hk hnm hA hK hP hD hS hX hl => ?_)
  have hown : s.vm.findClass RX8 = some m.cls := hown
  have hl : lv_has ls 3 [(0, .ref a0), (1, .int 0), (2, .int 0)] := hl
  refine lv_aload_n hx hb dX8_span_0 rfl (lv_at hl 0 rfl) ?_
  refine kV_a (q0 := 0) ⟨hx, hb, hml, hown, hts⟩ hK hP hD hS hA hX cv_RX8_196 [0, 1, 2, 3, 4, 5, 6, 7] [] (wr := []) rfl rfl rfl rfl (by decide) (c208_X8_freshPlans l dC dI cI cJ cII cJJ s.heap.size 0 a0 a1 a2 a3 a4 a5 a6 a7 a8 a9 a10 a11 a12 a13 a14 a15 a16 a17 a18 a19 a20 a21) ⟨by decide +kernel, by decide +kernel⟩ rfl rfl (Or.inl rfl) (rest := []) rfl rfl rfl hl.1 rfl (Nat.le_of_ble_eq_true rfl) dX8_span_1 ⟨Nat.le_of_ble_eq_true rfl, Nat.le_of_ble_eq_true rfl⟩ (W' := [(a0, .inr (8, [.ref a2, .ref a8, .ref a1, .ref a9, .ref a10, .ref a11, .ref a12, .ref a13])), (a2, .inr (3, [.int 1, .int 0, .ref a18, .ref a19, .ref a4, .ref a3, .ref a20, .ref a21])), (a4, .inl (cI, 4, .inl (tb [0, 0, 0, 0]))), (a5, .inl (cI, 4, .inl (tb [0]))), (a3, .inl (cI, 4, .inl (tb [10, 10, 10, 10]))), (a6, .inl (cI, 4, .inl (tb [10]))), (a1, .inr (4, [.ref a2, .ref a7, .ref a14, .ref a5, .ref a6, .ref a15, .ref a16, .ref a17, .int 1, .int 11, .int 1, .int 0])), (a7, .inl (cI, 9261, .inl (tb [10])))]) rfl (fun H locs hP hD hS => ?_)
  refine kV_i (q0 := 0) ⟨hx, hb, hml, hown, hts⟩ hK hP hD hS hA hX cv_RX8_200 [6] [0, 1, 2, 3, 4, 5, 7] (wr := [(a0, .inr (8, [.ref a2, .ref a8, .ref a1, .ref a9, .ref a10, .ref a11, .ref a12, .ref a13])), (a2, .inr (3, [.int 1, .int 0, .ref a18, .ref a19, .ref a4, .ref a3, .ref a20, .ref a21])), (a4, .inl (cI, 4, .inl (tb [0, 0, 0, 0]))), (a5, .inl (cI, 4, .inl (tb [0]))), (a3, .inl (cI, 4, .inl (tb [10, 10, 10, 10]))), (a6, .inl (cI, 4, .inl (tb [10]))), (a7, .inl (cI, 9261, .inl (tb [10])))]) rfl rfl rfl rfl (by decide) (c214_X4_size l dC dI cI cJ cII cJJ H.size 0 a1 a2 a7 a14 a5 a6 a15 a16 a17) ⟨by decide +kernel, by decide +kernel⟩ rfl rfl (Or.inl rfl) (rest := []) rfl rfl rfl hl.1 rfl (Nat.le_of_ble_eq_true rfl) dX8_span_4 ⟨Nat.le_of_ble_eq_true rfl, Nat.le_of_ble_eq_true rfl⟩ (W' := [(a0, .inr (8, [.ref a2, .ref a8, .ref a1, .ref a9, .ref a10, .ref a11, .ref a12, .ref a13])), (a2, .inr (3, [.int 1, .int 0, .ref a18, .ref a19, .ref a4, .ref a3, .ref a20, .ref a21])), (a4, .inl (cI, 4, .inl (tb [0, 0, 0, 0]))), (a5, .inl (cI, 4, .inl (tb [0]))), (a3, .inl (cI, 4, .inl (tb [10, 10, 10, 10]))), (a6, .inl (cI, 4, .inl (tb [10]))), (a7, .inl (cI, 9261, .inl (tb [10]))), (a1, .inr (4, [.ref a2, .ref a7, .ref a14, .ref a5, .ref a6, .ref a15, .ref a16, .ref a17, .int 1, .int 11, .int 1, .int 0]))]) rfl (fun H locs hP hD hS => ?_)
  refine f_if_eq hx hb dX8_span_7 30 (by decide) (by decide +kernel) ?_
  refine lv_aload_n hx hb dX8_span_10 rfl (lv_at hl 0 rfl) ?_
  refine gf (k := 0) hx hb hts inX8 hown hK hP k_264 rfl (by decide) rfl 0 rfl (.ref a2) rfl dX8_span_11 ?_
  refine lv_iload_n hx hb dX8_span_14 rfl (lv_at hl 1 rfl) ?_
  refine kV_i (q0 := 0) ⟨hx, hb, hml, hown, hts⟩ hK hP hD hS hA hX cv_RX8_82 [1] [0, 2, 3, 4, 5, 6, 7] (wr := [(a0, .inr (8, [.ref a2, .ref a8, .ref a1, .ref a9, .ref a10, .ref a11, .ref a12, .ref a13])), (a4, .inl (cI, 4, .inl (tb [0, 0, 0, 0]))), (a5, .inl (cI, 4, .inl (tb [0]))), (a3, .inl (cI, 4, .inl (tb [10, 10, 10, 10]))), (a6, .inl (cI, 4, .inl (tb [10]))), (a7, .inl (cI, 9261, .inl (tb [10]))), (a1, .inr (4, [.ref a2, .ref a7, .ref a14, .ref a5, .ref a6, .ref a15, .ref a16, .ref a17, .int 1, .int 11, .int 1, .int 0]))]) rfl rfl rfl rfl (by decide) (c037_X3_hasUnknown l dC dI cI cJ cII cJJ H.size 0 a2 a18 a19 a4 a3 a20 a21) ⟨by decide +kernel, by decide +kernel⟩ rfl rfl (Or.inl rfl) (rest := []) rfl rfl rfl hl.1 rfl (Nat.le_of_ble_eq_true rfl) dX8_span_15 ⟨Nat.le_of_ble_eq_true rfl, Nat.le_of_ble_eq_true rfl⟩ (W' := [(a0, .inr (8, [.ref a2, .ref a8, .ref a1, .ref a9, .ref a10, .ref a11, .ref a12, .ref a13])), (a4, .inl (cI, 4, .inl (tb [0, 0, 0, 0]))), (a5, .inl (cI, 4, .inl (tb [0]))), (a3, .inl (cI, 4, .inl (tb [10, 10, 10, 10]))), (a6, .inl (cI, 4, .inl (tb [10]))), (a7, .inl (cI, 9261, .inl (tb [10]))), (a1, .inr (4, [.ref a2, .ref a7, .ref a14, .ref a5, .ref a6, .ref a15, .ref a16, .ref a17, .int 1, .int 11, .int 1, .int 0])), (a2, .inr (3, [.int 1, .int 0, .ref a18, .ref a19, .ref a4, .ref a3, .ref a20, .ref a21]))]) rfl (fun H locs hP hD hS => ?_)
  refine f_if_eq hx hb dX8_span_18 30 (by decide) (by decide +kernel) ?_
  refine lv_iload_n hx hb dX8_span_21 rfl (lv_at hl 2 rfl) ?_
  refine f_if_lt hx hb dX8_span_22 30 (by decide) (by decide +kernel) ?_
  refine lv_iload_n hx hb dX8_span_25 rfl (lv_at hl 2 rfl) ?_
  refine lv_iconst (v := 1) hx hb dX8_span_26 (by decide) ?_
  refine t_icmp_le hx hb dX8_span_27 33 (by decide) (by decide +kernel) ?_
  refine lv_iload_n hx hb dX8_span_33 rfl (lv_at hl 2 rfl) ?_
  refine f_if_ne hx hb dX8_span_34 48 (by decide) (by decide +kernel) ?_
  refine lv_aload_n hx hb dX8_span_37 rfl (lv_at hl 0 rfl) ?_
  refine gf (k := 2) hx hb hts inX8 hown hK hP k_266 rfl (by decide) rfl 0 rfl (.ref a1) rfl dX8_span_38 ?_
  refine lv_iload_n hx hb dX8_span_41 rfl (lv_at hl 1 rfl) ?_
  refine kV_i (q0 := 0) ⟨hx, hb, hml, hown, hts⟩ hK hP hD hS hA hX cv_RX8_212 [6, 5, 7] [0, 1, 2, 3, 4] (wr := [(a0, .inr (8, [.ref a2, .ref a8, .ref a1, .ref a9, .ref a10, .ref a11, .ref a12, .ref a13])), (a4, .inl (cI, 4, .inl (tb [0, 0, 0, 0]))), (a5, .inl (cI, 4, .inl (tb [0]))), (a3, .inl (cI, 4, .inl (tb [10, 10, 10, 10]))), (a6, .inl (cI, 4, .inl (tb [10])))]) rfl rfl rfl rfl (by decide) (c240_X4_leastOf l dC dI cI cJ cII cJJ H.size 0 a1 a7 a2 a14 a5 a6 a15 a16 a17 a18 a19 a4 a3 a20 a21) ⟨by decide +kernel, by decide +kernel⟩ rfl rfl (Or.inl rfl) (rest := []) rfl rfl rfl hl.1 rfl (Nat.le_of_ble_eq_true rfl) dX8_span_42 ⟨Nat.le_of_ble_eq_true rfl, Nat.le_of_ble_eq_true rfl⟩ (W' := [(a0, .inr (8, [.ref a2, .ref a8, .ref a1, .ref a9, .ref a10, .ref a11, .ref a12, .ref a13])), (a4, .inl (cI, 4, .inl (tb [0, 0, 0, 0]))), (a5, .inl (cI, 4, .inl (tb [0]))), (a3, .inl (cI, 4, .inl (tb [10, 10, 10, 10]))), (a6, .inl (cI, 4, .inl (tb [10]))), (a1, .inr (4, [.ref a2, .ref a7, .ref a14, .ref a5, .ref a6, .ref a15, .ref a16, .ref a17, .int 1, .int 11, .int 1, .int 0])), (a7, .inl (cI, 9261, .inl (tb [10]))), (a2, .inr (3, [.int 1, .int 0, .ref a18, .ref a19, .ref a4, .ref a3, .ref a20, .ref a21]))]) rfl (fun H locs hP hD hS => ?_)
  refine lv_goto (tgt := 56) hx hb dX8_span_45 (by decide) ?_
  exact r_i hx hb hr hk hK (hP.sub [] rfl) (hD.sub [] rfl rfl) hS dX8_span_56
set_option maxRecDepth 100000 in
set_option maxHeartbeats 4000000 in
theorem c243_X4_greatestOf (l : Launch) (dC : Nat → ClassId) (dI : Nat → Nat → Nat) (cI cJ cII cJJ : ClassId) (sz g a0 a1 a2 a3 a4 a5 a6 a7 a8 a9 a10 a11 a12 a13 a14 : Nat) : Met l yX4_greatestOf (.code yX4_greatestOf cX4_greatestOf 4 (some .int) :: TT) ({ frames := 3, cells := 0, slots := 0, locals := 140 }) (PcS dC dI (TY cI cJ cII cJJ) [.ref a0, .int 0] [(a0, .inr (4, [.ref a2, .ref a1, .ref a3, .ref a4, .ref a5, .ref a6, .ref a7, .ref a8, .int 1, .int 11, .int 1, .int 0])), (a1, .inl (cI, 9261, .inl (tb [10]))), (a2, .inr (3, [.int 1, .int 0, .ref a9, .ref a10, .ref a11, .ref a12, .ref a13, .ref a14]))] sz 0 g) ((QcI dC dI (TY cI cJ cII cJJ) 10 [(a0, .inr (4, [.ref a2, .ref a1, .ref a3, .ref a4, .ref a5, .ref a6, .ref a7, .ref a8, .int 1, .int 11, .int 1, .int 0])), (a1, .inl (cI, 9261, .inl (tb [10]))), (a2, .inr (3, [.int 1, .int 0, .ref a9, .ref a10, .ref a11, .ref a12, .ref a13, .ref a14]))]) (va_A [(a0, .inr (4, [.ref a2, .ref a1, .ref a3, .ref a4, .ref a5, .ref a6, .ref a7, .ref a8, .int 1, .int 11, .int 1, .int 0])), (a1, .inl (cI, 9261, .inl (tb [10]))), (a2, .inr (3, [.int 1, .int 0, .ref a9, .ref a10, .ref a11, .ref a12, .ref a13, .ref a14]))] sz)) 0 0 (va_A [(a0, .inr (4, [.ref a2, .ref a1, .ref a3, .ref a4, .ref a5, .ref a6, .ref a7, .ref a8, .int 1, .int 11, .int 1, .int 0])), (a1, .inl (cI, 9261, .inl (tb [10]))), (a2, .inr (3, [.int 1, .int 0, .ref a9, .ref a10, .ref a11, .ref a12, .ref a13, .ref a14]))] sz) := by
  refine SM.of (y := yX4_greatestOf) (maxL := 4) (av := [.ref a0, .int 0]) (QcI dC dI (TY cI cJ cII cJJ) 10 [(a0, .inr (4, [.ref a2, .ref a1, .ref a3, .ref a4, .ref a5, .ref a6, .ref a7, .ref a8, .int 1, .int 11, .int 1, .int 0])), (a1, .inl (cI, 9261, .inl (tb [10]))), (a2, .inr (3, [.int 1, .int 0, .ref a9, .ref a10, .ref a11, .ref a12, .ref a13, .ref a14]))]) (by decide +kernel) (Nat.le_of_ble_eq_true rfl) (fun p e s m below meth c A ls hx hb hr hml hown hts hk hnm hA hK hP hD hS hX hl => ?_)
  have hown : s.vm.findClass RX4 = some m.cls := hown
  have hl : lv_has ls 4 [(0, .ref a0), (1, .int 0)] := hl
  refine lv_bipush (v := (-10)) hx hb dX4_greatestOf_0 (by decide) ?_
  refine lv_istore_n (lv' := [(2, .int (-10)), (0, .ref a0), (1, .int 0)]) hx hb dX4_greatestOf_2 rfl hl (by decide) rfl (fun ls hl => ?_)
  refine lv_iconst (v := 0) hx hb dX4_greatestOf_3 (by decide) ?_
  refine lv_istore_n (lv' := [(3, .int 0), (2, .int (-10)), (0, .ref a0), (1, .int 0)]) hx hb dX4_greatestOf_4 rfl hl (by decide) rfl (fun ls hl => ?_)
  refine lv_iload_n hx hb dX4_greatestOf_5 rfl (lv_at hl 0 rfl) ?_
  refine lv_aload_n hx hb dX4_greatestOf_6 rfl (lv_at hl 2 rfl) ?_
  refine gf (k := 8) hx hb hts inX4 hown hK hP k_213 rfl (by decide) rfl 0 rfl (.int 1) rfl dX4_greatestOf_7 ?_
  refine f_icmp_ge hx hb dX4_greatestOf_10 30 (by decide) (by decide +kernel) ?_
  refine lv_iload_n hx hb dX4_greatestOf_13 rfl (lv_at hl 1 rfl) ?_
  refine lv_aload_n hx hb dX4_greatestOf_14 rfl (lv_at hl 2 rfl) ?_
  refine lv_iload_n hx hb dX4_greatestOf_15 rfl (lv_at hl 0 rfl) ?_
  refine lv_iload_n hx hb dX4_greatestOf_16 rfl (lv_at hl 3 rfl) ?_
  refine kV_i (q0 := 0) ⟨hx, hb, hml, hown, hts⟩ hK hP hD hS hA hX cv_RX4_93 [0, 1, 2] [] (wr := []) rfl rfl rfl rfl (by decide) (c241_X4_digitOf l dC dI cI cJ cII cJJ s.heap.size 0 a0 a1 a2 a3 a4 a5 a6 a7 a8 a9 a10 a11 a12 a13 a14) ⟨by decide +kernel, by decide +kernel⟩ rfl rfl (Or.inl rfl) (rest := [.int (-10)]) rfl rfl rfl hl.1 rfl (Nat.le_of_ble_eq_true rfl) dX4_greatestOf_17 ⟨Nat.le_of_ble_eq_true rfl, Nat.le_of_ble_eq_true rfl⟩ (W' := [(a0, .inr (4, [.ref a2, .ref a1, .ref a3, .ref a4, .ref a5, .ref a6, .ref a7, .ref a8, .int 1, .int 11, .int 1, .int 0])), (a1, .inl (cI, 9261, .inl (tb [10]))), (a2, .inr (3, [.int 1, .int 0, .ref a9, .ref a10, .ref a11, .ref a12, .ref a13, .ref a14]))]) rfl (fun H locs hP hD hS => ?_)
  refine va_mmax hx hb (by rw [hml]; exact hl.1.symm) hown (hts _ k_667) (hts _ k_445) (hts _ k_13) (hts _ k_446) (by decide) (Nat.le_of_ble_eq_true rfl) (Nat.le_of_ble_eq_true rfl) (Nat.le_of_ble_eq_true rfl) dX4_greatestOf_20 ?_
  refine tvi (v := 0) (by decide +kernel) ?_
  refine lv_istore_n (lv' := [(2, .int 0), (3, .int 0), (0, .ref a0), (1, .int 0)]) hx hb dX4_greatestOf_23 rfl hl (by decide) rfl (fun ls hl => ?_)
  refine lv_iinc (v := 1) (lv' := [(3, .int 1), (2, .int 0), (0, .ref a0), (1, .int 0)]) hx hb dX4_greatestOf_24 hl (k := 1) rfl (by decide +kernel) (by decide) rfl (fun ls hl => ?_)
  refine lv_goto (tgt := 5) hx hb dX4_greatestOf_27 (by decide) ?_
  refine lv_iload_n hx hb dX4_greatestOf_5 rfl (lv_at hl 0 rfl) ?_
  refine lv_aload_n hx hb dX4_greatestOf_6 rfl (lv_at hl 2 rfl) ?_
  refine gf (k := 8) hx hb hts inX4 hown hK hP k_213 rfl (by decide) rfl 0 rfl (.int 1) rfl dX4_greatestOf_7 ?_
  refine t_icmp_ge hx hb dX4_greatestOf_10 30 (by decide) (by decide +kernel) ?_
  refine lv_iload_n hx hb dX4_greatestOf_30 rfl (lv_at hl 3 rfl) ?_
  refine lv_aload_n hx hb dX4_greatestOf_31 rfl (lv_at hl 2 rfl) ?_
  refine gf (k := 0) hx hb hts inX4 hown hK hP k_205 rfl (by decide) rfl 0 rfl (.ref a2) rfl dX4_greatestOf_32 ?_
  refine gf (k := 0) hx hb hts inX3 hown hK hP k_39 rfl (by decide) rfl 2 rfl (.int 1) rfl dX4_greatestOf_35 ?_
  refine lv_iconst (v := 1) hx hb dX4_greatestOf_38 (by decide) ?_
  refine v_isub hx hb dX4_greatestOf_39 0 (by decide +kernel) ?_
  refine f_icmp_ne hx hb dX4_greatestOf_40 54 (by decide) (by decide +kernel) ?_
  refine lv_iload_n hx hb dX4_greatestOf_43 rfl (lv_at hl 1 rfl) ?_
  refine lv_aload_n hx hb dX4_greatestOf_44 rfl (lv_at hl 2 rfl) ?_
  refine gf (k := 9) hx hb hts inX4 hown hK hP k_214 rfl (by decide) rfl 0 rfl (.int 11) rfl dX4_greatestOf_45 ?_
  refine v_iadd hx hb dX4_greatestOf_48 11 (by decide +kernel) ?_
  refine lv_iconst (v := 1) hx hb dX4_greatestOf_49 (by decide) ?_
  refine v_isub hx hb dX4_greatestOf_50 10 (by decide +kernel) ?_
  refine lv_goto (tgt := 55) hx hb dX4_greatestOf_51 (by decide) ?_
  exact r_i hx hb hr hk hK hP hD hS dX4_greatestOf_55
set_option maxRecDepth 100000 in
set_option maxHeartbeats 4000000 in
theorem c242_X8_span (l : Launch) (dC : Nat → ClassId) (dI : Nat → Nat → Nat) (cI cJ cII cJJ : ClassId) (sz g a0 a1 a2 a3 a4 a5 a6 a7 a8 a9 a10 a11 a12 a13 a14 a15 a16 a17 a18 a19 a20 a21 : Nat) : Met l yX8_span (.code yX8_span cX8_span 3 (some .int) :: TT) ({ frames := 6, cells := 0, slots := 0, locals := 320 }) (PcS dC dI (TY cI cJ cII cJJ) [.ref a0, .int 0, .int 1] [(a0, .inr (8, [.ref a2, .ref a8, .ref a1, .ref a9, .ref a10, .ref a11, .ref a12, .ref a13])), (a1, .inr (4, [.ref a2, .ref a7, .ref a14, .ref a5, .ref a6, .ref a15, .ref a16, .ref a17, .int 0, .int 0, .int 0, .int 1])), (a2, .inr (3, [.int 1, .int 0, .ref a18, .ref a19, .ref a4, .ref a3, .ref a20, .ref a21])), (a3, .inl (cI, 4, .inl (tb [10, 10, 10, 10]))), (a4, .inl (cI, 4, .inl (tb [0, 0, 0, 0]))), (a5, .inl (cI, 4, .inl (tb []))), (a6, .inl (cI, 4, .inl (tb []))), (a7, .inl (cI, 9261, .inl (tb [])))] sz 0 g) ((QcI dC dI (TY cI cJ cII cJJ) 10 []) (va_A [(a0, .inr (8, [.ref a2, .ref a8, .ref a1, .ref a9, .ref a10, .ref a11, .ref a12, .ref a13])), (a1, .inr (4, [.ref a2, .ref a7, .ref a14, .ref a5, .ref a6, .ref a15, .ref a16, .ref a17, .int 0, .int 0, .int 0, .int 1])), (a2, .inr (3, [.int 1, .int 0, .ref a18, .ref a19, .ref a4, .ref a3, .ref a20, .ref a21])), (a3, .inl (cI, 4, .inl (tb [10, 10, 10, 10]))), (a4, .inl (cI, 4, .inl (tb [0, 0, 0, 0]))), (a5, .inl (cI, 4, .inl (tb []))), (a6, .inl (cI, 4, .inl (tb []))), (a7, .inl (cI, 9261, .inl (tb [])))] sz)) 0 0 (va_A [(a0, .inr (8, [.ref a2, .ref a8, .ref a1, .ref a9, .ref a10, .ref a11, .ref a12, .ref a13])), (a1, .inr (4, [.ref a2, .ref a7, .ref a14, .ref a5, .ref a6, .ref a15, .ref a16, .ref a17, .int 0, .int 0, .int 0, .int 1])), (a2, .inr (3, [.int 1, .int 0, .ref a18, .ref a19, .ref a4, .ref a3, .ref a20, .ref a21])), (a3, .inl (cI, 4, .inl (tb [10, 10, 10, 10]))), (a4, .inl (cI, 4, .inl (tb [0, 0, 0, 0]))), (a5, .inl (cI, 4, .inl (tb []))), (a6, .inl (cI, 4, .inl (tb []))), (a7, .inl (cI, 9261, .inl (tb [])))] sz) := by
  refine SM.of (y := yX8_span) (maxL := 3) (av := [.ref a0, .int 0, .int 1]) (QcI dC dI (TY cI cJ cII cJJ) 10 []) (by decide +kernel) (Nat.le_of_ble_eq_true rfl) (fun p e s m below meth c A ls hx hb hr hml hown hts hk hnm hA hK hP hD hS hX hl => ?_)
  have hown : s.vm.findClass RX8 = some m.cls := hown
  have hl : lv_has ls 3 [(0, .ref a0), (1, .int 0), (2, .int 1)] := hl
  refine lv_aload_n hx hb dX8_span_0 rfl (lv_at hl 0 rfl) ?_
  refine kV_a (q0 := 0) ⟨hx, hb, hml, hown, hts⟩ hK hP hD hS hA hX cv_RX8_196 [0, 1, 2, 3, 4, 5, 6, 7] [] (wr := []) rfl rfl rfl rfl (by decide) (c208_X8_freshPlans l dC dI cI cJ cII cJJ s.heap.size 0 a0 a1 a2 a3 a4 a5 a6 a7 a8 a9 a10 a11 a12 a13 a14 a15 a16 a17 a18 a19 a20 a21) ⟨by decide +kernel, by decide +kernel⟩ rfl rfl (Or.inl rfl) (rest := []) rfl rfl rfl hl.1 rfl (Nat.le_of_ble_eq_true rfl) dX8_span_1 ⟨Nat.le_of_ble_eq_true rfl, Nat.le_of_ble_eq_true rfl⟩ (W' := [(a0, .inr (8, [.ref a2, .ref a8, .ref a1, .ref a9, .ref a10, .ref a11, .ref a12, .ref a13])), (a2, .inr (3, [.int 1, .int 0, .ref a18, .ref a19, .ref a4, .ref a3, .ref a20, .ref a21])), (a4, .inl (cI, 4, .inl (tb [0, 0, 0, 0]))), (a5, .inl (cI, 4, .inl (tb [0]))), (a3, .inl (cI, 4, .inl (tb [10, 10, 10, 10]))), (a6, .inl (cI, 4, .inl (tb [10]))), (a1, .inr (4, [.ref a2, .ref a7, .ref a14, .ref a5, .ref a6, .ref a15, .ref a16, .ref a17, .int 1, .int 11, .int 1, .int 0])), (a7, .inl (cI, 9261, .inl (tb [10])))]) rfl (fun H locs hP hD hS => ?_)
  refine kV_i (q0 := 0) ⟨hx, hb, hml, hown, hts⟩ hK hP hD hS hA hX cv_RX8_200 [6] [0, 1, 2, 3, 4, 5, 7] (wr := [(a0, .inr (8, [.ref a2, .ref a8, .ref a1, .ref a9, .ref a10, .ref a11, .ref a12, .ref a13])), (a2, .inr (3, [.int 1, .int 0, .ref a18, .ref a19, .ref a4, .ref a3, .ref a20, .ref a21])), (a4, .inl (cI, 4, .inl (tb [0, 0, 0, 0]))), (a5, .inl (cI, 4, .inl (tb [0]))), (a3, .inl (cI, 4, .inl (tb [10, 10, 10, 10]))), (a6, .inl (cI, 4, .inl (tb [10]))), (a7, .inl (cI, 9261, .inl (tb [10])))]) rfl rfl rfl rfl (by decide) (c214_X4_size l dC dI cI cJ cII cJJ H.size 0 a1 a2 a7 a14 a5 a6 a15 a16 a17) ⟨by decide +kernel, by decide +kernel⟩ rfl rfl (Or.inl rfl) (rest := []) rfl rfl rfl hl.1 rfl (Nat.le_of_ble_eq_true rfl) dX8_span_4 ⟨Nat.le_of_ble_eq_true rfl, Nat.le_of_ble_eq_true rfl⟩ (W' := [(a0, .inr (8, [.ref a2, .ref a8, .ref a1, .ref a9, .ref a10, .ref a11, .ref a12, .ref a13])), (a2, .inr (3, [.int 1, .int 0, .ref a18, .ref a19, .ref a4, .ref a3, .ref a20, .ref a21])), (a4, .inl (cI, 4, .inl (tb [0, 0, 0, 0]))), (a5, .inl (cI, 4, .inl (tb [0]))), (a3, .inl (cI, 4, .inl (tb [10, 10, 10, 10]))), (a6, .inl (cI, 4, .inl (tb [10]))), (a7, .inl (cI, 9261, .inl (tb [10]))), (a1, .inr (4, [.ref a2, .ref a7, .ref a14, .ref a5, .ref a6, .ref a15, .ref a16, .ref a17, .int 1, .int 11, .int 1, .int 0]))]) rfl (fun H locs hP hD hS => ?_)
  refine f_if_eq hx hb dX8_span_7 30 (by decide) (by decide +kernel) ?_
  refine lv_aload_n hx hb dX8_span_10 rfl (lv_at hl 0 rfl) ?_
  refine gf (k := 0) hx hb hts inX8 hown hK hP k_264 rfl (by decide) rfl 0 rfl (.ref a2) rfl dX8_span_11 ?_
  refine lv_iload_n hx hb dX8_span_14 rfl (lv_at hl 1 rfl) ?_
  refine kV_i (q0 := 0) ⟨hx, hb, hml, hown, hts⟩ hK hP hD hS hA hX cv_RX8_82 [1] [0, 2, 3, 4, 5, 6, 7] (wr := [(a0, .inr (8, [.ref a2, .ref a8, .ref a1, .ref a9, .ref a10, .ref a11, .ref a12, .ref a13])), (a4, .inl (cI, 4, .inl (tb [0, 0, 0, 0]))), (a5, .inl (cI, 4, .inl (tb [0]))), (a3, .inl (cI, 4, .inl (tb [10, 10, 10, 10]))), (a6, .inl (cI, 4, .inl (tb [10]))), (a7, .inl (cI, 9261, .inl (tb [10]))), (a1, .inr (4, [.ref a2, .ref a7, .ref a14, .ref a5, .ref a6, .ref a15, .ref a16, .ref a17, .int 1, .int 11, .int 1, .int 0]))]) rfl rfl rfl rfl (by decide) (c037_X3_hasUnknown l dC dI cI cJ cII cJJ H.size 0 a2 a18 a19 a4 a3 a20 a21) ⟨by decide +kernel, by decide +kernel⟩ rfl rfl (Or.inl rfl) (rest := []) rfl rfl rfl hl.1 rfl (Nat.le_of_ble_eq_true rfl) dX8_span_15 ⟨Nat.le_of_ble_eq_true rfl, Nat.le_of_ble_eq_true rfl⟩ (W' := [(a0, .inr (8, [.ref a2, .ref a8, .ref a1, .ref a9, .ref a10, .ref a11, .ref a12, .ref a13])), (a4, .inl (cI, 4, .inl (tb [0, 0, 0, 0]))), (a5, .inl (cI, 4, .inl (tb [0]))), (a3, .inl (cI, 4, .inl (tb [10, 10, 10, 10]))), (a6, .inl (cI, 4, .inl (tb [10]))), (a7, .inl (cI, 9261, .inl (tb [10]))), (a1, .inr (4, [.ref a2, .ref a7, .ref a14, .ref a5, .ref a6, .ref a15, .ref a16, .ref a17, .int 1, .int 11, .int 1, .int 0])), (a2, .inr (3, [.int 1, .int 0, .ref a18, .ref a19, .ref a4, .ref a3, .ref a20, .ref a21]))]) rfl (fun H locs hP hD hS => ?_)
  refine f_if_eq hx hb dX8_span_18 30 (by decide) (by decide +kernel) ?_
  refine lv_iload_n hx hb dX8_span_21 rfl (lv_at hl 2 rfl) ?_
  refine f_if_lt hx hb dX8_span_22 30 (by decide) (by decide +kernel) ?_
  refine lv_iload_n hx hb dX8_span_25 rfl (lv_at hl 2 rfl) ?_
  refine lv_iconst (v := 1) hx hb dX8_span_26 (by decide) ?_
  refine t_icmp_le hx hb dX8_span_27 33 (by decide) (by decide +kernel) ?_
  refine lv_iload_n hx hb dX8_span_33 rfl (lv_at hl 2 rfl) ?_
  refine t_if_ne hx hb dX8_span_34 48 (by decide) (by decide +kernel) ?_
  refine lv_aload_n hx hb dX8_span_48 rfl (lv_at hl 0 rfl) ?_
  refine gf (k := 2) hx hb hts inX8 hown hK hP k_266 rfl (by decide) rfl 0 rfl (.ref a1) rfl dX8_span_49 ?_
  refine lv_iload_n hx hb dX8_span_52 rfl (lv_at hl 1 rfl) ?_
  refine kV_i (q0 := 0) ⟨hx, hb, hml, hown, hts⟩ hK hP hD hS hA hX cv_RX8_215 [6, 5, 7] [0, 1, 2, 3, 4] (wr := [(a0, .inr (8, [.ref a2, .ref a8, .ref a1, .ref a9, .ref a10, .ref a11, .ref a12, .ref a13])), (a4, .inl (cI, 4, .inl (tb [0, 0, 0, 0]))), (a5, .inl (cI, 4, .inl (tb [0]))), (a3, .inl (cI, 4, .inl (tb [10, 10, 10, 10]))), (a6, .inl (cI, 4, .inl (tb [10])))]) rfl rfl rfl rfl (by decide) (c243_X4_greatestOf l dC dI cI cJ cII cJJ H.size 0 a1 a7 a2 a14 a5 a6 a15 a16 a17 a18 a19 a4 a3 a20 a21) ⟨by decide +kernel, by decide +kernel⟩ rfl rfl (Or.inl rfl) (rest := []) rfl rfl rfl hl.1 rfl (Nat.le_of_ble_eq_true rfl) dX8_span_53 ⟨Nat.le_of_ble_eq_true rfl, Nat.le_of_ble_eq_true rfl⟩ (W' := [(a0, .inr (8, [.ref a2, .ref a8, .ref a1, .ref a9, .ref a10, .ref a11, .ref a12, .ref a13])), (a4, .inl (cI, 4, .inl (tb [0, 0, 0, 0]))), (a5, .inl (cI, 4, .inl (tb [0]))), (a3, .inl (cI, 4, .inl (tb [10, 10, 10, 10]))), (a6, .inl (cI, 4, .inl (tb [10]))), (a1, .inr (4, [.ref a2, .ref a7, .ref a14, .ref a5, .ref a6, .ref a15, .ref a16, .ref a17, .int 1, .int 11, .int 1, .int 0])), (a7, .inl (cI, 9261, .inl (tb [10]))), (a2, .inr (3, [.int 1, .int 0, .ref a18, .ref a19, .ref a4, .ref a3, .ref a20, .ref a21]))]) rfl (fun H locs hP hD hS => ?_)
  exact r_i hx hb hr hk hK (hP.sub [] rfl) (hD.sub [] rfl rfl) hS dX8_span_56
set_option maxRecDepth 100000 in
set_option maxHeartbeats 4000000 in
theorem c244_X8_extreme (l : Launch) (dC : Nat → ClassId) (dI : Nat → Nat → Nat) (cI cJ cII cJJ : ClassId) (sz g a0 a1 a2 a3 a4 a5 a6 a7 a8 a9 a10 a11 a12 a13 a14 a15 a16 a17 a18 a19 a20 a21 : Nat) (x0 : Int32) (h_x0 : -2147483648 ≤ x0.toInt ∧ x0.toInt ≤ -1) : Met l yX8_extreme (.code yX8_extreme cX8_extreme 2 (some .int) :: TT) ({ frames := 6, cells := 0, slots := 0, locals := 320 }) (PcS dC dI (TY cI cJ cII cJJ) [.ref a0, .int x0] [(a0, .inr (8, [.ref a2, .ref a8, .ref a1, .ref a9, .ref a10, .ref a11, .ref a12, .ref a13])), (a1, .inr (4, [.ref a2, .ref a7, .ref a14, .ref a5, .ref a6, .ref a15, .ref a16, .ref a17, .int 0, .int 0, .int 0, .int 1])), (a2, .inr (3, [.int 1, .int 0, .ref a18, .ref a19, .ref a4, .ref a3, .ref a20, .ref a21])), (a3, .inl (cI, 4, .inl (tb [10, 10, 10, 10]))), (a4, .inl (cI, 4, .inl (tb [0, 0, 0, 0]))), (a5, .inl (cI, 4, .inl (tb []))), (a6, .inl (cI, 4, .inl (tb []))), (a7, .inl (cI, 9261, .inl (tb [])))] sz 0 g) ((QcI dC dI (TY cI cJ cII cJJ) (-2) []) (va_A [(a0, .inr (8, [.ref a2, .ref a8, .ref a1, .ref a9, .ref a10, .ref a11, .ref a12, .ref a13])), (a1, .inr (4, [.ref a2, .ref a7, .ref a14, .ref a5, .ref a6, .ref a15, .ref a16, .ref a17, .int 0, .int 0, .int 0, .int 1])), (a2, .inr (3, [.int 1, .int 0, .ref a18, .ref a19, .ref a4, .ref a3, .ref a20, .ref a21])), (a3, .inl (cI, 4, .inl (tb [10, 10, 10, 10]))), (a4, .inl (cI, 4, .inl (tb [0, 0, 0, 0]))), (a5, .inl (cI, 4, .inl (tb []))), (a6, .inl (cI, 4, .inl (tb []))), (a7, .inl (cI, 9261, .inl (tb [])))] sz)) 0 0 (va_A [(a0, .inr (8, [.ref a2, .ref a8, .ref a1, .ref a9, .ref a10, .ref a11, .ref a12, .ref a13])), (a1, .inr (4, [.ref a2, .ref a7, .ref a14, .ref a5, .ref a6, .ref a15, .ref a16, .ref a17, .int 0, .int 0, .int 0, .int 1])), (a2, .inr (3, [.int 1, .int 0, .ref a18, .ref a19, .ref a4, .ref a3, .ref a20, .ref a21])), (a3, .inl (cI, 4, .inl (tb [10, 10, 10, 10]))), (a4, .inl (cI, 4, .inl (tb [0, 0, 0, 0]))), (a5, .inl (cI, 4, .inl (tb []))), (a6, .inl (cI, 4, .inl (tb []))), (a7, .inl (cI, 9261, .inl (tb [])))] sz) := by
  refine SM.of (y := yX8_extreme) (maxL := 2) (av := [.ref a0, .int x0]) (QcI dC dI (TY cI cJ cII cJJ) (-2) []) (by decide +kernel) (Nat.le_of_ble_eq_true rfl) (fun p e s m below meth c A ls hx hb hr hml hown hts hk hnm hA hK hP hD hS hX hl => ?_)
  have hown : s.vm.findClass RX8 = some m.cls := hown
  have hl : lv_has ls 2 [(0, .ref a0), (1, .int x0)] := hl
  refine lv_aload_n hx hb dX8_extreme_0 rfl (lv_at hl 0 rfl) ?_
  refine kV_a (q0 := 0) ⟨hx, hb, hml, hown, hts⟩ hK hP hD hS hA hX cv_RX8_196 [0, 1, 2, 3, 4, 5, 6, 7] [] (wr := []) rfl rfl rfl rfl (by decide) (c208_X8_freshPlans l dC dI cI cJ cII cJJ s.heap.size 0 a0 a1 a2 a3 a4 a5 a6 a7 a8 a9 a10 a11 a12 a13 a14 a15 a16 a17 a18 a19 a20 a21) ⟨by decide +kernel, by decide +kernel⟩ rfl rfl (Or.inl rfl) (rest := []) rfl rfl rfl hl.1 rfl (Nat.le_of_ble_eq_true rfl) dX8_extreme_1 ⟨Nat.le_of_ble_eq_true rfl, Nat.le_of_ble_eq_true rfl⟩ (W' := [(a0, .inr (8, [.ref a2, .ref a8, .ref a1, .ref a9, .ref a10, .ref a11, .ref a12, .ref a13])), (a2, .inr (3, [.int 1, .int 0, .ref a18, .ref a19, .ref a4, .ref a3, .ref a20, .ref a21])), (a4, .inl (cI, 4, .inl (tb [0, 0, 0, 0]))), (a5, .inl (cI, 4, .inl (tb [0]))), (a3, .inl (cI, 4, .inl (tb [10, 10, 10, 10]))), (a6, .inl (cI, 4, .inl (tb [10]))), (a1, .inr (4, [.ref a2, .ref a7, .ref a14, .ref a5, .ref a6, .ref a15, .ref a16, .ref a17, .int 1, .int 11, .int 1, .int 0])), (a7, .inl (cI, 9261, .inl (tb [10])))]) rfl (fun H locs hP hD hS => ?_)
  refine kV_i (q0 := 0) ⟨hx, hb, hml, hown, hts⟩ hK hP hD hS hA hX cv_RX8_200 [6] [0, 1, 2, 3, 4, 5, 7] (wr := [(a0, .inr (8, [.ref a2, .ref a8, .ref a1, .ref a9, .ref a10, .ref a11, .ref a12, .ref a13])), (a2, .inr (3, [.int 1, .int 0, .ref a18, .ref a19, .ref a4, .ref a3, .ref a20, .ref a21])), (a4, .inl (cI, 4, .inl (tb [0, 0, 0, 0]))), (a5, .inl (cI, 4, .inl (tb [0]))), (a3, .inl (cI, 4, .inl (tb [10, 10, 10, 10]))), (a6, .inl (cI, 4, .inl (tb [10]))), (a7, .inl (cI, 9261, .inl (tb [10])))]) rfl rfl rfl rfl (by decide) (c214_X4_size l dC dI cI cJ cII cJJ H.size 0 a1 a2 a7 a14 a5 a6 a15 a16 a17) ⟨by decide +kernel, by decide +kernel⟩ rfl rfl (Or.inl rfl) (rest := []) rfl rfl rfl hl.1 rfl (Nat.le_of_ble_eq_true rfl) dX8_extreme_4 ⟨Nat.le_of_ble_eq_true rfl, Nat.le_of_ble_eq_true rfl⟩ (W' := [(a0, .inr (8, [.ref a2, .ref a8, .ref a1, .ref a9, .ref a10, .ref a11, .ref a12, .ref a13])), (a2, .inr (3, [.int 1, .int 0, .ref a18, .ref a19, .ref a4, .ref a3, .ref a20, .ref a21])), (a4, .inl (cI, 4, .inl (tb [0, 0, 0, 0]))), (a5, .inl (cI, 4, .inl (tb [0]))), (a3, .inl (cI, 4, .inl (tb [10, 10, 10, 10]))), (a6, .inl (cI, 4, .inl (tb [10]))), (a7, .inl (cI, 9261, .inl (tb [10]))), (a1, .inr (4, [.ref a2, .ref a7, .ref a14, .ref a5, .ref a6, .ref a15, .ref a16, .ref a17, .int 1, .int 11, .int 1, .int 0]))]) rfl (fun H locs hP hD hS => ?_)
  refine t_if_ne hx hb dX8_extreme_7 12 (by decide) (by decide +kernel) ?_
  refine lv_iload_n hx hb dX8_extreme_12 rfl (lv_at hl 1 rfl) ?_
  refine t_if_lt hx hb dX8_extreme_13 21 (by decide) (p_lt (by rw [show (0 : Int32).toInt = 0 from by decide +kernel]; omega)) ?_
  refine lv_bipush (v := (-2)) hx hb dX8_extreme_21 (by decide) ?_
  exact r_i hx hb hr hk hK (hP.sub [] rfl) (hD.sub [] rfl rfl) hS dX8_extreme_23
set_option maxRecDepth 100000 in
set_option maxHeartbeats 4000000 in
theorem c245_X8_extreme (l : Launch) (dC : Nat → ClassId) (dI : Nat → Nat → Nat) (cI cJ cII cJJ : ClassId) (sz g a0 a1 a2 a3 a4 a5 a6 a7 a8 a9 a10 a11 a12 a13 a14 a15 a16 a17 a18 a19 a20 a21 : Nat) (x0 : Int32) (h_x0 : 2 ≤ x0.toInt ∧ x0.toInt ≤ 2147483647) : Met l yX8_extreme (.code yX8_extreme cX8_extreme 2 (some .int) :: TT) ({ frames := 6, cells := 0, slots := 0, locals := 320 }) (PcS dC dI (TY cI cJ cII cJJ) [.ref a0, .int x0] [(a0, .inr (8, [.ref a2, .ref a8, .ref a1, .ref a9, .ref a10, .ref a11, .ref a12, .ref a13])), (a1, .inr (4, [.ref a2, .ref a7, .ref a14, .ref a5, .ref a6, .ref a15, .ref a16, .ref a17, .int 0, .int 0, .int 0, .int 1])), (a2, .inr (3, [.int 1, .int 0, .ref a18, .ref a19, .ref a4, .ref a3, .ref a20, .ref a21])), (a3, .inl (cI, 4, .inl (tb [10, 10, 10, 10]))), (a4, .inl (cI, 4, .inl (tb [0, 0, 0, 0]))), (a5, .inl (cI, 4, .inl (tb []))), (a6, .inl (cI, 4, .inl (tb []))), (a7, .inl (cI, 9261, .inl (tb [])))] sz 0 g) ((QcI dC dI (TY cI cJ cII cJJ) (-2) []) (va_A [(a0, .inr (8, [.ref a2, .ref a8, .ref a1, .ref a9, .ref a10, .ref a11, .ref a12, .ref a13])), (a1, .inr (4, [.ref a2, .ref a7, .ref a14, .ref a5, .ref a6, .ref a15, .ref a16, .ref a17, .int 0, .int 0, .int 0, .int 1])), (a2, .inr (3, [.int 1, .int 0, .ref a18, .ref a19, .ref a4, .ref a3, .ref a20, .ref a21])), (a3, .inl (cI, 4, .inl (tb [10, 10, 10, 10]))), (a4, .inl (cI, 4, .inl (tb [0, 0, 0, 0]))), (a5, .inl (cI, 4, .inl (tb []))), (a6, .inl (cI, 4, .inl (tb []))), (a7, .inl (cI, 9261, .inl (tb [])))] sz)) 0 0 (va_A [(a0, .inr (8, [.ref a2, .ref a8, .ref a1, .ref a9, .ref a10, .ref a11, .ref a12, .ref a13])), (a1, .inr (4, [.ref a2, .ref a7, .ref a14, .ref a5, .ref a6, .ref a15, .ref a16, .ref a17, .int 0, .int 0, .int 0, .int 1])), (a2, .inr (3, [.int 1, .int 0, .ref a18, .ref a19, .ref a4, .ref a3, .ref a20, .ref a21])), (a3, .inl (cI, 4, .inl (tb [10, 10, 10, 10]))), (a4, .inl (cI, 4, .inl (tb [0, 0, 0, 0]))), (a5, .inl (cI, 4, .inl (tb []))), (a6, .inl (cI, 4, .inl (tb []))), (a7, .inl (cI, 9261, .inl (tb [])))] sz) := by
  refine SM.of (y := yX8_extreme) (maxL := 2) (av := [.ref a0, .int x0]) (QcI dC dI (TY cI cJ cII cJJ) (-2) []) (by decide +kernel) (Nat.le_of_ble_eq_true rfl) (fun p e s m below meth c A ls hx hb hr hml hown hts hk hnm hA hK hP hD hS hX hl => ?_)
  have hown : s.vm.findClass RX8 = some m.cls := hown
  have hl : lv_has ls 2 [(0, .ref a0), (1, .int x0)] := hl
  refine lv_aload_n hx hb dX8_extreme_0 rfl (lv_at hl 0 rfl) ?_
  refine kV_a (q0 := 0) ⟨hx, hb, hml, hown, hts⟩ hK hP hD hS hA hX cv_RX8_196 [0, 1, 2, 3, 4, 5, 6, 7] [] (wr := []) rfl rfl rfl rfl (by decide) (c208_X8_freshPlans l dC dI cI cJ cII cJJ s.heap.size 0 a0 a1 a2 a3 a4 a5 a6 a7 a8 a9 a10 a11 a12 a13 a14 a15 a16 a17 a18 a19 a20 a21) ⟨by decide +kernel, by decide +kernel⟩ rfl rfl (Or.inl rfl) (rest := []) rfl rfl rfl hl.1 rfl (Nat.le_of_ble_eq_true rfl) dX8_extreme_1 ⟨Nat.le_of_ble_eq_true rfl, Nat.le_of_ble_eq_true rfl⟩ (W' := [(a0, .inr (8, [.ref a2, .ref a8, .ref a1, .ref a9, .ref a10, .ref a11, .ref a12, .ref a13])), (a2, .inr (3, [.int 1, .int 0, .ref a18, .ref a19, .ref a4, .ref a3, .ref a20, .ref a21])), (a4, .inl (cI, 4, .inl (tb [0, 0, 0, 0]))), (a5, .inl (cI, 4, .inl (tb [0]))), (a3, .inl (cI, 4, .inl (tb [10, 10, 10, 10]))), (a6, .inl (cI, 4, .inl (tb [10]))), (a1, .inr (4, [.ref a2, .ref a7, .ref a14, .ref a5, .ref a6, .ref a15, .ref a16, .ref a17, .int 1, .int 11, .int 1, .int 0])), (a7, .inl (cI, 9261, .inl (tb [10])))]) rfl (fun H locs hP hD hS => ?_)
  refine kV_i (q0 := 0) ⟨hx, hb, hml, hown, hts⟩ hK hP hD hS hA hX cv_RX8_200 [6] [0, 1, 2, 3, 4, 5, 7] (wr := [(a0, .inr (8, [.ref a2, .ref a8, .ref a1, .ref a9, .ref a10, .ref a11, .ref a12, .ref a13])), (a2, .inr (3, [.int 1, .int 0, .ref a18, .ref a19, .ref a4, .ref a3, .ref a20, .ref a21])), (a4, .inl (cI, 4, .inl (tb [0, 0, 0, 0]))), (a5, .inl (cI, 4, .inl (tb [0]))), (a3, .inl (cI, 4, .inl (tb [10, 10, 10, 10]))), (a6, .inl (cI, 4, .inl (tb [10]))), (a7, .inl (cI, 9261, .inl (tb [10])))]) rfl rfl rfl rfl (by decide) (c214_X4_size l dC dI cI cJ cII cJJ H.size 0 a1 a2 a7 a14 a5 a6 a15 a16 a17) ⟨by decide +kernel, by decide +kernel⟩ rfl rfl (Or.inl rfl) (rest := []) rfl rfl rfl hl.1 rfl (Nat.le_of_ble_eq_true rfl) dX8_extreme_4 ⟨Nat.le_of_ble_eq_true rfl, Nat.le_of_ble_eq_true rfl⟩ (W' := [(a0, .inr (8, [.ref a2, .ref a8, .ref a1, .ref a9, .ref a10, .ref a11, .ref a12, .ref a13])), (a2, .inr (3, [.int 1, .int 0, .ref a18, .ref a19, .ref a4, .ref a3, .ref a20, .ref a21])), (a4, .inl (cI, 4, .inl (tb [0, 0, 0, 0]))), (a5, .inl (cI, 4, .inl (tb [0]))), (a3, .inl (cI, 4, .inl (tb [10, 10, 10, 10]))), (a6, .inl (cI, 4, .inl (tb [10]))), (a7, .inl (cI, 9261, .inl (tb [10]))), (a1, .inr (4, [.ref a2, .ref a7, .ref a14, .ref a5, .ref a6, .ref a15, .ref a16, .ref a17, .int 1, .int 11, .int 1, .int 0]))]) rfl (fun H locs hP hD hS => ?_)
  refine t_if_ne hx hb dX8_extreme_7 12 (by decide) (by decide +kernel) ?_
  refine lv_iload_n hx hb dX8_extreme_12 rfl (lv_at hl 1 rfl) ?_
  refine f_if_lt hx hb dX8_extreme_13 21 (by decide) (p_nlt (by rw [show (0 : Int32).toInt = 0 from by decide +kernel]; omega)) ?_
  refine lv_iload_n hx hb dX8_extreme_16 rfl (lv_at hl 1 rfl) ?_
  refine lv_iconst (v := 1) hx hb dX8_extreme_17 (by decide) ?_
  refine f_icmp_le hx hb dX8_extreme_18 24 (by decide) (p_nle (by rw [show (1 : Int32).toInt = 1 from by decide +kernel]; omega)) ?_
  refine lv_bipush (v := (-2)) hx hb dX8_extreme_21 (by decide) ?_
  exact r_i hx hb hr hk hK (hP.sub [] rfl) (hD.sub [] rfl rfl) hS dX8_extreme_23
set_option maxRecDepth 100000 in
set_option maxHeartbeats 4000000 in
theorem c248_X4_readBlock (l : Launch) (dC : Nat → ClassId) (dI : Nat → Nat → Nat) (cI cJ cII cJJ : ClassId) (sz g a0 a1 a2 a3 a4 a5 a6 a7 a8 a9 a10 a11 a12 a13 a14 : Nat) : Met l yX4_readBlock (.code yX4_readBlock cX4_readBlock 5 none :: TT) ({ frames := 3, cells := 0, slots := 0, locals := 140 }) (PcS dC dI (TY cI cJ cII cJJ) [.ref a0, .int 0, .ref a2] [(a0, .inr (4, [.ref a3, .ref a1, .ref a2, .ref a4, .ref a5, .ref a6, .ref a7, .ref a8, .int 1, .int 11, .int 1, .int 0])), (a1, .inl (cI, 9261, .inl (tb [10]))), (a2, .inl (cI, 4, .inl (tb []))), (a3, .inr (3, [.int 1, .int 0, .ref a9, .ref a10, .ref a11, .ref a12, .ref a13, .ref a14]))] sz 0 g) ((QcV dC dI (TY cI cJ cII cJJ) (fun _ => [(a0, .inr (4, [.ref a3, .ref a1, .ref a2, .ref a4, .ref a5, .ref a6, .ref a7, .ref a8, .int 1, .int 11, .int 1, .int 0])), (a1, .inl (cI, 9261, .inl (tb [10]))), (a3, .inr (3, [.int 1, .int 0, .ref a9, .ref a10, .ref a11, .ref a12, .ref a13, .ref a14])), (a2, .inl (cI, 4, .inl (tb [0, 0, 0, 0])))])) (va_A [(a0, .inr (4, [.ref a3, .ref a1, .ref a2, .ref a4, .ref a5, .ref a6, .ref a7, .ref a8, .int 1, .int 11, .int 1, .int 0])), (a1, .inl (cI, 9261, .inl (tb [10]))), (a2, .inl (cI, 4, .inl (tb []))), (a3, .inr (3, [.int 1, .int 0, .ref a9, .ref a10, .ref a11, .ref a12, .ref a13, .ref a14]))] sz)) 0 0 (va_A [(a0, .inr (4, [.ref a3, .ref a1, .ref a2, .ref a4, .ref a5, .ref a6, .ref a7, .ref a8, .int 1, .int 11, .int 1, .int 0])), (a1, .inl (cI, 9261, .inl (tb [10]))), (a2, .inl (cI, 4, .inl (tb []))), (a3, .inr (3, [.int 1, .int 0, .ref a9, .ref a10, .ref a11, .ref a12, .ref a13, .ref a14]))] sz) := by
  refine SM.of (y := yX4_readBlock) (maxL := 5) (av := [.ref a0, .int 0, .ref a2]) (QcV dC dI (TY cI cJ cII cJJ) (fun _ => [(a0, .inr (4, [.ref a3, .ref a1, .ref a2, .ref a4, .ref a5, .ref a6, .ref a7, .ref a8, .int 1, .int 11, .int 1, .int 0])), (a1, .inl (cI, 9261, .inl (tb [10]))), (a3, .inr (3, [.int 1, .int 0, .ref a9, .ref a10, .ref a11, .ref a12, .ref a13, .ref a14])), (a2, .inl (cI, 4, .inl (tb [0, 0, 0, 0])))])) (by decide +kernel) (Nat.le_of_ble_eq_true rfl) (fun p e s m below meth c A ls hx hb hr hml hown hts hk hnm hA hK hP hD hS hX hl => ?_)
  have hown : s.vm.findClass RX4 = some m.cls := hown
  have hl : lv_has ls 5 [(0, .ref a0), (1, .int 0), (2, .ref a2)] := hl
  refine lv_aload_n hx hb dX4_readBlock_0 rfl (lv_at hl 0 rfl) ?_
  refine gf (k := 1) hx hb hts inX4 hown hK hP k_206 rfl (by decide) rfl 0 rfl (.ref a1) rfl dX4_readBlock_1 ?_
  refine lv_iload_n hx hb dX4_readBlock_4 rfl (lv_at hl 1 rfl) ?_
  refine ld_i hx hb hK hP 1 rfl (vin (by decide +kernel)) dX4_readBlock_5 10 rfl ?_
  refine lv_istore_n (lv' := [(3, .int 10), (0, .ref a0), (1, .int 0), (2, .ref a2)]) hx hb dX4_readBlock_6 rfl hl (by decide) rfl (fun ls hl => ?_)
  refine lv_aload_n hx hb dX4_readBlock_7 rfl (lv_at hl 3 rfl) ?_
  refine lv_iconst (v := 0) hx hb dX4_readBlock_8 (by decide) ?_
  refine kS_v ⟨hx, hb, hml, hown, hts⟩ hK hP hD hS hA hX cs_RX4_110 [2] [0, 1, 3] (wr := [(a0, .inr (4, [.ref a3, .ref a1, .ref a2, .ref a4, .ref a5, .ref a6, .ref a7, .ref a8, .int 1, .int 11, .int 1, .int 0])), (a1, .inl (cI, 9261, .inl (tb [10]))), (a3, .inr (3, [.int 1, .int 0, .ref a9, .ref a10, .ref a11, .ref a12, .ref a13, .ref a14]))]) rfl rfl rfl rfl (by decide) (c004_J7_fill_53178 l dC dI cI cJ cII cJJ s.heap.size 0 a2) ⟨by decide +kernel, by decide +kernel⟩ rfl rfl (Or.inl rfl) (rest := []) rfl hl.1 rfl (Nat.le_of_ble_eq_true rfl) dX4_readBlock_9 ⟨Nat.le_of_ble_eq_true rfl, Nat.le_of_ble_eq_true rfl⟩ (fun _ => rfl) (W' := [(a0, .inr (4, [.ref a3, .ref a1, .ref a2, .ref a4, .ref a5, .ref a6, .ref a7, .ref a8, .int 1, .int 11, .int 1, .int 0])), (a1, .inl (cI, 9261, .inl (tb [10]))), (a3, .inr (3, [.int 1, .int 0, .ref a9, .ref a10, .ref a11, .ref a12, .ref a13, .ref a14])), (a2, .inl (cI, 4, .inl (tb [0, 0, 0, 0])))]) rfl (fun H locs hP hD hS => ?_)
  refine lv_aload_n hx hb dX4_readBlock_12 rfl (lv_at hl 1 rfl) ?_
  refine gf (k := 0) hx hb hts inX4 hown hK hP k_205 rfl (by decide) rfl 0 rfl (.ref a3) rfl dX4_readBlock_13 ?_
  refine gf (k := 0) hx hb hts inX3 hown hK hP k_39 rfl (by decide) rfl 2 rfl (.int 1) rfl dX4_readBlock_16 ?_
  refine lv_iconst (v := 1) hx hb dX4_readBlock_19 (by decide) ?_
  refine v_isub hx hb dX4_readBlock_20 0 (by decide +kernel) ?_
  refine lv_istore (lv' := [(4, .int 0), (3, .int 10), (0, .ref a0), (1, .int 0), (2, .ref a2)]) hx hb dX4_readBlock_21 hl (by decide) rfl (fun ls hl => ?_)
  refine lv_iload hx hb dX4_readBlock_23 (lv_at hl 0 rfl) ?_
  refine f_if_lt hx hb dX4_readBlock_25 50 (by decide) (by decide +kernel) ?_
  refine lv_aload_n hx hb dX4_readBlock_28 rfl (lv_at hl 4 rfl) ?_
  refine lv_iload hx hb dX4_readBlock_29 (lv_at hl 0 rfl) ?_
  refine lv_iload_n hx hb dX4_readBlock_31 rfl (lv_at hl 1 rfl) ?_
  refine lv_bipush (v := 21) hx hb dX4_readBlock_32 (by decide) ?_
  refine v_irem hx hb dX4_readBlock_34 (by decide +kernel) 10 (by decide +kernel) ?_
  refine lv_bipush (v := 10) hx hb dX4_readBlock_35 (by decide) ?_
  refine v_isub hx hb dX4_readBlock_37 0 (by decide +kernel) ?_
  refine st_i hx hb hK hP hD hS 3 rfl (vin (by decide +kernel)) dX4_readBlock_38 (L' := [0, 0, 0, 0]) rfl (W' := [(a0, .inr (4, [.ref a3, .ref a1, .ref a2, .ref a4, .ref a5, .ref a6, .ref a7, .ref a8, .int 1, .int 11, .int 1, .int 0])), (a1, .inl (cI, 9261, .inl (tb [10]))), (a3, .inr (3, [.int 1, .int 0, .ref a9, .ref a10, .ref a11, .ref a12, .ref a13, .ref a14])), (a2, .inl (cI, 4, .inl (tb [0, 0, 0, 0])))]) rfl (fun H locs hP hD hS => ?_)
  refine lv_iload_n hx hb dX4_readBlock_39 rfl (lv_at hl 1 rfl) ?_
  refine lv_bipush (v := 21) hx hb dX4_readBlock_40 (by decide) ?_
  refine v_idiv hx hb dX4_readBlock_42 (by decide +kernel) 0 (by decide +kernel) ?_
  refine lv_istore_n (lv' := [(3, .int 0), (4, .int 0), (0, .ref a0), (1, .int 0), (2, .ref a2)]) hx hb dX4_readBlock_43 rfl hl (by decide) rfl (fun ls hl => ?_)
  refine lv_iinc (v := (-1)) (lv' := [(4, .int (-1)), (3, .int 0), (0, .ref a0), (1, .int 0), (2, .ref a2)]) hx hb dX4_readBlock_44 hl (k := 1) rfl (by decide +kernel) (by decide) rfl (fun ls hl => ?_)
  refine lv_goto (tgt := 23) hx hb dX4_readBlock_47 (by decide) ?_
  refine lv_iload hx hb dX4_readBlock_23 (lv_at hl 0 rfl) ?_
  refine t_if_lt hx hb dX4_readBlock_25 50 (by decide) (by decide +kernel) ?_
  exact r_v (fun _ => 0) hx hb hr hk hK hP hD hS dX4_readBlock_50
set_option maxRecDepth 100000 in
set_option maxHeartbeats 4000000 in
theorem c249_X3_costOf (l : Launch) (dC : Nat → ClassId) (dI : Nat → Nat → Nat) (cI cJ cII cJJ : ClassId) (sz g a0 a1 a2 a3 a4 a5 a6 a7 : Nat) : Met l yX3_costOf (.code yX3_costOf cX3_costOf 5 (some .long) :: TT) ({ frames := 3, cells := 0, slots := 0, locals := 140 }) (PcS dC dI (TY cI cJ cII cJJ) [.ref a0, .ref a1] [(a0, .inr (3, [.int 1, .int 0, .ref a4, .ref a5, .ref a6, .ref a7, .ref a3, .ref a2])), (a1, .inl (cI, 4, .inl (tb [0, 0, 0, 0]))), (a2, .inl (cI, 4, .inl (tb [0, 0, 0, 0]))), (a3, .inl (cI, 4, .inl (tb [0, 0, 0, 0])))] sz 0 g) ((QcL dC dI (TY cI cJ cII cJJ) 0 [(a1, .inl (cI, 4, .inl (tb [0, 0, 0, 0]))), (a0, .inr (3, [.int 1, .int 0, .ref a4, .ref a5, .ref a6, .ref a7, .ref a3, .ref a2])), (a2, .inl (cI, 4, .inl (tb [0, 0, 0, 0]))), (a3, .inl (cI, 4, .inl (tb [0, 0, 0, 0])))]) (va_A [(a0, .inr (3, [.int 1, .int 0, .ref a4, .ref a5, .ref a6, .ref a7, .ref a3, .ref a2])), (a1, .inl (cI, 4, .inl (tb [0, 0, 0, 0]))), (a2, .inl (cI, 4, .inl (tb [0, 0, 0, 0]))), (a3, .inl (cI, 4, .inl (tb [0, 0, 0, 0])))] sz)) 0 0 (va_A [(a0, .inr (3, [.int 1, .int 0, .ref a4, .ref a5, .ref a6, .ref a7, .ref a3, .ref a2])), (a1, .inl (cI, 4, .inl (tb [0, 0, 0, 0]))), (a2, .inl (cI, 4, .inl (tb [0, 0, 0, 0]))), (a3, .inl (cI, 4, .inl (tb [0, 0, 0, 0])))] sz) := by
  refine SM.of (y := yX3_costOf) (maxL := 5) (av := [.ref a0, .ref a1]) (QcL dC dI (TY cI cJ cII cJJ) 0 [(a1, .inl (cI, 4, .inl (tb [0, 0, 0, 0]))), (a0, .inr (3, [.int 1, .int 0, .ref a4, .ref a5, .ref a6, .ref a7, .ref a3, .ref a2])), (a2, .inl (cI, 4, .inl (tb [0, 0, 0, 0]))), (a3, .inl (cI, 4, .inl (tb [0, 0, 0, 0])))]) (by decide +kernel) (Nat.le_of_ble_eq_true rfl) (fun p e s m below meth c A ls hx hb hr hml hown hts hk hnm hA hK hP hD hS hX hl => ?_)
  have hown : s.vm.findClass RX3 = some m.cls := hown
  have hl : lv_has ls 5 [(0, .ref a0), (1, .ref a1)] := hl
  refine lv_lconst (v := 0) hx hb dX3_costOf_0 (by decide) ?_
  refine lv_lstore_n (lv' := [(2, .long 0), (0, .ref a0), (1, .ref a1)]) hx hb dX3_costOf_1 rfl hl (by decide) rfl (fun ls hl => ?_)
  refine lv_iconst (v := 0) hx hb dX3_costOf_2 (by decide) ?_
  refine lv_istore (lv' := [(4, .int 0), (2, .long 0), (0, .ref a0), (1, .ref a1)]) hx hb dX3_costOf_3 hl (by decide) rfl (fun ls hl => ?_)
  refine lv_iload hx hb dX3_costOf_5 (lv_at hl 0 rfl) ?_
  refine lv_aload_n hx hb dX3_costOf_7 rfl (lv_at hl 2 rfl) ?_
  refine gf (k := 0) hx hb hts inX3 hown hK hP k_37 rfl (by decide) rfl 0 rfl (.int 1) rfl dX3_costOf_8 ?_
  refine f_icmp_ge hx hb dX3_costOf_11 33 (by decide) (by decide +kernel) ?_
  refine lv_lload_n hx hb dX3_costOf_14 rfl (lv_at hl 1 rfl) ?_
  refine lv_aload_n hx hb dX3_costOf_15 rfl (lv_at hl 2 rfl) ?_
  refine lv_iload hx hb dX3_costOf_16 (lv_at hl 0 rfl) ?_
  refine lv_aload_n hx hb dX3_costOf_18 rfl (lv_at hl 3 rfl) ?_
  refine lv_iload hx hb dX3_costOf_19 (lv_at hl 0 rfl) ?_
  refine ld_i hx hb hK hP 1 rfl (vin (by decide +kernel)) dX3_costOf_21 0 rfl ?_
  refine kV_l (q0 := 0) ⟨hx, hb, hml, hown, hts⟩ hK hP hD hS hA hX cv_RX3_53 [0, 2, 3] [1] (wr := [(a1, .inl (cI, 4, .inl (tb [0, 0, 0, 0])))]) rfl rfl rfl rfl (by decide) (c199_X3_costOfNumber l dC dI cI cJ cII cJJ s.heap.size 0 a0 a2 a3 a4 a5 a6 a7) ⟨by decide +kernel, by decide +kernel⟩ rfl rfl (Or.inl rfl) (rest := [.long 0]) rfl rfl rfl hl.1 rfl (Nat.le_of_ble_eq_true rfl) dX3_costOf_22 ⟨Nat.le_of_ble_eq_true rfl, Nat.le_of_ble_eq_true rfl⟩ (W' := [(a1, .inl (cI, 4, .inl (tb [0, 0, 0, 0]))), (a0, .inr (3, [.int 1, .int 0, .ref a4, .ref a5, .ref a6, .ref a7, .ref a3, .ref a2])), (a2, .inl (cI, 4, .inl (tb [0, 0, 0, 0]))), (a3, .inl (cI, 4, .inl (tb [0, 0, 0, 0])))]) rfl (fun H locs hP hD hS => ?_)
  refine v_ladd hx hb dX3_costOf_25 0 (by decide +kernel) ?_
  refine lv_lstore_n (lv' := [(2, .long 0), (4, .int 0), (0, .ref a0), (1, .ref a1)]) hx hb dX3_costOf_26 rfl hl (by decide) rfl (fun ls hl => ?_)
  refine lv_iinc (v := 1) (lv' := [(4, .int 1), (2, .long 0), (0, .ref a0), (1, .ref a1)]) hx hb dX3_costOf_27 hl (k := 1) rfl (by decide +kernel) (by decide) rfl (fun ls hl => ?_)
  refine lv_goto (tgt := 5) hx hb dX3_costOf_30 (by decide) ?_
  refine lv_iload hx hb dX3_costOf_5 (lv_at hl 0 rfl) ?_
  refine lv_aload_n hx hb dX3_costOf_7 rfl (lv_at hl 2 rfl) ?_
  refine gf (k := 0) hx hb hts inX3 hown hK hP k_37 rfl (by decide) rfl 1 rfl (.int 1) rfl dX3_costOf_8 ?_
  refine t_icmp_ge hx hb dX3_costOf_11 33 (by decide) (by decide +kernel) ?_
  refine lv_lload_n hx hb dX3_costOf_33 rfl (lv_at hl 1 rfl) ?_
  exact r_l hx hb hr hk hK hP hD hS dX3_costOf_34
set_option maxRecDepth 100000 in
set_option maxHeartbeats 4000000 in
theorem c251_X3_costOfNumber (l : Launch) (dC : Nat → ClassId) (dI : Nat → Nat → Nat) (cI cJ cII cJJ : ClassId) (sz g a0 a1 a2 a3 a4 a5 a6 : Nat) : Met l yX3_costOfNumber (.code yX3_costOfNumber cX3_costOfNumber 3 (some .long) :: TT) ({ frames := 2, cells := 0, slots := 0, locals := 80 }) (PcS dC dI (TY cI cJ cII cJJ) [.ref a0, .int 0, .int 1] [(a0, .inr (3, [.int 1, .int 0, .ref a3, .ref a4, .ref a5, .ref a6, .ref a2, .ref a1])), (a1, .inl (cI, 4, .inl (tb [0, 0, 0, 0]))), (a2, .inl (cI, 4, .inl (tb [0, 0, 0, 0])))] sz 0 g) ((QcL dC dI (TY cI cJ cII cJJ) 0 [(a0, .inr (3, [.int 1, .int 0, .ref a3, .ref a4, .ref a5, .ref a6, .ref a2, .ref a1])), (a1, .inl (cI, 4, .inl (tb [0, 0, 0, 0]))), (a2, .inl (cI, 4, .inl (tb [0, 0, 0, 0])))]) (va_A [(a0, .inr (3, [.int 1, .int 0, .ref a3, .ref a4, .ref a5, .ref a6, .ref a2, .ref a1])), (a1, .inl (cI, 4, .inl (tb [0, 0, 0, 0]))), (a2, .inl (cI, 4, .inl (tb [0, 0, 0, 0])))] sz)) 0 0 (va_A [(a0, .inr (3, [.int 1, .int 0, .ref a3, .ref a4, .ref a5, .ref a6, .ref a2, .ref a1])), (a1, .inl (cI, 4, .inl (tb [0, 0, 0, 0]))), (a2, .inl (cI, 4, .inl (tb [0, 0, 0, 0])))] sz) := by
  refine SM.of (y := yX3_costOfNumber) (maxL := 3) (av := [.ref a0, .int 0, .int 1]) (QcL dC dI (TY cI cJ cII cJJ) 0 [(a0, .inr (3, [.int 1, .int 0, .ref a3, .ref a4, .ref a5, .ref a6, .ref a2, .ref a1])), (a1, .inl (cI, 4, .inl (tb [0, 0, 0, 0]))), (a2, .inl (cI, 4, .inl (tb [0, 0, 0, 0])))]) (by decide +kernel) (Nat.le_of_ble_eq_true rfl) (fun p e s m below meth c A ls hx hb hr hml hown hts hk hnm hA hK hP hD hS hX hl => ?_)
  have hown : s.vm.findClass RX3 = some m.cls := hown
  have hl : lv_has ls 3 [(0, .ref a0), (1, .int 0), (2, .int 1)] := hl
  refine lv_aload_n hx hb dX3_costOfNumber_0 rfl (lv_at hl 0 rfl) ?_
  refine gf (k := 7) hx hb hts inX3 hown hK hP k_67 rfl (by decide) rfl 0 rfl (.ref a1) rfl dX3_costOfNumber_1 ?_
  refine lv_iload_n hx hb dX3_costOfNumber_4 rfl (lv_at hl 1 rfl) ?_
  refine ld_i hx hb hK hP 1 rfl (vin (by decide +kernel)) dX3_costOfNumber_5 0 rfl ?_
  refine lv_i2l (v := 0) hx hb dX3_costOfNumber_6 (by decide +kernel) ?_
  refine lv_iload_n hx hb dX3_costOfNumber_7 rfl (lv_at hl 2 rfl) ?_
  refine lv_i2l (v := 1) hx hb dX3_costOfNumber_8 (by decide +kernel) ?_
  refine v_lmul hx hb dX3_costOfNumber_9 0 (by decide +kernel) ?_
  refine lv_aload_n hx hb dX3_costOfNumber_10 rfl (lv_at hl 0 rfl) ?_
  refine gf (k := 6) hx hb hts inX3 hown hK hP k_64 rfl (by decide) rfl 0 rfl (.ref a2) rfl dX3_costOfNumber_11 ?_
  refine lv_iload_n hx hb dX3_costOfNumber_14 rfl (lv_at hl 1 rfl) ?_
  refine ld_i hx hb hK hP 2 rfl (vin (by decide +kernel)) dX3_costOfNumber_15 0 rfl ?_
  refine lv_i2l (v := 0) hx hb dX3_costOfNumber_16 (by decide +kernel) ?_
  refine v_ladd hx hb dX3_costOfNumber_17 0 (by decide +kernel) ?_
  refine lv_iload_n hx hb dX3_costOfNumber_18 rfl (lv_at hl 2 rfl) ?_
  refine lv_i2l (v := 1) hx hb dX3_costOfNumber_19 (by decide +kernel) ?_
  refine v_lmul hx hb dX3_costOfNumber_20 0 (by decide +kernel) ?_
  exact r_l hx hb hr hk hK hP hD hS dX3_costOfNumber_21
set_option maxRecDepth 100000 in
set_option maxHeartbeats 4000000 in
theorem c252_X3_costOfNumber (l : Launch) (dC : Nat → ClassId) (dI : Nat → Nat → Nat) (cI cJ cII cJJ : ClassId) (sz g a0 a1 a2 a3 a4 a5 a6 : Nat) : Met l yX3_costOfNumber (.code yX3_costOfNumber cX3_costOfNumber 3 (some .long) :: TT) ({ frames := 2, cells := 0, slots := 0, locals := 80 }) (PcS dC dI (TY cI cJ cII cJJ) [.ref a0, .int 0, .int 2] [(a0, .inr (3, [.int 1, .int 0, .ref a3, .ref a4, .ref a5, .ref a6, .ref a2, .ref a1])), (a1, .inl (cI, 4, .inl (tb [0, 0, 0, 0]))), (a2, .inl (cI, 4, .inl (tb [0, 0, 0, 0])))] sz 0 g) ((QcL dC dI (TY cI cJ cII cJJ) 0 [(a0, .inr (3, [.int 1, .int 0, .ref a3, .ref a4, .ref a5, .ref a6, .ref a2, .ref a1])), (a1, .inl (cI, 4, .inl (tb [0, 0, 0, 0]))), (a2, .inl (cI, 4, .inl (tb [0, 0, 0, 0])))]) (va_A [(a0, .inr (3, [.int 1, .int 0, .ref a3, .ref a4, .ref a5, .ref a6, .ref a2, .ref a1])), (a1, .inl (cI, 4, .inl (tb [0, 0, 0, 0]))), (a2, .inl (cI, 4, .inl (tb [0, 0, 0, 0])))] sz)) 0 0 (va_A [(a0, .inr (3, [.int 1, .int 0, .ref a3, .ref a4, .ref a5, .ref a6, .ref a2, .ref a1])), (a1, .inl (cI, 4, .inl (tb [0, 0, 0, 0]))), (a2, .inl (cI, 4, .inl (tb [0, 0, 0, 0])))] sz) := by
  refine SM.of (y := yX3_costOfNumber) (maxL := 3) (av := [.ref a0, .int 0, .int 2]) (QcL dC dI (TY cI cJ cII cJJ) 0 [(a0, .inr (3, [.int 1, .int 0, .ref a3, .ref a4, .ref a5, .ref a6, .ref a2, .ref a1])), (a1, .inl (cI, 4, .inl (tb [0, 0, 0, 0]))), (a2, .inl (cI, 4, .inl (tb [0, 0, 0, 0])))]) (by decide +kernel) (Nat.le_of_ble_eq_true rfl) (fun p e s m below meth c A ls hx hb hr hml hown hts hk hnm hA hK hP hD hS hX hl => ?_)
  have hown : s.vm.findClass RX3 = some m.cls := hown
  have hl : lv_has ls 3 [(0, .ref a0), (1, .int 0), (2, .int 2)] := hl
  refine lv_aload_n hx hb dX3_costOfNumber_0 rfl (lv_at hl 0 rfl) ?_
  refine gf (k := 7) hx hb hts inX3 hown hK hP k_67 rfl (by decide) rfl 0 rfl (.ref a1) rfl dX3_costOfNumber_1 ?_
  refine lv_iload_n hx hb dX3_costOfNumber_4 rfl (lv_at hl 1 rfl) ?_
  refine ld_i hx hb hK hP 1 rfl (vin (by decide +kernel)) dX3_costOfNumber_5 0 rfl ?_
  refine lv_i2l (v := 0) hx hb dX3_costOfNumber_6 (by decide +kernel) ?_
  refine lv_iload_n hx hb dX3_costOfNumber_7 rfl (lv_at hl 2 rfl) ?_
  refine lv_i2l (v := 2) hx hb dX3_costOfNumber_8 (by decide +kernel) ?_
  refine v_lmul hx hb dX3_costOfNumber_9 0 (by decide +kernel) ?_
  refine lv_aload_n hx hb dX3_costOfNumber_10 rfl (lv_at hl 0 rfl) ?_
  refine gf (k := 6) hx hb hts inX3 hown hK hP k_64 rfl (by decide) rfl 0 rfl (.ref a2) rfl dX3_costOfNumber_11 ?_
  refine lv_iload_n hx hb dX3_costOfNumber_14 rfl (lv_at hl 1 rfl) ?_
  refine ld_i hx hb hK hP 2 rfl (vin (by decide +kernel)) dX3_costOfNumber_15 0 rfl ?_
  refine lv_i2l (v := 0) hx hb dX3_costOfNumber_16 (by decide +kernel) ?_
  refine v_ladd hx hb dX3_costOfNumber_17 0 (by decide +kernel) ?_
  refine lv_iload_n hx hb dX3_costOfNumber_18 rfl (lv_at hl 2 rfl) ?_
  refine lv_i2l (v := 2) hx hb dX3_costOfNumber_19 (by decide +kernel) ?_
  refine v_lmul hx hb dX3_costOfNumber_20 0 (by decide +kernel) ?_
  exact r_l hx hb hr hk hK hP hD hS dX3_costOfNumber_21
set_option maxRecDepth 100000 in
set_option maxHeartbeats 4000000 in
theorem c253_X3_costOfNumber (l : Launch) (dC : Nat → ClassId) (dI : Nat → Nat → Nat) (cI cJ cII cJJ : ClassId) (sz g a0 a1 a2 a3 a4 a5 a6 : Nat) : Met l yX3_costOfNumber (.code yX3_costOfNumber cX3_costOfNumber 3 (some .long) :: TT) ({ frames := 2, cells := 0, slots := 0, locals := 80 }) (PcS dC dI (TY cI cJ cII cJJ) [.ref a0, .int 0, .int 3] [(a0, .inr (3, [.int 1, .int 0, .ref a3, .ref a4, .ref a5, .ref a6, .ref a2, .ref a1])), (a1, .inl (cI, 4, .inl (tb [0, 0, 0, 0]))), (a2, .inl (cI, 4, .inl (tb [0, 0, 0, 0])))] sz 0 g) ((QcL dC dI (TY cI cJ cII cJJ) 0 [(a0, .inr (3, [.int 1, .int 0, .ref a3, .ref a4, .ref a5, .ref a6, .ref a2, .ref a1])), (a1, .inl (cI, 4, .inl (tb [0, 0, 0, 0]))), (a2, .inl (cI, 4, .inl (tb [0, 0, 0, 0])))]) (va_A [(a0, .inr (3, [.int 1, .int 0, .ref a3, .ref a4, .ref a5, .ref a6, .ref a2, .ref a1])), (a1, .inl (cI, 4, .inl (tb [0, 0, 0, 0]))), (a2, .inl (cI, 4, .inl (tb [0, 0, 0, 0])))] sz)) 0 0 (va_A [(a0, .inr (3, [.int 1, .int 0, .ref a3, .ref a4, .ref a5, .ref a6, .ref a2, .ref a1])), (a1, .inl (cI, 4, .inl (tb [0, 0, 0, 0]))), (a2, .inl (cI, 4, .inl (tb [0, 0, 0, 0])))] sz) := by
  refine SM.of (y := yX3_costOfNumber) (maxL := 3) (av := [.ref a0, .int 0, .int 3]) (QcL dC dI (TY cI cJ cII cJJ) 0 [(a0, .inr (3, [.int 1, .int 0, .ref a3, .ref a4, .ref a5, .ref a6, .ref a2, .ref a1])), (a1, .inl (cI, 4, .inl (tb [0, 0, 0, 0]))), (a2, .inl (cI, 4, .inl (tb [0, 0, 0, 0])))]) (by decide +kernel) (Nat.le_of_ble_eq_true rfl) (fun p e s m below meth c A ls hx hb hr hml hown hts hk hnm hA hK hP hD hS hX hl => ?_)
  have hown : s.vm.findClass RX3 = some m.cls := hown
  have hl : lv_has ls 3 [(0, .ref a0), (1, .int 0), (2, .int 3)] := hl
  refine lv_aload_n hx hb dX3_costOfNumber_0 rfl (lv_at hl 0 rfl) ?_
  refine gf (k := 7) hx hb hts inX3 hown hK hP k_67 rfl (by decide) rfl 0 rfl (.ref a1) rfl dX3_costOfNumber_1 ?_
  refine lv_iload_n hx hb dX3_costOfNumber_4 rfl (lv_at hl 1 rfl) ?_
  refine ld_i hx hb hK hP 1 rfl (vin (by decide +kernel)) dX3_costOfNumber_5 0 rfl ?_
  refine lv_i2l (v := 0) hx hb dX3_costOfNumber_6 (by decide +kernel) ?_
  refine lv_iload_n hx hb dX3_costOfNumber_7 rfl (lv_at hl 2 rfl) ?_
  refine lv_i2l (v := 3) hx hb dX3_costOfNumber_8 (by decide +kernel) ?_
  refine v_lmul hx hb dX3_costOfNumber_9 0 (by decide +kernel) ?_
  refine lv_aload_n hx hb dX3_costOfNumber_10 rfl (lv_at hl 0 rfl) ?_
  refine gf (k := 6) hx hb hts inX3 hown hK hP k_64 rfl (by decide) rfl 0 rfl (.ref a2) rfl dX3_costOfNumber_11 ?_
  refine lv_iload_n hx hb dX3_costOfNumber_14 rfl (lv_at hl 1 rfl) ?_
  refine ld_i hx hb hK hP 2 rfl (vin (by decide +kernel)) dX3_costOfNumber_15 0 rfl ?_
  refine lv_i2l (v := 0) hx hb dX3_costOfNumber_16 (by decide +kernel) ?_
  refine v_ladd hx hb dX3_costOfNumber_17 0 (by decide +kernel) ?_
  refine lv_iload_n hx hb dX3_costOfNumber_18 rfl (lv_at hl 2 rfl) ?_
  refine lv_i2l (v := 3) hx hb dX3_costOfNumber_19 (by decide +kernel) ?_
  refine v_lmul hx hb dX3_costOfNumber_20 0 (by decide +kernel) ?_
  exact r_l hx hb hr hk hK hP hD hS dX3_costOfNumber_21
set_option maxRecDepth 100000 in
set_option maxHeartbeats 4000000 in
theorem c254_X3_costOfNumber (l : Launch) (dC : Nat → ClassId) (dI : Nat → Nat → Nat) (cI cJ cII cJJ : ClassId) (sz g a0 a1 a2 a3 a4 a5 a6 : Nat) : Met l yX3_costOfNumber (.code yX3_costOfNumber cX3_costOfNumber 3 (some .long) :: TT) ({ frames := 2, cells := 0, slots := 0, locals := 80 }) (PcS dC dI (TY cI cJ cII cJJ) [.ref a0, .int 0, .int 4] [(a0, .inr (3, [.int 1, .int 0, .ref a3, .ref a4, .ref a5, .ref a6, .ref a2, .ref a1])), (a1, .inl (cI, 4, .inl (tb [0, 0, 0, 0]))), (a2, .inl (cI, 4, .inl (tb [0, 0, 0, 0])))] sz 0 g) ((QcL dC dI (TY cI cJ cII cJJ) 0 [(a0, .inr (3, [.int 1, .int 0, .ref a3, .ref a4, .ref a5, .ref a6, .ref a2, .ref a1])), (a1, .inl (cI, 4, .inl (tb [0, 0, 0, 0]))), (a2, .inl (cI, 4, .inl (tb [0, 0, 0, 0])))]) (va_A [(a0, .inr (3, [.int 1, .int 0, .ref a3, .ref a4, .ref a5, .ref a6, .ref a2, .ref a1])), (a1, .inl (cI, 4, .inl (tb [0, 0, 0, 0]))), (a2, .inl (cI, 4, .inl (tb [0, 0, 0, 0])))] sz)) 0 0 (va_A [(a0, .inr (3, [.int 1, .int 0, .ref a3, .ref a4, .ref a5, .ref a6, .ref a2, .ref a1])), (a1, .inl (cI, 4, .inl (tb [0, 0, 0, 0]))), (a2, .inl (cI, 4, .inl (tb [0, 0, 0, 0])))] sz) := by
  refine SM.of (y := yX3_costOfNumber) (maxL := 3) (av := [.ref a0, .int 0, .int 4]) (QcL dC dI (TY cI cJ cII cJJ) 0 [(a0, .inr (3, [.int 1, .int 0, .ref a3, .ref a4, .ref a5, .ref a6, .ref a2, .ref a1])), (a1, .inl (cI, 4, .inl (tb [0, 0, 0, 0]))), (a2, .inl (cI, 4, .inl (tb [0, 0, 0, 0])))]) (by decide +kernel) (Nat.le_of_ble_eq_true rfl) (fun p e s m below meth c A ls hx hb hr hml hown hts hk hnm hA hK hP hD hS hX hl => ?_)
  have hown : s.vm.findClass RX3 = some m.cls := hown
  have hl : lv_has ls 3 [(0, .ref a0), (1, .int 0), (2, .int 4)] := hl
  refine lv_aload_n hx hb dX3_costOfNumber_0 rfl (lv_at hl 0 rfl) ?_
  refine gf (k := 7) hx hb hts inX3 hown hK hP k_67 rfl (by decide) rfl 0 rfl (.ref a1) rfl dX3_costOfNumber_1 ?_
  refine lv_iload_n hx hb dX3_costOfNumber_4 rfl (lv_at hl 1 rfl) ?_
  refine ld_i hx hb hK hP 1 rfl (vin (by decide +kernel)) dX3_costOfNumber_5 0 rfl ?_
  refine lv_i2l (v := 0) hx hb dX3_costOfNumber_6 (by decide +kernel) ?_
  refine lv_iload_n hx hb dX3_costOfNumber_7 rfl (lv_at hl 2 rfl) ?_
  refine lv_i2l (v := 4) hx hb dX3_costOfNumber_8 (by decide +kernel) ?_
  refine v_lmul hx hb dX3_costOfNumber_9 0 (by decide +kernel) ?_
  refine lv_aload_n hx hb dX3_costOfNumber_10 rfl (lv_at hl 0 rfl) ?_
  refine gf (k := 6) hx hb hts inX3 hown hK hP k_64 rfl (by decide) rfl 0 rfl (.ref a2) rfl dX3_costOfNumber_11 ?_
  refine lv_iload_n hx hb dX3_costOfNumber_14 rfl (lv_at hl 1 rfl) ?_
  refine ld_i hx hb hK hP 2 rfl (vin (by decide +kernel)) dX3_costOfNumber_15 0 rfl ?_
  refine lv_i2l (v := 0) hx hb dX3_costOfNumber_16 (by decide +kernel) ?_
  refine v_ladd hx hb dX3_costOfNumber_17 0 (by decide +kernel) ?_
  refine lv_iload_n hx hb dX3_costOfNumber_18 rfl (lv_at hl 2 rfl) ?_
  refine lv_i2l (v := 4) hx hb dX3_costOfNumber_19 (by decide +kernel) ?_
  refine v_lmul hx hb dX3_costOfNumber_20 0 (by decide +kernel) ?_
  exact r_l hx hb hr hk hK hP hD hS dX3_costOfNumber_21
set_option maxRecDepth 100000 in
set_option maxHeartbeats 4000000 in
theorem c255_X3_costOfNumber (l : Launch) (dC : Nat → ClassId) (dI : Nat → Nat → Nat) (cI cJ cII cJJ : ClassId) (sz g a0 a1 a2 a3 a4 a5 a6 : Nat) : Met l yX3_costOfNumber (.code yX3_costOfNumber cX3_costOfNumber 3 (some .long) :: TT) ({ frames := 2, cells := 0, slots := 0, locals := 80 }) (PcS dC dI (TY cI cJ cII cJJ) [.ref a0, .int 0, .int 5] [(a0, .inr (3, [.int 1, .int 0, .ref a3, .ref a4, .ref a5, .ref a6, .ref a2, .ref a1])), (a1, .inl (cI, 4, .inl (tb [0, 0, 0, 0]))), (a2, .inl (cI, 4, .inl (tb [0, 0, 0, 0])))] sz 0 g) ((QcL dC dI (TY cI cJ cII cJJ) 0 [(a0, .inr (3, [.int 1, .int 0, .ref a3, .ref a4, .ref a5, .ref a6, .ref a2, .ref a1])), (a1, .inl (cI, 4, .inl (tb [0, 0, 0, 0]))), (a2, .inl (cI, 4, .inl (tb [0, 0, 0, 0])))]) (va_A [(a0, .inr (3, [.int 1, .int 0, .ref a3, .ref a4, .ref a5, .ref a6, .ref a2, .ref a1])), (a1, .inl (cI, 4, .inl (tb [0, 0, 0, 0]))), (a2, .inl (cI, 4, .inl (tb [0, 0, 0, 0])))] sz)) 0 0 (va_A [(a0, .inr (3, [.int 1, .int 0, .ref a3, .ref a4, .ref a5, .ref a6, .ref a2, .ref a1])), (a1, .inl (cI, 4, .inl (tb [0, 0, 0, 0]))), (a2, .inl (cI, 4, .inl (tb [0, 0, 0, 0])))] sz) := by
  refine SM.of (y := yX3_costOfNumber) (maxL := 3) (av := [.ref a0, .int 0, .int 5]) (QcL dC dI (TY cI cJ cII cJJ) 0 [(a0, .inr (3, [.int 1, .int 0, .ref a3, .ref a4, .ref a5, .ref a6, .ref a2, .ref a1])), (a1, .inl (cI, 4, .inl (tb [0, 0, 0, 0]))), (a2, .inl (cI, 4, .inl (tb [0, 0, 0, 0])))]) (by decide +kernel) (Nat.le_of_ble_eq_true rfl) (fun p e s m below meth c A ls hx hb hr hml hown hts hk hnm hA hK hP hD hS hX hl => ?_)
  have hown : s.vm.findClass RX3 = some m.cls := hown
  have hl : lv_has ls 3 [(0, .ref a0), (1, .int 0), (2, .int 5)] := hl
  refine lv_aload_n hx hb dX3_costOfNumber_0 rfl (lv_at hl 0 rfl) ?_
  refine gf (k := 7) hx hb hts inX3 hown hK hP k_67 rfl (by decide) rfl 0 rfl (.ref a1) rfl dX3_costOfNumber_1 ?_
  refine lv_iload_n hx hb dX3_costOfNumber_4 rfl (lv_at hl 1 rfl) ?_
  refine ld_i hx hb hK hP 1 rfl (vin (by decide +kernel)) dX3_costOfNumber_5 0 rfl ?_
  refine lv_i2l (v := 0) hx hb dX3_costOfNumber_6 (by decide +kernel) ?_
  refine lv_iload_n hx hb dX3_costOfNumber_7 rfl (lv_at hl 2 rfl) ?_
  refine lv_i2l (v := 5) hx hb dX3_costOfNumber_8 (by decide +kernel) ?_
  refine v_lmul hx hb dX3_costOfNumber_9 0 (by decide +kernel) ?_
  refine lv_aload_n hx hb dX3_costOfNumber_10 rfl (lv_at hl 0 rfl) ?_
  refine gf (k := 6) hx hb hts inX3 hown hK hP k_64 rfl (by decide) rfl 0 rfl (.ref a2) rfl dX3_costOfNumber_11 ?_
  refine lv_iload_n hx hb dX3_costOfNumber_14 rfl (lv_at hl 1 rfl) ?_
  refine ld_i hx hb hK hP 2 rfl (vin (by decide +kernel)) dX3_costOfNumber_15 0 rfl ?_
  refine lv_i2l (v := 0) hx hb dX3_costOfNumber_16 (by decide +kernel) ?_
  refine v_ladd hx hb dX3_costOfNumber_17 0 (by decide +kernel) ?_
  refine lv_iload_n hx hb dX3_costOfNumber_18 rfl (lv_at hl 2 rfl) ?_
  refine lv_i2l (v := 5) hx hb dX3_costOfNumber_19 (by decide +kernel) ?_
  refine v_lmul hx hb dX3_costOfNumber_20 0 (by decide +kernel) ?_
  exact r_l hx hb hr hk hK hP hD hS dX3_costOfNumber_21
set_option maxRecDepth 100000 in
set_option maxHeartbeats 4000000 in
theorem c256_X3_costOfNumber (l : Launch) (dC : Nat → ClassId) (dI : Nat → Nat → Nat) (cI cJ cII cJJ : ClassId) (sz g a0 a1 a2 a3 a4 a5 a6 : Nat) : Met l yX3_costOfNumber (.code yX3_costOfNumber cX3_costOfNumber 3 (some .long) :: TT) ({ frames := 2, cells := 0, slots := 0, locals := 80 }) (PcS dC dI (TY cI cJ cII cJJ) [.ref a0, .int 0, .int 6] [(a0, .inr (3, [.int 1, .int 0, .ref a3, .ref a4, .ref a5, .ref a6, .ref a2, .ref a1])), (a1, .inl (cI, 4, .inl (tb [0, 0, 0, 0]))), (a2, .inl (cI, 4, .inl (tb [0, 0, 0, 0])))] sz 0 g) ((QcL dC dI (TY cI cJ cII cJJ) 0 [(a0, .inr (3, [.int 1, .int 0, .ref a3, .ref a4, .ref a5, .ref a6, .ref a2, .ref a1])), (a1, .inl (cI, 4, .inl (tb [0, 0, 0, 0]))), (a2, .inl (cI, 4, .inl (tb [0, 0, 0, 0])))]) (va_A [(a0, .inr (3, [.int 1, .int 0, .ref a3, .ref a4, .ref a5, .ref a6, .ref a2, .ref a1])), (a1, .inl (cI, 4, .inl (tb [0, 0, 0, 0]))), (a2, .inl (cI, 4, .inl (tb [0, 0, 0, 0])))] sz)) 0 0 (va_A [(a0, .inr (3, [.int 1, .int 0, .ref a3, .ref a4, .ref a5, .ref a6, .ref a2, .ref a1])), (a1, .inl (cI, 4, .inl (tb [0, 0, 0, 0]))), (a2, .inl (cI, 4, .inl (tb [0, 0, 0, 0])))] sz) := by
  refine SM.of (y := yX3_costOfNumber) (maxL := 3) (av := [.ref a0, .int 0, .int 6]) (QcL dC dI (TY cI cJ cII cJJ) 0 [(a0, .inr (3, [.int 1, .int 0, .ref a3, .ref a4, .ref a5, .ref a6, .ref a2, .ref a1])), (a1, .inl (cI, 4, .inl (tb [0, 0, 0, 0]))), (a2, .inl (cI, 4, .inl (tb [0, 0, 0, 0])))]) (by decide +kernel) (Nat.le_of_ble_eq_true rfl) (fun p e s m below meth c A ls hx hb hr hml hown hts hk hnm hA hK hP hD hS hX hl => ?_)
  have hown : s.vm.findClass RX3 = some m.cls := hown
  have hl : lv_has ls 3 [(0, .ref a0), (1, .int 0), (2, .int 6)] := hl
  refine lv_aload_n hx hb dX3_costOfNumber_0 rfl (lv_at hl 0 rfl) ?_
  refine gf (k := 7) hx hb hts inX3 hown hK hP k_67 rfl (by decide) rfl 0 rfl (.ref a1) rfl dX3_costOfNumber_1 ?_
  refine lv_iload_n hx hb dX3_costOfNumber_4 rfl (lv_at hl 1 rfl) ?_
  refine ld_i hx hb hK hP 1 rfl (vin (by decide +kernel)) dX3_costOfNumber_5 0 rfl ?_
  refine lv_i2l (v := 0) hx hb dX3_costOfNumber_6 (by decide +kernel) ?_
  refine lv_iload_n hx hb dX3_costOfNumber_7 rfl (lv_at hl 2 rfl) ?_
  refine lv_i2l (v := 6) hx hb dX3_costOfNumber_8 (by decide +kernel) ?_
  refine v_lmul hx hb dX3_costOfNumber_9 0 (by decide +kernel) ?_
  refine lv_aload_n hx hb dX3_costOfNumber_10 rfl (lv_at hl 0 rfl) ?_
  refine gf (k := 6) hx hb hts inX3 hown hK hP k_64 rfl (by decide) rfl 0 rfl (.ref a2) rfl dX3_costOfNumber_11 ?_
  refine lv_iload_n hx hb dX3_costOfNumber_14 rfl (lv_at hl 1 rfl) ?_
  refine ld_i hx hb hK hP 2 rfl (vin (by decide +kernel)) dX3_costOfNumber_15 0 rfl ?_
  refine lv_i2l (v := 0) hx hb dX3_costOfNumber_16 (by decide +kernel) ?_
  refine v_ladd hx hb dX3_costOfNumber_17 0 (by decide +kernel) ?_
  refine lv_iload_n hx hb dX3_costOfNumber_18 rfl (lv_at hl 2 rfl) ?_
  refine lv_i2l (v := 6) hx hb dX3_costOfNumber_19 (by decide +kernel) ?_
  refine v_lmul hx hb dX3_costOfNumber_20 0 (by decide +kernel) ?_
  exact r_l hx hb hr hk hK hP hD hS dX3_costOfNumber_21
set_option maxRecDepth 100000 in
set_option maxHeartbeats 4000000 in
theorem c257_X3_costOfNumber (l : Launch) (dC : Nat → ClassId) (dI : Nat → Nat → Nat) (cI cJ cII cJJ : ClassId) (sz g a0 a1 a2 a3 a4 a5 a6 : Nat) : Met l yX3_costOfNumber (.code yX3_costOfNumber cX3_costOfNumber 3 (some .long) :: TT) ({ frames := 2, cells := 0, slots := 0, locals := 80 }) (PcS dC dI (TY cI cJ cII cJJ) [.ref a0, .int 0, .int 7] [(a0, .inr (3, [.int 1, .int 0, .ref a3, .ref a4, .ref a5, .ref a6, .ref a2, .ref a1])), (a1, .inl (cI, 4, .inl (tb [0, 0, 0, 0]))), (a2, .inl (cI, 4, .inl (tb [0, 0, 0, 0])))] sz 0 g) ((QcL dC dI (TY cI cJ cII cJJ) 0 [(a0, .inr (3, [.int 1, .int 0, .ref a3, .ref a4, .ref a5, .ref a6, .ref a2, .ref a1])), (a1, .inl (cI, 4, .inl (tb [0, 0, 0, 0]))), (a2, .inl (cI, 4, .inl (tb [0, 0, 0, 0])))]) (va_A [(a0, .inr (3, [.int 1, .int 0, .ref a3, .ref a4, .ref a5, .ref a6, .ref a2, .ref a1])), (a1, .inl (cI, 4, .inl (tb [0, 0, 0, 0]))), (a2, .inl (cI, 4, .inl (tb [0, 0, 0, 0])))] sz)) 0 0 (va_A [(a0, .inr (3, [.int 1, .int 0, .ref a3, .ref a4, .ref a5, .ref a6, .ref a2, .ref a1])), (a1, .inl (cI, 4, .inl (tb [0, 0, 0, 0]))), (a2, .inl (cI, 4, .inl (tb [0, 0, 0, 0])))] sz) := by
  refine SM.of (y := yX3_costOfNumber) (maxL := 3) (av := [.ref a0, .int 0, .int 7]) (QcL dC dI (TY cI cJ cII cJJ) 0 [(a0, .inr (3, [.int 1, .int 0, .ref a3, .ref a4, .ref a5, .ref a6, .ref a2, .ref a1])), (a1, .inl (cI, 4, .inl (tb [0, 0, 0, 0]))), (a2, .inl (cI, 4, .inl (tb [0, 0, 0, 0])))]) (by decide +kernel) (Nat.le_of_ble_eq_true rfl) (fun p e s m below meth c A ls hx hb hr hml hown hts hk hnm hA hK hP hD hS hX hl => ?_)
  have hown : s.vm.findClass RX3 = some m.cls := hown
  have hl : lv_has ls 3 [(0, .ref a0), (1, .int 0), (2, .int 7)] := hl
  refine lv_aload_n hx hb dX3_costOfNumber_0 rfl (lv_at hl 0 rfl) ?_
  refine gf (k := 7) hx hb hts inX3 hown hK hP k_67 rfl (by decide) rfl 0 rfl (.ref a1) rfl dX3_costOfNumber_1 ?_
  refine lv_iload_n hx hb dX3_costOfNumber_4 rfl (lv_at hl 1 rfl) ?_
  refine ld_i hx hb hK hP 1 rfl (vin (by decide +kernel)) dX3_costOfNumber_5 0 rfl ?_
  refine lv_i2l (v := 0) hx hb dX3_costOfNumber_6 (by decide +kernel) ?_
  refine lv_iload_n hx hb dX3_costOfNumber_7 rfl (lv_at hl 2 rfl) ?_
  refine lv_i2l (v := 7) hx hb dX3_costOfNumber_8 (by decide +kernel) ?_
  refine v_lmul hx hb dX3_costOfNumber_9 0 (by decide +kernel) ?_
  refine lv_aload_n hx hb dX3_costOfNumber_10 rfl (lv_at hl 0 rfl) ?_
  refine gf (k := 6) hx hb hts inX3 hown hK hP k_64 rfl (by decide) rfl 0 rfl (.ref a2) rfl dX3_costOfNumber_11 ?_
  refine lv_iload_n hx hb dX3_costOfNumber_14 rfl (lv_at hl 1 rfl) ?_
  refine ld_i hx hb hK hP 2 rfl (vin (by decide +kernel)) dX3_costOfNumber_15 0 rfl ?_
  refine lv_i2l (v := 0) hx hb dX3_costOfNumber_16 (by decide +kernel) ?_
  refine v_ladd hx hb dX3_costOfNumber_17 0 (by decide +kernel) ?_
  refine lv_iload_n hx hb dX3_costOfNumber_18 rfl (lv_at hl 2 rfl) ?_
  refine lv_i2l (v := 7) hx hb dX3_costOfNumber_19 (by decide +kernel) ?_
  refine v_lmul hx hb dX3_costOfNumber_20 0 (by decide +kernel) ?_
  exact r_l hx hb hr hk hK hP hD hS dX3_costOfNumber_21
set_option maxRecDepth 100000 in
set_option maxHeartbeats 4000000 in
theorem c258_X3_costOfNumber (l : Launch) (dC : Nat → ClassId) (dI : Nat → Nat → Nat) (cI cJ cII cJJ : ClassId) (sz g a0 a1 a2 a3 a4 a5 a6 : Nat) : Met l yX3_costOfNumber (.code yX3_costOfNumber cX3_costOfNumber 3 (some .long) :: TT) ({ frames := 2, cells := 0, slots := 0, locals := 80 }) (PcS dC dI (TY cI cJ cII cJJ) [.ref a0, .int 0, .int 8] [(a0, .inr (3, [.int 1, .int 0, .ref a3, .ref a4, .ref a5, .ref a6, .ref a2, .ref a1])), (a1, .inl (cI, 4, .inl (tb [0, 0, 0, 0]))), (a2, .inl (cI, 4, .inl (tb [0, 0, 0, 0])))] sz 0 g) ((QcL dC dI (TY cI cJ cII cJJ) 0 [(a0, .inr (3, [.int 1, .int 0, .ref a3, .ref a4, .ref a5, .ref a6, .ref a2, .ref a1])), (a1, .inl (cI, 4, .inl (tb [0, 0, 0, 0]))), (a2, .inl (cI, 4, .inl (tb [0, 0, 0, 0])))]) (va_A [(a0, .inr (3, [.int 1, .int 0, .ref a3, .ref a4, .ref a5, .ref a6, .ref a2, .ref a1])), (a1, .inl (cI, 4, .inl (tb [0, 0, 0, 0]))), (a2, .inl (cI, 4, .inl (tb [0, 0, 0, 0])))] sz)) 0 0 (va_A [(a0, .inr (3, [.int 1, .int 0, .ref a3, .ref a4, .ref a5, .ref a6, .ref a2, .ref a1])), (a1, .inl (cI, 4, .inl (tb [0, 0, 0, 0]))), (a2, .inl (cI, 4, .inl (tb [0, 0, 0, 0])))] sz) := by
  refine SM.of (y := yX3_costOfNumber) (maxL := 3) (av := [.ref a0, .int 0, .int 8]) (QcL dC dI (TY cI cJ cII cJJ) 0 [(a0, .inr (3, [.int 1, .int 0, .ref a3, .ref a4, .ref a5, .ref a6, .ref a2, .ref a1])), (a1, .inl (cI, 4, .inl (tb [0, 0, 0, 0]))), (a2, .inl (cI, 4, .inl (tb [0, 0, 0, 0])))]) (by decide +kernel) (Nat.le_of_ble_eq_true rfl) (fun p e s m below meth c A ls hx hb hr hml hown hts hk hnm hA hK hP hD hS hX hl => ?_)
  have hown : s.vm.findClass RX3 = some m.cls := hown
  have hl : lv_has ls 3 [(0, .ref a0), (1, .int 0), (2, .int 8)] := hl
  refine lv_aload_n hx hb dX3_costOfNumber_0 rfl (lv_at hl 0 rfl) ?_
  refine gf (k := 7) hx hb hts inX3 hown hK hP k_67 rfl (by decide) rfl 0 rfl (.ref a1) rfl dX3_costOfNumber_1 ?_
  refine lv_iload_n hx hb dX3_costOfNumber_4 rfl (lv_at hl 1 rfl) ?_
  refine ld_i hx hb hK hP 1 rfl (vin (by decide +kernel)) dX3_costOfNumber_5 0 rfl ?_
  refine lv_i2l (v := 0) hx hb dX3_costOfNumber_6 (by decide +kernel) ?_
  refine lv_iload_n hx hb dX3_costOfNumber_7 rfl (lv_at hl 2 rfl) ?_
  refine lv_i2l (v := 8) hx hb dX3_costOfNumber_8 (by decide +kernel) ?_
  refine v_lmul hx hb dX3_costOfNumber_9 0 (by decide +kernel) ?_
  refine lv_aload_n hx hb dX3_costOfNumber_10 rfl (lv_at hl 0 rfl) ?_
  refine gf (k := 6) hx hb hts inX3 hown hK hP k_64 rfl (by decide) rfl 0 rfl (.ref a2) rfl dX3_costOfNumber_11 ?_
  refine lv_iload_n hx hb dX3_costOfNumber_14 rfl (lv_at hl 1 rfl) ?_
  refine ld_i hx hb hK hP 2 rfl (vin (by decide +kernel)) dX3_costOfNumber_15 0 rfl ?_
  refine lv_i2l (v := 0) hx hb dX3_costOfNumber_16 (by decide +kernel) ?_
  refine v_ladd hx hb dX3_costOfNumber_17 0 (by decide +kernel) ?_
  refine lv_iload_n hx hb dX3_costOfNumber_18 rfl (lv_at hl 2 rfl) ?_
  refine lv_i2l (v := 8) hx hb dX3_costOfNumber_19 (by decide +kernel) ?_
  refine v_lmul hx hb dX3_costOfNumber_20 0 (by decide +kernel) ?_
  exact r_l hx hb hr hk hK hP hD hS dX3_costOfNumber_21
set_option maxRecDepth 100000 in
set_option maxHeartbeats 4000000 in
theorem c259_X3_costOfNumber (l : Launch) (dC : Nat → ClassId) (dI : Nat → Nat → Nat) (cI cJ cII cJJ : ClassId) (sz g a0 a1 a2 a3 a4 a5 a6 : Nat) : Met l yX3_costOfNumber (.code yX3_costOfNumber cX3_costOfNumber 3 (some .long) :: TT) ({ frames := 2, cells := 0, slots := 0, locals := 80 }) (PcS dC dI (TY cI cJ cII cJJ) [.ref a0, .int 0, .int 9] [(a0, .inr (3, [.int 1, .int 0, .ref a3, .ref a4, .ref a5, .ref a6, .ref a2, .ref a1])), (a1, .inl (cI, 4, .inl (tb [0, 0, 0, 0]))), (a2, .inl (cI, 4, .inl (tb [0, 0, 0, 0])))] sz 0 g) ((QcL dC dI (TY cI cJ cII cJJ) 0 [(a0, .inr (3, [.int 1, .int 0, .ref a3, .ref a4, .ref a5, .ref a6, .ref a2, .ref a1])), (a1, .inl (cI, 4, .inl (tb [0, 0, 0, 0]))), (a2, .inl (cI, 4, .inl (tb [0, 0, 0, 0])))]) (va_A [(a0, .inr (3, [.int 1, .int 0, .ref a3, .ref a4, .ref a5, .ref a6, .ref a2, .ref a1])), (a1, .inl (cI, 4, .inl (tb [0, 0, 0, 0]))), (a2, .inl (cI, 4, .inl (tb [0, 0, 0, 0])))] sz)) 0 0 (va_A [(a0, .inr (3, [.int 1, .int 0, .ref a3, .ref a4, .ref a5, .ref a6, .ref a2, .ref a1])), (a1, .inl (cI, 4, .inl (tb [0, 0, 0, 0]))), (a2, .inl (cI, 4, .inl (tb [0, 0, 0, 0])))] sz) := by
  refine SM.of (y := yX3_costOfNumber) (maxL := 3) (av := [.ref a0, .int 0, .int 9]) (QcL dC dI (TY cI cJ cII cJJ) 0 [(a0, .inr (3, [.int 1, .int 0, .ref a3, .ref a4, .ref a5, .ref a6, .ref a2, .ref a1])), (a1, .inl (cI, 4, .inl (tb [0, 0, 0, 0]))), (a2, .inl (cI, 4, .inl (tb [0, 0, 0, 0])))]) (by decide +kernel) (Nat.le_of_ble_eq_true rfl) (fun p e s m below meth c A ls hx hb hr hml hown hts hk hnm hA hK hP hD hS hX hl => ?_)
  have hown : s.vm.findClass RX3 = some m.cls := hown
  have hl : lv_has ls 3 [(0, .ref a0), (1, .int 0), (2, .int 9)] := hl
  refine lv_aload_n hx hb dX3_costOfNumber_0 rfl (lv_at hl 0 rfl) ?_
  refine gf (k := 7) hx hb hts inX3 hown hK hP k_67 rfl (by decide) rfl 0 rfl (.ref a1) rfl dX3_costOfNumber_1 ?_
  refine lv_iload_n hx hb dX3_costOfNumber_4 rfl (lv_at hl 1 rfl) ?_
  refine ld_i hx hb hK hP 1 rfl (vin (by decide +kernel)) dX3_costOfNumber_5 0 rfl ?_
  refine lv_i2l (v := 0) hx hb dX3_costOfNumber_6 (by decide +kernel) ?_
  refine lv_iload_n hx hb dX3_costOfNumber_7 rfl (lv_at hl 2 rfl) ?_
  refine lv_i2l (v := 9) hx hb dX3_costOfNumber_8 (by decide +kernel) ?_
  refine v_lmul hx hb dX3_costOfNumber_9 0 (by decide +kernel) ?_
  refine lv_aload_n hx hb dX3_costOfNumber_10 rfl (lv_at hl 0 rfl) ?_
  refine gf (k := 6) hx hb hts inX3 hown hK hP k_64 rfl (by decide) rfl 0 rfl (.ref a2) rfl dX3_costOfNumber_11 ?_
  refine lv_iload_n hx hb dX3_costOfNumber_14 rfl (lv_at hl 1 rfl) ?_
  refine ld_i hx hb hK hP 2 rfl (vin (by decide +kernel)) dX3_costOfNumber_15 0 rfl ?_
  refine lv_i2l (v := 0) hx hb dX3_costOfNumber_16 (by decide +kernel) ?_
  refine v_ladd hx hb dX3_costOfNumber_17 0 (by decide +kernel) ?_
  refine lv_iload_n hx hb dX3_costOfNumber_18 rfl (lv_at hl 2 rfl) ?_
  refine lv_i2l (v := 9) hx hb dX3_costOfNumber_19 (by decide +kernel) ?_
  refine v_lmul hx hb dX3_costOfNumber_20 0 (by decide +kernel) ?_
  exact r_l hx hb hr hk hK hP hD hS dX3_costOfNumber_21
set_option maxRecDepth 100000 in
set_option maxHeartbeats 4000000 in
theorem c260_X3_costOfNumber (l : Launch) (dC : Nat → ClassId) (dI : Nat → Nat → Nat) (cI cJ cII cJJ : ClassId) (sz g a0 a1 a2 a3 a4 a5 a6 : Nat) : Met l yX3_costOfNumber (.code yX3_costOfNumber cX3_costOfNumber 3 (some .long) :: TT) ({ frames := 2, cells := 0, slots := 0, locals := 80 }) (PcS dC dI (TY cI cJ cII cJJ) [.ref a0, .int 0, .int 10] [(a0, .inr (3, [.int 1, .int 0, .ref a3, .ref a4, .ref a5, .ref a6, .ref a2, .ref a1])), (a1, .inl (cI, 4, .inl (tb [0, 0, 0, 0]))), (a2, .inl (cI, 4, .inl (tb [0, 0, 0, 0])))] sz 0 g) ((QcL dC dI (TY cI cJ cII cJJ) 0 [(a0, .inr (3, [.int 1, .int 0, .ref a3, .ref a4, .ref a5, .ref a6, .ref a2, .ref a1])), (a1, .inl (cI, 4, .inl (tb [0, 0, 0, 0]))), (a2, .inl (cI, 4, .inl (tb [0, 0, 0, 0])))]) (va_A [(a0, .inr (3, [.int 1, .int 0, .ref a3, .ref a4, .ref a5, .ref a6, .ref a2, .ref a1])), (a1, .inl (cI, 4, .inl (tb [0, 0, 0, 0]))), (a2, .inl (cI, 4, .inl (tb [0, 0, 0, 0])))] sz)) 0 0 (va_A [(a0, .inr (3, [.int 1, .int 0, .ref a3, .ref a4, .ref a5, .ref a6, .ref a2, .ref a1])), (a1, .inl (cI, 4, .inl (tb [0, 0, 0, 0]))), (a2, .inl (cI, 4, .inl (tb [0, 0, 0, 0])))] sz) := by
  refine SM.of (y := yX3_costOfNumber) (maxL := 3) (av := [.ref a0, .int 0, .int 10]) (QcL dC dI (TY cI cJ cII cJJ) 0 [(a0, .inr (3, [.int 1, .int 0, .ref a3, .ref a4, .ref a5, .ref a6, .ref a2, .ref a1])), (a1, .inl (cI, 4, .inl (tb [0, 0, 0, 0]))), (a2, .inl (cI, 4, .inl (tb [0, 0, 0, 0])))]) (by decide +kernel) (Nat.le_of_ble_eq_true rfl) (fun p e s m below meth c A ls hx hb hr hml hown hts hk hnm hA hK hP hD hS hX hl => ?_)
  have hown : s.vm.findClass RX3 = some m.cls := hown
  have hl : lv_has ls 3 [(0, .ref a0), (1, .int 0), (2, .int 10)] := hl
  refine lv_aload_n hx hb dX3_costOfNumber_0 rfl (lv_at hl 0 rfl) ?_
  refine gf (k := 7) hx hb hts inX3 hown hK hP k_67 rfl (by decide) rfl 0 rfl (.ref a1) rfl dX3_costOfNumber_1 ?_
  refine lv_iload_n hx hb dX3_costOfNumber_4 rfl (lv_at hl 1 rfl) ?_
  refine ld_i hx hb hK hP 1 rfl (vin (by decide +kernel)) dX3_costOfNumber_5 0 rfl ?_
  refine lv_i2l (v := 0) hx hb dX3_costOfNumber_6 (by decide +kernel) ?_
  refine lv_iload_n hx hb dX3_costOfNumber_7 rfl (lv_at hl 2 rfl) ?_
  refine lv_i2l (v := 10) hx hb dX3_costOfNumber_8 (by decide +kernel) ?_
  refine v_lmul hx hb dX3_costOfNumber_9 0 (by decide +kernel) ?_
  refine lv_aload_n hx hb dX3_costOfNumber_10 rfl (lv_at hl 0 rfl) ?_
  refine gf (k := 6) hx hb hts inX3 hown hK hP k_64 rfl (by decide) rfl 0 rfl (.ref a2) rfl dX3_costOfNumber_11 ?_
  refine lv_iload_n hx hb dX3_costOfNumber_14 rfl (lv_at hl 1 rfl) ?_
  refine ld_i hx hb hK hP 2 rfl (vin (by decide +kernel)) dX3_costOfNumber_15 0 rfl ?_
  refine lv_i2l (v := 0) hx hb dX3_costOfNumber_16 (by decide +kernel) ?_
  refine v_ladd hx hb dX3_costOfNumber_17 0 (by decide +kernel) ?_
  refine lv_iload_n hx hb dX3_costOfNumber_18 rfl (lv_at hl 2 rfl) ?_
  refine lv_i2l (v := 10) hx hb dX3_costOfNumber_19 (by decide +kernel) ?_
  refine v_lmul hx hb dX3_costOfNumber_20 0 (by decide +kernel) ?_
  exact r_l hx hb hr hk hK hP hD hS dX3_costOfNumber_21
set_option maxRecDepth 100000 in
set_option maxHeartbeats 4000000 in
theorem c250_X4_firstInBlock (l : Launch) (dC : Nat → ClassId) (dI : Nat → Nat → Nat) (cI cJ cII cJJ : ClassId) (sz g a0 a1 a2 a3 a4 a5 a6 a7 a8 a9 a10 a11 a12 a13 a14 : Nat) : Met l yX4_firstInBlock (.code yX4_firstInBlock cX4_firstInBlock 11 (some .int) :: TT) ({ frames := 3, cells := 0, slots := 0, locals := 140 }) (PcS dC dI (TY cI cJ cII cJJ) [.ref a0, .int 0, .int 1] [(a0, .inr (4, [.ref a1, .ref a2, .ref a5, .ref a6, .ref a7, .ref a8, .ref a9, .ref a10, .int 1, .int 11, .int 1, .int 0])), (a1, .inr (3, [.int 1, .int 0, .ref a11, .ref a12, .ref a13, .ref a14, .ref a4, .ref a3])), (a2, .inl (cI, 9261, .inl (tb [10]))), (a3, .inl (cI, 4, .inl (tb [0, 0, 0, 0]))), (a4, .inl (cI, 4, .inl (tb [0, 0, 0, 0])))] sz 0 g) ((QcI dC dI (TY cI cJ cII cJJ) 0 [(a0, .inr (4, [.ref a1, .ref a2, .ref a5, .ref a6, .ref a7, .ref a8, .ref a9, .ref a10, .int 1, .int 11, .int 1, .int 0])), (a2, .inl (cI, 9261, .inl (tb [10]))), (a1, .inr (3, [.int 1, .int 0, .ref a11, .ref a12, .ref a13, .ref a14, .ref a4, .ref a3])), (a3, .inl (cI, 4, .inl (tb [0, 0, 0, 0]))), (a4, .inl (cI, 4, .inl (tb [0, 0, 0, 0])))]) (va_A [(a0, .inr (4, [.ref a1, .ref a2, .ref a5, .ref a6, .ref a7, .ref a8, .ref a9, .ref a10, .int 1, .int 11, .int 1, .int 0])), (a1, .inr (3, [.int 1, .int 0, .ref a11, .ref a12, .ref a13, .ref a14, .ref a4, .ref a3])), (a2, .inl (cI, 9261, .inl (tb [10]))), (a3, .inl (cI, 4, .inl (tb [0, 0, 0, 0]))), (a4, .inl (cI, 4, .inl (tb [0, 0, 0, 0])))] sz)) 0 0 (va_A [(a0, .inr (4, [.ref a1, .ref a2, .ref a5, .ref a6, .ref a7, .ref a8, .ref a9, .ref a10, .int 1, .int 11, .int 1, .int 0])), (a1, .inr (3, [.int 1, .int 0, .ref a11, .ref a12, .ref a13, .ref a14, .ref a4, .ref a3])), (a2, .inl (cI, 9261, .inl (tb [10]))), (a3, .inl (cI, 4, .inl (tb [0, 0, 0, 0]))), (a4, .inl (cI, 4, .inl (tb [0, 0, 0, 0])))] sz) := by
  refine SM.of (y := yX4_firstInBlock) (maxL := 11) (av := [.ref a0, .int 0, .int 1]) (QcI dC dI (TY cI cJ cII cJJ) 0 [(a0, .inr (4, [.ref a1, .ref a2, .ref a5, .ref a6, .ref a7, .ref a8, .ref a9, .ref a10, .int 1, .int 11, .int 1, .int 0])), (a2, .inl (cI, 9261, .inl (tb [10]))), (a1, .inr (3, [.int 1, .int 0, .ref a11, .ref a12, .ref a13, .ref a14, .ref a4, .ref a3])), (a3, .inl (cI, 4, .inl (tb [0, 0, 0, 0]))), (a4, .inl (cI, 4, .inl (tb [0, 0, 0, 0])))]) (by decide +kernel) (Nat.le_of_ble_eq_true rfl) (fun p e s m below meth c A ls hx hb hr hml hown hts hk hnm hA hK hP hD hS hX hl => ?_)
  have hown : s.vm.findClass RX4 = some m.cls := hown
  have hl : lv_has ls 11 [(0, .ref a0), (1, .int 0), (2, .int 1)] := hl
  refine lv_aload_n hx hb dX4_firstInBlock_0 rfl (lv_at hl 0 rfl) ?_
  refine gf (k := 0) hx hb hts inX4 hown hK hP k_205 rfl (by decide) rfl 0 rfl (.ref a1) rfl dX4_firstInBlock_1 ?_
  refine gf (k := 0) hx hb hts inX3 hown hK hP k_39 rfl (by decide) rfl 1 rfl (.int 1) rfl dX4_firstInBlock_4 ?_
  refine lv_iconst (v := 1) hx hb dX4_firstInBlock_7 (by decide) ?_
  refine v_isub hx hb dX4_firstInBlock_8 0 (by decide +kernel) ?_
  refine lv_istore_n (lv' := [(3, .int 0), (0, .ref a0), (1, .int 0), (2, .int 1)]) hx hb dX4_firstInBlock_9 rfl hl (by decide) rfl (fun ls hl => ?_)
  refine lv_aload_n hx hb dX4_firstInBlock_10 rfl (lv_at hl 1 rfl) ?_
  refine lv_iload_n hx hb dX4_firstInBlock_11 rfl (lv_at hl 2 rfl) ?_
  refine lv_iload_n hx hb dX4_firstInBlock_12 rfl (lv_at hl 0 rfl) ?_
  refine kV_i (q0 := 0) ⟨hx, hb, hml, hown, hts⟩ hK hP hD hS hA hX cv_RX4_93 [0, 2, 1] [3, 4] (wr := [(a3, .inl (cI, 4, .inl (tb [0, 0, 0, 0]))), (a4, .inl (cI, 4, .inl (tb [0, 0, 0, 0])))]) rfl rfl rfl rfl (by decide) (c241_X4_digitOf l dC dI cI cJ cII cJJ s.heap.size 0 a0 a2 a1 a5 a6 a7 a8 a9 a10 a11 a12 a13 a14 a4 a3) ⟨by decide +kernel, by decide +kernel⟩ rfl rfl (Or.inl rfl) (rest := []) rfl rfl rfl hl.1 rfl (Nat.le_of_ble_eq_true rfl) dX4_firstInBlock_13 ⟨Nat.le_of_ble_eq_true rfl, Nat.le_of_ble_eq_true rfl⟩ (W' := [(a3, .inl (cI, 4, .inl (tb [0, 0, 0, 0]))), (a4, .inl (cI, 4, .inl (tb [0, 0, 0, 0]))), (a0, .inr (4, [.ref a1, .ref a2, .ref a5, .ref a6, .ref a7, .ref a8, .ref a9, .ref a10, .int 1, .int 11, .int 1, .int 0])), (a2, .inl (cI, 9261, .inl (tb [10]))), (a1, .inr (3, [.int 1, .int 0, .ref a11, .ref a12, .ref a13, .ref a14, .ref a4, .ref a3]))]) rfl (fun H locs hP hD hS => ?_)
  refine lv_istore (lv' := [(4, .int 0), (3, .int 0), (0, .ref a0), (1, .int 0), (2, .int 1)]) hx hb dX4_firstInBlock_16 hl (by decide) rfl (fun ls hl => ?_)
  refine lv_iconst (v := 0) hx hb dX4_firstInBlock_18 (by decide) ?_
  refine lv_istore (lv' := [(5, .int 0), (4, .int 0), (3, .int 0), (0, .ref a0), (1, .int 0), (2, .int 1)]) hx hb dX4_firstInBlock_19 hl (by decide) rfl (fun ls hl => ?_)
  refine lv_lconst (v := 0) hx hb dX4_firstInBlock_21 (by decide) ?_
  refine lv_lstore (lv' := [(6, .long 0), (5, .int 0), (4, .int 0), (3, .int 0), (0, .ref a0), (1, .int 0), (2, .int 1)]) hx hb dX4_firstInBlock_22 hl (by decide) rfl (fun ls hl => ?_)
  refine lv_iconst (v := 0) hx hb dX4_firstInBlock_24 (by decide) ?_
  refine lv_istore (lv' := [(8, .int 0), (6, .long 0), (5, .int 0), (4, .int 0), (3, .int 0), (0, .ref a0), (1, .int 0), (2, .int 1)]) hx hb dX4_firstInBlock_25 hl (by decide) rfl (fun ls hl => ?_)
  refine lv_iload hx hb dX4_firstInBlock_27 (lv_at hl 0 rfl) ?_
  refine lv_aload_n hx hb dX4_firstInBlock_29 rfl (lv_at hl 5 rfl) ?_
  refine gf (k := 9) hx hb hts inX4 hown hK hP k_214 rfl (by decide) rfl 2 rfl (.int 11) rfl dX4_firstInBlock_30 ?_
  refine f_icmp_ge hx hb dX4_firstInBlock_33 81 (by decide) (by decide +kernel) ?_
  refine lv_iload_n hx hb dX4_firstInBlock_36 rfl (lv_at hl 7 rfl) ?_
  refine lv_i2l (v := 1) hx hb dX4_firstInBlock_37 (by decide +kernel) ?_
  refine lv_aload_n hx hb dX4_firstInBlock_38 rfl (lv_at hl 5 rfl) ?_
  refine gf (k := 0) hx hb hts inX4 hown hK hP k_205 rfl (by decide) rfl 2 rfl (.ref a1) rfl dX4_firstInBlock_39 ?_
  refine lv_iload_n hx hb dX4_firstInBlock_42 rfl (lv_at hl 4 rfl) ?_
  refine lv_iload hx hb dX4_firstInBlock_43 (lv_at hl 3 rfl) ?_
  refine lv_iload hx hb dX4_firstInBlock_45 (lv_at hl 0 rfl) ?_
  refine v_iadd hx hb dX4_firstInBlock_47 0 (by decide +kernel) ?_
  refine kV_l (q0 := 0) ⟨hx, hb, hml, hown, hts⟩ hK hP hD hS hA hX cv_RX4_106 [4, 0, 1] [2, 3] (wr := [(a0, .inr (4, [.ref a1, .ref a2, .ref a5, .ref a6, .ref a7, .ref a8, .ref a9, .ref a10, .int 1, .int 11, .int 1, .int 0])), (a2, .inl (cI, 9261, .inl (tb [10])))]) rfl rfl rfl rfl (by decide) (c199_X3_costOfNumber l dC dI cI cJ cII cJJ H.size 0 a1 a3 a4 a11 a12 a13 a14) ⟨by decide +kernel, by decide +kernel⟩ rfl rfl (Or.inl rfl) (rest := [.long 1]) rfl rfl rfl hl.1 rfl (Nat.le_of_ble_eq_true rfl) dX4_firstInBlock_48 ⟨Nat.le_of_ble_eq_true rfl, Nat.le_of_ble_eq_true rfl⟩ (W' := [(a0, .inr (4, [.ref a1, .ref a2, .ref a5, .ref a6, .ref a7, .ref a8, .ref a9, .ref a10, .int 1, .int 11, .int 1, .int 0])), (a2, .inl (cI, 9261, .inl (tb [10]))), (a1, .inr (3, [.int 1, .int 0, .ref a11, .ref a12, .ref a13, .ref a14, .ref a4, .ref a3])), (a3, .inl (cI, 4, .inl (tb [0, 0, 0, 0]))), (a4, .inl (cI, 4, .inl (tb [0, 0, 0, 0])))]) rfl (fun H locs hP hD hS => ?_)
  refine v_lmul hx hb dX4_firstInBlock_51 0 (by decide +kernel) ?_
  refine lv_lstore (lv' := [(9, .long 0), (8, .int 0), (6, .long 0), (5, .int 0), (4, .int 0), (3, .int 0), (0, .ref a0), (1, .int 0), (2, .int 1)]) hx hb dX4_firstInBlock_52 hl (by decide) rfl (fun ls hl => ?_)
  refine lv_iload hx hb dX4_firstInBlock_54 (lv_at hl 1 rfl) ?_
  refine t_if_eq hx hb dX4_firstInBlock_56 67 (by decide) (by decide +kernel) ?_
  refine lv_iload hx hb dX4_firstInBlock_67 (lv_at hl 1 rfl) ?_
  refine lv_istore (lv' := [(5, .int 0), (9, .long 0), (8, .int 0), (6, .long 0), (4, .int 0), (3, .int 0), (0, .ref a0), (1, .int 0), (2, .int 1)]) hx hb dX4_firstInBlock_69 hl (by decide) rfl (fun ls hl => ?_)
  refine lv_lload hx hb dX4_firstInBlock_71 (lv_at hl 1 rfl) ?_
  refine lv_lstore (lv' := [(6, .long 0), (5, .int 0), (9, .long 0), (8, .int 0), (4, .int 0), (3, .int 0), (0, .ref a0), (1, .int 0), (2, .int 1)]) hx hb dX4_firstInBlock_73 hl (by decide) rfl (fun ls hl => ?_)
  refine lv_iinc (v := 1) (lv' := [(8, .int 1), (6, .long 0), (5, .int 0), (9, .long 0), (4, .int 0), (3, .int 0), (0, .ref a0), (1, .int 0), (2, .int 1)]) hx hb dX4_firstInBlock_75 hl (k := 3) rfl (by decide +kernel) (by decide) rfl (fun ls hl => ?_)
  refine lv_goto (tgt := 27) hx hb dX4_firstInBlock_78 (by decide) ?_
  refine lv_iload hx hb dX4_firstInBlock_27 (lv_at hl 0 rfl) ?_
  refine lv_aload_n hx hb dX4_firstInBlock_29 rfl (lv_at hl 6 rfl) ?_
  refine gf (k := 9) hx hb hts inX4 hown hK hP k_214 rfl (by decide) rfl 0 rfl (.int 11) rfl dX4_firstInBlock_30 ?_
  refine f_icmp_ge hx hb dX4_firstInBlock_33 81 (by decide) (by decide +kernel) ?_
  refine lv_iload_n hx hb dX4_firstInBlock_36 rfl (lv_at hl 8 rfl) ?_
  refine lv_i2l (v := 1) hx hb dX4_firstInBlock_37 (by decide +kernel) ?_
  refine lv_aload_n hx hb dX4_firstInBlock_38 rfl (lv_at hl 6 rfl) ?_
  refine gf (k := 0) hx hb hts inX4 hown hK hP k_205 rfl (by decide) rfl 0 rfl (.ref a1) rfl dX4_firstInBlock_39 ?_
  refine lv_iload_n hx hb dX4_firstInBlock_42 rfl (lv_at hl 5 rfl) ?_
  refine lv_iload hx hb dX4_firstInBlock_43 (lv_at hl 4 rfl) ?_
  refine lv_iload hx hb dX4_firstInBlock_45 (lv_at hl 0 rfl) ?_
  refine v_iadd hx hb dX4_firstInBlock_47 1 (by decide +kernel) ?_
  refine kV_l (q0 := 0) ⟨hx, hb, hml, hown, hts⟩ hK hP hD hS hA hX cv_RX4_106 [2, 3, 4] [0, 1] (wr := [(a0, .inr (4, [.ref a1, .ref a2, .ref a5, .ref a6, .ref a7, .ref a8, .ref a9, .ref a10, .int 1, .int 11, .int 1, .int 0])), (a2, .inl (cI, 9261, .inl (tb [10])))]) rfl rfl rfl rfl (by decide) (c251_X3_costOfNumber l dC dI cI cJ cII cJJ H.size 0 a1 a3 a4 a11 a12 a13 a14) ⟨by decide +kernel, by decide +kernel⟩ rfl rfl (Or.inl rfl) (rest := [.long 1]) rfl rfl rfl hl.1 rfl (Nat.le_of_ble_eq_true rfl) dX4_firstInBlock_48 ⟨Nat.le_of_ble_eq_true rfl, Nat.le_of_ble_eq_true rfl⟩ (W' := [(a0, .inr (4, [.ref a1, .ref a2, .ref a5, .ref a6, .ref a7, .ref a8, .ref a9, .ref a10, .int 1, .int 11, .int 1, .int 0])), (a2, .inl (cI, 9261, .inl (tb [10]))), (a1, .inr (3, [.int 1, .int 0, .ref a11, .ref a12, .ref a13, .ref a14, .ref a4, .ref a3])), (a3, .inl (cI, 4, .inl (tb [0, 0, 0, 0]))), (a4, .inl (cI, 4, .inl (tb [0, 0, 0, 0])))]) rfl (fun H locs hP hD hS => ?_)
  refine v_lmul hx hb dX4_firstInBlock_51 0 (by decide +kernel) ?_
  refine lv_lstore (lv' := [(9, .long 0), (8, .int 1), (6, .long 0), (5, .int 0), (4, .int 0), (3, .int 0), (0, .ref a0), (1, .int 0), (2, .int 1)]) hx hb dX4_firstInBlock_52 hl (by decide) rfl (fun ls hl => ?_)
  refine lv_iload hx hb dX4_firstInBlock_54 (lv_at hl 1 rfl) ?_
  refine f_if_eq hx hb dX4_firstInBlock_56 67 (by decide) (by decide +kernel) ?_
  refine lv_lload hx hb dX4_firstInBlock_59 (lv_at hl 0 rfl) ?_
  refine lv_lload hx hb dX4_firstInBlock_61 (lv_at hl 2 rfl) ?_
  refine v_lcmp hx hb dX4_firstInBlock_63 0 (by decide +kernel) ?_
  refine t_if_ge hx hb dX4_firstInBlock_64 75 (by decide) (by decide +kernel) ?_
  refine lv_iinc (v := 2) (lv' := [(8, .int 2), (9, .long 0), (6, .long 0), (5, .int 0), (4, .int 0), (3, .int 0), (0, .ref a0), (1, .int 0), (2, .int 1)]) hx hb dX4_firstInBlock_75 hl (k := 1) rfl (by decide +kernel) (by decide) rfl (fun ls hl => ?_)
  refine lv_goto (tgt := 27) hx hb dX4_firstInBlock_78 (by decide) ?_
  refine lv_iload hx hb dX4_firstInBlock_27 (lv_at hl 0 rfl) ?_
  refine lv_aload_n hx hb dX4_firstInBlock_29 rfl (lv_at hl 6 rfl) ?_
  refine gf (k := 9) hx hb hts inX4 hown hK hP k_214 rfl (by decide) rfl 0 rfl (.int 11) rfl dX4_firstInBlock_30 ?_
  refine f_icmp_ge hx hb dX4_firstInBlock_33 81 (by decide) (by decide +kernel) ?_
  refine lv_iload_n hx hb dX4_firstInBlock_36 rfl (lv_at hl 8 rfl) ?_
  refine lv_i2l (v := 1) hx hb dX4_firstInBlock_37 (by decide +kernel) ?_
  refine lv_aload_n hx hb dX4_firstInBlock_38 rfl (lv_at hl 6 rfl) ?_
  refine gf (k := 0) hx hb hts inX4 hown hK hP k_205 rfl (by decide) rfl 0 rfl (.ref a1) rfl dX4_firstInBlock_39 ?_
  refine lv_iload_n hx hb dX4_firstInBlock_42 rfl (lv_at hl 5 rfl) ?_
  refine lv_iload hx hb dX4_firstInBlock_43 (lv_at hl 4 rfl) ?_
  refine lv_iload hx hb dX4_firstInBlock_45 (lv_at hl 0 rfl) ?_
  refine v_iadd hx hb dX4_firstInBlock_47 2 (by decide +kernel) ?_
  refine kV_l (q0 := 0) ⟨hx, hb, hml, hown, hts⟩ hK hP hD hS hA hX cv_RX4_106 [2, 3, 4] [0, 1] (wr := [(a0, .inr (4, [.ref a1, .ref a2, .ref a5, .ref a6, .ref a7, .ref a8, .ref a9, .ref a10, .int 1, .int 11, .int 1, .int 0])), (a2, .inl (cI, 9261, .inl (tb [10])))]) rfl rfl rfl rfl (by decide) (c252_X3_costOfNumber l dC dI cI cJ cII cJJ H.size 0 a1 a3 a4 a11 a12 a13 a14) ⟨by decide +kernel, by decide +kernel⟩ rfl rfl (Or.inl rfl) (rest := [.long 1]) rfl rfl rfl hl.1 rfl (Nat.le_of_ble_eq_true rfl) dX4_firstInBlock_48 ⟨Nat.le_of_ble_eq_true rfl, Nat.le_of_ble_eq_true rfl⟩ (W' := [(a0, .inr (4, [.ref a1, .ref a2, .ref a5, .ref a6, .ref a7, .ref a8, .ref a9, .ref a10, .int 1, .int 11, .int 1, .int 0])), (a2, .inl (cI, 9261, .inl (tb [10]))), (a1, .inr (3, [.int 1, .int 0, .ref a11, .ref a12, .ref a13, .ref a14, .ref a4, .ref a3])), (a3, .inl (cI, 4, .inl (tb [0, 0, 0, 0]))), (a4, .inl (cI, 4, .inl (tb [0, 0, 0, 0])))]) rfl (fun H locs hP hD hS => ?_)
  refine v_lmul hx hb dX4_firstInBlock_51 0 (by decide +kernel) ?_
  refine lv_lstore (lv' := [(9, .long 0), (8, .int 2), (6, .long 0), (5, .int 0), (4, .int 0), (3, .int 0), (0, .ref a0), (1, .int 0), (2, .int 1)]) hx hb dX4_firstInBlock_52 hl (by decide) rfl (fun ls hl => ?_)
  refine lv_iload hx hb dX4_firstInBlock_54 (lv_at hl 1 rfl) ?_
  refine f_if_eq hx hb dX4_firstInBlock_56 67 (by decide) (by decide +kernel) ?_
  refine lv_lload hx hb dX4_firstInBlock_59 (lv_at hl 0 rfl) ?_
  refine lv_lload hx hb dX4_firstInBlock_61 (lv_at hl 2 rfl) ?_
  refine v_lcmp hx hb dX4_firstInBlock_63 0 (by decide +kernel) ?_
  refine t_if_ge hx hb dX4_firstInBlock_64 75 (by decide) (by decide +kernel) ?_
  refine lv_iinc (v := 3) (lv' := [(8, .int 3), (9, .long 0), (6, .long 0), (5, .int 0), (4, .int 0), (3, .int 0), (0, .ref a0), (1, .int 0), (2, .int 1)]) hx hb dX4_firstInBlock_75 hl (k := 1) rfl (by decide +kernel) (by decide) rfl (fun ls hl => ?_)
  refine lv_goto (tgt := 27) hx hb dX4_firstInBlock_78 (by decide) ?_
  refine lv_iload hx hb dX4_firstInBlock_27 (lv_at hl 0 rfl) ?_
  refine lv_aload_n hx hb dX4_firstInBlock_29 rfl (lv_at hl 6 rfl) ?_
  refine gf (k := 9) hx hb hts inX4 hown hK hP k_214 rfl (by decide) rfl 0 rfl (.int 11) rfl dX4_firstInBlock_30 ?_
  refine f_icmp_ge hx hb dX4_firstInBlock_33 81 (by decide) (by decide +kernel) ?_
  refine lv_iload_n hx hb dX4_firstInBlock_36 rfl (lv_at hl 8 rfl) ?_
  refine lv_i2l (v := 1) hx hb dX4_firstInBlock_37 (by decide +kernel) ?_
  refine lv_aload_n hx hb dX4_firstInBlock_38 rfl (lv_at hl 6 rfl) ?_
  refine gf (k := 0) hx hb hts inX4 hown hK hP k_205 rfl (by decide) rfl 0 rfl (.ref a1) rfl dX4_firstInBlock_39 ?_
  refine lv_iload_n hx hb dX4_firstInBlock_42 rfl (lv_at hl 5 rfl) ?_
  refine lv_iload hx hb dX4_firstInBlock_43 (lv_at hl 4 rfl) ?_
  refine lv_iload hx hb dX4_firstInBlock_45 (lv_at hl 0 rfl) ?_
  refine v_iadd hx hb dX4_firstInBlock_47 3 (by decide +kernel) ?_
  refine kV_l (q0 := 0) ⟨hx, hb, hml, hown, hts⟩ hK hP hD hS hA hX cv_RX4_106 [2, 3, 4] [0, 1] (wr := [(a0, .inr (4, [.ref a1, .ref a2, .ref a5, .ref a6, .ref a7, .ref a8, .ref a9, .ref a10, .int 1, .int 11, .int 1, .int 0])), (a2, .inl (cI, 9261, .inl (tb [10])))]) rfl rfl rfl rfl (by decide) (c253_X3_costOfNumber l dC dI cI cJ cII cJJ H.size 0 a1 a3 a4 a11 a12 a13 a14) ⟨by decide +kernel, by decide +kernel⟩ rfl rfl (Or.inl rfl) (rest := [.long 1]) rfl rfl rfl hl.1 rfl (Nat.le_of_ble_eq_true rfl) dX4_firstInBlock_48 ⟨Nat.le_of_ble_eq_true rfl, Nat.le_of_ble_eq_true rfl⟩ (W' := [(a0, .inr (4, [.ref a1, .ref a2, .ref a5, .ref a6, .ref a7, .ref a8, .ref a9, .ref a10, .int 1, .int 11, .int 1, .int 0])), (a2, .inl (cI, 9261, .inl (tb [10]))), (a1, .inr (3, [.int 1, .int 0, .ref a11, .ref a12, .ref a13, .ref a14, .ref a4, .ref a3])), (a3, .inl (cI, 4, .inl (tb [0, 0, 0, 0]))), (a4, .inl (cI, 4, .inl (tb [0, 0, 0, 0])))]) rfl (fun H locs hP hD hS => ?_)
  refine v_lmul hx hb dX4_firstInBlock_51 0 (by decide +kernel) ?_
  refine lv_lstore (lv' := [(9, .long 0), (8, .int 3), (6, .long 0), (5, .int 0), (4, .int 0), (3, .int 0), (0, .ref a0), (1, .int 0), (2, .int 1)]) hx hb dX4_firstInBlock_52 hl (by decide) rfl (fun ls hl => ?_)
  refine lv_iload hx hb dX4_firstInBlock_54 (lv_at hl 1 rfl) ?_
  refine f_if_eq hx hb dX4_firstInBlock_56 67 (by decide) (by decide +kernel) ?_
  refine lv_lload hx hb dX4_firstInBlock_59 (lv_at hl 0 rfl) ?_
  refine lv_lload hx hb dX4_firstInBlock_61 (lv_at hl 2 rfl) ?_
  refine v_lcmp hx hb dX4_firstInBlock_63 0 (by decide +kernel) ?_
  refine t_if_ge hx hb dX4_firstInBlock_64 75 (by decide) (by decide +kernel) ?_
  refine lv_iinc (v := 4) (lv' := [(8, .int 4), (9, .long 0), (6, .long 0), (5, .int 0), (4, .int 0), (3, .int 0), (0, .ref a0), (1, .int 0), (2, .int 1)]) hx hb dX4_firstInBlock_75 hl (k := 1) rfl (by decide +kernel) (by decide) rfl (fun ls hl => ?_)
  refine lv_goto (tgt := 27) hx hb dX4_firstInBlock_78 (by decide) ?_
  refine lv_iload hx hb dX4_firstInBlock_27 (lv_at hl 0 rfl) ?_
  refine lv_aload_n hx hb dX4_firstInBlock_29 rfl (lv_at hl 6 rfl) ?_
  refine gf (k := 9) hx hb hts inX4 hown hK hP k_214 rfl (by decide) rfl 0 rfl (.int 11) rfl dX4_firstInBlock_30 ?_
  refine f_icmp_ge hx hb dX4_firstInBlock_33 81 (by decide) (by decide +kernel) ?_
  refine lv_iload_n hx hb dX4_firstInBlock_36 rfl (lv_at hl 8 rfl) ?_
  refine lv_i2l (v := 1) hx hb dX4_firstInBlock_37 (by decide +kernel) ?_
  refine lv_aload_n hx hb dX4_firstInBlock_38 rfl (lv_at hl 6 rfl) ?_
  refine gf (k := 0) hx hb hts inX4 hown hK hP k_205 rfl (by decide) rfl 0 rfl (.ref a1) rfl dX4_firstInBlock_39 ?_
  refine lv_iload_n hx hb dX4_firstInBlock_42 rfl (lv_at hl 5 rfl) ?_
  refine lv_iload hx hb dX4_firstInBlock_43 (lv_at hl 4 rfl) ?_
  refine lv_iload hx hb dX4_firstInBlock_45 (lv_at hl 0 rfl) ?_
  refine v_iadd hx hb dX4_firstInBlock_47 4 (by decide +kernel) ?_
  refine kV_l (q0 := 0) ⟨hx, hb, hml, hown, hts⟩ hK hP hD hS hA hX cv_RX4_106 [2, 3, 4] [0, 1] (wr := [(a0, .inr (4, [.ref a1, .ref a2, .ref a5, .ref a6, .ref a7, .ref a8, .ref a9, .ref a10, .int 1, .int 11, .int 1, .int 0])), (a2, .inl (cI, 9261, .inl (tb [10])))]) rfl rfl rfl rfl (by decide) (c254_X3_costOfNumber l dC dI cI cJ cII cJJ H.size 0 a1 a3 a4 a11 a12 a13 a14) ⟨by decide +kernel, by decide +kernel⟩ rfl rfl (Or.inl rfl) (rest := [.long 1]) rfl rfl rfl hl.1 rfl (Nat.le_of_ble_eq_true rfl) dX4_firstInBlock_48 ⟨Nat.le_of_ble_eq_true rfl, Nat.le_of_ble_eq_true rfl⟩ (W' := [(a0, .inr (4, [.ref a1, .ref a2, .ref a5, .ref a6, .ref a7, .ref a8, .ref a9, .ref a10, .int 1, .int 11, .int 1, .int 0])), (a2, .inl (cI, 9261, .inl (tb [10]))), (a1, .inr (3, [.int 1, .int 0, .ref a11, .ref a12, .ref a13, .ref a14, .ref a4, .ref a3])), (a3, .inl (cI, 4, .inl (tb [0, 0, 0, 0]))), (a4, .inl (cI, 4, .inl (tb [0, 0, 0, 0])))]) rfl (fun H locs hP hD hS => ?_)
  refine v_lmul hx hb dX4_firstInBlock_51 0 (by decide +kernel) ?_
  refine lv_lstore (lv' := [(9, .long 0), (8, .int 4), (6, .long 0), (5, .int 0), (4, .int 0), (3, .int 0), (0, .ref a0), (1, .int 0), (2, .int 1)]) hx hb dX4_firstInBlock_52 hl (by decide) rfl (fun ls hl => ?_)
  refine lv_iload hx hb dX4_firstInBlock_54 (lv_at hl 1 rfl) ?_
  refine f_if_eq hx hb dX4_firstInBlock_56 67 (by decide) (by decide +kernel) ?_
  refine lv_lload hx hb dX4_firstInBlock_59 (lv_at hl 0 rfl) ?_
  refine lv_lload hx hb dX4_firstInBlock_61 (lv_at hl 2 rfl) ?_
  refine v_lcmp hx hb dX4_firstInBlock_63 0 (by decide +kernel) ?_
  refine t_if_ge hx hb dX4_firstInBlock_64 75 (by decide) (by decide +kernel) ?_
  refine lv_iinc (v := 5) (lv' := [(8, .int 5), (9, .long 0), (6, .long 0), (5, .int 0), (4, .int 0), (3, .int 0), (0, .ref a0), (1, .int 0), (2, .int 1)]) hx hb dX4_firstInBlock_75 hl (k := 1) rfl (by decide +kernel) (by decide) rfl (fun ls hl => ?_)
  refine lv_goto (tgt := 27) hx hb dX4_firstInBlock_78 (by decide) ?_
  refine lv_iload hx hb dX4_firstInBlock_27 (lv_at hl 0 rfl) ?_
  refine lv_aload_n hx hb dX4_firstInBlock_29 rfl (lv_at hl 6 rfl) ?_
  refine gf (k := 9) hx hb hts inX4 hown hK hP k_214 rfl (by decide) rfl 0 rfl (.int 11) rfl dX4_firstInBlock_30 ?_
  refine f_icmp_ge hx hb dX4_firstInBlock_33 81 (by decide) (by decide +kernel) ?_
  refine lv_iload_n hx hb dX4_firstInBlock_36 rfl (lv_at hl 8 rfl) ?_
  refine lv_i2l (v := 1) hx hb dX4_firstInBlock_37 (by decide +kernel) ?_
  refine lv_aload_n hx hb dX4_firstInBlock_38 rfl (lv_at hl 6 rfl) ?_
  refine gf (k := 0) hx hb hts inX4 hown hK hP k_205 rfl (by decide) rfl 0 rfl (.ref a1) rfl dX4_firstInBlock_39 ?_
  refine lv_iload_n hx hb dX4_firstInBlock_42 rfl (lv_at hl 5 rfl) ?_
  refine lv_iload hx hb dX4_firstInBlock_43 (lv_at hl 4 rfl) ?_
  refine lv_iload hx hb dX4_firstInBlock_45 (lv_at hl 0 rfl) ?_
  refine v_iadd hx hb dX4_firstInBlock_47 5 (by decide +kernel) ?_
  refine kV_l (q0 := 0) ⟨hx, hb, hml, hown, hts⟩ hK hP hD hS hA hX cv_RX4_106 [2, 3, 4] [0, 1] (wr := [(a0, .inr (4, [.ref a1, .ref a2, .ref a5, .ref a6, .ref a7, .ref a8, .ref a9, .ref a10, .int 1, .int 11, .int 1, .int 0])), (a2, .inl (cI, 9261, .inl (tb [10])))]) rfl rfl rfl rfl (by decide) (c255_X3_costOfNumber l dC dI cI cJ cII cJJ H.size 0 a1 a3 a4 a11 a12 a13 a14) ⟨by decide +kernel, by decide +kernel⟩ rfl rfl (Or.inl rfl) (rest := [.long 1]) rfl rfl rfl hl.1 rfl (Nat.le_of_ble_eq_true rfl) dX4_firstInBlock_48 ⟨Nat.le_of_ble_eq_true rfl, Nat.le_of_ble_eq_true rfl⟩ (W' := [(a0, .inr (4, [.ref a1, .ref a2, .ref a5, .ref a6, .ref a7, .ref a8, .ref a9, .ref a10, .int 1, .int 11, .int 1, .int 0])), (a2, .inl (cI, 9261, .inl (tb [10]))), (a1, .inr (3, [.int 1, .int 0, .ref a11, .ref a12, .ref a13, .ref a14, .ref a4, .ref a3])), (a3, .inl (cI, 4, .inl (tb [0, 0, 0, 0]))), (a4, .inl (cI, 4, .inl (tb [0, 0, 0, 0])))]) rfl (fun H locs hP hD hS => ?_)
  refine v_lmul hx hb dX4_firstInBlock_51 0 (by decide +kernel) ?_
  refine lv_lstore (lv' := [(9, .long 0), (8, .int 5), (6, .long 0), (5, .int 0), (4, .int 0), (3, .int 0), (0, .ref a0), (1, .int 0), (2, .int 1)]) hx hb dX4_firstInBlock_52 hl (by decide) rfl (fun ls hl => ?_)
  refine lv_iload hx hb dX4_firstInBlock_54 (lv_at hl 1 rfl) ?_
  refine f_if_eq hx hb dX4_firstInBlock_56 67 (by decide) (by decide +kernel) ?_
  refine lv_lload hx hb dX4_firstInBlock_59 (lv_at hl 0 rfl) ?_
  refine lv_lload hx hb dX4_firstInBlock_61 (lv_at hl 2 rfl) ?_
  refine v_lcmp hx hb dX4_firstInBlock_63 0 (by decide +kernel) ?_
  refine t_if_ge hx hb dX4_firstInBlock_64 75 (by decide) (by decide +kernel) ?_
  refine lv_iinc (v := 6) (lv' := [(8, .int 6), (9, .long 0), (6, .long 0), (5, .int 0), (4, .int 0), (3, .int 0), (0, .ref a0), (1, .int 0), (2, .int 1)]) hx hb dX4_firstInBlock_75 hl (k := 1) rfl (by decide +kernel) (by decide) rfl (fun ls hl => ?_)
  refine lv_goto (tgt := 27) hx hb dX4_firstInBlock_78 (by decide) ?_
  refine lv_iload hx hb dX4_firstInBlock_27 (lv_at hl 0 rfl) ?_
  refine lv_aload_n hx hb dX4_firstInBlock_29 rfl (lv_at hl 6 rfl) ?_
  refine gf (k := 9) hx hb hts inX4 hown hK hP k_214 rfl (by decide) rfl 0 rfl (.int 11) rfl dX4_firstInBlock_30 ?_
  refine f_icmp_ge hx hb dX4_firstInBlock_33 81 (by decide) (by decide +kernel) ?_
  refine lv_iload_n hx hb dX4_firstInBlock_36 rfl (lv_at hl 8 rfl) ?_
  refine lv_i2l (v := 1) hx hb dX4_firstInBlock_37 (by decide +kernel) ?_
  refine lv_aload_n hx hb dX4_firstInBlock_38 rfl (lv_at hl 6 rfl) ?_
  refine gf (k := 0) hx hb hts inX4 hown hK hP k_205 rfl (by decide) rfl 0 rfl (.ref a1) rfl dX4_firstInBlock_39 ?_
  refine lv_iload_n hx hb dX4_firstInBlock_42 rfl (lv_at hl 5 rfl) ?_
  refine lv_iload hx hb dX4_firstInBlock_43 (lv_at hl 4 rfl) ?_
  refine lv_iload hx hb dX4_firstInBlock_45 (lv_at hl 0 rfl) ?_
  refine v_iadd hx hb dX4_firstInBlock_47 6 (by decide +kernel) ?_
  refine kV_l (q0 := 0) ⟨hx, hb, hml, hown, hts⟩ hK hP hD hS hA hX cv_RX4_106 [2, 3, 4] [0, 1] (wr := [(a0, .inr (4, [.ref a1, .ref a2, .ref a5, .ref a6, .ref a7, .ref a8, .ref a9, .ref a10, .int 1, .int 11, .int 1, .int 0])), (a2, .inl (cI, 9261, .inl (tb [10])))]) rfl rfl rfl rfl (by decide) (c256_X3_costOfNumber l dC dI cI cJ cII cJJ H.size 0 a1 a3 a4 a11 a12 a13 a14) ⟨by decide +kernel, by decide +kernel⟩ rfl rfl (Or.inl rfl) (rest := [.long 1]) rfl rfl rfl hl.1 rfl (Nat.le_of_ble_eq_true rfl) dX4_firstInBlock_48 ⟨Nat.le_of_ble_eq_true rfl, Nat.le_of_ble_eq_true rfl⟩ (W' := [(a0, .inr (4, [.ref a1, .ref a2, .ref a5, .ref a6, .ref a7, .ref a8, .ref a9, .ref a10, .int 1, .int 11, .int 1, .int 0])), (a2, .inl (cI, 9261, .inl (tb [10]))), (a1, .inr (3, [.int 1, .int 0, .ref a11, .ref a12, .ref a13, .ref a14, .ref a4, .ref a3])), (a3, .inl (cI, 4, .inl (tb [0, 0, 0, 0]))), (a4, .inl (cI, 4, .inl (tb [0, 0, 0, 0])))]) rfl (fun H locs hP hD hS => ?_)
  refine v_lmul hx hb dX4_firstInBlock_51 0 (by decide +kernel) ?_
  refine lv_lstore (lv' := [(9, .long 0), (8, .int 6), (6, .long 0), (5, .int 0), (4, .int 0), (3, .int 0), (0, .ref a0), (1, .int 0), (2, .int 1)]) hx hb dX4_firstInBlock_52 hl (by decide) rfl (fun ls hl => ?_)
  refine lv_iload hx hb dX4_firstInBlock_54 (lv_at hl 1 rfl) ?_
  refine f_if_eq hx hb dX4_firstInBlock_56 67 (by decide) (by decide +kernel) ?_
  refine lv_lload hx hb dX4_firstInBlock_59 (lv_at hl 0 rfl) ?_
  refine lv_lload hx hb dX4_firstInBlock_61 (lv_at hl 2 rfl) ?_
  refine v_lcmp hx hb dX4_firstInBlock_63 0 (by decide +kernel) ?_
  refine t_if_ge hx hb dX4_firstInBlock_64 75 (by decide) (by decide +kernel) ?_
  refine lv_iinc (v := 7) (lv' := [(8, .int 7), (9, .long 0), (6, .long 0), (5, .int 0), (4, .int 0), (3, .int 0), (0, .ref a0), (1, .int 0), (2, .int 1)]) hx hb dX4_firstInBlock_75 hl (k := 1) rfl (by decide +kernel) (by decide) rfl (fun ls hl => ?_)
  refine lv_goto (tgt := 27) hx hb dX4_firstInBlock_78 (by decide) ?_
  refine lv_iload hx hb dX4_firstInBlock_27 (lv_at hl 0 rfl) ?_
  refine lv_aload_n hx hb dX4_firstInBlock_29 rfl (lv_at hl 6 rfl) ?_
  refine gf (k := 9) hx hb hts inX4 hown hK hP k_214 rfl (by decide) rfl 0 rfl (.int 11) rfl dX4_firstInBlock_30 ?_
  refine f_icmp_ge hx hb dX4_firstInBlock_33 81 (by decide) (by decide +kernel) ?_
  refine lv_iload_n hx hb dX4_firstInBlock_36 rfl (lv_at hl 8 rfl) ?_
  refine lv_i2l (v := 1) hx hb dX4_firstInBlock_37 (by decide +kernel) ?_
  refine lv_aload_n hx hb dX4_firstInBlock_38 rfl (lv_at hl 6 rfl) ?_
  refine gf (k := 0) hx hb hts inX4 hown hK hP k_205 rfl (by decide) rfl 0 rfl (.ref a1) rfl dX4_firstInBlock_39 ?_
  refine lv_iload_n hx hb dX4_firstInBlock_42 rfl (lv_at hl 5 rfl) ?_
  refine lv_iload hx hb dX4_firstInBlock_43 (lv_at hl 4 rfl) ?_
  refine lv_iload hx hb dX4_firstInBlock_45 (lv_at hl 0 rfl) ?_
  refine v_iadd hx hb dX4_firstInBlock_47 7 (by decide +kernel) ?_
  refine kV_l (q0 := 0) ⟨hx, hb, hml, hown, hts⟩ hK hP hD hS hA hX cv_RX4_106 [2, 3, 4] [0, 1] (wr := [(a0, .inr (4, [.ref a1, .ref a2, .ref a5, .ref a6, .ref a7, .ref a8, .ref a9, .ref a10, .int 1, .int 11, .int 1, .int 0])), (a2, .inl (cI, 9261, .inl (tb [10])))]) rfl rfl rfl rfl (by decide) (c257_X3_costOfNumber l dC dI cI cJ cII cJJ H.size 0 a1 a3 a4 a11 a12 a13 a14) ⟨by decide +kernel, by decide +kernel⟩ rfl rfl (Or.inl rfl) (rest := [.long 1]) rfl rfl rfl hl.1 rfl (Nat.le_of_ble_eq_true rfl) dX4_firstInBlock_48 ⟨Nat.le_of_ble_eq_true rfl, Nat.le_of_ble_eq_true rfl⟩ (W' := [(a0, .inr (4, [.ref a1, .ref a2, .ref a5, .ref a6, .ref a7, .ref a8, .ref a9, .ref a10, .int 1, .int 11, .int 1, .int 0])), (a2, .inl (cI, 9261, .inl (tb [10]))), (a1, .inr (3, [.int 1, .int 0, .ref a11, .ref a12, .ref a13, .ref a14, .ref a4, .ref a3])), (a3, .inl (cI, 4, .inl (tb [0, 0, 0, 0]))), (a4, .inl (cI, 4, .inl (tb [0, 0, 0, 0])))]) rfl (fun H locs hP hD hS => ?_)
  refine v_lmul hx hb dX4_firstInBlock_51 0 (by decide +kernel) ?_
  refine lv_lstore (lv' := [(9, .long 0), (8, .int 7), (6, .long 0), (5, .int 0), (4, .int 0), (3, .int 0), (0, .ref a0), (1, .int 0), (2, .int 1)]) hx hb dX4_firstInBlock_52 hl (by decide) rfl (fun ls hl => ?_)
  refine lv_iload hx hb dX4_firstInBlock_54 (lv_at hl 1 rfl) ?_
  refine f_if_eq hx hb dX4_firstInBlock_56 67 (by decide) (by decide +kernel) ?_
  refine lv_lload hx hb dX4_firstInBlock_59 (lv_at hl 0 rfl) ?_
  refine lv_lload hx hb dX4_firstInBlock_61 (lv_at hl 2 rfl) ?_
  refine v_lcmp hx hb dX4_firstInBlock_63 0 (by decide +kernel) ?_
  refine t_if_ge hx hb dX4_firstInBlock_64 75 (by decide) (by decide +kernel) ?_
  refine lv_iinc (v := 8) (lv' := [(8, .int 8), (9, .long 0), (6, .long 0), (5, .int 0), (4, .int 0), (3, .int 0), (0, .ref a0), (1, .int 0), (2, .int 1)]) hx hb dX4_firstInBlock_75 hl (k := 1) rfl (by decide +kernel) (by decide) rfl (fun ls hl => ?_)
  refine lv_goto (tgt := 27) hx hb dX4_firstInBlock_78 (by decide) ?_
  refine lv_iload hx hb dX4_firstInBlock_27 (lv_at hl 0 rfl) ?_
  refine lv_aload_n hx hb dX4_firstInBlock_29 rfl (lv_at hl 6 rfl) ?_
  refine gf (k := 9) hx hb hts inX4 hown hK hP k_214 rfl (by decide) rfl 0 rfl (.int 11) rfl dX4_firstInBlock_30 ?_
  refine f_icmp_ge hx hb dX4_firstInBlock_33 81 (by decide) (by decide +kernel) ?_
  refine lv_iload_n hx hb dX4_firstInBlock_36 rfl (lv_at hl 8 rfl) ?_
  refine lv_i2l (v := 1) hx hb dX4_firstInBlock_37 (by decide +kernel) ?_
  refine lv_aload_n hx hb dX4_firstInBlock_38 rfl (lv_at hl 6 rfl) ?_
  refine gf (k := 0) hx hb hts inX4 hown hK hP k_205 rfl (by decide) rfl 0 rfl (.ref a1) rfl dX4_firstInBlock_39 ?_
  refine lv_iload_n hx hb dX4_firstInBlock_42 rfl (lv_at hl 5 rfl) ?_
  refine lv_iload hx hb dX4_firstInBlock_43 (lv_at hl 4 rfl) ?_
  refine lv_iload hx hb dX4_firstInBlock_45 (lv_at hl 0 rfl) ?_
  refine v_iadd hx hb dX4_firstInBlock_47 8 (by decide +kernel) ?_
  refine kV_l (q0 := 0) ⟨hx, hb, hml, hown, hts⟩ hK hP hD hS hA hX cv_RX4_106 [2, 3, 4] [0, 1] (wr := [(a0, .inr (4, [.ref a1, .ref a2, .ref a5, .ref a6, .ref a7, .ref a8, .ref a9, .ref a10, .int 1, .int 11, .int 1, .int 0])), (a2, .inl (cI, 9261, .inl (tb [10])))]) rfl rfl rfl rfl (by decide) (c258_X3_costOfNumber l dC dI cI cJ cII cJJ H.size 0 a1 a3 a4 a11 a12 a13 a14) ⟨by decide +kernel, by decide +kernel⟩ rfl rfl (Or.inl rfl) (rest := [.long 1]) rfl rfl rfl hl.1 rfl (Nat.le_of_ble_eq_true rfl) dX4_firstInBlock_48 ⟨Nat.le_of_ble_eq_true rfl, Nat.le_of_ble_eq_true rfl⟩ (W' := [(a0, .inr (4, [.ref a1, .ref a2, .ref a5, .ref a6, .ref a7, .ref a8, .ref a9, .ref a10, .int 1, .int 11, .int 1, .int 0])), (a2, .inl (cI, 9261, .inl (tb [10]))), (a1, .inr (3, [.int 1, .int 0, .ref a11, .ref a12, .ref a13, .ref a14, .ref a4, .ref a3])), (a3, .inl (cI, 4, .inl (tb [0, 0, 0, 0]))), (a4, .inl (cI, 4, .inl (tb [0, 0, 0, 0])))]) rfl (fun H locs hP hD hS => ?_)
  refine v_lmul hx hb dX4_firstInBlock_51 0 (by decide +kernel) ?_
  refine lv_lstore (lv' := [(9, .long 0), (8, .int 8), (6, .long 0), (5, .int 0), (4, .int 0), (3, .int 0), (0, .ref a0), (1, .int 0), (2, .int 1)]) hx hb dX4_firstInBlock_52 hl (by decide) rfl (fun ls hl => ?_)
  refine lv_iload hx hb dX4_firstInBlock_54 (lv_at hl 1 rfl) ?_
  refine f_if_eq hx hb dX4_firstInBlock_56 67 (by decide) (by decide +kernel) ?_
  refine lv_lload hx hb dX4_firstInBlock_59 (lv_at hl 0 rfl) ?_
  refine lv_lload hx hb dX4_firstInBlock_61 (lv_at hl 2 rfl) ?_
  refine v_lcmp hx hb dX4_firstInBlock_63 0 (by decide +kernel) ?_
  refine t_if_ge hx hb dX4_firstInBlock_64 75 (by decide) (by decide +kernel) ?_
  refine lv_iinc (v := 9) (lv' := [(8, .int 9), (9, .long 0), (6, .long 0), (5, .int 0), (4, .int 0), (3, .int 0), (0, .ref a0), (1, .int 0), (2, .int 1)]) hx hb dX4_firstInBlock_75 hl (k := 1) rfl (by decide +kernel) (by decide) rfl (fun ls hl => ?_)
  refine lv_goto (tgt := 27) hx hb dX4_firstInBlock_78 (by decide) ?_
  refine lv_iload hx hb dX4_firstInBlock_27 (lv_at hl 0 rfl) ?_
  refine lv_aload_n hx hb dX4_firstInBlock_29 rfl (lv_at hl 6 rfl) ?_
  refine gf (k := 9) hx hb hts inX4 hown hK hP k_214 rfl (by decide) rfl 0 rfl (.int 11) rfl dX4_firstInBlock_30 ?_
  refine f_icmp_ge hx hb dX4_firstInBlock_33 81 (by decide) (by decide +kernel) ?_
  refine lv_iload_n hx hb dX4_firstInBlock_36 rfl (lv_at hl 8 rfl) ?_
  refine lv_i2l (v := 1) hx hb dX4_firstInBlock_37 (by decide +kernel) ?_
  refine lv_aload_n hx hb dX4_firstInBlock_38 rfl (lv_at hl 6 rfl) ?_
  refine gf (k := 0) hx hb hts inX4 hown hK hP k_205 rfl (by decide) rfl 0 rfl (.ref a1) rfl dX4_firstInBlock_39 ?_
  refine lv_iload_n hx hb dX4_firstInBlock_42 rfl (lv_at hl 5 rfl) ?_
  refine lv_iload hx hb dX4_firstInBlock_43 (lv_at hl 4 rfl) ?_
  refine lv_iload hx hb dX4_firstInBlock_45 (lv_at hl 0 rfl) ?_
  refine v_iadd hx hb dX4_firstInBlock_47 9 (by decide +kernel) ?_
  refine kV_l (q0 := 0) ⟨hx, hb, hml, hown, hts⟩ hK hP hD hS hA hX cv_RX4_106 [2, 3, 4] [0, 1] (wr := [(a0, .inr (4, [.ref a1, .ref a2, .ref a5, .ref a6, .ref a7, .ref a8, .ref a9, .ref a10, .int 1, .int 11, .int 1, .int 0])), (a2, .inl (cI, 9261, .inl (tb [10])))]) rfl rfl rfl rfl (by decide) (c259_X3_costOfNumber l dC dI cI cJ cII cJJ H.size 0 a1 a3 a4 a11 a12 a13 a14) ⟨by decide +kernel, by decide +kernel⟩ rfl rfl (Or.inl rfl) (rest := [.long 1]) rfl rfl rfl hl.1 rfl (Nat.le_of_ble_eq_true rfl) dX4_firstInBlock_48 ⟨Nat.le_of_ble_eq_true rfl, Nat.le_of_ble_eq_true rfl⟩ (W' := [(a0, .inr (4, [.ref a1, .ref a2, .ref a5, .ref a6, .ref a7, .ref a8, .ref a9, .ref a10, .int 1, .int 11, .int 1, .int 0])), (a2, .inl (cI, 9261, .inl (tb [10]))), (a1, .inr (3, [.int 1, .int 0, .ref a11, .ref a12, .ref a13, .ref a14, .ref a4, .ref a3])), (a3, .inl (cI, 4, .inl (tb [0, 0, 0, 0]))), (a4, .inl (cI, 4, .inl (tb [0, 0, 0, 0])))]) rfl (fun H locs hP hD hS => ?_)
  refine v_lmul hx hb dX4_firstInBlock_51 0 (by decide +kernel) ?_
  refine lv_lstore (lv' := [(9, .long 0), (8, .int 9), (6, .long 0), (5, .int 0), (4, .int 0), (3, .int 0), (0, .ref a0), (1, .int 0), (2, .int 1)]) hx hb dX4_firstInBlock_52 hl (by decide) rfl (fun ls hl => ?_)
  refine lv_iload hx hb dX4_firstInBlock_54 (lv_at hl 1 rfl) ?_
  refine f_if_eq hx hb dX4_firstInBlock_56 67 (by decide) (by decide +kernel) ?_
  refine lv_lload hx hb dX4_firstInBlock_59 (lv_at hl 0 rfl) ?_
  refine lv_lload hx hb dX4_firstInBlock_61 (lv_at hl 2 rfl) ?_
  refine v_lcmp hx hb dX4_firstInBlock_63 0 (by decide +kernel) ?_
  refine t_if_ge hx hb dX4_firstInBlock_64 75 (by decide) (by decide +kernel) ?_
  refine lv_iinc (v := 10) (lv' := [(8, .int 10), (9, .long 0), (6, .long 0), (5, .int 0), (4, .int 0), (3, .int 0), (0, .ref a0), (1, .int 0), (2, .int 1)]) hx hb dX4_firstInBlock_75 hl (k := 1) rfl (by decide +kernel) (by decide) rfl (fun ls hl => ?_)
  refine lv_goto (tgt := 27) hx hb dX4_firstInBlock_78 (by decide) ?_
  refine lv_iload hx hb dX4_firstInBlock_27 (lv_at hl 0 rfl) ?_
  refine lv_aload_n hx hb dX4_firstInBlock_29 rfl (lv_at hl 6 rfl) ?_
  refine gf (k := 9) hx hb hts inX4 hown hK hP k_214 rfl (by decide) rfl 0 rfl (.int 11) rfl dX4_firstInBlock_30 ?_
  refine f_icmp_ge hx hb dX4_firstInBlock_33 81 (by decide) (by decide +kernel) ?_
  refine lv_iload_n hx hb dX4_firstInBlock_36 rfl (lv_at hl 8 rfl) ?_
  refine lv_i2l (v := 1) hx hb dX4_firstInBlock_37 (by decide +kernel) ?_
  refine lv_aload_n hx hb dX4_firstInBlock_38 rfl (lv_at hl 6 rfl) ?_
  refine gf (k := 0) hx hb hts inX4 hown hK hP k_205 rfl (by decide) rfl 0 rfl (.ref a1) rfl dX4_firstInBlock_39 ?_
  refine lv_iload_n hx hb dX4_firstInBlock_42 rfl (lv_at hl 5 rfl) ?_
  refine lv_iload hx hb dX4_firstInBlock_43 (lv_at hl 4 rfl) ?_
  refine lv_iload hx hb dX4_firstInBlock_45 (lv_at hl 0 rfl) ?_
  refine v_iadd hx hb dX4_firstInBlock_47 10 (by decide +kernel) ?_
  refine kV_l (q0 := 0) ⟨hx, hb, hml, hown, hts⟩ hK hP hD hS hA hX cv_RX4_106 [2, 3, 4] [0, 1] (wr := [(a0, .inr (4, [.ref a1, .ref a2, .ref a5, .ref a6, .ref a7, .ref a8, .ref a9, .ref a10, .int 1, .int 11, .int 1, .int 0])), (a2, .inl (cI, 9261, .inl (tb [10])))]) rfl rfl rfl rfl (by decide) (c260_X3_costOfNumber l dC dI cI cJ cII cJJ H.size 0 a1 a3 a4 a11 a12 a13 a14) ⟨by decide +kernel, by decide +kernel⟩ rfl rfl (Or.inl rfl) (rest := [.long 1]) rfl rfl rfl hl.1 rfl (Nat.le_of_ble_eq_true rfl) dX4_firstInBlock_48 ⟨Nat.le_of_ble_eq_true rfl, Nat.le_of_ble_eq_true rfl⟩ (W' := [(a0, .inr (4, [.ref a1, .ref a2, .ref a5, .ref a6, .ref a7, .ref a8, .ref a9, .ref a10, .int 1, .int 11, .int 1, .int 0])), (a2, .inl (cI, 9261, .inl (tb [10]))), (a1, .inr (3, [.int 1, .int 0, .ref a11, .ref a12, .ref a13, .ref a14, .ref a4, .ref a3])), (a3, .inl (cI, 4, .inl (tb [0, 0, 0, 0]))), (a4, .inl (cI, 4, .inl (tb [0, 0, 0, 0])))]) rfl (fun H locs hP hD hS => ?_)
  refine v_lmul hx hb dX4_firstInBlock_51 0 (by decide +kernel) ?_
  refine lv_lstore (lv' := [(9, .long 0), (8, .int 10), (6, .long 0), (5, .int 0), (4, .int 0), (3, .int 0), (0, .ref a0), (1, .int 0), (2, .int 1)]) hx hb dX4_firstInBlock_52 hl (by decide) rfl (fun ls hl => ?_)
  refine lv_iload hx hb dX4_firstInBlock_54 (lv_at hl 1 rfl) ?_
  refine f_if_eq hx hb dX4_firstInBlock_56 67 (by decide) (by decide +kernel) ?_
  refine lv_lload hx hb dX4_firstInBlock_59 (lv_at hl 0 rfl) ?_
  refine lv_lload hx hb dX4_firstInBlock_61 (lv_at hl 2 rfl) ?_
  refine v_lcmp hx hb dX4_firstInBlock_63 0 (by decide +kernel) ?_
  refine t_if_ge hx hb dX4_firstInBlock_64 75 (by decide) (by decide +kernel) ?_
  refine lv_iinc (v := 11) (lv' := [(8, .int 11), (9, .long 0), (6, .long 0), (5, .int 0), (4, .int 0), (3, .int 0), (0, .ref a0), (1, .int 0), (2, .int 1)]) hx hb dX4_firstInBlock_75 hl (k := 1) rfl (by decide +kernel) (by decide) rfl (fun ls hl => ?_)
  refine lv_goto (tgt := 27) hx hb dX4_firstInBlock_78 (by decide) ?_
  refine lv_iload hx hb dX4_firstInBlock_27 (lv_at hl 0 rfl) ?_
  refine lv_aload_n hx hb dX4_firstInBlock_29 rfl (lv_at hl 6 rfl) ?_
  refine gf (k := 9) hx hb hts inX4 hown hK hP k_214 rfl (by decide) rfl 0 rfl (.int 11) rfl dX4_firstInBlock_30 ?_
  refine t_icmp_ge hx hb dX4_firstInBlock_33 81 (by decide) (by decide +kernel) ?_
  refine lv_iload hx hb dX4_firstInBlock_81 (lv_at hl 3 rfl) ?_
  exact r_i hx hb hr hk hK hP hD hS dX4_firstInBlock_83
set_option maxRecDepth 100000 in
set_option maxHeartbeats 4000000 in
theorem c247_X4_firstOfCost (l : Launch) (dC : Nat → ClassId) (dI : Nat → Nat → Nat) (cI cJ cII cJJ : ClassId) (sz g a0 a1 a2 a3 a4 a5 a6 a7 a8 a9 a10 a11 a12 a13 a14 : Nat) : Met l yX4_firstOfCost (.code yX4_firstOfCost cX4_firstOfCost 8 (some .int) :: TT) ({ frames := 4, cells := 0, slots := 0, locals := 200 }) (PcS dC dI (TY cI cJ cII cJJ) [.ref a0, .int 1] [(a0, .inr (4, [.ref a3, .ref a1, .ref a2, .ref a6, .ref a7, .ref a8, .ref a9, .ref a10, .int 1, .int 11, .int 1, .int 0])), (a1, .inl (cI, 9261, .inl (tb [10]))), (a2, .inl (cI, 4, .inl (tb []))), (a3, .inr (3, [.int 1, .int 0, .ref a11, .ref a12, .ref a13, .ref a14, .ref a5, .ref a4])), (a4, .inl (cI, 4, .inl (tb [0, 0, 0, 0]))), (a5, .inl (cI, 4, .inl (tb [0, 0, 0, 0])))] sz 0 g) ((QcI dC dI (TY cI cJ cII cJJ) 0 [(a2, .inl (cI, 4, .inl (tb [0, 0, 0, 0]))), (a0, .inr (4, [.ref a3, .ref a1, .ref a2, .ref a6, .ref a7, .ref a8, .ref a9, .ref a10, .int 1, .int 11, .int 1, .int 0])), (a1, .inl (cI, 9261, .inl (tb [10]))), (a3, .inr (3, [.int 1, .int 0, .ref a11, .ref a12, .ref a13, .ref a14, .ref a5, .ref a4])), (a4, .inl (cI, 4, .inl (tb [0, 0, 0, 0]))), (a5, .inl (cI, 4, .inl (tb [0, 0, 0, 0])))]) (va_A [(a0, .inr (4, [.ref a3, .ref a1, .ref a2, .ref a6, .ref a7, .ref a8, .ref a9, .ref a10, .int 1, .int 11, .int 1, .int 0])), (a1, .inl (cI, 9261, .inl (tb [10]))), (a2, .inl (cI, 4, .inl (tb []))), (a3, .inr (3, [.int 1, .int 0, .ref a11, .ref a12, .ref a13, .ref a14, .ref a5, .ref a4])), (a4, .inl (cI, 4, .inl (tb [0, 0, 0, 0]))), (a5, .inl (cI, 4, .inl (tb [0, 0, 0, 0])))] sz)) 0 0 (va_A [(a0, .inr (4, [.ref a3, .ref a1, .ref a2, .ref a6, .ref a7, .ref a8, .ref a9, .ref a10, .int 1, .int 11, .int 1, .int 0])), (a1, .inl (cI, 9261, .inl (tb [10]))), (a2, .inl (cI, 4, .inl (tb []))), (a3, .inr (3, [.int 1, .int 0, .ref a11, .ref a12, .ref a13, .ref a14, .ref a5, .ref a4])), (a4, .inl (cI, 4, .inl (tb [0, 0, 0, 0]))), (a5, .inl (cI, 4, .inl (tb [0, 0, 0, 0])))] sz) := by
  refine SM.of (y := yX4_firstOfCost) (maxL := 8) (av := [.ref a0, .int 1]) (QcI dC dI (TY cI cJ cII cJJ) 0 [(a2, .inl (cI, 4, .inl (tb [0, 0, 0, 0]))), (a0, .inr (4, [.ref a3, .ref a1, .ref a2, .ref a6, .ref a7, .ref a8, .ref a9, .ref a10, .int 1, .int 11, .int 1, .int 0])), (a1, .inl (cI, 9261, .inl (tb [10]))), (a3, .inr (3, [.int 1, .int 0, .ref a11, .ref a12, .ref a13, .ref a14, .ref a5, .ref a4])), (a4, .inl (cI, 4, .inl (tb [0, 0, 0, 0]))), (a5, .inl (cI, 4, .inl (tb [0, 0, 0, 0])))]) (by decide +kernel) (Nat.le_of_ble_eq_true rfl) (fun p e s m below meth c A ls hx hb hr hml hown hts hk hnm hA hK hP hD hS hX hl => ?_)
  have hown : s.vm.findClass RX4 = some m.cls := hown
  have hl : lv_has ls 8 [(0, .ref a0), (1, .int 1)] := hl
  refine lv_iconst (v := 0) hx hb dX4_firstOfCost_0 (by decide) ?_
  refine lv_istore_n (lv' := [(2, .int 0), (0, .ref a0), (1, .int 1)]) hx hb dX4_firstOfCost_1 rfl hl (by decide) rfl (fun ls hl => ?_)
  refine lv_lconst (v := 0) hx hb dX4_firstOfCost_2 (by decide) ?_
  refine lv_lstore_n (lv' := [(3, .long 0), (2, .int 0), (0, .ref a0), (1, .int 1)]) hx hb dX4_firstOfCost_3 rfl hl (by decide) rfl (fun ls hl => ?_)
  refine lv_iconst (v := 0) hx hb dX4_firstOfCost_4 (by decide) ?_
  refine lv_istore (lv' := [(5, .int 0), (3, .long 0), (2, .int 0), (0, .ref a0), (1, .int 1)]) hx hb dX4_firstOfCost_5 hl (by decide) rfl (fun ls hl => ?_)
  refine lv_iload hx hb dX4_firstOfCost_7 (lv_at hl 0 rfl) ?_
  refine lv_aload_n hx hb dX4_firstOfCost_9 rfl (lv_at hl 3 rfl) ?_
  refine gf (k := 8) hx hb hts inX4 hown hK hP k_213 rfl (by decide) rfl 0 rfl (.int 1) rfl dX4_firstOfCost_10 ?_
  refine f_icmp_ge hx hb dX4_firstOfCost_13 66 (by decide) (by decide +kernel) ?_
  refine lv_aload_n hx hb dX4_firstOfCost_16 rfl (lv_at hl 3 rfl) ?_
  refine lv_iload hx hb dX4_firstOfCost_17 (lv_at hl 0 rfl) ?_
  refine lv_aload_n hx hb dX4_firstOfCost_19 rfl (lv_at hl 3 rfl) ?_
  refine gf (k := 2) hx hb hts inX4 hown hK hP k_207 rfl (by decide) rfl 0 rfl (.ref a2) rfl dX4_firstOfCost_20 ?_
  refine kV_v (q0 := 0) ⟨hx, hb, hml, hown, hts⟩ hK hP hD hS hA hX cv_RX4_85 [0, 1, 2, 3] [4, 5] (wr := [(a4, .inl (cI, 4, .inl (tb [0, 0, 0, 0]))), (a5, .inl (cI, 4, .inl (tb [0, 0, 0, 0])))]) rfl rfl rfl rfl (by decide) (c248_X4_readBlock l dC dI cI cJ cII cJJ s.heap.size 0 a0 a1 a2 a3 a6 a7 a8 a9 a10 a11 a12 a13 a14 a5 a4) ⟨by decide +kernel, by decide +kernel⟩ rfl rfl (Or.inl rfl) (rest := []) rfl rfl rfl hl.1 rfl (Nat.le_of_ble_eq_true rfl) dX4_firstOfCost_23 ⟨Nat.le_of_ble_eq_true rfl, Nat.le_of_ble_eq_true rfl⟩ (fun _ => rfl) (W' := [(a4, .inl (cI, 4, .inl (tb [0, 0, 0, 0]))), (a5, .inl (cI, 4, .inl (tb [0, 0, 0, 0]))), (a0, .inr (4, [.ref a3, .ref a1, .ref a2, .ref a6, .ref a7, .ref a8, .ref a9, .ref a10, .int 1, .int 11, .int 1, .int 0])), (a1, .inl (cI, 9261, .inl (tb [10]))), (a3, .inr (3, [.int 1, .int 0, .ref a11, .ref a12, .ref a13, .ref a14, .ref a5, .ref a4])), (a2, .inl (cI, 4, .inl (tb [0, 0, 0, 0])))]) rfl (fun H locs hP hD hS => ?_)
  refine lv_iload_n hx hb dX4_firstOfCost_26 rfl (lv_at hl 4 rfl) ?_
  refine lv_i2l (v := 1) hx hb dX4_firstOfCost_27 (by decide +kernel) ?_
  refine lv_aload_n hx hb dX4_firstOfCost_28 rfl (lv_at hl 3 rfl) ?_
  refine gf (k := 0) hx hb hts inX4 hown hK hP k_205 rfl (by decide) rfl 2 rfl (.ref a3) rfl dX4_firstOfCost_29 ?_
  refine lv_aload_n hx hb dX4_firstOfCost_32 rfl (lv_at hl 3 rfl) ?_
  refine gf (k := 2) hx hb hts inX4 hown hK hP k_207 rfl (by decide) rfl 2 rfl (.ref a2) rfl dX4_firstOfCost_33 ?_
  refine kV_l (q0 := 0) ⟨hx, hb, hml, hown, hts⟩ hK hP hD hS hA hX cv_RX4_99 [4, 5, 0, 1] [2, 3] (wr := [(a0, .inr (4, [.ref a3, .ref a1, .ref a2, .ref a6, .ref a7, .ref a8, .ref a9, .ref a10, .int 1, .int 11, .int 1, .int 0])), (a1, .inl (cI, 9261, .inl (tb [10])))]) rfl rfl rfl rfl (by decide) (c249_X3_costOf l dC dI cI cJ cII cJJ H.size 0 a3 a2 a4 a5 a11 a12 a13 a14) ⟨by decide +kernel, by decide +kernel⟩ rfl rfl (Or.inl rfl) (rest := [.long 1]) rfl rfl rfl hl.1 rfl (Nat.le_of_ble_eq_true rfl) dX4_firstOfCost_36 ⟨Nat.le_of_ble_eq_true rfl, Nat.le_of_ble_eq_true rfl⟩ (W' := [(a0, .inr (4, [.ref a3, .ref a1, .ref a2, .ref a6, .ref a7, .ref a8, .ref a9, .ref a10, .int 1, .int 11, .int 1, .int 0])), (a1, .inl (cI, 9261, .inl (tb [10]))), (a2, .inl (cI, 4, .inl (tb [0, 0, 0, 0]))), (a3, .inr (3, [.int 1, .int 0, .ref a11, .ref a12, .ref a13, .ref a14, .ref a5, .ref a4])), (a4, .inl (cI, 4, .inl (tb [0, 0, 0, 0]))), (a5, .inl (cI, 4, .inl (tb [0, 0, 0, 0])))]) rfl (fun H locs hP hD hS => ?_)
  refine v_lmul hx hb dX4_firstOfCost_39 0 (by decide +kernel) ?_
  refine lv_lstore (lv' := [(6, .long 0), (5, .int 0), (3, .long 0), (2, .int 0), (0, .ref a0), (1, .int 1)]) hx hb dX4_firstOfCost_40 hl (by decide) rfl (fun ls hl => ?_)
  refine lv_iload hx hb dX4_firstOfCost_42 (lv_at hl 1 rfl) ?_
  refine t_if_eq hx hb dX4_firstOfCost_44 54 (by decide) (by decide +kernel) ?_
  refine lv_iload hx hb dX4_firstOfCost_54 (lv_at hl 1 rfl) ?_
  refine lv_istore_n (lv' := [(2, .int 0), (6, .long 0), (5, .int 0), (3, .long 0), (0, .ref a0), (1, .int 1)]) hx hb dX4_firstOfCost_56 rfl hl (by decide) rfl (fun ls hl => ?_)
  refine lv_lload hx hb dX4_firstOfCost_57 (lv_at hl 1 rfl) ?_
  refine lv_lstore_n (lv' := [(3, .long 0), (2, .int 0), (6, .long 0), (5, .int 0), (0, .ref a0), (1, .int 1)]) hx hb dX4_firstOfCost_59 rfl hl (by decide) rfl (fun ls hl => ?_)
  refine lv_iinc (v := 1) (lv' := [(5, .int 1), (3, .long 0), (2, .int 0), (6, .long 0), (0, .ref a0), (1, .int 1)]) hx hb dX4_firstOfCost_60 hl (k := 3) rfl (by decide +kernel) (by decide) rfl (fun ls hl => ?_)
  refine lv_goto (tgt := 7) hx hb dX4_firstOfCost_63 (by decide) ?_
  refine lv_iload hx hb dX4_firstOfCost_7 (lv_at hl 0 rfl) ?_
  refine lv_aload_n hx hb dX4_firstOfCost_9 rfl (lv_at hl 4 rfl) ?_
  refine gf (k := 8) hx hb hts inX4 hown hK hP k_213 rfl (by decide) rfl 0 rfl (.int 1) rfl dX4_firstOfCost_10 ?_
  refine t_icmp_ge hx hb dX4_firstOfCost_13 66 (by decide) (by decide +kernel) ?_
  refine lv_iload_n hx hb dX4_firstOfCost_66 rfl (lv_at hl 2 rfl) ?_
  refine lv_aload_n hx hb dX4_firstOfCost_67 rfl (lv_at hl 4 rfl) ?_
  refine gf (k := 9) hx hb hts inX4 hown hK hP k_214 rfl (by decide) rfl 0 rfl (.int 11) rfl dX4_firstOfCost_68 ?_
  refine v_imul hx hb dX4_firstOfCost_71 0 (by decide +kernel) ?_
  refine lv_aload_n hx hb dX4_firstOfCost_72 rfl (lv_at hl 4 rfl) ?_
  refine lv_iload_n hx hb dX4_firstOfCost_73 rfl (lv_at hl 2 rfl) ?_
  refine lv_iload_n hx hb dX4_firstOfCost_74 rfl (lv_at hl 5 rfl) ?_
  refine kV_i (q0 := 0) ⟨hx, hb, hml, hown, hts⟩ hK hP hD hS hA hX cv_RX4_103 [0, 3, 1, 4, 5] [2] (wr := [(a2, .inl (cI, 4, .inl (tb [0, 0, 0, 0])))]) rfl rfl rfl rfl (by decide) (c250_X4_firstInBlock l dC dI cI cJ cII cJJ H.size 0 a0 a3 a1 a4 a5 a2 a6 a7 a8 a9 a10 a11 a12 a13 a14) ⟨by decide +kernel, by decide +kernel⟩ rfl rfl (Or.inl rfl) (rest := [.int 0]) rfl rfl rfl hl.1 rfl (Nat.le_of_ble_eq_true rfl) dX4_firstOfCost_75 ⟨Nat.le_of_ble_eq_true rfl, Nat.le_of_ble_eq_true rfl⟩ (W' := [(a2, .inl (cI, 4, .inl (tb [0, 0, 0, 0]))), (a0, .inr (4, [.ref a3, .ref a1, .ref a2, .ref a6, .ref a7, .ref a8, .ref a9, .ref a10, .int 1, .int 11, .int 1, .int 0])), (a1, .inl (cI, 9261, .inl (tb [10]))), (a3, .inr (3, [.int 1, .int 0, .ref a11, .ref a12, .ref a13, .ref a14, .ref a5, .ref a4])), (a4, .inl (cI, 4, .inl (tb [0, 0, 0, 0]))), (a5, .inl (cI, 4, .inl (tb [0, 0, 0, 0])))]) rfl (fun H locs hP hD hS => ?_)
  refine v_iadd hx hb dX4_firstOfCost_78 0 (by decide +kernel) ?_
  exact r_i hx hb hr hk hK hP hD hS dX4_firstOfCost_79
