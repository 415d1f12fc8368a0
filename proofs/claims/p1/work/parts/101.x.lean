set_option maxRecDepth 100000 in
set_option maxHeartbeats 4000000 in
theorem c050_X6_isTray (l : Launch) (dC : Nat → ClassId) (dI : Nat → Nat → Nat) (cI cJ cII cJJ : ClassId) (sz g a0 a1 a2 a3 : Nat) (x0 : Int32) (h_x0 : -2147483648 ≤ x0.toInt ∧ x0.toInt ≤ -1) : Met l yX6_isTray (.code yX6_isTray cX6_isTray 2 (some .boolean) :: TT) ({ frames := 2, cells := 0, slots := 0, locals := 80 }) (PcS dC dI (TY cI cJ cII cJJ) [.ref a0, .int x0] [(a0, .inr (6, [.ref a1, .ref a2, .ref a3]))] sz 0 g) ((QcI dC dI (TY cI cJ cII cJJ) 0 [(a0, .inr (6, [.ref a1, .ref a2, .ref a3]))]) (va_A [(a0, .inr (6, [.ref a1, .ref a2, .ref a3]))] sz)) 0 0 (va_A [(a0, .inr (6, [.ref a1, .ref a2, .ref a3]))] sz) := by
  refine SM.of (y := yX6_isTray) (maxL := 2) (av := [.ref a0, .int x0]) (QcI dC dI (TY cI cJ cII cJJ) 0 [(a0, .inr (6, [.ref a1, .ref a2, .ref a3]))]) (by decide +kernel) (Nat.le_of_ble_eq_true rfl) (fun p e s m below meth c A ls hx hb hr hml hown hts hk hnm hA hK hP hD hS hX hl => ?_)
  have hown : s.vm.findClass RX6 = some m.cls := hown
  have hl : lv_has ls 2 [(0, .ref a0), (1, .int x0)] := hl
  refine lv_iload_n hx hb dX6_isTray_0 rfl (lv_at hl 1 rfl) ?_
  refine t_if_lt hx hb dX6_isTray_1 13 (by decide) (p_lt (by rw [show (0 : Int32).toInt = 0 from by decide +kernel]; omega)) ?_
  refine lv_iconst (v := 0) hx hb dX6_isTray_13 (by decide) ?_
  exact r_z hx hb hr hk hK hP hD hS dX6_isTray_14 rfl
set_option maxRecDepth 100000 in
set_option maxHeartbeats 4000000 in
theorem c049_X8_tray (l : Launch) (dC : Nat → ClassId) (dI : Nat → Nat → Nat) (cI cJ cII cJJ : ClassId) (sz g a0 a1 a2 a3 a4 a5 a6 a7 a8 a9 a10 a11 : Nat) (x0 : Int32) (h_x0 : -2147483648 ≤ x0.toInt ∧ x0.toInt ≤ -1) (x1 : Int32) (h_x1 : -2147483648 ≤ x1.toInt ∧ x1.toInt ≤ 2147483647) (x2 : Int32) (h_x2 : -2147483648 ≤ x2.toInt ∧ x2.toInt ≤ 2147483647) : Met l yX8_tray (.code yX8_tray cX8_tray 4 (some .int) :: TT) ({ frames := 3, cells := 0, slots := 0, locals := 140 }) (PcS dC dI (TY cI cJ cII cJJ) [.ref a0, .int x0, .int x1, .int x2] [(a0, .inr (8, [.ref a3, .ref a4, .ref a5, .ref a1, .ref a6, .ref a7, .ref a8, .ref a2])), (a1, .inr (6, [.ref a9, .ref a10, .ref a11])), (a2, .inl (cI, 8, .inl (tb [])))] sz 0 g) ((QcI dC dI (TY cI cJ cII cJJ) (-1) []) (va_A [(a0, .inr (8, [.ref a3, .ref a4, .ref a5, .ref a1, .ref a6, .ref a7, .ref a8, .ref a2])), (a1, .inr (6, [.ref a9, .ref a10, .ref a11])), (a2, .inl (cI, 8, .inl (tb [])))] sz)) 0 0 (va_A [(a0, .inr (8, [.ref a3, .ref a4, .ref a5, .ref a1, .ref a6, .ref a7, .ref a8, .ref a2])), (a1, .inr (6, [.ref a9, .ref a10, .ref a11])), (a2, .inl (cI, 8, .inl (tb [])))] sz) := by
  refine SM.of (y := yX8_tray) (maxL := 4) (av := [.ref a0, .int x0, .int x1, .int x2]) (QcI dC dI (TY cI cJ cII cJJ) (-1) []) (by decide +kernel) (Nat.le_of_ble_eq_true rfl) (fun p e s m below meth c A ls hx hb hr hml hown hts hk hnm hA hK hP hD hS hX hl => ?_)
  have hown : s.vm.findClass RX8 = some m.cls := hown
  have hl : lv_has ls 4 [(0, .ref a0), (1, .int x0), (2, .int x1), (3, .int x2)] := hl
  refine lv_aload_n hx hb dX8_tray_0 rfl (lv_at hl 0 rfl) ?_
  refine gf (k := 3) hx hb hts inX8 hown hK hP k_267 rfl (by decide) rfl 0 rfl (.ref a1) rfl dX8_tray_1 ?_
  refine lv_iload_n hx hb dX8_tray_4 rfl (lv_at hl 1 rfl) ?_
  refine kV_i (q0 := 0) ⟨hx, hb, hml, hown, hts⟩ hK hP hD hS hA hX cv_RX8_112 [1] [0, 2] (wr := [(a0, .inr (8, [.ref a3, .ref a4, .ref a5, .ref a1, .ref a6, .ref a7, .ref a8, .ref a2])), (a2, .inl (cI, 8, .inl (tb [])))]) rfl rfl rfl rfl (by decide) (c050_X6_isTray l dC dI cI cJ cII cJJ s.heap.size 0 a1 a9 a10 a11 x0 h_x0) ⟨by decide +kernel, by decide +kernel⟩ rfl rfl (Or.inl rfl) (rest := []) rfl rfl rfl hl.1 rfl (Nat.le_of_ble_eq_true rfl) dX8_tray_5 ⟨Nat.le_of_ble_eq_true rfl, Nat.le_of_ble_eq_true rfl⟩ (W' := [(a0, .inr (8, [.ref a3, .ref a4, .ref a5, .ref a1, .ref a6, .ref a7, .ref a8, .ref a2])), (a2, .inl (cI, 8, .inl (tb []))), (a1, .inr (6, [.ref a9, .ref a10, .ref a11]))]) rfl (fun H locs hP hD hS => ?_)
  refine f_if_ne hx hb dX8_tray_8 17 (by decide) (by decide +kernel) ?_
  refine lv_aload_n hx hb dX8_tray_11 rfl (lv_at hl 0 rfl) ?_
  refine lv_iconst (v := (-1)) hx hb dX8_tray_12 (by decide) ?_
  refine kV_i (q0 := 0) ⟨hx, hb, hml, hown, hts⟩ hK hP hD hS hA hX cv_RX8_53 [0, 1] [2] (wr := [(a1, .inr (6, [.ref a9, .ref a10, .ref a11]))]) rfl rfl rfl rfl (by decide) (c027_X8_refuse l dC dI cI cJ cII cJJ H.size 0 a0 a2 a3 a4 a5 a1 a6 a7 a8) ⟨by decide +kernel, by decide +kernel⟩ rfl rfl (Or.inl rfl) (rest := []) rfl rfl rfl hl.1 rfl (Nat.le_of_ble_eq_true rfl) dX8_tray_13 ⟨Nat.le_of_ble_eq_true rfl, Nat.le_of_ble_eq_true rfl⟩ (W' := [(a1, .inr (6, [.ref a9, .ref a10, .ref a11])), (a0, .inr (8, [.ref a3, .ref a4, .ref a5, .ref a1, .ref a6, .ref a7, .ref a8, .ref a2])), (a2, .inl (cI, 8, .inl (tb [0, 1])))]) rfl (fun H locs hP hD hS => ?_)
  exact r_i hx hb hr hk hK (hP.sub [] rfl) (hD.sub [] rfl rfl) hS dX8_tray_16
set_option maxRecDepth 100000 in
set_option maxHeartbeats 4000000 in
theorem c052_X6_isTray (l : Launch) (dC : Nat → ClassId) (dI : Nat → Nat → Nat) (cI cJ cII cJJ : ClassId) (sz g a0 a1 a2 a3 : Nat) (x0 : Int32) (h_x0 : 4 ≤ x0.toInt ∧ x0.toInt ≤ 2147483647) : Met l yX6_isTray (.code yX6_isTray cX6_isTray 2 (some .boolean) :: TT) ({ frames := 2, cells := 0, slots := 0, locals := 80 }) (PcS dC dI (TY cI cJ cII cJJ) [.ref a0, .int x0] [(a0, .inr (6, [.ref a1, .ref a2, .ref a3]))] sz 0 g) ((QcI dC dI (TY cI cJ cII cJJ) 0 [(a0, .inr (6, [.ref a1, .ref a2, .ref a3]))]) (va_A [(a0, .inr (6, [.ref a1, .ref a2, .ref a3]))] sz)) 0 0 (va_A [(a0, .inr (6, [.ref a1, .ref a2, .ref a3]))] sz) := by
  refine SM.of (y := yX6_isTray) (maxL := 2) (av := [.ref a0, .int x0]) (QcI dC dI (TY cI cJ cII cJJ) 0 [(a0, .inr (6, [.ref a1, .ref a2, .ref a3]))]) (by decide +kernel) (Nat.le_of_ble_eq_true rfl) (fun p e s m below meth c A ls hx hb hr hml hown hts hk hnm hA hK hP hD hS hX hl => ?_)
  have hown : s.vm.findClass RX6 = some m.cls := hown
  have hl : lv_has ls 2 [(0, .ref a0), (1, .int x0)] := hl
  refine lv_iload_n hx hb dX6_isTray_0 rfl (lv_at hl 1 rfl) ?_
  refine f_if_lt hx hb dX6_isTray_1 13 (by decide) (p_nlt (by rw [show (0 : Int32).toInt = 0 from by decide +kernel]; omega)) ?_
  refine lv_iload_n hx hb dX6_isTray_4 rfl (lv_at hl 1 rfl) ?_
  refine lv_iconst (v := 4) hx hb dX6_isTray_5 (by decide) ?_
  refine t_icmp_ge hx hb dX6_isTray_6 13 (by decide) (p_le (by rw [show (4 : Int32).toInt = 4 from by decide +kernel]; omega)) ?_
  refine lv_iconst (v := 0) hx hb dX6_isTray_13 (by decide) ?_
  exact r_z hx hb hr hk hK hP hD hS dX6_isTray_14 rfl
set_option maxRecDepth 100000 in
set_option maxHeartbeats 4000000 in
theorem c051_X8_tray (l : Launch) (dC : Nat → ClassId) (dI : Nat → Nat → Nat) (cI cJ cII cJJ : ClassId) (sz g a0 a1 a2 a3 a4 a5 a6 a7 a8 a9 a10 a11 : Nat) (x0 : Int32) (h_x0 : 4 ≤ x0.toInt ∧ x0.toInt ≤ 2147483647) (x1 : Int32) (h_x1 : -2147483648 ≤ x1.toInt ∧ x1.toInt ≤ 2147483647) (x2 : Int32) (h_x2 : -2147483648 ≤ x2.toInt ∧ x2.toInt ≤ 2147483647) : Met l yX8_tray (.code yX8_tray cX8_tray 4 (some .int) :: TT) ({ frames := 3, cells := 0, slots := 0, locals := 140 }) (PcS dC dI (TY cI cJ cII cJJ) [.ref a0, .int x0, .int x1, .int x2] [(a0, .inr (8, [.ref a3, .ref a4, .ref a5, .ref a1, .ref a6, .ref a7, .ref a8, .ref a2])), (a1, .inr (6, [.ref a9, .ref a10, .ref a11])), (a2, .inl (cI, 8, .inl (tb [])))] sz 0 g) ((QcI dC dI (TY cI cJ cII cJJ) (-1) []) (va_A [(a0, .inr (8, [.ref a3, .ref a4, .ref a5, .ref a1, .ref a6, .ref a7, .ref a8, .ref a2])), (a1, .inr (6, [.ref a9, .ref a10, .ref a11])), (a2, .inl (cI, 8, .inl (tb [])))] sz)) 0 0 (va_A [(a0, .inr (8, [.ref a3, .ref a4, .ref a5, .ref a1, .ref a6, .ref a7, .ref a8, .ref a2])), (a1, .inr (6, [.ref a9, .ref a10, .ref a11])), (a2, .inl (cI, 8, .inl (tb [])))] sz) := by
  refine SM.of (y := yX8_tray) (maxL := 4) (av := [.ref a0, .int x0, .int x1, .int x2]) (QcI dC dI (TY cI cJ cII cJJ) (-1) []) (by decide +kernel) (Nat.le_of_ble_eq_true rfl) (fun p e s m below meth c A ls hx hb hr hml hown hts hk hnm hA hK hP hD hS hX hl => ?_)
  have hown : s.vm.findClass RX8 = some m.cls := hown
  have hl : lv_has ls 4 [(0, .ref a0), (1, .int x0), (2, .int x1), (3, .int x2)] := hl
  refine lv_aload_n hx hb dX8_tray_0 rfl (lv_at hl 0 rfl) ?_
  refine gf (k := 3) hx hb hts inX8 hown hK hP k_267 rfl (by decide) rfl 0 rfl (.ref a1) rfl dX8_tray_1 ?_
  refine lv_iload_n hx hb dX8_tray_4 rfl (lv_at hl 1 rfl) ?_
  refine kV_i (q0 := 0) ⟨hx, hb, hml, hown, hts⟩ hK hP hD hS hA hX cv_RX8_112 [1] [0, 2] (wr := [(a0, .inr (8, [.ref a3, .ref a4, .ref a5, .ref a1, .ref a6, .ref a7, .ref a8, .ref a2])), (a2, .inl (cI, 8, .inl (tb [])))]) rfl rfl rfl rfl (by decide) (c052_X6_isTray l dC dI cI cJ cII cJJ s.heap.size 0 a1 a9 a10 a11 x0 h_x0) ⟨by decide +kernel, by decide +kernel⟩ rfl rfl (Or.inl rfl) (rest := []) rfl rfl rfl hl.1 rfl (Nat.le_of_ble_eq_true rfl) dX8_tray_5 ⟨Nat.le_of_ble_eq_true rfl, Nat.le_of_ble_eq_true rfl⟩ (W' := [(a0, .inr (8, [.ref a3, .ref a4, .ref a5, .ref a1, .ref a6, .ref a7, .ref a8, .ref a2])), (a2, .inl (cI, 8, .inl (tb []))), (a1, .inr (6, [.ref a9, .ref a10, .ref a11]))]) rfl (fun H locs hP hD hS => ?_)
  refine f_if_ne hx hb dX8_tray_8 17 (by decide) (by decide +kernel) ?_
  refine lv_aload_n hx hb dX8_tray_11 rfl (lv_at hl 0 rfl) ?_
  refine lv_iconst (v := (-1)) hx hb dX8_tray_12 (by decide) ?_
  refine kV_i (q0 := 0) ⟨hx, hb, hml, hown, hts⟩ hK hP hD hS hA hX cv_RX8_53 [0, 1] [2] (wr := [(a1, .inr (6, [.ref a9, .ref a10, .ref a11]))]) rfl rfl rfl rfl (by decide) (c027_X8_refuse l dC dI cI cJ cII cJJ H.size 0 a0 a2 a3 a4 a5 a1 a6 a7 a8) ⟨by decide +kernel, by decide +kernel⟩ rfl rfl (Or.inl rfl) (rest := []) rfl rfl rfl hl.1 rfl (Nat.le_of_ble_eq_true rfl) dX8_tray_13 ⟨Nat.le_of_ble_eq_true rfl, Nat.le_of_ble_eq_true rfl⟩ (W' := [(a1, .inr (6, [.ref a9, .ref a10, .ref a11])), (a0, .inr (8, [.ref a3, .ref a4, .ref a5, .ref a1, .ref a6, .ref a7, .ref a8, .ref a2])), (a2, .inl (cI, 8, .inl (tb [0, 1])))]) rfl (fun H locs hP hD hS => ?_)
  exact r_i hx hb hr hk hK (hP.sub [] rfl) (hD.sub [] rfl rfl) hS dX8_tray_16
set_option maxRecDepth 100000 in
set_option maxHeartbeats 4000000 in
theorem c054_X6_isTray (l : Launch) (dC : Nat → ClassId) (dI : Nat → Nat → Nat) (cI cJ cII cJJ : ClassId) (sz g a0 a1 a2 a3 : Nat) (x0 : Int32) (h_x0 : 0 ≤ x0.toInt ∧ x0.toInt ≤ 3) : Met l yX6_isTray (.code yX6_isTray cX6_isTray 2 (some .boolean) :: TT) ({ frames := 2, cells := 0, slots := 0, locals := 80 }) (PcS dC dI (TY cI cJ cII cJJ) [.ref a0, .int x0] [(a0, .inr (6, [.ref a1, .ref a2, .ref a3]))] sz 0 g) ((QcI dC dI (TY cI cJ cII cJJ) 1 [(a0, .inr (6, [.ref a1, .ref a2, .ref a3]))]) (va_A [(a0, .inr (6, [.ref a1, .ref a2, .ref a3]))] sz)) 0 0 (va_A [(a0, .inr (6, [.ref a1, .ref a2, .ref a3]))] sz) := by
  refine SM.of (y := yX6_isTray) (maxL := 2) (av := [.ref a0, .int x0]) (QcI dC dI (TY cI cJ cII cJJ) 1 [(a0, .inr (6, [.ref a1, .ref a2, .ref a3]))]) (by decide +kernel) (Nat.le_of_ble_eq_true rfl) (fun p e s m below meth c A ls hx hb hr hml hown hts hk hnm hA hK hP hD hS hX hl => ?_)
  have hown : s.vm.findClass RX6 = some m.cls := hown
  have hl : lv_has ls 2 [(0, .ref a0), (1, .int x0)] := hl
  refine lv_iload_n hx hb dX6_isTray_0 rfl (lv_at hl 1 rfl) ?_
  refine f_if_lt hx hb dX6_isTray_1 13 (by decide) (p_nlt (by rw [show (0 : Int32).toInt = 0 from by decide +kernel]; omega)) ?_
  refine lv_iload_n hx hb dX6_isTray_4 rfl (lv_at hl 1 rfl) ?_
  refine lv_iconst (v := 4) hx hb dX6_isTray_5 (by decide) ?_
  refine f_icmp_ge hx hb dX6_isTray_6 13 (by decide) (p_nle (by rw [show (4 : Int32).toInt = 4 from by decide +kernel]; omega)) ?_
  refine lv_iconst (v := 1) hx hb dX6_isTray_9 (by decide) ?_
  refine lv_goto (tgt := 14) hx hb dX6_isTray_10 (by decide) ?_
  exact r_z hx hb hr hk hK hP hD hS dX6_isTray_14 rfl
set_option maxRecDepth 100000 in
set_option maxHeartbeats 4000000 in
theorem c055_X8_refuse (l : Launch) (dC : Nat → ClassId) (dI : Nat → Nat → Nat) (cI cJ cII cJJ : ClassId) (sz g a0 a1 a2 a3 a4 a5 a6 a7 a8 : Nat) : Met l yX8_refuse (.code yX8_refuse cX8_refuse 2 (some .int) :: TT) ({ frames := 2, cells := 0, slots := 0, locals := 80 }) (PcS dC dI (TY cI cJ cII cJJ) [.ref a0, .int (-2)] [(a0, .inr (8, [.ref a2, .ref a3, .ref a4, .ref a5, .ref a6, .ref a7, .ref a8, .ref a1])), (a1, .inl (cI, 8, .inl (tb [])))] sz 0 g) ((QcI dC dI (TY cI cJ cII cJJ) (-2) [(a0, .inr (8, [.ref a2, .ref a3, .ref a4, .ref a5, .ref a6, .ref a7, .ref a8, .ref a1])), (a1, .inl (cI, 8, .inl (tb [0, 0, 1])))]) (va_A [(a0, .inr (8, [.ref a2, .ref a3, .ref a4, .ref a5, .ref a6, .ref a7, .ref a8, .ref a1])), (a1, .inl (cI, 8, .inl (tb [])))] sz)) 0 0 (va_A [(a0, .inr (8, [.ref a2, .ref a3, .ref a4, .ref a5, .ref a6, .ref a7, .ref a8, .ref a1])), (a1, .inl (cI, 8, .inl (tb [])))] sz) := by
  refine SM.of (y := yX8_refuse) (maxL := 2) (av := [.ref a0, .int (-2)]) (QcI dC dI (TY cI cJ cII cJJ) (-2) [(a0, .inr (8, [.ref a2, .ref a3, .ref a4, .ref a5, .ref a6, .ref a7, .ref a8, .ref a1])), (a1, .inl (cI, 8, .inl (tb [0, 0, 1])))]) (by decide +kernel) (Nat.le_of_ble_eq_true rfl) (fun p e s m below meth c A ls hx hb hr hml hown hts hk hnm hA hK hP hD hS hX hl => ?_)
  have hown : s.vm.findClass RX8 = some m.cls := hown
  have hl : lv_has ls 2 [(0, .ref a0), (1, .int (-2))] := hl
  refine lv_iload_n hx hb dX8_refuse_0 rfl (lv_at hl 1 rfl) ?_
  refine lv_iconst (v := (-1)) hx hb dX8_refuse_1 (by decide) ?_
  refine f_icmp_gt hx hb dX8_refuse_2 22 (by decide) (by decide +kernel) ?_
  refine lv_iload_n hx hb dX8_refuse_5 rfl (lv_at hl 1 rfl) ?_
  refine lv_bipush (v := (-7)) hx hb dX8_refuse_6 (by decide) ?_
  refine f_icmp_lt hx hb dX8_refuse_8 22 (by decide) (by decide +kernel) ?_
  refine lv_aload_n hx hb dX8_refuse_11 rfl (lv_at hl 0 rfl) ?_
  refine gf (k := 7) hx hb hts inX8 hown hK hP k_271 rfl (by decide) rfl 0 rfl (.ref a1) rfl dX8_refuse_12 ?_
  refine lv_iload_n hx hb dX8_refuse_15 rfl (lv_at hl 1 rfl) ?_
  refine v_ineg hx hb dX8_refuse_16 2 (by decide +kernel) ?_
  refine lv_dup2_11 hx hb dX8_refuse_17 rfl rfl ?_
  refine ld_i hx hb hK hP 1 rfl (vin (by decide +kernel)) dX8_refuse_18 0 rfl ?_
  refine lv_iconst (v := 1) hx hb dX8_refuse_19 (by decide) ?_
  refine v_iadd hx hb dX8_refuse_20 1 (by decide +kernel) ?_
  refine st_i hx hb hK hP hD hS 1 rfl (vin (by decide +kernel)) dX8_refuse_21 (L' := [0, 0, 1]) rfl (W' := [(a0, .inr (8, [.ref a2, .ref a3, .ref a4, .ref a5, .ref a6, .ref a7, .ref a8, .ref a1])), (a1, .inl (cI, 8, .inl (tb [0, 0, 1])))]) rfl (fun H locs hP hD hS => ?_)
  refine lv_iload_n hx hb dX8_refuse_22 rfl (lv_at hl 1 rfl) ?_
  exact r_i hx hb hr hk hK hP hD hS dX8_refuse_23
set_option maxRecDepth 100000 in
set_option maxHeartbeats 4000000 in
theorem c053_X8_tray (l : Launch) (dC : Nat → ClassId) (dI : Nat → Nat → Nat) (cI cJ cII cJJ : ClassId) (sz g a0 a1 a2 a3 a4 a5 a6 a7 a8 a9 a10 a11 : Nat) (x0 : Int32) (h_x0 : 0 ≤ x0.toInt ∧ x0.toInt ≤ 3) (x1 : Int32) (h_x1 : -2147483648 ≤ x1.toInt ∧ x1.toInt ≤ -1) (x2 : Int32) (h_x2 : -2147483648 ≤ x2.toInt ∧ x2.toInt ≤ 2147483647) : Met l yX8_tray (.code yX8_tray cX8_tray 4 (some .int) :: TT) ({ frames := 3, cells := 0, slots := 0, locals := 140 }) (PcS dC dI (TY cI cJ cII cJJ) [.ref a0, .int x0, .int x1, .int x2] [(a0, .inr (8, [.ref a3, .ref a4, .ref a5, .ref a1, .ref a6, .ref a7, .ref a8, .ref a2])), (a1, .inr (6, [.ref a9, .ref a10, .ref a11])), (a2, .inl (cI, 8, .inl (tb [])))] sz 0 g) ((QcI dC dI (TY cI cJ cII cJJ) (-2) []) (va_A [(a0, .inr (8, [.ref a3, .ref a4, .ref a5, .ref a1, .ref a6, .ref a7, .ref a8, .ref a2])), (a1, .inr (6, [.ref a9, .ref a10, .ref a11])), (a2, .inl (cI, 8, .inl (tb [])))] sz)) 0 0 (va_A [(a0, .inr (8, [.ref a3, .ref a4, .ref a5, .ref a1, .ref a6, .ref a7, .ref a8, .ref a2])), (a1, .inr (6, [.ref a9, .ref a10, .ref a11])), (a2, .inl (cI, 8, .inl (tb [])))] sz) := by
  refine SM.of (y := yX8_tray) (maxL := 4) (av := [.ref a0, .int x0, .int x1, .int x2]) (QcI dC dI (TY cI cJ cII cJJ) (-2) []) (by decide +kernel) (Nat.le_of_ble_eq_true rfl) (fun p e s m below meth c A ls hx hb hr hml hown hts hk hnm hA hK hP hD hS hX hl => ?_)
  have hown : s.vm.findClass RX8 = some m.cls := hown
  have hl : lv_has ls 4 [(0, .ref a0), (1, .int x0), (2, .int x1), (3, .int x2)] := hl
  refine lv_aload_n hx hb dX8_tray_0 rfl (lv_at hl 0 rfl) ?_
  refine gf (k := 3) hx hb hts inX8 hown hK hP k_267 rfl (by decide) rfl 0 rfl (.ref a1) rfl dX8_tray_1 ?_
  refine lv_iload_n hx hb dX8_tray_4 rfl (lv_at hl 1 rfl) ?_
  refine kV_i (q0 := 0) ⟨hx, hb, hml, hown, hts⟩ hK hP hD hS hA hX cv_RX8_112 [1] [0, 2] (wr := [(a0, .inr (8, [.ref a3, .ref a4, .ref a5, .ref a1, .ref a6, .ref a7, .ref a8, .ref a2])), (a2, .inl (cI, 8, .inl (tb [])))]) rfl rfl rfl rfl (by decide) (c054_X6_isTray l dC dI cI cJ cII cJJ s.heap.size 0 a1 a9 a10 a11 x0 h_x0) ⟨by decide +kernel, by decide +kernel⟩ rfl rfl (Or.inl rfl) (rest := []) rfl rfl rfl hl.1 rfl (Nat.le_of_ble_eq_true rfl) dX8_tray_5 ⟨Nat.le_of_ble_eq_true rfl, Nat.le_of_ble_eq_true rfl⟩ (W' := [(a0, .inr (8, [.ref a3, .ref a4, .ref a5, .ref a1, .ref a6, .ref a7, .ref a8, .ref a2])), (a2, .inl (cI, 8, .inl (tb []))), (a1, .inr (6, [.ref a9, .ref a10, .ref a11]))]) rfl (fun H locs hP hD hS => ?_)
  refine t_if_ne hx hb dX8_tray_8 17 (by decide) (by decide +kernel) ?_
  refine lv_iload_n hx hb dX8_tray_17 rfl (lv_at hl 2 rfl) ?_
  refine t_if_lt hx hb dX8_tray_18 26 (by decide) (p_lt (by rw [show (0 : Int32).toInt = 0 from by decide +kernel]; omega)) ?_
  refine lv_aload_n hx hb dX8_tray_26 rfl (lv_at hl 0 rfl) ?_
  refine lv_bipush (v := (-2)) hx hb dX8_tray_27 (by decide) ?_
  refine kV_i (q0 := 0) ⟨hx, hb, hml, hown, hts⟩ hK hP hD hS hA hX cv_RX8_53 [0, 1] [2] (wr := [(a1, .inr (6, [.ref a9, .ref a10, .ref a11]))]) rfl rfl rfl rfl (by decide) (c055_X8_refuse l dC dI cI cJ cII cJJ H.size 0 a0 a2 a3 a4 a5 a1 a6 a7 a8) ⟨by decide +kernel, by decide +kernel⟩ rfl rfl (Or.inl rfl) (rest := []) rfl rfl rfl hl.1 rfl (Nat.le_of_ble_eq_true rfl) dX8_tray_29 ⟨Nat.le_of_ble_eq_true rfl, Nat.le_of_ble_eq_true rfl⟩ (W' := [(a1, .inr (6, [.ref a9, .ref a10, .ref a11])), (a0, .inr (8, [.ref a3, .ref a4, .ref a5, .ref a1, .ref a6, .ref a7, .ref a8, .ref a2])), (a2, .inl (cI, 8, .inl (tb [0, 0, 1])))]) rfl (fun H locs hP hD hS => ?_)
  exact r_i hx hb hr hk hK (hP.sub [] rfl) (hD.sub [] rfl rfl) hS dX8_tray_32
set_option maxRecDepth 100000 in
set_option maxHeartbeats 4000000 in
theorem c056_X8_tray (l : Launch) (dC : Nat → ClassId) (dI : Nat → Nat → Nat) (cI cJ cII cJJ : ClassId) (sz g a0 a1 a2 a3 a4 a5 a6 a7 a8 a9 a10 a11 : Nat) (x0 : Int32) (h_x0 : 0 ≤ x0.toInt ∧ x0.toInt ≤ 3) (x1 : Int32) (h_x1 : 4 ≤ x1.toInt ∧ x1.toInt ≤ 2147483647) (x2 : Int32) (h_x2 : -2147483648 ≤ x2.toInt ∧ x2.toInt ≤ 2147483647) : Met l yX8_tray (.code yX8_tray cX8_tray 4 (some .int) :: TT) ({ frames := 3, cells := 0, slots := 0, locals := 140 }) (PcS dC dI (TY cI cJ cII cJJ) [.ref a0, .int x0, .int x1, .int x2] [(a0, .inr (8, [.ref a3, .ref a4, .ref a5, .ref a1, .ref a6, .ref a7, .ref a8, .ref a2])), (a1, .inr (6, [.ref a9, .ref a10, .ref a11])), (a2, .inl (cI, 8, .inl (tb [])))] sz 0 g) ((QcI dC dI (TY cI cJ cII cJJ) (-2) []) (va_A [(a0, .inr (8, [.ref a3, .ref a4, .ref a5, .ref a1, .ref a6, .ref a7, .ref a8, .ref a2])), (a1, .inr (6, [.ref a9, .ref a10, .ref a11])), (a2, .inl (cI, 8, .inl (tb [])))] sz)) 0 0 (va_A [(a0, .inr (8, [.ref a3, .ref a4, .ref a5, .ref a1, .ref a6, .ref a7, .ref a8, .ref a2])), (a1, .inr (6, [.ref a9, .ref a10, .ref a11])), (a2, .inl (cI, 8, .inl (tb [])))] sz) := by
  refine SM.of (y := yX8_tray) (maxL := 4) (av := [.ref a0, .int x0, .int x1, .int x2]) (QcI dC dI (TY cI cJ cII cJJ) (-2) []) (by decide +kernel) (Nat.le_of_ble_eq_true rfl) (fun p e s m below meth c A ls hx hb hr hml hown hts hk hnm hA hK hP hD hS hX hl => ?_)
  have hown : s.vm.findClass RX8 = some m.cls := hown
  have hl : lv_has ls 4 [(0, .ref a0), (1, .int x0), (2, .int x1), (3, .int x2)] := hl
  refine lv_aload_n hx hb dX8_tray_0 rfl (lv_at hl 0 rfl) ?_
  refine gf (k := 3) hx hb hts inX8 hown hK hP k_267 rfl (by decide) rfl 0 rfl (.ref a1) rfl dX8_tray_1 ?_
  refine lv_iload_n hx hb dX8_tray_4 rfl (lv_at hl 1 rfl) ?_
  refine kV_i (q0 := 0) ⟨hx, hb, hml, hown, hts⟩ hK hP hD hS hA hX cv_RX8_112 [1] [0, 2] (wr := [(a0, .inr (8, [.ref a3, .ref a4, .ref a5, .ref a1, .ref a6, .ref a7, .ref a8, .ref a2])), (a2, .inl (cI, 8, .inl (tb [])))]) rfl rfl rfl rfl (by decide) (c054_X6_isTray l dC dI cI cJ cII cJJ s.heap.size 0 a1 a9 a10 a11 x0 h_x0) ⟨by decide +kernel, by decide +kernel⟩ rfl rfl (Or.inl rfl) (rest := []) rfl rfl rfl hl.1 rfl (Nat.le_of_ble_eq_true rfl) dX8_tray_5 ⟨Nat.le_of_ble_eq_true rfl, Nat.le_of_ble_eq_true rfl⟩ (W' := [(a0, .inr (8, [.ref a3, .ref a4, .ref a5, .ref a1, .ref a6, .ref a7, .ref a8, .ref a2])), (a2, .inl (cI, 8, .inl (tb []))), (a1, .inr (6, [.ref a9, .ref a10, .ref a11]))]) rfl (fun H locs hP hD hS => ?_)
  refine t_if_ne hx hb dX8_tray_8 17 (by decide) (by decide +kernel) ?_
  refine lv_iload_n hx hb dX8_tray_17 rfl (lv_at hl 2 rfl) ?_
  refine f_if_lt hx hb dX8_tray_18 26 (by decide) (p_nlt (by rw [show (0 : Int32).toInt = 0 from by decide +kernel]; omega)) ?_
  refine lv_iload_n hx hb dX8_tray_21 rfl (lv_at hl 2 rfl) ?_
  refine lv_iconst (v := 3) hx hb dX8_tray_22 (by decide) ?_
  refine f_icmp_le hx hb dX8_tray_23 33 (by decide) (p_nle (by rw [show (3 : Int32).toInt = 3 from by decide +kernel]; omega)) ?_
  refine lv_aload_n hx hb dX8_tray_26 rfl (lv_at hl 0 rfl) ?_
  refine lv_bipush (v := (-2)) hx hb dX8_tray_27 (by decide) ?_
  refine kV_i (q0 := 0) ⟨hx, hb, hml, hown, hts⟩ hK hP hD hS hA hX cv_RX8_53 [0, 1] [2] (wr := [(a1, .inr (6, [.ref a9, .ref a10, .ref a11]))]) rfl rfl rfl rfl (by decide) (c055_X8_refuse l dC dI cI cJ cII cJJ H.size 0 a0 a2 a3 a4 a5 a1 a6 a7 a8) ⟨by decide +kernel, by decide +kernel⟩ rfl rfl (Or.inl rfl) (rest := []) rfl rfl rfl hl.1 rfl (Nat.le_of_ble_eq_true rfl) dX8_tray_29 ⟨Nat.le_of_ble_eq_true rfl, Nat.le_of_ble_eq_true rfl⟩ (W' := [(a1, .inr (6, [.ref a9, .ref a10, .ref a11])), (a0, .inr (8, [.ref a3, .ref a4, .ref a5, .ref a1, .ref a6, .ref a7, .ref a8, .ref a2])), (a2, .inl (cI, 8, .inl (tb [0, 0, 1])))]) rfl (fun H locs hP hD hS => ?_)
  exact r_i hx hb hr hk hK (hP.sub [] rfl) (hD.sub [] rfl rfl) hS dX8_tray_32
set_option maxRecDepth 100000 in
set_option maxHeartbeats 4000000 in
theorem c057_X8_tray (l : Launch) (dC : Nat → ClassId) (dI : Nat → Nat → Nat) (cI cJ cII cJJ : ClassId) (sz g a0 a1 a2 a3 a4 a5 a6 a7 a8 a9 a10 a11 : Nat) (x0 : Int32) (h_x0 : 0 ≤ x0.toInt ∧ x0.toInt ≤ 3) (x1 : Int32) (h_x1 : 0 ≤ x1.toInt ∧ x1.toInt ≤ 3) (x2 : Int32) (h_x2 : -2147483648 ≤ x2.toInt ∧ x2.toInt ≤ -1) : Met l yX8_tray (.code yX8_tray cX8_tray 4 (some .int) :: TT) ({ frames := 3, cells := 0, slots := 0, locals := 140 }) (PcS dC dI (TY cI cJ cII cJJ) [.ref a0, .int x0, .int x1, .int x2] [(a0, .inr (8, [.ref a3, .ref a4, .ref a5, .ref a1, .ref a6, .ref a7, .ref a8, .ref a2])), (a1, .inr (6, [.ref a9, .ref a10, .ref a11])), (a2, .inl (cI, 8, .inl (tb [])))] sz 0 g) ((QcI dC dI (TY cI cJ cII cJJ) (-4) []) (va_A [(a0, .inr (8, [.ref a3, .ref a4, .ref a5, .ref a1, .ref a6, .ref a7, .ref a8, .ref a2])), (a1, .inr (6, [.ref a9, .ref a10, .ref a11])), (a2, .inl (cI, 8, .inl (tb [])))] sz)) 0 0 (va_A [(a0, .inr (8, [.ref a3, .ref a4, .ref a5, .ref a1, .ref a6, .ref a7, .ref a8, .ref a2])), (a1, .inr (6, [.ref a9, .ref a10, .ref a11])), (a2, .inl (cI, 8, .inl (tb [])))] sz) := by
  refine SM.of (y := yX8_tray) (maxL := 4) (av := [.ref a0, .int x0, .int x1, .int x2]) (QcI dC dI (TY cI cJ cII cJJ) (-4) []) (by decide +kernel) (Nat.le_of_ble_eq_true rfl) (fun p e s m below meth c A ls hx hb hr hml hown hts hk hnm hA hK hP hD hS hX hl => ?_)
  have hown : s.vm.findClass RX8 = some m.cls := hown
  have hl : lv_has ls 4 [(0, .ref a0), (1, .int x0), (2, .int x1), (3, .int x2)] := hl
  refine lv_aload_n hx hb dX8_tray_0 rfl (lv_at hl 0 rfl) ?_
  refine gf (k := 3) hx hb hts inX8 hown hK hP k_267 rfl (by decide) rfl 0 rfl (.ref a1) rfl dX8_tray_1 ?_
  refine lv_iload_n hx hb dX8_tray_4 rfl (lv_at hl 1 rfl) ?_
  refine kV_i (q0 := 0) ⟨hx, hb, hml, hown, hts⟩ hK hP hD hS hA hX cv_RX8_112 [1] [0, 2] (wr := [(a0, .inr (8, [.ref a3, .ref a4, .ref a5, .ref a1, .ref a6, .ref a7, .ref a8, .ref a2])), (a2, .inl (cI, 8, .inl (tb [])))]) rfl rfl rfl rfl (by decide) (c054_X6_isTray l dC dI cI cJ cII cJJ s.heap.size 0 a1 a9 a10 a11 x0 h_x0) ⟨by decide +kernel, by decide +kernel⟩ rfl rfl (Or.inl rfl) (rest := []) rfl rfl rfl hl.1 rfl (Nat.le_of_ble_eq_true rfl) dX8_tray_5 ⟨Nat.le_of_ble_eq_true rfl, Nat.le_of_ble_eq_true rfl⟩ (W' := [(a0, .inr (8, [.ref a3, .ref a4, .ref a5, .ref a1, .ref a6, .ref a7, .ref a8, .ref a2])), (a2, .inl (cI, 8, .inl (tb []))), (a1, .inr (6, [.ref a9, .ref a10, .ref a11]))]) rfl (fun H locs hP hD hS => ?_)
  refine t_if_ne hx hb dX8_tray_8 17 (by decide) (by decide +kernel) ?_
  refine lv_iload_n hx hb dX8_tray_17 rfl (lv_at hl 2 rfl) ?_
  refine f_if_lt hx hb dX8_tray_18 26 (by decide) (p_nlt (by rw [show (0 : Int32).toInt = 0 from by decide +kernel]; omega)) ?_
  refine lv_iload_n hx hb dX8_tray_21 rfl (lv_at hl 2 rfl) ?_
  refine lv_iconst (v := 3) hx hb dX8_tray_22 (by decide) ?_
  refine t_icmp_le hx hb dX8_tray_23 33 (by decide) (p_le (by rw [show (3 : Int32).toInt = 3 from by decide +kernel]; omega)) ?_
  refine lv_iload_n hx hb dX8_tray_33 rfl (lv_at hl 3 rfl) ?_
  refine f_if_ge hx hb dX8_tray_34 44 (by decide) (p_nle (by rw [show (0 : Int32).toInt = 0 from by decide +kernel]; omega)) ?_
  refine lv_aload_n hx hb dX8_tray_37 rfl (lv_at hl 0 rfl) ?_
  refine lv_bipush (v := (-4)) hx hb dX8_tray_38 (by decide) ?_
  refine kV_i (q0 := 0) ⟨hx, hb, hml, hown, hts⟩ hK hP hD hS hA hX cv_RX8_53 [0, 1] [2] (wr := [(a1, .inr (6, [.ref a9, .ref a10, .ref a11]))]) rfl rfl rfl rfl (by decide) (c015_X8_refuse l dC dI cI cJ cII cJJ H.size 0 a0 a2 a3 a4 a5 a1 a6 a7 a8) ⟨by decide +kernel, by decide +kernel⟩ rfl rfl (Or.inl rfl) (rest := []) rfl rfl rfl hl.1 rfl (Nat.le_of_ble_eq_true rfl) dX8_tray_40 ⟨Nat.le_of_ble_eq_true rfl, Nat.le_of_ble_eq_true rfl⟩ (W' := [(a1, .inr (6, [.ref a9, .ref a10, .ref a11])), (a0, .inr (8, [.ref a3, .ref a4, .ref a5, .ref a1, .ref a6, .ref a7, .ref a8, .ref a2])), (a2, .inl (cI, 8, .inl (tb [0, 0, 0, 0, 1])))]) rfl (fun H locs hP hD hS => ?_)
  exact r_i hx hb hr hk hK (hP.sub [] rfl) (hD.sub [] rfl rfl) hS dX8_tray_43
set_option maxRecDepth 100000 in
set_option maxHeartbeats 4000000 in
theorem c058_X8_tray (l : Launch) (dC : Nat → ClassId) (dI : Nat → Nat → Nat) (cI cJ cII cJJ : ClassId) (sz g a0 a1 a2 a3 a4 a5 a6 a7 a8 a9 a10 a11 : Nat) (x0 : Int32) (h_x0 : 0 ≤ x0.toInt ∧ x0.toInt ≤ 3) (x1 : Int32) (h_x1 : 0 ≤ x1.toInt ∧ x1.toInt ≤ 3) (x2 : Int32) (h_x2 : 21 ≤ x2.toInt ∧ x2.toInt ≤ 2147483647) : Met l yX8_tray (.code yX8_tray cX8_tray 4 (some .int) :: TT) ({ frames := 3, cells := 0, slots := 0, locals := 140 }) (PcS dC dI (TY cI cJ cII cJJ) [.ref a0, .int x0, .int x1, .int x2] [(a0, .inr (8, [.ref a3, .ref a4, .ref a5, .ref a1, .ref a6, .ref a7, .ref a8, .ref a2])), (a1, .inr (6, [.ref a9, .ref a10, .ref a11])), (a2, .inl (cI, 8, .inl (tb [])))] sz 0 g) ((QcI dC dI (TY cI cJ cII cJJ) (-6) []) (va_A [(a0, .inr (8, [.ref a3, .ref a4, .ref a5, .ref a1, .ref a6, .ref a7, .ref a8, .ref a2])), (a1, .inr (6, [.ref a9, .ref a10, .ref a11])), (a2, .inl (cI, 8, .inl (tb [])))] sz)) 0 0 (va_A [(a0, .inr (8, [.ref a3, .ref a4, .ref a5, .ref a1, .ref a6, .ref a7, .ref a8, .ref a2])), (a1, .inr (6, [.ref a9, .ref a10, .ref a11])), (a2, .inl (cI, 8, .inl (tb [])))] sz) := by
  refine SM.of (y := yX8_tray) (maxL := 4) (av := [.ref a0, .int x0, .int x1, .int x2]) (QcI dC dI (TY cI cJ cII cJJ) (-6) []) (by decide +kernel) (Nat.le_of_ble_eq_true rfl) (fun p e s m below meth c A ls hx hb hr hml hown hts hk hnm hA hK hP hD hS hX hl => ?_)
  have hown : s.vm.findClass RX8 = some m.cls := hown
  have hl : lv_has ls 4 [(0, .ref a0), (1, .int x0), (2, .int x1), (3, .int x2)] := hl
  refine lv_aload_n hx hb dX8_tray_0 rfl (lv_at hl 0 rfl) ?_
  refine gf (k := 3) hx hb hts inX8 hown hK hP k_267 rfl (by decide) rfl 0 rfl (.ref a1) rfl dX8_tray_1 ?_
  refine lv_iload_n hx hb dX8_tray_4 rfl (lv_at hl 1 rfl) ?_
  refine kV_i (q0 := 0) ⟨hx, hb, hml, hown, hts⟩ hK hP hD hS hA hX cv_RX8_112 [1] [0, 2] (wr := [(a0, .inr (8, [.ref a3, .ref a4, .ref a5, .ref a1, .ref a6, .ref a7, .ref a8, .ref a2])), (a2, .inl (cI, 8, .inl (tb [])))]) rfl rfl rfl rfl (by decide) (c054_X6_isTray l dC dI cI cJ cII cJJ s.heap.size 0 a1 a9 a10 a11 x0 h_x0) ⟨by decide +kernel, by decide +kernel⟩ rfl rfl (Or.inl rfl) (rest := []) rfl rfl rfl hl.1 rfl (Nat.le_of_ble_eq_true rfl) dX8_tray_5 ⟨Nat.le_of_ble_eq_true rfl, Nat.le_of_ble_eq_true rfl⟩ (W' := [(a0, .inr (8, [.ref a3, .ref a4, .ref a5, .ref a1, .ref a6, .ref a7, .ref a8, .ref a2])), (a2, .inl (cI, 8, .inl (tb []))), (a1, .inr (6, [.ref a9, .ref a10, .ref a11]))]) rfl (fun H locs hP hD hS => ?_)
  refine t_if_ne hx hb dX8_tray_8 17 (by decide) (by decide +kernel) ?_
  refine lv_iload_n hx hb dX8_tray_17 rfl (lv_at hl 2 rfl) ?_
  refine f_if_lt hx hb dX8_tray_18 26 (by decide) (p_nlt (by rw [show (0 : Int32).toInt = 0 from by decide +kernel]; omega)) ?_
  refine lv_iload_n hx hb dX8_tray_21 rfl (lv_at hl 2 rfl) ?_
  refine lv_iconst (v := 3) hx hb dX8_tray_22 (by decide) ?_
  refine t_icmp_le hx hb dX8_tray_23 33 (by decide) (p_le (by rw [show (3 : Int32).toInt = 3 from by decide +kernel]; omega)) ?_
  refine lv_iload_n hx hb dX8_tray_33 rfl (lv_at hl 3 rfl) ?_
  refine t_if_ge hx hb dX8_tray_34 44 (by decide) (p_le (by rw [show (0 : Int32).toInt = 0 from by decide +kernel]; omega)) ?_
  refine lv_iload_n hx hb dX8_tray_44 rfl (lv_at hl 3 rfl) ?_
  refine lv_bipush (v := 20) hx hb dX8_tray_45 (by decide) ?_
  refine f_icmp_le hx hb dX8_tray_47 57 (by decide) (p_nle (by rw [show (20 : Int32).toInt = 20 from by decide +kernel]; omega)) ?_
  refine lv_aload_n hx hb dX8_tray_50 rfl (lv_at hl 0 rfl) ?_
  refine lv_bipush (v := (-6)) hx hb dX8_tray_51 (by decide) ?_
  refine kV_i (q0 := 0) ⟨hx, hb, hml, hown, hts⟩ hK hP hD hS hA hX cv_RX8_53 [0, 1] [2] (wr := [(a1, .inr (6, [.ref a9, .ref a10, .ref a11]))]) rfl rfl rfl rfl (by decide) (c017_X8_refuse l dC dI cI cJ cII cJJ H.size 0 a0 a2 a3 a4 a5 a1 a6 a7 a8) ⟨by decide +kernel, by decide +kernel⟩ rfl rfl (Or.inl rfl) (rest := []) rfl rfl rfl hl.1 rfl (Nat.le_of_ble_eq_true rfl) dX8_tray_53 ⟨Nat.le_of_ble_eq_true rfl, Nat.le_of_ble_eq_true rfl⟩ (W' := [(a1, .inr (6, [.ref a9, .ref a10, .ref a11])), (a0, .inr (8, [.ref a3, .ref a4, .ref a5, .ref a1, .ref a6, .ref a7, .ref a8, .ref a2])), (a2, .inl (cI, 8, .inl (tb [0, 0, 0, 0, 0, 0, 1])))]) rfl (fun H locs hP hD hS => ?_)
  exact r_i hx hb hr hk hK (hP.sub [] rfl) (hD.sub [] rfl rfl) hS dX8_tray_56
set_option maxRecDepth 100000 in
set_option maxHeartbeats 4000000 in
theorem c060_X6_isTray (l : Launch) (dC : Nat → ClassId) (dI : Nat → Nat → Nat) (cI cJ cII cJJ : ClassId) (sz g a0 a1 a2 a3 : Nat) : Met l yX6_isTray (.code yX6_isTray cX6_isTray 2 (some .boolean) :: TT) ({ frames := 2, cells := 0, slots := 0, locals := 80 }) (PcS dC dI (TY cI cJ cII cJJ) [.ref a0, .int 0] [(a0, .inr (6, [.ref a1, .ref a2, .ref a3]))] sz 0 g) ((QcI dC dI (TY cI cJ cII cJJ) 1 [(a0, .inr (6, [.ref a1, .ref a2, .ref a3]))]) (va_A [(a0, .inr (6, [.ref a1, .ref a2, .ref a3]))] sz)) 0 0 (va_A [(a0, .inr (6, [.ref a1, .ref a2, .ref a3]))] sz) := by
  refine SM.of (y := yX6_isTray) (maxL := 2) (av := [.ref a0, .int 0]) (QcI dC dI (TY cI cJ cII cJJ) 1 [(a0, .inr (6, [.ref a1, .ref a2, .ref a3]))]) (by decide +kernel) (Nat.le_of_ble_eq_true rfl) (fun p e s m below meth c A ls hx hb hr hml hown hts hk hnm hA hK hP hD hS hX hl => ?_)
  have hown : s.vm.findClass RX6 = some m.cls := hown
  have hl : lv_has ls 2 [(0, .ref a0), (1, .int 0)] := hl
  refine lv_iload_n hx hb dX6_isTray_0 rfl (lv_at hl 1 rfl) ?_
  refine f_if_lt hx hb dX6_isTray_1 13 (by decide) (by decide +kernel) ?_
  refine lv_iload_n hx hb dX6_isTray_4 rfl (lv_at hl 1 rfl) ?_
  refine lv_iconst (v := 4) hx hb dX6_isTray_5 (by decide) ?_
  refine f_icmp_ge hx hb dX6_isTray_6 13 (by decide) (by decide +kernel) ?_
  refine lv_iconst (v := 1) hx hb dX6_isTray_9 (by decide) ?_
  refine lv_goto (tgt := 14) hx hb dX6_isTray_10 (by decide) ?_
  exact r_z hx hb hr hk hK hP hD hS dX6_isTray_14 rfl
set_option maxRecDepth 100000 in
set_option maxHeartbeats 4000000 in
theorem c062_J7_fill_d0a16 (l : Launch) (dC : Nat → ClassId) (dI : Nat → Nat → Nat) (cI cJ cII cJJ : ClassId) (sz g a0 : Nat) : Met l yJ7_fill_d0a16 (.code yJ7_fill_d0a16 cJ7_fill_d0a16 5 none :: TT) ({ frames := 2, cells := 0, slots := 0, locals := 80 }) (PcS dC dI (TY cI cJ cII cJJ) [.ref a0, .long 0] [(a0, .inl (cJ, 20, .inr (.inl (tbl []))))] sz 0 g) ((QcV dC dI (TY cI cJ cII cJJ) (fun _ => [(a0, .inl (cJ, 20, .inr (.inl (tbl [0, 0, 0, 0, 0, 0, 0, 0, 0, 0, 0, 0, 0, 0, 0, 0, 0, 0, 0, 0]))))])) (va_A [(a0, .inl (cJ, 20, .inr (.inl (tbl []))))] sz)) 0 0 (va_A [(a0, .inl (cJ, 20, .inr (.inl (tbl []))))] sz) := by
  refine SM.of (y := yJ7_fill_d0a16) (maxL := 5) (av := [.ref a0, .long 0]) (QcV dC dI (TY cI cJ cII cJJ) (fun _ => [(a0, .inl (cJ, 20, .inr (.inl (tbl [0, 0, 0, 0, 0, 0, 0, 0, 0, 0, 0, 0, 0, 0, 0, 0, 0, 0, 0, 0]))))])) (by decide +kernel) (Nat.le_of_ble_eq_true rfl) (fun p e s m below meth c A ls hx hb hr hml hown hts hk hnm hA hK hP hD hS hX hl => ?_)
  have hown : s.vm.findClass RJ7 = some m.cls := hown
  have hl : lv_has ls 5 [(0, .ref a0), (1, .long 0)] := hl
  refine lv_iconst (v := 0) hx hb dJ7_fill_d0a16_0 (by decide) ?_
  refine lv_istore_n (lv' := [(3, .int 0), (0, .ref a0), (1, .long 0)]) hx hb dJ7_fill_d0a16_1 rfl hl (by decide) rfl (fun ls hl => ?_)
  refine lv_aload_n hx hb dJ7_fill_d0a16_2 rfl (lv_at hl 1 rfl) ?_
  refine al_ hx hb hK hP 0 1 rfl rfl dJ7_fill_d0a16_3 20 rfl ?_
  refine lv_istore (lv' := [(4, .int 20), (3, .int 0), (0, .ref a0), (1, .long 0)]) hx hb dJ7_fill_d0a16_4 hl (by decide) rfl (fun ls hl => ?_)
  refine lv_iload_n hx hb dJ7_fill_d0a16_6 rfl (lv_at hl 1 rfl) ?_
  refine lv_iload hx hb dJ7_fill_d0a16_7 (lv_at hl 0 rfl) ?_
  refine f_icmp_ge hx hb dJ7_fill_d0a16_9 22 (by decide) (by decide +kernel) ?_
  refine lv_aload_n hx hb dJ7_fill_d0a16_12 rfl (lv_at hl 2 rfl) ?_
  refine lv_iload_n hx hb dJ7_fill_d0a16_13 rfl (lv_at hl 1 rfl) ?_
  refine lv_lload_n hx hb dJ7_fill_d0a16_14 rfl (lv_at hl 3 rfl) ?_
  refine st_l hx hb hK hP hD hS 0 rfl (vin (by decide +kernel)) dJ7_fill_d0a16_15 (L' := [0]) rfl (W' := [(a0, .inl (cJ, 20, .inr (.inl (tbl [0]))))]) rfl (fun H locs hP hD hS => ?_)
  refine lv_iinc (v := 1) (lv' := [(3, .int 1), (4, .int 20), (0, .ref a0), (1, .long 0)]) hx hb dJ7_fill_d0a16_16 hl (k := 1) rfl (by decide +kernel) (by decide) rfl (fun ls hl => ?_)
  refine lv_goto (tgt := 6) hx hb dJ7_fill_d0a16_19 (by decide) ?_
  refine lv_iload_n hx hb dJ7_fill_d0a16_6 rfl (lv_at hl 0 rfl) ?_
  refine lv_iload hx hb dJ7_fill_d0a16_7 (lv_at hl 1 rfl) ?_
  refine f_icmp_ge hx hb dJ7_fill_d0a16_9 22 (by decide) (by decide +kernel) ?_
  refine lv_aload_n hx hb dJ7_fill_d0a16_12 rfl (lv_at hl 2 rfl) ?_
  refine lv_iload_n hx hb dJ7_fill_d0a16_13 rfl (lv_at hl 0 rfl) ?_
  refine lv_lload_n hx hb dJ7_fill_d0a16_14 rfl (lv_at hl 3 rfl) ?_
  refine st_l hx hb hK hP hD hS 0 rfl (vin (by decide +kernel)) dJ7_fill_d0a16_15 (L' := [0, 0]) rfl (W' := [(a0, .inl (cJ, 20, .inr (.inl (tbl [0, 0]))))]) rfl (fun H locs hP hD hS => ?_)
  refine lv_iinc (v := 2) (lv' := [(3, .int 2), (4, .int 20), (0, .ref a0), (1, .long 0)]) hx hb dJ7_fill_d0a16_16 hl (k := 0) rfl (by decide +kernel) (by decide) rfl (fun ls hl => ?_)
  refine lv_goto (tgt := 6) hx hb dJ7_fill_d0a16_19 (by decide) ?_
  refine lv_iload_n hx hb dJ7_fill_d0a16_6 rfl (lv_at hl 0 rfl) ?_
  refine lv_iload hx hb dJ7_fill_d0a16_7 (lv_at hl 1 rfl) ?_
  refine f_icmp_ge hx hb dJ7_fill_d0a16_9 22 (by decide) (by decide +kernel) ?_
  refine lv_aload_n hx hb dJ7_fill_d0a16_12 rfl (lv_at hl 2 rfl) ?_
  refine lv_iload_n hx hb dJ7_fill_d0a16_13 rfl (lv_at hl 0 rfl) ?_
  refine lv_lload_n hx hb dJ7_fill_d0a16_14 rfl (lv_at hl 3 rfl) ?_
  refine st_l hx hb hK hP hD hS 0 rfl (vin (by decide +kernel)) dJ7_fill_d0a16_15 (L' := [0, 0, 0]) rfl (W' := [(a0, .inl (cJ, 20, .inr (.inl (tbl [0, 0, 0]))))]) rfl (fun H locs hP hD hS => ?_)
  refine lv_iinc (v := 3) (lv' := [(3, .int 3), (4, .int 20), (0, .ref a0), (1, .long 0)]) hx hb dJ7_fill_d0a16_16 hl (k := 0) rfl (by decide +kernel) (by decide) rfl (fun ls hl => ?_)
  refine lv_goto (tgt := 6) hx hb dJ7_fill_d0a16_19 (by decide) ?_
  refine lv_iload_n hx hb dJ7_fill_d0a16_6 rfl (lv_at hl 0 rfl) ?_
  refine lv_iload hx hb dJ7_fill_d0a16_7 (lv_at hl 1 rfl) ?_
  refine f_icmp_ge hx hb dJ7_fill_d0a16_9 22 (by decide) (by decide +kernel) ?_
  refine lv_aload_n hx hb dJ7_fill_d0a16_12 rfl (lv_at hl 2 rfl) ?_
  refine lv_iload_n hx hb dJ7_fill_d0a16_13 rfl (lv_at hl 0 rfl) ?_
  refine lv_lload_n hx hb dJ7_fill_d0a16_14 rfl (lv_at hl 3 rfl) ?_
  refine st_l hx hb hK hP hD hS 0 rfl (vin (by decide +kernel)) dJ7_fill_d0a16_15 (L' := [0, 0, 0, 0]) rfl (W' := [(a0, .inl (cJ, 20, .inr (.inl (tbl [0, 0, 0, 0]))))]) rfl (fun H locs hP hD hS => ?_)
  refine lv_iinc (v := 4) (lv' := [(3, .int 4), (4, .int 20), (0, .ref a0), (1, .long 0)]) hx hb dJ7_fill_d0a16_16 hl (k := 0) rfl (by decide +kernel) (by decide) rfl (fun ls hl => ?_)
  refine lv_goto (tgt := 6) hx hb dJ7_fill_d0a16_19 (by decide) ?_
  refine lv_iload_n hx hb dJ7_fill_d0a16_6 rfl (lv_at hl 0 rfl) ?_
  refine lv_iload hx hb dJ7_fill_d0a16_7 (lv_at hl 1 rfl) ?_
  refine f_icmp_ge hx hb dJ7_fill_d0a16_9 22 (by decide) (by decide +kernel) ?_
  refine lv_aload_n hx hb dJ7_fill_d0a16_12 rfl (lv_at hl 2 rfl) ?_
  refine lv_iload_n hx hb dJ7_fill_d0a16_13 rfl (lv_at hl 0 rfl) ?_
  refine lv_lload_n hx hb dJ7_fill_d0a16_14 rfl (lv_at hl 3 rfl) ?_
  refine st_l hx hb hK hP hD hS 0 rfl (vin (by decide +kernel)) dJ7_fill_d0a16_15 (L' := [0, 0, 0, 0, 0]) rfl (W' := [(a0, .inl (cJ, 20, .inr (.inl (tbl [0, 0, 0, 0, 0]))))]) rfl (fun H locs hP hD hS => ?_)
  refine lv_iinc (v := 5) (lv' := [(3, .int 5), (4, .int 20), (0, .ref a0), (1, .long 0)]) hx hb dJ7_fill_d0a16_16 hl (k := 0) rfl (by decide +kernel) (by decide) rfl (fun ls hl => ?_)
  refine lv_goto (tgt := 6) hx hb dJ7_fill_d0a16_19 (by decide) ?_
  refine lv_iload_n hx hb dJ7_fill_d0a16_6 rfl (lv_at hl 0 rfl) ?_
  refine lv_iload hx hb dJ7_fill_d0a16_7 (lv_at hl 1 rfl) ?_
  refine f_icmp_ge hx hb dJ7_fill_d0a16_9 22 (by decide) (by decide +kernel) ?_
  refine lv_aload_n hx hb dJ7_fill_d0a16_12 rfl (lv_at hl 2 rfl) ?_
  refine lv_iload_n hx hb dJ7_fill_d0a16_13 rfl (lv_at hl 0 rfl) ?_
  refine lv_lload_n hx hb dJ7_fill_d0a16_14 rfl (lv_at hl 3 rfl) ?_
  refine st_l hx hb hK hP hD hS 0 rfl (vin (by decide +kernel)) dJ7_fill_d0a16_15 (L' := [0, 0, 0, 0, 0, 0]) rfl (W' := [(a0, .inl (cJ, 20, .inr (.inl (tbl [0, 0, 0, 0, 0, 0]))))]) rfl (fun H locs hP hD hS => ?_)
  refine lv_iinc (v := 6) (lv' := [(3, .int 6), (4, .int 20), (0, .ref a0), (1, .long 0)]) hx hb dJ7_fill_d0a16_16 hl (k := 0) rfl (by decide +kernel) (by decide) rfl (fun ls hl => ?_)
  refine lv_goto (tgt := 6) hx hb dJ7_fill_d0a16_19 (by decide) ?_
  refine lv_iload_n hx hb dJ7_fill_d0a16_6 rfl (lv_at hl 0 rfl) ?_
  refine lv_iload hx hb dJ7_fill_d0a16_7 (lv_at hl 1 rfl) ?_
  refine f_icmp_ge hx hb dJ7_fill_d0a16_9 22 (by decide) (by decide +kernel) ?_
  refine lv_aload_n hx hb dJ7_fill_d0a16_12 rfl (lv_at hl 2 rfl) ?_
  refine lv_iload_n hx hb dJ7_fill_d0a16_13 rfl (lv_at hl 0 rfl) ?_
  refine lv_lload_n hx hb dJ7_fill_d0a16_14 rfl (lv_at hl 3 rfl) ?_
  refine st_l hx hb hK hP hD hS 0 rfl (vin (by decide +kernel)) dJ7_fill_d0a16_15 (L' := [0, 0, 0, 0, 0, 0, 0]) rfl (W' := [(a0, .inl (cJ, 20, .inr (.inl (tbl [0, 0, 0, 0, 0, 0, 0]))))]) rfl (fun H locs hP hD hS => ?_)
  refine lv_iinc (v := 7) (lv' := [(3, .int 7), (4, .int 20), (0, .ref a0), (1, .long 0)]) hx hb dJ7_fill_d0a16_16 hl (k := 0) rfl (by decide +kernel) (by decide) rfl (fun ls hl => ?_)
  refine lv_goto (tgt := 6) hx hb dJ7_fill_d0a16_19 (by decide) ?_
  refine lv_iload_n hx hb dJ7_fill_d0a16_6 rfl (lv_at hl 0 rfl) ?_
  refine lv_iload hx hb dJ7_fill_d0a16_7 (lv_at hl 1 rfl) ?_
  refine f_icmp_ge hx hb dJ7_fill_d0a16_9 22 (by decide) (by decide +kernel) ?_
  refine lv_aload_n hx hb dJ7_fill_d0a16_12 rfl (lv_at hl 2 rfl) ?_
  refine lv_iload_n hx hb dJ7_fill_d0a16_13 rfl (lv_at hl 0 rfl) ?_
  refine lv_lload_n hx hb dJ7_fill_d0a16_14 rfl (lv_at hl 3 rfl) ?_
  refine st_l hx hb hK hP hD hS 0 rfl (vin (by decide +kernel)) dJ7_fill_d0a16_15 (L' := [0, 0, 0, 0, 0, 0, 0, 0]) rfl (W' := [(a0, .inl (cJ, 20, .inr (.inl (tbl [0, 0, 0, 0, 0, 0, 0, 0]))))]) rfl (fun H locs hP hD hS => ?_)
  refine lv_iinc (v := 8) (lv' := [(3, .int 8), (4, .int 20), (0, .ref a0), (1, .long 0)]) hx hb dJ7_fill_d0a16_16 hl (k := 0) rfl (by decide +kernel) (by decide) rfl (fun ls hl => ?_)
  refine lv_goto (tgt := 6) hx hb dJ7_fill_d0a16_19 (by decide) ?_
  refine lv_iload_n hx hb dJ7_fill_d0a16_6 rfl (lv_at hl 0 rfl) ?_
  refine lv_iload hx hb dJ7_fill_d0a16_7 (lv_at hl 1 rfl) ?_
  refine f_icmp_ge hx hb dJ7_fill_d0a16_9 22 (by decide) (by decide +kernel) ?_
  refine lv_aload_n hx hb dJ7_fill_d0a16_12 rfl (lv_at hl 2 rfl) ?_
  refine lv_iload_n hx hb dJ7_fill_d0a16_13 rfl (lv_at hl 0 rfl) ?_
  refine lv_lload_n hx hb dJ7_fill_d0a16_14 rfl (lv_at hl 3 rfl) ?_
  refine st_l hx hb hK hP hD hS 0 rfl (vin (by decide +kernel)) dJ7_fill_d0a16_15 (L' := [0, 0, 0, 0, 0, 0, 0, 0, 0]) rfl (W' := [(a0, .inl (cJ, 20, .inr (.inl (tbl [0, 0, 0, 0, 0, 0, 0, 0, 0]))))]) rfl (fun H locs hP hD hS => ?_)
  refine lv_iinc (v := 9) (lv' := [(3, .int 9), (4, .int 20), (0, .ref a0), (1, .long 0)]) hx hb dJ7_fill_d0a16_16 hl (k := 0) rfl (by decide +kernel) (by decide) rfl (fun ls hl => ?_)
  refine lv_goto (tgt := 6) hx hb dJ7_fill_d0a16_19 (by decide) ?_
  refine lv_iload_n hx hb dJ7_fill_d0a16_6 rfl (lv_at hl 0 rfl) ?_
  refine lv_iload hx hb dJ7_fill_d0a16_7 (lv_at hl 1 rfl) ?_
  refine f_icmp_ge hx hb dJ7_fill_d0a16_9 22 (by decide) (by decide +kernel) ?_
  refine lv_aload_n hx hb dJ7_fill_d0a16_12 rfl (lv_at hl 2 rfl) ?_
  refine lv_iload_n hx hb dJ7_fill_d0a16_13 rfl (lv_at hl 0 rfl) ?_
  refine lv_lload_n hx hb dJ7_fill_d0a16_14 rfl (lv_at hl 3 rfl) ?_
  refine st_l hx hb hK hP hD hS 0 rfl (vin (by decide +kernel)) dJ7_fill_d0a16_15 (L' := [0, 0, 0, 0, 0, 0, 0, 0, 0, 0]) rfl (W' := [(a0, .inl (cJ, 20, .inr (.inl (tbl [0, 0, 0, 0, 0, 0, 0, 0, 0, 0]))))]) rfl (fun H locs hP hD hS => ?_)
  refine lv_iinc (v := 10) (lv' := [(3, .int 10), (4, .int 20), (0, .ref a0), (1, .long 0)]) hx hb dJ7_fill_d0a16_16 hl (k := 0) rfl (by decide +kernel) (by decide) rfl (fun ls hl => ?_)
  refine lv_goto (tgt := 6) hx hb dJ7_fill_d0a16_19 (by decide) ?_
  refine lv_iload_n hx hb dJ7_fill_d0a16_6 rfl (lv_at hl 0 rfl) ?_
  refine lv_iload hx hb dJ7_fill_d0a16_7 (lv_at hl 1 rfl) ?_
  refine f_icmp_ge hx hb dJ7_fill_d0a16_9 22 (by decide) (by decide +kernel) ?_
  refine lv_aload_n hx hb dJ7_fill_d0a16_12 rfl (lv_at hl 2 rfl) ?_
  refine lv_iload_n hx hb dJ7_fill_d0a16_13 rfl (lv_at hl 0 rfl) ?_
  refine lv_lload_n hx hb dJ7_fill_d0a16_14 rfl (lv_at hl 3 rfl) ?_
  refine st_l hx hb hK hP hD hS 0 rfl (vin (by decide +kernel)) dJ7_fill_d0a16_15 (L' := [0, 0, 0, 0, 0, 0, 0, 0, 0, 0, 0]) rfl (W' := [(a0, .inl (cJ, 20, .inr (.inl (tbl [0, 0, 0, 0, 0, 0, 0, 0, 0, 0, 0]))))]) rfl (fun H locs hP hD hS => ?_)
  refine lv_iinc (v := 11) (lv' := [(3, .int 11), (4, .int 20), (0, .ref a0), (1, .long 0)]) hx hb dJ7_fill_d0a16_16 hl (k := 0) rfl (by decide +kernel) (by decide) rfl (fun ls hl => ?_)
  refine lv_goto (tgt := 6) hx hb dJ7_fill_d0a16_19 (by decide) ?_
  refine lv_iload_n hx hb dJ7_fill_d0a16_6 rfl (lv_at hl 0 rfl) ?_
  refine lv_iload hx hb dJ7_fill_d0a16_7 (lv_at hl 1 rfl) ?_
  refine f_icmp_ge hx hb dJ7_fill_d0a16_9 22 (by decide) (by decide +kernel) ?_
  refine lv_aload_n hx hb dJ7_fill_d0a16_12 rfl (lv_at hl 2 rfl) ?_
  refine lv_iload_n hx hb dJ7_fill_d0a16_13 rfl (lv_at hl 0 rfl) ?_
  refine lv_lload_n hx hb dJ7_fill_d0a16_14 rfl (lv_at hl 3 rfl) ?_
  refine st_l hx hb hK hP hD hS 0 rfl (vin (by decide +kernel)) dJ7_fill_d0a16_15 (L' := [0, 0, 0, 0, 0, 0, 0, 0, 0, 0, 0, 0]) rfl (W' := [(a0, .inl (cJ, 20, .inr (.inl (tbl [0, 0, 0, 0, 0, 0, 0, 0, 0, 0, 0, 0]))))]) rfl (fun H locs hP hD hS => ?_)
  refine lv_iinc (v := 12) (lv' := [(3, .int 12), (4, .int 20), (0, .ref a0), (1, .long 0)]) hx hb dJ7_fill_d0a16_16 hl (k := 0) rfl (by decide +kernel) (by decide) rfl (fun ls hl => ?_)
  refine lv_goto (tgt := 6) hx hb dJ7_fill_d0a16_19 (by decide) ?_
  refine lv_iload_n hx hb dJ7_fill_d0a16_6 rfl (lv_at hl 0 rfl) ?_
  refine lv_iload hx hb dJ7_fill_d0a16_7 (lv_at hl 1 rfl) ?_
  refine f_icmp_ge hx hb dJ7_fill_d0a16_9 22 (by decide) (by decide +kernel) ?_
  refine lv_aload_n hx hb dJ7_fill_d0a16_12 rfl (lv_at hl 2 rfl) ?_
  refine lv_iload_n hx hb dJ7_fill_d0a16_13 rfl (lv_at hl 0 rfl) ?_
  refine lv_lload_n hx hb dJ7_fill_d0a16_14 rfl (lv_at hl 3 rfl) ?_
  refine st_l hx hb hK hP hD hS 0 rfl (vin (by decide +kernel)) dJ7_fill_d0a16_15 (L' := [0, 0, 0, 0, 0, 0, 0, 0, 0, 0, 0, 0, 0]) rfl (W' := [(a0, .inl (cJ, 20, .inr (.inl (tbl [0, 0, 0, 0, 0, 0, 0, 0, 0, 0, 0, 0, 0]))))]) rfl (fun H locs hP hD hS => ?_)
  refine lv_iinc (v := 13) (lv' := [(3, .int 13), (4, .int 20), (0, .ref a0), (1, .long 0)]) hx hb dJ7_fill_d0a16_16 hl (k := 0) rfl (by decide +kernel) (by decide) rfl (fun ls hl => ?_)
  refine lv_goto (tgt := 6) hx hb dJ7_fill_d0a16_19 (by decide) ?_
  refine lv_iload_n hx hb dJ7_fill_d0a16_6 rfl (lv_at hl 0 rfl) ?_
  refine lv_iload hx hb dJ7_fill_d0a16_7 (lv_at hl 1 rfl) ?_
  refine f_icmp_ge hx hb dJ7_fill_d0a16_9 22 (by decide) (by decide +kernel) ?_
  refine lv_aload_n hx hb dJ7_fill_d0a16_12 rfl (lv_at hl 2 rfl) ?_
  refine lv_iload_n hx hb dJ7_fill_d0a16_13 rfl (lv_at hl 0 rfl) ?_
  refine lv_lload_n hx hb dJ7_fill_d0a16_14 rfl (lv_at hl 3 rfl) ?_
  refine st_l hx hb hK hP hD hS 0 rfl (vin (by decide +kernel)) dJ7_fill_d0a16_15 (L' := [0, 0, 0, 0, 0, 0, 0, 0, 0, 0, 0, 0, 0, 0]) rfl (W' := [(a0, .inl (cJ, 20, .inr (.inl (tbl [0, 0, 0, 0, 0, 0, 0, 0, 0, 0, 0, 0, 0, 0]))))]) rfl (fun H locs hP hD hS => ?_)
  refine lv_iinc (v := 14) (lv' := [(3, .int 14), (4, .int 20), (0, .ref a0), (1, .long 0)]) hx hb dJ7_fill_d0a16_16 hl (k := 0) rfl (by decide +kernel) (by decide) rfl (fun ls hl => ?_)
  refine lv_goto (tgt := 6) hx hb dJ7_fill_d0a16_19 (by decide) ?_
  refine lv_iload_n hx hb dJ7_fill_d0a16_6 rfl (lv_at hl 0 rfl) ?_
  refine lv_iload hx hb dJ7_fill_d0a16_7 (lv_at hl 1 rfl) ?_
  refine f_icmp_ge hx hb dJ7_fill_d0a16_9 22 (by decide) (by decide +kernel) ?_
  refine lv_aload_n hx hb dJ7_fill_d0a16_12 rfl (lv_at hl 2 rfl) ?_
  refine lv_iload_n hx hb dJ7_fill_d0a16_13 rfl (lv_at hl 0 rfl) ?_
  refine lv_lload_n hx hb dJ7_fill_d0a16_14 rfl (lv_at hl 3 rfl) ?_
  refine st_l hx hb hK hP hD hS 0 rfl (vin (by decide +kernel)) dJ7_fill_d0a16_15 (L' := [0, 0, 0, 0, 0, 0, 0, 0, 0, 0, 0, 0, 0, 0, 0]) rfl (W' := [(a0, .inl (cJ, 20, .inr (.inl (tbl [0, 0, 0, 0, 0, 0, 0, 0, 0, 0, 0, 0, 0, 0, 0]))))]) rfl (fun H locs hP hD hS => ?_)
  refine lv_iinc (v := 15) (lv' := [(3, .int 15), (4, .int 20), (0, .ref a0), (1, .long 0)]) hx hb dJ7_fill_d0a16_16 hl (k := 0) rfl (by decide +kernel) (by decide) rfl (fun ls hl => ?_)
  refine lv_goto (tgt := 6) hx hb dJ7_fill_d0a16_19 (by decide) ?_
  refine lv_iload_n hx hb dJ7_fill_d0a16_6 rfl (lv_at hl 0 rfl) ?_
  refine lv_iload hx hb dJ7_fill_d0a16_7 (lv_at hl 1 rfl) ?_
  refine f_icmp_ge hx hb dJ7_fill_d0a16_9 22 (by decide) (by decide +kernel) ?_
  refine lv_aload_n hx hb dJ7_fill_d0a16_12 rfl (lv_at hl 2 rfl) ?_
  refine lv_iload_n hx hb dJ7_fill_d0a16_13 rfl (lv_at hl 0 rfl) ?_
  refine lv_lload_n hx hb dJ7_fill_d0a16_14 rfl (lv_at hl 3 rfl) ?_
  refine st_l hx hb hK hP hD hS 0 rfl (vin (by decide +kernel)) dJ7_fill_d0a16_15 (L' := [0, 0, 0, 0, 0, 0, 0, 0, 0, 0, 0, 0, 0, 0, 0, 0]) rfl (W' := [(a0, .inl (cJ, 20, .inr (.inl (tbl [0, 0, 0, 0, 0, 0, 0, 0, 0, 0, 0, 0, 0, 0, 0, 0]))))]) rfl (fun H locs hP hD hS => ?_)
  refine lv_iinc (v := 16) (lv' := [(3, .int 16), (4, .int 20), (0, .ref a0), (1, .long 0)]) hx hb dJ7_fill_d0a16_16 hl (k := 0) rfl (by decide +kernel) (by decide) rfl (fun ls hl => ?_)
  refine lv_goto (tgt := 6) hx hb dJ7_fill_d0a16_19 (by decide) ?_
  refine lv_iload_n hx hb dJ7_fill_d0a16_6 rfl (lv_at hl 0 rfl) ?_
  refine lv_iload hx hb dJ7_fill_d0a16_7 (lv_at hl 1 rfl) ?_
  refine f_icmp_ge hx hb dJ7_fill_d0a16_9 22 (by decide) (by decide +kernel) ?_
  refine lv_aload_n hx hb dJ7_fill_d0a16_12 rfl (lv_at hl 2 rfl) ?_
  refine lv_iload_n hx hb dJ7_fill_d0a16_13 rfl (lv_at hl 0 rfl) ?_
  refine lv_lload_n hx hb dJ7_fill_d0a16_14 rfl (lv_at hl 3 rfl) ?_
  refine st_l hx hb hK hP hD hS 0 rfl (vin (by decide +kernel)) dJ7_fill_d0a16_15 (L' := [0, 0, 0, 0, 0, 0, 0, 0, 0, 0, 0, 0, 0, 0, 0, 0, 0]) rfl (W' := [(a0, .inl (cJ, 20, .inr (.inl (tbl [0, 0, 0, 0, 0, 0, 0, 0, 0, 0, 0, 0, 0, 0, 0, 0, 0]))))]) rfl (fun H locs hP hD hS => ?_)
  refine lv_iinc (v := 17) (lv' := [(3, .int 17), (4, .int 20), (0, .ref a0), (1, .long 0)]) hx hb dJ7_fill_d0a16_16 hl (k := 0) rfl (by decide +kernel) (by decide) rfl (fun ls hl => ?_)
  refine lv_goto (tgt := 6) hx hb dJ7_fill_d0a16_19 (by decide) ?_
  refine lv_iload_n hx hb dJ7_fill_d0a16_6 rfl (lv_at hl 0 rfl) ?_
  refine lv_iload hx hb dJ7_fill_d0a16_7 (lv_at hl 1 rfl) ?_
  refine f_icmp_ge hx hb dJ7_fill_d0a16_9 22 (by decide) (by decide +kernel) ?_
  refine lv_aload_n hx hb dJ7_fill_d0a16_12 rfl (lv_at hl 2 rfl) ?_
  refine lv_iload_n hx hb dJ7_fill_d0a16_13 rfl (lv_at hl 0 rfl) ?_
  refine lv_lload_n hx hb dJ7_fill_d0a16_14 rfl (lv_at hl 3 rfl) ?_
  refine st_l hx hb hK hP hD hS 0 rfl (vin (by decide +kernel)) dJ7_fill_d0a16_15 (L' := [0, 0, 0, 0, 0, 0, 0, 0, 0, 0, 0, 0, 0, 0, 0, 0, 0, 0]) rfl (W' := [(a0, .inl (cJ, 20, .inr (.inl (tbl [0, 0, 0, 0, 0, 0, 0, 0, 0, 0, 0, 0, 0, 0, 0, 0, 0, 0]))))]) rfl (fun H locs hP hD hS => ?_)
  refine lv_iinc (v := 18) (lv' := [(3, .int 18), (4, .int 20), (0, .ref a0), (1, .long 0)]) hx hb dJ7_fill_d0a16_16 hl (k := 0) rfl (by decide +kernel) (by decide) rfl (fun ls hl => ?_)
  refine lv_goto (tgt := 6) hx hb dJ7_fill_d0a16_19 (by decide) ?_
  refine lv_iload_n hx hb dJ7_fill_d0a16_6 rfl (lv_at hl 0 rfl) ?_
  refine lv_iload hx hb dJ7_fill_d0a16_7 (lv_at hl 1 rfl) ?_
  refine f_icmp_ge hx hb dJ7_fill_d0a16_9 22 (by decide) (by decide +kernel) ?_
  refine lv_aload_n hx hb dJ7_fill_d0a16_12 rfl (lv_at hl 2 rfl) ?_
  refine lv_iload_n hx hb dJ7_fill_d0a16_13 rfl (lv_at hl 0 rfl) ?_
  refine lv_lload_n hx hb dJ7_fill_d0a16_14 rfl (lv_at hl 3 rfl) ?_
  refine st_l hx hb hK hP hD hS 0 rfl (vin (by decide +kernel)) dJ7_fill_d0a16_15 (L' := [0, 0, 0, 0, 0, 0, 0, 0, 0, 0, 0, 0, 0, 0, 0, 0, 0, 0, 0]) rfl (W' := [(a0, .inl (cJ, 20, .inr (.inl (tbl [0, 0, 0, 0, 0, 0, 0, 0, 0, 0, 0, 0, 0, 0, 0, 0, 0, 0, 0]))))]) rfl (fun H locs hP hD hS => ?_)
  refine lv_iinc (v := 19) (lv' := [(3, .int 19), (4, .int 20), (0, .ref a0), (1, .long 0)]) hx hb dJ7_fill_d0a16_16 hl (k := 0) rfl (by decide +kernel) (by decide) rfl (fun ls hl => ?_)
  refine lv_goto (tgt := 6) hx hb dJ7_fill_d0a16_19 (by decide) ?_
  refine lv_iload_n hx hb dJ7_fill_d0a16_6 rfl (lv_at hl 0 rfl) ?_
  refine lv_iload hx hb dJ7_fill_d0a16_7 (lv_at hl 1 rfl) ?_
  refine f_icmp_ge hx hb dJ7_fill_d0a16_9 22 (by decide) (by decide +kernel) ?_
  refine lv_aload_n hx hb dJ7_fill_d0a16_12 rfl (lv_at hl 2 rfl) ?_
  refine lv_iload_n hx hb dJ7_fill_d0a16_13 rfl (lv_at hl 0 rfl) ?_
  refine lv_lload_n hx hb dJ7_fill_d0a16_14 rfl (lv_at hl 3 rfl) ?_
  refine st_l hx hb hK hP hD hS 0 rfl (vin (by decide +kernel)) dJ7_fill_d0a16_15 (L' := [0, 0, 0, 0, 0, 0, 0, 0, 0, 0, 0, 0, 0, 0, 0, 0, 0, 0, 0, 0]) rfl (W' := [(a0, .inl (cJ, 20, .inr (.inl (tbl [0, 0, 0, 0, 0, 0, 0, 0, 0, 0, 0, 0, 0, 0, 0, 0, 0, 0, 0, 0]))))]) rfl (fun H locs hP hD hS => ?_)
  refine lv_iinc (v := 20) (lv' := [(3, .int 20), (4, .int 20), (0, .ref a0), (1, .long 0)]) hx hb dJ7_fill_d0a16_16 hl (k := 0) rfl (by decide +kernel) (by decide) rfl (fun ls hl => ?_)
  refine lv_goto (tgt := 6) hx hb dJ7_fill_d0a16_19 (by decide) ?_
  refine lv_iload_n hx hb dJ7_fill_d0a16_6 rfl (lv_at hl 0 rfl) ?_
  refine lv_iload hx hb dJ7_fill_d0a16_7 (lv_at hl 1 rfl) ?_
  refine t_icmp_ge hx hb dJ7_fill_d0a16_9 22 (by decide) (by decide +kernel) ?_
  exact r_v (fun _ => 0) hx hb hr hk hK hP hD hS dJ7_fill_d0a16_22
set_option maxRecDepth 100000 in
set_option maxHeartbeats 4000000 in
theorem c061_X6_layOut (l : Launch) (dC : Nat → ClassId) (dI : Nat → Nat → Nat) (cI cJ cII cJJ : ClassId) (sz g a0 a1 a2 a3 a4 a5 a6 a7 : Nat) (x0 : Int32) (h_x0 : 0 ≤ x0.toInt ∧ x0.toInt ≤ 3) (x1 : Int32) (h_x1 : 0 ≤ x1.toInt ∧ x1.toInt ≤ 20) : Met l yX6_layOut (.code yX6_layOut cX6_layOut 4 none :: TT) ({ frames := 3, cells := 0, slots := 0, locals := 140 }) (PcS dC dI (TY cI cJ cII cJJ) [.ref a0, .int 0, .int x0, .int x1] [(a0, .inr (6, [.ref a3, .ref a1, .ref a2])), (a1, .inl (cI, 4, .inl (tb []))), (a2, .inl (cI, 4, .inl (tb [(-1), (-1), (-1), (-1)]))), (a3, .inl (cJJ, 4, .inr (.inr (.inr (.inr (tr [a4, a5, a6, a7])))))), (a4, .inl (cJ, 20, .inr (.inl (tbl []))))] sz 0 g) ((QcV dC dI (TY cI cJ cII cJJ) (fun _ => [(a0, .inr (6, [.ref a3, .ref a1, .ref a2])), (a1, .inl (cI, 4, .inl (tb [x0]))), (a2, .inl (cI, 4, .inl (tb [x1, (-1), (-1), (-1)]))), (a3, .inl (cJJ, 4, .inr (.inr (.inr (.inr (tr [a4, a5, a6, a7])))))), (a4, .inl (cJ, 20, .inr (.inl (tbl [0, 0, 0, 0, 0, 0, 0, 0, 0, 0, 0, 0, 0, 0, 0, 0, 0, 0, 0, 0]))))])) (va_A [(a0, .inr (6, [.ref a3, .ref a1, .ref a2])), (a1, .inl (cI, 4, .inl (tb []))), (a2, .inl (cI, 4, .inl (tb [(-1), (-1), (-1), (-1)]))), (a3, .inl (cJJ, 4, .inr (.inr (.inr (.inr (tr [a4, a5, a6, a7])))))), (a4, .inl (cJ, 20, .inr (.inl (tbl []))))] sz)) 0 0 (va_A [(a0, .inr (6, [.ref a3, .ref a1, .ref a2])), (a1, .inl (cI, 4, .inl (tb []))), (a2, .inl (cI, 4, .inl (tb [(-1), (-1), (-1), (-1)]))), (a3, .inl (cJJ, 4, .inr (.inr (.inr (.inr (tr [a4, a5, a6, a7])))))), (a4, .inl (cJ, 20, .inr (.inl (tbl []))))] sz) := by
  refine SM.of (y := yX6_layOut) (maxL := 4) (av := [.ref a0, .int 0, .int x0, .int x1]) (QcV dC dI (TY cI cJ cII cJJ) (fun _ => [(a0, .inr (6, [.ref a3, .ref a1, .ref a2])), (a1, .inl (cI, 4, .inl (tb [x0]))), (a2, .inl (cI, 4, .inl (tb [x1, (-1), (-1), (-1)]))), (a3, .inl (cJJ, 4, .inr (.inr (.inr (.inr (tr [a4, a5, a6, a7])))))), (a4, .inl (cJ, 20, .inr (.inl (tbl [0, 0, 0, 0, 0, 0, 0, 0, 0, 0, 0, 0, 0, 0, 0, 0, 0, 0, 0, 0]))))])) (by decide +kernel) (Nat.le_of_ble_eq_true rfl) (fun p e s m below meth c A ls hx hb hr hml hown hts hk hnm hA hK hP hD hS hX hl => ?_)
  have hown : s.vm.findClass RX6 = some m.cls := hown
  have hl : lv_has ls 4 [(0, .ref a0), (1, .int 0), (2, .int x0), (3, .int x1)] := hl
  refine lv_aload_n hx hb dX6_layOut_0 rfl (lv_at hl 0 rfl) ?_
  refine gf (k := 1) hx hb hts inX6 hown hK hP k_253 rfl (by decide) rfl 0 rfl (.ref a1) rfl dX6_layOut_1 ?_
  refine lv_iload_n hx hb dX6_layOut_4 rfl (lv_at hl 1 rfl) ?_
  refine lv_iload_n hx hb dX6_layOut_5 rfl (lv_at hl 2 rfl) ?_
  refine st_i hx hb hK hP hD hS 1 rfl (vin (by decide +kernel)) dX6_layOut_6 (L' := [x0]) rfl (W' := [(a0, .inr (6, [.ref a3, .ref a1, .ref a2])), (a1, .inl (cI, 4, .inl (tb [x0]))), (a2, .inl (cI, 4, .inl (tb [(-1), (-1), (-1), (-1)]))), (a3, .inl (cJJ, 4, .inr (.inr (.inr (.inr (tr [a4, a5, a6, a7])))))), (a4, .inl (cJ, 20, .inr (.inl (tbl []))))]) rfl (fun H locs hP hD hS => ?_)
  refine lv_aload_n hx hb dX6_layOut_7 rfl (lv_at hl 0 rfl) ?_
  refine gf (k := 2) hx hb hts inX6 hown hK hP k_255 rfl (by decide) rfl 0 rfl (.ref a2) rfl dX6_layOut_8 ?_
  refine lv_iload_n hx hb dX6_layOut_11 rfl (lv_at hl 1 rfl) ?_
  refine lv_iload_n hx hb dX6_layOut_12 rfl (lv_at hl 3 rfl) ?_
  refine st_i hx hb hK hP hD hS 2 rfl (vin (by decide +kernel)) dX6_layOut_13 (L' := [x1, (-1), (-1), (-1)]) rfl (W' := [(a0, .inr (6, [.ref a3, .ref a1, .ref a2])), (a1, .inl (cI, 4, .inl (tb [x0]))), (a2, .inl (cI, 4, .inl (tb [x1, (-1), (-1), (-1)]))), (a3, .inl (cJJ, 4, .inr (.inr (.inr (.inr (tr [a4, a5, a6, a7])))))), (a4, .inl (cJ, 20, .inr (.inl (tbl []))))]) rfl (fun H locs hP hD hS => ?_)
  refine lv_aload_n hx hb dX6_layOut_14 rfl (lv_at hl 0 rfl) ?_
  refine gf (k := 0) hx hb hts inX6 hown hK hP k_251 rfl (by decide) rfl 0 rfl (.ref a3) rfl dX6_layOut_15 ?_
  refine lv_iload_n hx hb dX6_layOut_18 rfl (lv_at hl 1 rfl) ?_
  refine ld_a hx hb hK hP 3 3 rfl rfl (vin (by decide +kernel)) dX6_layOut_19 a4 rfl ?_
  refine lv_lconst (v := 0) hx hb dX6_layOut_20 (by decide) ?_
  refine kS_v ⟨hx, hb, hml, hown, hts⟩ hK hP hD hS hA hX cs_RX6_27 [4] [0, 1, 2, 3] (wr := [(a0, .inr (6, [.ref a3, .ref a1, .ref a2])), (a1, .inl (cI, 4, .inl (tb [x0]))), (a2, .inl (cI, 4, .inl (tb [x1, (-1), (-1), (-1)]))), (a3, .inl (cJJ, 4, .inr (.inr (.inr (.inr (tr [a4, a5, a6, a7]))))))]) rfl rfl rfl rfl (by decide) (c062_J7_fill_d0a16 l dC dI cI cJ cII cJJ H.size 0 a4) ⟨by decide +kernel, by decide +kernel⟩ rfl rfl (Or.inl rfl) (rest := []) rfl hl.1 rfl (Nat.le_of_ble_eq_true rfl) dX6_layOut_21 ⟨Nat.le_of_ble_eq_true rfl, Nat.le_of_ble_eq_true rfl⟩ (fun _ => rfl) (W' := [(a0, .inr (6, [.ref a3, .ref a1, .ref a2])), (a1, .inl (cI, 4, .inl (tb [x0]))), (a2, .inl (cI, 4, .inl (tb [x1, (-1), (-1), (-1)]))), (a3, .inl (cJJ, 4, .inr (.inr (.inr (.inr (tr [a4, a5, a6, a7])))))), (a4, .inl (cJ, 20, .inr (.inl (tbl [0, 0, 0, 0, 0, 0, 0, 0, 0, 0, 0, 0, 0, 0, 0, 0, 0, 0, 0, 0]))))]) rfl (fun H locs hP hD hS => ?_)
  exact r_v (fun _ => 0) hx hb hr hk hK hP hD hS dX6_layOut_24
set_option maxRecDepth 100000 in
set_option maxHeartbeats 4000000 in
theorem c059_X8_tray (l : Launch) (dC : Nat → ClassId) (dI : Nat → Nat → Nat) (cI cJ cII cJJ : ClassId) (sz g a0 a1 a2 a3 a4 a5 a6 a7 a8 a9 a10 a11 a12 a13 a14 a15 : Nat) (x0 : Int32) (h_x0 : 0 ≤ x0.toInt ∧ x0.toInt ≤ 3) (x1 : Int32) (h_x1 : 0 ≤ x1.toInt ∧ x1.toInt ≤ 20) : Met l yX8_tray (.code yX8_tray cX8_tray 4 (some .int) :: TT) ({ frames := 4, cells := 0, slots := 0, locals := 200 }) (PcS dC dI (TY cI cJ cII cJJ) [.ref a0, .int 0, .int x0, .int x1] [(a0, .inr (8, [.ref a6, .ref a7, .ref a8, .ref a1, .ref a9, .ref a10, .ref a11, .ref a12])), (a1, .inr (6, [.ref a4, .ref a2, .ref a3])), (a2, .inl (cI, 4, .inl (tb []))), (a3, .inl (cI, 4, .inl (tb [(-1), (-1), (-1), (-1)]))), (a4, .inl (cJJ, 4, .inr (.inr (.inr (.inr (tr [a5, a13, a14, a15])))))), (a5, .inl (cJ, 20, .inr (.inl (tbl []))))] sz 0 g) ((QcI dC dI (TY cI cJ cII cJJ) 1 []) (va_A [(a0, .inr (8, [.ref a6, .ref a7, .ref a8, .ref a1, .ref a9, .ref a10, .ref a11, .ref a12])), (a1, .inr (6, [.ref a4, .ref a2, .ref a3])), (a2, .inl (cI, 4, .inl (tb []))), (a3, .inl (cI, 4, .inl (tb [(-1), (-1), (-1), (-1)]))), (a4, .inl (cJJ, 4, .inr (.inr (.inr (.inr (tr [a5, a13, a14, a15])))))), (a5, .inl (cJ, 20, .inr (.inl (tbl []))))] sz)) 0 0 (va_A [(a0, .inr (8, [.ref a6, .ref a7, .ref a8, .ref a1, .ref a9, .ref a10, .ref a11, .ref a12])), (a1, .inr (6, [.ref a4, .ref a2, .ref a3])), (a2, .inl (cI, 4, .inl (tb []))), (a3, .inl (cI, 4, .inl (tb [(-1), (-1), (-1), (-1)]))), (a4, .inl (cJJ, 4, .inr (.inr (.inr (.inr (tr [a5, a13, a14, a15])))))), (a5, .inl (cJ, 20, .inr (.inl (tbl []))))] sz) := by
  refine SM.of (y := yX8_tray) (maxL := 4) (av := [.ref a0, .int 0, .int x0, .int x1]) (QcI dC dI (TY cI cJ cII cJJ) 1 []) (by decide +kernel) (Nat.le_of_ble_eq_true rfl) (fun p e s m below meth c A ls hx hb hr hml hown hts hk hnm hA hK hP hD hS hX hl => ?_)
  have hown : s.vm.findClass RX8 = some m.cls := hown
  have hl : lv_has ls 4 [(0, .ref a0), (1, .int 0), (2, .int x0), (3, .int x1)] := hl
  refine lv_aload_n hx hb dX8_tray_0 rfl (lv_at hl 0 rfl) ?_
  refine gf (k := 3) hx hb hts inX8 hown hK hP k_267 rfl (by decide) rfl 0 rfl (.ref a1) rfl dX8_tray_1 ?_
  refine lv_iload_n hx hb dX8_tray_4 rfl (lv_at hl 1 rfl) ?_
  refine kV_i (q0 := 0) ⟨hx, hb, hml, hown, hts⟩ hK hP hD hS hA hX cv_RX8_112 [1] [0, 2, 3, 4, 5] (wr := [(a0, .inr (8, [.ref a6, .ref a7, .ref a8, .ref a1, .ref a9, .ref a10, .ref a11, .ref a12])), (a2, .inl (cI, 4, .inl (tb []))), (a3, .inl (cI, 4, .inl (tb [(-1), (-1), (-1), (-1)]))), (a4, .inl (cJJ, 4, .inr (.inr (.inr (.inr (tr [a5, a13, a14, a15])))))), (a5, .inl (cJ, 20, .inr (.inl (tbl []))))]) rfl rfl rfl rfl (by decide) (c060_X6_isTray l dC dI cI cJ cII cJJ s.heap.size 0 a1 a4 a2 a3) ⟨by decide +kernel, by decide +kernel⟩ rfl rfl (Or.inl rfl) (rest := []) rfl rfl rfl hl.1 rfl (Nat.le_of_ble_eq_true rfl) dX8_tray_5 ⟨Nat.le_of_ble_eq_true rfl, Nat.le_of_ble_eq_true rfl⟩ (W' := [(a0, .inr (8, [.ref a6, .ref a7, .ref a8, .ref a1, .ref a9, .ref a10, .ref a11, .ref a12])), (a2, .inl (cI, 4, .inl (tb []))), (a3, .inl (cI, 4, .inl (tb [(-1), (-1), (-1), (-1)]))), (a4, .inl (cJJ, 4, .inr (.inr (.inr (.inr (tr [a5, a13, a14, a15])))))), (a5, .inl (cJ, 20, .inr (.inl (tbl [])))), (a1, .inr (6, [.ref a4, .ref a2, .ref a3]))]) rfl (fun H locs hP hD hS => ?_)
  refine t_if_ne hx hb dX8_tray_8 17 (by decide) (by decide +kernel) ?_
  refine lv_iload_n hx hb dX8_tray_17 rfl (lv_at hl 2 rfl) ?_
  refine f_if_lt hx hb dX8_tray_18 26 (by decide) (p_nlt (by rw [show (0 : Int32).toInt = 0 from by decide +kernel]; omega)) ?_
  refine lv_iload_n hx hb dX8_tray_21 rfl (lv_at hl 2 rfl) ?_
  refine lv_iconst (v := 3) hx hb dX8_tray_22 (by decide) ?_
  refine t_icmp_le hx hb dX8_tray_23 33 (by decide) (p_le (by rw [show (3 : Int32).toInt = 3 from by decide +kernel]; omega)) ?_
  refine lv_iload_n hx hb dX8_tray_33 rfl (lv_at hl 3 rfl) ?_
  refine t_if_ge hx hb dX8_tray_34 44 (by decide) (p_le (by rw [show (0 : Int32).toInt = 0 from by decide +kernel]; omega)) ?_
  refine lv_iload_n hx hb dX8_tray_44 rfl (lv_at hl 3 rfl) ?_
  refine lv_bipush (v := 20) hx hb dX8_tray_45 (by decide) ?_
  refine t_icmp_le hx hb dX8_tray_47 57 (by decide) (p_le (by rw [show (20 : Int32).toInt = 20 from by decide +kernel]; omega)) ?_
  refine lv_aload_n hx hb dX8_tray_57 rfl (lv_at hl 0 rfl) ?_
  refine gf (k := 3) hx hb hts inX8 hown hK hP k_267 rfl (by decide) rfl 0 rfl (.ref a1) rfl dX8_tray_58 ?_
  refine lv_iload_n hx hb dX8_tray_61 rfl (lv_at hl 1 rfl) ?_
  refine lv_iload_n hx hb dX8_tray_62 rfl (lv_at hl 2 rfl) ?_
  refine lv_iload_n hx hb dX8_tray_63 rfl (lv_at hl 3 rfl) ?_
  refine kV_v (q0 := 0) ⟨hx, hb, hml, hown, hts⟩ hK hP hD hS hA hX cv_RX8_115 [5, 1, 2, 3, 4] [0] (wr := [(a0, .inr (8, [.ref a6, .ref a7, .ref a8, .ref a1, .ref a9, .ref a10, .ref a11, .ref a12]))]) rfl rfl rfl rfl (by decide) (c061_X6_layOut l dC dI cI cJ cII cJJ H.size 0 a1 a2 a3 a4 a5 a13 a14 a15 x0 h_x0 x1 h_x1) ⟨by decide +kernel, by decide +kernel⟩ rfl rfl (Or.inl rfl) (rest := []) rfl rfl rfl hl.1 rfl (Nat.le_of_ble_eq_true rfl) dX8_tray_64 ⟨Nat.le_of_ble_eq_true rfl, Nat.le_of_ble_eq_true rfl⟩ (fun _ => rfl) (W' := [(a0, .inr (8, [.ref a6, .ref a7, .ref a8, .ref a1, .ref a9, .ref a10, .ref a11, .ref a12])), (a1, .inr (6, [.ref a4, .ref a2, .ref a3])), (a2, .inl (cI, 4, .inl (tb [x0]))), (a3, .inl (cI, 4, .inl (tb [x1, (-1), (-1), (-1)]))), (a4, .inl (cJJ, 4, .inr (.inr (.inr (.inr (tr [a5, a13, a14, a15])))))), (a5, .inl (cJ, 20, .inr (.inl (tbl [0, 0, 0, 0, 0, 0, 0, 0, 0, 0, 0, 0, 0, 0, 0, 0, 0, 0, 0, 0]))))]) rfl (fun H locs hP hD hS => ?_)
  refine lv_iconst (v := 1) hx hb dX8_tray_67 (by decide) ?_
  exact r_i hx hb hr hk hK (hP.sub [] rfl) (hD.sub [] rfl rfl) hS dX8_tray_68
set_option maxRecDepth 100000 in
set_option maxHeartbeats 4000000 in
theorem c064_X6_isTray (l : Launch) (dC : Nat → ClassId) (dI : Nat → Nat → Nat) (cI cJ cII cJJ : ClassId) (sz g a0 a1 a2 a3 : Nat) : Met l yX6_isTray (.code yX6_isTray cX6_isTray 2 (some .boolean) :: TT) ({ frames := 2, cells := 0, slots := 0, locals := 80 }) (PcS dC dI (TY cI cJ cII cJJ) [.ref a0, .int 1] [(a0, .inr (6, [.ref a1, .ref a2, .ref a3]))] sz 0 g) ((QcI dC dI (TY cI cJ cII cJJ) 1 [(a0, .inr (6, [.ref a1, .ref a2, .ref a3]))]) (va_A [(a0, .inr (6, [.ref a1, .ref a2, .ref a3]))] sz)) 0 0 (va_A [(a0, .inr (6, [.ref a1, .ref a2, .ref a3]))] sz) := by
  refine SM.of (y := yX6_isTray) (maxL := 2) (av := [.ref a0, .int 1]) (QcI dC dI (TY cI cJ cII cJJ) 1 [(a0, .inr (6, [.ref a1, .ref a2, .ref a3]))]) (by decide +kernel) (Nat.le_of_ble_eq_true rfl) (fun p e s m below meth c A ls hx hb hr hml hown hts hk hnm hA hK hP hD hS hX hl => ?_)
  have hown : s.vm.findClass RX6 = some m.cls := hown
  have hl : lv_has ls 2 [(0, .ref a0), (1, .int 1)] := hl
  refine lv_iload_n hx hb dX6_isTray_0 rfl (lv_at hl 1 rfl) ?_
  refine f_if_lt hx hb dX6_isTray_1 13 (by decide) (by decide +kernel) ?_
  refine lv_iload_n hx hb dX6_isTray_4 rfl (lv_at hl 1 rfl) ?_
  refine lv_iconst (v := 4) hx hb dX6_isTray_5 (by decide) ?_
  refine f_icmp_ge hx hb dX6_isTray_6 13 (by decide) (by decide +kernel) ?_
  refine lv_iconst (v := 1) hx hb dX6_isTray_9 (by decide) ?_
  refine lv_goto (tgt := 14) hx hb dX6_isTray_10 (by decide) ?_
  exact r_z hx hb hr hk hK hP hD hS dX6_isTray_14 rfl
set_option maxRecDepth 100000 in
set_option maxHeartbeats 4000000 in
theorem c065_X6_layOut (l : Launch) (dC : Nat → ClassId) (dI : Nat → Nat → Nat) (cI cJ cII cJJ : ClassId) (sz g a0 a1 a2 a3 a4 a5 a6 a7 : Nat) (x0 : Int32) (h_x0 : 0 ≤ x0.toInt ∧ x0.toInt ≤ 3) (x1 : Int32) (h_x1 : 0 ≤ x1.toInt ∧ x1.toInt ≤ 20) : Met l yX6_layOut (.code yX6_layOut cX6_layOut 4 none :: TT) ({ frames := 3, cells := 0, slots := 0, locals := 140 }) (PcS dC dI (TY cI cJ cII cJJ) [.ref a0, .int 1, .int x0, .int x1] [(a0, .inr (6, [.ref a3, .ref a1, .ref a2])), (a1, .inl (cI, 4, .inl (tb []))), (a2, .inl (cI, 4, .inl (tb [(-1), (-1), (-1), (-1)]))), (a3, .inl (cJJ, 4, .inr (.inr (.inr (.inr (tr [a5, a4, a6, a7])))))), (a4, .inl (cJ, 20, .inr (.inl (tbl []))))] sz 0 g) ((QcV dC dI (TY cI cJ cII cJJ) (fun _ => [(a0, .inr (6, [.ref a3, .ref a1, .ref a2])), (a1, .inl (cI, 4, .inl (tb [0, x0]))), (a2, .inl (cI, 4, .inl (tb [(-1), x1, (-1), (-1)]))), (a3, .inl (cJJ, 4, .inr (.inr (.inr (.inr (tr [a5, a4, a6, a7])))))), (a4, .inl (cJ, 20, .inr (.inl (tbl [0, 0, 0, 0, 0, 0, 0, 0, 0, 0, 0, 0, 0, 0, 0, 0, 0, 0, 0, 0]))))])) (va_A [(a0, .inr (6, [.ref a3, .ref a1, .ref a2])), (a1, .inl (cI, 4, .inl (tb []))), (a2, .inl (cI, 4, .inl (tb [(-1), (-1), (-1), (-1)]))), (a3, .inl (cJJ, 4, .inr (.inr (.inr (.inr (tr [a5, a4, a6, a7])))))), (a4, .inl (cJ, 20, .inr (.inl (tbl []))))] sz)) 0 0 (va_A [(a0, .inr (6, [.ref a3, .ref a1, .ref a2])), (a1, .inl (cI, 4, .inl (tb []))), (a2, .inl (cI, 4, .inl (tb [(-1), (-1), (-1), (-1)]))), (a3, .inl (cJJ, 4, .inr (.inr (.inr (.inr (tr [a5, a4, a6, a7])))))), (a4, .inl (cJ, 20, .inr (.inl (tbl []))))] sz) := by
  refine SM.of (y := yX6_layOut) (maxL := 4) (av := [.ref a0, .int 1, .int x0, .int x1]) (QcV dC dI (TY cI cJ cII cJJ) (fun _ => [(a0, .inr (6, [.ref a3, .ref a1, .ref a2])), (a1, .inl (cI, 4, .inl (tb [0, x0]))), (a2, .inl (cI, 4, .inl (tb [(-1), x1, (-1), (-1)]))), (a3, .inl (cJJ, 4, .inr (.inr (.inr (.inr (tr [a5, a4, a6, a7])))))), (a4, .inl (cJ, 20, .inr (.inl (tbl [0, 0, 0, 0, 0, 0, 0, 0, 0, 0, 0, 0, 0, 0, 0, 0, 0, 0, 0, 0]))))])) (by decide +kernel) (Nat.le_of_ble_eq_true rfl) (fun p e s m below meth c A ls hx hb hr hml hown hts hk hnm hA hK hP hD hS hX hl => ?_)
  have hown : s.vm.findClass RX6 = some m.cls := hown
  have hl : lv_has ls 4 [(0, .ref a0), (1, .int 1), (2, .int x0), (3, .int x1)] := hl
  refine lv_aload_n hx hb dX6_layOut_0 rfl (lv_at hl 0 rfl) ?_
  refine gf (k := 1) hx hb hts inX6 hown hK hP k_253 rfl (by decide) rfl 0 rfl (.ref a1) rfl dX6_layOut_1 ?_
  refine lv_iload_n hx hb dX6_layOut_4 rfl (lv_at hl 1 rfl) ?_
  refine lv_iload_n hx hb dX6_layOut_5 rfl (lv_at hl 2 rfl) ?_
  refine st_i hx hb hK hP hD hS 1 rfl (vin (by decide +kernel)) dX6_layOut_6 (L' := [0, x0]) rfl (W' := [(a0, .inr (6, [.ref a3, .ref a1, .ref a2])), (a1, .inl (cI, 4, .inl (tb [0, x0]))), (a2, .inl (cI, 4, .inl (tb [(-1), (-1), (-1), (-1)]))), (a3, .inl (cJJ, 4, .inr (.inr (.inr (.inr (tr [a5, a4, a6, a7])))))), (a4, .inl (cJ, 20, .inr (.inl (tbl []))))]) rfl (fun H locs hP hD hS => ?_)
  refine lv_aload_n hx hb dX6_layOut_7 rfl (lv_at hl 0 rfl) ?_
  refine gf (k := 2) hx hb hts inX6 hown hK hP k_255 rfl (by decide) rfl 0 rfl (.ref a2) rfl dX6_layOut_8 ?_
  refine lv_iload_n hx hb dX6_layOut_11 rfl (lv_at hl 1 rfl) ?_
  refine lv_iload_n hx hb dX6_layOut_12 rfl (lv_at hl 3 rfl) ?_
  refine st_i hx hb hK hP hD hS 2 rfl (vin (by decide +kernel)) dX6_layOut_13 (L' := [(-1), x1, (-1), (-1)]) rfl (W' := [(a0, .inr (6, [.ref a3, .ref a1, .ref a2])), (a1, .inl (cI, 4, .inl (tb [0, x0]))), (a2, .inl (cI, 4, .inl (tb [(-1), x1, (-1), (-1)]))), (a3, .inl (cJJ, 4, .inr (.inr (.inr (.inr (tr [a5, a4, a6, a7])))))), (a4, .inl (cJ, 20, .inr (.inl (tbl []))))]) rfl (fun H locs hP hD hS => ?_)
  refine lv_aload_n hx hb dX6_layOut_14 rfl (lv_at hl 0 rfl) ?_
  refine gf (k := 0) hx hb hts inX6 hown hK hP k_251 rfl (by decide) rfl 0 rfl (.ref a3) rfl dX6_layOut_15 ?_
  refine lv_iload_n hx hb dX6_layOut_18 rfl (lv_at hl 1 rfl) ?_
  refine ld_a hx hb hK hP 3 3 rfl rfl (vin (by decide +kernel)) dX6_layOut_19 a4 rfl ?_
  refine lv_lconst (v := 0) hx hb dX6_layOut_20 (by decide) ?_
  refine kS_v ⟨hx, hb, hml, hown, hts⟩ hK hP hD hS hA hX cs_RX6_27 [4] [0, 1, 2, 3] (wr := [(a0, .inr (6, [.ref a3, .ref a1, .ref a2])), (a1, .inl (cI, 4, .inl (tb [0, x0]))), (a2, .inl (cI, 4, .inl (tb [(-1), x1, (-1), (-1)]))), (a3, .inl (cJJ, 4, .inr (.inr (.inr (.inr (tr [a5, a4, a6, a7]))))))]) rfl rfl rfl rfl (by decide) (c062_J7_fill_d0a16 l dC dI cI cJ cII cJJ H.size 0 a4) ⟨by decide +kernel, by decide +kernel⟩ rfl rfl (Or.inl rfl) (rest := []) rfl hl.1 rfl (Nat.le_of_ble_eq_true rfl) dX6_layOut_21 ⟨Nat.le_of_ble_eq_true rfl, Nat.le_of_ble_eq_true rfl⟩ (fun _ => rfl) (W' := [(a0, .inr (6, [.ref a3, .ref a1, .ref a2])), (a1, .inl (cI, 4, .inl (tb [0, x0]))), (a2, .inl (cI, 4, .inl (tb [(-1), x1, (-1), (-1)]))), (a3, .inl (cJJ, 4, .inr (.inr (.inr (.inr (tr [a5, a4, a6, a7])))))), (a4, .inl (cJ, 20, .inr (.inl (tbl [0, 0, 0, 0, 0, 0, 0, 0, 0, 0, 0, 0, 0, 0, 0, 0, 0, 0, 0, 0]))))]) rfl (fun H locs hP hD hS => ?_)
  exact r_v (fun _ => 0) hx hb hr hk hK hP hD hS dX6_layOut_24
set_option maxRecDepth 100000 in
set_option maxHeartbeats 4000000 in
theorem c063_X8_tray (l : Launch) (dC : Nat → ClassId) (dI : Nat → Nat → Nat) (cI cJ cII cJJ : ClassId) (sz g a0 a1 a2 a3 a4 a5 a6 a7 a8 a9 a10 a11 a12 a13 a14 a15 : Nat) (x0 : Int32) (h_x0 : 0 ≤ x0.toInt ∧ x0.toInt ≤ 3) (x1 : Int32) (h_x1 : 0 ≤ x1.toInt ∧ x1.toInt ≤ 20) : Met l yX8_tray (.code yX8_tray cX8_tray 4 (some .int) :: TT) ({ frames := 4, cells := 0, slots := 0, locals := 200 }) (PcS dC dI (TY cI cJ cII cJJ) [.ref a0, .int 1, .int x0, .int x1] [(a0, .inr (8, [.ref a6, .ref a7, .ref a8, .ref a1, .ref a9, .ref a10, .ref a11, .ref a12])), (a1, .inr (6, [.ref a4, .ref a2, .ref a3])), (a2, .inl (cI, 4, .inl (tb []))), (a3, .inl (cI, 4, .inl (tb [(-1), (-1), (-1), (-1)]))), (a4, .inl (cJJ, 4, .inr (.inr (.inr (.inr (tr [a13, a5, a14, a15])))))), (a5, .inl (cJ, 20, .inr (.inl (tbl []))))] sz 0 g) ((QcI dC dI (TY cI cJ cII cJJ) 1 []) (va_A [(a0, .inr (8, [.ref a6, .ref a7, .ref a8, .ref a1, .ref a9, .ref a10, .ref a11, .ref a12])), (a1, .inr (6, [.ref a4, .ref a2, .ref a3])), (a2, .inl (cI, 4, .inl (tb []))), (a3, .inl (cI, 4, .inl (tb [(-1), (-1), (-1), (-1)]))), (a4, .inl (cJJ, 4, .inr (.inr (.inr (.inr (tr [a13, a5, a14, a15])))))), (a5, .inl (cJ, 20, .inr (.inl (tbl []))))] sz)) 0 0 (va_A [(a0, .inr (8, [.ref a6, .ref a7, .ref a8, .ref a1, .ref a9, .ref a10, .ref a11, .ref a12])), (a1, .inr (6, [.ref a4, .ref a2, .ref a3])), (a2, .inl (cI, 4, .inl (tb []))), (a3, .inl (cI, 4, .inl (tb [(-1), (-1), (-1), (-1)]))), (a4, .inl (cJJ, 4, .inr (.inr (.inr (.inr (tr [a13, a5, a14, a15])))))), (a5, .inl (cJ, 20, .inr (.inl (tbl []))))] sz) := by
  refine SM.of (y := yX8_tray) (maxL := 4) (av := [.ref a0, .int 1, .int x0, .int x1]) (QcI dC dI (TY cI cJ cII cJJ) 1 []) (by decide +kernel) (Nat.le_of_ble_eq_true rfl) (fun p e s m below meth c A ls hx hb hr hml hown hts hk hnm hA hK hP hD hS hX hl => ?_)
  have hown : s.vm.findClass RX8 = some m.cls := hown
  have hl : lv_has ls 4 [(0, .ref a0), (1, .int 1), (2, .int x0), (3, .int x1)] := hl
  refine lv_aload_n hx hb dX8_tray_0 rfl (lv_at hl 0 rfl) ?_
  refine gf (k := 3) hx hb hts inX8 hown hK hP k_267 rfl (by decide) rfl 0 rfl (.ref a1) rfl dX8_tray_1 ?_
  refine lv_iload_n hx hb dX8_tray_4 rfl (lv_at hl 1 rfl) ?_
  refine kV_i (q0 := 0) ⟨hx, hb, hml, hown, hts⟩ hK hP hD hS hA hX cv_RX8_112 [1] [0, 2, 3, 4, 5] (wr := [(a0, .inr (8, [.ref a6, .ref a7, .ref a8, .ref a1, .ref a9, .ref a10, .ref a11, .ref a12])), (a2, .inl (cI, 4, .inl (tb []))), (a3, .inl (cI, 4, .inl (tb [(-1), (-1), (-1), (-1)]))), (a4, .inl (cJJ, 4, .inr (.inr (.inr (.inr (tr [a13, a5, a14, a15])))))), (a5, .inl (cJ, 20, .inr (.inl (tbl []))))]) rfl rfl rfl rfl (by decide) (c064_X6_isTray l dC dI cI cJ cII cJJ s.heap.size 0 a1 a4 a2 a3) ⟨by decide +kernel, by decide +kernel⟩ rfl rfl (Or.inl rfl) (rest := []) rfl rfl rfl hl.1 rfl (Nat.le_of_ble_eq_true rfl) dX8_tray_5 ⟨Nat.le_of_ble_eq_true rfl, Nat.le_of_ble_eq_true rfl⟩ (W' := [(a0, .inr (8, [.ref a6, .ref a7, .ref a8, .ref a1, .ref a9, .ref a10, .ref a11, .ref a12])), (a2, .inl (cI, 4, .inl (tb []))), (a3, .inl (cI, 4, .inl (tb [(-1), (-1), (-1), (-1)]))), (a4, .inl (cJJ, 4, .inr (.inr (.inr (.inr (tr [a13, a5, a14, a15])))))), (a5, .inl (cJ, 20, .inr (.inl (tbl [])))), (a1, .inr (6, [.ref a4, .ref a2, .ref a3]))]) rfl (fun H locs hP hD hS => ?_)
  refine t_if_ne hx hb dX8_tray_8 17 (by decide) (by decide +kernel) ?_
  refine lv_iload_n hx hb dX8_tray_17 rfl (lv_at hl 2 rfl) ?_
  refine f_if_lt hx hb dX8_tray_18 26 (by decide) (p_nlt (by rw [show (0 : Int32).toInt = 0 from by decide +kernel]; omega)) ?_
  refine lv_iload_n hx hb dX8_tray_21 rfl (lv_at hl 2 rfl) ?_
  refine lv_iconst (v := 3) hx hb dX8_tray_22 (by decide) ?_
  refine t_icmp_le hx hb dX8_tray_23 33 (by decide) (p_le (by rw [show (3 : Int32).toInt = 3 from by decide +kernel]; omega)) ?_
  refine lv_iload_n hx hb dX8_tray_33 rfl (lv_at hl 3 rfl) ?_
  refine t_if_ge hx hb dX8_tray_34 44 (by decide) (p_le (by rw [show (0 : Int32).toInt = 0 from by decide +kernel]; omega)) ?_
  refine lv_iload_n hx hb dX8_tray_44 rfl (lv_at hl 3 rfl) ?_
  refine lv_bipush (v := 20) hx hb dX8_tray_45 (by decide) ?_
  refine t_icmp_le hx hb dX8_tray_47 57 (by decide) (p_le (by rw [show (20 : Int32).toInt = 20 from by decide +kernel]; omega)) ?_
  refine lv_aload_n hx hb dX8_tray_57 rfl (lv_at hl 0 rfl) ?_
  refine gf (k := 3) hx hb hts inX8 hown hK hP k_267 rfl (by decide) rfl 0 rfl (.ref a1) rfl dX8_tray_58 ?_
  refine lv_iload_n hx hb dX8_tray_61 rfl (lv_at hl 1 rfl) ?_
  refine lv_iload_n hx hb dX8_tray_62 rfl (lv_at hl 2 rfl) ?_
  refine lv_iload_n hx hb dX8_tray_63 rfl (lv_at hl 3 rfl) ?_
  refine kV_v (q0 := 0) ⟨hx, hb, hml, hown, hts⟩ hK hP hD hS hA hX cv_RX8_115 [5, 1, 2, 3, 4] [0] (wr := [(a0, .inr (8, [.ref a6, .ref a7, .ref a8, .ref a1, .ref a9, .ref a10, .ref a11, .ref a12]))]) rfl rfl rfl rfl (by decide) (c065_X6_layOut l dC dI cI cJ cII cJJ H.size 0 a1 a2 a3 a4 a5 a13 a14 a15 x0 h_x0 x1 h_x1) ⟨by decide +kernel, by decide +kernel⟩ rfl rfl (Or.inl rfl) (rest := []) rfl rfl rfl hl.1 rfl (Nat.le_of_ble_eq_true rfl) dX8_tray_64 ⟨Nat.le_of_ble_eq_true rfl, Nat.le_of_ble_eq_true rfl⟩ (fun _ => rfl) (W' := [(a0, .inr (8, [.ref a6, .ref a7, .ref a8, .ref a1, .ref a9, .ref a10, .ref a11, .ref a12])), (a1, .inr (6, [.ref a4, .ref a2, .ref a3])), (a2, .inl (cI, 4, .inl (tb [0, x0]))), (a3, .inl (cI, 4, .inl (tb [(-1), x1, (-1), (-1)]))), (a4, .inl (cJJ, 4, .inr (.inr (.inr (.inr (tr [a13, a5, a14, a15])))))), (a5, .inl (cJ, 20, .inr (.inl (tbl [0, 0, 0, 0, 0, 0, 0, 0, 0, 0, 0, 0, 0, 0, 0, 0, 0, 0, 0, 0]))))]) rfl (fun H locs hP hD hS => ?_)
  refine lv_iconst (v := 1) hx hb dX8_tray_67 (by decide) ?_
  exact r_i hx hb hr hk hK (hP.sub [] rfl) (hD.sub [] rfl rfl) hS dX8_tray_68
set_option maxRecDepth 100000 in
set_option maxHeartbeats 4000000 in
theorem c067_X6_isTray (l : Launch) (dC : Nat → ClassId) (dI : Nat → Nat → Nat) (cI cJ cII cJJ : ClassId) (sz g a0 a1 a2 a3 : Nat) : Met l yX6_isTray (.code yX6_isTray cX6_isTray 2 (some .boolean) :: TT) ({ frames := 2, cells := 0, slots := 0, locals := 80 }) (PcS dC dI (TY cI cJ cII cJJ) [.ref a0, .int 2] [(a0, .inr (6, [.ref a1, .ref a2, .ref a3]))] sz 0 g) ((QcI dC dI (TY cI cJ cII cJJ) 1 [(a0, .inr (6, [.ref a1, .ref a2, .ref a3]))]) (va_A [(a0, .inr (6, [.ref a1, .ref a2, .ref a3]))] sz)) 0 0 (va_A [(a0, .inr (6, [.ref a1, .ref a2, .ref a3]))] sz) := by
  refine SM.of (y := yX6_isTray) (maxL := 2) (av := [.ref a0, .int 2]) (QcI dC dI (TY cI cJ cII cJJ) 1 [(a0, .inr (6, [.ref a1, .ref a2, .ref a3]))]) (by decide +kernel) (Nat.le_of_ble_eq_true rfl) (fun p e s m below meth c A ls hx hb hr hml hown hts hk hnm hA hK hP hD hS hX hl => ?_)
  have hown : s.vm.findClass RX6 = some m.cls := hown
  have hl : lv_has ls 2 [(0, .ref a0), (1, .int 2)] := hl
  refine lv_iload_n hx hb dX6_isTray_0 rfl (lv_at hl 1 rfl) ?_
  refine f_if_lt hx hb dX6_isTray_1 13 (by decide) (by decide +kernel) ?_
  refine lv_iload_n hx hb dX6_isTray_4 rfl (lv_at hl 1 rfl) ?_
  refine lv_iconst (v := 4) hx hb dX6_isTray_5 (by decide) ?_
  refine f_icmp_ge hx hb dX6_isTray_6 13 (by decide) (by decide +kernel) ?_
  refine lv_iconst (v := 1) hx hb dX6_isTray_9 (by decide) ?_
  refine lv_goto (tgt := 14) hx hb dX6_isTray_10 (by decide) ?_
  exact r_z hx hb hr hk hK hP hD hS dX6_isTray_14 rfl
set_option maxRecDepth 100000 in
set_option maxHeartbeats 4000000 in
theorem c068_X6_layOut (l : Launch) (dC : Nat → ClassId) (dI : Nat → Nat → Nat) (cI cJ cII cJJ : ClassId) (sz g a0 a1 a2 a3 a4 a5 a6 a7 : Nat) (x0 : Int32) (h_x0 : 0 ≤ x0.toInt ∧ x0.toInt ≤ 3) (x1 : Int32) (h_x1 : 0 ≤ x1.toInt ∧ x1.toInt ≤ 20) : Met l yX6_layOut (.code yX6_layOut cX6_layOut 4 none :: TT) ({ frames := 3, cells := 0, slots := 0, locals := 140 }) (PcS dC dI (TY cI cJ cII cJJ) [.ref a0, .int 2, .int x0, .int x1] [(a0, .inr (6, [.ref a3, .ref a1, .ref a2])), (a1, .inl (cI, 4, .inl (tb []))), (a2, .inl (cI, 4, .inl (tb [(-1), (-1), (-1), (-1)]))), (a3, .inl (cJJ, 4, .inr (.inr (.inr (.inr (tr [a5, a6, a4, a7])))))), (a4, .inl (cJ, 20, .inr (.inl (tbl []))))] sz 0 g) ((QcV dC dI (TY cI cJ cII cJJ) (fun _ => [(a0, .inr (6, [.ref a3, .ref a1, .ref a2])), (a1, .inl (cI, 4, .inl (tb [0, 0, x0]))), (a2, .inl (cI, 4, .inl (tb [(-1), (-1), x1, (-1)]))), (a3, .inl (cJJ, 4, .inr (.inr (.inr (.inr (tr [a5, a6, a4, a7])))))), (a4, .inl (cJ, 20, .inr (.inl (tbl [0, 0, 0, 0, 0, 0, 0, 0, 0, 0, 0, 0, 0, 0, 0, 0, 0, 0, 0, 0]))))])) (va_A [(a0, .inr (6, [.ref a3, .ref a1, .ref a2])), (a1, .inl (cI, 4, .inl (tb []))), (a2, .inl (cI, 4, .inl (tb [(-1), (-1), (-1), (-1)]))), (a3, .inl (cJJ, 4, .inr (.inr (.inr (.inr (tr [a5, a6, a4, a7])))))), (a4, .inl (cJ, 20, .inr (.inl (tbl []))))] sz)) 0 0 (va_A [(a0, .inr (6, [.ref a3, .ref a1, .ref a2])), (a1, .inl (cI, 4, .inl (tb []))), (a2, .inl (cI, 4, .inl (tb [(-1), (-1), (-1), (-1)]))), (a3, .inl (cJJ, 4, .inr (.inr (.inr (.inr (tr [a5, a6, a4, a7])))))), (a4, .inl (cJ, 20, .inr (.inl (tbl []))))] sz) := by
  refine SM.of (y := yX6_layOut) (maxL := 4) (av := [.ref a0, .int 2, .int x0, .int x1]) (QcV dC dI (TY cI cJ cII cJJ) (fun _ => [(a0, .inr (6, [.ref a3, .ref a1, .ref a2])), (a1, .inl (cI, 4, .inl (tb [0, 0, x0]))), (a2, .inl (cI, 4, .inl (tb [(-1), (-1), x1, (-1)]))), (a3, .inl (cJJ, 4, .inr (.inr (.inr (.inr (tr [a5, a6, a4, a7])))))), (a4, .inl (cJ, 20, .inr (.inl (tbl [0, 0, 0, 0, 0, 0, 0, 0, 0, 0, 0, 0, 0, 0, 0, 0, 0, 0, 0, 0]))))])) (by decide +kernel) (Nat.le_of_ble_eq_true rfl) (fun p e s m below meth c A ls hx hb hr hml hown hts hk hnm hA hK hP hD hS hX hl => ?_)
  have hown : s.vm.findClass RX6 = some m.cls := hown
  have hl : lv_has ls 4 [(0, .ref a0), (1, .int 2), (2, .int x0), (3, .int x1)] := hl
  refine lv_aload_n hx hb dX6_layOut_0 rfl (lv_at hl 0 rfl) ?_
  refine gf (k := 1) hx hb hts inX6 hown hK hP k_253 rfl (by decide) rfl 0 rfl (.ref a1) rfl dX6_layOut_1 ?_
  refine lv_iload_n hx hb dX6_layOut_4 rfl (lv_at hl 1 rfl) ?_
  refine lv_iload_n hx hb dX6_layOut_5 rfl (lv_at hl 2 rfl) ?_
  refine st_i hx hb hK hP hD hS 1 rfl (vin (by decide +kernel)) dX6_layOut_6 (L' := [0, 0, x0]) rfl (W' := [(a0, .inr (6, [.ref a3, .ref a1, .ref a2])), (a1, .inl (cI, 4, .inl (tb [0, 0, x0]))), (a2, .inl (cI, 4, .inl (tb [(-1), (-1), (-1), (-1)]))), (a3, .inl (cJJ, 4, .inr (.inr (.inr (.inr (tr [a5, a6, a4, a7])))))), (a4, .inl (cJ, 20, .inr (.inl (tbl []))))]) rfl (fun H locs hP hD hS => ?_)
  refine lv_aload_n hx hb dX6_layOut_7 rfl (lv_at hl 0 rfl) ?_
  refine gf (k := 2) hx hb hts inX6 hown hK hP k_255 rfl (by decide) rfl 0 rfl (.ref a2) rfl dX6_layOut_8 ?_
  refine lv_iload_n hx hb dX6_layOut_11 rfl (lv_at hl 1 rfl) ?_
  refine lv_iload_n hx hb dX6_layOut_12 rfl (lv_at hl 3 rfl) ?_
  refine st_i hx hb hK hP hD hS 2 rfl (vin (by decide +kernel)) dX6_layOut_13 (L' := [(-1), (-1), x1, (-1)]) rfl (W' := [(a0, .inr (6, [.ref a3, .ref a1, .ref a2])), (a1, .inl (cI, 4, .inl (tb [0, 0, x0]))), (a2, .inl (cI, 4, .inl (tb [(-1), (-1), x1, (-1)]))), (a3, .inl (cJJ, 4, .inr (.inr (.inr (.inr (tr [a5, a6, a4, a7])))))), (a4, .inl (cJ, 20, .inr (.inl (tbl []))))]) rfl (fun H locs hP hD hS => ?_)
  refine lv_aload_n hx hb dX6_layOut_14 rfl (lv_at hl 0 rfl) ?_
  refine gf (k := 0) hx hb hts inX6 hown hK hP k_251 rfl (by decide) rfl 0 rfl (.ref a3) rfl dX6_layOut_15 ?_
  refine lv_iload_n hx hb dX6_layOut_18 rfl (lv_at hl 1 rfl) ?_
  refine ld_a hx hb hK hP 3 3 rfl rfl (vin (by decide +kernel)) dX6_layOut_19 a4 rfl ?_
  refine lv_lconst (v := 0) hx hb dX6_layOut_20 (by decide) ?_
  refine kS_v ⟨hx, hb, hml, hown, hts⟩ hK hP hD hS hA hX cs_RX6_27 [4] [0, 1, 2, 3] (wr := [(a0, .inr (6, [.ref a3, .ref a1, .ref a2])), (a1, .inl (cI, 4, .inl (tb [0, 0, x0]))), (a2, .inl (cI, 4, .inl (tb [(-1), (-1), x1, (-1)]))), (a3, .inl (cJJ, 4, .inr (.inr (.inr (.inr (tr [a5, a6, a4, a7]))))))]) rfl rfl rfl rfl (by decide) (c062_J7_fill_d0a16 l dC dI cI cJ cII cJJ H.size 0 a4) ⟨by decide +kernel, by decide +kernel⟩ rfl rfl (Or.inl rfl) (rest := []) rfl hl.1 rfl (Nat.le_of_ble_eq_true rfl) dX6_layOut_21 ⟨Nat.le_of_ble_eq_true rfl, Nat.le_of_ble_eq_true rfl⟩ (fun _ => rfl) (W' := [(a0, .inr (6, [.ref a3, .ref a1, .ref a2])), (a1, .inl (cI, 4, .inl (tb [0, 0, x0]))), (a2, .inl (cI, 4, .inl (tb [(-1), (-1), x1, (-1)]))), (a3, .inl (cJJ, 4, .inr (.inr (.inr (.inr (tr [a5, a6, a4, a7])))))), (a4, .inl (cJ, 20, .inr (.inl (tbl [0, 0, 0, 0, 0, 0, 0, 0, 0, 0, 0, 0, 0, 0, 0, 0, 0, 0, 0, 0]))))]) rfl (fun H locs hP hD hS => ?_)
  exact r_v (fun _ => 0) hx hb hr hk hK hP hD hS dX6_layOut_24
set_option maxRecDepth 100000 in
set_option maxHeartbeats 4000000 in
theorem c066_X8_tray (l : Launch) (dC : Nat → ClassId) (dI : Nat → Nat → Nat) (cI cJ cII cJJ : ClassId) (sz g a0 a1 a2 a3 a4 a5 a6 a7 a8 a9 a10 a11 a12 a13 a14 a15 : Nat) (x0 : Int32) (h_x0 : 0 ≤ x0.toInt ∧ x0.toInt ≤ 3) (x1 : Int32) (h_x1 : 0 ≤ x1.toInt ∧ x1.toInt ≤ 20) : Met l yX8_tray (.code yX8_tray cX8_tray 4 (some .int) :: TT) ({ frames := 4, cells := 0, slots := 0, locals := 200 }) (PcS dC dI (TY cI cJ cII cJJ) [.ref a0, .int 2, .int x0, .int x1] [(a0, .inr (8, [.ref a6, .ref a7, .ref a8, .ref a1, .ref a9, .ref a10, .ref a11, .ref a12])), (a1, .inr (6, [.ref a4, .ref a2, .ref a3])), (a2, .inl (cI, 4, .inl (tb []))), (a3, .inl (cI, 4, .inl (tb [(-1), (-1), (-1), (-1)]))), (a4, .inl (cJJ, 4, .inr (.inr (.inr (.inr (tr [a13, a14, a5, a15])))))), (a5, .inl (cJ, 20, .inr (.inl (tbl []))))] sz 0 g) ((QcI dC dI (TY cI cJ cII cJJ) 1 []) (va_A [(a0, .inr (8, [.ref a6, .ref a7, .ref a8, .ref a1, .ref a9, .ref a10, .ref a11, .ref a12])), (a1, .inr (6, [.ref a4, .ref a2, .ref a3])), (a2, .inl (cI, 4, .inl (tb []))), (a3, .inl (cI, 4, .inl (tb [(-1), (-1), (-1), (-1)]))), (a4, .inl (cJJ, 4, .inr (.inr (.inr (.inr (tr [a13, a14, a5, a15])))))), (a5, .inl (cJ, 20, .inr (.inl (tbl []))))] sz)) 0 0 (va_A [(a0, .inr (8, [.ref a6, .ref a7, .ref a8, .ref a1, .ref a9, .ref a10, .ref a11, .ref a12])), (a1, .inr (6, [.ref a4, .ref a2, .ref a3])), (a2, .inl (cI, 4, .inl (tb []))), (a3, .inl (cI, 4, .inl (tb [(-1), (-1), (-1), (-1)]))), (a4, .inl (cJJ, 4, .inr (.inr (.inr (.inr (tr [a13, a14, a5, a15])))))), (a5, .inl (cJ, 20, .inr (.inl (tbl []))))] sz) := by
  refine SM.of (y := yX8_tray) (maxL := 4) (av := [.ref a0, .int 2, .int x0, .int x1]) (QcI dC dI (TY cI cJ cII cJJ) 1 []) (by decide +kernel) (Nat.le_of_ble_eq_true rfl) (fun p e s m below meth c A ls hx hb hr hml hown hts hk hnm hA hK hP hD hS hX hl => ?_)
  have hown : s.vm.findClass RX8 = some m.cls := hown
  have hl : lv_has ls 4 [(0, .ref a0), (1, .int 2), (2, .int x0), (3, .int x1)] := hl
  refine lv_aload_n hx hb dX8_tray_0 rfl (lv_at hl 0 rfl) ?_
  refine gf (k := 3) hx hb hts inX8 hown hK hP k_267 rfl (by decide) rfl 0 rfl (.ref a1) rfl dX8_tray_1 ?_
  refine lv_iload_n hx hb dX8_tray_4 rfl (lv_at hl 1 rfl) ?_
  refine kV_i (q0 := 0) ⟨hx, hb, hml, hown, hts⟩ hK hP hD hS hA hX cv_RX8_112 [1] [0, 2, 3, 4, 5] (wr := [(a0, .inr (8, [.ref a6, .ref a7, .ref a8, .ref a1, .ref a9, .ref a10, .ref a11, .ref a12])), (a2, .inl (cI, 4, .inl (tb []))), (a3, .inl (cI, 4, .inl (tb [(-1), (-1), (-1), (-1)]))), (a4, .inl (cJJ, 4, .inr (.inr (.inr (.inr (tr [a13, a14, a5, a15])))))), (a5, .inl (cJ, 20, .inr (.inl (tbl []))))]) rfl rfl rfl rfl (by decide) (c067_X6_isTray l dC dI cI cJ cII cJJ s.heap.size 0 a1 a4 a2 a3) ⟨by decide +kernel, by decide +kernel⟩ rfl rfl (Or.inl rfl) (rest := []) rfl rfl rfl hl.1 rfl (Nat.le_of_ble_eq_true rfl) dX8_tray_5 ⟨Nat.le_of_ble_eq_true rfl, Nat.le_of_ble_eq_true rfl⟩ (W' := [(a0, .inr (8, [.ref a6, .ref a7, .ref a8, .ref a1, .ref a9, .ref a10, .ref a11, .ref a12])), (a2, .inl (cI, 4, .inl (tb []))), (a3, .inl (cI, 4, .inl (tb [(-1), (-1), (-1), (-1)]))), (a4, .inl (cJJ, 4, .inr (.inr (.inr (.inr (tr [a13, a14, a5, a15])))))), (a5, .inl (cJ, 20, .inr (.inl (tbl [])))), (a1, .inr (6, [.ref a4, .ref a2, .ref a3]))]) rfl (fun H locs hP hD hS => ?_)
  refine t_if_ne hx hb dX8_tray_8 17 (by decide) (by decide +kernel) ?_
  refine lv_iload_n hx hb dX8_tray_17 rfl (lv_at hl 2 rfl) ?_
  refine f_if_lt hx hb dX8_tray_18 26 (by decide) (p_nlt (by rw [show (0 : Int32).toInt = 0 from by decide +kernel]; omega)) ?_
  refine lv_iload_n hx hb dX8_tray_21 rfl (lv_at hl 2 rfl) ?_
  refine lv_iconst (v := 3) hx hb dX8_tray_22 (by decide) ?_
  refine t_icmp_le hx hb dX8_tray_23 33 (by decide) (p_le (by rw [show (3 : Int32).toInt = 3 from by decide +kernel]; omega)) ?_
  refine lv_iload_n hx hb dX8_tray_33 rfl (lv_at hl 3 rfl) ?_
  refine t_if_ge hx hb dX8_tray_34 44 (by decide) (p_le (by rw [show (0 : Int32).toInt = 0 from by decide +kernel]; omega)) ?_
  refine lv_iload_n hx hb dX8_tray_44 rfl (lv_at hl 3 rfl) ?_
  refine lv_bipush (v := 20) hx hb dX8_tray_45 (by decide) ?_
  refine t_icmp_le hx hb dX8_tray_47 57 (by decide) (p_le (by rw [show (20 : Int32).toInt = 20 from by decide +kernel]; omega)) ?_
  refine lv_aload_n hx hb dX8_tray_57 rfl (lv_at hl 0 rfl) ?_
  refine gf (k := 3) hx hb hts inX8 hown hK hP k_267 rfl (by decide) rfl 0 rfl (.ref a1) rfl dX8_tray_58 ?_
  refine lv_iload_n hx hb dX8_tray_61 rfl (lv_at hl 1 rfl) ?_
  refine lv_iload_n hx hb dX8_tray_62 rfl (lv_at hl 2 rfl) ?_
  refine lv_iload_n hx hb dX8_tray_63 rfl (lv_at hl 3 rfl) ?_
  refine kV_v (q0 := 0) ⟨hx, hb, hml, hown, hts⟩ hK hP hD hS hA hX cv_RX8_115 [5, 1, 2, 3, 4] [0] (wr := [(a0, .inr (8, [.ref a6, .ref a7, .ref a8, .ref a1, .ref a9, .ref a10, .ref a11, .ref a12]))]) rfl rfl rfl rfl (by decide) (c068_X6_layOut l dC dI cI cJ cII cJJ H.size 0 a1 a2 a3 a4 a5 a13 a14 a15 x0 h_x0 x1 h_x1) ⟨by decide +kernel, by decide +kernel⟩ rfl rfl (Or.inl rfl) (rest := []) rfl rfl rfl hl.1 rfl (Nat.le_of_ble_eq_true rfl) dX8_tray_64 ⟨Nat.le_of_ble_eq_true rfl, Nat.le_of_ble_eq_true rfl⟩ (fun _ => rfl) (W' := [(a0, .inr (8, [.ref a6, .ref a7, .ref a8, .ref a1, .ref a9, .ref a10, .ref a11, .ref a12])), (a1, .inr (6, [.ref a4, .ref a2, .ref a3])), (a2, .inl (cI, 4, .inl (tb [0, 0, x0]))), (a3, .inl (cI, 4, .inl (tb [(-1), (-1), x1, (-1)]))), (a4, .inl (cJJ, 4, .inr (.inr (.inr (.inr (tr [a13, a14, a5, a15])))))), (a5, .inl (cJ, 20, .inr (.inl (tbl [0, 0, 0, 0, 0, 0, 0, 0, 0, 0, 0, 0, 0, 0, 0, 0, 0, 0, 0, 0]))))]) rfl (fun H locs hP hD hS => ?_)
  refine lv_iconst (v := 1) hx hb dX8_tray_67 (by decide) ?_
  exact r_i hx hb hr hk hK (hP.sub [] rfl) (hD.sub [] rfl rfl) hS dX8_tray_68
set_option maxRecDepth 100000 in
set_option maxHeartbeats 4000000 in
theorem c070_X6_isTray (l : Launch) (dC : Nat → ClassId) (dI : Nat → Nat → Nat) (cI cJ cII cJJ : ClassId) (sz g a0 a1 a2 a3 : Nat) : Met l yX6_isTray (.code yX6_isTray cX6_isTray 2 (some .boolean) :: TT) ({ frames := 2, cells := 0, slots := 0, locals := 80 }) (PcS dC dI (TY cI cJ cII cJJ) [.ref a0, .int 3] [(a0, .inr (6, [.ref a1, .ref a2, .ref a3]))] sz 0 g) ((QcI dC dI (TY cI cJ cII cJJ) 1 [(a0, .inr (6, [.ref a1, .ref a2, .ref a3]))]) (va_A [(a0, .inr (6, [.ref a1, .ref a2, .ref a3]))] sz)) 0 0 (va_A [(a0, .inr (6, [.ref a1, .ref a2, .ref a3]))] sz) := by
  refine SM.of (y := yX6_isTray) (maxL := 2) (av := [.ref a0, .int 3]) (QcI dC dI (TY cI cJ cII cJJ) 1 [(a0, .inr (6, [.ref a1, .ref a2, .ref a3]))]) (by decide +kernel) (Nat.le_of_ble_eq_true rfl) (fun p e s m below meth c A ls hx hb hr hml hown hts hk hnm hA hK hP hD hS hX hl => ?_)
  have hown : s.vm.findClass RX6 = some m.cls := hown
  have hl : lv_has ls 2 [(0, .ref a0), (1, .int 3)] := hl
  refine lv_iload_n hx hb dX6_isTray_0 rfl (lv_at hl 1 rfl) ?_
  refine f_if_lt hx hb dX6_isTray_1 13 (by decide) (by decide +kernel) ?_
  refine lv_iload_n hx hb dX6_isTray_4 rfl (lv_at hl 1 rfl) ?_
  refine lv_iconst (v := 4) hx hb dX6_isTray_5 (by decide) ?_
  refine f_icmp_ge hx hb dX6_isTray_6 13 (by decide) (by decide +kernel) ?_
  refine lv_iconst (v := 1) hx hb dX6_isTray_9 (by decide) ?_
  refine lv_goto (tgt := 14) hx hb dX6_isTray_10 (by decide) ?_
  exact r_z hx hb hr hk hK hP hD hS dX6_isTray_14 rfl
set_option maxRecDepth 100000 in
set_option maxHeartbeats 4000000 in
theorem c071_X6_layOut (l : Launch) (dC : Nat → ClassId) (dI : Nat → Nat → Nat) (cI cJ cII cJJ : ClassId) (sz g a0 a1 a2 a3 a4 a5 a6 a7 : Nat) (x0 : Int32) (h_x0 : 0 ≤ x0.toInt ∧ x0.toInt ≤ 3) (x1 : Int32) (h_x1 : 0 ≤ x1.toInt ∧ x1.toInt ≤ 20) : Met l yX6_layOut (.code yX6_layOut cX6_layOut 4 none :: TT) ({ frames := 3, cells := 0, slots := 0, locals := 140 }) (PcS dC dI (TY cI cJ cII cJJ) [.ref a0, .int 3, .int x0, .int x1] [(a0, .inr (6, [.ref a3, .ref a1, .ref a2])), (a1, .inl (cI, 4, .inl (tb []))), (a2, .inl (cI, 4, .inl (tb [(-1), (-1), (-1), (-1)]))), (a3, .inl (cJJ, 4, .inr (.inr (.inr (.inr (tr [a5, a6, a7, a4])))))), (a4, .inl (cJ, 20, .inr (.inl (tbl []))))] sz 0 g) ((QcV dC dI (TY cI cJ cII cJJ) (fun _ => [(a0, .inr (6, [.ref a3, .ref a1, .ref a2])), (a1, .inl (cI, 4, .inl (tb [0, 0, 0, x0]))), (a2, .inl (cI, 4, .inl (tb [(-1), (-1), (-1), x1]))), (a3, .inl (cJJ, 4, .inr (.inr (.inr (.inr (tr [a5, a6, a7, a4])))))), (a4, .inl (cJ, 20, .inr (.inl (tbl [0, 0, 0, 0, 0, 0, 0, 0, 0, 0, 0, 0, 0, 0, 0, 0, 0, 0, 0, 0]))))])) (va_A [(a0, .inr (6, [.ref a3, .ref a1, .ref a2])), (a1, .inl (cI, 4, .inl (tb []))), (a2, .inl (cI, 4, .inl (tb [(-1), (-1), (-1), (-1)]))), (a3, .inl (cJJ, 4, .inr (.inr (.inr (.inr (tr [a5, a6, a7, a4])))))), (a4, .inl (cJ, 20, .inr (.inl (tbl []))))] sz)) 0 0 (va_A [(a0, .inr (6, [.ref a3, .ref a1, .ref a2])), (a1, .inl (cI, 4, .inl (tb []))), (a2, .inl (cI, 4, .inl (tb [(-1), (-1), (-1), (-1)]))), (a3, .inl (cJJ, 4, .inr (.inr (.inr (.inr (tr [a5, a6, a7, a4])))))), (a4, .inl (cJ, 20, .inr (.inl (tbl []))))] sz) := by
  refine SM.of (y := yX6_layOut) (maxL := 4) (av := [.ref a0, .int 3, .int x0, .int x1]) (QcV dC dI (TY cI cJ cII cJJ) (fun _ => [(a0, .inr (6, [.ref a3, .ref a1, .ref a2])), (a1, .inl (cI, 4, .inl (tb [0, 0, 0, x0]))), (a2, .inl (cI, 4, .inl (tb [(-1), (-1), (-1), x1]))), (a3, .inl (cJJ, 4, .inr (.inr (.inr (.inr (tr [a5, a6, a7, a4])))))), (a4, .inl (cJ, 20, .inr (.inl (tbl [0, 0, 0, 0, 0, 0, 0, 0, 0, 0, 0, 0, 0, 0, 0, 0, 0, 0, 0, 0]))))])) (by decide +kernel) (Nat.le_of_ble_eq_true rfl) (fun p e s m below meth c A ls hx hb hr hml hown hts hk hnm hA hK hP hD hS hX hl => ?_)
  have hown : s.vm.findClass RX6 = some m.cls := hown
  have hl : lv_has ls 4 [(0, .ref a0), (1, .int 3), (2, .int x0), (3, .int x1)] := hl
  refine lv_aload_n hx hb dX6_layOut_0 rfl (lv_at hl 0 rfl) ?_
  refine gf (k := 1) hx hb hts inX6 hown hK hP k_253 rfl (by decide) rfl 0 rfl (.ref a1) rfl dX6_layOut_1 ?_
  refine lv_iload_n hx hb dX6_layOut_4 rfl (lv_at hl 1 rfl) ?_
  refine lv_iload_n hx hb dX6_layOut_5 rfl (lv_at hl 2 rfl) ?_
  refine st_i hx hb hK hP hD hS 1 rfl (vin (by decide +kernel)) dX6_layOut_6 (L' := [0, 0, 0, x0]) rfl (W' := [(a0, .inr (6, [.ref a3, .ref a1, .ref a2])), (a1, .inl (cI, 4, .inl (tb [0, 0, 0, x0]))), (a2, .inl (cI, 4, .inl (tb [(-1), (-1), (-1), (-1)]))), (a3, .inl (cJJ, 4, .inr (.inr (.inr (.inr (tr [a5, a6, a7, a4])))))), (a4, .inl (cJ, 20, .inr (.inl (tbl []))))]) rfl (fun H locs hP hD hS => ?_)
  refine lv_aload_n hx hb dX6_layOut_7 rfl (lv_at hl 0 rfl) ?_
  refine gf (k := 2) hx hb hts inX6 hown hK hP k_255 rfl (by decide) rfl 0 rfl (.ref a2) rfl dX6_layOut_8 ?_
  refine lv_iload_n hx hb dX6_layOut_11 rfl (lv_at hl 1 rfl) ?_
  refine lv_iload_n hx hb dX6_layOut_12 rfl (lv_at hl 3 rfl) ?_
  refine st_i hx hb hK hP hD hS 2 rfl (vin (by decide +kernel)) dX6_layOut_13 (L' := [(-1), (-1), (-1), x1]) rfl (W' := [(a0, .inr (6, [.ref a3, .ref a1, .ref a2])), (a1, .inl (cI, 4, .inl (tb [0, 0, 0, x0]))), (a2, .inl (cI, 4, .inl (tb [(-1), (-1), (-1), x1]))), (a3, .inl (cJJ, 4, .inr (.inr (.inr (.inr (tr [a5, a6, a7, a4])))))), (a4, .inl (cJ, 20, .inr (.inl (tbl []))))]) rfl (fun H locs hP hD hS => ?_)
  refine lv_aload_n hx hb dX6_layOut_14 rfl (lv_at hl 0 rfl) ?_
  refine gf (k := 0) hx hb hts inX6 hown hK hP k_251 rfl (by decide) rfl 0 rfl (.ref a3) rfl dX6_layOut_15 ?_
  refine lv_iload_n hx hb dX6_layOut_18 rfl (lv_at hl 1 rfl) ?_
  refine ld_a hx hb hK hP 3 3 rfl rfl (vin (by decide +kernel)) dX6_layOut_19 a4 rfl ?_
  refine lv_lconst (v := 0) hx hb dX6_layOut_20 (by decide) ?_
  refine kS_v ⟨hx, hb, hml, hown, hts⟩ hK hP hD hS hA hX cs_RX6_27 [4] [0, 1, 2, 3] (wr := [(a0, .inr (6, [.ref a3, .ref a1, .ref a2])), (a1, .inl (cI, 4, .inl (tb [0, 0, 0, x0]))), (a2, .inl (cI, 4, .inl (tb [(-1), (-1), (-1), x1]))), (a3, .inl (cJJ, 4, .inr (.inr (.inr (.inr (tr [a5, a6, a7, a4]))))))]) rfl rfl rfl rfl (by decide) (c062_J7_fill_d0a16 l dC dI cI cJ cII cJJ H.size 0 a4) ⟨by decide +kernel, by decide +kernel⟩ rfl rfl (Or.inl rfl) (rest := []) rfl hl.1 rfl (Nat.le_of_ble_eq_true rfl) dX6_layOut_21 ⟨Nat.le_of_ble_eq_true rfl, Nat.le_of_ble_eq_true rfl⟩ (fun _ => rfl) (W' := [(a0, .inr (6, [.ref a3, .ref a1, .ref a2])), (a1, .inl (cI, 4, .inl (tb [0, 0, 0, x0]))), (a2, .inl (cI, 4, .inl (tb [(-1), (-1), (-1), x1]))), (a3, .inl (cJJ, 4, .inr (.inr (.inr (.inr (tr [a5, a6, a7, a4])))))), (a4, .inl (cJ, 20, .inr (.inl (tbl [0, 0, 0, 0, 0, 0, 0, 0, 0, 0, 0, 0, 0, 0, 0, 0, 0, 0, 0, 0]))))]) rfl (fun H locs hP hD hS => ?_)
  exact r_v (fun _ => 0) hx hb hr hk hK hP hD hS dX6_layOut_24
set_option maxRecDepth 100000 in
set_option maxHeartbeats 4000000 in
theorem c069_X8_tray (l : Launch) (dC : Nat → ClassId) (dI : Nat → Nat → Nat) (cI cJ cII cJJ : ClassId) (sz g a0 a1 a2 a3 a4 a5 a6 a7 a8 a9 a10 a11 a12 a13 a14 a15 : Nat) (x0 : Int32) (h_x0 : 0 ≤ x0.toInt ∧ x0.toInt ≤ 3) (x1 : Int32) (h_x1 : 0 ≤ x1.toInt ∧ x1.toInt ≤ 20) : Met l yX8_tray (.code yX8_tray cX8_tray 4 (some .int) :: TT) ({ frames := 4, cells := 0, slots := 0, locals := 200 }) (PcS dC dI (TY cI cJ cII cJJ) [.ref a0, .int 3, .int x0, .int x1] [(a0, .inr (8, [.ref a6, .ref a7, .ref a8, .ref a1, .ref a9, .ref a10, .ref a11, .ref a12])), (a1, .inr (6, [.ref a4, .ref a2, .ref a3])), (a2, .inl (cI, 4, .inl (tb []))), (a3, .inl (cI, 4, .inl (tb [(-1), (-1), (-1), (-1)]))), (a4, .inl (cJJ, 4, .inr (.inr (.inr (.inr (tr [a13, a14, a15, a5])))))), (a5, .inl (cJ, 20, .inr (.inl (tbl []))))] sz 0 g) ((QcI dC dI (TY cI cJ cII cJJ) 1 []) (va_A [(a0, .inr (8, [.ref a6, .ref a7, .ref a8, .ref a1, .ref a9, .ref a10, .ref a11, .ref a12])), (a1, .inr (6, [.ref a4, .ref a2, .ref a3])), (a2, .inl (cI, 4, .inl (tb []))), (a3, .inl (cI, 4, .inl (tb [(-1), (-1), (-1), (-1)]))), (a4, .inl (cJJ, 4, .inr (.inr (.inr (.inr (tr [a13, a14, a15, a5])))))), (a5, .inl (cJ, 20, .inr (.inl (tbl []))))] sz)) 0 0 (va_A [(a0, .inr (8, [.ref a6, .ref a7, .ref a8, .ref a1, .ref a9, .ref a10, .ref a11, .ref a12])), (a1, .inr (6, [.ref a4, .ref a2, .ref a3])), (a2, .inl (cI, 4, .inl (tb []))), (a3, .inl (cI, 4, .inl (tb [(-1), (-1), (-1), (-1)]))), (a4, .inl (cJJ, 4, .inr (.inr (.inr (.inr (tr [a13, a14, a15, a5])))))), (a5, .inl (cJ, 20, .inr (.inl (tbl []))))] sz) := by
  refine SM.of (y := yX8_tray) (maxL := 4) (av := [.ref a0, .int 3, .int x0, .int x1]) (QcI dC dI (TY cI cJ cII cJJ) 1 []) (by decide +kernel) (Nat.le_of_ble_eq_true rfl) (fun p e s m below meth c A ls hx hb hr hml hown hts hk hnm hA hK hP hD hS hX hl => ?_)
  have hown : s.vm.findClass RX8 = some m.cls := hown
  have hl : lv_has ls 4 [(0, .ref a0), (1, .int 3), (2, .int x0), (3, .int x1)] := hl
  refine lv_aload_n hx hb dX8_tray_0 rfl (lv_at hl 0 rfl) ?_
  refine gf (k := 3) hx hb hts inX8 hown hK hP k_267 rfl (by decide) rfl 0 rfl (.ref a1) rfl dX8_tray_1 ?_
  refine lv_iload_n hx hb dX8_tray_4 rfl (lv_at hl 1 rfl) ?_
  refine kV_i (q0 := 0) ⟨hx, hb, hml, hown, hts⟩ hK hP hD hS hA hX cv_RX8_112 [1] [0, 2, 3, 4, 5] (wr := [(a0, .inr (8, [.ref a6, .ref a7, .ref a8, .ref a1, .ref a9, .ref a10, .ref a11, .ref a12])), (a2, .inl (cI, 4, .inl (tb []))), (a3, .inl (cI, 4, .inl (tb [(-1), (-1), (-1), (-1)]))), (a4, .inl (cJJ, 4, .inr (.inr (.inr (.inr (tr [a13, a14, a15, a5])))))), (a5, .inl (cJ, 20, .inr (.inl (tbl []))))]) rfl rfl rfl rfl (by decide) (c070_X6_isTray l dC dI cI cJ cII cJJ s.heap.size 0 a1 a4 a2 a3) ⟨by decide +kernel, by decide +kernel⟩ rfl rfl (Or.inl rfl) (rest := []) rfl rfl rfl hl.1 rfl (Nat.le_of_ble_eq_true rfl) dX8_tray_5 ⟨Nat.le_of_ble_eq_true rfl, Nat.le_of_ble_eq_true rfl⟩ (W' := [(a0, .inr (8, [.ref a6, .ref a7, .ref a8, .ref a1, .ref a9, .ref a10, .ref a11, .ref a12])), (a2, .inl (cI, 4, .inl (tb []))), (a3, .inl (cI, 4, .inl (tb [(-1), (-1), (-1), (-1)]))), (a4, .inl (cJJ, 4, .inr (.inr (.inr (.inr (tr [a13, a14, a15, a5])))))), (a5, .inl (cJ, 20, .inr (.inl (tbl [])))), (a1, .inr (6, [.ref a4, .ref a2, .ref a3]))]) rfl (fun H locs hP hD hS => ?_)
  refine t_if_ne hx hb dX8_tray_8 17 (by decide) (by decide +kernel) ?_
  refine lv_iload_n hx hb dX8_tray_17 rfl (lv_at hl 2 rfl) ?_
  refine f_if_lt hx hb dX8_tray_18 26 (by decide) (p_nlt (by rw [show (0 : Int32).toInt = 0 from by decide +kernel]; omega)) ?_
  refine lv_iload_n hx hb dX8_tray_21 rfl (lv_at hl 2 rfl) ?_
  refine lv_iconst (v := 3) hx hb dX8_tray_22 (by decide) ?_
  refine t_icmp_le hx hb dX8_tray_23 33 (by decide) (p_le (by rw [show (3 : Int32).toInt = 3 from by decide +kernel]; omega)) ?_
  refine lv_iload_n hx hb dX8_tray_33 rfl (lv_at hl 3 rfl) ?_
  refine t_if_ge hx hb dX8_tray_34 44 (by decide) (p_le (by rw [show (0 : Int32).toInt = 0 from by decide +kernel]; omega)) ?_
  refine lv_iload_n hx hb dX8_tray_44 rfl (lv_at hl 3 rfl) ?_
  refine lv_bipush (v := 20) hx hb dX8_tray_45 (by decide) ?_
  refine t_icmp_le hx hb dX8_tray_47 57 (by decide) (p_le (by rw [show (20 : Int32).toInt = 20 from by decide +kernel]; omega)) ?_
  refine lv_aload_n hx hb dX8_tray_57 rfl (lv_at hl 0 rfl) ?_
  refine gf (k := 3) hx hb hts inX8 hown hK hP k_267 rfl (by decide) rfl 0 rfl (.ref a1) rfl dX8_tray_58 ?_
  refine lv_iload_n hx hb dX8_tray_61 rfl (lv_at hl 1 rfl) ?_
  refine lv_iload_n hx hb dX8_tray_62 rfl (lv_at hl 2 rfl) ?_
  refine lv_iload_n hx hb dX8_tray_63 rfl (lv_at hl 3 rfl) ?_
  refine kV_v (q0 := 0) ⟨hx, hb, hml, hown, hts⟩ hK hP hD hS hA hX cv_RX8_115 [5, 1, 2, 3, 4] [0] (wr := [(a0, .inr (8, [.ref a6, .ref a7, .ref a8, .ref a1, .ref a9, .ref a10, .ref a11, .ref a12]))]) rfl rfl rfl rfl (by decide) (c071_X6_layOut l dC dI cI cJ cII cJJ H.size 0 a1 a2 a3 a4 a5 a13 a14 a15 x0 h_x0 x1 h_x1) ⟨by decide +kernel, by decide +kernel⟩ rfl rfl (Or.inl rfl) (rest := []) rfl rfl rfl hl.1 rfl (Nat.le_of_ble_eq_true rfl) dX8_tray_64 ⟨Nat.le_of_ble_eq_true rfl, Nat.le_of_ble_eq_true rfl⟩ (fun _ => rfl) (W' := [(a0, .inr (8, [.ref a6, .ref a7, .ref a8, .ref a1, .ref a9, .ref a10, .ref a11, .ref a12])), (a1, .inr (6, [.ref a4, .ref a2, .ref a3])), (a2, .inl (cI, 4, .inl (tb [0, 0, 0, x0]))), (a3, .inl (cI, 4, .inl (tb [(-1), (-1), (-1), x1]))), (a4, .inl (cJJ, 4, .inr (.inr (.inr (.inr (tr [a13, a14, a15, a5])))))), (a5, .inl (cJ, 20, .inr (.inl (tbl [0, 0, 0, 0, 0, 0, 0, 0, 0, 0, 0, 0, 0, 0, 0, 0, 0, 0, 0, 0]))))]) rfl (fun H locs hP hD hS => ?_)
  refine lv_iconst (v := 1) hx hb dX8_tray_67 (by decide) ?_
  exact r_i hx hb hr hk hK (hP.sub [] rfl) (hD.sub [] rfl rfl) hS dX8_tray_68
set_option maxRecDepth 100000 in
set_option maxHeartbeats 4000000 in
theorem c072_X8_cell (l : Launch) (dC : Nat → ClassId) (dI : Nat → Nat → Nat) (cI cJ cII cJJ : ClassId) (sz g a0 a1 a2 a3 a4 a5 a6 a7 a8 a9 a10 a11 : Nat) (x0 : Int32) (h_x0 : -2147483648 ≤ x0.toInt ∧ x0.toInt ≤ -1) (x1 : Int32) (h_x1 : -2147483648 ≤ x1.toInt ∧ x1.toInt ≤ 2147483647) (x2 : Int64) (h_x2 : -9223372036854775808 ≤ x2.toInt ∧ x2.toInt ≤ 9223372036854775807) : Met l yX8_cell (.code yX8_cell cX8_cell 5 (some .int) :: TT) ({ frames := 3, cells := 0, slots := 0, locals := 140 }) (PcS dC dI (TY cI cJ cII cJJ) [.ref a0, .int x0, .int x1, .long x2] [(a0, .inr (8, [.ref a3, .ref a4, .ref a5, .ref a1, .ref a6, .ref a7, .ref a8, .ref a2])), (a1, .inr (6, [.ref a9, .ref a10, .ref a11])), (a2, .inl (cI, 8, .inl (tb [])))] sz 0 g) ((QcI dC dI (TY cI cJ cII cJJ) (-1) []) (va_A [(a0, .inr (8, [.ref a3, .ref a4, .ref a5, .ref a1, .ref a6, .ref a7, .ref a8, .ref a2])), (a1, .inr (6, [.ref a9, .ref a10, .ref a11])), (a2, .inl (cI, 8, .inl (tb [])))] sz)) 0 0 (va_A [(a0, .inr (8, [.ref a3, .ref a4, .ref a5, .ref a1, .ref a6, .ref a7, .ref a8, .ref a2])), (a1, .inr (6, [.ref a9, .ref a10, .ref a11])), (a2, .inl (cI, 8, .inl (tb [])))] sz) := by
  refine SM.of (y := yX8_cell) (maxL := 5) (av := [.ref a0, .int x0, .int x1, .long x2]) (QcI dC dI (TY cI cJ cII cJJ) (-1) []) (by decide +kernel) (Nat.le_of_ble_eq_true rfl) (fun p e s m below meth c A ls hx hb hr hml hown hts hk hnm hA hK hP hD hS hX hl => ?_)
  have hown : s.vm.findClass RX8 = some m.cls := hown
  have hl : lv_has ls 5 [(0, .ref a0), (1, .int x0), (2, .int x1), (3, .long x2)] := hl
  refine lv_aload_n hx hb dX8_cell_0 rfl (lv_at hl 0 rfl) ?_
  refine gf (k := 3) hx hb hts inX8 hown hK hP k_267 rfl (by decide) rfl 0 rfl (.ref a1) rfl dX8_cell_1 ?_
  refine lv_iload_n hx hb dX8_cell_4 rfl (lv_at hl 1 rfl) ?_
  refine kV_i (q0 := 0) ⟨hx, hb, hml, hown, hts⟩ hK hP hD hS hA hX cv_RX8_112 [1] [0, 2] (wr := [(a0, .inr (8, [.ref a3, .ref a4, .ref a5, .ref a1, .ref a6, .ref a7, .ref a8, .ref a2])), (a2, .inl (cI, 8, .inl (tb [])))]) rfl rfl rfl rfl (by decide) (c050_X6_isTray l dC dI cI cJ cII cJJ s.heap.size 0 a1 a9 a10 a11 x0 h_x0) ⟨by decide +kernel, by decide +kernel⟩ rfl rfl (Or.inl rfl) (rest := []) rfl rfl rfl hl.1 rfl (Nat.le_of_ble_eq_true rfl) dX8_cell_5 ⟨Nat.le_of_ble_eq_true rfl, Nat.le_of_ble_eq_true rfl⟩ (W' := [(a0, .inr (8, [.ref a3, .ref a4, .ref a5, .ref a1, .ref a6, .ref a7, .ref a8, .ref a2])), (a2, .inl (cI, 8, .inl (tb []))), (a1, .inr (6, [.ref a9, .ref a10, .ref a11]))]) rfl (fun H locs hP hD hS => ?_)
  refine f_if_ne hx hb dX8_cell_8 17 (by decide) (by decide +kernel) ?_
  refine lv_aload_n hx hb dX8_cell_11 rfl (lv_at hl 0 rfl) ?_
  refine lv_iconst (v := (-1)) hx hb dX8_cell_12 (by decide) ?_
  refine kV_i (q0 := 0) ⟨hx, hb, hml, hown, hts⟩ hK hP hD hS hA hX cv_RX8_53 [0, 1] [2] (wr := [(a1, .inr (6, [.ref a9, .ref a10, .ref a11]))]) rfl rfl rfl rfl (by decide) (c027_X8_refuse l dC dI cI cJ cII cJJ H.size 0 a0 a2 a3 a4 a5 a1 a6 a7 a8) ⟨by decide +kernel, by decide +kernel⟩ rfl rfl (Or.inl rfl) (rest := []) rfl rfl rfl hl.1 rfl (Nat.le_of_ble_eq_true rfl) dX8_cell_13 ⟨Nat.le_of_ble_eq_true rfl, Nat.le_of_ble_eq_true rfl⟩ (W' := [(a1, .inr (6, [.ref a9, .ref a10, .ref a11])), (a0, .inr (8, [.ref a3, .ref a4, .ref a5, .ref a1, .ref a6, .ref a7, .ref a8, .ref a2])), (a2, .inl (cI, 8, .inl (tb [0, 1])))]) rfl (fun H locs hP hD hS => ?_)
  exact r_i hx hb hr hk hK (hP.sub [] rfl) (hD.sub [] rfl rfl) hS dX8_cell_16
set_option maxRecDepth 100000 in
set_option maxHeartbeats 4000000 in
theorem c073_X8_cell (l : Launch) (dC : Nat → ClassId) (dI : Nat → Nat → Nat) (cI cJ cII cJJ : ClassId) (sz g a0 a1 a2 a3 a4 a5 a6 a7 a8 a9 a10 a11 : Nat) (x0 : Int32) (h_x0 : 4 ≤ x0.toInt ∧ x0.toInt ≤ 2147483647) (x1 : Int32) (h_x1 : -2147483648 ≤ x1.toInt ∧ x1.toInt ≤ 2147483647) (x2 : Int64) (h_x2 : -9223372036854775808 ≤ x2.toInt ∧ x2.toInt ≤ 9223372036854775807) : Met l yX8_cell (.code yX8_cell cX8_cell 5 (some .int) :: TT) ({ frames := 3, cells := 0, slots := 0, locals := 140 }) (PcS dC dI (TY cI cJ cII cJJ) [.ref a0, .int x0, .int x1, .long x2] [(a0, .inr (8, [.ref a3, .ref a4, .ref a5, .ref a1, .ref a6, .ref a7, .ref a8, .ref a2])), (a1, .inr (6, [.ref a9, .ref a10, .ref a11])), (a2, .inl (cI, 8, .inl (tb [])))] sz 0 g) ((QcI dC dI (TY cI cJ cII cJJ) (-1) []) (va_A [(a0, .inr (8, [.ref a3, .ref a4, .ref a5, .ref a1, .ref a6, .ref a7, .ref a8, .ref a2])), (a1, .inr (6, [.ref a9, .ref a10, .ref a11])), (a2, .inl (cI, 8, .inl (tb [])))] sz)) 0 0 (va_A [(a0, .inr (8, [.ref a3, .ref a4, .ref a5, .ref a1, .ref a6, .ref a7, .ref a8, .ref a2])), (a1, .inr (6, [.ref a9, .ref a10, .ref a11])), (a2, .inl (cI, 8, .inl (tb [])))] sz) := by
  refine SM.of (y := yX8_cell) (maxL := 5) (av := [.ref a0, .int x0, .int x1, .long x2]) (QcI dC dI (TY cI cJ cII cJJ) (-1) []) (by decide +kernel) (Nat.le_of_ble_eq_true rfl) (fun p e s m below meth c A ls hx hb hr hml hown hts hk hnm hA hK hP hD hS hX hl => ?_)
  have hown : s.vm.findClass RX8 = some m.cls := hown
  have hl : lv_has ls 5 [(0, .ref a0), (1, .int x0), (2, .int x1), (3, .long x2)] := hl
  refine lv_aload_n hx hb dX8_cell_0 rfl (lv_at hl 0 rfl) ?_
  refine gf (k := 3) hx hb hts inX8 hown hK hP k_267 rfl (by decide) rfl 0 rfl (.ref a1) rfl dX8_cell_1 ?_
  refine lv_iload_n hx hb dX8_cell_4 rfl (lv_at hl 1 rfl) ?_
  refine kV_i (q0 := 0) ⟨hx, hb, hml, hown, hts⟩ hK hP hD hS hA hX cv_RX8_112 [1] [0, 2] (wr := [(a0, .inr (8, [.ref a3, .ref a4, .ref a5, .ref a1, .ref a6, .ref a7, .ref a8, .ref a2])), (a2, .inl (cI, 8, .inl (tb [])))]) rfl rfl rfl rfl (by decide) (c052_X6_isTray l dC dI cI cJ cII cJJ s.heap.size 0 a1 a9 a10 a11 x0 h_x0) ⟨by decide +kernel, by decide +kernel⟩ rfl rfl (Or.inl rfl) (rest := []) rfl rfl rfl hl.1 rfl (Nat.le_of_ble_eq_true rfl) dX8_cell_5 ⟨Nat.le_of_ble_eq_true rfl, Nat.le_of_ble_eq_true rfl⟩ (W' := [(a0, .inr (8, [.ref a3, .ref a4, .ref a5, .ref a1, .ref a6, .ref a7, .ref a8, .ref a2])), (a2, .inl (cI, 8, .inl (tb []))), (a1, .inr (6, [.ref a9, .ref a10, .ref a11]))]) rfl (fun H locs hP hD hS => ?_)
  refine f_if_ne hx hb dX8_cell_8 17 (by decide) (by decide +kernel) ?_
  refine lv_aload_n hx hb dX8_cell_11 rfl (lv_at hl 0 rfl) ?_
  refine lv_iconst (v := (-1)) hx hb dX8_cell_12 (by decide) ?_
  refine kV_i (q0 := 0) ⟨hx, hb, hml, hown, hts⟩ hK hP hD hS hA hX cv_RX8_53 [0, 1] [2] (wr := [(a1, .inr (6, [.ref a9, .ref a10, .ref a11]))]) rfl rfl rfl rfl (by decide) (c027_X8_refuse l dC dI cI cJ cII cJJ H.size 0 a0 a2 a3 a4 a5 a1 a6 a7 a8) ⟨by decide +kernel, by decide +kernel⟩ rfl rfl (Or.inl rfl) (rest := []) rfl rfl rfl hl.1 rfl (Nat.le_of_ble_eq_true rfl) dX8_cell_13 ⟨Nat.le_of_ble_eq_true rfl, Nat.le_of_ble_eq_true rfl⟩ (W' := [(a1, .inr (6, [.ref a9, .ref a10, .ref a11])), (a0, .inr (8, [.ref a3, .ref a4, .ref a5, .ref a1, .ref a6, .ref a7, .ref a8, .ref a2])), (a2, .inl (cI, 8, .inl (tb [0, 1])))]) rfl (fun H locs hP hD hS => ?_)
  exact r_i hx hb hr hk hK (hP.sub [] rfl) (hD.sub [] rfl rfl) hS dX8_cell_16
set_option maxRecDepth 100000 in
set_option maxHeartbeats 4000000 in
theorem c075_X6_isMissing (l : Launch) (dC : Nat → ClassId) (dI : Nat → Nat → Nat) (cI cJ cII cJJ : ClassId) (sz g a0 a1 a2 a3 : Nat) : Met l yX6_isMissing (.code yX6_isMissing cX6_isMissing 2 (some .boolean) :: TT) ({ frames := 2, cells := 0, slots := 0, locals := 80 }) (PcS dC dI (TY cI cJ cII cJJ) [.ref a0, .int 0] [(a0, .inr (6, [.ref a2, .ref a3, .ref a1])), (a1, .inl (cI, 4, .inl (tb [(-1), (-1), (-1), (-1)])))] sz 0 g) ((QcI dC dI (TY cI cJ cII cJJ) 1 [(a0, .inr (6, [.ref a2, .ref a3, .ref a1])), (a1, .inl (cI, 4, .inl (tb [(-1), (-1), (-1), (-1)])))]) (va_A [(a0, .inr (6, [.ref a2, .ref a3, .ref a1])), (a1, .inl (cI, 4, .inl (tb [(-1), (-1), (-1), (-1)])))] sz)) 0 0 (va_A [(a0, .inr (6, [.ref a2, .ref a3, .ref a1])), (a1, .inl (cI, 4, .inl (tb [(-1), (-1), (-1), (-1)])))] sz) := by
  refine SM.of (y := yX6_isMissing) (maxL := 2) (av := [.ref a0, .int 0]) (QcI dC dI (TY cI cJ cII cJJ) 1 [(a0, .inr (6, [.ref a2, .ref a3, .ref a1])), (a1, .inl (cI, 4, .inl (tb [(-1), (-1), (-1), (-1)])))]) (by decide +kernel) (Nat.le_of_ble_eq_true rfl) (fun p e s m below meth c A ls hx hb hr hml hown hts hk hnm hA hK hP hD hS hX hl => ?_)
  have hown : s.vm.findClass RX6 = some m.cls := hown
  have hl : lv_has ls 2 [(0, .ref a0), (1, .int 0)] := hl
  refine lv_aload_n hx hb dX6_isMissing_0 rfl (lv_at hl 0 rfl) ?_
  refine gf (k := 2) hx hb hts inX6 hown hK hP k_255 rfl (by decide) rfl 0 rfl (.ref a1) rfl dX6_isMissing_1 ?_
  refine lv_iload_n hx hb dX6_isMissing_4 rfl (lv_at hl 1 rfl) ?_
  refine ld_i hx hb hK hP 1 rfl (vin (by decide +kernel)) dX6_isMissing_5 (-1) rfl ?_
  refine lv_iconst (v := (-1)) hx hb dX6_isMissing_6 (by decide) ?_
  refine f_icmp_ne hx hb dX6_isMissing_7 14 (by decide) (by decide +kernel) ?_
  refine lv_iconst (v := 1) hx hb dX6_isMissing_10 (by decide) ?_
  refine lv_goto (tgt := 15) hx hb dX6_isMissing_11 (by decide) ?_
  exact r_z hx hb hr hk hK hP hD hS dX6_isMissing_15 rfl
set_option maxRecDepth 100000 in
set_option maxHeartbeats 4000000 in
theorem c076_X8_refuse (l : Launch) (dC : Nat → ClassId) (dI : Nat → Nat → Nat) (cI cJ cII cJJ : ClassId) (sz g a0 a1 a2 a3 a4 a5 a6 a7 a8 : Nat) : Met l yX8_refuse (.code yX8_refuse cX8_refuse 2 (some .int) :: TT) ({ frames := 2, cells := 0, slots := 0, locals := 80 }) (PcS dC dI (TY cI cJ cII cJJ) [.ref a0, .int (-7)] [(a0, .inr (8, [.ref a2, .ref a3, .ref a4, .ref a5, .ref a6, .ref a7, .ref a8, .ref a1])), (a1, .inl (cI, 8, .inl (tb [])))] sz 0 g) ((QcI dC dI (TY cI cJ cII cJJ) (-7) [(a0, .inr (8, [.ref a2, .ref a3, .ref a4, .ref a5, .ref a6, .ref a7, .ref a8, .ref a1])), (a1, .inl (cI, 8, .inl (tb [0, 0, 0, 0, 0, 0, 0, 1])))]) (va_A [(a0, .inr (8, [.ref a2, .ref a3, .ref a4, .ref a5, .ref a6, .ref a7, .ref a8, .ref a1])), (a1, .inl (cI, 8, .inl (tb [])))] sz)) 0 0 (va_A [(a0, .inr (8, [.ref a2, .ref a3, .ref a4, .ref a5, .ref a6, .ref a7, .ref a8, .ref a1])), (a1, .inl (cI, 8, .inl (tb [])))] sz) := by
  refine SM.of (y := yX8_refuse) (maxL := 2) (av := [.ref a0, .int (-7)]) (QcI dC dI (TY cI cJ cII cJJ) (-7) [(a0, .inr (8, [.ref a2, .ref a3, .ref a4, .ref a5, .ref a6, .ref a7, .ref a8, .ref a1])), (a1, .inl (cI, 8, .inl (tb [0, 0, 0, 0, 0, 0, 0, 1])))]) (by decide +kernel) (Nat.le_of_ble_eq_true rfl) (fun p e s m below meth c A ls hx hb hr hml hown hts hk hnm hA hK hP hD hS hX hl => ?_)
  have hown : s.vm.findClass RX8 = some m.cls := hown
  have hl : lv_has ls 2 [(0, .ref a0), (1, .int (-7))] := hl
  refine lv_iload_n hx hb dX8_refuse_0 rfl (lv_at hl 1 rfl) ?_
  refine lv_iconst (v := (-1)) hx hb dX8_refuse_1 (by decide) ?_
  refine f_icmp_gt hx hb dX8_refuse_2 22 (by decide) (by decide +kernel) ?_
  refine lv_iload_n hx hb dX8_refuse_5 rfl (lv_at hl 1 rfl) ?_
  refine lv_bipush (v := (-7)) hx hb dX8_refuse_6 (by decide) ?_
  refine f_icmp_lt hx hb dX8_refuse_8 22 (by decide) (by decide +kernel) ?_
  refine lv_aload_n hx hb dX8_refuse_11 rfl (lv_at hl 0 rfl) ?_
  refine gf (k := 7) hx hb hts inX8 hown hK hP k_271 rfl (by decide) rfl 0 rfl (.ref a1) rfl dX8_refuse_12 ?_
  refine lv_iload_n hx hb dX8_refuse_15 rfl (lv_at hl 1 rfl) ?_
  refine v_ineg hx hb dX8_refuse_16 7 (by decide +kernel) ?_
  refine lv_dup2_11 hx hb dX8_refuse_17 rfl rfl ?_
  refine ld_i hx hb hK hP 1 rfl (vin (by decide +kernel)) dX8_refuse_18 0 rfl ?_
  refine lv_iconst (v := 1) hx hb dX8_refuse_19 (by decide) ?_
  refine v_iadd hx hb dX8_refuse_20 1 (by decide +kernel) ?_
  refine st_i hx hb hK hP hD hS 1 rfl (vin (by decide +kernel)) dX8_refuse_21 (L' := [0, 0, 0, 0, 0, 0, 0, 1]) rfl (W' := [(a0, .inr (8, [.ref a2, .ref a3, .ref a4, .ref a5, .ref a6, .ref a7, .ref a8, .ref a1])), (a1, .inl (cI, 8, .inl (tb [0, 0, 0, 0, 0, 0, 0, 1])))]) rfl (fun H locs hP hD hS => ?_)
  refine lv_iload_n hx hb dX8_refuse_22 rfl (lv_at hl 1 rfl) ?_
  exact r_i hx hb hr hk hK hP hD hS dX8_refuse_23
set_option maxRecDepth 100000 in
set_option maxHeartbeats 4000000 in
theorem c074_X8_cell (l : Launch) (dC : Nat → ClassId) (dI : Nat → Nat → Nat) (cI cJ cII cJJ : ClassId) (sz g a0 a1 a2 a3 a4 a5 a6 a7 a8 a9 a10 a11 : Nat) (x0 : Int32) (h_x0 : -2147483648 ≤ x0.toInt ∧ x0.toInt ≤ 2147483647) (x1 : Int64) (h_x1 : -9223372036854775808 ≤ x1.toInt ∧ x1.toInt ≤ 9223372036854775807) : Met l yX8_cell (.code yX8_cell cX8_cell 5 (some .int) :: TT) ({ frames := 3, cells := 0, slots := 0, locals := 140 }) (PcS dC dI (TY cI cJ cII cJJ) [.ref a0, .int 0, .int x0, .long x1] [(a0, .inr (8, [.ref a4, .ref a5, .ref a6, .ref a1, .ref a7, .ref a8, .ref a9, .ref a3])), (a1, .inr (6, [.ref a10, .ref a11, .ref a2])), (a2, .inl (cI, 4, .inl (tb [(-1), (-1), (-1), (-1)]))), (a3, .inl (cI, 8, .inl (tb [])))] sz 0 g) ((QcI dC dI (TY cI cJ cII cJJ) (-7) []) (va_A [(a0, .inr (8, [.ref a4, .ref a5, .ref a6, .ref a1, .ref a7, .ref a8, .ref a9, .ref a3])), (a1, .inr (6, [.ref a10, .ref a11, .ref a2])), (a2, .inl (cI, 4, .inl (tb [(-1), (-1), (-1), (-1)]))), (a3, .inl (cI, 8, .inl (tb [])))] sz)) 0 0 (va_A [(a0, .inr (8, [.ref a4, .ref a5, .ref a6, .ref a1, .ref a7, .ref a8, .ref a9, .ref a3])), (a1, .inr (6, [.ref a10, .ref a11, .ref a2])), (a2, .inl (cI, 4, .inl (tb [(-1), (-1), (-1), (-1)]))), (a3, .inl (cI, 8, .inl (tb [])))] sz) := by
  refine SM.of (y := yX8_cell) (maxL := 5) (av := [.ref a0, .int 0, .int x0, .long x1]) (QcI dC dI (TY cI cJ cII cJJ) (-7) []) (by decide +kernel) (Nat.le_of_ble_eq_true rfl) (fun p e s m below meth c A ls hx hb hr hml hown hts hk hnm hA hK hP hD hS hX hl => ?_)
  have hown : s.vm.findClass RX8 = some m.cls := hown
  have hl : lv_has ls 5 [(0, .ref a0), (1, .int 0), (2, .int x0), (3, .long x1)] := hl
  refine lv_aload_n hx hb dX8_cell_0 rfl (lv_at hl 0 rfl) ?_
  refine gf (k := 3) hx hb hts inX8 hown hK hP k_267 rfl (by decide) rfl 0 rfl (.ref a1) rfl dX8_cell_1 ?_
  refine lv_iload_n hx hb dX8_cell_4 rfl (lv_at hl 1 rfl) ?_
  refine kV_i (q0 := 0) ⟨hx, hb, hml, hown, hts⟩ hK hP hD hS hA hX cv_RX8_112 [1] [0, 2, 3] (wr := [(a0, .inr (8, [.ref a4, .ref a5, .ref a6, .ref a1, .ref a7, .ref a8, .ref a9, .ref a3])), (a2, .inl (cI, 4, .inl (tb [(-1), (-1), (-1), (-1)]))), (a3, .inl (cI, 8, .inl (tb [])))]) rfl rfl rfl rfl (by decide) (c060_X6_isTray l dC dI cI cJ cII cJJ s.heap.size 0 a1 a10 a11 a2) ⟨by decide +kernel, by decide +kernel⟩ rfl rfl (Or.inl rfl) (rest := []) rfl rfl rfl hl.1 rfl (Nat.le_of_ble_eq_true rfl) dX8_cell_5 ⟨Nat.le_of_ble_eq_true rfl, Nat.le_of_ble_eq_true rfl⟩ (W' := [(a0, .inr (8, [.ref a4, .ref a5, .ref a6, .ref a1, .ref a7, .ref a8, .ref a9, .ref a3])), (a2, .inl (cI, 4, .inl (tb [(-1), (-1), (-1), (-1)]))), (a3, .inl (cI, 8, .inl (tb []))), (a1, .inr (6, [.ref a10, .ref a11, .ref a2]))]) rfl (fun H locs hP hD hS => ?_)
  refine t_if_ne hx hb dX8_cell_8 17 (by decide) (by decide +kernel) ?_
  refine lv_aload_n hx hb dX8_cell_17 rfl (lv_at hl 0 rfl) ?_
  refine gf (k := 3) hx hb hts inX8 hown hK hP k_267 rfl (by decide) rfl 0 rfl (.ref a1) rfl dX8_cell_18 ?_
  refine lv_iload_n hx hb dX8_cell_21 rfl (lv_at hl 1 rfl) ?_
  refine kV_i (q0 := 0) ⟨hx, hb, hml, hown, hts⟩ hK hP hD hS hA hX cv_RX8_118 [3, 1] [0, 2] (wr := [(a0, .inr (8, [.ref a4, .ref a5, .ref a6, .ref a1, .ref a7, .ref a8, .ref a9, .ref a3])), (a3, .inl (cI, 8, .inl (tb [])))]) rfl rfl rfl rfl (by decide) (c075_X6_isMissing l dC dI cI cJ cII cJJ H.size 0 a1 a2 a10 a11) ⟨by decide +kernel, by decide +kernel⟩ rfl rfl (Or.inl rfl) (rest := []) rfl rfl rfl hl.1 rfl (Nat.le_of_ble_eq_true rfl) dX8_cell_22 ⟨Nat.le_of_ble_eq_true rfl, Nat.le_of_ble_eq_true rfl⟩ (W' := [(a0, .inr (8, [.ref a4, .ref a5, .ref a6, .ref a1, .ref a7, .ref a8, .ref a9, .ref a3])), (a3, .inl (cI, 8, .inl (tb []))), (a1, .inr (6, [.ref a10, .ref a11, .ref a2])), (a2, .inl (cI, 4, .inl (tb [(-1), (-1), (-1), (-1)])))]) rfl (fun H locs hP hD hS => ?_)
  refine f_if_eq hx hb dX8_cell_25 35 (by decide) (by decide +kernel) ?_
  refine lv_aload_n hx hb dX8_cell_28 rfl (lv_at hl 0 rfl) ?_
  refine lv_bipush (v := (-7)) hx hb dX8_cell_29 (by decide) ?_
  refine kV_i (q0 := 0) ⟨hx, hb, hml, hown, hts⟩ hK hP hD hS hA hX cv_RX8_53 [0, 1] [2, 3] (wr := [(a1, .inr (6, [.ref a10, .ref a11, .ref a2])), (a2, .inl (cI, 4, .inl (tb [(-1), (-1), (-1), (-1)])))]) rfl rfl rfl rfl (by decide) (c076_X8_refuse l dC dI cI cJ cII cJJ H.size 0 a0 a3 a4 a5 a6 a1 a7 a8 a9) ⟨by decide +kernel, by decide +kernel⟩ rfl rfl (Or.inl rfl) (rest := []) rfl rfl rfl hl.1 rfl (Nat.le_of_ble_eq_true rfl) dX8_cell_31 ⟨Nat.le_of_ble_eq_true rfl, Nat.le_of_ble_eq_true rfl⟩ (W' := [(a1, .inr (6, [.ref a10, .ref a11, .ref a2])), (a2, .inl (cI, 4, .inl (tb [(-1), (-1), (-1), (-1)]))), (a0, .inr (8, [.ref a4, .ref a5, .ref a6, .ref a1, .ref a7, .ref a8, .ref a9, .ref a3])), (a3, .inl (cI, 8, .inl (tb [0, 0, 0, 0, 0, 0, 0, 1])))]) rfl (fun H locs hP hD hS => ?_)
  exact r_i hx hb hr hk hK (hP.sub [] rfl) (hD.sub [] rfl rfl) hS dX8_cell_34
set_option maxRecDepth 100000 in
set_option maxHeartbeats 4000000 in
theorem c078_X6_isMissing (l : Launch) (dC : Nat → ClassId) (dI : Nat → Nat → Nat) (cI cJ cII cJJ : ClassId) (sz g a0 a1 a2 a3 : Nat) : Met l yX6_isMissing (.code yX6_isMissing cX6_isMissing 2 (some .boolean) :: TT) ({ frames := 2, cells := 0, slots := 0, locals := 80 }) (PcS dC dI (TY cI cJ cII cJJ) [.ref a0, .int 1] [(a0, .inr (6, [.ref a2, .ref a3, .ref a1])), (a1, .inl (cI, 4, .inl (tb [(-1), (-1), (-1), (-1)])))] sz 0 g) ((QcI dC dI (TY cI cJ cII cJJ) 1 [(a0, .inr (6, [.ref a2, .ref a3, .ref a1])), (a1, .inl (cI, 4, .inl (tb [(-1), (-1), (-1), (-1)])))]) (va_A [(a0, .inr (6, [.ref a2, .ref a3, .ref a1])), (a1, .inl (cI, 4, .inl (tb [(-1), (-1), (-1), (-1)])))] sz)) 0 0 (va_A [(a0, .inr (6, [.ref a2, .ref a3, .ref a1])), (a1, .inl (cI, 4, .inl (tb [(-1), (-1), (-1), (-1)])))] sz) := by
  refine SM.of (y := yX6_isMissing) (maxL := 2) (av := [.ref a0, .int 1]) (QcI dC dI (TY cI cJ cII cJJ) 1 [(a0, .inr (6, [.ref a2, .ref a3, .ref a1])), (a1, .inl (cI, 4, .inl (tb [(-1), (-1), (-1), (-1)])))]) (by decide +kernel) (Nat.le_of_ble_eq_true rfl) (fun p e s m below meth c A ls hx hb hr hml hown hts hk hnm hA hK hP hD hS hX hl => ?_)
  have hown : s.vm.findClass RX6 = some m.cls := hown
  have hl : lv_has ls 2 [(0, .ref a0), (1, .int 1)] := hl
  refine lv_aload_n hx hb dX6_isMissing_0 rfl (lv_at hl 0 rfl) ?_
  refine gf (k := 2) hx hb hts inX6 hown hK hP k_255 rfl (by decide) rfl 0 rfl (.ref a1) rfl dX6_isMissing_1 ?_
  refine lv_iload_n hx hb dX6_isMissing_4 rfl (lv_at hl 1 rfl) ?_
  refine ld_i hx hb hK hP 1 rfl (vin (by decide +kernel)) dX6_isMissing_5 (-1) rfl ?_
  refine lv_iconst (v := (-1)) hx hb dX6_isMissing_6 (by decide) ?_
  refine f_icmp_ne hx hb dX6_isMissing_7 14 (by decide) (by decide +kernel) ?_
  refine lv_iconst (v := 1) hx hb dX6_isMissing_10 (by decide) ?_
  refine lv_goto (tgt := 15) hx hb dX6_isMissing_11 (by decide) ?_
  exact r_z hx hb hr hk hK hP hD hS dX6_isMissing_15 rfl
set_option maxRecDepth 100000 in
set_option maxHeartbeats 4000000 in
theorem c077_X8_cell (l : Launch) (dC : Nat → ClassId) (dI : Nat → Nat → Nat) (cI cJ cII cJJ : ClassId) (sz g a0 a1 a2 a3 a4 a5 a6 a7 a8 a9 a10 a11 : Nat) (x0 : Int32) (h_x0 : -2147483648 ≤ x0.toInt ∧ x0.toInt ≤ 2147483647) (x1 : Int64) (h_x1 : -9223372036854775808 ≤ x1.toInt ∧ x1.toInt ≤ 9223372036854775807) : Met l yX8_cell (.code yX8_cell cX8_cell 5 (some .int) :: TT) ({ frames := 3, cells := 0, slots := 0, locals := 140 }) (PcS dC dI (TY cI cJ cII cJJ) [.ref a0, .int 1, .int x0, .long x1] [(a0, .inr (8, [.ref a4, .ref a5, .ref a6, .ref a1, .ref a7, .ref a8, .ref a9, .ref a3])), (a1, .inr (6, [.ref a10, .ref a11, .ref a2])), (a2, .inl (cI, 4, .inl (tb [(-1), (-1), (-1), (-1)]))), (a3, .inl (cI, 8, .inl (tb [])))] sz 0 g) ((QcI dC dI (TY cI cJ cII cJJ) (-7) []) (va_A [(a0, .inr (8, [.ref a4, .ref a5, .ref a6, .ref a1, .ref a7, .ref a8, .ref a9, .ref a3])), (a1, .inr (6, [.ref a10, .ref a11, .ref a2])), (a2, .inl (cI, 4, .inl (tb [(-1), (-1), (-1), (-1)]))), (a3, .inl (cI, 8, .inl (tb [])))] sz)) 0 0 (va_A [(a0, .inr (8, [.ref a4, .ref a5, .ref a6, .ref a1, .ref a7, .ref a8, .ref a9, .ref a3])), (a1, .inr (6, [.ref a10, .ref a11, .ref a2])), (a2, .inl (cI, 4, .inl (tb [(-1), (-1), (-1), (-1)]))), (a3, .inl (cI, 8, .inl (tb [])))] sz) := by
  refine SM.of (y := yX8_cell) (maxL := 5) (av := [.ref a0, .int 1, .int x0, .long x1]) (QcI dC dI (TY cI cJ cII cJJ) (-7) []) (by decide +kernel) (Nat.le_of_ble_eq_true rfl) (fun p e s m below meth c A ls hx hb hr hml hown hts hk hnm hA hK hP hD hS hX hl => ?_)
  have hown : s.vm.findClass RX8 = some m.cls := hown
  have hl : lv_has ls 5 [(0, .ref a0), (1, .int 1), (2, .int x0), (3, .long x1)] := hl
  refine lv_aload_n hx hb dX8_cell_0 rfl (lv_at hl 0 rfl) ?_
  refine gf (k := 3) hx hb hts inX8 hown hK hP k_267 rfl (by decide) rfl 0 rfl (.ref a1) rfl dX8_cell_1 ?_
  refine lv_iload_n hx hb dX8_cell_4 rfl (lv_at hl 1 rfl) ?_
  refine kV_i (q0 := 0) ⟨hx, hb, hml, hown, hts⟩ hK hP hD hS hA hX cv_RX8_112 [1] [0, 2, 3] (wr := [(a0, .inr (8, [.ref a4, .ref a5, .ref a6, .ref a1, .ref a7, .ref a8, .ref a9, .ref a3])), (a2, .inl (cI, 4, .inl (tb [(-1), (-1), (-1), (-1)]))), (a3, .inl (cI, 8, .inl (tb [])))]) rfl rfl rfl rfl (by decide) (c064_X6_isTray l dC dI cI cJ cII cJJ s.heap.size 0 a1 a10 a11 a2) ⟨by decide +kernel, by decide +kernel⟩ rfl rfl (Or.inl rfl) (rest := []) rfl rfl rfl hl.1 rfl (Nat.le_of_ble_eq_true rfl) dX8_cell_5 ⟨Nat.le_of_ble_eq_true rfl, Nat.le_of_ble_eq_true rfl⟩ (W' := [(a0, .inr (8, [.ref a4, .ref a5, .ref a6, .ref a1, .ref a7, .ref a8, .ref a9, .ref a3])), (a2, .inl (cI, 4, .inl (tb [(-1), (-1), (-1), (-1)]))), (a3, .inl (cI, 8, .inl (tb []))), (a1, .inr (6, [.ref a10, .ref a11, .ref a2]))]) rfl (fun H locs hP hD hS => ?_)
  refine t_if_ne hx hb dX8_cell_8 17 (by decide) (by decide +kernel) ?_
  refine lv_aload_n hx hb dX8_cell_17 rfl (lv_at hl 0 rfl) ?_
  refine gf (k := 3) hx hb hts inX8 hown hK hP k_267 rfl (by decide) rfl 0 rfl (.ref a1) rfl dX8_cell_18 ?_
  refine lv_iload_n hx hb dX8_cell_21 rfl (lv_at hl 1 rfl) ?_
  refine kV_i (q0 := 0) ⟨hx, hb, hml, hown, hts⟩ hK hP hD hS hA hX cv_RX8_118 [3, 1] [0, 2] (wr := [(a0, .inr (8, [.ref a4, .ref a5, .ref a6, .ref a1, .ref a7, .ref a8, .ref a9, .ref a3])), (a3, .inl (cI, 8, .inl (tb [])))]) rfl rfl rfl rfl (by decide) (c078_X6_isMissing l dC dI cI cJ cII cJJ H.size 0 a1 a2 a10 a11) ⟨by decide +kernel, by decide +kernel⟩ rfl rfl (Or.inl rfl) (rest := []) rfl rfl rfl hl.1 rfl (Nat.le_of_ble_eq_true rfl) dX8_cell_22 ⟨Nat.le_of_ble_eq_true rfl, Nat.le_of_ble_eq_true rfl⟩ (W' := [(a0, .inr (8, [.ref a4, .ref a5, .ref a6, .ref a1, .ref a7, .ref a8, .ref a9, .ref a3])), (a3, .inl (cI, 8, .inl (tb []))), (a1, .inr (6, [.ref a10, .ref a11, .ref a2])), (a2, .inl (cI, 4, .inl (tb [(-1), (-1), (-1), (-1)])))]) rfl (fun H locs hP hD hS => ?_)
  refine f_if_eq hx hb dX8_cell_25 35 (by decide) (by decide +kernel) ?_
  refine lv_aload_n hx hb dX8_cell_28 rfl (lv_at hl 0 rfl) ?_
  refine lv_bipush (v := (-7)) hx hb dX8_cell_29 (by decide) ?_
  refine kV_i (q0 := 0) ⟨hx, hb, hml, hown, hts⟩ hK hP hD hS hA hX cv_RX8_53 [0, 1] [2, 3] (wr := [(a1, .inr (6, [.ref a10, .ref a11, .ref a2])), (a2, .inl (cI, 4, .inl (tb [(-1), (-1), (-1), (-1)])))]) rfl rfl rfl rfl (by decide) (c076_X8_refuse l dC dI cI cJ cII cJJ H.size 0 a0 a3 a4 a5 a6 a1 a7 a8 a9) ⟨by decide +kernel, by decide +kernel⟩ rfl rfl (Or.inl rfl) (rest := []) rfl rfl rfl hl.1 rfl (Nat.le_of_ble_eq_true rfl) dX8_cell_31 ⟨Nat.le_of_ble_eq_true rfl, Nat.le_of_ble_eq_true rfl⟩ (W' := [(a1, .inr (6, [.ref a10, .ref a11, .ref a2])), (a2, .inl (cI, 4, .inl (tb [(-1), (-1), (-1), (-1)]))), (a0, .inr (8, [.ref a4, .ref a5, .ref a6, .ref a1, .ref a7, .ref a8, .ref a9, .ref a3])), (a3, .inl (cI, 8, .inl (tb [0, 0, 0, 0, 0, 0, 0, 1])))]) rfl (fun H locs hP hD hS => ?_)
  exact r_i hx hb hr hk hK (hP.sub [] rfl) (hD.sub [] rfl rfl) hS dX8_cell_34
set_option maxRecDepth 100000 in
set_option maxHeartbeats 4000000 in
theorem c080_X6_isMissing (l : Launch) (dC : Nat → ClassId) (dI : Nat → Nat → Nat) (cI cJ cII cJJ : ClassId) (sz g a0 a1 a2 a3 : Nat) : Met l yX6_isMissing (.code yX6_isMissing cX6_isMissing 2 (some .boolean) :: TT) ({ frames := 2, cells := 0, slots := 0, locals := 80 }) (PcS dC dI (TY cI cJ cII cJJ) [.ref a0, .int 2] [(a0, .inr (6, [.ref a2, .ref a3, .ref a1])), (a1, .inl (cI, 4, .inl (tb [(-1), (-1), (-1), (-1)])))] sz 0 g) ((QcI dC dI (TY cI cJ cII cJJ) 1 [(a0, .inr (6, [.ref a2, .ref a3, .ref a1])), (a1, .inl (cI, 4, .inl (tb [(-1), (-1), (-1), (-1)])))]) (va_A [(a0, .inr (6, [.ref a2, .ref a3, .ref a1])), (a1, .inl (cI, 4, .inl (tb [(-1), (-1), (-1), (-1)])))] sz)) 0 0 (va_A [(a0, .inr (6, [.ref a2, .ref a3, .ref a1])), (a1, .inl (cI, 4, .inl (tb [(-1), (-1), (-1), (-1)])))] sz) := by
  refine SM.of (y := yX6_isMissing) (maxL := 2) (av := [.ref a0, .int 2]) (QcI dC dI (TY cI cJ cII cJJ) 1 [(a0, .inr (6, [.ref a2, .ref a3, .ref a1])), (a1, .inl (cI, 4, .inl (tb [(-1), (-1), (-1), (-1)])))]) (by decide +kernel) (Nat.le_of_ble_eq_true rfl) (fun p e s m below meth c A ls hx hb hr hml hown hts hk hnm hA hK hP hD hS hX hl => ?_)
  have hown : s.vm.findClass RX6 = some m.cls := hown
  have hl : lv_has ls 2 [(0, .ref a0), (1, .int 2)] := hl
  refine lv_aload_n hx hb dX6_isMissing_0 rfl (lv_at hl 0 rfl) ?_
  refine gf (k := 2) hx hb hts inX6 hown hK hP k_255 rfl (by decide) rfl 0 rfl (.ref a1) rfl dX6_isMissing_1 ?_
  refine lv_iload_n hx hb dX6_isMissing_4 rfl (lv_at hl 1 rfl) ?_
  refine ld_i hx hb hK hP 1 rfl (vin (by decide +kernel)) dX6_isMissing_5 (-1) rfl ?_
  refine lv_iconst (v := (-1)) hx hb dX6_isMissing_6 (by decide) ?_
  refine f_icmp_ne hx hb dX6_isMissing_7 14 (by decide) (by decide +kernel) ?_
  refine lv_iconst (v := 1) hx hb dX6_isMissing_10 (by decide) ?_
  refine lv_goto (tgt := 15) hx hb dX6_isMissing_11 (by decide) ?_
  exact r_z hx hb hr hk hK hP hD hS dX6_isMissing_15 rfl
set_option maxRecDepth 100000 in
set_option maxHeartbeats 4000000 in
theorem c079_X8_cell (l : Launch) (dC : Nat → ClassId) (dI : Nat → Nat → Nat) (cI cJ cII cJJ : ClassId) (sz g a0 a1 a2 a3 a4 a5 a6 a7 a8 a9 a10 a11 : Nat) (x0 : Int32) (h_x0 : -2147483648 ≤ x0.toInt ∧ x0.toInt ≤ 2147483647) (x1 : Int64) (h_x1 : -9223372036854775808 ≤ x1.toInt ∧ x1.toInt ≤ 9223372036854775807) : Met l yX8_cell (.code yX8_cell cX8_cell 5 (some .int) :: TT) ({ frames := 3, cells := 0, slots := 0, locals := 140 }) (PcS dC dI (TY cI cJ cII cJJ) [.ref a0, .int 2, .int x0, .long x1] [(a0, .inr (8, [.ref a4, .ref a5, .ref a6, .ref a1, .ref a7, .ref a8, .ref a9, .ref a3])), (a1, .inr (6, [.ref a10, .ref a11, .ref a2])), (a2, .inl (cI, 4, .inl (tb [(-1), (-1), (-1), (-1)]))), (a3, .inl (cI, 8, .inl (tb [])))] sz 0 g) ((QcI dC dI (TY cI cJ cII cJJ) (-7) []) (va_A [(a0, .inr (8, [.ref a4, .ref a5, .ref a6, .ref a1, .ref a7, .ref a8, .ref a9, .ref a3])), (a1, .inr (6, [.ref a10, .ref a11, .ref a2])), (a2, .inl (cI, 4, .inl (tb [(-1), (-1), (-1), (-1)]))), (a3, .inl (cI, 8, .inl (tb [])))] sz)) 0 0 (va_A [(a0, .inr (8, [.ref a4, .ref a5, .ref a6, .ref a1, .ref a7, .ref a8, .ref a9, .ref a3])), (a1, .inr (6, [.ref a10, .ref a11, .ref a2])), (a2, .inl (cI, 4, .inl (tb [(-1), (-1), (-1), (-1)]))), (a3, .inl (cI, 8, .inl (tb [])))] sz) := by
  refine SM.of (y := yX8_cell) (maxL := 5) (av := [.ref a0, .int 2, .int x0, .long x1]) (QcI dC dI (TY cI cJ cII cJJ) (-7) []) (by decide +kernel) (Nat.le_of_ble_eq_true rfl) (fun p e s m below meth c A ls hx hb hr hml hown hts hk hnm hA hK hP hD hS hX hl => ?_)
  have hown : s.vm.findClass RX8 = some m.cls := hown
  have hl : lv_has ls 5 [(0, .ref a0), (1, .int 2), (2, .int x0), (3, .long x1)] := hl
  refine lv_aload_n hx hb dX8_cell_0 rfl (lv_at hl 0 rfl) ?_
  refine gf (k := 3) hx hb hts inX8 hown hK hP k_267 rfl (by decide) rfl 0 rfl (.ref a1) rfl dX8_cell_1 ?_
  refine lv_iload_n hx hb dX8_cell_4 rfl (lv_at hl 1 rfl) ?_
  refine kV_i (q0 := 0) ⟨hx, hb, hml, hown, hts⟩ hK hP hD hS hA hX cv_RX8_112 [1] [0, 2, 3] (wr := [(a0, .inr (8, [.ref a4, .ref a5, .ref a6, .ref a1, .ref a7, .ref a8, .ref a9, .ref a3])), (a2, .inl (cI, 4, .inl (tb [(-1), (-1), (-1), (-1)]))), (a3, .inl (cI, 8, .inl (tb [])))]) rfl rfl rfl rfl (by decide) (c067_X6_isTray l dC dI cI cJ cII cJJ s.heap.size 0 a1 a10 a11 a2) ⟨by decide +kernel, by decide +kernel⟩ rfl rfl (Or.inl rfl) (rest := []) rfl rfl rfl hl.1 rfl (Nat.le_of_ble_eq_true rfl) dX8_cell_5 ⟨Nat.le_of_ble_eq_true rfl, Nat.le_of_ble_eq_true rfl⟩ (W' := [(a0, .inr (8, [.ref a4, .ref a5, .ref a6, .ref a1, .ref a7, .ref a8, .ref a9, .ref a3])), (a2, .inl (cI, 4, .inl (tb [(-1), (-1), (-1), (-1)]))), (a3, .inl (cI, 8, .inl (tb []))), (a1, .inr (6, [.ref a10, .ref a11, .ref a2]))]) rfl (fun H locs hP hD hS => ?_)
  refine t_if_ne hx hb dX8_cell_8 17 (by decide) (by decide +kernel) ?_
  refine lv_aload_n hx hb dX8_cell_17 rfl (lv_at hl 0 rfl) ?_
  refine gf (k := 3) hx hb hts inX8 hown hK hP k_267 rfl (by decide) rfl 0 rfl (.ref a1) rfl dX8_cell_18 ?_
  refine lv_iload_n hx hb dX8_cell_21 rfl (lv_at hl 1 rfl) ?_
  refine kV_i (q0 := 0) ⟨hx, hb, hml, hown, hts⟩ hK hP hD hS hA hX cv_RX8_118 [3, 1] [0, 2] (wr := [(a0, .inr (8, [.ref a4, .ref a5, .ref a6, .ref a1, .ref a7, .ref a8, .ref a9, .ref a3])), (a3, .inl (cI, 8, .inl (tb [])))]) rfl rfl rfl rfl (by decide) (c080_X6_isMissing l dC dI cI cJ cII cJJ H.size 0 a1 a2 a10 a11) ⟨by decide +kernel, by decide +kernel⟩ rfl rfl (Or.inl rfl) (rest := []) rfl rfl rfl hl.1 rfl (Nat.le_of_ble_eq_true rfl) dX8_cell_22 ⟨Nat.le_of_ble_eq_true rfl, Nat.le_of_ble_eq_true rfl⟩ (W' := [(a0, .inr (8, [.ref a4, .ref a5, .ref a6, .ref a1, .ref a7, .ref a8, .ref a9, .ref a3])), (a3, .inl (cI, 8, .inl (tb []))), (a1, .inr (6, [.ref a10, .ref a11, .ref a2])), (a2, .inl (cI, 4, .inl (tb [(-1), (-1), (-1), (-1)])))]) rfl (fun H locs hP hD hS => ?_)
  refine f_if_eq hx hb dX8_cell_25 35 (by decide) (by decide +kernel) ?_
  refine lv_aload_n hx hb dX8_cell_28 rfl (lv_at hl 0 rfl) ?_
  refine lv_bipush (v := (-7)) hx hb dX8_cell_29 (by decide) ?_
  refine kV_i (q0 := 0) ⟨hx, hb, hml, hown, hts⟩ hK hP hD hS hA hX cv_RX8_53 [0, 1] [2, 3] (wr := [(a1, .inr (6, [.ref a10, .ref a11, .ref a2])), (a2, .inl (cI, 4, .inl (tb [(-1), (-1), (-1), (-1)])))]) rfl rfl rfl rfl (by decide) (c076_X8_refuse l dC dI cI cJ cII cJJ H.size 0 a0 a3 a4 a5 a6 a1 a7 a8 a9) ⟨by decide +kernel, by decide +kernel⟩ rfl rfl (Or.inl rfl) (rest := []) rfl rfl rfl hl.1 rfl (Nat.le_of_ble_eq_true rfl) dX8_cell_31 ⟨Nat.le_of_ble_eq_true rfl, Nat.le_of_ble_eq_true rfl⟩ (W' := [(a1, .inr (6, [.ref a10, .ref a11, .ref a2])), (a2, .inl (cI, 4, .inl (tb [(-1), (-1), (-1), (-1)]))), (a0, .inr (8, [.ref a4, .ref a5, .ref a6, .ref a1, .ref a7, .ref a8, .ref a9, .ref a3])), (a3, .inl (cI, 8, .inl (tb [0, 0, 0, 0, 0, 0, 0, 1])))]) rfl (fun H locs hP hD hS => ?_)
  exact r_i hx hb hr hk hK (hP.sub [] rfl) (hD.sub [] rfl rfl) hS dX8_cell_34
set_option maxRecDepth 100000 in
set_option maxHeartbeats 4000000 in
theorem c082_X6_isMissing (l : Launch) (dC : Nat → ClassId) (dI : Nat → Nat → Nat) (cI cJ cII cJJ : ClassId) (sz g a0 a1 a2 a3 : Nat) : Met l yX6_isMissing (.code yX6_isMissing cX6_isMissing 2 (some .boolean) :: TT) ({ frames := 2, cells := 0, slots := 0, locals := 80 }) (PcS dC dI (TY cI cJ cII cJJ) [.ref a0, .int 3] [(a0, .inr (6, [.ref a2, .ref a3, .ref a1])), (a1, .inl (cI, 4, .inl (tb [(-1), (-1), (-1), (-1)])))] sz 0 g) ((QcI dC dI (TY cI cJ cII cJJ) 1 [(a0, .inr (6, [.ref a2, .ref a3, .ref a1])), (a1, .inl (cI, 4, .inl (tb [(-1), (-1), (-1), (-1)])))]) (va_A [(a0, .inr (6, [.ref a2, .ref a3, .ref a1])), (a1, .inl (cI, 4, .inl (tb [(-1), (-1), (-1), (-1)])))] sz)) 0 0 (va_A [(a0, .inr (6, [.ref a2, .ref a3, .ref a1])), (a1, .inl (cI, 4, .inl (tb [(-1), (-1), (-1), (-1)])))] sz) := by
  refine SM.of (y := yX6_isMissing) (maxL := 2) (av := [.ref a0, .int 3]) (QcI dC dI (TY cI cJ cII cJJ) 1 [(a0, .inr (6, [.ref a2, .ref a3, .ref a1])), (a1, .inl (cI, 4, .inl (tb [(-1), (-1), (-1), (-1)])))]) (by decide +kernel) (Nat.le_of_ble_eq_true rfl) (fun p e s m below meth c A ls hx hb hr hml hown hts hk hnm hA hK hP hD hS hX hl => ?_)
  have hown : s.vm.findClass RX6 = some m.cls := hown
  have hl : lv_has ls 2 [(0, .ref a0), (1, .int 3)] := hl
  refine lv_aload_n hx hb dX6_isMissing_0 rfl (lv_at hl 0 rfl) ?_
  refine gf (k := 2) hx hb hts inX6 hown hK hP k_255 rfl (by decide) rfl 0 rfl (.ref a1) rfl dX6_isMissing_1 ?_
  refine lv_iload_n hx hb dX6_isMissing_4 rfl (lv_at hl 1 rfl) ?_
  refine ld_i hx hb hK hP 1 rfl (vin (by decide +kernel)) dX6_isMissing_5 (-1) rfl ?_
  refine lv_iconst (v := (-1)) hx hb dX6_isMissing_6 (by decide) ?_
  refine f_icmp_ne hx hb dX6_isMissing_7 14 (by decide) (by decide +kernel) ?_
  refine lv_iconst (v := 1) hx hb dX6_isMissing_10 (by decide) ?_
  refine lv_goto (tgt := 15) hx hb dX6_isMissing_11 (by decide) ?_
  exact r_z hx hb hr hk hK hP hD hS dX6_isMissing_15 rfl
set_option maxRecDepth 100000 in
set_option maxHeartbeats 4000000 in
theorem c081_X8_cell (l : Launch) (dC : Nat → ClassId) (dI : Nat → Nat → Nat) (cI cJ cII cJJ : ClassId) (sz g a0 a1 a2 a3 a4 a5 a6 a7 a8 a9 a10 a11 : Nat) (x0 : Int32) (h_x0 : -2147483648 ≤ x0.toInt ∧ x0.toInt ≤ 2147483647) (x1 : Int64) (h_x1 : -9223372036854775808 ≤ x1.toInt ∧ x1.toInt ≤ 9223372036854775807) : Met l yX8_cell (.code yX8_cell cX8_cell 5 (some .int) :: TT) ({ frames := 3, cells := 0, slots := 0, locals := 140 }) (PcS dC dI (TY cI cJ cII cJJ) [.ref a0, .int 3, .int x0, .long x1] [(a0, .inr (8, [.ref a4, .ref a5, .ref a6, .ref a1, .ref a7, .ref a8, .ref a9, .ref a3])), (a1, .inr (6, [.ref a10, .ref a11, .ref a2])), (a2, .inl (cI, 4, .inl (tb [(-1), (-1), (-1), (-1)]))), (a3, .inl (cI, 8, .inl (tb [])))] sz 0 g) ((QcI dC dI (TY cI cJ cII cJJ) (-7) []) (va_A [(a0, .inr (8, [.ref a4, .ref a5, .ref a6, .ref a1, .ref a7, .ref a8, .ref a9, .ref a3])), (a1, .inr (6, [.ref a10, .ref a11, .ref a2])), (a2, .inl (cI, 4, .inl (tb [(-1), (-1), (-1), (-1)]))), (a3, .inl (cI, 8, .inl (tb [])))] sz)) 0 0 (va_A [(a0, .inr (8, [.ref a4, .ref a5, .ref a6, .ref a1, .ref a7, .ref a8, .ref a9, .ref a3])), (a1, .inr (6, [.ref a10, .ref a11, .ref a2])), (a2, .inl (cI, 4, .inl (tb [(-1), (-1), (-1), (-1)]))), (a3, .inl (cI, 8, .inl (tb [])))] sz) := by
  refine SM.of (y := yX8_cell) (maxL := 5) (av := [.ref a0, .int 3, .int x0, .long x1]) (QcI dC dI (TY cI cJ cII cJJ) (-7) []) (by decide +kernel) (Nat.le_of_ble_eq_true rfl) (fun p e s m below meth c A ls hx hb hr hml hown hts hk hnm hA hK hP hD hS hX hl => ?_)
  have hown : s.vm.findClass RX8 = some m.cls := hown
  have hl : lv_has ls 5 [(0, .ref a0), (1, .int 3), (2, .int x0), (3, .long x1)] := hl
  refine lv_aload_n hx hb dX8_cell_0 rfl (lv_at hl 0 rfl) ?_
  refine gf (k := 3) hx hb hts inX8 hown hK hP k_267 rfl (by decide) rfl 0 rfl (.ref a1) rfl dX8_cell_1 ?_
  refine lv_iload_n hx hb dX8_cell_4 rfl (lv_at hl 1 rfl) ?_
  refine kV_i (q0 := 0) ⟨hx, hb, hml, hown, hts⟩ hK hP hD hS hA hX cv_RX8_112 [1] [0, 2, 3] (wr := [(a0, .inr (8, [.ref a4, .ref a5, .ref a6, .ref a1, .ref a7, .ref a8, .ref a9, .ref a3])), (a2, .inl (cI, 4, .inl (tb [(-1), (-1), (-1), (-1)]))), (a3, .inl (cI, 8, .inl (tb [])))]) rfl rfl rfl rfl (by decide) (c070_X6_isTray l dC dI cI cJ cII cJJ s.heap.size 0 a1 a10 a11 a2) ⟨by decide +kernel, by decide +kernel⟩ rfl rfl (Or.inl rfl) (rest := []) rfl rfl rfl hl.1 rfl (Nat.le_of_ble_eq_true rfl) dX8_cell_5 ⟨Nat.le_of_ble_eq_true rfl, Nat.le_of_ble_eq_true rfl⟩ (W' := [(a0, .inr (8, [.ref a4, .ref a5, .ref a6, .ref a1, .ref a7, .ref a8, .ref a9, .ref a3])), (a2, .inl (cI, 4, .inl (tb [(-1), (-1), (-1), (-1)]))), (a3, .inl (cI, 8, .inl (tb []))), (a1, .inr (6, [.ref a10, .ref a11, .ref a2]))]) rfl (fun H locs hP hD hS => ?_)
  refine t_if_ne hx hb dX8_cell_8 17 (by decide) (by decide +kernel) ?_
  refine lv_aload_n hx hb dX8_cell_17 rfl (lv_at hl 0 rfl) ?_
  refine gf (k := 3) hx hb hts inX8 hown hK hP k_267 rfl (by decide) rfl 0 rfl (.ref a1) rfl dX8_cell_18 ?_
  refine lv_iload_n hx hb dX8_cell_21 rfl (lv_at hl 1 rfl) ?_
  refine kV_i (q0 := 0) ⟨hx, hb, hml, hown, hts⟩ hK hP hD hS hA hX cv_RX8_118 [3, 1] [0, 2] (wr := [(a0, .inr (8, [.ref a4, .ref a5, .ref a6, .ref a1, .ref a7, .ref a8, .ref a9, .ref a3])), (a3, .inl (cI, 8, .inl (tb [])))]) rfl rfl rfl rfl (by decide) (c082_X6_isMissing l dC dI cI cJ cII cJJ H.size 0 a1 a2 a10 a11) ⟨by decide +kernel, by decide +kernel⟩ rfl rfl (Or.inl rfl) (rest := []) rfl rfl rfl hl.1 rfl (Nat.le_of_ble_eq_true rfl) dX8_cell_22 ⟨Nat.le_of_ble_eq_true rfl, Nat.le_of_ble_eq_true rfl⟩ (W' := [(a0, .inr (8, [.ref a4, .ref a5, .ref a6, .ref a1, .ref a7, .ref a8, .ref a9, .ref a3])), (a3, .inl (cI, 8, .inl (tb []))), (a1, .inr (6, [.ref a10, .ref a11, .ref a2])), (a2, .inl (cI, 4, .inl (tb [(-1), (-1), (-1), (-1)])))]) rfl (fun H locs hP hD hS => ?_)
  refine f_if_eq hx hb dX8_cell_25 35 (by decide) (by decide +kernel) ?_
  refine lv_aload_n hx hb dX8_cell_28 rfl (lv_at hl 0 rfl) ?_
  refine lv_bipush (v := (-7)) hx hb dX8_cell_29 (by decide) ?_
  refine kV_i (q0 := 0) ⟨hx, hb, hml, hown, hts⟩ hK hP hD hS hA hX cv_RX8_53 [0, 1] [2, 3] (wr := [(a1, .inr (6, [.ref a10, .ref a11, .ref a2])), (a2, .inl (cI, 4, .inl (tb [(-1), (-1), (-1), (-1)])))]) rfl rfl rfl rfl (by decide) (c076_X8_refuse l dC dI cI cJ cII cJJ H.size 0 a0 a3 a4 a5 a6 a1 a7 a8 a9) ⟨by decide +kernel, by decide +kernel⟩ rfl rfl (Or.inl rfl) (rest := []) rfl rfl rfl hl.1 rfl (Nat.le_of_ble_eq_true rfl) dX8_cell_31 ⟨Nat.le_of_ble_eq_true rfl, Nat.le_of_ble_eq_true rfl⟩ (W' := [(a1, .inr (6, [.ref a10, .ref a11, .ref a2])), (a2, .inl (cI, 4, .inl (tb [(-1), (-1), (-1), (-1)]))), (a0, .inr (8, [.ref a4, .ref a5, .ref a6, .ref a1, .ref a7, .ref a8, .ref a9, .ref a3])), (a3, .inl (cI, 8, .inl (tb [0, 0, 0, 0, 0, 0, 0, 1])))]) rfl (fun H locs hP hD hS => ?_)
  exact r_i hx hb hr hk hK (hP.sub [] rfl) (hD.sub [] rfl rfl) hS dX8_cell_34
set_option maxRecDepth 100000 in
set_option maxHeartbeats 4000000 in
theorem c083_X8_copy (l : Launch) (dC : Nat → ClassId) (dI : Nat → Nat → Nat) (cI cJ cII cJJ : ClassId) (sz g a0 a1 a2 a3 a4 a5 a6 a7 a8 a9 a10 a11 : Nat) (x0 : Int32) (h_x0 : -2147483648 ≤ x0.toInt ∧ x0.toInt ≤ -1) (x1 : Int32) (h_x1 : -2147483648 ≤ x1.toInt ∧ x1.toInt ≤ 2147483647) (x2 : Int32) (h_x2 : -2147483648 ≤ x2.toInt ∧ x2.toInt ≤ 2147483647) (x3 : Int32) (h_x3 : -2147483648 ≤ x3.toInt ∧ x3.toInt ≤ 2147483647) : Met l yX8_copy (.code yX8_copy cX8_copy 5 (some .int) :: TT) ({ frames := 3, cells := 0, slots := 0, locals := 140 }) (PcS dC dI (TY cI cJ cII cJJ) [.ref a0, .int x0, .int x1, .int x2, .int x3] [(a0, .inr (8, [.ref a3, .ref a4, .ref a5, .ref a1, .ref a6, .ref a7, .ref a8, .ref a2])), (a1, .inr (6, [.ref a9, .ref a10, .ref a11])), (a2, .inl (cI, 8, .inl (tb [])))] sz 0 g) ((QcI dC dI (TY cI cJ cII cJJ) (-1) []) (va_A [(a0, .inr (8, [.ref a3, .ref a4, .ref a5, .ref a1, .ref a6, .ref a7, .ref a8, .ref a2])), (a1, .inr (6, [.ref a9, .ref a10, .ref a11])), (a2, .inl (cI, 8, .inl (tb [])))] sz)) 0 0 (va_A [(a0, .inr (8, [.ref a3, .ref a4, .ref a5, .ref a1, .ref a6, .ref a7, .ref a8, .ref a2])), (a1, .inr (6, [.ref a9, .ref a10, .ref a11])), (a2, .inl (cI, 8, .inl (tb [])))] sz) := by
  refine SM.of (y := yX8_copy) (maxL := 5) (av := [.ref a0, .int x0, .int x1, .int x2, .int x3]) (QcI dC dI (TY cI cJ cII cJJ) (-1) []) (by decide +kernel) (Nat.le_of_ble_eq_true rfl) (fun p e s m below meth c A ls hx hb hr hml hown hts hk hnm hA hK hP hD hS hX hl => ?_)
  have hown : s.vm.findClass RX8 = some m.cls := hown
  have hl : lv_has ls 5 [(0, .ref a0), (1, .int x0), (2, .int x1), (3, .int x2), (4, .int x3)] := hl
  refine lv_aload_n hx hb dX8_copy_0 rfl (lv_at hl 0 rfl) ?_
  refine gf (k := 3) hx hb hts inX8 hown hK hP k_267 rfl (by decide) rfl 0 rfl (.ref a1) rfl dX8_copy_1 ?_
  refine lv_iload_n hx hb dX8_copy_4 rfl (lv_at hl 1 rfl) ?_
  refine kV_i (q0 := 0) ⟨hx, hb, hml, hown, hts⟩ hK hP hD hS hA hX cv_RX8_112 [1] [0, 2] (wr := [(a0, .inr (8, [.ref a3, .ref a4, .ref a5, .ref a1, .ref a6, .ref a7, .ref a8, .ref a2])), (a2, .inl (cI, 8, .inl (tb [])))]) rfl rfl rfl rfl (by decide) (c050_X6_isTray l dC dI cI cJ cII cJJ s.heap.size 0 a1 a9 a10 a11 x0 h_x0) ⟨by decide +kernel, by decide +kernel⟩ rfl rfl (Or.inl rfl) (rest := []) rfl rfl rfl hl.1 rfl (Nat.le_of_ble_eq_true rfl) dX8_copy_5 ⟨Nat.le_of_ble_eq_true rfl, Nat.le_of_ble_eq_true rfl⟩ (W' := [(a0, .inr (8, [.ref a3, .ref a4, .ref a5, .ref a1, .ref a6, .ref a7, .ref a8, .ref a2])), (a2, .inl (cI, 8, .inl (tb []))), (a1, .inr (6, [.ref a9, .ref a10, .ref a11]))]) rfl (fun H locs hP hD hS => ?_)
  refine t_if_eq hx hb dX8_copy_8 22 (by decide) (by decide +kernel) ?_
  refine lv_aload_n hx hb dX8_copy_22 rfl (lv_at hl 0 rfl) ?_
  refine lv_iconst (v := (-1)) hx hb dX8_copy_23 (by decide) ?_
  refine kV_i (q0 := 0) ⟨hx, hb, hml, hown, hts⟩ hK hP hD hS hA hX cv_RX8_53 [0, 1] [2] (wr := [(a1, .inr (6, [.ref a9, .ref a10, .ref a11]))]) rfl rfl rfl rfl (by decide) (c027_X8_refuse l dC dI cI cJ cII cJJ H.size 0 a0 a2 a3 a4 a5 a1 a6 a7 a8) ⟨by decide +kernel, by decide +kernel⟩ rfl rfl (Or.inl rfl) (rest := []) rfl rfl rfl hl.1 rfl (Nat.le_of_ble_eq_true rfl) dX8_copy_24 ⟨Nat.le_of_ble_eq_true rfl, Nat.le_of_ble_eq_true rfl⟩ (W' := [(a1, .inr (6, [.ref a9, .ref a10, .ref a11])), (a0, .inr (8, [.ref a3, .ref a4, .ref a5, .ref a1, .ref a6, .ref a7, .ref a8, .ref a2])), (a2, .inl (cI, 8, .inl (tb [0, 1])))]) rfl (fun H locs hP hD hS => ?_)
  exact r_i hx hb hr hk hK (hP.sub [] rfl) (hD.sub [] rfl rfl) hS dX8_copy_27
set_option maxRecDepth 100000 in
set_option maxHeartbeats 4000000 in
theorem c084_X8_copy (l : Launch) (dC : Nat → ClassId) (dI : Nat → Nat → Nat) (cI cJ cII cJJ : ClassId) (sz g a0 a1 a2 a3 a4 a5 a6 a7 a8 a9 a10 a11 : Nat) (x0 : Int32) (h_x0 : 4 ≤ x0.toInt ∧ x0.toInt ≤ 2147483647) (x1 : Int32) (h_x1 : -2147483648 ≤ x1.toInt ∧ x1.toInt ≤ 2147483647) (x2 : Int32) (h_x2 : -2147483648 ≤ x2.toInt ∧ x2.toInt ≤ 2147483647) (x3 : Int32) (h_x3 : -2147483648 ≤ x3.toInt ∧ x3.toInt ≤ 2147483647) : Met l yX8_copy (.code yX8_copy cX8_copy 5 (some .int) :: TT) ({ frames := 3, cells := 0, slots := 0, locals := 140 }) (PcS dC dI (TY cI cJ cII cJJ) [.ref a0, .int x0, .int x1, .int x2, .int x3] [(a0, .inr (8, [.ref a3, .ref a4, .ref a5, .ref a1, .ref a6, .ref a7, .ref a8, .ref a2])), (a1, .inr (6, [.ref a9, .ref a10, .ref a11])), (a2, .inl (cI, 8, .inl (tb [])))] sz 0 g) ((QcI dC dI (TY cI cJ cII cJJ) (-1) []) (va_A [(a0, .inr (8, [.ref a3, .ref a4, .ref a5, .ref a1, .ref a6, .ref a7, .ref a8, .ref a2])), (a1, .inr (6, [.ref a9, .ref a10, .ref a11])), (a2, .inl (cI, 8, .inl (tb [])))] sz)) 0 0 (va_A [(a0, .inr (8, [.ref a3, .ref a4, .ref a5, .ref a1, .ref a6, .ref a7, .ref a8, .ref a2])), (a1, .inr (6, [.ref a9, .ref a10, .ref a11])), (a2, .inl (cI, 8, .inl (tb [])))] sz) := by
  refine SM.of (y := yX8_copy) (maxL := 5) (av := [.ref a0, .int x0, .int x1, .int x2, .int x3]) (QcI dC dI (TY cI cJ cII cJJ) (-1) []) (by decide +kernel) (Nat.le_of_ble_eq_true rfl) (fun p e s m below meth c A ls hx hb hr hml hown hts hk hnm hA hK hP hD hS hX hl => ?_)
  have hown : s.vm.findClass RX8 = some m.cls := hown
  have hl : lv_has ls 5 [(0, .ref a0), (1, .int x0), (2, .int x1), (3, .int x2), (4, .int x3)] := hl
  refine lv_aload_n hx hb dX8_copy_0 rfl (lv_at hl 0 rfl) ?_
  refine gf (k := 3) hx hb hts inX8 hown hK hP k_267 rfl (by decide) rfl 0 rfl (.ref a1) rfl dX8_copy_1 ?_
  refine lv_iload_n hx hb dX8_copy_4 rfl (lv_at hl 1 rfl) ?_
  refine kV_i (q0 := 0) ⟨hx, hb, hml, hown, hts⟩ hK hP hD hS hA hX cv_RX8_112 [1] [0, 2] (wr := [(a0, .inr (8, [.ref a3, .ref a4, .ref a5, .ref a1, .ref a6, .ref a7, .ref a8, .ref a2])), (a2, .inl (cI, 8, .inl (tb [])))]) rfl rfl rfl rfl (by decide) (c052_X6_isTray l dC dI cI cJ cII cJJ s.heap.size 0 a1 a9 a10 a11 x0 h_x0) ⟨by decide +kernel, by decide +kernel⟩ rfl rfl (Or.inl rfl) (rest := []) rfl rfl rfl hl.1 rfl (Nat.le_of_ble_eq_true rfl) dX8_copy_5 ⟨Nat.le_of_ble_eq_true rfl, Nat.le_of_ble_eq_true rfl⟩ (W' := [(a0, .inr (8, [.ref a3, .ref a4, .ref a5, .ref a1, .ref a6, .ref a7, .ref a8, .ref a2])), (a2, .inl (cI, 8, .inl (tb []))), (a1, .inr (6, [.ref a9, .ref a10, .ref a11]))]) rfl (fun H locs hP hD hS => ?_)
  refine t_if_eq hx hb dX8_copy_8 22 (by decide) (by decide +kernel) ?_
  refine lv_aload_n hx hb dX8_copy_22 rfl (lv_at hl 0 rfl) ?_
  refine lv_iconst (v := (-1)) hx hb dX8_copy_23 (by decide) ?_
  refine kV_i (q0 := 0) ⟨hx, hb, hml, hown, hts⟩ hK hP hD hS hA hX cv_RX8_53 [0, 1] [2] (wr := [(a1, .inr (6, [.ref a9, .ref a10, .ref a11]))]) rfl rfl rfl rfl (by decide) (c027_X8_refuse l dC dI cI cJ cII cJJ H.size 0 a0 a2 a3 a4 a5 a1 a6 a7 a8) ⟨by decide +kernel, by decide +kernel⟩ rfl rfl (Or.inl rfl) (rest := []) rfl rfl rfl hl.1 rfl (Nat.le_of_ble_eq_true rfl) dX8_copy_24 ⟨Nat.le_of_ble_eq_true rfl, Nat.le_of_ble_eq_true rfl⟩ (W' := [(a1, .inr (6, [.ref a9, .ref a10, .ref a11])), (a0, .inr (8, [.ref a3, .ref a4, .ref a5, .ref a1, .ref a6, .ref a7, .ref a8, .ref a2])), (a2, .inl (cI, 8, .inl (tb [0, 1])))]) rfl (fun H locs hP hD hS => ?_)
  exact r_i hx hb hr hk hK (hP.sub [] rfl) (hD.sub [] rfl rfl) hS dX8_copy_27
set_option maxRecDepth 100000 in
set_option maxHeartbeats 4000000 in
theorem c085_X8_copy (l : Launch) (dC : Nat → ClassId) (dI : Nat → Nat → Nat) (cI cJ cII cJJ : ClassId) (sz g a0 a1 a2 a3 a4 a5 a6 a7 a8 a9 a10 a11 : Nat) (x0 : Int32) (h_x0 : 0 ≤ x0.toInt ∧ x0.toInt ≤ 3) (x1 : Int32) (h_x1 : -2147483648 ≤ x1.toInt ∧ x1.toInt ≤ 2147483647) (x2 : Int32) (h_x2 : -2147483648 ≤ x2.toInt ∧ x2.toInt ≤ -1) (x3 : Int32) (h_x3 : -2147483648 ≤ x3.toInt ∧ x3.toInt ≤ 2147483647) : Met l yX8_copy (.code yX8_copy cX8_copy 5 (some .int) :: TT) ({ frames := 3, cells := 0, slots := 0, locals := 140 }) (PcS dC dI (TY cI cJ cII cJJ) [.ref a0, .int x0, .int x1, .int x2, .int x3] [(a0, .inr (8, [.ref a3, .ref a4, .ref a5, .ref a1, .ref a6, .ref a7, .ref a8, .ref a2])), (a1, .inr (6, [.ref a9, .ref a10, .ref a11])), (a2, .inl (cI, 8, .inl (tb [])))] sz 0 g) ((QcI dC dI (TY cI cJ cII cJJ) (-1) []) (va_A [(a0, .inr (8, [.ref a3, .ref a4, .ref a5, .ref a1, .ref a6, .ref a7, .ref a8, .ref a2])), (a1, .inr (6, [.ref a9, .ref a10, .ref a11])), (a2, .inl (cI, 8, .inl (tb [])))] sz)) 0 0 (va_A [(a0, .inr (8, [.ref a3, .ref a4, .ref a5, .ref a1, .ref a6, .ref a7, .ref a8, .ref a2])), (a1, .inr (6, [.ref a9, .ref a10, .ref a11])), (a2, .inl (cI, 8, .inl (tb [])))] sz) := by
  refine SM.of (y := yX8_copy) (maxL := 5) (av := [.ref a0, .int x0, .int x1, .int x2, .int x3]) (QcI dC dI (TY cI cJ cII cJJ) (-1) []) (by decide +kernel) (Nat.le_of_ble_eq_true rfl) (fun p e s m below meth c A ls hx hb hr hml hown hts hk hnm hA hK hP hD hS hX hl => ?_)
  have hown : s.vm.findClass RX8 = some m.cls := hown
  have hl : lv_has ls 5 [(0, .ref a0), (1, .int x0), (2, .int x1), (3, .int x2), (4, .int x3)] := hl
  refine lv_aload_n hx hb dX8_copy_0 rfl (lv_at hl 0 rfl) ?_
  refine gf (k := 3) hx hb hts inX8 hown hK hP k_267 rfl (by decide) rfl 0 rfl (.ref a1) rfl dX8_copy_1 ?_
  refine lv_iload_n hx hb dX8_copy_4 rfl (lv_at hl 1 rfl) ?_
  refine kV_i (q0 := 0) ⟨hx, hb, hml, hown, hts⟩ hK hP hD hS hA hX cv_RX8_112 [1] [0, 2] (wr := [(a0, .inr (8, [.ref a3, .ref a4, .ref a5, .ref a1, .ref a6, .ref a7, .ref a8, .ref a2])), (a2, .inl (cI, 8, .inl (tb [])))]) rfl rfl rfl rfl (by decide) (c054_X6_isTray l dC dI cI cJ cII cJJ s.heap.size 0 a1 a9 a10 a11 x0 h_x0) ⟨by decide +kernel, by decide +kernel⟩ rfl rfl (Or.inl rfl) (rest := []) rfl rfl rfl hl.1 rfl (Nat.le_of_ble_eq_true rfl) dX8_copy_5 ⟨Nat.le_of_ble_eq_true rfl, Nat.le_of_ble_eq_true rfl⟩ (W' := [(a0, .inr (8, [.ref a3, .ref a4, .ref a5, .ref a1, .ref a6, .ref a7, .ref a8, .ref a2])), (a2, .inl (cI, 8, .inl (tb []))), (a1, .inr (6, [.ref a9, .ref a10, .ref a11]))]) rfl (fun H locs hP hD hS => ?_)
  refine f_if_eq hx hb dX8_copy_8 22 (by decide) (by decide +kernel) ?_
  refine lv_aload_n hx hb dX8_copy_11 rfl (lv_at hl 0 rfl) ?_
  refine gf (k := 3) hx hb hts inX8 hown hK hP k_267 rfl (by decide) rfl 0 rfl (.ref a1) rfl dX8_copy_12 ?_
  refine lv_iload_n hx hb dX8_copy_15 rfl (lv_at hl 3 rfl) ?_
  refine kV_i (q0 := 0) ⟨hx, hb, hml, hown, hts⟩ hK hP hD hS hA hX cv_RX8_112 [2] [0, 1] (wr := [(a0, .inr (8, [.ref a3, .ref a4, .ref a5, .ref a1, .ref a6, .ref a7, .ref a8, .ref a2])), (a2, .inl (cI, 8, .inl (tb [])))]) rfl rfl rfl rfl (by decide) (c050_X6_isTray l dC dI cI cJ cII cJJ H.size 0 a1 a9 a10 a11 x2 h_x2) ⟨by decide +kernel, by decide +kernel⟩ rfl rfl (Or.inl rfl) (rest := []) rfl rfl rfl hl.1 rfl (Nat.le_of_ble_eq_true rfl) dX8_copy_16 ⟨Nat.le_of_ble_eq_true rfl, Nat.le_of_ble_eq_true rfl⟩ (W' := [(a0, .inr (8, [.ref a3, .ref a4, .ref a5, .ref a1, .ref a6, .ref a7, .ref a8, .ref a2])), (a2, .inl (cI, 8, .inl (tb []))), (a1, .inr (6, [.ref a9, .ref a10, .ref a11]))]) rfl (fun H locs hP hD hS => ?_)
  refine f_if_ne hx hb dX8_copy_19 28 (by decide) (by decide +kernel) ?_
  refine lv_aload_n hx hb dX8_copy_22 rfl (lv_at hl 0 rfl) ?_
  refine lv_iconst (v := (-1)) hx hb dX8_copy_23 (by decide) ?_
  refine kV_i (q0 := 0) ⟨hx, hb, hml, hown, hts⟩ hK hP hD hS hA hX cv_RX8_53 [0, 1] [2] (wr := [(a1, .inr (6, [.ref a9, .ref a10, .ref a11]))]) rfl rfl rfl rfl (by decide) (c027_X8_refuse l dC dI cI cJ cII cJJ H.size 0 a0 a2 a3 a4 a5 a1 a6 a7 a8) ⟨by decide +kernel, by decide +kernel⟩ rfl rfl (Or.inl rfl) (rest := []) rfl rfl rfl hl.1 rfl (Nat.le_of_ble_eq_true rfl) dX8_copy_24 ⟨Nat.le_of_ble_eq_true rfl, Nat.le_of_ble_eq_true rfl⟩ (W' := [(a1, .inr (6, [.ref a9, .ref a10, .ref a11])), (a0, .inr (8, [.ref a3, .ref a4, .ref a5, .ref a1, .ref a6, .ref a7, .ref a8, .ref a2])), (a2, .inl (cI, 8, .inl (tb [0, 1])))]) rfl (fun H locs hP hD hS => ?_)
  exact r_i hx hb hr hk hK (hP.sub [] rfl) (hD.sub [] rfl rfl) hS dX8_copy_27
set_option maxRecDepth 100000 in
set_option maxHeartbeats 4000000 in
theorem c086_X8_copy (l : Launch) (dC : Nat → ClassId) (dI : Nat → Nat → Nat) (cI cJ cII cJJ : ClassId) (sz g a0 a1 a2 a3 a4 a5 a6 a7 a8 a9 a10 a11 : Nat) (x0 : Int32) (h_x0 : 0 ≤ x0.toInt ∧ x0.toInt ≤ 3) (x1 : Int32) (h_x1 : -2147483648 ≤ x1.toInt ∧ x1.toInt ≤ 2147483647) (x2 : Int32) (h_x2 : 4 ≤ x2.toInt ∧ x2.toInt ≤ 2147483647) (x3 : Int32) (h_x3 : -2147483648 ≤ x3.toInt ∧ x3.toInt ≤ 2147483647) : Met l yX8_copy (.code yX8_copy cX8_copy 5 (some .int) :: TT) ({ frames := 3, cells := 0, slots := 0, locals := 140 }) (PcS dC dI (TY cI cJ cII cJJ) [.ref a0, .int x0, .int x1, .int x2, .int x3] [(a0, .inr (8, [.ref a3, .ref a4, .ref a5, .ref a1, .ref a6, .ref a7, .ref a8, .ref a2])), (a1, .inr (6, [.ref a9, .ref a10, .ref a11])), (a2, .inl (cI, 8, .inl (tb [])))] sz 0 g) ((QcI dC dI (TY cI cJ cII cJJ) (-1) []) (va_A [(a0, .inr (8, [.ref a3, .ref a4, .ref a5, .ref a1, .ref a6, .ref a7, .ref a8, .ref a2])), (a1, .inr (6, [.ref a9, .ref a10, .ref a11])), (a2, .inl (cI, 8, .inl (tb [])))] sz)) 0 0 (va_A [(a0, .inr (8, [.ref a3, .ref a4, .ref a5, .ref a1, .ref a6, .ref a7, .ref a8, .ref a2])), (a1, .inr (6, [.ref a9, .ref a10, .ref a11])), (a2, .inl (cI, 8, .inl (tb [])))] sz) := by
  refine SM.of (y := yX8_copy) (maxL := 5) (av := [.ref a0, .int x0, .int x1, .int x2, .int x3]) (QcI dC dI (TY cI cJ cII cJJ) (-1) []) (by decide +kernel) (Nat.le_of_ble_eq_true rfl) (fun p e s m below meth c A ls hx hb hr hml hown hts hk hnm hA hK hP hD hS hX hl => ?_)
  have hown : s.vm.findClass RX8 = some m.cls := hown
  have hl : lv_has ls 5 [(0, .ref a0), (1, .int x0), (2, .int x1), (3, .int x2), (4, .int x3)] := hl
  refine lv_aload_n hx hb dX8_copy_0 rfl (lv_at hl 0 rfl) ?_
  refine gf (k := 3) hx hb hts inX8 hown hK hP k_267 rfl (by decide) rfl 0 rfl (.ref a1) rfl dX8_copy_1 ?_
  refine lv_iload_n hx hb dX8_copy_4 rfl (lv_at hl 1 rfl) ?_
  refine kV_i (q0 := 0) ⟨hx, hb, hml, hown, hts⟩ hK hP hD hS hA hX cv_RX8_112 [1] [0, 2] (wr := [(a0, .inr (8, [.ref a3, .ref a4, .ref a5, .ref a1, .ref a6, .ref a7, .ref a8, .ref a2])), (a2, .inl (cI, 8, .inl (tb [])))]) rfl rfl rfl rfl (by decide) (c054_X6_isTray l dC dI cI cJ cII cJJ s.heap.size 0 a1 a9 a10 a11 x0 h_x0) ⟨by decide +kernel, by decide +kernel⟩ rfl rfl (Or.inl rfl) (rest := []) rfl rfl rfl hl.1 rfl (Nat.le_of_ble_eq_true rfl) dX8_copy_5 ⟨Nat.le_of_ble_eq_true rfl, Nat.le_of_ble_eq_true rfl⟩ (W' := [(a0, .inr (8, [.ref a3, .ref a4, .ref a5, .ref a1, .ref a6, .ref a7, .ref a8, .ref a2])), (a2, .inl (cI, 8, .inl (tb []))), (a1, .inr (6, [.ref a9, .ref a10, .ref a11]))]) rfl (fun H locs hP hD hS => ?_)
  refine f_if_eq hx hb dX8_copy_8 22 (by decide) (by decide +kernel) ?_
  refine lv_aload_n hx hb dX8_copy_11 rfl (lv_at hl 0 rfl) ?_
  refine gf (k := 3) hx hb hts inX8 hown hK hP k_267 rfl (by decide) rfl 0 rfl (.ref a1) rfl dX8_copy_12 ?_
  refine lv_iload_n hx hb dX8_copy_15 rfl (lv_at hl 3 rfl) ?_
  refine kV_i (q0 := 0) ⟨hx, hb, hml, hown, hts⟩ hK hP hD hS hA hX cv_RX8_112 [2] [0, 1] (wr := [(a0, .inr (8, [.ref a3, .ref a4, .ref a5, .ref a1, .ref a6, .ref a7, .ref a8, .ref a2])), (a2, .inl (cI, 8, .inl (tb [])))]) rfl rfl rfl rfl (by decide) (c052_X6_isTray l dC dI cI cJ cII cJJ H.size 0 a1 a9 a10 a11 x2 h_x2) ⟨by decide +kernel, by decide +kernel⟩ rfl rfl (Or.inl rfl) (rest := []) rfl rfl rfl hl.1 rfl (Nat.le_of_ble_eq_true rfl) dX8_copy_16 ⟨Nat.le_of_ble_eq_true rfl, Nat.le_of_ble_eq_true rfl⟩ (W' := [(a0, .inr (8, [.ref a3, .ref a4, .ref a5, .ref a1, .ref a6, .ref a7, .ref a8, .ref a2])), (a2, .inl (cI, 8, .inl (tb []))), (a1, .inr (6, [.ref a9, .ref a10, .ref a11]))]) rfl (fun H locs hP hD hS => ?_)
  refine f_if_ne hx hb dX8_copy_19 28 (by decide) (by decide +kernel) ?_
  refine lv_aload_n hx hb dX8_copy_22 rfl (lv_at hl 0 rfl) ?_
  refine lv_iconst (v := (-1)) hx hb dX8_copy_23 (by decide) ?_
  refine kV_i (q0 := 0) ⟨hx, hb, hml, hown, hts⟩ hK hP hD hS hA hX cv_RX8_53 [0, 1] [2] (wr := [(a1, .inr (6, [.ref a9, .ref a10, .ref a11]))]) rfl rfl rfl rfl (by decide) (c027_X8_refuse l dC dI cI cJ cII cJJ H.size 0 a0 a2 a3 a4 a5 a1 a6 a7 a8) ⟨by decide +kernel, by decide +kernel⟩ rfl rfl (Or.inl rfl) (rest := []) rfl rfl rfl hl.1 rfl (Nat.le_of_ble_eq_true rfl) dX8_copy_24 ⟨Nat.le_of_ble_eq_true rfl, Nat.le_of_ble_eq_true rfl⟩ (W' := [(a1, .inr (6, [.ref a9, .ref a10, .ref a11])), (a0, .inr (8, [.ref a3, .ref a4, .ref a5, .ref a1, .ref a6, .ref a7, .ref a8, .ref a2])), (a2, .inl (cI, 8, .inl (tb [0, 1])))]) rfl (fun H locs hP hD hS => ?_)
  exact r_i hx hb hr hk hK (hP.sub [] rfl) (hD.sub [] rfl rfl) hS dX8_copy_27
set_option maxRecDepth 100000 in
set_option maxHeartbeats 4000000 in
theorem c087_X8_copy (l : Launch) (dC : Nat → ClassId) (dI : Nat → Nat → Nat) (cI cJ cII cJJ : ClassId) (sz g a0 a1 a2 a3 a4 a5 a6 a7 a8 a9 a10 a11 : Nat) (x0 : Int32) (h_x0 : -2147483648 ≤ x0.toInt ∧ x0.toInt ≤ 2147483647) (x1 : Int32) (h_x1 : 0 ≤ x1.toInt ∧ x1.toInt ≤ 3) (x2 : Int32) (h_x2 : -2147483648 ≤ x2.toInt ∧ x2.toInt ≤ 2147483647) : Met l yX8_copy (.code yX8_copy cX8_copy 5 (some .int) :: TT) ({ frames := 3, cells := 0, slots := 0, locals := 140 }) (PcS dC dI (TY cI cJ cII cJJ) [.ref a0, .int 0, .int x0, .int x1, .int x2] [(a0, .inr (8, [.ref a4, .ref a5, .ref a6, .ref a1, .ref a7, .ref a8, .ref a9, .ref a3])), (a1, .inr (6, [.ref a10, .ref a11, .ref a2])), (a2, .inl (cI, 4, .inl (tb [(-1), (-1), (-1), (-1)]))), (a3, .inl (cI, 8, .inl (tb [])))] sz 0 g) ((QcI dC dI (TY cI cJ cII cJJ) (-7) []) (va_A [(a0, .inr (8, [.ref a4, .ref a5, .ref a6, .ref a1, .ref a7, .ref a8, .ref a9, .ref a3])), (a1, .inr (6, [.ref a10, .ref a11, .ref a2])), (a2, .inl (cI, 4, .inl (tb [(-1), (-1), (-1), (-1)]))), (a3, .inl (cI, 8, .inl (tb [])))] sz)) 0 0 (va_A [(a0, .inr (8, [.ref a4, .ref a5, .ref a6, .ref a1, .ref a7, .ref a8, .ref a9, .ref a3])), (a1, .inr (6, [.ref a10, .ref a11, .ref a2])), (a2, .inl (cI, 4, .inl (tb [(-1), (-1), (-1), (-1)]))), (a3, .inl (cI, 8, .inl (tb [])))] sz) := by
  refine SM.of (y := yX8_copy) (maxL := 5) (av := [.ref a0, .int 0, .int x0, .int x1, .int x2]) (QcI dC dI (TY cI cJ cII cJJ) (-7) []) (by decide +kernel) (Nat.le_of_ble_eq_true rfl) (fun p e s m below meth c A ls hx hb hr hml hown hts hk hnm hA hK hP hD hS hX hl => ?_)
  have hown : s.vm.findClass RX8 = some m.cls := hown
  have hl : lv_has ls 5 [(0, .ref a0), (1, .int 0), (2, .int x0), (3, .int x1), (4, .int x2)] := hl
  refine lv_aload_n hx hb dX8_copy_0 rfl (lv_at hl 0 rfl) ?_
  refine gf (k := 3) hx hb hts inX8 hown hK hP k_267 rfl (by decide) rfl 0 rfl (.ref a1) rfl dX8_copy_1 ?_
  refine lv_iload_n hx hb dX8_copy_4 rfl (lv_at hl 1 rfl) ?_
  refine kV_i (q0 := 0) ⟨hx, hb, hml, hown, hts⟩ hK hP hD hS hA hX cv_RX8_112 [1] [0, 2, 3] (wr := [(a0, .inr (8, [.ref a4, .ref a5, .ref a6, .ref a1, .ref a7, .ref a8, .ref a9, .ref a3])), (a2, .inl (cI, 4, .inl (tb [(-1), (-1), (-1), (-1)]))), (a3, .inl (cI, 8, .inl (tb [])))]) rfl rfl rfl rfl (by decide) (c060_X6_isTray l dC dI cI cJ cII cJJ s.heap.size 0 a1 a10 a11 a2) ⟨by decide +kernel, by decide +kernel⟩ rfl rfl (Or.inl rfl) (rest := []) rfl rfl rfl hl.1 rfl (Nat.le_of_ble_eq_true rfl) dX8_copy_5 ⟨Nat.le_of_ble_eq_true rfl, Nat.le_of_ble_eq_true rfl⟩ (W' := [(a0, .inr (8, [.ref a4, .ref a5, .ref a6, .ref a1, .ref a7, .ref a8, .ref a9, .ref a3])), (a2, .inl (cI, 4, .inl (tb [(-1), (-1), (-1), (-1)]))), (a3, .inl (cI, 8, .inl (tb []))), (a1, .inr (6, [.ref a10, .ref a11, .ref a2]))]) rfl (fun H locs hP hD hS => ?_)
  refine f_if_eq hx hb dX8_copy_8 22 (by decide) (by decide +kernel) ?_
  refine lv_aload_n hx hb dX8_copy_11 rfl (lv_at hl 0 rfl) ?_
  refine gf (k := 3) hx hb hts inX8 hown hK hP k_267 rfl (by decide) rfl 0 rfl (.ref a1) rfl dX8_copy_12 ?_
  refine lv_iload_n hx hb dX8_copy_15 rfl (lv_at hl 3 rfl) ?_
  refine kV_i (q0 := 0) ⟨hx, hb, hml, hown, hts⟩ hK hP hD hS hA hX cv_RX8_112 [3] [0, 1, 2] (wr := [(a0, .inr (8, [.ref a4, .ref a5, .ref a6, .ref a1, .ref a7, .ref a8, .ref a9, .ref a3])), (a2, .inl (cI, 4, .inl (tb [(-1), (-1), (-1), (-1)]))), (a3, .inl (cI, 8, .inl (tb [])))]) rfl rfl rfl rfl (by decide) (c054_X6_isTray l dC dI cI cJ cII cJJ H.size 0 a1 a10 a11 a2 x1 h_x1) ⟨by decide +kernel, by decide +kernel⟩ rfl rfl (Or.inl rfl) (rest := []) rfl rfl rfl hl.1 rfl (Nat.le_of_ble_eq_true rfl) dX8_copy_16 ⟨Nat.le_of_ble_eq_true rfl, Nat.le_of_ble_eq_true rfl⟩ (W' := [(a0, .inr (8, [.ref a4, .ref a5, .ref a6, .ref a1, .ref a7, .ref a8, .ref a9, .ref a3])), (a2, .inl (cI, 4, .inl (tb [(-1), (-1), (-1), (-1)]))), (a3, .inl (cI, 8, .inl (tb []))), (a1, .inr (6, [.ref a10, .ref a11, .ref a2]))]) rfl (fun H locs hP hD hS => ?_)
  refine t_if_ne hx hb dX8_copy_19 28 (by decide) (by decide +kernel) ?_
  refine lv_aload_n hx hb dX8_copy_28 rfl (lv_at hl 0 rfl) ?_
  refine gf (k := 3) hx hb hts inX8 hown hK hP k_267 rfl (by decide) rfl 0 rfl (.ref a1) rfl dX8_copy_29 ?_
  refine lv_iload_n hx hb dX8_copy_32 rfl (lv_at hl 1 rfl) ?_
  refine kV_i (q0 := 0) ⟨hx, hb, hml, hown, hts⟩ hK hP hD hS hA hX cv_RX8_118 [3, 1] [0, 2] (wr := [(a0, .inr (8, [.ref a4, .ref a5, .ref a6, .ref a1, .ref a7, .ref a8, .ref a9, .ref a3])), (a3, .inl (cI, 8, .inl (tb [])))]) rfl rfl rfl rfl (by decide) (c075_X6_isMissing l dC dI cI cJ cII cJJ H.size 0 a1 a2 a10 a11) ⟨by decide +kernel, by decide +kernel⟩ rfl rfl (Or.inl rfl) (rest := []) rfl rfl rfl hl.1 rfl (Nat.le_of_ble_eq_true rfl) dX8_copy_33 ⟨Nat.le_of_ble_eq_true rfl, Nat.le_of_ble_eq_true rfl⟩ (W' := [(a0, .inr (8, [.ref a4, .ref a5, .ref a6, .ref a1, .ref a7, .ref a8, .ref a9, .ref a3])), (a3, .inl (cI, 8, .inl (tb []))), (a1, .inr (6, [.ref a10, .ref a11, .ref a2])), (a2, .inl (cI, 4, .inl (tb [(-1), (-1), (-1), (-1)])))]) rfl (fun H locs hP hD hS => ?_)
  refine t_if_ne hx hb dX8_copy_36 50 (by decide) (by decide +kernel) ?_
  refine lv_aload_n hx hb dX8_copy_50 rfl (lv_at hl 0 rfl) ?_
  refine lv_bipush (v := (-7)) hx hb dX8_copy_51 (by decide) ?_
  refine kV_i (q0 := 0) ⟨hx, hb, hml, hown, hts⟩ hK hP hD hS hA hX cv_RX8_53 [0, 1] [2, 3] (wr := [(a1, .inr (6, [.ref a10, .ref a11, .ref a2])), (a2, .inl (cI, 4, .inl (tb [(-1), (-1), (-1), (-1)])))]) rfl rfl rfl rfl (by decide) (c076_X8_refuse l dC dI cI cJ cII cJJ H.size 0 a0 a3 a4 a5 a6 a1 a7 a8 a9) ⟨by decide +kernel, by decide +kernel⟩ rfl rfl (Or.inl rfl) (rest := []) rfl rfl rfl hl.1 rfl (Nat.le_of_ble_eq_true rfl) dX8_copy_53 ⟨Nat.le_of_ble_eq_true rfl, Nat.le_of_ble_eq_true rfl⟩ (W' := [(a1, .inr (6, [.ref a10, .ref a11, .ref a2])), (a2, .inl (cI, 4, .inl (tb [(-1), (-1), (-1), (-1)]))), (a0, .inr (8, [.ref a4, .ref a5, .ref a6, .ref a1, .ref a7, .ref a8, .ref a9, .ref a3])), (a3, .inl (cI, 8, .inl (tb [0, 0, 0, 0, 0, 0, 0, 1])))]) rfl (fun H locs hP hD hS => ?_)
  exact r_i hx hb hr hk hK (hP.sub [] rfl) (hD.sub [] rfl rfl) hS dX8_copy_56
set_option maxRecDepth 100000 in
set_option maxHeartbeats 4000000 in
theorem c088_X8_copy (l : Launch) (dC : Nat → ClassId) (dI : Nat → Nat → Nat) (cI cJ cII cJJ : ClassId) (sz g a0 a1 a2 a3 a4 a5 a6 a7 a8 a9 a10 a11 : Nat) (x0 : Int32) (h_x0 : -2147483648 ≤ x0.toInt ∧ x0.toInt ≤ 2147483647) (x1 : Int32) (h_x1 : 0 ≤ x1.toInt ∧ x1.toInt ≤ 3) (x2 : Int32) (h_x2 : -2147483648 ≤ x2.toInt ∧ x2.toInt ≤ 2147483647) : Met l yX8_copy (.code yX8_copy cX8_copy 5 (some .int) :: TT) ({ frames := 3, cells := 0, slots := 0, locals := 140 }) (PcS dC dI (TY cI cJ cII cJJ) [.ref a0, .int 1, .int x0, .int x1, .int x2] [(a0, .inr (8, [.ref a4, .ref a5, .ref a6, .ref a1, .ref a7, .ref a8, .ref a9, .ref a3])), (a1, .inr (6, [.ref a10, .ref a11, .ref a2])), (a2, .inl (cI, 4, .inl (tb [(-1), (-1), (-1), (-1)]))), (a3, .inl (cI, 8, .inl (tb [])))] sz 0 g) ((QcI dC dI (TY cI cJ cII cJJ) (-7) []) (va_A [(a0, .inr (8, [.ref a4, .ref a5, .ref a6, .ref a1, .ref a7, .ref a8, .ref a9, .ref a3])), (a1, .inr (6, [.ref a10, .ref a11, .ref a2])), (a2, .inl (cI, 4, .inl (tb [(-1), (-1), (-1), (-1)]))), (a3, .inl (cI, 8, .inl (tb [])))] sz)) 0 0 (va_A [(a0, .inr (8, [.ref a4, .ref a5, .ref a6, .ref a1, .ref a7, .ref a8, .ref a9, .ref a3])), (a1, .inr (6, [.ref a10, .ref a11, .ref a2])), (a2, .inl (cI, 4, .inl (tb [(-1), (-1), (-1), (-1)]))), (a3, .inl (cI, 8, .inl (tb [])))] sz) := by
  refine SM.of (y := yX8_copy) (maxL := 5) (av := [.ref a0, .int 1, .int x0, .int x1, .int x2]) (QcI dC dI (TY cI cJ cII cJJ) (-7) []) (by decide +kernel) (Nat.le_of_ble_eq_true rfl) (fun p e s m below meth c A ls hx hb hr hml hown hts hk hnm hA hK hP hD hS hX hl => ?_)
  have hown : s.vm.findClass RX8 = some m.cls := hown
  have hl : lv_has ls 5 [(0, .ref a0), (1, .int 1), (2, .int x0), (3, .int x1), (4, .int x2)] := hl
  refine lv_aload_n hx hb dX8_copy_0 rfl (lv_at hl 0 rfl) ?_
  refine gf (k := 3) hx hb hts inX8 hown hK hP k_267 rfl (by decide) rfl 0 rfl (.ref a1) rfl dX8_copy_1 ?_
  refine lv_iload_n hx hb dX8_copy_4 rfl (lv_at hl 1 rfl) ?_
  refine kV_i (q0 := 0) ⟨hx, hb, hml, hown, hts⟩ hK hP hD hS hA hX cv_RX8_112 [1] [0, 2, 3] (wr := [(a0, .inr (8, [.ref a4, .ref a5, .ref a6, .ref a1, .ref a7, .ref a8, .ref a9, .ref a3])), (a2, .inl (cI, 4, .inl (tb [(-1), (-1), (-1), (-1)]))), (a3, .inl (cI, 8, .inl (tb [])))]) rfl rfl rfl rfl (by decide) (c064_X6_isTray l dC dI cI cJ cII cJJ s.heap.size 0 a1 a10 a11 a2) ⟨by decide +kernel, by decide +kernel⟩ rfl rfl (Or.inl rfl) (rest := []) rfl rfl rfl hl.1 rfl (Nat.le_of_ble_eq_true rfl) dX8_copy_5 ⟨Nat.le_of_ble_eq_true rfl, Nat.le_of_ble_eq_true rfl⟩ (W' := [(a0, .inr (8, [.ref a4, .ref a5, .ref a6, .ref a1, .ref a7, .ref a8, .ref a9, .ref a3])), (a2, .inl (cI, 4, .inl (tb [(-1), (-1), (-1), (-1)]))), (a3, .inl (cI, 8, .inl (tb []))), (a1, .inr (6, [.ref a10, .ref a11, .ref a2]))]) rfl (fun H locs hP hD hS => ?_)
  refine f_if_eq hx hb dX8_copy_8 22 (by decide) (by decide +kernel) ?_
  refine lv_aload_n hx hb dX8_copy_11 rfl (lv_at hl 0 rfl) ?_
  refine gf (k := 3) hx hb hts inX8 hown hK hP k_267 rfl (by decide) rfl 0 rfl (.ref a1) rfl dX8_copy_12 ?_
  refine lv_iload_n hx hb dX8_copy_15 rfl (lv_at hl 3 rfl) ?_
  refine kV_i (q0 := 0) ⟨hx, hb, hml, hown, hts⟩ hK hP hD hS hA hX cv_RX8_112 [3] [0, 1, 2] (wr := [(a0, .inr (8, [.ref a4, .ref a5, .ref a6, .ref a1, .ref a7, .ref a8, .ref a9, .ref a3])), (a2, .inl (cI, 4, .inl (tb [(-1), (-1), (-1), (-1)]))), (a3, .inl (cI, 8, .inl (tb [])))]) rfl rfl rfl rfl (by decide) (c054_X6_isTray l dC dI cI cJ cII cJJ H.size 0 a1 a10 a11 a2 x1 h_x1) ⟨by decide +kernel, by decide +kernel⟩ rfl rfl (Or.inl rfl) (rest := []) rfl rfl rfl hl.1 rfl (Nat.le_of_ble_eq_true rfl) dX8_copy_16 ⟨Nat.le_of_ble_eq_true rfl, Nat.le_of_ble_eq_true rfl⟩ (W' := [(a0, .inr (8, [.ref a4, .ref a5, .ref a6, .ref a1, .ref a7, .ref a8, .ref a9, .ref a3])), (a2, .inl (cI, 4, .inl (tb [(-1), (-1), (-1), (-1)]))), (a3, .inl (cI, 8, .inl (tb []))), (a1, .inr (6, [.ref a10, .ref a11, .ref a2]))]) rfl (fun H locs hP hD hS => ?_)
  refine t_if_ne hx hb dX8_copy_19 28 (by decide) (by decide +kernel) ?_
  refine lv_aload_n hx hb dX8_copy_28 rfl (lv_at hl 0 rfl) ?_
  refine gf (k := 3) hx hb hts inX8 hown hK hP k_267 rfl (by decide) rfl 0 rfl (.ref a1) rfl dX8_copy_29 ?_
  refine lv_iload_n hx hb dX8_copy_32 rfl (lv_at hl 1 rfl) ?_
  refine kV_i (q0 := 0) ⟨hx, hb, hml, hown, hts⟩ hK hP hD hS hA hX cv_RX8_118 [3, 1] [0, 2] (wr := [(a0, .inr (8, [.ref a4, .ref a5, .ref a6, .ref a1, .ref a7, .ref a8, .ref a9, .ref a3])), (a3, .inl (cI, 8, .inl (tb [])))]) rfl rfl rfl rfl (by decide) (c078_X6_isMissing l dC dI cI cJ cII cJJ H.size 0 a1 a2 a10 a11) ⟨by decide +kernel, by decide +kernel⟩ rfl rfl (Or.inl rfl) (rest := []) rfl rfl rfl hl.1 rfl (Nat.le_of_ble_eq_true rfl) dX8_copy_33 ⟨Nat.le_of_ble_eq_true rfl, Nat.le_of_ble_eq_true rfl⟩ (W' := [(a0, .inr (8, [.ref a4, .ref a5, .ref a6, .ref a1, .ref a7, .ref a8, .ref a9, .ref a3])), (a3, .inl (cI, 8, .inl (tb []))), (a1, .inr (6, [.ref a10, .ref a11, .ref a2])), (a2, .inl (cI, 4, .inl (tb [(-1), (-1), (-1), (-1)])))]) rfl (fun H locs hP hD hS => ?_)
  refine t_if_ne hx hb dX8_copy_36 50 (by decide) (by decide +kernel) ?_
  refine lv_aload_n hx hb dX8_copy_50 rfl (lv_at hl 0 rfl) ?_
  refine lv_bipush (v := (-7)) hx hb dX8_copy_51 (by decide) ?_
  refine kV_i (q0 := 0) ⟨hx, hb, hml, hown, hts⟩ hK hP hD hS hA hX cv_RX8_53 [0, 1] [2, 3] (wr := [(a1, .inr (6, [.ref a10, .ref a11, .ref a2])), (a2, .inl (cI, 4, .inl (tb [(-1), (-1), (-1), (-1)])))]) rfl rfl rfl rfl (by decide) (c076_X8_refuse l dC dI cI cJ cII cJJ H.size 0 a0 a3 a4 a5 a6 a1 a7 a8 a9) ⟨by decide +kernel, by decide +kernel⟩ rfl rfl (Or.inl rfl) (rest := []) rfl rfl rfl hl.1 rfl (Nat.le_of_ble_eq_true rfl) dX8_copy_53 ⟨Nat.le_of_ble_eq_true rfl, Nat.le_of_ble_eq_true rfl⟩ (W' := [(a1, .inr (6, [.ref a10, .ref a11, .ref a2])), (a2, .inl (cI, 4, .inl (tb [(-1), (-1), (-1), (-1)]))), (a0, .inr (8, [.ref a4, .ref a5, .ref a6, .ref a1, .ref a7, .ref a8, .ref a9, .ref a3])), (a3, .inl (cI, 8, .inl (tb [0, 0, 0, 0, 0, 0, 0, 1])))]) rfl (fun H locs hP hD hS => ?_)
  exact r_i hx hb hr hk hK (hP.sub [] rfl) (hD.sub [] rfl rfl) hS dX8_copy_56
set_option maxRecDepth 100000 in
set_option maxHeartbeats 4000000 in
theorem c089_X8_copy (l : Launch) (dC : Nat → ClassId) (dI : Nat → Nat → Nat) (cI cJ cII cJJ : ClassId) (sz g a0 a1 a2 a3 a4 a5 a6 a7 a8 a9 a10 a11 : Nat) (x0 : Int32) (h_x0 : -2147483648 ≤ x0.toInt ∧ x0.toInt ≤ 2147483647) (x1 : Int32) (h_x1 : 0 ≤ x1.toInt ∧ x1.toInt ≤ 3) (x2 : Int32) (h_x2 : -2147483648 ≤ x2.toInt ∧ x2.toInt ≤ 2147483647) : Met l yX8_copy (.code yX8_copy cX8_copy 5 (some .int) :: TT) ({ frames := 3, cells := 0, slots := 0, locals := 140 }) (PcS dC dI (TY cI cJ cII cJJ) [.ref a0, .int 2, .int x0, .int x1, .int x2] [(a0, .inr (8, [.ref a4, .ref a5, .ref a6, .ref a1, .ref a7, .ref a8, .ref a9, .ref a3])), (a1, .inr (6, [.ref a10, .ref a11, .ref a2])), (a2, .inl (cI, 4, .inl (tb [(-1), (-1), (-1), (-1)]))), (a3, .inl (cI, 8, .inl (tb [])))] sz 0 g) ((QcI dC dI (TY cI cJ cII cJJ) (-7) []) (va_A [(a0, .inr (8, [.ref a4, .ref a5, .ref a6, .ref a1, .ref a7, .ref a8, .ref a9, .ref a3])), (a1, .inr (6, [.ref a10, .ref a11, .ref a2])), (a2, .inl (cI, 4, .inl (tb [(-1), (-1), (-1), (-1)]))), (a3, .inl (cI, 8, .inl (tb [])))] sz)) 0 0 (va_A [(a0, .inr (8, [.ref a4, .ref a5, .ref a6, .ref a1, .ref a7, .ref a8, .ref a9, .ref a3])), (a1, .inr (6, [.ref a10, .ref a11, .ref a2])), (a2, .inl (cI, 4, .inl (tb [(-1), (-1), (-1), (-1)]))), (a3, .inl (cI, 8, .inl (tb [])))] sz) := by
  refine SM.of (y := yX8_copy) (maxL := 5) (av := [.ref a0, .int 2, .int x0, .int x1, .int x2]) (QcI dC dI (TY cI cJ cII cJJ) (-7) []) (by decide +kernel) (Nat.le_of_ble_eq_true rfl) (fun p e s m below meth c A ls hx hb hr hml hown hts hk hnm hA hK hP hD hS hX hl => ?_)
  have hown : s.vm.findClass RX8 = some m.cls := hown
  have hl : lv_has ls 5 [(0, .ref a0), (1, .int 2), (2, .int x0), (3, .int x1), (4, .int x2)] := hl
  refine lv_aload_n hx hb dX8_copy_0 rfl (lv_at hl 0 rfl) ?_
  refine gf (k := 3) hx hb hts inX8 hown hK hP k_267 rfl (by decide) rfl 0 rfl (.ref a1) rfl dX8_copy_1 ?_
  refine lv_iload_n hx hb dX8_copy_4 rfl (lv_at hl 1 rfl) ?_
  refine kV_i (q0 := 0) ⟨hx, hb, hml, hown, hts⟩ hK hP hD hS hA hX cv_RX8_112 [1] [0, 2, 3] (wr := [(a0, .inr (8, [.ref a4, .ref a5, .ref a6, .ref a1, .ref a7, .ref a8, .ref a9, .ref a3])), (a2, .inl (cI, 4, .inl (tb [(-1), (-1), (-1), (-1)]))), (a3, .inl (cI, 8, .inl (tb [])))]) rfl rfl rfl rfl (by decide) (c067_X6_isTray l dC dI cI cJ cII cJJ s.heap.size 0 a1 a10 a11 a2) ⟨by decide +kernel, by decide +kernel⟩ rfl rfl (Or.inl rfl) (rest := []) rfl rfl rfl hl.1 rfl (Nat.le_of_ble_eq_true rfl) dX8_copy_5 ⟨Nat.le_of_ble_eq_true rfl, Nat.le_of_ble_eq_true rfl⟩ (W' := [(a0, .inr (8, [.ref a4, .ref a5, .ref a6, .ref a1, .ref a7, .ref a8, .ref a9, .ref a3])), (a2, .inl (cI, 4, .inl (tb [(-1), (-1), (-1), (-1)]))), (a3, .inl (cI, 8, .inl (tb []))), (a1, .inr (6, [.ref a10, .ref a11, .ref a2]))]) rfl (fun H locs hP hD hS => ?_)
  refine f_if_eq hx hb dX8_copy_8 22 (by decide) (by decide +kernel) ?_
  refine lv_aload_n hx hb dX8_copy_11 rfl (lv_at hl 0 rfl) ?_
  refine gf (k := 3) hx hb hts inX8 hown hK hP k_267 rfl (by decide) rfl 0 rfl (.ref a1) rfl dX8_copy_12 ?_
  refine lv_iload_n hx hb dX8_copy_15 rfl (lv_at hl 3 rfl) ?_
  refine kV_i (q0 := 0) ⟨hx, hb, hml, hown, hts⟩ hK hP hD hS hA hX cv_RX8_112 [3] [0, 1, 2] (wr := [(a0, .inr (8, [.ref a4, .ref a5, .ref a6, .ref a1, .ref a7, .ref a8, .ref a9, .ref a3])), (a2, .inl (cI, 4, .inl (tb [(-1), (-1), (-1), (-1)]))), (a3, .inl (cI, 8, .inl (tb [])))]) rfl rfl rfl rfl (by decide) (c054_X6_isTray l dC dI cI cJ cII cJJ H.size 0 a1 a10 a11 a2 x1 h_x1) ⟨by decide +kernel, by decide +kernel⟩ rfl rfl (Or.inl rfl) (rest := []) rfl rfl rfl hl.1 rfl (Nat.le_of_ble_eq_true rfl) dX8_copy_16 ⟨Nat.le_of_ble_eq_true rfl, Nat.le_of_ble_eq_true rfl⟩ (W' := [(a0, .inr (8, [.ref a4, .ref a5, .ref a6, .ref a1, .ref a7, .ref a8, .ref a9, .ref a3])), (a2, .inl (cI, 4, .inl (tb [(-1), (-1), (-1), (-1)]))), (a3, .inl (cI, 8, .inl (tb []))), (a1, .inr (6, [.ref a10, .ref a11, .ref a2]))]) rfl (fun H locs hP hD hS => ?_)
  refine t_if_ne hx hb dX8_copy_19 28 (by decide) (by decide +kernel) ?_
  refine lv_aload_n hx hb dX8_copy_28 rfl (lv_at hl 0 rfl) ?_
  refine gf (k := 3) hx hb hts inX8 hown hK hP k_267 rfl (by decide) rfl 0 rfl (.ref a1) rfl dX8_copy_29 ?_
  refine lv_iload_n hx hb dX8_copy_32 rfl (lv_at hl 1 rfl) ?_
  refine kV_i (q0 := 0) ⟨hx, hb, hml, hown, hts⟩ hK hP hD hS hA hX cv_RX8_118 [3, 1] [0, 2] (wr := [(a0, .inr (8, [.ref a4, .ref a5, .ref a6, .ref a1, .ref a7, .ref a8, .ref a9, .ref a3])), (a3, .inl (cI, 8, .inl (tb [])))]) rfl rfl rfl rfl (by decide) (c080_X6_isMissing l dC dI cI cJ cII cJJ H.size 0 a1 a2 a10 a11) ⟨by decide +kernel, by decide +kernel⟩ rfl rfl (Or.inl rfl) (rest := []) rfl rfl rfl hl.1 rfl (Nat.le_of_ble_eq_true rfl) dX8_copy_33 ⟨Nat.le_of_ble_eq_true rfl, Nat.le_of_ble_eq_true rfl⟩ (W' := [(a0, .inr (8, [.ref a4, .ref a5, .ref a6, .ref a1, .ref a7, .ref a8, .ref a9, .ref a3])), (a3, .inl (cI, 8, .inl (tb []))), (a1, .inr (6, [.ref a10, .ref a11, .ref a2])), (a2, .inl (cI, 4, .inl (tb [(-1), (-1), (-1), (-1)])))]) rfl (fun H locs hP hD hS => ?_)
  refine t_if_ne hx hb dX8_copy_36 50 (by decide) (by decide +kernel) ?_
  refine lv_aload_n hx hb dX8_copy_50 rfl (lv_at hl 0 rfl) ?_
  refine lv_bipush (v := (-7)) hx hb dX8_copy_51 (by decide) ?_
  refine kV_i (q0 := 0) ⟨hx, hb, hml, hown, hts⟩ hK hP hD hS hA hX cv_RX8_53 [0, 1] [2, 3] (wr := [(a1, .inr (6, [.ref a10, .ref a11, .ref a2])), (a2, .inl (cI, 4, .inl (tb [(-1), (-1), (-1), (-1)])))]) rfl rfl rfl rfl (by decide) (c076_X8_refuse l dC dI cI cJ cII cJJ H.size 0 a0 a3 a4 a5 a6 a1 a7 a8 a9) ⟨by decide +kernel, by decide +kernel⟩ rfl rfl (Or.inl rfl) (rest := []) rfl rfl rfl hl.1 rfl (Nat.le_of_ble_eq_true rfl) dX8_copy_53 ⟨Nat.le_of_ble_eq_true rfl, Nat.le_of_ble_eq_true rfl⟩ (W' := [(a1, .inr (6, [.ref a10, .ref a11, .ref a2])), (a2, .inl (cI, 4, .inl (tb [(-1), (-1), (-1), (-1)]))), (a0, .inr (8, [.ref a4, .ref a5, .ref a6, .ref a1, .ref a7, .ref a8, .ref a9, .ref a3])), (a3, .inl (cI, 8, .inl (tb [0, 0, 0, 0, 0, 0, 0, 1])))]) rfl (fun H locs hP hD hS => ?_)
  exact r_i hx hb hr hk hK (hP.sub [] rfl) (hD.sub [] rfl rfl) hS dX8_copy_56
set_option maxRecDepth 100000 in
set_option maxHeartbeats 4000000 in
theorem c090_X8_copy (l : Launch) (dC : Nat → ClassId) (dI : Nat → Nat → Nat) (cI cJ cII cJJ : ClassId) (sz g a0 a1 a2 a3 a4 a5 a6 a7 a8 a9 a10 a11 : Nat) (x0 : Int32) (h_x0 : -2147483648 ≤ x0.toInt ∧ x0.toInt ≤ 2147483647) (x1 : Int32) (h_x1 : 0 ≤ x1.toInt ∧ x1.toInt ≤ 3) (x2 : Int32) (h_x2 : -2147483648 ≤ x2.toInt ∧ x2.toInt ≤ 2147483647) : Met l yX8_copy (.code yX8_copy cX8_copy 5 (some .int) :: TT) ({ frames := 3, cells := 0, slots := 0, locals := 140 }) (PcS dC dI (TY cI cJ cII cJJ) [.ref a0, .int 3, .int x0, .int x1, .int x2] [(a0, .inr (8, [.ref a4, .ref a5, .ref a6, .ref a1, .ref a7, .ref a8, .ref a9, .ref a3])), (a1, .inr (6, [.ref a10, .ref a11, .ref a2])), (a2, .inl (cI, 4, .inl (tb [(-1), (-1), (-1), (-1)]))), (a3, .inl (cI, 8, .inl (tb [])))] sz 0 g) ((QcI dC dI (TY cI cJ cII cJJ) (-7) []) (va_A [(a0, .inr (8, [.ref a4, .ref a5, .ref a6, .ref a1, .ref a7, .ref a8, .ref a9, .ref a3])), (a1, .inr (6, [.ref a10, .ref a11, .ref a2])), (a2, .inl (cI, 4, .inl (tb [(-1), (-1), (-1), (-1)]))), (a3, .inl (cI, 8, .inl (tb [])))] sz)) 0 0 (va_A [(a0, .inr (8, [.ref a4, .ref a5, .ref a6, .ref a1, .ref a7, .ref a8, .ref a9, .ref a3])), (a1, .inr (6, [.ref a10, .ref a11, .ref a2])), (a2, .inl (cI, 4, .inl (tb [(-1), (-1), (-1), (-1)]))), (a3, .inl (cI, 8, .inl (tb [])))] sz) := by
  refine SM.of (y := yX8_copy) (maxL := 5) (av := [.ref a0, .int 3, .int x0, .int x1, .int x2]) (QcI dC dI (TY cI cJ cII cJJ) (-7) []) (by decide +kernel) (Nat.le_of_ble_eq_true rfl) (fun p e s m below meth c A ls hx hb hr hml hown hts hk hnm hA hK hP hD hS hX hl => ?_)
  have hown : s.vm.findClass RX8 = some m.cls := hown
  have hl : lv_has ls 5 [(0, .ref a0), (1, .int 3), (2, .int x0), (3, .int x1), (4, .int x2)] := hl
  refine lv_aload_n hx hb dX8_copy_0 rfl (lv_at hl 0 rfl) ?_
  refine gf (k := 3) hx hb hts inX8 hown hK hP k_267 rfl (by decide) rfl 0 rfl (.ref a1) rfl dX8_copy_1 ?_
  refine lv_iload_n hx hb dX8_copy_4 rfl (lv_at hl 1 rfl) ?_
  refine kV_i (q0 := 0) ⟨hx, hb, hml, hown, hts⟩ hK hP hD hS hA hX cv_RX8_112 [1] [0, 2, 3] (wr := [(a0, .inr (8, [.ref a4, .ref a5, .ref a6, .ref a1, .ref a7, .ref a8, .ref a9, .ref a3])), (a2, .inl (cI, 4, .inl (tb [(-1), (-1), (-1), (-1)]))), (a3, .inl (cI, 8, .inl (tb [])))]) rfl rfl rfl rfl (by decide) (c070_X6_isTray l dC dI cI cJ cII cJJ s.heap.size 0 a1 a10 a11 a2) ⟨by decide +kernel, by decide +kernel⟩ rfl rfl (Or.inl rfl) (rest := []) rfl rfl rfl hl.1 rfl (Nat.le_of_ble_eq_true rfl) dX8_copy_5 ⟨Nat.le_of_ble_eq_true rfl, Nat.le_of_ble_eq_true rfl⟩ (W' := [(a0, .inr (8, [.ref a4, .ref a5, .ref a6, .ref a1, .ref a7, .ref a8, .ref a9, .ref a3])), (a2, .inl (cI, 4, .inl (tb [(-1), (-1), (-1), (-1)]))), (a3, .inl (cI, 8, .inl (tb []))), (a1, .inr (6, [.ref a10, .ref a11, .ref a2]))]) rfl (fun H locs hP hD hS => ?_)
  refine f_if_eq hx hb dX8_copy_8 22 (by decide) (by decide +kernel) ?_
  refine lv_aload_n hx hb dX8_copy_11 rfl (lv_at hl 0 rfl) ?_
  refine gf (k := 3) hx hb hts inX8 hown hK hP k_267 rfl (by decide) rfl 0 rfl (.ref a1) rfl dX8_copy_12 ?_
  refine lv_iload_n hx hb dX8_copy_15 rfl (lv_at hl 3 rfl) ?_
  refine kV_i (q0 := 0) ⟨hx, hb, hml, hown, hts⟩ hK hP hD hS hA hX cv_RX8_112 [3] [0, 1, 2] (wr := [(a0, .inr (8, [.ref a4, .ref a5, .ref a6, .ref a1, .ref a7, .ref a8, .ref a9, .ref a3])), (a2, .inl (cI, 4, .inl (tb [(-1), (-1), (-1), (-1)]))), (a3, .inl (cI, 8, .inl (tb [])))]) rfl rfl rfl rfl (by decide) (c054_X6_isTray l dC dI cI cJ cII cJJ H.size 0 a1 a10 a11 a2 x1 h_x1) ⟨by decide +kernel, by decide +kernel⟩ rfl rfl (Or.inl rfl) (rest := []) rfl rfl rfl hl.1 rfl (Nat.le_of_ble_eq_true rfl) dX8_copy_16 ⟨Nat.le_of_ble_eq_true rfl, Nat.le_of_ble_eq_true rfl⟩ (W' := [(a0, .inr (8, [.ref a4, .ref a5, .ref a6, .ref a1, .ref a7, .ref a8, .ref a9, .ref a3])), (a2, .inl (cI, 4, .inl (tb [(-1), (-1), (-1), (-1)]))), (a3, .inl (cI, 8, .inl (tb []))), (a1, .inr (6, [.ref a10, .ref a11, .ref a2]))]) rfl (fun H locs hP hD hS => ?_)
  refine t_if_ne hx hb dX8_copy_19 28 (by decide) (by decide +kernel) ?_
  refine lv_aload_n hx hb dX8_copy_28 rfl (lv_at hl 0 rfl) ?_
  refine gf (k := 3) hx hb hts inX8 hown hK hP k_267 rfl (by decide) rfl 0 rfl (.ref a1) rfl dX8_copy_29 ?_
  refine lv_iload_n hx hb dX8_copy_32 rfl (lv_at hl 1 rfl) ?_
  refine kV_i (q0 := 0) ⟨hx, hb, hml, hown, hts⟩ hK hP hD hS hA hX cv_RX8_118 [3, 1] [0, 2] (wr := [(a0, .inr (8, [.ref a4, .ref a5, .ref a6, .ref a1, .ref a7, .ref a8, .ref a9, .ref a3])), (a3, .inl (cI, 8, .inl (tb [])))]) rfl rfl rfl rfl (by decide) (c082_X6_isMissing l dC dI cI cJ cII cJJ H.size 0 a1 a2 a10 a11) ⟨by decide +kernel, by decide +kernel⟩ rfl rfl (Or.inl rfl) (rest := []) rfl rfl rfl hl.1 rfl (Nat.le_of_ble_eq_true rfl) dX8_copy_33 ⟨Nat.le_of_ble_eq_true rfl, Nat.le_of_ble_eq_true rfl⟩ (W' := [(a0, .inr (8, [.ref a4, .ref a5, .ref a6, .ref a1, .ref a7, .ref a8, .ref a9, .ref a3])), (a3, .inl (cI, 8, .inl (tb []))), (a1, .inr (6, [.ref a10, .ref a11, .ref a2])), (a2, .inl (cI, 4, .inl (tb [(-1), (-1), (-1), (-1)])))]) rfl (fun H locs hP hD hS => ?_)
  refine t_if_ne hx hb dX8_copy_36 50 (by decide) (by decide +kernel) ?_
  refine lv_aload_n hx hb dX8_copy_50 rfl (lv_at hl 0 rfl) ?_
  refine lv_bipush (v := (-7)) hx hb dX8_copy_51 (by decide) ?_
  refine kV_i (q0 := 0) ⟨hx, hb, hml, hown, hts⟩ hK hP hD hS hA hX cv_RX8_53 [0, 1] [2, 3] (wr := [(a1, .inr (6, [.ref a10, .ref a11, .ref a2])), (a2, .inl (cI, 4, .inl (tb [(-1), (-1), (-1), (-1)])))]) rfl rfl rfl rfl (by decide) (c076_X8_refuse l dC dI cI cJ cII cJJ H.size 0 a0 a3 a4 a5 a6 a1 a7 a8 a9) ⟨by decide +kernel, by decide +kernel⟩ rfl rfl (Or.inl rfl) (rest := []) rfl rfl rfl hl.1 rfl (Nat.le_of_ble_eq_true rfl) dX8_copy_53 ⟨Nat.le_of_ble_eq_true rfl, Nat.le_of_ble_eq_true rfl⟩ (W' := [(a1, .inr (6, [.ref a10, .ref a11, .ref a2])), (a2, .inl (cI, 4, .inl (tb [(-1), (-1), (-1), (-1)]))), (a0, .inr (8, [.ref a4, .ref a5, .ref a6, .ref a1, .ref a7, .ref a8, .ref a9, .ref a3])), (a3, .inl (cI, 8, .inl (tb [0, 0, 0, 0, 0, 0, 0, 1])))]) rfl (fun H locs hP hD hS => ?_)
  exact r_i hx hb hr hk hK (hP.sub [] rfl) (hD.sub [] rfl rfl) hS dX8_copy_56
set_option maxRecDepth 100000 in
set_option maxHeartbeats 4000000 in
theorem c091_X8_lay (l : Launch) (dC : Nat → ClassId) (dI : Nat → Nat → Nat) (cI cJ cII cJJ : ClassId) (sz g a0 a1 a2 a3 a4 a5 a6 a7 a8 a9 a10 a11 : Nat) (x0 : Int32) (h_x0 : -2147483648 ≤ x0.toInt ∧ x0.toInt ≤ 2147483647) (x1 : Int32) (h_x1 : -2147483648 ≤ x1.toInt ∧ x1.toInt ≤ -1) (x2 : Int32) (h_x2 : -2147483648 ≤ x2.toInt ∧ x2.toInt ≤ 2147483647) : Met l yX8_lay (.code yX8_lay cX8_lay 5 (some .int) :: TT) ({ frames := 3, cells := 0, slots := 0, locals := 140 }) (PcS dC dI (TY cI cJ cII cJJ) [.ref a0, .int x0, .int x1, .int x2] [(a0, .inr (8, [.ref a3, .ref a4, .ref a5, .ref a1, .ref a6, .ref a7, .ref a8, .ref a2])), (a1, .inr (6, [.ref a9, .ref a10, .ref a11])), (a2, .inl (cI, 8, .inl (tb [])))] sz 0 g) ((QcI dC dI (TY cI cJ cII cJJ) (-1) []) (va_A [(a0, .inr (8, [.ref a3, .ref a4, .ref a5, .ref a1, .ref a6, .ref a7, .ref a8, .ref a2])), (a1, .inr (6, [.ref a9, .ref a10, .ref a11])), (a2, .inl (cI, 8, .inl (tb [])))] sz)) 0 0 (va_A [(a0, .inr (8, [.ref a3, .ref a4, .ref a5, .ref a1, .ref a6, .ref a7, .ref a8, .ref a2])), (a1, .inr (6, [.ref a9, .ref a10, .ref a11])), (a2, .inl (cI, 8, .inl (tb [])))] sz) := by
  refine SM.of (y := yX8_lay) (maxL := 5) (av := [.ref a0, .int x0, .int x1, .int x2]) (QcI dC dI (TY cI cJ cII cJJ) (-1) []) (by decide +kernel) (Nat.le_of_ble_eq_true rfl) (fun p e s m below meth c A ls hx hb hr hml hown hts hk hnm hA hK hP hD hS hX hl => ?_)
  have hown : s.vm.findClass RX8 = some m.cls := hown
  have hl : lv_has ls 5 [(0, .ref a0), (1, .int x0), (2, .int x1), (3, .int x2)] := hl
  refine lv_aload_n hx hb dX8_lay_0 rfl (lv_at hl 0 rfl) ?_
  refine gf (k := 3) hx hb hts inX8 hown hK hP k_267 rfl (by decide) rfl 0 rfl (.ref a1) rfl dX8_lay_1 ?_
  refine lv_iload_n hx hb dX8_lay_4 rfl (lv_at hl 2 rfl) ?_
  refine kV_i (q0 := 0) ⟨hx, hb, hml, hown, hts⟩ hK hP hD hS hA hX cv_RX8_112 [1] [0, 2] (wr := [(a0, .inr (8, [.ref a3, .ref a4, .ref a5, .ref a1, .ref a6, .ref a7, .ref a8, .ref a2])), (a2, .inl (cI, 8, .inl (tb [])))]) rfl rfl rfl rfl (by decide) (c050_X6_isTray l dC dI cI cJ cII cJJ s.heap.size 0 a1 a9 a10 a11 x1 h_x1) ⟨by decide +kernel, by decide +kernel⟩ rfl rfl (Or.inl rfl) (rest := []) rfl rfl rfl hl.1 rfl (Nat.le_of_ble_eq_true rfl) dX8_lay_5 ⟨Nat.le_of_ble_eq_true rfl, Nat.le_of_ble_eq_true rfl⟩ (W' := [(a0, .inr (8, [.ref a3, .ref a4, .ref a5, .ref a1, .ref a6, .ref a7, .ref a8, .ref a2])), (a2, .inl (cI, 8, .inl (tb []))), (a1, .inr (6, [.ref a9, .ref a10, .ref a11]))]) rfl (fun H locs hP hD hS => ?_)
  refine t_if_eq hx hb dX8_lay_8 22 (by decide) (by decide +kernel) ?_
  refine lv_aload_n hx hb dX8_lay_22 rfl (lv_at hl 0 rfl) ?_
  refine lv_iconst (v := (-1)) hx hb dX8_lay_23 (by decide) ?_
  refine kV_i (q0 := 0) ⟨hx, hb, hml, hown, hts⟩ hK hP hD hS hA hX cv_RX8_53 [0, 1] [2] (wr := [(a1, .inr (6, [.ref a9, .ref a10, .ref a11]))]) rfl rfl rfl rfl (by decide) (c027_X8_refuse l dC dI cI cJ cII cJJ H.size 0 a0 a2 a3 a4 a5 a1 a6 a7 a8) ⟨by decide +kernel, by decide +kernel⟩ rfl rfl (Or.inl rfl) (rest := []) rfl rfl rfl hl.1 rfl (Nat.le_of_ble_eq_true rfl) dX8_lay_24 ⟨Nat.le_of_ble_eq_true rfl, Nat.le_of_ble_eq_true rfl⟩ (W' := [(a1, .inr (6, [.ref a9, .ref a10, .ref a11])), (a0, .inr (8, [.ref a3, .ref a4, .ref a5, .ref a1, .ref a6, .ref a7, .ref a8, .ref a2])), (a2, .inl (cI, 8, .inl (tb [0, 1])))]) rfl (fun H locs hP hD hS => ?_)
  exact r_i hx hb hr hk hK (hP.sub [] rfl) (hD.sub [] rfl rfl) hS dX8_lay_27
set_option maxRecDepth 100000 in
set_option maxHeartbeats 4000000 in
theorem c092_X8_lay (l : Launch) (dC : Nat → ClassId) (dI : Nat → Nat → Nat) (cI cJ cII cJJ : ClassId) (sz g a0 a1 a2 a3 a4 a5 a6 a7 a8 a9 a10 a11 : Nat) (x0 : Int32) (h_x0 : -2147483648 ≤ x0.toInt ∧ x0.toInt ≤ 2147483647) (x1 : Int32) (h_x1 : 4 ≤ x1.toInt ∧ x1.toInt ≤ 2147483647) (x2 : Int32) (h_x2 : -2147483648 ≤ x2.toInt ∧ x2.toInt ≤ 2147483647) : Met l yX8_lay (.code yX8_lay cX8_lay 5 (some .int) :: TT) ({ frames := 3, cells := 0, slots := 0, locals := 140 }) (PcS dC dI (TY cI cJ cII cJJ) [.ref a0, .int x0, .int x1, .int x2] [(a0, .inr (8, [.ref a3, .ref a4, .ref a5, .ref a1, .ref a6, .ref a7, .ref a8, .ref a2])), (a1, .inr (6, [.ref a9, .ref a10, .ref a11])), (a2, .inl (cI, 8, .inl (tb [])))] sz 0 g) ((QcI dC dI (TY cI cJ cII cJJ) (-1) []) (va_A [(a0, .inr (8, [.ref a3, .ref a4, .ref a5, .ref a1, .ref a6, .ref a7, .ref a8, .ref a2])), (a1, .inr (6, [.ref a9, .ref a10, .ref a11])), (a2, .inl (cI, 8, .inl (tb [])))] sz)) 0 0 (va_A [(a0, .inr (8, [.ref a3, .ref a4, .ref a5, .ref a1, .ref a6, .ref a7, .ref a8, .ref a2])), (a1, .inr (6, [.ref a9, .ref a10, .ref a11])), (a2, .inl (cI, 8, .inl (tb [])))] sz) := by
  refine SM.of (y := yX8_lay) (maxL := 5) (av := [.ref a0, .int x0, .int x1, .int x2]) (QcI dC dI (TY cI cJ cII cJJ) (-1) []) (by decide +kernel) (Nat.le_of_ble_eq_true rfl) (fun p e s m below meth c A ls hx hb hr hml hown hts hk hnm hA hK hP hD hS hX hl => ?_)
  have hown : s.vm.findClass RX8 = some m.cls := hown
  have hl : lv_has ls 5 [(0, .ref a0), (1, .int x0), (2, .int x1), (3, .int x2)] := hl
  refine lv_aload_n hx hb dX8_lay_0 rfl (lv_at hl 0 rfl) ?_
  refine gf (k := 3) hx hb hts inX8 hown hK hP k_267 rfl (by decide) rfl 0 rfl (.ref a1) rfl dX8_lay_1 ?_
  refine lv_iload_n hx hb dX8_lay_4 rfl (lv_at hl 2 rfl) ?_
  refine kV_i (q0 := 0) ⟨hx, hb, hml, hown, hts⟩ hK hP hD hS hA hX cv_RX8_112 [1] [0, 2] (wr := [(a0, .inr (8, [.ref a3, .ref a4, .ref a5, .ref a1, .ref a6, .ref a7, .ref a8, .ref a2])), (a2, .inl (cI, 8, .inl (tb [])))]) rfl rfl rfl rfl (by decide) (c052_X6_isTray l dC dI cI cJ cII cJJ s.heap.size 0 a1 a9 a10 a11 x1 h_x1) ⟨by decide +kernel, by decide +kernel⟩ rfl rfl (Or.inl rfl) (rest := []) rfl rfl rfl hl.1 rfl (Nat.le_of_ble_eq_true rfl) dX8_lay_5 ⟨Nat.le_of_ble_eq_true rfl, Nat.le_of_ble_eq_true rfl⟩ (W' := [(a0, .inr (8, [.ref a3, .ref a4, .ref a5, .ref a1, .ref a6, .ref a7, .ref a8, .ref a2])), (a2, .inl (cI, 8, .inl (tb []))), (a1, .inr (6, [.ref a9, .ref a10, .ref a11]))]) rfl (fun H locs hP hD hS => ?_)
  refine t_if_eq hx hb dX8_lay_8 22 (by decide) (by decide +kernel) ?_
  refine lv_aload_n hx hb dX8_lay_22 rfl (lv_at hl 0 rfl) ?_
  refine lv_iconst (v := (-1)) hx hb dX8_lay_23 (by decide) ?_
  refine kV_i (q0 := 0) ⟨hx, hb, hml, hown, hts⟩ hK hP hD hS hA hX cv_RX8_53 [0, 1] [2] (wr := [(a1, .inr (6, [.ref a9, .ref a10, .ref a11]))]) rfl rfl rfl rfl (by decide) (c027_X8_refuse l dC dI cI cJ cII cJJ H.size 0 a0 a2 a3 a4 a5 a1 a6 a7 a8) ⟨by decide +kernel, by decide +kernel⟩ rfl rfl (Or.inl rfl) (rest := []) rfl rfl rfl hl.1 rfl (Nat.le_of_ble_eq_true rfl) dX8_lay_24 ⟨Nat.le_of_ble_eq_true rfl, Nat.le_of_ble_eq_true rfl⟩ (W' := [(a1, .inr (6, [.ref a9, .ref a10, .ref a11])), (a0, .inr (8, [.ref a3, .ref a4, .ref a5, .ref a1, .ref a6, .ref a7, .ref a8, .ref a2])), (a2, .inl (cI, 8, .inl (tb [0, 1])))]) rfl (fun H locs hP hD hS => ?_)
  exact r_i hx hb hr hk hK (hP.sub [] rfl) (hD.sub [] rfl rfl) hS dX8_lay_27
set_option maxRecDepth 100000 in
set_option maxHeartbeats 4000000 in
theorem c093_X8_lay (l : Launch) (dC : Nat → ClassId) (dI : Nat → Nat → Nat) (cI cJ cII cJJ : ClassId) (sz g a0 a1 a2 a3 a4 a5 a6 a7 a8 a9 a10 a11 a12 a13 a14 a15 a16 a17 : Nat) (x0 : Int32) (h_x0 : -2147483648 ≤ x0.toInt ∧ x0.toInt ≤ -1) (x1 : Int32) (h_x1 : 0 ≤ x1.toInt ∧ x1.toInt ≤ 3) (x2 : Int32) (h_x2 : -2147483648 ≤ x2.toInt ∧ x2.toInt ≤ 2147483647) : Met l yX8_lay (.code yX8_lay cX8_lay 5 (some .int) :: TT) ({ frames := 3, cells := 0, slots := 0, locals := 140 }) (PcS dC dI (TY cI cJ cII cJJ) [.ref a0, .int x0, .int x1, .int x2] [(a0, .inr (8, [.ref a2, .ref a4, .ref a5, .ref a1, .ref a6, .ref a7, .ref a8, .ref a3])), (a1, .inr (6, [.ref a9, .ref a10, .ref a11])), (a2, .inr (3, [.int 1, .int 0, .ref a12, .ref a13, .ref a14, .ref a15, .ref a16, .ref a17])), (a3, .inl (cI, 8, .inl (tb [])))] sz 0 g) ((QcI dC dI (TY cI cJ cII cJJ) (-1) []) (va_A [(a0, .inr (8, [.ref a2, .ref a4, .ref a5, .ref a1, .ref a6, .ref a7, .ref a8, .ref a3])), (a1, .inr (6, [.ref a9, .ref a10, .ref a11])), (a2, .inr (3, [.int 1, .int 0, .ref a12, .ref a13, .ref a14, .ref a15, .ref a16, .ref a17])), (a3, .inl (cI, 8, .inl (tb [])))] sz)) 0 0 (va_A [(a0, .inr (8, [.ref a2, .ref a4, .ref a5, .ref a1, .ref a6, .ref a7, .ref a8, .ref a3])), (a1, .inr (6, [.ref a9, .ref a10, .ref a11])), (a2, .inr (3, [.int 1, .int 0, .ref a12, .ref a13, .ref a14, .ref a15, .ref a16, .ref a17])), (a3, .inl (cI, 8, .inl (tb [])))] sz) := by
  refine SM.of (y := yX8_lay) (maxL := 5) (av := [.ref a0, .int x0, .int x1, .int x2]) (QcI dC dI (TY cI cJ cII cJJ) (-1) []) (by decide +kernel) (Nat.le_of_ble_eq_true rfl) (fun p e s m below meth c A ls hx hb hr hml hown hts hk hnm hA hK hP hD hS hX hl => ?_)
  have hown : s.vm.findClass RX8 = some m.cls := hown
  have hl : lv_has ls 5 [(0, .ref a0), (1, .int x0), (2, .int x1), (3, .int x2)] := hl
  refine lv_aload_n hx hb dX8_lay_0 rfl (lv_at hl 0 rfl) ?_
  refine gf (k := 3) hx hb hts inX8 hown hK hP k_267 rfl (by decide) rfl 0 rfl (.ref a1) rfl dX8_lay_1 ?_
  refine lv_iload_n hx hb dX8_lay_4 rfl (lv_at hl 2 rfl) ?_
  refine kV_i (q0 := 0) ⟨hx, hb, hml, hown, hts⟩ hK hP hD hS hA hX cv_RX8_112 [1] [0, 2, 3] (wr := [(a0, .inr (8, [.ref a2, .ref a4, .ref a5, .ref a1, .ref a6, .ref a7, .ref a8, .ref a3])), (a2, .inr (3, [.int 1, .int 0, .ref a12, .ref a13, .ref a14, .ref a15, .ref a16, .ref a17])), (a3, .inl (cI, 8, .inl (tb [])))]) rfl rfl rfl rfl (by decide) (c054_X6_isTray l dC dI cI cJ cII cJJ s.heap.size 0 a1 a9 a10 a11 x1 h_x1) ⟨by decide +kernel, by decide +kernel⟩ rfl rfl (Or.inl rfl) (rest := []) rfl rfl rfl hl.1 rfl (Nat.le_of_ble_eq_true rfl) dX8_lay_5 ⟨Nat.le_of_ble_eq_true rfl, Nat.le_of_ble_eq_true rfl⟩ (W' := [(a0, .inr (8, [.ref a2, .ref a4, .ref a5, .ref a1, .ref a6, .ref a7, .ref a8, .ref a3])), (a2, .inr (3, [.int 1, .int 0, .ref a12, .ref a13, .ref a14, .ref a15, .ref a16, .ref a17])), (a3, .inl (cI, 8, .inl (tb []))), (a1, .inr (6, [.ref a9, .ref a10, .ref a11]))]) rfl (fun H locs hP hD hS => ?_)
  refine f_if_eq hx hb dX8_lay_8 22 (by decide) (by decide +kernel) ?_
  refine lv_aload_n hx hb dX8_lay_11 rfl (lv_at hl 0 rfl) ?_
  refine gf (k := 0) hx hb hts inX8 hown hK hP k_264 rfl (by decide) rfl 0 rfl (.ref a2) rfl dX8_lay_12 ?_
  refine lv_iload_n hx hb dX8_lay_15 rfl (lv_at hl 1 rfl) ?_
  refine kV_i (q0 := 0) ⟨hx, hb, hml, hown, hts⟩ hK hP hD hS hA hX cv_RX8_78 [1] [0, 2, 3] (wr := [(a0, .inr (8, [.ref a2, .ref a4, .ref a5, .ref a1, .ref a6, .ref a7, .ref a8, .ref a3])), (a3, .inl (cI, 8, .inl (tb []))), (a1, .inr (6, [.ref a9, .ref a10, .ref a11]))]) rfl rfl rfl rfl (by decide) (c026_X3_hasEquation l dC dI cI cJ cII cJJ H.size 0 a2 a12 a13 a14 a15 a16 a17 x0 h_x0) ⟨by decide +kernel, by decide +kernel⟩ rfl rfl (Or.inl rfl) (rest := []) rfl rfl rfl hl.1 rfl (Nat.le_of_ble_eq_true rfl) dX8_lay_16 ⟨Nat.le_of_ble_eq_true rfl, Nat.le_of_ble_eq_true rfl⟩ (W' := [(a0, .inr (8, [.ref a2, .ref a4, .ref a5, .ref a1, .ref a6, .ref a7, .ref a8, .ref a3])), (a3, .inl (cI, 8, .inl (tb []))), (a1, .inr (6, [.ref a9, .ref a10, .ref a11])), (a2, .inr (3, [.int 1, .int 0, .ref a12, .ref a13, .ref a14, .ref a15, .ref a16, .ref a17]))]) rfl (fun H locs hP hD hS => ?_)
  refine f_if_ne hx hb dX8_lay_19 28 (by decide) (by decide +kernel) ?_
  refine lv_aload_n hx hb dX8_lay_22 rfl (lv_at hl 0 rfl) ?_
  refine lv_iconst (v := (-1)) hx hb dX8_lay_23 (by decide) ?_
  refine kV_i (q0 := 0) ⟨hx, hb, hml, hown, hts⟩ hK hP hD hS hA hX cv_RX8_53 [0, 1] [2, 3] (wr := [(a1, .inr (6, [.ref a9, .ref a10, .ref a11])), (a2, .inr (3, [.int 1, .int 0, .ref a12, .ref a13, .ref a14, .ref a15, .ref a16, .ref a17]))]) rfl rfl rfl rfl (by decide) (c027_X8_refuse l dC dI cI cJ cII cJJ H.size 0 a0 a3 a2 a4 a5 a1 a6 a7 a8) ⟨by decide +kernel, by decide +kernel⟩ rfl rfl (Or.inl rfl) (rest := []) rfl rfl rfl hl.1 rfl (Nat.le_of_ble_eq_true rfl) dX8_lay_24 ⟨Nat.le_of_ble_eq_true rfl, Nat.le_of_ble_eq_true rfl⟩ (W' := [(a1, .inr (6, [.ref a9, .ref a10, .ref a11])), (a2, .inr (3, [.int 1, .int 0, .ref a12, .ref a13, .ref a14, .ref a15, .ref a16, .ref a17])), (a0, .inr (8, [.ref a2, .ref a4, .ref a5, .ref a1, .ref a6, .ref a7, .ref a8, .ref a3])), (a3, .inl (cI, 8, .inl (tb [0, 1])))]) rfl (fun H locs hP hD hS => ?_)
  exact r_i hx hb hr hk hK (hP.sub [] rfl) (hD.sub [] rfl rfl) hS dX8_lay_27
set_option maxRecDepth 100000 in
set_option maxHeartbeats 4000000 in
theorem c094_X8_lay (l : Launch) (dC : Nat → ClassId) (dI : Nat → Nat → Nat) (cI cJ cII cJJ : ClassId) (sz g a0 a1 a2 a3 a4 a5 a6 a7 a8 a9 a10 a11 a12 a13 a14 a15 a16 a17 : Nat) (x0 : Int32) (h_x0 : 0 ≤ x0.toInt ∧ x0.toInt ≤ 2147483647) (x1 : Int32) (h_x1 : 0 ≤ x1.toInt ∧ x1.toInt ≤ 3) (x2 : Int32) (h_x2 : -2147483648 ≤ x2.toInt ∧ x2.toInt ≤ 2147483647) : Met l yX8_lay (.code yX8_lay cX8_lay 5 (some .int) :: TT) ({ frames := 3, cells := 0, slots := 0, locals := 140 }) (PcS dC dI (TY cI cJ cII cJJ) [.ref a0, .int x0, .int x1, .int x2] [(a0, .inr (8, [.ref a2, .ref a4, .ref a5, .ref a1, .ref a6, .ref a7, .ref a8, .ref a3])), (a1, .inr (6, [.ref a9, .ref a10, .ref a11])), (a2, .inr (3, [.int 1, .int 0, .ref a12, .ref a13, .ref a14, .ref a15, .ref a16, .ref a17])), (a3, .inl (cI, 8, .inl (tb [])))] sz 0 g) ((QcI dC dI (TY cI cJ cII cJJ) (-1) []) (va_A [(a0, .inr (8, [.ref a2, .ref a4, .ref a5, .ref a1, .ref a6, .ref a7, .ref a8, .ref a3])), (a1, .inr (6, [.ref a9, .ref a10, .ref a11])), (a2, .inr (3, [.int 1, .int 0, .ref a12, .ref a13, .ref a14, .ref a15, .ref a16, .ref a17])), (a3, .inl (cI, 8, .inl (tb [])))] sz)) 0 0 (va_A [(a0, .inr (8, [.ref a2, .ref a4, .ref a5, .ref a1, .ref a6, .ref a7, .ref a8, .ref a3])), (a1, .inr (6, [.ref a9, .ref a10, .ref a11])), (a2, .inr (3, [.int 1, .int 0, .ref a12, .ref a13, .ref a14, .ref a15, .ref a16, .ref a17])), (a3, .inl (cI, 8, .inl (tb [])))] sz) := by
  refine SM.of (y := yX8_lay) (maxL := 5) (av := [.ref a0, .int x0, .int x1, .int x2]) (QcI dC dI (TY cI cJ cII cJJ) (-1) []) (by decide +kernel) (Nat.le_of_ble_eq_true rfl) (fun p e s m below meth c A ls hx hb hr hml hown hts hk hnm hA hK hP hD hS hX hl => ?_)
  have hown : s.vm.findClass RX8 = some m.cls := hown
  have hl : lv_has ls 5 [(0, .ref a0), (1, .int x0), (2, .int x1), (3, .int x2)] := hl
  refine lv_aload_n hx hb dX8_lay_0 rfl (lv_at hl 0 rfl) ?_
  refine gf (k := 3) hx hb hts inX8 hown hK hP k_267 rfl (by decide) rfl 0 rfl (.ref a1) rfl dX8_lay_1 ?_
  refine lv_iload_n hx hb dX8_lay_4 rfl (lv_at hl 2 rfl) ?_
  refine kV_i (q0 := 0) ⟨hx, hb, hml, hown, hts⟩ hK hP hD hS hA hX cv_RX8_112 [1] [0, 2, 3] (wr := [(a0, .inr (8, [.ref a2, .ref a4, .ref a5, .ref a1, .ref a6, .ref a7, .ref a8, .ref a3])), (a2, .inr (3, [.int 1, .int 0, .ref a12, .ref a13, .ref a14, .ref a15, .ref a16, .ref a17])), (a3, .inl (cI, 8, .inl (tb [])))]) rfl rfl rfl rfl (by decide) (c054_X6_isTray l dC dI cI cJ cII cJJ s.heap.size 0 a1 a9 a10 a11 x1 h_x1) ⟨by decide +kernel, by decide +kernel⟩ rfl rfl (Or.inl rfl) (rest := []) rfl rfl rfl hl.1 rfl (Nat.le_of_ble_eq_true rfl) dX8_lay_5 ⟨Nat.le_of_ble_eq_true rfl, Nat.le_of_ble_eq_true rfl⟩ (W' := [(a0, .inr (8, [.ref a2, .ref a4, .ref a5, .ref a1, .ref a6, .ref a7, .ref a8, .ref a3])), (a2, .inr (3, [.int 1, .int 0, .ref a12, .ref a13, .ref a14, .ref a15, .ref a16, .ref a17])), (a3, .inl (cI, 8, .inl (tb []))), (a1, .inr (6, [.ref a9, .ref a10, .ref a11]))]) rfl (fun H locs hP hD hS => ?_)
  refine f_if_eq hx hb dX8_lay_8 22 (by decide) (by decide +kernel) ?_
  refine lv_aload_n hx hb dX8_lay_11 rfl (lv_at hl 0 rfl) ?_
  refine gf (k := 0) hx hb hts inX8 hown hK hP k_264 rfl (by decide) rfl 0 rfl (.ref a2) rfl dX8_lay_12 ?_
  refine lv_iload_n hx hb dX8_lay_15 rfl (lv_at hl 1 rfl) ?_
  refine kV_i (q0 := 0) ⟨hx, hb, hml, hown, hts⟩ hK hP hD hS hA hX cv_RX8_78 [1] [0, 2, 3] (wr := [(a0, .inr (8, [.ref a2, .ref a4, .ref a5, .ref a1, .ref a6, .ref a7, .ref a8, .ref a3])), (a3, .inl (cI, 8, .inl (tb []))), (a1, .inr (6, [.ref a9, .ref a10, .ref a11]))]) rfl rfl rfl rfl (by decide) (c029_X3_hasEquation l dC dI cI cJ cII cJJ H.size 0 a2 a12 a13 a14 a15 a16 a17 x0 h_x0) ⟨by decide +kernel, by decide +kernel⟩ rfl rfl (Or.inl rfl) (rest := []) rfl rfl rfl hl.1 rfl (Nat.le_of_ble_eq_true rfl) dX8_lay_16 ⟨Nat.le_of_ble_eq_true rfl, Nat.le_of_ble_eq_true rfl⟩ (W' := [(a0, .inr (8, [.ref a2, .ref a4, .ref a5, .ref a1, .ref a6, .ref a7, .ref a8, .ref a3])), (a3, .inl (cI, 8, .inl (tb []))), (a1, .inr (6, [.ref a9, .ref a10, .ref a11])), (a2, .inr (3, [.int 1, .int 0, .ref a12, .ref a13, .ref a14, .ref a15, .ref a16, .ref a17]))]) rfl (fun H locs hP hD hS => ?_)
  refine f_if_ne hx hb dX8_lay_19 28 (by decide) (by decide +kernel) ?_
  refine lv_aload_n hx hb dX8_lay_22 rfl (lv_at hl 0 rfl) ?_
  refine lv_iconst (v := (-1)) hx hb dX8_lay_23 (by decide) ?_
  refine kV_i (q0 := 0) ⟨hx, hb, hml, hown, hts⟩ hK hP hD hS hA hX cv_RX8_53 [0, 1] [2, 3] (wr := [(a1, .inr (6, [.ref a9, .ref a10, .ref a11])), (a2, .inr (3, [.int 1, .int 0, .ref a12, .ref a13, .ref a14, .ref a15, .ref a16, .ref a17]))]) rfl rfl rfl rfl (by decide) (c027_X8_refuse l dC dI cI cJ cII cJJ H.size 0 a0 a3 a2 a4 a5 a1 a6 a7 a8) ⟨by decide +kernel, by decide +kernel⟩ rfl rfl (Or.inl rfl) (rest := []) rfl rfl rfl hl.1 rfl (Nat.le_of_ble_eq_true rfl) dX8_lay_24 ⟨Nat.le_of_ble_eq_true rfl, Nat.le_of_ble_eq_true rfl⟩ (W' := [(a1, .inr (6, [.ref a9, .ref a10, .ref a11])), (a2, .inr (3, [.int 1, .int 0, .ref a12, .ref a13, .ref a14, .ref a15, .ref a16, .ref a17])), (a0, .inr (8, [.ref a2, .ref a4, .ref a5, .ref a1, .ref a6, .ref a7, .ref a8, .ref a3])), (a3, .inl (cI, 8, .inl (tb [0, 1])))]) rfl (fun H locs hP hD hS => ?_)
  exact r_i hx hb hr hk hK (hP.sub [] rfl) (hD.sub [] rfl rfl) hS dX8_lay_27
set_option maxRecDepth 100000 in
set_option maxHeartbeats 4000000 in
theorem c098_X7_clear (l : Launch) (dC : Nat → ClassId) (dI : Nat → Nat → Nat) (cI cJ cII cJJ : ClassId) (sz g a0 a1 : Nat) : Met l yX7_clear (.code yX7_clear cX7_clear 1 none :: TT) ({ frames := 2, cells := 0, slots := 0, locals := 80 }) (PcS dC dI (TY cI cJ cII cJJ) [.ref a0] [(a0, .inr (7, [.ref a1, .int 0]))] sz 0 g) ((QcV dC dI (TY cI cJ cII cJJ) (fun _ => [(a0, .inr (7, [.ref a1, .int 0]))])) (va_A [(a0, .inr (7, [.ref a1, .int 0]))] sz)) 0 0 (va_A [(a0, .inr (7, [.ref a1, .int 0]))] sz) := by
  refine SM.of (y := yX7_clear) (maxL := 1) (av := [.ref a0]) (QcV dC dI (TY cI cJ cII cJJ) (fun _ => [(a0, .inr (7, [.ref a1, .int 0]))])) (by decide +kernel) (Nat.le_of_ble_eq_true rfl) (fun p e s m below meth c A ls hx hb hr hml hown hts hk hnm hA hK hP hD hS hX hl => ?_)
  have hown : s.vm.findClass RX7 = some m.cls := hown
  have hl : lv_has ls 1 [(0, .ref a0)] := hl
  refine lv_aload_n hx hb dX7_clear_0 rfl (lv_at hl 0 rfl) ?_
  refine lv_iconst (v := 0) hx hb dX7_clear_1 (by decide) ?_
  refine pf (k := 1) hx hb hts inX7 tyX7_ok nmX7 hown hK hP hD hS k_101 rfl (by decide) rfl rfl 0 rfl rfl rfl (Nat.le_of_ble_eq_true rfl) dX7_clear_2 (W' := [(a0, .inr (7, [.ref a1, .int 0]))]) rfl (fun H locs hP hD hS => ?_)
  exact r_v (fun _ => 0) hx hb hr hk hK hP hD hS dX7_clear_5
set_option maxRecDepth 100000 in
set_option maxHeartbeats 4000000 in
theorem c100_J7_fill_d0a16 (l : Launch) (dC : Nat → ClassId) (dI : Nat → Nat → Nat) (cI cJ cII cJJ : ClassId) (sz g a0 : Nat) : Met l yJ7_fill_d0a16 (.code yJ7_fill_d0a16 cJ7_fill_d0a16 5 none :: TT) ({ frames := 2, cells := 0, slots := 0, locals := 80 }) (PcS dC dI (TY cI cJ cII cJJ) [.ref a0, .long 0] [(a0, .inl (cJ, 4, .inr (.inl (tbl []))))] sz 0 g) ((QcV dC dI (TY cI cJ cII cJJ) (fun _ => [(a0, .inl (cJ, 4, .inr (.inl (tbl [0, 0, 0, 0]))))])) (va_A [(a0, .inl (cJ, 4, .inr (.inl (tbl []))))] sz)) 0 0 (va_A [(a0, .inl (cJ, 4, .inr (.inl (tbl []))))] sz) := by
  refine SM.of (y := yJ7_fill_d0a16) (maxL := 5) (av := [.ref a0, .long 0]) (QcV dC dI (TY cI cJ cII cJJ) (fun _ => [(a0, .inl (cJ, 4, .inr (.inl (tbl [0, 0, 0, 0]))))])) (by decide +kernel) (Nat.le_of_ble_eq_true rfl) (fun p e s m below meth c A ls hx hb hr hml hown hts hk hnm hA hK hP hD hS hX hl => ?_)
  have hown : s.vm.findClass RJ7 = some m.cls := hown
  have hl : lv_has ls 5 [(0, .ref a0), (1, .long 0)] := hl
  refine lv_iconst (v := 0) hx hb dJ7_fill_d0a16_0 (by decide) ?_
  refine lv_istore_n (lv' := [(3, .int 0), (0, .ref a0), (1, .long 0)]) hx hb dJ7_fill_d0a16_1 rfl hl (by decide) rfl (fun ls hl => ?_)
  refine lv_aload_n hx hb dJ7_fill_d0a16_2 rfl (lv_at hl 1 rfl) ?_
  refine al_ hx hb hK hP 0 1 rfl rfl dJ7_fill_d0a16_3 4 rfl ?_
  refine lv_istore (lv' := [(4, .int 4), (3, .int 0), (0, .ref a0), (1, .long 0)]) hx hb dJ7_fill_d0a16_4 hl (by decide) rfl (fun ls hl => ?_)
  refine lv_iload_n hx hb dJ7_fill_d0a16_6 rfl (lv_at hl 1 rfl) ?_
  refine lv_iload hx hb dJ7_fill_d0a16_7 (lv_at hl 0 rfl) ?_
  refine f_icmp_ge hx hb dJ7_fill_d0a16_9 22 (by decide) (by decide +kernel) ?_
  refine lv_aload_n hx hb dJ7_fill_d0a16_12 rfl (lv_at hl 2 rfl) ?_
  refine lv_iload_n hx hb dJ7_fill_d0a16_13 rfl (lv_at hl 1 rfl) ?_
  refine lv_lload_n hx hb dJ7_fill_d0a16_14 rfl (lv_at hl 3 rfl) ?_
  refine st_l hx hb hK hP hD hS 0 rfl (vin (by decide +kernel)) dJ7_fill_d0a16_15 (L' := [0]) rfl (W' := [(a0, .inl (cJ, 4, .inr (.inl (tbl [0]))))]) rfl (fun H locs hP hD hS => ?_)
  refine lv_iinc (v := 1) (lv' := [(3, .int 1), (4, .int 4), (0, .ref a0), (1, .long 0)]) hx hb dJ7_fill_d0a16_16 hl (k := 1) rfl (by decide +kernel) (by decide) rfl (fun ls hl => ?_)
  refine lv_goto (tgt := 6) hx hb dJ7_fill_d0a16_19 (by decide) ?_
  refine lv_iload_n hx hb dJ7_fill_d0a16_6 rfl (lv_at hl 0 rfl) ?_
  refine lv_iload hx hb dJ7_fill_d0a16_7 (lv_at hl 1 rfl) ?_
  refine f_icmp_ge hx hb dJ7_fill_d0a16_9 22 (by decide) (by decide +kernel) ?_
  refine lv_aload_n hx hb dJ7_fill_d0a16_12 rfl (lv_at hl 2 rfl) ?_
  refine lv_iload_n hx hb dJ7_fill_d0a16_13 rfl (lv_at hl 0 rfl) ?_
  refine lv_lload_n hx hb dJ7_fill_d0a16_14 rfl (lv_at hl 3 rfl) ?_
  refine st_l hx hb hK hP hD hS 0 rfl (vin (by decide +kernel)) dJ7_fill_d0a16_15 (L' := [0, 0]) rfl (W' := [(a0, .inl (cJ, 4, .inr (.inl (tbl [0, 0]))))]) rfl (fun H locs hP hD hS => ?_)
  refine lv_iinc (v := 2) (lv' := [(3, .int 2), (4, .int 4), (0, .ref a0), (1, .long 0)]) hx hb dJ7_fill_d0a16_16 hl (k := 0) rfl (by decide +kernel) (by decide) rfl (fun ls hl => ?_)
  refine lv_goto (tgt := 6) hx hb dJ7_fill_d0a16_19 (by decide) ?_
  refine lv_iload_n hx hb dJ7_fill_d0a16_6 rfl (lv_at hl 0 rfl) ?_
  refine lv_iload hx hb dJ7_fill_d0a16_7 (lv_at hl 1 rfl) ?_
  refine f_icmp_ge hx hb dJ7_fill_d0a16_9 22 (by decide) (by decide +kernel) ?_
  refine lv_aload_n hx hb dJ7_fill_d0a16_12 rfl (lv_at hl 2 rfl) ?_
  refine lv_iload_n hx hb dJ7_fill_d0a16_13 rfl (lv_at hl 0 rfl) ?_
  refine lv_lload_n hx hb dJ7_fill_d0a16_14 rfl (lv_at hl 3 rfl) ?_
  refine st_l hx hb hK hP hD hS 0 rfl (vin (by decide +kernel)) dJ7_fill_d0a16_15 (L' := [0, 0, 0]) rfl (W' := [(a0, .inl (cJ, 4, .inr (.inl (tbl [0, 0, 0]))))]) rfl (fun H locs hP hD hS => ?_)
  refine lv_iinc (v := 3) (lv' := [(3, .int 3), (4, .int 4), (0, .ref a0), (1, .long 0)]) hx hb dJ7_fill_d0a16_16 hl (k := 0) rfl (by decide +kernel) (by decide) rfl (fun ls hl => ?_)
  refine lv_goto (tgt := 6) hx hb dJ7_fill_d0a16_19 (by decide) ?_
  refine lv_iload_n hx hb dJ7_fill_d0a16_6 rfl (lv_at hl 0 rfl) ?_
  refine lv_iload hx hb dJ7_fill_d0a16_7 (lv_at hl 1 rfl) ?_
  refine f_icmp_ge hx hb dJ7_fill_d0a16_9 22 (by decide) (by decide +kernel) ?_
  refine lv_aload_n hx hb dJ7_fill_d0a16_12 rfl (lv_at hl 2 rfl) ?_
  refine lv_iload_n hx hb dJ7_fill_d0a16_13 rfl (lv_at hl 0 rfl) ?_
  refine lv_lload_n hx hb dJ7_fill_d0a16_14 rfl (lv_at hl 3 rfl) ?_
  refine st_l hx hb hK hP hD hS 0 rfl (vin (by decide +kernel)) dJ7_fill_d0a16_15 (L' := [0, 0, 0, 0]) rfl (W' := [(a0, .inl (cJ, 4, .inr (.inl (tbl [0, 0, 0, 0]))))]) rfl (fun H locs hP hD hS => ?_)
  refine lv_iinc (v := 4) (lv' := [(3, .int 4), (4, .int 4), (0, .ref a0), (1, .long 0)]) hx hb dJ7_fill_d0a16_16 hl (k := 0) rfl (by decide +kernel) (by decide) rfl (fun ls hl => ?_)
  refine lv_goto (tgt := 6) hx hb dJ7_fill_d0a16_19 (by decide) ?_
  refine lv_iload_n hx hb dJ7_fill_d0a16_6 rfl (lv_at hl 0 rfl) ?_
  refine lv_iload hx hb dJ7_fill_d0a16_7 (lv_at hl 1 rfl) ?_
  refine t_icmp_ge hx hb dJ7_fill_d0a16_9 22 (by decide) (by decide +kernel) ?_
  exact r_v (fun _ => 0) hx hb hr hk hK hP hD hS dJ7_fill_d0a16_22
set_option maxRecDepth 100000 in
set_option maxHeartbeats 4000000 in
theorem c099_X1_solve (l : Launch) (dC : Nat → ClassId) (dI : Nat → Nat → Nat) (cI cJ cII cJJ : ClassId) (sz g a0 a1 a2 a3 a4 a5 a6 a7 a8 a9 a10 a11 a12 a13 a14 : Nat) : Met l yX1_solve (.code yX1_solve cX1_solve 3 none :: TT) ({ frames := 3, cells := 0, slots := 0, locals := 140 }) (PcS dC dI (TY cI cJ cII cJJ) [.ref a0, .ref a1] [(a0, .inr (1, [.ref a2, .ref a7, .ref a8, .int 0])), (a1, .inr (3, [.int 1, .int 0, .ref a9, .ref a10, .ref a11, .ref a12, .ref a13, .ref a14])), (a2, .inl (cJJ, 4, .inr (.inr (.inr (.inr (tr [a3, a4, a5, a6])))))), (a3, .inl (cJ, 4, .inr (.inl (tbl [])))), (a4, .inl (cJ, 4, .inr (.inl (tbl [])))), (a5, .inl (cJ, 4, .inr (.inl (tbl [])))), (a6, .inl (cJ, 4, .inr (.inl (tbl []))))] sz 0 g) ((QcV dC dI (TY cI cJ cII cJJ) (fun _ => [(a0, .inr (1, [.ref a2, .ref a7, .ref a8, .int 1])), (a1, .inr (3, [.int 1, .int 0, .ref a9, .ref a10, .ref a11, .ref a12, .ref a13, .ref a14])), (a2, .inl (cJJ, 4, .inr (.inr (.inr (.inr (tr [a3, a4, a5, a6])))))), (a3, .inl (cJ, 4, .inr (.inl (tbl [1, 0, 0, 0])))), (a4, .inl (cJ, 4, .inr (.inl (tbl [0, 1, 0, 0])))), (a5, .inl (cJ, 4, .inr (.inl (tbl [0, 0, 1, 0])))), (a6, .inl (cJ, 4, .inr (.inl (tbl [0, 0, 0, 1]))))])) (va_A [(a0, .inr (1, [.ref a2, .ref a7, .ref a8, .int 0])), (a1, .inr (3, [.int 1, .int 0, .ref a9, .ref a10, .ref a11, .ref a12, .ref a13, .ref a14])), (a2, .inl (cJJ, 4, .inr (.inr (.inr (.inr (tr [a3, a4, a5, a6])))))), (a3, .inl (cJ, 4, .inr (.inl (tbl [])))), (a4, .inl (cJ, 4, .inr (.inl (tbl [])))), (a5, .inl (cJ, 4, .inr (.inl (tbl [])))), (a6, .inl (cJ, 4, .inr (.inl (tbl []))))] sz)) 0 0 (va_A [(a0, .inr (1, [.ref a2, .ref a7, .ref a8, .int 0])), (a1, .inr (3, [.int 1, .int 0, .ref a9, .ref a10, .ref a11, .ref a12, .ref a13, .ref a14])), (a2, .inl (cJJ, 4, .inr (.inr (.inr (.inr (tr [a3, a4, a5, a6])))))), (a3, .inl (cJ, 4, .inr (.inl (tbl [])))), (a4, .inl (cJ, 4, .inr (.inl (tbl [])))), (a5, .inl (cJ, 4, .inr (.inl (tbl [])))), (a6, .inl (cJ, 4, .inr (.inl (tbl []))))] sz) := by
  refine SM.of (y := yX1_solve) (maxL := 3) (av := [.ref a0, .ref a1]) (QcV dC dI (TY cI cJ cII cJJ) (fun _ => [(a0, .inr (1, [.ref a2, .ref a7, .ref a8, .int 1])), (a1, .inr (3, [.int 1, .int 0, .ref a9, .ref a10, .ref a11, .ref a12, .ref a13, .ref a14])), (a2, .inl (cJJ, 4, .inr (.inr (.inr (.inr (tr [a3, a4, a5, a6])))))), (a3, .inl (cJ, 4, .inr (.inl (tbl [1, 0, 0, 0])))), (a4, .inl (cJ, 4, .inr (.inl (tbl [0, 1, 0, 0])))), (a5, .inl (cJ, 4, .inr (.inl (tbl [0, 0, 1, 0])))), (a6, .inl (cJ, 4, .inr (.inl (tbl [0, 0, 0, 1]))))])) (by decide +kernel) (Nat.le_of_ble_eq_true rfl) (fun p e s m below meth c A ls hx hb hr hml hown hts hk hnm hA hK hP hD hS hX hl => ?_)
  have hown : s.vm.findClass RX1 = some m.cls := hown
  have hl : lv_has ls 3 [(0, .ref a0), (1, .ref a1)] := hl
  refine lv_aload_n hx hb dX1_solve_0 rfl (lv_at hl 0 rfl) ?_
  refine lv_aload_n hx hb dX1_solve_1 rfl (lv_at hl 1 rfl) ?_
  refine gf (k := 0) hx hb hts inX3 hown hK hP k_38 rfl (by decide) rfl 1 rfl (.int 1) rfl dX1_solve_2 ?_
  refine pf (k := 3) hx hb hts inX1 tyX1_ok nmX1 hown hK hP hD hS k_120 rfl (by decide) rfl rfl 0 rfl rfl rfl (Nat.le_of_ble_eq_true rfl) dX1_solve_5 (W' := [(a0, .inr (1, [.ref a2, .ref a7, .ref a8, .int 1])), (a1, .inr (3, [.int 1, .int 0, .ref a9, .ref a10, .ref a11, .ref a12, .ref a13, .ref a14])), (a2, .inl (cJJ, 4, .inr (.inr (.inr (.inr (tr [a3, a4, a5, a6])))))), (a3, .inl (cJ, 4, .inr (.inl (tbl [])))), (a4, .inl (cJ, 4, .inr (.inl (tbl [])))), (a5, .inl (cJ, 4, .inr (.inl (tbl [])))), (a6, .inl (cJ, 4, .inr (.inl (tbl []))))]) rfl (fun H locs hP hD hS => ?_)
  refine lv_iconst (v := 0) hx hb dX1_solve_8 (by decide) ?_
  refine lv_istore_n (lv' := [(2, .int 0), (0, .ref a0), (1, .ref a1)]) hx hb dX1_solve_9 rfl hl (by decide) rfl (fun ls hl => ?_)
  refine lv_iload_n hx hb dX1_solve_10 rfl (lv_at hl 0 rfl) ?_
  refine lv_iconst (v := 4) hx hb dX1_solve_11 (by decide) ?_
  refine f_icmp_ge hx hb dX1_solve_12 40 (by decide) (by decide +kernel) ?_
  refine lv_aload_n hx hb dX1_solve_15 rfl (lv_at hl 1 rfl) ?_
  refine gf (k := 0) hx hb hts inX1 hown hK hP k_116 rfl (by decide) rfl 0 rfl (.ref a2) rfl dX1_solve_16 ?_
  refine lv_iload_n hx hb dX1_solve_19 rfl (lv_at hl 0 rfl) ?_
  refine ld_a hx hb hK hP 2 3 rfl rfl (vin (by decide +kernel)) dX1_solve_20 a3 rfl ?_
  refine lv_lconst (v := 0) hx hb dX1_solve_21 (by decide) ?_
  refine kS_v ⟨hx, hb, hml, hown, hts⟩ hK hP hD hS hA hX cs_RX1_33 [3] [0, 1, 2, 4, 5, 6] (wr := [(a0, .inr (1, [.ref a2, .ref a7, .ref a8, .int 1])), (a1, .inr (3, [.int 1, .int 0, .ref a9, .ref a10, .ref a11, .ref a12, .ref a13, .ref a14])), (a2, .inl (cJJ, 4, .inr (.inr (.inr (.inr (tr [a3, a4, a5, a6])))))), (a4, .inl (cJ, 4, .inr (.inl (tbl [])))), (a5, .inl (cJ, 4, .inr (.inl (tbl [])))), (a6, .inl (cJ, 4, .inr (.inl (tbl []))))]) rfl rfl rfl rfl (by decide) (c100_J7_fill_d0a16 l dC dI cI cJ cII cJJ H.size 0 a3) ⟨by decide +kernel, by decide +kernel⟩ rfl rfl (Or.inl rfl) (rest := []) rfl hl.1 rfl (Nat.le_of_ble_eq_true rfl) dX1_solve_22 ⟨Nat.le_of_ble_eq_true rfl, Nat.le_of_ble_eq_true rfl⟩ (fun _ => rfl) (W' := [(a0, .inr (1, [.ref a2, .ref a7, .ref a8, .int 1])), (a1, .inr (3, [.int 1, .int 0, .ref a9, .ref a10, .ref a11, .ref a12, .ref a13, .ref a14])), (a2, .inl (cJJ, 4, .inr (.inr (.inr (.inr (tr [a3, a4, a5, a6])))))), (a4, .inl (cJ, 4, .inr (.inl (tbl [])))), (a5, .inl (cJ, 4, .inr (.inl (tbl [])))), (a6, .inl (cJ, 4, .inr (.inl (tbl [])))), (a3, .inl (cJ, 4, .inr (.inl (tbl [0, 0, 0, 0]))))]) rfl (fun H locs hP hD hS => ?_)
  refine lv_aload_n hx hb dX1_solve_25 rfl (lv_at hl 1 rfl) ?_
  refine gf (k := 0) hx hb hts inX1 hown hK hP k_116 rfl (by decide) rfl 0 rfl (.ref a2) rfl dX1_solve_26 ?_
  refine lv_iload_n hx hb dX1_solve_29 rfl (lv_at hl 0 rfl) ?_
  refine ld_a hx hb hK hP 2 3 rfl rfl (vin (by decide +kernel)) dX1_solve_30 a3 rfl ?_
  refine lv_iload_n hx hb dX1_solve_31 rfl (lv_at hl 0 rfl) ?_
  refine lv_lconst (v := 1) hx hb dX1_solve_32 (by decide) ?_
  refine st_l hx hb hK hP hD hS 6 rfl (vin (by decide +kernel)) dX1_solve_33 (L' := [1, 0, 0, 0]) rfl (W' := [(a0, .inr (1, [.ref a2, .ref a7, .ref a8, .int 1])), (a1, .inr (3, [.int 1, .int 0, .ref a9, .ref a10, .ref a11, .ref a12, .ref a13, .ref a14])), (a2, .inl (cJJ, 4, .inr (.inr (.inr (.inr (tr [a3, a4, a5, a6])))))), (a4, .inl (cJ, 4, .inr (.inl (tbl [])))), (a5, .inl (cJ, 4, .inr (.inl (tbl [])))), (a6, .inl (cJ, 4, .inr (.inl (tbl [])))), (a3, .inl (cJ, 4, .inr (.inl (tbl [1, 0, 0, 0]))))]) rfl (fun H locs hP hD hS => ?_)
  refine lv_iinc (v := 1) (lv' := [(2, .int 1), (0, .ref a0), (1, .ref a1)]) hx hb dX1_solve_34 hl (k := 0) rfl (by decide +kernel) (by decide) rfl (fun ls hl => ?_)
  refine lv_goto (tgt := 10) hx hb dX1_solve_37 (by decide) ?_
  refine lv_iload_n hx hb dX1_solve_10 rfl (lv_at hl 0 rfl) ?_
  refine lv_iconst (v := 4) hx hb dX1_solve_11 (by decide) ?_
  refine f_icmp_ge hx hb dX1_solve_12 40 (by decide) (by decide +kernel) ?_
  refine lv_aload_n hx hb dX1_solve_15 rfl (lv_at hl 1 rfl) ?_
  refine gf (k := 0) hx hb hts inX1 hown hK hP k_116 rfl (by decide) rfl 0 rfl (.ref a2) rfl dX1_solve_16 ?_
  refine lv_iload_n hx hb dX1_solve_19 rfl (lv_at hl 0 rfl) ?_
  refine ld_a hx hb hK hP 2 3 rfl rfl (vin (by decide +kernel)) dX1_solve_20 a4 rfl ?_
  refine lv_lconst (v := 0) hx hb dX1_solve_21 (by decide) ?_
  refine kS_v ⟨hx, hb, hml, hown, hts⟩ hK hP hD hS hA hX cs_RX1_33 [3] [0, 1, 2, 4, 5, 6] (wr := [(a0, .inr (1, [.ref a2, .ref a7, .ref a8, .int 1])), (a1, .inr (3, [.int 1, .int 0, .ref a9, .ref a10, .ref a11, .ref a12, .ref a13, .ref a14])), (a2, .inl (cJJ, 4, .inr (.inr (.inr (.inr (tr [a3, a4, a5, a6])))))), (a5, .inl (cJ, 4, .inr (.inl (tbl [])))), (a6, .inl (cJ, 4, .inr (.inl (tbl [])))), (a3, .inl (cJ, 4, .inr (.inl (tbl [1, 0, 0, 0]))))]) rfl rfl rfl rfl (by decide) (c100_J7_fill_d0a16 l dC dI cI cJ cII cJJ H.size 0 a4) ⟨by decide +kernel, by decide +kernel⟩ rfl rfl (Or.inl rfl) (rest := []) rfl hl.1 rfl (Nat.le_of_ble_eq_true rfl) dX1_solve_22 ⟨Nat.le_of_ble_eq_true rfl, Nat.le_of_ble_eq_true rfl⟩ (fun _ => rfl) (W' := [(a0, .inr (1, [.ref a2, .ref a7, .ref a8, .int 1])), (a1, .inr (3, [.int 1, .int 0, .ref a9, .ref a10, .ref a11, .ref a12, .ref a13, .ref a14])), (a2, .inl (cJJ, 4, .inr (.inr (.inr (.inr (tr [a3, a4, a5, a6])))))), (a5, .inl (cJ, 4, .inr (.inl (tbl [])))), (a6, .inl (cJ, 4, .inr (.inl (tbl [])))), (a3, .inl (cJ, 4, .inr (.inl (tbl [1, 0, 0, 0])))), (a4, .inl (cJ, 4, .inr (.inl (tbl [0, 0, 0, 0]))))]) rfl (fun H locs hP hD hS => ?_)
  refine lv_aload_n hx hb dX1_solve_25 rfl (lv_at hl 1 rfl) ?_
  refine gf (k := 0) hx hb hts inX1 hown hK hP k_116 rfl (by decide) rfl 0 rfl (.ref a2) rfl dX1_solve_26 ?_
  refine lv_iload_n hx hb dX1_solve_29 rfl (lv_at hl 0 rfl) ?_
  refine ld_a hx hb hK hP 2 3 rfl rfl (vin (by decide +kernel)) dX1_solve_30 a4 rfl ?_
  refine lv_iload_n hx hb dX1_solve_31 rfl (lv_at hl 0 rfl) ?_
  refine lv_lconst (v := 1) hx hb dX1_solve_32 (by decide) ?_
  refine st_l hx hb hK hP hD hS 6 rfl (vin (by decide +kernel)) dX1_solve_33 (L' := [0, 1, 0, 0]) rfl (W' := [(a0, .inr (1, [.ref a2, .ref a7, .ref a8, .int 1])), (a1, .inr (3, [.int 1, .int 0, .ref a9, .ref a10, .ref a11, .ref a12, .ref a13, .ref a14])), (a2, .inl (cJJ, 4, .inr (.inr (.inr (.inr (tr [a3, a4, a5, a6])))))), (a5, .inl (cJ, 4, .inr (.inl (tbl [])))), (a6, .inl (cJ, 4, .inr (.inl (tbl [])))), (a3, .inl (cJ, 4, .inr (.inl (tbl [1, 0, 0, 0])))), (a4, .inl (cJ, 4, .inr (.inl (tbl [0, 1, 0, 0]))))]) rfl (fun H locs hP hD hS => ?_)
  refine lv_iinc (v := 2) (lv' := [(2, .int 2), (0, .ref a0), (1, .ref a1)]) hx hb dX1_solve_34 hl (k := 0) rfl (by decide +kernel) (by decide) rfl (fun ls hl => ?_)
  refine lv_goto (tgt := 10) hx hb dX1_solve_37 (by decide) ?_
  refine lv_iload_n hx hb dX1_solve_10 rfl (lv_at hl 0 rfl) ?_
  refine lv_iconst (v := 4) hx hb dX1_solve_11 (by decide) ?_
  refine f_icmp_ge hx hb dX1_solve_12 40 (by decide) (by decide +kernel) ?_
  refine lv_aload_n hx hb dX1_solve_15 rfl (lv_at hl 1 rfl) ?_
  refine gf (k := 0) hx hb hts inX1 hown hK hP k_116 rfl (by decide) rfl 0 rfl (.ref a2) rfl dX1_solve_16 ?_
  refine lv_iload_n hx hb dX1_solve_19 rfl (lv_at hl 0 rfl) ?_
  refine ld_a hx hb hK hP 2 3 rfl rfl (vin (by decide +kernel)) dX1_solve_20 a5 rfl ?_
  refine lv_lconst (v := 0) hx hb dX1_solve_21 (by decide) ?_
  refine kS_v ⟨hx, hb, hml, hown, hts⟩ hK hP hD hS hA hX cs_RX1_33 [3] [0, 1, 2, 4, 5, 6] (wr := [(a0, .inr (1, [.ref a2, .ref a7, .ref a8, .int 1])), (a1, .inr (3, [.int 1, .int 0, .ref a9, .ref a10, .ref a11, .ref a12, .ref a13, .ref a14])), (a2, .inl (cJJ, 4, .inr (.inr (.inr (.inr (tr [a3, a4, a5, a6])))))), (a6, .inl (cJ, 4, .inr (.inl (tbl [])))), (a3, .inl (cJ, 4, .inr (.inl (tbl [1, 0, 0, 0])))), (a4, .inl (cJ, 4, .inr (.inl (tbl [0, 1, 0, 0]))))]) rfl rfl rfl rfl (by decide) (c100_J7_fill_d0a16 l dC dI cI cJ cII cJJ H.size 0 a5) ⟨by decide +kernel, by decide +kernel⟩ rfl rfl (Or.inl rfl) (rest := []) rfl hl.1 rfl (Nat.le_of_ble_eq_true rfl) dX1_solve_22 ⟨Nat.le_of_ble_eq_true rfl, Nat.le_of_ble_eq_true rfl⟩ (fun _ => rfl) (W' := [(a0, .inr (1, [.ref a2, .ref a7, .ref a8, .int 1])), (a1, .inr (3, [.int 1, .int 0, .ref a9, .ref a10, .ref a11, .ref a12, .ref a13, .ref a14])), (a2, .inl (cJJ, 4, .inr (.inr (.inr (.inr (tr [a3, a4, a5, a6])))))), (a6, .inl (cJ, 4, .inr (.inl (tbl [])))), (a3, .inl (cJ, 4, .inr (.inl (tbl [1, 0, 0, 0])))), (a4, .inl (cJ, 4, .inr (.inl (tbl [0, 1, 0, 0])))), (a5, .inl (cJ, 4, .inr (.inl (tbl [0, 0, 0, 0]))))]) rfl (fun H locs hP hD hS => ?_)
  refine lv_aload_n hx hb dX1_solve_25 rfl (lv_at hl 1 rfl) ?_
  refine gf (k := 0) hx hb hts inX1 hown hK hP k_116 rfl (by decide) rfl 0 rfl (.ref a2) rfl dX1_solve_26 ?_
  refine lv_iload_n hx hb dX1_solve_29 rfl (lv_at hl 0 rfl) ?_
  refine ld_a hx hb hK hP 2 3 rfl rfl (vin (by decide +kernel)) dX1_solve_30 a5 rfl ?_
  refine lv_iload_n hx hb dX1_solve_31 rfl (lv_at hl 0 rfl) ?_
  refine lv_lconst (v := 1) hx hb dX1_solve_32 (by decide) ?_
  refine st_l hx hb hK hP hD hS 6 rfl (vin (by decide +kernel)) dX1_solve_33 (L' := [0, 0, 1, 0]) rfl (W' := [(a0, .inr (1, [.ref a2, .ref a7, .ref a8, .int 1])), (a1, .inr (3, [.int 1, .int 0, .ref a9, .ref a10, .ref a11, .ref a12, .ref a13, .ref a14])), (a2, .inl (cJJ, 4, .inr (.inr (.inr (.inr (tr [a3, a4, a5, a6])))))), (a6, .inl (cJ, 4, .inr (.inl (tbl [])))), (a3, .inl (cJ, 4, .inr (.inl (tbl [1, 0, 0, 0])))), (a4, .inl (cJ, 4, .inr (.inl (tbl [0, 1, 0, 0])))), (a5, .inl (cJ, 4, .inr (.inl (tbl [0, 0, 1, 0]))))]) rfl (fun H locs hP hD hS => ?_)
  refine lv_iinc (v := 3) (lv' := [(2, .int 3), (0, .ref a0), (1, .ref a1)]) hx hb dX1_solve_34 hl (k := 0) rfl (by decide +kernel) (by decide) rfl (fun ls hl => ?_)
  refine lv_goto (tgt := 10) hx hb dX1_solve_37 (by decide) ?_
  refine lv_iload_n hx hb dX1_solve_10 rfl (lv_at hl 0 rfl) ?_
  refine lv_iconst (v := 4) hx hb dX1_solve_11 (by decide) ?_
  refine f_icmp_ge hx hb dX1_solve_12 40 (by decide) (by decide +kernel) ?_
  refine lv_aload_n hx hb dX1_solve_15 rfl (lv_at hl 1 rfl) ?_
  refine gf (k := 0) hx hb hts inX1 hown hK hP k_116 rfl (by decide) rfl 0 rfl (.ref a2) rfl dX1_solve_16 ?_
  refine lv_iload_n hx hb dX1_solve_19 rfl (lv_at hl 0 rfl) ?_
  refine ld_a hx hb hK hP 2 3 rfl rfl (vin (by decide +kernel)) dX1_solve_20 a6 rfl ?_
  refine lv_lconst (v := 0) hx hb dX1_solve_21 (by decide) ?_
  refine kS_v ⟨hx, hb, hml, hown, hts⟩ hK hP hD hS hA hX cs_RX1_33 [3] [0, 1, 2, 4, 5, 6] (wr := [(a0, .inr (1, [.ref a2, .ref a7, .ref a8, .int 1])), (a1, .inr (3, [.int 1, .int 0, .ref a9, .ref a10, .ref a11, .ref a12, .ref a13, .ref a14])), (a2, .inl (cJJ, 4, .inr (.inr (.inr (.inr (tr [a3, a4, a5, a6])))))), (a3, .inl (cJ, 4, .inr (.inl (tbl [1, 0, 0, 0])))), (a4, .inl (cJ, 4, .inr (.inl (tbl [0, 1, 0, 0])))), (a5, .inl (cJ, 4, .inr (.inl (tbl [0, 0, 1, 0]))))]) rfl rfl rfl rfl (by decide) (c100_J7_fill_d0a16 l dC dI cI cJ cII cJJ H.size 0 a6) ⟨by decide +kernel, by decide +kernel⟩ rfl rfl (Or.inl rfl) (rest := []) rfl hl.1 rfl (Nat.le_of_ble_eq_true rfl) dX1_solve_22 ⟨Nat.le_of_ble_eq_true rfl, Nat.le_of_ble_eq_true rfl⟩ (fun _ => rfl) (W' := [(a0, .inr (1, [.ref a2, .ref a7, .ref a8, .int 1])), (a1, .inr (3, [.int 1, .int 0, .ref a9, .ref a10, .ref a11, .ref a12, .ref a13, .ref a14])), (a2, .inl (cJJ, 4, .inr (.inr (.inr (.inr (tr [a3, a4, a5, a6])))))), (a3, .inl (cJ, 4, .inr (.inl (tbl [1, 0, 0, 0])))), (a4, .inl (cJ, 4, .inr (.inl (tbl [0, 1, 0, 0])))), (a5, .inl (cJ, 4, .inr (.inl (tbl [0, 0, 1, 0])))), (a6, .inl (cJ, 4, .inr (.inl (tbl [0, 0, 0, 0]))))]) rfl (fun H locs hP hD hS => ?_)
  refine lv_aload_n hx hb dX1_solve_25 rfl (lv_at hl 1 rfl) ?_
  refine gf (k := 0) hx hb hts inX1 hown hK hP k_116 rfl (by decide) rfl 0 rfl (.ref a2) rfl dX1_solve_26 ?_
  refine lv_iload_n hx hb dX1_solve_29 rfl (lv_at hl 0 rfl) ?_
  refine ld_a hx hb hK hP 2 3 rfl rfl (vin (by decide +kernel)) dX1_solve_30 a6 rfl ?_
  refine lv_iload_n hx hb dX1_solve_31 rfl (lv_at hl 0 rfl) ?_
  refine lv_lconst (v := 1) hx hb dX1_solve_32 (by decide) ?_
  refine st_l hx hb hK hP hD hS 6 rfl (vin (by decide +kernel)) dX1_solve_33 (L' := [0, 0, 0, 1]) rfl (W' := [(a0, .inr (1, [.ref a2, .ref a7, .ref a8, .int 1])), (a1, .inr (3, [.int 1, .int 0, .ref a9, .ref a10, .ref a11, .ref a12, .ref a13, .ref a14])), (a2, .inl (cJJ, 4, .inr (.inr (.inr (.inr (tr [a3, a4, a5, a6])))))), (a3, .inl (cJ, 4, .inr (.inl (tbl [1, 0, 0, 0])))), (a4, .inl (cJ, 4, .inr (.inl (tbl [0, 1, 0, 0])))), (a5, .inl (cJ, 4, .inr (.inl (tbl [0, 0, 1, 0])))), (a6, .inl (cJ, 4, .inr (.inl (tbl [0, 0, 0, 1]))))]) rfl (fun H locs hP hD hS => ?_)
  refine lv_iinc (v := 4) (lv' := [(2, .int 4), (0, .ref a0), (1, .ref a1)]) hx hb dX1_solve_34 hl (k := 0) rfl (by decide +kernel) (by decide) rfl (fun ls hl => ?_)
  refine lv_goto (tgt := 10) hx hb dX1_solve_37 (by decide) ?_
  refine lv_iload_n hx hb dX1_solve_10 rfl (lv_at hl 0 rfl) ?_
  refine lv_iconst (v := 4) hx hb dX1_solve_11 (by decide) ?_
  refine t_icmp_ge hx hb dX1_solve_12 40 (by decide) (by decide +kernel) ?_
  refine lv_iconst (v := 0) hx hb dX1_solve_40 (by decide) ?_
  refine lv_istore_n (lv' := [(2, .int 0), (0, .ref a0), (1, .ref a1)]) hx hb dX1_solve_41 rfl hl (by decide) rfl (fun ls hl => ?_)
  refine lv_iload_n hx hb dX1_solve_42 rfl (lv_at hl 0 rfl) ?_
  refine lv_aload_n hx hb dX1_solve_43 rfl (lv_at hl 2 rfl) ?_
  refine gf (k := 1) hx hb hts inX3 hown hK hP k_44 rfl (by decide) rfl 1 rfl (.int 0) rfl dX1_solve_44 ?_
  refine t_icmp_ge hx hb dX1_solve_47 66 (by decide) (by decide +kernel) ?_
  exact r_v (fun _ => 0) hx hb hr hk hK hP hD hS dX1_solve_66
