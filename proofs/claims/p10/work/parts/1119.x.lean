def Q_m133_X1_removeVector (dC : Nat → ClassId) (dI : Nat → Nat → Nat) (cI cJ cII cJJ : ClassId) (ad : Nat → Nat) (f3_unknowns f3_equations f2_roundSupports f2_stale f7_size f5_keptSize f5_aheadSize f0_solved f4_blockCount f4_blockLength f4_lastIsFree f4_stale : Int32) (ai : Nat → Nat → Int32) (al : Nat → Nat → Int64) : (Nat → Prop) → Array Value → State → Outcome → State → Prop := fun A => QV (fun t => ∃ (n_f1_size : Int32), ∃ (n_w0 n_w1 n_w2 n_w3 : Nat), ((0 ≤ n_f1_size.toInt ∧ n_f1_size.toInt ≤ 3) ∧ RWX ad n_w0 ∧ RWX ad n_w1 ∧ RWX ad n_w2 ∧ RWX ad n_w3) ∧ WO dC dI (TY cI cJ cII cJJ) (WX cI cJ cII cJJ ad f3_unknowns f3_equations f2_roundSupports f2_stale f7_size n_f1_size f5_keptSize f5_aheadSize f0_solved f4_blockCount f4_blockLength f4_lastIsFree f4_stale ai al n_w0 n_w1 n_w2 n_w3) A t) A
set_option maxRecDepth 100000 in
set_option maxHeartbeats 4000000 in
theorem m133_X1_removeVector (l : Launch) (dC : Nat → ClassId) (dI : Nat → Nat → Nat) (cI cJ cII cJJ : ClassId) (sz g : Nat) (ad : Nat → Nat) (f3_unknowns f3_equations f2_roundSupports f2_stale f7_size f1_size f5_keptSize f5_aheadSize f0_solved f4_blockCount f4_blockLength f4_lastIsFree f4_stale : Int32) (ai : Nat → Nat → Int32) (al : Nat → Nat → Int64) (w0 w1 w2 w3 : Nat) (x1 : Int32) (h_x1 : (0 ≤ x1.toInt ∧ x1.toInt ≤ 3)) (h_f3_unknowns : (1 ≤ f3_unknowns.toInt ∧ f3_unknowns.toInt ≤ 4)) (h_f3_equations : (0 ≤ f3_equations.toInt ∧ f3_equations.toInt ≤ 3)) (h_f2_stale : (0 ≤ f2_stale.toInt ∧ f2_stale.toInt ≤ 1)) (h_f7_size : (0 ≤ f7_size.toInt ∧ f7_size.toInt ≤ 256)) (h_f1_size : (1 ≤ f1_size.toInt ∧ f1_size.toInt ≤ 4)) (h_f5_keptSize : (0 ≤ f5_keptSize.toInt ∧ f5_keptSize.toInt ≤ 128)) (h_f5_aheadSize : (0 ≤ f5_aheadSize.toInt ∧ f5_aheadSize.toInt ≤ 128)) (h_f4_blockCount : (0 ≤ f4_blockCount.toInt ∧ f4_blockCount.toInt ≤ 9261)) (h_f4_blockLength : (0 ≤ f4_blockLength.toInt ∧ f4_blockLength.toInt ≤ 21)) (h_f4_lastIsFree : (0 ≤ f4_lastIsFree.toInt ∧ f4_lastIsFree.toInt ≤ 1)) (h_f4_stale : (0 ≤ f4_stale.toInt ∧ f4_stale.toInt ≤ 1)) (hI : IAX ai) (hw_w0 : RWX ad w0) (hw_w1 : RWX ad w1) (hw_w2 : RWX ad w2) (hw_w3 : RWX ad w3) : Met l yX1_removeVector (.code yX1_removeVector cX1_removeVector 3 none :: TT) ({ frames := 2, cells := 0, slots := 0, locals := 80 } : Room) (PcS dC dI (TY cI cJ cII cJJ) [.ref (ad 14), .int x1] (WX cI cJ cII cJJ ad f3_unknowns f3_equations f2_roundSupports f2_stale f7_size f1_size f5_keptSize f5_aheadSize f0_solved f4_blockCount f4_blockLength f4_lastIsFree f4_stale ai al w0 w1 w2 w3) sz 1 g) (Q_m133_X1_removeVector dC dI cI cJ cII cJJ ad f3_unknowns f3_equations f2_roundSupports f2_stale f7_size f5_keptSize f5_aheadSize f0_solved f4_blockCount f4_blockLength f4_lastIsFree f4_stale ai al (va_A (WX cI cJ cII cJJ ad f3_unknowns f3_equations f2_roundSupports f2_stale f7_size f1_size f5_keptSize f5_aheadSize f0_solved f4_blockCount f4_blockLength f4_lastIsFree f4_stale ai al w0 w1 w2 w3) sz)) 0 0 (va_A (WX cI cJ cII cJJ ad f3_unknowns f3_equations f2_roundSupports f2_stale f7_size f1_size f5_keptSize f5_aheadSize f0_solved f4_blockCount f4_blockLength f4_lastIsFree f4_stale ai al w0 w1 w2 w3) sz) := by
  refine SM.of (y := yX1_removeVector) (maxL := 3) (av := [.ref (ad 14), .int x1]) (Q_m133_X1_removeVector dC dI cI cJ cII cJJ ad f3_unknowns f3_equations f2_roundSupports f2_stale f7_size f5_keptSize f5_aheadSize f0_solved f4_blockCount f4_blockLength f4_lastIsFree f4_stale ai al) (by decide +kernel) (Nat.le_of_ble_eq_true rfl) (fun p e s m below meth c A ls hx hb hr hml hown hts hk hnm hA hK hP hD hS hX hl => ?_)
  have C : Cx p c s m meth (([.ref (ad 14), .int x1] : List Value).toArray) A dC dI (TY cI cJ cII cJJ) cX1_removeVector none 3 RX1 1 g := ⟨hx, hb, hr, hml, hown, hts, hk, hA, hK, hX⟩
  have hown : s.vm.findClass RX1 = some m.cls := hown
  have hl : lv_has ls 3 [(0, .ref (ad 14)), (1, .int x1)] := hl
  obtain ⟨H, hH⟩ : ∃ q, q = s.heap := ⟨_, rfl⟩
  rw [← hH] at hP
  have hS : va_S A s.heap H [] := by rw [hH]; exact hS
  rw [← hH]
  refine lv_aload_n hx hb dX1_removeVector_0 rfl (lv_at hl 0 rfl) ?_
  refine lv_dup hx hb dX1_removeVector_1 rfl ?_
  refine gf (k := 3) hx hb hts inX1 hown hK hP k_120 rfl (by decide) rfl 14 rfl (.int f1_size) rfl dX1_removeVector_2 ?_
  refine lv_iconst (v := 1) hx hb dX1_removeVector_5 (by decide) ?_
  refine v_isub hx hb dX1_removeVector_6 _ rfl ?_
  refine lv_topi (fun z1 e_z1 => ?_)
  have g_z1 : z1.toInt = f1_size.toInt - 1 := by rw [e_z1]; exact n_sub (a := f1_size.toInt) (b := 1) rfl (by decide +kernel) (by omega) (by omega)
  refine pf (k := 3) hx hb hts inX1 tyX1_ok nmX1 hown hK hP hD hS k_120 rfl (by decide) rfl rfl 14 rfl rfl rfl (Nat.le_of_ble_eq_true rfl) dX1_removeVector_7 (W' := (WX cI cJ cII cJJ ad f3_unknowns f3_equations f2_roundSupports f2_stale f7_size z1 f5_keptSize f5_aheadSize f0_solved f4_blockCount f4_blockLength f4_lastIsFree f4_stale ai al w0 w1 w2 w3)) rfl (fun H_1 locs_1 hP_1 hD_1 hS_1 => ?_)
  refine lv_aload_n hx hb dX1_removeVector_10 rfl (lv_at hl 0 rfl) ?_
  refine gf (k := 0) hx hb hts inX1 hown hK hP_1 k_116 rfl (by decide) rfl 14 rfl (.ref (ad 15)) rfl dX1_removeVector_11 ?_
  refine lv_iload_n hx hb dX1_removeVector_14 rfl (lv_at hl 1 rfl) ?_
  rcases (show x1 = 0 ∨ x1 = 1 ∨ x1 = 2 ∨ x1 = 3 from j_cases4 (a := x1.toInt) rfl (by omega) (by omega)) with rfl | rfl | rfl | rfl
  · have k9 : (0 : Int32).toInt = 0 := by decide +kernel
    refine ld_a hx hb hK hP_1 15 3 rfl rfl (vin (by decide +kernel)) dX1_removeVector_15 w0 rfl ?_
    refine lv_astore_n (lv' := [(2, .ref w0), (0, .ref (ad 14)), (1, .int 0)]) hx hb dX1_removeVector_16 rfl hl (by decide) rfl (fun ls_2 hl_2 => ?_)
    refine lv_aload_n hx hb dX1_removeVector_17 rfl (lv_at hl_2 1 rfl) ?_
    refine gf (k := 0) hx hb hts inX1 hown hK hP_1 k_116 rfl (by decide) rfl 14 rfl (.ref (ad 15)) rfl dX1_removeVector_18 ?_
    refine lv_iload_n hx hb dX1_removeVector_21 rfl (lv_at hl_2 2 rfl) ?_
    refine lv_aload_n hx hb dX1_removeVector_22 rfl (lv_at hl_2 1 rfl) ?_
    refine gf (k := 0) hx hb hts inX1 hown hK hP_1 k_116 rfl (by decide) rfl 14 rfl (.ref (ad 15)) rfl dX1_removeVector_23 ?_
    refine lv_aload_n hx hb dX1_removeVector_26 rfl (lv_at hl_2 1 rfl) ?_
    refine gf (k := 3) hx hb hts inX1 hown hK hP_1 k_120 rfl (by decide) rfl 14 rfl (.int z1) rfl dX1_removeVector_27 ?_
    rcases (show z1 = 0 ∨ z1 = 1 ∨ z1 = 2 ∨ z1 = 3 from j_cases4 (a := z1.toInt) rfl (by omega) (by omega)) with rfl | rfl | rfl | rfl
    · have k9 : (0 : Int32).toInt = 0 := by decide +kernel
      refine ld_a hx hb hK hP_1 15 3 rfl rfl (vin (by decide +kernel)) dX1_removeVector_30 w0 rfl ?_
      refine st_a hx hb hK hP_1 hD_1 hS_1 hX.2.2 15 rfl (RWX_in hw_w0) (vin (by decide +kernel)) rfl dX1_removeVector_31 (W' := (WX cI cJ cII cJJ ad f3_unknowns f3_equations f2_roundSupports f2_stale f7_size 0 f5_keptSize f5_aheadSize f0_solved f4_blockCount f4_blockLength f4_lastIsFree f4_stale ai al w0 w1 w2 w3)) rfl (fun H_3 locs_3 hP_3 hD_3 hS_3 => ?_)
      refine lv_aload_n hx hb dX1_removeVector_32 rfl (lv_at hl_2 1 rfl) ?_
      refine gf (k := 0) hx hb hts inX1 hown hK hP_3 k_116 rfl (by decide) rfl 14 rfl (.ref (ad 15)) rfl dX1_removeVector_33 ?_
      refine lv_aload_n hx hb dX1_removeVector_36 rfl (lv_at hl_2 1 rfl) ?_
      refine gf (k := 3) hx hb hts inX1 hown hK hP_3 k_120 rfl (by decide) rfl 14 rfl (.int 0) rfl dX1_removeVector_37 ?_
      refine lv_aload_n hx hb dX1_removeVector_40 rfl (lv_at hl_2 0 rfl) ?_
      refine st_a hx hb hK hP_3 hD_3 hS_3 hX.2.2 15 rfl (RWX_in hw_w0) (vin (by decide +kernel)) rfl dX1_removeVector_41 (W' := (WX cI cJ cII cJJ ad f3_unknowns f3_equations f2_roundSupports f2_stale f7_size 0 f5_keptSize f5_aheadSize f0_solved f4_blockCount f4_blockLength f4_lastIsFree f4_stale ai al w0 w1 w2 w3)) rfl (fun H_4 locs_4 hP_4 hD_4 hS_4 => ?_)
      exact r2_v hx hb hr hk hS_4 dX1_removeVector_42 (fun t ht hW => ⟨0, w0, w1, w2, w3, ⟨(by first | omega | decide | exact Or.inl (by decide) | exact Or.inr (by decide) | exact Or.inr (by omega)), hw_w0, hw_w1, hw_w2, hw_w3⟩, by rw [ht]; exact hP_4, va_K.moved hW.alike hK, hD_4⟩)
    · have k9 : (1 : Int32).toInt = 1 := by decide +kernel
      refine ld_a hx hb hK hP_1 15 3 rfl rfl (vin (by decide +kernel)) dX1_removeVector_30 w1 rfl ?_
      refine st_a hx hb hK hP_1 hD_1 hS_1 hX.2.2 15 rfl (RWX_in hw_w1) (vin (by decide +kernel)) rfl dX1_removeVector_31 (W' := (WX cI cJ cII cJJ ad f3_unknowns f3_equations f2_roundSupports f2_stale f7_size 1 f5_keptSize f5_aheadSize f0_solved f4_blockCount f4_blockLength f4_lastIsFree f4_stale ai al w1 w1 w2 w3)) rfl (fun H_5 locs_5 hP_5 hD_5 hS_5 => ?_)
      refine lv_aload_n hx hb dX1_removeVector_32 rfl (lv_at hl_2 1 rfl) ?_
      refine gf (k := 0) hx hb hts inX1 hown hK hP_5 k_116 rfl (by decide) rfl 14 rfl (.ref (ad 15)) rfl dX1_removeVector_33 ?_
      refine lv_aload_n hx hb dX1_removeVector_36 rfl (lv_at hl_2 1 rfl) ?_
      refine gf (k := 3) hx hb hts inX1 hown hK hP_5 k_120 rfl (by decide) rfl 14 rfl (.int 1) rfl dX1_removeVector_37 ?_
      refine lv_aload_n hx hb dX1_removeVector_40 rfl (lv_at hl_2 0 rfl) ?_
      refine st_a hx hb hK hP_5 hD_5 hS_5 hX.2.2 15 rfl (RWX_in hw_w0) (vin (by decide +kernel)) rfl dX1_removeVector_41 (W' := (WX cI cJ cII cJJ ad f3_unknowns f3_equations f2_roundSupports f2_stale f7_size 1 f5_keptSize f5_aheadSize f0_solved f4_blockCount f4_blockLength f4_lastIsFree f4_stale ai al w1 w0 w2 w3)) rfl (fun H_6 locs_6 hP_6 hD_6 hS_6 => ?_)
      exact r2_v hx hb hr hk hS_6 dX1_removeVector_42 (fun t ht hW => ⟨1, w1, w0, w2, w3, ⟨(by first | omega | decide | exact Or.inl (by decide) | exact Or.inr (by decide) | exact Or.inr (by omega)), hw_w1, hw_w0, hw_w2, hw_w3⟩, by rw [ht]; exact hP_6, va_K.moved hW.alike hK, hD_6⟩)
    · have k9 : (2 : Int32).toInt = 2 := by decide +kernel
      refine ld_a hx hb hK hP_1 15 3 rfl rfl (vin (by decide +kernel)) dX1_removeVector_30 w2 rfl ?_
      refine st_a hx hb hK hP_1 hD_1 hS_1 hX.2.2 15 rfl (RWX_in hw_w2) (vin (by decide +kernel)) rfl dX1_removeVector_31 (W' := (WX cI cJ cII cJJ ad f3_unknowns f3_equations f2_roundSupports f2_stale f7_size 2 f5_keptSize f5_aheadSize f0_solved f4_blockCount f4_blockLength f4_lastIsFree f4_stale ai al w2 w1 w2 w3)) rfl (fun H_7 locs_7 hP_7 hD_7 hS_7 => ?_)
      refine lv_aload_n hx hb dX1_removeVector_32 rfl (lv_at hl_2 1 rfl) ?_
      refine gf (k := 0) hx hb hts inX1 hown hK hP_7 k_116 rfl (by decide) rfl 14 rfl (.ref (ad 15)) rfl dX1_removeVector_33 ?_
      refine lv_aload_n hx hb dX1_removeVector_36 rfl (lv_at hl_2 1 rfl) ?_
      refine gf (k := 3) hx hb hts inX1 hown hK hP_7 k_120 rfl (by decide) rfl 14 rfl (.int 2) rfl dX1_removeVector_37 ?_
      refine lv_aload_n hx hb dX1_removeVector_40 rfl (lv_at hl_2 0 rfl) ?_
      refine st_a hx hb hK hP_7 hD_7 hS_7 hX.2.2 15 rfl (RWX_in hw_w0) (vin (by decide +kernel)) rfl dX1_removeVector_41 (W' := (WX cI cJ cII cJJ ad f3_unknowns f3_equations f2_roundSupports f2_stale f7_size 2 f5_keptSize f5_aheadSize f0_solved f4_blockCount f4_blockLength f4_lastIsFree f4_stale ai al w2 w1 w0 w3)) rfl (fun H_8 locs_8 hP_8 hD_8 hS_8 => ?_)
      exact r2_v hx hb hr hk hS_8 dX1_removeVector_42 (fun t ht hW => ⟨2, w2, w1, w0, w3, ⟨(by first | omega | decide | exact Or.inl (by decide) | exact Or.inr (by decide) | exact Or.inr (by omega)), hw_w2, hw_w1, hw_w0, hw_w3⟩, by rw [ht]; exact hP_8, va_K.moved hW.alike hK, hD_8⟩)
    · have k9 : (3 : Int32).toInt = 3 := by decide +kernel
      refine ld_a hx hb hK hP_1 15 3 rfl rfl (vin (by decide +kernel)) dX1_removeVector_30 w3 rfl ?_
      refine st_a hx hb hK hP_1 hD_1 hS_1 hX.2.2 15 rfl (RWX_in hw_w3) (vin (by decide +kernel)) rfl dX1_removeVector_31 (W' := (WX cI cJ cII cJJ ad f3_unknowns f3_equations f2_roundSupports f2_stale f7_size 3 f5_keptSize f5_aheadSize f0_solved f4_blockCount f4_blockLength f4_lastIsFree f4_stale ai al w3 w1 w2 w3)) rfl (fun H_9 locs_9 hP_9 hD_9 hS_9 => ?_)
      refine lv_aload_n hx hb dX1_removeVector_32 rfl (lv_at hl_2 1 rfl) ?_
      refine gf (k := 0) hx hb hts inX1 hown hK hP_9 k_116 rfl (by decide) rfl 14 rfl (.ref (ad 15)) rfl dX1_removeVector_33 ?_
      refine lv_aload_n hx hb dX1_removeVector_36 rfl (lv_at hl_2 1 rfl) ?_
      refine gf (k := 3) hx hb hts inX1 hown hK hP_9 k_120 rfl (by decide) rfl 14 rfl (.int 3) rfl dX1_removeVector_37 ?_
      refine lv_aload_n hx hb dX1_removeVector_40 rfl (lv_at hl_2 0 rfl) ?_
      refine st_a hx hb hK hP_9 hD_9 hS_9 hX.2.2 15 rfl (RWX_in hw_w0) (vin (by decide +kernel)) rfl dX1_removeVector_41 (W' := (WX cI cJ cII cJJ ad f3_unknowns f3_equations f2_roundSupports f2_stale f7_size 3 f5_keptSize f5_aheadSize f0_solved f4_blockCount f4_blockLength f4_lastIsFree f4_stale ai al w3 w1 w2 w0)) rfl (fun H_10 locs_10 hP_10 hD_10 hS_10 => ?_)
      exact r2_v hx hb hr hk hS_10 dX1_removeVector_42 (fun t ht hW => ⟨3, w3, w1, w2, w0, ⟨(by first | omega | decide | exact Or.inl (by decide) | exact Or.inr (by decide) | exact Or.inr (by omega)), hw_w3, hw_w1, hw_w2, hw_w0⟩, by rw [ht]; exact hP_10, va_K.moved hW.alike hK, hD_10⟩)
  · have k9 : (1 : Int32).toInt = 1 := by decide +kernel
    refine ld_a hx hb hK hP_1 15 3 rfl rfl (vin (by decide +kernel)) dX1_removeVector_15 w1 rfl ?_
    refine lv_astore_n (lv' := [(2, .ref w1), (0, .ref (ad 14)), (1, .int 1)]) hx hb dX1_removeVector_16 rfl hl (by decide) rfl (fun ls_11 hl_11 => ?_)
    refine lv_aload_n hx hb dX1_removeVector_17 rfl (lv_at hl_11 1 rfl) ?_
    refine gf (k := 0) hx hb hts inX1 hown hK hP_1 k_116 rfl (by decide) rfl 14 rfl (.ref (ad 15)) rfl dX1_removeVector_18 ?_
    refine lv_iload_n hx hb dX1_removeVector_21 rfl (lv_at hl_11 2 rfl) ?_
    refine lv_aload_n hx hb dX1_removeVector_22 rfl (lv_at hl_11 1 rfl) ?_
    refine gf (k := 0) hx hb hts inX1 hown hK hP_1 k_116 rfl (by decide) rfl 14 rfl (.ref (ad 15)) rfl dX1_removeVector_23 ?_
    refine lv_aload_n hx hb dX1_removeVector_26 rfl (lv_at hl_11 1 rfl) ?_
    refine gf (k := 3) hx hb hts inX1 hown hK hP_1 k_120 rfl (by decide) rfl 14 rfl (.int z1) rfl dX1_removeVector_27 ?_
    rcases (show z1 = 0 ∨ z1 = 1 ∨ z1 = 2 ∨ z1 = 3 from j_cases4 (a := z1.toInt) rfl (by omega) (by omega)) with rfl | rfl | rfl | rfl
    · have k9 : (0 : Int32).toInt = 0 := by decide +kernel
      refine ld_a hx hb hK hP_1 15 3 rfl rfl (vin (by decide +kernel)) dX1_removeVector_30 w0 rfl ?_
      refine st_a hx hb hK hP_1 hD_1 hS_1 hX.2.2 15 rfl (RWX_in hw_w0) (vin (by decide +kernel)) rfl dX1_removeVector_31 (W' := (WX cI cJ cII cJJ ad f3_unknowns f3_equations f2_roundSupports f2_stale f7_size 0 f5_keptSize f5_aheadSize f0_solved f4_blockCount f4_blockLength f4_lastIsFree f4_stale ai al w0 w0 w2 w3)) rfl (fun H_12 locs_12 hP_12 hD_12 hS_12 => ?_)
      refine lv_aload_n hx hb dX1_removeVector_32 rfl (lv_at hl_11 1 rfl) ?_
      refine gf (k := 0) hx hb hts inX1 hown hK hP_12 k_116 rfl (by decide) rfl 14 rfl (.ref (ad 15)) rfl dX1_removeVector_33 ?_
      refine lv_aload_n hx hb dX1_removeVector_36 rfl (lv_at hl_11 1 rfl) ?_
      refine gf (k := 3) hx hb hts inX1 hown hK hP_12 k_120 rfl (by decide) rfl 14 rfl (.int 0) rfl dX1_removeVector_37 ?_
      refine lv_aload_n hx hb dX1_removeVector_40 rfl (lv_at hl_11 0 rfl) ?_
      refine st_a hx hb hK hP_12 hD_12 hS_12 hX.2.2 15 rfl (RWX_in hw_w1) (vin (by decide +kernel)) rfl dX1_removeVector_41 (W' := (WX cI cJ cII cJJ ad f3_unknowns f3_equations f2_roundSupports f2_stale f7_size 0 f5_keptSize f5_aheadSize f0_solved f4_blockCount f4_blockLength f4_lastIsFree f4_stale ai al w1 w0 w2 w3)) rfl (fun H_13 locs_13 hP_13 hD_13 hS_13 => ?_)
      exact r2_v hx hb hr hk hS_13 dX1_removeVector_42 (fun t ht hW => ⟨0, w1, w0, w2, w3, ⟨(by first | omega | decide | exact Or.inl (by decide) | exact Or.inr (by decide) | exact Or.inr (by omega)), hw_w1, hw_w0, hw_w2, hw_w3⟩, by rw [ht]; exact hP_13, va_K.moved hW.alike hK, hD_13⟩)
    · have k9 : (1 : Int32).toInt = 1 := by decide +kernel
      refine ld_a hx hb hK hP_1 15 3 rfl rfl (vin (by decide +kernel)) dX1_removeVector_30 w1 rfl ?_
      refine st_a hx hb hK hP_1 hD_1 hS_1 hX.2.2 15 rfl (RWX_in hw_w1) (vin (by decide +kernel)) rfl dX1_removeVector_31 (W' := (WX cI cJ cII cJJ ad f3_unknowns f3_equations f2_roundSupports f2_stale f7_size 1 f5_keptSize f5_aheadSize f0_solved f4_blockCount f4_blockLength f4_lastIsFree f4_stale ai al w0 w1 w2 w3)) rfl (fun H_14 locs_14 hP_14 hD_14 hS_14 => ?_)
      refine lv_aload_n hx hb dX1_removeVector_32 rfl (lv_at hl_11 1 rfl) ?_
      refine gf (k := 0) hx hb hts inX1 hown hK hP_14 k_116 rfl (by decide) rfl 14 rfl (.ref (ad 15)) rfl dX1_removeVector_33 ?_
      refine lv_aload_n hx hb dX1_removeVector_36 rfl (lv_at hl_11 1 rfl) ?_
      refine gf (k := 3) hx hb hts inX1 hown hK hP_14 k_120 rfl (by decide) rfl 14 rfl (.int 1) rfl dX1_removeVector_37 ?_
      refine lv_aload_n hx hb dX1_removeVector_40 rfl (lv_at hl_11 0 rfl) ?_
      refine st_a hx hb hK hP_14 hD_14 hS_14 hX.2.2 15 rfl (RWX_in hw_w1) (vin (by decide +kernel)) rfl dX1_removeVector_41 (W' := (WX cI cJ cII cJJ ad f3_unknowns f3_equations f2_roundSupports f2_stale f7_size 1 f5_keptSize f5_aheadSize f0_solved f4_blockCount f4_blockLength f4_lastIsFree f4_stale ai al w0 w1 w2 w3)) rfl (fun H_15 locs_15 hP_15 hD_15 hS_15 => ?_)
      exact r2_v hx hb hr hk hS_15 dX1_removeVector_42 (fun t ht hW => ⟨1, w0, w1, w2, w3, ⟨(by first | omega | decide | exact Or.inl (by decide) | exact Or.inr (by decide) | exact Or.inr (by omega)), hw_w0, hw_w1, hw_w2, hw_w3⟩, by rw [ht]; exact hP_15, va_K.moved hW.alike hK, hD_15⟩)
    · have k9 : (2 : Int32).toInt = 2 := by decide +kernel
      refine ld_a hx hb hK hP_1 15 3 rfl rfl (vin (by decide +kernel)) dX1_removeVector_30 w2 rfl ?_
      refine st_a hx hb hK hP_1 hD_1 hS_1 hX.2.2 15 rfl (RWX_in hw_w2) (vin (by decide +kernel)) rfl dX1_removeVector_31 (W' := (WX cI cJ cII cJJ ad f3_unknowns f3_equations f2_roundSupports f2_stale f7_size 2 f5_keptSize f5_aheadSize f0_solved f4_blockCount f4_blockLength f4_lastIsFree f4_stale ai al w0 w2 w2 w3)) rfl (fun H_16 locs_16 hP_16 hD_16 hS_16 => ?_)
      refine lv_aload_n hx hb dX1_removeVector_32 rfl (lv_at hl_11 1 rfl) ?_
      refine gf (k := 0) hx hb hts inX1 hown hK hP_16 k_116 rfl (by decide) rfl 14 rfl (.ref (ad 15)) rfl dX1_removeVector_33 ?_
      refine lv_aload_n hx hb dX1_removeVector_36 rfl (lv_at hl_11 1 rfl) ?_
      refine gf (k := 3) hx hb hts inX1 hown hK hP_16 k_120 rfl (by decide) rfl 14 rfl (.int 2) rfl dX1_removeVector_37 ?_
      refine lv_aload_n hx hb dX1_removeVector_40 rfl (lv_at hl_11 0 rfl) ?_
      refine st_a hx hb hK hP_16 hD_16 hS_16 hX.2.2 15 rfl (RWX_in hw_w1) (vin (by decide +kernel)) rfl dX1_removeVector_41 (W' := (WX cI cJ cII cJJ ad f3_unknowns f3_equations f2_roundSupports f2_stale f7_size 2 f5_keptSize f5_aheadSize f0_solved f4_blockCount f4_blockLength f4_lastIsFree f4_stale ai al w0 w2 w1 w3)) rfl (fun H_17 locs_17 hP_17 hD_17 hS_17 => ?_)
      exact r2_v hx hb hr hk hS_17 dX1_removeVector_42 (fun t ht hW => ⟨2, w0, w2, w1, w3, ⟨(by first | omega | decide | exact Or.inl (by decide) | exact Or.inr (by decide) | exact Or.inr (by omega)), hw_w0, hw_w2, hw_w1, hw_w3⟩, by rw [ht]; exact hP_17, va_K.moved hW.alike hK, hD_17⟩)
    · have k9 : (3 : Int32).toInt = 3 := by decide +kernel
      refine ld_a hx hb hK hP_1 15 3 rfl rfl (vin (by decide +kernel)) dX1_removeVector_30 w3 rfl ?_
      refine st_a hx hb hK hP_1 hD_1 hS_1 hX.2.2 15 rfl (RWX_in hw_w3) (vin (by decide +kernel)) rfl dX1_removeVector_31 (W' := (WX cI cJ cII cJJ ad f3_unknowns f3_equations f2_roundSupports f2_stale f7_size 3 f5_keptSize f5_aheadSize f0_solved f4_blockCount f4_blockLength f4_lastIsFree f4_stale ai al w0 w3 w2 w3)) rfl (fun H_18 locs_18 hP_18 hD_18 hS_18 => ?_)
      refine lv_aload_n hx hb dX1_removeVector_32 rfl (lv_at hl_11 1 rfl) ?_
      refine gf (k := 0) hx hb hts inX1 hown hK hP_18 k_116 rfl (by decide) rfl 14 rfl (.ref (ad 15)) rfl dX1_removeVector_33 ?_
      refine lv_aload_n hx hb dX1_removeVector_36 rfl (lv_at hl_11 1 rfl) ?_
      refine gf (k := 3) hx hb hts inX1 hown hK hP_18 k_120 rfl (by decide) rfl 14 rfl (.int 3) rfl dX1_removeVector_37 ?_
      refine lv_aload_n hx hb dX1_removeVector_40 rfl (lv_at hl_11 0 rfl) ?_
      refine st_a hx hb hK hP_18 hD_18 hS_18 hX.2.2 15 rfl (RWX_in hw_w1) (vin (by decide +kernel)) rfl dX1_removeVector_41 (W' := (WX cI cJ cII cJJ ad f3_unknowns f3_equations f2_roundSupports f2_stale f7_size 3 f5_keptSize f5_aheadSize f0_solved f4_blockCount f4_blockLength f4_lastIsFree f4_stale ai al w0 w3 w2 w1)) rfl (fun H_19 locs_19 hP_19 hD_19 hS_19 => ?_)
      exact r2_v hx hb hr hk hS_19 dX1_removeVector_42 (fun t ht hW => ⟨3, w0, w3, w2, w1, ⟨(by first | omega | decide | exact Or.inl (by decide) | exact Or.inr (by decide) | exact Or.inr (by omega)), hw_w0, hw_w3, hw_w2, hw_w1⟩, by rw [ht]; exact hP_19, va_K.moved hW.alike hK, hD_19⟩)
  · have k9 : (2 : Int32).toInt = 2 := by decide +kernel
    refine ld_a hx hb hK hP_1 15 3 rfl rfl (vin (by decide +kernel)) dX1_removeVector_15 w2 rfl ?_
    refine lv_astore_n (lv' := [(2, .ref w2), (0, .ref (ad 14)), (1, .int 2)]) hx hb dX1_removeVector_16 rfl hl (by decide) rfl (fun ls_20 hl_20 => ?_)
    refine lv_aload_n hx hb dX1_removeVector_17 rfl (lv_at hl_20 1 rfl) ?_
    refine gf (k := 0) hx hb hts inX1 hown hK hP_1 k_116 rfl (by decide) rfl 14 rfl (.ref (ad 15)) rfl dX1_removeVector_18 ?_
    refine lv_iload_n hx hb dX1_removeVector_21 rfl (lv_at hl_20 2 rfl) ?_
    refine lv_aload_n hx hb dX1_removeVector_22 rfl (lv_at hl_20 1 rfl) ?_
    refine gf (k := 0) hx hb hts inX1 hown hK hP_1 k_116 rfl (by decide) rfl 14 rfl (.ref (ad 15)) rfl dX1_removeVector_23 ?_
    refine lv_aload_n hx hb dX1_removeVector_26 rfl (lv_at hl_20 1 rfl) ?_
    refine gf (k := 3) hx hb hts inX1 hown hK hP_1 k_120 rfl (by decide) rfl 14 rfl (.int z1) rfl dX1_removeVector_27 ?_
    rcases (show z1 = 0 ∨ z1 = 1 ∨ z1 = 2 ∨ z1 = 3 from j_cases4 (a := z1.toInt) rfl (by omega) (by omega)) with rfl | rfl | rfl | rfl
    · have k9 : (0 : Int32).toInt = 0 := by decide +kernel
      refine ld_a hx hb hK hP_1 15 3 rfl rfl (vin (by decide +kernel)) dX1_removeVector_30 w0 rfl ?_
      refine st_a hx hb hK hP_1 hD_1 hS_1 hX.2.2 15 rfl (RWX_in hw_w0) (vin (by decide +kernel)) rfl dX1_removeVector_31 (W' := (WX cI cJ cII cJJ ad f3_unknowns f3_equations f2_roundSupports f2_stale f7_size 0 f5_keptSize f5_aheadSize f0_solved f4_blockCount f4_blockLength f4_lastIsFree f4_stale ai al w0 w1 w0 w3)) rfl (fun H_21 locs_21 hP_21 hD_21 hS_21 => ?_)
      refine lv_aload_n hx hb dX1_removeVector_32 rfl (lv_at hl_20 1 rfl) ?_
      refine gf (k := 0) hx hb hts inX1 hown hK hP_21 k_116 rfl (by decide) rfl 14 rfl (.ref (ad 15)) rfl dX1_removeVector_33 ?_
      refine lv_aload_n hx hb dX1_removeVector_36 rfl (lv_at hl_20 1 rfl) ?_
      refine gf (k := 3) hx hb hts inX1 hown hK hP_21 k_120 rfl (by decide) rfl 14 rfl (.int 0) rfl dX1_removeVector_37 ?_
      refine lv_aload_n hx hb dX1_removeVector_40 rfl (lv_at hl_20 0 rfl) ?_
      refine st_a hx hb hK hP_21 hD_21 hS_21 hX.2.2 15 rfl (RWX_in hw_w2) (vin (by decide +kernel)) rfl dX1_removeVector_41 (W' := (WX cI cJ cII cJJ ad f3_unknowns f3_equations f2_roundSupports f2_stale f7_size 0 f5_keptSize f5_aheadSize f0_solved f4_blockCount f4_blockLength f4_lastIsFree f4_stale ai al w2 w1 w0 w3)) rfl (fun H_22 locs_22 hP_22 hD_22 hS_22 => ?_)
      exact r2_v hx hb hr hk hS_22 dX1_removeVector_42 (fun t ht hW => ⟨0, w2, w1, w0, w3, ⟨(by first | omega | decide | exact Or.inl (by decide) | exact Or.inr (by decide) | exact Or.inr (by omega)), hw_w2, hw_w1, hw_w0, hw_w3⟩, by rw [ht]; exact hP_22, va_K.moved hW.alike hK, hD_22⟩)
    · have k9 : (1 : Int32).toInt = 1 := by decide +kernel
      refine ld_a hx hb hK hP_1 15 3 rfl rfl (vin (by decide +kernel)) dX1_removeVector_30 w1 rfl ?_
      refine st_a hx hb hK hP_1 hD_1 hS_1 hX.2.2 15 rfl (RWX_in hw_w1) (vin (by decide +kernel)) rfl dX1_removeVector_31 (W' := (WX cI cJ cII cJJ ad f3_unknowns f3_equations f2_roundSupports f2_stale f7_size 1 f5_keptSize f5_aheadSize f0_solved f4_blockCount f4_blockLength f4_lastIsFree f4_stale ai al w0 w1 w1 w3)) rfl (fun H_23 locs_23 hP_23 hD_23 hS_23 => ?_)
      refine lv_aload_n hx hb dX1_removeVector_32 rfl (lv_at hl_20 1 rfl) ?_
      refine gf (k := 0) hx hb hts inX1 hown hK hP_23 k_116 rfl (by decide) rfl 14 rfl (.ref (ad 15)) rfl dX1_removeVector_33 ?_
      refine lv_aload_n hx hb dX1_removeVector_36 rfl (lv_at hl_20 1 rfl) ?_
      refine gf (k := 3) hx hb hts inX1 hown hK hP_23 k_120 rfl (by decide) rfl 14 rfl (.int 1) rfl dX1_removeVector_37 ?_
      refine lv_aload_n hx hb dX1_removeVector_40 rfl (lv_at hl_20 0 rfl) ?_
      refine st_a hx hb hK hP_23 hD_23 hS_23 hX.2.2 15 rfl (RWX_in hw_w2) (vin (by decide +kernel)) rfl dX1_removeVector_41 (W' := (WX cI cJ cII cJJ ad f3_unknowns f3_equations f2_roundSupports f2_stale f7_size 1 f5_keptSize f5_aheadSize f0_solved f4_blockCount f4_blockLength f4_lastIsFree f4_stale ai al w0 w2 w1 w3)) rfl (fun H_24 locs_24 hP_24 hD_24 hS_24 => ?_)
      exact r2_v hx hb hr hk hS_24 dX1_removeVector_42 (fun t ht hW => ⟨1, w0, w2, w1, w3, ⟨(by first | omega | decide | exact Or.inl (by decide) | exact Or.inr (by decide) | exact Or.inr (by omega)), hw_w0, hw_w2, hw_w1, hw_w3⟩, by rw [ht]; exact hP_24, va_K.moved hW.alike hK, hD_24⟩)
    · have k9 : (2 : Int32).toInt = 2 := by decide +kernel
      refine ld_a hx hb hK hP_1 15 3 rfl rfl (vin (by decide +kernel)) dX1_removeVector_30 w2 rfl ?_
      refine st_a hx hb hK hP_1 hD_1 hS_1 hX.2.2 15 rfl (RWX_in hw_w2) (vin (by decide +kernel)) rfl dX1_removeVector_31 (W' := (WX cI cJ cII cJJ ad f3_unknowns f3_equations f2_roundSupports f2_stale f7_size 2 f5_keptSize f5_aheadSize f0_solved f4_blockCount f4_blockLength f4_lastIsFree f4_stale ai al w0 w1 w2 w3)) rfl (fun H_25 locs_25 hP_25 hD_25 hS_25 => ?_)
      refine lv_aload_n hx hb dX1_removeVector_32 rfl (lv_at hl_20 1 rfl) ?_
      refine gf (k := 0) hx hb hts inX1 hown hK hP_25 k_116 rfl (by decide) rfl 14 rfl (.ref (ad 15)) rfl dX1_removeVector_33 ?_
      refine lv_aload_n hx hb dX1_removeVector_36 rfl (lv_at hl_20 1 rfl) ?_
      refine gf (k := 3) hx hb hts inX1 hown hK hP_25 k_120 rfl (by decide) rfl 14 rfl (.int 2) rfl dX1_removeVector_37 ?_
      refine lv_aload_n hx hb dX1_removeVector_40 rfl (lv_at hl_20 0 rfl) ?_
      refine st_a hx hb hK hP_25 hD_25 hS_25 hX.2.2 15 rfl (RWX_in hw_w2) (vin (by decide +kernel)) rfl dX1_removeVector_41 (W' := (WX cI cJ cII cJJ ad f3_unknowns f3_equations f2_roundSupports f2_stale f7_size 2 f5_keptSize f5_aheadSize f0_solved f4_blockCount f4_blockLength f4_lastIsFree f4_stale ai al w0 w1 w2 w3)) rfl (fun H_26 locs_26 hP_26 hD_26 hS_26 => ?_)
      exact r2_v hx hb hr hk hS_26 dX1_removeVector_42 (fun t ht hW => ⟨2, w0, w1, w2, w3, ⟨(by first | omega | decide | exact Or.inl (by decide) | exact Or.inr (by decide) | exact Or.inr (by omega)), hw_w0, hw_w1, hw_w2, hw_w3⟩, by rw [ht]; exact hP_26, va_K.moved hW.alike hK, hD_26⟩)
    · have k9 : (3 : Int32).toInt = 3 := by decide +kernel
      refine ld_a hx hb hK hP_1 15 3 rfl rfl (vin (by decide +kernel)) dX1_removeVector_30 w3 rfl ?_
      refine st_a hx hb hK hP_1 hD_1 hS_1 hX.2.2 15 rfl (RWX_in hw_w3) (vin (by decide +kernel)) rfl dX1_removeVector_31 (W' := (WX cI cJ cII cJJ ad f3_unknowns f3_equations f2_roundSupports f2_stale f7_size 3 f5_keptSize f5_aheadSize f0_solved f4_blockCount f4_blockLength f4_lastIsFree f4_stale ai al w0 w1 w3 w3)) rfl (fun H_27 locs_27 hP_27 hD_27 hS_27 => ?_)
      refine lv_aload_n hx hb dX1_removeVector_32 rfl (lv_at hl_20 1 rfl) ?_
      refine gf (k := 0) hx hb hts inX1 hown hK hP_27 k_116 rfl (by decide) rfl 14 rfl (.ref (ad 15)) rfl dX1_removeVector_33 ?_
      refine lv_aload_n hx hb dX1_removeVector_36 rfl (lv_at hl_20 1 rfl) ?_
      refine gf (k := 3) hx hb hts inX1 hown hK hP_27 k_120 rfl (by decide) rfl 14 rfl (.int 3) rfl dX1_removeVector_37 ?_
      refine lv_aload_n hx hb dX1_removeVector_40 rfl (lv_at hl_20 0 rfl) ?_
      refine st_a hx hb hK hP_27 hD_27 hS_27 hX.2.2 15 rfl (RWX_in hw_w2) (vin (by decide +kernel)) rfl dX1_removeVector_41 (W' := (WX cI cJ cII cJJ ad f3_unknowns f3_equations f2_roundSupports f2_stale f7_size 3 f5_keptSize f5_aheadSize f0_solved f4_blockCount f4_blockLength f4_lastIsFree f4_stale ai al w0 w1 w3 w2)) rfl (fun H_28 locs_28 hP_28 hD_28 hS_28 => ?_)
      exact r2_v hx hb hr hk hS_28 dX1_removeVector_42 (fun t ht hW => ⟨3, w0, w1, w3, w2, ⟨(by first | omega | decide | exact Or.inl (by decide) | exact Or.inr (by decide) | exact Or.inr (by omega)), hw_w0, hw_w1, hw_w3, hw_w2⟩, by rw [ht]; exact hP_28, va_K.moved hW.alike hK, hD_28⟩)
  · have k9 : (3 : Int32).toInt = 3 := by decide +kernel
    refine ld_a hx hb hK hP_1 15 3 rfl rfl (vin (by decide +kernel)) dX1_removeVector_15 w3 rfl ?_
    refine lv_astore_n (lv' := [(2, .ref w3), (0, .ref (ad 14)), (1, .int 3)]) hx hb dX1_removeVector_16 rfl hl (by decide) rfl (fun ls_29 hl_29 => ?_)
    refine lv_aload_n hx hb dX1_removeVector_17 rfl (lv_at hl_29 1 rfl) ?_
    refine gf (k := 0) hx hb hts inX1 hown hK hP_1 k_116 rfl (by decide) rfl 14 rfl (.ref (ad 15)) rfl dX1_removeVector_18 ?_
    refine lv_iload_n hx hb dX1_removeVector_21 rfl (lv_at hl_29 2 rfl) ?_
    refine lv_aload_n hx hb dX1_removeVector_22 rfl (lv_at hl_29 1 rfl) ?_
    refine gf (k := 0) hx hb hts inX1 hown hK hP_1 k_116 rfl (by decide) rfl 14 rfl (.ref (ad 15)) rfl dX1_removeVector_23 ?_
    refine lv_aload_n hx hb dX1_removeVector_26 rfl (lv_at hl_29 1 rfl) ?_
    refine gf (k := 3) hx hb hts inX1 hown hK hP_1 k_120 rfl (by decide) rfl 14 rfl (.int z1) rfl dX1_removeVector_27 ?_
    rcases (show z1 = 0 ∨ z1 = 1 ∨ z1 = 2 ∨ z1 = 3 from j_cases4 (a := z1.toInt) rfl (by omega) (by omega)) with rfl | rfl | rfl | rfl
    · have k9 : (0 : Int32).toInt = 0 := by decide +kernel
      refine ld_a hx hb hK hP_1 15 3 rfl rfl (vin (by decide +kernel)) dX1_removeVector_30 w0 rfl ?_
      refine st_a hx hb hK hP_1 hD_1 hS_1 hX.2.2 15 rfl (RWX_in hw_w0) (vin (by decide +kernel)) rfl dX1_removeVector_31 (W' := (WX cI cJ cII cJJ ad f3_unknowns f3_equations f2_roundSupports f2_stale f7_size 0 f5_keptSize f5_aheadSize f0_solved f4_blockCount f4_blockLength f4_lastIsFree f4_stale ai al w0 w1 w2 w0)) rfl (fun H_30 locs_30 hP_30 hD_30 hS_30 => ?_)
      refine lv_aload_n hx hb dX1_removeVector_32 rfl (lv_at hl_29 1 rfl) ?_
      refine gf (k := 0) hx hb hts inX1 hown hK hP_30 k_116 rfl (by decide) rfl 14 rfl (.ref (ad 15)) rfl dX1_removeVector_33 ?_
      refine lv_aload_n hx hb dX1_removeVector_36 rfl (lv_at hl_29 1 rfl) ?_
      refine gf (k := 3) hx hb hts inX1 hown hK hP_30 k_120 rfl (by decide) rfl 14 rfl (.int 0) rfl dX1_removeVector_37 ?_
      refine lv_aload_n hx hb dX1_removeVector_40 rfl (lv_at hl_29 0 rfl) ?_
      refine st_a hx hb hK hP_30 hD_30 hS_30 hX.2.2 15 rfl (RWX_in hw_w3) (vin (by decide +kernel)) rfl dX1_removeVector_41 (W' := (WX cI cJ cII cJJ ad f3_unknowns f3_equations f2_roundSupports f2_stale f7_size 0 f5_keptSize f5_aheadSize f0_solved f4_blockCount f4_blockLength f4_lastIsFree f4_stale ai al w3 w1 w2 w0)) rfl (fun H_31 locs_31 hP_31 hD_31 hS_31 => ?_)
      exact r2_v hx hb hr hk hS_31 dX1_removeVector_42 (fun t ht hW => ⟨0, w3, w1, w2, w0, ⟨(by first | omega | decide | exact Or.inl (by decide) | exact Or.inr (by decide) | exact Or.inr (by omega)), hw_w3, hw_w1, hw_w2, hw_w0⟩, by rw [ht]; exact hP_31, va_K.moved hW.alike hK, hD_31⟩)
    · have k9 : (1 : Int32).toInt = 1 := by decide +kernel
      refine ld_a hx hb hK hP_1 15 3 rfl rfl (vin (by decide +kernel)) dX1_removeVector_30 w1 rfl ?_
      refine st_a hx hb hK hP_1 hD_1 hS_1 hX.2.2 15 rfl (RWX_in hw_w1) (vin (by decide +kernel)) rfl dX1_removeVector_31 (W' := (WX cI cJ cII cJJ ad f3_unknowns f3_equations f2_roundSupports f2_stale f7_size 1 f5_keptSize f5_aheadSize f0_solved f4_blockCount f4_blockLength f4_lastIsFree f4_stale ai al w0 w1 w2 w1)) rfl (fun H_32 locs_32 hP_32 hD_32 hS_32 => ?_)
      refine lv_aload_n hx hb dX1_removeVector_32 rfl (lv_at hl_29 1 rfl) ?_
      refine gf (k := 0) hx hb hts inX1 hown hK hP_32 k_116 rfl (by decide) rfl 14 rfl (.ref (ad 15)) rfl dX1_removeVector_33 ?_
      refine lv_aload_n hx hb dX1_removeVector_36 rfl (lv_at hl_29 1 rfl) ?_
      refine gf (k := 3) hx hb hts inX1 hown hK hP_32 k_120 rfl (by decide) rfl 14 rfl (.int 1) rfl dX1_removeVector_37 ?_
      refine lv_aload_n hx hb dX1_removeVector_40 rfl (lv_at hl_29 0 rfl) ?_
      refine st_a hx hb hK hP_32 hD_32 hS_32 hX.2.2 15 rfl (RWX_in hw_w3) (vin (by decide +kernel)) rfl dX1_removeVector_41 (W' := (WX cI cJ cII cJJ ad f3_unknowns f3_equations f2_roundSupports f2_stale f7_size 1 f5_keptSize f5_aheadSize f0_solved f4_blockCount f4_blockLength f4_lastIsFree f4_stale ai al w0 w3 w2 w1)) rfl (fun H_33 locs_33 hP_33 hD_33 hS_33 => ?_)
      exact r2_v hx hb hr hk hS_33 dX1_removeVector_42 (fun t ht hW => ⟨1, w0, w3, w2, w1, ⟨(by first | omega | decide | exact Or.inl (by decide) | exact Or.inr (by decide) | exact Or.inr (by omega)), hw_w0, hw_w3, hw_w2, hw_w1⟩, by rw [ht]; exact hP_33, va_K.moved hW.alike hK, hD_33⟩)
    · have k9 : (2 : Int32).toInt = 2 := by decide +kernel
      refine ld_a hx hb hK hP_1 15 3 rfl rfl (vin (by decide +kernel)) dX1_removeVector_30 w2 rfl ?_
      refine st_a hx hb hK hP_1 hD_1 hS_1 hX.2.2 15 rfl (RWX_in hw_w2) (vin (by decide +kernel)) rfl dX1_removeVector_31 (W' := (WX cI cJ cII cJJ ad f3_unknowns f3_equations f2_roundSupports f2_stale f7_size 2 f5_keptSize f5_aheadSize f0_solved f4_blockCount f4_blockLength f4_lastIsFree f4_stale ai al w0 w1 w2 w2)) rfl (fun H_34 locs_34 hP_34 hD_34 hS_34 => ?_)
      refine lv_aload_n hx hb dX1_removeVector_32 rfl (lv_at hl_29 1 rfl) ?_
      refine gf (k := 0) hx hb hts inX1 hown hK hP_34 k_116 rfl (by decide) rfl 14 rfl (.ref (ad 15)) rfl dX1_removeVector_33 ?_
      refine lv_aload_n hx hb dX1_removeVector_36 rfl (lv_at hl_29 1 rfl) ?_
      refine gf (k := 3) hx hb hts inX1 hown hK hP_34 k_120 rfl (by decide) rfl 14 rfl (.int 2) rfl dX1_removeVector_37 ?_
      refine lv_aload_n hx hb dX1_removeVector_40 rfl (lv_at hl_29 0 rfl) ?_
      refine st_a hx hb hK hP_34 hD_34 hS_34 hX.2.2 15 rfl (RWX_in hw_w3) (vin (by decide +kernel)) rfl dX1_removeVector_41 (W' := (WX cI cJ cII cJJ ad f3_unknowns f3_equations f2_roundSupports f2_stale f7_size 2 f5_keptSize f5_aheadSize f0_solved f4_blockCount f4_blockLength f4_lastIsFree f4_stale ai al w0 w1 w3 w2)) rfl (fun H_35 locs_35 hP_35 hD_35 hS_35 => ?_)
      exact r2_v hx hb hr hk hS_35 dX1_removeVector_42 (fun t ht hW => ⟨2, w0, w1, w3, w2, ⟨(by first | omega | decide | exact Or.inl (by decide) | exact Or.inr (by decide) | exact Or.inr (by omega)), hw_w0, hw_w1, hw_w3, hw_w2⟩, by rw [ht]; exact hP_35, va_K.moved hW.alike hK, hD_35⟩)
    · have k9 : (3 : Int32).toInt = 3 := by decide +kernel
      refine ld_a hx hb hK hP_1 15 3 rfl rfl (vin (by decide +kernel)) dX1_removeVector_30 w3 rfl ?_
      refine st_a hx hb hK hP_1 hD_1 hS_1 hX.2.2 15 rfl (RWX_in hw_w3) (vin (by decide +kernel)) rfl dX1_removeVector_31 (W' := (WX cI cJ cII cJJ ad f3_unknowns f3_equations f2_roundSupports f2_stale f7_size 3 f5_keptSize f5_aheadSize f0_solved f4_blockCount f4_blockLength f4_lastIsFree f4_stale ai al w0 w1 w2 w3)) rfl (fun H_36 locs_36 hP_36 hD_36 hS_36 => ?_)
      refine lv_aload_n hx hb dX1_removeVector_32 rfl (lv_at hl_29 1 rfl) ?_
      refine gf (k := 0) hx hb hts inX1 hown hK hP_36 k_116 rfl (by decide) rfl 14 rfl (.ref (ad 15)) rfl dX1_removeVector_33 ?_
      refine lv_aload_n hx hb dX1_removeVector_36 rfl (lv_at hl_29 1 rfl) ?_
      refine gf (k := 3) hx hb hts inX1 hown hK hP_36 k_120 rfl (by decide) rfl 14 rfl (.int 3) rfl dX1_removeVector_37 ?_
      refine lv_aload_n hx hb dX1_removeVector_40 rfl (lv_at hl_29 0 rfl) ?_
      refine st_a hx hb hK hP_36 hD_36 hS_36 hX.2.2 15 rfl (RWX_in hw_w3) (vin (by decide +kernel)) rfl dX1_removeVector_41 (W' := (WX cI cJ cII cJJ ad f3_unknowns f3_equations f2_roundSupports f2_stale f7_size 3 f5_keptSize f5_aheadSize f0_solved f4_blockCount f4_blockLength f4_lastIsFree f4_stale ai al w0 w1 w2 w3)) rfl (fun H_37 locs_37 hP_37 hD_37 hS_37 => ?_)
      exact r2_v hx hb hr hk hS_37 dX1_removeVector_42 (fun t ht hW => ⟨3, w0, w1, w2, w3, ⟨(by first | omega | decide | exact Or.inl (by decide) | exact Or.inr (by decide) | exact Or.inr (by omega)), hw_w0, hw_w1, hw_w2, hw_w3⟩, by rw [ht]; exact hP_37, va_K.moved hW.alike hK, hD_37⟩)
def Q_m134_X1_impose (dC : Nat → ClassId) (dI : Nat → Nat → Nat) (cI cJ cII cJJ : ClassId) (ad : Nat → Nat) (f3_unknowns f3_equations f2_roundSupports f2_stale f7_size f5_keptSize f5_aheadSize f0_solved f4_blockCount f4_blockLength f4_lastIsFree f4_stale : Int32) (ai : Nat → Nat → Int32) (al0 : Nat → Nat → Int64) : (Nat → Prop) → Array Value → State → Outcome → State → Prop := fun A => QV (fun t => ∃ (n_f1_size : Int32), ∃ (n_al : Nat → Nat → Int64), ∃ (n_w0 n_w1 n_w2 n_w3 : Nat), ((0 ≤ n_f1_size.toInt ∧ n_f1_size.toInt ≤ 4) ∧ FL [16, 17, 18, 19, 20] al0 n_al ∧ RWX ad n_w0 ∧ RWX ad n_w1 ∧ RWX ad n_w2 ∧ RWX ad n_w3) ∧ WO dC dI (TY cI cJ cII cJJ) (WX cI cJ cII cJJ ad f3_unknowns f3_equations f2_roundSupports f2_stale f7_size n_f1_size f5_keptSize f5_aheadSize f0_solved f4_blockCount f4_blockLength f4_lastIsFree f4_stale ai n_al n_w0 n_w1 n_w2 n_w3) A t) A
set_option maxRecDepth 100000 in
set_option maxHeartbeats 4000000 in
theorem m134_X1_impose_b60 {p : Program} {l : Launch} {e : Env} {s : State} {m : MethodId} {args : Array Value} {below : List Frame} {meth : Method} {c : Code} {A : Nat → Prop} {dC : Nat → ClassId} {dI : Nat → Nat → Nat} {cI cJ cII cJJ : ClassId} {ad : Nat → Nat} {g : Nat} {f3_unknowns f3_equations f2_roundSupports f2_stale f7_size f5_keptSize f5_aheadSize f0_solved f4_blockCount f4_blockLength f4_lastIsFree f4_stale : Int32} {ai : Nat → Nat → Int32} {al0 : Nat → Nat → Int64} (C : Cx p c s m meth args A dC dI (TY cI cJ cII cJJ) cX1_impose none 4 RX1 1 g) : ∀ (n : Nat), ∀ (L2 f1_size : Int32) (al : Nat → Nat → Int64) (w0 w1 w2 w3 : Nat) (H : Heap) (locs : List Loc) (ls : Array Slot), (0 ≤ L2.toInt ∧ L2.toInt ≤ 127) → (1 ≤ f3_unknowns.toInt ∧ f3_unknowns.toInt ≤ 4) → (0 ≤ f3_equations.toInt ∧ f3_equations.toInt ≤ 3) → (0 ≤ f2_stale.toInt ∧ f2_stale.toInt ≤ 1) → (0 ≤ f7_size.toInt ∧ f7_size.toInt ≤ 256) → (0 ≤ f1_size.toInt ∧ f1_size.toInt ≤ 4) → (0 ≤ f5_keptSize.toInt ∧ f5_keptSize.toInt ≤ 128) → (0 ≤ f5_aheadSize.toInt ∧ f5_aheadSize.toInt ≤ 128) → (0 ≤ f4_blockCount.toInt ∧ f4_blockCount.toInt ≤ 9261) → (0 ≤ f4_blockLength.toInt ∧ f4_blockLength.toInt ≤ 21) → (0 ≤ f4_lastIsFree.toInt ∧ f4_lastIsFree.toInt ≤ 1) → (0 ≤ f4_stale.toInt ∧ f4_stale.toInt ≤ 1) → 100 - L2.toInt < (n : Int) → (0 : Int) < (n : Int) → IAX ai → FL [16, 17, 18, 19, 20] al0 al → RWX ad w0 → RWX ad w1 → RWX ad w2 → RWX ad w3 → va_P (dC, dI) vwCl (WX cI cJ cII cJJ ad f3_unknowns f3_equations f2_roundSupports f2_stale f7_size f1_size f5_keptSize f5_aheadSize f0_solved f4_blockCount f4_blockLength f4_lastIsFree f4_stale ai al w0 w1 w2 w3) H → va_D A (WX cI cJ cII cJJ ad f3_unknowns f3_equations f2_roundSupports f2_stale f7_size f1_size f5_keptSize f5_aheadSize f0_solved f4_blockCount f4_blockLength f4_lastIsFree f4_stale ai al w0 w1 w2 w3) → va_S A s.heap H locs → lv_has ls 4 [(0, .ref (ad 14)), (1, .ref (ad 21)), (2, .int L2)] → W p l e ({ frames := 4, cells := 0, slots := 0, locals := 200 } : Room) s m args below meth c H locs 0 0 (MQ below (Q_m134_X1_impose dC dI cI cJ cII cJJ ad f3_unknowns f3_equations f2_roundSupports f2_stale f7_size f5_keptSize f5_aheadSize f0_solved f4_blockCount f4_blockLength f4_lastIsFree f4_stale ai al0 A) args s 0 0 A) (F0 m 60 ls []) := by
  obtain ⟨hx, hb, hr, hml, hown, hts, hk, hA, hK, hX⟩ := id C
  intro n
  induction n with
  | zero =>
    intro L2 f1_size al w0 w1 w2 w3 H locs ls h0 h1 h2 h3 h4 h5 h6 h7 h8 h9 h10 h11 h12 h13 hI hG hw_w0 hw_w1 hw_w2 hw_w3 hP hD hS hl
    exact absurd h13 (by omega)
  | succ n ih =>
    intro L2 f1_size al w0 w1 w2 w3 H locs ls h0 h1 h2 h3 h4 h5 h6 h7 h8 h9 h10 h11 h12 h13 hI hG hw_w0 hw_w1 hw_w2 hw_w3 hP hD hS hl
    refine lv_iload_n hx hb dX1_impose_60 rfl (lv_at hl 2 rfl) ?_
    refine lv_bipush (v := 100) hx hb dX1_impose_61 (by decide) ?_
    refine lv_icmp_ge (tgt := 96) hx hb dX1_impose_63 (by decide) (fun c1 => ?_) (fun c1 => ?_)
    · have c1 := j_le (a := 100) (b := L2.toInt) (by decide +kernel) rfl c1
      exact r2_v hx hb hr hk hS dX1_impose_96 (fun t ht hW => ⟨f1_size, al, w0, w1, w2, w3, ⟨(by first | omega | decide | exact Or.inl (by decide) | exact Or.inr (by decide) | exact Or.inr (by omega)), hG, hw_w0, hw_w1, hw_w2, hw_w3⟩, by rw [ht]; exact hP, va_K.moved hW.alike hK, hD⟩)
    · have c1 := j_nle (a := 100) (b := L2.toInt) (by decide +kernel) rfl c1
      refine lv_aload_n hx hb dX1_impose_66 rfl (lv_at hl 0 rfl) ?_
      have hM := m089_X1_leastSum l dC dI cI cJ cII cJJ H.size 0 ad f3_unknowns f3_equations f2_roundSupports f2_stale f7_size f1_size f5_keptSize f5_aheadSize f0_solved f4_blockCount f4_blockLength f4_lastIsFree f4_stale ai al w0 w1 w2 w3 (by omega) (by omega) (by omega) (by omega) (by omega) (by omega) (by omega) (by omega) (by omega) (by omega) (by omega) hI hw_w0 hw_w1 hw_w2 hw_w3
      refine k2V_i (q0 := 14) ⟨hx, hb, hml, hown, hts⟩ hK hP hD hS hA hX cv_RX1_63 hM ⟨by decide +kernel, by decide +kernel⟩ rfl rfl (Or.inl rfl) (rest := []) rfl rfl rfl hl.1 rfl (Nat.le_of_ble_eq_true rfl) dX1_impose_67 ⟨Nat.le_of_ble_eq_true rfl, Nat.le_of_ble_eq_true rfl⟩ (fun r2 t H1 locs_1 ht hB hS_1 hFc => ?_)
      obtain ⟨⟨gpr2_0, gpr2_1⟩, hP_2, -, hD_2⟩ := hB
      rw [ht] at hP_2
      have hD_3 := hD_2.weaken (B := A) (fun k q _ h9 => hFc q.1 h9)
      clear ht
      generalize H1 = H_4 at hP_2 hS_1 ⊢
      refine lv_istore_n (lv' := [(3, .int r2), (0, .ref (ad 14)), (1, .ref (ad 21)), (2, .int L2)]) hx hb dX1_impose_70 rfl hl (by decide) rfl (fun ls_5 hl_5 => ?_)
      refine lv_iload_n hx hb dX1_impose_71 rfl (lv_at hl_5 0 rfl) ?_
      refine lv_if_ge (tgt := 76) hx hb dX1_impose_72 (by decide) (fun c3 => ?_) (fun c3 => ?_)
      · have c3 := j_le (a := 0) (b := r2.toInt) (by decide +kernel) rfl c3
        refine lv_aload_n hx hb dX1_impose_76 rfl (lv_at hl_5 1 rfl) ?_
        refine lv_iload_n hx hb dX1_impose_77 rfl (lv_at hl_5 0 rfl) ?_
        have hM := m090_X1_reduceBy l dC dI cI cJ cII cJJ H_4.size 0 ad f3_unknowns f3_equations f2_roundSupports f2_stale f7_size f1_size f5_keptSize f5_aheadSize f0_solved f4_blockCount f4_blockLength f4_lastIsFree f4_stale ai al w0 w1 w2 w3 r2 (by omega) (by omega) (by omega) (by omega) (by omega) (by omega) (by omega) (by omega) (by omega) (by omega) (by omega) (by omega) hI hw_w0 hw_w1 hw_w2 hw_w3
        refine k2V_i (q0 := 14) ⟨hx, hb, hml, hown, hts⟩ hK hP_2 hD_3 hS_1 hA hX cv_RX1_67 hM ⟨by decide +kernel, by decide +kernel⟩ rfl rfl (Or.inl rfl) (rest := []) rfl rfl rfl hl_5.1 rfl (Nat.le_of_ble_eq_true rfl) dX1_impose_78 ⟨Nat.le_of_ble_eq_true rfl, Nat.le_of_ble_eq_true rfl⟩ (fun r4 t H1 locs_6 ht hB hS_6 hFc => ?_)
        obtain ⟨al5, ⟨gpr4_0, hGr_r4⟩, hP_7, -, hD_7⟩ := hB
        have hG_8 := FL_tr hG hGr_r4 (by decide)
        rw [ht] at hP_7
        have hD_9 := hD_7.weaken (B := A) (fun k q _ h9 => hFc q.1 h9)
        clear ht
        generalize H1 = H_10 at hP_7 hS_6 ⊢
        refine lv_if_ne (tgt := 90) hx hb dX1_impose_81 (by decide) (fun c6 => ?_) (fun c6 => ?_)
        · have c6 := j_ne (a := r4.toInt) (b := 0) rfl (by decide +kernel) c6
          obtain ⟨z7, e_z7⟩ : ∃ q : Int32, q = L2 + Int32.ofInt 1 := ⟨_, rfl⟩
          have g_z7 : z7.toInt = L2.toInt + 1 := by rw [e_z7]; exact n_add (a := L2.toInt) (b := 1) rfl (by decide +kernel) (by omega) (by omega)
          refine lv_iinc (v := z7) (lv' := [(2, .int z7), (3, .int r2), (0, .ref (ad 14)), (1, .ref (ad 21))]) hx hb dX1_impose_90 hl_5 (k := 3) rfl e_z7.symm (by decide) rfl (fun ls_11 hl_11 => ?_)
          refine lv_goto (tgt := 60) hx hb dX1_impose_93 (by decide) ?_
          exact ih z7 f1_size al5 w0 w1 w2 w3 _ _ _ (by omega) (by omega) (by omega) (by omega) (by omega) (by omega) (by omega) (by omega) (by omega) (by omega) (by omega) (by omega) (by omega) (by omega) hI hG_8 hw_w0 hw_w1 hw_w2 hw_w3 hP_7 hD_9 hS_6 (lv_sub hl_11 [2, 3, 0] rfl)
        · have c6 := j_eq (a := r4.toInt) (b := 0) rfl (by decide +kernel) c6
          refine lv_aload_n hx hb dX1_impose_84 rfl (lv_at hl_5 1 rfl) ?_
          refine lv_iload_n hx hb dX1_impose_85 rfl (lv_at hl_5 0 rfl) ?_
          have hM := m133_X1_removeVector l dC dI cI cJ cII cJJ H_10.size g ad f3_unknowns f3_equations f2_roundSupports f2_stale f7_size f1_size f5_keptSize f5_aheadSize f0_solved f4_blockCount f4_blockLength f4_lastIsFree f4_stale ai al5 w0 w1 w2 w3 r2 (by omega) (by omega) (by omega) (by omega) (by omega) (by omega) (by omega) (by omega) (by omega) (by omega) (by omega) (by omega) hI hw_w0 hw_w1 hw_w2 hw_w3
          refine k2V_v (q0 := 14) ⟨hx, hb, hml, hown, hts⟩ hK hP_7 hD_9 hS_6 hA hX cv_RX1_71 hM ⟨by decide +kernel, by decide +kernel⟩ rfl rfl (Or.inr ⟨rfl, rfl, rfl⟩) (rest := []) rfl rfl rfl hl_5.1 rfl (Nat.le_of_ble_eq_true rfl) dX1_impose_86 ⟨Nat.le_of_ble_eq_true rfl, Nat.le_of_ble_eq_true rfl⟩ (fun t H1 locs_12 ht hB hS_12 hFc => ?_)
          obtain ⟨v9, w10, w11, w12, w13, ⟨gpr8_0, hw_w10, hw_w11, hw_w12, hw_w13⟩, hP_13, -, hD_13⟩ := hB
          rw [ht] at hP_13
          have hD_14 := hD_13.weaken (B := A) (fun k q _ h9 => hFc q.1 h9)
          clear ht
          generalize H1 = H_15 at hP_13 hS_12 ⊢
          exact r2_v hx hb hr hk hS_12 dX1_impose_89 (fun t ht hW => ⟨v9, al5, w10, w11, w12, w13, ⟨(by first | omega | decide | exact Or.inl (by decide) | exact Or.inr (by decide) | exact Or.inr (by omega)), hG_8, hw_w10, hw_w11, hw_w12, hw_w13⟩, by rw [ht]; exact hP_13, va_K.moved hW.alike hK, hD_14⟩)
      · have c3 := j_nle (a := 0) (b := r2.toInt) (by decide +kernel) rfl c3
        exact r2_v hx hb hr hk hS_1 dX1_impose_75 (fun t ht hW => ⟨f1_size, al, w0, w1, w2, w3, ⟨(by first | omega | decide | exact Or.inl (by decide) | exact Or.inr (by decide) | exact Or.inr (by omega)), hG, hw_w0, hw_w1, hw_w2, hw_w3⟩, by rw [ht]; exact hP_2, va_K.moved hW.alike hK, hD_3⟩)
set_option maxRecDepth 100000 in
set_option maxHeartbeats 4000000 in
theorem m134_X1_impose_b19 {p : Program} {l : Launch} {e : Env} {s : State} {m : MethodId} {args : Array Value} {below : List Frame} {meth : Method} {c : Code} {A : Nat → Prop} {dC : Nat → ClassId} {dI : Nat → Nat → Nat} {cI cJ cII cJJ : ClassId} {ad : Nat → Nat} {g : Nat} {f3_unknowns f3_equations f2_roundSupports f2_stale f7_size f5_keptSize f5_aheadSize f0_solved f4_blockCount f4_blockLength f4_lastIsFree f4_stale : Int32} {ai : Nat → Nat → Int32} {al0 : Nat → Nat → Int64} (C : Cx p c s m meth args A dC dI (TY cI cJ cII cJJ) cX1_impose none 4 RX1 1 g) (n2 : Nat) (K2 : ∀ (L2 f1_size : Int32) (al : Nat → Nat → Int64) (w0 w1 w2 w3 : Nat) (H : Heap) (locs : List Loc) (ls : Array Slot), (0 ≤ L2.toInt ∧ L2.toInt ≤ 4) → (1 ≤ f3_unknowns.toInt ∧ f3_unknowns.toInt ≤ 4) → (0 ≤ f3_equations.toInt ∧ f3_equations.toInt ≤ 3) → (0 ≤ f2_stale.toInt ∧ f2_stale.toInt ≤ 1) → (0 ≤ f7_size.toInt ∧ f7_size.toInt ≤ 256) → (0 ≤ f1_size.toInt ∧ f1_size.toInt ≤ 4) → (0 ≤ f5_keptSize.toInt ∧ f5_keptSize.toInt ≤ 128) → (0 ≤ f5_aheadSize.toInt ∧ f5_aheadSize.toInt ≤ 128) → (0 ≤ f4_blockCount.toInt ∧ f4_blockCount.toInt ≤ 9261) → (0 ≤ f4_blockLength.toInt ∧ f4_blockLength.toInt ≤ 21) → (0 ≤ f4_lastIsFree.toInt ∧ f4_lastIsFree.toInt ≤ 1) → (0 ≤ f4_stale.toInt ∧ f4_stale.toInt ≤ 1) → f1_size.toInt - L2.toInt < (n2 : Int) → (0 : Int) < (n2 : Int) → IAX ai → FL [16, 17, 18, 19, 20] al0 al → RWX ad w0 → RWX ad w1 → RWX ad w2 → RWX ad w3 → va_P (dC, dI) vwCl (WX cI cJ cII cJJ ad f3_unknowns f3_equations f2_roundSupports f2_stale f7_size f1_size f5_keptSize f5_aheadSize f0_solved f4_blockCount f4_blockLength f4_lastIsFree f4_stale ai al w0 w1 w2 w3) H → va_D A (WX cI cJ cII cJJ ad f3_unknowns f3_equations f2_roundSupports f2_stale f7_size f1_size f5_keptSize f5_aheadSize f0_solved f4_blockCount f4_blockLength f4_lastIsFree f4_stale ai al w0 w1 w2 w3) → va_S A s.heap H locs → lv_has ls 4 [(0, .ref (ad 14)), (1, .ref (ad 21)), (2, .int L2)] → W p l e ({ frames := 4, cells := 0, slots := 0, locals := 200 } : Room) s m args below meth c H locs 0 0 (MQ below (Q_m134_X1_impose dC dI cI cJ cII cJJ ad f3_unknowns f3_equations f2_roundSupports f2_stale f7_size f5_keptSize f5_aheadSize f0_solved f4_blockCount f4_blockLength f4_lastIsFree f4_stale ai al0 A) args s 0 0 A) (F0 m 2 ls [])) : ∀ (n : Nat), ∀ (L2 L3 f1_size : Int32) (al : Nat → Nat → Int64) (w0 w1 w2 w3 : Nat) (H : Heap) (locs : List Loc) (ls : Array Slot), (0 ≤ L2.toInt ∧ L2.toInt ≤ 3) → (0 ≤ L3.toInt ∧ L3.toInt ≤ 4) → (1 ≤ f3_unknowns.toInt ∧ f3_unknowns.toInt ≤ 4) → (0 ≤ f3_equations.toInt ∧ f3_equations.toInt ≤ 3) → (0 ≤ f2_stale.toInt ∧ f2_stale.toInt ≤ 1) → (0 ≤ f7_size.toInt ∧ f7_size.toInt ≤ 256) → (1 ≤ f1_size.toInt ∧ f1_size.toInt ≤ 4) → (0 ≤ f5_keptSize.toInt ∧ f5_keptSize.toInt ≤ 128) → (0 ≤ f5_aheadSize.toInt ∧ f5_aheadSize.toInt ≤ 128) → (0 ≤ f4_blockCount.toInt ∧ f4_blockCount.toInt ≤ 9261) → (0 ≤ f4_blockLength.toInt ∧ f4_blockLength.toInt ≤ 21) → (0 ≤ f4_lastIsFree.toInt ∧ f4_lastIsFree.toInt ≤ 1) → (0 ≤ f4_stale.toInt ∧ f4_stale.toInt ≤ 1) → L2.toInt < f1_size.toInt → f1_size.toInt - L2.toInt ≤ (n2 : Int) → 4 - L3.toInt < (n : Int) → (0 : Int) < (n : Int) → IAX ai → FL [16, 17, 18, 19, 20] al0 al → RWX ad w0 → RWX ad w1 → RWX ad w2 → RWX ad w3 → va_P (dC, dI) vwCl (WX cI cJ cII cJJ ad f3_unknowns f3_equations f2_roundSupports f2_stale f7_size f1_size f5_keptSize f5_aheadSize f0_solved f4_blockCount f4_blockLength f4_lastIsFree f4_stale ai al w0 w1 w2 w3) H → va_D A (WX cI cJ cII cJJ ad f3_unknowns f3_equations f2_roundSupports f2_stale f7_size f1_size f5_keptSize f5_aheadSize f0_solved f4_blockCount f4_blockLength f4_lastIsFree f4_stale ai al w0 w1 w2 w3) → va_S A s.heap H locs → lv_has ls 4 [(0, .ref (ad 14)), (1, .ref (ad 21)), (2, .int L2), (3, .int L3)] → W p l e ({ frames := 4, cells := 0, slots := 0, locals := 200 } : Room) s m args below meth c H locs 0 0 (MQ below (Q_m134_X1_impose dC dI cI cJ cII cJJ ad f3_unknowns f3_equations f2_roundSupports f2_stale f7_size f5_keptSize f5_aheadSize f0_solved f4_blockCount f4_blockLength f4_lastIsFree f4_stale ai al0 A) args s 0 0 A) (F0 m 19 ls []) := by
  obtain ⟨hx, hb, hr, hml, hown, hts, hk, hA, hK, hX⟩ := id C
  intro n
  induction n with
  | zero =>
    intro L2 L3 f1_size al w0 w1 w2 w3 H locs ls h0 h1 h2 h3 h4 h5 h6 h7 h8 h9 h10 h11 h12 h13 h14 h15 h16 hI hG hw_w0 hw_w1 hw_w2 hw_w3 hP hD hS hl
    exact absurd h16 (by omega)
  | succ n ih =>
    intro L2 L3 f1_size al w0 w1 w2 w3 H locs ls h0 h1 h2 h3 h4 h5 h6 h7 h8 h9 h10 h11 h12 h13 h14 h15 h16 hI hG hw_w0 hw_w1 hw_w2 hw_w3 hP hD hS hl
    refine lv_iload_n hx hb dX1_impose_19 rfl (lv_at hl 3 rfl) ?_
    refine lv_iconst (v := 4) hx hb dX1_impose_20 (by decide) ?_
    refine lv_icmp_ge (tgt := 52) hx hb dX1_impose_21 (by decide) (fun c1 => ?_) (fun c1 => ?_)
    · have c1 := j_le (a := 4) (b := L3.toInt) (by decide +kernel) rfl c1
      obtain ⟨z2, e_z2⟩ : ∃ q : Int32, q = L2 + Int32.ofInt 1 := ⟨_, rfl⟩
      have g_z2 : z2.toInt = L2.toInt + 1 := by rw [e_z2]; exact n_add (a := L2.toInt) (b := 1) rfl (by decide +kernel) (by omega) (by omega)
      refine lv_iinc (v := z2) (lv' := [(2, .int z2), (0, .ref (ad 14)), (1, .ref (ad 21)), (3, .int L3)]) hx hb dX1_impose_52 hl (k := 2) rfl e_z2.symm (by decide) rfl (fun ls_1 hl_1 => ?_)
      refine lv_goto (tgt := 2) hx hb dX1_impose_55 (by decide) ?_
      exact K2 z2 f1_size al w0 w1 w2 w3 _ _ _ (by omega) (by omega) (by omega) (by omega) (by omega) (by omega) (by omega) (by omega) (by omega) (by omega) (by omega) (by omega) (by omega) (by omega) hI hG hw_w0 hw_w1 hw_w2 hw_w3 hP hD hS (lv_sub hl_1 [1, 2, 0] rfl)
    · have c1 := j_nle (a := 4) (b := L3.toInt) (by decide +kernel) rfl c1
      refine lv_aload_n hx hb dX1_impose_24 rfl (lv_at hl 0 rfl) ?_
      refine gf (k := 1) hx hb hts inX1 hown hK hP k_118 rfl (by decide) rfl 14 rfl (.ref (ad 20)) rfl dX1_impose_25 ?_
      refine lv_iload_n hx hb dX1_impose_28 rfl (lv_at hl 2 rfl) ?_
      refine lv_dup2_11 hx hb dX1_impose_29 rfl rfl ?_
      refine va_lald hx hb hK hP 20 1 rfl rfl (j_in (a := L2.toInt) rfl (by omega) (by omega)) dX1_impose_30 ?_
      refine lv_aload_n hx hb dX1_impose_31 rfl (lv_at hl 1 rfl) ?_
      refine lv_iload_n hx hb dX1_impose_32 rfl (lv_at hl 3 rfl) ?_
      refine va_iald hx hb hK hP 21 0 rfl rfl (j_in (a := L3.toInt) rfl (by omega) (by omega)) dX1_impose_33 ?_
      refine lv_topi (fun z3 e_z3 => ?_)
      refine lv_i2l hx hb dX1_impose_34 rfl ?_
      refine lv_topl (fun yy4 e_yy4 => ?_)
      refine lv_aload_n hx hb dX1_impose_35 rfl (lv_at hl 0 rfl) ?_
      refine gf (k := 0) hx hb hts inX1 hown hK hP k_116 rfl (by decide) rfl 14 rfl (.ref (ad 15)) rfl dX1_impose_36 ?_
      refine lv_iload_n hx hb dX1_impose_39 rfl (lv_at hl 2 rfl) ?_
      rcases (show L2 = 0 ∨ L2 = 1 ∨ L2 = 2 ∨ L2 = 3 from j_cases4 (a := L2.toInt) rfl (by omega) (by omega)) with rfl | rfl | rfl | rfl
      · have k9 : (0 : Int32).toInt = 0 := by decide +kernel
        refine ld_a hx hb hK hP 15 3 rfl rfl (vin (by decide +kernel)) dX1_impose_40 w0 rfl ?_
        refine lv_iload_n hx hb dX1_impose_41 rfl (lv_at hl 3 rfl) ?_
        refine ld_wX hx hb hK hP hw_w0 (j_in (a := L3.toInt) rfl (by omega) (by omega)) dX1_impose_42 (fun yy5 => ?_)
        refine v_lmul hx hb dX1_impose_43 _ rfl ?_
        refine lv_topl (fun yy6 e_yy6 => ?_)
        refine v_ladd hx hb dX1_impose_44 _ rfl ?_
        refine lv_topl (fun yy7 e_yy7 => ?_)
        refine va_last hx hb hK hP hD hS 20 1 rfl rfl (vin (by decide +kernel)) dX1_impose_45 (fun H_2 locs_2 hP_2 hD_2 hS_2 => ?_)
        obtain ⟨al8, e_al8⟩ : ∃ q : Nat → Nat → Int64, q = va_up al 20 (vp_updL (al 20) (0 : Int32).toNatClampNeg yy7) := ⟨_, rfl⟩
        have hG_3 := FL_st hG e_al8 (by decide)
        have hP_4 : va_P (dC, dI) vwCl (WX cI cJ cII cJJ ad f3_unknowns f3_equations f2_roundSupports f2_stale f7_size f1_size f5_keptSize f5_aheadSize f0_solved f4_blockCount f4_blockLength f4_lastIsFree f4_stale ai al8 w0 w1 w2 w3) H_2 := by rw [e_al8]; exact hP_2
        have hD_5 : va_D A (WX cI cJ cII cJJ ad f3_unknowns f3_equations f2_roundSupports f2_stale f7_size f1_size f5_keptSize f5_aheadSize f0_solved f4_blockCount f4_blockLength f4_lastIsFree f4_stale ai al8 w0 w1 w2 w3) := by rw [e_al8]; exact hD_2
        obtain ⟨z9, e_z9⟩ : ∃ q : Int32, q = L3 + Int32.ofInt 1 := ⟨_, rfl⟩
        have g_z9 : z9.toInt = L3.toInt + 1 := by rw [e_z9]; exact n_add (a := L3.toInt) (b := 1) rfl (by decide +kernel) (by omega) (by omega)
        refine lv_iinc (v := z9) (lv' := [(3, .int z9), (0, .ref (ad 14)), (1, .ref (ad 21)), (2, .int 0)]) hx hb dX1_impose_46 hl (k := 3) rfl e_z9.symm (by decide) rfl (fun ls_6 hl_6 => ?_)
        refine lv_goto (tgt := 19) hx hb dX1_impose_49 (by decide) ?_
        exact ih 0 z9 f1_size al8 w0 w1 w2 w3 _ _ _ (by first | omega | decide | (have ka0 := (by decide +kernel : (0 : Int32).toInt = 0); omega)) (by first | omega | decide | (have ka0 := (by decide +kernel : (0 : Int32).toInt = 0); omega)) (by first | omega | decide | (have ka0 := (by decide +kernel : (0 : Int32).toInt = 0); omega)) (by first | omega | decide | (have ka0 := (by decide +kernel : (0 : Int32).toInt = 0); omega)) (by first | omega | decide | (have ka0 := (by decide +kernel : (0 : Int32).toInt = 0); omega)) (by first | omega | decide | (have ka0 := (by decide +kernel : (0 : Int32).toInt = 0); omega)) (by first | omega | decide | (have ka0 := (by decide +kernel : (0 : Int32).toInt = 0); omega)) (by first | omega | decide | (have ka0 := (by decide +kernel : (0 : Int32).toInt = 0); omega)) (by first | omega | decide | (have ka0 := (by decide +kernel : (0 : Int32).toInt = 0); omega)) (by first | omega | decide | (have ka0 := (by decide +kernel : (0 : Int32).toInt = 0); omega)) (by first | omega | decide | (have ka0 := (by decide +kernel : (0 : Int32).toInt = 0); omega)) (by first | omega | decide | (have ka0 := (by decide +kernel : (0 : Int32).toInt = 0); omega)) (by first | omega | decide | (have ka0 := (by decide +kernel : (0 : Int32).toInt = 0); omega)) (by first | omega | decide | (have ka0 := (by decide +kernel : (0 : Int32).toInt = 0); omega)) (by first | omega | decide | (have ka0 := (by decide +kernel : (0 : Int32).toInt = 0); omega)) (by first | omega | decide | (have ka0 := (by decide +kernel : (0 : Int32).toInt = 0); omega)) (by first | omega | decide | (have ka0 := (by decide +kernel : (0 : Int32).toInt = 0); omega)) hI hG_3 hw_w0 hw_w1 hw_w2 hw_w3 hP_4 hD_5 hS_2 (lv_sub hl_6 [1, 2, 3, 0] rfl)
      · have k9 : (1 : Int32).toInt = 1 := by decide +kernel
        refine ld_a hx hb hK hP 15 3 rfl rfl (vin (by decide +kernel)) dX1_impose_40 w1 rfl ?_
        refine lv_iload_n hx hb dX1_impose_41 rfl (lv_at hl 3 rfl) ?_
        refine ld_wX hx hb hK hP hw_w1 (j_in (a := L3.toInt) rfl (by omega) (by omega)) dX1_impose_42 (fun yy10 => ?_)
        refine v_lmul hx hb dX1_impose_43 _ rfl ?_
        refine lv_topl (fun yy11 e_yy11 => ?_)
        refine v_ladd hx hb dX1_impose_44 _ rfl ?_
        refine lv_topl (fun yy12 e_yy12 => ?_)
        refine va_last hx hb hK hP hD hS 20 1 rfl rfl (vin (by decide +kernel)) dX1_impose_45 (fun H_7 locs_7 hP_7 hD_7 hS_7 => ?_)
        obtain ⟨al13, e_al13⟩ : ∃ q : Nat → Nat → Int64, q = va_up al 20 (vp_updL (al 20) (1 : Int32).toNatClampNeg yy12) := ⟨_, rfl⟩
        have hG_8 := FL_st hG e_al13 (by decide)
        have hP_9 : va_P (dC, dI) vwCl (WX cI cJ cII cJJ ad f3_unknowns f3_equations f2_roundSupports f2_stale f7_size f1_size f5_keptSize f5_aheadSize f0_solved f4_blockCount f4_blockLength f4_lastIsFree f4_stale ai al13 w0 w1 w2 w3) H_7 := by rw [e_al13]; exact hP_7
        have hD_10 : va_D A (WX cI cJ cII cJJ ad f3_unknowns f3_equations f2_roundSupports f2_stale f7_size f1_size f5_keptSize f5_aheadSize f0_solved f4_blockCount f4_blockLength f4_lastIsFree f4_stale ai al13 w0 w1 w2 w3) := by rw [e_al13]; exact hD_7
        obtain ⟨z14, e_z14⟩ : ∃ q : Int32, q = L3 + Int32.ofInt 1 := ⟨_, rfl⟩
        have g_z14 : z14.toInt = L3.toInt + 1 := by rw [e_z14]; exact n_add (a := L3.toInt) (b := 1) rfl (by decide +kernel) (by omega) (by omega)
        refine lv_iinc (v := z14) (lv' := [(3, .int z14), (0, .ref (ad 14)), (1, .ref (ad 21)), (2, .int 1)]) hx hb dX1_impose_46 hl (k := 3) rfl e_z14.symm (by decide) rfl (fun ls_11 hl_11 => ?_)
        refine lv_goto (tgt := 19) hx hb dX1_impose_49 (by decide) ?_
        exact ih 1 z14 f1_size al13 w0 w1 w2 w3 _ _ _ (by first | omega | decide | (have ka0 := (by decide +kernel : (1 : Int32).toInt = 1); omega)) (by first | omega | decide | (have ka0 := (by decide +kernel : (1 : Int32).toInt = 1); omega)) (by first | omega | decide | (have ka0 := (by decide +kernel : (1 : Int32).toInt = 1); omega)) (by first | omega | decide | (have ka0 := (by decide +kernel : (1 : Int32).toInt = 1); omega)) (by first | omega | decide | (have ka0 := (by decide +kernel : (1 : Int32).toInt = 1); omega)) (by first | omega | decide | (have ka0 := (by decide +kernel : (1 : Int32).toInt = 1); omega)) (by first | omega | decide | (have ka0 := (by decide +kernel : (1 : Int32).toInt = 1); omega)) (by first | omega | decide | (have ka0 := (by decide +kernel : (1 : Int32).toInt = 1); omega)) (by first | omega | decide | (have ka0 := (by decide +kernel : (1 : Int32).toInt = 1); omega)) (by first | omega | decide | (have ka0 := (by decide +kernel : (1 : Int32).toInt = 1); omega)) (by first | omega | decide | (have ka0 := (by decide +kernel : (1 : Int32).toInt = 1); omega)) (by first | omega | decide | (have ka0 := (by decide +kernel : (1 : Int32).toInt = 1); omega)) (by first | omega | decide | (have ka0 := (by decide +kernel : (1 : Int32).toInt = 1); omega)) (by first | omega | decide | (have ka0 := (by decide +kernel : (1 : Int32).toInt = 1); omega)) (by first | omega | decide | (have ka0 := (by decide +kernel : (1 : Int32).toInt = 1); omega)) (by first | omega | decide | (have ka0 := (by decide +kernel : (1 : Int32).toInt = 1); omega)) (by first | omega | decide | (have ka0 := (by decide +kernel : (1 : Int32).toInt = 1); omega)) hI hG_8 hw_w0 hw_w1 hw_w2 hw_w3 hP_9 hD_10 hS_7 (lv_sub hl_11 [1, 2, 3, 0] rfl)
      · have k9 : (2 : Int32).toInt = 2 := by decide +kernel
        refine ld_a hx hb hK hP 15 3 rfl rfl (vin (by decide +kernel)) dX1_impose_40 w2 rfl ?_
        refine lv_iload_n hx hb dX1_impose_41 rfl (lv_at hl 3 rfl) ?_
        refine ld_wX hx hb hK hP hw_w2 (j_in (a := L3.toInt) rfl (by omega) (by omega)) dX1_impose_42 (fun yy15 => ?_)
        refine v_lmul hx hb dX1_impose_43 _ rfl ?_
        refine lv_topl (fun yy16 e_yy16 => ?_)
        refine v_ladd hx hb dX1_impose_44 _ rfl ?_
        refine lv_topl (fun yy17 e_yy17 => ?_)
        refine va_last hx hb hK hP hD hS 20 1 rfl rfl (vin (by decide +kernel)) dX1_impose_45 (fun H_12 locs_12 hP_12 hD_12 hS_12 => ?_)
        obtain ⟨al18, e_al18⟩ : ∃ q : Nat → Nat → Int64, q = va_up al 20 (vp_updL (al 20) (2 : Int32).toNatClampNeg yy17) := ⟨_, rfl⟩
        have hG_13 := FL_st hG e_al18 (by decide)
        have hP_14 : va_P (dC, dI) vwCl (WX cI cJ cII cJJ ad f3_unknowns f3_equations f2_roundSupports f2_stale f7_size f1_size f5_keptSize f5_aheadSize f0_solved f4_blockCount f4_blockLength f4_lastIsFree f4_stale ai al18 w0 w1 w2 w3) H_12 := by rw [e_al18]; exact hP_12
        have hD_15 : va_D A (WX cI cJ cII cJJ ad f3_unknowns f3_equations f2_roundSupports f2_stale f7_size f1_size f5_keptSize f5_aheadSize f0_solved f4_blockCount f4_blockLength f4_lastIsFree f4_stale ai al18 w0 w1 w2 w3) := by rw [e_al18]; exact hD_12
        obtain ⟨z19, e_z19⟩ : ∃ q : Int32, q = L3 + Int32.ofInt 1 := ⟨_, rfl⟩
        have g_z19 : z19.toInt = L3.toInt + 1 := by rw [e_z19]; exact n_add (a := L3.toInt) (b := 1) rfl (by decide +kernel) (by omega) (by omega)
        refine lv_iinc (v := z19) (lv' := [(3, .int z19), (0, .ref (ad 14)), (1, .ref (ad 21)), (2, .int 2)]) hx hb dX1_impose_46 hl (k := 3) rfl e_z19.symm (by decide) rfl (fun ls_16 hl_16 => ?_)
        refine lv_goto (tgt := 19) hx hb dX1_impose_49 (by decide) ?_
        exact ih 2 z19 f1_size al18 w0 w1 w2 w3 _ _ _ (by first | omega | decide | (have ka0 := (by decide +kernel : (2 : Int32).toInt = 2); omega)) (by first | omega | decide | (have ka0 := (by decide +kernel : (2 : Int32).toInt = 2); omega)) (by first | omega | decide | (have ka0 := (by decide +kernel : (2 : Int32).toInt = 2); omega)) (by first | omega | decide | (have ka0 := (by decide +kernel : (2 : Int32).toInt = 2); omega)) (by first | omega | decide | (have ka0 := (by decide +kernel : (2 : Int32).toInt = 2); omega)) (by first | omega | decide | (have ka0 := (by decide +kernel : (2 : Int32).toInt = 2); omega)) (by first | omega | decide | (have ka0 := (by decide +kernel : (2 : Int32).toInt = 2); omega)) (by first | omega | decide | (have ka0 := (by decide +kernel : (2 : Int32).toInt = 2); omega)) (by first | omega | decide | (have ka0 := (by decide +kernel : (2 : Int32).toInt = 2); omega)) (by first | omega | decide | (have ka0 := (by decide +kernel : (2 : Int32).toInt = 2); omega)) (by first | omega | decide | (have ka0 := (by decide +kernel : (2 : Int32).toInt = 2); omega)) (by first | omega | decide | (have ka0 := (by decide +kernel : (2 : Int32).toInt = 2); omega)) (by first | omega | decide | (have ka0 := (by decide +kernel : (2 : Int32).toInt = 2); omega)) (by first | omega | decide | (have ka0 := (by decide +kernel : (2 : Int32).toInt = 2); omega)) (by first | omega | decide | (have ka0 := (by decide +kernel : (2 : Int32).toInt = 2); omega)) (by first | omega | decide | (have ka0 := (by decide +kernel : (2 : Int32).toInt = 2); omega)) (by first | omega | decide | (have ka0 := (by decide +kernel : (2 : Int32).toInt = 2); omega)) hI hG_13 hw_w0 hw_w1 hw_w2 hw_w3 hP_14 hD_15 hS_12 (lv_sub hl_16 [1, 2, 3, 0] rfl)
      · have k9 : (3 : Int32).toInt = 3 := by decide +kernel
        refine ld_a hx hb hK hP 15 3 rfl rfl (vin (by decide +kernel)) dX1_impose_40 w3 rfl ?_
        refine lv_iload_n hx hb dX1_impose_41 rfl (lv_at hl 3 rfl) ?_
        refine ld_wX hx hb hK hP hw_w3 (j_in (a := L3.toInt) rfl (by omega) (by omega)) dX1_impose_42 (fun yy20 => ?_)
        refine v_lmul hx hb dX1_impose_43 _ rfl ?_
        refine lv_topl (fun yy21 e_yy21 => ?_)
        refine v_ladd hx hb dX1_impose_44 _ rfl ?_
        refine lv_topl (fun yy22 e_yy22 => ?_)
        refine va_last hx hb hK hP hD hS 20 1 rfl rfl (vin (by decide +kernel)) dX1_impose_45 (fun H_17 locs_17 hP_17 hD_17 hS_17 => ?_)
        obtain ⟨al23, e_al23⟩ : ∃ q : Nat → Nat → Int64, q = va_up al 20 (vp_updL (al 20) (3 : Int32).toNatClampNeg yy22) := ⟨_, rfl⟩
        have hG_18 := FL_st hG e_al23 (by decide)
        have hP_19 : va_P (dC, dI) vwCl (WX cI cJ cII cJJ ad f3_unknowns f3_equations f2_roundSupports f2_stale f7_size f1_size f5_keptSize f5_aheadSize f0_solved f4_blockCount f4_blockLength f4_lastIsFree f4_stale ai al23 w0 w1 w2 w3) H_17 := by rw [e_al23]; exact hP_17
        have hD_20 : va_D A (WX cI cJ cII cJJ ad f3_unknowns f3_equations f2_roundSupports f2_stale f7_size f1_size f5_keptSize f5_aheadSize f0_solved f4_blockCount f4_blockLength f4_lastIsFree f4_stale ai al23 w0 w1 w2 w3) := by rw [e_al23]; exact hD_17
        obtain ⟨z24, e_z24⟩ : ∃ q : Int32, q = L3 + Int32.ofInt 1 := ⟨_, rfl⟩
        have g_z24 : z24.toInt = L3.toInt + 1 := by rw [e_z24]; exact n_add (a := L3.toInt) (b := 1) rfl (by decide +kernel) (by omega) (by omega)
        refine lv_iinc (v := z24) (lv' := [(3, .int z24), (0, .ref (ad 14)), (1, .ref (ad 21)), (2, .int 3)]) hx hb dX1_impose_46 hl (k := 3) rfl e_z24.symm (by decide) rfl (fun ls_21 hl_21 => ?_)
        refine lv_goto (tgt := 19) hx hb dX1_impose_49 (by decide) ?_
        exact ih 3 z24 f1_size al23 w0 w1 w2 w3 _ _ _ (by first | omega | decide | (have ka0 := (by decide +kernel : (3 : Int32).toInt = 3); omega)) (by first | omega | decide | (have ka0 := (by decide +kernel : (3 : Int32).toInt = 3); omega)) (by first | omega | decide | (have ka0 := (by decide +kernel : (3 : Int32).toInt = 3); omega)) (by first | omega | decide | (have ka0 := (by decide +kernel : (3 : Int32).toInt = 3); omega)) (by first | omega | decide | (have ka0 := (by decide +kernel : (3 : Int32).toInt = 3); omega)) (by first | omega | decide | (have ka0 := (by decide +kernel : (3 : Int32).toInt = 3); omega)) (by first | omega | decide | (have ka0 := (by decide +kernel : (3 : Int32).toInt = 3); omega)) (by first | omega | decide | (have ka0 := (by decide +kernel : (3 : Int32).toInt = 3); omega)) (by first | omega | decide | (have ka0 := (by decide +kernel : (3 : Int32).toInt = 3); omega)) (by first | omega | decide | (have ka0 := (by decide +kernel : (3 : Int32).toInt = 3); omega)) (by first | omega | decide | (have ka0 := (by decide +kernel : (3 : Int32).toInt = 3); omega)) (by first | omega | decide | (have ka0 := (by decide +kernel : (3 : Int32).toInt = 3); omega)) (by first | omega | decide | (have ka0 := (by decide +kernel : (3 : Int32).toInt = 3); omega)) (by first | omega | decide | (have ka0 := (by decide +kernel : (3 : Int32).toInt = 3); omega)) (by first | omega | decide | (have ka0 := (by decide +kernel : (3 : Int32).toInt = 3); omega)) (by first | omega | decide | (have ka0 := (by decide +kernel : (3 : Int32).toInt = 3); omega)) (by first | omega | decide | (have ka0 := (by decide +kernel : (3 : Int32).toInt = 3); omega)) hI hG_18 hw_w0 hw_w1 hw_w2 hw_w3 hP_19 hD_20 hS_17 (lv_sub hl_21 [1, 2, 3, 0] rfl)
set_option maxRecDepth 100000 in
set_option maxHeartbeats 4000000 in
theorem m134_X1_impose_b2 {p : Program} {l : Launch} {e : Env} {s : State} {m : MethodId} {args : Array Value} {below : List Frame} {meth : Method} {c : Code} {A : Nat → Prop} {dC : Nat → ClassId} {dI : Nat → Nat → Nat} {cI cJ cII cJJ : ClassId} {ad : Nat → Nat} {g : Nat} {f3_unknowns f3_equations f2_roundSupports f2_stale f7_size f5_keptSize f5_aheadSize f0_solved f4_blockCount f4_blockLength f4_lastIsFree f4_stale : Int32} {ai : Nat → Nat → Int32} {al0 : Nat → Nat → Int64} (C : Cx p c s m meth args A dC dI (TY cI cJ cII cJJ) cX1_impose none 4 RX1 1 g) : ∀ (n : Nat), ∀ (L2 f1_size : Int32) (al : Nat → Nat → Int64) (w0 w1 w2 w3 : Nat) (H : Heap) (locs : List Loc) (ls : Array Slot), (0 ≤ L2.toInt ∧ L2.toInt ≤ 4) → (1 ≤ f3_unknowns.toInt ∧ f3_unknowns.toInt ≤ 4) → (0 ≤ f3_equations.toInt ∧ f3_equations.toInt ≤ 3) → (0 ≤ f2_stale.toInt ∧ f2_stale.toInt ≤ 1) → (0 ≤ f7_size.toInt ∧ f7_size.toInt ≤ 256) → (0 ≤ f1_size.toInt ∧ f1_size.toInt ≤ 4) → (0 ≤ f5_keptSize.toInt ∧ f5_keptSize.toInt ≤ 128) → (0 ≤ f5_aheadSize.toInt ∧ f5_aheadSize.toInt ≤ 128) → (0 ≤ f4_blockCount.toInt ∧ f4_blockCount.toInt ≤ 9261) → (0 ≤ f4_blockLength.toInt ∧ f4_blockLength.toInt ≤ 21) → (0 ≤ f4_lastIsFree.toInt ∧ f4_lastIsFree.toInt ≤ 1) → (0 ≤ f4_stale.toInt ∧ f4_stale.toInt ≤ 1) → f1_size.toInt - L2.toInt < (n : Int) → (0 : Int) < (n : Int) → IAX ai → FL [16, 17, 18, 19, 20] al0 al → RWX ad w0 → RWX ad w1 → RWX ad w2 → RWX ad w3 → va_P (dC, dI) vwCl (WX cI cJ cII cJJ ad f3_unknowns f3_equations f2_roundSupports f2_stale f7_size f1_size f5_keptSize f5_aheadSize f0_solved f4_blockCount f4_blockLength f4_lastIsFree f4_stale ai al w0 w1 w2 w3) H → va_D A (WX cI cJ cII cJJ ad f3_unknowns f3_equations f2_roundSupports f2_stale f7_size f1_size f5_keptSize f5_aheadSize f0_solved f4_blockCount f4_blockLength f4_lastIsFree f4_stale ai al w0 w1 w2 w3) → va_S A s.heap H locs → lv_has ls 4 [(0, .ref (ad 14)), (1, .ref (ad 21)), (2, .int L2)] → W p l e ({ frames := 4, cells := 0, slots := 0, locals := 200 } : Room) s m args below meth c H locs 0 0 (MQ below (Q_m134_X1_impose dC dI cI cJ cII cJJ ad f3_unknowns f3_equations f2_roundSupports f2_stale f7_size f5_keptSize f5_aheadSize f0_solved f4_blockCount f4_blockLength f4_lastIsFree f4_stale ai al0 A) args s 0 0 A) (F0 m 2 ls []) := by
  obtain ⟨hx, hb, hr, hml, hown, hts, hk, hA, hK, hX⟩ := id C
  intro n
  induction n with
  | zero =>
    intro L2 f1_size al w0 w1 w2 w3 H locs ls h0 h1 h2 h3 h4 h5 h6 h7 h8 h9 h10 h11 h12 h13 hI hG hw_w0 hw_w1 hw_w2 hw_w3 hP hD hS hl
    exact absurd h13 (by omega)
  | succ n ih =>
    intro L2 f1_size al w0 w1 w2 w3 H locs ls h0 h1 h2 h3 h4 h5 h6 h7 h8 h9 h10 h11 h12 h13 hI hG hw_w0 hw_w1 hw_w2 hw_w3 hP hD hS hl
    refine lv_iload_n hx hb dX1_impose_2 rfl (lv_at hl 2 rfl) ?_
    refine lv_aload_n hx hb dX1_impose_3 rfl (lv_at hl 0 rfl) ?_
    refine gf (k := 3) hx hb hts inX1 hown hK hP k_120 rfl (by decide) rfl 14 rfl (.int f1_size) rfl dX1_impose_4 ?_
    refine lv_icmp_ge (tgt := 58) hx hb dX1_impose_7 (by decide) (fun c1 => ?_) (fun c1 => ?_)
    · have c1 := j_le (a := f1_size.toInt) (b := L2.toInt) rfl rfl c1
      refine lv_iconst (v := 0) hx hb dX1_impose_58 (by decide) ?_
      refine lv_istore_n (lv' := [(2, .int 0), (0, .ref (ad 14)), (1, .ref (ad 21))]) hx hb dX1_impose_59 rfl hl (by decide) rfl (fun ls_1 hl_1 => ?_)
      exact m134_X1_impose_b60 C  _ 0 f1_size al w0 w1 w2 w3 _ _ _ (by first | omega | decide | (have ka0 := (by decide +kernel : (0 : Int32).toInt = 0); omega)) (by first | omega | decide | (have ka0 := (by decide +kernel : (0 : Int32).toInt = 0); omega)) (by first | omega | decide | (have ka0 := (by decide +kernel : (0 : Int32).toInt = 0); omega)) (by first | omega | decide | (have ka0 := (by decide +kernel : (0 : Int32).toInt = 0); omega)) (by first | omega | decide | (have ka0 := (by decide +kernel : (0 : Int32).toInt = 0); omega)) (by first | omega | decide | (have ka0 := (by decide +kernel : (0 : Int32).toInt = 0); omega)) (by first | omega | decide | (have ka0 := (by decide +kernel : (0 : Int32).toInt = 0); omega)) (by first | omega | decide | (have ka0 := (by decide +kernel : (0 : Int32).toInt = 0); omega)) (by first | omega | decide | (have ka0 := (by decide +kernel : (0 : Int32).toInt = 0); omega)) (by first | omega | decide | (have ka0 := (by decide +kernel : (0 : Int32).toInt = 0); omega)) (by first | omega | decide | (have ka0 := (by decide +kernel : (0 : Int32).toInt = 0); omega)) (by first | omega | decide | (have ka0 := (by decide +kernel : (0 : Int32).toInt = 0); omega)) (j_fuel _) (by omega) hI hG hw_w0 hw_w1 hw_w2 hw_w3 hP hD hS (lv_sub hl_1 [1, 2, 0] rfl)
    · have c1 := j_nle (a := f1_size.toInt) (b := L2.toInt) rfl rfl c1
      refine lv_aload_n hx hb dX1_impose_10 rfl (lv_at hl 0 rfl) ?_
      refine gf (k := 1) hx hb hts inX1 hown hK hP k_118 rfl (by decide) rfl 14 rfl (.ref (ad 20)) rfl dX1_impose_11 ?_
      refine lv_iload_n hx hb dX1_impose_14 rfl (lv_at hl 2 rfl) ?_
      refine lv_lconst (v := 0) hx hb dX1_impose_15 (by decide) ?_
      refine va_last hx hb hK hP hD hS 20 1 rfl rfl (j_in (a := L2.toInt) rfl (by omega) (by omega)) dX1_impose_16 (fun H_2 locs_2 hP_2 hD_2 hS_2 => ?_)
      obtain ⟨al2, e_al2⟩ : ∃ q : Nat → Nat → Int64, q = va_up al 20 (vp_updL (al 20) L2.toNatClampNeg 0) := ⟨_, rfl⟩
      have hG_3 := FL_st hG e_al2 (by decide)
      have hP_4 : va_P (dC, dI) vwCl (WX cI cJ cII cJJ ad f3_unknowns f3_equations f2_roundSupports f2_stale f7_size f1_size f5_keptSize f5_aheadSize f0_solved f4_blockCount f4_blockLength f4_lastIsFree f4_stale ai al2 w0 w1 w2 w3) H_2 := by rw [e_al2]; exact hP_2
      have hD_5 : va_D A (WX cI cJ cII cJJ ad f3_unknowns f3_equations f2_roundSupports f2_stale f7_size f1_size f5_keptSize f5_aheadSize f0_solved f4_blockCount f4_blockLength f4_lastIsFree f4_stale ai al2 w0 w1 w2 w3) := by rw [e_al2]; exact hD_2
      refine lv_iconst (v := 0) hx hb dX1_impose_17 (by decide) ?_
      refine lv_istore_n (lv' := [(3, .int 0), (0, .ref (ad 14)), (1, .ref (ad 21)), (2, .int L2)]) hx hb dX1_impose_18 rfl hl (by decide) rfl (fun ls_6 hl_6 => ?_)
      exact m134_X1_impose_b19 C n ih _ L2 0 f1_size al2 w0 w1 w2 w3 _ _ _ (by first | omega | decide | (have ka0 := (by decide +kernel : (0 : Int32).toInt = 0); omega)) (by first | omega | decide | (have ka0 := (by decide +kernel : (0 : Int32).toInt = 0); omega)) (by first | omega | decide | (have ka0 := (by decide +kernel : (0 : Int32).toInt = 0); omega)) (by first | omega | decide | (have ka0 := (by decide +kernel : (0 : Int32).toInt = 0); omega)) (by first | omega | decide | (have ka0 := (by decide +kernel : (0 : Int32).toInt = 0); omega)) (by first | omega | decide | (have ka0 := (by decide +kernel : (0 : Int32).toInt = 0); omega)) (by first | omega | decide | (have ka0 := (by decide +kernel : (0 : Int32).toInt = 0); omega)) (by first | omega | decide | (have ka0 := (by decide +kernel : (0 : Int32).toInt = 0); omega)) (by first | omega | decide | (have ka0 := (by decide +kernel : (0 : Int32).toInt = 0); omega)) (by first | omega | decide | (have ka0 := (by decide +kernel : (0 : Int32).toInt = 0); omega)) (by first | omega | decide | (have ka0 := (by decide +kernel : (0 : Int32).toInt = 0); omega)) (by first | omega | decide | (have ka0 := (by decide +kernel : (0 : Int32).toInt = 0); omega)) (by first | omega | decide | (have ka0 := (by decide +kernel : (0 : Int32).toInt = 0); omega)) (by first | omega | decide | (have ka0 := (by decide +kernel : (0 : Int32).toInt = 0); omega)) (by first | omega | decide | (have ka0 := (by decide +kernel : (0 : Int32).toInt = 0); omega)) (j_fuel _) (by omega) hI hG_3 hw_w0 hw_w1 hw_w2 hw_w3 hP_4 hD_5 hS_2 (lv_sub hl_6 [1, 2, 3, 0] rfl)
set_option maxRecDepth 100000 in
set_option maxHeartbeats 4000000 in
theorem m134_X1_impose (l : Launch) (dC : Nat → ClassId) (dI : Nat → Nat → Nat) (cI cJ cII cJJ : ClassId) (sz g : Nat) (ad : Nat → Nat) (f3_unknowns f3_equations f2_roundSupports f2_stale f7_size f1_size f5_keptSize f5_aheadSize f0_solved f4_blockCount f4_blockLength f4_lastIsFree f4_stale : Int32) (ai : Nat → Nat → Int32) (al : Nat → Nat → Int64) (w0 w1 w2 w3 : Nat) (h_f3_unknowns : (1 ≤ f3_unknowns.toInt ∧ f3_unknowns.toInt ≤ 4)) (h_f3_equations : (0 ≤ f3_equations.toInt ∧ f3_equations.toInt ≤ 3)) (h_f2_stale : (0 ≤ f2_stale.toInt ∧ f2_stale.toInt ≤ 1)) (h_f7_size : (0 ≤ f7_size.toInt ∧ f7_size.toInt ≤ 256)) (h_f1_size : (0 ≤ f1_size.toInt ∧ f1_size.toInt ≤ 4)) (h_f5_keptSize : (0 ≤ f5_keptSize.toInt ∧ f5_keptSize.toInt ≤ 128)) (h_f5_aheadSize : (0 ≤ f5_aheadSize.toInt ∧ f5_aheadSize.toInt ≤ 128)) (h_f4_blockCount : (0 ≤ f4_blockCount.toInt ∧ f4_blockCount.toInt ≤ 9261)) (h_f4_blockLength : (0 ≤ f4_blockLength.toInt ∧ f4_blockLength.toInt ≤ 21)) (h_f4_lastIsFree : (0 ≤ f4_lastIsFree.toInt ∧ f4_lastIsFree.toInt ≤ 1)) (h_f4_stale : (0 ≤ f4_stale.toInt ∧ f4_stale.toInt ≤ 1)) (hI : IAX ai) (hw_w0 : RWX ad w0) (hw_w1 : RWX ad w1) (hw_w2 : RWX ad w2) (hw_w3 : RWX ad w3) : Met l yX1_impose (.code yX1_impose cX1_impose 4 none :: TT) ({ frames := 4, cells := 0, slots := 0, locals := 200 } : Room) (PcS dC dI (TY cI cJ cII cJJ) [.ref (ad 14), .ref (ad 21)] (WX cI cJ cII cJJ ad f3_unknowns f3_equations f2_roundSupports f2_stale f7_size f1_size f5_keptSize f5_aheadSize f0_solved f4_blockCount f4_blockLength f4_lastIsFree f4_stale ai al w0 w1 w2 w3) sz 1 g) (Q_m134_X1_impose dC dI cI cJ cII cJJ ad f3_unknowns f3_equations f2_roundSupports f2_stale f7_size f5_keptSize f5_aheadSize f0_solved f4_blockCount f4_blockLength f4_lastIsFree f4_stale ai al (va_A (WX cI cJ cII cJJ ad f3_unknowns f3_equations f2_roundSupports f2_stale f7_size f1_size f5_keptSize f5_aheadSize f0_solved f4_blockCount f4_blockLength f4_lastIsFree f4_stale ai al w0 w1 w2 w3) sz)) 0 0 (va_A (WX cI cJ cII cJJ ad f3_unknowns f3_equations f2_roundSupports f2_stale f7_size f1_size f5_keptSize f5_aheadSize f0_solved f4_blockCount f4_blockLength f4_lastIsFree f4_stale ai al w0 w1 w2 w3) sz) := by
  refine SM.of (y := yX1_impose) (maxL := 4) (av := [.ref (ad 14), .ref (ad 21)]) (Q_m134_X1_impose dC dI cI cJ cII cJJ ad f3_unknowns f3_equations f2_roundSupports f2_stale f7_size f5_keptSize f5_aheadSize f0_solved f4_blockCount f4_blockLength f4_lastIsFree f4_stale ai al) (by decide +kernel) (Nat.le_of_ble_eq_true rfl) (fun p e s m below meth c A ls hx hb hr hml hown hts hk hnm hA hK hP hD hS hX hl => ?_)
  have C : Cx p c s m meth (([.ref (ad 14), .ref (ad 21)] : List Value).toArray) A dC dI (TY cI cJ cII cJJ) cX1_impose none 4 RX1 1 g := ⟨hx, hb, hr, hml, hown, hts, hk, hA, hK, hX⟩
  have hown : s.vm.findClass RX1 = some m.cls := hown
  have hl : lv_has ls 4 [(0, .ref (ad 14)), (1, .ref (ad 21))] := hl
  obtain ⟨H, hH⟩ : ∃ q, q = s.heap := ⟨_, rfl⟩
  rw [← hH] at hP
  have hS : va_S A s.heap H [] := by rw [hH]; exact hS
  rw [← hH]
  have hG := FL_refl [16, 17, 18, 19, 20] al
  refine lv_iconst (v := 0) hx hb dX1_impose_0 (by decide) ?_
  refine lv_istore_n (lv' := [(2, .int 0), (0, .ref (ad 14)), (1, .ref (ad 21))]) hx hb dX1_impose_1 rfl hl (by decide) rfl (fun ls_1 hl_1 => ?_)
  exact m134_X1_impose_b2 C  _ 0 f1_size al w0 w1 w2 w3 _ _ _ (by first | omega | decide | (have ka0 := (by decide +kernel : (0 : Int32).toInt = 0); omega)) (by first | omega | decide | (have ka0 := (by decide +kernel : (0 : Int32).toInt = 0); omega)) (by first | omega | decide | (have ka0 := (by decide +kernel : (0 : Int32).toInt = 0); omega)) (by first | omega | decide | (have ka0 := (by decide +kernel : (0 : Int32).toInt = 0); omega)) (by first | omega | decide | (have ka0 := (by decide +kernel : (0 : Int32).toInt = 0); omega)) (by first | omega | decide | (have ka0 := (by decide +kernel : (0 : Int32).toInt = 0); omega)) (by first | omega | decide | (have ka0 := (by decide +kernel : (0 : Int32).toInt = 0); omega)) (by first | omega | decide | (have ka0 := (by decide +kernel : (0 : Int32).toInt = 0); omega)) (by first | omega | decide | (have ka0 := (by decide +kernel : (0 : Int32).toInt = 0); omega)) (by first | omega | decide | (have ka0 := (by decide +kernel : (0 : Int32).toInt = 0); omega)) (by first | omega | decide | (have ka0 := (by decide +kernel : (0 : Int32).toInt = 0); omega)) (by first | omega | decide | (have ka0 := (by decide +kernel : (0 : Int32).toInt = 0); omega)) (j_fuel _) (by omega) hI hG hw_w0 hw_w1 hw_w2 hw_w3 hP hD hS (lv_sub hl_1 [1, 2, 0] rfl)
def Q_m135_J7_fill_53178 (dC : Nat → ClassId) (dI : Nat → Nat → Nat) (cI cJ cII cJJ : ClassId) (ad : Nat → Nat) (f3_unknowns f3_equations f2_roundSupports f2_stale f7_size f1_size f5_keptSize f5_aheadSize f0_solved f4_blockCount f4_blockLength f4_lastIsFree f4_stale : Int32) (ai0 : Nat → Nat → Int32) (al : Nat → Nat → Int64) (w0 w1 w2 w3 : Nat) : (Nat → Prop) → Array Value → State → Outcome → State → Prop := fun A => QV (fun t => ∃ (n_ai : Nat → Nat → Int32), (IAX n_ai ∧ FR [21] ai0 n_ai) ∧ WO dC dI (TY cI cJ cII cJJ) (WX cI cJ cII cJJ ad f3_unknowns f3_equations f2_roundSupports f2_stale f7_size f1_size f5_keptSize f5_aheadSize f0_solved f4_blockCount f4_blockLength f4_lastIsFree f4_stale n_ai al w0 w1 w2 w3) A t) A
set_option maxRecDepth 100000 in
set_option maxHeartbeats 4000000 in
theorem m135_J7_fill_53178_b5 {p : Program} {l : Launch} {e : Env} {s : State} {m : MethodId} {args : Array Value} {below : List Frame} {meth : Method} {c : Code} {A : Nat → Prop} {dC : Nat → ClassId} {dI : Nat → Nat → Nat} {cI cJ cII cJJ : ClassId} {ad : Nat → Nat} {g : Nat} {f3_unknowns f3_equations f2_roundSupports f2_stale f7_size f1_size f5_keptSize f5_aheadSize f0_solved f4_blockCount f4_blockLength f4_lastIsFree f4_stale : Int32} {ai0 : Nat → Nat → Int32} {al : Nat → Nat → Int64} {w0 w1 w2 w3 : Nat} (C : Cx p c s m meth args A dC dI (TY cI cJ cII cJJ) cJ7_fill_53178 none 4 RJ7 0 g) : ∀ (n : Nat), ∀ (L2 : Int32) (ai : Nat → Nat → Int32) (H : Heap) (locs : List Loc) (ls : Array Slot), (0 ≤ L2.toInt ∧ L2.toInt ≤ 4) → (1 ≤ f3_unknowns.toInt ∧ f3_unknowns.toInt ≤ 4) → (0 ≤ f3_equations.toInt ∧ f3_equations.toInt ≤ 3) → (0 ≤ f2_stale.toInt ∧ f2_stale.toInt ≤ 1) → (0 ≤ f7_size.toInt ∧ f7_size.toInt ≤ 256) → (0 ≤ f1_size.toInt ∧ f1_size.toInt ≤ 4) → (0 ≤ f5_keptSize.toInt ∧ f5_keptSize.toInt ≤ 128) → (0 ≤ f5_aheadSize.toInt ∧ f5_aheadSize.toInt ≤ 128) → (0 ≤ f4_blockCount.toInt ∧ f4_blockCount.toInt ≤ 9261) → (0 ≤ f4_blockLength.toInt ∧ f4_blockLength.toInt ≤ 21) → (0 ≤ f4_lastIsFree.toInt ∧ f4_lastIsFree.toInt ≤ 1) → (0 ≤ f4_stale.toInt ∧ f4_stale.toInt ≤ 1) → 4 - L2.toInt < (n : Int) → (0 : Int) < (n : Int) → IAX ai → FR [21] ai0 ai → RWX ad w0 → RWX ad w1 → RWX ad w2 → RWX ad w3 → va_P (dC, dI) vwCl (WX cI cJ cII cJJ ad f3_unknowns f3_equations f2_roundSupports f2_stale f7_size f1_size f5_keptSize f5_aheadSize f0_solved f4_blockCount f4_blockLength f4_lastIsFree f4_stale ai al w0 w1 w2 w3) H → va_D A (WX cI cJ cII cJJ ad f3_unknowns f3_equations f2_roundSupports f2_stale f7_size f1_size f5_keptSize f5_aheadSize f0_solved f4_blockCount f4_blockLength f4_lastIsFree f4_stale ai al w0 w1 w2 w3) → va_S A s.heap H locs → lv_has ls 4 [(0, .ref (ad 21)), (1, .int 0), (2, .int L2), (3, .int 4)] → W p l e ({ frames := 2, cells := 0, slots := 0, locals := 80 } : Room) s m args below meth c H locs 0 0 (MQ below (Q_m135_J7_fill_53178 dC dI cI cJ cII cJJ ad f3_unknowns f3_equations f2_roundSupports f2_stale f7_size f1_size f5_keptSize f5_aheadSize f0_solved f4_blockCount f4_blockLength f4_lastIsFree f4_stale ai0 al w0 w1 w2 w3 A) args s 0 0 A) (F0 m 5 ls []) := by
  obtain ⟨hx, hb, hr, hml, hown, hts, hk, hA, hK, hX⟩ := id C
  intro n
  induction n with
  | zero =>
    intro L2 ai H locs ls h0 h1 h2 h3 h4 h5 h6 h7 h8 h9 h10 h11 h12 h13 hI hF hw_w0 hw_w1 hw_w2 hw_w3 hP hD hS hl
    exact absurd h13 (by omega)
  | succ n ih =>
    intro L2 ai H locs ls h0 h1 h2 h3 h4 h5 h6 h7 h8 h9 h10 h11 h12 h13 hI hF hw_w0 hw_w1 hw_w2 hw_w3 hP hD hS hl
    refine lv_iload_n hx hb dJ7_fill_53178_5 rfl (lv_at hl 2 rfl) ?_
    refine lv_iload_n hx hb dJ7_fill_53178_6 rfl (lv_at hl 3 rfl) ?_
    refine lv_icmp_ge (tgt := 20) hx hb dJ7_fill_53178_7 (by decide) (fun c1 => ?_) (fun c1 => ?_)
    · have c1 := j_le (a := 4) (b := L2.toInt) (by decide +kernel) rfl c1
      exact r2_v hx hb hr hk hS dJ7_fill_53178_20 (fun t ht hW => ⟨ai, ⟨hI, hF⟩, by rw [ht]; exact hP, va_K.moved hW.alike hK, hD⟩)
    · have c1 := j_nle (a := 4) (b := L2.toInt) (by decide +kernel) rfl c1
      refine lv_aload_n hx hb dJ7_fill_53178_10 rfl (lv_at hl 0 rfl) ?_
      refine lv_iload_n hx hb dJ7_fill_53178_11 rfl (lv_at hl 2 rfl) ?_
      refine lv_iload_n hx hb dJ7_fill_53178_12 rfl (lv_at hl 1 rfl) ?_
      refine va_iast hx hb hK hP hD hS 21 0 rfl rfl (j_in (a := L2.toInt) rfl (by omega) (by omega)) dJ7_fill_53178_13 (fun H_1 locs_1 hP_1 hD_1 hS_1 => ?_)
      obtain ⟨ai2, e_ai2⟩ : ∃ q : Nat → Nat → Int32, q = va_up ai 21 (upd (ai 21) L2.toNatClampNeg 0) := ⟨_, rfl⟩
      have hF_2 := FR_st hF e_ai2 (by decide)
      have hI_3 : IAX ai2 := by rw [e_ai2]; exact hI
      have hP_4 : va_P (dC, dI) vwCl (WX cI cJ cII cJJ ad f3_unknowns f3_equations f2_roundSupports f2_stale f7_size f1_size f5_keptSize f5_aheadSize f0_solved f4_blockCount f4_blockLength f4_lastIsFree f4_stale ai2 al w0 w1 w2 w3) H_1 := by rw [e_ai2]; exact hP_1
      have hD_5 : va_D A (WX cI cJ cII cJJ ad f3_unknowns f3_equations f2_roundSupports f2_stale f7_size f1_size f5_keptSize f5_aheadSize f0_solved f4_blockCount f4_blockLength f4_lastIsFree f4_stale ai2 al w0 w1 w2 w3) := by rw [e_ai2]; exact hD_1
      obtain ⟨z3, e_z3⟩ : ∃ q : Int32, q = L2 + Int32.ofInt 1 := ⟨_, rfl⟩
      have g_z3 : z3.toInt = L2.toInt + 1 := by rw [e_z3]; exact n_add (a := L2.toInt) (b := 1) rfl (by decide +kernel) (by omega) (by omega)
      refine lv_iinc (v := z3) (lv' := [(2, .int z3), (0, .ref (ad 21)), (1, .int 0), (3, .int 4)]) hx hb dJ7_fill_53178_14 hl (k := 2) rfl e_z3.symm (by decide) rfl (fun ls_6 hl_6 => ?_)
      refine lv_goto (tgt := 5) hx hb dJ7_fill_53178_17 (by decide) ?_
      exact ih z3 ai2 _ _ _ (by omega) (by omega) (by omega) (by omega) (by omega) (by omega) (by omega) (by omega) (by omega) (by omega) (by omega) (by omega) (by omega) (by omega) hI_3 hF_2 hw_w0 hw_w1 hw_w2 hw_w3 hP_4 hD_5 hS_1 (lv_sub hl_6 [1, 2, 0, 3] rfl)
set_option maxRecDepth 100000 in
set_option maxHeartbeats 4000000 in
theorem m135_J7_fill_53178 (l : Launch) (dC : Nat → ClassId) (dI : Nat → Nat → Nat) (cI cJ cII cJJ : ClassId) (sz g : Nat) (ad : Nat → Nat) (f3_unknowns f3_equations f2_roundSupports f2_stale f7_size f1_size f5_keptSize f5_aheadSize f0_solved f4_blockCount f4_blockLength f4_lastIsFree f4_stale : Int32) (ai : Nat → Nat → Int32) (al : Nat → Nat → Int64) (w0 w1 w2 w3 : Nat) (h_f3_unknowns : (1 ≤ f3_unknowns.toInt ∧ f3_unknowns.toInt ≤ 4)) (h_f3_equations : (0 ≤ f3_equations.toInt ∧ f3_equations.toInt ≤ 3)) (h_f2_stale : (0 ≤ f2_stale.toInt ∧ f2_stale.toInt ≤ 1)) (h_f7_size : (0 ≤ f7_size.toInt ∧ f7_size.toInt ≤ 256)) (h_f1_size : (0 ≤ f1_size.toInt ∧ f1_size.toInt ≤ 4)) (h_f5_keptSize : (0 ≤ f5_keptSize.toInt ∧ f5_keptSize.toInt ≤ 128)) (h_f5_aheadSize : (0 ≤ f5_aheadSize.toInt ∧ f5_aheadSize.toInt ≤ 128)) (h_f4_blockCount : (0 ≤ f4_blockCount.toInt ∧ f4_blockCount.toInt ≤ 9261)) (h_f4_blockLength : (0 ≤ f4_blockLength.toInt ∧ f4_blockLength.toInt ≤ 21)) (h_f4_lastIsFree : (0 ≤ f4_lastIsFree.toInt ∧ f4_lastIsFree.toInt ≤ 1)) (h_f4_stale : (0 ≤ f4_stale.toInt ∧ f4_stale.toInt ≤ 1)) (hI : IAX ai) (hw_w0 : RWX ad w0) (hw_w1 : RWX ad w1) (hw_w2 : RWX ad w2) (hw_w3 : RWX ad w3) : Met l yJ7_fill_53178 (.code yJ7_fill_53178 cJ7_fill_53178 4 none :: TT) ({ frames := 2, cells := 0, slots := 0, locals := 80 } : Room) (PcS dC dI (TY cI cJ cII cJJ) [.ref (ad 21), .int 0] (WX cI cJ cII cJJ ad f3_unknowns f3_equations f2_roundSupports f2_stale f7_size f1_size f5_keptSize f5_aheadSize f0_solved f4_blockCount f4_blockLength f4_lastIsFree f4_stale ai al w0 w1 w2 w3) sz 0 g) (Q_m135_J7_fill_53178 dC dI cI cJ cII cJJ ad f3_unknowns f3_equations f2_roundSupports f2_stale f7_size f1_size f5_keptSize f5_aheadSize f0_solved f4_blockCount f4_blockLength f4_lastIsFree f4_stale ai al w0 w1 w2 w3 (va_A (WX cI cJ cII cJJ ad f3_unknowns f3_equations f2_roundSupports f2_stale f7_size f1_size f5_keptSize f5_aheadSize f0_solved f4_blockCount f4_blockLength f4_lastIsFree f4_stale ai al w0 w1 w2 w3) sz)) 0 0 (va_A (WX cI cJ cII cJJ ad f3_unknowns f3_equations f2_roundSupports f2_stale f7_size f1_size f5_keptSize f5_aheadSize f0_solved f4_blockCount f4_blockLength f4_lastIsFree f4_stale ai al w0 w1 w2 w3) sz) := by
  refine SM.of (y := yJ7_fill_53178) (maxL := 4) (av := [.ref (ad 21), .int 0]) (Q_m135_J7_fill_53178 dC dI cI cJ cII cJJ ad f3_unknowns f3_equations f2_roundSupports f2_stale f7_size f1_size f5_keptSize f5_aheadSize f0_solved f4_blockCount f4_blockLength f4_lastIsFree f4_stale ai al w0 w1 w2 w3) (by decide +kernel) (Nat.le_of_ble_eq_true rfl) (fun p e s m below meth c A ls hx hb hr hml hown hts hk hnm hA hK hP hD hS hX hl => ?_)
  have C : Cx p c s m meth (([.ref (ad 21), .int 0] : List Value).toArray) A dC dI (TY cI cJ cII cJJ) cJ7_fill_53178 none 4 RJ7 0 g := ⟨hx, hb, hr, hml, hown, hts, hk, hA, hK, hX⟩
  have hown : s.vm.findClass RJ7 = some m.cls := hown
  have hl : lv_has ls 4 [(0, .ref (ad 21)), (1, .int 0)] := hl
  obtain ⟨H, hH⟩ : ∃ q, q = s.heap := ⟨_, rfl⟩
  rw [← hH] at hP
  have hS : va_S A s.heap H [] := by rw [hH]; exact hS
  rw [← hH]
  have hF := FR_refl [21] ai
  refine lv_iconst (v := 0) hx hb dJ7_fill_53178_0 (by decide) ?_
  refine lv_istore_n (lv' := [(2, .int 0), (0, .ref (ad 21)), (1, .int 0)]) hx hb dJ7_fill_53178_1 rfl hl (by decide) rfl (fun ls_1 hl_1 => ?_)
  refine lv_aload_n hx hb dJ7_fill_53178_2 rfl (lv_at hl_1 1 rfl) ?_
  refine al_ hx hb hK hP 21 0 rfl rfl dJ7_fill_53178_3 4 rfl ?_
  refine lv_istore_n (lv' := [(3, .int 4), (2, .int 0), (0, .ref (ad 21)), (1, .int 0)]) hx hb dJ7_fill_53178_4 rfl hl_1 (by decide) rfl (fun ls_2 hl_2 => ?_)
  exact m135_J7_fill_53178_b5 C  _ 0 ai _ _ _ (by first | omega | decide | (have ka0 := (by decide +kernel : (0 : Int32).toInt = 0); omega)) (by first | omega | decide | (have ka0 := (by decide +kernel : (0 : Int32).toInt = 0); omega)) (by first | omega | decide | (have ka0 := (by decide +kernel : (0 : Int32).toInt = 0); omega)) (by first | omega | decide | (have ka0 := (by decide +kernel : (0 : Int32).toInt = 0); omega)) (by first | omega | decide | (have ka0 := (by decide +kernel : (0 : Int32).toInt = 0); omega)) (by first | omega | decide | (have ka0 := (by decide +kernel : (0 : Int32).toInt = 0); omega)) (by first | omega | decide | (have ka0 := (by decide +kernel : (0 : Int32).toInt = 0); omega)) (by first | omega | decide | (have ka0 := (by decide +kernel : (0 : Int32).toInt = 0); omega)) (by first | omega | decide | (have ka0 := (by decide +kernel : (0 : Int32).toInt = 0); omega)) (by first | omega | decide | (have ka0 := (by decide +kernel : (0 : Int32).toInt = 0); omega)) (by first | omega | decide | (have ka0 := (by decide +kernel : (0 : Int32).toInt = 0); omega)) (by first | omega | decide | (have ka0 := (by decide +kernel : (0 : Int32).toInt = 0); omega)) (j_fuel _) (by omega) hI hF hw_w0 hw_w1 hw_w2 hw_w3 hP hD hS (lv_sub hl_2 [2, 3, 1, 0] rfl)
def Q_m136_J9_floorDiv_f86c9 (dC : Nat → ClassId) (dI : Nat → Nat → Nat) (cI cJ cII cJJ : ClassId) (ad : Nat → Nat) (f3_unknowns f3_equations f2_roundSupports f2_stale f7_size f1_size f5_keptSize f5_aheadSize f0_solved f4_blockCount f4_blockLength f4_lastIsFree f4_stale : Int32) (ai : Nat → Nat → Int32) (al : Nat → Nat → Int64) (w0 w1 w2 w3 : Nat) : (Nat → Prop) → Array Value → State → Outcome → State → Prop := fun A => QL (fun r t => (True) ∧ WO dC dI (TY cI cJ cII cJJ) (WX cI cJ cII cJJ ad f3_unknowns f3_equations f2_roundSupports f2_stale f7_size f1_size f5_keptSize f5_aheadSize f0_solved f4_blockCount f4_blockLength f4_lastIsFree f4_stale ai al w0 w1 w2 w3) A t) A
set_option maxRecDepth 100000 in
set_option maxHeartbeats 4000000 in
theorem m136_J9_floorDiv_f86c9_b27 {p : Program} {l : Launch} {e : Env} {s : State} {m : MethodId} {args : Array Value} {below : List Frame} {meth : Method} {c : Code} {A : Nat → Prop} {dC : Nat → ClassId} {dI : Nat → Nat → Nat} {cI cJ cII cJJ : ClassId} {ad : Nat → Nat} {g : Nat} {f3_unknowns f3_equations f2_roundSupports f2_stale f7_size f1_size f5_keptSize f5_aheadSize f0_solved f4_blockCount f4_blockLength f4_lastIsFree f4_stale : Int32} {ai : Nat → Nat → Int32} {al : Nat → Nat → Int64} {w0 w1 w2 w3 : Nat} (C : Cx p c s m meth args A dC dI (TY cI cJ cII cJJ) cJ9_floorDiv_f86c9 (some .long) 6 RJ9 0 g) : ∀ (J0 J2 J4 : Int64) (H : Heap) (locs : List Loc) (ls : Array Slot), (1 ≤ f3_unknowns.toInt ∧ f3_unknowns.toInt ≤ 4) → (0 ≤ f3_equations.toInt ∧ f3_equations.toInt ≤ 3) → (0 ≤ f2_stale.toInt ∧ f2_stale.toInt ≤ 1) → (0 ≤ f7_size.toInt ∧ f7_size.toInt ≤ 256) → (0 ≤ f1_size.toInt ∧ f1_size.toInt ≤ 4) → (0 ≤ f5_keptSize.toInt ∧ f5_keptSize.toInt ≤ 128) → (0 ≤ f5_aheadSize.toInt ∧ f5_aheadSize.toInt ≤ 128) → (0 ≤ f4_blockCount.toInt ∧ f4_blockCount.toInt ≤ 9261) → (0 ≤ f4_blockLength.toInt ∧ f4_blockLength.toInt ≤ 21) → (0 ≤ f4_lastIsFree.toInt ∧ f4_lastIsFree.toInt ≤ 1) → (0 ≤ f4_stale.toInt ∧ f4_stale.toInt ≤ 1) → IAX ai → RWX ad w0 → RWX ad w1 → RWX ad w2 → RWX ad w3 → va_P (dC, dI) vwCl (WX cI cJ cII cJJ ad f3_unknowns f3_equations f2_roundSupports f2_stale f7_size f1_size f5_keptSize f5_aheadSize f0_solved f4_blockCount f4_blockLength f4_lastIsFree f4_stale ai al w0 w1 w2 w3) H → va_D A (WX cI cJ cII cJJ ad f3_unknowns f3_equations f2_roundSupports f2_stale f7_size f1_size f5_keptSize f5_aheadSize f0_solved f4_blockCount f4_blockLength f4_lastIsFree f4_stale ai al w0 w1 w2 w3) → va_S A s.heap H locs → lv_has ls 6 [(0, .long J0), (2, .long J2), (4, .long J4)] → W p l e ({ frames := 2, cells := 0, slots := 0, locals := 80 } : Room) s m args below meth c H locs 0 0 (MQ below (Q_m136_J9_floorDiv_f86c9 dC dI cI cJ cII cJJ ad f3_unknowns f3_equations f2_roundSupports f2_stale f7_size f1_size f5_keptSize f5_aheadSize f0_solved f4_blockCount f4_blockLength f4_lastIsFree f4_stale ai al w0 w1 w2 w3 A) args s 0 0 A) (F0 m 27 ls []) := by
  obtain ⟨hx, hb, hr, hml, hown, hts, hk, hA, hK, hX⟩ := id C
  intro J0 J2 J4 H locs ls h0 h1 h2 h3 h4 h5 h6 h7 h8 h9 h10 hI hw_w0 hw_w1 hw_w2 hw_w3 hP hD hS hl
  refine lv_lload hx hb dJ9_floorDiv_f86c9_27 (lv_at hl 2 rfl) ?_
  exact r2_l hx hb hr hk hS dJ9_floorDiv_f86c9_29 (fun t ht hW => ⟨trivial, by rw [ht]; exact hP, va_K.moved hW.alike hK, hD⟩)
set_option maxRecDepth 100000 in
set_option maxHeartbeats 4000000 in
theorem m136_J9_floorDiv_f86c9 (l : Launch) (dC : Nat → ClassId) (dI : Nat → Nat → Nat) (cI cJ cII cJJ : ClassId) (sz g : Nat) (ad : Nat → Nat) (f3_unknowns f3_equations f2_roundSupports f2_stale f7_size f1_size f5_keptSize f5_aheadSize f0_solved f4_blockCount f4_blockLength f4_lastIsFree f4_stale : Int32) (ai : Nat → Nat → Int32) (al : Nat → Nat → Int64) (w0 w1 w2 w3 : Nat) (y0 : Int64) (y1 : Int64) (h_f3_unknowns : (1 ≤ f3_unknowns.toInt ∧ f3_unknowns.toInt ≤ 4)) (h_f3_equations : (0 ≤ f3_equations.toInt ∧ f3_equations.toInt ≤ 3)) (h_f2_stale : (0 ≤ f2_stale.toInt ∧ f2_stale.toInt ≤ 1)) (h_f7_size : (0 ≤ f7_size.toInt ∧ f7_size.toInt ≤ 256)) (h_f1_size : (0 ≤ f1_size.toInt ∧ f1_size.toInt ≤ 4)) (h_f5_keptSize : (0 ≤ f5_keptSize.toInt ∧ f5_keptSize.toInt ≤ 128)) (h_f5_aheadSize : (0 ≤ f5_aheadSize.toInt ∧ f5_aheadSize.toInt ≤ 128)) (h_f4_blockCount : (0 ≤ f4_blockCount.toInt ∧ f4_blockCount.toInt ≤ 9261)) (h_f4_blockLength : (0 ≤ f4_blockLength.toInt ∧ f4_blockLength.toInt ≤ 21)) (h_f4_lastIsFree : (0 ≤ f4_lastIsFree.toInt ∧ f4_lastIsFree.toInt ≤ 1)) (h_f4_stale : (0 ≤ f4_stale.toInt ∧ f4_stale.toInt ≤ 1)) (hp0 : ¬ y1 = 0) (hI : IAX ai) (hw_w0 : RWX ad w0) (hw_w1 : RWX ad w1) (hw_w2 : RWX ad w2) (hw_w3 : RWX ad w3) : Met l yJ9_floorDiv_f86c9 (.code yJ9_floorDiv_f86c9 cJ9_floorDiv_f86c9 6 (some .long) :: TT) ({ frames := 2, cells := 0, slots := 0, locals := 80 } : Room) (PcS dC dI (TY cI cJ cII cJJ) [.long y0, .long y1] (WX cI cJ cII cJJ ad f3_unknowns f3_equations f2_roundSupports f2_stale f7_size f1_size f5_keptSize f5_aheadSize f0_solved f4_blockCount f4_blockLength f4_lastIsFree f4_stale ai al w0 w1 w2 w3) sz 0 g) (Q_m136_J9_floorDiv_f86c9 dC dI cI cJ cII cJJ ad f3_unknowns f3_equations f2_roundSupports f2_stale f7_size f1_size f5_keptSize f5_aheadSize f0_solved f4_blockCount f4_blockLength f4_lastIsFree f4_stale ai al w0 w1 w2 w3 (va_A (WX cI cJ cII cJJ ad f3_unknowns f3_equations f2_roundSupports f2_stale f7_size f1_size f5_keptSize f5_aheadSize f0_solved f4_blockCount f4_blockLength f4_lastIsFree f4_stale ai al w0 w1 w2 w3) sz)) 0 0 (va_A (WX cI cJ cII cJJ ad f3_unknowns f3_equations f2_roundSupports f2_stale f7_size f1_size f5_keptSize f5_aheadSize f0_solved f4_blockCount f4_blockLength f4_lastIsFree f4_stale ai al w0 w1 w2 w3) sz) := by
  refine SM.of (y := yJ9_floorDiv_f86c9) (maxL := 6) (av := [.long y0, .long y1]) (Q_m136_J9_floorDiv_f86c9 dC dI cI cJ cII cJJ ad f3_unknowns f3_equations f2_roundSupports f2_stale f7_size f1_size f5_keptSize f5_aheadSize f0_solved f4_blockCount f4_blockLength f4_lastIsFree f4_stale ai al w0 w1 w2 w3) (by decide +kernel) (Nat.le_of_ble_eq_true rfl) (fun p e s m below meth c A ls hx hb hr hml hown hts hk hnm hA hK hP hD hS hX hl => ?_)
  have C : Cx p c s m meth (([.long y0, .long y1] : List Value).toArray) A dC dI (TY cI cJ cII cJJ) cJ9_floorDiv_f86c9 (some .long) 6 RJ9 0 g := ⟨hx, hb, hr, hml, hown, hts, hk, hA, hK, hX⟩
  have hown : s.vm.findClass RJ9 = some m.cls := hown
  have hl : lv_has ls 6 [(0, .long y0), (2, .long y1)] := hl
  obtain ⟨H, hH⟩ : ∃ q, q = s.heap := ⟨_, rfl⟩
  rw [← hH] at hP
  have hS : va_S A s.heap H [] := by rw [hH]; exact hS
  rw [← hH]
  refine lv_lload_n hx hb dJ9_floorDiv_f86c9_0 rfl (lv_at hl 0 rfl) ?_
  refine lv_lload_n hx hb dJ9_floorDiv_f86c9_1 rfl (lv_at hl 1 rfl) ?_
  refine v_ldiv hx hb dJ9_floorDiv_f86c9_2 hp0 _ rfl ?_
  refine lv_topl (fun yy1 e_yy1 => ?_)
  refine lv_lstore (lv' := [(4, .long yy1), (0, .long y0), (2, .long y1)]) hx hb dJ9_floorDiv_f86c9_3 hl (by decide) rfl (fun ls_1 hl_1 => ?_)
  refine lv_lload_n hx hb dJ9_floorDiv_f86c9_5 rfl (lv_at hl_1 1 rfl) ?_
  refine lv_lload_n hx hb dJ9_floorDiv_f86c9_6 rfl (lv_at hl_1 2 rfl) ?_
  refine lv_lxor hx hb dJ9_floorDiv_f86c9_7 ?_
  refine lv_topl (fun yy2 e_yy2 => ?_)
  refine lv_lconst (v := 0) hx hb dJ9_floorDiv_f86c9_8 (by decide) ?_
  refine v_lcmp hx hb dJ9_floorDiv_f86c9_9 _ rfl ?_
  refine lv_topi (fun z3 e_z3 => ?_)
  refine lv_if_ge (tgt := 27) hx hb dJ9_floorDiv_f86c9_10 (by decide) (fun c4 => ?_) (fun c4 => ?_)
  · have c4 := j_le (a := 0) (b := z3.toInt) (by decide +kernel) rfl c4
    exact m136_J9_floorDiv_f86c9_b27 C  y0 y1 yy1 _ _ _ (by omega) (by omega) (by omega) (by omega) (by omega) (by omega) (by omega) (by omega) (by omega) (by omega) (by omega) hI hw_w0 hw_w1 hw_w2 hw_w3 hP hD hS (lv_sub hl_1 [1, 2, 0] rfl)
  · have c4 := j_nle (a := 0) (b := z3.toInt) (by decide +kernel) rfl c4
    refine lv_lload hx hb dJ9_floorDiv_f86c9_13 (lv_at hl_1 0 rfl) ?_
    refine lv_lload_n hx hb dJ9_floorDiv_f86c9_15 rfl (lv_at hl_1 2 rfl) ?_
    refine v_lmul hx hb dJ9_floorDiv_f86c9_16 _ rfl ?_
    refine lv_topl (fun yy5 e_yy5 => ?_)
    refine lv_lload_n hx hb dJ9_floorDiv_f86c9_17 rfl (lv_at hl_1 1 rfl) ?_
    refine v_lcmp hx hb dJ9_floorDiv_f86c9_18 _ rfl ?_
    refine lv_topi (fun z6 e_z6 => ?_)
    refine lv_if_eq (tgt := 27) hx hb dJ9_floorDiv_f86c9_19 (by decide) (fun c7 => ?_) (fun c7 => ?_)
    · have c7 := j_eq (a := z6.toInt) (b := 0) rfl (by decide +kernel) c7
      exact m136_J9_floorDiv_f86c9_b27 C  y0 y1 yy1 _ _ _ (by omega) (by omega) (by omega) (by omega) (by omega) (by omega) (by omega) (by omega) (by omega) (by omega) (by omega) hI hw_w0 hw_w1 hw_w2 hw_w3 hP hD hS (lv_sub hl_1 [1, 2, 0] rfl)
    · have c7 := j_ne (a := z6.toInt) (b := 0) rfl (by decide +kernel) c7
      refine lv_lload hx hb dJ9_floorDiv_f86c9_22 (lv_at hl_1 0 rfl) ?_
      refine lv_lconst (v := 1) hx hb dJ9_floorDiv_f86c9_24 (by decide) ?_
      refine v_lsub hx hb dJ9_floorDiv_f86c9_25 _ rfl ?_
      refine lv_topl (fun yy8 e_yy8 => ?_)
      exact r2_l hx hb hr hk hS dJ9_floorDiv_f86c9_26 (fun t ht hW => ⟨trivial, by rw [ht]; exact hP, va_K.moved hW.alike hK, hD⟩)
def Q_m137_X1_straighten (dC : Nat → ClassId) (dI : Nat → Nat → Nat) (cI cJ cII cJJ : ClassId) (ad : Nat → Nat) (f3_unknowns f3_equations f2_roundSupports f2_stale f7_size f5_keptSize f5_aheadSize f0_solved f4_blockCount f4_blockLength f4_lastIsFree f4_stale : Int32) (ai0 : Nat → Nat → Int32) (al0 : Nat → Nat → Int64) : (Nat → Prop) → Array Value → State → Outcome → State → Prop := fun A => QV (fun t => ∃ (n_f1_size : Int32), ∃ (n_ai : Nat → Nat → Int32), ∃ (n_al : Nat → Nat → Int64), ∃ (n_w0 n_w1 n_w2 n_w3 : Nat), ((0 ≤ n_f1_size.toInt ∧ n_f1_size.toInt ≤ 4) ∧ IAX n_ai ∧ FR [21] ai0 n_ai ∧ FL [16, 17, 18, 19, 20] al0 n_al ∧ RWX ad n_w0 ∧ RWX ad n_w1 ∧ RWX ad n_w2 ∧ RWX ad n_w3) ∧ WO dC dI (TY cI cJ cII cJJ) (WX cI cJ cII cJJ ad f3_unknowns f3_equations f2_roundSupports f2_stale f7_size n_f1_size f5_keptSize f5_aheadSize f0_solved f4_blockCount f4_blockLength f4_lastIsFree f4_stale n_ai n_al n_w0 n_w1 n_w2 n_w3) A t) A
set_option maxRecDepth 100000 in
set_option maxHeartbeats 4000000 in
theorem m137_X1_straighten_b46 {p : Program} {l : Launch} {e : Env} {s : State} {m : MethodId} {args : Array Value} {below : List Frame} {meth : Method} {c : Code} {A : Nat → Prop} {dC : Nat → ClassId} {dI : Nat → Nat → Nat} {cI cJ cII cJJ : ClassId} {ad : Nat → Nat} {g : Nat} {f3_unknowns f3_equations f2_roundSupports f2_stale f7_size f5_keptSize f5_aheadSize f0_solved f4_blockCount f4_blockLength f4_lastIsFree f4_stale : Int32} {ai0 : Nat → Nat → Int32} {al0 : Nat → Nat → Int64} (C : Cx p c s m meth args A dC dI (TY cI cJ cII cJJ) cX1_straighten none 2 RX1 1 g) : ∀ (n : Nat), ∀ (L1 f1_size : Int32) (ai : Nat → Nat → Int32) (al : Nat → Nat → Int64) (w0 w1 w2 w3 : Nat) (H : Heap) (locs : List Loc) (ls : Array Slot), (0 ≤ L1.toInt ∧ L1.toInt ≤ 4) → (1 ≤ f3_unknowns.toInt ∧ f3_unknowns.toInt ≤ 4) → (0 ≤ f3_equations.toInt ∧ f3_equations.toInt ≤ 3) → (0 ≤ f2_stale.toInt ∧ f2_stale.toInt ≤ 1) → (0 ≤ f7_size.toInt ∧ f7_size.toInt ≤ 256) → (0 ≤ f1_size.toInt ∧ f1_size.toInt ≤ 4) → (0 ≤ f5_keptSize.toInt ∧ f5_keptSize.toInt ≤ 128) → (0 ≤ f5_aheadSize.toInt ∧ f5_aheadSize.toInt ≤ 128) → (0 ≤ f4_blockCount.toInt ∧ f4_blockCount.toInt ≤ 9261) → (0 ≤ f4_blockLength.toInt ∧ f4_blockLength.toInt ≤ 21) → (0 ≤ f4_lastIsFree.toInt ∧ f4_lastIsFree.toInt ≤ 1) → (0 ≤ f4_stale.toInt ∧ f4_stale.toInt ≤ 1) → 4 - L1.toInt < (n : Int) → (0 : Int) < (n : Int) → IAX ai → FR [21] ai0 ai → FL [16, 17, 18, 19, 20] al0 al → RWX ad w0 → RWX ad w1 → RWX ad w2 → RWX ad w3 → va_P (dC, dI) vwCl (WX cI cJ cII cJJ ad f3_unknowns f3_equations f2_roundSupports f2_stale f7_size f1_size f5_keptSize f5_aheadSize f0_solved f4_blockCount f4_blockLength f4_lastIsFree f4_stale ai al w0 w1 w2 w3) H → va_D A (WX cI cJ cII cJJ ad f3_unknowns f3_equations f2_roundSupports f2_stale f7_size f1_size f5_keptSize f5_aheadSize f0_solved f4_blockCount f4_blockLength f4_lastIsFree f4_stale ai al w0 w1 w2 w3) → va_S A s.heap H locs → lv_has ls 2 [(0, .ref (ad 14)), (1, .int L1)] → W p l e ({ frames := 5, cells := 0, slots := 0, locals := 260 } : Room) s m args below meth c H locs 0 0 (MQ below (Q_m137_X1_straighten dC dI cI cJ cII cJJ ad f3_unknowns f3_equations f2_roundSupports f2_stale f7_size f5_keptSize f5_aheadSize f0_solved f4_blockCount f4_blockLength f4_lastIsFree f4_stale ai0 al0 A) args s 0 0 A) (F0 m 46 ls []) := by
  obtain ⟨hx, hb, hr, hml, hown, hts, hk, hA, hK, hX⟩ := id C
  intro n
  induction n with
  | zero =>
    intro L1 f1_size ai al w0 w1 w2 w3 H locs ls h0 h1 h2 h3 h4 h5 h6 h7 h8 h9 h10 h11 h12 h13 hI hF hG hw_w0 hw_w1 hw_w2 hw_w3 hP hD hS hl
    exact absurd h13 (by omega)
  | succ n ih =>
    intro L1 f1_size ai al w0 w1 w2 w3 H locs ls h0 h1 h2 h3 h4 h5 h6 h7 h8 h9 h10 h11 h12 h13 hI hF hG hw_w0 hw_w1 hw_w2 hw_w3 hP hD hS hl
    refine lv_iload_n hx hb dX1_straighten_46 rfl (lv_at hl 1 rfl) ?_
    refine lv_iconst (v := 4) hx hb dX1_straighten_47 (by decide) ?_
    refine lv_icmp_ge (tgt := 96) hx hb dX1_straighten_48 (by decide) (fun c1 => ?_) (fun c1 => ?_)
    · have c1 := j_le (a := 4) (b := L1.toInt) (by decide +kernel) rfl c1
      exact r2_v hx hb hr hk hS dX1_straighten_96 (fun t ht hW => ⟨f1_size, ai, al, w0, w1, w2, w3, ⟨(by first | omega | decide | exact Or.inl (by decide) | exact Or.inr (by decide) | exact Or.inr (by omega)), hI, hF, hG, hw_w0, hw_w1, hw_w2, hw_w3⟩, by rw [ht]; exact hP, va_K.moved hW.alike hK, hD⟩)
    · have c1 := j_nle (a := 4) (b := L1.toInt) (by decide +kernel) rfl c1
      refine lv_aload_n hx hb dX1_straighten_51 rfl (lv_at hl 0 rfl) ?_
      refine gf (k := 0) hx hb hts inX1 hown hK hP k_116 rfl (by decide) rfl 14 rfl (.ref (ad 15)) rfl dX1_straighten_52 ?_
      refine lv_iconst (v := 0) hx hb dX1_straighten_55 (by decide) ?_
      rcases hw_w0 with rfl | rfl | rfl | rfl
      · skip
        refine ld_a hx hb hK hP 15 3 rfl rfl (vin (by decide +kernel)) dX1_straighten_56 (ad 16) rfl ?_
        refine lv_iload_n hx hb dX1_straighten_57 rfl (lv_at hl 1 rfl) ?_
        refine va_lald hx hb hK hP 16 1 rfl rfl (j_in (a := L1.toInt) rfl (by omega) (by omega)) dX1_straighten_58 ?_
        refine lv_lconst (v := 0) hx hb dX1_straighten_59 (by decide) ?_
        refine v_lcmp hx hb dX1_straighten_60 _ rfl ?_
        refine lv_topi (fun z2 e_z2 => ?_)
        refine lv_if_eq (tgt := 90) hx hb dX1_straighten_61 (by decide) (fun c3 => ?_) (fun c3 => ?_)
        · have c3 := j_eq (a := z2.toInt) (b := 0) rfl (by decide +kernel) c3
          obtain ⟨z4, e_z4⟩ : ∃ q : Int32, q = L1 + Int32.ofInt 1 := ⟨_, rfl⟩
          have g_z4 : z4.toInt = L1.toInt + 1 := by rw [e_z4]; exact n_add (a := L1.toInt) (b := 1) rfl (by decide +kernel) (by omega) (by omega)
          refine lv_iinc (v := z4) (lv' := [(1, .int z4), (0, .ref (ad 14))]) hx hb dX1_straighten_90 hl (k := 1) rfl e_z4.symm (by decide) rfl (fun ls_1 hl_1 => ?_)
          refine lv_goto (tgt := 46) hx hb dX1_straighten_93 (by decide) ?_
          exact ih z4 f1_size ai al (ad 16) w1 w2 w3 _ _ _ (by omega) (by omega) (by omega) (by omega) (by omega) (by omega) (by omega) (by omega) (by omega) (by omega) (by omega) (by omega) (by omega) (by omega) hI hF hG (RWX_16 ad) hw_w1 hw_w2 hw_w3 hP hD hS (lv_sub hl_1 [1, 0] rfl)
        · have c3 := j_ne (a := z2.toInt) (b := 0) rfl (by decide +kernel) c3
          refine lv_aload_n hx hb dX1_straighten_64 rfl (lv_at hl 0 rfl) ?_
          refine lv_iconst (v := 1) hx hb dX1_straighten_65 (by decide) ?_
          refine lv_iconst (v := 0) hx hb dX1_straighten_66 (by decide) ?_
          refine lv_aload_n hx hb dX1_straighten_67 rfl (lv_at hl 0 rfl) ?_
          refine gf (k := 0) hx hb hts inX1 hown hK hP k_116 rfl (by decide) rfl 14 rfl (.ref (ad 15)) rfl dX1_straighten_68 ?_
          refine lv_iconst (v := 1) hx hb dX1_straighten_71 (by decide) ?_
          rcases hw_w1 with rfl | rfl | rfl | rfl
          · skip
            refine ld_a hx hb hK hP 15 3 rfl rfl (vin (by decide +kernel)) dX1_straighten_72 (ad 16) rfl ?_
            refine lv_iload_n hx hb dX1_straighten_73 rfl (lv_at hl 1 rfl) ?_
            refine va_lald hx hb hK hP 16 1 rfl rfl (j_in (a := L1.toInt) rfl (by omega) (by omega)) dX1_straighten_74 ?_
            refine lv_aload_n hx hb dX1_straighten_75 rfl (lv_at hl 0 rfl) ?_
            refine gf (k := 0) hx hb hts inX1 hown hK hP k_116 rfl (by decide) rfl 14 rfl (.ref (ad 15)) rfl dX1_straighten_76 ?_
            refine lv_iconst (v := 0) hx hb dX1_straighten_79 (by decide) ?_
            refine ld_a hx hb hK hP 15 3 rfl rfl (vin (by decide +kernel)) dX1_straighten_80 (ad 16) rfl ?_
            refine lv_iload_n hx hb dX1_straighten_81 rfl (lv_at hl 1 rfl) ?_
            refine va_lald hx hb hK hP 16 1 rfl rfl (j_in (a := L1.toInt) rfl (by omega) (by omega)) dX1_straighten_82 ?_
            have hM := m136_J9_floorDiv_f86c9 l dC dI cI cJ cII cJJ H.size 0 ad f3_unknowns f3_equations f2_roundSupports f2_stale f7_size f1_size f5_keptSize f5_aheadSize f0_solved f4_blockCount f4_blockLength f4_lastIsFree f4_stale ai al (ad 16) (ad 16) w2 w3 (al 16 L1.toNatClampNeg) (al 16 L1.toNatClampNeg) (by omega) (by omega) (by omega) (by omega) (by omega) (by omega) (by omega) (by omega) (by omega) (by omega) (by omega) (lz e_z2 (by omega)) hI (RWX_16 ad) (RWX_16 ad) hw_w2 hw_w3
            refine k2S_l ⟨hx, hb, hml, hown, hts⟩ hK hP hD hS hA hX cs_RX1_53 hM ⟨by decide +kernel, by decide +kernel⟩ rfl rfl (Or.inl rfl) (rest := [.int 0, .int 1, .ref (ad 14)]) rfl hl.1 rfl (Nat.le_of_ble_eq_true rfl) dX1_straighten_83 ⟨Nat.le_of_ble_eq_true rfl, Nat.le_of_ble_eq_true rfl⟩ (fun r5 t H1 locs_2 ht hB hS_2 hFc => ?_)
            obtain ⟨-, hP_3, -, hD_3⟩ := hB
            rw [ht] at hP_3
            have hD_4 := hD_3.weaken (B := A) (fun k q _ h9 => hFc q.1 h9)
            clear ht
            generalize H1 = H_5 at hP_3 hS_2 ⊢
            have kc0 : (0 : Int32).toInt = 0 := by decide +kernel
            have kc1 : (1 : Int32).toInt = 1 := by decide +kernel
            have hM := m087_X1_subtract l dC dI cI cJ cII cJJ H_5.size 0 ad f3_unknowns f3_equations f2_roundSupports f2_stale f7_size f1_size f5_keptSize f5_aheadSize f0_solved f4_blockCount f4_blockLength f4_lastIsFree f4_stale ai al (ad 16) (ad 16) w2 w3 1 0 r5 (by decide +kernel) (by decide +kernel) (by omega) (by omega) (by omega) (by omega) (by omega) (by omega) (by omega) (by omega) (by omega) (by omega) (by omega) hI (RWX_16 ad) (RWX_16 ad) hw_w2 hw_w3
            refine k2V_v (q0 := 14) ⟨hx, hb, hml, hown, hts⟩ hK hP_3 hD_4 hS_2 hA hX cv_RX1_59 hM ⟨by decide +kernel, by decide +kernel⟩ rfl rfl (Or.inl rfl) (rest := []) rfl rfl rfl hl.1 rfl (Nat.le_of_ble_eq_true rfl) dX1_straighten_86 ⟨Nat.le_of_ble_eq_true rfl, Nat.le_of_ble_eq_true rfl⟩ (fun t H1 locs_6 ht hB hS_6 hFc => ?_)
            obtain ⟨al7, hGr_r6, hP_7, -, hD_7⟩ := hB
            have hG_8 := FL_tr hG hGr_r6 (by decide)
            rw [ht] at hP_7
            have hD_9 := hD_7.weaken (B := A) (fun k q _ h9 => hFc q.1 h9)
            clear ht
            generalize H1 = H_10 at hP_7 hS_6 ⊢
            exact r2_v hx hb hr hk hS_6 dX1_straighten_89 (fun t ht hW => ⟨f1_size, ai, al7, (ad 16), (ad 16), w2, w3, ⟨(by first | omega | decide | exact Or.inl (by decide) | exact Or.inr (by decide) | exact Or.inr (by omega)), hI, hF, hG_8, (RWX_16 ad), (RWX_16 ad), hw_w2, hw_w3⟩, by rw [ht]; exact hP_7, va_K.moved hW.alike hK, hD_9⟩)
          · skip
            refine ld_a hx hb hK hP 15 3 rfl rfl (vin (by decide +kernel)) dX1_straighten_72 (ad 17) rfl ?_
            refine lv_iload_n hx hb dX1_straighten_73 rfl (lv_at hl 1 rfl) ?_
            refine va_lald hx hb hK hP 17 1 rfl rfl (j_in (a := L1.toInt) rfl (by omega) (by omega)) dX1_straighten_74 ?_
            refine lv_aload_n hx hb dX1_straighten_75 rfl (lv_at hl 0 rfl) ?_
            refine gf (k := 0) hx hb hts inX1 hown hK hP k_116 rfl (by decide) rfl 14 rfl (.ref (ad 15)) rfl dX1_straighten_76 ?_
            refine lv_iconst (v := 0) hx hb dX1_straighten_79 (by decide) ?_
            refine ld_a hx hb hK hP 15 3 rfl rfl (vin (by decide +kernel)) dX1_straighten_80 (ad 16) rfl ?_
            refine lv_iload_n hx hb dX1_straighten_81 rfl (lv_at hl 1 rfl) ?_
            refine va_lald hx hb hK hP 16 1 rfl rfl (j_in (a := L1.toInt) rfl (by omega) (by omega)) dX1_straighten_82 ?_
            have hM := m136_J9_floorDiv_f86c9 l dC dI cI cJ cII cJJ H.size 0 ad f3_unknowns f3_equations f2_roundSupports f2_stale f7_size f1_size f5_keptSize f5_aheadSize f0_solved f4_blockCount f4_blockLength f4_lastIsFree f4_stale ai al (ad 16) (ad 17) w2 w3 (al 17 L1.toNatClampNeg) (al 16 L1.toNatClampNeg) (by omega) (by omega) (by omega) (by omega) (by omega) (by omega) (by omega) (by omega) (by omega) (by omega) (by omega) (lz e_z2 (by omega)) hI (RWX_16 ad) (RWX_17 ad) hw_w2 hw_w3
            refine k2S_l ⟨hx, hb, hml, hown, hts⟩ hK hP hD hS hA hX cs_RX1_53 hM ⟨by decide +kernel, by decide +kernel⟩ rfl rfl (Or.inl rfl) (rest := [.int 0, .int 1, .ref (ad 14)]) rfl hl.1 rfl (Nat.le_of_ble_eq_true rfl) dX1_straighten_83 ⟨Nat.le_of_ble_eq_true rfl, Nat.le_of_ble_eq_true rfl⟩ (fun r8 t H1 locs_11 ht hB hS_11 hFc => ?_)
            obtain ⟨-, hP_12, -, hD_12⟩ := hB
            rw [ht] at hP_12
            have hD_13 := hD_12.weaken (B := A) (fun k q _ h9 => hFc q.1 h9)
            clear ht
            generalize H1 = H_14 at hP_12 hS_11 ⊢
            have kc0 : (0 : Int32).toInt = 0 := by decide +kernel
            have kc1 : (1 : Int32).toInt = 1 := by decide +kernel
            have hM := m087_X1_subtract l dC dI cI cJ cII cJJ H_14.size 0 ad f3_unknowns f3_equations f2_roundSupports f2_stale f7_size f1_size f5_keptSize f5_aheadSize f0_solved f4_blockCount f4_blockLength f4_lastIsFree f4_stale ai al (ad 16) (ad 17) w2 w3 1 0 r8 (by decide +kernel) (by decide +kernel) (by omega) (by omega) (by omega) (by omega) (by omega) (by omega) (by omega) (by omega) (by omega) (by omega) (by omega) hI (RWX_16 ad) (RWX_17 ad) hw_w2 hw_w3
            refine k2V_v (q0 := 14) ⟨hx, hb, hml, hown, hts⟩ hK hP_12 hD_13 hS_11 hA hX cv_RX1_59 hM ⟨by decide +kernel, by decide +kernel⟩ rfl rfl (Or.inl rfl) (rest := []) rfl rfl rfl hl.1 rfl (Nat.le_of_ble_eq_true rfl) dX1_straighten_86 ⟨Nat.le_of_ble_eq_true rfl, Nat.le_of_ble_eq_true rfl⟩ (fun t H1 locs_15 ht hB hS_15 hFc => ?_)
            obtain ⟨al10, hGr_r9, hP_16, -, hD_16⟩ := hB
            have hG_17 := FL_tr hG hGr_r9 (by decide)
            rw [ht] at hP_16
            have hD_18 := hD_16.weaken (B := A) (fun k q _ h9 => hFc q.1 h9)
            clear ht
            generalize H1 = H_19 at hP_16 hS_15 ⊢
            exact r2_v hx hb hr hk hS_15 dX1_straighten_89 (fun t ht hW => ⟨f1_size, ai, al10, (ad 16), (ad 17), w2, w3, ⟨(by first | omega | decide | exact Or.inl (by decide) | exact Or.inr (by decide) | exact Or.inr (by omega)), hI, hF, hG_17, (RWX_16 ad), (RWX_17 ad), hw_w2, hw_w3⟩, by rw [ht]; exact hP_16, va_K.moved hW.alike hK, hD_18⟩)
          · skip
            refine ld_a hx hb hK hP 15 3 rfl rfl (vin (by decide +kernel)) dX1_straighten_72 (ad 18) rfl ?_
            refine lv_iload_n hx hb dX1_straighten_73 rfl (lv_at hl 1 rfl) ?_
            refine va_lald hx hb hK hP 18 1 rfl rfl (j_in (a := L1.toInt) rfl (by omega) (by omega)) dX1_straighten_74 ?_
            refine lv_aload_n hx hb dX1_straighten_75 rfl (lv_at hl 0 rfl) ?_
            refine gf (k := 0) hx hb hts inX1 hown hK hP k_116 rfl (by decide) rfl 14 rfl (.ref (ad 15)) rfl dX1_straighten_76 ?_
            refine lv_iconst (v := 0) hx hb dX1_straighten_79 (by decide) ?_
            refine ld_a hx hb hK hP 15 3 rfl rfl (vin (by decide +kernel)) dX1_straighten_80 (ad 16) rfl ?_
            refine lv_iload_n hx hb dX1_straighten_81 rfl (lv_at hl 1 rfl) ?_
            refine va_lald hx hb hK hP 16 1 rfl rfl (j_in (a := L1.toInt) rfl (by omega) (by omega)) dX1_straighten_82 ?_
            have hM := m136_J9_floorDiv_f86c9 l dC dI cI cJ cII cJJ H.size 0 ad f3_unknowns f3_equations f2_roundSupports f2_stale f7_size f1_size f5_keptSize f5_aheadSize f0_solved f4_blockCount f4_blockLength f4_lastIsFree f4_stale ai al (ad 16) (ad 18) w2 w3 (al 18 L1.toNatClampNeg) (al 16 L1.toNatClampNeg) (by omega) (by omega) (by omega) (by omega) (by omega) (by omega) (by omega) (by omega) (by omega) (by omega) (by omega) (lz e_z2 (by omega)) hI (RWX_16 ad) (RWX_18 ad) hw_w2 hw_w3
            refine k2S_l ⟨hx, hb, hml, hown, hts⟩ hK hP hD hS hA hX cs_RX1_53 hM ⟨by decide +kernel, by decide +kernel⟩ rfl rfl (Or.inl rfl) (rest := [.int 0, .int 1, .ref (ad 14)]) rfl hl.1 rfl (Nat.le_of_ble_eq_true rfl) dX1_straighten_83 ⟨Nat.le_of_ble_eq_true rfl, Nat.le_of_ble_eq_true rfl⟩ (fun r11 t H1 locs_20 ht hB hS_20 hFc => ?_)
            obtain ⟨-, hP_21, -, hD_21⟩ := hB
            rw [ht] at hP_21
            have hD_22 := hD_21.weaken (B := A) (fun k q _ h9 => hFc q.1 h9)
            clear ht
            generalize H1 = H_23 at hP_21 hS_20 ⊢
            have kc0 : (0 : Int32).toInt = 0 := by decide +kernel
            have kc1 : (1 : Int32).toInt = 1 := by decide +kernel
            have hM := m087_X1_subtract l dC dI cI cJ cII cJJ H_23.size 0 ad f3_unknowns f3_equations f2_roundSupports f2_stale f7_size f1_size f5_keptSize f5_aheadSize f0_solved f4_blockCount f4_blockLength f4_lastIsFree f4_stale ai al (ad 16) (ad 18) w2 w3 1 0 r11 (by decide +kernel) (by decide +kernel) (by omega) (by omega) (by omega) (by omega) (by omega) (by omega) (by omega) (by omega) (by omega) (by omega) (by omega) hI (RWX_16 ad) (RWX_18 ad) hw_w2 hw_w3
            refine k2V_v (q0 := 14) ⟨hx, hb, hml, hown, hts⟩ hK hP_21 hD_22 hS_20 hA hX cv_RX1_59 hM ⟨by decide +kernel, by decide +kernel⟩ rfl rfl (Or.inl rfl) (rest := []) rfl rfl rfl hl.1 rfl (Nat.le_of_ble_eq_true rfl) dX1_straighten_86 ⟨Nat.le_of_ble_eq_true rfl, Nat.le_of_ble_eq_true rfl⟩ (fun t H1 locs_24 ht hB hS_24 hFc => ?_)
            obtain ⟨al13, hGr_r12, hP_25, -, hD_25⟩ := hB
            have hG_26 := FL_tr hG hGr_r12 (by decide)
            rw [ht] at hP_25
            have hD_27 := hD_25.weaken (B := A) (fun k q _ h9 => hFc q.1 h9)
            clear ht
            generalize H1 = H_28 at hP_25 hS_24 ⊢
            exact r2_v hx hb hr hk hS_24 dX1_straighten_89 (fun t ht hW => ⟨f1_size, ai, al13, (ad 16), (ad 18), w2, w3, ⟨(by first | omega | decide | exact Or.inl (by decide) | exact Or.inr (by decide) | exact Or.inr (by omega)), hI, hF, hG_26, (RWX_16 ad), (RWX_18 ad), hw_w2, hw_w3⟩, by rw [ht]; exact hP_25, va_K.moved hW.alike hK, hD_27⟩)
          · skip
            refine ld_a hx hb hK hP 15 3 rfl rfl (vin (by decide +kernel)) dX1_straighten_72 (ad 19) rfl ?_
            refine lv_iload_n hx hb dX1_straighten_73 rfl (lv_at hl 1 rfl) ?_
            refine va_lald hx hb hK hP 19 1 rfl rfl (j_in (a := L1.toInt) rfl (by omega) (by omega)) dX1_straighten_74 ?_
            refine lv_aload_n hx hb dX1_straighten_75 rfl (lv_at hl 0 rfl) ?_
            refine gf (k := 0) hx hb hts inX1 hown hK hP k_116 rfl (by decide) rfl 14 rfl (.ref (ad 15)) rfl dX1_straighten_76 ?_
            refine lv_iconst (v := 0) hx hb dX1_straighten_79 (by decide) ?_
            refine ld_a hx hb hK hP 15 3 rfl rfl (vin (by decide +kernel)) dX1_straighten_80 (ad 16) rfl ?_
            refine lv_iload_n hx hb dX1_straighten_81 rfl (lv_at hl 1 rfl) ?_
            refine va_lald hx hb hK hP 16 1 rfl rfl (j_in (a := L1.toInt) rfl (by omega) (by omega)) dX1_straighten_82 ?_
            have hM := m136_J9_floorDiv_f86c9 l dC dI cI cJ cII cJJ H.size 0 ad f3_unknowns f3_equations f2_roundSupports f2_stale f7_size f1_size f5_keptSize f5_aheadSize f0_solved f4_blockCount f4_blockLength f4_lastIsFree f4_stale ai al (ad 16) (ad 19) w2 w3 (al 19 L1.toNatClampNeg) (al 16 L1.toNatClampNeg) (by omega) (by omega) (by omega) (by omega) (by omega) (by omega) (by omega) (by omega) (by omega) (by omega) (by omega) (lz e_z2 (by omega)) hI (RWX_16 ad) (RWX_19 ad) hw_w2 hw_w3
            refine k2S_l ⟨hx, hb, hml, hown, hts⟩ hK hP hD hS hA hX cs_RX1_53 hM ⟨by decide +kernel, by decide +kernel⟩ rfl rfl (Or.inl rfl) (rest := [.int 0, .int 1, .ref (ad 14)]) rfl hl.1 rfl (Nat.le_of_ble_eq_true rfl) dX1_straighten_83 ⟨Nat.le_of_ble_eq_true rfl, Nat.le_of_ble_eq_true rfl⟩ (fun r14 t H1 locs_29 ht hB hS_29 hFc => ?_)
            obtain ⟨-, hP_30, -, hD_30⟩ := hB
            rw [ht] at hP_30
            have hD_31 := hD_30.weaken (B := A) (fun k q _ h9 => hFc q.1 h9)
            clear ht
            generalize H1 = H_32 at hP_30 hS_29 ⊢
            have kc0 : (0 : Int32).toInt = 0 := by decide +kernel
            have kc1 : (1 : Int32).toInt = 1 := by decide +kernel
            have hM := m087_X1_subtract l dC dI cI cJ cII cJJ H_32.size 0 ad f3_unknowns f3_equations f2_roundSupports f2_stale f7_size f1_size f5_keptSize f5_aheadSize f0_solved f4_blockCount f4_blockLength f4_lastIsFree f4_stale ai al (ad 16) (ad 19) w2 w3 1 0 r14 (by decide +kernel) (by decide +kernel) (by omega) (by omega) (by omega) (by omega) (by omega) (by omega) (by omega) (by omega) (by omega) (by omega) (by omega) hI (RWX_16 ad) (RWX_19 ad) hw_w2 hw_w3
            refine k2V_v (q0 := 14) ⟨hx, hb, hml, hown, hts⟩ hK hP_30 hD_31 hS_29 hA hX cv_RX1_59 hM ⟨by decide +kernel, by decide +kernel⟩ rfl rfl (Or.inl rfl) (rest := []) rfl rfl rfl hl.1 rfl (Nat.le_of_ble_eq_true rfl) dX1_straighten_86 ⟨Nat.le_of_ble_eq_true rfl, Nat.le_of_ble_eq_true rfl⟩ (fun t H1 locs_33 ht hB hS_33 hFc => ?_)
            obtain ⟨al16, hGr_r15, hP_34, -, hD_34⟩ := hB
            have hG_35 := FL_tr hG hGr_r15 (by decide)
            rw [ht] at hP_34
            have hD_36 := hD_34.weaken (B := A) (fun k q _ h9 => hFc q.1 h9)
            clear ht
            generalize H1 = H_37 at hP_34 hS_33 ⊢
            exact r2_v hx hb hr hk hS_33 dX1_straighten_89 (fun t ht hW => ⟨f1_size, ai, al16, (ad 16), (ad 19), w2, w3, ⟨(by first | omega | decide | exact Or.inl (by decide) | exact Or.inr (by decide) | exact Or.inr (by omega)), hI, hF, hG_35, (RWX_16 ad), (RWX_19 ad), hw_w2, hw_w3⟩, by rw [ht]; exact hP_34, va_K.moved hW.alike hK, hD_36⟩)
      · skip
        refine ld_a hx hb hK hP 15 3 rfl rfl (vin (by decide +kernel)) dX1_straighten_56 (ad 17) rfl ?_
        refine lv_iload_n hx hb dX1_straighten_57 rfl (lv_at hl 1 rfl) ?_
        refine va_lald hx hb hK hP 17 1 rfl rfl (j_in (a := L1.toInt) rfl (by omega) (by omega)) dX1_straighten_58 ?_
        refine lv_lconst (v := 0) hx hb dX1_straighten_59 (by decide) ?_
        refine v_lcmp hx hb dX1_straighten_60 _ rfl ?_
        refine lv_topi (fun z17 e_z17 => ?_)
        refine lv_if_eq (tgt := 90) hx hb dX1_straighten_61 (by decide) (fun c18 => ?_) (fun c18 => ?_)
        · have c18 := j_eq (a := z17.toInt) (b := 0) rfl (by decide +kernel) c18
          obtain ⟨z19, e_z19⟩ : ∃ q : Int32, q = L1 + Int32.ofInt 1 := ⟨_, rfl⟩
          have g_z19 : z19.toInt = L1.toInt + 1 := by rw [e_z19]; exact n_add (a := L1.toInt) (b := 1) rfl (by decide +kernel) (by omega) (by omega)
          refine lv_iinc (v := z19) (lv' := [(1, .int z19), (0, .ref (ad 14))]) hx hb dX1_straighten_90 hl (k := 1) rfl e_z19.symm (by decide) rfl (fun ls_38 hl_38 => ?_)
          refine lv_goto (tgt := 46) hx hb dX1_straighten_93 (by decide) ?_
          exact ih z19 f1_size ai al (ad 17) w1 w2 w3 _ _ _ (by omega) (by omega) (by omega) (by omega) (by omega) (by omega) (by omega) (by omega) (by omega) (by omega) (by omega) (by omega) (by omega) (by omega) hI hF hG (RWX_17 ad) hw_w1 hw_w2 hw_w3 hP hD hS (lv_sub hl_38 [1, 0] rfl)
        · have c18 := j_ne (a := z17.toInt) (b := 0) rfl (by decide +kernel) c18
          refine lv_aload_n hx hb dX1_straighten_64 rfl (lv_at hl 0 rfl) ?_
          refine lv_iconst (v := 1) hx hb dX1_straighten_65 (by decide) ?_
          refine lv_iconst (v := 0) hx hb dX1_straighten_66 (by decide) ?_
          refine lv_aload_n hx hb dX1_straighten_67 rfl (lv_at hl 0 rfl) ?_
          refine gf (k := 0) hx hb hts inX1 hown hK hP k_116 rfl (by decide) rfl 14 rfl (.ref (ad 15)) rfl dX1_straighten_68 ?_
          refine lv_iconst (v := 1) hx hb dX1_straighten_71 (by decide) ?_
          rcases hw_w1 with rfl | rfl | rfl | rfl
          · skip
            refine ld_a hx hb hK hP 15 3 rfl rfl (vin (by decide +kernel)) dX1_straighten_72 (ad 16) rfl ?_
            refine lv_iload_n hx hb dX1_straighten_73 rfl (lv_at hl 1 rfl) ?_
            refine va_lald hx hb hK hP 16 1 rfl rfl (j_in (a := L1.toInt) rfl (by omega) (by omega)) dX1_straighten_74 ?_
            refine lv_aload_n hx hb dX1_straighten_75 rfl (lv_at hl 0 rfl) ?_
            refine gf (k := 0) hx hb hts inX1 hown hK hP k_116 rfl (by decide) rfl 14 rfl (.ref (ad 15)) rfl dX1_straighten_76 ?_
            refine lv_iconst (v := 0) hx hb dX1_straighten_79 (by decide) ?_
            refine ld_a hx hb hK hP 15 3 rfl rfl (vin (by decide +kernel)) dX1_straighten_80 (ad 17) rfl ?_
            refine lv_iload_n hx hb dX1_straighten_81 rfl (lv_at hl 1 rfl) ?_
            refine va_lald hx hb hK hP 17 1 rfl rfl (j_in (a := L1.toInt) rfl (by omega) (by omega)) dX1_straighten_82 ?_
            have hM := m136_J9_floorDiv_f86c9 l dC dI cI cJ cII cJJ H.size 0 ad f3_unknowns f3_equations f2_roundSupports f2_stale f7_size f1_size f5_keptSize f5_aheadSize f0_solved f4_blockCount f4_blockLength f4_lastIsFree f4_stale ai al (ad 17) (ad 16) w2 w3 (al 16 L1.toNatClampNeg) (al 17 L1.toNatClampNeg) (by omega) (by omega) (by omega) (by omega) (by omega) (by omega) (by omega) (by omega) (by omega) (by omega) (by omega) (lz e_z17 (by omega)) hI (RWX_17 ad) (RWX_16 ad) hw_w2 hw_w3
            refine k2S_l ⟨hx, hb, hml, hown, hts⟩ hK hP hD hS hA hX cs_RX1_53 hM ⟨by decide +kernel, by decide +kernel⟩ rfl rfl (Or.inl rfl) (rest := [.int 0, .int 1, .ref (ad 14)]) rfl hl.1 rfl (Nat.le_of_ble_eq_true rfl) dX1_straighten_83 ⟨Nat.le_of_ble_eq_true rfl, Nat.le_of_ble_eq_true rfl⟩ (fun r20 t H1 locs_39 ht hB hS_39 hFc => ?_)
            obtain ⟨-, hP_40, -, hD_40⟩ := hB
            rw [ht] at hP_40
            have hD_41 := hD_40.weaken (B := A) (fun k q _ h9 => hFc q.1 h9)
            clear ht
            generalize H1 = H_42 at hP_40 hS_39 ⊢
            have kc0 : (0 : Int32).toInt = 0 := by decide +kernel
            have kc1 : (1 : Int32).toInt = 1 := by decide +kernel
            have hM := m087_X1_subtract l dC dI cI cJ cII cJJ H_42.size 0 ad f3_unknowns f3_equations f2_roundSupports f2_stale f7_size f1_size f5_keptSize f5_aheadSize f0_solved f4_blockCount f4_blockLength f4_lastIsFree f4_stale ai al (ad 17) (ad 16) w2 w3 1 0 r20 (by decide +kernel) (by decide +kernel) (by omega) (by omega) (by omega) (by omega) (by omega) (by omega) (by omega) (by omega) (by omega) (by omega) (by omega) hI (RWX_17 ad) (RWX_16 ad) hw_w2 hw_w3
            refine k2V_v (q0 := 14) ⟨hx, hb, hml, hown, hts⟩ hK hP_40 hD_41 hS_39 hA hX cv_RX1_59 hM ⟨by decide +kernel, by decide +kernel⟩ rfl rfl (Or.inl rfl) (rest := []) rfl rfl rfl hl.1 rfl (Nat.le_of_ble_eq_true rfl) dX1_straighten_86 ⟨Nat.le_of_ble_eq_true rfl, Nat.le_of_ble_eq_true rfl⟩ (fun t H1 locs_43 ht hB hS_43 hFc => ?_)
            obtain ⟨al22, hGr_r21, hP_44, -, hD_44⟩ := hB
            have hG_45 := FL_tr hG hGr_r21 (by decide)
            rw [ht] at hP_44
            have hD_46 := hD_44.weaken (B := A) (fun k q _ h9 => hFc q.1 h9)
            clear ht
            generalize H1 = H_47 at hP_44 hS_43 ⊢
            exact r2_v hx hb hr hk hS_43 dX1_straighten_89 (fun t ht hW => ⟨f1_size, ai, al22, (ad 17), (ad 16), w2, w3, ⟨(by first | omega | decide | exact Or.inl (by decide) | exact Or.inr (by decide) | exact Or.inr (by omega)), hI, hF, hG_45, (RWX_17 ad), (RWX_16 ad), hw_w2, hw_w3⟩, by rw [ht]; exact hP_44, va_K.moved hW.alike hK, hD_46⟩)
          · skip
            refine ld_a hx hb hK hP 15 3 rfl rfl (vin (by decide +kernel)) dX1_straighten_72 (ad 17) rfl ?_
            refine lv_iload_n hx hb dX1_straighten_73 rfl (lv_at hl 1 rfl) ?_
            refine va_lald hx hb hK hP 17 1 rfl rfl (j_in (a := L1.toInt) rfl (by omega) (by omega)) dX1_straighten_74 ?_
            refine lv_aload_n hx hb dX1_straighten_75 rfl (lv_at hl 0 rfl) ?_
            refine gf (k := 0) hx hb hts inX1 hown hK hP k_116 rfl (by decide) rfl 14 rfl (.ref (ad 15)) rfl dX1_straighten_76 ?_
            refine lv_iconst (v := 0) hx hb dX1_straighten_79 (by decide) ?_
            refine ld_a hx hb hK hP 15 3 rfl rfl (vin (by decide +kernel)) dX1_straighten_80 (ad 17) rfl ?_
            refine lv_iload_n hx hb dX1_straighten_81 rfl (lv_at hl 1 rfl) ?_
            refine va_lald hx hb hK hP 17 1 rfl rfl (j_in (a := L1.toInt) rfl (by omega) (by omega)) dX1_straighten_82 ?_
            have hM := m136_J9_floorDiv_f86c9 l dC dI cI cJ cII cJJ H.size 0 ad f3_unknowns f3_equations f2_roundSupports f2_stale f7_size f1_size f5_keptSize f5_aheadSize f0_solved f4_blockCount f4_blockLength f4_lastIsFree f4_stale ai al (ad 17) (ad 17) w2 w3 (al 17 L1.toNatClampNeg) (al 17 L1.toNatClampNeg) (by omega) (by omega) (by omega) (by omega) (by omega) (by omega) (by omega) (by omega) (by omega) (by omega) (by omega) (lz e_z17 (by omega)) hI (RWX_17 ad) (RWX_17 ad) hw_w2 hw_w3
            refine k2S_l ⟨hx, hb, hml, hown, hts⟩ hK hP hD hS hA hX cs_RX1_53 hM ⟨by decide +kernel, by decide +kernel⟩ rfl rfl (Or.inl rfl) (rest := [.int 0, .int 1, .ref (ad 14)]) rfl hl.1 rfl (Nat.le_of_ble_eq_true rfl) dX1_straighten_83 ⟨Nat.le_of_ble_eq_true rfl, Nat.le_of_ble_eq_true rfl⟩ (fun r23 t H1 locs_48 ht hB hS_48 hFc => ?_)
            obtain ⟨-, hP_49, -, hD_49⟩ := hB
            rw [ht] at hP_49
            have hD_50 := hD_49.weaken (B := A) (fun k q _ h9 => hFc q.1 h9)
            clear ht
            generalize H1 = H_51 at hP_49 hS_48 ⊢
            have kc0 : (0 : Int32).toInt = 0 := by decide +kernel
            have kc1 : (1 : Int32).toInt = 1 := by decide +kernel
            have hM := m087_X1_subtract l dC dI cI cJ cII cJJ H_51.size 0 ad f3_unknowns f3_equations f2_roundSupports f2_stale f7_size f1_size f5_keptSize f5_aheadSize f0_solved f4_blockCount f4_blockLength f4_lastIsFree f4_stale ai al (ad 17) (ad 17) w2 w3 1 0 r23 (by decide +kernel) (by decide +kernel) (by omega) (by omega) (by omega) (by omega) (by omega) (by omega) (by omega) (by omega) (by omega) (by omega) (by omega) hI (RWX_17 ad) (RWX_17 ad) hw_w2 hw_w3
            refine k2V_v (q0 := 14) ⟨hx, hb, hml, hown, hts⟩ hK hP_49 hD_50 hS_48 hA hX cv_RX1_59 hM ⟨by decide +kernel, by decide +kernel⟩ rfl rfl (Or.inl rfl) (rest := []) rfl rfl rfl hl.1 rfl (Nat.le_of_ble_eq_true rfl) dX1_straighten_86 ⟨Nat.le_of_ble_eq_true rfl, Nat.le_of_ble_eq_true rfl⟩ (fun t H1 locs_52 ht hB hS_52 hFc => ?_)
            obtain ⟨al25, hGr_r24, hP_53, -, hD_53⟩ := hB
            have hG_54 := FL_tr hG hGr_r24 (by decide)
            rw [ht] at hP_53
            have hD_55 := hD_53.weaken (B := A) (fun k q _ h9 => hFc q.1 h9)
            clear ht
            generalize H1 = H_56 at hP_53 hS_52 ⊢
            exact r2_v hx hb hr hk hS_52 dX1_straighten_89 (fun t ht hW => ⟨f1_size, ai, al25, (ad 17), (ad 17), w2, w3, ⟨(by first | omega | decide | exact Or.inl (by decide) | exact Or.inr (by decide) | exact Or.inr (by omega)), hI, hF, hG_54, (RWX_17 ad), (RWX_17 ad), hw_w2, hw_w3⟩, by rw [ht]; exact hP_53, va_K.moved hW.alike hK, hD_55⟩)
          · skip
            refine ld_a hx hb hK hP 15 3 rfl rfl (vin (by decide +kernel)) dX1_straighten_72 (ad 18) rfl ?_
            refine lv_iload_n hx hb dX1_straighten_73 rfl (lv_at hl 1 rfl) ?_
            refine va_lald hx hb hK hP 18 1 rfl rfl (j_in (a := L1.toInt) rfl (by omega) (by omega)) dX1_straighten_74 ?_
            refine lv_aload_n hx hb dX1_straighten_75 rfl (lv_at hl 0 rfl) ?_
            refine gf (k := 0) hx hb hts inX1 hown hK hP k_116 rfl (by decide) rfl 14 rfl (.ref (ad 15)) rfl dX1_straighten_76 ?_
            refine lv_iconst (v := 0) hx hb dX1_straighten_79 (by decide) ?_
            refine ld_a hx hb hK hP 15 3 rfl rfl (vin (by decide +kernel)) dX1_straighten_80 (ad 17) rfl ?_
            refine lv_iload_n hx hb dX1_straighten_81 rfl (lv_at hl 1 rfl) ?_
            refine va_lald hx hb hK hP 17 1 rfl rfl (j_in (a := L1.toInt) rfl (by omega) (by omega)) dX1_straighten_82 ?_
            have hM := m136_J9_floorDiv_f86c9 l dC dI cI cJ cII cJJ H.size 0 ad f3_unknowns f3_equations f2_roundSupports f2_stale f7_size f1_size f5_keptSize f5_aheadSize f0_solved f4_blockCount f4_blockLength f4_lastIsFree f4_stale ai al (ad 17) (ad 18) w2 w3 (al 18 L1.toNatClampNeg) (al 17 L1.toNatClampNeg) (by omega) (by omega) (by omega) (by omega) (by omega) (by omega) (by omega) (by omega) (by omega) (by omega) (by omega) (lz e_z17 (by omega)) hI (RWX_17 ad) (RWX_18 ad) hw_w2 hw_w3
            refine k2S_l ⟨hx, hb, hml, hown, hts⟩ hK hP hD hS hA hX cs_RX1_53 hM ⟨by decide +kernel, by decide +kernel⟩ rfl rfl (Or.inl rfl) (rest := [.int 0, .int 1, .ref (ad 14)]) rfl hl.1 rfl (Nat.le_of_ble_eq_true rfl) dX1_straighten_83 ⟨Nat.le_of_ble_eq_true rfl, Nat.le_of_ble_eq_true rfl⟩ (fun r26 t H1 locs_57 ht hB hS_57 hFc => ?_)
            obtain ⟨-, hP_58, -, hD_58⟩ := hB
            rw [ht] at hP_58
            have hD_59 := hD_58.weaken (B := A) (fun k q _ h9 => hFc q.1 h9)
            clear ht
            generalize H1 = H_60 at hP_58 hS_57 ⊢
            have kc0 : (0 : Int32).toInt = 0 := by decide +kernel
            have kc1 : (1 : Int32).toInt = 1 := by decide +kernel
            have hM := m087_X1_subtract l dC dI cI cJ cII cJJ H_60.size 0 ad f3_unknowns f3_equations f2_roundSupports f2_stale f7_size f1_size f5_keptSize f5_aheadSize f0_solved f4_blockCount f4_blockLength f4_lastIsFree f4_stale ai al (ad 17) (ad 18) w2 w3 1 0 r26 (by decide +kernel) (by decide +kernel) (by omega) (by omega) (by omega) (by omega) (by omega) (by omega) (by omega) (by omega) (by omega) (by omega) (by omega) hI (RWX_17 ad) (RWX_18 ad) hw_w2 hw_w3
            refine k2V_v (q0 := 14) ⟨hx, hb, hml, hown, hts⟩ hK hP_58 hD_59 hS_57 hA hX cv_RX1_59 hM ⟨by decide +kernel, by decide +kernel⟩ rfl rfl (Or.inl rfl) (rest := []) rfl rfl rfl hl.1 rfl (Nat.le_of_ble_eq_true rfl) dX1_straighten_86 ⟨Nat.le_of_ble_eq_true rfl, Nat.le_of_ble_eq_true rfl⟩ (fun t H1 locs_61 ht hB hS_61 hFc => ?_)
            obtain ⟨al28, hGr_r27, hP_62, -, hD_62⟩ := hB
            have hG_63 := FL_tr hG hGr_r27 (by decide)
            rw [ht] at hP_62
            have hD_64 := hD_62.weaken (B := A) (fun k q _ h9 => hFc q.1 h9)
            clear ht
            generalize H1 = H_65 at hP_62 hS_61 ⊢
            exact r2_v hx hb hr hk hS_61 dX1_straighten_89 (fun t ht hW => ⟨f1_size, ai, al28, (ad 17), (ad 18), w2, w3, ⟨(by first | omega | decide | exact Or.inl (by decide) | exact Or.inr (by decide) | exact Or.inr (by omega)), hI, hF, hG_63, (RWX_17 ad), (RWX_18 ad), hw_w2, hw_w3⟩, by rw [ht]; exact hP_62, va_K.moved hW.alike hK, hD_64⟩)
          · skip
            refine ld_a hx hb hK hP 15 3 rfl rfl (vin (by decide +kernel)) dX1_straighten_72 (ad 19) rfl ?_
            refine lv_iload_n hx hb dX1_straighten_73 rfl (lv_at hl 1 rfl) ?_
            refine va_lald hx hb hK hP 19 1 rfl rfl (j_in (a := L1.toInt) rfl (by omega) (by omega)) dX1_straighten_74 ?_
            refine lv_aload_n hx hb dX1_straighten_75 rfl (lv_at hl 0 rfl) ?_
            refine gf (k := 0) hx hb hts inX1 hown hK hP k_116 rfl (by decide) rfl 14 rfl (.ref (ad 15)) rfl dX1_straighten_76 ?_
            refine lv_iconst (v := 0) hx hb dX1_straighten_79 (by decide) ?_
            refine ld_a hx hb hK hP 15 3 rfl rfl (vin (by decide +kernel)) dX1_straighten_80 (ad 17) rfl ?_
            refine lv_iload_n hx hb dX1_straighten_81 rfl (lv_at hl 1 rfl) ?_
            refine va_lald hx hb hK hP 17 1 rfl rfl (j_in (a := L1.toInt) rfl (by omega) (by omega)) dX1_straighten_82 ?_
            have hM := m136_J9_floorDiv_f86c9 l dC dI cI cJ cII cJJ H.size 0 ad f3_unknowns f3_equations f2_roundSupports f2_stale f7_size f1_size f5_keptSize f5_aheadSize f0_solved f4_blockCount f4_blockLength f4_lastIsFree f4_stale ai al (ad 17) (ad 19) w2 w3 (al 19 L1.toNatClampNeg) (al 17 L1.toNatClampNeg) (by omega) (by omega) (by omega) (by omega) (by omega) (by omega) (by omega) (by omega) (by omega) (by omega) (by omega) (lz e_z17 (by omega)) hI (RWX_17 ad) (RWX_19 ad) hw_w2 hw_w3
            refine k2S_l ⟨hx, hb, hml, hown, hts⟩ hK hP hD hS hA hX cs_RX1_53 hM ⟨by decide +kernel, by decide +kernel⟩ rfl rfl (Or.inl rfl) (rest := [.int 0, .int 1, .ref (ad 14)]) rfl hl.1 rfl (Nat.le_of_ble_eq_true rfl) dX1_straighten_83 ⟨Nat.le_of_ble_eq_true rfl, Nat.le_of_ble_eq_true rfl⟩ (fun r29 t H1 locs_66 ht hB hS_66 hFc => ?_)
            obtain ⟨-, hP_67, -, hD_67⟩ := hB
            rw [ht] at hP_67
            have hD_68 := hD_67.weaken (B := A) (fun k q _ h9 => hFc q.1 h9)
            clear ht
            generalize H1 = H_69 at hP_67 hS_66 ⊢
            have kc0 : (0 : Int32).toInt = 0 := by decide +kernel
            have kc1 : (1 : Int32).toInt = 1 := by decide +kernel
            have hM := m087_X1_subtract l dC dI cI cJ cII cJJ H_69.size 0 ad f3_unknowns f3_equations f2_roundSupports f2_stale f7_size f1_size f5_keptSize f5_aheadSize f0_solved f4_blockCount f4_blockLength f4_lastIsFree f4_stale ai al (ad 17) (ad 19) w2 w3 1 0 r29 (by decide +kernel) (by decide +kernel) (by omega) (by omega) (by omega) (by omega) (by omega) (by omega) (by omega) (by omega) (by omega) (by omega) (by omega) hI (RWX_17 ad) (RWX_19 ad) hw_w2 hw_w3
            refine k2V_v (q0 := 14) ⟨hx, hb, hml, hown, hts⟩ hK hP_67 hD_68 hS_66 hA hX cv_RX1_59 hM ⟨by decide +kernel, by decide +kernel⟩ rfl rfl (Or.inl rfl) (rest := []) rfl rfl rfl hl.1 rfl (Nat.le_of_ble_eq_true rfl) dX1_straighten_86 ⟨Nat.le_of_ble_eq_true rfl, Nat.le_of_ble_eq_true rfl⟩ (fun t H1 locs_70 ht hB hS_70 hFc => ?_)
            obtain ⟨al31, hGr_r30, hP_71, -, hD_71⟩ := hB
            have hG_72 := FL_tr hG hGr_r30 (by decide)
            rw [ht] at hP_71
            have hD_73 := hD_71.weaken (B := A) (fun k q _ h9 => hFc q.1 h9)
            clear ht
            generalize H1 = H_74 at hP_71 hS_70 ⊢
            exact r2_v hx hb hr hk hS_70 dX1_straighten_89 (fun t ht hW => ⟨f1_size, ai, al31, (ad 17), (ad 19), w2, w3, ⟨(by first | omega | decide | exact Or.inl (by decide) | exact Or.inr (by decide) | exact Or.inr (by omega)), hI, hF, hG_72, (RWX_17 ad), (RWX_19 ad), hw_w2, hw_w3⟩, by rw [ht]; exact hP_71, va_K.moved hW.alike hK, hD_73⟩)
      · skip
        refine ld_a hx hb hK hP 15 3 rfl rfl (vin (by decide +kernel)) dX1_straighten_56 (ad 18) rfl ?_
        refine lv_iload_n hx hb dX1_straighten_57 rfl (lv_at hl 1 rfl) ?_
        refine va_lald hx hb hK hP 18 1 rfl rfl (j_in (a := L1.toInt) rfl (by omega) (by omega)) dX1_straighten_58 ?_
        refine lv_lconst (v := 0) hx hb dX1_straighten_59 (by decide) ?_
        refine v_lcmp hx hb dX1_straighten_60 _ rfl ?_
        refine lv_topi (fun z32 e_z32 => ?_)
        refine lv_if_eq (tgt := 90) hx hb dX1_straighten_61 (by decide) (fun c33 => ?_) (fun c33 => ?_)
        · have c33 := j_eq (a := z32.toInt) (b := 0) rfl (by decide +kernel) c33
          obtain ⟨z34, e_z34⟩ : ∃ q : Int32, q = L1 + Int32.ofInt 1 := ⟨_, rfl⟩
          have g_z34 : z34.toInt = L1.toInt + 1 := by rw [e_z34]; exact n_add (a := L1.toInt) (b := 1) rfl (by decide +kernel) (by omega) (by omega)
          refine lv_iinc (v := z34) (lv' := [(1, .int z34), (0, .ref (ad 14))]) hx hb dX1_straighten_90 hl (k := 1) rfl e_z34.symm (by decide) rfl (fun ls_75 hl_75 => ?_)
          refine lv_goto (tgt := 46) hx hb dX1_straighten_93 (by decide) ?_
          exact ih z34 f1_size ai al (ad 18) w1 w2 w3 _ _ _ (by omega) (by omega) (by omega) (by omega) (by omega) (by omega) (by omega) (by omega) (by omega) (by omega) (by omega) (by omega) (by omega) (by omega) hI hF hG (RWX_18 ad) hw_w1 hw_w2 hw_w3 hP hD hS (lv_sub hl_75 [1, 0] rfl)
        · have c33 := j_ne (a := z32.toInt) (b := 0) rfl (by decide +kernel) c33
          refine lv_aload_n hx hb dX1_straighten_64 rfl (lv_at hl 0 rfl) ?_
          refine lv_iconst (v := 1) hx hb dX1_straighten_65 (by decide) ?_
          refine lv_iconst (v := 0) hx hb dX1_straighten_66 (by decide) ?_
          refine lv_aload_n hx hb dX1_straighten_67 rfl (lv_at hl 0 rfl) ?_
          refine gf (k := 0) hx hb hts inX1 hown hK hP k_116 rfl (by decide) rfl 14 rfl (.ref (ad 15)) rfl dX1_straighten_68 ?_
          refine lv_iconst (v := 1) hx hb dX1_straighten_71 (by decide) ?_
          rcases hw_w1 with rfl | rfl | rfl | rfl
          · skip
            refine ld_a hx hb hK hP 15 3 rfl rfl (vin (by decide +kernel)) dX1_straighten_72 (ad 16) rfl ?_
            refine lv_iload_n hx hb dX1_straighten_73 rfl (lv_at hl 1 rfl) ?_
            refine va_lald hx hb hK hP 16 1 rfl rfl (j_in (a := L1.toInt) rfl (by omega) (by omega)) dX1_straighten_74 ?_
            refine lv_aload_n hx hb dX1_straighten_75 rfl (lv_at hl 0 rfl) ?_
            refine gf (k := 0) hx hb hts inX1 hown hK hP k_116 rfl (by decide) rfl 14 rfl (.ref (ad 15)) rfl dX1_straighten_76 ?_
            refine lv_iconst (v := 0) hx hb dX1_straighten_79 (by decide) ?_
            refine ld_a hx hb hK hP 15 3 rfl rfl (vin (by decide +kernel)) dX1_straighten_80 (ad 18) rfl ?_
            refine lv_iload_n hx hb dX1_straighten_81 rfl (lv_at hl 1 rfl) ?_
            refine va_lald hx hb hK hP 18 1 rfl rfl (j_in (a := L1.toInt) rfl (by omega) (by omega)) dX1_straighten_82 ?_
            have hM := m136_J9_floorDiv_f86c9 l dC dI cI cJ cII cJJ H.size 0 ad f3_unknowns f3_equations f2_roundSupports f2_stale f7_size f1_size f5_keptSize f5_aheadSize f0_solved f4_blockCount f4_blockLength f4_lastIsFree f4_stale ai al (ad 18) (ad 16) w2 w3 (al 16 L1.toNatClampNeg) (al 18 L1.toNatClampNeg) (by omega) (by omega) (by omega) (by omega) (by omega) (by omega) (by omega) (by omega) (by omega) (by omega) (by omega) (lz e_z32 (by omega)) hI (RWX_18 ad) (RWX_16 ad) hw_w2 hw_w3
            refine k2S_l ⟨hx, hb, hml, hown, hts⟩ hK hP hD hS hA hX cs_RX1_53 hM ⟨by decide +kernel, by decide +kernel⟩ rfl rfl (Or.inl rfl) (rest := [.int 0, .int 1, .ref (ad 14)]) rfl hl.1 rfl (Nat.le_of_ble_eq_true rfl) dX1_straighten_83 ⟨Nat.le_of_ble_eq_true rfl, Nat.le_of_ble_eq_true rfl⟩ (fun r35 t H1 locs_76 ht hB hS_76 hFc => ?_)
            obtain ⟨-, hP_77, -, hD_77⟩ := hB
            rw [ht] at hP_77
            have hD_78 := hD_77.weaken (B := A) (fun k q _ h9 => hFc q.1 h9)
            clear ht
            generalize H1 = H_79 at hP_77 hS_76 ⊢
            have kc0 : (0 : Int32).toInt = 0 := by decide +kernel
            have kc1 : (1 : Int32).toInt = 1 := by decide +kernel
            have hM := m087_X1_subtract l dC dI cI cJ cII cJJ H_79.size 0 ad f3_unknowns f3_equations f2_roundSupports f2_stale f7_size f1_size f5_keptSize f5_aheadSize f0_solved f4_blockCount f4_blockLength f4_lastIsFree f4_stale ai al (ad 18) (ad 16) w2 w3 1 0 r35 (by decide +kernel) (by decide +kernel) (by omega) (by omega) (by omega) (by omega) (by omega) (by omega) (by omega) (by omega) (by omega) (by omega) (by omega) hI (RWX_18 ad) (RWX_16 ad) hw_w2 hw_w3
            refine k2V_v (q0 := 14) ⟨hx, hb, hml, hown, hts⟩ hK hP_77 hD_78 hS_76 hA hX cv_RX1_59 hM ⟨by decide +kernel, by decide +kernel⟩ rfl rfl (Or.inl rfl) (rest := []) rfl rfl rfl hl.1 rfl (Nat.le_of_ble_eq_true rfl) dX1_straighten_86 ⟨Nat.le_of_ble_eq_true rfl, Nat.le_of_ble_eq_true rfl⟩ (fun t H1 locs_80 ht hB hS_80 hFc => ?_)
            obtain ⟨al37, hGr_r36, hP_81, -, hD_81⟩ := hB
            have hG_82 := FL_tr hG hGr_r36 (by decide)
            rw [ht] at hP_81
            have hD_83 := hD_81.weaken (B := A) (fun k q _ h9 => hFc q.1 h9)
            clear ht
            generalize H1 = H_84 at hP_81 hS_80 ⊢
            exact r2_v hx hb hr hk hS_80 dX1_straighten_89 (fun t ht hW => ⟨f1_size, ai, al37, (ad 18), (ad 16), w2, w3, ⟨(by first | omega | decide | exact Or.inl (by decide) | exact Or.inr (by decide) | exact Or.inr (by omega)), hI, hF, hG_82, (RWX_18 ad), (RWX_16 ad), hw_w2, hw_w3⟩, by rw [ht]; exact hP_81, va_K.moved hW.alike hK, hD_83⟩)
          · skip
            refine ld_a hx hb hK hP 15 3 rfl rfl (vin (by decide +kernel)) dX1_straighten_72 (ad 17) rfl ?_
            refine lv_iload_n hx hb dX1_straighten_73 rfl (lv_at hl 1 rfl) ?_
            refine va_lald hx hb hK hP 17 1 rfl rfl (j_in (a := L1.toInt) rfl (by omega) (by omega)) dX1_straighten_74 ?_
            refine lv_aload_n hx hb dX1_straighten_75 rfl (lv_at hl 0 rfl) ?_
            refine gf (k := 0) hx hb hts inX1 hown hK hP k_116 rfl (by decide) rfl 14 rfl (.ref (ad 15)) rfl dX1_straighten_76 ?_
            refine lv_iconst (v := 0) hx hb dX1_straighten_79 (by decide) ?_
            refine ld_a hx hb hK hP 15 3 rfl rfl (vin (by decide +kernel)) dX1_straighten_80 (ad 18) rfl ?_
            refine lv_iload_n hx hb dX1_straighten_81 rfl (lv_at hl 1 rfl) ?_
            refine va_lald hx hb hK hP 18 1 rfl rfl (j_in (a := L1.toInt) rfl (by omega) (by omega)) dX1_straighten_82 ?_
            have hM := m136_J9_floorDiv_f86c9 l dC dI cI cJ cII cJJ H.size 0 ad f3_unknowns f3_equations f2_roundSupports f2_stale f7_size f1_size f5_keptSize f5_aheadSize f0_solved f4_blockCount f4_blockLength f4_lastIsFree f4_stale ai al (ad 18) (ad 17) w2 w3 (al 17 L1.toNatClampNeg) (al 18 L1.toNatClampNeg) (by omega) (by omega) (by omega) (by omega) (by omega) (by omega) (by omega) (by omega) (by omega) (by omega) (by omega) (lz e_z32 (by omega)) hI (RWX_18 ad) (RWX_17 ad) hw_w2 hw_w3
            refine k2S_l ⟨hx, hb, hml, hown, hts⟩ hK hP hD hS hA hX cs_RX1_53 hM ⟨by decide +kernel, by decide +kernel⟩ rfl rfl (Or.inl rfl) (rest := [.int 0, .int 1, .ref (ad 14)]) rfl hl.1 rfl (Nat.le_of_ble_eq_true rfl) dX1_straighten_83 ⟨Nat.le_of_ble_eq_true rfl, Nat.le_of_ble_eq_true rfl⟩ (fun r38 t H1 locs_85 ht hB hS_85 hFc => ?_)
            obtain ⟨-, hP_86, -, hD_86⟩ := hB
            rw [ht] at hP_86
            have hD_87 := hD_86.weaken (B := A) (fun k q _ h9 => hFc q.1 h9)
            clear ht
            generalize H1 = H_88 at hP_86 hS_85 ⊢
            have kc0 : (0 : Int32).toInt = 0 := by decide +kernel
            have kc1 : (1 : Int32).toInt = 1 := by decide +kernel
            have hM := m087_X1_subtract l dC dI cI cJ cII cJJ H_88.size 0 ad f3_unknowns f3_equations f2_roundSupports f2_stale f7_size f1_size f5_keptSize f5_aheadSize f0_solved f4_blockCount f4_blockLength f4_lastIsFree f4_stale ai al (ad 18) (ad 17) w2 w3 1 0 r38 (by decide +kernel) (by decide +kernel) (by omega) (by omega) (by omega) (by omega) (by omega) (by omega) (by omega) (by omega) (by omega) (by omega) (by omega) hI (RWX_18 ad) (RWX_17 ad) hw_w2 hw_w3
            refine k2V_v (q0 := 14) ⟨hx, hb, hml, hown, hts⟩ hK hP_86 hD_87 hS_85 hA hX cv_RX1_59 hM ⟨by decide +kernel, by decide +kernel⟩ rfl rfl (Or.inl rfl) (rest := []) rfl rfl rfl hl.1 rfl (Nat.le_of_ble_eq_true rfl) dX1_straighten_86 ⟨Nat.le_of_ble_eq_true rfl, Nat.le_of_ble_eq_true rfl⟩ (fun t H1 locs_89 ht hB hS_89 hFc => ?_)
            obtain ⟨al40, hGr_r39, hP_90, -, hD_90⟩ := hB
            have hG_91 := FL_tr hG hGr_r39 (by decide)
            rw [ht] at hP_90
            have hD_92 := hD_90.weaken (B := A) (fun k q _ h9 => hFc q.1 h9)
            clear ht
            generalize H1 = H_93 at hP_90 hS_89 ⊢
            exact r2_v hx hb hr hk hS_89 dX1_straighten_89 (fun t ht hW => ⟨f1_size, ai, al40, (ad 18), (ad 17), w2, w3, ⟨(by first | omega | decide | exact Or.inl (by decide) | exact Or.inr (by decide) | exact Or.inr (by omega)), hI, hF, hG_91, (RWX_18 ad), (RWX_17 ad), hw_w2, hw_w3⟩, by rw [ht]; exact hP_90, va_K.moved hW.alike hK, hD_92⟩)
          · skip
            refine ld_a hx hb hK hP 15 3 rfl rfl (vin (by decide +kernel)) dX1_straighten_72 (ad 18) rfl ?_
            refine lv_iload_n hx hb dX1_straighten_73 rfl (lv_at hl 1 rfl) ?_
            refine va_lald hx hb hK hP 18 1 rfl rfl (j_in (a := L1.toInt) rfl (by omega) (by omega)) dX1_straighten_74 ?_
            refine lv_aload_n hx hb dX1_straighten_75 rfl (lv_at hl 0 rfl) ?_
            refine gf (k := 0) hx hb hts inX1 hown hK hP k_116 rfl (by decide) rfl 14 rfl (.ref (ad 15)) rfl dX1_straighten_76 ?_
            refine lv_iconst (v := 0) hx hb dX1_straighten_79 (by decide) ?_
            refine ld_a hx hb hK hP 15 3 rfl rfl (vin (by decide +kernel)) dX1_straighten_80 (ad 18) rfl ?_
            refine lv_iload_n hx hb dX1_straighten_81 rfl (lv_at hl 1 rfl) ?_
            refine va_lald hx hb hK hP 18 1 rfl rfl (j_in (a := L1.toInt) rfl (by omega) (by omega)) dX1_straighten_82 ?_
            have hM := m136_J9_floorDiv_f86c9 l dC dI cI cJ cII cJJ H.size 0 ad f3_unknowns f3_equations f2_roundSupports f2_stale f7_size f1_size f5_keptSize f5_aheadSize f0_solved f4_blockCount f4_blockLength f4_lastIsFree f4_stale ai al (ad 18) (ad 18) w2 w3 (al 18 L1.toNatClampNeg) (al 18 L1.toNatClampNeg) (by omega) (by omega) (by omega) (by omega) (by omega) (by omega) (by omega) (by omega) (by omega) (by omega) (by omega) (lz e_z32 (by omega)) hI (RWX_18 ad) (RWX_18 ad) hw_w2 hw_w3
            refine k2S_l ⟨hx, hb, hml, hown, hts⟩ hK hP hD hS hA hX cs_RX1_53 hM ⟨by decide +kernel, by decide +kernel⟩ rfl rfl (Or.inl rfl) (rest := [.int 0, .int 1, .ref (ad 14)]) rfl hl.1 rfl (Nat.le_of_ble_eq_true rfl) dX1_straighten_83 ⟨Nat.le_of_ble_eq_true rfl, Nat.le_of_ble_eq_true rfl⟩ (fun r41 t H1 locs_94 ht hB hS_94 hFc => ?_)
            obtain ⟨-, hP_95, -, hD_95⟩ := hB
            rw [ht] at hP_95
            have hD_96 := hD_95.weaken (B := A) (fun k q _ h9 => hFc q.1 h9)
            clear ht
            generalize H1 = H_97 at hP_95 hS_94 ⊢
            have kc0 : (0 : Int32).toInt = 0 := by decide +kernel
            have kc1 : (1 : Int32).toInt = 1 := by decide +kernel
            have hM := m087_X1_subtract l dC dI cI cJ cII cJJ H_97.size 0 ad f3_unknowns f3_equations f2_roundSupports f2_stale f7_size f1_size f5_keptSize f5_aheadSize f0_solved f4_blockCount f4_blockLength f4_lastIsFree f4_stale ai al (ad 18) (ad 18) w2 w3 1 0 r41 (by decide +kernel) (by decide +kernel) (by omega) (by omega) (by omega) (by omega) (by omega) (by omega) (by omega) (by omega) (by omega) (by omega) (by omega) hI (RWX_18 ad) (RWX_18 ad) hw_w2 hw_w3
            refine k2V_v (q0 := 14) ⟨hx, hb, hml, hown, hts⟩ hK hP_95 hD_96 hS_94 hA hX cv_RX1_59 hM ⟨by decide +kernel, by decide +kernel⟩ rfl rfl (Or.inl rfl) (rest := []) rfl rfl rfl hl.1 rfl (Nat.le_of_ble_eq_true rfl) dX1_straighten_86 ⟨Nat.le_of_ble_eq_true rfl, Nat.le_of_ble_eq_true rfl⟩ (fun t H1 locs_98 ht hB hS_98 hFc => ?_)
            obtain ⟨al43, hGr_r42, hP_99, -, hD_99⟩ := hB
            have hG_100 := FL_tr hG hGr_r42 (by decide)
            rw [ht] at hP_99
            have hD_101 := hD_99.weaken (B := A) (fun k q _ h9 => hFc q.1 h9)
            clear ht
            generalize H1 = H_102 at hP_99 hS_98 ⊢
            exact r2_v hx hb hr hk hS_98 dX1_straighten_89 (fun t ht hW => ⟨f1_size, ai, al43, (ad 18), (ad 18), w2, w3, ⟨(by first | omega | decide | exact Or.inl (by decide) | exact Or.inr (by decide) | exact Or.inr (by omega)), hI, hF, hG_100, (RWX_18 ad), (RWX_18 ad), hw_w2, hw_w3⟩, by rw [ht]; exact hP_99, va_K.moved hW.alike hK, hD_101⟩)
          · skip
            refine ld_a hx hb hK hP 15 3 rfl rfl (vin (by decide +kernel)) dX1_straighten_72 (ad 19) rfl ?_
            refine lv_iload_n hx hb dX1_straighten_73 rfl (lv_at hl 1 rfl) ?_
            refine va_lald hx hb hK hP 19 1 rfl rfl (j_in (a := L1.toInt) rfl (by omega) (by omega)) dX1_straighten_74 ?_
            refine lv_aload_n hx hb dX1_straighten_75 rfl (lv_at hl 0 rfl) ?_
            refine gf (k := 0) hx hb hts inX1 hown hK hP k_116 rfl (by decide) rfl 14 rfl (.ref (ad 15)) rfl dX1_straighten_76 ?_
            refine lv_iconst (v := 0) hx hb dX1_straighten_79 (by decide) ?_
            refine ld_a hx hb hK hP 15 3 rfl rfl (vin (by decide +kernel)) dX1_straighten_80 (ad 18) rfl ?_
            refine lv_iload_n hx hb dX1_straighten_81 rfl (lv_at hl 1 rfl) ?_
            refine va_lald hx hb hK hP 18 1 rfl rfl (j_in (a := L1.toInt) rfl (by omega) (by omega)) dX1_straighten_82 ?_
            have hM := m136_J9_floorDiv_f86c9 l dC dI cI cJ cII cJJ H.size 0 ad f3_unknowns f3_equations f2_roundSupports f2_stale f7_size f1_size f5_keptSize f5_aheadSize f0_solved f4_blockCount f4_blockLength f4_lastIsFree f4_stale ai al (ad 18) (ad 19) w2 w3 (al 19 L1.toNatClampNeg) (al 18 L1.toNatClampNeg) (by omega) (by omega) (by omega) (by omega) (by omega) (by omega) (by omega) (by omega) (by omega) (by omega) (by omega) (lz e_z32 (by omega)) hI (RWX_18 ad) (RWX_19 ad) hw_w2 hw_w3
            refine k2S_l ⟨hx, hb, hml, hown, hts⟩ hK hP hD hS hA hX cs_RX1_53 hM ⟨by decide +kernel, by decide +kernel⟩ rfl rfl (Or.inl rfl) (rest := [.int 0, .int 1, .ref (ad 14)]) rfl hl.1 rfl (Nat.le_of_ble_eq_true rfl) dX1_straighten_83 ⟨Nat.le_of_ble_eq_true rfl, Nat.le_of_ble_eq_true rfl⟩ (fun r44 t H1 locs_103 ht hB hS_103 hFc => ?_)
            obtain ⟨-, hP_104, -, hD_104⟩ := hB
            rw [ht] at hP_104
            have hD_105 := hD_104.weaken (B := A) (fun k q _ h9 => hFc q.1 h9)
            clear ht
            generalize H1 = H_106 at hP_104 hS_103 ⊢
            have kc0 : (0 : Int32).toInt = 0 := by decide +kernel
            have kc1 : (1 : Int32).toInt = 1 := by decide +kernel
            have hM := m087_X1_subtract l dC dI cI cJ cII cJJ H_106.size 0 ad f3_unknowns f3_equations f2_roundSupports f2_stale f7_size f1_size f5_keptSize f5_aheadSize f0_solved f4_blockCount f4_blockLength f4_lastIsFree f4_stale ai al (ad 18) (ad 19) w2 w3 1 0 r44 (by decide +kernel) (by decide +kernel) (by omega) (by omega) (by omega) (by omega) (by omega) (by omega) (by omega) (by omega) (by omega) (by omega) (by omega) hI (RWX_18 ad) (RWX_19 ad) hw_w2 hw_w3
            refine k2V_v (q0 := 14) ⟨hx, hb, hml, hown, hts⟩ hK hP_104 hD_105 hS_103 hA hX cv_RX1_59 hM ⟨by decide +kernel, by decide +kernel⟩ rfl rfl (Or.inl rfl) (rest := []) rfl rfl rfl hl.1 rfl (Nat.le_of_ble_eq_true rfl) dX1_straighten_86 ⟨Nat.le_of_ble_eq_true rfl, Nat.le_of_ble_eq_true rfl⟩ (fun t H1 locs_107 ht hB hS_107 hFc => ?_)
            obtain ⟨al46, hGr_r45, hP_108, -, hD_108⟩ := hB
            have hG_109 := FL_tr hG hGr_r45 (by decide)
            rw [ht] at hP_108
            have hD_110 := hD_108.weaken (B := A) (fun k q _ h9 => hFc q.1 h9)
            clear ht
            generalize H1 = H_111 at hP_108 hS_107 ⊢
            exact r2_v hx hb hr hk hS_107 dX1_straighten_89 (fun t ht hW => ⟨f1_size, ai, al46, (ad 18), (ad 19), w2, w3, ⟨(by first | omega | decide | exact Or.inl (by decide) | exact Or.inr (by decide) | exact Or.inr (by omega)), hI, hF, hG_109, (RWX_18 ad), (RWX_19 ad), hw_w2, hw_w3⟩, by rw [ht]; exact hP_108, va_K.moved hW.alike hK, hD_110⟩)
      · skip
        refine ld_a hx hb hK hP 15 3 rfl rfl (vin (by decide +kernel)) dX1_straighten_56 (ad 19) rfl ?_
        refine lv_iload_n hx hb dX1_straighten_57 rfl (lv_at hl 1 rfl) ?_
        refine va_lald hx hb hK hP 19 1 rfl rfl (j_in (a := L1.toInt) rfl (by omega) (by omega)) dX1_straighten_58 ?_
        refine lv_lconst (v := 0) hx hb dX1_straighten_59 (by decide) ?_
        refine v_lcmp hx hb dX1_straighten_60 _ rfl ?_
        refine lv_topi (fun z47 e_z47 => ?_)
        refine lv_if_eq (tgt := 90) hx hb dX1_straighten_61 (by decide) (fun c48 => ?_) (fun c48 => ?_)
        · have c48 := j_eq (a := z47.toInt) (b := 0) rfl (by decide +kernel) c48
          obtain ⟨z49, e_z49⟩ : ∃ q : Int32, q = L1 + Int32.ofInt 1 := ⟨_, rfl⟩
          have g_z49 : z49.toInt = L1.toInt + 1 := by rw [e_z49]; exact n_add (a := L1.toInt) (b := 1) rfl (by decide +kernel) (by omega) (by omega)
          refine lv_iinc (v := z49) (lv' := [(1, .int z49), (0, .ref (ad 14))]) hx hb dX1_straighten_90 hl (k := 1) rfl e_z49.symm (by decide) rfl (fun ls_112 hl_112 => ?_)
          refine lv_goto (tgt := 46) hx hb dX1_straighten_93 (by decide) ?_
          exact ih z49 f1_size ai al (ad 19) w1 w2 w3 _ _ _ (by omega) (by omega) (by omega) (by omega) (by omega) (by omega) (by omega) (by omega) (by omega) (by omega) (by omega) (by omega) (by omega) (by omega) hI hF hG (RWX_19 ad) hw_w1 hw_w2 hw_w3 hP hD hS (lv_sub hl_112 [1, 0] rfl)
        · have c48 := j_ne (a := z47.toInt) (b := 0) rfl (by decide +kernel) c48
          refine lv_aload_n hx hb dX1_straighten_64 rfl (lv_at hl 0 rfl) ?_
          refine lv_iconst (v := 1) hx hb dX1_straighten_65 (by decide) ?_
          refine lv_iconst (v := 0) hx hb dX1_straighten_66 (by decide) ?_
          refine lv_aload_n hx hb dX1_straighten_67 rfl (lv_at hl 0 rfl) ?_
          refine gf (k := 0) hx hb hts inX1 hown hK hP k_116 rfl (by decide) rfl 14 rfl (.ref (ad 15)) rfl dX1_straighten_68 ?_
          refine lv_iconst (v := 1) hx hb dX1_straighten_71 (by decide) ?_
          rcases hw_w1 with rfl | rfl | rfl | rfl
          · skip
            refine ld_a hx hb hK hP 15 3 rfl rfl (vin (by decide +kernel)) dX1_straighten_72 (ad 16) rfl ?_
            refine lv_iload_n hx hb dX1_straighten_73 rfl (lv_at hl 1 rfl) ?_
            refine va_lald hx hb hK hP 16 1 rfl rfl (j_in (a := L1.toInt) rfl (by omega) (by omega)) dX1_straighten_74 ?_
            refine lv_aload_n hx hb dX1_straighten_75 rfl (lv_at hl 0 rfl) ?_
            refine gf (k := 0) hx hb hts inX1 hown hK hP k_116 rfl (by decide) rfl 14 rfl (.ref (ad 15)) rfl dX1_straighten_76 ?_
            refine lv_iconst (v := 0) hx hb dX1_straighten_79 (by decide) ?_
            refine ld_a hx hb hK hP 15 3 rfl rfl (vin (by decide +kernel)) dX1_straighten_80 (ad 19) rfl ?_
            refine lv_iload_n hx hb dX1_straighten_81 rfl (lv_at hl 1 rfl) ?_
            refine va_lald hx hb hK hP 19 1 rfl rfl (j_in (a := L1.toInt) rfl (by omega) (by omega)) dX1_straighten_82 ?_
            have hM := m136_J9_floorDiv_f86c9 l dC dI cI cJ cII cJJ H.size 0 ad f3_unknowns f3_equations f2_roundSupports f2_stale f7_size f1_size f5_keptSize f5_aheadSize f0_solved f4_blockCount f4_blockLength f4_lastIsFree f4_stale ai al (ad 19) (ad 16) w2 w3 (al 16 L1.toNatClampNeg) (al 19 L1.toNatClampNeg) (by omega) (by omega) (by omega) (by omega) (by omega) (by omega) (by omega) (by omega) (by omega) (by omega) (by omega) (lz e_z47 (by omega)) hI (RWX_19 ad) (RWX_16 ad) hw_w2 hw_w3
            refine k2S_l ⟨hx, hb, hml, hown, hts⟩ hK hP hD hS hA hX cs_RX1_53 hM ⟨by decide +kernel, by decide +kernel⟩ rfl rfl (Or.inl rfl) (rest := [.int 0, .int 1, .ref (ad 14)]) rfl hl.1 rfl (Nat.le_of_ble_eq_true rfl) dX1_straighten_83 ⟨Nat.le_of_ble_eq_true rfl, Nat.le_of_ble_eq_true rfl⟩ (fun r50 t H1 locs_113 ht hB hS_113 hFc => ?_)
            obtain ⟨-, hP_114, -, hD_114⟩ := hB
            rw [ht] at hP_114
            have hD_115 := hD_114.weaken (B := A) (fun k q _ h9 => hFc q.1 h9)
            clear ht
            generalize H1 = H_116 at hP_114 hS_113 ⊢
            have kc0 : (0 : Int32).toInt = 0 := by decide +kernel
            have kc1 : (1 : Int32).toInt = 1 := by decide +kernel
            have hM := m087_X1_subtract l dC dI cI cJ cII cJJ H_116.size 0 ad f3_unknowns f3_equations f2_roundSupports f2_stale f7_size f1_size f5_keptSize f5_aheadSize f0_solved f4_blockCount f4_blockLength f4_lastIsFree f4_stale ai al (ad 19) (ad 16) w2 w3 1 0 r50 (by decide +kernel) (by decide +kernel) (by omega) (by omega) (by omega) (by omega) (by omega) (by omega) (by omega) (by omega) (by omega) (by omega) (by omega) hI (RWX_19 ad) (RWX_16 ad) hw_w2 hw_w3
            refine k2V_v (q0 := 14) ⟨hx, hb, hml, hown, hts⟩ hK hP_114 hD_115 hS_113 hA hX cv_RX1_59 hM ⟨by decide +kernel, by decide +kernel⟩ rfl rfl (Or.inl rfl) (rest := []) rfl rfl rfl hl.1 rfl (Nat.le_of_ble_eq_true rfl) dX1_straighten_86 ⟨Nat.le_of_ble_eq_true rfl, Nat.le_of_ble_eq_true rfl⟩ (fun t H1 locs_117 ht hB hS_117 hFc => ?_)
            obtain ⟨al52, hGr_r51, hP_118, -, hD_118⟩ := hB
            have hG_119 := FL_tr hG hGr_r51 (by decide)
            rw [ht] at hP_118
            have hD_120 := hD_118.weaken (B := A) (fun k q _ h9 => hFc q.1 h9)
            clear ht
            generalize H1 = H_121 at hP_118 hS_117 ⊢
            exact r2_v hx hb hr hk hS_117 dX1_straighten_89 (fun t ht hW => ⟨f1_size, ai, al52, (ad 19), (ad 16), w2, w3, ⟨(by first | omega | decide | exact Or.inl (by decide) | exact Or.inr (by decide) | exact Or.inr (by omega)), hI, hF, hG_119, (RWX_19 ad), (RWX_16 ad), hw_w2, hw_w3⟩, by rw [ht]; exact hP_118, va_K.moved hW.alike hK, hD_120⟩)
          · skip
            refine ld_a hx hb hK hP 15 3 rfl rfl (vin (by decide +kernel)) dX1_straighten_72 (ad 17) rfl ?_
            refine lv_iload_n hx hb dX1_straighten_73 rfl (lv_at hl 1 rfl) ?_
            refine va_lald hx hb hK hP 17 1 rfl rfl (j_in (a := L1.toInt) rfl (by omega) (by omega)) dX1_straighten_74 ?_
            refine lv_aload_n hx hb dX1_straighten_75 rfl (lv_at hl 0 rfl) ?_
            refine gf (k := 0) hx hb hts inX1 hown hK hP k_116 rfl (by decide) rfl 14 rfl (.ref (ad 15)) rfl dX1_straighten_76 ?_
            refine lv_iconst (v := 0) hx hb dX1_straighten_79 (by decide) ?_
            refine ld_a hx hb hK hP 15 3 rfl rfl (vin (by decide +kernel)) dX1_straighten_80 (ad 19) rfl ?_
            refine lv_iload_n hx hb dX1_straighten_81 rfl (lv_at hl 1 rfl) ?_
            refine va_lald hx hb hK hP 19 1 rfl rfl (j_in (a := L1.toInt) rfl (by omega) (by omega)) dX1_straighten_82 ?_
            have hM := m136_J9_floorDiv_f86c9 l dC dI cI cJ cII cJJ H.size 0 ad f3_unknowns f3_equations f2_roundSupports f2_stale f7_size f1_size f5_keptSize f5_aheadSize f0_solved f4_blockCount f4_blockLength f4_lastIsFree f4_stale ai al (ad 19) (ad 17) w2 w3 (al 17 L1.toNatClampNeg) (al 19 L1.toNatClampNeg) (by omega) (by omega) (by omega) (by omega) (by omega) (by omega) (by omega) (by omega) (by omega) (by omega) (by omega) (lz e_z47 (by omega)) hI (RWX_19 ad) (RWX_17 ad) hw_w2 hw_w3
            refine k2S_l ⟨hx, hb, hml, hown, hts⟩ hK hP hD hS hA hX cs_RX1_53 hM ⟨by decide +kernel, by decide +kernel⟩ rfl rfl (Or.inl rfl) (rest := [.int 0, .int 1, .ref (ad 14)]) rfl hl.1 rfl (Nat.le_of_ble_eq_true rfl) dX1_straighten_83 ⟨Nat.le_of_ble_eq_true rfl, Nat.le_of_ble_eq_true rfl⟩ (fun r53 t H1 locs_122 ht hB hS_122 hFc => ?_)
            obtain ⟨-, hP_123, -, hD_123⟩ := hB
            rw [ht] at hP_123
            have hD_124 := hD_123.weaken (B := A) (fun k q _ h9 => hFc q.1 h9)
            clear ht
            generalize H1 = H_125 at hP_123 hS_122 ⊢
            have kc0 : (0 : Int32).toInt = 0 := by decide +kernel
            have kc1 : (1 : Int32).toInt = 1 := by decide +kernel
            have hM := m087_X1_subtract l dC dI cI cJ cII cJJ H_125.size 0 ad f3_unknowns f3_equations f2_roundSupports f2_stale f7_size f1_size f5_keptSize f5_aheadSize f0_solved f4_blockCount f4_blockLength f4_lastIsFree f4_stale ai al (ad 19) (ad 17) w2 w3 1 0 r53 (by decide +kernel) (by decide +kernel) (by omega) (by omega) (by omega) (by omega) (by omega) (by omega) (by omega) (by omega) (by omega) (by omega) (by omega) hI (RWX_19 ad) (RWX_17 ad) hw_w2 hw_w3
            refine k2V_v (q0 := 14) ⟨hx, hb, hml, hown, hts⟩ hK hP_123 hD_124 hS_122 hA hX cv_RX1_59 hM ⟨by decide +kernel, by decide +kernel⟩ rfl rfl (Or.inl rfl) (rest := []) rfl rfl rfl hl.1 rfl (Nat.le_of_ble_eq_true rfl) dX1_straighten_86 ⟨Nat.le_of_ble_eq_true rfl, Nat.le_of_ble_eq_true rfl⟩ (fun t H1 locs_126 ht hB hS_126 hFc => ?_)
            obtain ⟨al55, hGr_r54, hP_127, -, hD_127⟩ := hB
            have hG_128 := FL_tr hG hGr_r54 (by decide)
            rw [ht] at hP_127
            have hD_129 := hD_127.weaken (B := A) (fun k q _ h9 => hFc q.1 h9)
            clear ht
            generalize H1 = H_130 at hP_127 hS_126 ⊢
            exact r2_v hx hb hr hk hS_126 dX1_straighten_89 (fun t ht hW => ⟨f1_size, ai, al55, (ad 19), (ad 17), w2, w3, ⟨(by first | omega | decide | exact Or.inl (by decide) | exact Or.inr (by decide) | exact Or.inr (by omega)), hI, hF, hG_128, (RWX_19 ad), (RWX_17 ad), hw_w2, hw_w3⟩, by rw [ht]; exact hP_127, va_K.moved hW.alike hK, hD_129⟩)
          · skip
            refine ld_a hx hb hK hP 15 3 rfl rfl (vin (by decide +kernel)) dX1_straighten_72 (ad 18) rfl ?_
            refine lv_iload_n hx hb dX1_straighten_73 rfl (lv_at hl 1 rfl) ?_
            refine va_lald hx hb hK hP 18 1 rfl rfl (j_in (a := L1.toInt) rfl (by omega) (by omega)) dX1_straighten_74 ?_
            refine lv_aload_n hx hb dX1_straighten_75 rfl (lv_at hl 0 rfl) ?_
            refine gf (k := 0) hx hb hts inX1 hown hK hP k_116 rfl (by decide) rfl 14 rfl (.ref (ad 15)) rfl dX1_straighten_76 ?_
            refine lv_iconst (v := 0) hx hb dX1_straighten_79 (by decide) ?_
            refine ld_a hx hb hK hP 15 3 rfl rfl (vin (by decide +kernel)) dX1_straighten_80 (ad 19) rfl ?_
            refine lv_iload_n hx hb dX1_straighten_81 rfl (lv_at hl 1 rfl) ?_
            refine va_lald hx hb hK hP 19 1 rfl rfl (j_in (a := L1.toInt) rfl (by omega) (by omega)) dX1_straighten_82 ?_
            have hM := m136_J9_floorDiv_f86c9 l dC dI cI cJ cII cJJ H.size 0 ad f3_unknowns f3_equations f2_roundSupports f2_stale f7_size f1_size f5_keptSize f5_aheadSize f0_solved f4_blockCount f4_blockLength f4_lastIsFree f4_stale ai al (ad 19) (ad 18) w2 w3 (al 18 L1.toNatClampNeg) (al 19 L1.toNatClampNeg) (by omega) (by omega) (by omega) (by omega) (by omega) (by omega) (by omega) (by omega) (by omega) (by omega) (by omega) (lz e_z47 (by omega)) hI (RWX_19 ad) (RWX_18 ad) hw_w2 hw_w3
            refine k2S_l ⟨hx, hb, hml, hown, hts⟩ hK hP hD hS hA hX cs_RX1_53 hM ⟨by decide +kernel, by decide +kernel⟩ rfl rfl (Or.inl rfl) (rest := [.int 0, .int 1, .ref (ad 14)]) rfl hl.1 rfl (Nat.le_of_ble_eq_true rfl) dX1_straighten_83 ⟨Nat.le_of_ble_eq_true rfl, Nat.le_of_ble_eq_true rfl⟩ (fun r56 t H1 locs_131 ht hB hS_131 hFc => ?_)
            obtain ⟨-, hP_132, -, hD_132⟩ := hB
            rw [ht] at hP_132
            have hD_133 := hD_132.weaken (B := A) (fun k q _ h9 => hFc q.1 h9)
            clear ht
            generalize H1 = H_134 at hP_132 hS_131 ⊢
            have kc0 : (0 : Int32).toInt = 0 := by decide +kernel
            have kc1 : (1 : Int32).toInt = 1 := by decide +kernel
            have hM := m087_X1_subtract l dC dI cI cJ cII cJJ H_134.size 0 ad f3_unknowns f3_equations f2_roundSupports f2_stale f7_size f1_size f5_keptSize f5_aheadSize f0_solved f4_blockCount f4_blockLength f4_lastIsFree f4_stale ai al (ad 19) (ad 18) w2 w3 1 0 r56 (by decide +kernel) (by decide +kernel) (by omega) (by omega) (by omega) (by omega) (by omega) (by omega) (by omega) (by omega) (by omega) (by omega) (by omega) hI (RWX_19 ad) (RWX_18 ad) hw_w2 hw_w3
            refine k2V_v (q0 := 14) ⟨hx, hb, hml, hown, hts⟩ hK hP_132 hD_133 hS_131 hA hX cv_RX1_59 hM ⟨by decide +kernel, by decide +kernel⟩ rfl rfl (Or.inl rfl) (rest := []) rfl rfl rfl hl.1 rfl (Nat.le_of_ble_eq_true rfl) dX1_straighten_86 ⟨Nat.le_of_ble_eq_true rfl, Nat.le_of_ble_eq_true rfl⟩ (fun t H1 locs_135 ht hB hS_135 hFc => ?_)
            obtain ⟨al58, hGr_r57, hP_136, -, hD_136⟩ := hB
            have hG_137 := FL_tr hG hGr_r57 (by decide)
            rw [ht] at hP_136
            have hD_138 := hD_136.weaken (B := A) (fun k q _ h9 => hFc q.1 h9)
            clear ht
            generalize H1 = H_139 at hP_136 hS_135 ⊢
            exact r2_v hx hb hr hk hS_135 dX1_straighten_89 (fun t ht hW => ⟨f1_size, ai, al58, (ad 19), (ad 18), w2, w3, ⟨(by first | omega | decide | exact Or.inl (by decide) | exact Or.inr (by decide) | exact Or.inr (by omega)), hI, hF, hG_137, (RWX_19 ad), (RWX_18 ad), hw_w2, hw_w3⟩, by rw [ht]; exact hP_136, va_K.moved hW.alike hK, hD_138⟩)
          · skip
            refine ld_a hx hb hK hP 15 3 rfl rfl (vin (by decide +kernel)) dX1_straighten_72 (ad 19) rfl ?_
            refine lv_iload_n hx hb dX1_straighten_73 rfl (lv_at hl 1 rfl) ?_
            refine va_lald hx hb hK hP 19 1 rfl rfl (j_in (a := L1.toInt) rfl (by omega) (by omega)) dX1_straighten_74 ?_
            refine lv_aload_n hx hb dX1_straighten_75 rfl (lv_at hl 0 rfl) ?_
            refine gf (k := 0) hx hb hts inX1 hown hK hP k_116 rfl (by decide) rfl 14 rfl (.ref (ad 15)) rfl dX1_straighten_76 ?_
            refine lv_iconst (v := 0) hx hb dX1_straighten_79 (by decide) ?_
            refine ld_a hx hb hK hP 15 3 rfl rfl (vin (by decide +kernel)) dX1_straighten_80 (ad 19) rfl ?_
            refine lv_iload_n hx hb dX1_straighten_81 rfl (lv_at hl 1 rfl) ?_
            refine va_lald hx hb hK hP 19 1 rfl rfl (j_in (a := L1.toInt) rfl (by omega) (by omega)) dX1_straighten_82 ?_
            have hM := m136_J9_floorDiv_f86c9 l dC dI cI cJ cII cJJ H.size 0 ad f3_unknowns f3_equations f2_roundSupports f2_stale f7_size f1_size f5_keptSize f5_aheadSize f0_solved f4_blockCount f4_blockLength f4_lastIsFree f4_stale ai al (ad 19) (ad 19) w2 w3 (al 19 L1.toNatClampNeg) (al 19 L1.toNatClampNeg) (by omega) (by omega) (by omega) (by omega) (by omega) (by omega) (by omega) (by omega) (by omega) (by omega) (by omega) (lz e_z47 (by omega)) hI (RWX_19 ad) (RWX_19 ad) hw_w2 hw_w3
            refine k2S_l ⟨hx, hb, hml, hown, hts⟩ hK hP hD hS hA hX cs_RX1_53 hM ⟨by decide +kernel, by decide +kernel⟩ rfl rfl (Or.inl rfl) (rest := [.int 0, .int 1, .ref (ad 14)]) rfl hl.1 rfl (Nat.le_of_ble_eq_true rfl) dX1_straighten_83 ⟨Nat.le_of_ble_eq_true rfl, Nat.le_of_ble_eq_true rfl⟩ (fun r59 t H1 locs_140 ht hB hS_140 hFc => ?_)
            obtain ⟨-, hP_141, -, hD_141⟩ := hB
            rw [ht] at hP_141
            have hD_142 := hD_141.weaken (B := A) (fun k q _ h9 => hFc q.1 h9)
            clear ht
            generalize H1 = H_143 at hP_141 hS_140 ⊢
            have kc0 : (0 : Int32).toInt = 0 := by decide +kernel
            have kc1 : (1 : Int32).toInt = 1 := by decide +kernel
            have hM := m087_X1_subtract l dC dI cI cJ cII cJJ H_143.size 0 ad f3_unknowns f3_equations f2_roundSupports f2_stale f7_size f1_size f5_keptSize f5_aheadSize f0_solved f4_blockCount f4_blockLength f4_lastIsFree f4_stale ai al (ad 19) (ad 19) w2 w3 1 0 r59 (by decide +kernel) (by decide +kernel) (by omega) (by omega) (by omega) (by omega) (by omega) (by omega) (by omega) (by omega) (by omega) (by omega) (by omega) hI (RWX_19 ad) (RWX_19 ad) hw_w2 hw_w3
            refine k2V_v (q0 := 14) ⟨hx, hb, hml, hown, hts⟩ hK hP_141 hD_142 hS_140 hA hX cv_RX1_59 hM ⟨by decide +kernel, by decide +kernel⟩ rfl rfl (Or.inl rfl) (rest := []) rfl rfl rfl hl.1 rfl (Nat.le_of_ble_eq_true rfl) dX1_straighten_86 ⟨Nat.le_of_ble_eq_true rfl, Nat.le_of_ble_eq_true rfl⟩ (fun t H1 locs_144 ht hB hS_144 hFc => ?_)
            obtain ⟨al61, hGr_r60, hP_145, -, hD_145⟩ := hB
            have hG_146 := FL_tr hG hGr_r60 (by decide)
            rw [ht] at hP_145
            have hD_147 := hD_145.weaken (B := A) (fun k q _ h9 => hFc q.1 h9)
            clear ht
            generalize H1 = H_148 at hP_145 hS_144 ⊢
            exact r2_v hx hb hr hk hS_144 dX1_straighten_89 (fun t ht hW => ⟨f1_size, ai, al61, (ad 19), (ad 19), w2, w3, ⟨(by first | omega | decide | exact Or.inl (by decide) | exact Or.inr (by decide) | exact Or.inr (by omega)), hI, hF, hG_146, (RWX_19 ad), (RWX_19 ad), hw_w2, hw_w3⟩, by rw [ht]; exact hP_145, va_K.moved hW.alike hK, hD_147⟩)
set_option maxRecDepth 100000 in
set_option maxHeartbeats 4000000 in
theorem m137_X1_straighten_b44 {p : Program} {l : Launch} {e : Env} {s : State} {m : MethodId} {args : Array Value} {below : List Frame} {meth : Method} {c : Code} {A : Nat → Prop} {dC : Nat → ClassId} {dI : Nat → Nat → Nat} {cI cJ cII cJJ : ClassId} {ad : Nat → Nat} {g : Nat} {f3_unknowns f3_equations f2_roundSupports f2_stale f7_size f5_keptSize f5_aheadSize f0_solved f4_blockCount f4_blockLength f4_lastIsFree f4_stale : Int32} {ai0 : Nat → Nat → Int32} {al0 : Nat → Nat → Int64} (C : Cx p c s m meth args A dC dI (TY cI cJ cII cJJ) cX1_straighten none 2 RX1 1 g) : ∀ (L1 f1_size : Int32) (ai : Nat → Nat → Int32) (al : Nat → Nat → Int64) (w0 w1 w2 w3 : Nat) (H : Heap) (locs : List Loc) (ls : Array Slot), (0 ≤ L1.toInt ∧ L1.toInt ≤ 4) → (1 ≤ f3_unknowns.toInt ∧ f3_unknowns.toInt ≤ 4) → (0 ≤ f3_equations.toInt ∧ f3_equations.toInt ≤ 3) → (0 ≤ f2_stale.toInt ∧ f2_stale.toInt ≤ 1) → (0 ≤ f7_size.toInt ∧ f7_size.toInt ≤ 256) → (0 ≤ f1_size.toInt ∧ f1_size.toInt ≤ 4) → (0 ≤ f5_keptSize.toInt ∧ f5_keptSize.toInt ≤ 128) → (0 ≤ f5_aheadSize.toInt ∧ f5_aheadSize.toInt ≤ 128) → (0 ≤ f4_blockCount.toInt ∧ f4_blockCount.toInt ≤ 9261) → (0 ≤ f4_blockLength.toInt ∧ f4_blockLength.toInt ≤ 21) → (0 ≤ f4_lastIsFree.toInt ∧ f4_lastIsFree.toInt ≤ 1) → (0 ≤ f4_stale.toInt ∧ f4_stale.toInt ≤ 1) → IAX ai → FR [21] ai0 ai → FL [16, 17, 18, 19, 20] al0 al → RWX ad w0 → RWX ad w1 → RWX ad w2 → RWX ad w3 → va_P (dC, dI) vwCl (WX cI cJ cII cJJ ad f3_unknowns f3_equations f2_roundSupports f2_stale f7_size f1_size f5_keptSize f5_aheadSize f0_solved f4_blockCount f4_blockLength f4_lastIsFree f4_stale ai al w0 w1 w2 w3) H → va_D A (WX cI cJ cII cJJ ad f3_unknowns f3_equations f2_roundSupports f2_stale f7_size f1_size f5_keptSize f5_aheadSize f0_solved f4_blockCount f4_blockLength f4_lastIsFree f4_stale ai al w0 w1 w2 w3) → va_S A s.heap H locs → lv_has ls 2 [(0, .ref (ad 14)), (1, .int L1)] → W p l e ({ frames := 5, cells := 0, slots := 0, locals := 260 } : Room) s m args below meth c H locs 0 0 (MQ below (Q_m137_X1_straighten dC dI cI cJ cII cJJ ad f3_unknowns f3_equations f2_roundSupports f2_stale f7_size f5_keptSize f5_aheadSize f0_solved f4_blockCount f4_blockLength f4_lastIsFree f4_stale ai0 al0 A) args s 0 0 A) (F0 m 44 ls []) := by
  obtain ⟨hx, hb, hr, hml, hown, hts, hk, hA, hK, hX⟩ := id C
  intro L1 f1_size ai al w0 w1 w2 w3 H locs ls h0 h1 h2 h3 h4 h5 h6 h7 h8 h9 h10 h11 hI hF hG hw_w0 hw_w1 hw_w2 hw_w3 hP hD hS hl
  refine lv_iconst (v := 0) hx hb dX1_straighten_44 (by decide) ?_
  refine lv_istore_n (lv' := [(1, .int 0), (0, .ref (ad 14))]) hx hb dX1_straighten_45 rfl hl (by decide) rfl (fun ls_1 hl_1 => ?_)
  exact m137_X1_straighten_b46 C  _ 0 f1_size ai al w0 w1 w2 w3 _ _ _ (by first | omega | decide | (have ka0 := (by decide +kernel : (0 : Int32).toInt = 0); omega)) (by first | omega | decide | (have ka0 := (by decide +kernel : (0 : Int32).toInt = 0); omega)) (by first | omega | decide | (have ka0 := (by decide +kernel : (0 : Int32).toInt = 0); omega)) (by first | omega | decide | (have ka0 := (by decide +kernel : (0 : Int32).toInt = 0); omega)) (by first | omega | decide | (have ka0 := (by decide +kernel : (0 : Int32).toInt = 0); omega)) (by first | omega | decide | (have ka0 := (by decide +kernel : (0 : Int32).toInt = 0); omega)) (by first | omega | decide | (have ka0 := (by decide +kernel : (0 : Int32).toInt = 0); omega)) (by first | omega | decide | (have ka0 := (by decide +kernel : (0 : Int32).toInt = 0); omega)) (by first | omega | decide | (have ka0 := (by decide +kernel : (0 : Int32).toInt = 0); omega)) (by first | omega | decide | (have ka0 := (by decide +kernel : (0 : Int32).toInt = 0); omega)) (by first | omega | decide | (have ka0 := (by decide +kernel : (0 : Int32).toInt = 0); omega)) (by first | omega | decide | (have ka0 := (by decide +kernel : (0 : Int32).toInt = 0); omega)) (j_fuel _) (by omega) hI hF hG hw_w0 hw_w1 hw_w2 hw_w3 hP hD hS (lv_sub hl_1 [1, 0] rfl)
set_option maxRecDepth 100000 in
set_option maxHeartbeats 4000000 in
theorem m137_X1_straighten_b2 {p : Program} {l : Launch} {e : Env} {s : State} {m : MethodId} {args : Array Value} {below : List Frame} {meth : Method} {c : Code} {A : Nat → Prop} {dC : Nat → ClassId} {dI : Nat → Nat → Nat} {cI cJ cII cJJ : ClassId} {ad : Nat → Nat} {g : Nat} {f3_unknowns f3_equations f2_roundSupports f2_stale f7_size f5_keptSize f5_aheadSize f0_solved f4_blockCount f4_blockLength f4_lastIsFree f4_stale : Int32} {ai0 : Nat → Nat → Int32} {al0 : Nat → Nat → Int64} (C : Cx p c s m meth args A dC dI (TY cI cJ cII cJJ) cX1_straighten none 2 RX1 1 g) : ∀ (n : Nat), ∀ (L1 f1_size : Int32) (ai : Nat → Nat → Int32) (al : Nat → Nat → Int64) (w0 w1 w2 w3 : Nat) (H : Heap) (locs : List Loc) (ls : Array Slot), (0 ≤ L1.toInt ∧ L1.toInt ≤ 4) → (1 ≤ f3_unknowns.toInt ∧ f3_unknowns.toInt ≤ 4) → (0 ≤ f3_equations.toInt ∧ f3_equations.toInt ≤ 3) → (0 ≤ f2_stale.toInt ∧ f2_stale.toInt ≤ 1) → (0 ≤ f7_size.toInt ∧ f7_size.toInt ≤ 256) → (0 ≤ f1_size.toInt ∧ f1_size.toInt ≤ 4) → (0 ≤ f5_keptSize.toInt ∧ f5_keptSize.toInt ≤ 128) → (0 ≤ f5_aheadSize.toInt ∧ f5_aheadSize.toInt ≤ 128) → (0 ≤ f4_blockCount.toInt ∧ f4_blockCount.toInt ≤ 9261) → (0 ≤ f4_blockLength.toInt ∧ f4_blockLength.toInt ≤ 21) → (0 ≤ f4_lastIsFree.toInt ∧ f4_lastIsFree.toInt ≤ 1) → (0 ≤ f4_stale.toInt ∧ f4_stale.toInt ≤ 1) → 4 - L1.toInt < (n : Int) → (0 : Int) < (n : Int) → IAX ai → FR [21] ai0 ai → FL [16, 17, 18, 19, 20] al0 al → RWX ad w0 → RWX ad w1 → RWX ad w2 → RWX ad w3 → va_P (dC, dI) vwCl (WX cI cJ cII cJJ ad f3_unknowns f3_equations f2_roundSupports f2_stale f7_size f1_size f5_keptSize f5_aheadSize f0_solved f4_blockCount f4_blockLength f4_lastIsFree f4_stale ai al w0 w1 w2 w3) H → va_D A (WX cI cJ cII cJJ ad f3_unknowns f3_equations f2_roundSupports f2_stale f7_size f1_size f5_keptSize f5_aheadSize f0_solved f4_blockCount f4_blockLength f4_lastIsFree f4_stale ai al w0 w1 w2 w3) → va_S A s.heap H locs → lv_has ls 2 [(0, .ref (ad 14)), (1, .int L1)] → W p l e ({ frames := 5, cells := 0, slots := 0, locals := 260 } : Room) s m args below meth c H locs 0 0 (MQ below (Q_m137_X1_straighten dC dI cI cJ cII cJJ ad f3_unknowns f3_equations f2_roundSupports f2_stale f7_size f5_keptSize f5_aheadSize f0_solved f4_blockCount f4_blockLength f4_lastIsFree f4_stale ai0 al0 A) args s 0 0 A) (F0 m 2 ls []) := by
  obtain ⟨hx, hb, hr, hml, hown, hts, hk, hA, hK, hX⟩ := id C
  intro n
  induction n with
  | zero =>
    intro L1 f1_size ai al w0 w1 w2 w3 H locs ls h0 h1 h2 h3 h4 h5 h6 h7 h8 h9 h10 h11 h12 h13 hI hF hG hw_w0 hw_w1 hw_w2 hw_w3 hP hD hS hl
    exact absurd h13 (by omega)
  | succ n ih =>
    intro L1 f1_size ai al w0 w1 w2 w3 H locs ls h0 h1 h2 h3 h4 h5 h6 h7 h8 h9 h10 h11 h12 h13 hI hF hG hw_w0 hw_w1 hw_w2 hw_w3 hP hD hS hl
    refine lv_iload_n hx hb dX1_straighten_2 rfl (lv_at hl 1 rfl) ?_
    refine lv_iconst (v := 4) hx hb dX1_straighten_3 (by decide) ?_
    refine lv_icmp_ge (tgt := 44) hx hb dX1_straighten_4 (by decide) (fun c1 => ?_) (fun c1 => ?_)
    · have c1 := j_le (a := 4) (b := L1.toInt) (by decide +kernel) rfl c1
      exact m137_X1_straighten_b44 C  L1 f1_size ai al w0 w1 w2 w3 _ _ _ (by omega) (by omega) (by omega) (by omega) (by omega) (by omega) (by omega) (by omega) (by omega) (by omega) (by omega) (by omega) hI hF hG hw_w0 hw_w1 hw_w2 hw_w3 hP hD hS (lv_sub hl [0, 1] rfl)
    · have c1 := j_nle (a := 4) (b := L1.toInt) (by decide +kernel) rfl c1
      refine lv_aload_n hx hb dX1_straighten_7 rfl (lv_at hl 0 rfl) ?_
      refine gf (k := 3) hx hb hts inX1 hown hK hP k_120 rfl (by decide) rfl 14 rfl (.int f1_size) rfl dX1_straighten_8 ?_
      refine lv_iconst (v := 2) hx hb dX1_straighten_11 (by decide) ?_
      refine lv_icmp_ne (tgt := 44) hx hb dX1_straighten_12 (by decide) (fun c2 => ?_) (fun c2 => ?_)
      · have c2 := j_ne (a := f1_size.toInt) (b := 2) rfl (by decide +kernel) c2
        exact m137_X1_straighten_b44 C  L1 f1_size ai al w0 w1 w2 w3 _ _ _ (by omega) (by omega) (by omega) (by omega) (by omega) (by omega) (by omega) (by omega) (by omega) (by omega) (by omega) (by omega) hI hF hG hw_w0 hw_w1 hw_w2 hw_w3 hP hD hS (lv_sub hl [0, 1] rfl)
      · have c2 := j_eq (a := f1_size.toInt) (b := 2) rfl (by decide +kernel) c2
        refine lv_aload_n hx hb dX1_straighten_15 rfl (lv_at hl 0 rfl) ?_
        refine gf (k := 2) hx hb hts inX1 hown hK hP k_119 rfl (by decide) rfl 14 rfl (.ref (ad 21)) rfl dX1_straighten_16 ?_
        refine lv_iconst (v := 0) hx hb dX1_straighten_19 (by decide) ?_
        have kc0 : (0 : Int32).toInt = 0 := by decide +kernel
        have hM := m135_J7_fill_53178 l dC dI cI cJ cII cJJ H.size 0 ad f3_unknowns f3_equations f2_roundSupports f2_stale f7_size f1_size f5_keptSize f5_aheadSize f0_solved f4_blockCount f4_blockLength f4_lastIsFree f4_stale ai al w0 w1 w2 w3 (by omega) (by omega) (by omega) (by omega) (by omega) (by omega) (by omega) (by omega) (by omega) (by omega) (by omega) hI hw_w0 hw_w1 hw_w2 hw_w3
        refine k2S_v ⟨hx, hb, hml, hown, hts⟩ hK hP hD hS hA hX cs_RX1_50 hM ⟨by decide +kernel, by decide +kernel⟩ rfl rfl (Or.inl rfl) (rest := []) rfl hl.1 rfl (Nat.le_of_ble_eq_true rfl) dX1_straighten_20 ⟨Nat.le_of_ble_eq_true rfl, Nat.le_of_ble_eq_true rfl⟩ (fun t H1 locs_1 ht hB hS_1 hFc => ?_)
        obtain ⟨ai4, ⟨hI_2, hFr_r3⟩, hP_2, -, hD_2⟩ := hB
        have hF_3 := FR_tr hF hFr_r3 (by decide)
        rw [ht] at hP_2
        have hD_4 := hD_2.weaken (B := A) (fun k q _ h9 => hFc q.1 h9)
        clear ht
        generalize H1 = H_5 at hP_2 hS_1 ⊢
        refine lv_aload_n hx hb dX1_straighten_23 rfl (lv_at hl 0 rfl) ?_
        refine gf (k := 2) hx hb hts inX1 hown hK hP_2 k_119 rfl (by decide) rfl 14 rfl (.ref (ad 21)) rfl dX1_straighten_24 ?_
        refine lv_iload_n hx hb dX1_straighten_27 rfl (lv_at hl 1 rfl) ?_
        refine lv_iconst (v := 1) hx hb dX1_straighten_28 (by decide) ?_
        refine va_iast hx hb hK hP_2 hD_4 hS_1 21 0 rfl rfl (j_in (a := L1.toInt) rfl (by omega) (by omega)) dX1_straighten_29 (fun H_6 locs_6 hP_6 hD_6 hS_6 => ?_)
        obtain ⟨ai5, e_ai5⟩ : ∃ q : Nat → Nat → Int32, q = va_up ai4 21 (upd (ai4 21) L1.toNatClampNeg 1) := ⟨_, rfl⟩
        have hF_7 := FR_st hF_3 e_ai5 (by decide)
        have hI_8 : IAX ai5 := by rw [e_ai5]; exact hI_2
        have hP_9 : va_P (dC, dI) vwCl (WX cI cJ cII cJJ ad f3_unknowns f3_equations f2_roundSupports f2_stale f7_size f1_size f5_keptSize f5_aheadSize f0_solved f4_blockCount f4_blockLength f4_lastIsFree f4_stale ai5 al w0 w1 w2 w3) H_6 := by rw [e_ai5]; exact hP_6
        have hD_10 : va_D A (WX cI cJ cII cJJ ad f3_unknowns f3_equations f2_roundSupports f2_stale f7_size f1_size f5_keptSize f5_aheadSize f0_solved f4_blockCount f4_blockLength f4_lastIsFree f4_stale ai5 al w0 w1 w2 w3) := by rw [e_ai5]; exact hD_6
        refine lv_aload_n hx hb dX1_straighten_30 rfl (lv_at hl 0 rfl) ?_
        refine lv_aload_n hx hb dX1_straighten_31 rfl (lv_at hl 0 rfl) ?_
        refine gf (k := 2) hx hb hts inX1 hown hK hP_9 k_119 rfl (by decide) rfl 14 rfl (.ref (ad 21)) rfl dX1_straighten_32 ?_
        have hM := m134_X1_impose l dC dI cI cJ cII cJJ H_6.size g ad f3_unknowns f3_equations f2_roundSupports f2_stale f7_size f1_size f5_keptSize f5_aheadSize f0_solved f4_blockCount f4_blockLength f4_lastIsFree f4_stale ai5 al w0 w1 w2 w3 (by omega) (by omega) (by omega) (by omega) (by omega) (by omega) (by omega) (by omega) (by omega) (by omega) (by omega) hI_8 hw_w0 hw_w1 hw_w2 hw_w3
        refine k2V_v (q0 := 14) ⟨hx, hb, hml, hown, hts⟩ hK hP_9 hD_10 hS_6 hA hX cv_RX1_46 hM ⟨by decide +kernel, by decide +kernel⟩ rfl rfl (Or.inr ⟨rfl, rfl, rfl⟩) (rest := []) rfl rfl rfl hl.1 rfl (Nat.le_of_ble_eq_true rfl) dX1_straighten_35 ⟨Nat.le_of_ble_eq_true rfl, Nat.le_of_ble_eq_true rfl⟩ (fun t H1 locs_11 ht hB hS_11 hFc => ?_)
        obtain ⟨v7, al8, w9, w10, w11, w12, ⟨gpr6_0, hGr_r6, hw_w9, hw_w10, hw_w11, hw_w12⟩, hP_12, -, hD_12⟩ := hB
        have hG_13 := FL_tr hG hGr_r6 (by decide)
        rw [ht] at hP_12
        have hD_14 := hD_12.weaken (B := A) (fun k q _ h9 => hFc q.1 h9)
        clear ht
        generalize H1 = H_15 at hP_12 hS_11 ⊢
        obtain ⟨z13, e_z13⟩ : ∃ q : Int32, q = L1 + Int32.ofInt 1 := ⟨_, rfl⟩
        have g_z13 : z13.toInt = L1.toInt + 1 := by rw [e_z13]; exact n_add (a := L1.toInt) (b := 1) rfl (by decide +kernel) (by omega) (by omega)
        refine lv_iinc (v := z13) (lv' := [(1, .int z13), (0, .ref (ad 14))]) hx hb dX1_straighten_38 hl (k := 1) rfl e_z13.symm (by decide) rfl (fun ls_16 hl_16 => ?_)
        refine lv_goto (tgt := 2) hx hb dX1_straighten_41 (by decide) ?_
        exact ih z13 v7 ai5 al8 w9 w10 w11 w12 _ _ _ (by omega) (by omega) (by omega) (by omega) (by omega) (by omega) (by omega) (by omega) (by omega) (by omega) (by omega) (by omega) (by omega) (by omega) hI_8 hF_7 hG_13 hw_w9 hw_w10 hw_w11 hw_w12 hP_12 hD_14 hS_11 (lv_sub hl_16 [1, 0] rfl)
set_option maxRecDepth 100000 in
set_option maxHeartbeats 4000000 in
theorem m137_X1_straighten (l : Launch) (dC : Nat → ClassId) (dI : Nat → Nat → Nat) (cI cJ cII cJJ : ClassId) (sz g : Nat) (ad : Nat → Nat) (f3_unknowns f3_equations f2_roundSupports f2_stale f7_size f1_size f5_keptSize f5_aheadSize f0_solved f4_blockCount f4_blockLength f4_lastIsFree f4_stale : Int32) (ai : Nat → Nat → Int32) (al : Nat → Nat → Int64) (w0 w1 w2 w3 : Nat) (h_f3_unknowns : (1 ≤ f3_unknowns.toInt ∧ f3_unknowns.toInt ≤ 4)) (h_f3_equations : (0 ≤ f3_equations.toInt ∧ f3_equations.toInt ≤ 3)) (h_f2_stale : (0 ≤ f2_stale.toInt ∧ f2_stale.toInt ≤ 1)) (h_f7_size : (0 ≤ f7_size.toInt ∧ f7_size.toInt ≤ 256)) (h_f1_size : (0 ≤ f1_size.toInt ∧ f1_size.toInt ≤ 4)) (h_f5_keptSize : (0 ≤ f5_keptSize.toInt ∧ f5_keptSize.toInt ≤ 128)) (h_f5_aheadSize : (0 ≤ f5_aheadSize.toInt ∧ f5_aheadSize.toInt ≤ 128)) (h_f4_blockCount : (0 ≤ f4_blockCount.toInt ∧ f4_blockCount.toInt ≤ 9261)) (h_f4_blockLength : (0 ≤ f4_blockLength.toInt ∧ f4_blockLength.toInt ≤ 21)) (h_f4_lastIsFree : (0 ≤ f4_lastIsFree.toInt ∧ f4_lastIsFree.toInt ≤ 1)) (h_f4_stale : (0 ≤ f4_stale.toInt ∧ f4_stale.toInt ≤ 1)) (hI : IAX ai) (hw_w0 : RWX ad w0) (hw_w1 : RWX ad w1) (hw_w2 : RWX ad w2) (hw_w3 : RWX ad w3) : Met l yX1_straighten (.code yX1_straighten cX1_straighten 2 none :: TT) ({ frames := 5, cells := 0, slots := 0, locals := 260 } : Room) (PcS dC dI (TY cI cJ cII cJJ) [.ref (ad 14)] (WX cI cJ cII cJJ ad f3_unknowns f3_equations f2_roundSupports f2_stale f7_size f1_size f5_keptSize f5_aheadSize f0_solved f4_blockCount f4_blockLength f4_lastIsFree f4_stale ai al w0 w1 w2 w3) sz 1 g) (Q_m137_X1_straighten dC dI cI cJ cII cJJ ad f3_unknowns f3_equations f2_roundSupports f2_stale f7_size f5_keptSize f5_aheadSize f0_solved f4_blockCount f4_blockLength f4_lastIsFree f4_stale ai al (va_A (WX cI cJ cII cJJ ad f3_unknowns f3_equations f2_roundSupports f2_stale f7_size f1_size f5_keptSize f5_aheadSize f0_solved f4_blockCount f4_blockLength f4_lastIsFree f4_stale ai al w0 w1 w2 w3) sz)) 0 0 (va_A (WX cI cJ cII cJJ ad f3_unknowns f3_equations f2_roundSupports f2_stale f7_size f1_size f5_keptSize f5_aheadSize f0_solved f4_blockCount f4_blockLength f4_lastIsFree f4_stale ai al w0 w1 w2 w3) sz) := by
  refine SM.of (y := yX1_straighten) (maxL := 2) (av := [.ref (ad 14)]) (Q_m137_X1_straighten dC dI cI cJ cII cJJ ad f3_unknowns f3_equations f2_roundSupports f2_stale f7_size f5_keptSize f5_aheadSize f0_solved f4_blockCount f4_blockLength f4_lastIsFree f4_stale ai al) (by decide +kernel) (Nat.le_of_ble_eq_true rfl) (fun p e s m below meth c A ls hx hb hr hml hown hts hk hnm hA hK hP hD hS hX hl => ?_)
  have C : Cx p c s m meth (([.ref (ad 14)] : List Value).toArray) A dC dI (TY cI cJ cII cJJ) cX1_straighten none 2 RX1 1 g := ⟨hx, hb, hr, hml, hown, hts, hk, hA, hK, hX⟩
  have hown : s.vm.findClass RX1 = some m.cls := hown
  have hl : lv_has ls 2 [(0, .ref (ad 14))] := hl
  obtain ⟨H, hH⟩ : ∃ q, q = s.heap := ⟨_, rfl⟩
  rw [← hH] at hP
  have hS : va_S A s.heap H [] := by rw [hH]; exact hS
  rw [← hH]
  have hF := FR_refl [21] ai
  have hG := FL_refl [16, 17, 18, 19, 20] al
  refine lv_iconst (v := 0) hx hb dX1_straighten_0 (by decide) ?_
  refine lv_istore_n (lv' := [(1, .int 0), (0, .ref (ad 14))]) hx hb dX1_straighten_1 rfl hl (by decide) rfl (fun ls_1 hl_1 => ?_)
  exact m137_X1_straighten_b2 C  _ 0 f1_size ai al w0 w1 w2 w3 _ _ _ (by first | omega | decide | (have ka0 := (by decide +kernel : (0 : Int32).toInt = 0); omega)) (by first | omega | decide | (have ka0 := (by decide +kernel : (0 : Int32).toInt = 0); omega)) (by first | omega | decide | (have ka0 := (by decide +kernel : (0 : Int32).toInt = 0); omega)) (by first | omega | decide | (have ka0 := (by decide +kernel : (0 : Int32).toInt = 0); omega)) (by first | omega | decide | (have ka0 := (by decide +kernel : (0 : Int32).toInt = 0); omega)) (by first | omega | decide | (have ka0 := (by decide +kernel : (0 : Int32).toInt = 0); omega)) (by first | omega | decide | (have ka0 := (by decide +kernel : (0 : Int32).toInt = 0); omega)) (by first | omega | decide | (have ka0 := (by decide +kernel : (0 : Int32).toInt = 0); omega)) (by first | omega | decide | (have ka0 := (by decide +kernel : (0 : Int32).toInt = 0); omega)) (by first | omega | decide | (have ka0 := (by decide +kernel : (0 : Int32).toInt = 0); omega)) (by first | omega | decide | (have ka0 := (by decide +kernel : (0 : Int32).toInt = 0); omega)) (by first | omega | decide | (have ka0 := (by decide +kernel : (0 : Int32).toInt = 0); omega)) (j_fuel _) (by omega) hI hF hG hw_w0 hw_w1 hw_w2 hw_w3 hP hD hS (lv_sub hl_1 [1, 0] rfl)
