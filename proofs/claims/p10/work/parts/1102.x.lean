def Q_m020_X8_setCoefficient (dC : Nat → ClassId) (dI : Nat → Nat → Nat) (cI cJ cII cJJ : ClassId) (ad : Nat → Nat) (f3_unknowns f3_equations f2_roundSupports f7_size f1_size f5_keptSize f5_aheadSize f0_solved f4_blockCount f4_blockLength f4_lastIsFree : Int32) (ai0 : Nat → Nat → Int32) (al : Nat → Nat → Int64) (w0 w1 w2 w3 : Nat) : (Nat → Prop) → Array Value → State → Outcome → State → Prop := fun A => QV (fun t => ∃ (n_f2_stale n_f4_stale : Int32), ∃ (n_ai : Nat → Nat → Int32), ((0 ≤ n_f2_stale.toInt ∧ n_f2_stale.toInt ≤ 1) ∧ (0 ≤ n_f4_stale.toInt ∧ n_f4_stale.toInt ≤ 1) ∧ IAX n_ai ∧ FR [2, 3, 4] ai0 n_ai) ∧ WO dC dI (TY cI cJ cII cJJ) (WX cI cJ cII cJJ ad f3_unknowns f3_equations f2_roundSupports n_f2_stale f7_size f1_size f5_keptSize f5_aheadSize f0_solved f4_blockCount f4_blockLength f4_lastIsFree n_f4_stale n_ai al w0 w1 w2 w3) A t) A
set_option maxRecDepth 100000 in
set_option maxHeartbeats 4000000 in
theorem m020_X8_setCoefficient (l : Launch) (dC : Nat → ClassId) (dI : Nat → Nat → Nat) (cI cJ cII cJJ : ClassId) (sz g : Nat) (ad : Nat → Nat) (f3_unknowns f3_equations f2_roundSupports f2_stale f7_size f1_size f5_keptSize f5_aheadSize f0_solved f4_blockCount f4_blockLength f4_lastIsFree f4_stale : Int32) (ai : Nat → Nat → Int32) (al : Nat → Nat → Int64) (w0 w1 w2 w3 : Nat) (x1 : Int32) (x2 : Int32) (x3 : Int32) (h_x1 : (0 ≤ x1.toInt ∧ x1.toInt ≤ 2)) (h_x2 : (0 ≤ x2.toInt ∧ x2.toInt ≤ 3)) (h_x3 : (-6 ≤ x3.toInt ∧ x3.toInt ≤ 6)) (h_f3_unknowns : (1 ≤ f3_unknowns.toInt ∧ f3_unknowns.toInt ≤ 4)) (h_f3_equations : (0 ≤ f3_equations.toInt ∧ f3_equations.toInt ≤ 3)) (h_f2_stale : (0 ≤ f2_stale.toInt ∧ f2_stale.toInt ≤ 1)) (h_f7_size : (0 ≤ f7_size.toInt ∧ f7_size.toInt ≤ 256)) (h_f1_size : (0 ≤ f1_size.toInt ∧ f1_size.toInt ≤ 4)) (h_f5_keptSize : (0 ≤ f5_keptSize.toInt ∧ f5_keptSize.toInt ≤ 128)) (h_f5_aheadSize : (0 ≤ f5_aheadSize.toInt ∧ f5_aheadSize.toInt ≤ 128)) (h_f4_blockCount : (0 ≤ f4_blockCount.toInt ∧ f4_blockCount.toInt ≤ 9261)) (h_f4_blockLength : (0 ≤ f4_blockLength.toInt ∧ f4_blockLength.toInt ≤ 21)) (h_f4_lastIsFree : (0 ≤ f4_lastIsFree.toInt ∧ f4_lastIsFree.toInt ≤ 1)) (h_f4_stale : (0 ≤ f4_stale.toInt ∧ f4_stale.toInt ≤ 1)) (hI : IAX ai) (hw_w0 : RWX ad w0) (hw_w1 : RWX ad w1) (hw_w2 : RWX ad w2) (hw_w3 : RWX ad w3) : Met l yX8_setCoefficient (.code yX8_setCoefficient cX8_setCoefficient 4 none :: TT) ({ frames := 3, cells := 0, slots := 0, locals := 140 } : Room) (PcS dC dI (TY cI cJ cII cJJ) [.ref (ad 0), .int x1, .int x2, .int x3] (WX cI cJ cII cJJ ad f3_unknowns f3_equations f2_roundSupports f2_stale f7_size f1_size f5_keptSize f5_aheadSize f0_solved f4_blockCount f4_blockLength f4_lastIsFree f4_stale ai al w0 w1 w2 w3) sz 0 g) (Q_m020_X8_setCoefficient dC dI cI cJ cII cJJ ad f3_unknowns f3_equations f2_roundSupports f7_size f1_size f5_keptSize f5_aheadSize f0_solved f4_blockCount f4_blockLength f4_lastIsFree ai al w0 w1 w2 w3 (va_A (WX cI cJ cII cJJ ad f3_unknowns f3_equations f2_roundSupports f2_stale f7_size f1_size f5_keptSize f5_aheadSize f0_solved f4_blockCount f4_blockLength f4_lastIsFree f4_stale ai al w0 w1 w2 w3) sz)) 0 0 (va_A (WX cI cJ cII cJJ ad f3_unknowns f3_equations f2_roundSupports f2_stale f7_size f1_size f5_keptSize f5_aheadSize f0_solved f4_blockCount f4_blockLength f4_lastIsFree f4_stale ai al w0 w1 w2 w3) sz) := by
  refine SM.of (y := yX8_setCoefficient) (maxL := 4) (av := [.ref (ad 0), .int x1, .int x2, .int x3]) (Q_m020_X8_setCoefficient dC dI cI cJ cII cJJ ad f3_unknowns f3_equations f2_roundSupports f7_size f1_size f5_keptSize f5_aheadSize f0_solved f4_blockCount f4_blockLength f4_lastIsFree ai al w0 w1 w2 w3) (by decide +kernel) (Nat.le_of_ble_eq_true rfl) (fun p e s m below meth c A ls hx hb hr hml hown hts hk hnm hA hK hP hD hS hX hl => ?_)
  have C : Cx p c s m meth (([.ref (ad 0), .int x1, .int x2, .int x3] : List Value).toArray) A dC dI (TY cI cJ cII cJJ) cX8_setCoefficient none 4 RX8 0 g := ⟨hx, hb, hr, hml, hown, hts, hk, hA, hK, hX⟩
  have hown : s.vm.findClass RX8 = some m.cls := hown
  have hl : lv_has ls 4 [(0, .ref (ad 0)), (1, .int x1), (2, .int x2), (3, .int x3)] := hl
  obtain ⟨H, hH⟩ : ∃ q, q = s.heap := ⟨_, rfl⟩
  rw [← hH] at hP
  have hS : va_S A s.heap H [] := by rw [hH]; exact hS
  rw [← hH]
  have hF := FR_refl [2, 3, 4] ai
  refine lv_aload_n hx hb dX8_setCoefficient_0 rfl (lv_at hl 0 rfl) ?_
  refine gf (k := 0) hx hb hts inX8 hown hK hP k_264 rfl (by decide) rfl 0 rfl (.ref (ad 6)) rfl dX8_setCoefficient_1 ?_
  refine gf (k := 2) hx hb hts inX3 hown hK hP k_51 rfl (by decide) rfl 6 rfl (.ref (ad 1)) rfl dX8_setCoefficient_4 ?_
  refine lv_iload_n hx hb dX8_setCoefficient_7 rfl (lv_at hl 1 rfl) ?_
  rcases (show x1 = 0 ∨ x1 = 1 ∨ x1 = 2 from j_cases3 (a := x1.toInt) rfl (by omega) (by omega)) with rfl | rfl | rfl
  · have k9 : (0 : Int32).toInt = 0 := by decide +kernel
    refine ld_a hx hb hK hP 1 2 rfl rfl (vin (by decide +kernel)) dX8_setCoefficient_8 (ad 2) rfl ?_
    refine lv_iload_n hx hb dX8_setCoefficient_9 rfl (lv_at hl 2 rfl) ?_
    refine va_iald hx hb hK hP 2 0 rfl rfl (j_in (a := x2.toInt) rfl (by omega) (by omega)) dX8_setCoefficient_10 ?_
    refine lv_topi (fun z1 e_z1 => ?_)
    have g_z1 : -6 ≤ z1.toInt ∧ z1.toInt ≤ 6 := by rw [e_z1]; exact IAX_at2 hI _
    refine lv_iload_n hx hb dX8_setCoefficient_11 rfl (lv_at hl 3 rfl) ?_
    refine lv_icmp_eq (tgt := 31) hx hb dX8_setCoefficient_12 (by decide) (fun c2 => ?_) (fun c2 => ?_)
    · have c2 := j_eq (a := z1.toInt) (b := x3.toInt) rfl rfl c2
      exact r2_v hx hb hr hk hS dX8_setCoefficient_31 (fun t ht hW => ⟨f2_stale, f4_stale, ai, ⟨(by first | omega | decide | exact Or.inl (by decide) | exact Or.inr (by decide) | exact Or.inr (by omega)), (by first | omega | decide | exact Or.inl (by decide) | exact Or.inr (by decide) | exact Or.inr (by omega)), hI, hF⟩, by rw [ht]; exact hP, va_K.moved hW.alike hK, hD⟩)
    · have c2 := j_ne (a := z1.toInt) (b := x3.toInt) rfl rfl c2
      refine lv_aload_n hx hb dX8_setCoefficient_15 rfl (lv_at hl 0 rfl) ?_
      refine gf (k := 0) hx hb hts inX8 hown hK hP k_264 rfl (by decide) rfl 0 rfl (.ref (ad 6)) rfl dX8_setCoefficient_16 ?_
      refine gf (k := 2) hx hb hts inX3 hown hK hP k_51 rfl (by decide) rfl 6 rfl (.ref (ad 1)) rfl dX8_setCoefficient_19 ?_
      refine lv_iload_n hx hb dX8_setCoefficient_22 rfl (lv_at hl 1 rfl) ?_
      refine ld_a hx hb hK hP 1 2 rfl rfl (vin (by decide +kernel)) dX8_setCoefficient_23 (ad 2) rfl ?_
      refine lv_iload_n hx hb dX8_setCoefficient_24 rfl (lv_at hl 2 rfl) ?_
      refine lv_iload_n hx hb dX8_setCoefficient_25 rfl (lv_at hl 3 rfl) ?_
      refine va_iast hx hb hK hP hD hS 2 0 rfl rfl (j_in (a := x2.toInt) rfl (by omega) (by omega)) dX8_setCoefficient_26 (fun H_1 locs_1 hP_1 hD_1 hS_1 => ?_)
      obtain ⟨ai3, e_ai3⟩ : ∃ q : Nat → Nat → Int32, q = va_up ai 2 (upd (ai 2) x2.toNatClampNeg x3) := ⟨_, rfl⟩
      have hF_2 := FR_st hF e_ai3 (by decide)
      have hI_3 : IAX ai3 := by rw [e_ai3]; exact IAX_st2 hI (a := x3.toInt) rfl (by omega) (by omega)
      have hP_4 : va_P (dC, dI) vwCl (WX cI cJ cII cJJ ad f3_unknowns f3_equations f2_roundSupports f2_stale f7_size f1_size f5_keptSize f5_aheadSize f0_solved f4_blockCount f4_blockLength f4_lastIsFree f4_stale ai3 al w0 w1 w2 w3) H_1 := by rw [e_ai3]; exact hP_1
      have hD_5 : va_D A (WX cI cJ cII cJJ ad f3_unknowns f3_equations f2_roundSupports f2_stale f7_size f1_size f5_keptSize f5_aheadSize f0_solved f4_blockCount f4_blockLength f4_lastIsFree f4_stale ai3 al w0 w1 w2 w3) := by rw [e_ai3]; exact hD_1
      refine lv_aload_n hx hb dX8_setCoefficient_27 rfl (lv_at hl 0 rfl) ?_
      have hM := m004_X8_equationsChanged l dC dI cI cJ cII cJJ H_1.size 0 ad f3_unknowns f3_equations f2_roundSupports f2_stale f7_size f1_size f5_keptSize f5_aheadSize f0_solved f4_blockCount f4_blockLength f4_lastIsFree f4_stale ai3 al w0 w1 w2 w3 (by omega) (by omega) (by omega) (by omega) (by omega) (by omega) (by omega) (by omega) (by omega) (by omega) (by omega) hI_3 hw_w0 hw_w1 hw_w2 hw_w3
      refine k2V_v (q0 := 0) ⟨hx, hb, hml, hown, hts⟩ hK hP_4 hD_5 hS_1 hA hX cv_RX8_67 hM ⟨by decide +kernel, by decide +kernel⟩ rfl rfl (Or.inl rfl) (rest := []) rfl rfl rfl hl.1 rfl (Nat.le_of_ble_eq_true rfl) dX8_setCoefficient_28 ⟨Nat.le_of_ble_eq_true rfl, Nat.le_of_ble_eq_true rfl⟩ (fun t H1 locs_6 ht hB hS_6 hFc => ?_)
      obtain ⟨v5, v6, ⟨gpr4_0, gpr4_1⟩, hP_7, -, hD_7⟩ := hB
      rw [ht] at hP_7
      have hD_8 := hD_7.weaken (B := A) (fun k q _ h9 => hFc q.1 h9)
      clear ht
      generalize H1 = H_9 at hP_7 hS_6 ⊢
      exact r2_v hx hb hr hk hS_6 dX8_setCoefficient_31 (fun t ht hW => ⟨v5, v6, ai3, ⟨(by first | omega | decide | exact Or.inl (by decide) | exact Or.inr (by decide) | exact Or.inr (by omega)), (by first | omega | decide | exact Or.inl (by decide) | exact Or.inr (by decide) | exact Or.inr (by omega)), hI_3, hF_2⟩, by rw [ht]; exact hP_7, va_K.moved hW.alike hK, hD_8⟩)
  · have k9 : (1 : Int32).toInt = 1 := by decide +kernel
    refine ld_a hx hb hK hP 1 2 rfl rfl (vin (by decide +kernel)) dX8_setCoefficient_8 (ad 3) rfl ?_
    refine lv_iload_n hx hb dX8_setCoefficient_9 rfl (lv_at hl 2 rfl) ?_
    refine va_iald hx hb hK hP 3 0 rfl rfl (j_in (a := x2.toInt) rfl (by omega) (by omega)) dX8_setCoefficient_10 ?_
    refine lv_topi (fun z7 e_z7 => ?_)
    have g_z7 : -6 ≤ z7.toInt ∧ z7.toInt ≤ 6 := by rw [e_z7]; exact IAX_at3 hI _
    refine lv_iload_n hx hb dX8_setCoefficient_11 rfl (lv_at hl 3 rfl) ?_
    refine lv_icmp_eq (tgt := 31) hx hb dX8_setCoefficient_12 (by decide) (fun c8 => ?_) (fun c8 => ?_)
    · have c8 := j_eq (a := z7.toInt) (b := x3.toInt) rfl rfl c8
      exact r2_v hx hb hr hk hS dX8_setCoefficient_31 (fun t ht hW => ⟨f2_stale, f4_stale, ai, ⟨(by first | omega | decide | exact Or.inl (by decide) | exact Or.inr (by decide) | exact Or.inr (by omega)), (by first | omega | decide | exact Or.inl (by decide) | exact Or.inr (by decide) | exact Or.inr (by omega)), hI, hF⟩, by rw [ht]; exact hP, va_K.moved hW.alike hK, hD⟩)
    · have c8 := j_ne (a := z7.toInt) (b := x3.toInt) rfl rfl c8
      refine lv_aload_n hx hb dX8_setCoefficient_15 rfl (lv_at hl 0 rfl) ?_
      refine gf (k := 0) hx hb hts inX8 hown hK hP k_264 rfl (by decide) rfl 0 rfl (.ref (ad 6)) rfl dX8_setCoefficient_16 ?_
      refine gf (k := 2) hx hb hts inX3 hown hK hP k_51 rfl (by decide) rfl 6 rfl (.ref (ad 1)) rfl dX8_setCoefficient_19 ?_
      refine lv_iload_n hx hb dX8_setCoefficient_22 rfl (lv_at hl 1 rfl) ?_
      refine ld_a hx hb hK hP 1 2 rfl rfl (vin (by decide +kernel)) dX8_setCoefficient_23 (ad 3) rfl ?_
      refine lv_iload_n hx hb dX8_setCoefficient_24 rfl (lv_at hl 2 rfl) ?_
      refine lv_iload_n hx hb dX8_setCoefficient_25 rfl (lv_at hl 3 rfl) ?_
      refine va_iast hx hb hK hP hD hS 3 0 rfl rfl (j_in (a := x2.toInt) rfl (by omega) (by omega)) dX8_setCoefficient_26 (fun H_10 locs_10 hP_10 hD_10 hS_10 => ?_)
      obtain ⟨ai9, e_ai9⟩ : ∃ q : Nat → Nat → Int32, q = va_up ai 3 (upd (ai 3) x2.toNatClampNeg x3) := ⟨_, rfl⟩
      have hF_11 := FR_st hF e_ai9 (by decide)
      have hI_12 : IAX ai9 := by rw [e_ai9]; exact IAX_st3 hI (a := x3.toInt) rfl (by omega) (by omega)
      have hP_13 : va_P (dC, dI) vwCl (WX cI cJ cII cJJ ad f3_unknowns f3_equations f2_roundSupports f2_stale f7_size f1_size f5_keptSize f5_aheadSize f0_solved f4_blockCount f4_blockLength f4_lastIsFree f4_stale ai9 al w0 w1 w2 w3) H_10 := by rw [e_ai9]; exact hP_10
      have hD_14 : va_D A (WX cI cJ cII cJJ ad f3_unknowns f3_equations f2_roundSupports f2_stale f7_size f1_size f5_keptSize f5_aheadSize f0_solved f4_blockCount f4_blockLength f4_lastIsFree f4_stale ai9 al w0 w1 w2 w3) := by rw [e_ai9]; exact hD_10
      refine lv_aload_n hx hb dX8_setCoefficient_27 rfl (lv_at hl 0 rfl) ?_
      have hM := m004_X8_equationsChanged l dC dI cI cJ cII cJJ H_10.size 0 ad f3_unknowns f3_equations f2_roundSupports f2_stale f7_size f1_size f5_keptSize f5_aheadSize f0_solved f4_blockCount f4_blockLength f4_lastIsFree f4_stale ai9 al w0 w1 w2 w3 (by omega) (by omega) (by omega) (by omega) (by omega) (by omega) (by omega) (by omega) (by omega) (by omega) (by omega) hI_12 hw_w0 hw_w1 hw_w2 hw_w3
      refine k2V_v (q0 := 0) ⟨hx, hb, hml, hown, hts⟩ hK hP_13 hD_14 hS_10 hA hX cv_RX8_67 hM ⟨by decide +kernel, by decide +kernel⟩ rfl rfl (Or.inl rfl) (rest := []) rfl rfl rfl hl.1 rfl (Nat.le_of_ble_eq_true rfl) dX8_setCoefficient_28 ⟨Nat.le_of_ble_eq_true rfl, Nat.le_of_ble_eq_true rfl⟩ (fun t H1 locs_15 ht hB hS_15 hFc => ?_)
      obtain ⟨v11, v12, ⟨gpr10_0, gpr10_1⟩, hP_16, -, hD_16⟩ := hB
      rw [ht] at hP_16
      have hD_17 := hD_16.weaken (B := A) (fun k q _ h9 => hFc q.1 h9)
      clear ht
      generalize H1 = H_18 at hP_16 hS_15 ⊢
      exact r2_v hx hb hr hk hS_15 dX8_setCoefficient_31 (fun t ht hW => ⟨v11, v12, ai9, ⟨(by first | omega | decide | exact Or.inl (by decide) | exact Or.inr (by decide) | exact Or.inr (by omega)), (by first | omega | decide | exact Or.inl (by decide) | exact Or.inr (by decide) | exact Or.inr (by omega)), hI_12, hF_11⟩, by rw [ht]; exact hP_16, va_K.moved hW.alike hK, hD_17⟩)
  · have k9 : (2 : Int32).toInt = 2 := by decide +kernel
    refine ld_a hx hb hK hP 1 2 rfl rfl (vin (by decide +kernel)) dX8_setCoefficient_8 (ad 4) rfl ?_
    refine lv_iload_n hx hb dX8_setCoefficient_9 rfl (lv_at hl 2 rfl) ?_
    refine va_iald hx hb hK hP 4 0 rfl rfl (j_in (a := x2.toInt) rfl (by omega) (by omega)) dX8_setCoefficient_10 ?_
    refine lv_topi (fun z13 e_z13 => ?_)
    have g_z13 : -6 ≤ z13.toInt ∧ z13.toInt ≤ 6 := by rw [e_z13]; exact IAX_at4 hI _
    refine lv_iload_n hx hb dX8_setCoefficient_11 rfl (lv_at hl 3 rfl) ?_
    refine lv_icmp_eq (tgt := 31) hx hb dX8_setCoefficient_12 (by decide) (fun c14 => ?_) (fun c14 => ?_)
    · have c14 := j_eq (a := z13.toInt) (b := x3.toInt) rfl rfl c14
      exact r2_v hx hb hr hk hS dX8_setCoefficient_31 (fun t ht hW => ⟨f2_stale, f4_stale, ai, ⟨(by first | omega | decide | exact Or.inl (by decide) | exact Or.inr (by decide) | exact Or.inr (by omega)), (by first | omega | decide | exact Or.inl (by decide) | exact Or.inr (by decide) | exact Or.inr (by omega)), hI, hF⟩, by rw [ht]; exact hP, va_K.moved hW.alike hK, hD⟩)
    · have c14 := j_ne (a := z13.toInt) (b := x3.toInt) rfl rfl c14
      refine lv_aload_n hx hb dX8_setCoefficient_15 rfl (lv_at hl 0 rfl) ?_
      refine gf (k := 0) hx hb hts inX8 hown hK hP k_264 rfl (by decide) rfl 0 rfl (.ref (ad 6)) rfl dX8_setCoefficient_16 ?_
      refine gf (k := 2) hx hb hts inX3 hown hK hP k_51 rfl (by decide) rfl 6 rfl (.ref (ad 1)) rfl dX8_setCoefficient_19 ?_
      refine lv_iload_n hx hb dX8_setCoefficient_22 rfl (lv_at hl 1 rfl) ?_
      refine ld_a hx hb hK hP 1 2 rfl rfl (vin (by decide +kernel)) dX8_setCoefficient_23 (ad 4) rfl ?_
      refine lv_iload_n hx hb dX8_setCoefficient_24 rfl (lv_at hl 2 rfl) ?_
      refine lv_iload_n hx hb dX8_setCoefficient_25 rfl (lv_at hl 3 rfl) ?_
      refine va_iast hx hb hK hP hD hS 4 0 rfl rfl (j_in (a := x2.toInt) rfl (by omega) (by omega)) dX8_setCoefficient_26 (fun H_19 locs_19 hP_19 hD_19 hS_19 => ?_)
      obtain ⟨ai15, e_ai15⟩ : ∃ q : Nat → Nat → Int32, q = va_up ai 4 (upd (ai 4) x2.toNatClampNeg x3) := ⟨_, rfl⟩
      have hF_20 := FR_st hF e_ai15 (by decide)
      have hI_21 : IAX ai15 := by rw [e_ai15]; exact IAX_st4 hI (a := x3.toInt) rfl (by omega) (by omega)
      have hP_22 : va_P (dC, dI) vwCl (WX cI cJ cII cJJ ad f3_unknowns f3_equations f2_roundSupports f2_stale f7_size f1_size f5_keptSize f5_aheadSize f0_solved f4_blockCount f4_blockLength f4_lastIsFree f4_stale ai15 al w0 w1 w2 w3) H_19 := by rw [e_ai15]; exact hP_19
      have hD_23 : va_D A (WX cI cJ cII cJJ ad f3_unknowns f3_equations f2_roundSupports f2_stale f7_size f1_size f5_keptSize f5_aheadSize f0_solved f4_blockCount f4_blockLength f4_lastIsFree f4_stale ai15 al w0 w1 w2 w3) := by rw [e_ai15]; exact hD_19
      refine lv_aload_n hx hb dX8_setCoefficient_27 rfl (lv_at hl 0 rfl) ?_
      have hM := m004_X8_equationsChanged l dC dI cI cJ cII cJJ H_19.size 0 ad f3_unknowns f3_equations f2_roundSupports f2_stale f7_size f1_size f5_keptSize f5_aheadSize f0_solved f4_blockCount f4_blockLength f4_lastIsFree f4_stale ai15 al w0 w1 w2 w3 (by omega) (by omega) (by omega) (by omega) (by omega) (by omega) (by omega) (by omega) (by omega) (by omega) (by omega) hI_21 hw_w0 hw_w1 hw_w2 hw_w3
      refine k2V_v (q0 := 0) ⟨hx, hb, hml, hown, hts⟩ hK hP_22 hD_23 hS_19 hA hX cv_RX8_67 hM ⟨by decide +kernel, by decide +kernel⟩ rfl rfl (Or.inl rfl) (rest := []) rfl rfl rfl hl.1 rfl (Nat.le_of_ble_eq_true rfl) dX8_setCoefficient_28 ⟨Nat.le_of_ble_eq_true rfl, Nat.le_of_ble_eq_true rfl⟩ (fun t H1 locs_24 ht hB hS_24 hFc => ?_)
      obtain ⟨v17, v18, ⟨gpr16_0, gpr16_1⟩, hP_25, -, hD_25⟩ := hB
      rw [ht] at hP_25
      have hD_26 := hD_25.weaken (B := A) (fun k q _ h9 => hFc q.1 h9)
      clear ht
      generalize H1 = H_27 at hP_25 hS_24 ⊢
      exact r2_v hx hb hr hk hS_24 dX8_setCoefficient_31 (fun t ht hW => ⟨v17, v18, ai15, ⟨(by first | omega | decide | exact Or.inl (by decide) | exact Or.inr (by decide) | exact Or.inr (by omega)), (by first | omega | decide | exact Or.inl (by decide) | exact Or.inr (by decide) | exact Or.inr (by omega)), hI_21, hF_20⟩, by rw [ht]; exact hP_25, va_K.moved hW.alike hK, hD_26⟩)
def Q_m021_X7_size (dC : Nat → ClassId) (dI : Nat → Nat → Nat) (cI cJ cII cJJ : ClassId) (ad : Nat → Nat) (f3_unknowns f3_equations f2_roundSupports f2_stale f7_size f1_size f5_keptSize f5_aheadSize f0_solved f4_blockCount f4_blockLength f4_lastIsFree f4_stale : Int32) (ai : Nat → Nat → Int32) (al : Nat → Nat → Int64) (w0 w1 w2 w3 : Nat) : (Nat → Prop) → Array Value → State → Outcome → State → Prop := fun A => QI (fun r t => ((0 ≤ r.toInt ∧ r.toInt ≤ 256) ∧ r.toInt = f7_size.toInt) ∧ WO dC dI (TY cI cJ cII cJJ) (WX cI cJ cII cJJ ad f3_unknowns f3_equations f2_roundSupports f2_stale f7_size f1_size f5_keptSize f5_aheadSize f0_solved f4_blockCount f4_blockLength f4_lastIsFree f4_stale ai al w0 w1 w2 w3) A t) A
set_option maxRecDepth 100000 in
set_option maxHeartbeats 4000000 in
theorem m021_X7_size (l : Launch) (dC : Nat → ClassId) (dI : Nat → Nat → Nat) (cI cJ cII cJJ : ClassId) (sz g : Nat) (ad : Nat → Nat) (f3_unknowns f3_equations f2_roundSupports f2_stale f7_size f1_size f5_keptSize f5_aheadSize f0_solved f4_blockCount f4_blockLength f4_lastIsFree f4_stale : Int32) (ai : Nat → Nat → Int32) (al : Nat → Nat → Int64) (w0 w1 w2 w3 : Nat) (h_f3_unknowns : (1 ≤ f3_unknowns.toInt ∧ f3_unknowns.toInt ≤ 4)) (h_f3_equations : (0 ≤ f3_equations.toInt ∧ f3_equations.toInt ≤ 3)) (h_f2_stale : (0 ≤ f2_stale.toInt ∧ f2_stale.toInt ≤ 1)) (h_f7_size : (0 ≤ f7_size.toInt ∧ f7_size.toInt ≤ 256)) (h_f1_size : (0 ≤ f1_size.toInt ∧ f1_size.toInt ≤ 4)) (h_f5_keptSize : (0 ≤ f5_keptSize.toInt ∧ f5_keptSize.toInt ≤ 128)) (h_f5_aheadSize : (0 ≤ f5_aheadSize.toInt ∧ f5_aheadSize.toInt ≤ 128)) (h_f4_blockCount : (0 ≤ f4_blockCount.toInt ∧ f4_blockCount.toInt ≤ 9261)) (h_f4_blockLength : (0 ≤ f4_blockLength.toInt ∧ f4_blockLength.toInt ≤ 21)) (h_f4_lastIsFree : (0 ≤ f4_lastIsFree.toInt ∧ f4_lastIsFree.toInt ≤ 1)) (h_f4_stale : (0 ≤ f4_stale.toInt ∧ f4_stale.toInt ≤ 1)) (hI : IAX ai) (hw_w0 : RWX ad w0) (hw_w1 : RWX ad w1) (hw_w2 : RWX ad w2) (hw_w3 : RWX ad w3) : Met l yX7_size (.code yX7_size cX7_size 1 (some .int) :: TT) ({ frames := 2, cells := 0, slots := 0, locals := 80 } : Room) (PcS dC dI (TY cI cJ cII cJJ) [.ref (ad 12)] (WX cI cJ cII cJJ ad f3_unknowns f3_equations f2_roundSupports f2_stale f7_size f1_size f5_keptSize f5_aheadSize f0_solved f4_blockCount f4_blockLength f4_lastIsFree f4_stale ai al w0 w1 w2 w3) sz 0 g) (Q_m021_X7_size dC dI cI cJ cII cJJ ad f3_unknowns f3_equations f2_roundSupports f2_stale f7_size f1_size f5_keptSize f5_aheadSize f0_solved f4_blockCount f4_blockLength f4_lastIsFree f4_stale ai al w0 w1 w2 w3 (va_A (WX cI cJ cII cJJ ad f3_unknowns f3_equations f2_roundSupports f2_stale f7_size f1_size f5_keptSize f5_aheadSize f0_solved f4_blockCount f4_blockLength f4_lastIsFree f4_stale ai al w0 w1 w2 w3) sz)) 0 0 (va_A (WX cI cJ cII cJJ ad f3_unknowns f3_equations f2_roundSupports f2_stale f7_size f1_size f5_keptSize f5_aheadSize f0_solved f4_blockCount f4_blockLength f4_lastIsFree f4_stale ai al w0 w1 w2 w3) sz) := by
  refine SM.of (y := yX7_size) (maxL := 1) (av := [.ref (ad 12)]) (Q_m021_X7_size dC dI cI cJ cII cJJ ad f3_unknowns f3_equations f2_roundSupports f2_stale f7_size f1_size f5_keptSize f5_aheadSize f0_solved f4_blockCount f4_blockLength f4_lastIsFree f4_stale ai al w0 w1 w2 w3) (by decide +kernel) (Nat.le_of_ble_eq_true rfl) (fun p e s m below meth c A ls hx hb hr hml hown hts hk hnm hA hK hP hD hS hX hl => ?_)
  have C : Cx p c s m meth (([.ref (ad 12)] : List Value).toArray) A dC dI (TY cI cJ cII cJJ) cX7_size (some .int) 1 RX7 0 g := ⟨hx, hb, hr, hml, hown, hts, hk, hA, hK, hX⟩
  have hown : s.vm.findClass RX7 = some m.cls := hown
  have hl : lv_has ls 1 [(0, .ref (ad 12))] := hl
  obtain ⟨H, hH⟩ : ∃ q, q = s.heap := ⟨_, rfl⟩
  rw [← hH] at hP
  have hS : va_S A s.heap H [] := by rw [hH]; exact hS
  rw [← hH]
  refine lv_aload_n hx hb dX7_size_0 rfl (lv_at hl 0 rfl) ?_
  refine gf (k := 1) hx hb hts inX7 hown hK hP k_101 rfl (by decide) rfl 12 rfl (.int f7_size) rfl dX7_size_1 ?_
  exact r2_i hx hb hr hk hS dX7_size_4 (fun t ht hW => ⟨⟨(by first | omega | decide | exact Or.inl (by decide) | exact Or.inr (by decide) | exact Or.inr (by omega)), (by first | omega | decide | exact Or.inl (by decide) | exact Or.inr (by decide) | exact Or.inr (by omega))⟩, by rw [ht]; exact hP, va_K.moved hW.alike hK, hD⟩)
def Q_m022_X7_clear (dC : Nat → ClassId) (dI : Nat → Nat → Nat) (cI cJ cII cJJ : ClassId) (ad : Nat → Nat) (f3_unknowns f3_equations f2_roundSupports f2_stale f1_size f5_keptSize f5_aheadSize f0_solved f4_blockCount f4_blockLength f4_lastIsFree f4_stale : Int32) (ai : Nat → Nat → Int32) (al : Nat → Nat → Int64) (w0 w1 w2 w3 : Nat) : (Nat → Prop) → Array Value → State → Outcome → State → Prop := fun A => QV (fun t => ∃ (n_f7_size : Int32), ((0 ≤ n_f7_size.toInt ∧ n_f7_size.toInt ≤ 0)) ∧ WO dC dI (TY cI cJ cII cJJ) (WX cI cJ cII cJJ ad f3_unknowns f3_equations f2_roundSupports f2_stale n_f7_size f1_size f5_keptSize f5_aheadSize f0_solved f4_blockCount f4_blockLength f4_lastIsFree f4_stale ai al w0 w1 w2 w3) A t) A
set_option maxRecDepth 100000 in
set_option maxHeartbeats 4000000 in
theorem m022_X7_clear (l : Launch) (dC : Nat → ClassId) (dI : Nat → Nat → Nat) (cI cJ cII cJJ : ClassId) (sz g : Nat) (ad : Nat → Nat) (f3_unknowns f3_equations f2_roundSupports f2_stale f7_size f1_size f5_keptSize f5_aheadSize f0_solved f4_blockCount f4_blockLength f4_lastIsFree f4_stale : Int32) (ai : Nat → Nat → Int32) (al : Nat → Nat → Int64) (w0 w1 w2 w3 : Nat) (h_f3_unknowns : (1 ≤ f3_unknowns.toInt ∧ f3_unknowns.toInt ≤ 4)) (h_f3_equations : (0 ≤ f3_equations.toInt ∧ f3_equations.toInt ≤ 3)) (h_f2_stale : (0 ≤ f2_stale.toInt ∧ f2_stale.toInt ≤ 1)) (h_f7_size : (0 ≤ f7_size.toInt ∧ f7_size.toInt ≤ 256)) (h_f1_size : (0 ≤ f1_size.toInt ∧ f1_size.toInt ≤ 4)) (h_f5_keptSize : (0 ≤ f5_keptSize.toInt ∧ f5_keptSize.toInt ≤ 128)) (h_f5_aheadSize : (0 ≤ f5_aheadSize.toInt ∧ f5_aheadSize.toInt ≤ 128)) (h_f4_blockCount : (0 ≤ f4_blockCount.toInt ∧ f4_blockCount.toInt ≤ 9261)) (h_f4_blockLength : (0 ≤ f4_blockLength.toInt ∧ f4_blockLength.toInt ≤ 21)) (h_f4_lastIsFree : (0 ≤ f4_lastIsFree.toInt ∧ f4_lastIsFree.toInt ≤ 1)) (h_f4_stale : (0 ≤ f4_stale.toInt ∧ f4_stale.toInt ≤ 1)) (hI : IAX ai) (hw_w0 : RWX ad w0) (hw_w1 : RWX ad w1) (hw_w2 : RWX ad w2) (hw_w3 : RWX ad w3) : Met l yX7_clear (.code yX7_clear cX7_clear 1 none :: TT) ({ frames := 2, cells := 0, slots := 0, locals := 80 } : Room) (PcS dC dI (TY cI cJ cII cJJ) [.ref (ad 12)] (WX cI cJ cII cJJ ad f3_unknowns f3_equations f2_roundSupports f2_stale f7_size f1_size f5_keptSize f5_aheadSize f0_solved f4_blockCount f4_blockLength f4_lastIsFree f4_stale ai al w0 w1 w2 w3) sz 0 g) (Q_m022_X7_clear dC dI cI cJ cII cJJ ad f3_unknowns f3_equations f2_roundSupports f2_stale f1_size f5_keptSize f5_aheadSize f0_solved f4_blockCount f4_blockLength f4_lastIsFree f4_stale ai al w0 w1 w2 w3 (va_A (WX cI cJ cII cJJ ad f3_unknowns f3_equations f2_roundSupports f2_stale f7_size f1_size f5_keptSize f5_aheadSize f0_solved f4_blockCount f4_blockLength f4_lastIsFree f4_stale ai al w0 w1 w2 w3) sz)) 0 0 (va_A (WX cI cJ cII cJJ ad f3_unknowns f3_equations f2_roundSupports f2_stale f7_size f1_size f5_keptSize f5_aheadSize f0_solved f4_blockCount f4_blockLength f4_lastIsFree f4_stale ai al w0 w1 w2 w3) sz) := by
  refine SM.of (y := yX7_clear) (maxL := 1) (av := [.ref (ad 12)]) (Q_m022_X7_clear dC dI cI cJ cII cJJ ad f3_unknowns f3_equations f2_roundSupports f2_stale f1_size f5_keptSize f5_aheadSize f0_solved f4_blockCount f4_blockLength f4_lastIsFree f4_stale ai al w0 w1 w2 w3) (by decide +kernel) (Nat.le_of_ble_eq_true rfl) (fun p e s m below meth c A ls hx hb hr hml hown hts hk hnm hA hK hP hD hS hX hl => ?_)
  have C : Cx p c s m meth (([.ref (ad 12)] : List Value).toArray) A dC dI (TY cI cJ cII cJJ) cX7_clear none 1 RX7 0 g := ⟨hx, hb, hr, hml, hown, hts, hk, hA, hK, hX⟩
  have hown : s.vm.findClass RX7 = some m.cls := hown
  have hl : lv_has ls 1 [(0, .ref (ad 12))] := hl
  obtain ⟨H, hH⟩ : ∃ q, q = s.heap := ⟨_, rfl⟩
  rw [← hH] at hP
  have hS : va_S A s.heap H [] := by rw [hH]; exact hS
  rw [← hH]
  refine lv_aload_n hx hb dX7_clear_0 rfl (lv_at hl 0 rfl) ?_
  refine lv_iconst (v := 0) hx hb dX7_clear_1 (by decide) ?_
  refine pf (k := 1) hx hb hts inX7 tyX7_ok nmX7 hown hK hP hD hS k_101 rfl (by decide) rfl rfl 12 rfl rfl rfl (Nat.le_of_ble_eq_true rfl) dX7_clear_2 (W' := (WX cI cJ cII cJJ ad f3_unknowns f3_equations f2_roundSupports f2_stale 0 f1_size f5_keptSize f5_aheadSize f0_solved f4_blockCount f4_blockLength f4_lastIsFree f4_stale ai al w0 w1 w2 w3)) rfl (fun H_1 locs_1 hP_1 hD_1 hS_1 => ?_)
  exact r2_v hx hb hr hk hS_1 dX7_clear_5 (fun t ht hW => ⟨0, (by first | omega | decide | exact Or.inl (by decide) | exact Or.inr (by decide) | exact Or.inr (by omega)), by rw [ht]; exact hP_1, va_K.moved hW.alike hK, hD_1⟩)
def Q_m023_X7_at (dC : Nat → ClassId) (dI : Nat → Nat → Nat) (cI cJ cII cJJ : ClassId) (ad : Nat → Nat) (f3_unknowns f3_equations f2_roundSupports f2_stale f7_size f1_size f5_keptSize f5_aheadSize f0_solved f4_blockCount f4_blockLength f4_lastIsFree f4_stale : Int32) (ai : Nat → Nat → Int32) (al : Nat → Nat → Int64) (w0 w1 w2 w3 : Nat) : (Nat → Prop) → Array Value → State → Outcome → State → Prop := fun A => QI (fun r t => (True) ∧ WO dC dI (TY cI cJ cII cJJ) (WX cI cJ cII cJJ ad f3_unknowns f3_equations f2_roundSupports f2_stale f7_size f1_size f5_keptSize f5_aheadSize f0_solved f4_blockCount f4_blockLength f4_lastIsFree f4_stale ai al w0 w1 w2 w3) A t) A
set_option maxRecDepth 100000 in
set_option maxHeartbeats 4000000 in
theorem m023_X7_at (l : Launch) (dC : Nat → ClassId) (dI : Nat → Nat → Nat) (cI cJ cII cJJ : ClassId) (sz g : Nat) (ad : Nat → Nat) (f3_unknowns f3_equations f2_roundSupports f2_stale f7_size f1_size f5_keptSize f5_aheadSize f0_solved f4_blockCount f4_blockLength f4_lastIsFree f4_stale : Int32) (ai : Nat → Nat → Int32) (al : Nat → Nat → Int64) (w0 w1 w2 w3 : Nat) (x1 : Int32) (x2 : Int32) (h_x1 : (0 ≤ x1.toInt ∧ x1.toInt ≤ 255)) (h_f3_unknowns : (1 ≤ f3_unknowns.toInt ∧ f3_unknowns.toInt ≤ 4)) (h_f3_equations : (0 ≤ f3_equations.toInt ∧ f3_equations.toInt ≤ 3)) (h_f2_stale : (0 ≤ f2_stale.toInt ∧ f2_stale.toInt ≤ 1)) (h_f7_size : (0 ≤ f7_size.toInt ∧ f7_size.toInt ≤ 256)) (h_f1_size : (0 ≤ f1_size.toInt ∧ f1_size.toInt ≤ 4)) (h_f5_keptSize : (0 ≤ f5_keptSize.toInt ∧ f5_keptSize.toInt ≤ 128)) (h_f5_aheadSize : (0 ≤ f5_aheadSize.toInt ∧ f5_aheadSize.toInt ≤ 128)) (h_f4_blockCount : (0 ≤ f4_blockCount.toInt ∧ f4_blockCount.toInt ≤ 9261)) (h_f4_blockLength : (0 ≤ f4_blockLength.toInt ∧ f4_blockLength.toInt ≤ 21)) (h_f4_lastIsFree : (0 ≤ f4_lastIsFree.toInt ∧ f4_lastIsFree.toInt ≤ 1)) (h_f4_stale : (0 ≤ f4_stale.toInt ∧ f4_stale.toInt ≤ 1)) (hI : IAX ai) (hw_w0 : RWX ad w0) (hw_w1 : RWX ad w1) (hw_w2 : RWX ad w2) (hw_w3 : RWX ad w3) : Met l yX7_at (.code yX7_at cX7_at 3 (some .int) :: TT) ({ frames := 2, cells := 0, slots := 0, locals := 80 } : Room) (PcS dC dI (TY cI cJ cII cJJ) [.ref (ad 12), .int x1, .int x2] (WX cI cJ cII cJJ ad f3_unknowns f3_equations f2_roundSupports f2_stale f7_size f1_size f5_keptSize f5_aheadSize f0_solved f4_blockCount f4_blockLength f4_lastIsFree f4_stale ai al w0 w1 w2 w3) sz 0 g) (Q_m023_X7_at dC dI cI cJ cII cJJ ad f3_unknowns f3_equations f2_roundSupports f2_stale f7_size f1_size f5_keptSize f5_aheadSize f0_solved f4_blockCount f4_blockLength f4_lastIsFree f4_stale ai al w0 w1 w2 w3 (va_A (WX cI cJ cII cJJ ad f3_unknowns f3_equations f2_roundSupports f2_stale f7_size f1_size f5_keptSize f5_aheadSize f0_solved f4_blockCount f4_blockLength f4_lastIsFree f4_stale ai al w0 w1 w2 w3) sz)) 0 0 (va_A (WX cI cJ cII cJJ ad f3_unknowns f3_equations f2_roundSupports f2_stale f7_size f1_size f5_keptSize f5_aheadSize f0_solved f4_blockCount f4_blockLength f4_lastIsFree f4_stale ai al w0 w1 w2 w3) sz) := by
  refine SM.of (y := yX7_at) (maxL := 3) (av := [.ref (ad 12), .int x1, .int x2]) (Q_m023_X7_at dC dI cI cJ cII cJJ ad f3_unknowns f3_equations f2_roundSupports f2_stale f7_size f1_size f5_keptSize f5_aheadSize f0_solved f4_blockCount f4_blockLength f4_lastIsFree f4_stale ai al w0 w1 w2 w3) (by decide +kernel) (Nat.le_of_ble_eq_true rfl) (fun p e s m below meth c A ls hx hb hr hml hown hts hk hnm hA hK hP hD hS hX hl => ?_)
  have C : Cx p c s m meth (([.ref (ad 12), .int x1, .int x2] : List Value).toArray) A dC dI (TY cI cJ cII cJJ) cX7_at (some .int) 3 RX7 0 g := ⟨hx, hb, hr, hml, hown, hts, hk, hA, hK, hX⟩
  have hown : s.vm.findClass RX7 = some m.cls := hown
  have hl : lv_has ls 3 [(0, .ref (ad 12)), (1, .int x1), (2, .int x2)] := hl
  obtain ⟨H, hH⟩ : ∃ q, q = s.heap := ⟨_, rfl⟩
  rw [← hH] at hP
  have hS : va_S A s.heap H [] := by rw [hH]; exact hS
  rw [← hH]
  have ra_x2 := s_any x2
  refine lv_aload_n hx hb dX7_at_0 rfl (lv_at hl 0 rfl) ?_
  refine gf (k := 0) hx hb hts inX7 hown hK hP k_100 rfl (by decide) rfl 12 rfl (.ref (ad 13)) rfl dX7_at_1 ?_
  refine lv_iload_n hx hb dX7_at_4 rfl (lv_at hl 1 rfl) ?_
  refine va_lald hx hb hK hP 13 1 rfl rfl (j_in (a := x1.toInt) rfl (by omega) (by omega)) dX7_at_5 ?_
  refine lv_bipush (v := 11) hx hb dX7_at_6 (by decide) ?_
  refine lv_iconst (v := 3) hx hb dX7_at_8 (by decide) ?_
  refine lv_iload_n hx hb dX7_at_9 rfl (lv_at hl 2 rfl) ?_
  refine v_isub hx hb dX7_at_10 _ rfl ?_
  refine lv_topi (fun z1 e_z1 => ?_)
  refine v_imul hx hb dX7_at_11 _ rfl ?_
  refine lv_topi (fun z2 e_z2 => ?_)
  refine lv_lshr hx hb dX7_at_12 rfl ?_
  refine lv_topl (fun yy3 e_yy3 => ?_)
  refine lv_ldc2 (v := 2047) hx hb hown (hts _ k_526) dX7_at_13 ?_
  refine v_land hx hb dX7_at_16 _ rfl ?_
  refine lv_topl (fun yy4 e_yy4 => ?_)
  refine lv_l2i hx hb dX7_at_17 rfl ?_
  refine lv_topi (fun z5 e_z5 => ?_)
  refine lv_sipush (v := 1024) hx hb dX7_at_18 (by decide) ?_
  refine v_isub hx hb dX7_at_21 _ rfl ?_
  refine lv_topi (fun z6 e_z6 => ?_)
  exact r2_i hx hb hr hk hS dX7_at_22 (fun t ht hW => ⟨trivial, by rw [ht]; exact hP, va_K.moved hW.alike hK, hD⟩)
def Q_m024_X6_isTray (dC : Nat → ClassId) (dI : Nat → Nat → Nat) (cI cJ cII cJJ : ClassId) (ad : Nat → Nat) (f3_unknowns f3_equations f2_roundSupports f2_stale f7_size f1_size f5_keptSize f5_aheadSize f0_solved f4_blockCount f4_blockLength f4_lastIsFree f4_stale : Int32) (ai : Nat → Nat → Int32) (al : Nat → Nat → Int64) (w0 w1 w2 w3 : Nat) (x1 : Int32) : (Nat → Prop) → Array Value → State → Outcome → State → Prop := fun A => QI (fun r t => ((0 ≤ r.toInt ∧ r.toInt ≤ 1) ∧ ((r.toInt = 1 ∧ 0 ≤ x1.toInt ∧ x1.toInt < 4) ∨ (r.toInt = 0 ∧ ¬ (0 ≤ x1.toInt ∧ x1.toInt < 4)))) ∧ WO dC dI (TY cI cJ cII cJJ) (WX cI cJ cII cJJ ad f3_unknowns f3_equations f2_roundSupports f2_stale f7_size f1_size f5_keptSize f5_aheadSize f0_solved f4_blockCount f4_blockLength f4_lastIsFree f4_stale ai al w0 w1 w2 w3) A t) A
set_option maxRecDepth 100000 in
set_option maxHeartbeats 4000000 in
theorem m024_X6_isTray_b13 {p : Program} {l : Launch} {e : Env} {s : State} {m : MethodId} {args : Array Value} {below : List Frame} {meth : Method} {c : Code} {A : Nat → Prop} {dC : Nat → ClassId} {dI : Nat → Nat → Nat} {cI cJ cII cJJ : ClassId} {ad : Nat → Nat} {g : Nat} {f3_unknowns f3_equations f2_roundSupports f2_stale f7_size f1_size f5_keptSize f5_aheadSize f0_solved f4_blockCount f4_blockLength f4_lastIsFree f4_stale : Int32} {ai : Nat → Nat → Int32} {al : Nat → Nat → Int64} {w0 w1 w2 w3 : Nat} {x1 : Int32} (C : Cx p c s m meth args A dC dI (TY cI cJ cII cJJ) cX6_isTray (some .boolean) 2 RX6 0 g) : ∀ (H : Heap) (locs : List Loc) (ls : Array Slot), (1 ≤ f3_unknowns.toInt ∧ f3_unknowns.toInt ≤ 4) → (0 ≤ f3_equations.toInt ∧ f3_equations.toInt ≤ 3) → (0 ≤ f2_stale.toInt ∧ f2_stale.toInt ≤ 1) → (0 ≤ f7_size.toInt ∧ f7_size.toInt ≤ 256) → (0 ≤ f1_size.toInt ∧ f1_size.toInt ≤ 4) → (0 ≤ f5_keptSize.toInt ∧ f5_keptSize.toInt ≤ 128) → (0 ≤ f5_aheadSize.toInt ∧ f5_aheadSize.toInt ≤ 128) → (0 ≤ f4_blockCount.toInt ∧ f4_blockCount.toInt ≤ 9261) → (0 ≤ f4_blockLength.toInt ∧ f4_blockLength.toInt ≤ 21) → (0 ≤ f4_lastIsFree.toInt ∧ f4_lastIsFree.toInt ≤ 1) → (0 ≤ f4_stale.toInt ∧ f4_stale.toInt ≤ 1) → ¬ (0 ≤ x1.toInt ∧ x1.toInt < 4) → IAX ai → RWX ad w0 → RWX ad w1 → RWX ad w2 → RWX ad w3 → va_P (dC, dI) vwCl (WX cI cJ cII cJJ ad f3_unknowns f3_equations f2_roundSupports f2_stale f7_size f1_size f5_keptSize f5_aheadSize f0_solved f4_blockCount f4_blockLength f4_lastIsFree f4_stale ai al w0 w1 w2 w3) H → va_D A (WX cI cJ cII cJJ ad f3_unknowns f3_equations f2_roundSupports f2_stale f7_size f1_size f5_keptSize f5_aheadSize f0_solved f4_blockCount f4_blockLength f4_lastIsFree f4_stale ai al w0 w1 w2 w3) → va_S A s.heap H locs → lv_has ls 2 [(0, .ref (ad 52)), (1, .int x1)] → W p l e ({ frames := 2, cells := 0, slots := 0, locals := 80 } : Room) s m args below meth c H locs 0 0 (MQ below (Q_m024_X6_isTray dC dI cI cJ cII cJJ ad f3_unknowns f3_equations f2_roundSupports f2_stale f7_size f1_size f5_keptSize f5_aheadSize f0_solved f4_blockCount f4_blockLength f4_lastIsFree f4_stale ai al w0 w1 w2 w3 x1 A) args s 0 0 A) (F0 m 13 ls []) := by
  obtain ⟨hx, hb, hr, hml, hown, hts, hk, hA, hK, hX⟩ := id C
  intro H locs ls h0 h1 h2 h3 h4 h5 h6 h7 h8 h9 h10 h11 hI hw_w0 hw_w1 hw_w2 hw_w3 hP hD hS hl
  refine lv_iconst (v := 0) hx hb dX6_isTray_13 (by decide) ?_
  exact r2_z hx hb hr hk hS dX6_isTray_14 rfl (fun t ht hW => ⟨⟨(by first | omega | decide | exact Or.inl (by decide) | exact Or.inr (by decide) | exact Or.inr (by omega)), (by have kr0 : (0 : Int32).toInt = 0 := (by decide); first | omega | decide | exact Or.inl (by decide) | exact Or.inr (by decide) | exact Or.inr (by omega))⟩, by rw [ht]; exact hP, va_K.moved hW.alike hK, hD⟩)
set_option maxRecDepth 100000 in
set_option maxHeartbeats 4000000 in
theorem m024_X6_isTray (l : Launch) (dC : Nat → ClassId) (dI : Nat → Nat → Nat) (cI cJ cII cJJ : ClassId) (sz g : Nat) (ad : Nat → Nat) (f3_unknowns f3_equations f2_roundSupports f2_stale f7_size f1_size f5_keptSize f5_aheadSize f0_solved f4_blockCount f4_blockLength f4_lastIsFree f4_stale : Int32) (ai : Nat → Nat → Int32) (al : Nat → Nat → Int64) (w0 w1 w2 w3 : Nat) (x1 : Int32) (h_f3_unknowns : (1 ≤ f3_unknowns.toInt ∧ f3_unknowns.toInt ≤ 4)) (h_f3_equations : (0 ≤ f3_equations.toInt ∧ f3_equations.toInt ≤ 3)) (h_f2_stale : (0 ≤ f2_stale.toInt ∧ f2_stale.toInt ≤ 1)) (h_f7_size : (0 ≤ f7_size.toInt ∧ f7_size.toInt ≤ 256)) (h_f1_size : (0 ≤ f1_size.toInt ∧ f1_size.toInt ≤ 4)) (h_f5_keptSize : (0 ≤ f5_keptSize.toInt ∧ f5_keptSize.toInt ≤ 128)) (h_f5_aheadSize : (0 ≤ f5_aheadSize.toInt ∧ f5_aheadSize.toInt ≤ 128)) (h_f4_blockCount : (0 ≤ f4_blockCount.toInt ∧ f4_blockCount.toInt ≤ 9261)) (h_f4_blockLength : (0 ≤ f4_blockLength.toInt ∧ f4_blockLength.toInt ≤ 21)) (h_f4_lastIsFree : (0 ≤ f4_lastIsFree.toInt ∧ f4_lastIsFree.toInt ≤ 1)) (h_f4_stale : (0 ≤ f4_stale.toInt ∧ f4_stale.toInt ≤ 1)) (hI : IAX ai) (hw_w0 : RWX ad w0) (hw_w1 : RWX ad w1) (hw_w2 : RWX ad w2) (hw_w3 : RWX ad w3) : Met l yX6_isTray (.code yX6_isTray cX6_isTray 2 (some .boolean) :: TT) ({ frames := 2, cells := 0, slots := 0, locals := 80 } : Room) (PcS dC dI (TY cI cJ cII cJJ) [.ref (ad 52), .int x1] (WX cI cJ cII cJJ ad f3_unknowns f3_equations f2_roundSupports f2_stale f7_size f1_size f5_keptSize f5_aheadSize f0_solved f4_blockCount f4_blockLength f4_lastIsFree f4_stale ai al w0 w1 w2 w3) sz 0 g) (Q_m024_X6_isTray dC dI cI cJ cII cJJ ad f3_unknowns f3_equations f2_roundSupports f2_stale f7_size f1_size f5_keptSize f5_aheadSize f0_solved f4_blockCount f4_blockLength f4_lastIsFree f4_stale ai al w0 w1 w2 w3 x1 (va_A (WX cI cJ cII cJJ ad f3_unknowns f3_equations f2_roundSupports f2_stale f7_size f1_size f5_keptSize f5_aheadSize f0_solved f4_blockCount f4_blockLength f4_lastIsFree f4_stale ai al w0 w1 w2 w3) sz)) 0 0 (va_A (WX cI cJ cII cJJ ad f3_unknowns f3_equations f2_roundSupports f2_stale f7_size f1_size f5_keptSize f5_aheadSize f0_solved f4_blockCount f4_blockLength f4_lastIsFree f4_stale ai al w0 w1 w2 w3) sz) := by
  refine SM.of (y := yX6_isTray) (maxL := 2) (av := [.ref (ad 52), .int x1]) (Q_m024_X6_isTray dC dI cI cJ cII cJJ ad f3_unknowns f3_equations f2_roundSupports f2_stale f7_size f1_size f5_keptSize f5_aheadSize f0_solved f4_blockCount f4_blockLength f4_lastIsFree f4_stale ai al w0 w1 w2 w3 x1) (by decide +kernel) (Nat.le_of_ble_eq_true rfl) (fun p e s m below meth c A ls hx hb hr hml hown hts hk hnm hA hK hP hD hS hX hl => ?_)
  have C : Cx p c s m meth (([.ref (ad 52), .int x1] : List Value).toArray) A dC dI (TY cI cJ cII cJJ) cX6_isTray (some .boolean) 2 RX6 0 g := ⟨hx, hb, hr, hml, hown, hts, hk, hA, hK, hX⟩
  have hown : s.vm.findClass RX6 = some m.cls := hown
  have hl : lv_has ls 2 [(0, .ref (ad 52)), (1, .int x1)] := hl
  obtain ⟨H, hH⟩ : ∃ q, q = s.heap := ⟨_, rfl⟩
  rw [← hH] at hP
  have hS : va_S A s.heap H [] := by rw [hH]; exact hS
  rw [← hH]
  have ra_x1 := s_any x1
  refine lv_iload_n hx hb dX6_isTray_0 rfl (lv_at hl 1 rfl) ?_
  refine lv_if_lt (tgt := 13) hx hb dX6_isTray_1 (by decide) (fun c1 => ?_) (fun c1 => ?_)
  · have c1 := j_lt (a := x1.toInt) (b := 0) rfl (by decide +kernel) c1
    exact m024_X6_isTray_b13 C   _ _ _ (by omega) (by omega) (by omega) (by omega) (by omega) (by omega) (by omega) (by omega) (by omega) (by omega) (by omega) (by omega) hI hw_w0 hw_w1 hw_w2 hw_w3 hP hD hS (lv_sub hl [0, 1] rfl)
  · have c1 := j_nlt (a := x1.toInt) (b := 0) rfl (by decide +kernel) c1
    refine lv_iload_n hx hb dX6_isTray_4 rfl (lv_at hl 1 rfl) ?_
    refine lv_iconst (v := 4) hx hb dX6_isTray_5 (by decide) ?_
    refine lv_icmp_ge (tgt := 13) hx hb dX6_isTray_6 (by decide) (fun c2 => ?_) (fun c2 => ?_)
    · have c2 := j_le (a := 4) (b := x1.toInt) (by decide +kernel) rfl c2
      exact m024_X6_isTray_b13 C   _ _ _ (by omega) (by omega) (by omega) (by omega) (by omega) (by omega) (by omega) (by omega) (by omega) (by omega) (by omega) (by omega) hI hw_w0 hw_w1 hw_w2 hw_w3 hP hD hS (lv_sub hl [0, 1] rfl)
    · have c2 := j_nle (a := 4) (b := x1.toInt) (by decide +kernel) rfl c2
      refine lv_iconst (v := 1) hx hb dX6_isTray_9 (by decide) ?_
      refine lv_goto (tgt := 14) hx hb dX6_isTray_10 (by decide) ?_
      exact r2_z hx hb hr hk hS dX6_isTray_14 rfl (fun t ht hW => ⟨⟨(by first | omega | decide | exact Or.inl (by decide) | exact Or.inr (by decide) | exact Or.inr (by omega)), (by have kr1 : (1 : Int32).toInt = 1 := (by decide); first | omega | decide | exact Or.inl (by decide) | exact Or.inr (by decide) | exact Or.inr (by omega))⟩, by rw [ht]; exact hP, va_K.moved hW.alike hK, hD⟩)
def Q_m025_X6_isMissing (dC : Nat → ClassId) (dI : Nat → Nat → Nat) (cI cJ cII cJJ : ClassId) (ad : Nat → Nat) (f3_unknowns f3_equations f2_roundSupports f2_stale f7_size f1_size f5_keptSize f5_aheadSize f0_solved f4_blockCount f4_blockLength f4_lastIsFree f4_stale : Int32) (ai : Nat → Nat → Int32) (al : Nat → Nat → Int64) (w0 w1 w2 w3 : Nat) (x1 : Int32) : (Nat → Prop) → Array Value → State → Outcome → State → Prop := fun A => QI (fun r t => ((0 ≤ r.toInt ∧ r.toInt ≤ 1) ∧ ((r.toInt = 1 ∧ (ai 59 x1.toInt.toNat).toInt = -1) ∨ (r.toInt = 0 ∧ (ai 59 x1.toInt.toNat).toInt ≠ -1))) ∧ WO dC dI (TY cI cJ cII cJJ) (WX cI cJ cII cJJ ad f3_unknowns f3_equations f2_roundSupports f2_stale f7_size f1_size f5_keptSize f5_aheadSize f0_solved f4_blockCount f4_blockLength f4_lastIsFree f4_stale ai al w0 w1 w2 w3) A t) A
set_option maxRecDepth 100000 in
set_option maxHeartbeats 4000000 in
theorem m025_X6_isMissing (l : Launch) (dC : Nat → ClassId) (dI : Nat → Nat → Nat) (cI cJ cII cJJ : ClassId) (sz g : Nat) (ad : Nat → Nat) (f3_unknowns f3_equations f2_roundSupports f2_stale f7_size f1_size f5_keptSize f5_aheadSize f0_solved f4_blockCount f4_blockLength f4_lastIsFree f4_stale : Int32) (ai : Nat → Nat → Int32) (al : Nat → Nat → Int64) (w0 w1 w2 w3 : Nat) (x1 : Int32) (h_x1 : (0 ≤ x1.toInt ∧ x1.toInt ≤ 3)) (h_f3_unknowns : (1 ≤ f3_unknowns.toInt ∧ f3_unknowns.toInt ≤ 4)) (h_f3_equations : (0 ≤ f3_equations.toInt ∧ f3_equations.toInt ≤ 3)) (h_f2_stale : (0 ≤ f2_stale.toInt ∧ f2_stale.toInt ≤ 1)) (h_f7_size : (0 ≤ f7_size.toInt ∧ f7_size.toInt ≤ 256)) (h_f1_size : (0 ≤ f1_size.toInt ∧ f1_size.toInt ≤ 4)) (h_f5_keptSize : (0 ≤ f5_keptSize.toInt ∧ f5_keptSize.toInt ≤ 128)) (h_f5_aheadSize : (0 ≤ f5_aheadSize.toInt ∧ f5_aheadSize.toInt ≤ 128)) (h_f4_blockCount : (0 ≤ f4_blockCount.toInt ∧ f4_blockCount.toInt ≤ 9261)) (h_f4_blockLength : (0 ≤ f4_blockLength.toInt ∧ f4_blockLength.toInt ≤ 21)) (h_f4_lastIsFree : (0 ≤ f4_lastIsFree.toInt ∧ f4_lastIsFree.toInt ≤ 1)) (h_f4_stale : (0 ≤ f4_stale.toInt ∧ f4_stale.toInt ≤ 1)) (hI : IAX ai) (hw_w0 : RWX ad w0) (hw_w1 : RWX ad w1) (hw_w2 : RWX ad w2) (hw_w3 : RWX ad w3) : Met l yX6_isMissing (.code yX6_isMissing cX6_isMissing 2 (some .boolean) :: TT) ({ frames := 2, cells := 0, slots := 0, locals := 80 } : Room) (PcS dC dI (TY cI cJ cII cJJ) [.ref (ad 52), .int x1] (WX cI cJ cII cJJ ad f3_unknowns f3_equations f2_roundSupports f2_stale f7_size f1_size f5_keptSize f5_aheadSize f0_solved f4_blockCount f4_blockLength f4_lastIsFree f4_stale ai al w0 w1 w2 w3) sz 0 g) (Q_m025_X6_isMissing dC dI cI cJ cII cJJ ad f3_unknowns f3_equations f2_roundSupports f2_stale f7_size f1_size f5_keptSize f5_aheadSize f0_solved f4_blockCount f4_blockLength f4_lastIsFree f4_stale ai al w0 w1 w2 w3 x1 (va_A (WX cI cJ cII cJJ ad f3_unknowns f3_equations f2_roundSupports f2_stale f7_size f1_size f5_keptSize f5_aheadSize f0_solved f4_blockCount f4_blockLength f4_lastIsFree f4_stale ai al w0 w1 w2 w3) sz)) 0 0 (va_A (WX cI cJ cII cJJ ad f3_unknowns f3_equations f2_roundSupports f2_stale f7_size f1_size f5_keptSize f5_aheadSize f0_solved f4_blockCount f4_blockLength f4_lastIsFree f4_stale ai al w0 w1 w2 w3) sz) := by
  refine SM.of (y := yX6_isMissing) (maxL := 2) (av := [.ref (ad 52), .int x1]) (Q_m025_X6_isMissing dC dI cI cJ cII cJJ ad f3_unknowns f3_equations f2_roundSupports f2_stale f7_size f1_size f5_keptSize f5_aheadSize f0_solved f4_blockCount f4_blockLength f4_lastIsFree f4_stale ai al w0 w1 w2 w3 x1) (by decide +kernel) (Nat.le_of_ble_eq_true rfl) (fun p e s m below meth c A ls hx hb hr hml hown hts hk hnm hA hK hP hD hS hX hl => ?_)
  have C : Cx p c s m meth (([.ref (ad 52), .int x1] : List Value).toArray) A dC dI (TY cI cJ cII cJJ) cX6_isMissing (some .boolean) 2 RX6 0 g := ⟨hx, hb, hr, hml, hown, hts, hk, hA, hK, hX⟩
  have hown : s.vm.findClass RX6 = some m.cls := hown
  have hl : lv_has ls 2 [(0, .ref (ad 52)), (1, .int x1)] := hl
  obtain ⟨H, hH⟩ : ∃ q, q = s.heap := ⟨_, rfl⟩
  rw [← hH] at hP
  have hS : va_S A s.heap H [] := by rw [hH]; exact hS
  rw [← hH]
  refine lv_aload_n hx hb dX6_isMissing_0 rfl (lv_at hl 0 rfl) ?_
  refine gf (k := 2) hx hb hts inX6 hown hK hP k_255 rfl (by decide) rfl 52 rfl (.ref (ad 59)) rfl dX6_isMissing_1 ?_
  refine lv_iload_n hx hb dX6_isMissing_4 rfl (lv_at hl 1 rfl) ?_
  refine va_iald hx hb hK hP 59 0 rfl rfl (j_in (a := x1.toInt) rfl (by omega) (by omega)) dX6_isMissing_5 ?_
  refine lv_topi (fun z1 e_z1 => ?_)
  have g_z1 : -1 ≤ z1.toInt ∧ z1.toInt ≤ 20 := by rw [e_z1]; exact IAX_at59 hI _
  have k_z1 : z1.toInt = (ai 59 x1.toInt.toNat).toInt := by rw [e_z1]; rfl
  refine lv_iconst (v := (-1)) hx hb dX6_isMissing_6 (by decide) ?_
  refine lv_icmp_ne (tgt := 14) hx hb dX6_isMissing_7 (by decide) (fun c2 => ?_) (fun c2 => ?_)
  · have c2 := j_ne (a := z1.toInt) (b := (-1)) rfl (by decide +kernel) c2
    refine lv_iconst (v := 0) hx hb dX6_isMissing_14 (by decide) ?_
    exact r2_z hx hb hr hk hS dX6_isMissing_15 rfl (fun t ht hW => ⟨⟨(by first | omega | decide | exact Or.inl (by decide) | exact Or.inr (by decide) | exact Or.inr (by omega)), (by have kr0 : (0 : Int32).toInt = 0 := (by decide); first | omega | decide | exact Or.inl (by decide) | exact Or.inr (by decide) | exact Or.inr (by omega))⟩, by rw [ht]; exact hP, va_K.moved hW.alike hK, hD⟩)
  · have c2 := j_eq (a := z1.toInt) (b := (-1)) rfl (by decide +kernel) c2
    refine lv_iconst (v := 1) hx hb dX6_isMissing_10 (by decide) ?_
    refine lv_goto (tgt := 15) hx hb dX6_isMissing_11 (by decide) ?_
    exact r2_z hx hb hr hk hS dX6_isMissing_15 rfl (fun t ht hW => ⟨⟨(by first | omega | decide | exact Or.inl (by decide) | exact Or.inr (by decide) | exact Or.inr (by omega)), (by have kr1 : (1 : Int32).toInt = 1 := (by decide); first | omega | decide | exact Or.inl (by decide) | exact Or.inr (by decide) | exact Or.inr (by omega))⟩, by rw [ht]; exact hP, va_K.moved hW.alike hK, hD⟩)
def Q_m026_X6_get (dC : Nat → ClassId) (dI : Nat → Nat → Nat) (cI cJ cII cJJ : ClassId) (ad : Nat → Nat) (f3_unknowns f3_equations f2_roundSupports f2_stale f7_size f1_size f5_keptSize f5_aheadSize f0_solved f4_blockCount f4_blockLength f4_lastIsFree f4_stale : Int32) (ai : Nat → Nat → Int32) (al : Nat → Nat → Int64) (w0 w1 w2 w3 : Nat) (x1 : Int32) (x2 : Int32) : (Nat → Prop) → Array Value → State → Outcome → State → Prop := fun A => QL (fun r t => (r.toInt = gvI ai al x1.toInt.toNat x2.toInt) ∧ WO dC dI (TY cI cJ cII cJJ) (WX cI cJ cII cJJ ad f3_unknowns f3_equations f2_roundSupports f2_stale f7_size f1_size f5_keptSize f5_aheadSize f0_solved f4_blockCount f4_blockLength f4_lastIsFree f4_stale ai al w0 w1 w2 w3) A t) A
set_option maxRecDepth 100000 in
set_option maxHeartbeats 4000000 in
theorem m026_X6_get_b25 {p : Program} {l : Launch} {e : Env} {s : State} {m : MethodId} {args : Array Value} {below : List Frame} {meth : Method} {c : Code} {A : Nat → Prop} {dC : Nat → ClassId} {dI : Nat → Nat → Nat} {cI cJ cII cJJ : ClassId} {ad : Nat → Nat} {g : Nat} {f3_unknowns f3_equations f2_roundSupports f2_stale f7_size f1_size f5_keptSize f5_aheadSize f0_solved f4_blockCount f4_blockLength f4_lastIsFree f4_stale : Int32} {ai : Nat → Nat → Int32} {al : Nat → Nat → Int64} {w0 w1 w2 w3 : Nat} {x1 : Int32} {x2 : Int32} (C : Cx p c s m meth args A dC dI (TY cI cJ cII cJJ) cX6_get (some .long) 3 RX6 0 g) (h_x1 : (0 ≤ x1.toInt ∧ x1.toInt ≤ 3)) : ∀ (H : Heap) (locs : List Loc) (ls : Array Slot), (1 ≤ f3_unknowns.toInt ∧ f3_unknowns.toInt ≤ 4) → (0 ≤ f3_equations.toInt ∧ f3_equations.toInt ≤ 3) → (0 ≤ f2_stale.toInt ∧ f2_stale.toInt ≤ 1) → (0 ≤ f7_size.toInt ∧ f7_size.toInt ≤ 256) → (0 ≤ f1_size.toInt ∧ f1_size.toInt ≤ 4) → (0 ≤ f5_keptSize.toInt ∧ f5_keptSize.toInt ≤ 128) → (0 ≤ f5_aheadSize.toInt ∧ f5_aheadSize.toInt ≤ 128) → (0 ≤ f4_blockCount.toInt ∧ f4_blockCount.toInt ≤ 9261) → (0 ≤ f4_blockLength.toInt ∧ f4_blockLength.toInt ≤ 21) → (0 ≤ f4_lastIsFree.toInt ∧ f4_lastIsFree.toInt ≤ 1) → (0 ≤ f4_stale.toInt ∧ f4_stale.toInt ≤ 1) → gvI ai al x1.toInt.toNat x2.toInt = 0 → IAX ai → RWX ad w0 → RWX ad w1 → RWX ad w2 → RWX ad w3 → va_P (dC, dI) vwCl (WX cI cJ cII cJJ ad f3_unknowns f3_equations f2_roundSupports f2_stale f7_size f1_size f5_keptSize f5_aheadSize f0_solved f4_blockCount f4_blockLength f4_lastIsFree f4_stale ai al w0 w1 w2 w3) H → va_D A (WX cI cJ cII cJJ ad f3_unknowns f3_equations f2_roundSupports f2_stale f7_size f1_size f5_keptSize f5_aheadSize f0_solved f4_blockCount f4_blockLength f4_lastIsFree f4_stale ai al w0 w1 w2 w3) → va_S A s.heap H locs → lv_has ls 3 [(0, .ref (ad 52)), (1, .int x1), (2, .int x2)] → W p l e ({ frames := 2, cells := 0, slots := 0, locals := 80 } : Room) s m args below meth c H locs 0 0 (MQ below (Q_m026_X6_get dC dI cI cJ cII cJJ ad f3_unknowns f3_equations f2_roundSupports f2_stale f7_size f1_size f5_keptSize f5_aheadSize f0_solved f4_blockCount f4_blockLength f4_lastIsFree f4_stale ai al w0 w1 w2 w3 x1 x2 A) args s 0 0 A) (F0 m 25 ls []) := by
  obtain ⟨hx, hb, hr, hml, hown, hts, hk, hA, hK, hX⟩ := id C
  intro H locs ls h0 h1 h2 h3 h4 h5 h6 h7 h8 h9 h10 h11 hI hw_w0 hw_w1 hw_w2 hw_w3 hP hD hS hl
  refine lv_lconst (v := 0) hx hb dX6_get_25 (by decide) ?_
  exact r2_l hx hb hr hk hS dX6_get_26 (fun t ht hW => ⟨(by rw [h11]; decide), by rw [ht]; exact hP, va_K.moved hW.alike hK, hD⟩)
set_option maxRecDepth 100000 in
set_option maxHeartbeats 4000000 in
theorem m026_X6_get (l : Launch) (dC : Nat → ClassId) (dI : Nat → Nat → Nat) (cI cJ cII cJJ : ClassId) (sz g : Nat) (ad : Nat → Nat) (f3_unknowns f3_equations f2_roundSupports f2_stale f7_size f1_size f5_keptSize f5_aheadSize f0_solved f4_blockCount f4_blockLength f4_lastIsFree f4_stale : Int32) (ai : Nat → Nat → Int32) (al : Nat → Nat → Int64) (w0 w1 w2 w3 : Nat) (x1 : Int32) (x2 : Int32) (h_x1 : (0 ≤ x1.toInt ∧ x1.toInt ≤ 3)) (h_f3_unknowns : (1 ≤ f3_unknowns.toInt ∧ f3_unknowns.toInt ≤ 4)) (h_f3_equations : (0 ≤ f3_equations.toInt ∧ f3_equations.toInt ≤ 3)) (h_f2_stale : (0 ≤ f2_stale.toInt ∧ f2_stale.toInt ≤ 1)) (h_f7_size : (0 ≤ f7_size.toInt ∧ f7_size.toInt ≤ 256)) (h_f1_size : (0 ≤ f1_size.toInt ∧ f1_size.toInt ≤ 4)) (h_f5_keptSize : (0 ≤ f5_keptSize.toInt ∧ f5_keptSize.toInt ≤ 128)) (h_f5_aheadSize : (0 ≤ f5_aheadSize.toInt ∧ f5_aheadSize.toInt ≤ 128)) (h_f4_blockCount : (0 ≤ f4_blockCount.toInt ∧ f4_blockCount.toInt ≤ 9261)) (h_f4_blockLength : (0 ≤ f4_blockLength.toInt ∧ f4_blockLength.toInt ≤ 21)) (h_f4_lastIsFree : (0 ≤ f4_lastIsFree.toInt ∧ f4_lastIsFree.toInt ≤ 1)) (h_f4_stale : (0 ≤ f4_stale.toInt ∧ f4_stale.toInt ≤ 1)) (hI : IAX ai) (hw_w0 : RWX ad w0) (hw_w1 : RWX ad w1) (hw_w2 : RWX ad w2) (hw_w3 : RWX ad w3) : Met l yX6_get (.code yX6_get cX6_get 3 (some .long) :: TT) ({ frames := 2, cells := 0, slots := 0, locals := 80 } : Room) (PcS dC dI (TY cI cJ cII cJJ) [.ref (ad 52), .int x1, .int x2] (WX cI cJ cII cJJ ad f3_unknowns f3_equations f2_roundSupports f2_stale f7_size f1_size f5_keptSize f5_aheadSize f0_solved f4_blockCount f4_blockLength f4_lastIsFree f4_stale ai al w0 w1 w2 w3) sz 0 g) (Q_m026_X6_get dC dI cI cJ cII cJJ ad f3_unknowns f3_equations f2_roundSupports f2_stale f7_size f1_size f5_keptSize f5_aheadSize f0_solved f4_blockCount f4_blockLength f4_lastIsFree f4_stale ai al w0 w1 w2 w3 x1 x2 (va_A (WX cI cJ cII cJJ ad f3_unknowns f3_equations f2_roundSupports f2_stale f7_size f1_size f5_keptSize f5_aheadSize f0_solved f4_blockCount f4_blockLength f4_lastIsFree f4_stale ai al w0 w1 w2 w3) sz)) 0 0 (va_A (WX cI cJ cII cJJ ad f3_unknowns f3_equations f2_roundSupports f2_stale f7_size f1_size f5_keptSize f5_aheadSize f0_solved f4_blockCount f4_blockLength f4_lastIsFree f4_stale ai al w0 w1 w2 w3) sz) := by
  refine SM.of (y := yX6_get) (maxL := 3) (av := [.ref (ad 52), .int x1, .int x2]) (Q_m026_X6_get dC dI cI cJ cII cJJ ad f3_unknowns f3_equations f2_roundSupports f2_stale f7_size f1_size f5_keptSize f5_aheadSize f0_solved f4_blockCount f4_blockLength f4_lastIsFree f4_stale ai al w0 w1 w2 w3 x1 x2) (by decide +kernel) (Nat.le_of_ble_eq_true rfl) (fun p e s m below meth c A ls hx hb hr hml hown hts hk hnm hA hK hP hD hS hX hl => ?_)
  have C : Cx p c s m meth (([.ref (ad 52), .int x1, .int x2] : List Value).toArray) A dC dI (TY cI cJ cII cJJ) cX6_get (some .long) 3 RX6 0 g := ⟨hx, hb, hr, hml, hown, hts, hk, hA, hK, hX⟩
  have hown : s.vm.findClass RX6 = some m.cls := hown
  have hl : lv_has ls 3 [(0, .ref (ad 52)), (1, .int x1), (2, .int x2)] := hl
  obtain ⟨H, hH⟩ : ∃ q, q = s.heap := ⟨_, rfl⟩
  rw [← hH] at hP
  have hS : va_S A s.heap H [] := by rw [hH]; exact hS
  rw [← hH]
  have ra_x2 := s_any x2
  refine lv_iload_n hx hb dX6_get_0 rfl (lv_at hl 2 rfl) ?_
  refine lv_if_lt (tgt := 25) hx hb dX6_get_1 (by decide) (fun c1 => ?_) (fun c1 => ?_)
  · have c1 := j_lt (a := x2.toInt) (b := 0) rfl (by decide +kernel) c1
    exact m026_X6_get_b25 C h_x1   _ _ _ (by omega) (by omega) (by omega) (by omega) (by omega) (by omega) (by omega) (by omega) (by omega) (by omega) (by omega) (gv_lo (by omega)) hI hw_w0 hw_w1 hw_w2 hw_w3 hP hD hS (lv_sub hl [0, 1, 2] rfl)
  · have c1 := j_nlt (a := x2.toInt) (b := 0) rfl (by decide +kernel) c1
    refine lv_iload_n hx hb dX6_get_4 rfl (lv_at hl 2 rfl) ?_
    refine lv_aload_n hx hb dX6_get_5 rfl (lv_at hl 0 rfl) ?_
    refine gf (k := 2) hx hb hts inX6 hown hK hP k_255 rfl (by decide) rfl 52 rfl (.ref (ad 59)) rfl dX6_get_6 ?_
    refine lv_iload_n hx hb dX6_get_9 rfl (lv_at hl 1 rfl) ?_
    refine va_iald hx hb hK hP 59 0 rfl rfl (j_in (a := x1.toInt) rfl (by omega) (by omega)) dX6_get_10 ?_
    refine lv_topi (fun z2 e_z2 => ?_)
    have g_z2 : -1 ≤ z2.toInt ∧ z2.toInt ≤ 20 := by rw [e_z2]; exact IAX_at59 hI _
    refine lv_icmp_ge (tgt := 25) hx hb dX6_get_11 (by decide) (fun c3 => ?_) (fun c3 => ?_)
    · have c3 := j_le (a := z2.toInt) (b := x2.toInt) rfl rfl c3
      exact m026_X6_get_b25 C h_x1   _ _ _ (by omega) (by omega) (by omega) (by omega) (by omega) (by omega) (by omega) (by omega) (by omega) (by omega) (by omega) (gv_hi (z := z2) (by omega) e_z2) hI hw_w0 hw_w1 hw_w2 hw_w3 hP hD hS (lv_sub hl [0, 1, 2] rfl)
    · have c3 := j_nle (a := z2.toInt) (b := x2.toInt) rfl rfl c3
      refine lv_aload_n hx hb dX6_get_14 rfl (lv_at hl 0 rfl) ?_
      refine gf (k := 0) hx hb hts inX6 hown hK hP k_251 rfl (by decide) rfl 52 rfl (.ref (ad 53)) rfl dX6_get_15 ?_
      refine lv_iload_n hx hb dX6_get_18 rfl (lv_at hl 1 rfl) ?_
      rcases (show x1 = 0 ∨ x1 = 1 ∨ x1 = 2 ∨ x1 = 3 from j_cases4 (a := x1.toInt) rfl (by omega) (by omega)) with rfl | rfl | rfl | rfl
      · have k9 : (0 : Int32).toInt = 0 := by decide +kernel
        refine ld_a hx hb hK hP 53 3 rfl rfl (vin (by decide +kernel)) dX6_get_19 (ad 54) rfl ?_
        refine lv_iload_n hx hb dX6_get_20 rfl (lv_at hl 2 rfl) ?_
        refine va_lald hx hb hK hP 54 1 rfl rfl (j_in (a := x2.toInt) rfl (by omega) (by omega)) dX6_get_21 ?_
        refine lv_topl (fun yy4 e_yy4 => ?_)
        refine lv_goto (tgt := 26) hx hb dX6_get_22 (by decide) ?_
        exact r2_l hx hb hr hk hS dX6_get_26 (fun t ht hW => ⟨(gv_in (z := z2) (by omega) (by omega) e_z2 e_yy4), by rw [ht]; exact hP, va_K.moved hW.alike hK, hD⟩)
      · have k9 : (1 : Int32).toInt = 1 := by decide +kernel
        refine ld_a hx hb hK hP 53 3 rfl rfl (vin (by decide +kernel)) dX6_get_19 (ad 55) rfl ?_
        refine lv_iload_n hx hb dX6_get_20 rfl (lv_at hl 2 rfl) ?_
        refine va_lald hx hb hK hP 55 1 rfl rfl (j_in (a := x2.toInt) rfl (by omega) (by omega)) dX6_get_21 ?_
        refine lv_topl (fun yy5 e_yy5 => ?_)
        refine lv_goto (tgt := 26) hx hb dX6_get_22 (by decide) ?_
        exact r2_l hx hb hr hk hS dX6_get_26 (fun t ht hW => ⟨(gv_in (z := z2) (by omega) (by omega) e_z2 e_yy5), by rw [ht]; exact hP, va_K.moved hW.alike hK, hD⟩)
      · have k9 : (2 : Int32).toInt = 2 := by decide +kernel
        refine ld_a hx hb hK hP 53 3 rfl rfl (vin (by decide +kernel)) dX6_get_19 (ad 56) rfl ?_
        refine lv_iload_n hx hb dX6_get_20 rfl (lv_at hl 2 rfl) ?_
        refine va_lald hx hb hK hP 56 1 rfl rfl (j_in (a := x2.toInt) rfl (by omega) (by omega)) dX6_get_21 ?_
        refine lv_topl (fun yy6 e_yy6 => ?_)
        refine lv_goto (tgt := 26) hx hb dX6_get_22 (by decide) ?_
        exact r2_l hx hb hr hk hS dX6_get_26 (fun t ht hW => ⟨(gv_in (z := z2) (by omega) (by omega) e_z2 e_yy6), by rw [ht]; exact hP, va_K.moved hW.alike hK, hD⟩)
      · have k9 : (3 : Int32).toInt = 3 := by decide +kernel
        refine ld_a hx hb hK hP 53 3 rfl rfl (vin (by decide +kernel)) dX6_get_19 (ad 57) rfl ?_
        refine lv_iload_n hx hb dX6_get_20 rfl (lv_at hl 2 rfl) ?_
        refine va_lald hx hb hK hP 57 1 rfl rfl (j_in (a := x2.toInt) rfl (by omega) (by omega)) dX6_get_21 ?_
        refine lv_topl (fun yy7 e_yy7 => ?_)
        refine lv_goto (tgt := 26) hx hb dX6_get_22 (by decide) ?_
        exact r2_l hx hb hr hk hS dX6_get_26 (fun t ht hW => ⟨(gv_in (z := z2) (by omega) (by omega) e_z2 e_yy7), by rw [ht]; exact hP, va_K.moved hW.alike hK, hD⟩)
def Q_m027_J7_fill_d0a16 (dC : Nat → ClassId) (dI : Nat → Nat → Nat) (cI cJ cII cJJ : ClassId) (ad : Nat → Nat) (f3_unknowns f3_equations f2_roundSupports f2_stale f7_size f1_size f5_keptSize f5_aheadSize f0_solved f4_blockCount f4_blockLength f4_lastIsFree f4_stale : Int32) (ai : Nat → Nat → Int32) (al0 : Nat → Nat → Int64) (w0 w1 w2 w3 : Nat) : (Nat → Prop) → Array Value → State → Outcome → State → Prop := fun A => QV (fun t => ∃ (n_al : Nat → Nat → Int64), (FL [54] al0 n_al) ∧ WO dC dI (TY cI cJ cII cJJ) (WX cI cJ cII cJJ ad f3_unknowns f3_equations f2_roundSupports f2_stale f7_size f1_size f5_keptSize f5_aheadSize f0_solved f4_blockCount f4_blockLength f4_lastIsFree f4_stale ai n_al w0 w1 w2 w3) A t) A
set_option maxRecDepth 100000 in
set_option maxHeartbeats 4000000 in
theorem m027_J7_fill_d0a16_b6 {p : Program} {l : Launch} {e : Env} {s : State} {m : MethodId} {args : Array Value} {below : List Frame} {meth : Method} {c : Code} {A : Nat → Prop} {dC : Nat → ClassId} {dI : Nat → Nat → Nat} {cI cJ cII cJJ : ClassId} {ad : Nat → Nat} {g : Nat} {f3_unknowns f3_equations f2_roundSupports f2_stale f7_size f1_size f5_keptSize f5_aheadSize f0_solved f4_blockCount f4_blockLength f4_lastIsFree f4_stale : Int32} {ai : Nat → Nat → Int32} {al0 : Nat → Nat → Int64} {w0 w1 w2 w3 : Nat} (C : Cx p c s m meth args A dC dI (TY cI cJ cII cJJ) cJ7_fill_d0a16 none 5 RJ7 0 g) : ∀ (n : Nat), ∀ (L3 : Int32) (J1 : Int64) (al : Nat → Nat → Int64) (H : Heap) (locs : List Loc) (ls : Array Slot), (0 ≤ L3.toInt ∧ L3.toInt ≤ 20) → (1 ≤ f3_unknowns.toInt ∧ f3_unknowns.toInt ≤ 4) → (0 ≤ f3_equations.toInt ∧ f3_equations.toInt ≤ 3) → (0 ≤ f2_stale.toInt ∧ f2_stale.toInt ≤ 1) → (0 ≤ f7_size.toInt ∧ f7_size.toInt ≤ 256) → (0 ≤ f1_size.toInt ∧ f1_size.toInt ≤ 4) → (0 ≤ f5_keptSize.toInt ∧ f5_keptSize.toInt ≤ 128) → (0 ≤ f5_aheadSize.toInt ∧ f5_aheadSize.toInt ≤ 128) → (0 ≤ f4_blockCount.toInt ∧ f4_blockCount.toInt ≤ 9261) → (0 ≤ f4_blockLength.toInt ∧ f4_blockLength.toInt ≤ 21) → (0 ≤ f4_lastIsFree.toInt ∧ f4_lastIsFree.toInt ≤ 1) → (0 ≤ f4_stale.toInt ∧ f4_stale.toInt ≤ 1) → 20 - L3.toInt < (n : Int) → (0 : Int) < (n : Int) → IAX ai → FL [54] al0 al → RWX ad w0 → RWX ad w1 → RWX ad w2 → RWX ad w3 → va_P (dC, dI) vwCl (WX cI cJ cII cJJ ad f3_unknowns f3_equations f2_roundSupports f2_stale f7_size f1_size f5_keptSize f5_aheadSize f0_solved f4_blockCount f4_blockLength f4_lastIsFree f4_stale ai al w0 w1 w2 w3) H → va_D A (WX cI cJ cII cJJ ad f3_unknowns f3_equations f2_roundSupports f2_stale f7_size f1_size f5_keptSize f5_aheadSize f0_solved f4_blockCount f4_blockLength f4_lastIsFree f4_stale ai al w0 w1 w2 w3) → va_S A s.heap H locs → lv_has ls 5 [(0, .ref (ad 54)), (1, .long J1), (3, .int L3), (4, .int 20)] → W p l e ({ frames := 2, cells := 0, slots := 0, locals := 80 } : Room) s m args below meth c H locs 0 0 (MQ below (Q_m027_J7_fill_d0a16 dC dI cI cJ cII cJJ ad f3_unknowns f3_equations f2_roundSupports f2_stale f7_size f1_size f5_keptSize f5_aheadSize f0_solved f4_blockCount f4_blockLength f4_lastIsFree f4_stale ai al0 w0 w1 w2 w3 A) args s 0 0 A) (F0 m 6 ls []) := by
  obtain ⟨hx, hb, hr, hml, hown, hts, hk, hA, hK, hX⟩ := id C
  intro n
  induction n with
  | zero =>
    intro L3 J1 al H locs ls h0 h1 h2 h3 h4 h5 h6 h7 h8 h9 h10 h11 h12 h13 hI hG hw_w0 hw_w1 hw_w2 hw_w3 hP hD hS hl
    exact absurd h13 (by omega)
  | succ n ih =>
    intro L3 J1 al H locs ls h0 h1 h2 h3 h4 h5 h6 h7 h8 h9 h10 h11 h12 h13 hI hG hw_w0 hw_w1 hw_w2 hw_w3 hP hD hS hl
    refine lv_iload_n hx hb dJ7_fill_d0a16_6 rfl (lv_at hl 2 rfl) ?_
    refine lv_iload hx hb dJ7_fill_d0a16_7 (lv_at hl 3 rfl) ?_
    refine lv_icmp_ge (tgt := 22) hx hb dJ7_fill_d0a16_9 (by decide) (fun c1 => ?_) (fun c1 => ?_)
    · have c1 := j_le (a := 20) (b := L3.toInt) (by decide +kernel) rfl c1
      exact r2_v hx hb hr hk hS dJ7_fill_d0a16_22 (fun t ht hW => ⟨al, hG, by rw [ht]; exact hP, va_K.moved hW.alike hK, hD⟩)
    · have c1 := j_nle (a := 20) (b := L3.toInt) (by decide +kernel) rfl c1
      refine lv_aload_n hx hb dJ7_fill_d0a16_12 rfl (lv_at hl 0 rfl) ?_
      refine lv_iload_n hx hb dJ7_fill_d0a16_13 rfl (lv_at hl 2 rfl) ?_
      refine lv_lload_n hx hb dJ7_fill_d0a16_14 rfl (lv_at hl 1 rfl) ?_
      refine va_last hx hb hK hP hD hS 54 1 rfl rfl (j_in (a := L3.toInt) rfl (by omega) (by omega)) dJ7_fill_d0a16_15 (fun H_1 locs_1 hP_1 hD_1 hS_1 => ?_)
      obtain ⟨al2, e_al2⟩ : ∃ q : Nat → Nat → Int64, q = va_up al 54 (vp_updL (al 54) L3.toNatClampNeg J1) := ⟨_, rfl⟩
      have hG_2 := FL_st hG e_al2 (by decide)
      have hP_3 : va_P (dC, dI) vwCl (WX cI cJ cII cJJ ad f3_unknowns f3_equations f2_roundSupports f2_stale f7_size f1_size f5_keptSize f5_aheadSize f0_solved f4_blockCount f4_blockLength f4_lastIsFree f4_stale ai al2 w0 w1 w2 w3) H_1 := by rw [e_al2]; exact hP_1
      have hD_4 : va_D A (WX cI cJ cII cJJ ad f3_unknowns f3_equations f2_roundSupports f2_stale f7_size f1_size f5_keptSize f5_aheadSize f0_solved f4_blockCount f4_blockLength f4_lastIsFree f4_stale ai al2 w0 w1 w2 w3) := by rw [e_al2]; exact hD_1
      obtain ⟨z3, e_z3⟩ : ∃ q : Int32, q = L3 + Int32.ofInt 1 := ⟨_, rfl⟩
      have g_z3 : z3.toInt = L3.toInt + 1 := by rw [e_z3]; exact n_add (a := L3.toInt) (b := 1) rfl (by decide +kernel) (by omega) (by omega)
      refine lv_iinc (v := z3) (lv' := [(3, .int z3), (0, .ref (ad 54)), (1, .long J1), (4, .int 20)]) hx hb dJ7_fill_d0a16_16 hl (k := 2) rfl e_z3.symm (by decide) rfl (fun ls_5 hl_5 => ?_)
      refine lv_goto (tgt := 6) hx hb dJ7_fill_d0a16_19 (by decide) ?_
      exact ih z3 J1 al2 _ _ _ (by omega) (by omega) (by omega) (by omega) (by omega) (by omega) (by omega) (by omega) (by omega) (by omega) (by omega) (by omega) (by omega) (by omega) hI hG_2 hw_w0 hw_w1 hw_w2 hw_w3 hP_3 hD_4 hS_1 (lv_sub hl_5 [1, 2, 0, 3] rfl)
set_option maxRecDepth 100000 in
set_option maxHeartbeats 4000000 in
theorem m027_J7_fill_d0a16 (l : Launch) (dC : Nat → ClassId) (dI : Nat → Nat → Nat) (cI cJ cII cJJ : ClassId) (sz g : Nat) (ad : Nat → Nat) (f3_unknowns f3_equations f2_roundSupports f2_stale f7_size f1_size f5_keptSize f5_aheadSize f0_solved f4_blockCount f4_blockLength f4_lastIsFree f4_stale : Int32) (ai : Nat → Nat → Int32) (al : Nat → Nat → Int64) (w0 w1 w2 w3 : Nat) (y1 : Int64) (h_f3_unknowns : (1 ≤ f3_unknowns.toInt ∧ f3_unknowns.toInt ≤ 4)) (h_f3_equations : (0 ≤ f3_equations.toInt ∧ f3_equations.toInt ≤ 3)) (h_f2_stale : (0 ≤ f2_stale.toInt ∧ f2_stale.toInt ≤ 1)) (h_f7_size : (0 ≤ f7_size.toInt ∧ f7_size.toInt ≤ 256)) (h_f1_size : (0 ≤ f1_size.toInt ∧ f1_size.toInt ≤ 4)) (h_f5_keptSize : (0 ≤ f5_keptSize.toInt ∧ f5_keptSize.toInt ≤ 128)) (h_f5_aheadSize : (0 ≤ f5_aheadSize.toInt ∧ f5_aheadSize.toInt ≤ 128)) (h_f4_blockCount : (0 ≤ f4_blockCount.toInt ∧ f4_blockCount.toInt ≤ 9261)) (h_f4_blockLength : (0 ≤ f4_blockLength.toInt ∧ f4_blockLength.toInt ≤ 21)) (h_f4_lastIsFree : (0 ≤ f4_lastIsFree.toInt ∧ f4_lastIsFree.toInt ≤ 1)) (h_f4_stale : (0 ≤ f4_stale.toInt ∧ f4_stale.toInt ≤ 1)) (hI : IAX ai) (hw_w0 : RWX ad w0) (hw_w1 : RWX ad w1) (hw_w2 : RWX ad w2) (hw_w3 : RWX ad w3) : Met l yJ7_fill_d0a16 (.code yJ7_fill_d0a16 cJ7_fill_d0a16 5 none :: TT) ({ frames := 2, cells := 0, slots := 0, locals := 80 } : Room) (PcS dC dI (TY cI cJ cII cJJ) [.ref (ad 54), .long y1] (WX cI cJ cII cJJ ad f3_unknowns f3_equations f2_roundSupports f2_stale f7_size f1_size f5_keptSize f5_aheadSize f0_solved f4_blockCount f4_blockLength f4_lastIsFree f4_stale ai al w0 w1 w2 w3) sz 0 g) (Q_m027_J7_fill_d0a16 dC dI cI cJ cII cJJ ad f3_unknowns f3_equations f2_roundSupports f2_stale f7_size f1_size f5_keptSize f5_aheadSize f0_solved f4_blockCount f4_blockLength f4_lastIsFree f4_stale ai al w0 w1 w2 w3 (va_A (WX cI cJ cII cJJ ad f3_unknowns f3_equations f2_roundSupports f2_stale f7_size f1_size f5_keptSize f5_aheadSize f0_solved f4_blockCount f4_blockLength f4_lastIsFree f4_stale ai al w0 w1 w2 w3) sz)) 0 0 (va_A (WX cI cJ cII cJJ ad f3_unknowns f3_equations f2_roundSupports f2_stale f7_size f1_size f5_keptSize f5_aheadSize f0_solved f4_blockCount f4_blockLength f4_lastIsFree f4_stale ai al w0 w1 w2 w3) sz) := by
  refine SM.of (y := yJ7_fill_d0a16) (maxL := 5) (av := [.ref (ad 54), .long y1]) (Q_m027_J7_fill_d0a16 dC dI cI cJ cII cJJ ad f3_unknowns f3_equations f2_roundSupports f2_stale f7_size f1_size f5_keptSize f5_aheadSize f0_solved f4_blockCount f4_blockLength f4_lastIsFree f4_stale ai al w0 w1 w2 w3) (by decide +kernel) (Nat.le_of_ble_eq_true rfl) (fun p e s m below meth c A ls hx hb hr hml hown hts hk hnm hA hK hP hD hS hX hl => ?_)
  have C : Cx p c s m meth (([.ref (ad 54), .long y1] : List Value).toArray) A dC dI (TY cI cJ cII cJJ) cJ7_fill_d0a16 none 5 RJ7 0 g := ⟨hx, hb, hr, hml, hown, hts, hk, hA, hK, hX⟩
  have hown : s.vm.findClass RJ7 = some m.cls := hown
  have hl : lv_has ls 5 [(0, .ref (ad 54)), (1, .long y1)] := hl
  obtain ⟨H, hH⟩ : ∃ q, q = s.heap := ⟨_, rfl⟩
  rw [← hH] at hP
  have hS : va_S A s.heap H [] := by rw [hH]; exact hS
  rw [← hH]
  have hG := FL_refl [54] al
  refine lv_iconst (v := 0) hx hb dJ7_fill_d0a16_0 (by decide) ?_
  refine lv_istore_n (lv' := [(3, .int 0), (0, .ref (ad 54)), (1, .long y1)]) hx hb dJ7_fill_d0a16_1 rfl hl (by decide) rfl (fun ls_1 hl_1 => ?_)
  refine lv_aload_n hx hb dJ7_fill_d0a16_2 rfl (lv_at hl_1 1 rfl) ?_
  refine al_ hx hb hK hP 54 1 rfl rfl dJ7_fill_d0a16_3 20 rfl ?_
  refine lv_istore (lv' := [(4, .int 20), (3, .int 0), (0, .ref (ad 54)), (1, .long y1)]) hx hb dJ7_fill_d0a16_4 hl_1 (by decide) rfl (fun ls_2 hl_2 => ?_)
  exact m027_J7_fill_d0a16_b6 C  _ 0 y1 al _ _ _ (by first | omega | decide | (have ka0 := (by decide +kernel : (0 : Int32).toInt = 0); omega)) (by first | omega | decide | (have ka0 := (by decide +kernel : (0 : Int32).toInt = 0); omega)) (by first | omega | decide | (have ka0 := (by decide +kernel : (0 : Int32).toInt = 0); omega)) (by first | omega | decide | (have ka0 := (by decide +kernel : (0 : Int32).toInt = 0); omega)) (by first | omega | decide | (have ka0 := (by decide +kernel : (0 : Int32).toInt = 0); omega)) (by first | omega | decide | (have ka0 := (by decide +kernel : (0 : Int32).toInt = 0); omega)) (by first | omega | decide | (have ka0 := (by decide +kernel : (0 : Int32).toInt = 0); omega)) (by first | omega | decide | (have ka0 := (by decide +kernel : (0 : Int32).toInt = 0); omega)) (by first | omega | decide | (have ka0 := (by decide +kernel : (0 : Int32).toInt = 0); omega)) (by first | omega | decide | (have ka0 := (by decide +kernel : (0 : Int32).toInt = 0); omega)) (by first | omega | decide | (have ka0 := (by decide +kernel : (0 : Int32).toInt = 0); omega)) (by first | omega | decide | (have ka0 := (by decide +kernel : (0 : Int32).toInt = 0); omega)) (j_fuel _) (by omega) hI hG hw_w0 hw_w1 hw_w2 hw_w3 hP hD hS (lv_sub hl_2 [2, 3, 1, 0] rfl)
def Q_m028_J7_fill_d0a16 (dC : Nat → ClassId) (dI : Nat → Nat → Nat) (cI cJ cII cJJ : ClassId) (ad : Nat → Nat) (f3_unknowns f3_equations f2_roundSupports f2_stale f7_size f1_size f5_keptSize f5_aheadSize f0_solved f4_blockCount f4_blockLength f4_lastIsFree f4_stale : Int32) (ai : Nat → Nat → Int32) (al0 : Nat → Nat → Int64) (w0 w1 w2 w3 : Nat) : (Nat → Prop) → Array Value → State → Outcome → State → Prop := fun A => QV (fun t => ∃ (n_al : Nat → Nat → Int64), (FL [55] al0 n_al) ∧ WO dC dI (TY cI cJ cII cJJ) (WX cI cJ cII cJJ ad f3_unknowns f3_equations f2_roundSupports f2_stale f7_size f1_size f5_keptSize f5_aheadSize f0_solved f4_blockCount f4_blockLength f4_lastIsFree f4_stale ai n_al w0 w1 w2 w3) A t) A
set_option maxRecDepth 100000 in
set_option maxHeartbeats 4000000 in
theorem m028_J7_fill_d0a16_b6 {p : Program} {l : Launch} {e : Env} {s : State} {m : MethodId} {args : Array Value} {below : List Frame} {meth : Method} {c : Code} {A : Nat → Prop} {dC : Nat → ClassId} {dI : Nat → Nat → Nat} {cI cJ cII cJJ : ClassId} {ad : Nat → Nat} {g : Nat} {f3_unknowns f3_equations f2_roundSupports f2_stale f7_size f1_size f5_keptSize f5_aheadSize f0_solved f4_blockCount f4_blockLength f4_lastIsFree f4_stale : Int32} {ai : Nat → Nat → Int32} {al0 : Nat → Nat → Int64} {w0 w1 w2 w3 : Nat} (C : Cx p c s m meth args A dC dI (TY cI cJ cII cJJ) cJ7_fill_d0a16 none 5 RJ7 0 g) : ∀ (n : Nat), ∀ (L3 : Int32) (J1 : Int64) (al : Nat → Nat → Int64) (H : Heap) (locs : List Loc) (ls : Array Slot), (0 ≤ L3.toInt ∧ L3.toInt ≤ 20) → (1 ≤ f3_unknowns.toInt ∧ f3_unknowns.toInt ≤ 4) → (0 ≤ f3_equations.toInt ∧ f3_equations.toInt ≤ 3) → (0 ≤ f2_stale.toInt ∧ f2_stale.toInt ≤ 1) → (0 ≤ f7_size.toInt ∧ f7_size.toInt ≤ 256) → (0 ≤ f1_size.toInt ∧ f1_size.toInt ≤ 4) → (0 ≤ f5_keptSize.toInt ∧ f5_keptSize.toInt ≤ 128) → (0 ≤ f5_aheadSize.toInt ∧ f5_aheadSize.toInt ≤ 128) → (0 ≤ f4_blockCount.toInt ∧ f4_blockCount.toInt ≤ 9261) → (0 ≤ f4_blockLength.toInt ∧ f4_blockLength.toInt ≤ 21) → (0 ≤ f4_lastIsFree.toInt ∧ f4_lastIsFree.toInt ≤ 1) → (0 ≤ f4_stale.toInt ∧ f4_stale.toInt ≤ 1) → 20 - L3.toInt < (n : Int) → (0 : Int) < (n : Int) → IAX ai → FL [55] al0 al → RWX ad w0 → RWX ad w1 → RWX ad w2 → RWX ad w3 → va_P (dC, dI) vwCl (WX cI cJ cII cJJ ad f3_unknowns f3_equations f2_roundSupports f2_stale f7_size f1_size f5_keptSize f5_aheadSize f0_solved f4_blockCount f4_blockLength f4_lastIsFree f4_stale ai al w0 w1 w2 w3) H → va_D A (WX cI cJ cII cJJ ad f3_unknowns f3_equations f2_roundSupports f2_stale f7_size f1_size f5_keptSize f5_aheadSize f0_solved f4_blockCount f4_blockLength f4_lastIsFree f4_stale ai al w0 w1 w2 w3) → va_S A s.heap H locs → lv_has ls 5 [(0, .ref (ad 55)), (1, .long J1), (3, .int L3), (4, .int 20)] → W p l e ({ frames := 2, cells := 0, slots := 0, locals := 80 } : Room) s m args below meth c H locs 0 0 (MQ below (Q_m028_J7_fill_d0a16 dC dI cI cJ cII cJJ ad f3_unknowns f3_equations f2_roundSupports f2_stale f7_size f1_size f5_keptSize f5_aheadSize f0_solved f4_blockCount f4_blockLength f4_lastIsFree f4_stale ai al0 w0 w1 w2 w3 A) args s 0 0 A) (F0 m 6 ls []) := by
  obtain ⟨hx, hb, hr, hml, hown, hts, hk, hA, hK, hX⟩ := id C
  intro n
  induction n with
  | zero =>
    intro L3 J1 al H locs ls h0 h1 h2 h3 h4 h5 h6 h7 h8 h9 h10 h11 h12 h13 hI hG hw_w0 hw_w1 hw_w2 hw_w3 hP hD hS hl
    exact absurd h13 (by omega)
  | succ n ih =>
    intro L3 J1 al H locs ls h0 h1 h2 h3 h4 h5 h6 h7 h8 h9 h10 h11 h12 h13 hI hG hw_w0 hw_w1 hw_w2 hw_w3 hP hD hS hl
    refine lv_iload_n hx hb dJ7_fill_d0a16_6 rfl (lv_at hl 2 rfl) ?_
    refine lv_iload hx hb dJ7_fill_d0a16_7 (lv_at hl 3 rfl) ?_
    refine lv_icmp_ge (tgt := 22) hx hb dJ7_fill_d0a16_9 (by decide) (fun c1 => ?_) (fun c1 => ?_)
    · have c1 := j_le (a := 20) (b := L3.toInt) (by decide +kernel) rfl c1
      exact r2_v hx hb hr hk hS dJ7_fill_d0a16_22 (fun t ht hW => ⟨al, hG, by rw [ht]; exact hP, va_K.moved hW.alike hK, hD⟩)
    · have c1 := j_nle (a := 20) (b := L3.toInt) (by decide +kernel) rfl c1
      refine lv_aload_n hx hb dJ7_fill_d0a16_12 rfl (lv_at hl 0 rfl) ?_
      refine lv_iload_n hx hb dJ7_fill_d0a16_13 rfl (lv_at hl 2 rfl) ?_
      refine lv_lload_n hx hb dJ7_fill_d0a16_14 rfl (lv_at hl 1 rfl) ?_
      refine va_last hx hb hK hP hD hS 55 1 rfl rfl (j_in (a := L3.toInt) rfl (by omega) (by omega)) dJ7_fill_d0a16_15 (fun H_1 locs_1 hP_1 hD_1 hS_1 => ?_)
      obtain ⟨al2, e_al2⟩ : ∃ q : Nat → Nat → Int64, q = va_up al 55 (vp_updL (al 55) L3.toNatClampNeg J1) := ⟨_, rfl⟩
      have hG_2 := FL_st hG e_al2 (by decide)
      have hP_3 : va_P (dC, dI) vwCl (WX cI cJ cII cJJ ad f3_unknowns f3_equations f2_roundSupports f2_stale f7_size f1_size f5_keptSize f5_aheadSize f0_solved f4_blockCount f4_blockLength f4_lastIsFree f4_stale ai al2 w0 w1 w2 w3) H_1 := by rw [e_al2]; exact hP_1
      have hD_4 : va_D A (WX cI cJ cII cJJ ad f3_unknowns f3_equations f2_roundSupports f2_stale f7_size f1_size f5_keptSize f5_aheadSize f0_solved f4_blockCount f4_blockLength f4_lastIsFree f4_stale ai al2 w0 w1 w2 w3) := by rw [e_al2]; exact hD_1
      obtain ⟨z3, e_z3⟩ : ∃ q : Int32, q = L3 + Int32.ofInt 1 := ⟨_, rfl⟩
      have g_z3 : z3.toInt = L3.toInt + 1 := by rw [e_z3]; exact n_add (a := L3.toInt) (b := 1) rfl (by decide +kernel) (by omega) (by omega)
      refine lv_iinc (v := z3) (lv' := [(3, .int z3), (0, .ref (ad 55)), (1, .long J1), (4, .int 20)]) hx hb dJ7_fill_d0a16_16 hl (k := 2) rfl e_z3.symm (by decide) rfl (fun ls_5 hl_5 => ?_)
      refine lv_goto (tgt := 6) hx hb dJ7_fill_d0a16_19 (by decide) ?_
      exact ih z3 J1 al2 _ _ _ (by omega) (by omega) (by omega) (by omega) (by omega) (by omega) (by omega) (by omega) (by omega) (by omega) (by omega) (by omega) (by omega) (by omega) hI hG_2 hw_w0 hw_w1 hw_w2 hw_w3 hP_3 hD_4 hS_1 (lv_sub hl_5 [1, 2, 0, 3] rfl)
set_option maxRecDepth 100000 in
set_option maxHeartbeats 4000000 in
theorem m028_J7_fill_d0a16 (l : Launch) (dC : Nat → ClassId) (dI : Nat → Nat → Nat) (cI cJ cII cJJ : ClassId) (sz g : Nat) (ad : Nat → Nat) (f3_unknowns f3_equations f2_roundSupports f2_stale f7_size f1_size f5_keptSize f5_aheadSize f0_solved f4_blockCount f4_blockLength f4_lastIsFree f4_stale : Int32) (ai : Nat → Nat → Int32) (al : Nat → Nat → Int64) (w0 w1 w2 w3 : Nat) (y1 : Int64) (h_f3_unknowns : (1 ≤ f3_unknowns.toInt ∧ f3_unknowns.toInt ≤ 4)) (h_f3_equations : (0 ≤ f3_equations.toInt ∧ f3_equations.toInt ≤ 3)) (h_f2_stale : (0 ≤ f2_stale.toInt ∧ f2_stale.toInt ≤ 1)) (h_f7_size : (0 ≤ f7_size.toInt ∧ f7_size.toInt ≤ 256)) (h_f1_size : (0 ≤ f1_size.toInt ∧ f1_size.toInt ≤ 4)) (h_f5_keptSize : (0 ≤ f5_keptSize.toInt ∧ f5_keptSize.toInt ≤ 128)) (h_f5_aheadSize : (0 ≤ f5_aheadSize.toInt ∧ f5_aheadSize.toInt ≤ 128)) (h_f4_blockCount : (0 ≤ f4_blockCount.toInt ∧ f4_blockCount.toInt ≤ 9261)) (h_f4_blockLength : (0 ≤ f4_blockLength.toInt ∧ f4_blockLength.toInt ≤ 21)) (h_f4_lastIsFree : (0 ≤ f4_lastIsFree.toInt ∧ f4_lastIsFree.toInt ≤ 1)) (h_f4_stale : (0 ≤ f4_stale.toInt ∧ f4_stale.toInt ≤ 1)) (hI : IAX ai) (hw_w0 : RWX ad w0) (hw_w1 : RWX ad w1) (hw_w2 : RWX ad w2) (hw_w3 : RWX ad w3) : Met l yJ7_fill_d0a16 (.code yJ7_fill_d0a16 cJ7_fill_d0a16 5 none :: TT) ({ frames := 2, cells := 0, slots := 0, locals := 80 } : Room) (PcS dC dI (TY cI cJ cII cJJ) [.ref (ad 55), .long y1] (WX cI cJ cII cJJ ad f3_unknowns f3_equations f2_roundSupports f2_stale f7_size f1_size f5_keptSize f5_aheadSize f0_solved f4_blockCount f4_blockLength f4_lastIsFree f4_stale ai al w0 w1 w2 w3) sz 0 g) (Q_m028_J7_fill_d0a16 dC dI cI cJ cII cJJ ad f3_unknowns f3_equations f2_roundSupports f2_stale f7_size f1_size f5_keptSize f5_aheadSize f0_solved f4_blockCount f4_blockLength f4_lastIsFree f4_stale ai al w0 w1 w2 w3 (va_A (WX cI cJ cII cJJ ad f3_unknowns f3_equations f2_roundSupports f2_stale f7_size f1_size f5_keptSize f5_aheadSize f0_solved f4_blockCount f4_blockLength f4_lastIsFree f4_stale ai al w0 w1 w2 w3) sz)) 0 0 (va_A (WX cI cJ cII cJJ ad f3_unknowns f3_equations f2_roundSupports f2_stale f7_size f1_size f5_keptSize f5_aheadSize f0_solved f4_blockCount f4_blockLength f4_lastIsFree f4_stale ai al w0 w1 w2 w3) sz) := by
  refine SM.of (y := yJ7_fill_d0a16) (maxL := 5) (av := [.ref (ad 55), .long y1]) (Q_m028_J7_fill_d0a16 dC dI cI cJ cII cJJ ad f3_unknowns f3_equations f2_roundSupports f2_stale f7_size f1_size f5_keptSize f5_aheadSize f0_solved f4_blockCount f4_blockLength f4_lastIsFree f4_stale ai al w0 w1 w2 w3) (by decide +kernel) (Nat.le_of_ble_eq_true rfl) (fun p e s m below meth c A ls hx hb hr hml hown hts hk hnm hA hK hP hD hS hX hl => ?_)
  have C : Cx p c s m meth (([.ref (ad 55), .long y1] : List Value).toArray) A dC dI (TY cI cJ cII cJJ) cJ7_fill_d0a16 none 5 RJ7 0 g := ⟨hx, hb, hr, hml, hown, hts, hk, hA, hK, hX⟩
  have hown : s.vm.findClass RJ7 = some m.cls := hown
  have hl : lv_has ls 5 [(0, .ref (ad 55)), (1, .long y1)] := hl
  obtain ⟨H, hH⟩ : ∃ q, q = s.heap := ⟨_, rfl⟩
  rw [← hH] at hP
  have hS : va_S A s.heap H [] := by rw [hH]; exact hS
  rw [← hH]
  have hG := FL_refl [55] al
  refine lv_iconst (v := 0) hx hb dJ7_fill_d0a16_0 (by decide) ?_
  refine lv_istore_n (lv' := [(3, .int 0), (0, .ref (ad 55)), (1, .long y1)]) hx hb dJ7_fill_d0a16_1 rfl hl (by decide) rfl (fun ls_1 hl_1 => ?_)
  refine lv_aload_n hx hb dJ7_fill_d0a16_2 rfl (lv_at hl_1 1 rfl) ?_
  refine al_ hx hb hK hP 55 1 rfl rfl dJ7_fill_d0a16_3 20 rfl ?_
  refine lv_istore (lv' := [(4, .int 20), (3, .int 0), (0, .ref (ad 55)), (1, .long y1)]) hx hb dJ7_fill_d0a16_4 hl_1 (by decide) rfl (fun ls_2 hl_2 => ?_)
  exact m028_J7_fill_d0a16_b6 C  _ 0 y1 al _ _ _ (by first | omega | decide | (have ka0 := (by decide +kernel : (0 : Int32).toInt = 0); omega)) (by first | omega | decide | (have ka0 := (by decide +kernel : (0 : Int32).toInt = 0); omega)) (by first | omega | decide | (have ka0 := (by decide +kernel : (0 : Int32).toInt = 0); omega)) (by first | omega | decide | (have ka0 := (by decide +kernel : (0 : Int32).toInt = 0); omega)) (by first | omega | decide | (have ka0 := (by decide +kernel : (0 : Int32).toInt = 0); omega)) (by first | omega | decide | (have ka0 := (by decide +kernel : (0 : Int32).toInt = 0); omega)) (by first | omega | decide | (have ka0 := (by decide +kernel : (0 : Int32).toInt = 0); omega)) (by first | omega | decide | (have ka0 := (by decide +kernel : (0 : Int32).toInt = 0); omega)) (by first | omega | decide | (have ka0 := (by decide +kernel : (0 : Int32).toInt = 0); omega)) (by first | omega | decide | (have ka0 := (by decide +kernel : (0 : Int32).toInt = 0); omega)) (by first | omega | decide | (have ka0 := (by decide +kernel : (0 : Int32).toInt = 0); omega)) (by first | omega | decide | (have ka0 := (by decide +kernel : (0 : Int32).toInt = 0); omega)) (j_fuel _) (by omega) hI hG hw_w0 hw_w1 hw_w2 hw_w3 hP hD hS (lv_sub hl_2 [2, 3, 1, 0] rfl)
def Q_m029_J7_fill_d0a16 (dC : Nat → ClassId) (dI : Nat → Nat → Nat) (cI cJ cII cJJ : ClassId) (ad : Nat → Nat) (f3_unknowns f3_equations f2_roundSupports f2_stale f7_size f1_size f5_keptSize f5_aheadSize f0_solved f4_blockCount f4_blockLength f4_lastIsFree f4_stale : Int32) (ai : Nat → Nat → Int32) (al0 : Nat → Nat → Int64) (w0 w1 w2 w3 : Nat) : (Nat → Prop) → Array Value → State → Outcome → State → Prop := fun A => QV (fun t => ∃ (n_al : Nat → Nat → Int64), (FL [56] al0 n_al) ∧ WO dC dI (TY cI cJ cII cJJ) (WX cI cJ cII cJJ ad f3_unknowns f3_equations f2_roundSupports f2_stale f7_size f1_size f5_keptSize f5_aheadSize f0_solved f4_blockCount f4_blockLength f4_lastIsFree f4_stale ai n_al w0 w1 w2 w3) A t) A
set_option maxRecDepth 100000 in
set_option maxHeartbeats 4000000 in
theorem m029_J7_fill_d0a16_b6 {p : Program} {l : Launch} {e : Env} {s : State} {m : MethodId} {args : Array Value} {below : List Frame} {meth : Method} {c : Code} {A : Nat → Prop} {dC : Nat → ClassId} {dI : Nat → Nat → Nat} {cI cJ cII cJJ : ClassId} {ad : Nat → Nat} {g : Nat} {f3_unknowns f3_equations f2_roundSupports f2_stale f7_size f1_size f5_keptSize f5_aheadSize f0_solved f4_blockCount f4_blockLength f4_lastIsFree f4_stale : Int32} {ai : Nat → Nat → Int32} {al0 : Nat → Nat → Int64} {w0 w1 w2 w3 : Nat} (C : Cx p c s m meth args A dC dI (TY cI cJ cII cJJ) cJ7_fill_d0a16 none 5 RJ7 0 g) : ∀ (n : Nat), ∀ (L3 : Int32) (J1 : Int64) (al : Nat → Nat → Int64) (H : Heap) (locs : List Loc) (ls : Array Slot), (0 ≤ L3.toInt ∧ L3.toInt ≤ 20) → (1 ≤ f3_unknowns.toInt ∧ f3_unknowns.toInt ≤ 4) → (0 ≤ f3_equations.toInt ∧ f3_equations.toInt ≤ 3) → (0 ≤ f2_stale.toInt ∧ f2_stale.toInt ≤ 1) → (0 ≤ f7_size.toInt ∧ f7_size.toInt ≤ 256) → (0 ≤ f1_size.toInt ∧ f1_size.toInt ≤ 4) → (0 ≤ f5_keptSize.toInt ∧ f5_keptSize.toInt ≤ 128) → (0 ≤ f5_aheadSize.toInt ∧ f5_aheadSize.toInt ≤ 128) → (0 ≤ f4_blockCount.toInt ∧ f4_blockCount.toInt ≤ 9261) → (0 ≤ f4_blockLength.toInt ∧ f4_blockLength.toInt ≤ 21) → (0 ≤ f4_lastIsFree.toInt ∧ f4_lastIsFree.toInt ≤ 1) → (0 ≤ f4_stale.toInt ∧ f4_stale.toInt ≤ 1) → 20 - L3.toInt < (n : Int) → (0 : Int) < (n : Int) → IAX ai → FL [56] al0 al → RWX ad w0 → RWX ad w1 → RWX ad w2 → RWX ad w3 → va_P (dC, dI) vwCl (WX cI cJ cII cJJ ad f3_unknowns f3_equations f2_roundSupports f2_stale f7_size f1_size f5_keptSize f5_aheadSize f0_solved f4_blockCount f4_blockLength f4_lastIsFree f4_stale ai al w0 w1 w2 w3) H → va_D A (WX cI cJ cII cJJ ad f3_unknowns f3_equations f2_roundSupports f2_stale f7_size f1_size f5_keptSize f5_aheadSize f0_solved f4_blockCount f4_blockLength f4_lastIsFree f4_stale ai al w0 w1 w2 w3) → va_S A s.heap H locs → lv_has ls 5 [(0, .ref (ad 56)), (1, .long J1), (3, .int L3), (4, .int 20)] → W p l e ({ frames := 2, cells := 0, slots := 0, locals := 80 } : Room) s m args below meth c H locs 0 0 (MQ below (Q_m029_J7_fill_d0a16 dC dI cI cJ cII cJJ ad f3_unknowns f3_equations f2_roundSupports f2_stale f7_size f1_size f5_keptSize f5_aheadSize f0_solved f4_blockCount f4_blockLength f4_lastIsFree f4_stale ai al0 w0 w1 w2 w3 A) args s 0 0 A) (F0 m 6 ls []) := by
  obtain ⟨hx, hb, hr, hml, hown, hts, hk, hA, hK, hX⟩ := id C
  intro n
  induction n with
  | zero =>
    intro L3 J1 al H locs ls h0 h1 h2 h3 h4 h5 h6 h7 h8 h9 h10 h11 h12 h13 hI hG hw_w0 hw_w1 hw_w2 hw_w3 hP hD hS hl
    exact absurd h13 (by omega)
  | succ n ih =>
    intro L3 J1 al H locs ls h0 h1 h2 h3 h4 h5 h6 h7 h8 h9 h10 h11 h12 h13 hI hG hw_w0 hw_w1 hw_w2 hw_w3 hP hD hS hl
    refine lv_iload_n hx hb dJ7_fill_d0a16_6 rfl (lv_at hl 2 rfl) ?_
    refine lv_iload hx hb dJ7_fill_d0a16_7 (lv_at hl 3 rfl) ?_
    refine lv_icmp_ge (tgt := 22) hx hb dJ7_fill_d0a16_9 (by decide) (fun c1 => ?_) (fun c1 => ?_)
    · have c1 := j_le (a := 20) (b := L3.toInt) (by decide +kernel) rfl c1
      exact r2_v hx hb hr hk hS dJ7_fill_d0a16_22 (fun t ht hW => ⟨al, hG, by rw [ht]; exact hP, va_K.moved hW.alike hK, hD⟩)
    · have c1 := j_nle (a := 20) (b := L3.toInt) (by decide +kernel) rfl c1
      refine lv_aload_n hx hb dJ7_fill_d0a16_12 rfl (lv_at hl 0 rfl) ?_
      refine lv_iload_n hx hb dJ7_fill_d0a16_13 rfl (lv_at hl 2 rfl) ?_
      refine lv_lload_n hx hb dJ7_fill_d0a16_14 rfl (lv_at hl 1 rfl) ?_
      refine va_last hx hb hK hP hD hS 56 1 rfl rfl (j_in (a := L3.toInt) rfl (by omega) (by omega)) dJ7_fill_d0a16_15 (fun H_1 locs_1 hP_1 hD_1 hS_1 => ?_)
      obtain ⟨al2, e_al2⟩ : ∃ q : Nat → Nat → Int64, q = va_up al 56 (vp_updL (al 56) L3.toNatClampNeg J1) := ⟨_, rfl⟩
      have hG_2 := FL_st hG e_al2 (by decide)
      have hP_3 : va_P (dC, dI) vwCl (WX cI cJ cII cJJ ad f3_unknowns f3_equations f2_roundSupports f2_stale f7_size f1_size f5_keptSize f5_aheadSize f0_solved f4_blockCount f4_blockLength f4_lastIsFree f4_stale ai al2 w0 w1 w2 w3) H_1 := by rw [e_al2]; exact hP_1
      have hD_4 : va_D A (WX cI cJ cII cJJ ad f3_unknowns f3_equations f2_roundSupports f2_stale f7_size f1_size f5_keptSize f5_aheadSize f0_solved f4_blockCount f4_blockLength f4_lastIsFree f4_stale ai al2 w0 w1 w2 w3) := by rw [e_al2]; exact hD_1
      obtain ⟨z3, e_z3⟩ : ∃ q : Int32, q = L3 + Int32.ofInt 1 := ⟨_, rfl⟩
      have g_z3 : z3.toInt = L3.toInt + 1 := by rw [e_z3]; exact n_add (a := L3.toInt) (b := 1) rfl (by decide +kernel) (by omega) (by omega)
      refine lv_iinc (v := z3) (lv' := [(3, .int z3), (0, .ref (ad 56)), (1, .long J1), (4, .int 20)]) hx hb dJ7_fill_d0a16_16 hl (k := 2) rfl e_z3.symm (by decide) rfl (fun ls_5 hl_5 => ?_)
      refine lv_goto (tgt := 6) hx hb dJ7_fill_d0a16_19 (by decide) ?_
      exact ih z3 J1 al2 _ _ _ (by omega) (by omega) (by omega) (by omega) (by omega) (by omega) (by omega) (by omega) (by omega) (by omega) (by omega) (by omega) (by omega) (by omega) hI hG_2 hw_w0 hw_w1 hw_w2 hw_w3 hP_3 hD_4 hS_1 (lv_sub hl_5 [1, 2, 0, 3] rfl)
set_option maxRecDepth 100000 in
set_option maxHeartbeats 4000000 in
theorem m029_J7_fill_d0a16 (l : Launch) (dC : Nat → ClassId) (dI : Nat → Nat → Nat) (cI cJ cII cJJ : ClassId) (sz g : Nat) (ad : Nat → Nat) (f3_unknowns f3_equations f2_roundSupports f2_stale f7_size f1_size f5_keptSize f5_aheadSize f0_solved f4_blockCount f4_blockLength f4_lastIsFree f4_stale : Int32) (ai : Nat → Nat → Int32) (al : Nat → Nat → Int64) (w0 w1 w2 w3 : Nat) (y1 : Int64) (h_f3_unknowns : (1 ≤ f3_unknowns.toInt ∧ f3_unknowns.toInt ≤ 4)) (h_f3_equations : (0 ≤ f3_equations.toInt ∧ f3_equations.toInt ≤ 3)) (h_f2_stale : (0 ≤ f2_stale.toInt ∧ f2_stale.toInt ≤ 1)) (h_f7_size : (0 ≤ f7_size.toInt ∧ f7_size.toInt ≤ 256)) (h_f1_size : (0 ≤ f1_size.toInt ∧ f1_size.toInt ≤ 4)) (h_f5_keptSize : (0 ≤ f5_keptSize.toInt ∧ f5_keptSize.toInt ≤ 128)) (h_f5_aheadSize : (0 ≤ f5_aheadSize.toInt ∧ f5_aheadSize.toInt ≤ 128)) (h_f4_blockCount : (0 ≤ f4_blockCount.toInt ∧ f4_blockCount.toInt ≤ 9261)) (h_f4_blockLength : (0 ≤ f4_blockLength.toInt ∧ f4_blockLength.toInt ≤ 21)) (h_f4_lastIsFree : (0 ≤ f4_lastIsFree.toInt ∧ f4_lastIsFree.toInt ≤ 1)) (h_f4_stale : (0 ≤ f4_stale.toInt ∧ f4_stale.toInt ≤ 1)) (hI : IAX ai) (hw_w0 : RWX ad w0) (hw_w1 : RWX ad w1) (hw_w2 : RWX ad w2) (hw_w3 : RWX ad w3) : Met l yJ7_fill_d0a16 (.code yJ7_fill_d0a16 cJ7_fill_d0a16 5 none :: TT) ({ frames := 2, cells := 0, slots := 0, locals := 80 } : Room) (PcS dC dI (TY cI cJ cII cJJ) [.ref (ad 56), .long y1] (WX cI cJ cII cJJ ad f3_unknowns f3_equations f2_roundSupports f2_stale f7_size f1_size f5_keptSize f5_aheadSize f0_solved f4_blockCount f4_blockLength f4_lastIsFree f4_stale ai al w0 w1 w2 w3) sz 0 g) (Q_m029_J7_fill_d0a16 dC dI cI cJ cII cJJ ad f3_unknowns f3_equations f2_roundSupports f2_stale f7_size f1_size f5_keptSize f5_aheadSize f0_solved f4_blockCount f4_blockLength f4_lastIsFree f4_stale ai al w0 w1 w2 w3 (va_A (WX cI cJ cII cJJ ad f3_unknowns f3_equations f2_roundSupports f2_stale f7_size f1_size f5_keptSize f5_aheadSize f0_solved f4_blockCount f4_blockLength f4_lastIsFree f4_stale ai al w0 w1 w2 w3) sz)) 0 0 (va_A (WX cI cJ cII cJJ ad f3_unknowns f3_equations f2_roundSupports f2_stale f7_size f1_size f5_keptSize f5_aheadSize f0_solved f4_blockCount f4_blockLength f4_lastIsFree f4_stale ai al w0 w1 w2 w3) sz) := by
  refine SM.of (y := yJ7_fill_d0a16) (maxL := 5) (av := [.ref (ad 56), .long y1]) (Q_m029_J7_fill_d0a16 dC dI cI cJ cII cJJ ad f3_unknowns f3_equations f2_roundSupports f2_stale f7_size f1_size f5_keptSize f5_aheadSize f0_solved f4_blockCount f4_blockLength f4_lastIsFree f4_stale ai al w0 w1 w2 w3) (by decide +kernel) (Nat.le_of_ble_eq_true rfl) (fun p e s m below meth c A ls hx hb hr hml hown hts hk hnm hA hK hP hD hS hX hl => ?_)
  have C : Cx p c s m meth (([.ref (ad 56), .long y1] : List Value).toArray) A dC dI (TY cI cJ cII cJJ) cJ7_fill_d0a16 none 5 RJ7 0 g := ⟨hx, hb, hr, hml, hown, hts, hk, hA, hK, hX⟩
  have hown : s.vm.findClass RJ7 = some m.cls := hown
  have hl : lv_has ls 5 [(0, .ref (ad 56)), (1, .long y1)] := hl
  obtain ⟨H, hH⟩ : ∃ q, q = s.heap := ⟨_, rfl⟩
  rw [← hH] at hP
  have hS : va_S A s.heap H [] := by rw [hH]; exact hS
  rw [← hH]
  have hG := FL_refl [56] al
  refine lv_iconst (v := 0) hx hb dJ7_fill_d0a16_0 (by decide) ?_
  refine lv_istore_n (lv' := [(3, .int 0), (0, .ref (ad 56)), (1, .long y1)]) hx hb dJ7_fill_d0a16_1 rfl hl (by decide) rfl (fun ls_1 hl_1 => ?_)
  refine lv_aload_n hx hb dJ7_fill_d0a16_2 rfl (lv_at hl_1 1 rfl) ?_
  refine al_ hx hb hK hP 56 1 rfl rfl dJ7_fill_d0a16_3 20 rfl ?_
  refine lv_istore (lv' := [(4, .int 20), (3, .int 0), (0, .ref (ad 56)), (1, .long y1)]) hx hb dJ7_fill_d0a16_4 hl_1 (by decide) rfl (fun ls_2 hl_2 => ?_)
  exact m029_J7_fill_d0a16_b6 C  _ 0 y1 al _ _ _ (by first | omega | decide | (have ka0 := (by decide +kernel : (0 : Int32).toInt = 0); omega)) (by first | omega | decide | (have ka0 := (by decide +kernel : (0 : Int32).toInt = 0); omega)) (by first | omega | decide | (have ka0 := (by decide +kernel : (0 : Int32).toInt = 0); omega)) (by first | omega | decide | (have ka0 := (by decide +kernel : (0 : Int32).toInt = 0); omega)) (by first | omega | decide | (have ka0 := (by decide +kernel : (0 : Int32).toInt = 0); omega)) (by first | omega | decide | (have ka0 := (by decide +kernel : (0 : Int32).toInt = 0); omega)) (by first | omega | decide | (have ka0 := (by decide +kernel : (0 : Int32).toInt = 0); omega)) (by first | omega | decide | (have ka0 := (by decide +kernel : (0 : Int32).toInt = 0); omega)) (by first | omega | decide | (have ka0 := (by decide +kernel : (0 : Int32).toInt = 0); omega)) (by first | omega | decide | (have ka0 := (by decide +kernel : (0 : Int32).toInt = 0); omega)) (by first | omega | decide | (have ka0 := (by decide +kernel : (0 : Int32).toInt = 0); omega)) (by first | omega | decide | (have ka0 := (by decide +kernel : (0 : Int32).toInt = 0); omega)) (j_fuel _) (by omega) hI hG hw_w0 hw_w1 hw_w2 hw_w3 hP hD hS (lv_sub hl_2 [2, 3, 1, 0] rfl)
def Q_m030_J7_fill_d0a16 (dC : Nat → ClassId) (dI : Nat → Nat → Nat) (cI cJ cII cJJ : ClassId) (ad : Nat → Nat) (f3_unknowns f3_equations f2_roundSupports f2_stale f7_size f1_size f5_keptSize f5_aheadSize f0_solved f4_blockCount f4_blockLength f4_lastIsFree f4_stale : Int32) (ai : Nat → Nat → Int32) (al0 : Nat → Nat → Int64) (w0 w1 w2 w3 : Nat) : (Nat → Prop) → Array Value → State → Outcome → State → Prop := fun A => QV (fun t => ∃ (n_al : Nat → Nat → Int64), (FL [57] al0 n_al) ∧ WO dC dI (TY cI cJ cII cJJ) (WX cI cJ cII cJJ ad f3_unknowns f3_equations f2_roundSupports f2_stale f7_size f1_size f5_keptSize f5_aheadSize f0_solved f4_blockCount f4_blockLength f4_lastIsFree f4_stale ai n_al w0 w1 w2 w3) A t) A
set_option maxRecDepth 100000 in
set_option maxHeartbeats 4000000 in
theorem m030_J7_fill_d0a16_b6 {p : Program} {l : Launch} {e : Env} {s : State} {m : MethodId} {args : Array Value} {below : List Frame} {meth : Method} {c : Code} {A : Nat → Prop} {dC : Nat → ClassId} {dI : Nat → Nat → Nat} {cI cJ cII cJJ : ClassId} {ad : Nat → Nat} {g : Nat} {f3_unknowns f3_equations f2_roundSupports f2_stale f7_size f1_size f5_keptSize f5_aheadSize f0_solved f4_blockCount f4_blockLength f4_lastIsFree f4_stale : Int32} {ai : Nat → Nat → Int32} {al0 : Nat → Nat → Int64} {w0 w1 w2 w3 : Nat} (C : Cx p c s m meth args A dC dI (TY cI cJ cII cJJ) cJ7_fill_d0a16 none 5 RJ7 0 g) : ∀ (n : Nat), ∀ (L3 : Int32) (J1 : Int64) (al : Nat → Nat → Int64) (H : Heap) (locs : List Loc) (ls : Array Slot), (0 ≤ L3.toInt ∧ L3.toInt ≤ 20) → (1 ≤ f3_unknowns.toInt ∧ f3_unknowns.toInt ≤ 4) → (0 ≤ f3_equations.toInt ∧ f3_equations.toInt ≤ 3) → (0 ≤ f2_stale.toInt ∧ f2_stale.toInt ≤ 1) → (0 ≤ f7_size.toInt ∧ f7_size.toInt ≤ 256) → (0 ≤ f1_size.toInt ∧ f1_size.toInt ≤ 4) → (0 ≤ f5_keptSize.toInt ∧ f5_keptSize.toInt ≤ 128) → (0 ≤ f5_aheadSize.toInt ∧ f5_aheadSize.toInt ≤ 128) → (0 ≤ f4_blockCount.toInt ∧ f4_blockCount.toInt ≤ 9261) → (0 ≤ f4_blockLength.toInt ∧ f4_blockLength.toInt ≤ 21) → (0 ≤ f4_lastIsFree.toInt ∧ f4_lastIsFree.toInt ≤ 1) → (0 ≤ f4_stale.toInt ∧ f4_stale.toInt ≤ 1) → 20 - L3.toInt < (n : Int) → (0 : Int) < (n : Int) → IAX ai → FL [57] al0 al → RWX ad w0 → RWX ad w1 → RWX ad w2 → RWX ad w3 → va_P (dC, dI) vwCl (WX cI cJ cII cJJ ad f3_unknowns f3_equations f2_roundSupports f2_stale f7_size f1_size f5_keptSize f5_aheadSize f0_solved f4_blockCount f4_blockLength f4_lastIsFree f4_stale ai al w0 w1 w2 w3) H → va_D A (WX cI cJ cII cJJ ad f3_unknowns f3_equations f2_roundSupports f2_stale f7_size f1_size f5_keptSize f5_aheadSize f0_solved f4_blockCount f4_blockLength f4_lastIsFree f4_stale ai al w0 w1 w2 w3) → va_S A s.heap H locs → lv_has ls 5 [(0, .ref (ad 57)), (1, .long J1), (3, .int L3), (4, .int 20)] → W p l e ({ frames := 2, cells := 0, slots := 0, locals := 80 } : Room) s m args below meth c H locs 0 0 (MQ below (Q_m030_J7_fill_d0a16 dC dI cI cJ cII cJJ ad f3_unknowns f3_equations f2_roundSupports f2_stale f7_size f1_size f5_keptSize f5_aheadSize f0_solved f4_blockCount f4_blockLength f4_lastIsFree f4_stale ai al0 w0 w1 w2 w3 A) args s 0 0 A) (F0 m 6 ls []) := by
  obtain ⟨hx, hb, hr, hml, hown, hts, hk, hA, hK, hX⟩ := id C
  intro n
  induction n with
  | zero =>
    intro L3 J1 al H locs ls h0 h1 h2 h3 h4 h5 h6 h7 h8 h9 h10 h11 h12 h13 hI hG hw_w0 hw_w1 hw_w2 hw_w3 hP hD hS hl
    exact absurd h13 (by omega)
  | succ n ih =>
    intro L3 J1 al H locs ls h0 h1 h2 h3 h4 h5 h6 h7 h8 h9 h10 h11 h12 h13 hI hG hw_w0 hw_w1 hw_w2 hw_w3 hP hD hS hl
    refine lv_iload_n hx hb dJ7_fill_d0a16_6 rfl (lv_at hl 2 rfl) ?_
    refine lv_iload hx hb dJ7_fill_d0a16_7 (lv_at hl 3 rfl) ?_
    refine lv_icmp_ge (tgt := 22) hx hb dJ7_fill_d0a16_9 (by decide) (fun c1 => ?_) (fun c1 => ?_)
    · have c1 := j_le (a := 20) (b := L3.toInt) (by decide +kernel) rfl c1
      exact r2_v hx hb hr hk hS dJ7_fill_d0a16_22 (fun t ht hW => ⟨al, hG, by rw [ht]; exact hP, va_K.moved hW.alike hK, hD⟩)
    · have c1 := j_nle (a := 20) (b := L3.toInt) (by decide +kernel) rfl c1
      refine lv_aload_n hx hb dJ7_fill_d0a16_12 rfl (lv_at hl 0 rfl) ?_
      refine lv_iload_n hx hb dJ7_fill_d0a16_13 rfl (lv_at hl 2 rfl) ?_
      refine lv_lload_n hx hb dJ7_fill_d0a16_14 rfl (lv_at hl 1 rfl) ?_
      refine va_last hx hb hK hP hD hS 57 1 rfl rfl (j_in (a := L3.toInt) rfl (by omega) (by omega)) dJ7_fill_d0a16_15 (fun H_1 locs_1 hP_1 hD_1 hS_1 => ?_)
      obtain ⟨al2, e_al2⟩ : ∃ q : Nat → Nat → Int64, q = va_up al 57 (vp_updL (al 57) L3.toNatClampNeg J1) := ⟨_, rfl⟩
      have hG_2 := FL_st hG e_al2 (by decide)
      have hP_3 : va_P (dC, dI) vwCl (WX cI cJ cII cJJ ad f3_unknowns f3_equations f2_roundSupports f2_stale f7_size f1_size f5_keptSize f5_aheadSize f0_solved f4_blockCount f4_blockLength f4_lastIsFree f4_stale ai al2 w0 w1 w2 w3) H_1 := by rw [e_al2]; exact hP_1
      have hD_4 : va_D A (WX cI cJ cII cJJ ad f3_unknowns f3_equations f2_roundSupports f2_stale f7_size f1_size f5_keptSize f5_aheadSize f0_solved f4_blockCount f4_blockLength f4_lastIsFree f4_stale ai al2 w0 w1 w2 w3) := by rw [e_al2]; exact hD_1
      obtain ⟨z3, e_z3⟩ : ∃ q : Int32, q = L3 + Int32.ofInt 1 := ⟨_, rfl⟩
      have g_z3 : z3.toInt = L3.toInt + 1 := by rw [e_z3]; exact n_add (a := L3.toInt) (b := 1) rfl (by decide +kernel) (by omega) (by omega)
      refine lv_iinc (v := z3) (lv' := [(3, .int z3), (0, .ref (ad 57)), (1, .long J1), (4, .int 20)]) hx hb dJ7_fill_d0a16_16 hl (k := 2) rfl e_z3.symm (by decide) rfl (fun ls_5 hl_5 => ?_)
      refine lv_goto (tgt := 6) hx hb dJ7_fill_d0a16_19 (by decide) ?_
      exact ih z3 J1 al2 _ _ _ (by omega) (by omega) (by omega) (by omega) (by omega) (by omega) (by omega) (by omega) (by omega) (by omega) (by omega) (by omega) (by omega) (by omega) hI hG_2 hw_w0 hw_w1 hw_w2 hw_w3 hP_3 hD_4 hS_1 (lv_sub hl_5 [1, 2, 0, 3] rfl)
set_option maxRecDepth 100000 in
set_option maxHeartbeats 4000000 in
theorem m030_J7_fill_d0a16 (l : Launch) (dC : Nat → ClassId) (dI : Nat → Nat → Nat) (cI cJ cII cJJ : ClassId) (sz g : Nat) (ad : Nat → Nat) (f3_unknowns f3_equations f2_roundSupports f2_stale f7_size f1_size f5_keptSize f5_aheadSize f0_solved f4_blockCount f4_blockLength f4_lastIsFree f4_stale : Int32) (ai : Nat → Nat → Int32) (al : Nat → Nat → Int64) (w0 w1 w2 w3 : Nat) (y1 : Int64) (h_f3_unknowns : (1 ≤ f3_unknowns.toInt ∧ f3_unknowns.toInt ≤ 4)) (h_f3_equations : (0 ≤ f3_equations.toInt ∧ f3_equations.toInt ≤ 3)) (h_f2_stale : (0 ≤ f2_stale.toInt ∧ f2_stale.toInt ≤ 1)) (h_f7_size : (0 ≤ f7_size.toInt ∧ f7_size.toInt ≤ 256)) (h_f1_size : (0 ≤ f1_size.toInt ∧ f1_size.toInt ≤ 4)) (h_f5_keptSize : (0 ≤ f5_keptSize.toInt ∧ f5_keptSize.toInt ≤ 128)) (h_f5_aheadSize : (0 ≤ f5_aheadSize.toInt ∧ f5_aheadSize.toInt ≤ 128)) (h_f4_blockCount : (0 ≤ f4_blockCount.toInt ∧ f4_blockCount.toInt ≤ 9261)) (h_f4_blockLength : (0 ≤ f4_blockLength.toInt ∧ f4_blockLength.toInt ≤ 21)) (h_f4_lastIsFree : (0 ≤ f4_lastIsFree.toInt ∧ f4_lastIsFree.toInt ≤ 1)) (h_f4_stale : (0 ≤ f4_stale.toInt ∧ f4_stale.toInt ≤ 1)) (hI : IAX ai) (hw_w0 : RWX ad w0) (hw_w1 : RWX ad w1) (hw_w2 : RWX ad w2) (hw_w3 : RWX ad w3) : Met l yJ7_fill_d0a16 (.code yJ7_fill_d0a16 cJ7_fill_d0a16 5 none :: TT) ({ frames := 2, cells := 0, slots := 0, locals := 80 } : Room) (PcS dC dI (TY cI cJ cII cJJ) [.ref (ad 57), .long y1] (WX cI cJ cII cJJ ad f3_unknowns f3_equations f2_roundSupports f2_stale f7_size f1_size f5_keptSize f5_aheadSize f0_solved f4_blockCount f4_blockLength f4_lastIsFree f4_stale ai al w0 w1 w2 w3) sz 0 g) (Q_m030_J7_fill_d0a16 dC dI cI cJ cII cJJ ad f3_unknowns f3_equations f2_roundSupports f2_stale f7_size f1_size f5_keptSize f5_aheadSize f0_solved f4_blockCount f4_blockLength f4_lastIsFree f4_stale ai al w0 w1 w2 w3 (va_A (WX cI cJ cII cJJ ad f3_unknowns f3_equations f2_roundSupports f2_stale f7_size f1_size f5_keptSize f5_aheadSize f0_solved f4_blockCount f4_blockLength f4_lastIsFree f4_stale ai al w0 w1 w2 w3) sz)) 0 0 (va_A (WX cI cJ cII cJJ ad f3_unknowns f3_equations f2_roundSupports f2_stale f7_size f1_size f5_keptSize f5_aheadSize f0_solved f4_blockCount f4_blockLength f4_lastIsFree f4_stale ai al w0 w1 w2 w3) sz) := by
  refine SM.of (y := yJ7_fill_d0a16) (maxL := 5) (av := [.ref (ad 57), .long y1]) (Q_m030_J7_fill_d0a16 dC dI cI cJ cII cJJ ad f3_unknowns f3_equations f2_roundSupports f2_stale f7_size f1_size f5_keptSize f5_aheadSize f0_solved f4_blockCount f4_blockLength f4_lastIsFree f4_stale ai al w0 w1 w2 w3) (by decide +kernel) (Nat.le_of_ble_eq_true rfl) (fun p e s m below meth c A ls hx hb hr hml hown hts hk hnm hA hK hP hD hS hX hl => ?_)
  have C : Cx p c s m meth (([.ref (ad 57), .long y1] : List Value).toArray) A dC dI (TY cI cJ cII cJJ) cJ7_fill_d0a16 none 5 RJ7 0 g := ⟨hx, hb, hr, hml, hown, hts, hk, hA, hK, hX⟩
  have hown : s.vm.findClass RJ7 = some m.cls := hown
  have hl : lv_has ls 5 [(0, .ref (ad 57)), (1, .long y1)] := hl
  obtain ⟨H, hH⟩ : ∃ q, q = s.heap := ⟨_, rfl⟩
  rw [← hH] at hP
  have hS : va_S A s.heap H [] := by rw [hH]; exact hS
  rw [← hH]
  have hG := FL_refl [57] al
  refine lv_iconst (v := 0) hx hb dJ7_fill_d0a16_0 (by decide) ?_
  refine lv_istore_n (lv' := [(3, .int 0), (0, .ref (ad 57)), (1, .long y1)]) hx hb dJ7_fill_d0a16_1 rfl hl (by decide) rfl (fun ls_1 hl_1 => ?_)
  refine lv_aload_n hx hb dJ7_fill_d0a16_2 rfl (lv_at hl_1 1 rfl) ?_
  refine al_ hx hb hK hP 57 1 rfl rfl dJ7_fill_d0a16_3 20 rfl ?_
  refine lv_istore (lv' := [(4, .int 20), (3, .int 0), (0, .ref (ad 57)), (1, .long y1)]) hx hb dJ7_fill_d0a16_4 hl_1 (by decide) rfl (fun ls_2 hl_2 => ?_)
  exact m030_J7_fill_d0a16_b6 C  _ 0 y1 al _ _ _ (by first | omega | decide | (have ka0 := (by decide +kernel : (0 : Int32).toInt = 0); omega)) (by first | omega | decide | (have ka0 := (by decide +kernel : (0 : Int32).toInt = 0); omega)) (by first | omega | decide | (have ka0 := (by decide +kernel : (0 : Int32).toInt = 0); omega)) (by first | omega | decide | (have ka0 := (by decide +kernel : (0 : Int32).toInt = 0); omega)) (by first | omega | decide | (have ka0 := (by decide +kernel : (0 : Int32).toInt = 0); omega)) (by first | omega | decide | (have ka0 := (by decide +kernel : (0 : Int32).toInt = 0); omega)) (by first | omega | decide | (have ka0 := (by decide +kernel : (0 : Int32).toInt = 0); omega)) (by first | omega | decide | (have ka0 := (by decide +kernel : (0 : Int32).toInt = 0); omega)) (by first | omega | decide | (have ka0 := (by decide +kernel : (0 : Int32).toInt = 0); omega)) (by first | omega | decide | (have ka0 := (by decide +kernel : (0 : Int32).toInt = 0); omega)) (by first | omega | decide | (have ka0 := (by decide +kernel : (0 : Int32).toInt = 0); omega)) (by first | omega | decide | (have ka0 := (by decide +kernel : (0 : Int32).toInt = 0); omega)) (j_fuel _) (by omega) hI hG hw_w0 hw_w1 hw_w2 hw_w3 hP hD hS (lv_sub hl_2 [2, 3, 1, 0] rfl)
def Q_m031_X6_layOut (dC : Nat → ClassId) (dI : Nat → Nat → Nat) (cI cJ cII cJJ : ClassId) (ad : Nat → Nat) (f3_unknowns f3_equations f2_roundSupports f2_stale f7_size f1_size f5_keptSize f5_aheadSize f0_solved f4_blockCount f4_blockLength f4_lastIsFree f4_stale : Int32) (ai0 : Nat → Nat → Int32) (al0 : Nat → Nat → Int64) (w0 w1 w2 w3 : Nat) (x1 : Int32) (x2 : Int32) (x3 : Int32) : (Nat → Prop) → Array Value → State → Outcome → State → Prop := fun A => QV (fun t => ∃ (n_ai : Nat → Nat → Int32), ∃ (n_al : Nat → Nat → Int64), (n_ai 58 = upd (ai0 58) x1.toInt.toNat x2 ∧ n_ai 59 = upd (ai0 59) x1.toInt.toNat x3 ∧ IAX n_ai ∧ FR [58, 59] ai0 n_ai ∧ FL [54, 55, 56, 57] al0 n_al) ∧ WO dC dI (TY cI cJ cII cJJ) (WX cI cJ cII cJJ ad f3_unknowns f3_equations f2_roundSupports f2_stale f7_size f1_size f5_keptSize f5_aheadSize f0_solved f4_blockCount f4_blockLength f4_lastIsFree f4_stale n_ai n_al w0 w1 w2 w3) A t) A
set_option maxRecDepth 100000 in
set_option maxHeartbeats 4000000 in
theorem m031_X6_layOut (l : Launch) (dC : Nat → ClassId) (dI : Nat → Nat → Nat) (cI cJ cII cJJ : ClassId) (sz g : Nat) (ad : Nat → Nat) (f3_unknowns f3_equations f2_roundSupports f2_stale f7_size f1_size f5_keptSize f5_aheadSize f0_solved f4_blockCount f4_blockLength f4_lastIsFree f4_stale : Int32) (ai : Nat → Nat → Int32) (al : Nat → Nat → Int64) (w0 w1 w2 w3 : Nat) (x1 : Int32) (x2 : Int32) (x3 : Int32) (h_x1 : (0 ≤ x1.toInt ∧ x1.toInt ≤ 3)) (h_x3 : (0 ≤ x3.toInt ∧ x3.toInt ≤ 20)) (h_f3_unknowns : (1 ≤ f3_unknowns.toInt ∧ f3_unknowns.toInt ≤ 4)) (h_f3_equations : (0 ≤ f3_equations.toInt ∧ f3_equations.toInt ≤ 3)) (h_f2_stale : (0 ≤ f2_stale.toInt ∧ f2_stale.toInt ≤ 1)) (h_f7_size : (0 ≤ f7_size.toInt ∧ f7_size.toInt ≤ 256)) (h_f1_size : (0 ≤ f1_size.toInt ∧ f1_size.toInt ≤ 4)) (h_f5_keptSize : (0 ≤ f5_keptSize.toInt ∧ f5_keptSize.toInt ≤ 128)) (h_f5_aheadSize : (0 ≤ f5_aheadSize.toInt ∧ f5_aheadSize.toInt ≤ 128)) (h_f4_blockCount : (0 ≤ f4_blockCount.toInt ∧ f4_blockCount.toInt ≤ 9261)) (h_f4_blockLength : (0 ≤ f4_blockLength.toInt ∧ f4_blockLength.toInt ≤ 21)) (h_f4_lastIsFree : (0 ≤ f4_lastIsFree.toInt ∧ f4_lastIsFree.toInt ≤ 1)) (h_f4_stale : (0 ≤ f4_stale.toInt ∧ f4_stale.toInt ≤ 1)) (hI : IAX ai) (hw_w0 : RWX ad w0) (hw_w1 : RWX ad w1) (hw_w2 : RWX ad w2) (hw_w3 : RWX ad w3) : Met l yX6_layOut (.code yX6_layOut cX6_layOut 4 none :: TT) ({ frames := 3, cells := 0, slots := 0, locals := 140 } : Room) (PcS dC dI (TY cI cJ cII cJJ) [.ref (ad 52), .int x1, .int x2, .int x3] (WX cI cJ cII cJJ ad f3_unknowns f3_equations f2_roundSupports f2_stale f7_size f1_size f5_keptSize f5_aheadSize f0_solved f4_blockCount f4_blockLength f4_lastIsFree f4_stale ai al w0 w1 w2 w3) sz 0 g) (Q_m031_X6_layOut dC dI cI cJ cII cJJ ad f3_unknowns f3_equations f2_roundSupports f2_stale f7_size f1_size f5_keptSize f5_aheadSize f0_solved f4_blockCount f4_blockLength f4_lastIsFree f4_stale ai al w0 w1 w2 w3 x1 x2 x3 (va_A (WX cI cJ cII cJJ ad f3_unknowns f3_equations f2_roundSupports f2_stale f7_size f1_size f5_keptSize f5_aheadSize f0_solved f4_blockCount f4_blockLength f4_lastIsFree f4_stale ai al w0 w1 w2 w3) sz)) 0 0 (va_A (WX cI cJ cII cJJ ad f3_unknowns f3_equations f2_roundSupports f2_stale f7_size f1_size f5_keptSize f5_aheadSize f0_solved f4_blockCount f4_blockLength f4_lastIsFree f4_stale ai al w0 w1 w2 w3) sz) := by
  refine SM.of (y := yX6_layOut) (maxL := 4) (av := [.ref (ad 52), .int x1, .int x2, .int x3]) (Q_m031_X6_layOut dC dI cI cJ cII cJJ ad f3_unknowns f3_equations f2_roundSupports f2_stale f7_size f1_size f5_keptSize f5_aheadSize f0_solved f4_blockCount f4_blockLength f4_lastIsFree f4_stale ai al w0 w1 w2 w3 x1 x2 x3) (by decide +kernel) (Nat.le_of_ble_eq_true rfl) (fun p e s m below meth c A ls hx hb hr hml hown hts hk hnm hA hK hP hD hS hX hl => ?_)
  have C : Cx p c s m meth (([.ref (ad 52), .int x1, .int x2, .int x3] : List Value).toArray) A dC dI (TY cI cJ cII cJJ) cX6_layOut none 4 RX6 0 g := ⟨hx, hb, hr, hml, hown, hts, hk, hA, hK, hX⟩
  have hown : s.vm.findClass RX6 = some m.cls := hown
  have hl : lv_has ls 4 [(0, .ref (ad 52)), (1, .int x1), (2, .int x2), (3, .int x3)] := hl
  obtain ⟨H, hH⟩ : ∃ q, q = s.heap := ⟨_, rfl⟩
  rw [← hH] at hP
  have hS : va_S A s.heap H [] := by rw [hH]; exact hS
  rw [← hH]
  have hF := FR_refl [58, 59] ai
  have hG := FL_refl [54, 55, 56, 57] al
  have ra_x2 := s_any x2
  refine lv_aload_n hx hb dX6_layOut_0 rfl (lv_at hl 0 rfl) ?_
  refine gf (k := 1) hx hb hts inX6 hown hK hP k_253 rfl (by decide) rfl 52 rfl (.ref (ad 58)) rfl dX6_layOut_1 ?_
  refine lv_iload_n hx hb dX6_layOut_4 rfl (lv_at hl 1 rfl) ?_
  refine lv_iload_n hx hb dX6_layOut_5 rfl (lv_at hl 2 rfl) ?_
  refine va_iast hx hb hK hP hD hS 58 0 rfl rfl (j_in (a := x1.toInt) rfl (by omega) (by omega)) dX6_layOut_6 (fun H_1 locs_1 hP_1 hD_1 hS_1 => ?_)
  obtain ⟨ai1, e_ai1⟩ : ∃ q : Nat → Nat → Int32, q = va_up ai 58 (upd (ai 58) x1.toNatClampNeg x2) := ⟨_, rfl⟩
  have hF_2 := FR_st hF e_ai1 (by decide)
  have hI_3 : IAX ai1 := by rw [e_ai1]; exact hI
  have hP_4 : va_P (dC, dI) vwCl (WX cI cJ cII cJJ ad f3_unknowns f3_equations f2_roundSupports f2_stale f7_size f1_size f5_keptSize f5_aheadSize f0_solved f4_blockCount f4_blockLength f4_lastIsFree f4_stale ai1 al w0 w1 w2 w3) H_1 := by rw [e_ai1]; exact hP_1
  have hD_5 : va_D A (WX cI cJ cII cJJ ad f3_unknowns f3_equations f2_roundSupports f2_stale f7_size f1_size f5_keptSize f5_aheadSize f0_solved f4_blockCount f4_blockLength f4_lastIsFree f4_stale ai1 al w0 w1 w2 w3) := by rw [e_ai1]; exact hD_1
  refine lv_aload_n hx hb dX6_layOut_7 rfl (lv_at hl 0 rfl) ?_
  refine gf (k := 2) hx hb hts inX6 hown hK hP_4 k_255 rfl (by decide) rfl 52 rfl (.ref (ad 59)) rfl dX6_layOut_8 ?_
  refine lv_iload_n hx hb dX6_layOut_11 rfl (lv_at hl 1 rfl) ?_
  refine lv_iload_n hx hb dX6_layOut_12 rfl (lv_at hl 3 rfl) ?_
  refine va_iast hx hb hK hP_4 hD_5 hS_1 59 0 rfl rfl (j_in (a := x1.toInt) rfl (by omega) (by omega)) dX6_layOut_13 (fun H_6 locs_6 hP_6 hD_6 hS_6 => ?_)
  obtain ⟨ai2, e_ai2⟩ : ∃ q : Nat → Nat → Int32, q = va_up ai1 59 (upd (ai1 59) x1.toNatClampNeg x3) := ⟨_, rfl⟩
  have hF_7 := FR_st hF_2 e_ai2 (by decide)
  have hI_8 : IAX ai2 := by rw [e_ai2]; exact IAX_st59 hI_3 (a := x3.toInt) rfl (by omega) (by omega)
  have hP_9 : va_P (dC, dI) vwCl (WX cI cJ cII cJJ ad f3_unknowns f3_equations f2_roundSupports f2_stale f7_size f1_size f5_keptSize f5_aheadSize f0_solved f4_blockCount f4_blockLength f4_lastIsFree f4_stale ai2 al w0 w1 w2 w3) H_6 := by rw [e_ai2]; exact hP_6
  have hD_10 : va_D A (WX cI cJ cII cJJ ad f3_unknowns f3_equations f2_roundSupports f2_stale f7_size f1_size f5_keptSize f5_aheadSize f0_solved f4_blockCount f4_blockLength f4_lastIsFree f4_stale ai2 al w0 w1 w2 w3) := by rw [e_ai2]; exact hD_6
  refine lv_aload_n hx hb dX6_layOut_14 rfl (lv_at hl 0 rfl) ?_
  refine gf (k := 0) hx hb hts inX6 hown hK hP_9 k_251 rfl (by decide) rfl 52 rfl (.ref (ad 53)) rfl dX6_layOut_15 ?_
  refine lv_iload_n hx hb dX6_layOut_18 rfl (lv_at hl 1 rfl) ?_
  rcases (show x1 = 0 ∨ x1 = 1 ∨ x1 = 2 ∨ x1 = 3 from j_cases4 (a := x1.toInt) rfl (by omega) (by omega)) with rfl | rfl | rfl | rfl
  · have k9 : (0 : Int32).toInt = 0 := by decide +kernel
    refine ld_a hx hb hK hP_9 53 3 rfl rfl (vin (by decide +kernel)) dX6_layOut_19 (ad 54) rfl ?_
    refine lv_lconst (v := 0) hx hb dX6_layOut_20 (by decide) ?_
    have hM := m027_J7_fill_d0a16 l dC dI cI cJ cII cJJ H_6.size 0 ad f3_unknowns f3_equations f2_roundSupports f2_stale f7_size f1_size f5_keptSize f5_aheadSize f0_solved f4_blockCount f4_blockLength f4_lastIsFree f4_stale ai2 al w0 w1 w2 w3 0 (by omega) (by omega) (by omega) (by omega) (by omega) (by omega) (by omega) (by omega) (by omega) (by omega) (by omega) hI_8 hw_w0 hw_w1 hw_w2 hw_w3
    refine k2S_v ⟨hx, hb, hml, hown, hts⟩ hK hP_9 hD_10 hS_6 hA hX cs_RX6_27 hM ⟨by decide +kernel, by decide +kernel⟩ rfl rfl (Or.inl rfl) (rest := []) rfl hl.1 rfl (Nat.le_of_ble_eq_true rfl) dX6_layOut_21 ⟨Nat.le_of_ble_eq_true rfl, Nat.le_of_ble_eq_true rfl⟩ (fun t H1 locs_11 ht hB hS_11 hFc => ?_)
    obtain ⟨al4, hGr_r3, hP_12, -, hD_12⟩ := hB
    have hG_13 := FL_tr hG hGr_r3 (by decide)
    rw [ht] at hP_12
    have hD_14 := hD_12.weaken (B := A) (fun k q _ h9 => hFc q.1 h9)
    clear ht
    generalize H1 = H_15 at hP_12 hS_11 ⊢
    exact r2_v hx hb hr hk hS_11 dX6_layOut_24 (fun t ht hW => ⟨ai2, al4, ⟨(by rw [up_ne e_ai2 (by decide), up_self e_ai1]), (by rw [up_self e_ai2, up_ne e_ai1 (by decide)]), hI_8, hF_7, hG_13⟩, by rw [ht]; exact hP_12, va_K.moved hW.alike hK, hD_14⟩)
  · have k9 : (1 : Int32).toInt = 1 := by decide +kernel
    refine ld_a hx hb hK hP_9 53 3 rfl rfl (vin (by decide +kernel)) dX6_layOut_19 (ad 55) rfl ?_
    refine lv_lconst (v := 0) hx hb dX6_layOut_20 (by decide) ?_
    have hM := m028_J7_fill_d0a16 l dC dI cI cJ cII cJJ H_6.size 0 ad f3_unknowns f3_equations f2_roundSupports f2_stale f7_size f1_size f5_keptSize f5_aheadSize f0_solved f4_blockCount f4_blockLength f4_lastIsFree f4_stale ai2 al w0 w1 w2 w3 0 (by omega) (by omega) (by omega) (by omega) (by omega) (by omega) (by omega) (by omega) (by omega) (by omega) (by omega) hI_8 hw_w0 hw_w1 hw_w2 hw_w3
    refine k2S_v ⟨hx, hb, hml, hown, hts⟩ hK hP_9 hD_10 hS_6 hA hX cs_RX6_27 hM ⟨by decide +kernel, by decide +kernel⟩ rfl rfl (Or.inl rfl) (rest := []) rfl hl.1 rfl (Nat.le_of_ble_eq_true rfl) dX6_layOut_21 ⟨Nat.le_of_ble_eq_true rfl, Nat.le_of_ble_eq_true rfl⟩ (fun t H1 locs_16 ht hB hS_16 hFc => ?_)
    obtain ⟨al6, hGr_r5, hP_17, -, hD_17⟩ := hB
    have hG_18 := FL_tr hG hGr_r5 (by decide)
    rw [ht] at hP_17
    have hD_19 := hD_17.weaken (B := A) (fun k q _ h9 => hFc q.1 h9)
    clear ht
    generalize H1 = H_20 at hP_17 hS_16 ⊢
    exact r2_v hx hb hr hk hS_16 dX6_layOut_24 (fun t ht hW => ⟨ai2, al6, ⟨(by rw [up_ne e_ai2 (by decide), up_self e_ai1]), (by rw [up_self e_ai2, up_ne e_ai1 (by decide)]), hI_8, hF_7, hG_18⟩, by rw [ht]; exact hP_17, va_K.moved hW.alike hK, hD_19⟩)
  · have k9 : (2 : Int32).toInt = 2 := by decide +kernel
    refine ld_a hx hb hK hP_9 53 3 rfl rfl (vin (by decide +kernel)) dX6_layOut_19 (ad 56) rfl ?_
    refine lv_lconst (v := 0) hx hb dX6_layOut_20 (by decide) ?_
    have hM := m029_J7_fill_d0a16 l dC dI cI cJ cII cJJ H_6.size 0 ad f3_unknowns f3_equations f2_roundSupports f2_stale f7_size f1_size f5_keptSize f5_aheadSize f0_solved f4_blockCount f4_blockLength f4_lastIsFree f4_stale ai2 al w0 w1 w2 w3 0 (by omega) (by omega) (by omega) (by omega) (by omega) (by omega) (by omega) (by omega) (by omega) (by omega) (by omega) hI_8 hw_w0 hw_w1 hw_w2 hw_w3
    refine k2S_v ⟨hx, hb, hml, hown, hts⟩ hK hP_9 hD_10 hS_6 hA hX cs_RX6_27 hM ⟨by decide +kernel, by decide +kernel⟩ rfl rfl (Or.inl rfl) (rest := []) rfl hl.1 rfl (Nat.le_of_ble_eq_true rfl) dX6_layOut_21 ⟨Nat.le_of_ble_eq_true rfl, Nat.le_of_ble_eq_true rfl⟩ (fun t H1 locs_21 ht hB hS_21 hFc => ?_)
    obtain ⟨al8, hGr_r7, hP_22, -, hD_22⟩ := hB
    have hG_23 := FL_tr hG hGr_r7 (by decide)
    rw [ht] at hP_22
    have hD_24 := hD_22.weaken (B := A) (fun k q _ h9 => hFc q.1 h9)
    clear ht
    generalize H1 = H_25 at hP_22 hS_21 ⊢
    exact r2_v hx hb hr hk hS_21 dX6_layOut_24 (fun t ht hW => ⟨ai2, al8, ⟨(by rw [up_ne e_ai2 (by decide), up_self e_ai1]), (by rw [up_self e_ai2, up_ne e_ai1 (by decide)]), hI_8, hF_7, hG_23⟩, by rw [ht]; exact hP_22, va_K.moved hW.alike hK, hD_24⟩)
  · have k9 : (3 : Int32).toInt = 3 := by decide +kernel
    refine ld_a hx hb hK hP_9 53 3 rfl rfl (vin (by decide +kernel)) dX6_layOut_19 (ad 57) rfl ?_
    refine lv_lconst (v := 0) hx hb dX6_layOut_20 (by decide) ?_
    have hM := m030_J7_fill_d0a16 l dC dI cI cJ cII cJJ H_6.size 0 ad f3_unknowns f3_equations f2_roundSupports f2_stale f7_size f1_size f5_keptSize f5_aheadSize f0_solved f4_blockCount f4_blockLength f4_lastIsFree f4_stale ai2 al w0 w1 w2 w3 0 (by omega) (by omega) (by omega) (by omega) (by omega) (by omega) (by omega) (by omega) (by omega) (by omega) (by omega) hI_8 hw_w0 hw_w1 hw_w2 hw_w3
    refine k2S_v ⟨hx, hb, hml, hown, hts⟩ hK hP_9 hD_10 hS_6 hA hX cs_RX6_27 hM ⟨by decide +kernel, by decide +kernel⟩ rfl rfl (Or.inl rfl) (rest := []) rfl hl.1 rfl (Nat.le_of_ble_eq_true rfl) dX6_layOut_21 ⟨Nat.le_of_ble_eq_true rfl, Nat.le_of_ble_eq_true rfl⟩ (fun t H1 locs_26 ht hB hS_26 hFc => ?_)
    obtain ⟨al10, hGr_r9, hP_27, -, hD_27⟩ := hB
    have hG_28 := FL_tr hG hGr_r9 (by decide)
    rw [ht] at hP_27
    have hD_29 := hD_27.weaken (B := A) (fun k q _ h9 => hFc q.1 h9)
    clear ht
    generalize H1 = H_30 at hP_27 hS_26 ⊢
    exact r2_v hx hb hr hk hS_26 dX6_layOut_24 (fun t ht hW => ⟨ai2, al10, ⟨(by rw [up_ne e_ai2 (by decide), up_self e_ai1]), (by rw [up_self e_ai2, up_ne e_ai1 (by decide)]), hI_8, hF_7, hG_28⟩, by rw [ht]; exact hP_27, va_K.moved hW.alike hK, hD_29⟩)
def Q_m032_X6_set (dC : Nat → ClassId) (dI : Nat → Nat → Nat) (cI cJ cII cJJ : ClassId) (ad : Nat → Nat) (f3_unknowns f3_equations f2_roundSupports f2_stale f7_size f1_size f5_keptSize f5_aheadSize f0_solved f4_blockCount f4_blockLength f4_lastIsFree f4_stale : Int32) (ai : Nat → Nat → Int32) (al0 : Nat → Nat → Int64) (w0 w1 w2 w3 : Nat) : (Nat → Prop) → Array Value → State → Outcome → State → Prop := fun A => QV (fun t => ∃ (n_al : Nat → Nat → Int64), (FL [54, 55, 56, 57] al0 n_al) ∧ WO dC dI (TY cI cJ cII cJJ) (WX cI cJ cII cJJ ad f3_unknowns f3_equations f2_roundSupports f2_stale f7_size f1_size f5_keptSize f5_aheadSize f0_solved f4_blockCount f4_blockLength f4_lastIsFree f4_stale ai n_al w0 w1 w2 w3) A t) A
set_option maxRecDepth 100000 in
set_option maxHeartbeats 4000000 in
theorem m032_X6_set (l : Launch) (dC : Nat → ClassId) (dI : Nat → Nat → Nat) (cI cJ cII cJJ : ClassId) (sz g : Nat) (ad : Nat → Nat) (f3_unknowns f3_equations f2_roundSupports f2_stale f7_size f1_size f5_keptSize f5_aheadSize f0_solved f4_blockCount f4_blockLength f4_lastIsFree f4_stale : Int32) (ai : Nat → Nat → Int32) (al : Nat → Nat → Int64) (w0 w1 w2 w3 : Nat) (x1 : Int32) (x2 : Int32) (y3 : Int64) (h_x1 : (0 ≤ x1.toInt ∧ x1.toInt ≤ 3)) (h_x2 : (0 ≤ x2.toInt ∧ x2.toInt ≤ 19)) (h_f3_unknowns : (1 ≤ f3_unknowns.toInt ∧ f3_unknowns.toInt ≤ 4)) (h_f3_equations : (0 ≤ f3_equations.toInt ∧ f3_equations.toInt ≤ 3)) (h_f2_stale : (0 ≤ f2_stale.toInt ∧ f2_stale.toInt ≤ 1)) (h_f7_size : (0 ≤ f7_size.toInt ∧ f7_size.toInt ≤ 256)) (h_f1_size : (0 ≤ f1_size.toInt ∧ f1_size.toInt ≤ 4)) (h_f5_keptSize : (0 ≤ f5_keptSize.toInt ∧ f5_keptSize.toInt ≤ 128)) (h_f5_aheadSize : (0 ≤ f5_aheadSize.toInt ∧ f5_aheadSize.toInt ≤ 128)) (h_f4_blockCount : (0 ≤ f4_blockCount.toInt ∧ f4_blockCount.toInt ≤ 9261)) (h_f4_blockLength : (0 ≤ f4_blockLength.toInt ∧ f4_blockLength.toInt ≤ 21)) (h_f4_lastIsFree : (0 ≤ f4_lastIsFree.toInt ∧ f4_lastIsFree.toInt ≤ 1)) (h_f4_stale : (0 ≤ f4_stale.toInt ∧ f4_stale.toInt ≤ 1)) (hI : IAX ai) (hw_w0 : RWX ad w0) (hw_w1 : RWX ad w1) (hw_w2 : RWX ad w2) (hw_w3 : RWX ad w3) : Met l yX6_set (.code yX6_set cX6_set 5 none :: TT) ({ frames := 2, cells := 0, slots := 0, locals := 80 } : Room) (PcS dC dI (TY cI cJ cII cJJ) [.ref (ad 52), .int x1, .int x2, .long y3] (WX cI cJ cII cJJ ad f3_unknowns f3_equations f2_roundSupports f2_stale f7_size f1_size f5_keptSize f5_aheadSize f0_solved f4_blockCount f4_blockLength f4_lastIsFree f4_stale ai al w0 w1 w2 w3) sz 0 g) (Q_m032_X6_set dC dI cI cJ cII cJJ ad f3_unknowns f3_equations f2_roundSupports f2_stale f7_size f1_size f5_keptSize f5_aheadSize f0_solved f4_blockCount f4_blockLength f4_lastIsFree f4_stale ai al w0 w1 w2 w3 (va_A (WX cI cJ cII cJJ ad f3_unknowns f3_equations f2_roundSupports f2_stale f7_size f1_size f5_keptSize f5_aheadSize f0_solved f4_blockCount f4_blockLength f4_lastIsFree f4_stale ai al w0 w1 w2 w3) sz)) 0 0 (va_A (WX cI cJ cII cJJ ad f3_unknowns f3_equations f2_roundSupports f2_stale f7_size f1_size f5_keptSize f5_aheadSize f0_solved f4_blockCount f4_blockLength f4_lastIsFree f4_stale ai al w0 w1 w2 w3) sz) := by
  refine SM.of (y := yX6_set) (maxL := 5) (av := [.ref (ad 52), .int x1, .int x2, .long y3]) (Q_m032_X6_set dC dI cI cJ cII cJJ ad f3_unknowns f3_equations f2_roundSupports f2_stale f7_size f1_size f5_keptSize f5_aheadSize f0_solved f4_blockCount f4_blockLength f4_lastIsFree f4_stale ai al w0 w1 w2 w3) (by decide +kernel) (Nat.le_of_ble_eq_true rfl) (fun p e s m below meth c A ls hx hb hr hml hown hts hk hnm hA hK hP hD hS hX hl => ?_)
  have C : Cx p c s m meth (([.ref (ad 52), .int x1, .int x2, .long y3] : List Value).toArray) A dC dI (TY cI cJ cII cJJ) cX6_set none 5 RX6 0 g := ⟨hx, hb, hr, hml, hown, hts, hk, hA, hK, hX⟩
  have hown : s.vm.findClass RX6 = some m.cls := hown
  have hl : lv_has ls 5 [(0, .ref (ad 52)), (1, .int x1), (2, .int x2), (3, .long y3)] := hl
  obtain ⟨H, hH⟩ : ∃ q, q = s.heap := ⟨_, rfl⟩
  rw [← hH] at hP
  have hS : va_S A s.heap H [] := by rw [hH]; exact hS
  rw [← hH]
  have hG := FL_refl [54, 55, 56, 57] al
  refine lv_aload_n hx hb dX6_set_0 rfl (lv_at hl 0 rfl) ?_
  refine gf (k := 1) hx hb hts inX6 hown hK hP k_253 rfl (by decide) rfl 52 rfl (.ref (ad 58)) rfl dX6_set_1 ?_
  refine lv_iload_n hx hb dX6_set_4 rfl (lv_at hl 1 rfl) ?_
  refine va_iald hx hb hK hP 58 0 rfl rfl (j_in (a := x1.toInt) rfl (by omega) (by omega)) dX6_set_5 ?_
  refine lv_topi (fun z1 e_z1 => ?_)
  rcases j_sw2 z1 with rfl | rfl | rfl | h9
  · have k9 : (0 : Int32).toInt = 0 := by decide +kernel
    refine lv_tableIn (off := 26) (tgt := 32) hx hb dX6_set_6 (by decide +kernel) (by decide +kernel) (by decide +kernel) (by decide) ?_
    refine lv_aload_n hx hb dX6_set_32 rfl (lv_at hl 0 rfl) ?_
    refine gf (k := 0) hx hb hts inX6 hown hK hP k_251 rfl (by decide) rfl 52 rfl (.ref (ad 53)) rfl dX6_set_33 ?_
    refine lv_iload_n hx hb dX6_set_36 rfl (lv_at hl 1 rfl) ?_
    rcases (show x1 = 0 ∨ x1 = 1 ∨ x1 = 2 ∨ x1 = 3 from j_cases4 (a := x1.toInt) rfl (by omega) (by omega)) with rfl | rfl | rfl | rfl
    · have k9 : (0 : Int32).toInt = 0 := by decide +kernel
      refine ld_a hx hb hK hP 53 3 rfl rfl (vin (by decide +kernel)) dX6_set_37 (ad 54) rfl ?_
      refine lv_iload_n hx hb dX6_set_38 rfl (lv_at hl 2 rfl) ?_
      refine lv_lload_n hx hb dX6_set_39 rfl (lv_at hl 3 rfl) ?_
      refine lv_l2i hx hb dX6_set_40 rfl ?_
      refine lv_topi (fun z2 e_z2 => ?_)
      refine lv_i2b hx hb dX6_set_41 rfl ?_
      refine lv_topi (fun z3 e_z3 => ?_)
      refine lv_i2l hx hb dX6_set_42 rfl ?_
      refine lv_topl (fun yy4 e_yy4 => ?_)
      refine va_last hx hb hK hP hD hS 54 1 rfl rfl (j_in (a := x2.toInt) rfl (by omega) (by omega)) dX6_set_43 (fun H_1 locs_1 hP_1 hD_1 hS_1 => ?_)
      obtain ⟨al5, e_al5⟩ : ∃ q : Nat → Nat → Int64, q = va_up al 54 (vp_updL (al 54) x2.toNatClampNeg yy4) := ⟨_, rfl⟩
      have hG_2 := FL_st hG e_al5 (by decide)
      have hP_3 : va_P (dC, dI) vwCl (WX cI cJ cII cJJ ad f3_unknowns f3_equations f2_roundSupports f2_stale f7_size f1_size f5_keptSize f5_aheadSize f0_solved f4_blockCount f4_blockLength f4_lastIsFree f4_stale ai al5 w0 w1 w2 w3) H_1 := by rw [e_al5]; exact hP_1
      have hD_4 : va_D A (WX cI cJ cII cJJ ad f3_unknowns f3_equations f2_roundSupports f2_stale f7_size f1_size f5_keptSize f5_aheadSize f0_solved f4_blockCount f4_blockLength f4_lastIsFree f4_stale ai al5 w0 w1 w2 w3) := by rw [e_al5]; exact hD_1
      refine lv_goto (tgt := 85) hx hb dX6_set_44 (by decide) ?_
      exact r2_v hx hb hr hk hS_1 dX6_set_85 (fun t ht hW => ⟨al5, hG_2, by rw [ht]; exact hP_3, va_K.moved hW.alike hK, hD_4⟩)
    · have k9 : (1 : Int32).toInt = 1 := by decide +kernel
      refine ld_a hx hb hK hP 53 3 rfl rfl (vin (by decide +kernel)) dX6_set_37 (ad 55) rfl ?_
      refine lv_iload_n hx hb dX6_set_38 rfl (lv_at hl 2 rfl) ?_
      refine lv_lload_n hx hb dX6_set_39 rfl (lv_at hl 3 rfl) ?_
      refine lv_l2i hx hb dX6_set_40 rfl ?_
      refine lv_topi (fun z6 e_z6 => ?_)
      refine lv_i2b hx hb dX6_set_41 rfl ?_
      refine lv_topi (fun z7 e_z7 => ?_)
      refine lv_i2l hx hb dX6_set_42 rfl ?_
      refine lv_topl (fun yy8 e_yy8 => ?_)
      refine va_last hx hb hK hP hD hS 55 1 rfl rfl (j_in (a := x2.toInt) rfl (by omega) (by omega)) dX6_set_43 (fun H_5 locs_5 hP_5 hD_5 hS_5 => ?_)
      obtain ⟨al9, e_al9⟩ : ∃ q : Nat → Nat → Int64, q = va_up al 55 (vp_updL (al 55) x2.toNatClampNeg yy8) := ⟨_, rfl⟩
      have hG_6 := FL_st hG e_al9 (by decide)
      have hP_7 : va_P (dC, dI) vwCl (WX cI cJ cII cJJ ad f3_unknowns f3_equations f2_roundSupports f2_stale f7_size f1_size f5_keptSize f5_aheadSize f0_solved f4_blockCount f4_blockLength f4_lastIsFree f4_stale ai al9 w0 w1 w2 w3) H_5 := by rw [e_al9]; exact hP_5
      have hD_8 : va_D A (WX cI cJ cII cJJ ad f3_unknowns f3_equations f2_roundSupports f2_stale f7_size f1_size f5_keptSize f5_aheadSize f0_solved f4_blockCount f4_blockLength f4_lastIsFree f4_stale ai al9 w0 w1 w2 w3) := by rw [e_al9]; exact hD_5
      refine lv_goto (tgt := 85) hx hb dX6_set_44 (by decide) ?_
      exact r2_v hx hb hr hk hS_5 dX6_set_85 (fun t ht hW => ⟨al9, hG_6, by rw [ht]; exact hP_7, va_K.moved hW.alike hK, hD_8⟩)
    · have k9 : (2 : Int32).toInt = 2 := by decide +kernel
      refine ld_a hx hb hK hP 53 3 rfl rfl (vin (by decide +kernel)) dX6_set_37 (ad 56) rfl ?_
      refine lv_iload_n hx hb dX6_set_38 rfl (lv_at hl 2 rfl) ?_
      refine lv_lload_n hx hb dX6_set_39 rfl (lv_at hl 3 rfl) ?_
      refine lv_l2i hx hb dX6_set_40 rfl ?_
      refine lv_topi (fun z10 e_z10 => ?_)
      refine lv_i2b hx hb dX6_set_41 rfl ?_
      refine lv_topi (fun z11 e_z11 => ?_)
      refine lv_i2l hx hb dX6_set_42 rfl ?_
      refine lv_topl (fun yy12 e_yy12 => ?_)
      refine va_last hx hb hK hP hD hS 56 1 rfl rfl (j_in (a := x2.toInt) rfl (by omega) (by omega)) dX6_set_43 (fun H_9 locs_9 hP_9 hD_9 hS_9 => ?_)
      obtain ⟨al13, e_al13⟩ : ∃ q : Nat → Nat → Int64, q = va_up al 56 (vp_updL (al 56) x2.toNatClampNeg yy12) := ⟨_, rfl⟩
      have hG_10 := FL_st hG e_al13 (by decide)
      have hP_11 : va_P (dC, dI) vwCl (WX cI cJ cII cJJ ad f3_unknowns f3_equations f2_roundSupports f2_stale f7_size f1_size f5_keptSize f5_aheadSize f0_solved f4_blockCount f4_blockLength f4_lastIsFree f4_stale ai al13 w0 w1 w2 w3) H_9 := by rw [e_al13]; exact hP_9
      have hD_12 : va_D A (WX cI cJ cII cJJ ad f3_unknowns f3_equations f2_roundSupports f2_stale f7_size f1_size f5_keptSize f5_aheadSize f0_solved f4_blockCount f4_blockLength f4_lastIsFree f4_stale ai al13 w0 w1 w2 w3) := by rw [e_al13]; exact hD_9
      refine lv_goto (tgt := 85) hx hb dX6_set_44 (by decide) ?_
      exact r2_v hx hb hr hk hS_9 dX6_set_85 (fun t ht hW => ⟨al13, hG_10, by rw [ht]; exact hP_11, va_K.moved hW.alike hK, hD_12⟩)
    · have k9 : (3 : Int32).toInt = 3 := by decide +kernel
      refine ld_a hx hb hK hP 53 3 rfl rfl (vin (by decide +kernel)) dX6_set_37 (ad 57) rfl ?_
      refine lv_iload_n hx hb dX6_set_38 rfl (lv_at hl 2 rfl) ?_
      refine lv_lload_n hx hb dX6_set_39 rfl (lv_at hl 3 rfl) ?_
      refine lv_l2i hx hb dX6_set_40 rfl ?_
      refine lv_topi (fun z14 e_z14 => ?_)
      refine lv_i2b hx hb dX6_set_41 rfl ?_
      refine lv_topi (fun z15 e_z15 => ?_)
      refine lv_i2l hx hb dX6_set_42 rfl ?_
      refine lv_topl (fun yy16 e_yy16 => ?_)
      refine va_last hx hb hK hP hD hS 57 1 rfl rfl (j_in (a := x2.toInt) rfl (by omega) (by omega)) dX6_set_43 (fun H_13 locs_13 hP_13 hD_13 hS_13 => ?_)
      obtain ⟨al17, e_al17⟩ : ∃ q : Nat → Nat → Int64, q = va_up al 57 (vp_updL (al 57) x2.toNatClampNeg yy16) := ⟨_, rfl⟩
      have hG_14 := FL_st hG e_al17 (by decide)
      have hP_15 : va_P (dC, dI) vwCl (WX cI cJ cII cJJ ad f3_unknowns f3_equations f2_roundSupports f2_stale f7_size f1_size f5_keptSize f5_aheadSize f0_solved f4_blockCount f4_blockLength f4_lastIsFree f4_stale ai al17 w0 w1 w2 w3) H_13 := by rw [e_al17]; exact hP_13
      have hD_16 : va_D A (WX cI cJ cII cJJ ad f3_unknowns f3_equations f2_roundSupports f2_stale f7_size f1_size f5_keptSize f5_aheadSize f0_solved f4_blockCount f4_blockLength f4_lastIsFree f4_stale ai al17 w0 w1 w2 w3) := by rw [e_al17]; exact hD_13
      refine lv_goto (tgt := 85) hx hb dX6_set_44 (by decide) ?_
      exact r2_v hx hb hr hk hS_13 dX6_set_85 (fun t ht hW => ⟨al17, hG_14, by rw [ht]; exact hP_15, va_K.moved hW.alike hK, hD_16⟩)
  · have k9 : (1 : Int32).toInt = 1 := by decide +kernel
    refine lv_tableIn (off := 41) (tgt := 47) hx hb dX6_set_6 (by decide +kernel) (by decide +kernel) (by decide +kernel) (by decide) ?_
    refine lv_aload_n hx hb dX6_set_47 rfl (lv_at hl 0 rfl) ?_
    refine gf (k := 0) hx hb hts inX6 hown hK hP k_251 rfl (by decide) rfl 52 rfl (.ref (ad 53)) rfl dX6_set_48 ?_
    refine lv_iload_n hx hb dX6_set_51 rfl (lv_at hl 1 rfl) ?_
    rcases (show x1 = 0 ∨ x1 = 1 ∨ x1 = 2 ∨ x1 = 3 from j_cases4 (a := x1.toInt) rfl (by omega) (by omega)) with rfl | rfl | rfl | rfl
    · have k9 : (0 : Int32).toInt = 0 := by decide +kernel
      refine ld_a hx hb hK hP 53 3 rfl rfl (vin (by decide +kernel)) dX6_set_52 (ad 54) rfl ?_
      refine lv_iload_n hx hb dX6_set_53 rfl (lv_at hl 2 rfl) ?_
      refine lv_lload_n hx hb dX6_set_54 rfl (lv_at hl 3 rfl) ?_
      refine lv_l2i hx hb dX6_set_55 rfl ?_
      refine lv_topi (fun z18 e_z18 => ?_)
      refine lv_i2s hx hb dX6_set_56 rfl ?_
      refine lv_topi (fun z19 e_z19 => ?_)
      refine lv_i2l hx hb dX6_set_57 rfl ?_
      refine lv_topl (fun yy20 e_yy20 => ?_)
      refine va_last hx hb hK hP hD hS 54 1 rfl rfl (j_in (a := x2.toInt) rfl (by omega) (by omega)) dX6_set_58 (fun H_17 locs_17 hP_17 hD_17 hS_17 => ?_)
      obtain ⟨al21, e_al21⟩ : ∃ q : Nat → Nat → Int64, q = va_up al 54 (vp_updL (al 54) x2.toNatClampNeg yy20) := ⟨_, rfl⟩
      have hG_18 := FL_st hG e_al21 (by decide)
      have hP_19 : va_P (dC, dI) vwCl (WX cI cJ cII cJJ ad f3_unknowns f3_equations f2_roundSupports f2_stale f7_size f1_size f5_keptSize f5_aheadSize f0_solved f4_blockCount f4_blockLength f4_lastIsFree f4_stale ai al21 w0 w1 w2 w3) H_17 := by rw [e_al21]; exact hP_17
      have hD_20 : va_D A (WX cI cJ cII cJJ ad f3_unknowns f3_equations f2_roundSupports f2_stale f7_size f1_size f5_keptSize f5_aheadSize f0_solved f4_blockCount f4_blockLength f4_lastIsFree f4_stale ai al21 w0 w1 w2 w3) := by rw [e_al21]; exact hD_17
      refine lv_goto (tgt := 85) hx hb dX6_set_59 (by decide) ?_
      exact r2_v hx hb hr hk hS_17 dX6_set_85 (fun t ht hW => ⟨al21, hG_18, by rw [ht]; exact hP_19, va_K.moved hW.alike hK, hD_20⟩)
    · have k9 : (1 : Int32).toInt = 1 := by decide +kernel
      refine ld_a hx hb hK hP 53 3 rfl rfl (vin (by decide +kernel)) dX6_set_52 (ad 55) rfl ?_
      refine lv_iload_n hx hb dX6_set_53 rfl (lv_at hl 2 rfl) ?_
      refine lv_lload_n hx hb dX6_set_54 rfl (lv_at hl 3 rfl) ?_
      refine lv_l2i hx hb dX6_set_55 rfl ?_
      refine lv_topi (fun z22 e_z22 => ?_)
      refine lv_i2s hx hb dX6_set_56 rfl ?_
      refine lv_topi (fun z23 e_z23 => ?_)
      refine lv_i2l hx hb dX6_set_57 rfl ?_
      refine lv_topl (fun yy24 e_yy24 => ?_)
      refine va_last hx hb hK hP hD hS 55 1 rfl rfl (j_in (a := x2.toInt) rfl (by omega) (by omega)) dX6_set_58 (fun H_21 locs_21 hP_21 hD_21 hS_21 => ?_)
      obtain ⟨al25, e_al25⟩ : ∃ q : Nat → Nat → Int64, q = va_up al 55 (vp_updL (al 55) x2.toNatClampNeg yy24) := ⟨_, rfl⟩
      have hG_22 := FL_st hG e_al25 (by decide)
      have hP_23 : va_P (dC, dI) vwCl (WX cI cJ cII cJJ ad f3_unknowns f3_equations f2_roundSupports f2_stale f7_size f1_size f5_keptSize f5_aheadSize f0_solved f4_blockCount f4_blockLength f4_lastIsFree f4_stale ai al25 w0 w1 w2 w3) H_21 := by rw [e_al25]; exact hP_21
      have hD_24 : va_D A (WX cI cJ cII cJJ ad f3_unknowns f3_equations f2_roundSupports f2_stale f7_size f1_size f5_keptSize f5_aheadSize f0_solved f4_blockCount f4_blockLength f4_lastIsFree f4_stale ai al25 w0 w1 w2 w3) := by rw [e_al25]; exact hD_21
      refine lv_goto (tgt := 85) hx hb dX6_set_59 (by decide) ?_
      exact r2_v hx hb hr hk hS_21 dX6_set_85 (fun t ht hW => ⟨al25, hG_22, by rw [ht]; exact hP_23, va_K.moved hW.alike hK, hD_24⟩)
    · have k9 : (2 : Int32).toInt = 2 := by decide +kernel
      refine ld_a hx hb hK hP 53 3 rfl rfl (vin (by decide +kernel)) dX6_set_52 (ad 56) rfl ?_
      refine lv_iload_n hx hb dX6_set_53 rfl (lv_at hl 2 rfl) ?_
      refine lv_lload_n hx hb dX6_set_54 rfl (lv_at hl 3 rfl) ?_
      refine lv_l2i hx hb dX6_set_55 rfl ?_
      refine lv_topi (fun z26 e_z26 => ?_)
      refine lv_i2s hx hb dX6_set_56 rfl ?_
      refine lv_topi (fun z27 e_z27 => ?_)
      refine lv_i2l hx hb dX6_set_57 rfl ?_
      refine lv_topl (fun yy28 e_yy28 => ?_)
      refine va_last hx hb hK hP hD hS 56 1 rfl rfl (j_in (a := x2.toInt) rfl (by omega) (by omega)) dX6_set_58 (fun H_25 locs_25 hP_25 hD_25 hS_25 => ?_)
      obtain ⟨al29, e_al29⟩ : ∃ q : Nat → Nat → Int64, q = va_up al 56 (vp_updL (al 56) x2.toNatClampNeg yy28) := ⟨_, rfl⟩
      have hG_26 := FL_st hG e_al29 (by decide)
      have hP_27 : va_P (dC, dI) vwCl (WX cI cJ cII cJJ ad f3_unknowns f3_equations f2_roundSupports f2_stale f7_size f1_size f5_keptSize f5_aheadSize f0_solved f4_blockCount f4_blockLength f4_lastIsFree f4_stale ai al29 w0 w1 w2 w3) H_25 := by rw [e_al29]; exact hP_25
      have hD_28 : va_D A (WX cI cJ cII cJJ ad f3_unknowns f3_equations f2_roundSupports f2_stale f7_size f1_size f5_keptSize f5_aheadSize f0_solved f4_blockCount f4_blockLength f4_lastIsFree f4_stale ai al29 w0 w1 w2 w3) := by rw [e_al29]; exact hD_25
      refine lv_goto (tgt := 85) hx hb dX6_set_59 (by decide) ?_
      exact r2_v hx hb hr hk hS_25 dX6_set_85 (fun t ht hW => ⟨al29, hG_26, by rw [ht]; exact hP_27, va_K.moved hW.alike hK, hD_28⟩)
    · have k9 : (3 : Int32).toInt = 3 := by decide +kernel
      refine ld_a hx hb hK hP 53 3 rfl rfl (vin (by decide +kernel)) dX6_set_52 (ad 57) rfl ?_
      refine lv_iload_n hx hb dX6_set_53 rfl (lv_at hl 2 rfl) ?_
      refine lv_lload_n hx hb dX6_set_54 rfl (lv_at hl 3 rfl) ?_
      refine lv_l2i hx hb dX6_set_55 rfl ?_
      refine lv_topi (fun z30 e_z30 => ?_)
      refine lv_i2s hx hb dX6_set_56 rfl ?_
      refine lv_topi (fun z31 e_z31 => ?_)
      refine lv_i2l hx hb dX6_set_57 rfl ?_
      refine lv_topl (fun yy32 e_yy32 => ?_)
      refine va_last hx hb hK hP hD hS 57 1 rfl rfl (j_in (a := x2.toInt) rfl (by omega) (by omega)) dX6_set_58 (fun H_29 locs_29 hP_29 hD_29 hS_29 => ?_)
      obtain ⟨al33, e_al33⟩ : ∃ q : Nat → Nat → Int64, q = va_up al 57 (vp_updL (al 57) x2.toNatClampNeg yy32) := ⟨_, rfl⟩
      have hG_30 := FL_st hG e_al33 (by decide)
      have hP_31 : va_P (dC, dI) vwCl (WX cI cJ cII cJJ ad f3_unknowns f3_equations f2_roundSupports f2_stale f7_size f1_size f5_keptSize f5_aheadSize f0_solved f4_blockCount f4_blockLength f4_lastIsFree f4_stale ai al33 w0 w1 w2 w3) H_29 := by rw [e_al33]; exact hP_29
      have hD_32 : va_D A (WX cI cJ cII cJJ ad f3_unknowns f3_equations f2_roundSupports f2_stale f7_size f1_size f5_keptSize f5_aheadSize f0_solved f4_blockCount f4_blockLength f4_lastIsFree f4_stale ai al33 w0 w1 w2 w3) := by rw [e_al33]; exact hD_29
      refine lv_goto (tgt := 85) hx hb dX6_set_59 (by decide) ?_
      exact r2_v hx hb hr hk hS_29 dX6_set_85 (fun t ht hW => ⟨al33, hG_30, by rw [ht]; exact hP_31, va_K.moved hW.alike hK, hD_32⟩)
  · have k9 : (2 : Int32).toInt = 2 := by decide +kernel
    refine lv_tableIn (off := 56) (tgt := 62) hx hb dX6_set_6 (by decide +kernel) (by decide +kernel) (by decide +kernel) (by decide) ?_
    refine lv_aload_n hx hb dX6_set_62 rfl (lv_at hl 0 rfl) ?_
    refine gf (k := 0) hx hb hts inX6 hown hK hP k_251 rfl (by decide) rfl 52 rfl (.ref (ad 53)) rfl dX6_set_63 ?_
    refine lv_iload_n hx hb dX6_set_66 rfl (lv_at hl 1 rfl) ?_
    rcases (show x1 = 0 ∨ x1 = 1 ∨ x1 = 2 ∨ x1 = 3 from j_cases4 (a := x1.toInt) rfl (by omega) (by omega)) with rfl | rfl | rfl | rfl
    · have k9 : (0 : Int32).toInt = 0 := by decide +kernel
      refine ld_a hx hb hK hP 53 3 rfl rfl (vin (by decide +kernel)) dX6_set_67 (ad 54) rfl ?_
      refine lv_iload_n hx hb dX6_set_68 rfl (lv_at hl 2 rfl) ?_
      refine lv_lload_n hx hb dX6_set_69 rfl (lv_at hl 3 rfl) ?_
      refine lv_l2i hx hb dX6_set_70 rfl ?_
      refine lv_topi (fun z34 e_z34 => ?_)
      refine lv_i2l hx hb dX6_set_71 rfl ?_
      refine lv_topl (fun yy35 e_yy35 => ?_)
      refine va_last hx hb hK hP hD hS 54 1 rfl rfl (j_in (a := x2.toInt) rfl (by omega) (by omega)) dX6_set_72 (fun H_33 locs_33 hP_33 hD_33 hS_33 => ?_)
      obtain ⟨al36, e_al36⟩ : ∃ q : Nat → Nat → Int64, q = va_up al 54 (vp_updL (al 54) x2.toNatClampNeg yy35) := ⟨_, rfl⟩
      have hG_34 := FL_st hG e_al36 (by decide)
      have hP_35 : va_P (dC, dI) vwCl (WX cI cJ cII cJJ ad f3_unknowns f3_equations f2_roundSupports f2_stale f7_size f1_size f5_keptSize f5_aheadSize f0_solved f4_blockCount f4_blockLength f4_lastIsFree f4_stale ai al36 w0 w1 w2 w3) H_33 := by rw [e_al36]; exact hP_33
      have hD_36 : va_D A (WX cI cJ cII cJJ ad f3_unknowns f3_equations f2_roundSupports f2_stale f7_size f1_size f5_keptSize f5_aheadSize f0_solved f4_blockCount f4_blockLength f4_lastIsFree f4_stale ai al36 w0 w1 w2 w3) := by rw [e_al36]; exact hD_33
      refine lv_goto (tgt := 85) hx hb dX6_set_73 (by decide) ?_
      exact r2_v hx hb hr hk hS_33 dX6_set_85 (fun t ht hW => ⟨al36, hG_34, by rw [ht]; exact hP_35, va_K.moved hW.alike hK, hD_36⟩)
    · have k9 : (1 : Int32).toInt = 1 := by decide +kernel
      refine ld_a hx hb hK hP 53 3 rfl rfl (vin (by decide +kernel)) dX6_set_67 (ad 55) rfl ?_
      refine lv_iload_n hx hb dX6_set_68 rfl (lv_at hl 2 rfl) ?_
      refine lv_lload_n hx hb dX6_set_69 rfl (lv_at hl 3 rfl) ?_
      refine lv_l2i hx hb dX6_set_70 rfl ?_
      refine lv_topi (fun z37 e_z37 => ?_)
      refine lv_i2l hx hb dX6_set_71 rfl ?_
      refine lv_topl (fun yy38 e_yy38 => ?_)
      refine va_last hx hb hK hP hD hS 55 1 rfl rfl (j_in (a := x2.toInt) rfl (by omega) (by omega)) dX6_set_72 (fun H_37 locs_37 hP_37 hD_37 hS_37 => ?_)
      obtain ⟨al39, e_al39⟩ : ∃ q : Nat → Nat → Int64, q = va_up al 55 (vp_updL (al 55) x2.toNatClampNeg yy38) := ⟨_, rfl⟩
      have hG_38 := FL_st hG e_al39 (by decide)
      have hP_39 : va_P (dC, dI) vwCl (WX cI cJ cII cJJ ad f3_unknowns f3_equations f2_roundSupports f2_stale f7_size f1_size f5_keptSize f5_aheadSize f0_solved f4_blockCount f4_blockLength f4_lastIsFree f4_stale ai al39 w0 w1 w2 w3) H_37 := by rw [e_al39]; exact hP_37
      have hD_40 : va_D A (WX cI cJ cII cJJ ad f3_unknowns f3_equations f2_roundSupports f2_stale f7_size f1_size f5_keptSize f5_aheadSize f0_solved f4_blockCount f4_blockLength f4_lastIsFree f4_stale ai al39 w0 w1 w2 w3) := by rw [e_al39]; exact hD_37
      refine lv_goto (tgt := 85) hx hb dX6_set_73 (by decide) ?_
      exact r2_v hx hb hr hk hS_37 dX6_set_85 (fun t ht hW => ⟨al39, hG_38, by rw [ht]; exact hP_39, va_K.moved hW.alike hK, hD_40⟩)
    · have k9 : (2 : Int32).toInt = 2 := by decide +kernel
      refine ld_a hx hb hK hP 53 3 rfl rfl (vin (by decide +kernel)) dX6_set_67 (ad 56) rfl ?_
      refine lv_iload_n hx hb dX6_set_68 rfl (lv_at hl 2 rfl) ?_
      refine lv_lload_n hx hb dX6_set_69 rfl (lv_at hl 3 rfl) ?_
      refine lv_l2i hx hb dX6_set_70 rfl ?_
      refine lv_topi (fun z40 e_z40 => ?_)
      refine lv_i2l hx hb dX6_set_71 rfl ?_
      refine lv_topl (fun yy41 e_yy41 => ?_)
      refine va_last hx hb hK hP hD hS 56 1 rfl rfl (j_in (a := x2.toInt) rfl (by omega) (by omega)) dX6_set_72 (fun H_41 locs_41 hP_41 hD_41 hS_41 => ?_)
      obtain ⟨al42, e_al42⟩ : ∃ q : Nat → Nat → Int64, q = va_up al 56 (vp_updL (al 56) x2.toNatClampNeg yy41) := ⟨_, rfl⟩
      have hG_42 := FL_st hG e_al42 (by decide)
      have hP_43 : va_P (dC, dI) vwCl (WX cI cJ cII cJJ ad f3_unknowns f3_equations f2_roundSupports f2_stale f7_size f1_size f5_keptSize f5_aheadSize f0_solved f4_blockCount f4_blockLength f4_lastIsFree f4_stale ai al42 w0 w1 w2 w3) H_41 := by rw [e_al42]; exact hP_41
      have hD_44 : va_D A (WX cI cJ cII cJJ ad f3_unknowns f3_equations f2_roundSupports f2_stale f7_size f1_size f5_keptSize f5_aheadSize f0_solved f4_blockCount f4_blockLength f4_lastIsFree f4_stale ai al42 w0 w1 w2 w3) := by rw [e_al42]; exact hD_41
      refine lv_goto (tgt := 85) hx hb dX6_set_73 (by decide) ?_
      exact r2_v hx hb hr hk hS_41 dX6_set_85 (fun t ht hW => ⟨al42, hG_42, by rw [ht]; exact hP_43, va_K.moved hW.alike hK, hD_44⟩)
    · have k9 : (3 : Int32).toInt = 3 := by decide +kernel
      refine ld_a hx hb hK hP 53 3 rfl rfl (vin (by decide +kernel)) dX6_set_67 (ad 57) rfl ?_
      refine lv_iload_n hx hb dX6_set_68 rfl (lv_at hl 2 rfl) ?_
      refine lv_lload_n hx hb dX6_set_69 rfl (lv_at hl 3 rfl) ?_
      refine lv_l2i hx hb dX6_set_70 rfl ?_
      refine lv_topi (fun z43 e_z43 => ?_)
      refine lv_i2l hx hb dX6_set_71 rfl ?_
      refine lv_topl (fun yy44 e_yy44 => ?_)
      refine va_last hx hb hK hP hD hS 57 1 rfl rfl (j_in (a := x2.toInt) rfl (by omega) (by omega)) dX6_set_72 (fun H_45 locs_45 hP_45 hD_45 hS_45 => ?_)
      obtain ⟨al45, e_al45⟩ : ∃ q : Nat → Nat → Int64, q = va_up al 57 (vp_updL (al 57) x2.toNatClampNeg yy44) := ⟨_, rfl⟩
      have hG_46 := FL_st hG e_al45 (by decide)
      have hP_47 : va_P (dC, dI) vwCl (WX cI cJ cII cJJ ad f3_unknowns f3_equations f2_roundSupports f2_stale f7_size f1_size f5_keptSize f5_aheadSize f0_solved f4_blockCount f4_blockLength f4_lastIsFree f4_stale ai al45 w0 w1 w2 w3) H_45 := by rw [e_al45]; exact hP_45
      have hD_48 : va_D A (WX cI cJ cII cJJ ad f3_unknowns f3_equations f2_roundSupports f2_stale f7_size f1_size f5_keptSize f5_aheadSize f0_solved f4_blockCount f4_blockLength f4_lastIsFree f4_stale ai al45 w0 w1 w2 w3) := by rw [e_al45]; exact hD_45
      refine lv_goto (tgt := 85) hx hb dX6_set_73 (by decide) ?_
      exact r2_v hx hb hr hk hS_45 dX6_set_85 (fun t ht hW => ⟨al45, hG_46, by rw [ht]; exact hP_47, va_K.moved hW.alike hK, hD_48⟩)
  · skip
    refine lv_tableOut (tgt := 76) hx hb dX6_set_6 h9 (by decide) ?_
    refine lv_aload_n hx hb dX6_set_76 rfl (lv_at hl 0 rfl) ?_
    refine gf (k := 0) hx hb hts inX6 hown hK hP k_251 rfl (by decide) rfl 52 rfl (.ref (ad 53)) rfl dX6_set_77 ?_
    refine lv_iload_n hx hb dX6_set_80 rfl (lv_at hl 1 rfl) ?_
    rcases (show x1 = 0 ∨ x1 = 1 ∨ x1 = 2 ∨ x1 = 3 from j_cases4 (a := x1.toInt) rfl (by omega) (by omega)) with rfl | rfl | rfl | rfl
    · have k9 : (0 : Int32).toInt = 0 := by decide +kernel
      refine ld_a hx hb hK hP 53 3 rfl rfl (vin (by decide +kernel)) dX6_set_81 (ad 54) rfl ?_
      refine lv_iload_n hx hb dX6_set_82 rfl (lv_at hl 2 rfl) ?_
      refine lv_lload_n hx hb dX6_set_83 rfl (lv_at hl 3 rfl) ?_
      refine va_last hx hb hK hP hD hS 54 1 rfl rfl (j_in (a := x2.toInt) rfl (by omega) (by omega)) dX6_set_84 (fun H_49 locs_49 hP_49 hD_49 hS_49 => ?_)
      obtain ⟨al46, e_al46⟩ : ∃ q : Nat → Nat → Int64, q = va_up al 54 (vp_updL (al 54) x2.toNatClampNeg y3) := ⟨_, rfl⟩
      have hG_50 := FL_st hG e_al46 (by decide)
      have hP_51 : va_P (dC, dI) vwCl (WX cI cJ cII cJJ ad f3_unknowns f3_equations f2_roundSupports f2_stale f7_size f1_size f5_keptSize f5_aheadSize f0_solved f4_blockCount f4_blockLength f4_lastIsFree f4_stale ai al46 w0 w1 w2 w3) H_49 := by rw [e_al46]; exact hP_49
      have hD_52 : va_D A (WX cI cJ cII cJJ ad f3_unknowns f3_equations f2_roundSupports f2_stale f7_size f1_size f5_keptSize f5_aheadSize f0_solved f4_blockCount f4_blockLength f4_lastIsFree f4_stale ai al46 w0 w1 w2 w3) := by rw [e_al46]; exact hD_49
      exact r2_v hx hb hr hk hS_49 dX6_set_85 (fun t ht hW => ⟨al46, hG_50, by rw [ht]; exact hP_51, va_K.moved hW.alike hK, hD_52⟩)
    · have k9 : (1 : Int32).toInt = 1 := by decide +kernel
      refine ld_a hx hb hK hP 53 3 rfl rfl (vin (by decide +kernel)) dX6_set_81 (ad 55) rfl ?_
      refine lv_iload_n hx hb dX6_set_82 rfl (lv_at hl 2 rfl) ?_
      refine lv_lload_n hx hb dX6_set_83 rfl (lv_at hl 3 rfl) ?_
      refine va_last hx hb hK hP hD hS 55 1 rfl rfl (j_in (a := x2.toInt) rfl (by omega) (by omega)) dX6_set_84 (fun H_53 locs_53 hP_53 hD_53 hS_53 => ?_)
      obtain ⟨al47, e_al47⟩ : ∃ q : Nat → Nat → Int64, q = va_up al 55 (vp_updL (al 55) x2.toNatClampNeg y3) := ⟨_, rfl⟩
      have hG_54 := FL_st hG e_al47 (by decide)
      have hP_55 : va_P (dC, dI) vwCl (WX cI cJ cII cJJ ad f3_unknowns f3_equations f2_roundSupports f2_stale f7_size f1_size f5_keptSize f5_aheadSize f0_solved f4_blockCount f4_blockLength f4_lastIsFree f4_stale ai al47 w0 w1 w2 w3) H_53 := by rw [e_al47]; exact hP_53
      have hD_56 : va_D A (WX cI cJ cII cJJ ad f3_unknowns f3_equations f2_roundSupports f2_stale f7_size f1_size f5_keptSize f5_aheadSize f0_solved f4_blockCount f4_blockLength f4_lastIsFree f4_stale ai al47 w0 w1 w2 w3) := by rw [e_al47]; exact hD_53
      exact r2_v hx hb hr hk hS_53 dX6_set_85 (fun t ht hW => ⟨al47, hG_54, by rw [ht]; exact hP_55, va_K.moved hW.alike hK, hD_56⟩)
    · have k9 : (2 : Int32).toInt = 2 := by decide +kernel
      refine ld_a hx hb hK hP 53 3 rfl rfl (vin (by decide +kernel)) dX6_set_81 (ad 56) rfl ?_
      refine lv_iload_n hx hb dX6_set_82 rfl (lv_at hl 2 rfl) ?_
      refine lv_lload_n hx hb dX6_set_83 rfl (lv_at hl 3 rfl) ?_
      refine va_last hx hb hK hP hD hS 56 1 rfl rfl (j_in (a := x2.toInt) rfl (by omega) (by omega)) dX6_set_84 (fun H_57 locs_57 hP_57 hD_57 hS_57 => ?_)
      obtain ⟨al48, e_al48⟩ : ∃ q : Nat → Nat → Int64, q = va_up al 56 (vp_updL (al 56) x2.toNatClampNeg y3) := ⟨_, rfl⟩
      have hG_58 := FL_st hG e_al48 (by decide)
      have hP_59 : va_P (dC, dI) vwCl (WX cI cJ cII cJJ ad f3_unknowns f3_equations f2_roundSupports f2_stale f7_size f1_size f5_keptSize f5_aheadSize f0_solved f4_blockCount f4_blockLength f4_lastIsFree f4_stale ai al48 w0 w1 w2 w3) H_57 := by rw [e_al48]; exact hP_57
      have hD_60 : va_D A (WX cI cJ cII cJJ ad f3_unknowns f3_equations f2_roundSupports f2_stale f7_size f1_size f5_keptSize f5_aheadSize f0_solved f4_blockCount f4_blockLength f4_lastIsFree f4_stale ai al48 w0 w1 w2 w3) := by rw [e_al48]; exact hD_57
      exact r2_v hx hb hr hk hS_57 dX6_set_85 (fun t ht hW => ⟨al48, hG_58, by rw [ht]; exact hP_59, va_K.moved hW.alike hK, hD_60⟩)
    · have k9 : (3 : Int32).toInt = 3 := by decide +kernel
      refine ld_a hx hb hK hP 53 3 rfl rfl (vin (by decide +kernel)) dX6_set_81 (ad 57) rfl ?_
      refine lv_iload_n hx hb dX6_set_82 rfl (lv_at hl 2 rfl) ?_
      refine lv_lload_n hx hb dX6_set_83 rfl (lv_at hl 3 rfl) ?_
      refine va_last hx hb hK hP hD hS 57 1 rfl rfl (j_in (a := x2.toInt) rfl (by omega) (by omega)) dX6_set_84 (fun H_61 locs_61 hP_61 hD_61 hS_61 => ?_)
      obtain ⟨al49, e_al49⟩ : ∃ q : Nat → Nat → Int64, q = va_up al 57 (vp_updL (al 57) x2.toNatClampNeg y3) := ⟨_, rfl⟩
      have hG_62 := FL_st hG e_al49 (by decide)
      have hP_63 : va_P (dC, dI) vwCl (WX cI cJ cII cJJ ad f3_unknowns f3_equations f2_roundSupports f2_stale f7_size f1_size f5_keptSize f5_aheadSize f0_solved f4_blockCount f4_blockLength f4_lastIsFree f4_stale ai al49 w0 w1 w2 w3) H_61 := by rw [e_al49]; exact hP_61
      have hD_64 : va_D A (WX cI cJ cII cJJ ad f3_unknowns f3_equations f2_roundSupports f2_stale f7_size f1_size f5_keptSize f5_aheadSize f0_solved f4_blockCount f4_blockLength f4_lastIsFree f4_stale ai al49 w0 w1 w2 w3) := by rw [e_al49]; exact hD_61
      exact r2_v hx hb hr hk hS_61 dX6_set_85 (fun t ht hW => ⟨al49, hG_62, by rw [ht]; exact hP_63, va_K.moved hW.alike hK, hD_64⟩)
