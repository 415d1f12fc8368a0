def Q_m057_X8_hand (dC : Nat → ClassId) (dI : Nat → Nat → Nat) (cI cJ cII cJJ : ClassId) (ad : Nat → Nat) (f3_unknowns f3_equations f2_roundSupports f2_stale f7_size f1_size f5_keptSize f5_aheadSize f0_solved f4_blockCount f4_blockLength f4_lastIsFree f4_stale : Int32) (ai0 : Nat → Nat → Int32) (al : Nat → Nat → Int64) (w0 w1 w2 w3 : Nat) : (Nat → Prop) → Array Value → State → Outcome → State → Prop := fun A => QI (fun r t => ∃ (n_ai : Nat → Nat → Int32), (IAX n_ai ∧ FR [60, 63] ai0 n_ai) ∧ WO dC dI (TY cI cJ cII cJJ) (WX cI cJ cII cJJ ad f3_unknowns f3_equations f2_roundSupports f2_stale f7_size f1_size f5_keptSize f5_aheadSize f0_solved f4_blockCount f4_blockLength f4_lastIsFree f4_stale n_ai al w0 w1 w2 w3) A t) A
set_option maxRecDepth 100000 in
set_option maxHeartbeats 4000000 in
theorem m057_X8_hand (l : Launch) (dC : Nat → ClassId) (dI : Nat → Nat → Nat) (cI cJ cII cJJ : ClassId) (sz g : Nat) (ad : Nat → Nat) (f3_unknowns f3_equations f2_roundSupports f2_stale f7_size f1_size f5_keptSize f5_aheadSize f0_solved f4_blockCount f4_blockLength f4_lastIsFree f4_stale : Int32) (ai : Nat → Nat → Int32) (al : Nat → Nat → Int64) (w0 w1 w2 w3 : Nat) (x1 : Int32) (x2 : Int32) (h_f3_unknowns : (1 ≤ f3_unknowns.toInt ∧ f3_unknowns.toInt ≤ 4)) (h_f3_equations : (0 ≤ f3_equations.toInt ∧ f3_equations.toInt ≤ 3)) (h_f2_stale : (0 ≤ f2_stale.toInt ∧ f2_stale.toInt ≤ 1)) (h_f7_size : (0 ≤ f7_size.toInt ∧ f7_size.toInt ≤ 256)) (h_f1_size : (0 ≤ f1_size.toInt ∧ f1_size.toInt ≤ 4)) (h_f5_keptSize : (0 ≤ f5_keptSize.toInt ∧ f5_keptSize.toInt ≤ 128)) (h_f5_aheadSize : (0 ≤ f5_aheadSize.toInt ∧ f5_aheadSize.toInt ≤ 128)) (h_f4_blockCount : (0 ≤ f4_blockCount.toInt ∧ f4_blockCount.toInt ≤ 9261)) (h_f4_blockLength : (0 ≤ f4_blockLength.toInt ∧ f4_blockLength.toInt ≤ 21)) (h_f4_lastIsFree : (0 ≤ f4_lastIsFree.toInt ∧ f4_lastIsFree.toInt ≤ 1)) (h_f4_stale : (0 ≤ f4_stale.toInt ∧ f4_stale.toInt ≤ 1)) (hI : IAX ai) (hw_w0 : RWX ad w0) (hw_w1 : RWX ad w1) (hw_w2 : RWX ad w2) (hw_w3 : RWX ad w3) : Met l yX8_hand (.code yX8_hand cX8_hand 4 (some .int) :: TT) ({ frames := 3, cells := 0, slots := 0, locals := 140 } : Room) (PcS dC dI (TY cI cJ cII cJJ) [.ref (ad 0), .int x1, .int x2] (WX cI cJ cII cJJ ad f3_unknowns f3_equations f2_roundSupports f2_stale f7_size f1_size f5_keptSize f5_aheadSize f0_solved f4_blockCount f4_blockLength f4_lastIsFree f4_stale ai al w0 w1 w2 w3) sz 0 g) (Q_m057_X8_hand dC dI cI cJ cII cJJ ad f3_unknowns f3_equations f2_roundSupports f2_stale f7_size f1_size f5_keptSize f5_aheadSize f0_solved f4_blockCount f4_blockLength f4_lastIsFree f4_stale ai al w0 w1 w2 w3 (va_A (WX cI cJ cII cJJ ad f3_unknowns f3_equations f2_roundSupports f2_stale f7_size f1_size f5_keptSize f5_aheadSize f0_solved f4_blockCount f4_blockLength f4_lastIsFree f4_stale ai al w0 w1 w2 w3) sz)) 0 0 (va_A (WX cI cJ cII cJJ ad f3_unknowns f3_equations f2_roundSupports f2_stale f7_size f1_size f5_keptSize f5_aheadSize f0_solved f4_blockCount f4_blockLength f4_lastIsFree f4_stale ai al w0 w1 w2 w3) sz) := by
  refine SM.of (y := yX8_hand) (maxL := 4) (av := [.ref (ad 0), .int x1, .int x2]) (Q_m057_X8_hand dC dI cI cJ cII cJJ ad f3_unknowns f3_equations f2_roundSupports f2_stale f7_size f1_size f5_keptSize f5_aheadSize f0_solved f4_blockCount f4_blockLength f4_lastIsFree f4_stale ai al w0 w1 w2 w3) (by decide +kernel) (Nat.le_of_ble_eq_true rfl) (fun p e s m below meth c A ls hx hb hr hml hown hts hk hnm hA hK hP hD hS hX hl => ?_)
  have C : Cx p c s m meth (([.ref (ad 0), .int x1, .int x2] : List Value).toArray) A dC dI (TY cI cJ cII cJJ) cX8_hand (some .int) 4 RX8 0 g := ⟨hx, hb, hr, hml, hown, hts, hk, hA, hK, hX⟩
  have hown : s.vm.findClass RX8 = some m.cls := hown
  have hl : lv_has ls 4 [(0, .ref (ad 0)), (1, .int x1), (2, .int x2)] := hl
  obtain ⟨H, hH⟩ : ∃ q, q = s.heap := ⟨_, rfl⟩
  rw [← hH] at hP
  have hS : va_S A s.heap H [] := by rw [hH]; exact hS
  rw [← hH]
  have hF := FR_refl [60, 63] ai
  have ra_x1 := s_any x1
  have ra_x2 := s_any x2
  refine lv_aload_n hx hb dX8_hand_0 rfl (lv_at hl 0 rfl) ?_
  refine gf (k := 0) hx hb hts inX8 hown hK hP k_264 rfl (by decide) rfl 0 rfl (.ref (ad 6)) rfl dX8_hand_1 ?_
  refine lv_iload_n hx hb dX8_hand_4 rfl (lv_at hl 1 rfl) ?_
  have hM := m001_X3_hasUnknown l dC dI cI cJ cII cJJ H.size 0 ad f3_unknowns f3_equations f2_roundSupports f2_stale f7_size f1_size f5_keptSize f5_aheadSize f0_solved f4_blockCount f4_blockLength f4_lastIsFree f4_stale ai al w0 w1 w2 w3 x1 (by omega) (by omega) (by omega) (by omega) (by omega) (by omega) (by omega) (by omega) (by omega) (by omega) (by omega) hI hw_w0 hw_w1 hw_w2 hw_w3
  refine k2V_i (q0 := 6) ⟨hx, hb, hml, hown, hts⟩ hK hP hD hS hA hX cv_RX8_82 hM ⟨by decide +kernel, by decide +kernel⟩ rfl rfl (Or.inl rfl) (rest := []) rfl rfl rfl hl.1 rfl (Nat.le_of_ble_eq_true rfl) dX8_hand_5 ⟨Nat.le_of_ble_eq_true rfl, Nat.le_of_ble_eq_true rfl⟩ (fun r1 t H1 locs_1 ht hB hS_1 hFc => ?_)
  obtain ⟨⟨gpr1_0, gpr1_1⟩, hP_2, -, hD_2⟩ := hB
  rw [ht] at hP_2
  have hD_3 := hD_2.weaken (B := A) (fun k q _ h9 => hFc q.1 h9)
  clear ht
  generalize H1 = H_4 at hP_2 hS_1 ⊢
  refine lv_if_ne (tgt := 20) hx hb dX8_hand_8 (by decide) (fun c2 => ?_) (fun c2 => ?_)
  · have c2 := j_ne (a := r1.toInt) (b := 0) rfl (by decide +kernel) c2
    refine lv_iload_n hx hb dX8_hand_20 rfl (lv_at hl 2 rfl) ?_
    refine lv_sipush (v := (-10000)) hx hb dX8_hand_21 (by decide) ?_
    refine lv_icmp_ge (tgt := 37) hx hb dX8_hand_24 (by decide) (fun c3 => ?_) (fun c3 => ?_)
    · have c3 := j_le (a := (-10000)) (b := x2.toInt) (by decide +kernel) rfl c3
      refine lv_iload_n hx hb dX8_hand_37 rfl (lv_at hl 2 rfl) ?_
      refine lv_sipush (v := 10000) hx hb dX8_hand_38 (by decide) ?_
      refine lv_icmp_le (tgt := 54) hx hb dX8_hand_41 (by decide) (fun c4 => ?_) (fun c4 => ?_)
      · have c4 := j_le (a := x2.toInt) (b := 10000) rfl (by decide +kernel) c4
        refine lv_aload_n hx hb dX8_hand_54 rfl (lv_at hl 0 rfl) ?_
        refine gf (k := 4) hx hb hts inX8 hown hK hP_2 k_268 rfl (by decide) rfl 0 rfl (.ref (ad 60)) rfl dX8_hand_55 ?_
        refine lv_iload_n hx hb dX8_hand_58 rfl (lv_at hl 1 rfl) ?_
        refine va_iald hx hb hK hP_2 60 0 rfl rfl (j_in (a := x1.toInt) rfl (by omega) (by omega)) dX8_hand_59 ?_
        refine lv_topi (fun z5 e_z5 => ?_)
        refine lv_istore_n (lv' := [(3, .int z5), (0, .ref (ad 0)), (1, .int x1), (2, .int x2)]) hx hb dX8_hand_60 rfl hl (by decide) rfl (fun ls_5 hl_5 => ?_)
        refine lv_aload_n hx hb dX8_hand_61 rfl (lv_at hl_5 1 rfl) ?_
        refine gf (k := 4) hx hb hts inX8 hown hK hP_2 k_268 rfl (by decide) rfl 0 rfl (.ref (ad 60)) rfl dX8_hand_62 ?_
        refine lv_iload_n hx hb dX8_hand_65 rfl (lv_at hl_5 2 rfl) ?_
        refine lv_iload_n hx hb dX8_hand_66 rfl (lv_at hl_5 3 rfl) ?_
        refine va_iast hx hb hK hP_2 hD_3 hS_1 60 0 rfl rfl (j_in (a := x1.toInt) rfl (by omega) (by omega)) dX8_hand_67 (fun H_6 locs_6 hP_6 hD_6 hS_6 => ?_)
        obtain ⟨ai6, e_ai6⟩ : ∃ q : Nat → Nat → Int32, q = va_up ai 60 (upd (ai 60) x1.toNatClampNeg x2) := ⟨_, rfl⟩
        have hF_7 := FR_st hF e_ai6 (by decide)
        have hI_8 : IAX ai6 := by rw [e_ai6]; exact hI
        have hP_9 : va_P (dC, dI) vwCl (WX cI cJ cII cJJ ad f3_unknowns f3_equations f2_roundSupports f2_stale f7_size f1_size f5_keptSize f5_aheadSize f0_solved f4_blockCount f4_blockLength f4_lastIsFree f4_stale ai6 al w0 w1 w2 w3) H_6 := by rw [e_ai6]; exact hP_6
        have hD_10 : va_D A (WX cI cJ cII cJJ ad f3_unknowns f3_equations f2_roundSupports f2_stale f7_size f1_size f5_keptSize f5_aheadSize f0_solved f4_blockCount f4_blockLength f4_lastIsFree f4_stale ai6 al w0 w1 w2 w3) := by rw [e_ai6]; exact hD_6
        refine lv_iload_n hx hb dX8_hand_68 rfl (lv_at hl_5 0 rfl) ?_
        exact r2_i hx hb hr hk hS_6 dX8_hand_69 (fun t ht hW => ⟨ai6, ⟨hI_8, hF_7⟩, by rw [ht]; exact hP_9, va_K.moved hW.alike hK, hD_10⟩)
      · have c4 := j_nle (a := x2.toInt) (b := 10000) rfl (by decide +kernel) c4
        refine lv_aload_n hx hb dX8_hand_44 rfl (lv_at hl 0 rfl) ?_
        refine lv_bipush (v := (-6)) hx hb dX8_hand_45 (by decide) ?_
        have kcm6 : ((-6) : Int32).toInt = (-6) := by decide +kernel
        have hM := m003_X8_refuse l dC dI cI cJ cII cJJ H_4.size 0 ad f3_unknowns f3_equations f2_roundSupports f2_stale f7_size f1_size f5_keptSize f5_aheadSize f0_solved f4_blockCount f4_blockLength f4_lastIsFree f4_stale ai al w0 w1 w2 w3 (-6) (by omega) (by omega) (by omega) (by omega) (by omega) (by omega) (by omega) (by omega) (by omega) (by omega) (by omega) hI hw_w0 hw_w1 hw_w2 hw_w3
        refine k2V_i (q0 := 0) ⟨hx, hb, hml, hown, hts⟩ hK hP_2 hD_3 hS_1 hA hX cv_RX8_53 hM ⟨by decide +kernel, by decide +kernel⟩ rfl rfl (Or.inl rfl) (rest := []) rfl rfl rfl hl.1 rfl (Nat.le_of_ble_eq_true rfl) dX8_hand_47 ⟨Nat.le_of_ble_eq_true rfl, Nat.le_of_ble_eq_true rfl⟩ (fun r7 t H1 locs_11 ht hB hS_11 hFc => ?_)
        obtain ⟨ai8, ⟨gpr7_0, hI_12, hFr_r7⟩, hP_12, -, hD_12⟩ := hB
        have hF_13 := FR_tr hF hFr_r7 (by decide)
        rw [ht] at hP_12
        have hD_14 := hD_12.weaken (B := A) (fun k q _ h9 => hFc q.1 h9)
        clear ht
        generalize H1 = H_15 at hP_12 hS_11 ⊢
        refine lv_pop hx hb dX8_hand_50 rfl ?_
        refine lv_ldc (v := (-99999)) hx hb hown (hts _ k_543) dX8_hand_51 ?_
        exact r2_i hx hb hr hk hS_11 dX8_hand_53 (fun t ht hW => ⟨ai8, ⟨hI_12, hF_13⟩, by rw [ht]; exact hP_12, va_K.moved hW.alike hK, hD_14⟩)
    · have c3 := j_nle (a := (-10000)) (b := x2.toInt) (by decide +kernel) rfl c3
      refine lv_aload_n hx hb dX8_hand_27 rfl (lv_at hl 0 rfl) ?_
      refine lv_bipush (v := (-4)) hx hb dX8_hand_28 (by decide) ?_
      have kcm4 : ((-4) : Int32).toInt = (-4) := by decide +kernel
      have hM := m003_X8_refuse l dC dI cI cJ cII cJJ H_4.size 0 ad f3_unknowns f3_equations f2_roundSupports f2_stale f7_size f1_size f5_keptSize f5_aheadSize f0_solved f4_blockCount f4_blockLength f4_lastIsFree f4_stale ai al w0 w1 w2 w3 (-4) (by omega) (by omega) (by omega) (by omega) (by omega) (by omega) (by omega) (by omega) (by omega) (by omega) (by omega) hI hw_w0 hw_w1 hw_w2 hw_w3
      refine k2V_i (q0 := 0) ⟨hx, hb, hml, hown, hts⟩ hK hP_2 hD_3 hS_1 hA hX cv_RX8_53 hM ⟨by decide +kernel, by decide +kernel⟩ rfl rfl (Or.inl rfl) (rest := []) rfl rfl rfl hl.1 rfl (Nat.le_of_ble_eq_true rfl) dX8_hand_30 ⟨Nat.le_of_ble_eq_true rfl, Nat.le_of_ble_eq_true rfl⟩ (fun r9 t H1 locs_16 ht hB hS_16 hFc => ?_)
      obtain ⟨ai10, ⟨gpr9_0, hI_17, hFr_r9⟩, hP_17, -, hD_17⟩ := hB
      have hF_18 := FR_tr hF hFr_r9 (by decide)
      rw [ht] at hP_17
      have hD_19 := hD_17.weaken (B := A) (fun k q _ h9 => hFc q.1 h9)
      clear ht
      generalize H1 = H_20 at hP_17 hS_16 ⊢
      refine lv_pop hx hb dX8_hand_33 rfl ?_
      refine lv_ldc (v := (-99999)) hx hb hown (hts _ k_543) dX8_hand_34 ?_
      exact r2_i hx hb hr hk hS_16 dX8_hand_36 (fun t ht hW => ⟨ai10, ⟨hI_17, hF_18⟩, by rw [ht]; exact hP_17, va_K.moved hW.alike hK, hD_19⟩)
  · have c2 := j_eq (a := r1.toInt) (b := 0) rfl (by decide +kernel) c2
    refine lv_aload_n hx hb dX8_hand_11 rfl (lv_at hl 0 rfl) ?_
    refine lv_iconst (v := (-1)) hx hb dX8_hand_12 (by decide) ?_
    have kcm1 : ((-1) : Int32).toInt = (-1) := by decide +kernel
    have hM := m003_X8_refuse l dC dI cI cJ cII cJJ H_4.size 0 ad f3_unknowns f3_equations f2_roundSupports f2_stale f7_size f1_size f5_keptSize f5_aheadSize f0_solved f4_blockCount f4_blockLength f4_lastIsFree f4_stale ai al w0 w1 w2 w3 (-1) (by omega) (by omega) (by omega) (by omega) (by omega) (by omega) (by omega) (by omega) (by omega) (by omega) (by omega) hI hw_w0 hw_w1 hw_w2 hw_w3
    refine k2V_i (q0 := 0) ⟨hx, hb, hml, hown, hts⟩ hK hP_2 hD_3 hS_1 hA hX cv_RX8_53 hM ⟨by decide +kernel, by decide +kernel⟩ rfl rfl (Or.inl rfl) (rest := []) rfl rfl rfl hl.1 rfl (Nat.le_of_ble_eq_true rfl) dX8_hand_13 ⟨Nat.le_of_ble_eq_true rfl, Nat.le_of_ble_eq_true rfl⟩ (fun r11 t H1 locs_21 ht hB hS_21 hFc => ?_)
    obtain ⟨ai12, ⟨gpr11_0, hI_22, hFr_r11⟩, hP_22, -, hD_22⟩ := hB
    have hF_23 := FR_tr hF hFr_r11 (by decide)
    rw [ht] at hP_22
    have hD_24 := hD_22.weaken (B := A) (fun k q _ h9 => hFc q.1 h9)
    clear ht
    generalize H1 = H_25 at hP_22 hS_21 ⊢
    refine lv_pop hx hb dX8_hand_16 rfl ?_
    refine lv_ldc (v := (-99999)) hx hb hown (hts _ k_543) dX8_hand_17 ?_
    exact r2_i hx hb hr hk hS_21 dX8_hand_19 (fun t ht hW => ⟨ai12, ⟨hI_22, hF_23⟩, by rw [ht]; exact hP_22, va_K.moved hW.alike hK, hD_24⟩)
def Q_m058_X8_has (dC : Nat → ClassId) (dI : Nat → Nat → Nat) (cI cJ cII cJJ : ClassId) (ad : Nat → Nat) (f3_unknowns f3_equations f2_roundSupports f2_stale f7_size f1_size f5_keptSize f5_aheadSize f0_solved f4_blockCount f4_blockLength f4_lastIsFree f4_stale : Int32) (ai : Nat → Nat → Int32) (al : Nat → Nat → Int64) (w0 w1 w2 w3 : Nat) : (Nat → Prop) → Array Value → State → Outcome → State → Prop := fun A => QI (fun r t => (True) ∧ WO dC dI (TY cI cJ cII cJJ) (WX cI cJ cII cJJ ad f3_unknowns f3_equations f2_roundSupports f2_stale f7_size f1_size f5_keptSize f5_aheadSize f0_solved f4_blockCount f4_blockLength f4_lastIsFree f4_stale ai al w0 w1 w2 w3) A t) A
set_option maxRecDepth 100000 in
set_option maxHeartbeats 4000000 in
theorem m058_X8_has (l : Launch) (dC : Nat → ClassId) (dI : Nat → Nat → Nat) (cI cJ cII cJJ : ClassId) (sz g : Nat) (ad : Nat → Nat) (f3_unknowns f3_equations f2_roundSupports f2_stale f7_size f1_size f5_keptSize f5_aheadSize f0_solved f4_blockCount f4_blockLength f4_lastIsFree f4_stale : Int32) (ai : Nat → Nat → Int32) (al : Nat → Nat → Int64) (w0 w1 w2 w3 : Nat) (x1 : Int32) (h_f3_unknowns : (1 ≤ f3_unknowns.toInt ∧ f3_unknowns.toInt ≤ 4)) (h_f3_equations : (0 ≤ f3_equations.toInt ∧ f3_equations.toInt ≤ 3)) (h_f2_stale : (0 ≤ f2_stale.toInt ∧ f2_stale.toInt ≤ 1)) (h_f7_size : (0 ≤ f7_size.toInt ∧ f7_size.toInt ≤ 256)) (h_f1_size : (0 ≤ f1_size.toInt ∧ f1_size.toInt ≤ 4)) (h_f5_keptSize : (0 ≤ f5_keptSize.toInt ∧ f5_keptSize.toInt ≤ 128)) (h_f5_aheadSize : (0 ≤ f5_aheadSize.toInt ∧ f5_aheadSize.toInt ≤ 128)) (h_f4_blockCount : (0 ≤ f4_blockCount.toInt ∧ f4_blockCount.toInt ≤ 9261)) (h_f4_blockLength : (0 ≤ f4_blockLength.toInt ∧ f4_blockLength.toInt ≤ 21)) (h_f4_lastIsFree : (0 ≤ f4_lastIsFree.toInt ∧ f4_lastIsFree.toInt ≤ 1)) (h_f4_stale : (0 ≤ f4_stale.toInt ∧ f4_stale.toInt ≤ 1)) (hI : IAX ai) (hw_w0 : RWX ad w0) (hw_w1 : RWX ad w1) (hw_w2 : RWX ad w2) (hw_w3 : RWX ad w3) : Met l yX8_has (.code yX8_has cX8_has 2 (some .int) :: TT) ({ frames := 3, cells := 0, slots := 0, locals := 140 } : Room) (PcS dC dI (TY cI cJ cII cJJ) [.ref (ad 0), .int x1] (WX cI cJ cII cJJ ad f3_unknowns f3_equations f2_roundSupports f2_stale f7_size f1_size f5_keptSize f5_aheadSize f0_solved f4_blockCount f4_blockLength f4_lastIsFree f4_stale ai al w0 w1 w2 w3) sz 0 g) (Q_m058_X8_has dC dI cI cJ cII cJJ ad f3_unknowns f3_equations f2_roundSupports f2_stale f7_size f1_size f5_keptSize f5_aheadSize f0_solved f4_blockCount f4_blockLength f4_lastIsFree f4_stale ai al w0 w1 w2 w3 (va_A (WX cI cJ cII cJJ ad f3_unknowns f3_equations f2_roundSupports f2_stale f7_size f1_size f5_keptSize f5_aheadSize f0_solved f4_blockCount f4_blockLength f4_lastIsFree f4_stale ai al w0 w1 w2 w3) sz)) 0 0 (va_A (WX cI cJ cII cJJ ad f3_unknowns f3_equations f2_roundSupports f2_stale f7_size f1_size f5_keptSize f5_aheadSize f0_solved f4_blockCount f4_blockLength f4_lastIsFree f4_stale ai al w0 w1 w2 w3) sz) := by
  refine SM.of (y := yX8_has) (maxL := 2) (av := [.ref (ad 0), .int x1]) (Q_m058_X8_has dC dI cI cJ cII cJJ ad f3_unknowns f3_equations f2_roundSupports f2_stale f7_size f1_size f5_keptSize f5_aheadSize f0_solved f4_blockCount f4_blockLength f4_lastIsFree f4_stale ai al w0 w1 w2 w3) (by decide +kernel) (Nat.le_of_ble_eq_true rfl) (fun p e s m below meth c A ls hx hb hr hml hown hts hk hnm hA hK hP hD hS hX hl => ?_)
  have C : Cx p c s m meth (([.ref (ad 0), .int x1] : List Value).toArray) A dC dI (TY cI cJ cII cJJ) cX8_has (some .int) 2 RX8 0 g := ⟨hx, hb, hr, hml, hown, hts, hk, hA, hK, hX⟩
  have hown : s.vm.findClass RX8 = some m.cls := hown
  have hl : lv_has ls 2 [(0, .ref (ad 0)), (1, .int x1)] := hl
  obtain ⟨H, hH⟩ : ∃ q, q = s.heap := ⟨_, rfl⟩
  rw [← hH] at hP
  have hS : va_S A s.heap H [] := by rw [hH]; exact hS
  rw [← hH]
  have ra_x1 := s_any x1
  refine lv_aload_n hx hb dX8_has_0 rfl (lv_at hl 0 rfl) ?_
  refine gf (k := 0) hx hb hts inX8 hown hK hP k_264 rfl (by decide) rfl 0 rfl (.ref (ad 6)) rfl dX8_has_1 ?_
  refine lv_iload_n hx hb dX8_has_4 rfl (lv_at hl 1 rfl) ?_
  have hM := m001_X3_hasUnknown l dC dI cI cJ cII cJJ H.size 0 ad f3_unknowns f3_equations f2_roundSupports f2_stale f7_size f1_size f5_keptSize f5_aheadSize f0_solved f4_blockCount f4_blockLength f4_lastIsFree f4_stale ai al w0 w1 w2 w3 x1 (by omega) (by omega) (by omega) (by omega) (by omega) (by omega) (by omega) (by omega) (by omega) (by omega) (by omega) hI hw_w0 hw_w1 hw_w2 hw_w3
  refine k2V_i (q0 := 6) ⟨hx, hb, hml, hown, hts⟩ hK hP hD hS hA hX cv_RX8_82 hM ⟨by decide +kernel, by decide +kernel⟩ rfl rfl (Or.inl rfl) (rest := []) rfl rfl rfl hl.1 rfl (Nat.le_of_ble_eq_true rfl) dX8_has_5 ⟨Nat.le_of_ble_eq_true rfl, Nat.le_of_ble_eq_true rfl⟩ (fun r1 t H1 locs_1 ht hB hS_1 hFc => ?_)
  obtain ⟨⟨gpr1_0, gpr1_1⟩, hP_2, -, hD_2⟩ := hB
  rw [ht] at hP_2
  have hD_3 := hD_2.weaken (B := A) (fun k q _ h9 => hFc q.1 h9)
  clear ht
  generalize H1 = H_4 at hP_2 hS_1 ⊢
  refine lv_if_eq (tgt := 20) hx hb dX8_has_8 (by decide) (fun c2 => ?_) (fun c2 => ?_)
  · have c2 := j_eq (a := r1.toInt) (b := 0) rfl (by decide +kernel) c2
    refine lv_ldc (v := (-99999)) hx hb hown (hts _ k_543) dX8_has_20 ?_
    exact r2_i hx hb hr hk hS_1 dX8_has_22 (fun t ht hW => ⟨trivial, by rw [ht]; exact hP_2, va_K.moved hW.alike hK, hD_3⟩)
  · have c2 := j_ne (a := r1.toInt) (b := 0) rfl (by decide +kernel) c2
    refine lv_aload_n hx hb dX8_has_11 rfl (lv_at hl 0 rfl) ?_
    refine gf (k := 4) hx hb hts inX8 hown hK hP_2 k_268 rfl (by decide) rfl 0 rfl (.ref (ad 60)) rfl dX8_has_12 ?_
    refine lv_iload_n hx hb dX8_has_15 rfl (lv_at hl 1 rfl) ?_
    refine va_iald hx hb hK hP_2 60 0 rfl rfl (j_in (a := x1.toInt) rfl (by omega) (by omega)) dX8_has_16 ?_
    refine lv_topi (fun z3 e_z3 => ?_)
    refine lv_goto (tgt := 22) hx hb dX8_has_17 (by decide) ?_
    exact r2_i hx hb hr hk hS_1 dX8_has_22 (fun t ht hW => ⟨trivial, by rw [ht]; exact hP_2, va_K.moved hW.alike hK, hD_3⟩)
def Q_m059_X8_what (dC : Nat → ClassId) (dI : Nat → Nat → Nat) (cI cJ cII cJJ : ClassId) (ad : Nat → Nat) (f3_unknowns f3_equations f2_roundSupports f2_stale f7_size f1_size f5_keptSize f5_aheadSize f0_solved f4_blockCount f4_blockLength f4_lastIsFree f4_stale : Int32) (ai : Nat → Nat → Int32) (al : Nat → Nat → Int64) (w0 w1 w2 w3 : Nat) : (Nat → Prop) → Array Value → State → Outcome → State → Prop := fun A => QI (fun r t => ((0 ≤ r.toInt ∧ r.toInt ≤ 3)) ∧ WO dC dI (TY cI cJ cII cJJ) (WX cI cJ cII cJJ ad f3_unknowns f3_equations f2_roundSupports f2_stale f7_size f1_size f5_keptSize f5_aheadSize f0_solved f4_blockCount f4_blockLength f4_lastIsFree f4_stale ai al w0 w1 w2 w3) A t) A
set_option maxRecDepth 100000 in
set_option maxHeartbeats 4000000 in
theorem m059_X8_what_b38 {p : Program} {l : Launch} {e : Env} {s : State} {m : MethodId} {args : Array Value} {below : List Frame} {meth : Method} {c : Code} {A : Nat → Prop} {dC : Nat → ClassId} {dI : Nat → Nat → Nat} {cI cJ cII cJJ : ClassId} {ad : Nat → Nat} {g : Nat} {f3_unknowns f3_equations f2_roundSupports f2_stale f7_size f1_size f5_keptSize f5_aheadSize f0_solved f4_blockCount f4_blockLength f4_lastIsFree f4_stale : Int32} {ai : Nat → Nat → Int32} {al : Nat → Nat → Int64} {w0 w1 w2 w3 : Nat} (C : Cx p c s m meth args A dC dI (TY cI cJ cII cJJ) cX8_what (some .int) 1 RX8 0 g) : ∀ (S0 S1 : Int32) (H : Heap) (locs : List Loc) (ls : Array Slot), (0 ≤ S0.toInt ∧ S0.toInt ≤ 2) → (0 ≤ S1.toInt ∧ S1.toInt ≤ 1) → (1 ≤ f3_unknowns.toInt ∧ f3_unknowns.toInt ≤ 4) → (0 ≤ f3_equations.toInt ∧ f3_equations.toInt ≤ 3) → (0 ≤ f2_stale.toInt ∧ f2_stale.toInt ≤ 1) → (0 ≤ f7_size.toInt ∧ f7_size.toInt ≤ 256) → (0 ≤ f1_size.toInt ∧ f1_size.toInt ≤ 4) → (0 ≤ f5_keptSize.toInt ∧ f5_keptSize.toInt ≤ 128) → (0 ≤ f5_aheadSize.toInt ∧ f5_aheadSize.toInt ≤ 128) → (0 ≤ f4_blockCount.toInt ∧ f4_blockCount.toInt ≤ 9261) → (0 ≤ f4_blockLength.toInt ∧ f4_blockLength.toInt ≤ 21) → (0 ≤ f4_lastIsFree.toInt ∧ f4_lastIsFree.toInt ≤ 1) → (0 ≤ f4_stale.toInt ∧ f4_stale.toInt ≤ 1) → IAX ai → RWX ad w0 → RWX ad w1 → RWX ad w2 → RWX ad w3 → va_P (dC, dI) vwCl (WX cI cJ cII cJJ ad f3_unknowns f3_equations f2_roundSupports f2_stale f7_size f1_size f5_keptSize f5_aheadSize f0_solved f4_blockCount f4_blockLength f4_lastIsFree f4_stale ai al w0 w1 w2 w3) H → va_D A (WX cI cJ cII cJJ ad f3_unknowns f3_equations f2_roundSupports f2_stale f7_size f1_size f5_keptSize f5_aheadSize f0_solved f4_blockCount f4_blockLength f4_lastIsFree f4_stale ai al w0 w1 w2 w3) → va_S A s.heap H locs → lv_has ls 1 [(0, .ref (ad 0))] → W p l e ({ frames := 4, cells := 0, slots := 0, locals := 200 } : Room) s m args below meth c H locs 0 0 (MQ below (Q_m059_X8_what dC dI cI cJ cII cJJ ad f3_unknowns f3_equations f2_roundSupports f2_stale f7_size f1_size f5_keptSize f5_aheadSize f0_solved f4_blockCount f4_blockLength f4_lastIsFree f4_stale ai al w0 w1 w2 w3 A) args s 0 0 A) (F0 m 38 ls [.int S0, .int S1]) := by
  obtain ⟨hx, hb, hr, hml, hown, hts, hk, hA, hK, hX⟩ := id C
  intro S0 S1 H locs ls h0 h1 h2 h3 h4 h5 h6 h7 h8 h9 h10 h11 h12 hI hw_w0 hw_w1 hw_w2 hw_w3 hP hD hS hl
  refine v_iadd hx hb dX8_what_38 _ rfl ?_
  refine lv_topi (fun z1 e_z1 => ?_)
  have g_z1 : z1.toInt = S1.toInt + S0.toInt := by rw [e_z1]; exact n_add (a := S1.toInt) (b := S0.toInt) rfl rfl (by omega) (by omega)
  exact r2_i hx hb hr hk hS dX8_what_39 (fun t ht hW => ⟨(by first | omega | decide | exact Or.inl (by decide) | exact Or.inr (by decide) | exact Or.inr (by omega)), by rw [ht]; exact hP, va_K.moved hW.alike hK, hD⟩)
set_option maxRecDepth 100000 in
set_option maxHeartbeats 4000000 in
theorem m059_X8_what_b19 {p : Program} {l : Launch} {e : Env} {s : State} {m : MethodId} {args : Array Value} {below : List Frame} {meth : Method} {c : Code} {A : Nat → Prop} {dC : Nat → ClassId} {dI : Nat → Nat → Nat} {cI cJ cII cJJ : ClassId} {ad : Nat → Nat} {g : Nat} {f3_unknowns f3_equations f2_roundSupports f2_stale f7_size f1_size f5_keptSize f5_aheadSize f0_solved f4_blockCount f4_blockLength f4_lastIsFree f4_stale : Int32} {ai : Nat → Nat → Int32} {al : Nat → Nat → Int64} {w0 w1 w2 w3 : Nat} (C : Cx p c s m meth args A dC dI (TY cI cJ cII cJJ) cX8_what (some .int) 1 RX8 0 g) : ∀ (S0 : Int32) (H : Heap) (locs : List Loc) (ls : Array Slot), (0 ≤ S0.toInt ∧ S0.toInt ≤ 1) → (1 ≤ f3_unknowns.toInt ∧ f3_unknowns.toInt ≤ 4) → (0 ≤ f3_equations.toInt ∧ f3_equations.toInt ≤ 3) → (0 ≤ f2_stale.toInt ∧ f2_stale.toInt ≤ 1) → (0 ≤ f7_size.toInt ∧ f7_size.toInt ≤ 256) → (0 ≤ f1_size.toInt ∧ f1_size.toInt ≤ 4) → (0 ≤ f5_keptSize.toInt ∧ f5_keptSize.toInt ≤ 128) → (0 ≤ f5_aheadSize.toInt ∧ f5_aheadSize.toInt ≤ 128) → (0 ≤ f4_blockCount.toInt ∧ f4_blockCount.toInt ≤ 9261) → (0 ≤ f4_blockLength.toInt ∧ f4_blockLength.toInt ≤ 21) → (0 ≤ f4_lastIsFree.toInt ∧ f4_lastIsFree.toInt ≤ 1) → (0 ≤ f4_stale.toInt ∧ f4_stale.toInt ≤ 1) → IAX ai → RWX ad w0 → RWX ad w1 → RWX ad w2 → RWX ad w3 → va_P (dC, dI) vwCl (WX cI cJ cII cJJ ad f3_unknowns f3_equations f2_roundSupports f2_stale f7_size f1_size f5_keptSize f5_aheadSize f0_solved f4_blockCount f4_blockLength f4_lastIsFree f4_stale ai al w0 w1 w2 w3) H → va_D A (WX cI cJ cII cJJ ad f3_unknowns f3_equations f2_roundSupports f2_stale f7_size f1_size f5_keptSize f5_aheadSize f0_solved f4_blockCount f4_blockLength f4_lastIsFree f4_stale ai al w0 w1 w2 w3) → va_S A s.heap H locs → lv_has ls 1 [(0, .ref (ad 0))] → W p l e ({ frames := 4, cells := 0, slots := 0, locals := 200 } : Room) s m args below meth c H locs 0 0 (MQ below (Q_m059_X8_what dC dI cI cJ cII cJJ ad f3_unknowns f3_equations f2_roundSupports f2_stale f7_size f1_size f5_keptSize f5_aheadSize f0_solved f4_blockCount f4_blockLength f4_lastIsFree f4_stale ai al w0 w1 w2 w3 A) args s 0 0 A) (F0 m 19 ls [.int S0]) := by
  obtain ⟨hx, hb, hr, hml, hown, hts, hk, hA, hK, hX⟩ := id C
  intro S0 H locs ls h0 h1 h2 h3 h4 h5 h6 h7 h8 h9 h10 h11 hI hw_w0 hw_w1 hw_w2 hw_w3 hP hD hS hl
  refine lv_aload_n hx hb dX8_what_19 rfl (lv_at hl 0 rfl) ?_
  refine gf (k := 0) hx hb hts inX8 hown hK hP k_264 rfl (by decide) rfl 0 rfl (.ref (ad 6)) rfl dX8_what_20 ?_
  refine lv_aload_n hx hb dX8_what_23 rfl (lv_at hl 0 rfl) ?_
  refine gf (k := 4) hx hb hts inX8 hown hK hP k_268 rfl (by decide) rfl 0 rfl (.ref (ad 60)) rfl dX8_what_24 ?_
  have hM := m008_X3_isPlan l dC dI cI cJ cII cJJ H.size 0 ad f3_unknowns f3_equations f2_roundSupports f2_stale f7_size f1_size f5_keptSize f5_aheadSize f0_solved f4_blockCount f4_blockLength f4_lastIsFree f4_stale ai al w0 w1 w2 w3 (by omega) (by omega) (by omega) (by omega) (by omega) (by omega) (by omega) (by omega) (by omega) (by omega) (by omega) hI hw_w0 hw_w1 hw_w2 hw_w3
  refine k2V_i (q0 := 6) ⟨hx, hb, hml, hown, hts⟩ hK hP hD hS hA hX cv_RX8_173 hM ⟨by decide +kernel, by decide +kernel⟩ rfl rfl (Or.inl rfl) (rest := [.int S0]) rfl rfl rfl hl.1 rfl (Nat.le_of_ble_eq_true rfl) dX8_what_27 ⟨Nat.le_of_ble_eq_true rfl, Nat.le_of_ble_eq_true rfl⟩ (fun r1 t H1 locs_1 ht hB hS_1 hFc => ?_)
  obtain ⟨gpr1_0, hP_2, -, hD_2⟩ := hB
  rw [ht] at hP_2
  have hD_3 := hD_2.weaken (B := A) (fun k q _ h9 => hFc q.1 h9)
  clear ht
  generalize H1 = H_4 at hP_2 hS_1 ⊢
  refine lv_if_eq (tgt := 37) hx hb dX8_what_30 (by decide) (fun c2 => ?_) (fun c2 => ?_)
  · have c2 := j_eq (a := r1.toInt) (b := 0) rfl (by decide +kernel) c2
    refine lv_iconst (v := 0) hx hb dX8_what_37 (by decide) ?_
    exact m059_X8_what_b38 C  0 S0 _ _ _ (by first | omega | decide | (have ka0 := (by decide +kernel : (0 : Int32).toInt = 0); omega)) (by first | omega | decide | (have ka0 := (by decide +kernel : (0 : Int32).toInt = 0); omega)) (by first | omega | decide | (have ka0 := (by decide +kernel : (0 : Int32).toInt = 0); omega)) (by first | omega | decide | (have ka0 := (by decide +kernel : (0 : Int32).toInt = 0); omega)) (by first | omega | decide | (have ka0 := (by decide +kernel : (0 : Int32).toInt = 0); omega)) (by first | omega | decide | (have ka0 := (by decide +kernel : (0 : Int32).toInt = 0); omega)) (by first | omega | decide | (have ka0 := (by decide +kernel : (0 : Int32).toInt = 0); omega)) (by first | omega | decide | (have ka0 := (by decide +kernel : (0 : Int32).toInt = 0); omega)) (by first | omega | decide | (have ka0 := (by decide +kernel : (0 : Int32).toInt = 0); omega)) (by first | omega | decide | (have ka0 := (by decide +kernel : (0 : Int32).toInt = 0); omega)) (by first | omega | decide | (have ka0 := (by decide +kernel : (0 : Int32).toInt = 0); omega)) (by first | omega | decide | (have ka0 := (by decide +kernel : (0 : Int32).toInt = 0); omega)) (by first | omega | decide | (have ka0 := (by decide +kernel : (0 : Int32).toInt = 0); omega)) hI hw_w0 hw_w1 hw_w2 hw_w3 hP_2 hD_3 hS_1 (lv_sub hl [0] rfl)
  · have c2 := j_ne (a := r1.toInt) (b := 0) rfl (by decide +kernel) c2
    refine lv_iconst (v := 2) hx hb dX8_what_33 (by decide) ?_
    refine lv_goto (tgt := 38) hx hb dX8_what_34 (by decide) ?_
    exact m059_X8_what_b38 C  2 S0 _ _ _ (by first | omega | decide | (have ka0 := (by decide +kernel : (2 : Int32).toInt = 2); omega)) (by first | omega | decide | (have ka0 := (by decide +kernel : (2 : Int32).toInt = 2); omega)) (by first | omega | decide | (have ka0 := (by decide +kernel : (2 : Int32).toInt = 2); omega)) (by first | omega | decide | (have ka0 := (by decide +kernel : (2 : Int32).toInt = 2); omega)) (by first | omega | decide | (have ka0 := (by decide +kernel : (2 : Int32).toInt = 2); omega)) (by first | omega | decide | (have ka0 := (by decide +kernel : (2 : Int32).toInt = 2); omega)) (by first | omega | decide | (have ka0 := (by decide +kernel : (2 : Int32).toInt = 2); omega)) (by first | omega | decide | (have ka0 := (by decide +kernel : (2 : Int32).toInt = 2); omega)) (by first | omega | decide | (have ka0 := (by decide +kernel : (2 : Int32).toInt = 2); omega)) (by first | omega | decide | (have ka0 := (by decide +kernel : (2 : Int32).toInt = 2); omega)) (by first | omega | decide | (have ka0 := (by decide +kernel : (2 : Int32).toInt = 2); omega)) (by first | omega | decide | (have ka0 := (by decide +kernel : (2 : Int32).toInt = 2); omega)) (by first | omega | decide | (have ka0 := (by decide +kernel : (2 : Int32).toInt = 2); omega)) hI hw_w0 hw_w1 hw_w2 hw_w3 hP_2 hD_3 hS_1 (lv_sub hl [0] rfl)
set_option maxRecDepth 100000 in
set_option maxHeartbeats 4000000 in
theorem m059_X8_what (l : Launch) (dC : Nat → ClassId) (dI : Nat → Nat → Nat) (cI cJ cII cJJ : ClassId) (sz g : Nat) (ad : Nat → Nat) (f3_unknowns f3_equations f2_roundSupports f2_stale f7_size f1_size f5_keptSize f5_aheadSize f0_solved f4_blockCount f4_blockLength f4_lastIsFree f4_stale : Int32) (ai : Nat → Nat → Int32) (al : Nat → Nat → Int64) (w0 w1 w2 w3 : Nat) (h_f3_unknowns : (1 ≤ f3_unknowns.toInt ∧ f3_unknowns.toInt ≤ 4)) (h_f3_equations : (0 ≤ f3_equations.toInt ∧ f3_equations.toInt ≤ 3)) (h_f2_stale : (0 ≤ f2_stale.toInt ∧ f2_stale.toInt ≤ 1)) (h_f7_size : (0 ≤ f7_size.toInt ∧ f7_size.toInt ≤ 256)) (h_f1_size : (0 ≤ f1_size.toInt ∧ f1_size.toInt ≤ 4)) (h_f5_keptSize : (0 ≤ f5_keptSize.toInt ∧ f5_keptSize.toInt ≤ 128)) (h_f5_aheadSize : (0 ≤ f5_aheadSize.toInt ∧ f5_aheadSize.toInt ≤ 128)) (h_f4_blockCount : (0 ≤ f4_blockCount.toInt ∧ f4_blockCount.toInt ≤ 9261)) (h_f4_blockLength : (0 ≤ f4_blockLength.toInt ∧ f4_blockLength.toInt ≤ 21)) (h_f4_lastIsFree : (0 ≤ f4_lastIsFree.toInt ∧ f4_lastIsFree.toInt ≤ 1)) (h_f4_stale : (0 ≤ f4_stale.toInt ∧ f4_stale.toInt ≤ 1)) (hI : IAX ai) (hw_w0 : RWX ad w0) (hw_w1 : RWX ad w1) (hw_w2 : RWX ad w2) (hw_w3 : RWX ad w3) : Met l yX8_what (.code yX8_what cX8_what 1 (some .int) :: TT) ({ frames := 4, cells := 0, slots := 0, locals := 200 } : Room) (PcS dC dI (TY cI cJ cII cJJ) [.ref (ad 0)] (WX cI cJ cII cJJ ad f3_unknowns f3_equations f2_roundSupports f2_stale f7_size f1_size f5_keptSize f5_aheadSize f0_solved f4_blockCount f4_blockLength f4_lastIsFree f4_stale ai al w0 w1 w2 w3) sz 0 g) (Q_m059_X8_what dC dI cI cJ cII cJJ ad f3_unknowns f3_equations f2_roundSupports f2_stale f7_size f1_size f5_keptSize f5_aheadSize f0_solved f4_blockCount f4_blockLength f4_lastIsFree f4_stale ai al w0 w1 w2 w3 (va_A (WX cI cJ cII cJJ ad f3_unknowns f3_equations f2_roundSupports f2_stale f7_size f1_size f5_keptSize f5_aheadSize f0_solved f4_blockCount f4_blockLength f4_lastIsFree f4_stale ai al w0 w1 w2 w3) sz)) 0 0 (va_A (WX cI cJ cII cJJ ad f3_unknowns f3_equations f2_roundSupports f2_stale f7_size f1_size f5_keptSize f5_aheadSize f0_solved f4_blockCount f4_blockLength f4_lastIsFree f4_stale ai al w0 w1 w2 w3) sz) := by
  refine SM.of (y := yX8_what) (maxL := 1) (av := [.ref (ad 0)]) (Q_m059_X8_what dC dI cI cJ cII cJJ ad f3_unknowns f3_equations f2_roundSupports f2_stale f7_size f1_size f5_keptSize f5_aheadSize f0_solved f4_blockCount f4_blockLength f4_lastIsFree f4_stale ai al w0 w1 w2 w3) (by decide +kernel) (Nat.le_of_ble_eq_true rfl) (fun p e s m below meth c A ls hx hb hr hml hown hts hk hnm hA hK hP hD hS hX hl => ?_)
  have C : Cx p c s m meth (([.ref (ad 0)] : List Value).toArray) A dC dI (TY cI cJ cII cJJ) cX8_what (some .int) 1 RX8 0 g := ⟨hx, hb, hr, hml, hown, hts, hk, hA, hK, hX⟩
  have hown : s.vm.findClass RX8 = some m.cls := hown
  have hl : lv_has ls 1 [(0, .ref (ad 0))] := hl
  obtain ⟨H, hH⟩ : ∃ q, q = s.heap := ⟨_, rfl⟩
  rw [← hH] at hP
  have hS : va_S A s.heap H [] := by rw [hH]; exact hS
  rw [← hH]
  refine lv_aload_n hx hb dX8_what_0 rfl (lv_at hl 0 rfl) ?_
  refine gf (k := 0) hx hb hts inX8 hown hK hP k_264 rfl (by decide) rfl 0 rfl (.ref (ad 6)) rfl dX8_what_1 ?_
  refine lv_aload_n hx hb dX8_what_4 rfl (lv_at hl 0 rfl) ?_
  refine gf (k := 4) hx hb hts inX8 hown hK hP k_268 rfl (by decide) rfl 0 rfl (.ref (ad 60)) rfl dX8_what_5 ?_
  have hM := m007_X3_isStep l dC dI cI cJ cII cJJ H.size 0 ad f3_unknowns f3_equations f2_roundSupports f2_stale f7_size f1_size f5_keptSize f5_aheadSize f0_solved f4_blockCount f4_blockLength f4_lastIsFree f4_stale ai al w0 w1 w2 w3 (by omega) (by omega) (by omega) (by omega) (by omega) (by omega) (by omega) (by omega) (by omega) (by omega) (by omega) hI hw_w0 hw_w1 hw_w2 hw_w3
  refine k2V_i (q0 := 6) ⟨hx, hb, hml, hown, hts⟩ hK hP hD hS hA hX cv_RX8_170 hM ⟨by decide +kernel, by decide +kernel⟩ rfl rfl (Or.inl rfl) (rest := []) rfl rfl rfl hl.1 rfl (Nat.le_of_ble_eq_true rfl) dX8_what_8 ⟨Nat.le_of_ble_eq_true rfl, Nat.le_of_ble_eq_true rfl⟩ (fun r1 t H1 locs_1 ht hB hS_1 hFc => ?_)
  obtain ⟨gpr1_0, hP_2, -, hD_2⟩ := hB
  rw [ht] at hP_2
  have hD_3 := hD_2.weaken (B := A) (fun k q _ h9 => hFc q.1 h9)
  clear ht
  generalize H1 = H_4 at hP_2 hS_1 ⊢
  refine lv_if_eq (tgt := 18) hx hb dX8_what_11 (by decide) (fun c2 => ?_) (fun c2 => ?_)
  · have c2 := j_eq (a := r1.toInt) (b := 0) rfl (by decide +kernel) c2
    refine lv_iconst (v := 0) hx hb dX8_what_18 (by decide) ?_
    exact m059_X8_what_b19 C  0 _ _ _ (by first | omega | decide | (have ka0 := (by decide +kernel : (0 : Int32).toInt = 0); omega)) (by first | omega | decide | (have ka0 := (by decide +kernel : (0 : Int32).toInt = 0); omega)) (by first | omega | decide | (have ka0 := (by decide +kernel : (0 : Int32).toInt = 0); omega)) (by first | omega | decide | (have ka0 := (by decide +kernel : (0 : Int32).toInt = 0); omega)) (by first | omega | decide | (have ka0 := (by decide +kernel : (0 : Int32).toInt = 0); omega)) (by first | omega | decide | (have ka0 := (by decide +kernel : (0 : Int32).toInt = 0); omega)) (by first | omega | decide | (have ka0 := (by decide +kernel : (0 : Int32).toInt = 0); omega)) (by first | omega | decide | (have ka0 := (by decide +kernel : (0 : Int32).toInt = 0); omega)) (by first | omega | decide | (have ka0 := (by decide +kernel : (0 : Int32).toInt = 0); omega)) (by first | omega | decide | (have ka0 := (by decide +kernel : (0 : Int32).toInt = 0); omega)) (by first | omega | decide | (have ka0 := (by decide +kernel : (0 : Int32).toInt = 0); omega)) (by first | omega | decide | (have ka0 := (by decide +kernel : (0 : Int32).toInt = 0); omega)) hI hw_w0 hw_w1 hw_w2 hw_w3 hP_2 hD_3 hS_1 (lv_sub hl [0] rfl)
  · have c2 := j_ne (a := r1.toInt) (b := 0) rfl (by decide +kernel) c2
    refine lv_iconst (v := 1) hx hb dX8_what_14 (by decide) ?_
    refine lv_goto (tgt := 19) hx hb dX8_what_15 (by decide) ?_
    exact m059_X8_what_b19 C  1 _ _ _ (by first | omega | decide | (have ka0 := (by decide +kernel : (1 : Int32).toInt = 1); omega)) (by first | omega | decide | (have ka0 := (by decide +kernel : (1 : Int32).toInt = 1); omega)) (by first | omega | decide | (have ka0 := (by decide +kernel : (1 : Int32).toInt = 1); omega)) (by first | omega | decide | (have ka0 := (by decide +kernel : (1 : Int32).toInt = 1); omega)) (by first | omega | decide | (have ka0 := (by decide +kernel : (1 : Int32).toInt = 1); omega)) (by first | omega | decide | (have ka0 := (by decide +kernel : (1 : Int32).toInt = 1); omega)) (by first | omega | decide | (have ka0 := (by decide +kernel : (1 : Int32).toInt = 1); omega)) (by first | omega | decide | (have ka0 := (by decide +kernel : (1 : Int32).toInt = 1); omega)) (by first | omega | decide | (have ka0 := (by decide +kernel : (1 : Int32).toInt = 1); omega)) (by first | omega | decide | (have ka0 := (by decide +kernel : (1 : Int32).toInt = 1); omega)) (by first | omega | decide | (have ka0 := (by decide +kernel : (1 : Int32).toInt = 1); omega)) (by first | omega | decide | (have ka0 := (by decide +kernel : (1 : Int32).toInt = 1); omega)) hI hw_w0 hw_w1 hw_w2 hw_w3 hP_2 hD_3 hS_1 (lv_sub hl [0] rfl)
def Q_m060_X8_cost (dC : Nat → ClassId) (dI : Nat → Nat → Nat) (cI cJ cII cJJ : ClassId) (ad : Nat → Nat) (f3_unknowns f3_equations f2_roundSupports f2_stale f7_size f1_size f5_keptSize f5_aheadSize f0_solved f4_blockCount f4_blockLength f4_lastIsFree f4_stale : Int32) (ai : Nat → Nat → Int32) (al : Nat → Nat → Int64) (w0 w1 w2 w3 : Nat) : (Nat → Prop) → Array Value → State → Outcome → State → Prop := fun A => QL (fun r t => (True) ∧ WO dC dI (TY cI cJ cII cJJ) (WX cI cJ cII cJJ ad f3_unknowns f3_equations f2_roundSupports f2_stale f7_size f1_size f5_keptSize f5_aheadSize f0_solved f4_blockCount f4_blockLength f4_lastIsFree f4_stale ai al w0 w1 w2 w3) A t) A
set_option maxRecDepth 100000 in
set_option maxHeartbeats 4000000 in
theorem m060_X8_cost (l : Launch) (dC : Nat → ClassId) (dI : Nat → Nat → Nat) (cI cJ cII cJJ : ClassId) (sz g : Nat) (ad : Nat → Nat) (f3_unknowns f3_equations f2_roundSupports f2_stale f7_size f1_size f5_keptSize f5_aheadSize f0_solved f4_blockCount f4_blockLength f4_lastIsFree f4_stale : Int32) (ai : Nat → Nat → Int32) (al : Nat → Nat → Int64) (w0 w1 w2 w3 : Nat) (h_f3_unknowns : (1 ≤ f3_unknowns.toInt ∧ f3_unknowns.toInt ≤ 4)) (h_f3_equations : (0 ≤ f3_equations.toInt ∧ f3_equations.toInt ≤ 3)) (h_f2_stale : (0 ≤ f2_stale.toInt ∧ f2_stale.toInt ≤ 1)) (h_f7_size : (0 ≤ f7_size.toInt ∧ f7_size.toInt ≤ 256)) (h_f1_size : (0 ≤ f1_size.toInt ∧ f1_size.toInt ≤ 4)) (h_f5_keptSize : (0 ≤ f5_keptSize.toInt ∧ f5_keptSize.toInt ≤ 128)) (h_f5_aheadSize : (0 ≤ f5_aheadSize.toInt ∧ f5_aheadSize.toInt ≤ 128)) (h_f4_blockCount : (0 ≤ f4_blockCount.toInt ∧ f4_blockCount.toInt ≤ 9261)) (h_f4_blockLength : (0 ≤ f4_blockLength.toInt ∧ f4_blockLength.toInt ≤ 21)) (h_f4_lastIsFree : (0 ≤ f4_lastIsFree.toInt ∧ f4_lastIsFree.toInt ≤ 1)) (h_f4_stale : (0 ≤ f4_stale.toInt ∧ f4_stale.toInt ≤ 1)) (hI : IAX ai) (hw_w0 : RWX ad w0) (hw_w1 : RWX ad w1) (hw_w2 : RWX ad w2) (hw_w3 : RWX ad w3) : Met l yX8_cost (.code yX8_cost cX8_cost 1 (some .long) :: TT) ({ frames := 4, cells := 0, slots := 0, locals := 200 } : Room) (PcS dC dI (TY cI cJ cII cJJ) [.ref (ad 0)] (WX cI cJ cII cJJ ad f3_unknowns f3_equations f2_roundSupports f2_stale f7_size f1_size f5_keptSize f5_aheadSize f0_solved f4_blockCount f4_blockLength f4_lastIsFree f4_stale ai al w0 w1 w2 w3) sz 0 g) (Q_m060_X8_cost dC dI cI cJ cII cJJ ad f3_unknowns f3_equations f2_roundSupports f2_stale f7_size f1_size f5_keptSize f5_aheadSize f0_solved f4_blockCount f4_blockLength f4_lastIsFree f4_stale ai al w0 w1 w2 w3 (va_A (WX cI cJ cII cJJ ad f3_unknowns f3_equations f2_roundSupports f2_stale f7_size f1_size f5_keptSize f5_aheadSize f0_solved f4_blockCount f4_blockLength f4_lastIsFree f4_stale ai al w0 w1 w2 w3) sz)) 0 0 (va_A (WX cI cJ cII cJJ ad f3_unknowns f3_equations f2_roundSupports f2_stale f7_size f1_size f5_keptSize f5_aheadSize f0_solved f4_blockCount f4_blockLength f4_lastIsFree f4_stale ai al w0 w1 w2 w3) sz) := by
  refine SM.of (y := yX8_cost) (maxL := 1) (av := [.ref (ad 0)]) (Q_m060_X8_cost dC dI cI cJ cII cJJ ad f3_unknowns f3_equations f2_roundSupports f2_stale f7_size f1_size f5_keptSize f5_aheadSize f0_solved f4_blockCount f4_blockLength f4_lastIsFree f4_stale ai al w0 w1 w2 w3) (by decide +kernel) (Nat.le_of_ble_eq_true rfl) (fun p e s m below meth c A ls hx hb hr hml hown hts hk hnm hA hK hP hD hS hX hl => ?_)
  have C : Cx p c s m meth (([.ref (ad 0)] : List Value).toArray) A dC dI (TY cI cJ cII cJJ) cX8_cost (some .long) 1 RX8 0 g := ⟨hx, hb, hr, hml, hown, hts, hk, hA, hK, hX⟩
  have hown : s.vm.findClass RX8 = some m.cls := hown
  have hl : lv_has ls 1 [(0, .ref (ad 0))] := hl
  obtain ⟨H, hH⟩ : ∃ q, q = s.heap := ⟨_, rfl⟩
  rw [← hH] at hP
  have hS : va_S A s.heap H [] := by rw [hH]; exact hS
  rw [← hH]
  refine lv_aload_n hx hb dX8_cost_0 rfl (lv_at hl 0 rfl) ?_
  refine gf (k := 0) hx hb hts inX8 hown hK hP k_264 rfl (by decide) rfl 0 rfl (.ref (ad 6)) rfl dX8_cost_1 ?_
  refine lv_aload_n hx hb dX8_cost_4 rfl (lv_at hl 0 rfl) ?_
  refine gf (k := 4) hx hb hts inX8 hown hK hP k_268 rfl (by decide) rfl 0 rfl (.ref (ad 60)) rfl dX8_cost_5 ?_
  have hM := m010_X3_costOf l dC dI cI cJ cII cJJ H.size 0 ad f3_unknowns f3_equations f2_roundSupports f2_stale f7_size f1_size f5_keptSize f5_aheadSize f0_solved f4_blockCount f4_blockLength f4_lastIsFree f4_stale ai al w0 w1 w2 w3 (by omega) (by omega) (by omega) (by omega) (by omega) (by omega) (by omega) (by omega) (by omega) (by omega) (by omega) hI hw_w0 hw_w1 hw_w2 hw_w3
  refine k2V_l (q0 := 6) ⟨hx, hb, hml, hown, hts⟩ hK hP hD hS hA hX cv_RX8_187 hM ⟨by decide +kernel, by decide +kernel⟩ rfl rfl (Or.inl rfl) (rest := []) rfl rfl rfl hl.1 rfl (Nat.le_of_ble_eq_true rfl) dX8_cost_8 ⟨Nat.le_of_ble_eq_true rfl, Nat.le_of_ble_eq_true rfl⟩ (fun r1 t H1 locs_1 ht hB hS_1 hFc => ?_)
  obtain ⟨-, hP_2, -, hD_2⟩ := hB
  rw [ht] at hP_2
  have hD_3 := hD_2.weaken (B := A) (fun k q _ h9 => hFc q.1 h9)
  clear ht
  generalize H1 = H_4 at hP_2 hS_1 ⊢
  exact r2_l hx hb hr hk hS_1 dX8_cost_11 (fun t ht hW => ⟨trivial, by rw [ht]; exact hP_2, va_K.moved hW.alike hK, hD_3⟩)
def Q_m061_X8_moveHand (dC : Nat → ClassId) (dI : Nat → Nat → Nat) (cI cJ cII cJJ : ClassId) (ad : Nat → Nat) (f3_unknowns f3_equations f2_roundSupports f2_stale f7_size f1_size f5_keptSize f5_aheadSize f0_solved f4_blockCount f4_blockLength f4_lastIsFree f4_stale : Int32) (ai0 : Nat → Nat → Int32) (al : Nat → Nat → Int64) (w0 w1 w2 w3 : Nat) : (Nat → Prop) → Array Value → State → Outcome → State → Prop := fun A => QI (fun r t => ∃ (n_ai : Nat → Nat → Int32), (IAX n_ai ∧ FR [60, 63] ai0 n_ai) ∧ WO dC dI (TY cI cJ cII cJJ) (WX cI cJ cII cJJ ad f3_unknowns f3_equations f2_roundSupports f2_stale f7_size f1_size f5_keptSize f5_aheadSize f0_solved f4_blockCount f4_blockLength f4_lastIsFree f4_stale n_ai al w0 w1 w2 w3) A t) A
set_option maxRecDepth 100000 in
set_option maxHeartbeats 4000000 in
theorem m061_X8_moveHand_b68 {p : Program} {l : Launch} {e : Env} {s : State} {m : MethodId} {args : Array Value} {below : List Frame} {meth : Method} {c : Code} {A : Nat → Prop} {dC : Nat → ClassId} {dI : Nat → Nat → Nat} {cI cJ cII cJJ : ClassId} {ad : Nat → Nat} {g : Nat} {f3_unknowns f3_equations f2_roundSupports f2_stale f7_size f1_size f5_keptSize f5_aheadSize f0_solved f4_blockCount f4_blockLength f4_lastIsFree f4_stale : Int32} {ai0 : Nat → Nat → Int32} {al : Nat → Nat → Int64} {w0 w1 w2 w3 : Nat} (C : Cx p c s m meth args A dC dI (TY cI cJ cII cJJ) cX8_moveHand (some .int) 2 RX8 0 g) : ∀ (n : Nat), ∀ (L1 : Int32) (ai : Nat → Nat → Int32) (H : Heap) (locs : List Loc) (ls : Array Slot), (0 ≤ L1.toInt ∧ L1.toInt ≤ 4) → (1 ≤ f3_unknowns.toInt ∧ f3_unknowns.toInt ≤ 4) → (0 ≤ f3_equations.toInt ∧ f3_equations.toInt ≤ 3) → (0 ≤ f2_stale.toInt ∧ f2_stale.toInt ≤ 1) → (0 ≤ f7_size.toInt ∧ f7_size.toInt ≤ 256) → (0 ≤ f1_size.toInt ∧ f1_size.toInt ≤ 4) → (0 ≤ f5_keptSize.toInt ∧ f5_keptSize.toInt ≤ 128) → (0 ≤ f5_aheadSize.toInt ∧ f5_aheadSize.toInt ≤ 128) → (0 ≤ f4_blockCount.toInt ∧ f4_blockCount.toInt ≤ 9261) → (0 ≤ f4_blockLength.toInt ∧ f4_blockLength.toInt ≤ 21) → (0 ≤ f4_lastIsFree.toInt ∧ f4_lastIsFree.toInt ≤ 1) → (0 ≤ f4_stale.toInt ∧ f4_stale.toInt ≤ 1) → 4 - L1.toInt < (n : Int) → (0 : Int) < (n : Int) → IAX ai → FR [60, 63] ai0 ai → RWX ad w0 → RWX ad w1 → RWX ad w2 → RWX ad w3 → va_P (dC, dI) vwCl (WX cI cJ cII cJJ ad f3_unknowns f3_equations f2_roundSupports f2_stale f7_size f1_size f5_keptSize f5_aheadSize f0_solved f4_blockCount f4_blockLength f4_lastIsFree f4_stale ai al w0 w1 w2 w3) H → va_D A (WX cI cJ cII cJJ ad f3_unknowns f3_equations f2_roundSupports f2_stale f7_size f1_size f5_keptSize f5_aheadSize f0_solved f4_blockCount f4_blockLength f4_lastIsFree f4_stale ai al w0 w1 w2 w3) → va_S A s.heap H locs → lv_has ls 2 [(0, .ref (ad 0)), (1, .int L1)] → W p l e ({ frames := 3, cells := 0, slots := 0, locals := 140 } : Room) s m args below meth c H locs 0 0 (MQ below (Q_m061_X8_moveHand dC dI cI cJ cII cJJ ad f3_unknowns f3_equations f2_roundSupports f2_stale f7_size f1_size f5_keptSize f5_aheadSize f0_solved f4_blockCount f4_blockLength f4_lastIsFree f4_stale ai0 al w0 w1 w2 w3 A) args s 0 0 A) (F0 m 68 ls []) := by
  obtain ⟨hx, hb, hr, hml, hown, hts, hk, hA, hK, hX⟩ := id C
  intro n
  induction n with
  | zero =>
    intro L1 ai H locs ls h0 h1 h2 h3 h4 h5 h6 h7 h8 h9 h10 h11 h12 h13 hI hF hw_w0 hw_w1 hw_w2 hw_w3 hP hD hS hl
    exact absurd h13 (by omega)
  | succ n ih =>
    intro L1 ai H locs ls h0 h1 h2 h3 h4 h5 h6 h7 h8 h9 h10 h11 h12 h13 hI hF hw_w0 hw_w1 hw_w2 hw_w3 hP hD hS hl
    refine lv_iload_n hx hb dX8_moveHand_68 rfl (lv_at hl 1 rfl) ?_
    refine lv_iconst (v := 4) hx hb dX8_moveHand_69 (by decide) ?_
    refine lv_icmp_ge (tgt := 92) hx hb dX8_moveHand_70 (by decide) (fun c1 => ?_) (fun c1 => ?_)
    · have c1 := j_le (a := 4) (b := L1.toInt) (by decide +kernel) rfl c1
      refine lv_iconst (v := 1) hx hb dX8_moveHand_92 (by decide) ?_
      exact r2_i hx hb hr hk hS dX8_moveHand_93 (fun t ht hW => ⟨ai, ⟨hI, hF⟩, by rw [ht]; exact hP, va_K.moved hW.alike hK, hD⟩)
    · have c1 := j_nle (a := 4) (b := L1.toInt) (by decide +kernel) rfl c1
      refine lv_aload_n hx hb dX8_moveHand_73 rfl (lv_at hl 0 rfl) ?_
      refine gf (k := 4) hx hb hts inX8 hown hK hP k_268 rfl (by decide) rfl 0 rfl (.ref (ad 60)) rfl dX8_moveHand_74 ?_
      refine lv_iload_n hx hb dX8_moveHand_77 rfl (lv_at hl 1 rfl) ?_
      refine lv_aload_n hx hb dX8_moveHand_78 rfl (lv_at hl 0 rfl) ?_
      refine gf (k := 6) hx hb hts inX8 hown hK hP k_270 rfl (by decide) rfl 0 rfl (.ref (ad 62)) rfl dX8_moveHand_79 ?_
      refine lv_iload_n hx hb dX8_moveHand_82 rfl (lv_at hl 1 rfl) ?_
      refine va_lald hx hb hK hP 62 1 rfl rfl (j_in (a := L1.toInt) rfl (by omega) (by omega)) dX8_moveHand_83 ?_
      refine lv_l2i hx hb dX8_moveHand_84 rfl ?_
      refine lv_topi (fun z2 e_z2 => ?_)
      refine va_iast hx hb hK hP hD hS 60 0 rfl rfl (j_in (a := L1.toInt) rfl (by omega) (by omega)) dX8_moveHand_85 (fun H_1 locs_1 hP_1 hD_1 hS_1 => ?_)
      obtain ⟨ai3, e_ai3⟩ : ∃ q : Nat → Nat → Int32, q = va_up ai 60 (upd (ai 60) L1.toNatClampNeg z2) := ⟨_, rfl⟩
      have hF_2 := FR_st hF e_ai3 (by decide)
      have hI_3 : IAX ai3 := by rw [e_ai3]; exact hI
      have hP_4 : va_P (dC, dI) vwCl (WX cI cJ cII cJJ ad f3_unknowns f3_equations f2_roundSupports f2_stale f7_size f1_size f5_keptSize f5_aheadSize f0_solved f4_blockCount f4_blockLength f4_lastIsFree f4_stale ai3 al w0 w1 w2 w3) H_1 := by rw [e_ai3]; exact hP_1
      have hD_5 : va_D A (WX cI cJ cII cJJ ad f3_unknowns f3_equations f2_roundSupports f2_stale f7_size f1_size f5_keptSize f5_aheadSize f0_solved f4_blockCount f4_blockLength f4_lastIsFree f4_stale ai3 al w0 w1 w2 w3) := by rw [e_ai3]; exact hD_1
      obtain ⟨z4, e_z4⟩ : ∃ q : Int32, q = L1 + Int32.ofInt 1 := ⟨_, rfl⟩
      have g_z4 : z4.toInt = L1.toInt + 1 := by rw [e_z4]; exact n_add (a := L1.toInt) (b := 1) rfl (by decide +kernel) (by omega) (by omega)
      refine lv_iinc (v := z4) (lv' := [(1, .int z4), (0, .ref (ad 0))]) hx hb dX8_moveHand_86 hl (k := 1) rfl e_z4.symm (by decide) rfl (fun ls_6 hl_6 => ?_)
      refine lv_goto (tgt := 68) hx hb dX8_moveHand_89 (by decide) ?_
      exact ih z4 ai3 _ _ _ (by omega) (by omega) (by omega) (by omega) (by omega) (by omega) (by omega) (by omega) (by omega) (by omega) (by omega) (by omega) (by omega) (by omega) hI_3 hF_2 hw_w0 hw_w1 hw_w2 hw_w3 hP_4 hD_5 hS_1 (lv_sub hl_6 [1, 0] rfl)
set_option maxRecDepth 100000 in
set_option maxHeartbeats 4000000 in
theorem m061_X8_moveHand_b35 {p : Program} {l : Launch} {e : Env} {s : State} {m : MethodId} {args : Array Value} {below : List Frame} {meth : Method} {c : Code} {A : Nat → Prop} {dC : Nat → ClassId} {dI : Nat → Nat → Nat} {cI cJ cII cJJ : ClassId} {ad : Nat → Nat} {g : Nat} {f3_unknowns f3_equations f2_roundSupports f2_stale f7_size f1_size f5_keptSize f5_aheadSize f0_solved f4_blockCount f4_blockLength f4_lastIsFree f4_stale : Int32} {ai0 : Nat → Nat → Int32} {al : Nat → Nat → Int64} {w0 w1 w2 w3 : Nat} (C : Cx p c s m meth args A dC dI (TY cI cJ cII cJJ) cX8_moveHand (some .int) 2 RX8 0 g) : ∀ (n : Nat), ∀ (L1 : Int32) (ai : Nat → Nat → Int32) (H : Heap) (locs : List Loc) (ls : Array Slot), (0 ≤ L1.toInt ∧ L1.toInt ≤ 4) → (1 ≤ f3_unknowns.toInt ∧ f3_unknowns.toInt ≤ 4) → (0 ≤ f3_equations.toInt ∧ f3_equations.toInt ≤ 3) → (0 ≤ f2_stale.toInt ∧ f2_stale.toInt ≤ 1) → (0 ≤ f7_size.toInt ∧ f7_size.toInt ≤ 256) → (0 ≤ f1_size.toInt ∧ f1_size.toInt ≤ 4) → (0 ≤ f5_keptSize.toInt ∧ f5_keptSize.toInt ≤ 128) → (0 ≤ f5_aheadSize.toInt ∧ f5_aheadSize.toInt ≤ 128) → (0 ≤ f4_blockCount.toInt ∧ f4_blockCount.toInt ≤ 9261) → (0 ≤ f4_blockLength.toInt ∧ f4_blockLength.toInt ≤ 21) → (0 ≤ f4_lastIsFree.toInt ∧ f4_lastIsFree.toInt ≤ 1) → (0 ≤ f4_stale.toInt ∧ f4_stale.toInt ≤ 1) → 4 - L1.toInt < (n : Int) → (0 : Int) < (n : Int) → IAX ai → FR [60, 63] ai0 ai → RWX ad w0 → RWX ad w1 → RWX ad w2 → RWX ad w3 → va_P (dC, dI) vwCl (WX cI cJ cII cJJ ad f3_unknowns f3_equations f2_roundSupports f2_stale f7_size f1_size f5_keptSize f5_aheadSize f0_solved f4_blockCount f4_blockLength f4_lastIsFree f4_stale ai al w0 w1 w2 w3) H → va_D A (WX cI cJ cII cJJ ad f3_unknowns f3_equations f2_roundSupports f2_stale f7_size f1_size f5_keptSize f5_aheadSize f0_solved f4_blockCount f4_blockLength f4_lastIsFree f4_stale ai al w0 w1 w2 w3) → va_S A s.heap H locs → lv_has ls 2 [(0, .ref (ad 0)), (1, .int L1)] → W p l e ({ frames := 3, cells := 0, slots := 0, locals := 140 } : Room) s m args below meth c H locs 0 0 (MQ below (Q_m061_X8_moveHand dC dI cI cJ cII cJJ ad f3_unknowns f3_equations f2_roundSupports f2_stale f7_size f1_size f5_keptSize f5_aheadSize f0_solved f4_blockCount f4_blockLength f4_lastIsFree f4_stale ai0 al w0 w1 w2 w3 A) args s 0 0 A) (F0 m 35 ls []) := by
  obtain ⟨hx, hb, hr, hml, hown, hts, hk, hA, hK, hX⟩ := id C
  intro n
  induction n with
  | zero =>
    intro L1 ai H locs ls h0 h1 h2 h3 h4 h5 h6 h7 h8 h9 h10 h11 h12 h13 hI hF hw_w0 hw_w1 hw_w2 hw_w3 hP hD hS hl
    exact absurd h13 (by omega)
  | succ n ih =>
    intro L1 ai H locs ls h0 h1 h2 h3 h4 h5 h6 h7 h8 h9 h10 h11 h12 h13 hI hF hw_w0 hw_w1 hw_w2 hw_w3 hP hD hS hl
    refine lv_iload_n hx hb dX8_moveHand_35 rfl (lv_at hl 1 rfl) ?_
    refine lv_iconst (v := 4) hx hb dX8_moveHand_36 (by decide) ?_
    refine lv_icmp_ge (tgt := 66) hx hb dX8_moveHand_37 (by decide) (fun c1 => ?_) (fun c1 => ?_)
    · have c1 := j_le (a := 4) (b := L1.toInt) (by decide +kernel) rfl c1
      refine lv_iconst (v := 0) hx hb dX8_moveHand_66 (by decide) ?_
      refine lv_istore_n (lv' := [(1, .int 0), (0, .ref (ad 0))]) hx hb dX8_moveHand_67 rfl hl (by decide) rfl (fun ls_1 hl_1 => ?_)
      exact m061_X8_moveHand_b68 C  _ 0 ai _ _ _ (by first | omega | decide | (have ka0 := (by decide +kernel : (0 : Int32).toInt = 0); omega)) (by first | omega | decide | (have ka0 := (by decide +kernel : (0 : Int32).toInt = 0); omega)) (by first | omega | decide | (have ka0 := (by decide +kernel : (0 : Int32).toInt = 0); omega)) (by first | omega | decide | (have ka0 := (by decide +kernel : (0 : Int32).toInt = 0); omega)) (by first | omega | decide | (have ka0 := (by decide +kernel : (0 : Int32).toInt = 0); omega)) (by first | omega | decide | (have ka0 := (by decide +kernel : (0 : Int32).toInt = 0); omega)) (by first | omega | decide | (have ka0 := (by decide +kernel : (0 : Int32).toInt = 0); omega)) (by first | omega | decide | (have ka0 := (by decide +kernel : (0 : Int32).toInt = 0); omega)) (by first | omega | decide | (have ka0 := (by decide +kernel : (0 : Int32).toInt = 0); omega)) (by first | omega | decide | (have ka0 := (by decide +kernel : (0 : Int32).toInt = 0); omega)) (by first | omega | decide | (have ka0 := (by decide +kernel : (0 : Int32).toInt = 0); omega)) (by first | omega | decide | (have ka0 := (by decide +kernel : (0 : Int32).toInt = 0); omega)) (j_fuel _) (by omega) hI hF hw_w0 hw_w1 hw_w2 hw_w3 hP hD hS (lv_sub hl_1 [1, 0] rfl)
    · have c1 := j_nle (a := 4) (b := L1.toInt) (by decide +kernel) rfl c1
      refine lv_aload_n hx hb dX8_moveHand_40 rfl (lv_at hl 0 rfl) ?_
      refine gf (k := 6) hx hb hts inX8 hown hK hP k_270 rfl (by decide) rfl 0 rfl (.ref (ad 62)) rfl dX8_moveHand_41 ?_
      refine lv_iload_n hx hb dX8_moveHand_44 rfl (lv_at hl 1 rfl) ?_
      refine va_lald hx hb hK hP 62 1 rfl rfl (j_in (a := L1.toInt) rfl (by omega) (by omega)) dX8_moveHand_45 ?_
      refine lv_ldc2 (v := 10000) hx hb hown (hts _ k_612) dX8_moveHand_46 ?_
      refine v_lcmp hx hb dX8_moveHand_49 _ rfl ?_
      refine lv_topi (fun z2 e_z2 => ?_)
      refine lv_if_le (tgt := 60) hx hb dX8_moveHand_50 (by decide) (fun c3 => ?_) (fun c3 => ?_)
      · have c3 := j_le (a := z2.toInt) (b := 0) rfl (by decide +kernel) c3
        obtain ⟨z4, e_z4⟩ : ∃ q : Int32, q = L1 + Int32.ofInt 1 := ⟨_, rfl⟩
        have g_z4 : z4.toInt = L1.toInt + 1 := by rw [e_z4]; exact n_add (a := L1.toInt) (b := 1) rfl (by decide +kernel) (by omega) (by omega)
        refine lv_iinc (v := z4) (lv' := [(1, .int z4), (0, .ref (ad 0))]) hx hb dX8_moveHand_60 hl (k := 1) rfl e_z4.symm (by decide) rfl (fun ls_2 hl_2 => ?_)
        refine lv_goto (tgt := 35) hx hb dX8_moveHand_63 (by decide) ?_
        exact ih z4 ai _ _ _ (by omega) (by omega) (by omega) (by omega) (by omega) (by omega) (by omega) (by omega) (by omega) (by omega) (by omega) (by omega) (by omega) (by omega) hI hF hw_w0 hw_w1 hw_w2 hw_w3 hP hD hS (lv_sub hl_2 [1, 0] rfl)
      · have c3 := j_nle (a := z2.toInt) (b := 0) rfl (by decide +kernel) c3
        refine lv_aload_n hx hb dX8_moveHand_53 rfl (lv_at hl 0 rfl) ?_
        refine lv_bipush (v := (-6)) hx hb dX8_moveHand_54 (by decide) ?_
        have kcm6 : ((-6) : Int32).toInt = (-6) := by decide +kernel
        have hM := m003_X8_refuse l dC dI cI cJ cII cJJ H.size 0 ad f3_unknowns f3_equations f2_roundSupports f2_stale f7_size f1_size f5_keptSize f5_aheadSize f0_solved f4_blockCount f4_blockLength f4_lastIsFree f4_stale ai al w0 w1 w2 w3 (-6) (by omega) (by omega) (by omega) (by omega) (by omega) (by omega) (by omega) (by omega) (by omega) (by omega) (by omega) hI hw_w0 hw_w1 hw_w2 hw_w3
        refine k2V_i (q0 := 0) ⟨hx, hb, hml, hown, hts⟩ hK hP hD hS hA hX cv_RX8_53 hM ⟨by decide +kernel, by decide +kernel⟩ rfl rfl (Or.inl rfl) (rest := []) rfl rfl rfl hl.1 rfl (Nat.le_of_ble_eq_true rfl) dX8_moveHand_56 ⟨Nat.le_of_ble_eq_true rfl, Nat.le_of_ble_eq_true rfl⟩ (fun r5 t H1 locs_3 ht hB hS_3 hFc => ?_)
        obtain ⟨ai6, ⟨gpr5_0, hI_4, hFr_r5⟩, hP_4, -, hD_4⟩ := hB
        have hF_5 := FR_tr hF hFr_r5 (by decide)
        rw [ht] at hP_4
        have hD_6 := hD_4.weaken (B := A) (fun k q _ h9 => hFc q.1 h9)
        clear ht
        generalize H1 = H_7 at hP_4 hS_3 ⊢
        exact r2_i hx hb hr hk hS_3 dX8_moveHand_59 (fun t ht hW => ⟨ai6, ⟨hI_4, hF_5⟩, by rw [ht]; exact hP_4, va_K.moved hW.alike hK, hD_6⟩)
set_option maxRecDepth 100000 in
set_option maxHeartbeats 4000000 in
theorem m061_X8_moveHand_b2 {p : Program} {l : Launch} {e : Env} {s : State} {m : MethodId} {args : Array Value} {below : List Frame} {meth : Method} {c : Code} {A : Nat → Prop} {dC : Nat → ClassId} {dI : Nat → Nat → Nat} {cI cJ cII cJJ : ClassId} {ad : Nat → Nat} {g : Nat} {f3_unknowns f3_equations f2_roundSupports f2_stale f7_size f1_size f5_keptSize f5_aheadSize f0_solved f4_blockCount f4_blockLength f4_lastIsFree f4_stale : Int32} {ai0 : Nat → Nat → Int32} {al : Nat → Nat → Int64} {w0 w1 w2 w3 : Nat} (C : Cx p c s m meth args A dC dI (TY cI cJ cII cJJ) cX8_moveHand (some .int) 2 RX8 0 g) : ∀ (n : Nat), ∀ (L1 : Int32) (ai : Nat → Nat → Int32) (H : Heap) (locs : List Loc) (ls : Array Slot), (0 ≤ L1.toInt ∧ L1.toInt ≤ 4) → (1 ≤ f3_unknowns.toInt ∧ f3_unknowns.toInt ≤ 4) → (0 ≤ f3_equations.toInt ∧ f3_equations.toInt ≤ 3) → (0 ≤ f2_stale.toInt ∧ f2_stale.toInt ≤ 1) → (0 ≤ f7_size.toInt ∧ f7_size.toInt ≤ 256) → (0 ≤ f1_size.toInt ∧ f1_size.toInt ≤ 4) → (0 ≤ f5_keptSize.toInt ∧ f5_keptSize.toInt ≤ 128) → (0 ≤ f5_aheadSize.toInt ∧ f5_aheadSize.toInt ≤ 128) → (0 ≤ f4_blockCount.toInt ∧ f4_blockCount.toInt ≤ 9261) → (0 ≤ f4_blockLength.toInt ∧ f4_blockLength.toInt ≤ 21) → (0 ≤ f4_lastIsFree.toInt ∧ f4_lastIsFree.toInt ≤ 1) → (0 ≤ f4_stale.toInt ∧ f4_stale.toInt ≤ 1) → 4 - L1.toInt < (n : Int) → (0 : Int) < (n : Int) → IAX ai → FR [60, 63] ai0 ai → RWX ad w0 → RWX ad w1 → RWX ad w2 → RWX ad w3 → va_P (dC, dI) vwCl (WX cI cJ cII cJJ ad f3_unknowns f3_equations f2_roundSupports f2_stale f7_size f1_size f5_keptSize f5_aheadSize f0_solved f4_blockCount f4_blockLength f4_lastIsFree f4_stale ai al w0 w1 w2 w3) H → va_D A (WX cI cJ cII cJJ ad f3_unknowns f3_equations f2_roundSupports f2_stale f7_size f1_size f5_keptSize f5_aheadSize f0_solved f4_blockCount f4_blockLength f4_lastIsFree f4_stale ai al w0 w1 w2 w3) → va_S A s.heap H locs → lv_has ls 2 [(0, .ref (ad 0)), (1, .int L1)] → W p l e ({ frames := 3, cells := 0, slots := 0, locals := 140 } : Room) s m args below meth c H locs 0 0 (MQ below (Q_m061_X8_moveHand dC dI cI cJ cII cJJ ad f3_unknowns f3_equations f2_roundSupports f2_stale f7_size f1_size f5_keptSize f5_aheadSize f0_solved f4_blockCount f4_blockLength f4_lastIsFree f4_stale ai0 al w0 w1 w2 w3 A) args s 0 0 A) (F0 m 2 ls []) := by
  obtain ⟨hx, hb, hr, hml, hown, hts, hk, hA, hK, hX⟩ := id C
  intro n
  induction n with
  | zero =>
    intro L1 ai H locs ls h0 h1 h2 h3 h4 h5 h6 h7 h8 h9 h10 h11 h12 h13 hI hF hw_w0 hw_w1 hw_w2 hw_w3 hP hD hS hl
    exact absurd h13 (by omega)
  | succ n ih =>
    intro L1 ai H locs ls h0 h1 h2 h3 h4 h5 h6 h7 h8 h9 h10 h11 h12 h13 hI hF hw_w0 hw_w1 hw_w2 hw_w3 hP hD hS hl
    refine lv_iload_n hx hb dX8_moveHand_2 rfl (lv_at hl 1 rfl) ?_
    refine lv_iconst (v := 4) hx hb dX8_moveHand_3 (by decide) ?_
    refine lv_icmp_ge (tgt := 33) hx hb dX8_moveHand_4 (by decide) (fun c1 => ?_) (fun c1 => ?_)
    · have c1 := j_le (a := 4) (b := L1.toInt) (by decide +kernel) rfl c1
      refine lv_iconst (v := 0) hx hb dX8_moveHand_33 (by decide) ?_
      refine lv_istore_n (lv' := [(1, .int 0), (0, .ref (ad 0))]) hx hb dX8_moveHand_34 rfl hl (by decide) rfl (fun ls_1 hl_1 => ?_)
      exact m061_X8_moveHand_b35 C  _ 0 ai _ _ _ (by first | omega | decide | (have ka0 := (by decide +kernel : (0 : Int32).toInt = 0); omega)) (by first | omega | decide | (have ka0 := (by decide +kernel : (0 : Int32).toInt = 0); omega)) (by first | omega | decide | (have ka0 := (by decide +kernel : (0 : Int32).toInt = 0); omega)) (by first | omega | decide | (have ka0 := (by decide +kernel : (0 : Int32).toInt = 0); omega)) (by first | omega | decide | (have ka0 := (by decide +kernel : (0 : Int32).toInt = 0); omega)) (by first | omega | decide | (have ka0 := (by decide +kernel : (0 : Int32).toInt = 0); omega)) (by first | omega | decide | (have ka0 := (by decide +kernel : (0 : Int32).toInt = 0); omega)) (by first | omega | decide | (have ka0 := (by decide +kernel : (0 : Int32).toInt = 0); omega)) (by first | omega | decide | (have ka0 := (by decide +kernel : (0 : Int32).toInt = 0); omega)) (by first | omega | decide | (have ka0 := (by decide +kernel : (0 : Int32).toInt = 0); omega)) (by first | omega | decide | (have ka0 := (by decide +kernel : (0 : Int32).toInt = 0); omega)) (by first | omega | decide | (have ka0 := (by decide +kernel : (0 : Int32).toInt = 0); omega)) (j_fuel _) (by omega) hI hF hw_w0 hw_w1 hw_w2 hw_w3 hP hD hS (lv_sub hl_1 [1, 0] rfl)
    · have c1 := j_nle (a := 4) (b := L1.toInt) (by decide +kernel) rfl c1
      refine lv_aload_n hx hb dX8_moveHand_7 rfl (lv_at hl 0 rfl) ?_
      refine gf (k := 6) hx hb hts inX8 hown hK hP k_270 rfl (by decide) rfl 0 rfl (.ref (ad 62)) rfl dX8_moveHand_8 ?_
      refine lv_iload_n hx hb dX8_moveHand_11 rfl (lv_at hl 1 rfl) ?_
      refine va_lald hx hb hK hP 62 1 rfl rfl (j_in (a := L1.toInt) rfl (by omega) (by omega)) dX8_moveHand_12 ?_
      refine lv_ldc2 (v := (-10000)) hx hb hown (hts _ k_611) dX8_moveHand_13 ?_
      refine v_lcmp hx hb dX8_moveHand_16 _ rfl ?_
      refine lv_topi (fun z2 e_z2 => ?_)
      refine lv_if_ge (tgt := 27) hx hb dX8_moveHand_17 (by decide) (fun c3 => ?_) (fun c3 => ?_)
      · have c3 := j_le (a := 0) (b := z2.toInt) (by decide +kernel) rfl c3
        obtain ⟨z4, e_z4⟩ : ∃ q : Int32, q = L1 + Int32.ofInt 1 := ⟨_, rfl⟩
        have g_z4 : z4.toInt = L1.toInt + 1 := by rw [e_z4]; exact n_add (a := L1.toInt) (b := 1) rfl (by decide +kernel) (by omega) (by omega)
        refine lv_iinc (v := z4) (lv' := [(1, .int z4), (0, .ref (ad 0))]) hx hb dX8_moveHand_27 hl (k := 1) rfl e_z4.symm (by decide) rfl (fun ls_2 hl_2 => ?_)
        refine lv_goto (tgt := 2) hx hb dX8_moveHand_30 (by decide) ?_
        exact ih z4 ai _ _ _ (by omega) (by omega) (by omega) (by omega) (by omega) (by omega) (by omega) (by omega) (by omega) (by omega) (by omega) (by omega) (by omega) (by omega) hI hF hw_w0 hw_w1 hw_w2 hw_w3 hP hD hS (lv_sub hl_2 [1, 0] rfl)
      · have c3 := j_nle (a := 0) (b := z2.toInt) (by decide +kernel) rfl c3
        refine lv_aload_n hx hb dX8_moveHand_20 rfl (lv_at hl 0 rfl) ?_
        refine lv_bipush (v := (-4)) hx hb dX8_moveHand_21 (by decide) ?_
        have kcm4 : ((-4) : Int32).toInt = (-4) := by decide +kernel
        have hM := m003_X8_refuse l dC dI cI cJ cII cJJ H.size 0 ad f3_unknowns f3_equations f2_roundSupports f2_stale f7_size f1_size f5_keptSize f5_aheadSize f0_solved f4_blockCount f4_blockLength f4_lastIsFree f4_stale ai al w0 w1 w2 w3 (-4) (by omega) (by omega) (by omega) (by omega) (by omega) (by omega) (by omega) (by omega) (by omega) (by omega) (by omega) hI hw_w0 hw_w1 hw_w2 hw_w3
        refine k2V_i (q0 := 0) ⟨hx, hb, hml, hown, hts⟩ hK hP hD hS hA hX cv_RX8_53 hM ⟨by decide +kernel, by decide +kernel⟩ rfl rfl (Or.inl rfl) (rest := []) rfl rfl rfl hl.1 rfl (Nat.le_of_ble_eq_true rfl) dX8_moveHand_23 ⟨Nat.le_of_ble_eq_true rfl, Nat.le_of_ble_eq_true rfl⟩ (fun r5 t H1 locs_3 ht hB hS_3 hFc => ?_)
        obtain ⟨ai6, ⟨gpr5_0, hI_4, hFr_r5⟩, hP_4, -, hD_4⟩ := hB
        have hF_5 := FR_tr hF hFr_r5 (by decide)
        rw [ht] at hP_4
        have hD_6 := hD_4.weaken (B := A) (fun k q _ h9 => hFc q.1 h9)
        clear ht
        generalize H1 = H_7 at hP_4 hS_3 ⊢
        exact r2_i hx hb hr hk hS_3 dX8_moveHand_26 (fun t ht hW => ⟨ai6, ⟨hI_4, hF_5⟩, by rw [ht]; exact hP_4, va_K.moved hW.alike hK, hD_6⟩)
set_option maxRecDepth 100000 in
set_option maxHeartbeats 4000000 in
theorem m061_X8_moveHand (l : Launch) (dC : Nat → ClassId) (dI : Nat → Nat → Nat) (cI cJ cII cJJ : ClassId) (sz g : Nat) (ad : Nat → Nat) (f3_unknowns f3_equations f2_roundSupports f2_stale f7_size f1_size f5_keptSize f5_aheadSize f0_solved f4_blockCount f4_blockLength f4_lastIsFree f4_stale : Int32) (ai : Nat → Nat → Int32) (al : Nat → Nat → Int64) (w0 w1 w2 w3 : Nat) (h_f3_unknowns : (1 ≤ f3_unknowns.toInt ∧ f3_unknowns.toInt ≤ 4)) (h_f3_equations : (0 ≤ f3_equations.toInt ∧ f3_equations.toInt ≤ 3)) (h_f2_stale : (0 ≤ f2_stale.toInt ∧ f2_stale.toInt ≤ 1)) (h_f7_size : (0 ≤ f7_size.toInt ∧ f7_size.toInt ≤ 256)) (h_f1_size : (0 ≤ f1_size.toInt ∧ f1_size.toInt ≤ 4)) (h_f5_keptSize : (0 ≤ f5_keptSize.toInt ∧ f5_keptSize.toInt ≤ 128)) (h_f5_aheadSize : (0 ≤ f5_aheadSize.toInt ∧ f5_aheadSize.toInt ≤ 128)) (h_f4_blockCount : (0 ≤ f4_blockCount.toInt ∧ f4_blockCount.toInt ≤ 9261)) (h_f4_blockLength : (0 ≤ f4_blockLength.toInt ∧ f4_blockLength.toInt ≤ 21)) (h_f4_lastIsFree : (0 ≤ f4_lastIsFree.toInt ∧ f4_lastIsFree.toInt ≤ 1)) (h_f4_stale : (0 ≤ f4_stale.toInt ∧ f4_stale.toInt ≤ 1)) (hI : IAX ai) (hw_w0 : RWX ad w0) (hw_w1 : RWX ad w1) (hw_w2 : RWX ad w2) (hw_w3 : RWX ad w3) : Met l yX8_moveHand (.code yX8_moveHand cX8_moveHand 2 (some .int) :: TT) ({ frames := 3, cells := 0, slots := 0, locals := 140 } : Room) (PcS dC dI (TY cI cJ cII cJJ) [.ref (ad 0)] (WX cI cJ cII cJJ ad f3_unknowns f3_equations f2_roundSupports f2_stale f7_size f1_size f5_keptSize f5_aheadSize f0_solved f4_blockCount f4_blockLength f4_lastIsFree f4_stale ai al w0 w1 w2 w3) sz 0 g) (Q_m061_X8_moveHand dC dI cI cJ cII cJJ ad f3_unknowns f3_equations f2_roundSupports f2_stale f7_size f1_size f5_keptSize f5_aheadSize f0_solved f4_blockCount f4_blockLength f4_lastIsFree f4_stale ai al w0 w1 w2 w3 (va_A (WX cI cJ cII cJJ ad f3_unknowns f3_equations f2_roundSupports f2_stale f7_size f1_size f5_keptSize f5_aheadSize f0_solved f4_blockCount f4_blockLength f4_lastIsFree f4_stale ai al w0 w1 w2 w3) sz)) 0 0 (va_A (WX cI cJ cII cJJ ad f3_unknowns f3_equations f2_roundSupports f2_stale f7_size f1_size f5_keptSize f5_aheadSize f0_solved f4_blockCount f4_blockLength f4_lastIsFree f4_stale ai al w0 w1 w2 w3) sz) := by
  refine SM.of (y := yX8_moveHand) (maxL := 2) (av := [.ref (ad 0)]) (Q_m061_X8_moveHand dC dI cI cJ cII cJJ ad f3_unknowns f3_equations f2_roundSupports f2_stale f7_size f1_size f5_keptSize f5_aheadSize f0_solved f4_blockCount f4_blockLength f4_lastIsFree f4_stale ai al w0 w1 w2 w3) (by decide +kernel) (Nat.le_of_ble_eq_true rfl) (fun p e s m below meth c A ls hx hb hr hml hown hts hk hnm hA hK hP hD hS hX hl => ?_)
  have C : Cx p c s m meth (([.ref (ad 0)] : List Value).toArray) A dC dI (TY cI cJ cII cJJ) cX8_moveHand (some .int) 2 RX8 0 g := ⟨hx, hb, hr, hml, hown, hts, hk, hA, hK, hX⟩
  have hown : s.vm.findClass RX8 = some m.cls := hown
  have hl : lv_has ls 2 [(0, .ref (ad 0))] := hl
  obtain ⟨H, hH⟩ : ∃ q, q = s.heap := ⟨_, rfl⟩
  rw [← hH] at hP
  have hS : va_S A s.heap H [] := by rw [hH]; exact hS
  rw [← hH]
  have hF := FR_refl [60, 63] ai
  refine lv_iconst (v := 0) hx hb dX8_moveHand_0 (by decide) ?_
  refine lv_istore_n (lv' := [(1, .int 0), (0, .ref (ad 0))]) hx hb dX8_moveHand_1 rfl hl (by decide) rfl (fun ls_1 hl_1 => ?_)
  exact m061_X8_moveHand_b2 C  _ 0 ai _ _ _ (by first | omega | decide | (have ka0 := (by decide +kernel : (0 : Int32).toInt = 0); omega)) (by first | omega | decide | (have ka0 := (by decide +kernel : (0 : Int32).toInt = 0); omega)) (by first | omega | decide | (have ka0 := (by decide +kernel : (0 : Int32).toInt = 0); omega)) (by first | omega | decide | (have ka0 := (by decide +kernel : (0 : Int32).toInt = 0); omega)) (by first | omega | decide | (have ka0 := (by decide +kernel : (0 : Int32).toInt = 0); omega)) (by first | omega | decide | (have ka0 := (by decide +kernel : (0 : Int32).toInt = 0); omega)) (by first | omega | decide | (have ka0 := (by decide +kernel : (0 : Int32).toInt = 0); omega)) (by first | omega | decide | (have ka0 := (by decide +kernel : (0 : Int32).toInt = 0); omega)) (by first | omega | decide | (have ka0 := (by decide +kernel : (0 : Int32).toInt = 0); omega)) (by first | omega | decide | (have ka0 := (by decide +kernel : (0 : Int32).toInt = 0); omega)) (by first | omega | decide | (have ka0 := (by decide +kernel : (0 : Int32).toInt = 0); omega)) (by first | omega | decide | (have ka0 := (by decide +kernel : (0 : Int32).toInt = 0); omega)) (j_fuel _) (by omega) hI hF hw_w0 hw_w1 hw_w2 hw_w3 hP hD hS (lv_sub hl_1 [1, 0] rfl)
def Q_m062_X8_betterHand (dC : Nat → ClassId) (dI : Nat → Nat → Nat) (cI cJ cII cJJ : ClassId) (ad : Nat → Nat) (f3_unknowns f3_equations f2_roundSupports f2_stale f7_size f1_size f5_keptSize f5_aheadSize f0_solved f4_blockCount f4_blockLength f4_lastIsFree f4_stale : Int32) (ai0 : Nat → Nat → Int32) (al : Nat → Nat → Int64) (w0 w1 w2 w3 : Nat) : (Nat → Prop) → Array Value → State → Outcome → State → Prop := fun A => QI (fun r t => ∃ (n_ai : Nat → Nat → Int32), ((-99999 ≤ r.toInt ∧ r.toInt ≤ 255) ∧ IAX n_ai ∧ FR [60] ai0 n_ai) ∧ WO dC dI (TY cI cJ cII cJJ) (WX cI cJ cII cJJ ad f3_unknowns f3_equations f2_roundSupports f2_stale f7_size f1_size f5_keptSize f5_aheadSize f0_solved f4_blockCount f4_blockLength f4_lastIsFree f4_stale n_ai al w0 w1 w2 w3) A t) A
set_option maxRecDepth 100000 in
set_option maxHeartbeats 4000000 in
theorem m062_X8_betterHand_b128 {p : Program} {l : Launch} {e : Env} {s : State} {m : MethodId} {args : Array Value} {below : List Frame} {meth : Method} {c : Code} {A : Nat → Prop} {dC : Nat → ClassId} {dI : Nat → Nat → Nat} {cI cJ cII cJJ : ClassId} {ad : Nat → Nat} {g : Nat} {f3_unknowns f3_equations f2_roundSupports f2_stale f7_size f1_size f5_keptSize f5_aheadSize f0_solved f4_blockCount f4_blockLength f4_lastIsFree f4_stale : Int32} {ai0 : Nat → Nat → Int32} {al : Nat → Nat → Int64} {w0 w1 w2 w3 : Nat} (C : Cx p c s m meth args A dC dI (TY cI cJ cII cJJ) cX8_betterHand (some .int) 15 RX8 0 g) : ∀ (L2 L3 L6 : Int32) (J4 : Int64) (ai : Nat → Nat → Int32) (H : Heap) (locs : List Loc) (ls : Array Slot), (-99999 ≤ L2.toInt ∧ L2.toInt ≤ 255) → (0 ≤ L3.toInt ∧ L3.toInt ≤ 20) → (0 ≤ L6.toInt ∧ L6.toInt ≤ 256) → (1 ≤ f3_unknowns.toInt ∧ f3_unknowns.toInt ≤ 4) → (0 ≤ f3_equations.toInt ∧ f3_equations.toInt ≤ 3) → (0 ≤ f2_stale.toInt ∧ f2_stale.toInt ≤ 1) → (0 ≤ f7_size.toInt ∧ f7_size.toInt ≤ 256) → (0 ≤ f1_size.toInt ∧ f1_size.toInt ≤ 4) → (0 ≤ f5_keptSize.toInt ∧ f5_keptSize.toInt ≤ 128) → (0 ≤ f5_aheadSize.toInt ∧ f5_aheadSize.toInt ≤ 128) → (0 ≤ f4_blockCount.toInt ∧ f4_blockCount.toInt ≤ 9261) → (0 ≤ f4_blockLength.toInt ∧ f4_blockLength.toInt ≤ 21) → (0 ≤ f4_lastIsFree.toInt ∧ f4_lastIsFree.toInt ≤ 1) → (0 ≤ f4_stale.toInt ∧ f4_stale.toInt ≤ 1) → IAX ai → FR [60] ai0 ai → RWX ad w0 → RWX ad w1 → RWX ad w2 → RWX ad w3 → va_P (dC, dI) vwCl (WX cI cJ cII cJJ ad f3_unknowns f3_equations f2_roundSupports f2_stale f7_size f1_size f5_keptSize f5_aheadSize f0_solved f4_blockCount f4_blockLength f4_lastIsFree f4_stale ai al w0 w1 w2 w3) H → va_D A (WX cI cJ cII cJJ ad f3_unknowns f3_equations f2_roundSupports f2_stale f7_size f1_size f5_keptSize f5_aheadSize f0_solved f4_blockCount f4_blockLength f4_lastIsFree f4_stale ai al w0 w1 w2 w3) → va_S A s.heap H locs → lv_has ls 15 [(0, .ref (ad 0)), (1, .ref (ad 11)), (2, .int L2), (3, .int L3), (4, .long J4), (6, .int L6)] → W p l e ({ frames := 5, cells := 0, slots := 0, locals := 260 } : Room) s m args below meth c H locs 0 0 (MQ below (Q_m062_X8_betterHand dC dI cI cJ cII cJJ ad f3_unknowns f3_equations f2_roundSupports f2_stale f7_size f1_size f5_keptSize f5_aheadSize f0_solved f4_blockCount f4_blockLength f4_lastIsFree f4_stale ai0 al w0 w1 w2 w3 A) args s 0 0 A) (F0 m 128 ls []) := by
  obtain ⟨hx, hb, hr, hml, hown, hts, hk, hA, hK, hX⟩ := id C
  intro L2 L3 L6 J4 ai H locs ls h0 h1 h2 h3 h4 h5 h6 h7 h8 h9 h10 h11 h12 h13 hI hF hw_w0 hw_w1 hw_w2 hw_w3 hP hD hS hl
  refine lv_iload_n hx hb dX8_betterHand_128 rfl (lv_at hl 2 rfl) ?_
  exact r2_i hx hb hr hk hS dX8_betterHand_129 (fun t ht hW => ⟨ai, ⟨(by first | omega | decide | exact Or.inl (by decide) | exact Or.inr (by decide) | exact Or.inr (by omega)), hI, hF⟩, by rw [ht]; exact hP, va_K.moved hW.alike hK, hD⟩)
set_option maxRecDepth 100000 in
set_option maxHeartbeats 4000000 in
theorem m062_X8_betterHand_b106 {p : Program} {l : Launch} {e : Env} {s : State} {m : MethodId} {args : Array Value} {below : List Frame} {meth : Method} {c : Code} {A : Nat → Prop} {dC : Nat → ClassId} {dI : Nat → Nat → Nat} {cI cJ cII cJJ : ClassId} {ad : Nat → Nat} {g : Nat} {f3_unknowns f3_equations f2_roundSupports f2_stale f7_size f1_size f5_keptSize f5_aheadSize f0_solved f4_blockCount f4_blockLength f4_lastIsFree f4_stale : Int32} {ai0 : Nat → Nat → Int32} {al : Nat → Nat → Int64} {w0 w1 w2 w3 : Nat} (C : Cx p c s m meth args A dC dI (TY cI cJ cII cJJ) cX8_betterHand (some .int) 15 RX8 0 g) (n11 : Nat) (K11 : ∀ (L2 L3 L6 : Int32) (J4 : Int64) (ai : Nat → Nat → Int32) (H : Heap) (locs : List Loc) (ls : Array Slot), (-99999 ≤ L2.toInt ∧ L2.toInt ≤ 255) → (0 ≤ L3.toInt ∧ L3.toInt ≤ 20) → (0 ≤ L6.toInt ∧ L6.toInt ≤ 256) → (1 ≤ f3_unknowns.toInt ∧ f3_unknowns.toInt ≤ 4) → (0 ≤ f3_equations.toInt ∧ f3_equations.toInt ≤ 3) → (0 ≤ f2_stale.toInt ∧ f2_stale.toInt ≤ 1) → (0 ≤ f7_size.toInt ∧ f7_size.toInt ≤ 256) → (0 ≤ f1_size.toInt ∧ f1_size.toInt ≤ 4) → (0 ≤ f5_keptSize.toInt ∧ f5_keptSize.toInt ≤ 128) → (0 ≤ f5_aheadSize.toInt ∧ f5_aheadSize.toInt ≤ 128) → (0 ≤ f4_blockCount.toInt ∧ f4_blockCount.toInt ≤ 9261) → (0 ≤ f4_blockLength.toInt ∧ f4_blockLength.toInt ≤ 21) → (0 ≤ f4_lastIsFree.toInt ∧ f4_lastIsFree.toInt ≤ 1) → (0 ≤ f4_stale.toInt ∧ f4_stale.toInt ≤ 1) → (L2.toInt = -99999 ∨ (0 ≤ L2.toInt ∧ L2.toInt ≤ 255)) → f7_size.toInt - L6.toInt < (n11 : Int) → (0 : Int) < (n11 : Int) → IAX ai → FR [60] ai0 ai → RWX ad w0 → RWX ad w1 → RWX ad w2 → RWX ad w3 → va_P (dC, dI) vwCl (WX cI cJ cII cJJ ad f3_unknowns f3_equations f2_roundSupports f2_stale f7_size f1_size f5_keptSize f5_aheadSize f0_solved f4_blockCount f4_blockLength f4_lastIsFree f4_stale ai al w0 w1 w2 w3) H → va_D A (WX cI cJ cII cJJ ad f3_unknowns f3_equations f2_roundSupports f2_stale f7_size f1_size f5_keptSize f5_aheadSize f0_solved f4_blockCount f4_blockLength f4_lastIsFree f4_stale ai al w0 w1 w2 w3) → va_S A s.heap H locs → lv_has ls 15 [(0, .ref (ad 0)), (1, .ref (ad 11)), (2, .int L2), (3, .int L3), (4, .long J4), (6, .int L6)] → W p l e ({ frames := 5, cells := 0, slots := 0, locals := 260 } : Room) s m args below meth c H locs 0 0 (MQ below (Q_m062_X8_betterHand dC dI cI cJ cII cJJ ad f3_unknowns f3_equations f2_roundSupports f2_stale f7_size f1_size f5_keptSize f5_aheadSize f0_solved f4_blockCount f4_blockLength f4_lastIsFree f4_stale ai0 al w0 w1 w2 w3 A) args s 0 0 A) (F0 m 11 ls [])) : ∀ (L2 L3 L6 L7 : Int32) (J4 : Int64) (ai : Nat → Nat → Int32) (H : Heap) (locs : List Loc) (ls : Array Slot), (-99999 ≤ L2.toInt ∧ L2.toInt ≤ 255) → (0 ≤ L3.toInt ∧ L3.toInt ≤ 20) → (0 ≤ L6.toInt ∧ L6.toInt ≤ 255) → L7.toInt ≤ 20 → (1 ≤ f3_unknowns.toInt ∧ f3_unknowns.toInt ≤ 4) → (0 ≤ f3_equations.toInt ∧ f3_equations.toInt ≤ 3) → (0 ≤ f2_stale.toInt ∧ f2_stale.toInt ≤ 1) → (0 ≤ f7_size.toInt ∧ f7_size.toInt ≤ 256) → (0 ≤ f1_size.toInt ∧ f1_size.toInt ≤ 4) → (0 ≤ f5_keptSize.toInt ∧ f5_keptSize.toInt ≤ 128) → (0 ≤ f5_aheadSize.toInt ∧ f5_aheadSize.toInt ≤ 128) → (0 ≤ f4_blockCount.toInt ∧ f4_blockCount.toInt ≤ 9261) → (0 ≤ f4_blockLength.toInt ∧ f4_blockLength.toInt ≤ 21) → (0 ≤ f4_lastIsFree.toInt ∧ f4_lastIsFree.toInt ≤ 1) → (0 ≤ f4_stale.toInt ∧ f4_stale.toInt ≤ 1) → (L2.toInt = -99999 ∨ (0 ≤ L2.toInt ∧ L2.toInt ≤ 255)) → L6.toInt < f7_size.toInt → f7_size.toInt - L6.toInt ≤ (n11 : Int) → IAX ai → FR [60] ai0 ai → RWX ad w0 → RWX ad w1 → RWX ad w2 → RWX ad w3 → va_P (dC, dI) vwCl (WX cI cJ cII cJJ ad f3_unknowns f3_equations f2_roundSupports f2_stale f7_size f1_size f5_keptSize f5_aheadSize f0_solved f4_blockCount f4_blockLength f4_lastIsFree f4_stale ai al w0 w1 w2 w3) H → va_D A (WX cI cJ cII cJJ ad f3_unknowns f3_equations f2_roundSupports f2_stale f7_size f1_size f5_keptSize f5_aheadSize f0_solved f4_blockCount f4_blockLength f4_lastIsFree f4_stale ai al w0 w1 w2 w3) → va_S A s.heap H locs → lv_has ls 15 [(0, .ref (ad 0)), (1, .ref (ad 11)), (2, .int L2), (3, .int L3), (4, .long J4), (6, .int L6), (7, .int L7)] → W p l e ({ frames := 5, cells := 0, slots := 0, locals := 260 } : Room) s m args below meth c H locs 0 0 (MQ below (Q_m062_X8_betterHand dC dI cI cJ cII cJJ ad f3_unknowns f3_equations f2_roundSupports f2_stale f7_size f1_size f5_keptSize f5_aheadSize f0_solved f4_blockCount f4_blockLength f4_lastIsFree f4_stale ai0 al w0 w1 w2 w3 A) args s 0 0 A) (F0 m 106 ls []) := by
  obtain ⟨hx, hb, hr, hml, hown, hts, hk, hA, hK, hX⟩ := id C
  intro L2 L3 L6 L7 J4 ai H locs ls h0 h1 h2 h3 h4 h5 h6 h7 h8 h9 h10 h11 h12 h13 h14 h15 h16 h17 hI hF hw_w0 hw_w1 hw_w2 hw_w3 hP hD hS hl
  have ra_L7 := s_any L7
  obtain ⟨z1, e_z1⟩ : ∃ q : Int32, q = L6 + Int32.ofInt 1 := ⟨_, rfl⟩
  have g_z1 : z1.toInt = L6.toInt + 1 := by rw [e_z1]; exact n_add (a := L6.toInt) (b := 1) rfl (by decide +kernel) (by omega) (by omega)
  refine lv_iinc (v := z1) (lv' := [(6, .int z1), (0, .ref (ad 0)), (1, .ref (ad 11)), (2, .int L2), (3, .int L3), (4, .long J4), (7, .int L7)]) hx hb dX8_betterHand_106 hl (k := 5) rfl e_z1.symm (by decide) rfl (fun ls_1 hl_1 => ?_)
  refine lv_goto (tgt := 11) hx hb dX8_betterHand_109 (by decide) ?_
  exact K11 L2 L3 z1 J4 ai _ _ _ (by omega) (by omega) (by omega) (by omega) (by omega) (by omega) (by omega) (by omega) (by omega) (by omega) (by omega) (by omega) (by omega) (by omega) (by omega) (by omega) (by omega) hI hF hw_w0 hw_w1 hw_w2 hw_w3 hP hD hS (lv_sub hl_1 [1, 2, 3, 4, 5, 0] rfl)
set_option maxRecDepth 100000 in
set_option maxHeartbeats 4000000 in
theorem m062_X8_betterHand_b100 {p : Program} {l : Launch} {e : Env} {s : State} {m : MethodId} {args : Array Value} {below : List Frame} {meth : Method} {c : Code} {A : Nat → Prop} {dC : Nat → ClassId} {dI : Nat → Nat → Nat} {cI cJ cII cJJ : ClassId} {ad : Nat → Nat} {g : Nat} {f3_unknowns f3_equations f2_roundSupports f2_stale f7_size f1_size f5_keptSize f5_aheadSize f0_solved f4_blockCount f4_blockLength f4_lastIsFree f4_stale : Int32} {ai0 : Nat → Nat → Int32} {al : Nat → Nat → Int64} {w0 w1 w2 w3 : Nat} (C : Cx p c s m meth args A dC dI (TY cI cJ cII cJJ) cX8_betterHand (some .int) 15 RX8 0 g) (n11 : Nat) (K11 : ∀ (L2 L3 L6 : Int32) (J4 : Int64) (ai : Nat → Nat → Int32) (H : Heap) (locs : List Loc) (ls : Array Slot), (-99999 ≤ L2.toInt ∧ L2.toInt ≤ 255) → (0 ≤ L3.toInt ∧ L3.toInt ≤ 20) → (0 ≤ L6.toInt ∧ L6.toInt ≤ 256) → (1 ≤ f3_unknowns.toInt ∧ f3_unknowns.toInt ≤ 4) → (0 ≤ f3_equations.toInt ∧ f3_equations.toInt ≤ 3) → (0 ≤ f2_stale.toInt ∧ f2_stale.toInt ≤ 1) → (0 ≤ f7_size.toInt ∧ f7_size.toInt ≤ 256) → (0 ≤ f1_size.toInt ∧ f1_size.toInt ≤ 4) → (0 ≤ f5_keptSize.toInt ∧ f5_keptSize.toInt ≤ 128) → (0 ≤ f5_aheadSize.toInt ∧ f5_aheadSize.toInt ≤ 128) → (0 ≤ f4_blockCount.toInt ∧ f4_blockCount.toInt ≤ 9261) → (0 ≤ f4_blockLength.toInt ∧ f4_blockLength.toInt ≤ 21) → (0 ≤ f4_lastIsFree.toInt ∧ f4_lastIsFree.toInt ≤ 1) → (0 ≤ f4_stale.toInt ∧ f4_stale.toInt ≤ 1) → (L2.toInt = -99999 ∨ (0 ≤ L2.toInt ∧ L2.toInt ≤ 255)) → f7_size.toInt - L6.toInt < (n11 : Int) → (0 : Int) < (n11 : Int) → IAX ai → FR [60] ai0 ai → RWX ad w0 → RWX ad w1 → RWX ad w2 → RWX ad w3 → va_P (dC, dI) vwCl (WX cI cJ cII cJJ ad f3_unknowns f3_equations f2_roundSupports f2_stale f7_size f1_size f5_keptSize f5_aheadSize f0_solved f4_blockCount f4_blockLength f4_lastIsFree f4_stale ai al w0 w1 w2 w3) H → va_D A (WX cI cJ cII cJJ ad f3_unknowns f3_equations f2_roundSupports f2_stale f7_size f1_size f5_keptSize f5_aheadSize f0_solved f4_blockCount f4_blockLength f4_lastIsFree f4_stale ai al w0 w1 w2 w3) → va_S A s.heap H locs → lv_has ls 15 [(0, .ref (ad 0)), (1, .ref (ad 11)), (2, .int L2), (3, .int L3), (4, .long J4), (6, .int L6)] → W p l e ({ frames := 5, cells := 0, slots := 0, locals := 260 } : Room) s m args below meth c H locs 0 0 (MQ below (Q_m062_X8_betterHand dC dI cI cJ cII cJJ ad f3_unknowns f3_equations f2_roundSupports f2_stale f7_size f1_size f5_keptSize f5_aheadSize f0_solved f4_blockCount f4_blockLength f4_lastIsFree f4_stale ai0 al w0 w1 w2 w3 A) args s 0 0 A) (F0 m 11 ls [])) (n60 : Nat) (K60 : ∀ (L2 L3 L6 L7 L12 : Int32) (J4 J8 J10 : Int64) (ai : Nat → Nat → Int32) (H : Heap) (locs : List Loc) (ls : Array Slot), (-99999 ≤ L2.toInt ∧ L2.toInt ≤ 255) → (0 ≤ L3.toInt ∧ L3.toInt ≤ 20) → (0 ≤ L6.toInt ∧ L6.toInt ≤ 255) → (1 ≤ L7.toInt ∧ L7.toInt ≤ 20) → (1 ≤ L12.toInt ∧ L12.toInt ≤ 21) → (1 ≤ f3_unknowns.toInt ∧ f3_unknowns.toInt ≤ 4) → (0 ≤ f3_equations.toInt ∧ f3_equations.toInt ≤ 3) → (0 ≤ f2_stale.toInt ∧ f2_stale.toInt ≤ 1) → (0 ≤ f7_size.toInt ∧ f7_size.toInt ≤ 256) → (0 ≤ f1_size.toInt ∧ f1_size.toInt ≤ 4) → (0 ≤ f5_keptSize.toInt ∧ f5_keptSize.toInt ≤ 128) → (0 ≤ f5_aheadSize.toInt ∧ f5_aheadSize.toInt ≤ 128) → (0 ≤ f4_blockCount.toInt ∧ f4_blockCount.toInt ≤ 9261) → (0 ≤ f4_blockLength.toInt ∧ f4_blockLength.toInt ≤ 21) → (0 ≤ f4_lastIsFree.toInt ∧ f4_lastIsFree.toInt ≤ 1) → (0 ≤ f4_stale.toInt ∧ f4_stale.toInt ≤ 1) → (L2.toInt = -99999 ∨ (0 ≤ L2.toInt ∧ L2.toInt ≤ 255)) → L6.toInt < f7_size.toInt → f7_size.toInt - L6.toInt ≤ (n11 : Int) → L7.toInt + 1 - L12.toInt < (n60 : Int) → (0 : Int) < (n60 : Int) → IAX ai → FR [60] ai0 ai → RWX ad w0 → RWX ad w1 → RWX ad w2 → RWX ad w3 → va_P (dC, dI) vwCl (WX cI cJ cII cJJ ad f3_unknowns f3_equations f2_roundSupports f2_stale f7_size f1_size f5_keptSize f5_aheadSize f0_solved f4_blockCount f4_blockLength f4_lastIsFree f4_stale ai al w0 w1 w2 w3) H → va_D A (WX cI cJ cII cJJ ad f3_unknowns f3_equations f2_roundSupports f2_stale f7_size f1_size f5_keptSize f5_aheadSize f0_solved f4_blockCount f4_blockLength f4_lastIsFree f4_stale ai al w0 w1 w2 w3) → va_S A s.heap H locs → lv_has ls 15 [(0, .ref (ad 0)), (1, .ref (ad 11)), (2, .int L2), (3, .int L3), (4, .long J4), (6, .int L6), (7, .int L7), (8, .long J8), (10, .long J10), (12, .int L12)] → W p l e ({ frames := 5, cells := 0, slots := 0, locals := 260 } : Room) s m args below meth c H locs 0 0 (MQ below (Q_m062_X8_betterHand dC dI cI cJ cII cJJ ad f3_unknowns f3_equations f2_roundSupports f2_stale f7_size f1_size f5_keptSize f5_aheadSize f0_solved f4_blockCount f4_blockLength f4_lastIsFree f4_stale ai0 al w0 w1 w2 w3 A) args s 0 0 A) (F0 m 60 ls [])) : ∀ (L2 L3 L6 L7 L12 : Int32) (J4 J8 J10 J13 : Int64) (ai : Nat → Nat → Int32) (H : Heap) (locs : List Loc) (ls : Array Slot), (-99999 ≤ L2.toInt ∧ L2.toInt ≤ 255) → (0 ≤ L3.toInt ∧ L3.toInt ≤ 20) → (0 ≤ L6.toInt ∧ L6.toInt ≤ 255) → (1 ≤ L7.toInt ∧ L7.toInt ≤ 20) → (1 ≤ L12.toInt ∧ L12.toInt ≤ 20) → (1 ≤ f3_unknowns.toInt ∧ f3_unknowns.toInt ≤ 4) → (0 ≤ f3_equations.toInt ∧ f3_equations.toInt ≤ 3) → (0 ≤ f2_stale.toInt ∧ f2_stale.toInt ≤ 1) → (0 ≤ f7_size.toInt ∧ f7_size.toInt ≤ 256) → (0 ≤ f1_size.toInt ∧ f1_size.toInt ≤ 4) → (0 ≤ f5_keptSize.toInt ∧ f5_keptSize.toInt ≤ 128) → (0 ≤ f5_aheadSize.toInt ∧ f5_aheadSize.toInt ≤ 128) → (0 ≤ f4_blockCount.toInt ∧ f4_blockCount.toInt ≤ 9261) → (0 ≤ f4_blockLength.toInt ∧ f4_blockLength.toInt ≤ 21) → (0 ≤ f4_lastIsFree.toInt ∧ f4_lastIsFree.toInt ≤ 1) → (0 ≤ f4_stale.toInt ∧ f4_stale.toInt ≤ 1) → (L2.toInt = -99999 ∨ (0 ≤ L2.toInt ∧ L2.toInt ≤ 255)) → L6.toInt < f7_size.toInt → f7_size.toInt - L6.toInt ≤ (n11 : Int) → L12.toInt ≤ L7.toInt → L7.toInt + 1 - L12.toInt ≤ (n60 : Int) → IAX ai → FR [60] ai0 ai → RWX ad w0 → RWX ad w1 → RWX ad w2 → RWX ad w3 → va_P (dC, dI) vwCl (WX cI cJ cII cJJ ad f3_unknowns f3_equations f2_roundSupports f2_stale f7_size f1_size f5_keptSize f5_aheadSize f0_solved f4_blockCount f4_blockLength f4_lastIsFree f4_stale ai al w0 w1 w2 w3) H → va_D A (WX cI cJ cII cJJ ad f3_unknowns f3_equations f2_roundSupports f2_stale f7_size f1_size f5_keptSize f5_aheadSize f0_solved f4_blockCount f4_blockLength f4_lastIsFree f4_stale ai al w0 w1 w2 w3) → va_S A s.heap H locs → lv_has ls 15 [(0, .ref (ad 0)), (1, .ref (ad 11)), (2, .int L2), (3, .int L3), (4, .long J4), (6, .int L6), (7, .int L7), (8, .long J8), (10, .long J10), (12, .int L12), (13, .long J13)] → W p l e ({ frames := 5, cells := 0, slots := 0, locals := 260 } : Room) s m args below meth c H locs 0 0 (MQ below (Q_m062_X8_betterHand dC dI cI cJ cII cJJ ad f3_unknowns f3_equations f2_roundSupports f2_stale f7_size f1_size f5_keptSize f5_aheadSize f0_solved f4_blockCount f4_blockLength f4_lastIsFree f4_stale ai0 al w0 w1 w2 w3 A) args s 0 0 A) (F0 m 100 ls []) := by
  obtain ⟨hx, hb, hr, hml, hown, hts, hk, hA, hK, hX⟩ := id C
  intro L2 L3 L6 L7 L12 J4 J8 J10 J13 ai H locs ls h0 h1 h2 h3 h4 h5 h6 h7 h8 h9 h10 h11 h12 h13 h14 h15 h16 h17 h18 h19 h20 hI hF hw_w0 hw_w1 hw_w2 hw_w3 hP hD hS hl
  obtain ⟨z1, e_z1⟩ : ∃ q : Int32, q = L12 + Int32.ofInt 1 := ⟨_, rfl⟩
  have g_z1 : z1.toInt = L12.toInt + 1 := by rw [e_z1]; exact n_add (a := L12.toInt) (b := 1) rfl (by decide +kernel) (by omega) (by omega)
  refine lv_iinc (v := z1) (lv' := [(12, .int z1), (0, .ref (ad 0)), (1, .ref (ad 11)), (2, .int L2), (3, .int L3), (4, .long J4), (6, .int L6), (7, .int L7), (8, .long J8), (10, .long J10), (13, .long J13)]) hx hb dX8_betterHand_100 hl (k := 9) rfl e_z1.symm (by decide) rfl (fun ls_1 hl_1 => ?_)
  refine lv_goto (tgt := 60) hx hb dX8_betterHand_103 (by decide) ?_
  exact K60 L2 L3 L6 L7 z1 J4 J8 J10 ai _ _ _ (by omega) (by omega) (by omega) (by omega) (by omega) (by omega) (by omega) (by omega) (by omega) (by omega) (by omega) (by omega) (by omega) (by omega) (by omega) (by omega) (by omega) (by omega) (by omega) (by omega) (by omega) hI hF hw_w0 hw_w1 hw_w2 hw_w3 hP hD hS (lv_sub hl_1 [1, 2, 3, 4, 5, 6, 7, 8, 9, 0] rfl)
set_option maxRecDepth 100000 in
set_option maxHeartbeats 4000000 in
theorem m062_X8_betterHand_b60 {p : Program} {l : Launch} {e : Env} {s : State} {m : MethodId} {args : Array Value} {below : List Frame} {meth : Method} {c : Code} {A : Nat → Prop} {dC : Nat → ClassId} {dI : Nat → Nat → Nat} {cI cJ cII cJJ : ClassId} {ad : Nat → Nat} {g : Nat} {f3_unknowns f3_equations f2_roundSupports f2_stale f7_size f1_size f5_keptSize f5_aheadSize f0_solved f4_blockCount f4_blockLength f4_lastIsFree f4_stale : Int32} {ai0 : Nat → Nat → Int32} {al : Nat → Nat → Int64} {w0 w1 w2 w3 : Nat} (C : Cx p c s m meth args A dC dI (TY cI cJ cII cJJ) cX8_betterHand (some .int) 15 RX8 0 g) (n11 : Nat) (K11 : ∀ (L2 L3 L6 : Int32) (J4 : Int64) (ai : Nat → Nat → Int32) (H : Heap) (locs : List Loc) (ls : Array Slot), (-99999 ≤ L2.toInt ∧ L2.toInt ≤ 255) → (0 ≤ L3.toInt ∧ L3.toInt ≤ 20) → (0 ≤ L6.toInt ∧ L6.toInt ≤ 256) → (1 ≤ f3_unknowns.toInt ∧ f3_unknowns.toInt ≤ 4) → (0 ≤ f3_equations.toInt ∧ f3_equations.toInt ≤ 3) → (0 ≤ f2_stale.toInt ∧ f2_stale.toInt ≤ 1) → (0 ≤ f7_size.toInt ∧ f7_size.toInt ≤ 256) → (0 ≤ f1_size.toInt ∧ f1_size.toInt ≤ 4) → (0 ≤ f5_keptSize.toInt ∧ f5_keptSize.toInt ≤ 128) → (0 ≤ f5_aheadSize.toInt ∧ f5_aheadSize.toInt ≤ 128) → (0 ≤ f4_blockCount.toInt ∧ f4_blockCount.toInt ≤ 9261) → (0 ≤ f4_blockLength.toInt ∧ f4_blockLength.toInt ≤ 21) → (0 ≤ f4_lastIsFree.toInt ∧ f4_lastIsFree.toInt ≤ 1) → (0 ≤ f4_stale.toInt ∧ f4_stale.toInt ≤ 1) → (L2.toInt = -99999 ∨ (0 ≤ L2.toInt ∧ L2.toInt ≤ 255)) → f7_size.toInt - L6.toInt < (n11 : Int) → (0 : Int) < (n11 : Int) → IAX ai → FR [60] ai0 ai → RWX ad w0 → RWX ad w1 → RWX ad w2 → RWX ad w3 → va_P (dC, dI) vwCl (WX cI cJ cII cJJ ad f3_unknowns f3_equations f2_roundSupports f2_stale f7_size f1_size f5_keptSize f5_aheadSize f0_solved f4_blockCount f4_blockLength f4_lastIsFree f4_stale ai al w0 w1 w2 w3) H → va_D A (WX cI cJ cII cJJ ad f3_unknowns f3_equations f2_roundSupports f2_stale f7_size f1_size f5_keptSize f5_aheadSize f0_solved f4_blockCount f4_blockLength f4_lastIsFree f4_stale ai al w0 w1 w2 w3) → va_S A s.heap H locs → lv_has ls 15 [(0, .ref (ad 0)), (1, .ref (ad 11)), (2, .int L2), (3, .int L3), (4, .long J4), (6, .int L6)] → W p l e ({ frames := 5, cells := 0, slots := 0, locals := 260 } : Room) s m args below meth c H locs 0 0 (MQ below (Q_m062_X8_betterHand dC dI cI cJ cII cJJ ad f3_unknowns f3_equations f2_roundSupports f2_stale f7_size f1_size f5_keptSize f5_aheadSize f0_solved f4_blockCount f4_blockLength f4_lastIsFree f4_stale ai0 al w0 w1 w2 w3 A) args s 0 0 A) (F0 m 11 ls [])) : ∀ (n : Nat), ∀ (L2 L3 L6 L7 L12 : Int32) (J4 J8 J10 : Int64) (ai : Nat → Nat → Int32) (H : Heap) (locs : List Loc) (ls : Array Slot), (-99999 ≤ L2.toInt ∧ L2.toInt ≤ 255) → (0 ≤ L3.toInt ∧ L3.toInt ≤ 20) → (0 ≤ L6.toInt ∧ L6.toInt ≤ 255) → (1 ≤ L7.toInt ∧ L7.toInt ≤ 20) → (1 ≤ L12.toInt ∧ L12.toInt ≤ 21) → (1 ≤ f3_unknowns.toInt ∧ f3_unknowns.toInt ≤ 4) → (0 ≤ f3_equations.toInt ∧ f3_equations.toInt ≤ 3) → (0 ≤ f2_stale.toInt ∧ f2_stale.toInt ≤ 1) → (0 ≤ f7_size.toInt ∧ f7_size.toInt ≤ 256) → (0 ≤ f1_size.toInt ∧ f1_size.toInt ≤ 4) → (0 ≤ f5_keptSize.toInt ∧ f5_keptSize.toInt ≤ 128) → (0 ≤ f5_aheadSize.toInt ∧ f5_aheadSize.toInt ≤ 128) → (0 ≤ f4_blockCount.toInt ∧ f4_blockCount.toInt ≤ 9261) → (0 ≤ f4_blockLength.toInt ∧ f4_blockLength.toInt ≤ 21) → (0 ≤ f4_lastIsFree.toInt ∧ f4_lastIsFree.toInt ≤ 1) → (0 ≤ f4_stale.toInt ∧ f4_stale.toInt ≤ 1) → (L2.toInt = -99999 ∨ (0 ≤ L2.toInt ∧ L2.toInt ≤ 255)) → L6.toInt < f7_size.toInt → f7_size.toInt - L6.toInt ≤ (n11 : Int) → L7.toInt + 1 - L12.toInt < (n : Int) → (0 : Int) < (n : Int) → IAX ai → FR [60] ai0 ai → RWX ad w0 → RWX ad w1 → RWX ad w2 → RWX ad w3 → va_P (dC, dI) vwCl (WX cI cJ cII cJJ ad f3_unknowns f3_equations f2_roundSupports f2_stale f7_size f1_size f5_keptSize f5_aheadSize f0_solved f4_blockCount f4_blockLength f4_lastIsFree f4_stale ai al w0 w1 w2 w3) H → va_D A (WX cI cJ cII cJJ ad f3_unknowns f3_equations f2_roundSupports f2_stale f7_size f1_size f5_keptSize f5_aheadSize f0_solved f4_blockCount f4_blockLength f4_lastIsFree f4_stale ai al w0 w1 w2 w3) → va_S A s.heap H locs → lv_has ls 15 [(0, .ref (ad 0)), (1, .ref (ad 11)), (2, .int L2), (3, .int L3), (4, .long J4), (6, .int L6), (7, .int L7), (8, .long J8), (10, .long J10), (12, .int L12)] → W p l e ({ frames := 5, cells := 0, slots := 0, locals := 260 } : Room) s m args below meth c H locs 0 0 (MQ below (Q_m062_X8_betterHand dC dI cI cJ cII cJJ ad f3_unknowns f3_equations f2_roundSupports f2_stale f7_size f1_size f5_keptSize f5_aheadSize f0_solved f4_blockCount f4_blockLength f4_lastIsFree f4_stale ai0 al w0 w1 w2 w3 A) args s 0 0 A) (F0 m 60 ls []) := by
  obtain ⟨hx, hb, hr, hml, hown, hts, hk, hA, hK, hX⟩ := id C
  intro n
  induction n with
  | zero =>
    intro L2 L3 L6 L7 L12 J4 J8 J10 ai H locs ls h0 h1 h2 h3 h4 h5 h6 h7 h8 h9 h10 h11 h12 h13 h14 h15 h16 h17 h18 h19 h20 hI hF hw_w0 hw_w1 hw_w2 hw_w3 hP hD hS hl
    exact absurd h20 (by omega)
  | succ n ih =>
    intro L2 L3 L6 L7 L12 J4 J8 J10 ai H locs ls h0 h1 h2 h3 h4 h5 h6 h7 h8 h9 h10 h11 h12 h13 h14 h15 h16 h17 h18 h19 h20 hI hF hw_w0 hw_w1 hw_w2 hw_w3 hP hD hS hl
    refine lv_iload hx hb dX8_betterHand_60 (lv_at hl 9 rfl) ?_
    refine lv_iload hx hb dX8_betterHand_62 (lv_at hl 6 rfl) ?_
    refine lv_icmp_gt (tgt := 106) hx hb dX8_betterHand_64 (by decide) (fun c1 => ?_) (fun c1 => ?_)
    · have c1 := j_lt (a := L7.toInt) (b := L12.toInt) rfl rfl c1
      exact m062_X8_betterHand_b106 C n11 K11 L2 L3 L6 L7 J4 ai _ _ _ (by omega) (by omega) (by omega) (by omega) (by omega) (by omega) (by omega) (by omega) (by omega) (by omega) (by omega) (by omega) (by omega) (by omega) (by omega) (by omega) (by omega) (by omega) hI hF hw_w0 hw_w1 hw_w2 hw_w3 hP hD hS (lv_sub hl [0, 1, 2, 3, 4, 5, 6] rfl)
    · have c1 := j_nlt (a := L7.toInt) (b := L12.toInt) rfl rfl c1
      refine lv_lload hx hb dX8_betterHand_67 (lv_at hl 7 rfl) ?_
      refine lv_lload hx hb dX8_betterHand_69 (lv_at hl 8 rfl) ?_
      refine lv_iload hx hb dX8_betterHand_71 (lv_at hl 9 rfl) ?_
      refine lv_i2l hx hb dX8_betterHand_73 rfl ?_
      refine lv_topl (fun yy2 e_yy2 => ?_)
      refine v_lmul hx hb dX8_betterHand_74 _ rfl ?_
      refine lv_topl (fun yy3 e_yy3 => ?_)
      refine v_ladd hx hb dX8_betterHand_75 _ rfl ?_
      refine lv_topl (fun yy4 e_yy4 => ?_)
      refine lv_iload hx hb dX8_betterHand_76 (lv_at hl 9 rfl) ?_
      refine lv_i2l hx hb dX8_betterHand_78 rfl ?_
      refine lv_topl (fun yy5 e_yy5 => ?_)
      refine v_lmul hx hb dX8_betterHand_79 _ rfl ?_
      refine lv_topl (fun yy6 e_yy6 => ?_)
      refine lv_lstore (lv' := [(13, .long yy6), (0, .ref (ad 0)), (1, .ref (ad 11)), (2, .int L2), (3, .int L3), (4, .long J4), (6, .int L6), (7, .int L7), (8, .long J8), (10, .long J10), (12, .int L12)]) hx hb dX8_betterHand_80 hl (by decide) rfl (fun ls_1 hl_1 => ?_)
      refine lv_lload hx hb dX8_betterHand_82 (lv_at hl_1 0 rfl) ?_
      refine lv_lload hx hb dX8_betterHand_84 (lv_at hl_1 5 rfl) ?_
      refine v_lcmp hx hb dX8_betterHand_86 _ rfl ?_
      refine lv_topi (fun z7 e_z7 => ?_)
      refine lv_if_ge (tgt := 100) hx hb dX8_betterHand_87 (by decide) (fun c8 => ?_) (fun c8 => ?_)
      · have c8 := j_le (a := 0) (b := z7.toInt) (by decide +kernel) rfl c8
        exact m062_X8_betterHand_b100 C n11 K11 n ih L2 L3 L6 L7 L12 J4 J8 J10 yy6 ai _ _ _ (by omega) (by omega) (by omega) (by omega) (by omega) (by omega) (by omega) (by omega) (by omega) (by omega) (by omega) (by omega) (by omega) (by omega) (by omega) (by omega) (by omega) (by omega) (by omega) (by omega) (by omega) hI hF hw_w0 hw_w1 hw_w2 hw_w3 hP hD hS (lv_sub hl_1 [1, 2, 3, 4, 5, 6, 7, 8, 9, 10, 0] rfl)
      · have c8 := j_nle (a := 0) (b := z7.toInt) (by decide +kernel) rfl c8
        refine lv_iload hx hb dX8_betterHand_90 (lv_at hl_1 6 rfl) ?_
        refine lv_istore_n (lv' := [(2, .int L6), (13, .long yy6), (0, .ref (ad 0)), (1, .ref (ad 11)), (3, .int L3), (4, .long J4), (6, .int L6), (7, .int L7), (8, .long J8), (10, .long J10), (12, .int L12)]) hx hb dX8_betterHand_92 rfl hl_1 (by decide) rfl (fun ls_2 hl_2 => ?_)
        refine lv_iload hx hb dX8_betterHand_93 (lv_at hl_2 10 rfl) ?_
        refine lv_istore_n (lv' := [(3, .int L12), (2, .int L6), (13, .long yy6), (0, .ref (ad 0)), (1, .ref (ad 11)), (4, .long J4), (6, .int L6), (7, .int L7), (8, .long J8), (10, .long J10), (12, .int L12)]) hx hb dX8_betterHand_95 rfl hl_2 (by decide) rfl (fun ls_3 hl_3 => ?_)
        refine lv_lload hx hb dX8_betterHand_96 (lv_at hl_3 2 rfl) ?_
        refine lv_lstore (lv' := [(4, .long yy6), (3, .int L12), (2, .int L6), (13, .long yy6), (0, .ref (ad 0)), (1, .ref (ad 11)), (6, .int L6), (7, .int L7), (8, .long J8), (10, .long J10), (12, .int L12)]) hx hb dX8_betterHand_98 hl_3 (by decide) rfl (fun ls_4 hl_4 => ?_)
        exact m062_X8_betterHand_b100 C n11 K11 n ih L6 L12 L6 L7 L12 yy6 J8 J10 yy6 ai _ _ _ (by omega) (by omega) (by omega) (by omega) (by omega) (by omega) (by omega) (by omega) (by omega) (by omega) (by omega) (by omega) (by omega) (by omega) (by omega) (by omega) (by omega) (by omega) (by omega) (by omega) (by omega) hI hF hw_w0 hw_w1 hw_w2 hw_w3 hP hD hS (lv_sub hl_4 [4, 5, 2, 1, 0, 6, 7, 8, 9, 10, 3] rfl)
set_option maxRecDepth 100000 in
set_option maxHeartbeats 4000000 in
theorem m062_X8_betterHand_b11 {p : Program} {l : Launch} {e : Env} {s : State} {m : MethodId} {args : Array Value} {below : List Frame} {meth : Method} {c : Code} {A : Nat → Prop} {dC : Nat → ClassId} {dI : Nat → Nat → Nat} {cI cJ cII cJJ : ClassId} {ad : Nat → Nat} {g : Nat} {f3_unknowns f3_equations f2_roundSupports f2_stale f7_size f1_size f5_keptSize f5_aheadSize f0_solved f4_blockCount f4_blockLength f4_lastIsFree f4_stale : Int32} {ai0 : Nat → Nat → Int32} {al : Nat → Nat → Int64} {w0 w1 w2 w3 : Nat} (C : Cx p c s m meth args A dC dI (TY cI cJ cII cJJ) cX8_betterHand (some .int) 15 RX8 0 g) : ∀ (n : Nat), ∀ (L2 L3 L6 : Int32) (J4 : Int64) (ai : Nat → Nat → Int32) (H : Heap) (locs : List Loc) (ls : Array Slot), (-99999 ≤ L2.toInt ∧ L2.toInt ≤ 255) → (0 ≤ L3.toInt ∧ L3.toInt ≤ 20) → (0 ≤ L6.toInt ∧ L6.toInt ≤ 256) → (1 ≤ f3_unknowns.toInt ∧ f3_unknowns.toInt ≤ 4) → (0 ≤ f3_equations.toInt ∧ f3_equations.toInt ≤ 3) → (0 ≤ f2_stale.toInt ∧ f2_stale.toInt ≤ 1) → (0 ≤ f7_size.toInt ∧ f7_size.toInt ≤ 256) → (0 ≤ f1_size.toInt ∧ f1_size.toInt ≤ 4) → (0 ≤ f5_keptSize.toInt ∧ f5_keptSize.toInt ≤ 128) → (0 ≤ f5_aheadSize.toInt ∧ f5_aheadSize.toInt ≤ 128) → (0 ≤ f4_blockCount.toInt ∧ f4_blockCount.toInt ≤ 9261) → (0 ≤ f4_blockLength.toInt ∧ f4_blockLength.toInt ≤ 21) → (0 ≤ f4_lastIsFree.toInt ∧ f4_lastIsFree.toInt ≤ 1) → (0 ≤ f4_stale.toInt ∧ f4_stale.toInt ≤ 1) → (L2.toInt = -99999 ∨ (0 ≤ L2.toInt ∧ L2.toInt ≤ 255)) → f7_size.toInt - L6.toInt < (n : Int) → (0 : Int) < (n : Int) → IAX ai → FR [60] ai0 ai → RWX ad w0 → RWX ad w1 → RWX ad w2 → RWX ad w3 → va_P (dC, dI) vwCl (WX cI cJ cII cJJ ad f3_unknowns f3_equations f2_roundSupports f2_stale f7_size f1_size f5_keptSize f5_aheadSize f0_solved f4_blockCount f4_blockLength f4_lastIsFree f4_stale ai al w0 w1 w2 w3) H → va_D A (WX cI cJ cII cJJ ad f3_unknowns f3_equations f2_roundSupports f2_stale f7_size f1_size f5_keptSize f5_aheadSize f0_solved f4_blockCount f4_blockLength f4_lastIsFree f4_stale ai al w0 w1 w2 w3) → va_S A s.heap H locs → lv_has ls 15 [(0, .ref (ad 0)), (1, .ref (ad 11)), (2, .int L2), (3, .int L3), (4, .long J4), (6, .int L6)] → W p l e ({ frames := 5, cells := 0, slots := 0, locals := 260 } : Room) s m args below meth c H locs 0 0 (MQ below (Q_m062_X8_betterHand dC dI cI cJ cII cJJ ad f3_unknowns f3_equations f2_roundSupports f2_stale f7_size f1_size f5_keptSize f5_aheadSize f0_solved f4_blockCount f4_blockLength f4_lastIsFree f4_stale ai0 al w0 w1 w2 w3 A) args s 0 0 A) (F0 m 11 ls []) := by
  obtain ⟨hx, hb, hr, hml, hown, hts, hk, hA, hK, hX⟩ := id C
  intro n
  induction n with
  | zero =>
    intro L2 L3 L6 J4 ai H locs ls h0 h1 h2 h3 h4 h5 h6 h7 h8 h9 h10 h11 h12 h13 h14 h15 h16 hI hF hw_w0 hw_w1 hw_w2 hw_w3 hP hD hS hl
    exact absurd h16 (by omega)
  | succ n ih =>
    intro L2 L3 L6 J4 ai H locs ls h0 h1 h2 h3 h4 h5 h6 h7 h8 h9 h10 h11 h12 h13 h14 h15 h16 hI hF hw_w0 hw_w1 hw_w2 hw_w3 hP hD hS hl
    refine lv_iload hx hb dX8_betterHand_11 (lv_at hl 5 rfl) ?_
    refine lv_aload_n hx hb dX8_betterHand_13 rfl (lv_at hl 1 rfl) ?_
    have hM := m035_X2_size l dC dI cI cJ cII cJJ H.size 0 ad f3_unknowns f3_equations f2_roundSupports f2_stale f7_size f1_size f5_keptSize f5_aheadSize f0_solved f4_blockCount f4_blockLength f4_lastIsFree f4_stale ai al w0 w1 w2 w3 (by omega) (by omega) (by omega) (by omega) (by omega) (by omega) (by omega) (by omega) (by omega) (by omega) (by omega) hI hw_w0 hw_w1 hw_w2 hw_w3
    refine k2V_i (q0 := 11) ⟨hx, hb, hml, hown, hts⟩ hK hP hD hS hA hX cv_RX8_156 hM ⟨by decide +kernel, by decide +kernel⟩ rfl rfl (Or.inl rfl) (rest := [.int L6]) rfl rfl rfl hl.1 rfl (Nat.le_of_ble_eq_true rfl) dX8_betterHand_14 ⟨Nat.le_of_ble_eq_true rfl, Nat.le_of_ble_eq_true rfl⟩ (fun r1 t H1 locs_1 ht hB hS_1 hFc => ?_)
    obtain ⟨⟨gpr1_0, gpr1_1⟩, hP_2, -, hD_2⟩ := hB
    rw [ht] at hP_2
    have hD_3 := hD_2.weaken (B := A) (fun k q _ h9 => hFc q.1 h9)
    clear ht
    generalize H1 = H_4 at hP_2 hS_1 ⊢
    refine lv_icmp_ge (tgt := 112) hx hb dX8_betterHand_17 (by decide) (fun c2 => ?_) (fun c2 => ?_)
    · have c2 := j_le (a := r1.toInt) (b := L6.toInt) rfl rfl c2
      refine lv_iload_n hx hb dX8_betterHand_112 rfl (lv_at hl 2 rfl) ?_
      refine lv_ldc (v := (-99999)) hx hb hown (hts _ k_543) dX8_betterHand_113 ?_
      refine lv_icmp_eq (tgt := 128) hx hb dX8_betterHand_115 (by decide) (fun c3 => ?_) (fun c3 => ?_)
      · have c3 := j_eq (a := L2.toInt) (b := (-99999)) rfl (by decide +kernel) c3
        exact m062_X8_betterHand_b128 C  L2 L3 L6 J4 ai _ _ _ (by omega) (by omega) (by omega) (by omega) (by omega) (by omega) (by omega) (by omega) (by omega) (by omega) (by omega) (by omega) (by omega) (by omega) hI hF hw_w0 hw_w1 hw_w2 hw_w3 hP_2 hD_3 hS_1 (lv_sub hl [0, 1, 2, 3, 4, 5] rfl)
      · have c3 := j_ne (a := L2.toInt) (b := (-99999)) rfl (by decide +kernel) c3
        refine lv_aload_n hx hb dX8_betterHand_118 rfl (lv_at hl 1 rfl) ?_
        refine lv_iload_n hx hb dX8_betterHand_119 rfl (lv_at hl 2 rfl) ?_
        refine lv_iload_n hx hb dX8_betterHand_120 rfl (lv_at hl 3 rfl) ?_
        refine lv_aload_n hx hb dX8_betterHand_121 rfl (lv_at hl 0 rfl) ?_
        refine gf (k := 4) hx hb hts inX8 hown hK hP_2 k_268 rfl (by decide) rfl 0 rfl (.ref (ad 60)) rfl dX8_betterHand_122 ?_
        have hM := m042_X2_addTimes l dC dI cI cJ cII cJJ H_4.size 0 ad f3_unknowns f3_equations f2_roundSupports f2_stale f7_size f1_size f5_keptSize f5_aheadSize f0_solved f4_blockCount f4_blockLength f4_lastIsFree f4_stale ai al w0 w1 w2 w3 L2 L3 (by omega) (by omega) (by omega) (by omega) (by omega) (by omega) (by omega) (by omega) (by omega) (by omega) (by omega) (by omega) hI hw_w0 hw_w1 hw_w2 hw_w3
        refine k2V_v (q0 := 11) ⟨hx, hb, hml, hown, hts⟩ hK hP_2 hD_3 hS_1 hA hX cv_RX8_239 hM ⟨by decide +kernel, by decide +kernel⟩ rfl rfl (Or.inl rfl) (rest := []) rfl rfl rfl hl.1 rfl (Nat.le_of_ble_eq_true rfl) dX8_betterHand_125 ⟨Nat.le_of_ble_eq_true rfl, Nat.le_of_ble_eq_true rfl⟩ (fun t H1 locs_5 ht hB hS_5 hFc => ?_)
        obtain ⟨ai5, ⟨hI_6, hFr_r4⟩, hP_6, -, hD_6⟩ := hB
        have hF_7 := FR_tr hF hFr_r4 (by decide)
        rw [ht] at hP_6
        have hD_8 := hD_6.weaken (B := A) (fun k q _ h9 => hFc q.1 h9)
        clear ht
        generalize H1 = H_9 at hP_6 hS_5 ⊢
        exact m062_X8_betterHand_b128 C  L2 L3 L6 J4 ai5 _ _ _ (by omega) (by omega) (by omega) (by omega) (by omega) (by omega) (by omega) (by omega) (by omega) (by omega) (by omega) (by omega) (by omega) (by omega) hI_6 hF_7 hw_w0 hw_w1 hw_w2 hw_w3 hP_6 hD_8 hS_5 (lv_sub hl [0, 1, 2, 3, 4, 5] rfl)
    · have c2 := j_nle (a := r1.toInt) (b := L6.toInt) rfl rfl c2
      refine lv_aload_n hx hb dX8_betterHand_20 rfl (lv_at hl 1 rfl) ?_
      refine lv_iload hx hb dX8_betterHand_21 (lv_at hl 5 rfl) ?_
      refine lv_aload_n hx hb dX8_betterHand_23 rfl (lv_at hl 0 rfl) ?_
      refine gf (k := 4) hx hb hts inX8 hown hK hP_2 k_268 rfl (by decide) rfl 0 rfl (.ref (ad 60)) rfl dX8_betterHand_24 ?_
      have hM := m041_X2_timesInBounds l dC dI cI cJ cII cJJ H_4.size 0 ad f3_unknowns f3_equations f2_roundSupports f2_stale f7_size f1_size f5_keptSize f5_aheadSize f0_solved f4_blockCount f4_blockLength f4_lastIsFree f4_stale ai al w0 w1 w2 w3 L6 (by omega) (by omega) (by omega) (by omega) (by omega) (by omega) (by omega) (by omega) (by omega) (by omega) (by omega) (by omega) hI hw_w0 hw_w1 hw_w2 hw_w3
      refine k2V_i (q0 := 11) ⟨hx, hb, hml, hown, hts⟩ hK hP_2 hD_3 hS_1 hA hX cv_RX8_221 hM ⟨by decide +kernel, by decide +kernel⟩ rfl rfl (Or.inl rfl) (rest := []) rfl rfl rfl hl.1 rfl (Nat.le_of_ble_eq_true rfl) dX8_betterHand_27 ⟨Nat.le_of_ble_eq_true rfl, Nat.le_of_ble_eq_true rfl⟩ (fun r6 t H1 locs_10 ht hB hS_10 hFc => ?_)
      obtain ⟨gpr6_0, hP_11, -, hD_11⟩ := hB
      rw [ht] at hP_11
      have hD_12 := hD_11.weaken (B := A) (fun k q _ h9 => hFc q.1 h9)
      clear ht
      generalize H1 = H_13 at hP_11 hS_10 ⊢
      refine lv_istore (lv' := [(7, .int r6), (0, .ref (ad 0)), (1, .ref (ad 11)), (2, .int L2), (3, .int L3), (4, .long J4), (6, .int L6)]) hx hb dX8_betterHand_30 hl (by decide) rfl (fun ls_14 hl_14 => ?_)
      refine lv_iload hx hb dX8_betterHand_32 (lv_at hl_14 0 rfl) ?_
      refine lv_if_le (tgt := 106) hx hb dX8_betterHand_34 (by decide) (fun c7 => ?_) (fun c7 => ?_)
      · have c7 := j_le (a := r6.toInt) (b := 0) rfl (by decide +kernel) c7
        exact m062_X8_betterHand_b106 C n ih L2 L3 L6 r6 J4 ai _ _ _ (by omega) (by omega) (by omega) (by omega) (by omega) (by omega) (by omega) (by omega) (by omega) (by omega) (by omega) (by omega) (by omega) (by omega) (by omega) (by omega) (by omega) (by omega) hI hF hw_w0 hw_w1 hw_w2 hw_w3 hP_11 hD_12 hS_10 (lv_sub hl_14 [1, 2, 3, 4, 5, 6, 0] rfl)
      · have c7 := j_nle (a := r6.toInt) (b := 0) rfl (by decide +kernel) c7
        refine lv_aload_n hx hb dX8_betterHand_37 rfl (lv_at hl_14 2 rfl) ?_
        refine lv_iload hx hb dX8_betterHand_38 (lv_at hl_14 6 rfl) ?_
        refine lv_aload_n hx hb dX8_betterHand_40 rfl (lv_at hl_14 1 rfl) ?_
        refine gf (k := 4) hx hb hts inX8 hown hK hP_11 k_268 rfl (by decide) rfl 0 rfl (.ref (ad 60)) rfl dX8_betterHand_41 ?_
        have hM := m043_X2_slopeAt l dC dI cI cJ cII cJJ H_13.size 0 ad f3_unknowns f3_equations f2_roundSupports f2_stale f7_size f1_size f5_keptSize f5_aheadSize f0_solved f4_blockCount f4_blockLength f4_lastIsFree f4_stale ai al w0 w1 w2 w3 L6 (by omega) (by omega) (by omega) (by omega) (by omega) (by omega) (by omega) (by omega) (by omega) (by omega) (by omega) (by omega) hI hw_w0 hw_w1 hw_w2 hw_w3
        refine k2V_l (q0 := 11) ⟨hx, hb, hml, hown, hts⟩ hK hP_11 hD_12 hS_10 hA hX cv_RX8_243 hM ⟨by decide +kernel, by decide +kernel⟩ rfl rfl (Or.inl rfl) (rest := []) rfl rfl rfl hl_14.1 rfl (Nat.le_of_ble_eq_true rfl) dX8_betterHand_44 ⟨Nat.le_of_ble_eq_true rfl, Nat.le_of_ble_eq_true rfl⟩ (fun r8 t H1 locs_15 ht hB hS_15 hFc => ?_)
        obtain ⟨-, hP_16, -, hD_16⟩ := hB
        rw [ht] at hP_16
        have hD_17 := hD_16.weaken (B := A) (fun k q _ h9 => hFc q.1 h9)
        clear ht
        generalize H1 = H_18 at hP_16 hS_15 ⊢
        refine lv_lstore (lv' := [(8, .long r8), (7, .int r6), (0, .ref (ad 0)), (1, .ref (ad 11)), (2, .int L2), (3, .int L3), (4, .long J4), (6, .int L6)]) hx hb dX8_betterHand_47 hl_14 (by decide) rfl (fun ls_19 hl_19 => ?_)
        refine lv_aload_n hx hb dX8_betterHand_49 rfl (lv_at hl_19 3 rfl) ?_
        refine lv_iload hx hb dX8_betterHand_50 (lv_at hl_19 7 rfl) ?_
        have hM := m044_X2_curveOf l dC dI cI cJ cII cJJ H_18.size 0 ad f3_unknowns f3_equations f2_roundSupports f2_stale f7_size f1_size f5_keptSize f5_aheadSize f0_solved f4_blockCount f4_blockLength f4_lastIsFree f4_stale ai al w0 w1 w2 w3 L6 (by omega) (by omega) (by omega) (by omega) (by omega) (by omega) (by omega) (by omega) (by omega) (by omega) (by omega) (by omega) hI hw_w0 hw_w1 hw_w2 hw_w3
        refine k2V_l (q0 := 11) ⟨hx, hb, hml, hown, hts⟩ hK hP_16 hD_17 hS_15 hA hX cv_RX8_247 hM ⟨by decide +kernel, by decide +kernel⟩ rfl rfl (Or.inl rfl) (rest := []) rfl rfl rfl hl_19.1 rfl (Nat.le_of_ble_eq_true rfl) dX8_betterHand_52 ⟨Nat.le_of_ble_eq_true rfl, Nat.le_of_ble_eq_true rfl⟩ (fun r9 t H1 locs_20 ht hB hS_20 hFc => ?_)
        obtain ⟨-, hP_21, -, hD_21⟩ := hB
        rw [ht] at hP_21
        have hD_22 := hD_21.weaken (B := A) (fun k q _ h9 => hFc q.1 h9)
        clear ht
        generalize H1 = H_23 at hP_21 hS_20 ⊢
        refine lv_lstore (lv' := [(10, .long r9), (8, .long r8), (7, .int r6), (0, .ref (ad 0)), (1, .ref (ad 11)), (2, .int L2), (3, .int L3), (4, .long J4), (6, .int L6)]) hx hb dX8_betterHand_55 hl_19 (by decide) rfl (fun ls_24 hl_24 => ?_)
        refine lv_iconst (v := 1) hx hb dX8_betterHand_57 (by decide) ?_
        refine lv_istore (lv' := [(12, .int 1), (10, .long r9), (8, .long r8), (7, .int r6), (0, .ref (ad 0)), (1, .ref (ad 11)), (2, .int L2), (3, .int L3), (4, .long J4), (6, .int L6)]) hx hb dX8_betterHand_58 hl_24 (by decide) rfl (fun ls_25 hl_25 => ?_)
        exact m062_X8_betterHand_b60 C n ih _ L2 L3 L6 r6 1 J4 r8 r9 ai _ _ _ (by first | omega | decide | (have ka0 := (by decide +kernel : (1 : Int32).toInt = 1); omega)) (by first | omega | decide | (have ka0 := (by decide +kernel : (1 : Int32).toInt = 1); omega)) (by first | omega | decide | (have ka0 := (by decide +kernel : (1 : Int32).toInt = 1); omega)) (by first | omega | decide | (have ka0 := (by decide +kernel : (1 : Int32).toInt = 1); omega)) (by first | omega | decide | (have ka0 := (by decide +kernel : (1 : Int32).toInt = 1); omega)) (by first | omega | decide | (have ka0 := (by decide +kernel : (1 : Int32).toInt = 1); omega)) (by first | omega | decide | (have ka0 := (by decide +kernel : (1 : Int32).toInt = 1); omega)) (by first | omega | decide | (have ka0 := (by decide +kernel : (1 : Int32).toInt = 1); omega)) (by first | omega | decide | (have ka0 := (by decide +kernel : (1 : Int32).toInt = 1); omega)) (by first | omega | decide | (have ka0 := (by decide +kernel : (1 : Int32).toInt = 1); omega)) (by first | omega | decide | (have ka0 := (by decide +kernel : (1 : Int32).toInt = 1); omega)) (by first | omega | decide | (have ka0 := (by decide +kernel : (1 : Int32).toInt = 1); omega)) (by first | omega | decide | (have ka0 := (by decide +kernel : (1 : Int32).toInt = 1); omega)) (by first | omega | decide | (have ka0 := (by decide +kernel : (1 : Int32).toInt = 1); omega)) (by first | omega | decide | (have ka0 := (by decide +kernel : (1 : Int32).toInt = 1); omega)) (by first | omega | decide | (have ka0 := (by decide +kernel : (1 : Int32).toInt = 1); omega)) (by first | omega | decide | (have ka0 := (by decide +kernel : (1 : Int32).toInt = 1); omega)) (by first | omega | decide | (have ka0 := (by decide +kernel : (1 : Int32).toInt = 1); omega)) (by first | omega | decide | (have ka0 := (by decide +kernel : (1 : Int32).toInt = 1); omega)) (j_fuel _) (by omega) hI hF hw_w0 hw_w1 hw_w2 hw_w3 hP_21 hD_22 hS_20 (lv_sub hl_25 [4, 5, 6, 7, 8, 9, 3, 2, 1, 0] rfl)
set_option maxRecDepth 100000 in
set_option maxHeartbeats 4000000 in
theorem m062_X8_betterHand (l : Launch) (dC : Nat → ClassId) (dI : Nat → Nat → Nat) (cI cJ cII cJJ : ClassId) (sz g : Nat) (ad : Nat → Nat) (f3_unknowns f3_equations f2_roundSupports f2_stale f7_size f1_size f5_keptSize f5_aheadSize f0_solved f4_blockCount f4_blockLength f4_lastIsFree f4_stale : Int32) (ai : Nat → Nat → Int32) (al : Nat → Nat → Int64) (w0 w1 w2 w3 : Nat) (h_f3_unknowns : (1 ≤ f3_unknowns.toInt ∧ f3_unknowns.toInt ≤ 4)) (h_f3_equations : (0 ≤ f3_equations.toInt ∧ f3_equations.toInt ≤ 3)) (h_f2_stale : (0 ≤ f2_stale.toInt ∧ f2_stale.toInt ≤ 1)) (h_f7_size : (0 ≤ f7_size.toInt ∧ f7_size.toInt ≤ 256)) (h_f1_size : (0 ≤ f1_size.toInt ∧ f1_size.toInt ≤ 4)) (h_f5_keptSize : (0 ≤ f5_keptSize.toInt ∧ f5_keptSize.toInt ≤ 128)) (h_f5_aheadSize : (0 ≤ f5_aheadSize.toInt ∧ f5_aheadSize.toInt ≤ 128)) (h_f4_blockCount : (0 ≤ f4_blockCount.toInt ∧ f4_blockCount.toInt ≤ 9261)) (h_f4_blockLength : (0 ≤ f4_blockLength.toInt ∧ f4_blockLength.toInt ≤ 21)) (h_f4_lastIsFree : (0 ≤ f4_lastIsFree.toInt ∧ f4_lastIsFree.toInt ≤ 1)) (h_f4_stale : (0 ≤ f4_stale.toInt ∧ f4_stale.toInt ≤ 1)) (hI : IAX ai) (hw_w0 : RWX ad w0) (hw_w1 : RWX ad w1) (hw_w2 : RWX ad w2) (hw_w3 : RWX ad w3) : Met l yX8_betterHand (.code yX8_betterHand cX8_betterHand 15 (some .int) :: TT) ({ frames := 5, cells := 0, slots := 0, locals := 260 } : Room) (PcS dC dI (TY cI cJ cII cJJ) [.ref (ad 0), .ref (ad 11)] (WX cI cJ cII cJJ ad f3_unknowns f3_equations f2_roundSupports f2_stale f7_size f1_size f5_keptSize f5_aheadSize f0_solved f4_blockCount f4_blockLength f4_lastIsFree f4_stale ai al w0 w1 w2 w3) sz 0 g) (Q_m062_X8_betterHand dC dI cI cJ cII cJJ ad f3_unknowns f3_equations f2_roundSupports f2_stale f7_size f1_size f5_keptSize f5_aheadSize f0_solved f4_blockCount f4_blockLength f4_lastIsFree f4_stale ai al w0 w1 w2 w3 (va_A (WX cI cJ cII cJJ ad f3_unknowns f3_equations f2_roundSupports f2_stale f7_size f1_size f5_keptSize f5_aheadSize f0_solved f4_blockCount f4_blockLength f4_lastIsFree f4_stale ai al w0 w1 w2 w3) sz)) 0 0 (va_A (WX cI cJ cII cJJ ad f3_unknowns f3_equations f2_roundSupports f2_stale f7_size f1_size f5_keptSize f5_aheadSize f0_solved f4_blockCount f4_blockLength f4_lastIsFree f4_stale ai al w0 w1 w2 w3) sz) := by
  refine SM.of (y := yX8_betterHand) (maxL := 15) (av := [.ref (ad 0), .ref (ad 11)]) (Q_m062_X8_betterHand dC dI cI cJ cII cJJ ad f3_unknowns f3_equations f2_roundSupports f2_stale f7_size f1_size f5_keptSize f5_aheadSize f0_solved f4_blockCount f4_blockLength f4_lastIsFree f4_stale ai al w0 w1 w2 w3) (by decide +kernel) (Nat.le_of_ble_eq_true rfl) (fun p e s m below meth c A ls hx hb hr hml hown hts hk hnm hA hK hP hD hS hX hl => ?_)
  have C : Cx p c s m meth (([.ref (ad 0), .ref (ad 11)] : List Value).toArray) A dC dI (TY cI cJ cII cJJ) cX8_betterHand (some .int) 15 RX8 0 g := ⟨hx, hb, hr, hml, hown, hts, hk, hA, hK, hX⟩
  have hown : s.vm.findClass RX8 = some m.cls := hown
  have hl : lv_has ls 15 [(0, .ref (ad 0)), (1, .ref (ad 11))] := hl
  obtain ⟨H, hH⟩ : ∃ q, q = s.heap := ⟨_, rfl⟩
  rw [← hH] at hP
  have hS : va_S A s.heap H [] := by rw [hH]; exact hS
  rw [← hH]
  have hF := FR_refl [60] ai
  refine lv_ldc (v := (-99999)) hx hb hown (hts _ k_543) dX8_betterHand_0 ?_
  refine lv_istore_n (lv' := [(2, .int (-99999)), (0, .ref (ad 0)), (1, .ref (ad 11))]) hx hb dX8_betterHand_2 rfl hl (by decide) rfl (fun ls_1 hl_1 => ?_)
  refine lv_iconst (v := 0) hx hb dX8_betterHand_3 (by decide) ?_
  refine lv_istore_n (lv' := [(3, .int 0), (2, .int (-99999)), (0, .ref (ad 0)), (1, .ref (ad 11))]) hx hb dX8_betterHand_4 rfl hl_1 (by decide) rfl (fun ls_2 hl_2 => ?_)
  refine lv_lconst (v := 0) hx hb dX8_betterHand_5 (by decide) ?_
  refine lv_lstore (lv' := [(4, .long 0), (3, .int 0), (2, .int (-99999)), (0, .ref (ad 0)), (1, .ref (ad 11))]) hx hb dX8_betterHand_6 hl_2 (by decide) rfl (fun ls_3 hl_3 => ?_)
  refine lv_iconst (v := 0) hx hb dX8_betterHand_8 (by decide) ?_
  refine lv_istore (lv' := [(6, .int 0), (4, .long 0), (3, .int 0), (2, .int (-99999)), (0, .ref (ad 0)), (1, .ref (ad 11))]) hx hb dX8_betterHand_9 hl_3 (by decide) rfl (fun ls_4 hl_4 => ?_)
  exact m062_X8_betterHand_b11 C  _ (-99999) 0 0 0 ai _ _ _ (by first | omega | decide | (have ka0 := (by decide +kernel : ((-99999) : Int32).toInt = (-99999)); have ka1 := (by decide +kernel : (0 : Int32).toInt = 0); omega)) (by first | omega | decide | (have ka0 := (by decide +kernel : ((-99999) : Int32).toInt = (-99999)); have ka1 := (by decide +kernel : (0 : Int32).toInt = 0); omega)) (by first | omega | decide | (have ka0 := (by decide +kernel : ((-99999) : Int32).toInt = (-99999)); have ka1 := (by decide +kernel : (0 : Int32).toInt = 0); omega)) (by first | omega | decide | (have ka0 := (by decide +kernel : ((-99999) : Int32).toInt = (-99999)); have ka1 := (by decide +kernel : (0 : Int32).toInt = 0); omega)) (by first | omega | decide | (have ka0 := (by decide +kernel : ((-99999) : Int32).toInt = (-99999)); have ka1 := (by decide +kernel : (0 : Int32).toInt = 0); omega)) (by first | omega | decide | (have ka0 := (by decide +kernel : ((-99999) : Int32).toInt = (-99999)); have ka1 := (by decide +kernel : (0 : Int32).toInt = 0); omega)) (by first | omega | decide | (have ka0 := (by decide +kernel : ((-99999) : Int32).toInt = (-99999)); have ka1 := (by decide +kernel : (0 : Int32).toInt = 0); omega)) (by first | omega | decide | (have ka0 := (by decide +kernel : ((-99999) : Int32).toInt = (-99999)); have ka1 := (by decide +kernel : (0 : Int32).toInt = 0); omega)) (by first | omega | decide | (have ka0 := (by decide +kernel : ((-99999) : Int32).toInt = (-99999)); have ka1 := (by decide +kernel : (0 : Int32).toInt = 0); omega)) (by first | omega | decide | (have ka0 := (by decide +kernel : ((-99999) : Int32).toInt = (-99999)); have ka1 := (by decide +kernel : (0 : Int32).toInt = 0); omega)) (by first | omega | decide | (have ka0 := (by decide +kernel : ((-99999) : Int32).toInt = (-99999)); have ka1 := (by decide +kernel : (0 : Int32).toInt = 0); omega)) (by first | omega | decide | (have ka0 := (by decide +kernel : ((-99999) : Int32).toInt = (-99999)); have ka1 := (by decide +kernel : (0 : Int32).toInt = 0); omega)) (by first | omega | decide | (have ka0 := (by decide +kernel : ((-99999) : Int32).toInt = (-99999)); have ka1 := (by decide +kernel : (0 : Int32).toInt = 0); omega)) (by first | omega | decide | (have ka0 := (by decide +kernel : ((-99999) : Int32).toInt = (-99999)); have ka1 := (by decide +kernel : (0 : Int32).toInt = 0); omega)) (by first | omega | decide | (have ka0 := (by decide +kernel : ((-99999) : Int32).toInt = (-99999)); have ka1 := (by decide +kernel : (0 : Int32).toInt = 0); omega)) (j_fuel _) (by omega) hI hF hw_w0 hw_w1 hw_w2 hw_w3 hP hD hS (lv_sub hl_4 [4, 5, 3, 2, 1, 0] rfl)
def Q_m063_X7_append (dC : Nat → ClassId) (dI : Nat → Nat → Nat) (cI cJ cII cJJ : ClassId) (ad : Nat → Nat) (f3_unknowns f3_equations f2_roundSupports f2_stale f1_size f5_keptSize f5_aheadSize f0_solved f4_blockCount f4_blockLength f4_lastIsFree f4_stale : Int32) (ai : Nat → Nat → Int32) (al0 : Nat → Nat → Int64) (w0 w1 w2 w3 : Nat) : (Nat → Prop) → Array Value → State → Outcome → State → Prop := fun A => QV (fun t => ∃ (n_f7_size : Int32), ∃ (n_al : Nat → Nat → Int64), ((0 ≤ n_f7_size.toInt ∧ n_f7_size.toInt ≤ 256) ∧ FL [13] al0 n_al) ∧ WO dC dI (TY cI cJ cII cJJ) (WX cI cJ cII cJJ ad f3_unknowns f3_equations f2_roundSupports f2_stale n_f7_size f1_size f5_keptSize f5_aheadSize f0_solved f4_blockCount f4_blockLength f4_lastIsFree f4_stale ai n_al w0 w1 w2 w3) A t) A
set_option maxRecDepth 100000 in
set_option maxHeartbeats 4000000 in
theorem m063_X7_append_b29 {p : Program} {l : Launch} {e : Env} {s : State} {m : MethodId} {args : Array Value} {below : List Frame} {meth : Method} {c : Code} {A : Nat → Prop} {dC : Nat → ClassId} {dI : Nat → Nat → Nat} {cI cJ cII cJJ : ClassId} {ad : Nat → Nat} {g : Nat} {f3_unknowns f3_equations f2_roundSupports f2_stale f1_size f5_keptSize f5_aheadSize f0_solved f4_blockCount f4_blockLength f4_lastIsFree f4_stale : Int32} {ai : Nat → Nat → Int32} {al0 : Nat → Nat → Int64} {w0 w1 w2 w3 : Nat} (C : Cx p c s m meth args A dC dI (TY cI cJ cII cJJ) cX7_append none 7 RX7 0 g) : ∀ (n : Nat), ∀ (L2 L3 L6 f7_size : Int32) (J4 : Int64) (al : Nat → Nat → Int64) (H : Heap) (locs : List Loc) (ls : Array Slot), (0 ≤ L2.toInt ∧ L2.toInt ≤ 508) → (0 ≤ L6.toInt ∧ L6.toInt ≤ 4) → (1 ≤ f3_unknowns.toInt ∧ f3_unknowns.toInt ≤ 4) → (0 ≤ f3_equations.toInt ∧ f3_equations.toInt ≤ 3) → (0 ≤ f2_stale.toInt ∧ f2_stale.toInt ≤ 1) → (0 ≤ f7_size.toInt ∧ f7_size.toInt ≤ 255) → (0 ≤ f1_size.toInt ∧ f1_size.toInt ≤ 4) → (0 ≤ f5_keptSize.toInt ∧ f5_keptSize.toInt ≤ 128) → (0 ≤ f5_aheadSize.toInt ∧ f5_aheadSize.toInt ≤ 128) → (0 ≤ f4_blockCount.toInt ∧ f4_blockCount.toInt ≤ 9261) → (0 ≤ f4_blockLength.toInt ∧ f4_blockLength.toInt ≤ 21) → (0 ≤ f4_lastIsFree.toInt ∧ f4_lastIsFree.toInt ≤ 1) → (0 ≤ f4_stale.toInt ∧ f4_stale.toInt ≤ 1) → 4 - L6.toInt < (n : Int) → (0 : Int) < (n : Int) → IAX ai → FL [13] al0 al → RWX ad w0 → RWX ad w1 → RWX ad w2 → RWX ad w3 → va_P (dC, dI) vwCl (WX cI cJ cII cJJ ad f3_unknowns f3_equations f2_roundSupports f2_stale f7_size f1_size f5_keptSize f5_aheadSize f0_solved f4_blockCount f4_blockLength f4_lastIsFree f4_stale ai al w0 w1 w2 w3) H → va_D A (WX cI cJ cII cJJ ad f3_unknowns f3_equations f2_roundSupports f2_stale f7_size f1_size f5_keptSize f5_aheadSize f0_solved f4_blockCount f4_blockLength f4_lastIsFree f4_stale ai al w0 w1 w2 w3) → va_S A s.heap H locs → lv_has ls 7 [(0, .ref (ad 12)), (1, .ref (ad 23)), (2, .int L2), (3, .int L3), (4, .long J4), (6, .int L6)] → W p l e ({ frames := 2, cells := 0, slots := 0, locals := 80 } : Room) s m args below meth c H locs 0 0 (MQ below (Q_m063_X7_append dC dI cI cJ cII cJJ ad f3_unknowns f3_equations f2_roundSupports f2_stale f1_size f5_keptSize f5_aheadSize f0_solved f4_blockCount f4_blockLength f4_lastIsFree f4_stale ai al0 w0 w1 w2 w3 A) args s 0 0 A) (F0 m 29 ls []) := by
  obtain ⟨hx, hb, hr, hml, hown, hts, hk, hA, hK, hX⟩ := id C
  intro n
  induction n with
  | zero =>
    intro L2 L3 L6 f7_size J4 al H locs ls h0 h1 h2 h3 h4 h5 h6 h7 h8 h9 h10 h11 h12 h13 h14 hI hG hw_w0 hw_w1 hw_w2 hw_w3 hP hD hS hl
    exact absurd h14 (by omega)
  | succ n ih =>
    intro L2 L3 L6 f7_size J4 al H locs ls h0 h1 h2 h3 h4 h5 h6 h7 h8 h9 h10 h11 h12 h13 h14 hI hG hw_w0 hw_w1 hw_w2 hw_w3 hP hD hS hl
    have ra_L3 := s_any L3
    refine lv_iload hx hb dX7_append_29 (lv_at hl 5 rfl) ?_
    refine lv_iconst (v := 4) hx hb dX7_append_31 (by decide) ?_
    refine lv_icmp_ge (tgt := 66) hx hb dX7_append_32 (by decide) (fun c1 => ?_) (fun c1 => ?_)
    · have c1 := j_le (a := 4) (b := L6.toInt) (by decide +kernel) rfl c1
      refine lv_aload_n hx hb dX7_append_66 rfl (lv_at hl 0 rfl) ?_
      refine gf (k := 0) hx hb hts inX7 hown hK hP k_100 rfl (by decide) rfl 12 rfl (.ref (ad 13)) rfl dX7_append_67 ?_
      refine lv_aload_n hx hb dX7_append_70 rfl (lv_at hl 0 rfl) ?_
      refine gf (k := 1) hx hb hts inX7 hown hK hP k_101 rfl (by decide) rfl 12 rfl (.int f7_size) rfl dX7_append_71 ?_
      refine lv_lload hx hb dX7_append_74 (lv_at hl 4 rfl) ?_
      refine va_last hx hb hK hP hD hS 13 1 rfl rfl (j_in (a := f7_size.toInt) rfl (by omega) (by omega)) dX7_append_76 (fun H_1 locs_1 hP_1 hD_1 hS_1 => ?_)
      obtain ⟨al2, e_al2⟩ : ∃ q : Nat → Nat → Int64, q = va_up al 13 (vp_updL (al 13) f7_size.toNatClampNeg J4) := ⟨_, rfl⟩
      have hG_2 := FL_st hG e_al2 (by decide)
      have hP_3 : va_P (dC, dI) vwCl (WX cI cJ cII cJJ ad f3_unknowns f3_equations f2_roundSupports f2_stale f7_size f1_size f5_keptSize f5_aheadSize f0_solved f4_blockCount f4_blockLength f4_lastIsFree f4_stale ai al2 w0 w1 w2 w3) H_1 := by rw [e_al2]; exact hP_1
      have hD_4 : va_D A (WX cI cJ cII cJJ ad f3_unknowns f3_equations f2_roundSupports f2_stale f7_size f1_size f5_keptSize f5_aheadSize f0_solved f4_blockCount f4_blockLength f4_lastIsFree f4_stale ai al2 w0 w1 w2 w3) := by rw [e_al2]; exact hD_1
      refine lv_aload_n hx hb dX7_append_77 rfl (lv_at hl 0 rfl) ?_
      refine lv_dup hx hb dX7_append_78 rfl ?_
      refine gf (k := 1) hx hb hts inX7 hown hK hP_3 k_101 rfl (by decide) rfl 12 rfl (.int f7_size) rfl dX7_append_79 ?_
      refine lv_iconst (v := 1) hx hb dX7_append_82 (by decide) ?_
      refine v_iadd hx hb dX7_append_83 _ rfl ?_
      refine lv_topi (fun z3 e_z3 => ?_)
      have g_z3 : z3.toInt = f7_size.toInt + 1 := by rw [e_z3]; exact n_add (a := f7_size.toInt) (b := 1) rfl (by decide +kernel) (by omega) (by omega)
      refine pf (k := 1) hx hb hts inX7 tyX7_ok nmX7 hown hK hP_3 hD_4 hS_1 k_101 rfl (by decide) rfl rfl 12 rfl rfl rfl (Nat.le_of_ble_eq_true rfl) dX7_append_84 (W' := (WX cI cJ cII cJJ ad f3_unknowns f3_equations f2_roundSupports f2_stale z3 f1_size f5_keptSize f5_aheadSize f0_solved f4_blockCount f4_blockLength f4_lastIsFree f4_stale ai al2 w0 w1 w2 w3)) rfl (fun H_5 locs_5 hP_5 hD_5 hS_5 => ?_)
      exact r2_v hx hb hr hk hS_5 dX7_append_87 (fun t ht hW => ⟨z3, al2, ⟨(by first | omega | decide | exact Or.inl (by decide) | exact Or.inr (by decide) | exact Or.inr (by omega)), hG_2⟩, by rw [ht]; exact hP_5, va_K.moved hW.alike hK, hD_5⟩)
    · have c1 := j_nle (a := 4) (b := L6.toInt) (by decide +kernel) rfl c1
      refine lv_lload hx hb dX7_append_35 (lv_at hl 4 rfl) ?_
      refine lv_bipush (v := 11) hx hb dX7_append_37 (by decide) ?_
      refine lv_lshl hx hb dX7_append_39 rfl ?_
      refine lv_topl (fun yy4 e_yy4 => ?_)
      refine lv_iload_n hx hb dX7_append_40 rfl (lv_at hl 3 rfl) ?_
      refine lv_aload_n hx hb dX7_append_41 rfl (lv_at hl 1 rfl) ?_
      refine lv_iload_n hx hb dX7_append_42 rfl (lv_at hl 2 rfl) ?_
      refine lv_iload hx hb dX7_append_43 (lv_at hl 5 rfl) ?_
      refine v_iadd hx hb dX7_append_45 _ rfl ?_
      refine lv_topi (fun z5 e_z5 => ?_)
      have g_z5 : z5.toInt = L2.toInt + L6.toInt := by rw [e_z5]; exact n_add (a := L2.toInt) (b := L6.toInt) rfl rfl (by omega) (by omega)
      refine va_iald hx hb hK hP 23 0 rfl rfl (j_in (a := z5.toInt) rfl (by omega) (by omega)) dX7_append_46 ?_
      refine lv_topi (fun z6 e_z6 => ?_)
      refine v_imul hx hb dX7_append_47 _ rfl ?_
      refine lv_topi (fun z7 e_z7 => ?_)
      refine lv_sipush (v := 1024) hx hb dX7_append_48 (by decide) ?_
      refine v_iadd hx hb dX7_append_51 _ rfl ?_
      refine lv_topi (fun z8 e_z8 => ?_)
      refine lv_sipush (v := 2047) hx hb dX7_append_52 (by decide) ?_
      refine v_iand hx hb dX7_append_55 _ rfl ?_
      refine lv_topi (fun z9 e_z9 => ?_)
      refine lv_i2l hx hb dX7_append_56 rfl ?_
      refine lv_topl (fun yy10 e_yy10 => ?_)
      refine v_lor hx hb dX7_append_57 _ rfl ?_
      refine lv_topl (fun yy11 e_yy11 => ?_)
      refine lv_lstore (lv' := [(4, .long yy11), (0, .ref (ad 12)), (1, .ref (ad 23)), (2, .int L2), (3, .int L3), (6, .int L6)]) hx hb dX7_append_58 hl (by decide) rfl (fun ls_6 hl_6 => ?_)
      obtain ⟨z12, e_z12⟩ : ∃ q : Int32, q = L6 + Int32.ofInt 1 := ⟨_, rfl⟩
      have g_z12 : z12.toInt = L6.toInt + 1 := by rw [e_z12]; exact n_add (a := L6.toInt) (b := 1) rfl (by decide +kernel) (by omega) (by omega)
      refine lv_iinc (v := z12) (lv' := [(6, .int z12), (4, .long yy11), (0, .ref (ad 12)), (1, .ref (ad 23)), (2, .int L2), (3, .int L3)]) hx hb dX7_append_60 hl_6 (k := 5) rfl e_z12.symm (by decide) rfl (fun ls_7 hl_7 => ?_)
      refine lv_goto (tgt := 29) hx hb dX7_append_63 (by decide) ?_
      exact ih L2 L3 z12 f7_size yy11 al _ _ _ (by omega) (by omega) (by omega) (by omega) (by omega) (by omega) (by omega) (by omega) (by omega) (by omega) (by omega) (by omega) (by omega) (by omega) (by omega) hI hG hw_w0 hw_w1 hw_w2 hw_w3 hP hD hS (lv_sub hl_7 [2, 3, 4, 5, 1, 0] rfl)
set_option maxRecDepth 100000 in
set_option maxHeartbeats 4000000 in
theorem m063_X7_append (l : Launch) (dC : Nat → ClassId) (dI : Nat → Nat → Nat) (cI cJ cII cJJ : ClassId) (sz g : Nat) (ad : Nat → Nat) (f3_unknowns f3_equations f2_roundSupports f2_stale f7_size f1_size f5_keptSize f5_aheadSize f0_solved f4_blockCount f4_blockLength f4_lastIsFree f4_stale : Int32) (ai : Nat → Nat → Int32) (al : Nat → Nat → Int64) (w0 w1 w2 w3 : Nat) (x2 : Int32) (x3 : Int32) (h_f3_unknowns : (1 ≤ f3_unknowns.toInt ∧ f3_unknowns.toInt ≤ 4)) (h_f3_equations : (0 ≤ f3_equations.toInt ∧ f3_equations.toInt ≤ 3)) (h_f2_stale : (0 ≤ f2_stale.toInt ∧ f2_stale.toInt ≤ 1)) (h_f7_size : (0 ≤ f7_size.toInt ∧ f7_size.toInt ≤ 256)) (h_f1_size : (0 ≤ f1_size.toInt ∧ f1_size.toInt ≤ 4)) (h_f5_keptSize : (0 ≤ f5_keptSize.toInt ∧ f5_keptSize.toInt ≤ 128)) (h_f5_aheadSize : (0 ≤ f5_aheadSize.toInt ∧ f5_aheadSize.toInt ≤ 128)) (h_f4_blockCount : (0 ≤ f4_blockCount.toInt ∧ f4_blockCount.toInt ≤ 9261)) (h_f4_blockLength : (0 ≤ f4_blockLength.toInt ∧ f4_blockLength.toInt ≤ 21)) (h_f4_lastIsFree : (0 ≤ f4_lastIsFree.toInt ∧ f4_lastIsFree.toInt ≤ 1)) (h_f4_stale : (0 ≤ f4_stale.toInt ∧ f4_stale.toInt ≤ 1)) (hI : IAX ai) (hw_w0 : RWX ad w0) (hw_w1 : RWX ad w1) (hw_w2 : RWX ad w2) (hw_w3 : RWX ad w3) : Met l yX7_append (.code yX7_append cX7_append 7 none :: TT) ({ frames := 2, cells := 0, slots := 0, locals := 80 } : Room) (PcS dC dI (TY cI cJ cII cJJ) [.ref (ad 12), .ref (ad 23), .int x2, .int x3] (WX cI cJ cII cJJ ad f3_unknowns f3_equations f2_roundSupports f2_stale f7_size f1_size f5_keptSize f5_aheadSize f0_solved f4_blockCount f4_blockLength f4_lastIsFree f4_stale ai al w0 w1 w2 w3) sz 0 g) (Q_m063_X7_append dC dI cI cJ cII cJJ ad f3_unknowns f3_equations f2_roundSupports f2_stale f1_size f5_keptSize f5_aheadSize f0_solved f4_blockCount f4_blockLength f4_lastIsFree f4_stale ai al w0 w1 w2 w3 (va_A (WX cI cJ cII cJJ ad f3_unknowns f3_equations f2_roundSupports f2_stale f7_size f1_size f5_keptSize f5_aheadSize f0_solved f4_blockCount f4_blockLength f4_lastIsFree f4_stale ai al w0 w1 w2 w3) sz)) 0 0 (va_A (WX cI cJ cII cJJ ad f3_unknowns f3_equations f2_roundSupports f2_stale f7_size f1_size f5_keptSize f5_aheadSize f0_solved f4_blockCount f4_blockLength f4_lastIsFree f4_stale ai al w0 w1 w2 w3) sz) := by
  refine SM.of (y := yX7_append) (maxL := 7) (av := [.ref (ad 12), .ref (ad 23), .int x2, .int x3]) (Q_m063_X7_append dC dI cI cJ cII cJJ ad f3_unknowns f3_equations f2_roundSupports f2_stale f1_size f5_keptSize f5_aheadSize f0_solved f4_blockCount f4_blockLength f4_lastIsFree f4_stale ai al w0 w1 w2 w3) (by decide +kernel) (Nat.le_of_ble_eq_true rfl) (fun p e s m below meth c A ls hx hb hr hml hown hts hk hnm hA hK hP hD hS hX hl => ?_)
  have C : Cx p c s m meth (([.ref (ad 12), .ref (ad 23), .int x2, .int x3] : List Value).toArray) A dC dI (TY cI cJ cII cJJ) cX7_append none 7 RX7 0 g := ⟨hx, hb, hr, hml, hown, hts, hk, hA, hK, hX⟩
  have hown : s.vm.findClass RX7 = some m.cls := hown
  have hl : lv_has ls 7 [(0, .ref (ad 12)), (1, .ref (ad 23)), (2, .int x2), (3, .int x3)] := hl
  obtain ⟨H, hH⟩ : ∃ q, q = s.heap := ⟨_, rfl⟩
  rw [← hH] at hP
  have hS : va_S A s.heap H [] := by rw [hH]; exact hS
  rw [← hH]
  have hG := FL_refl [13] al
  have ra_x2 := s_any x2
  have ra_x3 := s_any x3
  refine lv_aload_n hx hb dX7_append_0 rfl (lv_at hl 0 rfl) ?_
  refine gf (k := 1) hx hb hts inX7 hown hK hP k_101 rfl (by decide) rfl 12 rfl (.int f7_size) rfl dX7_append_1 ?_
  refine lv_sipush (v := 256) hx hb dX7_append_4 (by decide) ?_
  refine lv_icmp_ge (tgt := 22) hx hb dX7_append_7 (by decide) (fun c1 => ?_) (fun c1 => ?_)
  · have c1 := j_le (a := 256) (b := f7_size.toInt) (by decide +kernel) rfl c1
    exact r2_v hx hb hr hk hS dX7_append_22 (fun t ht hW => ⟨f7_size, al, ⟨(by first | omega | decide | exact Or.inl (by decide) | exact Or.inr (by decide) | exact Or.inr (by omega)), hG⟩, by rw [ht]; exact hP, va_K.moved hW.alike hK, hD⟩)
  · have c1 := j_nle (a := 256) (b := f7_size.toInt) (by decide +kernel) rfl c1
    refine lv_iload_n hx hb dX7_append_10 rfl (lv_at hl 2 rfl) ?_
    refine lv_if_lt (tgt := 22) hx hb dX7_append_11 (by decide) (fun c2 => ?_) (fun c2 => ?_)
    · have c2 := j_lt (a := x2.toInt) (b := 0) rfl (by decide +kernel) c2
      exact r2_v hx hb hr hk hS dX7_append_22 (fun t ht hW => ⟨f7_size, al, ⟨(by first | omega | decide | exact Or.inl (by decide) | exact Or.inr (by decide) | exact Or.inr (by omega)), hG⟩, by rw [ht]; exact hP, va_K.moved hW.alike hK, hD⟩)
    · have c2 := j_nlt (a := x2.toInt) (b := 0) rfl (by decide +kernel) c2
      refine lv_iload_n hx hb dX7_append_14 rfl (lv_at hl 2 rfl) ?_
      refine lv_aload_n hx hb dX7_append_15 rfl (lv_at hl 1 rfl) ?_
      refine al_ hx hb hK hP 23 0 rfl rfl dX7_append_16 512 rfl ?_
      refine lv_iconst (v := 4) hx hb dX7_append_17 (by decide) ?_
      refine v_isub hx hb dX7_append_18 508 (by decide +kernel) ?_
      refine lv_icmp_le (tgt := 23) hx hb dX7_append_19 (by decide) (fun c3 => ?_) (fun c3 => ?_)
      · have c3 := j_le (a := x2.toInt) (b := 508) rfl (by decide +kernel) c3
        refine lv_lconst (v := 0) hx hb dX7_append_23 (by decide) ?_
        refine lv_lstore (lv' := [(4, .long 0), (0, .ref (ad 12)), (1, .ref (ad 23)), (2, .int x2), (3, .int x3)]) hx hb dX7_append_24 hl (by decide) rfl (fun ls_1 hl_1 => ?_)
        refine lv_iconst (v := 0) hx hb dX7_append_26 (by decide) ?_
        refine lv_istore (lv' := [(6, .int 0), (4, .long 0), (0, .ref (ad 12)), (1, .ref (ad 23)), (2, .int x2), (3, .int x3)]) hx hb dX7_append_27 hl_1 (by decide) rfl (fun ls_2 hl_2 => ?_)
        exact m063_X7_append_b29 C  _ x2 x3 0 f7_size 0 al _ _ _ (by first | omega | decide | (have ka0 := (by decide +kernel : (0 : Int32).toInt = 0); omega)) (by first | omega | decide | (have ka0 := (by decide +kernel : (0 : Int32).toInt = 0); omega)) (by first | omega | decide | (have ka0 := (by decide +kernel : (0 : Int32).toInt = 0); omega)) (by first | omega | decide | (have ka0 := (by decide +kernel : (0 : Int32).toInt = 0); omega)) (by first | omega | decide | (have ka0 := (by decide +kernel : (0 : Int32).toInt = 0); omega)) (by first | omega | decide | (have ka0 := (by decide +kernel : (0 : Int32).toInt = 0); omega)) (by first | omega | decide | (have ka0 := (by decide +kernel : (0 : Int32).toInt = 0); omega)) (by first | omega | decide | (have ka0 := (by decide +kernel : (0 : Int32).toInt = 0); omega)) (by first | omega | decide | (have ka0 := (by decide +kernel : (0 : Int32).toInt = 0); omega)) (by first | omega | decide | (have ka0 := (by decide +kernel : (0 : Int32).toInt = 0); omega)) (by first | omega | decide | (have ka0 := (by decide +kernel : (0 : Int32).toInt = 0); omega)) (by first | omega | decide | (have ka0 := (by decide +kernel : (0 : Int32).toInt = 0); omega)) (by first | omega | decide | (have ka0 := (by decide +kernel : (0 : Int32).toInt = 0); omega)) (j_fuel _) (by omega) hI hG hw_w0 hw_w1 hw_w2 hw_w3 hP hD hS (lv_sub hl_2 [2, 3, 4, 5, 1, 0] rfl)
      · have c3 := j_nle (a := x2.toInt) (b := 508) rfl (by decide +kernel) c3
        exact r2_v hx hb hr hk hS dX7_append_22 (fun t ht hW => ⟨f7_size, al, ⟨(by first | omega | decide | exact Or.inl (by decide) | exact Or.inr (by decide) | exact Or.inr (by omega)), hG⟩, by rw [ht]; exact hP, va_K.moved hW.alike hK, hD⟩)
