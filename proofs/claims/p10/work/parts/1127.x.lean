def Q_m173_X8_split (dC : Nat → ClassId) (dI : Nat → Nat → Nat) (cI cJ cII cJJ : ClassId) (ad : Nat → Nat) (f3_unknowns f3_equations f4_blockCount f4_blockLength f4_lastIsFree f4_stale : Int32) (ai0 : Nat → Nat → Int32) (al0 : Nat → Nat → Int64) : (Nat → Prop) → Array Value → State → Outcome → State → Prop := fun A => QI (fun r t => ∃ (n_f2_roundSupports n_f2_stale n_f7_size n_f1_size n_f5_keptSize n_f5_aheadSize n_f0_solved : Int32), ∃ (n_ai : Nat → Nat → Int32), ∃ (n_al : Nat → Nat → Int64), ∃ (n_w0 n_w1 n_w2 n_w3 : Nat), ((0 ≤ n_f2_stale.toInt ∧ n_f2_stale.toInt ≤ 0) ∧ (0 ≤ n_f7_size.toInt ∧ n_f7_size.toInt ≤ 256) ∧ (0 ≤ n_f1_size.toInt ∧ n_f1_size.toInt ≤ 4) ∧ (0 ≤ n_f5_keptSize.toInt ∧ n_f5_keptSize.toInt ≤ 128) ∧ (0 ≤ n_f5_aheadSize.toInt ∧ n_f5_aheadSize.toInt ≤ 128) ∧ IAX n_ai ∧ FR [21, 23, 24, 26, 27, 28, 61, 63] ai0 n_ai ∧ FL [13, 16, 17, 18, 19, 20] al0 n_al ∧ RWX ad n_w0 ∧ RWX ad n_w1 ∧ RWX ad n_w2 ∧ RWX ad n_w3) ∧ WO dC dI (TY cI cJ cII cJJ) (WX cI cJ cII cJJ ad f3_unknowns f3_equations n_f2_roundSupports n_f2_stale n_f7_size n_f1_size n_f5_keptSize n_f5_aheadSize n_f0_solved f4_blockCount f4_blockLength f4_lastIsFree f4_stale n_ai n_al n_w0 n_w1 n_w2 n_w3) A t) A
set_option maxRecDepth 100000 in
set_option maxHeartbeats 4000000 in
theorem m173_X8_split (l : Launch) (dC : Nat → ClassId) (dI : Nat → Nat → Nat) (cI cJ cII cJJ : ClassId) (sz g : Nat) (ad : Nat → Nat) (f3_unknowns f3_equations f2_roundSupports f2_stale f7_size f1_size f5_keptSize f5_aheadSize f0_solved f4_blockCount f4_blockLength f4_lastIsFree f4_stale : Int32) (ai : Nat → Nat → Int32) (al : Nat → Nat → Int64) (w0 w1 w2 w3 : Nat) (x1 : Int32) (h_f3_unknowns : (1 ≤ f3_unknowns.toInt ∧ f3_unknowns.toInt ≤ 4)) (h_f3_equations : (0 ≤ f3_equations.toInt ∧ f3_equations.toInt ≤ 3)) (h_f2_stale : (0 ≤ f2_stale.toInt ∧ f2_stale.toInt ≤ 1)) (h_f7_size : (0 ≤ f7_size.toInt ∧ f7_size.toInt ≤ 256)) (h_f1_size : (0 ≤ f1_size.toInt ∧ f1_size.toInt ≤ 4)) (h_f5_keptSize : (0 ≤ f5_keptSize.toInt ∧ f5_keptSize.toInt ≤ 128)) (h_f5_aheadSize : (0 ≤ f5_aheadSize.toInt ∧ f5_aheadSize.toInt ≤ 128)) (h_f4_blockCount : (0 ≤ f4_blockCount.toInt ∧ f4_blockCount.toInt ≤ 9261)) (h_f4_blockLength : (0 ≤ f4_blockLength.toInt ∧ f4_blockLength.toInt ≤ 21)) (h_f4_lastIsFree : (0 ≤ f4_lastIsFree.toInt ∧ f4_lastIsFree.toInt ≤ 1)) (h_f4_stale : (0 ≤ f4_stale.toInt ∧ f4_stale.toInt ≤ 1)) (hI : IAX ai) (hw_w0 : RWX ad w0) (hw_w1 : RWX ad w1) (hw_w2 : RWX ad w2) (hw_w3 : RWX ad w3) : Met l yX8_split (.code yX8_split cX8_split 2 (some .int) :: TT) ({ frames := 15, cells := 0, slots := 0, locals := 860 } : Room) (PcS dC dI (TY cI cJ cII cJJ) [.ref (ad 0), .int x1] (WX cI cJ cII cJJ ad f3_unknowns f3_equations f2_roundSupports f2_stale f7_size f1_size f5_keptSize f5_aheadSize f0_solved f4_blockCount f4_blockLength f4_lastIsFree f4_stale ai al w0 w1 w2 w3) sz 1 g) (Q_m173_X8_split dC dI cI cJ cII cJJ ad f3_unknowns f3_equations f4_blockCount f4_blockLength f4_lastIsFree f4_stale ai al (va_A (WX cI cJ cII cJJ ad f3_unknowns f3_equations f2_roundSupports f2_stale f7_size f1_size f5_keptSize f5_aheadSize f0_solved f4_blockCount f4_blockLength f4_lastIsFree f4_stale ai al w0 w1 w2 w3) sz)) 0 0 (va_A (WX cI cJ cII cJJ ad f3_unknowns f3_equations f2_roundSupports f2_stale f7_size f1_size f5_keptSize f5_aheadSize f0_solved f4_blockCount f4_blockLength f4_lastIsFree f4_stale ai al w0 w1 w2 w3) sz) := by
  refine SM.of (y := yX8_split) (maxL := 2) (av := [.ref (ad 0), .int x1]) (Q_m173_X8_split dC dI cI cJ cII cJJ ad f3_unknowns f3_equations f4_blockCount f4_blockLength f4_lastIsFree f4_stale ai al) (by decide +kernel) (Nat.le_of_ble_eq_true rfl) (fun p e s m below meth c A ls hx hb hr hml hown hts hk hnm hA hK hP hD hS hX hl => ?_)
  have C : Cx p c s m meth (([.ref (ad 0), .int x1] : List Value).toArray) A dC dI (TY cI cJ cII cJJ) cX8_split (some .int) 2 RX8 1 g := ⟨hx, hb, hr, hml, hown, hts, hk, hA, hK, hX⟩
  have hown : s.vm.findClass RX8 = some m.cls := hown
  have hl : lv_has ls 2 [(0, .ref (ad 0)), (1, .int x1)] := hl
  obtain ⟨H, hH⟩ : ∃ q, q = s.heap := ⟨_, rfl⟩
  rw [← hH] at hP
  have hS : va_S A s.heap H [] := by rw [hH]; exact hS
  rw [← hH]
  have hF := FR_refl [21, 23, 24, 26, 27, 28, 61, 63] ai
  have hG := FL_refl [13, 16, 17, 18, 19, 20] al
  have ra_x1 := s_any x1
  refine lv_aload_n hx hb dX8_split_0 rfl (lv_at hl 0 rfl) ?_
  have hM := m164_X8_freshSteps l dC dI cI cJ cII cJJ H.size g ad f3_unknowns f3_equations f2_roundSupports f2_stale f7_size f1_size f5_keptSize f5_aheadSize f0_solved f4_blockCount f4_blockLength f4_lastIsFree f4_stale ai al w0 w1 w2 w3 (by omega) (by omega) (by omega) (by omega) (by omega) (by omega) (by omega) (by omega) (by omega) (by omega) (by omega) hI hw_w0 hw_w1 hw_w2 hw_w3
  refine k2V_a (q0 := 0) ⟨hx, hb, hml, hown, hts⟩ hK hP hD hS hA hX cv_RX8_152 hM ⟨by decide +kernel, by decide +kernel⟩ rfl rfl (Or.inr ⟨rfl, rfl, rfl⟩) (rest := []) rfl rfl rfl hl.1 rfl (Nat.le_of_ble_eq_true rfl) dX8_split_1 ⟨Nat.le_of_ble_eq_true rfl, Nat.le_of_ble_eq_true rfl⟩ (fun t H1 locs_1 ht hB hS_1 hFc => ?_)
  obtain ⟨v2, v3, v4, v5, v6, v7, v8, ai9, al10, w11, w12, w13, w14, ⟨gpr1_0, gpr1_1, gpr1_2, gpr1_3, gpr1_4, hI_2, hFr_r1, hGr_r1, hw_w11, hw_w12, hw_w13, hw_w14⟩, hP_2, -, hD_2⟩ := hB
  have hF_3 := FR_tr hF hFr_r1 (by decide)
  have hG_4 := FL_tr hG hGr_r1 (by decide)
  rw [ht] at hP_2
  have hD_5 := hD_2.weaken (B := A) (fun k q _ h9 => hFc q.1 h9)
  clear ht
  generalize H1 = H_6 at hP_2 hS_1 ⊢
  refine lv_iload_n hx hb dX8_split_4 rfl (lv_at hl 1 rfl) ?_
  have hM := m036_X2_isStep l dC dI cI cJ cII cJJ H_6.size 0 ad f3_unknowns f3_equations v2 v3 v4 v5 v6 v7 v8 f4_blockCount f4_blockLength f4_lastIsFree f4_stale ai9 al10 w11 w12 w13 w14 x1 (by omega) (by omega) (by omega) (by omega) (by omega) (by omega) (by omega) (by omega) (by omega) (by omega) (by omega) hI_2 hw_w11 hw_w12 hw_w13 hw_w14
  refine k2V_i (q0 := 11) ⟨hx, hb, hml, hown, hts⟩ hK hP_2 hD_5 hS_1 hA hX cv_RX8_159 hM ⟨by decide +kernel, by decide +kernel⟩ rfl rfl (Or.inl rfl) (rest := []) rfl rfl rfl hl.1 rfl (Nat.le_of_ble_eq_true rfl) dX8_split_5 ⟨Nat.le_of_ble_eq_true rfl, Nat.le_of_ble_eq_true rfl⟩ (fun r15 t H1 locs_7 ht hB hS_7 hFc => ?_)
  obtain ⟨⟨gpr15_0, gpr15_1⟩, hP_8, -, hD_8⟩ := hB
  rw [ht] at hP_8
  have hD_9 := hD_8.weaken (B := A) (fun k q _ h9 => hFc q.1 h9)
  clear ht
  generalize H1 = H_10 at hP_8 hS_7 ⊢
  refine lv_if_ne (tgt := 17) hx hb dX8_split_8 (by decide) (fun c16 => ?_) (fun c16 => ?_)
  · have c16 := j_ne (a := r15.toInt) (b := 0) rfl (by decide +kernel) c16
    refine lv_aload_n hx hb dX8_split_17 rfl (lv_at hl 0 rfl) ?_
    refine gf (k := 0) hx hb hts inX8 hown hK hP_8 k_264 rfl (by decide) rfl 0 rfl (.ref (ad 6)) rfl dX8_split_18 ?_
    refine lv_aload_n hx hb dX8_split_21 rfl (lv_at hl 0 rfl) ?_
    refine gf (k := 4) hx hb hts inX8 hown hK hP_8 k_268 rfl (by decide) rfl 0 rfl (.ref (ad 60)) rfl dX8_split_22 ?_
    have hM := m007_X3_isStep l dC dI cI cJ cII cJJ H_10.size 0 ad f3_unknowns f3_equations v2 v3 v4 v5 v6 v7 v8 f4_blockCount f4_blockLength f4_lastIsFree f4_stale ai9 al10 w11 w12 w13 w14 (by omega) (by omega) (by omega) (by omega) (by omega) (by omega) (by omega) (by omega) (by omega) (by omega) (by omega) hI_2 hw_w11 hw_w12 hw_w13 hw_w14
    refine k2V_i (q0 := 6) ⟨hx, hb, hml, hown, hts⟩ hK hP_8 hD_9 hS_7 hA hX cv_RX8_170 hM ⟨by decide +kernel, by decide +kernel⟩ rfl rfl (Or.inl rfl) (rest := []) rfl rfl rfl hl.1 rfl (Nat.le_of_ble_eq_true rfl) dX8_split_25 ⟨Nat.le_of_ble_eq_true rfl, Nat.le_of_ble_eq_true rfl⟩ (fun r17 t H1 locs_11 ht hB hS_11 hFc => ?_)
    obtain ⟨gpr17_0, hP_12, -, hD_12⟩ := hB
    rw [ht] at hP_12
    have hD_13 := hD_12.weaken (B := A) (fun k q _ h9 => hFc q.1 h9)
    clear ht
    generalize H1 = H_14 at hP_12 hS_11 ⊢
    refine lv_if_ne (tgt := 38) hx hb dX8_split_28 (by decide) (fun c18 => ?_) (fun c18 => ?_)
    · have c18 := j_ne (a := r17.toInt) (b := 0) rfl (by decide +kernel) c18
      refine lv_aload_n hx hb dX8_split_38 rfl (lv_at hl 0 rfl) ?_
      refine lv_aload_n hx hb dX8_split_39 rfl (lv_at hl 0 rfl) ?_
      refine gf (k := 1) hx hb hts inX8 hown hK hP_12 k_265 rfl (by decide) rfl 0 rfl (.ref (ad 11)) rfl dX8_split_40 ?_
      refine lv_iload_n hx hb dX8_split_43 rfl (lv_at hl 1 rfl) ?_
      refine lv_iload_n hx hb dX8_split_44 rfl (lv_at hl 1 rfl) ?_
      refine lv_iconst (v := 1) hx hb dX8_split_45 (by decide) ?_
      refine v_iadd hx hb dX8_split_46 _ rfl ?_
      refine lv_topi (fun z19 e_z19 => ?_)
      have g_z19 : z19.toInt = x1.toInt + 1 := by rw [e_z19]; exact n_add (a := x1.toInt) (b := 1) rfl (by decide +kernel) (by omega) (by omega)
      have hM := m172_X8_amountsOfSplit l dC dI cI cJ cII cJJ H_14.size 0 ad f3_unknowns f3_equations v2 v3 v4 v5 v6 v7 v8 f4_blockCount f4_blockLength f4_lastIsFree f4_stale ai9 al10 w11 w12 w13 w14 x1 z19 (by omega) (by omega) (by omega) (by omega) (by omega) (by omega) (by omega) (by omega) (by omega) (by omega) (by omega) hI_2 hw_w11 hw_w12 hw_w13 hw_w14
      refine k2V_i (q0 := 0) ⟨hx, hb, hml, hown, hts⟩ hK hP_12 hD_13 hS_11 hA hX cv_RX8_180 hM ⟨by decide +kernel, by decide +kernel⟩ rfl rfl (Or.inl rfl) (rest := []) rfl rfl rfl hl.1 rfl (Nat.le_of_ble_eq_true rfl) dX8_split_47 ⟨Nat.le_of_ble_eq_true rfl, Nat.le_of_ble_eq_true rfl⟩ (fun r20 t H1 locs_15 ht hB hS_15 hFc => ?_)
      obtain ⟨ai21, ⟨hI_16, hFr_r20⟩, hP_16, -, hD_16⟩ := hB
      have hF_17 := FR_tr hF_3 hFr_r20 (by decide)
      rw [ht] at hP_16
      have hD_18 := hD_16.weaken (B := A) (fun k q _ h9 => hFc q.1 h9)
      clear ht
      generalize H1 = H_19 at hP_16 hS_15 ⊢
      exact r2_i hx hb hr hk hS_15 dX8_split_50 (fun t ht hW => ⟨v2, v3, v4, v5, v6, v7, v8, ai21, al10, w11, w12, w13, w14, ⟨(by first | omega | decide | exact Or.inl (by decide) | exact Or.inr (by decide) | exact Or.inr (by omega)), (by first | omega | decide | exact Or.inl (by decide) | exact Or.inr (by decide) | exact Or.inr (by omega)), (by first | omega | decide | exact Or.inl (by decide) | exact Or.inr (by decide) | exact Or.inr (by omega)), (by first | omega | decide | exact Or.inl (by decide) | exact Or.inr (by decide) | exact Or.inr (by omega)), (by first | omega | decide | exact Or.inl (by decide) | exact Or.inr (by decide) | exact Or.inr (by omega)), hI_16, hF_17, hG_4, hw_w11, hw_w12, hw_w13, hw_w14⟩, by rw [ht]; exact hP_16, va_K.moved hW.alike hK, hD_18⟩)
    · have c18 := j_eq (a := r17.toInt) (b := 0) rfl (by decide +kernel) c18
      refine lv_aload_n hx hb dX8_split_31 rfl (lv_at hl 0 rfl) ?_
      refine lv_bipush (v := (-5)) hx hb dX8_split_32 (by decide) ?_
      have kcm5 : ((-5) : Int32).toInt = (-5) := by decide +kernel
      have hM := m003_X8_refuse l dC dI cI cJ cII cJJ H_14.size 0 ad f3_unknowns f3_equations v2 v3 v4 v5 v6 v7 v8 f4_blockCount f4_blockLength f4_lastIsFree f4_stale ai9 al10 w11 w12 w13 w14 (-5) (by omega) (by omega) (by omega) (by omega) (by omega) (by omega) (by omega) (by omega) (by omega) (by omega) (by omega) hI_2 hw_w11 hw_w12 hw_w13 hw_w14
      refine k2V_i (q0 := 0) ⟨hx, hb, hml, hown, hts⟩ hK hP_12 hD_13 hS_11 hA hX cv_RX8_53 hM ⟨by decide +kernel, by decide +kernel⟩ rfl rfl (Or.inl rfl) (rest := []) rfl rfl rfl hl.1 rfl (Nat.le_of_ble_eq_true rfl) dX8_split_34 ⟨Nat.le_of_ble_eq_true rfl, Nat.le_of_ble_eq_true rfl⟩ (fun r22 t H1 locs_20 ht hB hS_20 hFc => ?_)
      obtain ⟨ai23, ⟨gpr22_0, hI_21, hFr_r22⟩, hP_21, -, hD_21⟩ := hB
      have hF_22 := FR_tr hF_3 hFr_r22 (by decide)
      rw [ht] at hP_21
      have hD_23 := hD_21.weaken (B := A) (fun k q _ h9 => hFc q.1 h9)
      clear ht
      generalize H1 = H_24 at hP_21 hS_20 ⊢
      exact r2_i hx hb hr hk hS_20 dX8_split_37 (fun t ht hW => ⟨v2, v3, v4, v5, v6, v7, v8, ai23, al10, w11, w12, w13, w14, ⟨(by first | omega | decide | exact Or.inl (by decide) | exact Or.inr (by decide) | exact Or.inr (by omega)), (by first | omega | decide | exact Or.inl (by decide) | exact Or.inr (by decide) | exact Or.inr (by omega)), (by first | omega | decide | exact Or.inl (by decide) | exact Or.inr (by decide) | exact Or.inr (by omega)), (by first | omega | decide | exact Or.inl (by decide) | exact Or.inr (by decide) | exact Or.inr (by omega)), (by first | omega | decide | exact Or.inl (by decide) | exact Or.inr (by decide) | exact Or.inr (by omega)), hI_21, hF_22, hG_4, hw_w11, hw_w12, hw_w13, hw_w14⟩, by rw [ht]; exact hP_21, va_K.moved hW.alike hK, hD_23⟩)
  · have c16 := j_eq (a := r15.toInt) (b := 0) rfl (by decide +kernel) c16
    refine lv_aload_n hx hb dX8_split_11 rfl (lv_at hl 0 rfl) ?_
    refine lv_iconst (v := (-1)) hx hb dX8_split_12 (by decide) ?_
    have kcm1 : ((-1) : Int32).toInt = (-1) := by decide +kernel
    have hM := m003_X8_refuse l dC dI cI cJ cII cJJ H_10.size 0 ad f3_unknowns f3_equations v2 v3 v4 v5 v6 v7 v8 f4_blockCount f4_blockLength f4_lastIsFree f4_stale ai9 al10 w11 w12 w13 w14 (-1) (by omega) (by omega) (by omega) (by omega) (by omega) (by omega) (by omega) (by omega) (by omega) (by omega) (by omega) hI_2 hw_w11 hw_w12 hw_w13 hw_w14
    refine k2V_i (q0 := 0) ⟨hx, hb, hml, hown, hts⟩ hK hP_8 hD_9 hS_7 hA hX cv_RX8_53 hM ⟨by decide +kernel, by decide +kernel⟩ rfl rfl (Or.inl rfl) (rest := []) rfl rfl rfl hl.1 rfl (Nat.le_of_ble_eq_true rfl) dX8_split_13 ⟨Nat.le_of_ble_eq_true rfl, Nat.le_of_ble_eq_true rfl⟩ (fun r24 t H1 locs_25 ht hB hS_25 hFc => ?_)
    obtain ⟨ai25, ⟨gpr24_0, hI_26, hFr_r24⟩, hP_26, -, hD_26⟩ := hB
    have hF_27 := FR_tr hF_3 hFr_r24 (by decide)
    rw [ht] at hP_26
    have hD_28 := hD_26.weaken (B := A) (fun k q _ h9 => hFc q.1 h9)
    clear ht
    generalize H1 = H_29 at hP_26 hS_25 ⊢
    exact r2_i hx hb hr hk hS_25 dX8_split_16 (fun t ht hW => ⟨v2, v3, v4, v5, v6, v7, v8, ai25, al10, w11, w12, w13, w14, ⟨(by first | omega | decide | exact Or.inl (by decide) | exact Or.inr (by decide) | exact Or.inr (by omega)), (by first | omega | decide | exact Or.inl (by decide) | exact Or.inr (by decide) | exact Or.inr (by omega)), (by first | omega | decide | exact Or.inl (by decide) | exact Or.inr (by decide) | exact Or.inr (by omega)), (by first | omega | decide | exact Or.inl (by decide) | exact Or.inr (by decide) | exact Or.inr (by omega)), (by first | omega | decide | exact Or.inl (by decide) | exact Or.inr (by decide) | exact Or.inr (by omega)), hI_26, hF_27, hG_4, hw_w11, hw_w12, hw_w13, hw_w14⟩, by rw [ht]; exact hP_26, va_K.moved hW.alike hK, hD_28⟩)
def Q_m174_X8_add (dC : Nat → ClassId) (dI : Nat → Nat → Nat) (cI cJ cII cJJ : ClassId) (ad : Nat → Nat) (f3_unknowns f3_equations f4_blockCount f4_blockLength f4_lastIsFree f4_stale : Int32) (ai0 : Nat → Nat → Int32) (al0 : Nat → Nat → Int64) : (Nat → Prop) → Array Value → State → Outcome → State → Prop := fun A => QI (fun r t => ∃ (n_f2_roundSupports n_f2_stale n_f7_size n_f1_size n_f5_keptSize n_f5_aheadSize n_f0_solved : Int32), ∃ (n_ai : Nat → Nat → Int32), ∃ (n_al : Nat → Nat → Int64), ∃ (n_w0 n_w1 n_w2 n_w3 : Nat), ((0 ≤ n_f2_stale.toInt ∧ n_f2_stale.toInt ≤ 0) ∧ (0 ≤ n_f7_size.toInt ∧ n_f7_size.toInt ≤ 256) ∧ (0 ≤ n_f1_size.toInt ∧ n_f1_size.toInt ≤ 4) ∧ (0 ≤ n_f5_keptSize.toInt ∧ n_f5_keptSize.toInt ≤ 128) ∧ (0 ≤ n_f5_aheadSize.toInt ∧ n_f5_aheadSize.toInt ≤ 128) ∧ IAX n_ai ∧ FR [21, 23, 24, 26, 27, 28, 60, 63] ai0 n_ai ∧ FL [13, 16, 17, 18, 19, 20, 62] al0 n_al ∧ RWX ad n_w0 ∧ RWX ad n_w1 ∧ RWX ad n_w2 ∧ RWX ad n_w3) ∧ WO dC dI (TY cI cJ cII cJJ) (WX cI cJ cII cJJ ad f3_unknowns f3_equations n_f2_roundSupports n_f2_stale n_f7_size n_f1_size n_f5_keptSize n_f5_aheadSize n_f0_solved f4_blockCount f4_blockLength f4_lastIsFree f4_stale n_ai n_al n_w0 n_w1 n_w2 n_w3) A t) A
set_option maxRecDepth 100000 in
set_option maxHeartbeats 4000000 in
theorem m174_X8_add_b19 {p : Program} {l : Launch} {e : Env} {s : State} {m : MethodId} {args : Array Value} {below : List Frame} {meth : Method} {c : Code} {A : Nat → Prop} {dC : Nat → ClassId} {dI : Nat → Nat → Nat} {cI cJ cII cJJ : ClassId} {ad : Nat → Nat} {g : Nat} {f3_unknowns f3_equations f4_blockCount f4_blockLength f4_lastIsFree f4_stale : Int32} {ai0 : Nat → Nat → Int32} {al0 : Nat → Nat → Int64} (C : Cx p c s m meth args A dC dI (TY cI cJ cII cJJ) cX8_add (some .int) 4 RX8 1 g) : ∀ (n : Nat), ∀ (L1 L2 L3 f2_roundSupports f2_stale f7_size f1_size f5_keptSize f5_aheadSize f0_solved : Int32) (ai : Nat → Nat → Int32) (al : Nat → Nat → Int64) (w0 w1 w2 w3 : Nat) (H : Heap) (locs : List Loc) (ls : Array Slot), (0 ≤ L1.toInt ∧ L1.toInt ≤ 255) → (0 ≤ L3.toInt ∧ L3.toInt ≤ 4) → (1 ≤ f3_unknowns.toInt ∧ f3_unknowns.toInt ≤ 4) → (0 ≤ f3_equations.toInt ∧ f3_equations.toInt ≤ 3) → (0 ≤ f2_stale.toInt ∧ f2_stale.toInt ≤ 0) → (0 ≤ f7_size.toInt ∧ f7_size.toInt ≤ 256) → (0 ≤ f1_size.toInt ∧ f1_size.toInt ≤ 4) → (0 ≤ f5_keptSize.toInt ∧ f5_keptSize.toInt ≤ 128) → (0 ≤ f5_aheadSize.toInt ∧ f5_aheadSize.toInt ≤ 128) → (0 ≤ f4_blockCount.toInt ∧ f4_blockCount.toInt ≤ 9261) → (0 ≤ f4_blockLength.toInt ∧ f4_blockLength.toInt ≤ 21) → (0 ≤ f4_lastIsFree.toInt ∧ f4_lastIsFree.toInt ≤ 1) → (0 ≤ f4_stale.toInt ∧ f4_stale.toInt ≤ 1) → 4 - L3.toInt < (n : Int) → (0 : Int) < (n : Int) → IAX ai → FR [21, 23, 24, 26, 27, 28, 60, 63] ai0 ai → FL [13, 16, 17, 18, 19, 20, 62] al0 al → RWX ad w0 → RWX ad w1 → RWX ad w2 → RWX ad w3 → va_P (dC, dI) vwCl (WX cI cJ cII cJJ ad f3_unknowns f3_equations f2_roundSupports f2_stale f7_size f1_size f5_keptSize f5_aheadSize f0_solved f4_blockCount f4_blockLength f4_lastIsFree f4_stale ai al w0 w1 w2 w3) H → va_D A (WX cI cJ cII cJJ ad f3_unknowns f3_equations f2_roundSupports f2_stale f7_size f1_size f5_keptSize f5_aheadSize f0_solved f4_blockCount f4_blockLength f4_lastIsFree f4_stale ai al w0 w1 w2 w3) → va_S A s.heap H locs → lv_has ls 4 [(0, .ref (ad 0)), (1, .int L1), (2, .int L2), (3, .int L3)] → W p l e ({ frames := 15, cells := 0, slots := 0, locals := 860 } : Room) s m args below meth c H locs 0 0 (MQ below (Q_m174_X8_add dC dI cI cJ cII cJJ ad f3_unknowns f3_equations f4_blockCount f4_blockLength f4_lastIsFree f4_stale ai0 al0 A) args s 0 0 A) (F0 m 19 ls []) := by
  obtain ⟨hx, hb, hr, hml, hown, hts, hk, hA, hK, hX⟩ := id C
  intro n
  induction n with
  | zero =>
    intro L1 L2 L3 f2_roundSupports f2_stale f7_size f1_size f5_keptSize f5_aheadSize f0_solved ai al w0 w1 w2 w3 H locs ls h0 h1 h2 h3 h4 h5 h6 h7 h8 h9 h10 h11 h12 h13 h14 hI hF hG hw_w0 hw_w1 hw_w2 hw_w3 hP hD hS hl
    exact absurd h14 (by omega)
  | succ n ih =>
    intro L1 L2 L3 f2_roundSupports f2_stale f7_size f1_size f5_keptSize f5_aheadSize f0_solved ai al w0 w1 w2 w3 H locs ls h0 h1 h2 h3 h4 h5 h6 h7 h8 h9 h10 h11 h12 h13 h14 hI hF hG hw_w0 hw_w1 hw_w2 hw_w3 hP hD hS hl
    have ra_L2 := s_any L2
    refine lv_iload_n hx hb dX8_add_19 rfl (lv_at hl 3 rfl) ?_
    refine lv_iconst (v := 4) hx hb dX8_add_20 (by decide) ?_
    refine lv_icmp_ge (tgt := 57) hx hb dX8_add_21 (by decide) (fun c1 => ?_) (fun c1 => ?_)
    · have c1 := j_le (a := 4) (b := L3.toInt) (by decide +kernel) rfl c1
      refine lv_aload_n hx hb dX8_add_57 rfl (lv_at hl 0 rfl) ?_
      have hM := m061_X8_moveHand l dC dI cI cJ cII cJJ H.size 0 ad f3_unknowns f3_equations f2_roundSupports f2_stale f7_size f1_size f5_keptSize f5_aheadSize f0_solved f4_blockCount f4_blockLength f4_lastIsFree f4_stale ai al w0 w1 w2 w3 (by omega) (by omega) (by omega) (by omega) (by omega) (by omega) (by omega) (by omega) (by omega) (by omega) (by omega) hI hw_w0 hw_w1 hw_w2 hw_w3
      refine k2V_i (q0 := 0) ⟨hx, hb, hml, hown, hts⟩ hK hP hD hS hA hX cv_RX8_184 hM ⟨by decide +kernel, by decide +kernel⟩ rfl rfl (Or.inl rfl) (rest := []) rfl rfl rfl hl.1 rfl (Nat.le_of_ble_eq_true rfl) dX8_add_58 ⟨Nat.le_of_ble_eq_true rfl, Nat.le_of_ble_eq_true rfl⟩ (fun r2 t H1 locs_1 ht hB hS_1 hFc => ?_)
      obtain ⟨ai3, ⟨hI_2, hFr_r2⟩, hP_2, -, hD_2⟩ := hB
      have hF_3 := FR_tr hF hFr_r2 (by decide)
      rw [ht] at hP_2
      have hD_4 := hD_2.weaken (B := A) (fun k q _ h9 => hFc q.1 h9)
      clear ht
      generalize H1 = H_5 at hP_2 hS_1 ⊢
      exact r2_i hx hb hr hk hS_1 dX8_add_61 (fun t ht hW => ⟨f2_roundSupports, f2_stale, f7_size, f1_size, f5_keptSize, f5_aheadSize, f0_solved, ai3, al, w0, w1, w2, w3, ⟨(by first | omega | decide | exact Or.inl (by decide) | exact Or.inr (by decide) | exact Or.inr (by omega)), (by first | omega | decide | exact Or.inl (by decide) | exact Or.inr (by decide) | exact Or.inr (by omega)), (by first | omega | decide | exact Or.inl (by decide) | exact Or.inr (by decide) | exact Or.inr (by omega)), (by first | omega | decide | exact Or.inl (by decide) | exact Or.inr (by decide) | exact Or.inr (by omega)), (by first | omega | decide | exact Or.inl (by decide) | exact Or.inr (by decide) | exact Or.inr (by omega)), hI_2, hF_3, hG, hw_w0, hw_w1, hw_w2, hw_w3⟩, by rw [ht]; exact hP_2, va_K.moved hW.alike hK, hD_4⟩)
    · have c1 := j_nle (a := 4) (b := L3.toInt) (by decide +kernel) rfl c1
      refine lv_aload_n hx hb dX8_add_24 rfl (lv_at hl 0 rfl) ?_
      refine gf (k := 6) hx hb hts inX8 hown hK hP k_270 rfl (by decide) rfl 0 rfl (.ref (ad 62)) rfl dX8_add_25 ?_
      refine lv_iload_n hx hb dX8_add_28 rfl (lv_at hl 3 rfl) ?_
      refine lv_aload_n hx hb dX8_add_29 rfl (lv_at hl 0 rfl) ?_
      refine gf (k := 4) hx hb hts inX8 hown hK hP k_268 rfl (by decide) rfl 0 rfl (.ref (ad 60)) rfl dX8_add_30 ?_
      refine lv_iload_n hx hb dX8_add_33 rfl (lv_at hl 3 rfl) ?_
      refine va_iald hx hb hK hP 60 0 rfl rfl (j_in (a := L3.toInt) rfl (by omega) (by omega)) dX8_add_34 ?_
      refine lv_topi (fun z4 e_z4 => ?_)
      refine lv_i2l hx hb dX8_add_35 rfl ?_
      refine lv_topl (fun yy5 e_yy5 => ?_)
      refine lv_iload_n hx hb dX8_add_36 rfl (lv_at hl 2 rfl) ?_
      refine lv_i2l hx hb dX8_add_37 rfl ?_
      refine lv_topl (fun yy6 e_yy6 => ?_)
      refine lv_aload_n hx hb dX8_add_38 rfl (lv_at hl 0 rfl) ?_
      refine gf (k := 1) hx hb hts inX8 hown hK hP k_265 rfl (by decide) rfl 0 rfl (.ref (ad 11)) rfl dX8_add_39 ?_
      refine lv_iload_n hx hb dX8_add_42 rfl (lv_at hl 1 rfl) ?_
      refine lv_iload_n hx hb dX8_add_43 rfl (lv_at hl 3 rfl) ?_
      have hM := m034_X2_at l dC dI cI cJ cII cJJ H.size 0 ad f3_unknowns f3_equations f2_roundSupports f2_stale f7_size f1_size f5_keptSize f5_aheadSize f0_solved f4_blockCount f4_blockLength f4_lastIsFree f4_stale ai al w0 w1 w2 w3 L1 L3 (by omega) (by omega) (by omega) (by omega) (by omega) (by omega) (by omega) (by omega) (by omega) (by omega) (by omega) (by omega) hI hw_w0 hw_w1 hw_w2 hw_w3
      refine k2V_i (q0 := 11) ⟨hx, hb, hml, hown, hts⟩ hK hP hD hS hA hX cv_RX8_163 hM ⟨by decide +kernel, by decide +kernel⟩ rfl rfl (Or.inl rfl) (rest := [.long yy6, .long yy5, .int L3, .ref (ad 62)]) rfl rfl rfl hl.1 rfl (Nat.le_of_ble_eq_true rfl) dX8_add_44 ⟨Nat.le_of_ble_eq_true rfl, Nat.le_of_ble_eq_true rfl⟩ (fun r7 t H1 locs_6 ht hB hS_6 hFc => ?_)
      obtain ⟨-, hP_7, -, hD_7⟩ := hB
      rw [ht] at hP_7
      have hD_8 := hD_7.weaken (B := A) (fun k q _ h9 => hFc q.1 h9)
      clear ht
      generalize H1 = H_9 at hP_7 hS_6 ⊢
      refine lv_i2l hx hb dX8_add_47 rfl ?_
      refine lv_topl (fun yy8 e_yy8 => ?_)
      refine v_lmul hx hb dX8_add_48 _ rfl ?_
      refine lv_topl (fun yy9 e_yy9 => ?_)
      refine v_ladd hx hb dX8_add_49 _ rfl ?_
      refine lv_topl (fun yy10 e_yy10 => ?_)
      refine va_last hx hb hK hP_7 hD_8 hS_6 62 1 rfl rfl (j_in (a := L3.toInt) rfl (by omega) (by omega)) dX8_add_50 (fun H_10 locs_10 hP_10 hD_10 hS_10 => ?_)
      obtain ⟨al11, e_al11⟩ : ∃ q : Nat → Nat → Int64, q = va_up al 62 (vp_updL (al 62) L3.toNatClampNeg yy10) := ⟨_, rfl⟩
      have hG_11 := FL_st hG e_al11 (by decide)
      have hP_12 : va_P (dC, dI) vwCl (WX cI cJ cII cJJ ad f3_unknowns f3_equations f2_roundSupports f2_stale f7_size f1_size f5_keptSize f5_aheadSize f0_solved f4_blockCount f4_blockLength f4_lastIsFree f4_stale ai al11 w0 w1 w2 w3) H_10 := by rw [e_al11]; exact hP_10
      have hD_13 : va_D A (WX cI cJ cII cJJ ad f3_unknowns f3_equations f2_roundSupports f2_stale f7_size f1_size f5_keptSize f5_aheadSize f0_solved f4_blockCount f4_blockLength f4_lastIsFree f4_stale ai al11 w0 w1 w2 w3) := by rw [e_al11]; exact hD_10
      obtain ⟨z12, e_z12⟩ : ∃ q : Int32, q = L3 + Int32.ofInt 1 := ⟨_, rfl⟩
      have g_z12 : z12.toInt = L3.toInt + 1 := by rw [e_z12]; exact n_add (a := L3.toInt) (b := 1) rfl (by decide +kernel) (by omega) (by omega)
      refine lv_iinc (v := z12) (lv' := [(3, .int z12), (0, .ref (ad 0)), (1, .int L1), (2, .int L2)]) hx hb dX8_add_51 hl (k := 3) rfl e_z12.symm (by decide) rfl (fun ls_14 hl_14 => ?_)
      refine lv_goto (tgt := 19) hx hb dX8_add_54 (by decide) ?_
      exact ih L1 L2 z12 f2_roundSupports f2_stale f7_size f1_size f5_keptSize f5_aheadSize f0_solved ai al11 w0 w1 w2 w3 _ _ _ (by omega) (by omega) (by omega) (by omega) (by omega) (by omega) (by omega) (by omega) (by omega) (by omega) (by omega) (by omega) (by omega) (by omega) (by omega) hI hF hG_11 hw_w0 hw_w1 hw_w2 hw_w3 hP_12 hD_13 hS_10 (lv_sub hl_14 [1, 2, 3, 0] rfl)
set_option maxRecDepth 100000 in
set_option maxHeartbeats 4000000 in
theorem m174_X8_add (l : Launch) (dC : Nat → ClassId) (dI : Nat → Nat → Nat) (cI cJ cII cJJ : ClassId) (sz g : Nat) (ad : Nat → Nat) (f3_unknowns f3_equations f2_roundSupports f2_stale f7_size f1_size f5_keptSize f5_aheadSize f0_solved f4_blockCount f4_blockLength f4_lastIsFree f4_stale : Int32) (ai : Nat → Nat → Int32) (al : Nat → Nat → Int64) (w0 w1 w2 w3 : Nat) (x1 : Int32) (x2 : Int32) (h_f3_unknowns : (1 ≤ f3_unknowns.toInt ∧ f3_unknowns.toInt ≤ 4)) (h_f3_equations : (0 ≤ f3_equations.toInt ∧ f3_equations.toInt ≤ 3)) (h_f2_stale : (0 ≤ f2_stale.toInt ∧ f2_stale.toInt ≤ 1)) (h_f7_size : (0 ≤ f7_size.toInt ∧ f7_size.toInt ≤ 256)) (h_f1_size : (0 ≤ f1_size.toInt ∧ f1_size.toInt ≤ 4)) (h_f5_keptSize : (0 ≤ f5_keptSize.toInt ∧ f5_keptSize.toInt ≤ 128)) (h_f5_aheadSize : (0 ≤ f5_aheadSize.toInt ∧ f5_aheadSize.toInt ≤ 128)) (h_f4_blockCount : (0 ≤ f4_blockCount.toInt ∧ f4_blockCount.toInt ≤ 9261)) (h_f4_blockLength : (0 ≤ f4_blockLength.toInt ∧ f4_blockLength.toInt ≤ 21)) (h_f4_lastIsFree : (0 ≤ f4_lastIsFree.toInt ∧ f4_lastIsFree.toInt ≤ 1)) (h_f4_stale : (0 ≤ f4_stale.toInt ∧ f4_stale.toInt ≤ 1)) (hI : IAX ai) (hw_w0 : RWX ad w0) (hw_w1 : RWX ad w1) (hw_w2 : RWX ad w2) (hw_w3 : RWX ad w3) : Met l yX8_add (.code yX8_add cX8_add 4 (some .int) :: TT) ({ frames := 15, cells := 0, slots := 0, locals := 860 } : Room) (PcS dC dI (TY cI cJ cII cJJ) [.ref (ad 0), .int x1, .int x2] (WX cI cJ cII cJJ ad f3_unknowns f3_equations f2_roundSupports f2_stale f7_size f1_size f5_keptSize f5_aheadSize f0_solved f4_blockCount f4_blockLength f4_lastIsFree f4_stale ai al w0 w1 w2 w3) sz 1 g) (Q_m174_X8_add dC dI cI cJ cII cJJ ad f3_unknowns f3_equations f4_blockCount f4_blockLength f4_lastIsFree f4_stale ai al (va_A (WX cI cJ cII cJJ ad f3_unknowns f3_equations f2_roundSupports f2_stale f7_size f1_size f5_keptSize f5_aheadSize f0_solved f4_blockCount f4_blockLength f4_lastIsFree f4_stale ai al w0 w1 w2 w3) sz)) 0 0 (va_A (WX cI cJ cII cJJ ad f3_unknowns f3_equations f2_roundSupports f2_stale f7_size f1_size f5_keptSize f5_aheadSize f0_solved f4_blockCount f4_blockLength f4_lastIsFree f4_stale ai al w0 w1 w2 w3) sz) := by
  refine SM.of (y := yX8_add) (maxL := 4) (av := [.ref (ad 0), .int x1, .int x2]) (Q_m174_X8_add dC dI cI cJ cII cJJ ad f3_unknowns f3_equations f4_blockCount f4_blockLength f4_lastIsFree f4_stale ai al) (by decide +kernel) (Nat.le_of_ble_eq_true rfl) (fun p e s m below meth c A ls hx hb hr hml hown hts hk hnm hA hK hP hD hS hX hl => ?_)
  have C : Cx p c s m meth (([.ref (ad 0), .int x1, .int x2] : List Value).toArray) A dC dI (TY cI cJ cII cJJ) cX8_add (some .int) 4 RX8 1 g := ⟨hx, hb, hr, hml, hown, hts, hk, hA, hK, hX⟩
  have hown : s.vm.findClass RX8 = some m.cls := hown
  have hl : lv_has ls 4 [(0, .ref (ad 0)), (1, .int x1), (2, .int x2)] := hl
  obtain ⟨H, hH⟩ : ∃ q, q = s.heap := ⟨_, rfl⟩
  rw [← hH] at hP
  have hS : va_S A s.heap H [] := by rw [hH]; exact hS
  rw [← hH]
  have hF := FR_refl [21, 23, 24, 26, 27, 28, 60, 63] ai
  have hG := FL_refl [13, 16, 17, 18, 19, 20, 62] al
  have ra_x1 := s_any x1
  have ra_x2 := s_any x2
  refine lv_aload_n hx hb dX8_add_0 rfl (lv_at hl 0 rfl) ?_
  have hM := m164_X8_freshSteps l dC dI cI cJ cII cJJ H.size g ad f3_unknowns f3_equations f2_roundSupports f2_stale f7_size f1_size f5_keptSize f5_aheadSize f0_solved f4_blockCount f4_blockLength f4_lastIsFree f4_stale ai al w0 w1 w2 w3 (by omega) (by omega) (by omega) (by omega) (by omega) (by omega) (by omega) (by omega) (by omega) (by omega) (by omega) hI hw_w0 hw_w1 hw_w2 hw_w3
  refine k2V_a (q0 := 0) ⟨hx, hb, hml, hown, hts⟩ hK hP hD hS hA hX cv_RX8_152 hM ⟨by decide +kernel, by decide +kernel⟩ rfl rfl (Or.inr ⟨rfl, rfl, rfl⟩) (rest := []) rfl rfl rfl hl.1 rfl (Nat.le_of_ble_eq_true rfl) dX8_add_1 ⟨Nat.le_of_ble_eq_true rfl, Nat.le_of_ble_eq_true rfl⟩ (fun t H1 locs_1 ht hB hS_1 hFc => ?_)
  obtain ⟨v2, v3, v4, v5, v6, v7, v8, ai9, al10, w11, w12, w13, w14, ⟨gpr1_0, gpr1_1, gpr1_2, gpr1_3, gpr1_4, hI_2, hFr_r1, hGr_r1, hw_w11, hw_w12, hw_w13, hw_w14⟩, hP_2, -, hD_2⟩ := hB
  have hF_3 := FR_tr hF hFr_r1 (by decide)
  have hG_4 := FL_tr hG hGr_r1 (by decide)
  rw [ht] at hP_2
  have hD_5 := hD_2.weaken (B := A) (fun k q _ h9 => hFc q.1 h9)
  clear ht
  generalize H1 = H_6 at hP_2 hS_1 ⊢
  refine lv_iload_n hx hb dX8_add_4 rfl (lv_at hl 1 rfl) ?_
  have hM := m036_X2_isStep l dC dI cI cJ cII cJJ H_6.size 0 ad f3_unknowns f3_equations v2 v3 v4 v5 v6 v7 v8 f4_blockCount f4_blockLength f4_lastIsFree f4_stale ai9 al10 w11 w12 w13 w14 x1 (by omega) (by omega) (by omega) (by omega) (by omega) (by omega) (by omega) (by omega) (by omega) (by omega) (by omega) hI_2 hw_w11 hw_w12 hw_w13 hw_w14
  refine k2V_i (q0 := 11) ⟨hx, hb, hml, hown, hts⟩ hK hP_2 hD_5 hS_1 hA hX cv_RX8_159 hM ⟨by decide +kernel, by decide +kernel⟩ rfl rfl (Or.inl rfl) (rest := []) rfl rfl rfl hl.1 rfl (Nat.le_of_ble_eq_true rfl) dX8_add_5 ⟨Nat.le_of_ble_eq_true rfl, Nat.le_of_ble_eq_true rfl⟩ (fun r15 t H1 locs_7 ht hB hS_7 hFc => ?_)
  obtain ⟨⟨gpr15_0, gpr15_1⟩, hP_8, -, hD_8⟩ := hB
  rw [ht] at hP_8
  have hD_9 := hD_8.weaken (B := A) (fun k q _ h9 => hFc q.1 h9)
  clear ht
  generalize H1 = H_10 at hP_8 hS_7 ⊢
  refine lv_if_ne (tgt := 17) hx hb dX8_add_8 (by decide) (fun c16 => ?_) (fun c16 => ?_)
  · have c16 := j_ne (a := r15.toInt) (b := 0) rfl (by decide +kernel) c16
    refine lv_iconst (v := 0) hx hb dX8_add_17 (by decide) ?_
    refine lv_istore_n (lv' := [(3, .int 0), (0, .ref (ad 0)), (1, .int x1), (2, .int x2)]) hx hb dX8_add_18 rfl hl (by decide) rfl (fun ls_11 hl_11 => ?_)
    exact m174_X8_add_b19 C  _ x1 x2 0 v2 v3 v4 v5 v6 v7 v8 ai9 al10 w11 w12 w13 w14 _ _ _ (by first | omega | decide | (have ka0 := (by decide +kernel : (0 : Int32).toInt = 0); omega)) (by first | omega | decide | (have ka0 := (by decide +kernel : (0 : Int32).toInt = 0); omega)) (by first | omega | decide | (have ka0 := (by decide +kernel : (0 : Int32).toInt = 0); omega)) (by first | omega | decide | (have ka0 := (by decide +kernel : (0 : Int32).toInt = 0); omega)) (by first | omega | decide | (have ka0 := (by decide +kernel : (0 : Int32).toInt = 0); omega)) (by first | omega | decide | (have ka0 := (by decide +kernel : (0 : Int32).toInt = 0); omega)) (by first | omega | decide | (have ka0 := (by decide +kernel : (0 : Int32).toInt = 0); omega)) (by first | omega | decide | (have ka0 := (by decide +kernel : (0 : Int32).toInt = 0); omega)) (by first | omega | decide | (have ka0 := (by decide +kernel : (0 : Int32).toInt = 0); omega)) (by first | omega | decide | (have ka0 := (by decide +kernel : (0 : Int32).toInt = 0); omega)) (by first | omega | decide | (have ka0 := (by decide +kernel : (0 : Int32).toInt = 0); omega)) (by first | omega | decide | (have ka0 := (by decide +kernel : (0 : Int32).toInt = 0); omega)) (by first | omega | decide | (have ka0 := (by decide +kernel : (0 : Int32).toInt = 0); omega)) (j_fuel _) (by omega) hI_2 hF_3 hG_4 hw_w11 hw_w12 hw_w13 hw_w14 hP_8 hD_9 hS_7 (lv_sub hl_11 [1, 2, 3, 0] rfl)
  · have c16 := j_eq (a := r15.toInt) (b := 0) rfl (by decide +kernel) c16
    refine lv_aload_n hx hb dX8_add_11 rfl (lv_at hl 0 rfl) ?_
    refine lv_iconst (v := (-1)) hx hb dX8_add_12 (by decide) ?_
    have kcm1 : ((-1) : Int32).toInt = (-1) := by decide +kernel
    have hM := m003_X8_refuse l dC dI cI cJ cII cJJ H_10.size 0 ad f3_unknowns f3_equations v2 v3 v4 v5 v6 v7 v8 f4_blockCount f4_blockLength f4_lastIsFree f4_stale ai9 al10 w11 w12 w13 w14 (-1) (by omega) (by omega) (by omega) (by omega) (by omega) (by omega) (by omega) (by omega) (by omega) (by omega) (by omega) hI_2 hw_w11 hw_w12 hw_w13 hw_w14
    refine k2V_i (q0 := 0) ⟨hx, hb, hml, hown, hts⟩ hK hP_8 hD_9 hS_7 hA hX cv_RX8_53 hM ⟨by decide +kernel, by decide +kernel⟩ rfl rfl (Or.inl rfl) (rest := []) rfl rfl rfl hl.1 rfl (Nat.le_of_ble_eq_true rfl) dX8_add_13 ⟨Nat.le_of_ble_eq_true rfl, Nat.le_of_ble_eq_true rfl⟩ (fun r17 t H1 locs_12 ht hB hS_12 hFc => ?_)
    obtain ⟨ai18, ⟨gpr17_0, hI_13, hFr_r17⟩, hP_13, -, hD_13⟩ := hB
    have hF_14 := FR_tr hF_3 hFr_r17 (by decide)
    rw [ht] at hP_13
    have hD_15 := hD_13.weaken (B := A) (fun k q _ h9 => hFc q.1 h9)
    clear ht
    generalize H1 = H_16 at hP_13 hS_12 ⊢
    exact r2_i hx hb hr hk hS_12 dX8_add_16 (fun t ht hW => ⟨v2, v3, v4, v5, v6, v7, v8, ai18, al10, w11, w12, w13, w14, ⟨(by first | omega | decide | exact Or.inl (by decide) | exact Or.inr (by decide) | exact Or.inr (by omega)), (by first | omega | decide | exact Or.inl (by decide) | exact Or.inr (by decide) | exact Or.inr (by omega)), (by first | omega | decide | exact Or.inl (by decide) | exact Or.inr (by decide) | exact Or.inr (by omega)), (by first | omega | decide | exact Or.inl (by decide) | exact Or.inr (by decide) | exact Or.inr (by omega)), (by first | omega | decide | exact Or.inl (by decide) | exact Or.inr (by decide) | exact Or.inr (by omega)), hI_13, hF_14, hG_4, hw_w11, hw_w12, hw_w13, hw_w14⟩, by rw [ht]; exact hP_13, va_K.moved hW.alike hK, hD_15⟩)
def Q_m175_X8_better (dC : Nat → ClassId) (dI : Nat → Nat → Nat) (cI cJ cII cJJ : ClassId) (ad : Nat → Nat) (f3_unknowns f3_equations f4_blockCount f4_blockLength f4_lastIsFree f4_stale : Int32) (ai0 : Nat → Nat → Int32) (al0 : Nat → Nat → Int64) : (Nat → Prop) → Array Value → State → Outcome → State → Prop := fun A => QI (fun r t => ∃ (n_f2_roundSupports n_f2_stale n_f7_size n_f1_size n_f5_keptSize n_f5_aheadSize n_f0_solved : Int32), ∃ (n_ai : Nat → Nat → Int32), ∃ (n_al : Nat → Nat → Int64), ∃ (n_w0 n_w1 n_w2 n_w3 : Nat), ((0 ≤ n_f2_stale.toInt ∧ n_f2_stale.toInt ≤ 1) ∧ (0 ≤ n_f7_size.toInt ∧ n_f7_size.toInt ≤ 256) ∧ (0 ≤ n_f1_size.toInt ∧ n_f1_size.toInt ≤ 4) ∧ (0 ≤ n_f5_keptSize.toInt ∧ n_f5_keptSize.toInt ≤ 128) ∧ (0 ≤ n_f5_aheadSize.toInt ∧ n_f5_aheadSize.toInt ≤ 128) ∧ IAX n_ai ∧ FR [21, 23, 24, 26, 27, 28, 60, 63] ai0 n_ai ∧ FL [13, 16, 17, 18, 19, 20] al0 n_al ∧ RWX ad n_w0 ∧ RWX ad n_w1 ∧ RWX ad n_w2 ∧ RWX ad n_w3) ∧ WO dC dI (TY cI cJ cII cJJ) (WX cI cJ cII cJJ ad f3_unknowns f3_equations n_f2_roundSupports n_f2_stale n_f7_size n_f1_size n_f5_keptSize n_f5_aheadSize n_f0_solved f4_blockCount f4_blockLength f4_lastIsFree f4_stale n_ai n_al n_w0 n_w1 n_w2 n_w3) A t) A
set_option maxRecDepth 100000 in
set_option maxHeartbeats 4000000 in
theorem m175_X8_better (l : Launch) (dC : Nat → ClassId) (dI : Nat → Nat → Nat) (cI cJ cII cJJ : ClassId) (sz g : Nat) (ad : Nat → Nat) (f3_unknowns f3_equations f2_roundSupports f2_stale f7_size f1_size f5_keptSize f5_aheadSize f0_solved f4_blockCount f4_blockLength f4_lastIsFree f4_stale : Int32) (ai : Nat → Nat → Int32) (al : Nat → Nat → Int64) (w0 w1 w2 w3 : Nat) (h_f3_unknowns : (1 ≤ f3_unknowns.toInt ∧ f3_unknowns.toInt ≤ 4)) (h_f3_equations : (0 ≤ f3_equations.toInt ∧ f3_equations.toInt ≤ 3)) (h_f2_stale : (0 ≤ f2_stale.toInt ∧ f2_stale.toInt ≤ 1)) (h_f7_size : (0 ≤ f7_size.toInt ∧ f7_size.toInt ≤ 256)) (h_f1_size : (0 ≤ f1_size.toInt ∧ f1_size.toInt ≤ 4)) (h_f5_keptSize : (0 ≤ f5_keptSize.toInt ∧ f5_keptSize.toInt ≤ 128)) (h_f5_aheadSize : (0 ≤ f5_aheadSize.toInt ∧ f5_aheadSize.toInt ≤ 128)) (h_f4_blockCount : (0 ≤ f4_blockCount.toInt ∧ f4_blockCount.toInt ≤ 9261)) (h_f4_blockLength : (0 ≤ f4_blockLength.toInt ∧ f4_blockLength.toInt ≤ 21)) (h_f4_lastIsFree : (0 ≤ f4_lastIsFree.toInt ∧ f4_lastIsFree.toInt ≤ 1)) (h_f4_stale : (0 ≤ f4_stale.toInt ∧ f4_stale.toInt ≤ 1)) (hI : IAX ai) (hw_w0 : RWX ad w0) (hw_w1 : RWX ad w1) (hw_w2 : RWX ad w2) (hw_w3 : RWX ad w3) : Met l yX8_better (.code yX8_better cX8_better 1 (some .int) :: TT) ({ frames := 15, cells := 0, slots := 0, locals := 860 } : Room) (PcS dC dI (TY cI cJ cII cJJ) [.ref (ad 0)] (WX cI cJ cII cJJ ad f3_unknowns f3_equations f2_roundSupports f2_stale f7_size f1_size f5_keptSize f5_aheadSize f0_solved f4_blockCount f4_blockLength f4_lastIsFree f4_stale ai al w0 w1 w2 w3) sz 1 g) (Q_m175_X8_better dC dI cI cJ cII cJJ ad f3_unknowns f3_equations f4_blockCount f4_blockLength f4_lastIsFree f4_stale ai al (va_A (WX cI cJ cII cJJ ad f3_unknowns f3_equations f2_roundSupports f2_stale f7_size f1_size f5_keptSize f5_aheadSize f0_solved f4_blockCount f4_blockLength f4_lastIsFree f4_stale ai al w0 w1 w2 w3) sz)) 0 0 (va_A (WX cI cJ cII cJJ ad f3_unknowns f3_equations f2_roundSupports f2_stale f7_size f1_size f5_keptSize f5_aheadSize f0_solved f4_blockCount f4_blockLength f4_lastIsFree f4_stale ai al w0 w1 w2 w3) sz) := by
  refine SM.of (y := yX8_better) (maxL := 1) (av := [.ref (ad 0)]) (Q_m175_X8_better dC dI cI cJ cII cJJ ad f3_unknowns f3_equations f4_blockCount f4_blockLength f4_lastIsFree f4_stale ai al) (by decide +kernel) (Nat.le_of_ble_eq_true rfl) (fun p e s m below meth c A ls hx hb hr hml hown hts hk hnm hA hK hP hD hS hX hl => ?_)
  have C : Cx p c s m meth (([.ref (ad 0)] : List Value).toArray) A dC dI (TY cI cJ cII cJJ) cX8_better (some .int) 1 RX8 1 g := ⟨hx, hb, hr, hml, hown, hts, hk, hA, hK, hX⟩
  have hown : s.vm.findClass RX8 = some m.cls := hown
  have hl : lv_has ls 1 [(0, .ref (ad 0))] := hl
  obtain ⟨H, hH⟩ : ∃ q, q = s.heap := ⟨_, rfl⟩
  rw [← hH] at hP
  have hS : va_S A s.heap H [] := by rw [hH]; exact hS
  rw [← hH]
  have hF := FR_refl [21, 23, 24, 26, 27, 28, 60, 63] ai
  have hG := FL_refl [13, 16, 17, 18, 19, 20] al
  refine lv_aload_n hx hb dX8_better_0 rfl (lv_at hl 0 rfl) ?_
  refine gf (k := 0) hx hb hts inX8 hown hK hP k_264 rfl (by decide) rfl 0 rfl (.ref (ad 6)) rfl dX8_better_1 ?_
  refine lv_aload_n hx hb dX8_better_4 rfl (lv_at hl 0 rfl) ?_
  refine gf (k := 4) hx hb hts inX8 hown hK hP k_268 rfl (by decide) rfl 0 rfl (.ref (ad 60)) rfl dX8_better_5 ?_
  have hM := m008_X3_isPlan l dC dI cI cJ cII cJJ H.size 0 ad f3_unknowns f3_equations f2_roundSupports f2_stale f7_size f1_size f5_keptSize f5_aheadSize f0_solved f4_blockCount f4_blockLength f4_lastIsFree f4_stale ai al w0 w1 w2 w3 (by omega) (by omega) (by omega) (by omega) (by omega) (by omega) (by omega) (by omega) (by omega) (by omega) (by omega) hI hw_w0 hw_w1 hw_w2 hw_w3
  refine k2V_i (q0 := 6) ⟨hx, hb, hml, hown, hts⟩ hK hP hD hS hA hX cv_RX8_173 hM ⟨by decide +kernel, by decide +kernel⟩ rfl rfl (Or.inl rfl) (rest := []) rfl rfl rfl hl.1 rfl (Nat.le_of_ble_eq_true rfl) dX8_better_8 ⟨Nat.le_of_ble_eq_true rfl, Nat.le_of_ble_eq_true rfl⟩ (fun r1 t H1 locs_1 ht hB hS_1 hFc => ?_)
  obtain ⟨gpr1_0, hP_2, -, hD_2⟩ := hB
  rw [ht] at hP_2
  have hD_3 := hD_2.weaken (B := A) (fun k q _ h9 => hFc q.1 h9)
  clear ht
  generalize H1 = H_4 at hP_2 hS_1 ⊢
  refine lv_if_ne (tgt := 21) hx hb dX8_better_11 (by decide) (fun c2 => ?_) (fun c2 => ?_)
  · have c2 := j_ne (a := r1.toInt) (b := 0) rfl (by decide +kernel) c2
    refine lv_aload_n hx hb dX8_better_21 rfl (lv_at hl 0 rfl) ?_
    refine lv_aload_n hx hb dX8_better_22 rfl (lv_at hl 0 rfl) ?_
    have hM := m164_X8_freshSteps l dC dI cI cJ cII cJJ H_4.size g ad f3_unknowns f3_equations f2_roundSupports f2_stale f7_size f1_size f5_keptSize f5_aheadSize f0_solved f4_blockCount f4_blockLength f4_lastIsFree f4_stale ai al w0 w1 w2 w3 (by omega) (by omega) (by omega) (by omega) (by omega) (by omega) (by omega) (by omega) (by omega) (by omega) (by omega) hI hw_w0 hw_w1 hw_w2 hw_w3
    refine k2V_a (q0 := 0) ⟨hx, hb, hml, hown, hts⟩ hK hP_2 hD_3 hS_1 hA hX cv_RX8_152 hM ⟨by decide +kernel, by decide +kernel⟩ rfl rfl (Or.inr ⟨rfl, rfl, rfl⟩) (rest := [.ref (ad 0)]) rfl rfl rfl hl.1 rfl (Nat.le_of_ble_eq_true rfl) dX8_better_23 ⟨Nat.le_of_ble_eq_true rfl, Nat.le_of_ble_eq_true rfl⟩ (fun t H1 locs_5 ht hB hS_5 hFc => ?_)
    obtain ⟨v4, v5, v6, v7, v8, v9, v10, ai11, al12, w13, w14, w15, w16, ⟨gpr3_0, gpr3_1, gpr3_2, gpr3_3, gpr3_4, hI_6, hFr_r3, hGr_r3, hw_w13, hw_w14, hw_w15, hw_w16⟩, hP_6, -, hD_6⟩ := hB
    have hF_7 := FR_tr hF hFr_r3 (by decide)
    have hG_8 := FL_tr hG hGr_r3 (by decide)
    rw [ht] at hP_6
    have hD_9 := hD_6.weaken (B := A) (fun k q _ h9 => hFc q.1 h9)
    clear ht
    generalize H1 = H_10 at hP_6 hS_5 ⊢
    have hM := m062_X8_betterHand l dC dI cI cJ cII cJJ H_10.size 0 ad f3_unknowns f3_equations v4 v5 v6 v7 v8 v9 v10 f4_blockCount f4_blockLength f4_lastIsFree f4_stale ai11 al12 w13 w14 w15 w16 (by omega) (by omega) (by omega) (by omega) (by omega) (by omega) (by omega) (by omega) (by omega) (by omega) (by omega) hI_6 hw_w13 hw_w14 hw_w15 hw_w16
    refine k2V_i (q0 := 0) ⟨hx, hb, hml, hown, hts⟩ hK hP_6 hD_9 hS_5 hA hX cv_RX8_191 hM ⟨by decide +kernel, by decide +kernel⟩ rfl rfl (Or.inl rfl) (rest := []) rfl rfl rfl hl.1 rfl (Nat.le_of_ble_eq_true rfl) dX8_better_26 ⟨Nat.le_of_ble_eq_true rfl, Nat.le_of_ble_eq_true rfl⟩ (fun r17 t H1 locs_11 ht hB hS_11 hFc => ?_)
    obtain ⟨ai18, ⟨gpr17_0, hI_12, hFr_r17⟩, hP_12, -, hD_12⟩ := hB
    have hF_13 := FR_tr hF_7 hFr_r17 (by decide)
    rw [ht] at hP_12
    have hD_14 := hD_12.weaken (B := A) (fun k q _ h9 => hFc q.1 h9)
    clear ht
    generalize H1 = H_15 at hP_12 hS_11 ⊢
    exact r2_i hx hb hr hk hS_11 dX8_better_29 (fun t ht hW => ⟨v4, v5, v6, v7, v8, v9, v10, ai18, al12, w13, w14, w15, w16, ⟨(by first | omega | decide | exact Or.inl (by decide) | exact Or.inr (by decide) | exact Or.inr (by omega)), (by first | omega | decide | exact Or.inl (by decide) | exact Or.inr (by decide) | exact Or.inr (by omega)), (by first | omega | decide | exact Or.inl (by decide) | exact Or.inr (by decide) | exact Or.inr (by omega)), (by first | omega | decide | exact Or.inl (by decide) | exact Or.inr (by decide) | exact Or.inr (by omega)), (by first | omega | decide | exact Or.inl (by decide) | exact Or.inr (by decide) | exact Or.inr (by omega)), hI_12, hF_13, hG_8, hw_w13, hw_w14, hw_w15, hw_w16⟩, by rw [ht]; exact hP_12, va_K.moved hW.alike hK, hD_14⟩)
  · have c2 := j_eq (a := r1.toInt) (b := 0) rfl (by decide +kernel) c2
    refine lv_aload_n hx hb dX8_better_14 rfl (lv_at hl 0 rfl) ?_
    refine lv_bipush (v := (-5)) hx hb dX8_better_15 (by decide) ?_
    have kcm5 : ((-5) : Int32).toInt = (-5) := by decide +kernel
    have hM := m003_X8_refuse l dC dI cI cJ cII cJJ H_4.size 0 ad f3_unknowns f3_equations f2_roundSupports f2_stale f7_size f1_size f5_keptSize f5_aheadSize f0_solved f4_blockCount f4_blockLength f4_lastIsFree f4_stale ai al w0 w1 w2 w3 (-5) (by omega) (by omega) (by omega) (by omega) (by omega) (by omega) (by omega) (by omega) (by omega) (by omega) (by omega) hI hw_w0 hw_w1 hw_w2 hw_w3
    refine k2V_i (q0 := 0) ⟨hx, hb, hml, hown, hts⟩ hK hP_2 hD_3 hS_1 hA hX cv_RX8_53 hM ⟨by decide +kernel, by decide +kernel⟩ rfl rfl (Or.inl rfl) (rest := []) rfl rfl rfl hl.1 rfl (Nat.le_of_ble_eq_true rfl) dX8_better_17 ⟨Nat.le_of_ble_eq_true rfl, Nat.le_of_ble_eq_true rfl⟩ (fun r19 t H1 locs_16 ht hB hS_16 hFc => ?_)
    obtain ⟨ai20, ⟨gpr19_0, hI_17, hFr_r19⟩, hP_17, -, hD_17⟩ := hB
    have hF_18 := FR_tr hF hFr_r19 (by decide)
    rw [ht] at hP_17
    have hD_19 := hD_17.weaken (B := A) (fun k q _ h9 => hFc q.1 h9)
    clear ht
    generalize H1 = H_20 at hP_17 hS_16 ⊢
    exact r2_i hx hb hr hk hS_16 dX8_better_20 (fun t ht hW => ⟨f2_roundSupports, f2_stale, f7_size, f1_size, f5_keptSize, f5_aheadSize, f0_solved, ai20, al, w0, w1, w2, w3, ⟨(by first | omega | decide | exact Or.inl (by decide) | exact Or.inr (by decide) | exact Or.inr (by omega)), (by first | omega | decide | exact Or.inl (by decide) | exact Or.inr (by decide) | exact Or.inr (by omega)), (by first | omega | decide | exact Or.inl (by decide) | exact Or.inr (by decide) | exact Or.inr (by omega)), (by first | omega | decide | exact Or.inl (by decide) | exact Or.inr (by decide) | exact Or.inr (by omega)), (by first | omega | decide | exact Or.inl (by decide) | exact Or.inr (by decide) | exact Or.inr (by omega)), hI_17, hF_18, hG, hw_w0, hw_w1, hw_w2, hw_w3⟩, by rw [ht]; exact hP_17, va_K.moved hW.alike hK, hD_19⟩)
def Q_m176_X8_best (dC : Nat → ClassId) (dI : Nat → Nat → Nat) (cI cJ cII cJJ : ClassId) (ad : Nat → Nat) (f3_unknowns f3_equations f4_blockCount f4_blockLength f4_lastIsFree f4_stale : Int32) (ai0 : Nat → Nat → Int32) (al0 : Nat → Nat → Int64) : (Nat → Prop) → Array Value → State → Outcome → State → Prop := fun A => QI (fun r t => ∃ (n_f2_roundSupports n_f2_stale n_f7_size n_f1_size n_f5_keptSize n_f5_aheadSize n_f0_solved : Int32), ∃ (n_ai : Nat → Nat → Int32), ∃ (n_al : Nat → Nat → Int64), ∃ (n_w0 n_w1 n_w2 n_w3 : Nat), ((0 ≤ n_f2_stale.toInt ∧ n_f2_stale.toInt ≤ 1) ∧ (0 ≤ n_f7_size.toInt ∧ n_f7_size.toInt ≤ 256) ∧ (0 ≤ n_f1_size.toInt ∧ n_f1_size.toInt ≤ 4) ∧ (0 ≤ n_f5_keptSize.toInt ∧ n_f5_keptSize.toInt ≤ 128) ∧ (0 ≤ n_f5_aheadSize.toInt ∧ n_f5_aheadSize.toInt ≤ 128) ∧ IAX n_ai ∧ FR [21, 23, 24, 26, 27, 28, 60, 63] ai0 n_ai ∧ FL [13, 16, 17, 18, 19, 20] al0 n_al ∧ RWX ad n_w0 ∧ RWX ad n_w1 ∧ RWX ad n_w2 ∧ RWX ad n_w3) ∧ WO dC dI (TY cI cJ cII cJJ) (WX cI cJ cII cJJ ad f3_unknowns f3_equations n_f2_roundSupports n_f2_stale n_f7_size n_f1_size n_f5_keptSize n_f5_aheadSize n_f0_solved f4_blockCount f4_blockLength f4_lastIsFree f4_stale n_ai n_al n_w0 n_w1 n_w2 n_w3) A t) A
set_option maxRecDepth 100000 in
set_option maxHeartbeats 4000000 in
theorem m176_X8_best_b50 {p : Program} {l : Launch} {e : Env} {s : State} {m : MethodId} {args : Array Value} {below : List Frame} {meth : Method} {c : Code} {A : Nat → Prop} {dC : Nat → ClassId} {dI : Nat → Nat → Nat} {cI cJ cII cJJ : ClassId} {ad : Nat → Nat} {g : Nat} {f3_unknowns f3_equations f4_blockCount f4_blockLength f4_lastIsFree f4_stale : Int32} {ai0 : Nat → Nat → Int32} {al0 : Nat → Nat → Int64} (C : Cx p c s m meth args A dC dI (TY cI cJ cII cJJ) cX8_best (some .int) 3 RX8 1 g) : ∀ (L2 f2_roundSupports f2_stale f7_size f1_size f5_keptSize f5_aheadSize f0_solved : Int32) (ai : Nat → Nat → Int32) (al : Nat → Nat → Int64) (w0 w1 w2 w3 : Nat) (H : Heap) (locs : List Loc) (ls : Array Slot), (0 ≤ L2.toInt ∧ L2.toInt ≤ 2147483646) → (1 ≤ f3_unknowns.toInt ∧ f3_unknowns.toInt ≤ 4) → (0 ≤ f3_equations.toInt ∧ f3_equations.toInt ≤ 3) → (0 ≤ f2_stale.toInt ∧ f2_stale.toInt ≤ 0) → (0 ≤ f7_size.toInt ∧ f7_size.toInt ≤ 256) → (0 ≤ f1_size.toInt ∧ f1_size.toInt ≤ 4) → (0 ≤ f5_keptSize.toInt ∧ f5_keptSize.toInt ≤ 128) → (0 ≤ f5_aheadSize.toInt ∧ f5_aheadSize.toInt ≤ 128) → (0 ≤ f4_blockCount.toInt ∧ f4_blockCount.toInt ≤ 9261) → (0 ≤ f4_blockLength.toInt ∧ f4_blockLength.toInt ≤ 21) → (0 ≤ f4_lastIsFree.toInt ∧ f4_lastIsFree.toInt ≤ 1) → (0 ≤ f4_stale.toInt ∧ f4_stale.toInt ≤ 1) → IAX ai → FR [21, 23, 24, 26, 27, 28, 60, 63] ai0 ai → FL [13, 16, 17, 18, 19, 20] al0 al → RWX ad w0 → RWX ad w1 → RWX ad w2 → RWX ad w3 → va_P (dC, dI) vwCl (WX cI cJ cII cJJ ad f3_unknowns f3_equations f2_roundSupports f2_stale f7_size f1_size f5_keptSize f5_aheadSize f0_solved f4_blockCount f4_blockLength f4_lastIsFree f4_stale ai al w0 w1 w2 w3) H → va_D A (WX cI cJ cII cJJ ad f3_unknowns f3_equations f2_roundSupports f2_stale f7_size f1_size f5_keptSize f5_aheadSize f0_solved f4_blockCount f4_blockLength f4_lastIsFree f4_stale ai al w0 w1 w2 w3) → va_S A s.heap H locs → lv_has ls 3 [(0, .ref (ad 0)), (1, .ref (ad 11)), (2, .int L2)] → W p l e ({ frames := 15, cells := 0, slots := 0, locals := 860 } : Room) s m args below meth c H locs 0 0 (MQ below (Q_m176_X8_best dC dI cI cJ cII cJJ ad f3_unknowns f3_equations f4_blockCount f4_blockLength f4_lastIsFree f4_stale ai0 al0 A) args s 0 0 A) (F0 m 50 ls []) := by
  obtain ⟨hx, hb, hr, hml, hown, hts, hk, hA, hK, hX⟩ := id C
  intro L2 f2_roundSupports f2_stale f7_size f1_size f5_keptSize f5_aheadSize f0_solved ai al w0 w1 w2 w3 H locs ls h0 h1 h2 h3 h4 h5 h6 h7 h8 h9 h10 h11 hI hF hG hw_w0 hw_w1 hw_w2 hw_w3 hP hD hS hl
  refine lv_iload_n hx hb dX8_best_50 rfl (lv_at hl 2 rfl) ?_
  exact r2_i hx hb hr hk hS dX8_best_51 (fun t ht hW => ⟨f2_roundSupports, f2_stale, f7_size, f1_size, f5_keptSize, f5_aheadSize, f0_solved, ai, al, w0, w1, w2, w3, ⟨(by first | omega | decide | exact Or.inl (by decide) | exact Or.inr (by decide) | exact Or.inr (by omega)), (by first | omega | decide | exact Or.inl (by decide) | exact Or.inr (by decide) | exact Or.inr (by omega)), (by first | omega | decide | exact Or.inl (by decide) | exact Or.inr (by decide) | exact Or.inr (by omega)), (by first | omega | decide | exact Or.inl (by decide) | exact Or.inr (by decide) | exact Or.inr (by omega)), (by first | omega | decide | exact Or.inl (by decide) | exact Or.inr (by decide) | exact Or.inr (by omega)), hI, hF, hG, hw_w0, hw_w1, hw_w2, hw_w3⟩, by rw [ht]; exact hP, va_K.moved hW.alike hK, hD⟩)
set_option maxRecDepth 100000 in
set_option maxHeartbeats 4000000 in
theorem m176_X8_best_b28 {p : Program} {l : Launch} {e : Env} {s : State} {m : MethodId} {args : Array Value} {below : List Frame} {meth : Method} {c : Code} {A : Nat → Prop} {dC : Nat → ClassId} {dI : Nat → Nat → Nat} {cI cJ cII cJJ : ClassId} {ad : Nat → Nat} {g : Nat} {f3_unknowns f3_equations f4_blockCount f4_blockLength f4_lastIsFree f4_stale : Int32} {ai0 : Nat → Nat → Int32} {al0 : Nat → Nat → Int64} (C : Cx p c s m meth args A dC dI (TY cI cJ cII cJJ) cX8_best (some .int) 3 RX8 1 g) : ∀ (n : Nat), ∀ (L2 f2_roundSupports f2_stale f7_size f1_size f5_keptSize f5_aheadSize f0_solved : Int32) (ai : Nat → Nat → Int32) (al : Nat → Nat → Int64) (w0 w1 w2 w3 : Nat) (H : Heap) (locs : List Loc) (ls : Array Slot), (0 ≤ L2.toInt ∧ L2.toInt ≤ 2147483646) → (1 ≤ f3_unknowns.toInt ∧ f3_unknowns.toInt ≤ 4) → (0 ≤ f3_equations.toInt ∧ f3_equations.toInt ≤ 3) → (0 ≤ f2_stale.toInt ∧ f2_stale.toInt ≤ 0) → (0 ≤ f7_size.toInt ∧ f7_size.toInt ≤ 256) → (0 ≤ f1_size.toInt ∧ f1_size.toInt ≤ 4) → (0 ≤ f5_keptSize.toInt ∧ f5_keptSize.toInt ≤ 128) → (0 ≤ f5_aheadSize.toInt ∧ f5_aheadSize.toInt ≤ 128) → (0 ≤ f4_blockCount.toInt ∧ f4_blockCount.toInt ≤ 9261) → (0 ≤ f4_blockLength.toInt ∧ f4_blockLength.toInt ≤ 21) → (0 ≤ f4_lastIsFree.toInt ∧ f4_lastIsFree.toInt ≤ 1) → (0 ≤ f4_stale.toInt ∧ f4_stale.toInt ≤ 1) → 200000 - L2.toInt < (n : Int) → (0 : Int) < (n : Int) → IAX ai → FR [21, 23, 24, 26, 27, 28, 60, 63] ai0 ai → FL [13, 16, 17, 18, 19, 20] al0 al → RWX ad w0 → RWX ad w1 → RWX ad w2 → RWX ad w3 → va_P (dC, dI) vwCl (WX cI cJ cII cJJ ad f3_unknowns f3_equations f2_roundSupports f2_stale f7_size f1_size f5_keptSize f5_aheadSize f0_solved f4_blockCount f4_blockLength f4_lastIsFree f4_stale ai al w0 w1 w2 w3) H → va_D A (WX cI cJ cII cJJ ad f3_unknowns f3_equations f2_roundSupports f2_stale f7_size f1_size f5_keptSize f5_aheadSize f0_solved f4_blockCount f4_blockLength f4_lastIsFree f4_stale ai al w0 w1 w2 w3) → va_S A s.heap H locs → lv_has ls 3 [(0, .ref (ad 0)), (1, .ref (ad 11)), (2, .int L2)] → W p l e ({ frames := 15, cells := 0, slots := 0, locals := 860 } : Room) s m args below meth c H locs 0 0 (MQ below (Q_m176_X8_best dC dI cI cJ cII cJJ ad f3_unknowns f3_equations f4_blockCount f4_blockLength f4_lastIsFree f4_stale ai0 al0 A) args s 0 0 A) (F0 m 28 ls []) := by
  obtain ⟨hx, hb, hr, hml, hown, hts, hk, hA, hK, hX⟩ := id C
  intro n
  induction n with
  | zero =>
    intro L2 f2_roundSupports f2_stale f7_size f1_size f5_keptSize f5_aheadSize f0_solved ai al w0 w1 w2 w3 H locs ls h0 h1 h2 h3 h4 h5 h6 h7 h8 h9 h10 h11 h12 h13 hI hF hG hw_w0 hw_w1 hw_w2 hw_w3 hP hD hS hl
    exact absurd h13 (by omega)
  | succ n ih =>
    intro L2 f2_roundSupports f2_stale f7_size f1_size f5_keptSize f5_aheadSize f0_solved ai al w0 w1 w2 w3 H locs ls h0 h1 h2 h3 h4 h5 h6 h7 h8 h9 h10 h11 h12 h13 hI hF hG hw_w0 hw_w1 hw_w2 hw_w3 hP hD hS hl
    refine lv_iload_n hx hb dX8_best_28 rfl (lv_at hl 2 rfl) ?_
    refine lv_ldc (v := 200000) hx hb hown (hts _ k_650) dX8_best_29 ?_
    refine lv_icmp_ge (tgt := 50) hx hb dX8_best_31 (by decide) (fun c1 => ?_) (fun c1 => ?_)
    · have c1 := j_le (a := 200000) (b := L2.toInt) (by decide +kernel) rfl c1
      exact m176_X8_best_b50 C  L2 f2_roundSupports f2_stale f7_size f1_size f5_keptSize f5_aheadSize f0_solved ai al w0 w1 w2 w3 _ _ _ (by omega) (by omega) (by omega) (by omega) (by omega) (by omega) (by omega) (by omega) (by omega) (by omega) (by omega) (by omega) hI hF hG hw_w0 hw_w1 hw_w2 hw_w3 hP hD hS (lv_sub hl [0, 1, 2] rfl)
    · have c1 := j_nle (a := 200000) (b := L2.toInt) (by decide +kernel) rfl c1
      refine lv_aload_n hx hb dX8_best_34 rfl (lv_at hl 0 rfl) ?_
      refine lv_aload_n hx hb dX8_best_35 rfl (lv_at hl 1 rfl) ?_
      have hM := m062_X8_betterHand l dC dI cI cJ cII cJJ H.size 0 ad f3_unknowns f3_equations f2_roundSupports f2_stale f7_size f1_size f5_keptSize f5_aheadSize f0_solved f4_blockCount f4_blockLength f4_lastIsFree f4_stale ai al w0 w1 w2 w3 (by omega) (by omega) (by omega) (by omega) (by omega) (by omega) (by omega) (by omega) (by omega) (by omega) (by omega) hI hw_w0 hw_w1 hw_w2 hw_w3
      refine k2V_i (q0 := 0) ⟨hx, hb, hml, hown, hts⟩ hK hP hD hS hA hX cv_RX8_191 hM ⟨by decide +kernel, by decide +kernel⟩ rfl rfl (Or.inl rfl) (rest := []) rfl rfl rfl hl.1 rfl (Nat.le_of_ble_eq_true rfl) dX8_best_36 ⟨Nat.le_of_ble_eq_true rfl, Nat.le_of_ble_eq_true rfl⟩ (fun r2 t H1 locs_1 ht hB hS_1 hFc => ?_)
      obtain ⟨ai3, ⟨gpr2_0, hI_2, hFr_r2⟩, hP_2, -, hD_2⟩ := hB
      have hF_3 := FR_tr hF hFr_r2 (by decide)
      rw [ht] at hP_2
      have hD_4 := hD_2.weaken (B := A) (fun k q _ h9 => hFc q.1 h9)
      clear ht
      generalize H1 = H_5 at hP_2 hS_1 ⊢
      refine lv_ldc (v := (-99999)) hx hb hown (hts _ k_543) dX8_best_39 ?_
      refine lv_icmp_eq (tgt := 50) hx hb dX8_best_41 (by decide) (fun c4 => ?_) (fun c4 => ?_)
      · have c4 := j_eq (a := r2.toInt) (b := (-99999)) rfl (by decide +kernel) c4
        exact m176_X8_best_b50 C  L2 f2_roundSupports f2_stale f7_size f1_size f5_keptSize f5_aheadSize f0_solved ai3 al w0 w1 w2 w3 _ _ _ (by omega) (by omega) (by omega) (by omega) (by omega) (by omega) (by omega) (by omega) (by omega) (by omega) (by omega) (by omega) hI_2 hF_3 hG hw_w0 hw_w1 hw_w2 hw_w3 hP_2 hD_4 hS_1 (lv_sub hl [0, 1, 2] rfl)
      · have c4 := j_ne (a := r2.toInt) (b := (-99999)) rfl (by decide +kernel) c4
        obtain ⟨z5, e_z5⟩ : ∃ q : Int32, q = L2 + Int32.ofInt 1 := ⟨_, rfl⟩
        have g_z5 : z5.toInt = L2.toInt + 1 := by rw [e_z5]; exact n_add (a := L2.toInt) (b := 1) rfl (by decide +kernel) (by omega) (by omega)
        refine lv_iinc (v := z5) (lv' := [(2, .int z5), (0, .ref (ad 0)), (1, .ref (ad 11))]) hx hb dX8_best_44 hl (k := 2) rfl e_z5.symm (by decide) rfl (fun ls_6 hl_6 => ?_)
        refine lv_goto (tgt := 28) hx hb dX8_best_47 (by decide) ?_
        exact ih z5 f2_roundSupports f2_stale f7_size f1_size f5_keptSize f5_aheadSize f0_solved ai3 al w0 w1 w2 w3 _ _ _ (by omega) (by omega) (by omega) (by omega) (by omega) (by omega) (by omega) (by omega) (by omega) (by omega) (by omega) (by omega) (by omega) (by omega) hI_2 hF_3 hG hw_w0 hw_w1 hw_w2 hw_w3 hP_2 hD_4 hS_1 (lv_sub hl_6 [1, 2, 0] rfl)
set_option maxRecDepth 100000 in
set_option maxHeartbeats 4000000 in
theorem m176_X8_best (l : Launch) (dC : Nat → ClassId) (dI : Nat → Nat → Nat) (cI cJ cII cJJ : ClassId) (sz g : Nat) (ad : Nat → Nat) (f3_unknowns f3_equations f2_roundSupports f2_stale f7_size f1_size f5_keptSize f5_aheadSize f0_solved f4_blockCount f4_blockLength f4_lastIsFree f4_stale : Int32) (ai : Nat → Nat → Int32) (al : Nat → Nat → Int64) (w0 w1 w2 w3 : Nat) (h_f3_unknowns : (1 ≤ f3_unknowns.toInt ∧ f3_unknowns.toInt ≤ 4)) (h_f3_equations : (0 ≤ f3_equations.toInt ∧ f3_equations.toInt ≤ 3)) (h_f2_stale : (0 ≤ f2_stale.toInt ∧ f2_stale.toInt ≤ 1)) (h_f7_size : (0 ≤ f7_size.toInt ∧ f7_size.toInt ≤ 256)) (h_f1_size : (0 ≤ f1_size.toInt ∧ f1_size.toInt ≤ 4)) (h_f5_keptSize : (0 ≤ f5_keptSize.toInt ∧ f5_keptSize.toInt ≤ 128)) (h_f5_aheadSize : (0 ≤ f5_aheadSize.toInt ∧ f5_aheadSize.toInt ≤ 128)) (h_f4_blockCount : (0 ≤ f4_blockCount.toInt ∧ f4_blockCount.toInt ≤ 9261)) (h_f4_blockLength : (0 ≤ f4_blockLength.toInt ∧ f4_blockLength.toInt ≤ 21)) (h_f4_lastIsFree : (0 ≤ f4_lastIsFree.toInt ∧ f4_lastIsFree.toInt ≤ 1)) (h_f4_stale : (0 ≤ f4_stale.toInt ∧ f4_stale.toInt ≤ 1)) (hI : IAX ai) (hw_w0 : RWX ad w0) (hw_w1 : RWX ad w1) (hw_w2 : RWX ad w2) (hw_w3 : RWX ad w3) : Met l yX8_best (.code yX8_best cX8_best 3 (some .int) :: TT) ({ frames := 15, cells := 0, slots := 0, locals := 860 } : Room) (PcS dC dI (TY cI cJ cII cJJ) [.ref (ad 0)] (WX cI cJ cII cJJ ad f3_unknowns f3_equations f2_roundSupports f2_stale f7_size f1_size f5_keptSize f5_aheadSize f0_solved f4_blockCount f4_blockLength f4_lastIsFree f4_stale ai al w0 w1 w2 w3) sz 1 g) (Q_m176_X8_best dC dI cI cJ cII cJJ ad f3_unknowns f3_equations f4_blockCount f4_blockLength f4_lastIsFree f4_stale ai al (va_A (WX cI cJ cII cJJ ad f3_unknowns f3_equations f2_roundSupports f2_stale f7_size f1_size f5_keptSize f5_aheadSize f0_solved f4_blockCount f4_blockLength f4_lastIsFree f4_stale ai al w0 w1 w2 w3) sz)) 0 0 (va_A (WX cI cJ cII cJJ ad f3_unknowns f3_equations f2_roundSupports f2_stale f7_size f1_size f5_keptSize f5_aheadSize f0_solved f4_blockCount f4_blockLength f4_lastIsFree f4_stale ai al w0 w1 w2 w3) sz) := by
  refine SM.of (y := yX8_best) (maxL := 3) (av := [.ref (ad 0)]) (Q_m176_X8_best dC dI cI cJ cII cJJ ad f3_unknowns f3_equations f4_blockCount f4_blockLength f4_lastIsFree f4_stale ai al) (by decide +kernel) (Nat.le_of_ble_eq_true rfl) (fun p e s m below meth c A ls hx hb hr hml hown hts hk hnm hA hK hP hD hS hX hl => ?_)
  have C : Cx p c s m meth (([.ref (ad 0)] : List Value).toArray) A dC dI (TY cI cJ cII cJJ) cX8_best (some .int) 3 RX8 1 g := ⟨hx, hb, hr, hml, hown, hts, hk, hA, hK, hX⟩
  have hown : s.vm.findClass RX8 = some m.cls := hown
  have hl : lv_has ls 3 [(0, .ref (ad 0))] := hl
  obtain ⟨H, hH⟩ : ∃ q, q = s.heap := ⟨_, rfl⟩
  rw [← hH] at hP
  have hS : va_S A s.heap H [] := by rw [hH]; exact hS
  rw [← hH]
  have hF := FR_refl [21, 23, 24, 26, 27, 28, 60, 63] ai
  have hG := FL_refl [13, 16, 17, 18, 19, 20] al
  refine lv_aload_n hx hb dX8_best_0 rfl (lv_at hl 0 rfl) ?_
  refine gf (k := 0) hx hb hts inX8 hown hK hP k_264 rfl (by decide) rfl 0 rfl (.ref (ad 6)) rfl dX8_best_1 ?_
  refine lv_aload_n hx hb dX8_best_4 rfl (lv_at hl 0 rfl) ?_
  refine gf (k := 4) hx hb hts inX8 hown hK hP k_268 rfl (by decide) rfl 0 rfl (.ref (ad 60)) rfl dX8_best_5 ?_
  have hM := m008_X3_isPlan l dC dI cI cJ cII cJJ H.size 0 ad f3_unknowns f3_equations f2_roundSupports f2_stale f7_size f1_size f5_keptSize f5_aheadSize f0_solved f4_blockCount f4_blockLength f4_lastIsFree f4_stale ai al w0 w1 w2 w3 (by omega) (by omega) (by omega) (by omega) (by omega) (by omega) (by omega) (by omega) (by omega) (by omega) (by omega) hI hw_w0 hw_w1 hw_w2 hw_w3
  refine k2V_i (q0 := 6) ⟨hx, hb, hml, hown, hts⟩ hK hP hD hS hA hX cv_RX8_173 hM ⟨by decide +kernel, by decide +kernel⟩ rfl rfl (Or.inl rfl) (rest := []) rfl rfl rfl hl.1 rfl (Nat.le_of_ble_eq_true rfl) dX8_best_8 ⟨Nat.le_of_ble_eq_true rfl, Nat.le_of_ble_eq_true rfl⟩ (fun r1 t H1 locs_1 ht hB hS_1 hFc => ?_)
  obtain ⟨gpr1_0, hP_2, -, hD_2⟩ := hB
  rw [ht] at hP_2
  have hD_3 := hD_2.weaken (B := A) (fun k q _ h9 => hFc q.1 h9)
  clear ht
  generalize H1 = H_4 at hP_2 hS_1 ⊢
  refine lv_if_ne (tgt := 21) hx hb dX8_best_11 (by decide) (fun c2 => ?_) (fun c2 => ?_)
  · have c2 := j_ne (a := r1.toInt) (b := 0) rfl (by decide +kernel) c2
    refine lv_aload_n hx hb dX8_best_21 rfl (lv_at hl 0 rfl) ?_
    have hM := m164_X8_freshSteps l dC dI cI cJ cII cJJ H_4.size g ad f3_unknowns f3_equations f2_roundSupports f2_stale f7_size f1_size f5_keptSize f5_aheadSize f0_solved f4_blockCount f4_blockLength f4_lastIsFree f4_stale ai al w0 w1 w2 w3 (by omega) (by omega) (by omega) (by omega) (by omega) (by omega) (by omega) (by omega) (by omega) (by omega) (by omega) hI hw_w0 hw_w1 hw_w2 hw_w3
    refine k2V_a (q0 := 0) ⟨hx, hb, hml, hown, hts⟩ hK hP_2 hD_3 hS_1 hA hX cv_RX8_152 hM ⟨by decide +kernel, by decide +kernel⟩ rfl rfl (Or.inr ⟨rfl, rfl, rfl⟩) (rest := []) rfl rfl rfl hl.1 rfl (Nat.le_of_ble_eq_true rfl) dX8_best_22 ⟨Nat.le_of_ble_eq_true rfl, Nat.le_of_ble_eq_true rfl⟩ (fun t H1 locs_5 ht hB hS_5 hFc => ?_)
    obtain ⟨v4, v5, v6, v7, v8, v9, v10, ai11, al12, w13, w14, w15, w16, ⟨gpr3_0, gpr3_1, gpr3_2, gpr3_3, gpr3_4, hI_6, hFr_r3, hGr_r3, hw_w13, hw_w14, hw_w15, hw_w16⟩, hP_6, -, hD_6⟩ := hB
    have hF_7 := FR_tr hF hFr_r3 (by decide)
    have hG_8 := FL_tr hG hGr_r3 (by decide)
    rw [ht] at hP_6
    have hD_9 := hD_6.weaken (B := A) (fun k q _ h9 => hFc q.1 h9)
    clear ht
    generalize H1 = H_10 at hP_6 hS_5 ⊢
    refine lv_astore_n (lv' := [(1, .ref (ad 11)), (0, .ref (ad 0))]) hx hb dX8_best_25 rfl hl (by decide) rfl (fun ls_11 hl_11 => ?_)
    refine lv_iconst (v := 0) hx hb dX8_best_26 (by decide) ?_
    refine lv_istore_n (lv' := [(2, .int 0), (1, .ref (ad 11)), (0, .ref (ad 0))]) hx hb dX8_best_27 rfl hl_11 (by decide) rfl (fun ls_12 hl_12 => ?_)
    exact m176_X8_best_b28 C  _ 0 v4 v5 v6 v7 v8 v9 v10 ai11 al12 w13 w14 w15 w16 _ _ _ (by first | omega | decide | (have ka0 := (by decide +kernel : (0 : Int32).toInt = 0); omega)) (by first | omega | decide | (have ka0 := (by decide +kernel : (0 : Int32).toInt = 0); omega)) (by first | omega | decide | (have ka0 := (by decide +kernel : (0 : Int32).toInt = 0); omega)) (by first | omega | decide | (have ka0 := (by decide +kernel : (0 : Int32).toInt = 0); omega)) (by first | omega | decide | (have ka0 := (by decide +kernel : (0 : Int32).toInt = 0); omega)) (by first | omega | decide | (have ka0 := (by decide +kernel : (0 : Int32).toInt = 0); omega)) (by first | omega | decide | (have ka0 := (by decide +kernel : (0 : Int32).toInt = 0); omega)) (by first | omega | decide | (have ka0 := (by decide +kernel : (0 : Int32).toInt = 0); omega)) (by first | omega | decide | (have ka0 := (by decide +kernel : (0 : Int32).toInt = 0); omega)) (by first | omega | decide | (have ka0 := (by decide +kernel : (0 : Int32).toInt = 0); omega)) (by first | omega | decide | (have ka0 := (by decide +kernel : (0 : Int32).toInt = 0); omega)) (by first | omega | decide | (have ka0 := (by decide +kernel : (0 : Int32).toInt = 0); omega)) (j_fuel _) (by omega) hI_6 hF_7 hG_8 hw_w13 hw_w14 hw_w15 hw_w16 hP_6 hD_9 hS_5 (lv_sub hl_12 [2, 1, 0] rfl)
  · have c2 := j_eq (a := r1.toInt) (b := 0) rfl (by decide +kernel) c2
    refine lv_aload_n hx hb dX8_best_14 rfl (lv_at hl 0 rfl) ?_
    refine lv_bipush (v := (-5)) hx hb dX8_best_15 (by decide) ?_
    have kcm5 : ((-5) : Int32).toInt = (-5) := by decide +kernel
    have hM := m003_X8_refuse l dC dI cI cJ cII cJJ H_4.size 0 ad f3_unknowns f3_equations f2_roundSupports f2_stale f7_size f1_size f5_keptSize f5_aheadSize f0_solved f4_blockCount f4_blockLength f4_lastIsFree f4_stale ai al w0 w1 w2 w3 (-5) (by omega) (by omega) (by omega) (by omega) (by omega) (by omega) (by omega) (by omega) (by omega) (by omega) (by omega) hI hw_w0 hw_w1 hw_w2 hw_w3
    refine k2V_i (q0 := 0) ⟨hx, hb, hml, hown, hts⟩ hK hP_2 hD_3 hS_1 hA hX cv_RX8_53 hM ⟨by decide +kernel, by decide +kernel⟩ rfl rfl (Or.inl rfl) (rest := []) rfl rfl rfl hl.1 rfl (Nat.le_of_ble_eq_true rfl) dX8_best_17 ⟨Nat.le_of_ble_eq_true rfl, Nat.le_of_ble_eq_true rfl⟩ (fun r17 t H1 locs_13 ht hB hS_13 hFc => ?_)
    obtain ⟨ai18, ⟨gpr17_0, hI_14, hFr_r17⟩, hP_14, -, hD_14⟩ := hB
    have hF_15 := FR_tr hF hFr_r17 (by decide)
    rw [ht] at hP_14
    have hD_16 := hD_14.weaken (B := A) (fun k q _ h9 => hFc q.1 h9)
    clear ht
    generalize H1 = H_17 at hP_14 hS_13 ⊢
    exact r2_i hx hb hr hk hS_13 dX8_best_20 (fun t ht hW => ⟨f2_roundSupports, f2_stale, f7_size, f1_size, f5_keptSize, f5_aheadSize, f0_solved, ai18, al, w0, w1, w2, w3, ⟨(by first | omega | decide | exact Or.inl (by decide) | exact Or.inr (by decide) | exact Or.inr (by omega)), (by first | omega | decide | exact Or.inl (by decide) | exact Or.inr (by decide) | exact Or.inr (by omega)), (by first | omega | decide | exact Or.inl (by decide) | exact Or.inr (by decide) | exact Or.inr (by omega)), (by first | omega | decide | exact Or.inl (by decide) | exact Or.inr (by decide) | exact Or.inr (by omega)), (by first | omega | decide | exact Or.inl (by decide) | exact Or.inr (by decide) | exact Or.inr (by omega)), hI_14, hF_15, hG, hw_w0, hw_w1, hw_w2, hw_w3⟩, by rw [ht]; exact hP_14, va_K.moved hW.alike hK, hD_16⟩)
def Q_m177_X2_timesInBounds (dC : Nat → ClassId) (dI : Nat → Nat → Nat) (cI cJ cII cJJ : ClassId) (ad : Nat → Nat) (f3_unknowns f3_equations f2_roundSupports f2_stale f7_size f1_size f5_keptSize f5_aheadSize f0_solved f4_blockCount f4_blockLength f4_lastIsFree f4_stale : Int32) (ai : Nat → Nat → Int32) (al : Nat → Nat → Int64) (w0 w1 w2 w3 : Nat) : (Nat → Prop) → Array Value → State → Outcome → State → Prop := fun A => QI (fun r t => (r.toInt ≤ 20) ∧ WO dC dI (TY cI cJ cII cJJ) (WX cI cJ cII cJJ ad f3_unknowns f3_equations f2_roundSupports f2_stale f7_size f1_size f5_keptSize f5_aheadSize f0_solved f4_blockCount f4_blockLength f4_lastIsFree f4_stale ai al w0 w1 w2 w3) A t) A
set_option maxRecDepth 100000 in
set_option maxHeartbeats 4000000 in
theorem m177_X2_timesInBounds_b96 {p : Program} {l : Launch} {e : Env} {s : State} {m : MethodId} {args : Array Value} {below : List Frame} {meth : Method} {c : Code} {A : Nat → Prop} {dC : Nat → ClassId} {dI : Nat → Nat → Nat} {cI cJ cII cJJ : ClassId} {ad : Nat → Nat} {g : Nat} {f3_unknowns f3_equations f2_roundSupports f2_stale f7_size f1_size f5_keptSize f5_aheadSize f0_solved f4_blockCount f4_blockLength f4_lastIsFree f4_stale : Int32} {ai : Nat → Nat → Int32} {al : Nat → Nat → Int64} {w0 w1 w2 w3 : Nat} (C : Cx p c s m meth args A dC dI (TY cI cJ cII cJJ) cX2_timesInBounds (some .int) 6 RX2 0 g) : ∀ (L1 L3 L4 : Int32) (H : Heap) (locs : List Loc) (ls : Array Slot), (0 ≤ L1.toInt ∧ L1.toInt ≤ 255) → L3.toInt ≤ 20 → (0 ≤ L4.toInt ∧ L4.toInt ≤ 4) → (1 ≤ f3_unknowns.toInt ∧ f3_unknowns.toInt ≤ 4) → (0 ≤ f3_equations.toInt ∧ f3_equations.toInt ≤ 3) → (0 ≤ f2_stale.toInt ∧ f2_stale.toInt ≤ 1) → (0 ≤ f7_size.toInt ∧ f7_size.toInt ≤ 256) → (0 ≤ f1_size.toInt ∧ f1_size.toInt ≤ 4) → (0 ≤ f5_keptSize.toInt ∧ f5_keptSize.toInt ≤ 128) → (0 ≤ f5_aheadSize.toInt ∧ f5_aheadSize.toInt ≤ 128) → (0 ≤ f4_blockCount.toInt ∧ f4_blockCount.toInt ≤ 9261) → (0 ≤ f4_blockLength.toInt ∧ f4_blockLength.toInt ≤ 21) → (0 ≤ f4_lastIsFree.toInt ∧ f4_lastIsFree.toInt ≤ 1) → (0 ≤ f4_stale.toInt ∧ f4_stale.toInt ≤ 1) → IAX ai → RWX ad w0 → RWX ad w1 → RWX ad w2 → RWX ad w3 → va_P (dC, dI) vwCl (WX cI cJ cII cJJ ad f3_unknowns f3_equations f2_roundSupports f2_stale f7_size f1_size f5_keptSize f5_aheadSize f0_solved f4_blockCount f4_blockLength f4_lastIsFree f4_stale ai al w0 w1 w2 w3) H → va_D A (WX cI cJ cII cJJ ad f3_unknowns f3_equations f2_roundSupports f2_stale f7_size f1_size f5_keptSize f5_aheadSize f0_solved f4_blockCount f4_blockLength f4_lastIsFree f4_stale ai al w0 w1 w2 w3) → va_S A s.heap H locs → lv_has ls 6 [(0, .ref (ad 11)), (1, .int L1), (2, .ref (ad 61)), (3, .int L3), (4, .int L4)] → W p l e ({ frames := 4, cells := 0, slots := 0, locals := 200 } : Room) s m args below meth c H locs 0 0 (MQ below (Q_m177_X2_timesInBounds dC dI cI cJ cII cJJ ad f3_unknowns f3_equations f2_roundSupports f2_stale f7_size f1_size f5_keptSize f5_aheadSize f0_solved f4_blockCount f4_blockLength f4_lastIsFree f4_stale ai al w0 w1 w2 w3 A) args s 0 0 A) (F0 m 96 ls []) := by
  obtain ⟨hx, hb, hr, hml, hown, hts, hk, hA, hK, hX⟩ := id C
  intro L1 L3 L4 H locs ls h0 h1 h2 h3 h4 h5 h6 h7 h8 h9 h10 h11 h12 h13 hI hw_w0 hw_w1 hw_w2 hw_w3 hP hD hS hl
  have ra_L3 := s_any L3
  refine lv_iload_n hx hb dX2_timesInBounds_96 rfl (lv_at hl 3 rfl) ?_
  exact r2_i hx hb hr hk hS dX2_timesInBounds_97 (fun t ht hW => ⟨(by first | omega | decide | exact Or.inl (by decide) | exact Or.inr (by decide) | exact Or.inr (by omega)), by rw [ht]; exact hP, va_K.moved hW.alike hK, hD⟩)
set_option maxRecDepth 100000 in
set_option maxHeartbeats 4000000 in
theorem m177_X2_timesInBounds_b90 {p : Program} {l : Launch} {e : Env} {s : State} {m : MethodId} {args : Array Value} {below : List Frame} {meth : Method} {c : Code} {A : Nat → Prop} {dC : Nat → ClassId} {dI : Nat → Nat → Nat} {cI cJ cII cJJ : ClassId} {ad : Nat → Nat} {g : Nat} {f3_unknowns f3_equations f2_roundSupports f2_stale f7_size f1_size f5_keptSize f5_aheadSize f0_solved f4_blockCount f4_blockLength f4_lastIsFree f4_stale : Int32} {ai : Nat → Nat → Int32} {al : Nat → Nat → Int64} {w0 w1 w2 w3 : Nat} (C : Cx p c s m meth args A dC dI (TY cI cJ cII cJJ) cX2_timesInBounds (some .int) 6 RX2 0 g) (n6 : Nat) (K6 : ∀ (L1 L3 L4 : Int32) (H : Heap) (locs : List Loc) (ls : Array Slot), (0 ≤ L1.toInt ∧ L1.toInt ≤ 255) → L3.toInt ≤ 20 → (0 ≤ L4.toInt ∧ L4.toInt ≤ 4) → (1 ≤ f3_unknowns.toInt ∧ f3_unknowns.toInt ≤ 4) → (0 ≤ f3_equations.toInt ∧ f3_equations.toInt ≤ 3) → (0 ≤ f2_stale.toInt ∧ f2_stale.toInt ≤ 1) → (0 ≤ f7_size.toInt ∧ f7_size.toInt ≤ 256) → (0 ≤ f1_size.toInt ∧ f1_size.toInt ≤ 4) → (0 ≤ f5_keptSize.toInt ∧ f5_keptSize.toInt ≤ 128) → (0 ≤ f5_aheadSize.toInt ∧ f5_aheadSize.toInt ≤ 128) → (0 ≤ f4_blockCount.toInt ∧ f4_blockCount.toInt ≤ 9261) → (0 ≤ f4_blockLength.toInt ∧ f4_blockLength.toInt ≤ 21) → (0 ≤ f4_lastIsFree.toInt ∧ f4_lastIsFree.toInt ≤ 1) → (0 ≤ f4_stale.toInt ∧ f4_stale.toInt ≤ 1) → f3_unknowns.toInt - L4.toInt < (n6 : Int) → (0 : Int) < (n6 : Int) → IAX ai → RWX ad w0 → RWX ad w1 → RWX ad w2 → RWX ad w3 → va_P (dC, dI) vwCl (WX cI cJ cII cJJ ad f3_unknowns f3_equations f2_roundSupports f2_stale f7_size f1_size f5_keptSize f5_aheadSize f0_solved f4_blockCount f4_blockLength f4_lastIsFree f4_stale ai al w0 w1 w2 w3) H → va_D A (WX cI cJ cII cJJ ad f3_unknowns f3_equations f2_roundSupports f2_stale f7_size f1_size f5_keptSize f5_aheadSize f0_solved f4_blockCount f4_blockLength f4_lastIsFree f4_stale ai al w0 w1 w2 w3) → va_S A s.heap H locs → lv_has ls 6 [(0, .ref (ad 11)), (1, .int L1), (2, .ref (ad 61)), (3, .int L3), (4, .int L4)] → W p l e ({ frames := 4, cells := 0, slots := 0, locals := 200 } : Room) s m args below meth c H locs 0 0 (MQ below (Q_m177_X2_timesInBounds dC dI cI cJ cII cJJ ad f3_unknowns f3_equations f2_roundSupports f2_stale f7_size f1_size f5_keptSize f5_aheadSize f0_solved f4_blockCount f4_blockLength f4_lastIsFree f4_stale ai al w0 w1 w2 w3 A) args s 0 0 A) (F0 m 6 ls [])) : ∀ (L1 L3 L4 L5 : Int32) (H : Heap) (locs : List Loc) (ls : Array Slot), (0 ≤ L1.toInt ∧ L1.toInt ≤ 255) → L3.toInt ≤ 20 → (0 ≤ L4.toInt ∧ L4.toInt ≤ 3) → (1 ≤ f3_unknowns.toInt ∧ f3_unknowns.toInt ≤ 4) → (0 ≤ f3_equations.toInt ∧ f3_equations.toInt ≤ 3) → (0 ≤ f2_stale.toInt ∧ f2_stale.toInt ≤ 1) → (0 ≤ f7_size.toInt ∧ f7_size.toInt ≤ 256) → (0 ≤ f1_size.toInt ∧ f1_size.toInt ≤ 4) → (0 ≤ f5_keptSize.toInt ∧ f5_keptSize.toInt ≤ 128) → (0 ≤ f5_aheadSize.toInt ∧ f5_aheadSize.toInt ≤ 128) → (0 ≤ f4_blockCount.toInt ∧ f4_blockCount.toInt ≤ 9261) → (0 ≤ f4_blockLength.toInt ∧ f4_blockLength.toInt ≤ 21) → (0 ≤ f4_lastIsFree.toInt ∧ f4_lastIsFree.toInt ≤ 1) → (0 ≤ f4_stale.toInt ∧ f4_stale.toInt ≤ 1) → L4.toInt < f3_unknowns.toInt → f3_unknowns.toInt - L4.toInt ≤ (n6 : Int) → IAX ai → RWX ad w0 → RWX ad w1 → RWX ad w2 → RWX ad w3 → va_P (dC, dI) vwCl (WX cI cJ cII cJJ ad f3_unknowns f3_equations f2_roundSupports f2_stale f7_size f1_size f5_keptSize f5_aheadSize f0_solved f4_blockCount f4_blockLength f4_lastIsFree f4_stale ai al w0 w1 w2 w3) H → va_D A (WX cI cJ cII cJJ ad f3_unknowns f3_equations f2_roundSupports f2_stale f7_size f1_size f5_keptSize f5_aheadSize f0_solved f4_blockCount f4_blockLength f4_lastIsFree f4_stale ai al w0 w1 w2 w3) → va_S A s.heap H locs → lv_has ls 6 [(0, .ref (ad 11)), (1, .int L1), (2, .ref (ad 61)), (3, .int L3), (4, .int L4), (5, .int L5)] → W p l e ({ frames := 4, cells := 0, slots := 0, locals := 200 } : Room) s m args below meth c H locs 0 0 (MQ below (Q_m177_X2_timesInBounds dC dI cI cJ cII cJJ ad f3_unknowns f3_equations f2_roundSupports f2_stale f7_size f1_size f5_keptSize f5_aheadSize f0_solved f4_blockCount f4_blockLength f4_lastIsFree f4_stale ai al w0 w1 w2 w3 A) args s 0 0 A) (F0 m 90 ls []) := by
  obtain ⟨hx, hb, hr, hml, hown, hts, hk, hA, hK, hX⟩ := id C
  intro L1 L3 L4 L5 H locs ls h0 h1 h2 h3 h4 h5 h6 h7 h8 h9 h10 h11 h12 h13 h14 h15 hI hw_w0 hw_w1 hw_w2 hw_w3 hP hD hS hl
  have ra_L3 := s_any L3
  have ra_L5 := s_any L5
  obtain ⟨z1, e_z1⟩ : ∃ q : Int32, q = L4 + Int32.ofInt 1 := ⟨_, rfl⟩
  have g_z1 : z1.toInt = L4.toInt + 1 := by rw [e_z1]; exact n_add (a := L4.toInt) (b := 1) rfl (by decide +kernel) (by omega) (by omega)
  refine lv_iinc (v := z1) (lv' := [(4, .int z1), (0, .ref (ad 11)), (1, .int L1), (2, .ref (ad 61)), (3, .int L3), (5, .int L5)]) hx hb dX2_timesInBounds_90 hl (k := 4) rfl e_z1.symm (by decide) rfl (fun ls_1 hl_1 => ?_)
  refine lv_goto (tgt := 6) hx hb dX2_timesInBounds_93 (by decide) ?_
  exact K6 L1 L3 z1 _ _ _ (by omega) (by omega) (by omega) (by omega) (by omega) (by omega) (by omega) (by omega) (by omega) (by omega) (by omega) (by omega) (by omega) (by omega) (by omega) (by omega) hI hw_w0 hw_w1 hw_w2 hw_w3 hP hD hS (lv_sub hl_1 [1, 2, 3, 4, 0] rfl)
set_option maxRecDepth 100000 in
set_option maxHeartbeats 4000000 in
theorem m177_X2_timesInBounds_b6 {p : Program} {l : Launch} {e : Env} {s : State} {m : MethodId} {args : Array Value} {below : List Frame} {meth : Method} {c : Code} {A : Nat → Prop} {dC : Nat → ClassId} {dI : Nat → Nat → Nat} {cI cJ cII cJJ : ClassId} {ad : Nat → Nat} {g : Nat} {f3_unknowns f3_equations f2_roundSupports f2_stale f7_size f1_size f5_keptSize f5_aheadSize f0_solved f4_blockCount f4_blockLength f4_lastIsFree f4_stale : Int32} {ai : Nat → Nat → Int32} {al : Nat → Nat → Int64} {w0 w1 w2 w3 : Nat} (C : Cx p c s m meth args A dC dI (TY cI cJ cII cJJ) cX2_timesInBounds (some .int) 6 RX2 0 g) : ∀ (n : Nat), ∀ (L1 L3 L4 : Int32) (H : Heap) (locs : List Loc) (ls : Array Slot), (0 ≤ L1.toInt ∧ L1.toInt ≤ 255) → L3.toInt ≤ 20 → (0 ≤ L4.toInt ∧ L4.toInt ≤ 4) → (1 ≤ f3_unknowns.toInt ∧ f3_unknowns.toInt ≤ 4) → (0 ≤ f3_equations.toInt ∧ f3_equations.toInt ≤ 3) → (0 ≤ f2_stale.toInt ∧ f2_stale.toInt ≤ 1) → (0 ≤ f7_size.toInt ∧ f7_size.toInt ≤ 256) → (0 ≤ f1_size.toInt ∧ f1_size.toInt ≤ 4) → (0 ≤ f5_keptSize.toInt ∧ f5_keptSize.toInt ≤ 128) → (0 ≤ f5_aheadSize.toInt ∧ f5_aheadSize.toInt ≤ 128) → (0 ≤ f4_blockCount.toInt ∧ f4_blockCount.toInt ≤ 9261) → (0 ≤ f4_blockLength.toInt ∧ f4_blockLength.toInt ≤ 21) → (0 ≤ f4_lastIsFree.toInt ∧ f4_lastIsFree.toInt ≤ 1) → (0 ≤ f4_stale.toInt ∧ f4_stale.toInt ≤ 1) → f3_unknowns.toInt - L4.toInt < (n : Int) → (0 : Int) < (n : Int) → IAX ai → RWX ad w0 → RWX ad w1 → RWX ad w2 → RWX ad w3 → va_P (dC, dI) vwCl (WX cI cJ cII cJJ ad f3_unknowns f3_equations f2_roundSupports f2_stale f7_size f1_size f5_keptSize f5_aheadSize f0_solved f4_blockCount f4_blockLength f4_lastIsFree f4_stale ai al w0 w1 w2 w3) H → va_D A (WX cI cJ cII cJJ ad f3_unknowns f3_equations f2_roundSupports f2_stale f7_size f1_size f5_keptSize f5_aheadSize f0_solved f4_blockCount f4_blockLength f4_lastIsFree f4_stale ai al w0 w1 w2 w3) → va_S A s.heap H locs → lv_has ls 6 [(0, .ref (ad 11)), (1, .int L1), (2, .ref (ad 61)), (3, .int L3), (4, .int L4)] → W p l e ({ frames := 4, cells := 0, slots := 0, locals := 200 } : Room) s m args below meth c H locs 0 0 (MQ below (Q_m177_X2_timesInBounds dC dI cI cJ cII cJJ ad f3_unknowns f3_equations f2_roundSupports f2_stale f7_size f1_size f5_keptSize f5_aheadSize f0_solved f4_blockCount f4_blockLength f4_lastIsFree f4_stale ai al w0 w1 w2 w3 A) args s 0 0 A) (F0 m 6 ls []) := by
  obtain ⟨hx, hb, hr, hml, hown, hts, hk, hA, hK, hX⟩ := id C
  intro n
  induction n with
  | zero =>
    intro L1 L3 L4 H locs ls h0 h1 h2 h3 h4 h5 h6 h7 h8 h9 h10 h11 h12 h13 h14 h15 hI hw_w0 hw_w1 hw_w2 hw_w3 hP hD hS hl
    exact absurd h15 (by omega)
  | succ n ih =>
    intro L1 L3 L4 H locs ls h0 h1 h2 h3 h4 h5 h6 h7 h8 h9 h10 h11 h12 h13 h14 h15 hI hw_w0 hw_w1 hw_w2 hw_w3 hP hD hS hl
    have ra_L3 := s_any L3
    refine lv_iload hx hb dX2_timesInBounds_6 (lv_at hl 4 rfl) ?_
    refine lv_aload_n hx hb dX2_timesInBounds_8 rfl (lv_at hl 0 rfl) ?_
    refine gf (k := 0) hx hb hts inX2 hown hK hP k_175 rfl (by decide) rfl 11 rfl (.ref (ad 6)) rfl dX2_timesInBounds_9 ?_
    refine gf (k := 0) hx hb hts inX3 hown hK hP k_41 rfl (by decide) rfl 6 rfl (.int f3_unknowns) rfl dX2_timesInBounds_12 ?_
    refine lv_icmp_ge (tgt := 96) hx hb dX2_timesInBounds_15 (by decide) (fun c1 => ?_) (fun c1 => ?_)
    · have c1 := j_le (a := f3_unknowns.toInt) (b := L4.toInt) rfl rfl c1
      exact m177_X2_timesInBounds_b96 C  L1 L3 L4 _ _ _ (by omega) (by omega) (by omega) (by omega) (by omega) (by omega) (by omega) (by omega) (by omega) (by omega) (by omega) (by omega) (by omega) (by omega) hI hw_w0 hw_w1 hw_w2 hw_w3 hP hD hS (lv_sub hl [0, 1, 2, 3, 4] rfl)
    · have c1 := j_nle (a := f3_unknowns.toInt) (b := L4.toInt) rfl rfl c1
      refine lv_iload_n hx hb dX2_timesInBounds_18 rfl (lv_at hl 3 rfl) ?_
      refine lv_if_le (tgt := 96) hx hb dX2_timesInBounds_19 (by decide) (fun c2 => ?_) (fun c2 => ?_)
      · have c2 := j_le (a := L3.toInt) (b := 0) rfl (by decide +kernel) c2
        exact m177_X2_timesInBounds_b96 C  L1 L3 L4 _ _ _ (by omega) (by omega) (by omega) (by omega) (by omega) (by omega) (by omega) (by omega) (by omega) (by omega) (by omega) (by omega) (by omega) (by omega) hI hw_w0 hw_w1 hw_w2 hw_w3 hP hD hS (lv_sub hl [0, 1, 2, 3, 4] rfl)
      · have c2 := j_nle (a := L3.toInt) (b := 0) rfl (by decide +kernel) c2
        refine lv_aload_n hx hb dX2_timesInBounds_22 rfl (lv_at hl 0 rfl) ?_
        refine lv_iload_n hx hb dX2_timesInBounds_23 rfl (lv_at hl 1 rfl) ?_
        refine lv_iload hx hb dX2_timesInBounds_24 (lv_at hl 4 rfl) ?_
        have hM := m034_X2_at l dC dI cI cJ cII cJJ H.size 0 ad f3_unknowns f3_equations f2_roundSupports f2_stale f7_size f1_size f5_keptSize f5_aheadSize f0_solved f4_blockCount f4_blockLength f4_lastIsFree f4_stale ai al w0 w1 w2 w3 L1 L4 (by omega) (by omega) (by omega) (by omega) (by omega) (by omega) (by omega) (by omega) (by omega) (by omega) (by omega) (by omega) hI hw_w0 hw_w1 hw_w2 hw_w3
        refine k2V_i (q0 := 11) ⟨hx, hb, hml, hown, hts⟩ hK hP hD hS hA hX cv_RX2_98 hM ⟨by decide +kernel, by decide +kernel⟩ rfl rfl (Or.inl rfl) (rest := []) rfl rfl rfl hl.1 rfl (Nat.le_of_ble_eq_true rfl) dX2_timesInBounds_26 ⟨Nat.le_of_ble_eq_true rfl, Nat.le_of_ble_eq_true rfl⟩ (fun r3 t H1 locs_1 ht hB hS_1 hFc => ?_)
        obtain ⟨-, hP_2, -, hD_2⟩ := hB
        rw [ht] at hP_2
        have hD_3 := hD_2.weaken (B := A) (fun k q _ h9 => hFc q.1 h9)
        clear ht
        generalize H1 = H_4 at hP_2 hS_1 ⊢
        refine lv_istore (lv' := [(5, .int r3), (0, .ref (ad 11)), (1, .int L1), (2, .ref (ad 61)), (3, .int L3), (4, .int L4)]) hx hb dX2_timesInBounds_29 hl (by decide) rfl (fun ls_5 hl_5 => ?_)
        refine lv_iload hx hb dX2_timesInBounds_31 (lv_at hl_5 0 rfl) ?_
        refine lv_if_le (tgt := 62) hx hb dX2_timesInBounds_33 (by decide) (fun c4 => ?_) (fun c4 => ?_)
        · have c4 := j_le (a := r3.toInt) (b := 0) rfl (by decide +kernel) c4
          refine lv_iload hx hb dX2_timesInBounds_62 (lv_at hl_5 0 rfl) ?_
          refine lv_if_ge (tgt := 90) hx hb dX2_timesInBounds_64 (by decide) (fun c5 => ?_) (fun c5 => ?_)
          · have c5 := j_le (a := 0) (b := r3.toInt) (by decide +kernel) rfl c5
            exact m177_X2_timesInBounds_b90 C n ih L1 L3 L4 r3 _ _ _ (by omega) (by omega) (by omega) (by omega) (by omega) (by omega) (by omega) (by omega) (by omega) (by omega) (by omega) (by omega) (by omega) (by omega) (by omega) (by omega) hI hw_w0 hw_w1 hw_w2 hw_w3 hP_2 hD_3 hS_1 (lv_sub hl_5 [1, 2, 3, 4, 5, 0] rfl)
          · have c5 := j_nle (a := 0) (b := r3.toInt) (by decide +kernel) rfl c5
            refine lv_iload_n hx hb dX2_timesInBounds_67 rfl (lv_at hl_5 4 rfl) ?_
            refine lv_aload_n hx hb dX2_timesInBounds_68 rfl (lv_at hl_5 1 rfl) ?_
            refine gf (k := 0) hx hb hts inX2 hown hK hP_2 k_175 rfl (by decide) rfl 11 rfl (.ref (ad 6)) rfl dX2_timesInBounds_69 ?_
            refine gf (k := 4) hx hb hts inX3 hown hK hP_2 k_59 rfl (by decide) rfl 6 rfl (.ref (ad 7)) rfl dX2_timesInBounds_72 ?_
            refine lv_iload hx hb dX2_timesInBounds_75 (lv_at hl_5 5 rfl) ?_
            refine va_iald hx hb hK hP_2 7 0 rfl rfl (j_in (a := L4.toInt) rfl (by omega) (by omega)) dX2_timesInBounds_77 ?_
            refine lv_topi (fun z6 e_z6 => ?_)
            have g_z6 : -10 ≤ z6.toInt ∧ z6.toInt ≤ 10 := by rw [e_z6]; exact IAX_at7 hI _
            refine lv_aload_n hx hb dX2_timesInBounds_78 rfl (lv_at hl_5 3 rfl) ?_
            refine lv_iload hx hb dX2_timesInBounds_79 (lv_at hl_5 5 rfl) ?_
            refine va_iald hx hb hK hP_2 61 0 rfl rfl (j_in (a := L4.toInt) rfl (by omega) (by omega)) dX2_timesInBounds_81 ?_
            refine lv_topi (fun z7 e_z7 => ?_)
            refine v_isub hx hb dX2_timesInBounds_82 _ rfl ?_
            refine lv_topi (fun z8 e_z8 => ?_)
            refine lv_iload hx hb dX2_timesInBounds_83 (lv_at hl_5 0 rfl) ?_
            refine v_idiv hx hb dX2_timesInBounds_85 (j_nz (a := r3.toInt) rfl (by omega)) _ rfl ?_
            refine lv_topi (fun z9 e_z9 => ?_)
            refine va_mmin hx hb (by rw [hml]; exact hl_5.1.symm) hown (hts _ k_589) (hts _ k_464) (hts _ k_13) (hts _ k_465) (by decide) (Nat.le_of_ble_eq_true rfl) (Nat.le_of_ble_eq_true rfl) (Nat.le_of_ble_eq_true rfl) dX2_timesInBounds_86 ?_
            refine lv_topi (fun z10 e_z10 => ?_)
            have g_z10 : (z10.toInt = L3.toInt ∨ z10.toInt = z9.toInt) ∧ L3.toInt ≥ z10.toInt ∧ z9.toInt ≥ z10.toInt := by rw [e_z10]; exact n_min (a := L3.toInt) (b := z9.toInt) rfl rfl
            refine lv_istore_n (lv' := [(3, .int z10), (5, .int r3), (0, .ref (ad 11)), (1, .int L1), (2, .ref (ad 61)), (4, .int L4)]) hx hb dX2_timesInBounds_89 rfl hl_5 (by decide) rfl (fun ls_6 hl_6 => ?_)
            exact m177_X2_timesInBounds_b90 C n ih L1 z10 L4 r3 _ _ _ (by omega) (by omega) (by omega) (by omega) (by omega) (by omega) (by omega) (by omega) (by omega) (by omega) (by omega) (by omega) (by omega) (by omega) (by omega) (by omega) hI hw_w0 hw_w1 hw_w2 hw_w3 hP_2 hD_3 hS_1 (lv_sub hl_6 [2, 3, 4, 0, 5, 1] rfl)
        · have c4 := j_nle (a := r3.toInt) (b := 0) rfl (by decide +kernel) c4
          refine lv_iload_n hx hb dX2_timesInBounds_36 rfl (lv_at hl_5 4 rfl) ?_
          refine lv_aload_n hx hb dX2_timesInBounds_37 rfl (lv_at hl_5 1 rfl) ?_
          refine gf (k := 0) hx hb hts inX2 hown hK hP_2 k_175 rfl (by decide) rfl 11 rfl (.ref (ad 6)) rfl dX2_timesInBounds_38 ?_
          refine gf (k := 5) hx hb hts inX3 hown hK hP_2 k_63 rfl (by decide) rfl 6 rfl (.ref (ad 8)) rfl dX2_timesInBounds_41 ?_
          refine lv_iload hx hb dX2_timesInBounds_44 (lv_at hl_5 5 rfl) ?_
          refine va_iald hx hb hK hP_2 8 0 rfl rfl (j_in (a := L4.toInt) rfl (by omega) (by omega)) dX2_timesInBounds_46 ?_
          refine lv_topi (fun z11 e_z11 => ?_)
          have g_z11 : -10 ≤ z11.toInt ∧ z11.toInt ≤ 10 := by rw [e_z11]; exact IAX_at8 hI _
          refine lv_aload_n hx hb dX2_timesInBounds_47 rfl (lv_at hl_5 3 rfl) ?_
          refine lv_iload hx hb dX2_timesInBounds_48 (lv_at hl_5 5 rfl) ?_
          refine va_iald hx hb hK hP_2 61 0 rfl rfl (j_in (a := L4.toInt) rfl (by omega) (by omega)) dX2_timesInBounds_50 ?_
          refine lv_topi (fun z12 e_z12 => ?_)
          refine v_isub hx hb dX2_timesInBounds_51 _ rfl ?_
          refine lv_topi (fun z13 e_z13 => ?_)
          refine lv_iload hx hb dX2_timesInBounds_52 (lv_at hl_5 0 rfl) ?_
          refine v_idiv hx hb dX2_timesInBounds_54 (j_nz (a := r3.toInt) rfl (by omega)) _ rfl ?_
          refine lv_topi (fun z14 e_z14 => ?_)
          refine va_mmin hx hb (by rw [hml]; exact hl_5.1.symm) hown (hts _ k_589) (hts _ k_464) (hts _ k_13) (hts _ k_465) (by decide) (Nat.le_of_ble_eq_true rfl) (Nat.le_of_ble_eq_true rfl) (Nat.le_of_ble_eq_true rfl) dX2_timesInBounds_55 ?_
          refine lv_topi (fun z15 e_z15 => ?_)
          have g_z15 : (z15.toInt = L3.toInt ∨ z15.toInt = z14.toInt) ∧ L3.toInt ≥ z15.toInt ∧ z14.toInt ≥ z15.toInt := by rw [e_z15]; exact n_min (a := L3.toInt) (b := z14.toInt) rfl rfl
          refine lv_istore_n (lv' := [(3, .int z15), (5, .int r3), (0, .ref (ad 11)), (1, .int L1), (2, .ref (ad 61)), (4, .int L4)]) hx hb dX2_timesInBounds_58 rfl hl_5 (by decide) rfl (fun ls_7 hl_7 => ?_)
          refine lv_goto (tgt := 90) hx hb dX2_timesInBounds_59 (by decide) ?_
          exact m177_X2_timesInBounds_b90 C n ih L1 z15 L4 r3 _ _ _ (by omega) (by omega) (by omega) (by omega) (by omega) (by omega) (by omega) (by omega) (by omega) (by omega) (by omega) (by omega) (by omega) (by omega) (by omega) (by omega) hI hw_w0 hw_w1 hw_w2 hw_w3 hP_2 hD_3 hS_1 (lv_sub hl_7 [2, 3, 4, 0, 5, 1] rfl)
set_option maxRecDepth 100000 in
set_option maxHeartbeats 4000000 in
theorem m177_X2_timesInBounds (l : Launch) (dC : Nat → ClassId) (dI : Nat → Nat → Nat) (cI cJ cII cJJ : ClassId) (sz g : Nat) (ad : Nat → Nat) (f3_unknowns f3_equations f2_roundSupports f2_stale f7_size f1_size f5_keptSize f5_aheadSize f0_solved f4_blockCount f4_blockLength f4_lastIsFree f4_stale : Int32) (ai : Nat → Nat → Int32) (al : Nat → Nat → Int64) (w0 w1 w2 w3 : Nat) (x1 : Int32) (h_x1 : (0 ≤ x1.toInt ∧ x1.toInt ≤ 255)) (h_f3_unknowns : (1 ≤ f3_unknowns.toInt ∧ f3_unknowns.toInt ≤ 4)) (h_f3_equations : (0 ≤ f3_equations.toInt ∧ f3_equations.toInt ≤ 3)) (h_f2_stale : (0 ≤ f2_stale.toInt ∧ f2_stale.toInt ≤ 1)) (h_f7_size : (0 ≤ f7_size.toInt ∧ f7_size.toInt ≤ 256)) (h_f1_size : (0 ≤ f1_size.toInt ∧ f1_size.toInt ≤ 4)) (h_f5_keptSize : (0 ≤ f5_keptSize.toInt ∧ f5_keptSize.toInt ≤ 128)) (h_f5_aheadSize : (0 ≤ f5_aheadSize.toInt ∧ f5_aheadSize.toInt ≤ 128)) (h_f4_blockCount : (0 ≤ f4_blockCount.toInt ∧ f4_blockCount.toInt ≤ 9261)) (h_f4_blockLength : (0 ≤ f4_blockLength.toInt ∧ f4_blockLength.toInt ≤ 21)) (h_f4_lastIsFree : (0 ≤ f4_lastIsFree.toInt ∧ f4_lastIsFree.toInt ≤ 1)) (h_f4_stale : (0 ≤ f4_stale.toInt ∧ f4_stale.toInt ≤ 1)) (hI : IAX ai) (hw_w0 : RWX ad w0) (hw_w1 : RWX ad w1) (hw_w2 : RWX ad w2) (hw_w3 : RWX ad w3) : Met l yX2_timesInBounds (.code yX2_timesInBounds cX2_timesInBounds 6 (some .int) :: TT) ({ frames := 4, cells := 0, slots := 0, locals := 200 } : Room) (PcS dC dI (TY cI cJ cII cJJ) [.ref (ad 11), .int x1, .ref (ad 61)] (WX cI cJ cII cJJ ad f3_unknowns f3_equations f2_roundSupports f2_stale f7_size f1_size f5_keptSize f5_aheadSize f0_solved f4_blockCount f4_blockLength f4_lastIsFree f4_stale ai al w0 w1 w2 w3) sz 0 g) (Q_m177_X2_timesInBounds dC dI cI cJ cII cJJ ad f3_unknowns f3_equations f2_roundSupports f2_stale f7_size f1_size f5_keptSize f5_aheadSize f0_solved f4_blockCount f4_blockLength f4_lastIsFree f4_stale ai al w0 w1 w2 w3 (va_A (WX cI cJ cII cJJ ad f3_unknowns f3_equations f2_roundSupports f2_stale f7_size f1_size f5_keptSize f5_aheadSize f0_solved f4_blockCount f4_blockLength f4_lastIsFree f4_stale ai al w0 w1 w2 w3) sz)) 0 0 (va_A (WX cI cJ cII cJJ ad f3_unknowns f3_equations f2_roundSupports f2_stale f7_size f1_size f5_keptSize f5_aheadSize f0_solved f4_blockCount f4_blockLength f4_lastIsFree f4_stale ai al w0 w1 w2 w3) sz) := by
  refine SM.of (y := yX2_timesInBounds) (maxL := 6) (av := [.ref (ad 11), .int x1, .ref (ad 61)]) (Q_m177_X2_timesInBounds dC dI cI cJ cII cJJ ad f3_unknowns f3_equations f2_roundSupports f2_stale f7_size f1_size f5_keptSize f5_aheadSize f0_solved f4_blockCount f4_blockLength f4_lastIsFree f4_stale ai al w0 w1 w2 w3) (by decide +kernel) (Nat.le_of_ble_eq_true rfl) (fun p e s m below meth c A ls hx hb hr hml hown hts hk hnm hA hK hP hD hS hX hl => ?_)
  have C : Cx p c s m meth (([.ref (ad 11), .int x1, .ref (ad 61)] : List Value).toArray) A dC dI (TY cI cJ cII cJJ) cX2_timesInBounds (some .int) 6 RX2 0 g := ⟨hx, hb, hr, hml, hown, hts, hk, hA, hK, hX⟩
  have hown : s.vm.findClass RX2 = some m.cls := hown
  have hl : lv_has ls 6 [(0, .ref (ad 11)), (1, .int x1), (2, .ref (ad 61))] := hl
  obtain ⟨H, hH⟩ : ∃ q, q = s.heap := ⟨_, rfl⟩
  rw [← hH] at hP
  have hS : va_S A s.heap H [] := by rw [hH]; exact hS
  rw [← hH]
  refine lv_bipush (v := 20) hx hb dX2_timesInBounds_0 (by decide) ?_
  refine lv_istore_n (lv' := [(3, .int 20), (0, .ref (ad 11)), (1, .int x1), (2, .ref (ad 61))]) hx hb dX2_timesInBounds_2 rfl hl (by decide) rfl (fun ls_1 hl_1 => ?_)
  refine lv_iconst (v := 0) hx hb dX2_timesInBounds_3 (by decide) ?_
  refine lv_istore (lv' := [(4, .int 0), (3, .int 20), (0, .ref (ad 11)), (1, .int x1), (2, .ref (ad 61))]) hx hb dX2_timesInBounds_4 hl_1 (by decide) rfl (fun ls_2 hl_2 => ?_)
  exact m177_X2_timesInBounds_b6 C  _ x1 20 0 _ _ _ (by first | omega | decide | (have ka0 := (by decide +kernel : (0 : Int32).toInt = 0); have ka1 := (by decide +kernel : (20 : Int32).toInt = 20); omega)) (by first | omega | decide | (have ka0 := (by decide +kernel : (0 : Int32).toInt = 0); have ka1 := (by decide +kernel : (20 : Int32).toInt = 20); omega)) (by first | omega | decide | (have ka0 := (by decide +kernel : (0 : Int32).toInt = 0); have ka1 := (by decide +kernel : (20 : Int32).toInt = 20); omega)) (by first | omega | decide | (have ka0 := (by decide +kernel : (0 : Int32).toInt = 0); have ka1 := (by decide +kernel : (20 : Int32).toInt = 20); omega)) (by first | omega | decide | (have ka0 := (by decide +kernel : (0 : Int32).toInt = 0); have ka1 := (by decide +kernel : (20 : Int32).toInt = 20); omega)) (by first | omega | decide | (have ka0 := (by decide +kernel : (0 : Int32).toInt = 0); have ka1 := (by decide +kernel : (20 : Int32).toInt = 20); omega)) (by first | omega | decide | (have ka0 := (by decide +kernel : (0 : Int32).toInt = 0); have ka1 := (by decide +kernel : (20 : Int32).toInt = 20); omega)) (by first | omega | decide | (have ka0 := (by decide +kernel : (0 : Int32).toInt = 0); have ka1 := (by decide +kernel : (20 : Int32).toInt = 20); omega)) (by first | omega | decide | (have ka0 := (by decide +kernel : (0 : Int32).toInt = 0); have ka1 := (by decide +kernel : (20 : Int32).toInt = 20); omega)) (by first | omega | decide | (have ka0 := (by decide +kernel : (0 : Int32).toInt = 0); have ka1 := (by decide +kernel : (20 : Int32).toInt = 20); omega)) (by first | omega | decide | (have ka0 := (by decide +kernel : (0 : Int32).toInt = 0); have ka1 := (by decide +kernel : (20 : Int32).toInt = 20); omega)) (by first | omega | decide | (have ka0 := (by decide +kernel : (0 : Int32).toInt = 0); have ka1 := (by decide +kernel : (20 : Int32).toInt = 20); omega)) (by first | omega | decide | (have ka0 := (by decide +kernel : (0 : Int32).toInt = 0); have ka1 := (by decide +kernel : (20 : Int32).toInt = 20); omega)) (by first | omega | decide | (have ka0 := (by decide +kernel : (0 : Int32).toInt = 0); have ka1 := (by decide +kernel : (20 : Int32).toInt = 20); omega)) (j_fuel _) (by omega) hI hw_w0 hw_w1 hw_w2 hw_w3 hP hD hS (lv_sub hl_2 [2, 3, 4, 1, 0] rfl)
def Q_m178_X8_near (dC : Nat → ClassId) (dI : Nat → Nat → Nat) (cI cJ cII cJJ : ClassId) (ad : Nat → Nat) (f3_unknowns f3_equations : Int32) (ai0 : Nat → Nat → Int32) (al0 : Nat → Nat → Int64) : (Nat → Prop) → Array Value → State → Outcome → State → Prop := fun A => QI (fun r t => ∃ (n_f2_roundSupports n_f2_stale n_f7_size n_f1_size n_f5_keptSize n_f5_aheadSize n_f0_solved n_f4_blockCount n_f4_blockLength n_f4_lastIsFree n_f4_stale : Int32), ∃ (n_ai : Nat → Nat → Int32), ∃ (n_al : Nat → Nat → Int64), ∃ (n_w0 n_w1 n_w2 n_w3 : Nat), ((0 ≤ n_f2_stale.toInt ∧ n_f2_stale.toInt ≤ 1) ∧ (0 ≤ n_f7_size.toInt ∧ n_f7_size.toInt ≤ 256) ∧ (0 ≤ n_f1_size.toInt ∧ n_f1_size.toInt ≤ 4) ∧ (0 ≤ n_f5_keptSize.toInt ∧ n_f5_keptSize.toInt ≤ 128) ∧ (0 ≤ n_f5_aheadSize.toInt ∧ n_f5_aheadSize.toInt ≤ 128) ∧ (0 ≤ n_f4_blockCount.toInt ∧ n_f4_blockCount.toInt ≤ 9261) ∧ (0 ≤ n_f4_blockLength.toInt ∧ n_f4_blockLength.toInt ≤ 21) ∧ (0 ≤ n_f4_lastIsFree.toInt ∧ n_f4_lastIsFree.toInt ≤ 1) ∧ (0 ≤ n_f4_stale.toInt ∧ n_f4_stale.toInt ≤ 0) ∧ IAX n_ai ∧ FR [21, 23, 24, 26, 27, 28, 30, 32, 33, 35, 36, 37, 38, 41, 42, 43, 44, 45, 47, 48, 49, 50, 51, 61, 63] ai0 n_ai ∧ FL [13, 16, 17, 18, 19, 20] al0 n_al ∧ RWX ad n_w0 ∧ RWX ad n_w1 ∧ RWX ad n_w2 ∧ RWX ad n_w3) ∧ WO dC dI (TY cI cJ cII cJJ) (WX cI cJ cII cJJ ad f3_unknowns f3_equations n_f2_roundSupports n_f2_stale n_f7_size n_f1_size n_f5_keptSize n_f5_aheadSize n_f0_solved n_f4_blockCount n_f4_blockLength n_f4_lastIsFree n_f4_stale n_ai n_al n_w0 n_w1 n_w2 n_w3) A t) A
set_option maxRecDepth 100000 in
set_option maxHeartbeats 4000000 in
theorem m178_X8_near_b64 {p : Program} {l : Launch} {e : Env} {s : State} {m : MethodId} {args : Array Value} {below : List Frame} {meth : Method} {c : Code} {A : Nat → Prop} {dC : Nat → ClassId} {dI : Nat → Nat → Nat} {cI cJ cII cJJ : ClassId} {ad : Nat → Nat} {g : Nat} {f3_unknowns f3_equations : Int32} {ai0 : Nat → Nat → Int32} {al0 : Nat → Nat → Int64} (C : Cx p c s m meth args A dC dI (TY cI cJ cII cJJ) cX8_near (some .int) 5 RX8 1 g) (n39 : Nat) (K39 : ∀ (L1 L3 L4 f2_roundSupports f2_stale f7_size f1_size f5_keptSize f5_aheadSize f0_solved f4_blockCount f4_blockLength f4_lastIsFree f4_stale : Int32) (ai : Nat → Nat → Int32) (al : Nat → Nat → Int64) (w0 w1 w2 w3 : Nat) (H : Heap) (locs : List Loc) (ls : Array Slot), (0 ≤ L1.toInt ∧ L1.toInt ≤ 194480) → (0 ≤ L4.toInt ∧ L4.toInt ≤ 256) → (1 ≤ f3_unknowns.toInt ∧ f3_unknowns.toInt ≤ 4) → (0 ≤ f3_equations.toInt ∧ f3_equations.toInt ≤ 3) → (0 ≤ f2_stale.toInt ∧ f2_stale.toInt ≤ 0) → (0 ≤ f7_size.toInt ∧ f7_size.toInt ≤ 256) → (0 ≤ f1_size.toInt ∧ f1_size.toInt ≤ 4) → (0 ≤ f5_keptSize.toInt ∧ f5_keptSize.toInt ≤ 128) → (0 ≤ f5_aheadSize.toInt ∧ f5_aheadSize.toInt ≤ 128) → (0 ≤ f4_blockCount.toInt ∧ f4_blockCount.toInt ≤ 9261) → (0 ≤ f4_blockLength.toInt ∧ f4_blockLength.toInt ≤ 21) → (0 ≤ f4_lastIsFree.toInt ∧ f4_lastIsFree.toInt ≤ 1) → (0 ≤ f4_stale.toInt ∧ f4_stale.toInt ≤ 0) → f7_size.toInt - L4.toInt < (n39 : Int) → (0 : Int) < (n39 : Int) → IAX ai → FR [21, 23, 24, 26, 27, 28, 30, 32, 33, 35, 36, 37, 38, 41, 42, 43, 44, 45, 47, 48, 49, 50, 51, 61, 63] ai0 ai → FL [13, 16, 17, 18, 19, 20] al0 al → RWX ad w0 → RWX ad w1 → RWX ad w2 → RWX ad w3 → va_P (dC, dI) vwCl (WX cI cJ cII cJJ ad f3_unknowns f3_equations f2_roundSupports f2_stale f7_size f1_size f5_keptSize f5_aheadSize f0_solved f4_blockCount f4_blockLength f4_lastIsFree f4_stale ai al w0 w1 w2 w3) H → va_D A (WX cI cJ cII cJJ ad f3_unknowns f3_equations f2_roundSupports f2_stale f7_size f1_size f5_keptSize f5_aheadSize f0_solved f4_blockCount f4_blockLength f4_lastIsFree f4_stale ai al w0 w1 w2 w3) → va_S A s.heap H locs → lv_has ls 5 [(0, .ref (ad 0)), (1, .int L1), (2, .ref (ad 11)), (3, .int L3), (4, .int L4)] → W p l e ({ frames := 15, cells := 0, slots := 0, locals := 860 } : Room) s m args below meth c H locs 0 0 (MQ below (Q_m178_X8_near dC dI cI cJ cII cJJ ad f3_unknowns f3_equations ai0 al0 A) args s 0 0 A) (F0 m 39 ls [])) : ∀ (L1 L3 L4 f2_roundSupports f2_stale f7_size f1_size f5_keptSize f5_aheadSize f0_solved f4_blockCount f4_blockLength f4_lastIsFree f4_stale : Int32) (ai : Nat → Nat → Int32) (al : Nat → Nat → Int64) (w0 w1 w2 w3 : Nat) (H : Heap) (locs : List Loc) (ls : Array Slot), (0 ≤ L1.toInt ∧ L1.toInt ≤ 194480) → (0 ≤ L4.toInt ∧ L4.toInt ≤ 255) → (1 ≤ f3_unknowns.toInt ∧ f3_unknowns.toInt ≤ 4) → (0 ≤ f3_equations.toInt ∧ f3_equations.toInt ≤ 3) → (0 ≤ f2_stale.toInt ∧ f2_stale.toInt ≤ 0) → (0 ≤ f7_size.toInt ∧ f7_size.toInt ≤ 256) → (0 ≤ f1_size.toInt ∧ f1_size.toInt ≤ 4) → (0 ≤ f5_keptSize.toInt ∧ f5_keptSize.toInt ≤ 128) → (0 ≤ f5_aheadSize.toInt ∧ f5_aheadSize.toInt ≤ 128) → (0 ≤ f4_blockCount.toInt ∧ f4_blockCount.toInt ≤ 9261) → (0 ≤ f4_blockLength.toInt ∧ f4_blockLength.toInt ≤ 21) → (0 ≤ f4_lastIsFree.toInt ∧ f4_lastIsFree.toInt ≤ 1) → (0 ≤ f4_stale.toInt ∧ f4_stale.toInt ≤ 0) → L4.toInt < f7_size.toInt → f7_size.toInt - L4.toInt ≤ (n39 : Int) → IAX ai → FR [21, 23, 24, 26, 27, 28, 30, 32, 33, 35, 36, 37, 38, 41, 42, 43, 44, 45, 47, 48, 49, 50, 51, 61, 63] ai0 ai → FL [13, 16, 17, 18, 19, 20] al0 al → RWX ad w0 → RWX ad w1 → RWX ad w2 → RWX ad w3 → va_P (dC, dI) vwCl (WX cI cJ cII cJJ ad f3_unknowns f3_equations f2_roundSupports f2_stale f7_size f1_size f5_keptSize f5_aheadSize f0_solved f4_blockCount f4_blockLength f4_lastIsFree f4_stale ai al w0 w1 w2 w3) H → va_D A (WX cI cJ cII cJJ ad f3_unknowns f3_equations f2_roundSupports f2_stale f7_size f1_size f5_keptSize f5_aheadSize f0_solved f4_blockCount f4_blockLength f4_lastIsFree f4_stale ai al w0 w1 w2 w3) → va_S A s.heap H locs → lv_has ls 5 [(0, .ref (ad 0)), (1, .int L1), (2, .ref (ad 11)), (3, .int L3), (4, .int L4)] → W p l e ({ frames := 15, cells := 0, slots := 0, locals := 860 } : Room) s m args below meth c H locs 0 0 (MQ below (Q_m178_X8_near dC dI cI cJ cII cJJ ad f3_unknowns f3_equations ai0 al0 A) args s 0 0 A) (F0 m 64 ls []) := by
  obtain ⟨hx, hb, hr, hml, hown, hts, hk, hA, hK, hX⟩ := id C
  intro L1 L3 L4 f2_roundSupports f2_stale f7_size f1_size f5_keptSize f5_aheadSize f0_solved f4_blockCount f4_blockLength f4_lastIsFree f4_stale ai al w0 w1 w2 w3 H locs ls h0 h1 h2 h3 h4 h5 h6 h7 h8 h9 h10 h11 h12 h13 h14 hI hF hG hw_w0 hw_w1 hw_w2 hw_w3 hP hD hS hl
  have ra_L3 := s_any L3
  obtain ⟨z1, e_z1⟩ : ∃ q : Int32, q = L4 + Int32.ofInt 1 := ⟨_, rfl⟩
  have g_z1 : z1.toInt = L4.toInt + 1 := by rw [e_z1]; exact n_add (a := L4.toInt) (b := 1) rfl (by decide +kernel) (by omega) (by omega)
  refine lv_iinc (v := z1) (lv' := [(4, .int z1), (0, .ref (ad 0)), (1, .int L1), (2, .ref (ad 11)), (3, .int L3)]) hx hb dX8_near_64 hl (k := 4) rfl e_z1.symm (by decide) rfl (fun ls_1 hl_1 => ?_)
  refine lv_goto (tgt := 39) hx hb dX8_near_67 (by decide) ?_
  exact K39 L1 L3 z1 f2_roundSupports f2_stale f7_size f1_size f5_keptSize f5_aheadSize f0_solved f4_blockCount f4_blockLength f4_lastIsFree f4_stale ai al w0 w1 w2 w3 _ _ _ (by omega) (by omega) (by omega) (by omega) (by omega) (by omega) (by omega) (by omega) (by omega) (by omega) (by omega) (by omega) (by omega) (by omega) (by omega) hI hF hG hw_w0 hw_w1 hw_w2 hw_w3 hP hD hS (lv_sub hl_1 [1, 2, 3, 4, 0] rfl)
set_option maxRecDepth 100000 in
set_option maxHeartbeats 4000000 in
theorem m178_X8_near_b39 {p : Program} {l : Launch} {e : Env} {s : State} {m : MethodId} {args : Array Value} {below : List Frame} {meth : Method} {c : Code} {A : Nat → Prop} {dC : Nat → ClassId} {dI : Nat → Nat → Nat} {cI cJ cII cJJ : ClassId} {ad : Nat → Nat} {g : Nat} {f3_unknowns f3_equations : Int32} {ai0 : Nat → Nat → Int32} {al0 : Nat → Nat → Int64} (C : Cx p c s m meth args A dC dI (TY cI cJ cII cJJ) cX8_near (some .int) 5 RX8 1 g) : ∀ (n : Nat), ∀ (L1 L3 L4 f2_roundSupports f2_stale f7_size f1_size f5_keptSize f5_aheadSize f0_solved f4_blockCount f4_blockLength f4_lastIsFree f4_stale : Int32) (ai : Nat → Nat → Int32) (al : Nat → Nat → Int64) (w0 w1 w2 w3 : Nat) (H : Heap) (locs : List Loc) (ls : Array Slot), (0 ≤ L1.toInt ∧ L1.toInt ≤ 194480) → (0 ≤ L4.toInt ∧ L4.toInt ≤ 256) → (1 ≤ f3_unknowns.toInt ∧ f3_unknowns.toInt ≤ 4) → (0 ≤ f3_equations.toInt ∧ f3_equations.toInt ≤ 3) → (0 ≤ f2_stale.toInt ∧ f2_stale.toInt ≤ 0) → (0 ≤ f7_size.toInt ∧ f7_size.toInt ≤ 256) → (0 ≤ f1_size.toInt ∧ f1_size.toInt ≤ 4) → (0 ≤ f5_keptSize.toInt ∧ f5_keptSize.toInt ≤ 128) → (0 ≤ f5_aheadSize.toInt ∧ f5_aheadSize.toInt ≤ 128) → (0 ≤ f4_blockCount.toInt ∧ f4_blockCount.toInt ≤ 9261) → (0 ≤ f4_blockLength.toInt ∧ f4_blockLength.toInt ≤ 21) → (0 ≤ f4_lastIsFree.toInt ∧ f4_lastIsFree.toInt ≤ 1) → (0 ≤ f4_stale.toInt ∧ f4_stale.toInt ≤ 0) → f7_size.toInt - L4.toInt < (n : Int) → (0 : Int) < (n : Int) → IAX ai → FR [21, 23, 24, 26, 27, 28, 30, 32, 33, 35, 36, 37, 38, 41, 42, 43, 44, 45, 47, 48, 49, 50, 51, 61, 63] ai0 ai → FL [13, 16, 17, 18, 19, 20] al0 al → RWX ad w0 → RWX ad w1 → RWX ad w2 → RWX ad w3 → va_P (dC, dI) vwCl (WX cI cJ cII cJJ ad f3_unknowns f3_equations f2_roundSupports f2_stale f7_size f1_size f5_keptSize f5_aheadSize f0_solved f4_blockCount f4_blockLength f4_lastIsFree f4_stale ai al w0 w1 w2 w3) H → va_D A (WX cI cJ cII cJJ ad f3_unknowns f3_equations f2_roundSupports f2_stale f7_size f1_size f5_keptSize f5_aheadSize f0_solved f4_blockCount f4_blockLength f4_lastIsFree f4_stale ai al w0 w1 w2 w3) → va_S A s.heap H locs → lv_has ls 5 [(0, .ref (ad 0)), (1, .int L1), (2, .ref (ad 11)), (3, .int L3), (4, .int L4)] → W p l e ({ frames := 15, cells := 0, slots := 0, locals := 860 } : Room) s m args below meth c H locs 0 0 (MQ below (Q_m178_X8_near dC dI cI cJ cII cJJ ad f3_unknowns f3_equations ai0 al0 A) args s 0 0 A) (F0 m 39 ls []) := by
  obtain ⟨hx, hb, hr, hml, hown, hts, hk, hA, hK, hX⟩ := id C
  intro n
  induction n with
  | zero =>
    intro L1 L3 L4 f2_roundSupports f2_stale f7_size f1_size f5_keptSize f5_aheadSize f0_solved f4_blockCount f4_blockLength f4_lastIsFree f4_stale ai al w0 w1 w2 w3 H locs ls h0 h1 h2 h3 h4 h5 h6 h7 h8 h9 h10 h11 h12 h13 h14 hI hF hG hw_w0 hw_w1 hw_w2 hw_w3 hP hD hS hl
    exact absurd h14 (by omega)
  | succ n ih =>
    intro L1 L3 L4 f2_roundSupports f2_stale f7_size f1_size f5_keptSize f5_aheadSize f0_solved f4_blockCount f4_blockLength f4_lastIsFree f4_stale ai al w0 w1 w2 w3 H locs ls h0 h1 h2 h3 h4 h5 h6 h7 h8 h9 h10 h11 h12 h13 h14 hI hF hG hw_w0 hw_w1 hw_w2 hw_w3 hP hD hS hl
    have ra_L3 := s_any L3
    refine lv_iload hx hb dX8_near_39 (lv_at hl 4 rfl) ?_
    refine lv_aload_n hx hb dX8_near_41 rfl (lv_at hl 2 rfl) ?_
    have hM := m035_X2_size l dC dI cI cJ cII cJJ H.size 0 ad f3_unknowns f3_equations f2_roundSupports f2_stale f7_size f1_size f5_keptSize f5_aheadSize f0_solved f4_blockCount f4_blockLength f4_lastIsFree f4_stale ai al w0 w1 w2 w3 (by omega) (by omega) (by omega) (by omega) (by omega) (by omega) (by omega) (by omega) (by omega) (by omega) (by omega) hI hw_w0 hw_w1 hw_w2 hw_w3
    refine k2V_i (q0 := 11) ⟨hx, hb, hml, hown, hts⟩ hK hP hD hS hA hX cv_RX8_156 hM ⟨by decide +kernel, by decide +kernel⟩ rfl rfl (Or.inl rfl) (rest := [.int L4]) rfl rfl rfl hl.1 rfl (Nat.le_of_ble_eq_true rfl) dX8_near_42 ⟨Nat.le_of_ble_eq_true rfl, Nat.le_of_ble_eq_true rfl⟩ (fun r1 t H1 locs_1 ht hB hS_1 hFc => ?_)
    obtain ⟨⟨gpr1_0, gpr1_1⟩, hP_2, -, hD_2⟩ := hB
    rw [ht] at hP_2
    have hD_3 := hD_2.weaken (B := A) (fun k q _ h9 => hFc q.1 h9)
    clear ht
    generalize H1 = H_4 at hP_2 hS_1 ⊢
    refine lv_icmp_ge (tgt := 70) hx hb dX8_near_45 (by decide) (fun c2 => ?_) (fun c2 => ?_)
    · have c2 := j_le (a := r1.toInt) (b := L4.toInt) rfl rfl c2
      refine lv_iload_n hx hb dX8_near_70 rfl (lv_at hl 3 rfl) ?_
      exact r2_i hx hb hr hk hS_1 dX8_near_71 (fun t ht hW => ⟨f2_roundSupports, f2_stale, f7_size, f1_size, f5_keptSize, f5_aheadSize, f0_solved, f4_blockCount, f4_blockLength, f4_lastIsFree, f4_stale, ai, al, w0, w1, w2, w3, ⟨(by first | omega | decide | exact Or.inl (by decide) | exact Or.inr (by decide) | exact Or.inr (by omega)), (by first | omega | decide | exact Or.inl (by decide) | exact Or.inr (by decide) | exact Or.inr (by omega)), (by first | omega | decide | exact Or.inl (by decide) | exact Or.inr (by decide) | exact Or.inr (by omega)), (by first | omega | decide | exact Or.inl (by decide) | exact Or.inr (by decide) | exact Or.inr (by omega)), (by first | omega | decide | exact Or.inl (by decide) | exact Or.inr (by decide) | exact Or.inr (by omega)), (by first | omega | decide | exact Or.inl (by decide) | exact Or.inr (by decide) | exact Or.inr (by omega)), (by first | omega | decide | exact Or.inl (by decide) | exact Or.inr (by decide) | exact Or.inr (by omega)), (by first | omega | decide | exact Or.inl (by decide) | exact Or.inr (by decide) | exact Or.inr (by omega)), (by first | omega | decide | exact Or.inl (by decide) | exact Or.inr (by decide) | exact Or.inr (by omega)), hI, hF, hG, hw_w0, hw_w1, hw_w2, hw_w3⟩, by rw [ht]; exact hP_2, va_K.moved hW.alike hK, hD_3⟩)
    · have c2 := j_nle (a := r1.toInt) (b := L4.toInt) rfl rfl c2
      refine lv_aload_n hx hb dX8_near_48 rfl (lv_at hl 2 rfl) ?_
      refine lv_iload hx hb dX8_near_49 (lv_at hl 4 rfl) ?_
      refine lv_aload_n hx hb dX8_near_51 rfl (lv_at hl 0 rfl) ?_
      refine gf (k := 5) hx hb hts inX8 hown hK hP_2 k_269 rfl (by decide) rfl 0 rfl (.ref (ad 61)) rfl dX8_near_52 ?_
      have hM := m177_X2_timesInBounds l dC dI cI cJ cII cJJ H_4.size 0 ad f3_unknowns f3_equations f2_roundSupports f2_stale f7_size f1_size f5_keptSize f5_aheadSize f0_solved f4_blockCount f4_blockLength f4_lastIsFree f4_stale ai al w0 w1 w2 w3 L4 (by omega) (by omega) (by omega) (by omega) (by omega) (by omega) (by omega) (by omega) (by omega) (by omega) (by omega) (by omega) hI hw_w0 hw_w1 hw_w2 hw_w3
      refine k2V_i (q0 := 11) ⟨hx, hb, hml, hown, hts⟩ hK hP_2 hD_3 hS_1 hA hX cv_RX8_221 hM ⟨by decide +kernel, by decide +kernel⟩ rfl rfl (Or.inl rfl) (rest := []) rfl rfl rfl hl.1 rfl (Nat.le_of_ble_eq_true rfl) dX8_near_55 ⟨Nat.le_of_ble_eq_true rfl, Nat.le_of_ble_eq_true rfl⟩ (fun r3 t H1 locs_5 ht hB hS_5 hFc => ?_)
      obtain ⟨gpr3_0, hP_6, -, hD_6⟩ := hB
      rw [ht] at hP_6
      have hD_7 := hD_6.weaken (B := A) (fun k q _ h9 => hFc q.1 h9)
      clear ht
      generalize H1 = H_8 at hP_6 hS_5 ⊢
      refine lv_if_le (tgt := 64) hx hb dX8_near_58 (by decide) (fun c4 => ?_) (fun c4 => ?_)
      · have c4 := j_le (a := r3.toInt) (b := 0) rfl (by decide +kernel) c4
        exact m178_X8_near_b64 C n ih L1 L3 L4 f2_roundSupports f2_stale f7_size f1_size f5_keptSize f5_aheadSize f0_solved f4_blockCount f4_blockLength f4_lastIsFree f4_stale ai al w0 w1 w2 w3 _ _ _ (by omega) (by omega) (by omega) (by omega) (by omega) (by omega) (by omega) (by omega) (by omega) (by omega) (by omega) (by omega) (by omega) (by omega) (by omega) hI hF hG hw_w0 hw_w1 hw_w2 hw_w3 hP_6 hD_7 hS_5 (lv_sub hl [0, 1, 2, 3, 4] rfl)
      · have c4 := j_nle (a := r3.toInt) (b := 0) rfl (by decide +kernel) c4
        obtain ⟨z5, e_z5⟩ : ∃ q : Int32, q = L3 + Int32.ofInt 1 := ⟨_, rfl⟩
        refine lv_iinc (v := z5) (lv' := [(3, .int z5), (0, .ref (ad 0)), (1, .int L1), (2, .ref (ad 11)), (4, .int L4)]) hx hb dX8_near_61 hl (k := 3) rfl e_z5.symm (by decide) rfl (fun ls_9 hl_9 => ?_)
        exact m178_X8_near_b64 C n ih L1 z5 L4 f2_roundSupports f2_stale f7_size f1_size f5_keptSize f5_aheadSize f0_solved f4_blockCount f4_blockLength f4_lastIsFree f4_stale ai al w0 w1 w2 w3 _ _ _ (by omega) (by omega) (by omega) (by omega) (by omega) (by omega) (by omega) (by omega) (by omega) (by omega) (by omega) (by omega) (by omega) (by omega) (by omega) hI hF hG hw_w0 hw_w1 hw_w2 hw_w3 hP_6 hD_7 hS_5 (lv_sub hl_9 [1, 2, 3, 0, 4] rfl)
set_option maxRecDepth 100000 in
set_option maxHeartbeats 4000000 in
theorem m178_X8_near (l : Launch) (dC : Nat → ClassId) (dI : Nat → Nat → Nat) (cI cJ cII cJJ : ClassId) (sz g : Nat) (ad : Nat → Nat) (f3_unknowns f3_equations f2_roundSupports f2_stale f7_size f1_size f5_keptSize f5_aheadSize f0_solved f4_blockCount f4_blockLength f4_lastIsFree f4_stale : Int32) (ai : Nat → Nat → Int32) (al : Nat → Nat → Int64) (w0 w1 w2 w3 : Nat) (x1 : Int32) (h_f3_unknowns : (1 ≤ f3_unknowns.toInt ∧ f3_unknowns.toInt ≤ 4)) (h_f3_equations : (0 ≤ f3_equations.toInt ∧ f3_equations.toInt ≤ 3)) (h_f2_stale : (0 ≤ f2_stale.toInt ∧ f2_stale.toInt ≤ 1)) (h_f7_size : (0 ≤ f7_size.toInt ∧ f7_size.toInt ≤ 256)) (h_f1_size : (0 ≤ f1_size.toInt ∧ f1_size.toInt ≤ 4)) (h_f5_keptSize : (0 ≤ f5_keptSize.toInt ∧ f5_keptSize.toInt ≤ 128)) (h_f5_aheadSize : (0 ≤ f5_aheadSize.toInt ∧ f5_aheadSize.toInt ≤ 128)) (h_f4_blockCount : (0 ≤ f4_blockCount.toInt ∧ f4_blockCount.toInt ≤ 9261)) (h_f4_blockLength : (0 ≤ f4_blockLength.toInt ∧ f4_blockLength.toInt ≤ 21)) (h_f4_lastIsFree : (0 ≤ f4_lastIsFree.toInt ∧ f4_lastIsFree.toInt ≤ 1)) (h_f4_stale : (0 ≤ f4_stale.toInt ∧ f4_stale.toInt ≤ 1)) (hI : IAX ai) (hw_w0 : RWX ad w0) (hw_w1 : RWX ad w1) (hw_w2 : RWX ad w2) (hw_w3 : RWX ad w3) : Met l yX8_near (.code yX8_near cX8_near 5 (some .int) :: TT) ({ frames := 15, cells := 0, slots := 0, locals := 860 } : Room) (PcS dC dI (TY cI cJ cII cJJ) [.ref (ad 0), .int x1] (WX cI cJ cII cJJ ad f3_unknowns f3_equations f2_roundSupports f2_stale f7_size f1_size f5_keptSize f5_aheadSize f0_solved f4_blockCount f4_blockLength f4_lastIsFree f4_stale ai al w0 w1 w2 w3) sz 1 g) (Q_m178_X8_near dC dI cI cJ cII cJJ ad f3_unknowns f3_equations ai al (va_A (WX cI cJ cII cJJ ad f3_unknowns f3_equations f2_roundSupports f2_stale f7_size f1_size f5_keptSize f5_aheadSize f0_solved f4_blockCount f4_blockLength f4_lastIsFree f4_stale ai al w0 w1 w2 w3) sz)) 0 0 (va_A (WX cI cJ cII cJJ ad f3_unknowns f3_equations f2_roundSupports f2_stale f7_size f1_size f5_keptSize f5_aheadSize f0_solved f4_blockCount f4_blockLength f4_lastIsFree f4_stale ai al w0 w1 w2 w3) sz) := by
  refine SM.of (y := yX8_near) (maxL := 5) (av := [.ref (ad 0), .int x1]) (Q_m178_X8_near dC dI cI cJ cII cJJ ad f3_unknowns f3_equations ai al) (by decide +kernel) (Nat.le_of_ble_eq_true rfl) (fun p e s m below meth c A ls hx hb hr hml hown hts hk hnm hA hK hP hD hS hX hl => ?_)
  have C : Cx p c s m meth (([.ref (ad 0), .int x1] : List Value).toArray) A dC dI (TY cI cJ cII cJJ) cX8_near (some .int) 5 RX8 1 g := ⟨hx, hb, hr, hml, hown, hts, hk, hA, hK, hX⟩
  have hown : s.vm.findClass RX8 = some m.cls := hown
  have hl : lv_has ls 5 [(0, .ref (ad 0)), (1, .int x1)] := hl
  obtain ⟨H, hH⟩ : ∃ q, q = s.heap := ⟨_, rfl⟩
  rw [← hH] at hP
  have hS : va_S A s.heap H [] := by rw [hH]; exact hS
  rw [← hH]
  have hF := FR_refl [21, 23, 24, 26, 27, 28, 30, 32, 33, 35, 36, 37, 38, 41, 42, 43, 44, 45, 47, 48, 49, 50, 51, 61, 63] ai
  have hG := FL_refl [13, 16, 17, 18, 19, 20] al
  have ra_x1 := s_any x1
  refine lv_aload_n hx hb dX8_near_0 rfl (lv_at hl 0 rfl) ?_
  have hM := m121_X8_freshPlans l dC dI cI cJ cII cJJ H.size 0 ad f3_unknowns f3_equations f2_roundSupports f2_stale f7_size f1_size f5_keptSize f5_aheadSize f0_solved f4_blockCount f4_blockLength f4_lastIsFree f4_stale ai al w0 w1 w2 w3 (by omega) (by omega) (by omega) (by omega) (by omega) (by omega) (by omega) (by omega) (by omega) (by omega) (by omega) hI hw_w0 hw_w1 hw_w2 hw_w3
  refine k2V_a (q0 := 0) ⟨hx, hb, hml, hown, hts⟩ hK hP hD hS hA hX cv_RX8_196 hM ⟨by decide +kernel, by decide +kernel⟩ rfl rfl (Or.inl rfl) (rest := []) rfl rfl rfl hl.1 rfl (Nat.le_of_ble_eq_true rfl) dX8_near_1 ⟨Nat.le_of_ble_eq_true rfl, Nat.le_of_ble_eq_true rfl⟩ (fun t H1 locs_1 ht hB hS_1 hFc => ?_)
  obtain ⟨v2, v3, v4, v5, ai6, ⟨gpr1_0, gpr1_1, gpr1_2, gpr1_3, hI_2, hFr_r1⟩, hP_2, -, hD_2⟩ := hB
  have hF_3 := FR_tr hF hFr_r1 (by decide)
  rw [ht] at hP_2
  have hD_4 := hD_2.weaken (B := A) (fun k q _ h9 => hFc q.1 h9)
  clear ht
  generalize H1 = H_5 at hP_2 hS_1 ⊢
  refine lv_iload_n hx hb dX8_near_4 rfl (lv_at hl 1 rfl) ?_
  have hM := m108_X4_isNumber l dC dI cI cJ cII cJJ H_5.size 0 ad f3_unknowns f3_equations f2_roundSupports f2_stale f7_size f1_size f5_keptSize f5_aheadSize f0_solved v2 v3 v4 v5 ai6 al w0 w1 w2 w3 x1 (by omega) (by omega) (by omega) (by omega) (by omega) (by omega) (by omega) (by omega) (by omega) (by omega) (by omega) hI_2 hw_w0 hw_w1 hw_w2 hw_w3
  refine k2V_i (q0 := 29) ⟨hx, hb, hml, hown, hts⟩ hK hP_2 hD_4 hS_1 hA hX cv_RX8_201 hM ⟨by decide +kernel, by decide +kernel⟩ rfl rfl (Or.inl rfl) (rest := []) rfl rfl rfl hl.1 rfl (Nat.le_of_ble_eq_true rfl) dX8_near_5 ⟨Nat.le_of_ble_eq_true rfl, Nat.le_of_ble_eq_true rfl⟩ (fun r7 t H1 locs_6 ht hB hS_6 hFc => ?_)
  obtain ⟨⟨gpr7_0, gpr7_1⟩, hP_7, -, hD_7⟩ := hB
  rw [ht] at hP_7
  have hD_8 := hD_7.weaken (B := A) (fun k q _ h9 => hFc q.1 h9)
  clear ht
  generalize H1 = H_9 at hP_7 hS_6 ⊢
  refine lv_if_ne (tgt := 17) hx hb dX8_near_8 (by decide) (fun c8 => ?_) (fun c8 => ?_)
  · have c8 := j_ne (a := r7.toInt) (b := 0) rfl (by decide +kernel) c8
    refine lv_aload_n hx hb dX8_near_17 rfl (lv_at hl 0 rfl) ?_
    refine gf (k := 2) hx hb hts inX8 hown hK hP_7 k_266 rfl (by decide) rfl 0 rfl (.ref (ad 29)) rfl dX8_near_18 ?_
    refine lv_iload_n hx hb dX8_near_21 rfl (lv_at hl 1 rfl) ?_
    refine lv_aload_n hx hb dX8_near_22 rfl (lv_at hl 0 rfl) ?_
    refine gf (k := 5) hx hb hts inX8 hown hK hP_7 k_269 rfl (by decide) rfl 0 rfl (.ref (ad 61)) rfl dX8_near_23 ?_
    have hM := m126_X4_read l dC dI cI cJ cII cJJ H_9.size 0 ad f3_unknowns f3_equations f2_roundSupports f2_stale f7_size f1_size f5_keptSize f5_aheadSize f0_solved v2 v3 v4 v5 ai6 al w0 w1 w2 w3 x1 (by omega) (by omega) (by omega) (by omega) (by omega) (by omega) (by omega) (by omega) (by omega) (by omega) (by omega) (by omega) (by omega) hI_2 hw_w0 hw_w1 hw_w2 hw_w3
    refine k2V_v (q0 := 29) ⟨hx, hb, hml, hown, hts⟩ hK hP_7 hD_8 hS_6 hA hX cv_RX8_204 hM ⟨by decide +kernel, by decide +kernel⟩ rfl rfl (Or.inl rfl) (rest := []) rfl rfl rfl hl.1 rfl (Nat.le_of_ble_eq_true rfl) dX8_near_26 ⟨Nat.le_of_ble_eq_true rfl, Nat.le_of_ble_eq_true rfl⟩ (fun t H1 locs_10 ht hB hS_10 hFc => ?_)
    obtain ⟨ai10, ⟨hI_11, hFr_r9⟩, hP_11, -, hD_11⟩ := hB
    have hF_12 := FR_tr hF_3 hFr_r9 (by decide)
    rw [ht] at hP_11
    have hD_13 := hD_11.weaken (B := A) (fun k q _ h9 => hFc q.1 h9)
    clear ht
    generalize H1 = H_14 at hP_11 hS_10 ⊢
    refine lv_aload_n hx hb dX8_near_29 rfl (lv_at hl 0 rfl) ?_
    have hM := m164_X8_freshSteps l dC dI cI cJ cII cJJ H_14.size g ad f3_unknowns f3_equations f2_roundSupports f2_stale f7_size f1_size f5_keptSize f5_aheadSize f0_solved v2 v3 v4 v5 ai10 al w0 w1 w2 w3 (by omega) (by omega) (by omega) (by omega) (by omega) (by omega) (by omega) (by omega) (by omega) (by omega) (by omega) hI_11 hw_w0 hw_w1 hw_w2 hw_w3
    refine k2V_a (q0 := 0) ⟨hx, hb, hml, hown, hts⟩ hK hP_11 hD_13 hS_10 hA hX cv_RX8_152 hM ⟨by decide +kernel, by decide +kernel⟩ rfl rfl (Or.inr ⟨rfl, rfl, rfl⟩) (rest := []) rfl rfl rfl hl.1 rfl (Nat.le_of_ble_eq_true rfl) dX8_near_30 ⟨Nat.le_of_ble_eq_true rfl, Nat.le_of_ble_eq_true rfl⟩ (fun t H1 locs_15 ht hB hS_15 hFc => ?_)
    obtain ⟨v12, v13, v14, v15, v16, v17, v18, ai19, al20, w21, w22, w23, w24, ⟨gpr11_0, gpr11_1, gpr11_2, gpr11_3, gpr11_4, hI_16, hFr_r11, hGr_r11, hw_w21, hw_w22, hw_w23, hw_w24⟩, hP_16, -, hD_16⟩ := hB
    have hF_17 := FR_tr hF_12 hFr_r11 (by decide)
    have hG_18 := FL_tr hG hGr_r11 (by decide)
    rw [ht] at hP_16
    have hD_19 := hD_16.weaken (B := A) (fun k q _ h9 => hFc q.1 h9)
    clear ht
    generalize H1 = H_20 at hP_16 hS_15 ⊢
    refine lv_astore_n (lv' := [(2, .ref (ad 11)), (0, .ref (ad 0)), (1, .int x1)]) hx hb dX8_near_33 rfl hl (by decide) rfl (fun ls_21 hl_21 => ?_)
    refine lv_iconst (v := 0) hx hb dX8_near_34 (by decide) ?_
    refine lv_istore_n (lv' := [(3, .int 0), (2, .ref (ad 11)), (0, .ref (ad 0)), (1, .int x1)]) hx hb dX8_near_35 rfl hl_21 (by decide) rfl (fun ls_22 hl_22 => ?_)
    refine lv_iconst (v := 0) hx hb dX8_near_36 (by decide) ?_
    refine lv_istore (lv' := [(4, .int 0), (3, .int 0), (2, .ref (ad 11)), (0, .ref (ad 0)), (1, .int x1)]) hx hb dX8_near_37 hl_22 (by decide) rfl (fun ls_23 hl_23 => ?_)
    exact m178_X8_near_b39 C  _ x1 0 0 v12 v13 v14 v15 v16 v17 v18 v2 v3 v4 v5 ai19 al20 w21 w22 w23 w24 _ _ _ (by first | omega | decide | (have ka0 := (by decide +kernel : (0 : Int32).toInt = 0); omega)) (by first | omega | decide | (have ka0 := (by decide +kernel : (0 : Int32).toInt = 0); omega)) (by first | omega | decide | (have ka0 := (by decide +kernel : (0 : Int32).toInt = 0); omega)) (by first | omega | decide | (have ka0 := (by decide +kernel : (0 : Int32).toInt = 0); omega)) (by first | omega | decide | (have ka0 := (by decide +kernel : (0 : Int32).toInt = 0); omega)) (by first | omega | decide | (have ka0 := (by decide +kernel : (0 : Int32).toInt = 0); omega)) (by first | omega | decide | (have ka0 := (by decide +kernel : (0 : Int32).toInt = 0); omega)) (by first | omega | decide | (have ka0 := (by decide +kernel : (0 : Int32).toInt = 0); omega)) (by first | omega | decide | (have ka0 := (by decide +kernel : (0 : Int32).toInt = 0); omega)) (by first | omega | decide | (have ka0 := (by decide +kernel : (0 : Int32).toInt = 0); omega)) (by first | omega | decide | (have ka0 := (by decide +kernel : (0 : Int32).toInt = 0); omega)) (by first | omega | decide | (have ka0 := (by decide +kernel : (0 : Int32).toInt = 0); omega)) (by first | omega | decide | (have ka0 := (by decide +kernel : (0 : Int32).toInt = 0); omega)) (j_fuel _) (by omega) hI_16 hF_17 hG_18 hw_w21 hw_w22 hw_w23 hw_w24 hP_16 hD_19 hS_15 (lv_sub hl_23 [3, 4, 2, 1, 0] rfl)
  · have c8 := j_eq (a := r7.toInt) (b := 0) rfl (by decide +kernel) c8
    refine lv_aload_n hx hb dX8_near_11 rfl (lv_at hl 0 rfl) ?_
    refine lv_iconst (v := (-1)) hx hb dX8_near_12 (by decide) ?_
    have kcm1 : ((-1) : Int32).toInt = (-1) := by decide +kernel
    have hM := m003_X8_refuse l dC dI cI cJ cII cJJ H_9.size 0 ad f3_unknowns f3_equations f2_roundSupports f2_stale f7_size f1_size f5_keptSize f5_aheadSize f0_solved v2 v3 v4 v5 ai6 al w0 w1 w2 w3 (-1) (by omega) (by omega) (by omega) (by omega) (by omega) (by omega) (by omega) (by omega) (by omega) (by omega) (by omega) hI_2 hw_w0 hw_w1 hw_w2 hw_w3
    refine k2V_i (q0 := 0) ⟨hx, hb, hml, hown, hts⟩ hK hP_7 hD_8 hS_6 hA hX cv_RX8_53 hM ⟨by decide +kernel, by decide +kernel⟩ rfl rfl (Or.inl rfl) (rest := []) rfl rfl rfl hl.1 rfl (Nat.le_of_ble_eq_true rfl) dX8_near_13 ⟨Nat.le_of_ble_eq_true rfl, Nat.le_of_ble_eq_true rfl⟩ (fun r25 t H1 locs_24 ht hB hS_24 hFc => ?_)
    obtain ⟨ai26, ⟨gpr25_0, hI_25, hFr_r25⟩, hP_25, -, hD_25⟩ := hB
    have hF_26 := FR_tr hF_3 hFr_r25 (by decide)
    rw [ht] at hP_25
    have hD_27 := hD_25.weaken (B := A) (fun k q _ h9 => hFc q.1 h9)
    clear ht
    generalize H1 = H_28 at hP_25 hS_24 ⊢
    exact r2_i hx hb hr hk hS_24 dX8_near_16 (fun t ht hW => ⟨f2_roundSupports, f2_stale, f7_size, f1_size, f5_keptSize, f5_aheadSize, f0_solved, v2, v3, v4, v5, ai26, al, w0, w1, w2, w3, ⟨(by first | omega | decide | exact Or.inl (by decide) | exact Or.inr (by decide) | exact Or.inr (by omega)), (by first | omega | decide | exact Or.inl (by decide) | exact Or.inr (by decide) | exact Or.inr (by omega)), (by first | omega | decide | exact Or.inl (by decide) | exact Or.inr (by decide) | exact Or.inr (by omega)), (by first | omega | decide | exact Or.inl (by decide) | exact Or.inr (by decide) | exact Or.inr (by omega)), (by first | omega | decide | exact Or.inl (by decide) | exact Or.inr (by decide) | exact Or.inr (by omega)), (by first | omega | decide | exact Or.inl (by decide) | exact Or.inr (by decide) | exact Or.inr (by omega)), (by first | omega | decide | exact Or.inl (by decide) | exact Or.inr (by decide) | exact Or.inr (by omega)), (by first | omega | decide | exact Or.inl (by decide) | exact Or.inr (by decide) | exact Or.inr (by omega)), (by first | omega | decide | exact Or.inl (by decide) | exact Or.inr (by decide) | exact Or.inr (by omega)), hI_25, hF_26, hG, hw_w0, hw_w1, hw_w2, hw_w3⟩, by rw [ht]; exact hP_25, va_K.moved hW.alike hK, hD_27⟩)
def Q_m179_X8_count (dC : Nat → ClassId) (dI : Nat → Nat → Nat) (cI cJ cII cJJ : ClassId) (ad : Nat → Nat) (f3_unknowns f3_equations f4_blockCount f4_blockLength f4_lastIsFree f4_stale : Int32) (ai0 : Nat → Nat → Int32) (al0 : Nat → Nat → Int64) : (Nat → Prop) → Array Value → State → Outcome → State → Prop := fun A => QI (fun r t => ∃ (n_f2_roundSupports n_f2_stale n_f7_size n_f1_size n_f5_keptSize n_f5_aheadSize n_f0_solved : Int32), ∃ (n_ai : Nat → Nat → Int32), ∃ (n_al : Nat → Nat → Int64), ∃ (n_w0 n_w1 n_w2 n_w3 : Nat), ((0 ≤ n_f2_stale.toInt ∧ n_f2_stale.toInt ≤ 1) ∧ (0 ≤ n_f7_size.toInt ∧ n_f7_size.toInt ≤ 256) ∧ (0 ≤ n_f1_size.toInt ∧ n_f1_size.toInt ≤ 4) ∧ (0 ≤ n_f5_keptSize.toInt ∧ n_f5_keptSize.toInt ≤ 128) ∧ (0 ≤ n_f5_aheadSize.toInt ∧ n_f5_aheadSize.toInt ≤ 128) ∧ IAX n_ai ∧ FR [21, 23, 24, 26, 27, 28, 61] ai0 n_ai ∧ FL [13, 16, 17, 18, 19, 20] al0 n_al ∧ RWX ad n_w0 ∧ RWX ad n_w1 ∧ RWX ad n_w2 ∧ RWX ad n_w3) ∧ WO dC dI (TY cI cJ cII cJJ) (WX cI cJ cII cJJ ad f3_unknowns f3_equations n_f2_roundSupports n_f2_stale n_f7_size n_f1_size n_f5_keptSize n_f5_aheadSize n_f0_solved f4_blockCount f4_blockLength f4_lastIsFree f4_stale n_ai n_al n_w0 n_w1 n_w2 n_w3) A t) A
set_option maxRecDepth 100000 in
set_option maxHeartbeats 4000000 in
theorem m179_X8_count_b43 {p : Program} {l : Launch} {e : Env} {s : State} {m : MethodId} {args : Array Value} {below : List Frame} {meth : Method} {c : Code} {A : Nat → Prop} {dC : Nat → ClassId} {dI : Nat → Nat → Nat} {cI cJ cII cJJ : ClassId} {ad : Nat → Nat} {g : Nat} {f3_unknowns f3_equations f4_blockCount f4_blockLength f4_lastIsFree f4_stale : Int32} {ai0 : Nat → Nat → Int32} {al0 : Nat → Nat → Int64} (C : Cx p c s m meth args A dC dI (TY cI cJ cII cJJ) cX8_count (some .int) 2 RX8 1 g) : ∀ (L1 f2_roundSupports f2_stale f7_size f1_size f5_keptSize f5_aheadSize f0_solved : Int32) (ai : Nat → Nat → Int32) (al : Nat → Nat → Int64) (w0 w1 w2 w3 : Nat) (H : Heap) (locs : List Loc) (ls : Array Slot), (1 ≤ f3_unknowns.toInt ∧ f3_unknowns.toInt ≤ 4) → (0 ≤ f3_equations.toInt ∧ f3_equations.toInt ≤ 3) → (0 ≤ f2_stale.toInt ∧ f2_stale.toInt ≤ 1) → (0 ≤ f7_size.toInt ∧ f7_size.toInt ≤ 256) → (0 ≤ f1_size.toInt ∧ f1_size.toInt ≤ 4) → (0 ≤ f5_keptSize.toInt ∧ f5_keptSize.toInt ≤ 128) → (0 ≤ f5_aheadSize.toInt ∧ f5_aheadSize.toInt ≤ 128) → (0 ≤ f4_blockCount.toInt ∧ f4_blockCount.toInt ≤ 9261) → (0 ≤ f4_blockLength.toInt ∧ f4_blockLength.toInt ≤ 21) → (0 ≤ f4_lastIsFree.toInt ∧ f4_lastIsFree.toInt ≤ 1) → (0 ≤ f4_stale.toInt ∧ f4_stale.toInt ≤ 1) → IAX ai → FR [21, 23, 24, 26, 27, 28, 61] ai0 ai → FL [13, 16, 17, 18, 19, 20] al0 al → RWX ad w0 → RWX ad w1 → RWX ad w2 → RWX ad w3 → va_P (dC, dI) vwCl (WX cI cJ cII cJJ ad f3_unknowns f3_equations f2_roundSupports f2_stale f7_size f1_size f5_keptSize f5_aheadSize f0_solved f4_blockCount f4_blockLength f4_lastIsFree f4_stale ai al w0 w1 w2 w3) H → va_D A (WX cI cJ cII cJJ ad f3_unknowns f3_equations f2_roundSupports f2_stale f7_size f1_size f5_keptSize f5_aheadSize f0_solved f4_blockCount f4_blockLength f4_lastIsFree f4_stale ai al w0 w1 w2 w3) → va_S A s.heap H locs → lv_has ls 2 [(0, .ref (ad 0)), (1, .int L1)] → W p l e ({ frames := 15, cells := 0, slots := 0, locals := 860 } : Room) s m args below meth c H locs 0 0 (MQ below (Q_m179_X8_count dC dI cI cJ cII cJJ ad f3_unknowns f3_equations f4_blockCount f4_blockLength f4_lastIsFree f4_stale ai0 al0 A) args s 0 0 A) (F0 m 43 ls []) := by
  obtain ⟨hx, hb, hr, hml, hown, hts, hk, hA, hK, hX⟩ := id C
  intro L1 f2_roundSupports f2_stale f7_size f1_size f5_keptSize f5_aheadSize f0_solved ai al w0 w1 w2 w3 H locs ls h0 h1 h2 h3 h4 h5 h6 h7 h8 h9 h10 hI hF hG hw_w0 hw_w1 hw_w2 hw_w3 hP hD hS hl
  have ra_L1 := s_any L1
  refine lv_iload_n hx hb dX8_count_43 rfl (lv_at hl 1 rfl) ?_
  rcases j_sw6 L1 with rfl | rfl | rfl | rfl | rfl | rfl | rfl | h9
  · have k9 : (0 : Int32).toInt = 0 := by decide +kernel
    refine lv_tableIn (off := 44) (tgt := 88) hx hb dX8_count_44 (by decide +kernel) (by decide +kernel) (by decide +kernel) (by decide) ?_
    refine lv_aload_n hx hb dX8_count_88 rfl (lv_at hl 0 rfl) ?_
    refine gf (k := 0) hx hb hts inX8 hown hK hP k_264 rfl (by decide) rfl 0 rfl (.ref (ad 6)) rfl dX8_count_89 ?_
    refine gf (k := 0) hx hb hts inX3 hown hK hP k_42 rfl (by decide) rfl 6 rfl (.int f3_unknowns) rfl dX8_count_92 ?_
    exact r2_i hx hb hr hk hS dX8_count_95 (fun t ht hW => ⟨f2_roundSupports, f2_stale, f7_size, f1_size, f5_keptSize, f5_aheadSize, f0_solved, ai, al, w0, w1, w2, w3, ⟨(by first | omega | decide | exact Or.inl (by decide) | exact Or.inr (by decide) | exact Or.inr (by omega)), (by first | omega | decide | exact Or.inl (by decide) | exact Or.inr (by decide) | exact Or.inr (by omega)), (by first | omega | decide | exact Or.inl (by decide) | exact Or.inr (by decide) | exact Or.inr (by omega)), (by first | omega | decide | exact Or.inl (by decide) | exact Or.inr (by decide) | exact Or.inr (by omega)), (by first | omega | decide | exact Or.inl (by decide) | exact Or.inr (by decide) | exact Or.inr (by omega)), hI, hF, hG, hw_w0, hw_w1, hw_w2, hw_w3⟩, by rw [ht]; exact hP, va_K.moved hW.alike hK, hD⟩)
  · have k9 : (1 : Int32).toInt = 1 := by decide +kernel
    refine lv_tableIn (off := 52) (tgt := 96) hx hb dX8_count_44 (by decide +kernel) (by decide +kernel) (by decide +kernel) (by decide) ?_
    refine lv_aload_n hx hb dX8_count_96 rfl (lv_at hl 0 rfl) ?_
    refine gf (k := 0) hx hb hts inX8 hown hK hP k_264 rfl (by decide) rfl 0 rfl (.ref (ad 6)) rfl dX8_count_97 ?_
    refine gf (k := 1) hx hb hts inX3 hown hK hP k_45 rfl (by decide) rfl 6 rfl (.int f3_equations) rfl dX8_count_100 ?_
    exact r2_i hx hb hr hk hS dX8_count_103 (fun t ht hW => ⟨f2_roundSupports, f2_stale, f7_size, f1_size, f5_keptSize, f5_aheadSize, f0_solved, ai, al, w0, w1, w2, w3, ⟨(by first | omega | decide | exact Or.inl (by decide) | exact Or.inr (by decide) | exact Or.inr (by omega)), (by first | omega | decide | exact Or.inl (by decide) | exact Or.inr (by decide) | exact Or.inr (by omega)), (by first | omega | decide | exact Or.inl (by decide) | exact Or.inr (by decide) | exact Or.inr (by omega)), (by first | omega | decide | exact Or.inl (by decide) | exact Or.inr (by decide) | exact Or.inr (by omega)), (by first | omega | decide | exact Or.inl (by decide) | exact Or.inr (by decide) | exact Or.inr (by omega)), hI, hF, hG, hw_w0, hw_w1, hw_w2, hw_w3⟩, by rw [ht]; exact hP, va_K.moved hW.alike hK, hD⟩)
  · have k9 : (2 : Int32).toInt = 2 := by decide +kernel
    refine lv_tableIn (off := 103) (tgt := 147) hx hb dX8_count_44 (by decide +kernel) (by decide +kernel) (by decide +kernel) (by decide) ?_
    refine lv_ldc (v := (-99999)) hx hb hown (hts _ k_543) dX8_count_147 ?_
    exact r2_i hx hb hr hk hS dX8_count_149 (fun t ht hW => ⟨f2_roundSupports, f2_stale, f7_size, f1_size, f5_keptSize, f5_aheadSize, f0_solved, ai, al, w0, w1, w2, w3, ⟨(by first | omega | decide | exact Or.inl (by decide) | exact Or.inr (by decide) | exact Or.inr (by omega)), (by first | omega | decide | exact Or.inl (by decide) | exact Or.inr (by decide) | exact Or.inr (by omega)), (by first | omega | decide | exact Or.inl (by decide) | exact Or.inr (by decide) | exact Or.inr (by omega)), (by first | omega | decide | exact Or.inl (by decide) | exact Or.inr (by decide) | exact Or.inr (by omega)), (by first | omega | decide | exact Or.inl (by decide) | exact Or.inr (by decide) | exact Or.inr (by omega)), hI, hF, hG, hw_w0, hw_w1, hw_w2, hw_w3⟩, by rw [ht]; exact hP, va_K.moved hW.alike hK, hD⟩)
  · have k9 : (3 : Int32).toInt = 3 := by decide +kernel
    refine lv_tableIn (off := 103) (tgt := 147) hx hb dX8_count_44 (by decide +kernel) (by decide +kernel) (by decide +kernel) (by decide) ?_
    refine lv_ldc (v := (-99999)) hx hb hown (hts _ k_543) dX8_count_147 ?_
    exact r2_i hx hb hr hk hS dX8_count_149 (fun t ht hW => ⟨f2_roundSupports, f2_stale, f7_size, f1_size, f5_keptSize, f5_aheadSize, f0_solved, ai, al, w0, w1, w2, w3, ⟨(by first | omega | decide | exact Or.inl (by decide) | exact Or.inr (by decide) | exact Or.inr (by omega)), (by first | omega | decide | exact Or.inl (by decide) | exact Or.inr (by decide) | exact Or.inr (by omega)), (by first | omega | decide | exact Or.inl (by decide) | exact Or.inr (by decide) | exact Or.inr (by omega)), (by first | omega | decide | exact Or.inl (by decide) | exact Or.inr (by decide) | exact Or.inr (by omega)), (by first | omega | decide | exact Or.inl (by decide) | exact Or.inr (by decide) | exact Or.inr (by omega)), hI, hF, hG, hw_w0, hw_w1, hw_w2, hw_w3⟩, by rw [ht]; exact hP, va_K.moved hW.alike hK, hD⟩)
  · have k9 : (4 : Int32).toInt = 4 := by decide +kernel
    refine lv_tableIn (off := 103) (tgt := 147) hx hb dX8_count_44 (by decide +kernel) (by decide +kernel) (by decide +kernel) (by decide) ?_
    refine lv_ldc (v := (-99999)) hx hb hown (hts _ k_543) dX8_count_147 ?_
    exact r2_i hx hb hr hk hS dX8_count_149 (fun t ht hW => ⟨f2_roundSupports, f2_stale, f7_size, f1_size, f5_keptSize, f5_aheadSize, f0_solved, ai, al, w0, w1, w2, w3, ⟨(by first | omega | decide | exact Or.inl (by decide) | exact Or.inr (by decide) | exact Or.inr (by omega)), (by first | omega | decide | exact Or.inl (by decide) | exact Or.inr (by decide) | exact Or.inr (by omega)), (by first | omega | decide | exact Or.inl (by decide) | exact Or.inr (by decide) | exact Or.inr (by omega)), (by first | omega | decide | exact Or.inl (by decide) | exact Or.inr (by decide) | exact Or.inr (by omega)), (by first | omega | decide | exact Or.inl (by decide) | exact Or.inr (by decide) | exact Or.inr (by omega)), hI, hF, hG, hw_w0, hw_w1, hw_w2, hw_w3⟩, by rw [ht]; exact hP, va_K.moved hW.alike hK, hD⟩)
  · have k9 : (5 : Int32).toInt = 5 := by decide +kernel
    refine lv_tableIn (off := 60) (tgt := 104) hx hb dX8_count_44 (by decide +kernel) (by decide +kernel) (by decide +kernel) (by decide) ?_
    refine lv_aload_n hx hb dX8_count_104 rfl (lv_at hl 0 rfl) ?_
    refine gf (k := 3) hx hb hts inX8 hown hK hP k_267 rfl (by decide) rfl 0 rfl (.ref (ad 52)) rfl dX8_count_105 ?_
    have hM := m033_X6_allElements l dC dI cI cJ cII cJJ H.size 0 ad f3_unknowns f3_equations f2_roundSupports f2_stale f7_size f1_size f5_keptSize f5_aheadSize f0_solved f4_blockCount f4_blockLength f4_lastIsFree f4_stale ai al w0 w1 w2 w3 (by omega) (by omega) (by omega) (by omega) (by omega) (by omega) (by omega) (by omega) (by omega) (by omega) (by omega) hI hw_w0 hw_w1 hw_w2 hw_w3
    refine k2V_i (q0 := 52) ⟨hx, hb, hml, hown, hts⟩ hK hP hD hS hA hX cv_RX8_227 hM ⟨by decide +kernel, by decide +kernel⟩ rfl rfl (Or.inl rfl) (rest := []) rfl rfl rfl hl.1 rfl (Nat.le_of_ble_eq_true rfl) dX8_count_108 ⟨Nat.le_of_ble_eq_true rfl, Nat.le_of_ble_eq_true rfl⟩ (fun r1 t H1 locs_1 ht hB hS_1 hFc => ?_)
    obtain ⟨-, hP_2, -, hD_2⟩ := hB
    rw [ht] at hP_2
    have hD_3 := hD_2.weaken (B := A) (fun k q _ h9 => hFc q.1 h9)
    clear ht
    generalize H1 = H_4 at hP_2 hS_1 ⊢
    exact r2_i hx hb hr hk hS_1 dX8_count_111 (fun t ht hW => ⟨f2_roundSupports, f2_stale, f7_size, f1_size, f5_keptSize, f5_aheadSize, f0_solved, ai, al, w0, w1, w2, w3, ⟨(by first | omega | decide | exact Or.inl (by decide) | exact Or.inr (by decide) | exact Or.inr (by omega)), (by first | omega | decide | exact Or.inl (by decide) | exact Or.inr (by decide) | exact Or.inr (by omega)), (by first | omega | decide | exact Or.inl (by decide) | exact Or.inr (by decide) | exact Or.inr (by omega)), (by first | omega | decide | exact Or.inl (by decide) | exact Or.inr (by decide) | exact Or.inr (by omega)), (by first | omega | decide | exact Or.inl (by decide) | exact Or.inr (by decide) | exact Or.inr (by omega)), hI, hF, hG, hw_w0, hw_w1, hw_w2, hw_w3⟩, by rw [ht]; exact hP_2, va_K.moved hW.alike hK, hD_3⟩)
  · have k9 : (6 : Int32).toInt = 6 := by decide +kernel
    refine lv_tableIn (off := 68) (tgt := 112) hx hb dX8_count_44 (by decide +kernel) (by decide +kernel) (by decide +kernel) (by decide) ?_
    refine lv_aload_n hx hb dX8_count_112 rfl (lv_at hl 0 rfl) ?_
    refine gf (k := 0) hx hb hts inX8 hown hK hP k_264 rfl (by decide) rfl 0 rfl (.ref (ad 6)) rfl dX8_count_113 ?_
    refine lv_aload_n hx hb dX8_count_116 rfl (lv_at hl 0 rfl) ?_
    refine gf (k := 4) hx hb hts inX8 hown hK hP k_268 rfl (by decide) rfl 0 rfl (.ref (ad 60)) rfl dX8_count_117 ?_
    have hM := m007_X3_isStep l dC dI cI cJ cII cJJ H.size 0 ad f3_unknowns f3_equations f2_roundSupports f2_stale f7_size f1_size f5_keptSize f5_aheadSize f0_solved f4_blockCount f4_blockLength f4_lastIsFree f4_stale ai al w0 w1 w2 w3 (by omega) (by omega) (by omega) (by omega) (by omega) (by omega) (by omega) (by omega) (by omega) (by omega) (by omega) hI hw_w0 hw_w1 hw_w2 hw_w3
    refine k2V_i (q0 := 6) ⟨hx, hb, hml, hown, hts⟩ hK hP hD hS hA hX cv_RX8_170 hM ⟨by decide +kernel, by decide +kernel⟩ rfl rfl (Or.inl rfl) (rest := []) rfl rfl rfl hl.1 rfl (Nat.le_of_ble_eq_true rfl) dX8_count_120 ⟨Nat.le_of_ble_eq_true rfl, Nat.le_of_ble_eq_true rfl⟩ (fun r2 t H1 locs_5 ht hB hS_5 hFc => ?_)
    obtain ⟨gpr2_0, hP_6, -, hD_6⟩ := hB
    rw [ht] at hP_6
    have hD_7 := hD_6.weaken (B := A) (fun k q _ h9 => hFc q.1 h9)
    clear ht
    generalize H1 = H_8 at hP_6 hS_5 ⊢
    refine lv_if_eq (tgt := 145) hx hb dX8_count_123 (by decide) (fun c3 => ?_) (fun c3 => ?_)
    · have c3 := j_eq (a := r2.toInt) (b := 0) rfl (by decide +kernel) c3
      refine lv_iconst (v := 0) hx hb dX8_count_145 (by decide) ?_
      exact r2_i hx hb hr hk hS_5 dX8_count_146 (fun t ht hW => ⟨f2_roundSupports, f2_stale, f7_size, f1_size, f5_keptSize, f5_aheadSize, f0_solved, ai, al, w0, w1, w2, w3, ⟨(by first | omega | decide | exact Or.inl (by decide) | exact Or.inr (by decide) | exact Or.inr (by omega)), (by first | omega | decide | exact Or.inl (by decide) | exact Or.inr (by decide) | exact Or.inr (by omega)), (by first | omega | decide | exact Or.inl (by decide) | exact Or.inr (by decide) | exact Or.inr (by omega)), (by first | omega | decide | exact Or.inl (by decide) | exact Or.inr (by decide) | exact Or.inr (by omega)), (by first | omega | decide | exact Or.inl (by decide) | exact Or.inr (by decide) | exact Or.inr (by omega)), hI, hF, hG, hw_w0, hw_w1, hw_w2, hw_w3⟩, by rw [ht]; exact hP_6, va_K.moved hW.alike hK, hD_7⟩)
    · have c3 := j_ne (a := r2.toInt) (b := 0) rfl (by decide +kernel) c3
      refine lv_aload_n hx hb dX8_count_126 rfl (lv_at hl 0 rfl) ?_
      refine lv_aload_n hx hb dX8_count_127 rfl (lv_at hl 0 rfl) ?_
      have hM := m164_X8_freshSteps l dC dI cI cJ cII cJJ H_8.size g ad f3_unknowns f3_equations f2_roundSupports f2_stale f7_size f1_size f5_keptSize f5_aheadSize f0_solved f4_blockCount f4_blockLength f4_lastIsFree f4_stale ai al w0 w1 w2 w3 (by omega) (by omega) (by omega) (by omega) (by omega) (by omega) (by omega) (by omega) (by omega) (by omega) (by omega) hI hw_w0 hw_w1 hw_w2 hw_w3
      refine k2V_a (q0 := 0) ⟨hx, hb, hml, hown, hts⟩ hK hP_6 hD_7 hS_5 hA hX cv_RX8_152 hM ⟨by decide +kernel, by decide +kernel⟩ rfl rfl (Or.inr ⟨rfl, rfl, rfl⟩) (rest := [.ref (ad 0)]) rfl rfl rfl hl.1 rfl (Nat.le_of_ble_eq_true rfl) dX8_count_128 ⟨Nat.le_of_ble_eq_true rfl, Nat.le_of_ble_eq_true rfl⟩ (fun t H1 locs_9 ht hB hS_9 hFc => ?_)
      obtain ⟨v5, v6, v7, v8, v9, v10, v11, ai12, al13, w14, w15, w16, w17, ⟨gpr4_0, gpr4_1, gpr4_2, gpr4_3, gpr4_4, hI_10, hFr_r4, hGr_r4, hw_w14, hw_w15, hw_w16, hw_w17⟩, hP_10, -, hD_10⟩ := hB
      have hF_11 := FR_tr hF hFr_r4 (by decide)
      have hG_12 := FL_tr hG hGr_r4 (by decide)
      rw [ht] at hP_10
      have hD_13 := hD_10.weaken (B := A) (fun k q _ h9 => hFc q.1 h9)
      clear ht
      generalize H1 = H_14 at hP_10 hS_9 ⊢
      refine lv_iconst (v := 0) hx hb dX8_count_131 (by decide) ?_
      refine lv_aload_n hx hb dX8_count_132 rfl (lv_at hl 0 rfl) ?_
      refine gf (k := 1) hx hb hts inX8 hown hK hP_10 k_265 rfl (by decide) rfl 0 rfl (.ref (ad 11)) rfl dX8_count_133 ?_
      have hM := m035_X2_size l dC dI cI cJ cII cJJ H_14.size 0 ad f3_unknowns f3_equations v5 v6 v7 v8 v9 v10 v11 f4_blockCount f4_blockLength f4_lastIsFree f4_stale ai12 al13 w14 w15 w16 w17 (by omega) (by omega) (by omega) (by omega) (by omega) (by omega) (by omega) (by omega) (by omega) (by omega) (by omega) hI_10 hw_w14 hw_w15 hw_w16 hw_w17
      refine k2V_i (q0 := 11) ⟨hx, hb, hml, hown, hts⟩ hK hP_10 hD_13 hS_9 hA hX cv_RX8_156 hM ⟨by decide +kernel, by decide +kernel⟩ rfl rfl (Or.inl rfl) (rest := [.int 0, .ref (ad 11), .ref (ad 0)]) rfl rfl rfl hl.1 rfl (Nat.le_of_ble_eq_true rfl) dX8_count_136 ⟨Nat.le_of_ble_eq_true rfl, Nat.le_of_ble_eq_true rfl⟩ (fun r18 t H1 locs_15 ht hB hS_15 hFc => ?_)
      obtain ⟨⟨gpr18_0, gpr18_1⟩, hP_16, -, hD_16⟩ := hB
      rw [ht] at hP_16
      have hD_17 := hD_16.weaken (B := A) (fun k q _ h9 => hFc q.1 h9)
      clear ht
      generalize H1 = H_18 at hP_16 hS_15 ⊢
      have kc0 : (0 : Int32).toInt = 0 := by decide +kernel
      have hM := m172_X8_amountsOfSplit l dC dI cI cJ cII cJJ H_18.size 0 ad f3_unknowns f3_equations v5 v6 v7 v8 v9 v10 v11 f4_blockCount f4_blockLength f4_lastIsFree f4_stale ai12 al13 w14 w15 w16 w17 0 r18 (by omega) (by omega) (by omega) (by omega) (by omega) (by omega) (by omega) (by omega) (by omega) (by omega) (by omega) hI_10 hw_w14 hw_w15 hw_w16 hw_w17
      refine k2V_i (q0 := 0) ⟨hx, hb, hml, hown, hts⟩ hK hP_16 hD_17 hS_15 hA hX cv_RX8_180 hM ⟨by decide +kernel, by decide +kernel⟩ rfl rfl (Or.inl rfl) (rest := []) rfl rfl rfl hl.1 rfl (Nat.le_of_ble_eq_true rfl) dX8_count_139 ⟨Nat.le_of_ble_eq_true rfl, Nat.le_of_ble_eq_true rfl⟩ (fun r19 t H1 locs_19 ht hB hS_19 hFc => ?_)
      obtain ⟨ai20, ⟨hI_20, hFr_r19⟩, hP_20, -, hD_20⟩ := hB
      have hF_21 := FR_tr hF_11 hFr_r19 (by decide)
      rw [ht] at hP_20
      have hD_22 := hD_20.weaken (B := A) (fun k q _ h9 => hFc q.1 h9)
      clear ht
      generalize H1 = H_23 at hP_20 hS_19 ⊢
      refine lv_goto (tgt := 146) hx hb dX8_count_142 (by decide) ?_
      exact r2_i hx hb hr hk hS_19 dX8_count_146 (fun t ht hW => ⟨v5, v6, v7, v8, v9, v10, v11, ai20, al13, w14, w15, w16, w17, ⟨(by first | omega | decide | exact Or.inl (by decide) | exact Or.inr (by decide) | exact Or.inr (by omega)), (by first | omega | decide | exact Or.inl (by decide) | exact Or.inr (by decide) | exact Or.inr (by omega)), (by first | omega | decide | exact Or.inl (by decide) | exact Or.inr (by decide) | exact Or.inr (by omega)), (by first | omega | decide | exact Or.inl (by decide) | exact Or.inr (by decide) | exact Or.inr (by omega)), (by first | omega | decide | exact Or.inl (by decide) | exact Or.inr (by decide) | exact Or.inr (by omega)), hI_20, hF_21, hG_12, hw_w14, hw_w15, hw_w16, hw_w17⟩, by rw [ht]; exact hP_20, va_K.moved hW.alike hK, hD_22⟩)
  · skip
    refine lv_tableOut (tgt := 147) hx hb dX8_count_44 h9 (by decide) ?_
    refine lv_ldc (v := (-99999)) hx hb hown (hts _ k_543) dX8_count_147 ?_
    exact r2_i hx hb hr hk hS dX8_count_149 (fun t ht hW => ⟨f2_roundSupports, f2_stale, f7_size, f1_size, f5_keptSize, f5_aheadSize, f0_solved, ai, al, w0, w1, w2, w3, ⟨(by first | omega | decide | exact Or.inl (by decide) | exact Or.inr (by decide) | exact Or.inr (by omega)), (by first | omega | decide | exact Or.inl (by decide) | exact Or.inr (by decide) | exact Or.inr (by omega)), (by first | omega | decide | exact Or.inl (by decide) | exact Or.inr (by decide) | exact Or.inr (by omega)), (by first | omega | decide | exact Or.inl (by decide) | exact Or.inr (by decide) | exact Or.inr (by omega)), (by first | omega | decide | exact Or.inl (by decide) | exact Or.inr (by decide) | exact Or.inr (by omega)), hI, hF, hG, hw_w0, hw_w1, hw_w2, hw_w3⟩, by rw [ht]; exact hP, va_K.moved hW.alike hK, hD⟩)
set_option maxRecDepth 100000 in
set_option maxHeartbeats 4000000 in
theorem m179_X8_count_b21 {p : Program} {l : Launch} {e : Env} {s : State} {m : MethodId} {args : Array Value} {below : List Frame} {meth : Method} {c : Code} {A : Nat → Prop} {dC : Nat → ClassId} {dI : Nat → Nat → Nat} {cI cJ cII cJJ : ClassId} {ad : Nat → Nat} {g : Nat} {f3_unknowns f3_equations f4_blockCount f4_blockLength f4_lastIsFree f4_stale : Int32} {ai0 : Nat → Nat → Int32} {al0 : Nat → Nat → Int64} (C : Cx p c s m meth args A dC dI (TY cI cJ cII cJJ) cX8_count (some .int) 2 RX8 1 g) : ∀ (L1 f2_roundSupports f2_stale f7_size f1_size f5_keptSize f5_aheadSize f0_solved : Int32) (ai : Nat → Nat → Int32) (al : Nat → Nat → Int64) (w0 w1 w2 w3 : Nat) (H : Heap) (locs : List Loc) (ls : Array Slot), (1 ≤ f3_unknowns.toInt ∧ f3_unknowns.toInt ≤ 4) → (0 ≤ f3_equations.toInt ∧ f3_equations.toInt ≤ 3) → (0 ≤ f2_stale.toInt ∧ f2_stale.toInt ≤ 1) → (0 ≤ f7_size.toInt ∧ f7_size.toInt ≤ 256) → (0 ≤ f1_size.toInt ∧ f1_size.toInt ≤ 4) → (0 ≤ f5_keptSize.toInt ∧ f5_keptSize.toInt ≤ 128) → (0 ≤ f5_aheadSize.toInt ∧ f5_aheadSize.toInt ≤ 128) → (0 ≤ f4_blockCount.toInt ∧ f4_blockCount.toInt ≤ 9261) → (0 ≤ f4_blockLength.toInt ∧ f4_blockLength.toInt ≤ 21) → (0 ≤ f4_lastIsFree.toInt ∧ f4_lastIsFree.toInt ≤ 1) → (0 ≤ f4_stale.toInt ∧ f4_stale.toInt ≤ 1) → IAX ai → FR [21, 23, 24, 26, 27, 28, 61] ai0 ai → FL [13, 16, 17, 18, 19, 20] al0 al → RWX ad w0 → RWX ad w1 → RWX ad w2 → RWX ad w3 → va_P (dC, dI) vwCl (WX cI cJ cII cJJ ad f3_unknowns f3_equations f2_roundSupports f2_stale f7_size f1_size f5_keptSize f5_aheadSize f0_solved f4_blockCount f4_blockLength f4_lastIsFree f4_stale ai al w0 w1 w2 w3) H → va_D A (WX cI cJ cII cJJ ad f3_unknowns f3_equations f2_roundSupports f2_stale f7_size f1_size f5_keptSize f5_aheadSize f0_solved f4_blockCount f4_blockLength f4_lastIsFree f4_stale ai al w0 w1 w2 w3) → va_S A s.heap H locs → lv_has ls 2 [(0, .ref (ad 0)), (1, .int L1)] → W p l e ({ frames := 15, cells := 0, slots := 0, locals := 860 } : Room) s m args below meth c H locs 0 0 (MQ below (Q_m179_X8_count dC dI cI cJ cII cJJ ad f3_unknowns f3_equations f4_blockCount f4_blockLength f4_lastIsFree f4_stale ai0 al0 A) args s 0 0 A) (F0 m 21 ls []) := by
  obtain ⟨hx, hb, hr, hml, hown, hts, hk, hA, hK, hX⟩ := id C
  intro L1 f2_roundSupports f2_stale f7_size f1_size f5_keptSize f5_aheadSize f0_solved ai al w0 w1 w2 w3 H locs ls h0 h1 h2 h3 h4 h5 h6 h7 h8 h9 h10 hI hF hG hw_w0 hw_w1 hw_w2 hw_w3 hP hD hS hl
  have ra_L1 := s_any L1
  refine lv_iload_n hx hb dX8_count_21 rfl (lv_at hl 1 rfl) ?_
  refine lv_bipush (v := 10) hx hb dX8_count_22 (by decide) ?_
  refine lv_icmp_le (tgt := 43) hx hb dX8_count_24 (by decide) (fun c1 => ?_) (fun c1 => ?_)
  · have c1 := j_le (a := L1.toInt) (b := 10) rfl (by decide +kernel) c1
    exact m179_X8_count_b43 C  L1 f2_roundSupports f2_stale f7_size f1_size f5_keptSize f5_aheadSize f0_solved ai al w0 w1 w2 w3 _ _ _ (by omega) (by omega) (by omega) (by omega) (by omega) (by omega) (by omega) (by omega) (by omega) (by omega) (by omega) hI hF hG hw_w0 hw_w1 hw_w2 hw_w3 hP hD hS (lv_sub hl [0, 1] rfl)
  · have c1 := j_nle (a := L1.toInt) (b := 10) rfl (by decide +kernel) c1
    refine lv_iload_n hx hb dX8_count_27 rfl (lv_at hl 1 rfl) ?_
    refine lv_bipush (v := 17) hx hb dX8_count_28 (by decide) ?_
    refine lv_icmp_gt (tgt := 43) hx hb dX8_count_30 (by decide) (fun c2 => ?_) (fun c2 => ?_)
    · have c2 := j_lt (a := 17) (b := L1.toInt) (by decide +kernel) rfl c2
      exact m179_X8_count_b43 C  L1 f2_roundSupports f2_stale f7_size f1_size f5_keptSize f5_aheadSize f0_solved ai al w0 w1 w2 w3 _ _ _ (by omega) (by omega) (by omega) (by omega) (by omega) (by omega) (by omega) (by omega) (by omega) (by omega) (by omega) hI hF hG hw_w0 hw_w1 hw_w2 hw_w3 hP hD hS (lv_sub hl [0, 1] rfl)
    · have c2 := j_nlt (a := 17) (b := L1.toInt) (by decide +kernel) rfl c2
      refine lv_aload_n hx hb dX8_count_33 rfl (lv_at hl 0 rfl) ?_
      refine gf (k := 7) hx hb hts inX8 hown hK hP k_271 rfl (by decide) rfl 0 rfl (.ref (ad 63)) rfl dX8_count_34 ?_
      refine lv_iload_n hx hb dX8_count_37 rfl (lv_at hl 1 rfl) ?_
      refine lv_bipush (v := 10) hx hb dX8_count_38 (by decide) ?_
      refine v_isub hx hb dX8_count_40 _ rfl ?_
      refine lv_topi (fun z3 e_z3 => ?_)
      have g_z3 : z3.toInt = L1.toInt - 10 := by rw [e_z3]; exact n_sub (a := L1.toInt) (b := 10) rfl (by decide +kernel) (by omega) (by omega)
      refine va_iald hx hb hK hP 63 0 rfl rfl (j_in (a := z3.toInt) rfl (by omega) (by omega)) dX8_count_41 ?_
      refine lv_topi (fun z4 e_z4 => ?_)
      exact r2_i hx hb hr hk hS dX8_count_42 (fun t ht hW => ⟨f2_roundSupports, f2_stale, f7_size, f1_size, f5_keptSize, f5_aheadSize, f0_solved, ai, al, w0, w1, w2, w3, ⟨(by first | omega | decide | exact Or.inl (by decide) | exact Or.inr (by decide) | exact Or.inr (by omega)), (by first | omega | decide | exact Or.inl (by decide) | exact Or.inr (by decide) | exact Or.inr (by omega)), (by first | omega | decide | exact Or.inl (by decide) | exact Or.inr (by decide) | exact Or.inr (by omega)), (by first | omega | decide | exact Or.inl (by decide) | exact Or.inr (by decide) | exact Or.inr (by omega)), (by first | omega | decide | exact Or.inl (by decide) | exact Or.inr (by decide) | exact Or.inr (by omega)), hI, hF, hG, hw_w0, hw_w1, hw_w2, hw_w3⟩, by rw [ht]; exact hP, va_K.moved hW.alike hK, hD⟩)
set_option maxRecDepth 100000 in
set_option maxHeartbeats 4000000 in
theorem m179_X8_count (l : Launch) (dC : Nat → ClassId) (dI : Nat → Nat → Nat) (cI cJ cII cJJ : ClassId) (sz g : Nat) (ad : Nat → Nat) (f3_unknowns f3_equations f2_roundSupports f2_stale f7_size f1_size f5_keptSize f5_aheadSize f0_solved f4_blockCount f4_blockLength f4_lastIsFree f4_stale : Int32) (ai : Nat → Nat → Int32) (al : Nat → Nat → Int64) (w0 w1 w2 w3 : Nat) (x1 : Int32) (h_f3_unknowns : (1 ≤ f3_unknowns.toInt ∧ f3_unknowns.toInt ≤ 4)) (h_f3_equations : (0 ≤ f3_equations.toInt ∧ f3_equations.toInt ≤ 3)) (h_f2_stale : (0 ≤ f2_stale.toInt ∧ f2_stale.toInt ≤ 1)) (h_f7_size : (0 ≤ f7_size.toInt ∧ f7_size.toInt ≤ 256)) (h_f1_size : (0 ≤ f1_size.toInt ∧ f1_size.toInt ≤ 4)) (h_f5_keptSize : (0 ≤ f5_keptSize.toInt ∧ f5_keptSize.toInt ≤ 128)) (h_f5_aheadSize : (0 ≤ f5_aheadSize.toInt ∧ f5_aheadSize.toInt ≤ 128)) (h_f4_blockCount : (0 ≤ f4_blockCount.toInt ∧ f4_blockCount.toInt ≤ 9261)) (h_f4_blockLength : (0 ≤ f4_blockLength.toInt ∧ f4_blockLength.toInt ≤ 21)) (h_f4_lastIsFree : (0 ≤ f4_lastIsFree.toInt ∧ f4_lastIsFree.toInt ≤ 1)) (h_f4_stale : (0 ≤ f4_stale.toInt ∧ f4_stale.toInt ≤ 1)) (hI : IAX ai) (hw_w0 : RWX ad w0) (hw_w1 : RWX ad w1) (hw_w2 : RWX ad w2) (hw_w3 : RWX ad w3) : Met l yX8_count (.code yX8_count cX8_count 2 (some .int) :: TT) ({ frames := 15, cells := 0, slots := 0, locals := 860 } : Room) (PcS dC dI (TY cI cJ cII cJJ) [.ref (ad 0), .int x1] (WX cI cJ cII cJJ ad f3_unknowns f3_equations f2_roundSupports f2_stale f7_size f1_size f5_keptSize f5_aheadSize f0_solved f4_blockCount f4_blockLength f4_lastIsFree f4_stale ai al w0 w1 w2 w3) sz 1 g) (Q_m179_X8_count dC dI cI cJ cII cJJ ad f3_unknowns f3_equations f4_blockCount f4_blockLength f4_lastIsFree f4_stale ai al (va_A (WX cI cJ cII cJJ ad f3_unknowns f3_equations f2_roundSupports f2_stale f7_size f1_size f5_keptSize f5_aheadSize f0_solved f4_blockCount f4_blockLength f4_lastIsFree f4_stale ai al w0 w1 w2 w3) sz)) 0 0 (va_A (WX cI cJ cII cJJ ad f3_unknowns f3_equations f2_roundSupports f2_stale f7_size f1_size f5_keptSize f5_aheadSize f0_solved f4_blockCount f4_blockLength f4_lastIsFree f4_stale ai al w0 w1 w2 w3) sz) := by
  refine SM.of (y := yX8_count) (maxL := 2) (av := [.ref (ad 0), .int x1]) (Q_m179_X8_count dC dI cI cJ cII cJJ ad f3_unknowns f3_equations f4_blockCount f4_blockLength f4_lastIsFree f4_stale ai al) (by decide +kernel) (Nat.le_of_ble_eq_true rfl) (fun p e s m below meth c A ls hx hb hr hml hown hts hk hnm hA hK hP hD hS hX hl => ?_)
  have C : Cx p c s m meth (([.ref (ad 0), .int x1] : List Value).toArray) A dC dI (TY cI cJ cII cJJ) cX8_count (some .int) 2 RX8 1 g := ⟨hx, hb, hr, hml, hown, hts, hk, hA, hK, hX⟩
  have hown : s.vm.findClass RX8 = some m.cls := hown
  have hl : lv_has ls 2 [(0, .ref (ad 0)), (1, .int x1)] := hl
  obtain ⟨H, hH⟩ : ∃ q, q = s.heap := ⟨_, rfl⟩
  rw [← hH] at hP
  have hS : va_S A s.heap H [] := by rw [hH]; exact hS
  rw [← hH]
  have hF := FR_refl [21, 23, 24, 26, 27, 28, 61] ai
  have hG := FL_refl [13, 16, 17, 18, 19, 20] al
  have ra_x1 := s_any x1
  refine lv_iload_n hx hb dX8_count_0 rfl (lv_at hl 1 rfl) ?_
  refine lv_iconst (v := 2) hx hb dX8_count_1 (by decide) ?_
  refine lv_icmp_lt (tgt := 21) hx hb dX8_count_2 (by decide) (fun c1 => ?_) (fun c1 => ?_)
  · have c1 := j_lt (a := x1.toInt) (b := 2) rfl (by decide +kernel) c1
    exact m179_X8_count_b21 C  x1 f2_roundSupports f2_stale f7_size f1_size f5_keptSize f5_aheadSize f0_solved ai al w0 w1 w2 w3 _ _ _ (by omega) (by omega) (by omega) (by omega) (by omega) (by omega) (by omega) (by omega) (by omega) (by omega) (by omega) hI hF hG hw_w0 hw_w1 hw_w2 hw_w3 hP hD hS (lv_sub hl [0, 1] rfl)
  · have c1 := j_nlt (a := x1.toInt) (b := 2) rfl (by decide +kernel) c1
    refine lv_iload_n hx hb dX8_count_5 rfl (lv_at hl 1 rfl) ?_
    refine lv_iconst (v := 5) hx hb dX8_count_6 (by decide) ?_
    refine lv_icmp_ge (tgt := 21) hx hb dX8_count_7 (by decide) (fun c2 => ?_) (fun c2 => ?_)
    · have c2 := j_le (a := 5) (b := x1.toInt) (by decide +kernel) rfl c2
      exact m179_X8_count_b21 C  x1 f2_roundSupports f2_stale f7_size f1_size f5_keptSize f5_aheadSize f0_solved ai al w0 w1 w2 w3 _ _ _ (by omega) (by omega) (by omega) (by omega) (by omega) (by omega) (by omega) (by omega) (by omega) (by omega) (by omega) hI hF hG hw_w0 hw_w1 hw_w2 hw_w3 hP hD hS (lv_sub hl [0, 1] rfl)
    · have c2 := j_nle (a := 5) (b := x1.toInt) (by decide +kernel) rfl c2
      refine lv_aload_n hx hb dX8_count_10 rfl (lv_at hl 0 rfl) ?_
      have hM := m164_X8_freshSteps l dC dI cI cJ cII cJJ H.size g ad f3_unknowns f3_equations f2_roundSupports f2_stale f7_size f1_size f5_keptSize f5_aheadSize f0_solved f4_blockCount f4_blockLength f4_lastIsFree f4_stale ai al w0 w1 w2 w3 (by omega) (by omega) (by omega) (by omega) (by omega) (by omega) (by omega) (by omega) (by omega) (by omega) (by omega) hI hw_w0 hw_w1 hw_w2 hw_w3
      refine k2V_a (q0 := 0) ⟨hx, hb, hml, hown, hts⟩ hK hP hD hS hA hX cv_RX8_152 hM ⟨by decide +kernel, by decide +kernel⟩ rfl rfl (Or.inr ⟨rfl, rfl, rfl⟩) (rest := []) rfl rfl rfl hl.1 rfl (Nat.le_of_ble_eq_true rfl) dX8_count_11 ⟨Nat.le_of_ble_eq_true rfl, Nat.le_of_ble_eq_true rfl⟩ (fun t H1 locs_1 ht hB hS_1 hFc => ?_)
      obtain ⟨v4, v5, v6, v7, v8, v9, v10, ai11, al12, w13, w14, w15, w16, ⟨gpr3_0, gpr3_1, gpr3_2, gpr3_3, gpr3_4, hI_2, hFr_r3, hGr_r3, hw_w13, hw_w14, hw_w15, hw_w16⟩, hP_2, -, hD_2⟩ := hB
      have hF_3 := FR_tr hF hFr_r3 (by decide)
      have hG_4 := FL_tr hG hGr_r3 (by decide)
      rw [ht] at hP_2
      have hD_5 := hD_2.weaken (B := A) (fun k q _ h9 => hFc q.1 h9)
      clear ht
      generalize H1 = H_6 at hP_2 hS_1 ⊢
      refine lv_iload_n hx hb dX8_count_14 rfl (lv_at hl 1 rfl) ?_
      refine lv_iconst (v := 1) hx hb dX8_count_15 (by decide) ?_
      refine v_isub hx hb dX8_count_16 _ rfl ?_
      refine lv_topi (fun z17 e_z17 => ?_)
      have g_z17 : z17.toInt = x1.toInt - 1 := by rw [e_z17]; exact n_sub (a := x1.toInt) (b := 1) rfl (by decide +kernel) (by omega) (by omega)
      have hM := m039_X2_howManyOf l dC dI cI cJ cII cJJ H_6.size 0 ad f3_unknowns f3_equations v4 v5 v6 v7 v8 v9 v10 f4_blockCount f4_blockLength f4_lastIsFree f4_stale ai11 al12 w13 w14 w15 w16 z17 (by omega) (by omega) (by omega) (by omega) (by omega) (by omega) (by omega) (by omega) (by omega) (by omega) (by omega) hI_2 hw_w13 hw_w14 hw_w15 hw_w16
      refine k2V_i (q0 := 11) ⟨hx, hb, hml, hown, hts⟩ hK hP_2 hD_5 hS_1 hA hX cv_RX8_224 hM ⟨by decide +kernel, by decide +kernel⟩ rfl rfl (Or.inl rfl) (rest := []) rfl rfl rfl hl.1 rfl (Nat.le_of_ble_eq_true rfl) dX8_count_17 ⟨Nat.le_of_ble_eq_true rfl, Nat.le_of_ble_eq_true rfl⟩ (fun r18 t H1 locs_7 ht hB hS_7 hFc => ?_)
      obtain ⟨-, hP_8, -, hD_8⟩ := hB
      rw [ht] at hP_8
      have hD_9 := hD_8.weaken (B := A) (fun k q _ h9 => hFc q.1 h9)
      clear ht
      generalize H1 = H_10 at hP_8 hS_7 ⊢
      exact r2_i hx hb hr hk hS_7 dX8_count_20 (fun t ht hW => ⟨v4, v5, v6, v7, v8, v9, v10, ai11, al12, w13, w14, w15, w16, ⟨(by first | omega | decide | exact Or.inl (by decide) | exact Or.inr (by decide) | exact Or.inr (by omega)), (by first | omega | decide | exact Or.inl (by decide) | exact Or.inr (by decide) | exact Or.inr (by omega)), (by first | omega | decide | exact Or.inl (by decide) | exact Or.inr (by decide) | exact Or.inr (by omega)), (by first | omega | decide | exact Or.inl (by decide) | exact Or.inr (by decide) | exact Or.inr (by omega)), (by first | omega | decide | exact Or.inl (by decide) | exact Or.inr (by decide) | exact Or.inr (by omega)), hI_2, hF_3, hG_4, hw_w13, hw_w14, hw_w15, hw_w16⟩, by rw [ht]; exact hP_8, va_K.moved hW.alike hK, hD_9⟩)
