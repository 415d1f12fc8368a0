def Q_m080_X4_searchFrom (dC : Nat → ClassId) (dI : Nat → Nat → Nat) (cI cJ cII cJJ : ClassId) (ad : Nat → Nat) (f3_unknowns f3_equations f2_roundSupports f2_stale f7_size f1_size f5_keptSize f5_aheadSize f0_solved f4_blockLength f4_lastIsFree f4_stale : Int32) (ai0 : Nat → Nat → Int32) (al : Nat → Nat → Int64) (w0 w1 w2 w3 : Nat) : (Nat → Prop) → Array Value → State → Outcome → State → Prop := fun A => QV (fun t => ∃ (n_f4_blockCount : Int32), ∃ (n_ai : Nat → Nat → Int32), ((0 ≤ n_f4_blockCount.toInt ∧ n_f4_blockCount.toInt ≤ 9261) ∧ (n_ai 33 0).toInt = (ai0 33 0).toInt ∧ (n_ai 33 1).toInt = (ai0 33 1).toInt ∧ IAX n_ai ∧ FR [30, 32, 33, 38] ai0 n_ai) ∧ WO dC dI (TY cI cJ cII cJJ) (WX cI cJ cII cJJ ad f3_unknowns f3_equations f2_roundSupports f2_stale f7_size f1_size f5_keptSize f5_aheadSize f0_solved n_f4_blockCount f4_blockLength f4_lastIsFree f4_stale n_ai al w0 w1 w2 w3) A t) A
set_option maxRecDepth 100000 in
set_option maxHeartbeats 4000000 in
theorem m080_X4_searchFrom_b48 {p : Program} {l : Launch} {e : Env} {s : State} {m : MethodId} {args : Array Value} {below : List Frame} {meth : Method} {c : Code} {A : Nat → Prop} {dC : Nat → ClassId} {dI : Nat → Nat → Nat} {cI cJ cII cJJ : ClassId} {ad : Nat → Nat} {g : Nat} {f3_unknowns f3_equations f2_roundSupports f2_stale f7_size f1_size f5_keptSize f5_aheadSize f0_solved f4_blockLength f4_lastIsFree f4_stale : Int32} {ai0 : Nat → Nat → Int32} {al : Nat → Nat → Int64} {w0 w1 w2 w3 : Nat} (C : Cx p c s m meth args A dC dI (TY cI cJ cII cJJ) cX4_searchFrom none 4 RX4 0 g) : ∀ (n : Nat), ∀ (L2 L3 f4_blockCount : Int32) (ai : Nat → Nat → Int32) (H : Heap) (locs : List Loc) (ls : Array Slot), (0 ≤ L3.toInt ∧ L3.toInt ≤ 3) → (3 ≤ f3_unknowns.toInt ∧ f3_unknowns.toInt ≤ 4) → (0 ≤ f3_equations.toInt ∧ f3_equations.toInt ≤ 3) → (0 ≤ f2_stale.toInt ∧ f2_stale.toInt ≤ 1) → (0 ≤ f7_size.toInt ∧ f7_size.toInt ≤ 256) → (0 ≤ f1_size.toInt ∧ f1_size.toInt ≤ 4) → (0 ≤ f5_keptSize.toInt ∧ f5_keptSize.toInt ≤ 128) → (0 ≤ f5_aheadSize.toInt ∧ f5_aheadSize.toInt ≤ 128) → (0 ≤ f4_blockCount.toInt ∧ f4_blockCount.toInt ≤ 9261) → (0 ≤ f4_blockLength.toInt ∧ f4_blockLength.toInt ≤ 21) → (0 ≤ f4_lastIsFree.toInt ∧ f4_lastIsFree.toInt ≤ 1) → (0 ≤ f4_stale.toInt ∧ f4_stale.toInt ≤ 1) → (ai 33 0).toInt = (ai0 33 0).toInt → (ai 33 1).toInt = (ai0 33 1).toInt → f3_equations.toInt - L3.toInt < (n : Int) → (0 : Int) < (n : Int) → IAX ai → FR [30, 32, 33, 38] ai0 ai → RWX ad w0 → RWX ad w1 → RWX ad w2 → RWX ad w3 → va_P (dC, dI) vwCl (WX cI cJ cII cJJ ad f3_unknowns f3_equations f2_roundSupports f2_stale f7_size f1_size f5_keptSize f5_aheadSize f0_solved f4_blockCount f4_blockLength f4_lastIsFree f4_stale ai al w0 w1 w2 w3) H → va_D A (WX cI cJ cII cJJ ad f3_unknowns f3_equations f2_roundSupports f2_stale f7_size f1_size f5_keptSize f5_aheadSize f0_solved f4_blockCount f4_blockLength f4_lastIsFree f4_stale ai al w0 w1 w2 w3) → va_S A s.heap H locs → lv_has ls 4 [(0, .ref (ad 29)), (1, .int 2), (2, .int L2), (3, .int L3)] → W p l e ({ frames := 6, cells := 0, slots := 0, locals := 320 } : Room) s m args below meth c H locs 0 0 (MQ below (Q_m080_X4_searchFrom dC dI cI cJ cII cJJ ad f3_unknowns f3_equations f2_roundSupports f2_stale f7_size f1_size f5_keptSize f5_aheadSize f0_solved f4_blockLength f4_lastIsFree f4_stale ai0 al w0 w1 w2 w3 A) args s 0 0 A) (F0 m 48 ls []) := by
  obtain ⟨hx, hb, hr, hml, hown, hts, hk, hA, hK, hX⟩ := id C
  intro n
  induction n with
  | zero =>
    intro L2 L3 f4_blockCount ai H locs ls h0 h1 h2 h3 h4 h5 h6 h7 h8 h9 h10 h11 h12 h13 h14 h15 hI hF hw_w0 hw_w1 hw_w2 hw_w3 hP hD hS hl
    exact absurd h15 (by omega)
  | succ n ih =>
    intro L2 L3 f4_blockCount ai H locs ls h0 h1 h2 h3 h4 h5 h6 h7 h8 h9 h10 h11 h12 h13 h14 h15 hI hF hw_w0 hw_w1 hw_w2 hw_w3 hP hD hS hl
    have ra_L2 := s_any L2
    refine lv_iload_n hx hb dX4_searchFrom_48 rfl (lv_at hl 3 rfl) ?_
    refine lv_aload_n hx hb dX4_searchFrom_49 rfl (lv_at hl 0 rfl) ?_
    refine gf (k := 0) hx hb hts inX4 hown hK hP k_205 rfl (by decide) rfl 29 rfl (.ref (ad 6)) rfl dX4_searchFrom_50 ?_
    refine gf (k := 1) hx hb hts inX3 hown hK hP k_47 rfl (by decide) rfl 6 rfl (.int f3_equations) rfl dX4_searchFrom_53 ?_
    refine lv_icmp_ge (tgt := 71) hx hb dX4_searchFrom_56 (by decide) (fun c1 => ?_) (fun c1 => ?_)
    · have c1 := j_le (a := f3_equations.toInt) (b := L3.toInt) rfl rfl c1
      refine lv_iload_n hx hb dX4_searchFrom_71 rfl (lv_at hl 1 rfl) ?_
      refine lv_aload_n hx hb dX4_searchFrom_72 rfl (lv_at hl 0 rfl) ?_
      refine gf (k := 0) hx hb hts inX4 hown hK hP k_205 rfl (by decide) rfl 29 rfl (.ref (ad 6)) rfl dX4_searchFrom_73 ?_
      refine gf (k := 0) hx hb hts inX3 hown hK hP k_39 rfl (by decide) rfl 6 rfl (.int f3_unknowns) rfl dX4_searchFrom_76 ?_
      refine lv_iconst (v := 1) hx hb dX4_searchFrom_79 (by decide) ?_
      refine v_isub hx hb dX4_searchFrom_80 _ rfl ?_
      refine lv_topi (fun z2 e_z2 => ?_)
      have g_z2 : z2.toInt = f3_unknowns.toInt - 1 := by rw [e_z2]; exact n_sub (a := f3_unknowns.toInt) (b := 1) rfl (by decide +kernel) (by omega) (by omega)
      refine lv_icmp_ge (tgt := 93) hx hb dX4_searchFrom_81 (by decide) (fun c3 => ?_) (fun c3 => ?_)
      · have c3 := j_le (a := z2.toInt) (b := 2) rfl (by decide +kernel) c3
        refine lv_aload_n hx hb dX4_searchFrom_93 rfl (lv_at hl 0 rfl) ?_
        refine gf (k := 3) hx hb hts inX4 hown hK hP k_208 rfl (by decide) rfl 29 rfl (.ref (ad 32)) rfl dX4_searchFrom_94 ?_
        refine lv_iload_n hx hb dX4_searchFrom_97 rfl (lv_at hl 1 rfl) ?_
        refine va_iald hx hb hK hP 32 0 rfl rfl (vin (by decide +kernel)) dX4_searchFrom_98 ?_
        refine lv_topi (fun z4 e_z4 => ?_)
        have k_z4 : z4.toInt = (ai 32 2).toInt := by rw [e_z4]; rfl
        have g_z4 : -10 ≤ z4.toInt ∧ z4.toInt ≤ 2147483647 := by rw [e_z4]; exact IAX_at32 hI _
        refine lv_aload_n hx hb dX4_searchFrom_99 rfl (lv_at hl 0 rfl) ?_
        refine gf (k := 4) hx hb hts inX4 hown hK hP k_209 rfl (by decide) rfl 29 rfl (.ref (ad 33)) rfl dX4_searchFrom_100 ?_
        refine lv_iload_n hx hb dX4_searchFrom_103 rfl (lv_at hl 1 rfl) ?_
        refine va_iald hx hb hK hP 33 0 rfl rfl (vin (by decide +kernel)) dX4_searchFrom_104 ?_
        refine lv_topi (fun z5 e_z5 => ?_)
        have k_z5 : z5.toInt = (ai 33 2).toInt := by rw [e_z5]; rfl
        have g_z5 : -2147483648 ≤ z5.toInt ∧ z5.toInt ≤ 2147483646 := by rw [e_z5]; exact IAX_at33 hI _
        refine lv_icmp_gt (tgt := 126) hx hb dX4_searchFrom_105 (by decide) (fun c6 => ?_) (fun c6 => ?_)
        · have c6 := j_lt (a := z5.toInt) (b := z4.toInt) rfl rfl c6
          exact r2_v hx hb hr hk hS dX4_searchFrom_126 (fun t ht hW => ⟨f4_blockCount, ai, ⟨(by first | omega | decide | exact Or.inl (by decide) | exact Or.inr (by decide) | exact Or.inr (by omega)), (by first | omega | decide | exact Or.inl (by decide) | exact Or.inr (by decide) | exact Or.inr (by omega)), (by first | omega | decide | exact Or.inl (by decide) | exact Or.inr (by decide) | exact Or.inr (by omega)), hI, hF⟩, by rw [ht]; exact hP, va_K.moved hW.alike hK, hD⟩)
        · have c6 := j_nlt (a := z5.toInt) (b := z4.toInt) rfl rfl c6
          refine lv_aload_n hx hb dX4_searchFrom_108 rfl (lv_at hl 0 rfl) ?_
          refine lv_iload_n hx hb dX4_searchFrom_109 rfl (lv_at hl 2 rfl) ?_
          refine lv_bipush (v := 21) hx hb dX4_searchFrom_110 (by decide) ?_
          refine v_imul hx hb dX4_searchFrom_112 _ rfl ?_
          refine lv_topi (fun z7 e_z7 => ?_)
          refine lv_aload_n hx hb dX4_searchFrom_113 rfl (lv_at hl 0 rfl) ?_
          refine gf (k := 3) hx hb hts inX4 hown hK hP k_208 rfl (by decide) rfl 29 rfl (.ref (ad 32)) rfl dX4_searchFrom_114 ?_
          refine lv_iload_n hx hb dX4_searchFrom_117 rfl (lv_at hl 1 rfl) ?_
          refine va_iald hx hb hK hP 32 0 rfl rfl (vin (by decide +kernel)) dX4_searchFrom_118 ?_
          refine lv_topi (fun z8 e_z8 => ?_)
          have k_z8 : z8.toInt = (ai 32 2).toInt := by rw [e_z8]; rfl
          have g_z8 : -10 ≤ z8.toInt ∧ z8.toInt ≤ 2147483647 := by rw [e_z8]; exact IAX_at32 hI _
          refine v_iadd hx hb dX4_searchFrom_119 _ rfl ?_
          refine lv_topi (fun z9 e_z9 => ?_)
          refine lv_bipush (v := 10) hx hb dX4_searchFrom_120 (by decide) ?_
          refine v_iadd hx hb dX4_searchFrom_122 _ rfl ?_
          refine lv_topi (fun z10 e_z10 => ?_)
          have hM := m072_X4_appendBlock l dC dI cI cJ cII cJJ H.size 0 ad f3_unknowns f3_equations f2_roundSupports f2_stale f7_size f1_size f5_keptSize f5_aheadSize f0_solved f4_blockCount f4_blockLength f4_lastIsFree f4_stale ai al w0 w1 w2 w3 z10 (by omega) (by omega) (by omega) (by omega) (by omega) (by omega) (by omega) (by omega) (by omega) (by omega) (by omega) hI hw_w0 hw_w1 hw_w2 hw_w3
          refine k2V_v (q0 := 29) ⟨hx, hb, hml, hown, hts⟩ hK hP hD hS hA hX cv_RX4_131 hM ⟨by decide +kernel, by decide +kernel⟩ rfl rfl (Or.inl rfl) (rest := []) rfl rfl rfl hl.1 rfl (Nat.le_of_ble_eq_true rfl) dX4_searchFrom_123 ⟨Nat.le_of_ble_eq_true rfl, Nat.le_of_ble_eq_true rfl⟩ (fun t H1 locs_1 ht hB hS_1 hFc => ?_)
          obtain ⟨v12, ai13, ⟨gpr11_0, gpr11_1, gpr11_2, gpr11_3, gpr11_4, hI_2, hFr_r11⟩, hP_2, -, hD_2⟩ := hB
          have hF_3 := FR_tr hF hFr_r11 (by decide)
          rw [ht] at hP_2
          have hD_4 := hD_2.weaken (B := A) (fun k q _ h9 => hFc q.1 h9)
          clear ht
          generalize H1 = H_5 at hP_2 hS_1 ⊢
          exact r2_v hx hb hr hk hS_1 dX4_searchFrom_126 (fun t ht hW => ⟨v12, ai13, ⟨(by first | omega | decide | exact Or.inl (by decide) | exact Or.inr (by decide) | exact Or.inr (by omega)), (by first | omega | decide | exact Or.inl (by decide) | exact Or.inr (by decide) | exact Or.inr (by omega)), (by first | omega | decide | exact Or.inl (by decide) | exact Or.inr (by decide) | exact Or.inr (by omega)), hI_2, hF_3⟩, by rw [ht]; exact hP_2, va_K.moved hW.alike hK, hD_4⟩)
      · have c3 := j_nle (a := z2.toInt) (b := 2) rfl (by decide +kernel) c3
        refine lv_aload_n hx hb dX4_searchFrom_84 rfl (lv_at hl 0 rfl) ?_
        refine lv_iload_n hx hb dX4_searchFrom_85 rfl (lv_at hl 1 rfl) ?_
        refine lv_iload_n hx hb dX4_searchFrom_86 rfl (lv_at hl 2 rfl) ?_
        have kc2 : (2 : Int32).toInt = 2 := by decide +kernel
        have hM := m078_X4_tryNumbers l dC dI cI cJ cII cJJ H.size 0 ad f3_unknowns f3_equations f2_roundSupports f2_stale f7_size f1_size f5_keptSize f5_aheadSize f0_solved f4_blockCount f4_blockLength f4_lastIsFree f4_stale ai al w0 w1 w2 w3 L2 (by omega) (by omega) (by omega) (by omega) (by omega) (by omega) (by omega) (by omega) (by omega) (by omega) (by omega) hI hw_w0 hw_w1 hw_w2 hw_w3
        refine k2V_v (q0 := 29) ⟨hx, hb, hml, hown, hts⟩ hK hP hD hS hA hX cv_RX4_128 hM ⟨by decide +kernel, by decide +kernel⟩ rfl rfl (Or.inl rfl) (rest := []) rfl rfl rfl hl.1 rfl (Nat.le_of_ble_eq_true rfl) dX4_searchFrom_87 ⟨Nat.le_of_ble_eq_true rfl, Nat.le_of_ble_eq_true rfl⟩ (fun t H1 locs_6 ht hB hS_6 hFc => ?_)
        obtain ⟨v15, ai16, ⟨gpr14_0, gpr14_1, gpr14_2, gpr14_3, hI_7, hFr_r14⟩, hP_7, -, hD_7⟩ := hB
        have hF_8 := FR_tr hF hFr_r14 (by decide)
        rw [ht] at hP_7
        have hD_9 := hD_7.weaken (B := A) (fun k q _ h9 => hFc q.1 h9)
        clear ht
        generalize H1 = H_10 at hP_7 hS_6 ⊢
        refine lv_goto (tgt := 126) hx hb dX4_searchFrom_90 (by decide) ?_
        exact r2_v hx hb hr hk hS_6 dX4_searchFrom_126 (fun t ht hW => ⟨v15, ai16, ⟨(by first | omega | decide | exact Or.inl (by decide) | exact Or.inr (by decide) | exact Or.inr (by omega)), (by first | omega | decide | exact Or.inl (by decide) | exact Or.inr (by decide) | exact Or.inr (by omega)), (by first | omega | decide | exact Or.inl (by decide) | exact Or.inr (by decide) | exact Or.inr (by omega)), hI_7, hF_8⟩, by rw [ht]; exact hP_7, va_K.moved hW.alike hK, hD_9⟩)
    · have c1 := j_nle (a := f3_equations.toInt) (b := L3.toInt) rfl rfl c1
      refine lv_aload_n hx hb dX4_searchFrom_59 rfl (lv_at hl 0 rfl) ?_
      refine lv_iload_n hx hb dX4_searchFrom_60 rfl (lv_at hl 1 rfl) ?_
      refine lv_iload_n hx hb dX4_searchFrom_61 rfl (lv_at hl 3 rfl) ?_
      have kc2 : (2 : Int32).toInt = 2 := by decide +kernel
      have hM := m079_X4_narrow l dC dI cI cJ cII cJJ H.size 0 ad f3_unknowns f3_equations f2_roundSupports f2_stale f7_size f1_size f5_keptSize f5_aheadSize f0_solved f4_blockCount f4_blockLength f4_lastIsFree f4_stale ai al w0 w1 w2 w3 L3 (by omega) (by omega) (by omega) (by omega) (by omega) (by omega) (by omega) (by omega) (by omega) (by omega) (by omega) (by omega) hI hw_w0 hw_w1 hw_w2 hw_w3
      refine k2V_v (q0 := 29) ⟨hx, hb, hml, hown, hts⟩ hK hP hD hS hA hX cv_RX4_125 hM ⟨by decide +kernel, by decide +kernel⟩ rfl rfl (Or.inl rfl) (rest := []) rfl rfl rfl hl.1 rfl (Nat.le_of_ble_eq_true rfl) dX4_searchFrom_62 ⟨Nat.le_of_ble_eq_true rfl, Nat.le_of_ble_eq_true rfl⟩ (fun t H1 locs_11 ht hB hS_11 hFc => ?_)
      obtain ⟨ai18, ⟨gpr17_0, gpr17_1, hI_12, hFr_r17⟩, hP_12, -, hD_12⟩ := hB
      have hF_13 := FR_tr hF hFr_r17 (by decide)
      rw [ht] at hP_12
      have hD_14 := hD_12.weaken (B := A) (fun k q _ h9 => hFc q.1 h9)
      clear ht
      generalize H1 = H_15 at hP_12 hS_11 ⊢
      obtain ⟨z19, e_z19⟩ : ∃ q : Int32, q = L3 + Int32.ofInt 1 := ⟨_, rfl⟩
      have g_z19 : z19.toInt = L3.toInt + 1 := by rw [e_z19]; exact n_add (a := L3.toInt) (b := 1) rfl (by decide +kernel) (by omega) (by omega)
      refine lv_iinc (v := z19) (lv' := [(3, .int z19), (0, .ref (ad 29)), (1, .int 2), (2, .int L2)]) hx hb dX4_searchFrom_65 hl (k := 3) rfl e_z19.symm (by decide) rfl (fun ls_16 hl_16 => ?_)
      refine lv_goto (tgt := 48) hx hb dX4_searchFrom_68 (by decide) ?_
      exact ih L2 z19 f4_blockCount ai18 _ _ _ (by omega) (by omega) (by omega) (by omega) (by omega) (by omega) (by omega) (by omega) (by omega) (by omega) (by omega) (by omega) (by omega) (by omega) (by omega) (by omega) hI_12 hF_13 hw_w0 hw_w1 hw_w2 hw_w3 hP_12 hD_14 hS_11 (lv_sub hl_16 [1, 2, 3, 0] rfl)
set_option maxRecDepth 100000 in
set_option maxHeartbeats 4000000 in
theorem m080_X4_searchFrom (l : Launch) (dC : Nat → ClassId) (dI : Nat → Nat → Nat) (cI cJ cII cJJ : ClassId) (sz g : Nat) (ad : Nat → Nat) (f3_unknowns f3_equations f2_roundSupports f2_stale f7_size f1_size f5_keptSize f5_aheadSize f0_solved f4_blockCount f4_blockLength f4_lastIsFree f4_stale : Int32) (ai : Nat → Nat → Int32) (al : Nat → Nat → Int64) (w0 w1 w2 w3 : Nat) (x2 : Int32) (h_f3_unknowns : (1 ≤ f3_unknowns.toInt ∧ f3_unknowns.toInt ≤ 4)) (h_f3_equations : (0 ≤ f3_equations.toInt ∧ f3_equations.toInt ≤ 3)) (h_f2_stale : (0 ≤ f2_stale.toInt ∧ f2_stale.toInt ≤ 1)) (h_f7_size : (0 ≤ f7_size.toInt ∧ f7_size.toInt ≤ 256)) (h_f1_size : (0 ≤ f1_size.toInt ∧ f1_size.toInt ≤ 4)) (h_f5_keptSize : (0 ≤ f5_keptSize.toInt ∧ f5_keptSize.toInt ≤ 128)) (h_f5_aheadSize : (0 ≤ f5_aheadSize.toInt ∧ f5_aheadSize.toInt ≤ 128)) (h_f4_blockCount : (0 ≤ f4_blockCount.toInt ∧ f4_blockCount.toInt ≤ 9261)) (h_f4_blockLength : (0 ≤ f4_blockLength.toInt ∧ f4_blockLength.toInt ≤ 21)) (h_f4_lastIsFree : (0 ≤ f4_lastIsFree.toInt ∧ f4_lastIsFree.toInt ≤ 1)) (h_f4_stale : (0 ≤ f4_stale.toInt ∧ f4_stale.toInt ≤ 1)) (hI : IAX ai) (hw_w0 : RWX ad w0) (hw_w1 : RWX ad w1) (hw_w2 : RWX ad w2) (hw_w3 : RWX ad w3) : Met l yX4_searchFrom (.code yX4_searchFrom cX4_searchFrom 4 none :: TT) ({ frames := 6, cells := 0, slots := 0, locals := 320 } : Room) (PcS dC dI (TY cI cJ cII cJJ) [.ref (ad 29), .int 2, .int x2] (WX cI cJ cII cJJ ad f3_unknowns f3_equations f2_roundSupports f2_stale f7_size f1_size f5_keptSize f5_aheadSize f0_solved f4_blockCount f4_blockLength f4_lastIsFree f4_stale ai al w0 w1 w2 w3) sz 0 g) (Q_m080_X4_searchFrom dC dI cI cJ cII cJJ ad f3_unknowns f3_equations f2_roundSupports f2_stale f7_size f1_size f5_keptSize f5_aheadSize f0_solved f4_blockLength f4_lastIsFree f4_stale ai al w0 w1 w2 w3 (va_A (WX cI cJ cII cJJ ad f3_unknowns f3_equations f2_roundSupports f2_stale f7_size f1_size f5_keptSize f5_aheadSize f0_solved f4_blockCount f4_blockLength f4_lastIsFree f4_stale ai al w0 w1 w2 w3) sz)) 0 0 (va_A (WX cI cJ cII cJJ ad f3_unknowns f3_equations f2_roundSupports f2_stale f7_size f1_size f5_keptSize f5_aheadSize f0_solved f4_blockCount f4_blockLength f4_lastIsFree f4_stale ai al w0 w1 w2 w3) sz) := by
  refine SM.of (y := yX4_searchFrom) (maxL := 4) (av := [.ref (ad 29), .int 2, .int x2]) (Q_m080_X4_searchFrom dC dI cI cJ cII cJJ ad f3_unknowns f3_equations f2_roundSupports f2_stale f7_size f1_size f5_keptSize f5_aheadSize f0_solved f4_blockLength f4_lastIsFree f4_stale ai al w0 w1 w2 w3) (by decide +kernel) (Nat.le_of_ble_eq_true rfl) (fun p e s m below meth c A ls hx hb hr hml hown hts hk hnm hA hK hP hD hS hX hl => ?_)
  have C : Cx p c s m meth (([.ref (ad 29), .int 2, .int x2] : List Value).toArray) A dC dI (TY cI cJ cII cJJ) cX4_searchFrom none 4 RX4 0 g := ⟨hx, hb, hr, hml, hown, hts, hk, hA, hK, hX⟩
  have hown : s.vm.findClass RX4 = some m.cls := hown
  have hl : lv_has ls 4 [(0, .ref (ad 29)), (1, .int 2), (2, .int x2)] := hl
  obtain ⟨H, hH⟩ : ∃ q, q = s.heap := ⟨_, rfl⟩
  rw [← hH] at hP
  have hS : va_S A s.heap H [] := by rw [hH]; exact hS
  rw [← hH]
  have hF := FR_refl [30, 32, 33, 38] ai
  have ra_x2 := s_any x2
  refine lv_iload_n hx hb dX4_searchFrom_0 rfl (lv_at hl 1 rfl) ?_
  refine f_if_lt hx hb dX4_searchFrom_1 15 (by decide) (by decide +kernel) ?_
  refine lv_iload_n hx hb dX4_searchFrom_4 rfl (lv_at hl 1 rfl) ?_
  refine lv_aload_n hx hb dX4_searchFrom_5 rfl (lv_at hl 0 rfl) ?_
  refine gf (k := 0) hx hb hts inX4 hown hK hP k_205 rfl (by decide) rfl 29 rfl (.ref (ad 6)) rfl dX4_searchFrom_6 ?_
  refine gf (k := 0) hx hb hts inX3 hown hK hP k_39 rfl (by decide) rfl 6 rfl (.int f3_unknowns) rfl dX4_searchFrom_9 ?_
  refine lv_icmp_lt (tgt := 16) hx hb dX4_searchFrom_12 (by decide) (fun c1 => ?_) (fun c1 => ?_)
  · have c1 := j_lt (a := 2) (b := f3_unknowns.toInt) (by decide +kernel) rfl c1
    refine lv_aload_n hx hb dX4_searchFrom_16 rfl (lv_at hl 0 rfl) ?_
    refine gf (k := 3) hx hb hts inX4 hown hK hP k_208 rfl (by decide) rfl 29 rfl (.ref (ad 32)) rfl dX4_searchFrom_17 ?_
    refine lv_iload_n hx hb dX4_searchFrom_20 rfl (lv_at hl 1 rfl) ?_
    refine lv_aload_n hx hb dX4_searchFrom_21 rfl (lv_at hl 0 rfl) ?_
    refine gf (k := 0) hx hb hts inX4 hown hK hP k_205 rfl (by decide) rfl 29 rfl (.ref (ad 6)) rfl dX4_searchFrom_22 ?_
    refine gf (k := 4) hx hb hts inX3 hown hK hP k_57 rfl (by decide) rfl 6 rfl (.ref (ad 7)) rfl dX4_searchFrom_25 ?_
    refine lv_iload_n hx hb dX4_searchFrom_28 rfl (lv_at hl 1 rfl) ?_
    refine va_iald hx hb hK hP 7 0 rfl rfl (vin (by decide +kernel)) dX4_searchFrom_29 ?_
    refine lv_topi (fun z2 e_z2 => ?_)
    have k_z2 : z2.toInt = (ai 7 2).toInt := by rw [e_z2]; rfl
    have g_z2 : -10 ≤ z2.toInt ∧ z2.toInt ≤ 10 := by rw [e_z2]; exact IAX_at7 hI _
    refine va_iast hx hb hK hP hD hS 32 0 rfl rfl (vin (by decide +kernel)) dX4_searchFrom_30 (fun H_1 locs_1 hP_1 hD_1 hS_1 => ?_)
    obtain ⟨ai3, e_ai3⟩ : ∃ q : Nat → Nat → Int32, q = va_up ai 32 (upd (ai 32) (2 : Int32).toNatClampNeg z2) := ⟨_, rfl⟩
    have hF_2 := FR_st hF e_ai3 (by decide)
    have ra_z2 := s_any z2
    have hI_3 : IAX ai3 := by rw [e_ai3]; exact IAX_st32 hI (a := z2.toInt) rfl (by omega) (by omega)
    have hP_4 : va_P (dC, dI) vwCl (WX cI cJ cII cJJ ad f3_unknowns f3_equations f2_roundSupports f2_stale f7_size f1_size f5_keptSize f5_aheadSize f0_solved f4_blockCount f4_blockLength f4_lastIsFree f4_stale ai3 al w0 w1 w2 w3) H_1 := by rw [e_ai3]; exact hP_1
    have hD_5 : va_D A (WX cI cJ cII cJJ ad f3_unknowns f3_equations f2_roundSupports f2_stale f7_size f1_size f5_keptSize f5_aheadSize f0_solved f4_blockCount f4_blockLength f4_lastIsFree f4_stale ai3 al w0 w1 w2 w3) := by rw [e_ai3]; exact hD_1
    have tk_ai3_33_0 : (ai3 33 0).toInt = (ai 33 0).toInt := by rw [e_ai3]; rfl
    have tk_ai3_33_1 : (ai3 33 1).toInt = (ai 33 1).toInt := by rw [e_ai3]; rfl
    refine lv_aload_n hx hb dX4_searchFrom_31 rfl (lv_at hl 0 rfl) ?_
    refine gf (k := 4) hx hb hts inX4 hown hK hP_4 k_209 rfl (by decide) rfl 29 rfl (.ref (ad 33)) rfl dX4_searchFrom_32 ?_
    refine lv_iload_n hx hb dX4_searchFrom_35 rfl (lv_at hl 1 rfl) ?_
    refine lv_aload_n hx hb dX4_searchFrom_36 rfl (lv_at hl 0 rfl) ?_
    refine gf (k := 0) hx hb hts inX4 hown hK hP_4 k_205 rfl (by decide) rfl 29 rfl (.ref (ad 6)) rfl dX4_searchFrom_37 ?_
    refine gf (k := 5) hx hb hts inX3 hown hK hP_4 k_61 rfl (by decide) rfl 6 rfl (.ref (ad 8)) rfl dX4_searchFrom_40 ?_
    refine lv_iload_n hx hb dX4_searchFrom_43 rfl (lv_at hl 1 rfl) ?_
    refine va_iald hx hb hK hP_4 8 0 rfl rfl (vin (by decide +kernel)) dX4_searchFrom_44 ?_
    refine lv_topi (fun z4 e_z4 => ?_)
    have k_z4 : z4.toInt = (ai3 8 2).toInt := by rw [e_z4]; rfl
    have g_z4 : -10 ≤ z4.toInt ∧ z4.toInt ≤ 10 := by rw [e_z4]; exact IAX_at8 hI_3 _
    refine va_iast hx hb hK hP_4 hD_5 hS_1 33 0 rfl rfl (vin (by decide +kernel)) dX4_searchFrom_45 (fun H_6 locs_6 hP_6 hD_6 hS_6 => ?_)
    obtain ⟨ai5, e_ai5⟩ : ∃ q : Nat → Nat → Int32, q = va_up ai3 33 (upd (ai3 33) (2 : Int32).toNatClampNeg z4) := ⟨_, rfl⟩
    have hF_7 := FR_st hF_2 e_ai5 (by decide)
    have ra_z4 := s_any z4
    have hI_8 : IAX ai5 := by rw [e_ai5]; exact IAX_st33 hI_3 (a := z4.toInt) rfl (by omega) (by omega)
    have hP_9 : va_P (dC, dI) vwCl (WX cI cJ cII cJJ ad f3_unknowns f3_equations f2_roundSupports f2_stale f7_size f1_size f5_keptSize f5_aheadSize f0_solved f4_blockCount f4_blockLength f4_lastIsFree f4_stale ai5 al w0 w1 w2 w3) H_6 := by rw [e_ai5]; exact hP_6
    have hD_10 : va_D A (WX cI cJ cII cJJ ad f3_unknowns f3_equations f2_roundSupports f2_stale f7_size f1_size f5_keptSize f5_aheadSize f0_solved f4_blockCount f4_blockLength f4_lastIsFree f4_stale ai5 al w0 w1 w2 w3) := by rw [e_ai5]; exact hD_6
    have tk_ai5_33_0 : (ai5 33 0).toInt = (ai3 33 0).toInt := by rw [e_ai5]; rfl
    have tk_ai5_33_1 : (ai5 33 1).toInt = (ai3 33 1).toInt := by rw [e_ai5]; rfl
    refine lv_iconst (v := 0) hx hb dX4_searchFrom_46 (by decide) ?_
    refine lv_istore_n (lv' := [(3, .int 0), (0, .ref (ad 29)), (1, .int 2), (2, .int x2)]) hx hb dX4_searchFrom_47 rfl hl (by decide) rfl (fun ls_11 hl_11 => ?_)
    exact m080_X4_searchFrom_b48 C  _ x2 0 f4_blockCount ai5 _ _ _ (by first | omega | decide | (have ka0 := (by decide +kernel : (0 : Int32).toInt = 0); omega)) (by first | omega | decide | (have ka0 := (by decide +kernel : (0 : Int32).toInt = 0); omega)) (by first | omega | decide | (have ka0 := (by decide +kernel : (0 : Int32).toInt = 0); omega)) (by first | omega | decide | (have ka0 := (by decide +kernel : (0 : Int32).toInt = 0); omega)) (by first | omega | decide | (have ka0 := (by decide +kernel : (0 : Int32).toInt = 0); omega)) (by first | omega | decide | (have ka0 := (by decide +kernel : (0 : Int32).toInt = 0); omega)) (by first | omega | decide | (have ka0 := (by decide +kernel : (0 : Int32).toInt = 0); omega)) (by first | omega | decide | (have ka0 := (by decide +kernel : (0 : Int32).toInt = 0); omega)) (by first | omega | decide | (have ka0 := (by decide +kernel : (0 : Int32).toInt = 0); omega)) (by first | omega | decide | (have ka0 := (by decide +kernel : (0 : Int32).toInt = 0); omega)) (by first | omega | decide | (have ka0 := (by decide +kernel : (0 : Int32).toInt = 0); omega)) (by first | omega | decide | (have ka0 := (by decide +kernel : (0 : Int32).toInt = 0); omega)) (by first | omega | decide | (have ka0 := (by decide +kernel : (0 : Int32).toInt = 0); omega)) (by first | omega | decide | (have ka0 := (by decide +kernel : (0 : Int32).toInt = 0); omega)) (j_fuel _) (by omega) hI_8 hF_7 hw_w0 hw_w1 hw_w2 hw_w3 hP_9 hD_10 hS_6 (lv_sub hl_11 [1, 2, 3, 0] rfl)
  · have c1 := j_nlt (a := 2) (b := f3_unknowns.toInt) (by decide +kernel) rfl c1
    exact r2_v hx hb hr hk hS dX4_searchFrom_15 (fun t ht hW => ⟨f4_blockCount, ai, ⟨(by first | omega | decide | exact Or.inl (by decide) | exact Or.inr (by decide) | exact Or.inr (by omega)), (by first | omega | decide | exact Or.inl (by decide) | exact Or.inr (by decide) | exact Or.inr (by omega)), (by first | omega | decide | exact Or.inl (by decide) | exact Or.inr (by decide) | exact Or.inr (by omega)), hI, hF⟩, by rw [ht]; exact hP, va_K.moved hW.alike hK, hD⟩)
def Q_m081_X4_tryNumbers (dC : Nat → ClassId) (dI : Nat → Nat → Nat) (cI cJ cII cJJ : ClassId) (ad : Nat → Nat) (f3_unknowns f3_equations f2_roundSupports f2_stale f7_size f1_size f5_keptSize f5_aheadSize f0_solved f4_blockLength f4_lastIsFree f4_stale : Int32) (ai0 : Nat → Nat → Int32) (al : Nat → Nat → Int64) (w0 w1 w2 w3 : Nat) : (Nat → Prop) → Array Value → State → Outcome → State → Prop := fun A => QV (fun t => ∃ (n_f4_blockCount : Int32), ∃ (n_ai : Nat → Nat → Int32), ((0 ≤ n_f4_blockCount.toInt ∧ n_f4_blockCount.toInt ≤ 9261) ∧ (n_ai 33 0).toInt = (ai0 33 0).toInt ∧ (n_ai 33 1).toInt = (ai0 33 1).toInt ∧ IAX n_ai ∧ FR [30, 32, 33, 37, 38] ai0 n_ai) ∧ WO dC dI (TY cI cJ cII cJJ) (WX cI cJ cII cJJ ad f3_unknowns f3_equations f2_roundSupports f2_stale f7_size f1_size f5_keptSize f5_aheadSize f0_solved n_f4_blockCount f4_blockLength f4_lastIsFree f4_stale n_ai al w0 w1 w2 w3) A t) A
set_option maxRecDepth 100000 in
set_option maxHeartbeats 4000000 in
theorem m081_X4_tryNumbers_b20 {p : Program} {l : Launch} {e : Env} {s : State} {m : MethodId} {args : Array Value} {below : List Frame} {meth : Method} {c : Code} {A : Nat → Prop} {dC : Nat → ClassId} {dI : Nat → Nat → Nat} {cI cJ cII cJJ : ClassId} {ad : Nat → Nat} {g : Nat} {f3_unknowns f3_equations f2_roundSupports f2_stale f7_size f1_size f5_keptSize f5_aheadSize f0_solved f4_blockLength f4_lastIsFree f4_stale : Int32} {ai0 : Nat → Nat → Int32} {al : Nat → Nat → Int64} {w0 w1 w2 w3 : Nat} (C : Cx p c s m meth args A dC dI (TY cI cJ cII cJJ) cX4_tryNumbers none 5 RX4 0 g) (n7 : Nat) (K7 : ∀ (L2 L3 f4_blockCount : Int32) (ai : Nat → Nat → Int32) (H : Heap) (locs : List Loc) (ls : Array Slot), -10 ≤ L3.toInt → (1 ≤ f3_unknowns.toInt ∧ f3_unknowns.toInt ≤ 4) → (0 ≤ f3_equations.toInt ∧ f3_equations.toInt ≤ 3) → (0 ≤ f2_stale.toInt ∧ f2_stale.toInt ≤ 1) → (0 ≤ f7_size.toInt ∧ f7_size.toInt ≤ 256) → (0 ≤ f1_size.toInt ∧ f1_size.toInt ≤ 4) → (0 ≤ f5_keptSize.toInt ∧ f5_keptSize.toInt ≤ 128) → (0 ≤ f5_aheadSize.toInt ∧ f5_aheadSize.toInt ≤ 128) → (0 ≤ f4_blockCount.toInt ∧ f4_blockCount.toInt ≤ 9261) → (0 ≤ f4_blockLength.toInt ∧ f4_blockLength.toInt ≤ 21) → (0 ≤ f4_lastIsFree.toInt ∧ f4_lastIsFree.toInt ≤ 1) → (0 ≤ f4_stale.toInt ∧ f4_stale.toInt ≤ 1) → (ai 33 0).toInt = (ai0 33 0).toInt → (ai 33 1).toInt = (ai0 33 1).toInt → (ai 33 1).toInt + 1 - L3.toInt < (n7 : Int) → (0 : Int) < (n7 : Int) → IAX ai → FR [30, 32, 33, 37, 38] ai0 ai → RWX ad w0 → RWX ad w1 → RWX ad w2 → RWX ad w3 → va_P (dC, dI) vwCl (WX cI cJ cII cJJ ad f3_unknowns f3_equations f2_roundSupports f2_stale f7_size f1_size f5_keptSize f5_aheadSize f0_solved f4_blockCount f4_blockLength f4_lastIsFree f4_stale ai al w0 w1 w2 w3) H → va_D A (WX cI cJ cII cJJ ad f3_unknowns f3_equations f2_roundSupports f2_stale f7_size f1_size f5_keptSize f5_aheadSize f0_solved f4_blockCount f4_blockLength f4_lastIsFree f4_stale ai al w0 w1 w2 w3) → va_S A s.heap H locs → lv_has ls 5 [(0, .ref (ad 29)), (1, .int 1), (2, .int L2), (3, .int L3)] → W p l e ({ frames := 7, cells := 0, slots := 0, locals := 380 } : Room) s m args below meth c H locs 0 0 (MQ below (Q_m081_X4_tryNumbers dC dI cI cJ cII cJJ ad f3_unknowns f3_equations f2_roundSupports f2_stale f7_size f1_size f5_keptSize f5_aheadSize f0_solved f4_blockLength f4_lastIsFree f4_stale ai0 al w0 w1 w2 w3 A) args s 0 0 A) (F0 m 7 ls [])) : ∀ (n : Nat), ∀ (L2 L3 L4 f4_blockCount : Int32) (ai : Nat → Nat → Int32) (H : Heap) (locs : List Loc) (ls : Array Slot), (-10 ≤ L3.toInt ∧ L3.toInt ≤ 2147483646) → (0 ≤ L4.toInt ∧ L4.toInt ≤ 3) → (1 ≤ f3_unknowns.toInt ∧ f3_unknowns.toInt ≤ 4) → (0 ≤ f3_equations.toInt ∧ f3_equations.toInt ≤ 3) → (0 ≤ f2_stale.toInt ∧ f2_stale.toInt ≤ 1) → (0 ≤ f7_size.toInt ∧ f7_size.toInt ≤ 256) → (0 ≤ f1_size.toInt ∧ f1_size.toInt ≤ 4) → (0 ≤ f5_keptSize.toInt ∧ f5_keptSize.toInt ≤ 128) → (0 ≤ f5_aheadSize.toInt ∧ f5_aheadSize.toInt ≤ 128) → (0 ≤ f4_blockCount.toInt ∧ f4_blockCount.toInt ≤ 9261) → (0 ≤ f4_blockLength.toInt ∧ f4_blockLength.toInt ≤ 21) → (0 ≤ f4_lastIsFree.toInt ∧ f4_lastIsFree.toInt ≤ 1) → (0 ≤ f4_stale.toInt ∧ f4_stale.toInt ≤ 1) → (ai 33 0).toInt = (ai0 33 0).toInt → (ai 33 1).toInt = (ai0 33 1).toInt → L3.toInt ≤ (ai 33 1).toInt → (ai 33 1).toInt + 1 - L3.toInt ≤ (n7 : Int) → f3_equations.toInt - L4.toInt < (n : Int) → (0 : Int) < (n : Int) → IAX ai → FR [30, 32, 33, 37, 38] ai0 ai → RWX ad w0 → RWX ad w1 → RWX ad w2 → RWX ad w3 → va_P (dC, dI) vwCl (WX cI cJ cII cJJ ad f3_unknowns f3_equations f2_roundSupports f2_stale f7_size f1_size f5_keptSize f5_aheadSize f0_solved f4_blockCount f4_blockLength f4_lastIsFree f4_stale ai al w0 w1 w2 w3) H → va_D A (WX cI cJ cII cJJ ad f3_unknowns f3_equations f2_roundSupports f2_stale f7_size f1_size f5_keptSize f5_aheadSize f0_solved f4_blockCount f4_blockLength f4_lastIsFree f4_stale ai al w0 w1 w2 w3) → va_S A s.heap H locs → lv_has ls 5 [(0, .ref (ad 29)), (1, .int 1), (2, .int L2), (3, .int L3), (4, .int L4)] → W p l e ({ frames := 7, cells := 0, slots := 0, locals := 380 } : Room) s m args below meth c H locs 0 0 (MQ below (Q_m081_X4_tryNumbers dC dI cI cJ cII cJJ ad f3_unknowns f3_equations f2_roundSupports f2_stale f7_size f1_size f5_keptSize f5_aheadSize f0_solved f4_blockLength f4_lastIsFree f4_stale ai0 al w0 w1 w2 w3 A) args s 0 0 A) (F0 m 20 ls []) := by
  obtain ⟨hx, hb, hr, hml, hown, hts, hk, hA, hK, hX⟩ := id C
  intro n
  induction n with
  | zero =>
    intro L2 L3 L4 f4_blockCount ai H locs ls h0 h1 h2 h3 h4 h5 h6 h7 h8 h9 h10 h11 h12 h13 h14 h15 h16 h17 h18 hI hF hw_w0 hw_w1 hw_w2 hw_w3 hP hD hS hl
    exact absurd h18 (by omega)
  | succ n ih =>
    intro L2 L3 L4 f4_blockCount ai H locs ls h0 h1 h2 h3 h4 h5 h6 h7 h8 h9 h10 h11 h12 h13 h14 h15 h16 h17 h18 hI hF hw_w0 hw_w1 hw_w2 hw_w3 hP hD hS hl
    have ra_L2 := s_any L2
    refine lv_iload hx hb dX4_tryNumbers_20 (lv_at hl 4 rfl) ?_
    refine lv_aload_n hx hb dX4_tryNumbers_22 rfl (lv_at hl 0 rfl) ?_
    refine gf (k := 0) hx hb hts inX4 hown hK hP k_205 rfl (by decide) rfl 29 rfl (.ref (ad 6)) rfl dX4_tryNumbers_23 ?_
    refine gf (k := 1) hx hb hts inX3 hown hK hP k_47 rfl (by decide) rfl 6 rfl (.int f3_equations) rfl dX4_tryNumbers_26 ?_
    refine lv_icmp_ge (tgt := 73) hx hb dX4_tryNumbers_29 (by decide) (fun c1 => ?_) (fun c1 => ?_)
    · have c1 := j_le (a := f3_equations.toInt) (b := L4.toInt) rfl rfl c1
      refine lv_aload_n hx hb dX4_tryNumbers_73 rfl (lv_at hl 0 rfl) ?_
      refine lv_iload_n hx hb dX4_tryNumbers_74 rfl (lv_at hl 1 rfl) ?_
      refine lv_iconst (v := 1) hx hb dX4_tryNumbers_75 (by decide) ?_
      refine v_iadd hx hb dX4_tryNumbers_76 2 (by decide +kernel) ?_
      refine lv_iload_n hx hb dX4_tryNumbers_77 rfl (lv_at hl 2 rfl) ?_
      refine lv_bipush (v := 21) hx hb dX4_tryNumbers_78 (by decide) ?_
      refine v_imul hx hb dX4_tryNumbers_80 _ rfl ?_
      refine lv_topi (fun z2 e_z2 => ?_)
      refine lv_iload_n hx hb dX4_tryNumbers_81 rfl (lv_at hl 3 rfl) ?_
      refine v_iadd hx hb dX4_tryNumbers_82 _ rfl ?_
      refine lv_topi (fun z3 e_z3 => ?_)
      refine lv_bipush (v := 10) hx hb dX4_tryNumbers_83 (by decide) ?_
      refine v_iadd hx hb dX4_tryNumbers_85 _ rfl ?_
      refine lv_topi (fun z4 e_z4 => ?_)
      have kc2 : (2 : Int32).toInt = 2 := by decide +kernel
      have hM := m080_X4_searchFrom l dC dI cI cJ cII cJJ H.size 0 ad f3_unknowns f3_equations f2_roundSupports f2_stale f7_size f1_size f5_keptSize f5_aheadSize f0_solved f4_blockCount f4_blockLength f4_lastIsFree f4_stale ai al w0 w1 w2 w3 z4 (by omega) (by omega) (by omega) (by omega) (by omega) (by omega) (by omega) (by omega) (by omega) (by omega) (by omega) hI hw_w0 hw_w1 hw_w2 hw_w3
      refine k2V_v (q0 := 29) ⟨hx, hb, hml, hown, hts⟩ hK hP hD hS hA hX cv_RX4_77 hM ⟨by decide +kernel, by decide +kernel⟩ rfl rfl (Or.inl rfl) (rest := []) rfl rfl rfl hl.1 rfl (Nat.le_of_ble_eq_true rfl) dX4_tryNumbers_86 ⟨Nat.le_of_ble_eq_true rfl, Nat.le_of_ble_eq_true rfl⟩ (fun t H1 locs_1 ht hB hS_1 hFc => ?_)
      obtain ⟨v6, ai7, ⟨gpr5_0, gpr5_1, gpr5_2, hI_2, hFr_r5⟩, hP_2, -, hD_2⟩ := hB
      have hF_3 := FR_tr hF hFr_r5 (by decide)
      rw [ht] at hP_2
      have hD_4 := hD_2.weaken (B := A) (fun k q _ h9 => hFc q.1 h9)
      clear ht
      generalize H1 = H_5 at hP_2 hS_1 ⊢
      obtain ⟨z8, e_z8⟩ : ∃ q : Int32, q = L3 + Int32.ofInt 1 := ⟨_, rfl⟩
      have g_z8 : z8.toInt = L3.toInt + 1 := by rw [e_z8]; exact n_add (a := L3.toInt) (b := 1) rfl (by decide +kernel) (by omega) (by omega)
      refine lv_iinc (v := z8) (lv' := [(3, .int z8), (0, .ref (ad 29)), (1, .int 1), (2, .int L2), (4, .int L4)]) hx hb dX4_tryNumbers_89 hl (k := 3) rfl e_z8.symm (by decide) rfl (fun ls_6 hl_6 => ?_)
      refine lv_goto (tgt := 7) hx hb dX4_tryNumbers_92 (by decide) ?_
      exact K7 L2 z8 v6 ai7 _ _ _ (by omega) (by omega) (by omega) (by omega) (by omega) (by omega) (by omega) (by omega) (by omega) (by omega) (by omega) (by omega) (by omega) (by omega) (by omega) (by omega) hI_2 hF_3 hw_w0 hw_w1 hw_w2 hw_w3 hP_2 hD_4 hS_1 (lv_sub hl_6 [1, 2, 3, 0] rfl)
    · have c1 := j_nle (a := f3_equations.toInt) (b := L4.toInt) rfl rfl c1
      refine lv_aload_n hx hb dX4_tryNumbers_32 rfl (lv_at hl 0 rfl) ?_
      refine gf (k := 5) hx hb hts inX4 hown hK hP k_210 rfl (by decide) rfl 29 rfl (.ref (ad 34)) rfl dX4_tryNumbers_33 ?_
      refine lv_iload_n hx hb dX4_tryNumbers_36 rfl (lv_at hl 1 rfl) ?_
      refine lv_iconst (v := 1) hx hb dX4_tryNumbers_37 (by decide) ?_
      refine v_iadd hx hb dX4_tryNumbers_38 2 (by decide +kernel) ?_
      refine ld_a hx hb hK hP 34 2 rfl rfl (vin (by decide +kernel)) dX4_tryNumbers_39 (ad 37) rfl ?_
      refine lv_iload hx hb dX4_tryNumbers_40 (lv_at hl 4 rfl) ?_
      refine lv_aload_n hx hb dX4_tryNumbers_42 rfl (lv_at hl 0 rfl) ?_
      refine gf (k := 5) hx hb hts inX4 hown hK hP k_210 rfl (by decide) rfl 29 rfl (.ref (ad 34)) rfl dX4_tryNumbers_43 ?_
      refine lv_iload_n hx hb dX4_tryNumbers_46 rfl (lv_at hl 1 rfl) ?_
      refine ld_a hx hb hK hP 34 2 rfl rfl (vin (by decide +kernel)) dX4_tryNumbers_47 (ad 36) rfl ?_
      refine lv_iload hx hb dX4_tryNumbers_48 (lv_at hl 4 rfl) ?_
      refine va_iald hx hb hK hP 36 0 rfl rfl (j_in (a := L4.toInt) rfl (by omega) (by omega)) dX4_tryNumbers_50 ?_
      refine lv_topi (fun z9 e_z9 => ?_)
      refine lv_aload_n hx hb dX4_tryNumbers_51 rfl (lv_at hl 0 rfl) ?_
      refine gf (k := 0) hx hb hts inX4 hown hK hP k_205 rfl (by decide) rfl 29 rfl (.ref (ad 6)) rfl dX4_tryNumbers_52 ?_
      refine gf (k := 2) hx hb hts inX3 hown hK hP k_52 rfl (by decide) rfl 6 rfl (.ref (ad 1)) rfl dX4_tryNumbers_55 ?_
      refine lv_iload hx hb dX4_tryNumbers_58 (lv_at hl 4 rfl) ?_
      rcases (show L4 = 0 ∨ L4 = 1 ∨ L4 = 2 from j_cases3 (a := L4.toInt) rfl (by omega) (by omega)) with rfl | rfl | rfl
      · have k9 : (0 : Int32).toInt = 0 := by decide +kernel
        refine ld_a hx hb hK hP 1 2 rfl rfl (vin (by decide +kernel)) dX4_tryNumbers_60 (ad 2) rfl ?_
        refine lv_iload_n hx hb dX4_tryNumbers_61 rfl (lv_at hl 1 rfl) ?_
        refine va_iald hx hb hK hP 2 0 rfl rfl (vin (by decide +kernel)) dX4_tryNumbers_62 ?_
        refine lv_topi (fun z10 e_z10 => ?_)
        have k_z10 : z10.toInt = (ai 2 1).toInt := by rw [e_z10]; rfl
        have g_z10 : -6 ≤ z10.toInt ∧ z10.toInt ≤ 6 := by rw [e_z10]; exact IAX_at2 hI _
        refine lv_iload_n hx hb dX4_tryNumbers_63 rfl (lv_at hl 3 rfl) ?_
        refine v_imul hx hb dX4_tryNumbers_64 _ rfl ?_
        refine lv_topi (fun z11 e_z11 => ?_)
        refine v_isub hx hb dX4_tryNumbers_65 _ rfl ?_
        refine lv_topi (fun z12 e_z12 => ?_)
        refine va_iast hx hb hK hP hD hS 37 0 rfl rfl (vin (by decide +kernel)) dX4_tryNumbers_66 (fun H_7 locs_7 hP_7 hD_7 hS_7 => ?_)
        obtain ⟨ai13, e_ai13⟩ : ∃ q : Nat → Nat → Int32, q = va_up ai 37 (upd (ai 37) (0 : Int32).toNatClampNeg z12) := ⟨_, rfl⟩
        have hF_8 := FR_st hF e_ai13 (by decide)
        have hI_9 : IAX ai13 := by rw [e_ai13]; exact hI
        have hP_10 : va_P (dC, dI) vwCl (WX cI cJ cII cJJ ad f3_unknowns f3_equations f2_roundSupports f2_stale f7_size f1_size f5_keptSize f5_aheadSize f0_solved f4_blockCount f4_blockLength f4_lastIsFree f4_stale ai13 al w0 w1 w2 w3) H_7 := by rw [e_ai13]; exact hP_7
        have hD_11 : va_D A (WX cI cJ cII cJJ ad f3_unknowns f3_equations f2_roundSupports f2_stale f7_size f1_size f5_keptSize f5_aheadSize f0_solved f4_blockCount f4_blockLength f4_lastIsFree f4_stale ai13 al w0 w1 w2 w3) := by rw [e_ai13]; exact hD_7
        have tk_ai13_33_0 : (ai13 33 0).toInt = (ai 33 0).toInt := by rw [e_ai13]; rfl
        have tk_ai13_33_1 : (ai13 33 1).toInt = (ai 33 1).toInt := by rw [e_ai13]; rfl
        obtain ⟨z14, e_z14⟩ : ∃ q : Int32, q = 0 + Int32.ofInt 1 := ⟨_, rfl⟩
        have g_z14 : z14.toInt = 0 + 1 := by rw [e_z14]; exact n_add (a := 0) (b := 1) (by decide +kernel) (by decide +kernel) (by omega) (by omega)
        refine lv_iinc (v := z14) (lv' := [(4, .int z14), (0, .ref (ad 29)), (1, .int 1), (2, .int L2), (3, .int L3)]) hx hb dX4_tryNumbers_67 hl (k := 4) rfl e_z14.symm (by decide) rfl (fun ls_12 hl_12 => ?_)
        refine lv_goto (tgt := 20) hx hb dX4_tryNumbers_70 (by decide) ?_
        exact ih L2 L3 z14 f4_blockCount ai13 _ _ _ (by omega) (by omega) (by omega) (by omega) (by omega) (by omega) (by omega) (by omega) (by omega) (by omega) (by omega) (by omega) (by omega) (by omega) (by omega) (by omega) (by omega) (by omega) (by omega) hI_9 hF_8 hw_w0 hw_w1 hw_w2 hw_w3 hP_10 hD_11 hS_7 (lv_sub hl_12 [1, 2, 3, 4, 0] rfl)
      · have k9 : (1 : Int32).toInt = 1 := by decide +kernel
        refine ld_a hx hb hK hP 1 2 rfl rfl (vin (by decide +kernel)) dX4_tryNumbers_60 (ad 3) rfl ?_
        refine lv_iload_n hx hb dX4_tryNumbers_61 rfl (lv_at hl 1 rfl) ?_
        refine va_iald hx hb hK hP 3 0 rfl rfl (vin (by decide +kernel)) dX4_tryNumbers_62 ?_
        refine lv_topi (fun z15 e_z15 => ?_)
        have k_z15 : z15.toInt = (ai 3 1).toInt := by rw [e_z15]; rfl
        have g_z15 : -6 ≤ z15.toInt ∧ z15.toInt ≤ 6 := by rw [e_z15]; exact IAX_at3 hI _
        refine lv_iload_n hx hb dX4_tryNumbers_63 rfl (lv_at hl 3 rfl) ?_
        refine v_imul hx hb dX4_tryNumbers_64 _ rfl ?_
        refine lv_topi (fun z16 e_z16 => ?_)
        refine v_isub hx hb dX4_tryNumbers_65 _ rfl ?_
        refine lv_topi (fun z17 e_z17 => ?_)
        refine va_iast hx hb hK hP hD hS 37 0 rfl rfl (vin (by decide +kernel)) dX4_tryNumbers_66 (fun H_13 locs_13 hP_13 hD_13 hS_13 => ?_)
        obtain ⟨ai18, e_ai18⟩ : ∃ q : Nat → Nat → Int32, q = va_up ai 37 (upd (ai 37) (1 : Int32).toNatClampNeg z17) := ⟨_, rfl⟩
        have hF_14 := FR_st hF e_ai18 (by decide)
        have hI_15 : IAX ai18 := by rw [e_ai18]; exact hI
        have hP_16 : va_P (dC, dI) vwCl (WX cI cJ cII cJJ ad f3_unknowns f3_equations f2_roundSupports f2_stale f7_size f1_size f5_keptSize f5_aheadSize f0_solved f4_blockCount f4_blockLength f4_lastIsFree f4_stale ai18 al w0 w1 w2 w3) H_13 := by rw [e_ai18]; exact hP_13
        have hD_17 : va_D A (WX cI cJ cII cJJ ad f3_unknowns f3_equations f2_roundSupports f2_stale f7_size f1_size f5_keptSize f5_aheadSize f0_solved f4_blockCount f4_blockLength f4_lastIsFree f4_stale ai18 al w0 w1 w2 w3) := by rw [e_ai18]; exact hD_13
        have tk_ai18_33_0 : (ai18 33 0).toInt = (ai 33 0).toInt := by rw [e_ai18]; rfl
        have tk_ai18_33_1 : (ai18 33 1).toInt = (ai 33 1).toInt := by rw [e_ai18]; rfl
        obtain ⟨z19, e_z19⟩ : ∃ q : Int32, q = 1 + Int32.ofInt 1 := ⟨_, rfl⟩
        have g_z19 : z19.toInt = 1 + 1 := by rw [e_z19]; exact n_add (a := 1) (b := 1) (by decide +kernel) (by decide +kernel) (by omega) (by omega)
        refine lv_iinc (v := z19) (lv' := [(4, .int z19), (0, .ref (ad 29)), (1, .int 1), (2, .int L2), (3, .int L3)]) hx hb dX4_tryNumbers_67 hl (k := 4) rfl e_z19.symm (by decide) rfl (fun ls_18 hl_18 => ?_)
        refine lv_goto (tgt := 20) hx hb dX4_tryNumbers_70 (by decide) ?_
        exact ih L2 L3 z19 f4_blockCount ai18 _ _ _ (by omega) (by omega) (by omega) (by omega) (by omega) (by omega) (by omega) (by omega) (by omega) (by omega) (by omega) (by omega) (by omega) (by omega) (by omega) (by omega) (by omega) (by omega) (by omega) hI_15 hF_14 hw_w0 hw_w1 hw_w2 hw_w3 hP_16 hD_17 hS_13 (lv_sub hl_18 [1, 2, 3, 4, 0] rfl)
      · have k9 : (2 : Int32).toInt = 2 := by decide +kernel
        refine ld_a hx hb hK hP 1 2 rfl rfl (vin (by decide +kernel)) dX4_tryNumbers_60 (ad 4) rfl ?_
        refine lv_iload_n hx hb dX4_tryNumbers_61 rfl (lv_at hl 1 rfl) ?_
        refine va_iald hx hb hK hP 4 0 rfl rfl (vin (by decide +kernel)) dX4_tryNumbers_62 ?_
        refine lv_topi (fun z20 e_z20 => ?_)
        have k_z20 : z20.toInt = (ai 4 1).toInt := by rw [e_z20]; rfl
        have g_z20 : -6 ≤ z20.toInt ∧ z20.toInt ≤ 6 := by rw [e_z20]; exact IAX_at4 hI _
        refine lv_iload_n hx hb dX4_tryNumbers_63 rfl (lv_at hl 3 rfl) ?_
        refine v_imul hx hb dX4_tryNumbers_64 _ rfl ?_
        refine lv_topi (fun z21 e_z21 => ?_)
        refine v_isub hx hb dX4_tryNumbers_65 _ rfl ?_
        refine lv_topi (fun z22 e_z22 => ?_)
        refine va_iast hx hb hK hP hD hS 37 0 rfl rfl (vin (by decide +kernel)) dX4_tryNumbers_66 (fun H_19 locs_19 hP_19 hD_19 hS_19 => ?_)
        obtain ⟨ai23, e_ai23⟩ : ∃ q : Nat → Nat → Int32, q = va_up ai 37 (upd (ai 37) (2 : Int32).toNatClampNeg z22) := ⟨_, rfl⟩
        have hF_20 := FR_st hF e_ai23 (by decide)
        have hI_21 : IAX ai23 := by rw [e_ai23]; exact hI
        have hP_22 : va_P (dC, dI) vwCl (WX cI cJ cII cJJ ad f3_unknowns f3_equations f2_roundSupports f2_stale f7_size f1_size f5_keptSize f5_aheadSize f0_solved f4_blockCount f4_blockLength f4_lastIsFree f4_stale ai23 al w0 w1 w2 w3) H_19 := by rw [e_ai23]; exact hP_19
        have hD_23 : va_D A (WX cI cJ cII cJJ ad f3_unknowns f3_equations f2_roundSupports f2_stale f7_size f1_size f5_keptSize f5_aheadSize f0_solved f4_blockCount f4_blockLength f4_lastIsFree f4_stale ai23 al w0 w1 w2 w3) := by rw [e_ai23]; exact hD_19
        have tk_ai23_33_0 : (ai23 33 0).toInt = (ai 33 0).toInt := by rw [e_ai23]; rfl
        have tk_ai23_33_1 : (ai23 33 1).toInt = (ai 33 1).toInt := by rw [e_ai23]; rfl
        obtain ⟨z24, e_z24⟩ : ∃ q : Int32, q = 2 + Int32.ofInt 1 := ⟨_, rfl⟩
        have g_z24 : z24.toInt = 2 + 1 := by rw [e_z24]; exact n_add (a := 2) (b := 1) (by decide +kernel) (by decide +kernel) (by omega) (by omega)
        refine lv_iinc (v := z24) (lv' := [(4, .int z24), (0, .ref (ad 29)), (1, .int 1), (2, .int L2), (3, .int L3)]) hx hb dX4_tryNumbers_67 hl (k := 4) rfl e_z24.symm (by decide) rfl (fun ls_24 hl_24 => ?_)
        refine lv_goto (tgt := 20) hx hb dX4_tryNumbers_70 (by decide) ?_
        exact ih L2 L3 z24 f4_blockCount ai23 _ _ _ (by omega) (by omega) (by omega) (by omega) (by omega) (by omega) (by omega) (by omega) (by omega) (by omega) (by omega) (by omega) (by omega) (by omega) (by omega) (by omega) (by omega) (by omega) (by omega) hI_21 hF_20 hw_w0 hw_w1 hw_w2 hw_w3 hP_22 hD_23 hS_19 (lv_sub hl_24 [1, 2, 3, 4, 0] rfl)
set_option maxRecDepth 100000 in
set_option maxHeartbeats 4000000 in
theorem m081_X4_tryNumbers_b7 {p : Program} {l : Launch} {e : Env} {s : State} {m : MethodId} {args : Array Value} {below : List Frame} {meth : Method} {c : Code} {A : Nat → Prop} {dC : Nat → ClassId} {dI : Nat → Nat → Nat} {cI cJ cII cJJ : ClassId} {ad : Nat → Nat} {g : Nat} {f3_unknowns f3_equations f2_roundSupports f2_stale f7_size f1_size f5_keptSize f5_aheadSize f0_solved f4_blockLength f4_lastIsFree f4_stale : Int32} {ai0 : Nat → Nat → Int32} {al : Nat → Nat → Int64} {w0 w1 w2 w3 : Nat} (C : Cx p c s m meth args A dC dI (TY cI cJ cII cJJ) cX4_tryNumbers none 5 RX4 0 g) : ∀ (n : Nat), ∀ (L2 L3 f4_blockCount : Int32) (ai : Nat → Nat → Int32) (H : Heap) (locs : List Loc) (ls : Array Slot), -10 ≤ L3.toInt → (1 ≤ f3_unknowns.toInt ∧ f3_unknowns.toInt ≤ 4) → (0 ≤ f3_equations.toInt ∧ f3_equations.toInt ≤ 3) → (0 ≤ f2_stale.toInt ∧ f2_stale.toInt ≤ 1) → (0 ≤ f7_size.toInt ∧ f7_size.toInt ≤ 256) → (0 ≤ f1_size.toInt ∧ f1_size.toInt ≤ 4) → (0 ≤ f5_keptSize.toInt ∧ f5_keptSize.toInt ≤ 128) → (0 ≤ f5_aheadSize.toInt ∧ f5_aheadSize.toInt ≤ 128) → (0 ≤ f4_blockCount.toInt ∧ f4_blockCount.toInt ≤ 9261) → (0 ≤ f4_blockLength.toInt ∧ f4_blockLength.toInt ≤ 21) → (0 ≤ f4_lastIsFree.toInt ∧ f4_lastIsFree.toInt ≤ 1) → (0 ≤ f4_stale.toInt ∧ f4_stale.toInt ≤ 1) → (ai 33 0).toInt = (ai0 33 0).toInt → (ai 33 1).toInt = (ai0 33 1).toInt → (ai 33 1).toInt + 1 - L3.toInt < (n : Int) → (0 : Int) < (n : Int) → IAX ai → FR [30, 32, 33, 37, 38] ai0 ai → RWX ad w0 → RWX ad w1 → RWX ad w2 → RWX ad w3 → va_P (dC, dI) vwCl (WX cI cJ cII cJJ ad f3_unknowns f3_equations f2_roundSupports f2_stale f7_size f1_size f5_keptSize f5_aheadSize f0_solved f4_blockCount f4_blockLength f4_lastIsFree f4_stale ai al w0 w1 w2 w3) H → va_D A (WX cI cJ cII cJJ ad f3_unknowns f3_equations f2_roundSupports f2_stale f7_size f1_size f5_keptSize f5_aheadSize f0_solved f4_blockCount f4_blockLength f4_lastIsFree f4_stale ai al w0 w1 w2 w3) → va_S A s.heap H locs → lv_has ls 5 [(0, .ref (ad 29)), (1, .int 1), (2, .int L2), (3, .int L3)] → W p l e ({ frames := 7, cells := 0, slots := 0, locals := 380 } : Room) s m args below meth c H locs 0 0 (MQ below (Q_m081_X4_tryNumbers dC dI cI cJ cII cJJ ad f3_unknowns f3_equations f2_roundSupports f2_stale f7_size f1_size f5_keptSize f5_aheadSize f0_solved f4_blockLength f4_lastIsFree f4_stale ai0 al w0 w1 w2 w3 A) args s 0 0 A) (F0 m 7 ls []) := by
  obtain ⟨hx, hb, hr, hml, hown, hts, hk, hA, hK, hX⟩ := id C
  intro n
  induction n with
  | zero =>
    intro L2 L3 f4_blockCount ai H locs ls h0 h1 h2 h3 h4 h5 h6 h7 h8 h9 h10 h11 h12 h13 h14 h15 hI hF hw_w0 hw_w1 hw_w2 hw_w3 hP hD hS hl
    exact absurd h15 (by omega)
  | succ n ih =>
    intro L2 L3 f4_blockCount ai H locs ls h0 h1 h2 h3 h4 h5 h6 h7 h8 h9 h10 h11 h12 h13 h14 h15 hI hF hw_w0 hw_w1 hw_w2 hw_w3 hP hD hS hl
    have ra_L2 := s_any L2
    have ra_L3 := s_any L3
    refine lv_iload_n hx hb dX4_tryNumbers_7 rfl (lv_at hl 3 rfl) ?_
    refine lv_aload_n hx hb dX4_tryNumbers_8 rfl (lv_at hl 0 rfl) ?_
    refine gf (k := 4) hx hb hts inX4 hown hK hP k_209 rfl (by decide) rfl 29 rfl (.ref (ad 33)) rfl dX4_tryNumbers_9 ?_
    refine lv_iload_n hx hb dX4_tryNumbers_12 rfl (lv_at hl 1 rfl) ?_
    refine va_iald hx hb hK hP 33 0 rfl rfl (vin (by decide +kernel)) dX4_tryNumbers_13 ?_
    refine lv_topi (fun z1 e_z1 => ?_)
    have k_z1 : z1.toInt = (ai 33 1).toInt := by rw [e_z1]; rfl
    have g_z1 : -2147483648 ≤ z1.toInt ∧ z1.toInt ≤ 2147483646 := by rw [e_z1]; exact IAX_at33 hI _
    refine lv_icmp_gt (tgt := 95) hx hb dX4_tryNumbers_14 (by decide) (fun c2 => ?_) (fun c2 => ?_)
    · have c2 := j_lt (a := z1.toInt) (b := L3.toInt) rfl rfl c2
      exact r2_v hx hb hr hk hS dX4_tryNumbers_95 (fun t ht hW => ⟨f4_blockCount, ai, ⟨(by first | omega | decide | exact Or.inl (by decide) | exact Or.inr (by decide) | exact Or.inr (by omega)), (by first | omega | decide | exact Or.inl (by decide) | exact Or.inr (by decide) | exact Or.inr (by omega)), (by first | omega | decide | exact Or.inl (by decide) | exact Or.inr (by decide) | exact Or.inr (by omega)), hI, hF⟩, by rw [ht]; exact hP, va_K.moved hW.alike hK, hD⟩)
    · have c2 := j_nlt (a := z1.toInt) (b := L3.toInt) rfl rfl c2
      refine lv_iconst (v := 0) hx hb dX4_tryNumbers_17 (by decide) ?_
      refine lv_istore (lv' := [(4, .int 0), (0, .ref (ad 29)), (1, .int 1), (2, .int L2), (3, .int L3)]) hx hb dX4_tryNumbers_18 hl (by decide) rfl (fun ls_1 hl_1 => ?_)
      exact m081_X4_tryNumbers_b20 C n ih _ L2 L3 0 f4_blockCount ai _ _ _ (by first | omega | decide | (have ka0 := (by decide +kernel : (0 : Int32).toInt = 0); omega)) (by first | omega | decide | (have ka0 := (by decide +kernel : (0 : Int32).toInt = 0); omega)) (by first | omega | decide | (have ka0 := (by decide +kernel : (0 : Int32).toInt = 0); omega)) (by first | omega | decide | (have ka0 := (by decide +kernel : (0 : Int32).toInt = 0); omega)) (by first | omega | decide | (have ka0 := (by decide +kernel : (0 : Int32).toInt = 0); omega)) (by first | omega | decide | (have ka0 := (by decide +kernel : (0 : Int32).toInt = 0); omega)) (by first | omega | decide | (have ka0 := (by decide +kernel : (0 : Int32).toInt = 0); omega)) (by first | omega | decide | (have ka0 := (by decide +kernel : (0 : Int32).toInt = 0); omega)) (by first | omega | decide | (have ka0 := (by decide +kernel : (0 : Int32).toInt = 0); omega)) (by first | omega | decide | (have ka0 := (by decide +kernel : (0 : Int32).toInt = 0); omega)) (by first | omega | decide | (have ka0 := (by decide +kernel : (0 : Int32).toInt = 0); omega)) (by first | omega | decide | (have ka0 := (by decide +kernel : (0 : Int32).toInt = 0); omega)) (by first | omega | decide | (have ka0 := (by decide +kernel : (0 : Int32).toInt = 0); omega)) (by first | omega | decide | (have ka0 := (by decide +kernel : (0 : Int32).toInt = 0); omega)) (by first | omega | decide | (have ka0 := (by decide +kernel : (0 : Int32).toInt = 0); omega)) (by first | omega | decide | (have ka0 := (by decide +kernel : (0 : Int32).toInt = 0); omega)) (by first | omega | decide | (have ka0 := (by decide +kernel : (0 : Int32).toInt = 0); omega)) (j_fuel _) (by omega) hI hF hw_w0 hw_w1 hw_w2 hw_w3 hP hD hS (lv_sub hl_1 [1, 2, 3, 4, 0] rfl)
set_option maxRecDepth 100000 in
set_option maxHeartbeats 4000000 in
theorem m081_X4_tryNumbers (l : Launch) (dC : Nat → ClassId) (dI : Nat → Nat → Nat) (cI cJ cII cJJ : ClassId) (sz g : Nat) (ad : Nat → Nat) (f3_unknowns f3_equations f2_roundSupports f2_stale f7_size f1_size f5_keptSize f5_aheadSize f0_solved f4_blockCount f4_blockLength f4_lastIsFree f4_stale : Int32) (ai : Nat → Nat → Int32) (al : Nat → Nat → Int64) (w0 w1 w2 w3 : Nat) (x2 : Int32) (h_f3_unknowns : (1 ≤ f3_unknowns.toInt ∧ f3_unknowns.toInt ≤ 4)) (h_f3_equations : (0 ≤ f3_equations.toInt ∧ f3_equations.toInt ≤ 3)) (h_f2_stale : (0 ≤ f2_stale.toInt ∧ f2_stale.toInt ≤ 1)) (h_f7_size : (0 ≤ f7_size.toInt ∧ f7_size.toInt ≤ 256)) (h_f1_size : (0 ≤ f1_size.toInt ∧ f1_size.toInt ≤ 4)) (h_f5_keptSize : (0 ≤ f5_keptSize.toInt ∧ f5_keptSize.toInt ≤ 128)) (h_f5_aheadSize : (0 ≤ f5_aheadSize.toInt ∧ f5_aheadSize.toInt ≤ 128)) (h_f4_blockCount : (0 ≤ f4_blockCount.toInt ∧ f4_blockCount.toInt ≤ 9261)) (h_f4_blockLength : (0 ≤ f4_blockLength.toInt ∧ f4_blockLength.toInt ≤ 21)) (h_f4_lastIsFree : (0 ≤ f4_lastIsFree.toInt ∧ f4_lastIsFree.toInt ≤ 1)) (h_f4_stale : (0 ≤ f4_stale.toInt ∧ f4_stale.toInt ≤ 1)) (hI : IAX ai) (hw_w0 : RWX ad w0) (hw_w1 : RWX ad w1) (hw_w2 : RWX ad w2) (hw_w3 : RWX ad w3) : Met l yX4_tryNumbers (.code yX4_tryNumbers cX4_tryNumbers 5 none :: TT) ({ frames := 7, cells := 0, slots := 0, locals := 380 } : Room) (PcS dC dI (TY cI cJ cII cJJ) [.ref (ad 29), .int 1, .int x2] (WX cI cJ cII cJJ ad f3_unknowns f3_equations f2_roundSupports f2_stale f7_size f1_size f5_keptSize f5_aheadSize f0_solved f4_blockCount f4_blockLength f4_lastIsFree f4_stale ai al w0 w1 w2 w3) sz 0 g) (Q_m081_X4_tryNumbers dC dI cI cJ cII cJJ ad f3_unknowns f3_equations f2_roundSupports f2_stale f7_size f1_size f5_keptSize f5_aheadSize f0_solved f4_blockLength f4_lastIsFree f4_stale ai al w0 w1 w2 w3 (va_A (WX cI cJ cII cJJ ad f3_unknowns f3_equations f2_roundSupports f2_stale f7_size f1_size f5_keptSize f5_aheadSize f0_solved f4_blockCount f4_blockLength f4_lastIsFree f4_stale ai al w0 w1 w2 w3) sz)) 0 0 (va_A (WX cI cJ cII cJJ ad f3_unknowns f3_equations f2_roundSupports f2_stale f7_size f1_size f5_keptSize f5_aheadSize f0_solved f4_blockCount f4_blockLength f4_lastIsFree f4_stale ai al w0 w1 w2 w3) sz) := by
  refine SM.of (y := yX4_tryNumbers) (maxL := 5) (av := [.ref (ad 29), .int 1, .int x2]) (Q_m081_X4_tryNumbers dC dI cI cJ cII cJJ ad f3_unknowns f3_equations f2_roundSupports f2_stale f7_size f1_size f5_keptSize f5_aheadSize f0_solved f4_blockLength f4_lastIsFree f4_stale ai al w0 w1 w2 w3) (by decide +kernel) (Nat.le_of_ble_eq_true rfl) (fun p e s m below meth c A ls hx hb hr hml hown hts hk hnm hA hK hP hD hS hX hl => ?_)
  have C : Cx p c s m meth (([.ref (ad 29), .int 1, .int x2] : List Value).toArray) A dC dI (TY cI cJ cII cJJ) cX4_tryNumbers none 5 RX4 0 g := ⟨hx, hb, hr, hml, hown, hts, hk, hA, hK, hX⟩
  have hown : s.vm.findClass RX4 = some m.cls := hown
  have hl : lv_has ls 5 [(0, .ref (ad 29)), (1, .int 1), (2, .int x2)] := hl
  obtain ⟨H, hH⟩ : ∃ q, q = s.heap := ⟨_, rfl⟩
  rw [← hH] at hP
  have hS : va_S A s.heap H [] := by rw [hH]; exact hS
  rw [← hH]
  have hF := FR_refl [30, 32, 33, 37, 38] ai
  have ra_x2 := s_any x2
  refine lv_aload_n hx hb dX4_tryNumbers_0 rfl (lv_at hl 0 rfl) ?_
  refine gf (k := 3) hx hb hts inX4 hown hK hP k_208 rfl (by decide) rfl 29 rfl (.ref (ad 32)) rfl dX4_tryNumbers_1 ?_
  refine lv_iload_n hx hb dX4_tryNumbers_4 rfl (lv_at hl 1 rfl) ?_
  refine va_iald hx hb hK hP 32 0 rfl rfl (vin (by decide +kernel)) dX4_tryNumbers_5 ?_
  refine lv_topi (fun z1 e_z1 => ?_)
  have k_z1 : z1.toInt = (ai 32 1).toInt := by rw [e_z1]; rfl
  have g_z1 : -10 ≤ z1.toInt ∧ z1.toInt ≤ 2147483647 := by rw [e_z1]; exact IAX_at32 hI _
  refine lv_istore_n (lv' := [(3, .int z1), (0, .ref (ad 29)), (1, .int 1), (2, .int x2)]) hx hb dX4_tryNumbers_6 rfl hl (by decide) rfl (fun ls_1 hl_1 => ?_)
  exact m081_X4_tryNumbers_b7 C  _ x2 z1 f4_blockCount ai _ _ _ (by omega) (by omega) (by omega) (by omega) (by omega) (by omega) (by omega) (by omega) (by omega) (by omega) (by omega) (by omega) (by omega) (by omega) (j_fuel _) (by omega) hI hF hw_w0 hw_w1 hw_w2 hw_w3 hP hD hS (lv_sub hl_1 [1, 2, 3, 0] rfl)
def Q_m082_X4_narrow (dC : Nat → ClassId) (dI : Nat → Nat → Nat) (cI cJ cII cJJ : ClassId) (ad : Nat → Nat) (f3_unknowns f3_equations f2_roundSupports f2_stale f7_size f1_size f5_keptSize f5_aheadSize f0_solved f4_blockCount f4_blockLength f4_lastIsFree f4_stale : Int32) (ai0 : Nat → Nat → Int32) (al : Nat → Nat → Int64) (w0 w1 w2 w3 : Nat) : (Nat → Prop) → Array Value → State → Outcome → State → Prop := fun A => QV (fun t => ∃ (n_ai : Nat → Nat → Int32), ((n_ai 33 0).toInt = (ai0 33 0).toInt ∧ IAX n_ai ∧ FR [32, 33] ai0 n_ai) ∧ WO dC dI (TY cI cJ cII cJJ) (WX cI cJ cII cJJ ad f3_unknowns f3_equations f2_roundSupports f2_stale f7_size f1_size f5_keptSize f5_aheadSize f0_solved f4_blockCount f4_blockLength f4_lastIsFree f4_stale n_ai al w0 w1 w2 w3) A t) A
set_option maxRecDepth 100000 in
set_option maxHeartbeats 4000000 in
theorem m082_X4_narrow_b166 {p : Program} {l : Launch} {e : Env} {s : State} {m : MethodId} {args : Array Value} {below : List Frame} {meth : Method} {c : Code} {A : Nat → Prop} {dC : Nat → ClassId} {dI : Nat → Nat → Nat} {cI cJ cII cJJ : ClassId} {ad : Nat → Nat} {g : Nat} {f3_unknowns f3_equations f2_roundSupports f2_stale f7_size f1_size f5_keptSize f5_aheadSize f0_solved f4_blockCount f4_blockLength f4_lastIsFree f4_stale : Int32} {ai0 : Nat → Nat → Int32} {al : Nat → Nat → Int64} {w0 w1 w2 w3 : Nat} (C : Cx p c s m meth args A dC dI (TY cI cJ cII cJJ) cX4_narrow none 6 RX4 0 g) : ∀ (L2 L3 L4 L5 : Int32) (ai : Nat → Nat → Int32) (H : Heap) (locs : List Loc) (ls : Array Slot), (0 ≤ L2.toInt ∧ L2.toInt ≤ 2) → (0 ≤ L3.toInt ∧ L3.toInt ≤ 0) → (1 ≤ f3_unknowns.toInt ∧ f3_unknowns.toInt ≤ 4) → (0 ≤ f3_equations.toInt ∧ f3_equations.toInt ≤ 3) → (0 ≤ f2_stale.toInt ∧ f2_stale.toInt ≤ 1) → (0 ≤ f7_size.toInt ∧ f7_size.toInt ≤ 256) → (0 ≤ f1_size.toInt ∧ f1_size.toInt ≤ 4) → (0 ≤ f5_keptSize.toInt ∧ f5_keptSize.toInt ≤ 128) → (0 ≤ f5_aheadSize.toInt ∧ f5_aheadSize.toInt ≤ 128) → (0 ≤ f4_blockCount.toInt ∧ f4_blockCount.toInt ≤ 9261) → (0 ≤ f4_blockLength.toInt ∧ f4_blockLength.toInt ≤ 21) → (0 ≤ f4_lastIsFree.toInt ∧ f4_lastIsFree.toInt ≤ 1) → (0 ≤ f4_stale.toInt ∧ f4_stale.toInt ≤ 1) → (ai 33 0).toInt = (ai0 33 0).toInt → IAX ai → FR [32, 33] ai0 ai → RWX ad w0 → RWX ad w1 → RWX ad w2 → RWX ad w3 → va_P (dC, dI) vwCl (WX cI cJ cII cJJ ad f3_unknowns f3_equations f2_roundSupports f2_stale f7_size f1_size f5_keptSize f5_aheadSize f0_solved f4_blockCount f4_blockLength f4_lastIsFree f4_stale ai al w0 w1 w2 w3) H → va_D A (WX cI cJ cII cJJ ad f3_unknowns f3_equations f2_roundSupports f2_stale f7_size f1_size f5_keptSize f5_aheadSize f0_solved f4_blockCount f4_blockLength f4_lastIsFree f4_stale ai al w0 w1 w2 w3) → va_S A s.heap H locs → lv_has ls 6 [(0, .ref (ad 29)), (1, .int 1), (2, .int L2), (3, .int L3), (4, .int L4), (5, .int L5)] → W p l e ({ frames := 3, cells := 0, slots := 0, locals := 140 } : Room) s m args below meth c H locs 0 0 (MQ below (Q_m082_X4_narrow dC dI cI cJ cII cJJ ad f3_unknowns f3_equations f2_roundSupports f2_stale f7_size f1_size f5_keptSize f5_aheadSize f0_solved f4_blockCount f4_blockLength f4_lastIsFree f4_stale ai0 al w0 w1 w2 w3 A) args s 0 0 A) (F0 m 166 ls []) := by
  obtain ⟨hx, hb, hr, hml, hown, hts, hk, hA, hK, hX⟩ := id C
  intro L2 L3 L4 L5 ai H locs ls h0 h1 h2 h3 h4 h5 h6 h7 h8 h9 h10 h11 h12 h13 hI hF hw_w0 hw_w1 hw_w2 hw_w3 hP hD hS hl
  have ra_L4 := s_any L4
  have ra_L5 := s_any L5
  refine lv_aload_n hx hb dX4_narrow_166 rfl (lv_at hl 0 rfl) ?_
  refine gf (k := 4) hx hb hts inX4 hown hK hP k_209 rfl (by decide) rfl 29 rfl (.ref (ad 33)) rfl dX4_narrow_167 ?_
  refine lv_iload_n hx hb dX4_narrow_170 rfl (lv_at hl 1 rfl) ?_
  refine lv_aload_n hx hb dX4_narrow_171 rfl (lv_at hl 0 rfl) ?_
  refine gf (k := 3) hx hb hts inX4 hown hK hP k_208 rfl (by decide) rfl 29 rfl (.ref (ad 32)) rfl dX4_narrow_172 ?_
  refine lv_iload_n hx hb dX4_narrow_175 rfl (lv_at hl 1 rfl) ?_
  refine va_iald hx hb hK hP 32 0 rfl rfl (vin (by decide +kernel)) dX4_narrow_176 ?_
  refine lv_topi (fun z1 e_z1 => ?_)
  have k_z1 : z1.toInt = (ai 32 1).toInt := by rw [e_z1]; rfl
  have g_z1 : -10 ≤ z1.toInt ∧ z1.toInt ≤ 2147483647 := by rw [e_z1]; exact IAX_at32 hI _
  refine lv_iconst (v := 1) hx hb dX4_narrow_177 (by decide) ?_
  refine v_isub hx hb dX4_narrow_178 _ rfl ?_
  refine lv_topi (fun z2 e_z2 => ?_)
  have g_z2 : z2.toInt = z1.toInt - 1 := by rw [e_z2]; exact n_sub (a := z1.toInt) (b := 1) rfl (by decide +kernel) (by omega) (by omega)
  refine va_iast hx hb hK hP hD hS 33 0 rfl rfl (vin (by decide +kernel)) dX4_narrow_179 (fun H_1 locs_1 hP_1 hD_1 hS_1 => ?_)
  obtain ⟨ai3, e_ai3⟩ : ∃ q : Nat → Nat → Int32, q = va_up ai 33 (upd (ai 33) (1 : Int32).toNatClampNeg z2) := ⟨_, rfl⟩
  have hF_2 := FR_st hF e_ai3 (by decide)
  have ra_z2 := s_any z2
  have hI_3 : IAX ai3 := by rw [e_ai3]; exact IAX_st33 hI (a := z2.toInt) rfl (by omega) (by omega)
  have hP_4 : va_P (dC, dI) vwCl (WX cI cJ cII cJJ ad f3_unknowns f3_equations f2_roundSupports f2_stale f7_size f1_size f5_keptSize f5_aheadSize f0_solved f4_blockCount f4_blockLength f4_lastIsFree f4_stale ai3 al w0 w1 w2 w3) H_1 := by rw [e_ai3]; exact hP_1
  have hD_5 : va_D A (WX cI cJ cII cJJ ad f3_unknowns f3_equations f2_roundSupports f2_stale f7_size f1_size f5_keptSize f5_aheadSize f0_solved f4_blockCount f4_blockLength f4_lastIsFree f4_stale ai3 al w0 w1 w2 w3) := by rw [e_ai3]; exact hD_1
  have tk_ai3_33_0 : (ai3 33 0).toInt = (ai 33 0).toInt := by rw [e_ai3]; rfl
  exact r2_v hx hb hr hk hS_1 dX4_narrow_180 (fun t ht hW => ⟨ai3, ⟨(by first | omega | decide | exact Or.inl (by decide) | exact Or.inr (by decide) | exact Or.inr (by omega)), hI_3, hF_2⟩, by rw [ht]; exact hP_4, va_K.moved hW.alike hK, hD_5⟩)
set_option maxRecDepth 100000 in
set_option maxHeartbeats 4000000 in
theorem m082_X4_narrow (l : Launch) (dC : Nat → ClassId) (dI : Nat → Nat → Nat) (cI cJ cII cJJ : ClassId) (sz g : Nat) (ad : Nat → Nat) (f3_unknowns f3_equations f2_roundSupports f2_stale f7_size f1_size f5_keptSize f5_aheadSize f0_solved f4_blockCount f4_blockLength f4_lastIsFree f4_stale : Int32) (ai : Nat → Nat → Int32) (al : Nat → Nat → Int64) (w0 w1 w2 w3 : Nat) (x2 : Int32) (h_x2 : (0 ≤ x2.toInt ∧ x2.toInt ≤ 2)) (h_f3_unknowns : (1 ≤ f3_unknowns.toInt ∧ f3_unknowns.toInt ≤ 4)) (h_f3_equations : (0 ≤ f3_equations.toInt ∧ f3_equations.toInt ≤ 3)) (h_f2_stale : (0 ≤ f2_stale.toInt ∧ f2_stale.toInt ≤ 1)) (h_f7_size : (0 ≤ f7_size.toInt ∧ f7_size.toInt ≤ 256)) (h_f1_size : (0 ≤ f1_size.toInt ∧ f1_size.toInt ≤ 4)) (h_f5_keptSize : (0 ≤ f5_keptSize.toInt ∧ f5_keptSize.toInt ≤ 128)) (h_f5_aheadSize : (0 ≤ f5_aheadSize.toInt ∧ f5_aheadSize.toInt ≤ 128)) (h_f4_blockCount : (0 ≤ f4_blockCount.toInt ∧ f4_blockCount.toInt ≤ 9261)) (h_f4_blockLength : (0 ≤ f4_blockLength.toInt ∧ f4_blockLength.toInt ≤ 21)) (h_f4_lastIsFree : (0 ≤ f4_lastIsFree.toInt ∧ f4_lastIsFree.toInt ≤ 1)) (h_f4_stale : (0 ≤ f4_stale.toInt ∧ f4_stale.toInt ≤ 1)) (hI : IAX ai) (hw_w0 : RWX ad w0) (hw_w1 : RWX ad w1) (hw_w2 : RWX ad w2) (hw_w3 : RWX ad w3) : Met l yX4_narrow (.code yX4_narrow cX4_narrow 6 none :: TT) ({ frames := 3, cells := 0, slots := 0, locals := 140 } : Room) (PcS dC dI (TY cI cJ cII cJJ) [.ref (ad 29), .int 1, .int x2] (WX cI cJ cII cJJ ad f3_unknowns f3_equations f2_roundSupports f2_stale f7_size f1_size f5_keptSize f5_aheadSize f0_solved f4_blockCount f4_blockLength f4_lastIsFree f4_stale ai al w0 w1 w2 w3) sz 0 g) (Q_m082_X4_narrow dC dI cI cJ cII cJJ ad f3_unknowns f3_equations f2_roundSupports f2_stale f7_size f1_size f5_keptSize f5_aheadSize f0_solved f4_blockCount f4_blockLength f4_lastIsFree f4_stale ai al w0 w1 w2 w3 (va_A (WX cI cJ cII cJJ ad f3_unknowns f3_equations f2_roundSupports f2_stale f7_size f1_size f5_keptSize f5_aheadSize f0_solved f4_blockCount f4_blockLength f4_lastIsFree f4_stale ai al w0 w1 w2 w3) sz)) 0 0 (va_A (WX cI cJ cII cJJ ad f3_unknowns f3_equations f2_roundSupports f2_stale f7_size f1_size f5_keptSize f5_aheadSize f0_solved f4_blockCount f4_blockLength f4_lastIsFree f4_stale ai al w0 w1 w2 w3) sz) := by
  refine SM.of (y := yX4_narrow) (maxL := 6) (av := [.ref (ad 29), .int 1, .int x2]) (Q_m082_X4_narrow dC dI cI cJ cII cJJ ad f3_unknowns f3_equations f2_roundSupports f2_stale f7_size f1_size f5_keptSize f5_aheadSize f0_solved f4_blockCount f4_blockLength f4_lastIsFree f4_stale ai al w0 w1 w2 w3) (by decide +kernel) (Nat.le_of_ble_eq_true rfl) (fun p e s m below meth c A ls hx hb hr hml hown hts hk hnm hA hK hP hD hS hX hl => ?_)
  have C : Cx p c s m meth (([.ref (ad 29), .int 1, .int x2] : List Value).toArray) A dC dI (TY cI cJ cII cJJ) cX4_narrow none 6 RX4 0 g := ⟨hx, hb, hr, hml, hown, hts, hk, hA, hK, hX⟩
  have hown : s.vm.findClass RX4 = some m.cls := hown
  have hl : lv_has ls 6 [(0, .ref (ad 29)), (1, .int 1), (2, .int x2)] := hl
  obtain ⟨H, hH⟩ : ∃ q, q = s.heap := ⟨_, rfl⟩
  rw [← hH] at hP
  have hS : va_S A s.heap H [] := by rw [hH]; exact hS
  rw [← hH]
  have hF := FR_refl [32, 33] ai
  refine lv_aload_n hx hb dX4_narrow_0 rfl (lv_at hl 0 rfl) ?_
  refine gf (k := 0) hx hb hts inX4 hown hK hP k_205 rfl (by decide) rfl 29 rfl (.ref (ad 6)) rfl dX4_narrow_1 ?_
  refine gf (k := 2) hx hb hts inX3 hown hK hP k_52 rfl (by decide) rfl 6 rfl (.ref (ad 1)) rfl dX4_narrow_4 ?_
  refine lv_iload_n hx hb dX4_narrow_7 rfl (lv_at hl 2 rfl) ?_
  rcases (show x2 = 0 ∨ x2 = 1 ∨ x2 = 2 from j_cases3 (a := x2.toInt) rfl (by omega) (by omega)) with rfl | rfl | rfl
  · have k9 : (0 : Int32).toInt = 0 := by decide +kernel
    refine ld_a hx hb hK hP 1 2 rfl rfl (vin (by decide +kernel)) dX4_narrow_8 (ad 2) rfl ?_
    refine lv_iload_n hx hb dX4_narrow_9 rfl (lv_at hl 1 rfl) ?_
    refine va_iald hx hb hK hP 2 0 rfl rfl (vin (by decide +kernel)) dX4_narrow_10 ?_
    refine lv_topi (fun z1 e_z1 => ?_)
    have k_z1 : z1.toInt = (ai 2 1).toInt := by rw [e_z1]; rfl
    have g_z1 : -6 ≤ z1.toInt ∧ z1.toInt ≤ 6 := by rw [e_z1]; exact IAX_at2 hI _
    refine lv_istore_n (lv' := [(3, .int z1), (0, .ref (ad 29)), (1, .int 1), (2, .int 0)]) hx hb dX4_narrow_11 rfl hl (by decide) rfl (fun ls_1 hl_1 => ?_)
    refine lv_aload_n hx hb dX4_narrow_12 rfl (lv_at hl_1 1 rfl) ?_
    refine gf (k := 5) hx hb hts inX4 hown hK hP k_210 rfl (by decide) rfl 29 rfl (.ref (ad 34)) rfl dX4_narrow_13 ?_
    refine lv_iload_n hx hb dX4_narrow_16 rfl (lv_at hl_1 2 rfl) ?_
    refine ld_a hx hb hK hP 34 2 rfl rfl (vin (by decide +kernel)) dX4_narrow_17 (ad 36) rfl ?_
    refine lv_iload_n hx hb dX4_narrow_18 rfl (lv_at hl_1 3 rfl) ?_
    refine va_iald hx hb hK hP 36 0 rfl rfl (vin (by decide +kernel)) dX4_narrow_19 ?_
    refine lv_topi (fun z2 e_z2 => ?_)
    have k_z2 : z2.toInt = (ai 36 0).toInt := by rw [e_z2]; rfl
    refine lv_aload_n hx hb dX4_narrow_20 rfl (lv_at hl_1 1 rfl) ?_
    refine gf (k := 7) hx hb hts inX4 hown hK hP k_212 rfl (by decide) rfl 29 rfl (.ref (ad 46)) rfl dX4_narrow_21 ?_
    refine lv_iload_n hx hb dX4_narrow_24 rfl (lv_at hl_1 2 rfl) ?_
    refine lv_iconst (v := 1) hx hb dX4_narrow_25 (by decide) ?_
    refine v_iadd hx hb dX4_narrow_26 2 (by decide +kernel) ?_
    refine ld_a hx hb hK hP 46 2 rfl rfl (vin (by decide +kernel)) dX4_narrow_27 (ad 49) rfl ?_
    refine lv_iload_n hx hb dX4_narrow_28 rfl (lv_at hl_1 3 rfl) ?_
    refine va_iald hx hb hK hP 49 0 rfl rfl (vin (by decide +kernel)) dX4_narrow_29 ?_
    refine lv_topi (fun z3 e_z3 => ?_)
    have k_z3 : z3.toInt = (ai 49 0).toInt := by rw [e_z3]; rfl
    refine v_isub hx hb dX4_narrow_30 _ rfl ?_
    refine lv_topi (fun z4 e_z4 => ?_)
    refine lv_istore (lv' := [(4, .int z4), (3, .int z1), (0, .ref (ad 29)), (1, .int 1), (2, .int 0)]) hx hb dX4_narrow_31 hl_1 (by decide) rfl (fun ls_2 hl_2 => ?_)
    refine lv_aload_n hx hb dX4_narrow_33 rfl (lv_at hl_2 2 rfl) ?_
    refine gf (k := 5) hx hb hts inX4 hown hK hP k_210 rfl (by decide) rfl 29 rfl (.ref (ad 34)) rfl dX4_narrow_34 ?_
    refine lv_iload_n hx hb dX4_narrow_37 rfl (lv_at hl_2 3 rfl) ?_
    refine ld_a hx hb hK hP 34 2 rfl rfl (vin (by decide +kernel)) dX4_narrow_38 (ad 36) rfl ?_
    refine lv_iload_n hx hb dX4_narrow_39 rfl (lv_at hl_2 4 rfl) ?_
    refine va_iald hx hb hK hP 36 0 rfl rfl (vin (by decide +kernel)) dX4_narrow_40 ?_
    refine lv_topi (fun z5 e_z5 => ?_)
    have k_z5 : z5.toInt = (ai 36 0).toInt := by rw [e_z5]; rfl
    refine lv_aload_n hx hb dX4_narrow_41 rfl (lv_at hl_2 2 rfl) ?_
    refine gf (k := 6) hx hb hts inX4 hown hK hP k_211 rfl (by decide) rfl 29 rfl (.ref (ad 40)) rfl dX4_narrow_42 ?_
    refine lv_iload_n hx hb dX4_narrow_45 rfl (lv_at hl_2 3 rfl) ?_
    refine lv_iconst (v := 1) hx hb dX4_narrow_46 (by decide) ?_
    refine v_iadd hx hb dX4_narrow_47 2 (by decide +kernel) ?_
    refine ld_a hx hb hK hP 40 2 rfl rfl (vin (by decide +kernel)) dX4_narrow_48 (ad 43) rfl ?_
    refine lv_iload_n hx hb dX4_narrow_49 rfl (lv_at hl_2 4 rfl) ?_
    refine va_iald hx hb hK hP 43 0 rfl rfl (vin (by decide +kernel)) dX4_narrow_50 ?_
    refine lv_topi (fun z6 e_z6 => ?_)
    have k_z6 : z6.toInt = (ai 43 0).toInt := by rw [e_z6]; rfl
    refine v_isub hx hb dX4_narrow_51 _ rfl ?_
    refine lv_topi (fun z7 e_z7 => ?_)
    refine lv_istore (lv' := [(5, .int z7), (4, .int z4), (3, .int z1), (0, .ref (ad 29)), (1, .int 1), (2, .int 0)]) hx hb dX4_narrow_52 hl_2 (by decide) rfl (fun ls_3 hl_3 => ?_)
    refine lv_iload_n hx hb dX4_narrow_54 rfl (lv_at hl_3 2 rfl) ?_
    refine lv_if_le (tgt := 105) hx hb dX4_narrow_55 (by decide) (fun c8 => ?_) (fun c8 => ?_)
    · have c8 := j_le (a := z1.toInt) (b := 0) rfl (by decide +kernel) c8
      refine lv_iload_n hx hb dX4_narrow_105 rfl (lv_at hl_3 2 rfl) ?_
      refine lv_if_ge (tgt := 156) hx hb dX4_narrow_106 (by decide) (fun c9 => ?_) (fun c9 => ?_)
      · have c9 := j_le (a := 0) (b := z1.toInt) (by decide +kernel) rfl c9
        refine lv_iload hx hb dX4_narrow_156 (lv_at hl_3 1 rfl) ?_
        refine lv_if_gt (tgt := 166) hx hb dX4_narrow_158 (by decide) (fun c10 => ?_) (fun c10 => ?_)
        · have c10 := j_lt (a := 0) (b := z4.toInt) (by decide +kernel) rfl c10
          exact m082_X4_narrow_b166 C  0 z1 z4 z7 ai _ _ _ (by first | omega | decide | (have ka0 := (by decide +kernel : (0 : Int32).toInt = 0); omega)) (by first | omega | decide | (have ka0 := (by decide +kernel : (0 : Int32).toInt = 0); omega)) (by first | omega | decide | (have ka0 := (by decide +kernel : (0 : Int32).toInt = 0); omega)) (by first | omega | decide | (have ka0 := (by decide +kernel : (0 : Int32).toInt = 0); omega)) (by first | omega | decide | (have ka0 := (by decide +kernel : (0 : Int32).toInt = 0); omega)) (by first | omega | decide | (have ka0 := (by decide +kernel : (0 : Int32).toInt = 0); omega)) (by first | omega | decide | (have ka0 := (by decide +kernel : (0 : Int32).toInt = 0); omega)) (by first | omega | decide | (have ka0 := (by decide +kernel : (0 : Int32).toInt = 0); omega)) (by first | omega | decide | (have ka0 := (by decide +kernel : (0 : Int32).toInt = 0); omega)) (by first | omega | decide | (have ka0 := (by decide +kernel : (0 : Int32).toInt = 0); omega)) (by first | omega | decide | (have ka0 := (by decide +kernel : (0 : Int32).toInt = 0); omega)) (by first | omega | decide | (have ka0 := (by decide +kernel : (0 : Int32).toInt = 0); omega)) (by first | omega | decide | (have ka0 := (by decide +kernel : (0 : Int32).toInt = 0); omega)) (by first | omega | decide | (have ka0 := (by decide +kernel : (0 : Int32).toInt = 0); omega)) hI hF hw_w0 hw_w1 hw_w2 hw_w3 hP hD hS (lv_sub hl_3 [3, 4, 5, 2, 1, 0] rfl)
        · have c10 := j_nlt (a := 0) (b := z4.toInt) (by decide +kernel) rfl c10
          refine lv_iload hx hb dX4_narrow_161 (lv_at hl_3 0 rfl) ?_
          refine lv_if_ge (tgt := 180) hx hb dX4_narrow_163 (by decide) (fun c11 => ?_) (fun c11 => ?_)
          · have c11 := j_le (a := 0) (b := z7.toInt) (by decide +kernel) rfl c11
            exact r2_v hx hb hr hk hS dX4_narrow_180 (fun t ht hW => ⟨ai, ⟨(by first | omega | decide | exact Or.inl (by decide) | exact Or.inr (by decide) | exact Or.inr (by omega)), hI, hF⟩, by rw [ht]; exact hP, va_K.moved hW.alike hK, hD⟩)
          · have c11 := j_nle (a := 0) (b := z7.toInt) (by decide +kernel) rfl c11
            exact m082_X4_narrow_b166 C  0 z1 z4 z7 ai _ _ _ (by first | omega | decide | (have ka0 := (by decide +kernel : (0 : Int32).toInt = 0); omega)) (by first | omega | decide | (have ka0 := (by decide +kernel : (0 : Int32).toInt = 0); omega)) (by first | omega | decide | (have ka0 := (by decide +kernel : (0 : Int32).toInt = 0); omega)) (by first | omega | decide | (have ka0 := (by decide +kernel : (0 : Int32).toInt = 0); omega)) (by first | omega | decide | (have ka0 := (by decide +kernel : (0 : Int32).toInt = 0); omega)) (by first | omega | decide | (have ka0 := (by decide +kernel : (0 : Int32).toInt = 0); omega)) (by first | omega | decide | (have ka0 := (by decide +kernel : (0 : Int32).toInt = 0); omega)) (by first | omega | decide | (have ka0 := (by decide +kernel : (0 : Int32).toInt = 0); omega)) (by first | omega | decide | (have ka0 := (by decide +kernel : (0 : Int32).toInt = 0); omega)) (by first | omega | decide | (have ka0 := (by decide +kernel : (0 : Int32).toInt = 0); omega)) (by first | omega | decide | (have ka0 := (by decide +kernel : (0 : Int32).toInt = 0); omega)) (by first | omega | decide | (have ka0 := (by decide +kernel : (0 : Int32).toInt = 0); omega)) (by first | omega | decide | (have ka0 := (by decide +kernel : (0 : Int32).toInt = 0); omega)) (by first | omega | decide | (have ka0 := (by decide +kernel : (0 : Int32).toInt = 0); omega)) hI hF hw_w0 hw_w1 hw_w2 hw_w3 hP hD hS (lv_sub hl_3 [3, 4, 5, 2, 1, 0] rfl)
      · have c9 := j_nle (a := 0) (b := z1.toInt) (by decide +kernel) rfl c9
        refine lv_aload_n hx hb dX4_narrow_109 rfl (lv_at hl_3 3 rfl) ?_
        refine gf (k := 3) hx hb hts inX4 hown hK hP k_208 rfl (by decide) rfl 29 rfl (.ref (ad 32)) rfl dX4_narrow_110 ?_
        refine lv_iload_n hx hb dX4_narrow_113 rfl (lv_at hl_3 4 rfl) ?_
        refine lv_aload_n hx hb dX4_narrow_114 rfl (lv_at hl_3 3 rfl) ?_
        refine gf (k := 3) hx hb hts inX4 hown hK hP k_208 rfl (by decide) rfl 29 rfl (.ref (ad 32)) rfl dX4_narrow_115 ?_
        refine lv_iload_n hx hb dX4_narrow_118 rfl (lv_at hl_3 4 rfl) ?_
        refine va_iald hx hb hK hP 32 0 rfl rfl (vin (by decide +kernel)) dX4_narrow_119 ?_
        refine lv_topi (fun z12 e_z12 => ?_)
        have k_z12 : z12.toInt = (ai 32 1).toInt := by rw [e_z12]; rfl
        have g_z12 : -10 ≤ z12.toInt ∧ z12.toInt ≤ 2147483647 := by rw [e_z12]; exact IAX_at32 hI _
        refine lv_iload hx hb dX4_narrow_120 (lv_at hl_3 0 rfl) ?_
        refine v_ineg hx hb dX4_narrow_122 _ rfl ?_
        refine lv_topi (fun z13 e_z13 => ?_)
        refine lv_iload_n hx hb dX4_narrow_123 rfl (lv_at hl_3 2 rfl) ?_
        have hM := m074_J9_floorDiv_7cf53 l dC dI cI cJ cII cJJ H.size 0 ad f3_unknowns f3_equations f2_roundSupports f2_stale f7_size f1_size f5_keptSize f5_aheadSize f0_solved f4_blockCount f4_blockLength f4_lastIsFree f4_stale ai al w0 w1 w2 w3 z13 z1 (by omega) (by omega) (by omega) (by omega) (by omega) (by omega) (by omega) (by omega) (by omega) (by omega) (by omega) (by omega) hI hw_w0 hw_w1 hw_w2 hw_w3
        refine k2S_i ⟨hx, hb, hml, hown, hts⟩ hK hP hD hS hA hX cs_RX4_135 hM ⟨by decide +kernel, by decide +kernel⟩ rfl rfl (Or.inl rfl) (rest := [.int z12, .int 1, .ref (ad 32)]) rfl hl_3.1 rfl (Nat.le_of_ble_eq_true rfl) dX4_narrow_124 ⟨Nat.le_of_ble_eq_true rfl, Nat.le_of_ble_eq_true rfl⟩ (fun r14 t H1 locs_4 ht hB hS_4 hFc => ?_)
        obtain ⟨-, hP_5, -, hD_5⟩ := hB
        rw [ht] at hP_5
        have hD_6 := hD_5.weaken (B := A) (fun k q _ h9 => hFc q.1 h9)
        clear ht
        generalize H1 = H_7 at hP_5 hS_4 ⊢
        refine v_ineg hx hb dX4_narrow_127 _ rfl ?_
        refine lv_topi (fun z15 e_z15 => ?_)
        refine va_mmax hx hb (by rw [hml]; exact hl_3.1.symm) hown (hts _ k_667) (hts _ k_445) (hts _ k_13) (hts _ k_446) (by decide) (Nat.le_of_ble_eq_true rfl) (Nat.le_of_ble_eq_true rfl) (Nat.le_of_ble_eq_true rfl) dX4_narrow_128 ?_
        refine lv_topi (fun z16 e_z16 => ?_)
        have g_z16 : (z16.toInt = z12.toInt ∨ z16.toInt = z15.toInt) ∧ z12.toInt ≤ z16.toInt ∧ z15.toInt ≤ z16.toInt := by rw [e_z16]; exact n_max (a := z12.toInt) (b := z15.toInt) rfl rfl
        refine va_iast hx hb hK hP_5 hD_6 hS_4 32 0 rfl rfl (vin (by decide +kernel)) dX4_narrow_131 (fun H_8 locs_8 hP_8 hD_8 hS_8 => ?_)
        obtain ⟨ai17, e_ai17⟩ : ∃ q : Nat → Nat → Int32, q = va_up ai 32 (upd (ai 32) (1 : Int32).toNatClampNeg z16) := ⟨_, rfl⟩
        have hF_9 := FR_st hF e_ai17 (by decide)
        have ra_z16 := s_any z16
        have hI_10 : IAX ai17 := by rw [e_ai17]; exact IAX_st32 hI (a := z16.toInt) rfl (by omega) (by omega)
        have hP_11 : va_P (dC, dI) vwCl (WX cI cJ cII cJJ ad f3_unknowns f3_equations f2_roundSupports f2_stale f7_size f1_size f5_keptSize f5_aheadSize f0_solved f4_blockCount f4_blockLength f4_lastIsFree f4_stale ai17 al w0 w1 w2 w3) H_8 := by rw [e_ai17]; exact hP_8
        have hD_12 : va_D A (WX cI cJ cII cJJ ad f3_unknowns f3_equations f2_roundSupports f2_stale f7_size f1_size f5_keptSize f5_aheadSize f0_solved f4_blockCount f4_blockLength f4_lastIsFree f4_stale ai17 al w0 w1 w2 w3) := by rw [e_ai17]; exact hD_8
        have tk_ai17_33_0 : (ai17 33 0).toInt = (ai 33 0).toInt := by rw [e_ai17]; rfl
        refine lv_aload_n hx hb dX4_narrow_132 rfl (lv_at hl_3 3 rfl) ?_
        refine gf (k := 4) hx hb hts inX4 hown hK hP_11 k_209 rfl (by decide) rfl 29 rfl (.ref (ad 33)) rfl dX4_narrow_133 ?_
        refine lv_iload_n hx hb dX4_narrow_136 rfl (lv_at hl_3 4 rfl) ?_
        refine lv_aload_n hx hb dX4_narrow_137 rfl (lv_at hl_3 3 rfl) ?_
        refine gf (k := 4) hx hb hts inX4 hown hK hP_11 k_209 rfl (by decide) rfl 29 rfl (.ref (ad 33)) rfl dX4_narrow_138 ?_
        refine lv_iload_n hx hb dX4_narrow_141 rfl (lv_at hl_3 4 rfl) ?_
        refine va_iald hx hb hK hP_11 33 0 rfl rfl (vin (by decide +kernel)) dX4_narrow_142 ?_
        refine lv_topi (fun z18 e_z18 => ?_)
        have k_z18 : z18.toInt = (ai17 33 1).toInt := by rw [e_z18]; rfl
        have g_z18 : -2147483648 ≤ z18.toInt ∧ z18.toInt ≤ 2147483646 := by rw [e_z18]; exact IAX_at33 hI_10 _
        refine lv_iload hx hb dX4_narrow_143 (lv_at hl_3 1 rfl) ?_
        refine lv_iload_n hx hb dX4_narrow_145 rfl (lv_at hl_3 2 rfl) ?_
        have hM := m074_J9_floorDiv_7cf53 l dC dI cI cJ cII cJJ H_8.size 0 ad f3_unknowns f3_equations f2_roundSupports f2_stale f7_size f1_size f5_keptSize f5_aheadSize f0_solved f4_blockCount f4_blockLength f4_lastIsFree f4_stale ai17 al w0 w1 w2 w3 z4 z1 (by omega) (by omega) (by omega) (by omega) (by omega) (by omega) (by omega) (by omega) (by omega) (by omega) (by omega) (by omega) hI_10 hw_w0 hw_w1 hw_w2 hw_w3
        refine k2S_i ⟨hx, hb, hml, hown, hts⟩ hK hP_11 hD_12 hS_8 hA hX cs_RX4_135 hM ⟨by decide +kernel, by decide +kernel⟩ rfl rfl (Or.inl rfl) (rest := [.int z18, .int 1, .ref (ad 33)]) rfl hl_3.1 rfl (Nat.le_of_ble_eq_true rfl) dX4_narrow_146 ⟨Nat.le_of_ble_eq_true rfl, Nat.le_of_ble_eq_true rfl⟩ (fun r19 t H1 locs_13 ht hB hS_13 hFc => ?_)
        obtain ⟨-, hP_14, -, hD_14⟩ := hB
        rw [ht] at hP_14
        have hD_15 := hD_14.weaken (B := A) (fun k q _ h9 => hFc q.1 h9)
        clear ht
        generalize H1 = H_16 at hP_14 hS_13 ⊢
        refine va_mmin hx hb (by rw [hml]; exact hl_3.1.symm) hown (hts _ k_672) (hts _ k_464) (hts _ k_13) (hts _ k_465) (by decide) (Nat.le_of_ble_eq_true rfl) (Nat.le_of_ble_eq_true rfl) (Nat.le_of_ble_eq_true rfl) dX4_narrow_149 ?_
        refine lv_topi (fun z20 e_z20 => ?_)
        have g_z20 : (z20.toInt = z18.toInt ∨ z20.toInt = r19.toInt) ∧ z18.toInt ≥ z20.toInt ∧ r19.toInt ≥ z20.toInt := by rw [e_z20]; exact n_min (a := z18.toInt) (b := r19.toInt) rfl rfl
        refine va_iast hx hb hK hP_14 hD_15 hS_13 33 0 rfl rfl (vin (by decide +kernel)) dX4_narrow_152 (fun H_17 locs_17 hP_17 hD_17 hS_17 => ?_)
        obtain ⟨ai21, e_ai21⟩ : ∃ q : Nat → Nat → Int32, q = va_up ai17 33 (upd (ai17 33) (1 : Int32).toNatClampNeg z20) := ⟨_, rfl⟩
        have hF_18 := FR_st hF_9 e_ai21 (by decide)
        have ra_z20 := s_any z20
        have hI_19 : IAX ai21 := by rw [e_ai21]; exact IAX_st33 hI_10 (a := z20.toInt) rfl (by omega) (by omega)
        have hP_20 : va_P (dC, dI) vwCl (WX cI cJ cII cJJ ad f3_unknowns f3_equations f2_roundSupports f2_stale f7_size f1_size f5_keptSize f5_aheadSize f0_solved f4_blockCount f4_blockLength f4_lastIsFree f4_stale ai21 al w0 w1 w2 w3) H_17 := by rw [e_ai21]; exact hP_17
        have hD_21 : va_D A (WX cI cJ cII cJJ ad f3_unknowns f3_equations f2_roundSupports f2_stale f7_size f1_size f5_keptSize f5_aheadSize f0_solved f4_blockCount f4_blockLength f4_lastIsFree f4_stale ai21 al w0 w1 w2 w3) := by rw [e_ai21]; exact hD_17
        have tk_ai21_33_0 : (ai21 33 0).toInt = (ai17 33 0).toInt := by rw [e_ai21]; rfl
        refine lv_goto (tgt := 180) hx hb dX4_narrow_153 (by decide) ?_
        exact r2_v hx hb hr hk hS_17 dX4_narrow_180 (fun t ht hW => ⟨ai21, ⟨(by first | omega | decide | exact Or.inl (by decide) | exact Or.inr (by decide) | exact Or.inr (by omega)), hI_19, hF_18⟩, by rw [ht]; exact hP_20, va_K.moved hW.alike hK, hD_21⟩)
    · have c8 := j_nle (a := z1.toInt) (b := 0) rfl (by decide +kernel) c8
      refine lv_aload_n hx hb dX4_narrow_58 rfl (lv_at hl_3 3 rfl) ?_
      refine gf (k := 3) hx hb hts inX4 hown hK hP k_208 rfl (by decide) rfl 29 rfl (.ref (ad 32)) rfl dX4_narrow_59 ?_
      refine lv_iload_n hx hb dX4_narrow_62 rfl (lv_at hl_3 4 rfl) ?_
      refine lv_aload_n hx hb dX4_narrow_63 rfl (lv_at hl_3 3 rfl) ?_
      refine gf (k := 3) hx hb hts inX4 hown hK hP k_208 rfl (by decide) rfl 29 rfl (.ref (ad 32)) rfl dX4_narrow_64 ?_
      refine lv_iload_n hx hb dX4_narrow_67 rfl (lv_at hl_3 4 rfl) ?_
      refine va_iald hx hb hK hP 32 0 rfl rfl (vin (by decide +kernel)) dX4_narrow_68 ?_
      refine lv_topi (fun z22 e_z22 => ?_)
      have k_z22 : z22.toInt = (ai 32 1).toInt := by rw [e_z22]; rfl
      have g_z22 : -10 ≤ z22.toInt ∧ z22.toInt ≤ 2147483647 := by rw [e_z22]; exact IAX_at32 hI _
      refine lv_iload hx hb dX4_narrow_69 (lv_at hl_3 1 rfl) ?_
      refine v_ineg hx hb dX4_narrow_71 _ rfl ?_
      refine lv_topi (fun z23 e_z23 => ?_)
      refine lv_iload_n hx hb dX4_narrow_72 rfl (lv_at hl_3 2 rfl) ?_
      have hM := m074_J9_floorDiv_7cf53 l dC dI cI cJ cII cJJ H.size 0 ad f3_unknowns f3_equations f2_roundSupports f2_stale f7_size f1_size f5_keptSize f5_aheadSize f0_solved f4_blockCount f4_blockLength f4_lastIsFree f4_stale ai al w0 w1 w2 w3 z23 z1 (by omega) (by omega) (by omega) (by omega) (by omega) (by omega) (by omega) (by omega) (by omega) (by omega) (by omega) (by omega) hI hw_w0 hw_w1 hw_w2 hw_w3
      refine k2S_i ⟨hx, hb, hml, hown, hts⟩ hK hP hD hS hA hX cs_RX4_135 hM ⟨by decide +kernel, by decide +kernel⟩ rfl rfl (Or.inl rfl) (rest := [.int z22, .int 1, .ref (ad 32)]) rfl hl_3.1 rfl (Nat.le_of_ble_eq_true rfl) dX4_narrow_73 ⟨Nat.le_of_ble_eq_true rfl, Nat.le_of_ble_eq_true rfl⟩ (fun r24 t H1 locs_22 ht hB hS_22 hFc => ?_)
      obtain ⟨-, hP_23, -, hD_23⟩ := hB
      rw [ht] at hP_23
      have hD_24 := hD_23.weaken (B := A) (fun k q _ h9 => hFc q.1 h9)
      clear ht
      generalize H1 = H_25 at hP_23 hS_22 ⊢
      refine v_ineg hx hb dX4_narrow_76 _ rfl ?_
      refine lv_topi (fun z25 e_z25 => ?_)
      refine va_mmax hx hb (by rw [hml]; exact hl_3.1.symm) hown (hts _ k_667) (hts _ k_445) (hts _ k_13) (hts _ k_446) (by decide) (Nat.le_of_ble_eq_true rfl) (Nat.le_of_ble_eq_true rfl) (Nat.le_of_ble_eq_true rfl) dX4_narrow_77 ?_
      refine lv_topi (fun z26 e_z26 => ?_)
      have g_z26 : (z26.toInt = z22.toInt ∨ z26.toInt = z25.toInt) ∧ z22.toInt ≤ z26.toInt ∧ z25.toInt ≤ z26.toInt := by rw [e_z26]; exact n_max (a := z22.toInt) (b := z25.toInt) rfl rfl
      refine va_iast hx hb hK hP_23 hD_24 hS_22 32 0 rfl rfl (vin (by decide +kernel)) dX4_narrow_80 (fun H_26 locs_26 hP_26 hD_26 hS_26 => ?_)
      obtain ⟨ai27, e_ai27⟩ : ∃ q : Nat → Nat → Int32, q = va_up ai 32 (upd (ai 32) (1 : Int32).toNatClampNeg z26) := ⟨_, rfl⟩
      have hF_27 := FR_st hF e_ai27 (by decide)
      have ra_z26 := s_any z26
      have hI_28 : IAX ai27 := by rw [e_ai27]; exact IAX_st32 hI (a := z26.toInt) rfl (by omega) (by omega)
      have hP_29 : va_P (dC, dI) vwCl (WX cI cJ cII cJJ ad f3_unknowns f3_equations f2_roundSupports f2_stale f7_size f1_size f5_keptSize f5_aheadSize f0_solved f4_blockCount f4_blockLength f4_lastIsFree f4_stale ai27 al w0 w1 w2 w3) H_26 := by rw [e_ai27]; exact hP_26
      have hD_30 : va_D A (WX cI cJ cII cJJ ad f3_unknowns f3_equations f2_roundSupports f2_stale f7_size f1_size f5_keptSize f5_aheadSize f0_solved f4_blockCount f4_blockLength f4_lastIsFree f4_stale ai27 al w0 w1 w2 w3) := by rw [e_ai27]; exact hD_26
      have tk_ai27_33_0 : (ai27 33 0).toInt = (ai 33 0).toInt := by rw [e_ai27]; rfl
      refine lv_aload_n hx hb dX4_narrow_81 rfl (lv_at hl_3 3 rfl) ?_
      refine gf (k := 4) hx hb hts inX4 hown hK hP_29 k_209 rfl (by decide) rfl 29 rfl (.ref (ad 33)) rfl dX4_narrow_82 ?_
      refine lv_iload_n hx hb dX4_narrow_85 rfl (lv_at hl_3 4 rfl) ?_
      refine lv_aload_n hx hb dX4_narrow_86 rfl (lv_at hl_3 3 rfl) ?_
      refine gf (k := 4) hx hb hts inX4 hown hK hP_29 k_209 rfl (by decide) rfl 29 rfl (.ref (ad 33)) rfl dX4_narrow_87 ?_
      refine lv_iload_n hx hb dX4_narrow_90 rfl (lv_at hl_3 4 rfl) ?_
      refine va_iald hx hb hK hP_29 33 0 rfl rfl (vin (by decide +kernel)) dX4_narrow_91 ?_
      refine lv_topi (fun z28 e_z28 => ?_)
      have k_z28 : z28.toInt = (ai27 33 1).toInt := by rw [e_z28]; rfl
      have g_z28 : -2147483648 ≤ z28.toInt ∧ z28.toInt ≤ 2147483646 := by rw [e_z28]; exact IAX_at33 hI_28 _
      refine lv_iload hx hb dX4_narrow_92 (lv_at hl_3 0 rfl) ?_
      refine lv_iload_n hx hb dX4_narrow_94 rfl (lv_at hl_3 2 rfl) ?_
      have hM := m074_J9_floorDiv_7cf53 l dC dI cI cJ cII cJJ H_26.size 0 ad f3_unknowns f3_equations f2_roundSupports f2_stale f7_size f1_size f5_keptSize f5_aheadSize f0_solved f4_blockCount f4_blockLength f4_lastIsFree f4_stale ai27 al w0 w1 w2 w3 z7 z1 (by omega) (by omega) (by omega) (by omega) (by omega) (by omega) (by omega) (by omega) (by omega) (by omega) (by omega) (by omega) hI_28 hw_w0 hw_w1 hw_w2 hw_w3
      refine k2S_i ⟨hx, hb, hml, hown, hts⟩ hK hP_29 hD_30 hS_26 hA hX cs_RX4_135 hM ⟨by decide +kernel, by decide +kernel⟩ rfl rfl (Or.inl rfl) (rest := [.int z28, .int 1, .ref (ad 33)]) rfl hl_3.1 rfl (Nat.le_of_ble_eq_true rfl) dX4_narrow_95 ⟨Nat.le_of_ble_eq_true rfl, Nat.le_of_ble_eq_true rfl⟩ (fun r29 t H1 locs_31 ht hB hS_31 hFc => ?_)
      obtain ⟨-, hP_32, -, hD_32⟩ := hB
      rw [ht] at hP_32
      have hD_33 := hD_32.weaken (B := A) (fun k q _ h9 => hFc q.1 h9)
      clear ht
      generalize H1 = H_34 at hP_32 hS_31 ⊢
      refine va_mmin hx hb (by rw [hml]; exact hl_3.1.symm) hown (hts _ k_672) (hts _ k_464) (hts _ k_13) (hts _ k_465) (by decide) (Nat.le_of_ble_eq_true rfl) (Nat.le_of_ble_eq_true rfl) (Nat.le_of_ble_eq_true rfl) dX4_narrow_98 ?_
      refine lv_topi (fun z30 e_z30 => ?_)
      have g_z30 : (z30.toInt = z28.toInt ∨ z30.toInt = r29.toInt) ∧ z28.toInt ≥ z30.toInt ∧ r29.toInt ≥ z30.toInt := by rw [e_z30]; exact n_min (a := z28.toInt) (b := r29.toInt) rfl rfl
      refine va_iast hx hb hK hP_32 hD_33 hS_31 33 0 rfl rfl (vin (by decide +kernel)) dX4_narrow_101 (fun H_35 locs_35 hP_35 hD_35 hS_35 => ?_)
      obtain ⟨ai31, e_ai31⟩ : ∃ q : Nat → Nat → Int32, q = va_up ai27 33 (upd (ai27 33) (1 : Int32).toNatClampNeg z30) := ⟨_, rfl⟩
      have hF_36 := FR_st hF_27 e_ai31 (by decide)
      have ra_z30 := s_any z30
      have hI_37 : IAX ai31 := by rw [e_ai31]; exact IAX_st33 hI_28 (a := z30.toInt) rfl (by omega) (by omega)
      have hP_38 : va_P (dC, dI) vwCl (WX cI cJ cII cJJ ad f3_unknowns f3_equations f2_roundSupports f2_stale f7_size f1_size f5_keptSize f5_aheadSize f0_solved f4_blockCount f4_blockLength f4_lastIsFree f4_stale ai31 al w0 w1 w2 w3) H_35 := by rw [e_ai31]; exact hP_35
      have hD_39 : va_D A (WX cI cJ cII cJJ ad f3_unknowns f3_equations f2_roundSupports f2_stale f7_size f1_size f5_keptSize f5_aheadSize f0_solved f4_blockCount f4_blockLength f4_lastIsFree f4_stale ai31 al w0 w1 w2 w3) := by rw [e_ai31]; exact hD_35
      have tk_ai31_33_0 : (ai31 33 0).toInt = (ai27 33 0).toInt := by rw [e_ai31]; rfl
      refine lv_goto (tgt := 180) hx hb dX4_narrow_102 (by decide) ?_
      exact r2_v hx hb hr hk hS_35 dX4_narrow_180 (fun t ht hW => ⟨ai31, ⟨(by first | omega | decide | exact Or.inl (by decide) | exact Or.inr (by decide) | exact Or.inr (by omega)), hI_37, hF_36⟩, by rw [ht]; exact hP_38, va_K.moved hW.alike hK, hD_39⟩)
  · have k9 : (1 : Int32).toInt = 1 := by decide +kernel
    refine ld_a hx hb hK hP 1 2 rfl rfl (vin (by decide +kernel)) dX4_narrow_8 (ad 3) rfl ?_
    refine lv_iload_n hx hb dX4_narrow_9 rfl (lv_at hl 1 rfl) ?_
    refine va_iald hx hb hK hP 3 0 rfl rfl (vin (by decide +kernel)) dX4_narrow_10 ?_
    refine lv_topi (fun z32 e_z32 => ?_)
    have k_z32 : z32.toInt = (ai 3 1).toInt := by rw [e_z32]; rfl
    have g_z32 : -6 ≤ z32.toInt ∧ z32.toInt ≤ 6 := by rw [e_z32]; exact IAX_at3 hI _
    refine lv_istore_n (lv' := [(3, .int z32), (0, .ref (ad 29)), (1, .int 1), (2, .int 1)]) hx hb dX4_narrow_11 rfl hl (by decide) rfl (fun ls_40 hl_40 => ?_)
    refine lv_aload_n hx hb dX4_narrow_12 rfl (lv_at hl_40 1 rfl) ?_
    refine gf (k := 5) hx hb hts inX4 hown hK hP k_210 rfl (by decide) rfl 29 rfl (.ref (ad 34)) rfl dX4_narrow_13 ?_
    refine lv_iload_n hx hb dX4_narrow_16 rfl (lv_at hl_40 2 rfl) ?_
    refine ld_a hx hb hK hP 34 2 rfl rfl (vin (by decide +kernel)) dX4_narrow_17 (ad 36) rfl ?_
    refine lv_iload_n hx hb dX4_narrow_18 rfl (lv_at hl_40 3 rfl) ?_
    refine va_iald hx hb hK hP 36 0 rfl rfl (vin (by decide +kernel)) dX4_narrow_19 ?_
    refine lv_topi (fun z33 e_z33 => ?_)
    have k_z33 : z33.toInt = (ai 36 1).toInt := by rw [e_z33]; rfl
    refine lv_aload_n hx hb dX4_narrow_20 rfl (lv_at hl_40 1 rfl) ?_
    refine gf (k := 7) hx hb hts inX4 hown hK hP k_212 rfl (by decide) rfl 29 rfl (.ref (ad 46)) rfl dX4_narrow_21 ?_
    refine lv_iload_n hx hb dX4_narrow_24 rfl (lv_at hl_40 2 rfl) ?_
    refine lv_iconst (v := 1) hx hb dX4_narrow_25 (by decide) ?_
    refine v_iadd hx hb dX4_narrow_26 2 (by decide +kernel) ?_
    refine ld_a hx hb hK hP 46 2 rfl rfl (vin (by decide +kernel)) dX4_narrow_27 (ad 49) rfl ?_
    refine lv_iload_n hx hb dX4_narrow_28 rfl (lv_at hl_40 3 rfl) ?_
    refine va_iald hx hb hK hP 49 0 rfl rfl (vin (by decide +kernel)) dX4_narrow_29 ?_
    refine lv_topi (fun z34 e_z34 => ?_)
    have k_z34 : z34.toInt = (ai 49 1).toInt := by rw [e_z34]; rfl
    refine v_isub hx hb dX4_narrow_30 _ rfl ?_
    refine lv_topi (fun z35 e_z35 => ?_)
    refine lv_istore (lv' := [(4, .int z35), (3, .int z32), (0, .ref (ad 29)), (1, .int 1), (2, .int 1)]) hx hb dX4_narrow_31 hl_40 (by decide) rfl (fun ls_41 hl_41 => ?_)
    refine lv_aload_n hx hb dX4_narrow_33 rfl (lv_at hl_41 2 rfl) ?_
    refine gf (k := 5) hx hb hts inX4 hown hK hP k_210 rfl (by decide) rfl 29 rfl (.ref (ad 34)) rfl dX4_narrow_34 ?_
    refine lv_iload_n hx hb dX4_narrow_37 rfl (lv_at hl_41 3 rfl) ?_
    refine ld_a hx hb hK hP 34 2 rfl rfl (vin (by decide +kernel)) dX4_narrow_38 (ad 36) rfl ?_
    refine lv_iload_n hx hb dX4_narrow_39 rfl (lv_at hl_41 4 rfl) ?_
    refine va_iald hx hb hK hP 36 0 rfl rfl (vin (by decide +kernel)) dX4_narrow_40 ?_
    refine lv_topi (fun z36 e_z36 => ?_)
    have k_z36 : z36.toInt = (ai 36 1).toInt := by rw [e_z36]; rfl
    refine lv_aload_n hx hb dX4_narrow_41 rfl (lv_at hl_41 2 rfl) ?_
    refine gf (k := 6) hx hb hts inX4 hown hK hP k_211 rfl (by decide) rfl 29 rfl (.ref (ad 40)) rfl dX4_narrow_42 ?_
    refine lv_iload_n hx hb dX4_narrow_45 rfl (lv_at hl_41 3 rfl) ?_
    refine lv_iconst (v := 1) hx hb dX4_narrow_46 (by decide) ?_
    refine v_iadd hx hb dX4_narrow_47 2 (by decide +kernel) ?_
    refine ld_a hx hb hK hP 40 2 rfl rfl (vin (by decide +kernel)) dX4_narrow_48 (ad 43) rfl ?_
    refine lv_iload_n hx hb dX4_narrow_49 rfl (lv_at hl_41 4 rfl) ?_
    refine va_iald hx hb hK hP 43 0 rfl rfl (vin (by decide +kernel)) dX4_narrow_50 ?_
    refine lv_topi (fun z37 e_z37 => ?_)
    have k_z37 : z37.toInt = (ai 43 1).toInt := by rw [e_z37]; rfl
    refine v_isub hx hb dX4_narrow_51 _ rfl ?_
    refine lv_topi (fun z38 e_z38 => ?_)
    refine lv_istore (lv' := [(5, .int z38), (4, .int z35), (3, .int z32), (0, .ref (ad 29)), (1, .int 1), (2, .int 1)]) hx hb dX4_narrow_52 hl_41 (by decide) rfl (fun ls_42 hl_42 => ?_)
    refine lv_iload_n hx hb dX4_narrow_54 rfl (lv_at hl_42 2 rfl) ?_
    refine lv_if_le (tgt := 105) hx hb dX4_narrow_55 (by decide) (fun c39 => ?_) (fun c39 => ?_)
    · have c39 := j_le (a := z32.toInt) (b := 0) rfl (by decide +kernel) c39
      refine lv_iload_n hx hb dX4_narrow_105 rfl (lv_at hl_42 2 rfl) ?_
      refine lv_if_ge (tgt := 156) hx hb dX4_narrow_106 (by decide) (fun c40 => ?_) (fun c40 => ?_)
      · have c40 := j_le (a := 0) (b := z32.toInt) (by decide +kernel) rfl c40
        refine lv_iload hx hb dX4_narrow_156 (lv_at hl_42 1 rfl) ?_
        refine lv_if_gt (tgt := 166) hx hb dX4_narrow_158 (by decide) (fun c41 => ?_) (fun c41 => ?_)
        · have c41 := j_lt (a := 0) (b := z35.toInt) (by decide +kernel) rfl c41
          exact m082_X4_narrow_b166 C  1 z32 z35 z38 ai _ _ _ (by first | omega | decide | (have ka0 := (by decide +kernel : (1 : Int32).toInt = 1); omega)) (by first | omega | decide | (have ka0 := (by decide +kernel : (1 : Int32).toInt = 1); omega)) (by first | omega | decide | (have ka0 := (by decide +kernel : (1 : Int32).toInt = 1); omega)) (by first | omega | decide | (have ka0 := (by decide +kernel : (1 : Int32).toInt = 1); omega)) (by first | omega | decide | (have ka0 := (by decide +kernel : (1 : Int32).toInt = 1); omega)) (by first | omega | decide | (have ka0 := (by decide +kernel : (1 : Int32).toInt = 1); omega)) (by first | omega | decide | (have ka0 := (by decide +kernel : (1 : Int32).toInt = 1); omega)) (by first | omega | decide | (have ka0 := (by decide +kernel : (1 : Int32).toInt = 1); omega)) (by first | omega | decide | (have ka0 := (by decide +kernel : (1 : Int32).toInt = 1); omega)) (by first | omega | decide | (have ka0 := (by decide +kernel : (1 : Int32).toInt = 1); omega)) (by first | omega | decide | (have ka0 := (by decide +kernel : (1 : Int32).toInt = 1); omega)) (by first | omega | decide | (have ka0 := (by decide +kernel : (1 : Int32).toInt = 1); omega)) (by first | omega | decide | (have ka0 := (by decide +kernel : (1 : Int32).toInt = 1); omega)) (by first | omega | decide | (have ka0 := (by decide +kernel : (1 : Int32).toInt = 1); omega)) hI hF hw_w0 hw_w1 hw_w2 hw_w3 hP hD hS (lv_sub hl_42 [3, 4, 5, 2, 1, 0] rfl)
        · have c41 := j_nlt (a := 0) (b := z35.toInt) (by decide +kernel) rfl c41
          refine lv_iload hx hb dX4_narrow_161 (lv_at hl_42 0 rfl) ?_
          refine lv_if_ge (tgt := 180) hx hb dX4_narrow_163 (by decide) (fun c42 => ?_) (fun c42 => ?_)
          · have c42 := j_le (a := 0) (b := z38.toInt) (by decide +kernel) rfl c42
            exact r2_v hx hb hr hk hS dX4_narrow_180 (fun t ht hW => ⟨ai, ⟨(by first | omega | decide | exact Or.inl (by decide) | exact Or.inr (by decide) | exact Or.inr (by omega)), hI, hF⟩, by rw [ht]; exact hP, va_K.moved hW.alike hK, hD⟩)
          · have c42 := j_nle (a := 0) (b := z38.toInt) (by decide +kernel) rfl c42
            exact m082_X4_narrow_b166 C  1 z32 z35 z38 ai _ _ _ (by first | omega | decide | (have ka0 := (by decide +kernel : (1 : Int32).toInt = 1); omega)) (by first | omega | decide | (have ka0 := (by decide +kernel : (1 : Int32).toInt = 1); omega)) (by first | omega | decide | (have ka0 := (by decide +kernel : (1 : Int32).toInt = 1); omega)) (by first | omega | decide | (have ka0 := (by decide +kernel : (1 : Int32).toInt = 1); omega)) (by first | omega | decide | (have ka0 := (by decide +kernel : (1 : Int32).toInt = 1); omega)) (by first | omega | decide | (have ka0 := (by decide +kernel : (1 : Int32).toInt = 1); omega)) (by first | omega | decide | (have ka0 := (by decide +kernel : (1 : Int32).toInt = 1); omega)) (by first | omega | decide | (have ka0 := (by decide +kernel : (1 : Int32).toInt = 1); omega)) (by first | omega | decide | (have ka0 := (by decide +kernel : (1 : Int32).toInt = 1); omega)) (by first | omega | decide | (have ka0 := (by decide +kernel : (1 : Int32).toInt = 1); omega)) (by first | omega | decide | (have ka0 := (by decide +kernel : (1 : Int32).toInt = 1); omega)) (by first | omega | decide | (have ka0 := (by decide +kernel : (1 : Int32).toInt = 1); omega)) (by first | omega | decide | (have ka0 := (by decide +kernel : (1 : Int32).toInt = 1); omega)) (by first | omega | decide | (have ka0 := (by decide +kernel : (1 : Int32).toInt = 1); omega)) hI hF hw_w0 hw_w1 hw_w2 hw_w3 hP hD hS (lv_sub hl_42 [3, 4, 5, 2, 1, 0] rfl)
      · have c40 := j_nle (a := 0) (b := z32.toInt) (by decide +kernel) rfl c40
        refine lv_aload_n hx hb dX4_narrow_109 rfl (lv_at hl_42 3 rfl) ?_
        refine gf (k := 3) hx hb hts inX4 hown hK hP k_208 rfl (by decide) rfl 29 rfl (.ref (ad 32)) rfl dX4_narrow_110 ?_
        refine lv_iload_n hx hb dX4_narrow_113 rfl (lv_at hl_42 4 rfl) ?_
        refine lv_aload_n hx hb dX4_narrow_114 rfl (lv_at hl_42 3 rfl) ?_
        refine gf (k := 3) hx hb hts inX4 hown hK hP k_208 rfl (by decide) rfl 29 rfl (.ref (ad 32)) rfl dX4_narrow_115 ?_
        refine lv_iload_n hx hb dX4_narrow_118 rfl (lv_at hl_42 4 rfl) ?_
        refine va_iald hx hb hK hP 32 0 rfl rfl (vin (by decide +kernel)) dX4_narrow_119 ?_
        refine lv_topi (fun z43 e_z43 => ?_)
        have k_z43 : z43.toInt = (ai 32 1).toInt := by rw [e_z43]; rfl
        have g_z43 : -10 ≤ z43.toInt ∧ z43.toInt ≤ 2147483647 := by rw [e_z43]; exact IAX_at32 hI _
        refine lv_iload hx hb dX4_narrow_120 (lv_at hl_42 0 rfl) ?_
        refine v_ineg hx hb dX4_narrow_122 _ rfl ?_
        refine lv_topi (fun z44 e_z44 => ?_)
        refine lv_iload_n hx hb dX4_narrow_123 rfl (lv_at hl_42 2 rfl) ?_
        have hM := m074_J9_floorDiv_7cf53 l dC dI cI cJ cII cJJ H.size 0 ad f3_unknowns f3_equations f2_roundSupports f2_stale f7_size f1_size f5_keptSize f5_aheadSize f0_solved f4_blockCount f4_blockLength f4_lastIsFree f4_stale ai al w0 w1 w2 w3 z44 z32 (by omega) (by omega) (by omega) (by omega) (by omega) (by omega) (by omega) (by omega) (by omega) (by omega) (by omega) (by omega) hI hw_w0 hw_w1 hw_w2 hw_w3
        refine k2S_i ⟨hx, hb, hml, hown, hts⟩ hK hP hD hS hA hX cs_RX4_135 hM ⟨by decide +kernel, by decide +kernel⟩ rfl rfl (Or.inl rfl) (rest := [.int z43, .int 1, .ref (ad 32)]) rfl hl_42.1 rfl (Nat.le_of_ble_eq_true rfl) dX4_narrow_124 ⟨Nat.le_of_ble_eq_true rfl, Nat.le_of_ble_eq_true rfl⟩ (fun r45 t H1 locs_43 ht hB hS_43 hFc => ?_)
        obtain ⟨-, hP_44, -, hD_44⟩ := hB
        rw [ht] at hP_44
        have hD_45 := hD_44.weaken (B := A) (fun k q _ h9 => hFc q.1 h9)
        clear ht
        generalize H1 = H_46 at hP_44 hS_43 ⊢
        refine v_ineg hx hb dX4_narrow_127 _ rfl ?_
        refine lv_topi (fun z46 e_z46 => ?_)
        refine va_mmax hx hb (by rw [hml]; exact hl_42.1.symm) hown (hts _ k_667) (hts _ k_445) (hts _ k_13) (hts _ k_446) (by decide) (Nat.le_of_ble_eq_true rfl) (Nat.le_of_ble_eq_true rfl) (Nat.le_of_ble_eq_true rfl) dX4_narrow_128 ?_
        refine lv_topi (fun z47 e_z47 => ?_)
        have g_z47 : (z47.toInt = z43.toInt ∨ z47.toInt = z46.toInt) ∧ z43.toInt ≤ z47.toInt ∧ z46.toInt ≤ z47.toInt := by rw [e_z47]; exact n_max (a := z43.toInt) (b := z46.toInt) rfl rfl
        refine va_iast hx hb hK hP_44 hD_45 hS_43 32 0 rfl rfl (vin (by decide +kernel)) dX4_narrow_131 (fun H_47 locs_47 hP_47 hD_47 hS_47 => ?_)
        obtain ⟨ai48, e_ai48⟩ : ∃ q : Nat → Nat → Int32, q = va_up ai 32 (upd (ai 32) (1 : Int32).toNatClampNeg z47) := ⟨_, rfl⟩
        have hF_48 := FR_st hF e_ai48 (by decide)
        have ra_z47 := s_any z47
        have hI_49 : IAX ai48 := by rw [e_ai48]; exact IAX_st32 hI (a := z47.toInt) rfl (by omega) (by omega)
        have hP_50 : va_P (dC, dI) vwCl (WX cI cJ cII cJJ ad f3_unknowns f3_equations f2_roundSupports f2_stale f7_size f1_size f5_keptSize f5_aheadSize f0_solved f4_blockCount f4_blockLength f4_lastIsFree f4_stale ai48 al w0 w1 w2 w3) H_47 := by rw [e_ai48]; exact hP_47
        have hD_51 : va_D A (WX cI cJ cII cJJ ad f3_unknowns f3_equations f2_roundSupports f2_stale f7_size f1_size f5_keptSize f5_aheadSize f0_solved f4_blockCount f4_blockLength f4_lastIsFree f4_stale ai48 al w0 w1 w2 w3) := by rw [e_ai48]; exact hD_47
        have tk_ai48_33_0 : (ai48 33 0).toInt = (ai 33 0).toInt := by rw [e_ai48]; rfl
        refine lv_aload_n hx hb dX4_narrow_132 rfl (lv_at hl_42 3 rfl) ?_
        refine gf (k := 4) hx hb hts inX4 hown hK hP_50 k_209 rfl (by decide) rfl 29 rfl (.ref (ad 33)) rfl dX4_narrow_133 ?_
        refine lv_iload_n hx hb dX4_narrow_136 rfl (lv_at hl_42 4 rfl) ?_
        refine lv_aload_n hx hb dX4_narrow_137 rfl (lv_at hl_42 3 rfl) ?_
        refine gf (k := 4) hx hb hts inX4 hown hK hP_50 k_209 rfl (by decide) rfl 29 rfl (.ref (ad 33)) rfl dX4_narrow_138 ?_
        refine lv_iload_n hx hb dX4_narrow_141 rfl (lv_at hl_42 4 rfl) ?_
        refine va_iald hx hb hK hP_50 33 0 rfl rfl (vin (by decide +kernel)) dX4_narrow_142 ?_
        refine lv_topi (fun z49 e_z49 => ?_)
        have k_z49 : z49.toInt = (ai48 33 1).toInt := by rw [e_z49]; rfl
        have g_z49 : -2147483648 ≤ z49.toInt ∧ z49.toInt ≤ 2147483646 := by rw [e_z49]; exact IAX_at33 hI_49 _
        refine lv_iload hx hb dX4_narrow_143 (lv_at hl_42 1 rfl) ?_
        refine lv_iload_n hx hb dX4_narrow_145 rfl (lv_at hl_42 2 rfl) ?_
        have hM := m074_J9_floorDiv_7cf53 l dC dI cI cJ cII cJJ H_47.size 0 ad f3_unknowns f3_equations f2_roundSupports f2_stale f7_size f1_size f5_keptSize f5_aheadSize f0_solved f4_blockCount f4_blockLength f4_lastIsFree f4_stale ai48 al w0 w1 w2 w3 z35 z32 (by omega) (by omega) (by omega) (by omega) (by omega) (by omega) (by omega) (by omega) (by omega) (by omega) (by omega) (by omega) hI_49 hw_w0 hw_w1 hw_w2 hw_w3
        refine k2S_i ⟨hx, hb, hml, hown, hts⟩ hK hP_50 hD_51 hS_47 hA hX cs_RX4_135 hM ⟨by decide +kernel, by decide +kernel⟩ rfl rfl (Or.inl rfl) (rest := [.int z49, .int 1, .ref (ad 33)]) rfl hl_42.1 rfl (Nat.le_of_ble_eq_true rfl) dX4_narrow_146 ⟨Nat.le_of_ble_eq_true rfl, Nat.le_of_ble_eq_true rfl⟩ (fun r50 t H1 locs_52 ht hB hS_52 hFc => ?_)
        obtain ⟨-, hP_53, -, hD_53⟩ := hB
        rw [ht] at hP_53
        have hD_54 := hD_53.weaken (B := A) (fun k q _ h9 => hFc q.1 h9)
        clear ht
        generalize H1 = H_55 at hP_53 hS_52 ⊢
        refine va_mmin hx hb (by rw [hml]; exact hl_42.1.symm) hown (hts _ k_672) (hts _ k_464) (hts _ k_13) (hts _ k_465) (by decide) (Nat.le_of_ble_eq_true rfl) (Nat.le_of_ble_eq_true rfl) (Nat.le_of_ble_eq_true rfl) dX4_narrow_149 ?_
        refine lv_topi (fun z51 e_z51 => ?_)
        have g_z51 : (z51.toInt = z49.toInt ∨ z51.toInt = r50.toInt) ∧ z49.toInt ≥ z51.toInt ∧ r50.toInt ≥ z51.toInt := by rw [e_z51]; exact n_min (a := z49.toInt) (b := r50.toInt) rfl rfl
        refine va_iast hx hb hK hP_53 hD_54 hS_52 33 0 rfl rfl (vin (by decide +kernel)) dX4_narrow_152 (fun H_56 locs_56 hP_56 hD_56 hS_56 => ?_)
        obtain ⟨ai52, e_ai52⟩ : ∃ q : Nat → Nat → Int32, q = va_up ai48 33 (upd (ai48 33) (1 : Int32).toNatClampNeg z51) := ⟨_, rfl⟩
        have hF_57 := FR_st hF_48 e_ai52 (by decide)
        have ra_z51 := s_any z51
        have hI_58 : IAX ai52 := by rw [e_ai52]; exact IAX_st33 hI_49 (a := z51.toInt) rfl (by omega) (by omega)
        have hP_59 : va_P (dC, dI) vwCl (WX cI cJ cII cJJ ad f3_unknowns f3_equations f2_roundSupports f2_stale f7_size f1_size f5_keptSize f5_aheadSize f0_solved f4_blockCount f4_blockLength f4_lastIsFree f4_stale ai52 al w0 w1 w2 w3) H_56 := by rw [e_ai52]; exact hP_56
        have hD_60 : va_D A (WX cI cJ cII cJJ ad f3_unknowns f3_equations f2_roundSupports f2_stale f7_size f1_size f5_keptSize f5_aheadSize f0_solved f4_blockCount f4_blockLength f4_lastIsFree f4_stale ai52 al w0 w1 w2 w3) := by rw [e_ai52]; exact hD_56
        have tk_ai52_33_0 : (ai52 33 0).toInt = (ai48 33 0).toInt := by rw [e_ai52]; rfl
        refine lv_goto (tgt := 180) hx hb dX4_narrow_153 (by decide) ?_
        exact r2_v hx hb hr hk hS_56 dX4_narrow_180 (fun t ht hW => ⟨ai52, ⟨(by first | omega | decide | exact Or.inl (by decide) | exact Or.inr (by decide) | exact Or.inr (by omega)), hI_58, hF_57⟩, by rw [ht]; exact hP_59, va_K.moved hW.alike hK, hD_60⟩)
    · have c39 := j_nle (a := z32.toInt) (b := 0) rfl (by decide +kernel) c39
      refine lv_aload_n hx hb dX4_narrow_58 rfl (lv_at hl_42 3 rfl) ?_
      refine gf (k := 3) hx hb hts inX4 hown hK hP k_208 rfl (by decide) rfl 29 rfl (.ref (ad 32)) rfl dX4_narrow_59 ?_
      refine lv_iload_n hx hb dX4_narrow_62 rfl (lv_at hl_42 4 rfl) ?_
      refine lv_aload_n hx hb dX4_narrow_63 rfl (lv_at hl_42 3 rfl) ?_
      refine gf (k := 3) hx hb hts inX4 hown hK hP k_208 rfl (by decide) rfl 29 rfl (.ref (ad 32)) rfl dX4_narrow_64 ?_
      refine lv_iload_n hx hb dX4_narrow_67 rfl (lv_at hl_42 4 rfl) ?_
      refine va_iald hx hb hK hP 32 0 rfl rfl (vin (by decide +kernel)) dX4_narrow_68 ?_
      refine lv_topi (fun z53 e_z53 => ?_)
      have k_z53 : z53.toInt = (ai 32 1).toInt := by rw [e_z53]; rfl
      have g_z53 : -10 ≤ z53.toInt ∧ z53.toInt ≤ 2147483647 := by rw [e_z53]; exact IAX_at32 hI _
      refine lv_iload hx hb dX4_narrow_69 (lv_at hl_42 1 rfl) ?_
      refine v_ineg hx hb dX4_narrow_71 _ rfl ?_
      refine lv_topi (fun z54 e_z54 => ?_)
      refine lv_iload_n hx hb dX4_narrow_72 rfl (lv_at hl_42 2 rfl) ?_
      have hM := m074_J9_floorDiv_7cf53 l dC dI cI cJ cII cJJ H.size 0 ad f3_unknowns f3_equations f2_roundSupports f2_stale f7_size f1_size f5_keptSize f5_aheadSize f0_solved f4_blockCount f4_blockLength f4_lastIsFree f4_stale ai al w0 w1 w2 w3 z54 z32 (by omega) (by omega) (by omega) (by omega) (by omega) (by omega) (by omega) (by omega) (by omega) (by omega) (by omega) (by omega) hI hw_w0 hw_w1 hw_w2 hw_w3
      refine k2S_i ⟨hx, hb, hml, hown, hts⟩ hK hP hD hS hA hX cs_RX4_135 hM ⟨by decide +kernel, by decide +kernel⟩ rfl rfl (Or.inl rfl) (rest := [.int z53, .int 1, .ref (ad 32)]) rfl hl_42.1 rfl (Nat.le_of_ble_eq_true rfl) dX4_narrow_73 ⟨Nat.le_of_ble_eq_true rfl, Nat.le_of_ble_eq_true rfl⟩ (fun r55 t H1 locs_61 ht hB hS_61 hFc => ?_)
      obtain ⟨-, hP_62, -, hD_62⟩ := hB
      rw [ht] at hP_62
      have hD_63 := hD_62.weaken (B := A) (fun k q _ h9 => hFc q.1 h9)
      clear ht
      generalize H1 = H_64 at hP_62 hS_61 ⊢
      refine v_ineg hx hb dX4_narrow_76 _ rfl ?_
      refine lv_topi (fun z56 e_z56 => ?_)
      refine va_mmax hx hb (by rw [hml]; exact hl_42.1.symm) hown (hts _ k_667) (hts _ k_445) (hts _ k_13) (hts _ k_446) (by decide) (Nat.le_of_ble_eq_true rfl) (Nat.le_of_ble_eq_true rfl) (Nat.le_of_ble_eq_true rfl) dX4_narrow_77 ?_
      refine lv_topi (fun z57 e_z57 => ?_)
      have g_z57 : (z57.toInt = z53.toInt ∨ z57.toInt = z56.toInt) ∧ z53.toInt ≤ z57.toInt ∧ z56.toInt ≤ z57.toInt := by rw [e_z57]; exact n_max (a := z53.toInt) (b := z56.toInt) rfl rfl
      refine va_iast hx hb hK hP_62 hD_63 hS_61 32 0 rfl rfl (vin (by decide +kernel)) dX4_narrow_80 (fun H_65 locs_65 hP_65 hD_65 hS_65 => ?_)
      obtain ⟨ai58, e_ai58⟩ : ∃ q : Nat → Nat → Int32, q = va_up ai 32 (upd (ai 32) (1 : Int32).toNatClampNeg z57) := ⟨_, rfl⟩
      have hF_66 := FR_st hF e_ai58 (by decide)
      have ra_z57 := s_any z57
      have hI_67 : IAX ai58 := by rw [e_ai58]; exact IAX_st32 hI (a := z57.toInt) rfl (by omega) (by omega)
      have hP_68 : va_P (dC, dI) vwCl (WX cI cJ cII cJJ ad f3_unknowns f3_equations f2_roundSupports f2_stale f7_size f1_size f5_keptSize f5_aheadSize f0_solved f4_blockCount f4_blockLength f4_lastIsFree f4_stale ai58 al w0 w1 w2 w3) H_65 := by rw [e_ai58]; exact hP_65
      have hD_69 : va_D A (WX cI cJ cII cJJ ad f3_unknowns f3_equations f2_roundSupports f2_stale f7_size f1_size f5_keptSize f5_aheadSize f0_solved f4_blockCount f4_blockLength f4_lastIsFree f4_stale ai58 al w0 w1 w2 w3) := by rw [e_ai58]; exact hD_65
      have tk_ai58_33_0 : (ai58 33 0).toInt = (ai 33 0).toInt := by rw [e_ai58]; rfl
      refine lv_aload_n hx hb dX4_narrow_81 rfl (lv_at hl_42 3 rfl) ?_
      refine gf (k := 4) hx hb hts inX4 hown hK hP_68 k_209 rfl (by decide) rfl 29 rfl (.ref (ad 33)) rfl dX4_narrow_82 ?_
      refine lv_iload_n hx hb dX4_narrow_85 rfl (lv_at hl_42 4 rfl) ?_
      refine lv_aload_n hx hb dX4_narrow_86 rfl (lv_at hl_42 3 rfl) ?_
      refine gf (k := 4) hx hb hts inX4 hown hK hP_68 k_209 rfl (by decide) rfl 29 rfl (.ref (ad 33)) rfl dX4_narrow_87 ?_
      refine lv_iload_n hx hb dX4_narrow_90 rfl (lv_at hl_42 4 rfl) ?_
      refine va_iald hx hb hK hP_68 33 0 rfl rfl (vin (by decide +kernel)) dX4_narrow_91 ?_
      refine lv_topi (fun z59 e_z59 => ?_)
      have k_z59 : z59.toInt = (ai58 33 1).toInt := by rw [e_z59]; rfl
      have g_z59 : -2147483648 ≤ z59.toInt ∧ z59.toInt ≤ 2147483646 := by rw [e_z59]; exact IAX_at33 hI_67 _
      refine lv_iload hx hb dX4_narrow_92 (lv_at hl_42 0 rfl) ?_
      refine lv_iload_n hx hb dX4_narrow_94 rfl (lv_at hl_42 2 rfl) ?_
      have hM := m074_J9_floorDiv_7cf53 l dC dI cI cJ cII cJJ H_65.size 0 ad f3_unknowns f3_equations f2_roundSupports f2_stale f7_size f1_size f5_keptSize f5_aheadSize f0_solved f4_blockCount f4_blockLength f4_lastIsFree f4_stale ai58 al w0 w1 w2 w3 z38 z32 (by omega) (by omega) (by omega) (by omega) (by omega) (by omega) (by omega) (by omega) (by omega) (by omega) (by omega) (by omega) hI_67 hw_w0 hw_w1 hw_w2 hw_w3
      refine k2S_i ⟨hx, hb, hml, hown, hts⟩ hK hP_68 hD_69 hS_65 hA hX cs_RX4_135 hM ⟨by decide +kernel, by decide +kernel⟩ rfl rfl (Or.inl rfl) (rest := [.int z59, .int 1, .ref (ad 33)]) rfl hl_42.1 rfl (Nat.le_of_ble_eq_true rfl) dX4_narrow_95 ⟨Nat.le_of_ble_eq_true rfl, Nat.le_of_ble_eq_true rfl⟩ (fun r60 t H1 locs_70 ht hB hS_70 hFc => ?_)
      obtain ⟨-, hP_71, -, hD_71⟩ := hB
      rw [ht] at hP_71
      have hD_72 := hD_71.weaken (B := A) (fun k q _ h9 => hFc q.1 h9)
      clear ht
      generalize H1 = H_73 at hP_71 hS_70 ⊢
      refine va_mmin hx hb (by rw [hml]; exact hl_42.1.symm) hown (hts _ k_672) (hts _ k_464) (hts _ k_13) (hts _ k_465) (by decide) (Nat.le_of_ble_eq_true rfl) (Nat.le_of_ble_eq_true rfl) (Nat.le_of_ble_eq_true rfl) dX4_narrow_98 ?_
      refine lv_topi (fun z61 e_z61 => ?_)
      have g_z61 : (z61.toInt = z59.toInt ∨ z61.toInt = r60.toInt) ∧ z59.toInt ≥ z61.toInt ∧ r60.toInt ≥ z61.toInt := by rw [e_z61]; exact n_min (a := z59.toInt) (b := r60.toInt) rfl rfl
      refine va_iast hx hb hK hP_71 hD_72 hS_70 33 0 rfl rfl (vin (by decide +kernel)) dX4_narrow_101 (fun H_74 locs_74 hP_74 hD_74 hS_74 => ?_)
      obtain ⟨ai62, e_ai62⟩ : ∃ q : Nat → Nat → Int32, q = va_up ai58 33 (upd (ai58 33) (1 : Int32).toNatClampNeg z61) := ⟨_, rfl⟩
      have hF_75 := FR_st hF_66 e_ai62 (by decide)
      have ra_z61 := s_any z61
      have hI_76 : IAX ai62 := by rw [e_ai62]; exact IAX_st33 hI_67 (a := z61.toInt) rfl (by omega) (by omega)
      have hP_77 : va_P (dC, dI) vwCl (WX cI cJ cII cJJ ad f3_unknowns f3_equations f2_roundSupports f2_stale f7_size f1_size f5_keptSize f5_aheadSize f0_solved f4_blockCount f4_blockLength f4_lastIsFree f4_stale ai62 al w0 w1 w2 w3) H_74 := by rw [e_ai62]; exact hP_74
      have hD_78 : va_D A (WX cI cJ cII cJJ ad f3_unknowns f3_equations f2_roundSupports f2_stale f7_size f1_size f5_keptSize f5_aheadSize f0_solved f4_blockCount f4_blockLength f4_lastIsFree f4_stale ai62 al w0 w1 w2 w3) := by rw [e_ai62]; exact hD_74
      have tk_ai62_33_0 : (ai62 33 0).toInt = (ai58 33 0).toInt := by rw [e_ai62]; rfl
      refine lv_goto (tgt := 180) hx hb dX4_narrow_102 (by decide) ?_
      exact r2_v hx hb hr hk hS_74 dX4_narrow_180 (fun t ht hW => ⟨ai62, ⟨(by first | omega | decide | exact Or.inl (by decide) | exact Or.inr (by decide) | exact Or.inr (by omega)), hI_76, hF_75⟩, by rw [ht]; exact hP_77, va_K.moved hW.alike hK, hD_78⟩)
  · have k9 : (2 : Int32).toInt = 2 := by decide +kernel
    refine ld_a hx hb hK hP 1 2 rfl rfl (vin (by decide +kernel)) dX4_narrow_8 (ad 4) rfl ?_
    refine lv_iload_n hx hb dX4_narrow_9 rfl (lv_at hl 1 rfl) ?_
    refine va_iald hx hb hK hP 4 0 rfl rfl (vin (by decide +kernel)) dX4_narrow_10 ?_
    refine lv_topi (fun z63 e_z63 => ?_)
    have k_z63 : z63.toInt = (ai 4 1).toInt := by rw [e_z63]; rfl
    have g_z63 : -6 ≤ z63.toInt ∧ z63.toInt ≤ 6 := by rw [e_z63]; exact IAX_at4 hI _
    refine lv_istore_n (lv' := [(3, .int z63), (0, .ref (ad 29)), (1, .int 1), (2, .int 2)]) hx hb dX4_narrow_11 rfl hl (by decide) rfl (fun ls_79 hl_79 => ?_)
    refine lv_aload_n hx hb dX4_narrow_12 rfl (lv_at hl_79 1 rfl) ?_
    refine gf (k := 5) hx hb hts inX4 hown hK hP k_210 rfl (by decide) rfl 29 rfl (.ref (ad 34)) rfl dX4_narrow_13 ?_
    refine lv_iload_n hx hb dX4_narrow_16 rfl (lv_at hl_79 2 rfl) ?_
    refine ld_a hx hb hK hP 34 2 rfl rfl (vin (by decide +kernel)) dX4_narrow_17 (ad 36) rfl ?_
    refine lv_iload_n hx hb dX4_narrow_18 rfl (lv_at hl_79 3 rfl) ?_
    refine va_iald hx hb hK hP 36 0 rfl rfl (vin (by decide +kernel)) dX4_narrow_19 ?_
    refine lv_topi (fun z64 e_z64 => ?_)
    have k_z64 : z64.toInt = (ai 36 2).toInt := by rw [e_z64]; rfl
    refine lv_aload_n hx hb dX4_narrow_20 rfl (lv_at hl_79 1 rfl) ?_
    refine gf (k := 7) hx hb hts inX4 hown hK hP k_212 rfl (by decide) rfl 29 rfl (.ref (ad 46)) rfl dX4_narrow_21 ?_
    refine lv_iload_n hx hb dX4_narrow_24 rfl (lv_at hl_79 2 rfl) ?_
    refine lv_iconst (v := 1) hx hb dX4_narrow_25 (by decide) ?_
    refine v_iadd hx hb dX4_narrow_26 2 (by decide +kernel) ?_
    refine ld_a hx hb hK hP 46 2 rfl rfl (vin (by decide +kernel)) dX4_narrow_27 (ad 49) rfl ?_
    refine lv_iload_n hx hb dX4_narrow_28 rfl (lv_at hl_79 3 rfl) ?_
    refine va_iald hx hb hK hP 49 0 rfl rfl (vin (by decide +kernel)) dX4_narrow_29 ?_
    refine lv_topi (fun z65 e_z65 => ?_)
    have k_z65 : z65.toInt = (ai 49 2).toInt := by rw [e_z65]; rfl
    refine v_isub hx hb dX4_narrow_30 _ rfl ?_
    refine lv_topi (fun z66 e_z66 => ?_)
    refine lv_istore (lv' := [(4, .int z66), (3, .int z63), (0, .ref (ad 29)), (1, .int 1), (2, .int 2)]) hx hb dX4_narrow_31 hl_79 (by decide) rfl (fun ls_80 hl_80 => ?_)
    refine lv_aload_n hx hb dX4_narrow_33 rfl (lv_at hl_80 2 rfl) ?_
    refine gf (k := 5) hx hb hts inX4 hown hK hP k_210 rfl (by decide) rfl 29 rfl (.ref (ad 34)) rfl dX4_narrow_34 ?_
    refine lv_iload_n hx hb dX4_narrow_37 rfl (lv_at hl_80 3 rfl) ?_
    refine ld_a hx hb hK hP 34 2 rfl rfl (vin (by decide +kernel)) dX4_narrow_38 (ad 36) rfl ?_
    refine lv_iload_n hx hb dX4_narrow_39 rfl (lv_at hl_80 4 rfl) ?_
    refine va_iald hx hb hK hP 36 0 rfl rfl (vin (by decide +kernel)) dX4_narrow_40 ?_
    refine lv_topi (fun z67 e_z67 => ?_)
    have k_z67 : z67.toInt = (ai 36 2).toInt := by rw [e_z67]; rfl
    refine lv_aload_n hx hb dX4_narrow_41 rfl (lv_at hl_80 2 rfl) ?_
    refine gf (k := 6) hx hb hts inX4 hown hK hP k_211 rfl (by decide) rfl 29 rfl (.ref (ad 40)) rfl dX4_narrow_42 ?_
    refine lv_iload_n hx hb dX4_narrow_45 rfl (lv_at hl_80 3 rfl) ?_
    refine lv_iconst (v := 1) hx hb dX4_narrow_46 (by decide) ?_
    refine v_iadd hx hb dX4_narrow_47 2 (by decide +kernel) ?_
    refine ld_a hx hb hK hP 40 2 rfl rfl (vin (by decide +kernel)) dX4_narrow_48 (ad 43) rfl ?_
    refine lv_iload_n hx hb dX4_narrow_49 rfl (lv_at hl_80 4 rfl) ?_
    refine va_iald hx hb hK hP 43 0 rfl rfl (vin (by decide +kernel)) dX4_narrow_50 ?_
    refine lv_topi (fun z68 e_z68 => ?_)
    have k_z68 : z68.toInt = (ai 43 2).toInt := by rw [e_z68]; rfl
    refine v_isub hx hb dX4_narrow_51 _ rfl ?_
    refine lv_topi (fun z69 e_z69 => ?_)
    refine lv_istore (lv' := [(5, .int z69), (4, .int z66), (3, .int z63), (0, .ref (ad 29)), (1, .int 1), (2, .int 2)]) hx hb dX4_narrow_52 hl_80 (by decide) rfl (fun ls_81 hl_81 => ?_)
    refine lv_iload_n hx hb dX4_narrow_54 rfl (lv_at hl_81 2 rfl) ?_
    refine lv_if_le (tgt := 105) hx hb dX4_narrow_55 (by decide) (fun c70 => ?_) (fun c70 => ?_)
    · have c70 := j_le (a := z63.toInt) (b := 0) rfl (by decide +kernel) c70
      refine lv_iload_n hx hb dX4_narrow_105 rfl (lv_at hl_81 2 rfl) ?_
      refine lv_if_ge (tgt := 156) hx hb dX4_narrow_106 (by decide) (fun c71 => ?_) (fun c71 => ?_)
      · have c71 := j_le (a := 0) (b := z63.toInt) (by decide +kernel) rfl c71
        refine lv_iload hx hb dX4_narrow_156 (lv_at hl_81 1 rfl) ?_
        refine lv_if_gt (tgt := 166) hx hb dX4_narrow_158 (by decide) (fun c72 => ?_) (fun c72 => ?_)
        · have c72 := j_lt (a := 0) (b := z66.toInt) (by decide +kernel) rfl c72
          exact m082_X4_narrow_b166 C  2 z63 z66 z69 ai _ _ _ (by first | omega | decide | (have ka0 := (by decide +kernel : (2 : Int32).toInt = 2); omega)) (by first | omega | decide | (have ka0 := (by decide +kernel : (2 : Int32).toInt = 2); omega)) (by first | omega | decide | (have ka0 := (by decide +kernel : (2 : Int32).toInt = 2); omega)) (by first | omega | decide | (have ka0 := (by decide +kernel : (2 : Int32).toInt = 2); omega)) (by first | omega | decide | (have ka0 := (by decide +kernel : (2 : Int32).toInt = 2); omega)) (by first | omega | decide | (have ka0 := (by decide +kernel : (2 : Int32).toInt = 2); omega)) (by first | omega | decide | (have ka0 := (by decide +kernel : (2 : Int32).toInt = 2); omega)) (by first | omega | decide | (have ka0 := (by decide +kernel : (2 : Int32).toInt = 2); omega)) (by first | omega | decide | (have ka0 := (by decide +kernel : (2 : Int32).toInt = 2); omega)) (by first | omega | decide | (have ka0 := (by decide +kernel : (2 : Int32).toInt = 2); omega)) (by first | omega | decide | (have ka0 := (by decide +kernel : (2 : Int32).toInt = 2); omega)) (by first | omega | decide | (have ka0 := (by decide +kernel : (2 : Int32).toInt = 2); omega)) (by first | omega | decide | (have ka0 := (by decide +kernel : (2 : Int32).toInt = 2); omega)) (by first | omega | decide | (have ka0 := (by decide +kernel : (2 : Int32).toInt = 2); omega)) hI hF hw_w0 hw_w1 hw_w2 hw_w3 hP hD hS (lv_sub hl_81 [3, 4, 5, 2, 1, 0] rfl)
        · have c72 := j_nlt (a := 0) (b := z66.toInt) (by decide +kernel) rfl c72
          refine lv_iload hx hb dX4_narrow_161 (lv_at hl_81 0 rfl) ?_
          refine lv_if_ge (tgt := 180) hx hb dX4_narrow_163 (by decide) (fun c73 => ?_) (fun c73 => ?_)
          · have c73 := j_le (a := 0) (b := z69.toInt) (by decide +kernel) rfl c73
            exact r2_v hx hb hr hk hS dX4_narrow_180 (fun t ht hW => ⟨ai, ⟨(by first | omega | decide | exact Or.inl (by decide) | exact Or.inr (by decide) | exact Or.inr (by omega)), hI, hF⟩, by rw [ht]; exact hP, va_K.moved hW.alike hK, hD⟩)
          · have c73 := j_nle (a := 0) (b := z69.toInt) (by decide +kernel) rfl c73
            exact m082_X4_narrow_b166 C  2 z63 z66 z69 ai _ _ _ (by first | omega | decide | (have ka0 := (by decide +kernel : (2 : Int32).toInt = 2); omega)) (by first | omega | decide | (have ka0 := (by decide +kernel : (2 : Int32).toInt = 2); omega)) (by first | omega | decide | (have ka0 := (by decide +kernel : (2 : Int32).toInt = 2); omega)) (by first | omega | decide | (have ka0 := (by decide +kernel : (2 : Int32).toInt = 2); omega)) (by first | omega | decide | (have ka0 := (by decide +kernel : (2 : Int32).toInt = 2); omega)) (by first | omega | decide | (have ka0 := (by decide +kernel : (2 : Int32).toInt = 2); omega)) (by first | omega | decide | (have ka0 := (by decide +kernel : (2 : Int32).toInt = 2); omega)) (by first | omega | decide | (have ka0 := (by decide +kernel : (2 : Int32).toInt = 2); omega)) (by first | omega | decide | (have ka0 := (by decide +kernel : (2 : Int32).toInt = 2); omega)) (by first | omega | decide | (have ka0 := (by decide +kernel : (2 : Int32).toInt = 2); omega)) (by first | omega | decide | (have ka0 := (by decide +kernel : (2 : Int32).toInt = 2); omega)) (by first | omega | decide | (have ka0 := (by decide +kernel : (2 : Int32).toInt = 2); omega)) (by first | omega | decide | (have ka0 := (by decide +kernel : (2 : Int32).toInt = 2); omega)) (by first | omega | decide | (have ka0 := (by decide +kernel : (2 : Int32).toInt = 2); omega)) hI hF hw_w0 hw_w1 hw_w2 hw_w3 hP hD hS (lv_sub hl_81 [3, 4, 5, 2, 1, 0] rfl)
      · have c71 := j_nle (a := 0) (b := z63.toInt) (by decide +kernel) rfl c71
        refine lv_aload_n hx hb dX4_narrow_109 rfl (lv_at hl_81 3 rfl) ?_
        refine gf (k := 3) hx hb hts inX4 hown hK hP k_208 rfl (by decide) rfl 29 rfl (.ref (ad 32)) rfl dX4_narrow_110 ?_
        refine lv_iload_n hx hb dX4_narrow_113 rfl (lv_at hl_81 4 rfl) ?_
        refine lv_aload_n hx hb dX4_narrow_114 rfl (lv_at hl_81 3 rfl) ?_
        refine gf (k := 3) hx hb hts inX4 hown hK hP k_208 rfl (by decide) rfl 29 rfl (.ref (ad 32)) rfl dX4_narrow_115 ?_
        refine lv_iload_n hx hb dX4_narrow_118 rfl (lv_at hl_81 4 rfl) ?_
        refine va_iald hx hb hK hP 32 0 rfl rfl (vin (by decide +kernel)) dX4_narrow_119 ?_
        refine lv_topi (fun z74 e_z74 => ?_)
        have k_z74 : z74.toInt = (ai 32 1).toInt := by rw [e_z74]; rfl
        have g_z74 : -10 ≤ z74.toInt ∧ z74.toInt ≤ 2147483647 := by rw [e_z74]; exact IAX_at32 hI _
        refine lv_iload hx hb dX4_narrow_120 (lv_at hl_81 0 rfl) ?_
        refine v_ineg hx hb dX4_narrow_122 _ rfl ?_
        refine lv_topi (fun z75 e_z75 => ?_)
        refine lv_iload_n hx hb dX4_narrow_123 rfl (lv_at hl_81 2 rfl) ?_
        have hM := m074_J9_floorDiv_7cf53 l dC dI cI cJ cII cJJ H.size 0 ad f3_unknowns f3_equations f2_roundSupports f2_stale f7_size f1_size f5_keptSize f5_aheadSize f0_solved f4_blockCount f4_blockLength f4_lastIsFree f4_stale ai al w0 w1 w2 w3 z75 z63 (by omega) (by omega) (by omega) (by omega) (by omega) (by omega) (by omega) (by omega) (by omega) (by omega) (by omega) (by omega) hI hw_w0 hw_w1 hw_w2 hw_w3
        refine k2S_i ⟨hx, hb, hml, hown, hts⟩ hK hP hD hS hA hX cs_RX4_135 hM ⟨by decide +kernel, by decide +kernel⟩ rfl rfl (Or.inl rfl) (rest := [.int z74, .int 1, .ref (ad 32)]) rfl hl_81.1 rfl (Nat.le_of_ble_eq_true rfl) dX4_narrow_124 ⟨Nat.le_of_ble_eq_true rfl, Nat.le_of_ble_eq_true rfl⟩ (fun r76 t H1 locs_82 ht hB hS_82 hFc => ?_)
        obtain ⟨-, hP_83, -, hD_83⟩ := hB
        rw [ht] at hP_83
        have hD_84 := hD_83.weaken (B := A) (fun k q _ h9 => hFc q.1 h9)
        clear ht
        generalize H1 = H_85 at hP_83 hS_82 ⊢
        refine v_ineg hx hb dX4_narrow_127 _ rfl ?_
        refine lv_topi (fun z77 e_z77 => ?_)
        refine va_mmax hx hb (by rw [hml]; exact hl_81.1.symm) hown (hts _ k_667) (hts _ k_445) (hts _ k_13) (hts _ k_446) (by decide) (Nat.le_of_ble_eq_true rfl) (Nat.le_of_ble_eq_true rfl) (Nat.le_of_ble_eq_true rfl) dX4_narrow_128 ?_
        refine lv_topi (fun z78 e_z78 => ?_)
        have g_z78 : (z78.toInt = z74.toInt ∨ z78.toInt = z77.toInt) ∧ z74.toInt ≤ z78.toInt ∧ z77.toInt ≤ z78.toInt := by rw [e_z78]; exact n_max (a := z74.toInt) (b := z77.toInt) rfl rfl
        refine va_iast hx hb hK hP_83 hD_84 hS_82 32 0 rfl rfl (vin (by decide +kernel)) dX4_narrow_131 (fun H_86 locs_86 hP_86 hD_86 hS_86 => ?_)
        obtain ⟨ai79, e_ai79⟩ : ∃ q : Nat → Nat → Int32, q = va_up ai 32 (upd (ai 32) (1 : Int32).toNatClampNeg z78) := ⟨_, rfl⟩
        have hF_87 := FR_st hF e_ai79 (by decide)
        have ra_z78 := s_any z78
        have hI_88 : IAX ai79 := by rw [e_ai79]; exact IAX_st32 hI (a := z78.toInt) rfl (by omega) (by omega)
        have hP_89 : va_P (dC, dI) vwCl (WX cI cJ cII cJJ ad f3_unknowns f3_equations f2_roundSupports f2_stale f7_size f1_size f5_keptSize f5_aheadSize f0_solved f4_blockCount f4_blockLength f4_lastIsFree f4_stale ai79 al w0 w1 w2 w3) H_86 := by rw [e_ai79]; exact hP_86
        have hD_90 : va_D A (WX cI cJ cII cJJ ad f3_unknowns f3_equations f2_roundSupports f2_stale f7_size f1_size f5_keptSize f5_aheadSize f0_solved f4_blockCount f4_blockLength f4_lastIsFree f4_stale ai79 al w0 w1 w2 w3) := by rw [e_ai79]; exact hD_86
        have tk_ai79_33_0 : (ai79 33 0).toInt = (ai 33 0).toInt := by rw [e_ai79]; rfl
        refine lv_aload_n hx hb dX4_narrow_132 rfl (lv_at hl_81 3 rfl) ?_
        refine gf (k := 4) hx hb hts inX4 hown hK hP_89 k_209 rfl (by decide) rfl 29 rfl (.ref (ad 33)) rfl dX4_narrow_133 ?_
        refine lv_iload_n hx hb dX4_narrow_136 rfl (lv_at hl_81 4 rfl) ?_
        refine lv_aload_n hx hb dX4_narrow_137 rfl (lv_at hl_81 3 rfl) ?_
        refine gf (k := 4) hx hb hts inX4 hown hK hP_89 k_209 rfl (by decide) rfl 29 rfl (.ref (ad 33)) rfl dX4_narrow_138 ?_
        refine lv_iload_n hx hb dX4_narrow_141 rfl (lv_at hl_81 4 rfl) ?_
        refine va_iald hx hb hK hP_89 33 0 rfl rfl (vin (by decide +kernel)) dX4_narrow_142 ?_
        refine lv_topi (fun z80 e_z80 => ?_)
        have k_z80 : z80.toInt = (ai79 33 1).toInt := by rw [e_z80]; rfl
        have g_z80 : -2147483648 ≤ z80.toInt ∧ z80.toInt ≤ 2147483646 := by rw [e_z80]; exact IAX_at33 hI_88 _
        refine lv_iload hx hb dX4_narrow_143 (lv_at hl_81 1 rfl) ?_
        refine lv_iload_n hx hb dX4_narrow_145 rfl (lv_at hl_81 2 rfl) ?_
        have hM := m074_J9_floorDiv_7cf53 l dC dI cI cJ cII cJJ H_86.size 0 ad f3_unknowns f3_equations f2_roundSupports f2_stale f7_size f1_size f5_keptSize f5_aheadSize f0_solved f4_blockCount f4_blockLength f4_lastIsFree f4_stale ai79 al w0 w1 w2 w3 z66 z63 (by omega) (by omega) (by omega) (by omega) (by omega) (by omega) (by omega) (by omega) (by omega) (by omega) (by omega) (by omega) hI_88 hw_w0 hw_w1 hw_w2 hw_w3
        refine k2S_i ⟨hx, hb, hml, hown, hts⟩ hK hP_89 hD_90 hS_86 hA hX cs_RX4_135 hM ⟨by decide +kernel, by decide +kernel⟩ rfl rfl (Or.inl rfl) (rest := [.int z80, .int 1, .ref (ad 33)]) rfl hl_81.1 rfl (Nat.le_of_ble_eq_true rfl) dX4_narrow_146 ⟨Nat.le_of_ble_eq_true rfl, Nat.le_of_ble_eq_true rfl⟩ (fun r81 t H1 locs_91 ht hB hS_91 hFc => ?_)
        obtain ⟨-, hP_92, -, hD_92⟩ := hB
        rw [ht] at hP_92
        have hD_93 := hD_92.weaken (B := A) (fun k q _ h9 => hFc q.1 h9)
        clear ht
        generalize H1 = H_94 at hP_92 hS_91 ⊢
        refine va_mmin hx hb (by rw [hml]; exact hl_81.1.symm) hown (hts _ k_672) (hts _ k_464) (hts _ k_13) (hts _ k_465) (by decide) (Nat.le_of_ble_eq_true rfl) (Nat.le_of_ble_eq_true rfl) (Nat.le_of_ble_eq_true rfl) dX4_narrow_149 ?_
        refine lv_topi (fun z82 e_z82 => ?_)
        have g_z82 : (z82.toInt = z80.toInt ∨ z82.toInt = r81.toInt) ∧ z80.toInt ≥ z82.toInt ∧ r81.toInt ≥ z82.toInt := by rw [e_z82]; exact n_min (a := z80.toInt) (b := r81.toInt) rfl rfl
        refine va_iast hx hb hK hP_92 hD_93 hS_91 33 0 rfl rfl (vin (by decide +kernel)) dX4_narrow_152 (fun H_95 locs_95 hP_95 hD_95 hS_95 => ?_)
        obtain ⟨ai83, e_ai83⟩ : ∃ q : Nat → Nat → Int32, q = va_up ai79 33 (upd (ai79 33) (1 : Int32).toNatClampNeg z82) := ⟨_, rfl⟩
        have hF_96 := FR_st hF_87 e_ai83 (by decide)
        have ra_z82 := s_any z82
        have hI_97 : IAX ai83 := by rw [e_ai83]; exact IAX_st33 hI_88 (a := z82.toInt) rfl (by omega) (by omega)
        have hP_98 : va_P (dC, dI) vwCl (WX cI cJ cII cJJ ad f3_unknowns f3_equations f2_roundSupports f2_stale f7_size f1_size f5_keptSize f5_aheadSize f0_solved f4_blockCount f4_blockLength f4_lastIsFree f4_stale ai83 al w0 w1 w2 w3) H_95 := by rw [e_ai83]; exact hP_95
        have hD_99 : va_D A (WX cI cJ cII cJJ ad f3_unknowns f3_equations f2_roundSupports f2_stale f7_size f1_size f5_keptSize f5_aheadSize f0_solved f4_blockCount f4_blockLength f4_lastIsFree f4_stale ai83 al w0 w1 w2 w3) := by rw [e_ai83]; exact hD_95
        have tk_ai83_33_0 : (ai83 33 0).toInt = (ai79 33 0).toInt := by rw [e_ai83]; rfl
        refine lv_goto (tgt := 180) hx hb dX4_narrow_153 (by decide) ?_
        exact r2_v hx hb hr hk hS_95 dX4_narrow_180 (fun t ht hW => ⟨ai83, ⟨(by first | omega | decide | exact Or.inl (by decide) | exact Or.inr (by decide) | exact Or.inr (by omega)), hI_97, hF_96⟩, by rw [ht]; exact hP_98, va_K.moved hW.alike hK, hD_99⟩)
    · have c70 := j_nle (a := z63.toInt) (b := 0) rfl (by decide +kernel) c70
      refine lv_aload_n hx hb dX4_narrow_58 rfl (lv_at hl_81 3 rfl) ?_
      refine gf (k := 3) hx hb hts inX4 hown hK hP k_208 rfl (by decide) rfl 29 rfl (.ref (ad 32)) rfl dX4_narrow_59 ?_
      refine lv_iload_n hx hb dX4_narrow_62 rfl (lv_at hl_81 4 rfl) ?_
      refine lv_aload_n hx hb dX4_narrow_63 rfl (lv_at hl_81 3 rfl) ?_
      refine gf (k := 3) hx hb hts inX4 hown hK hP k_208 rfl (by decide) rfl 29 rfl (.ref (ad 32)) rfl dX4_narrow_64 ?_
      refine lv_iload_n hx hb dX4_narrow_67 rfl (lv_at hl_81 4 rfl) ?_
      refine va_iald hx hb hK hP 32 0 rfl rfl (vin (by decide +kernel)) dX4_narrow_68 ?_
      refine lv_topi (fun z84 e_z84 => ?_)
      have k_z84 : z84.toInt = (ai 32 1).toInt := by rw [e_z84]; rfl
      have g_z84 : -10 ≤ z84.toInt ∧ z84.toInt ≤ 2147483647 := by rw [e_z84]; exact IAX_at32 hI _
      refine lv_iload hx hb dX4_narrow_69 (lv_at hl_81 1 rfl) ?_
      refine v_ineg hx hb dX4_narrow_71 _ rfl ?_
      refine lv_topi (fun z85 e_z85 => ?_)
      refine lv_iload_n hx hb dX4_narrow_72 rfl (lv_at hl_81 2 rfl) ?_
      have hM := m074_J9_floorDiv_7cf53 l dC dI cI cJ cII cJJ H.size 0 ad f3_unknowns f3_equations f2_roundSupports f2_stale f7_size f1_size f5_keptSize f5_aheadSize f0_solved f4_blockCount f4_blockLength f4_lastIsFree f4_stale ai al w0 w1 w2 w3 z85 z63 (by omega) (by omega) (by omega) (by omega) (by omega) (by omega) (by omega) (by omega) (by omega) (by omega) (by omega) (by omega) hI hw_w0 hw_w1 hw_w2 hw_w3
      refine k2S_i ⟨hx, hb, hml, hown, hts⟩ hK hP hD hS hA hX cs_RX4_135 hM ⟨by decide +kernel, by decide +kernel⟩ rfl rfl (Or.inl rfl) (rest := [.int z84, .int 1, .ref (ad 32)]) rfl hl_81.1 rfl (Nat.le_of_ble_eq_true rfl) dX4_narrow_73 ⟨Nat.le_of_ble_eq_true rfl, Nat.le_of_ble_eq_true rfl⟩ (fun r86 t H1 locs_100 ht hB hS_100 hFc => ?_)
      obtain ⟨-, hP_101, -, hD_101⟩ := hB
      rw [ht] at hP_101
      have hD_102 := hD_101.weaken (B := A) (fun k q _ h9 => hFc q.1 h9)
      clear ht
      generalize H1 = H_103 at hP_101 hS_100 ⊢
      refine v_ineg hx hb dX4_narrow_76 _ rfl ?_
      refine lv_topi (fun z87 e_z87 => ?_)
      refine va_mmax hx hb (by rw [hml]; exact hl_81.1.symm) hown (hts _ k_667) (hts _ k_445) (hts _ k_13) (hts _ k_446) (by decide) (Nat.le_of_ble_eq_true rfl) (Nat.le_of_ble_eq_true rfl) (Nat.le_of_ble_eq_true rfl) dX4_narrow_77 ?_
      refine lv_topi (fun z88 e_z88 => ?_)
      have g_z88 : (z88.toInt = z84.toInt ∨ z88.toInt = z87.toInt) ∧ z84.toInt ≤ z88.toInt ∧ z87.toInt ≤ z88.toInt := by rw [e_z88]; exact n_max (a := z84.toInt) (b := z87.toInt) rfl rfl
      refine va_iast hx hb hK hP_101 hD_102 hS_100 32 0 rfl rfl (vin (by decide +kernel)) dX4_narrow_80 (fun H_104 locs_104 hP_104 hD_104 hS_104 => ?_)
      obtain ⟨ai89, e_ai89⟩ : ∃ q : Nat → Nat → Int32, q = va_up ai 32 (upd (ai 32) (1 : Int32).toNatClampNeg z88) := ⟨_, rfl⟩
      have hF_105 := FR_st hF e_ai89 (by decide)
      have ra_z88 := s_any z88
      have hI_106 : IAX ai89 := by rw [e_ai89]; exact IAX_st32 hI (a := z88.toInt) rfl (by omega) (by omega)
      have hP_107 : va_P (dC, dI) vwCl (WX cI cJ cII cJJ ad f3_unknowns f3_equations f2_roundSupports f2_stale f7_size f1_size f5_keptSize f5_aheadSize f0_solved f4_blockCount f4_blockLength f4_lastIsFree f4_stale ai89 al w0 w1 w2 w3) H_104 := by rw [e_ai89]; exact hP_104
      have hD_108 : va_D A (WX cI cJ cII cJJ ad f3_unknowns f3_equations f2_roundSupports f2_stale f7_size f1_size f5_keptSize f5_aheadSize f0_solved f4_blockCount f4_blockLength f4_lastIsFree f4_stale ai89 al w0 w1 w2 w3) := by rw [e_ai89]; exact hD_104
      have tk_ai89_33_0 : (ai89 33 0).toInt = (ai 33 0).toInt := by rw [e_ai89]; rfl
      refine lv_aload_n hx hb dX4_narrow_81 rfl (lv_at hl_81 3 rfl) ?_
      refine gf (k := 4) hx hb hts inX4 hown hK hP_107 k_209 rfl (by decide) rfl 29 rfl (.ref (ad 33)) rfl dX4_narrow_82 ?_
      refine lv_iload_n hx hb dX4_narrow_85 rfl (lv_at hl_81 4 rfl) ?_
      refine lv_aload_n hx hb dX4_narrow_86 rfl (lv_at hl_81 3 rfl) ?_
      refine gf (k := 4) hx hb hts inX4 hown hK hP_107 k_209 rfl (by decide) rfl 29 rfl (.ref (ad 33)) rfl dX4_narrow_87 ?_
      refine lv_iload_n hx hb dX4_narrow_90 rfl (lv_at hl_81 4 rfl) ?_
      refine va_iald hx hb hK hP_107 33 0 rfl rfl (vin (by decide +kernel)) dX4_narrow_91 ?_
      refine lv_topi (fun z90 e_z90 => ?_)
      have k_z90 : z90.toInt = (ai89 33 1).toInt := by rw [e_z90]; rfl
      have g_z90 : -2147483648 ≤ z90.toInt ∧ z90.toInt ≤ 2147483646 := by rw [e_z90]; exact IAX_at33 hI_106 _
      refine lv_iload hx hb dX4_narrow_92 (lv_at hl_81 0 rfl) ?_
      refine lv_iload_n hx hb dX4_narrow_94 rfl (lv_at hl_81 2 rfl) ?_
      have hM := m074_J9_floorDiv_7cf53 l dC dI cI cJ cII cJJ H_104.size 0 ad f3_unknowns f3_equations f2_roundSupports f2_stale f7_size f1_size f5_keptSize f5_aheadSize f0_solved f4_blockCount f4_blockLength f4_lastIsFree f4_stale ai89 al w0 w1 w2 w3 z69 z63 (by omega) (by omega) (by omega) (by omega) (by omega) (by omega) (by omega) (by omega) (by omega) (by omega) (by omega) (by omega) hI_106 hw_w0 hw_w1 hw_w2 hw_w3
      refine k2S_i ⟨hx, hb, hml, hown, hts⟩ hK hP_107 hD_108 hS_104 hA hX cs_RX4_135 hM ⟨by decide +kernel, by decide +kernel⟩ rfl rfl (Or.inl rfl) (rest := [.int z90, .int 1, .ref (ad 33)]) rfl hl_81.1 rfl (Nat.le_of_ble_eq_true rfl) dX4_narrow_95 ⟨Nat.le_of_ble_eq_true rfl, Nat.le_of_ble_eq_true rfl⟩ (fun r91 t H1 locs_109 ht hB hS_109 hFc => ?_)
      obtain ⟨-, hP_110, -, hD_110⟩ := hB
      rw [ht] at hP_110
      have hD_111 := hD_110.weaken (B := A) (fun k q _ h9 => hFc q.1 h9)
      clear ht
      generalize H1 = H_112 at hP_110 hS_109 ⊢
      refine va_mmin hx hb (by rw [hml]; exact hl_81.1.symm) hown (hts _ k_672) (hts _ k_464) (hts _ k_13) (hts _ k_465) (by decide) (Nat.le_of_ble_eq_true rfl) (Nat.le_of_ble_eq_true rfl) (Nat.le_of_ble_eq_true rfl) dX4_narrow_98 ?_
      refine lv_topi (fun z92 e_z92 => ?_)
      have g_z92 : (z92.toInt = z90.toInt ∨ z92.toInt = r91.toInt) ∧ z90.toInt ≥ z92.toInt ∧ r91.toInt ≥ z92.toInt := by rw [e_z92]; exact n_min (a := z90.toInt) (b := r91.toInt) rfl rfl
      refine va_iast hx hb hK hP_110 hD_111 hS_109 33 0 rfl rfl (vin (by decide +kernel)) dX4_narrow_101 (fun H_113 locs_113 hP_113 hD_113 hS_113 => ?_)
      obtain ⟨ai93, e_ai93⟩ : ∃ q : Nat → Nat → Int32, q = va_up ai89 33 (upd (ai89 33) (1 : Int32).toNatClampNeg z92) := ⟨_, rfl⟩
      have hF_114 := FR_st hF_105 e_ai93 (by decide)
      have ra_z92 := s_any z92
      have hI_115 : IAX ai93 := by rw [e_ai93]; exact IAX_st33 hI_106 (a := z92.toInt) rfl (by omega) (by omega)
      have hP_116 : va_P (dC, dI) vwCl (WX cI cJ cII cJJ ad f3_unknowns f3_equations f2_roundSupports f2_stale f7_size f1_size f5_keptSize f5_aheadSize f0_solved f4_blockCount f4_blockLength f4_lastIsFree f4_stale ai93 al w0 w1 w2 w3) H_113 := by rw [e_ai93]; exact hP_113
      have hD_117 : va_D A (WX cI cJ cII cJJ ad f3_unknowns f3_equations f2_roundSupports f2_stale f7_size f1_size f5_keptSize f5_aheadSize f0_solved f4_blockCount f4_blockLength f4_lastIsFree f4_stale ai93 al w0 w1 w2 w3) := by rw [e_ai93]; exact hD_113
      have tk_ai93_33_0 : (ai93 33 0).toInt = (ai89 33 0).toInt := by rw [e_ai93]; rfl
      refine lv_goto (tgt := 180) hx hb dX4_narrow_102 (by decide) ?_
      exact r2_v hx hb hr hk hS_113 dX4_narrow_180 (fun t ht hW => ⟨ai93, ⟨(by first | omega | decide | exact Or.inl (by decide) | exact Or.inr (by decide) | exact Or.inr (by omega)), hI_115, hF_114⟩, by rw [ht]; exact hP_116, va_K.moved hW.alike hK, hD_117⟩)
