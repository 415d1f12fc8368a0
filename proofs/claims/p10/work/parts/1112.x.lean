def Q_m083_X4_searchFrom (dC : Nat → ClassId) (dI : Nat → Nat → Nat) (cI cJ cII cJJ : ClassId) (ad : Nat → Nat) (f3_unknowns f3_equations f2_roundSupports f2_stale f7_size f1_size f5_keptSize f5_aheadSize f0_solved f4_blockLength f4_lastIsFree f4_stale : Int32) (ai0 : Nat → Nat → Int32) (al : Nat → Nat → Int64) (w0 w1 w2 w3 : Nat) : (Nat → Prop) → Array Value → State → Outcome → State → Prop := fun A => QV (fun t => ∃ (n_f4_blockCount : Int32), ∃ (n_ai : Nat → Nat → Int32), ((0 ≤ n_f4_blockCount.toInt ∧ n_f4_blockCount.toInt ≤ 9261) ∧ (n_ai 33 0).toInt = (ai0 33 0).toInt ∧ IAX n_ai ∧ FR [30, 32, 33, 37, 38] ai0 n_ai) ∧ WO dC dI (TY cI cJ cII cJJ) (WX cI cJ cII cJJ ad f3_unknowns f3_equations f2_roundSupports f2_stale f7_size f1_size f5_keptSize f5_aheadSize f0_solved n_f4_blockCount f4_blockLength f4_lastIsFree f4_stale n_ai al w0 w1 w2 w3) A t) A
set_option maxRecDepth 100000 in
set_option maxHeartbeats 4000000 in
theorem m083_X4_searchFrom_b48 {p : Program} {l : Launch} {e : Env} {s : State} {m : MethodId} {args : Array Value} {below : List Frame} {meth : Method} {c : Code} {A : Nat → Prop} {dC : Nat → ClassId} {dI : Nat → Nat → Nat} {cI cJ cII cJJ : ClassId} {ad : Nat → Nat} {g : Nat} {f3_unknowns f3_equations f2_roundSupports f2_stale f7_size f1_size f5_keptSize f5_aheadSize f0_solved f4_blockLength f4_lastIsFree f4_stale : Int32} {ai0 : Nat → Nat → Int32} {al : Nat → Nat → Int64} {w0 w1 w2 w3 : Nat} (C : Cx p c s m meth args A dC dI (TY cI cJ cII cJJ) cX4_searchFrom none 4 RX4 0 g) : ∀ (n : Nat), ∀ (L2 L3 f4_blockCount : Int32) (ai : Nat → Nat → Int32) (H : Heap) (locs : List Loc) (ls : Array Slot), (0 ≤ L3.toInt ∧ L3.toInt ≤ 3) → (2 ≤ f3_unknowns.toInt ∧ f3_unknowns.toInt ≤ 4) → (0 ≤ f3_equations.toInt ∧ f3_equations.toInt ≤ 3) → (0 ≤ f2_stale.toInt ∧ f2_stale.toInt ≤ 1) → (0 ≤ f7_size.toInt ∧ f7_size.toInt ≤ 256) → (0 ≤ f1_size.toInt ∧ f1_size.toInt ≤ 4) → (0 ≤ f5_keptSize.toInt ∧ f5_keptSize.toInt ≤ 128) → (0 ≤ f5_aheadSize.toInt ∧ f5_aheadSize.toInt ≤ 128) → (0 ≤ f4_blockCount.toInt ∧ f4_blockCount.toInt ≤ 9261) → (0 ≤ f4_blockLength.toInt ∧ f4_blockLength.toInt ≤ 21) → (0 ≤ f4_lastIsFree.toInt ∧ f4_lastIsFree.toInt ≤ 1) → (0 ≤ f4_stale.toInt ∧ f4_stale.toInt ≤ 1) → (ai 33 0).toInt = (ai0 33 0).toInt → f3_equations.toInt - L3.toInt < (n : Int) → (0 : Int) < (n : Int) → IAX ai → FR [30, 32, 33, 37, 38] ai0 ai → RWX ad w0 → RWX ad w1 → RWX ad w2 → RWX ad w3 → va_P (dC, dI) vwCl (WX cI cJ cII cJJ ad f3_unknowns f3_equations f2_roundSupports f2_stale f7_size f1_size f5_keptSize f5_aheadSize f0_solved f4_blockCount f4_blockLength f4_lastIsFree f4_stale ai al w0 w1 w2 w3) H → va_D A (WX cI cJ cII cJJ ad f3_unknowns f3_equations f2_roundSupports f2_stale f7_size f1_size f5_keptSize f5_aheadSize f0_solved f4_blockCount f4_blockLength f4_lastIsFree f4_stale ai al w0 w1 w2 w3) → va_S A s.heap H locs → lv_has ls 4 [(0, .ref (ad 29)), (1, .int 1), (2, .int L2), (3, .int L3)] → W p l e ({ frames := 8, cells := 0, slots := 0, locals := 440 } : Room) s m args below meth c H locs 0 0 (MQ below (Q_m083_X4_searchFrom dC dI cI cJ cII cJJ ad f3_unknowns f3_equations f2_roundSupports f2_stale f7_size f1_size f5_keptSize f5_aheadSize f0_solved f4_blockLength f4_lastIsFree f4_stale ai0 al w0 w1 w2 w3 A) args s 0 0 A) (F0 m 48 ls []) := by
  obtain ⟨hx, hb, hr, hml, hown, hts, hk, hA, hK, hX⟩ := id C
  intro n
  induction n with
  | zero =>
    intro L2 L3 f4_blockCount ai H locs ls h0 h1 h2 h3 h4 h5 h6 h7 h8 h9 h10 h11 h12 h13 h14 hI hF hw_w0 hw_w1 hw_w2 hw_w3 hP hD hS hl
    exact absurd h14 (by omega)
  | succ n ih =>
    intro L2 L3 f4_blockCount ai H locs ls h0 h1 h2 h3 h4 h5 h6 h7 h8 h9 h10 h11 h12 h13 h14 hI hF hw_w0 hw_w1 hw_w2 hw_w3 hP hD hS hl
    have ra_L2 := s_any L2
    refine lv_iload_n hx hb dX4_searchFrom_48 rfl (lv_at hl 3 rfl) ?_
    refine lv_aload_n hx hb dX4_searchFrom_49 rfl (lv_at hl 0 rfl) ?_
    refine gf (k := 0) hx hb hts inX4 hown hK hP k_205 rfl (by decide) rfl 29 rfl (.ref (ad 6)) rfl dX4_searchFrom_50 ?_
    refine gf (k := 1) hx hb hts inX3 hown hK hP k_47 rfl (by decide) rfl 6 rfl (.int f3_equations) rfl dX4_searchFrom_53 ?_
    refine lv_icmp_ge (tgt := 71) hx hb dX4_searchFrom_56 (by decide) (fun c1 => ?_) (fun c1 => ?_)
    · have c1 := j_le (a := f3_equations.toInt) (b := L3.toInt) rfl rfl c1
      refine lv_iload_n hx hb dX4_searchFrom_71 rfl (lv_at hl 1 rfl) ?_
      refine lv_aload_n hx hb dX4_searchFrom_72 rfl (lv_at hl 0 rfl) ?_
      refine gf (k := 0) hx hb hts inX4 hown hK hP k_205 rfl (by decide) rfl 29 rfl (.ref (ad 6)) rfl dX4_searchFrom_73 ?_
      refine gf (k := 0) hx hb hts inX3 hown hK hP k_39 rfl (by decide) rfl 6 rfl (.int f3_unknowns) rfl dX4_searchFrom_76 ?_
      refine lv_iconst (v := 1) hx hb dX4_searchFrom_79 (by decide) ?_
      refine v_isub hx hb dX4_searchFrom_80 _ rfl ?_
      refine lv_topi (fun z2 e_z2 => ?_)
      have g_z2 : z2.toInt = f3_unknowns.toInt - 1 := by rw [e_z2]; exact n_sub (a := f3_unknowns.toInt) (b := 1) rfl (by decide +kernel) (by omega) (by omega)
      refine lv_icmp_ge (tgt := 93) hx hb dX4_searchFrom_81 (by decide) (fun c3 => ?_) (fun c3 => ?_)
      · have c3 := j_le (a := z2.toInt) (b := 1) rfl (by decide +kernel) c3
        refine lv_aload_n hx hb dX4_searchFrom_93 rfl (lv_at hl 0 rfl) ?_
        refine gf (k := 3) hx hb hts inX4 hown hK hP k_208 rfl (by decide) rfl 29 rfl (.ref (ad 32)) rfl dX4_searchFrom_94 ?_
        refine lv_iload_n hx hb dX4_searchFrom_97 rfl (lv_at hl 1 rfl) ?_
        refine va_iald hx hb hK hP 32 0 rfl rfl (vin (by decide +kernel)) dX4_searchFrom_98 ?_
        refine lv_topi (fun z4 e_z4 => ?_)
        have k_z4 : z4.toInt = (ai 32 1).toInt := by rw [e_z4]; rfl
        have g_z4 : -10 ≤ z4.toInt ∧ z4.toInt ≤ 2147483647 := by rw [e_z4]; exact IAX_at32 hI _
        refine lv_aload_n hx hb dX4_searchFrom_99 rfl (lv_at hl 0 rfl) ?_
        refine gf (k := 4) hx hb hts inX4 hown hK hP k_209 rfl (by decide) rfl 29 rfl (.ref (ad 33)) rfl dX4_searchFrom_100 ?_
        refine lv_iload_n hx hb dX4_searchFrom_103 rfl (lv_at hl 1 rfl) ?_
        refine va_iald hx hb hK hP 33 0 rfl rfl (vin (by decide +kernel)) dX4_searchFrom_104 ?_
        refine lv_topi (fun z5 e_z5 => ?_)
        have k_z5 : z5.toInt = (ai 33 1).toInt := by rw [e_z5]; rfl
        have g_z5 : -2147483648 ≤ z5.toInt ∧ z5.toInt ≤ 2147483646 := by rw [e_z5]; exact IAX_at33 hI _
        refine lv_icmp_gt (tgt := 126) hx hb dX4_searchFrom_105 (by decide) (fun c6 => ?_) (fun c6 => ?_)
        · have c6 := j_lt (a := z5.toInt) (b := z4.toInt) rfl rfl c6
          exact r2_v hx hb hr hk hS dX4_searchFrom_126 (fun t ht hW => ⟨f4_blockCount, ai, ⟨(by first | omega | decide | exact Or.inl (by decide) | exact Or.inr (by decide) | exact Or.inr (by omega)), (by first | omega | decide | exact Or.inl (by decide) | exact Or.inr (by decide) | exact Or.inr (by omega)), hI, hF⟩, by rw [ht]; exact hP, va_K.moved hW.alike hK, hD⟩)
        · have c6 := j_nlt (a := z5.toInt) (b := z4.toInt) rfl rfl c6
          refine lv_aload_n hx hb dX4_searchFrom_108 rfl (lv_at hl 0 rfl) ?_
          refine lv_iload_n hx hb dX4_searchFrom_109 rfl (lv_at hl 2 rfl) ?_
          refine lv_bipush (v := 21) hx hb dX4_searchFrom_110 (by decide) ?_
          refine v_imul hx hb dX4_searchFrom_112 _ rfl ?_
          refine lv_topi (fun z7 e_z7 => ?_)
          refine lv_aload_n hx hb dX4_searchFrom_113 rfl (lv_at hl 0 rfl) ?_
          refine gf (k := 3) hx hb hts inX4 hown hK hP k_208 rfl (by decide) rfl 29 rfl (.ref (ad 32)) rfl dX4_searchFrom_114 ?_
          refine lv_iload_n hx hb dX4_searchFrom_117 rfl (lv_at hl 1 rfl) ?_
          refine va_iald hx hb hK hP 32 0 rfl rfl (vin (by decide +kernel)) dX4_searchFrom_118 ?_
          refine lv_topi (fun z8 e_z8 => ?_)
          have k_z8 : z8.toInt = (ai 32 1).toInt := by rw [e_z8]; rfl
          have g_z8 : -10 ≤ z8.toInt ∧ z8.toInt ≤ 2147483647 := by rw [e_z8]; exact IAX_at32 hI _
          refine v_iadd hx hb dX4_searchFrom_119 _ rfl ?_
          refine lv_topi (fun z9 e_z9 => ?_)
          refine lv_bipush (v := 10) hx hb dX4_searchFrom_120 (by decide) ?_
          refine v_iadd hx hb dX4_searchFrom_122 _ rfl ?_
          refine lv_topi (fun z10 e_z10 => ?_)
          have hM := m072_X4_appendBlock l dC dI cI cJ cII cJJ H.size 0 ad f3_unknowns f3_equations f2_roundSupports f2_stale f7_size f1_size f5_keptSize f5_aheadSize f0_solved f4_blockCount f4_blockLength f4_lastIsFree f4_stale ai al w0 w1 w2 w3 z10 (by omega) (by omega) (by omega) (by omega) (by omega) (by omega) (by omega) (by omega) (by omega) (by omega) (by omega) hI hw_w0 hw_w1 hw_w2 hw_w3
          refine k2V_v (q0 := 29) ⟨hx, hb, hml, hown, hts⟩ hK hP hD hS hA hX cv_RX4_131 hM ⟨by decide +kernel, by decide +kernel⟩ rfl rfl (Or.inl rfl) (rest := []) rfl rfl rfl hl.1 rfl (Nat.le_of_ble_eq_true rfl) dX4_searchFrom_123 ⟨Nat.le_of_ble_eq_true rfl, Nat.le_of_ble_eq_true rfl⟩ (fun t H1 locs_1 ht hB hS_1 hFc => ?_)
          obtain ⟨v12, ai13, ⟨gpr11_0, gpr11_1, gpr11_2, gpr11_3, gpr11_4, hI_2, hFr_r11⟩, hP_2, -, hD_2⟩ := hB
          have hF_3 := FR_tr hF hFr_r11 (by decide)
          rw [ht] at hP_2
          have hD_4 := hD_2.weaken (B := A) (fun k q _ h9 => hFc q.1 h9)
          clear ht
          generalize H1 = H_5 at hP_2 hS_1 ⊢
          exact r2_v hx hb hr hk hS_1 dX4_searchFrom_126 (fun t ht hW => ⟨v12, ai13, ⟨(by first | omega | decide | exact Or.inl (by decide) | exact Or.inr (by decide) | exact Or.inr (by omega)), (by first | omega | decide | exact Or.inl (by decide) | exact Or.inr (by decide) | exact Or.inr (by omega)), hI_2, hF_3⟩, by rw [ht]; exact hP_2, va_K.moved hW.alike hK, hD_4⟩)
      · have c3 := j_nle (a := z2.toInt) (b := 1) rfl (by decide +kernel) c3
        refine lv_aload_n hx hb dX4_searchFrom_84 rfl (lv_at hl 0 rfl) ?_
        refine lv_iload_n hx hb dX4_searchFrom_85 rfl (lv_at hl 1 rfl) ?_
        refine lv_iload_n hx hb dX4_searchFrom_86 rfl (lv_at hl 2 rfl) ?_
        have kc1 : (1 : Int32).toInt = 1 := by decide +kernel
        have hM := m081_X4_tryNumbers l dC dI cI cJ cII cJJ H.size 0 ad f3_unknowns f3_equations f2_roundSupports f2_stale f7_size f1_size f5_keptSize f5_aheadSize f0_solved f4_blockCount f4_blockLength f4_lastIsFree f4_stale ai al w0 w1 w2 w3 L2 (by omega) (by omega) (by omega) (by omega) (by omega) (by omega) (by omega) (by omega) (by omega) (by omega) (by omega) hI hw_w0 hw_w1 hw_w2 hw_w3
        refine k2V_v (q0 := 29) ⟨hx, hb, hml, hown, hts⟩ hK hP hD hS hA hX cv_RX4_128 hM ⟨by decide +kernel, by decide +kernel⟩ rfl rfl (Or.inl rfl) (rest := []) rfl rfl rfl hl.1 rfl (Nat.le_of_ble_eq_true rfl) dX4_searchFrom_87 ⟨Nat.le_of_ble_eq_true rfl, Nat.le_of_ble_eq_true rfl⟩ (fun t H1 locs_6 ht hB hS_6 hFc => ?_)
        obtain ⟨v15, ai16, ⟨gpr14_0, gpr14_1, gpr14_2, hI_7, hFr_r14⟩, hP_7, -, hD_7⟩ := hB
        have hF_8 := FR_tr hF hFr_r14 (by decide)
        rw [ht] at hP_7
        have hD_9 := hD_7.weaken (B := A) (fun k q _ h9 => hFc q.1 h9)
        clear ht
        generalize H1 = H_10 at hP_7 hS_6 ⊢
        refine lv_goto (tgt := 126) hx hb dX4_searchFrom_90 (by decide) ?_
        exact r2_v hx hb hr hk hS_6 dX4_searchFrom_126 (fun t ht hW => ⟨v15, ai16, ⟨(by first | omega | decide | exact Or.inl (by decide) | exact Or.inr (by decide) | exact Or.inr (by omega)), (by first | omega | decide | exact Or.inl (by decide) | exact Or.inr (by decide) | exact Or.inr (by omega)), hI_7, hF_8⟩, by rw [ht]; exact hP_7, va_K.moved hW.alike hK, hD_9⟩)
    · have c1 := j_nle (a := f3_equations.toInt) (b := L3.toInt) rfl rfl c1
      refine lv_aload_n hx hb dX4_searchFrom_59 rfl (lv_at hl 0 rfl) ?_
      refine lv_iload_n hx hb dX4_searchFrom_60 rfl (lv_at hl 1 rfl) ?_
      refine lv_iload_n hx hb dX4_searchFrom_61 rfl (lv_at hl 3 rfl) ?_
      have kc1 : (1 : Int32).toInt = 1 := by decide +kernel
      have hM := m082_X4_narrow l dC dI cI cJ cII cJJ H.size 0 ad f3_unknowns f3_equations f2_roundSupports f2_stale f7_size f1_size f5_keptSize f5_aheadSize f0_solved f4_blockCount f4_blockLength f4_lastIsFree f4_stale ai al w0 w1 w2 w3 L3 (by omega) (by omega) (by omega) (by omega) (by omega) (by omega) (by omega) (by omega) (by omega) (by omega) (by omega) (by omega) hI hw_w0 hw_w1 hw_w2 hw_w3
      refine k2V_v (q0 := 29) ⟨hx, hb, hml, hown, hts⟩ hK hP hD hS hA hX cv_RX4_125 hM ⟨by decide +kernel, by decide +kernel⟩ rfl rfl (Or.inl rfl) (rest := []) rfl rfl rfl hl.1 rfl (Nat.le_of_ble_eq_true rfl) dX4_searchFrom_62 ⟨Nat.le_of_ble_eq_true rfl, Nat.le_of_ble_eq_true rfl⟩ (fun t H1 locs_11 ht hB hS_11 hFc => ?_)
      obtain ⟨ai18, ⟨gpr17_0, hI_12, hFr_r17⟩, hP_12, -, hD_12⟩ := hB
      have hF_13 := FR_tr hF hFr_r17 (by decide)
      rw [ht] at hP_12
      have hD_14 := hD_12.weaken (B := A) (fun k q _ h9 => hFc q.1 h9)
      clear ht
      generalize H1 = H_15 at hP_12 hS_11 ⊢
      obtain ⟨z19, e_z19⟩ : ∃ q : Int32, q = L3 + Int32.ofInt 1 := ⟨_, rfl⟩
      have g_z19 : z19.toInt = L3.toInt + 1 := by rw [e_z19]; exact n_add (a := L3.toInt) (b := 1) rfl (by decide +kernel) (by omega) (by omega)
      refine lv_iinc (v := z19) (lv' := [(3, .int z19), (0, .ref (ad 29)), (1, .int 1), (2, .int L2)]) hx hb dX4_searchFrom_65 hl (k := 3) rfl e_z19.symm (by decide) rfl (fun ls_16 hl_16 => ?_)
      refine lv_goto (tgt := 48) hx hb dX4_searchFrom_68 (by decide) ?_
      exact ih L2 z19 f4_blockCount ai18 _ _ _ (by omega) (by omega) (by omega) (by omega) (by omega) (by omega) (by omega) (by omega) (by omega) (by omega) (by omega) (by omega) (by omega) (by omega) (by omega) hI_12 hF_13 hw_w0 hw_w1 hw_w2 hw_w3 hP_12 hD_14 hS_11 (lv_sub hl_16 [1, 2, 3, 0] rfl)
set_option maxRecDepth 100000 in
set_option maxHeartbeats 4000000 in
theorem m083_X4_searchFrom (l : Launch) (dC : Nat → ClassId) (dI : Nat → Nat → Nat) (cI cJ cII cJJ : ClassId) (sz g : Nat) (ad : Nat → Nat) (f3_unknowns f3_equations f2_roundSupports f2_stale f7_size f1_size f5_keptSize f5_aheadSize f0_solved f4_blockCount f4_blockLength f4_lastIsFree f4_stale : Int32) (ai : Nat → Nat → Int32) (al : Nat → Nat → Int64) (w0 w1 w2 w3 : Nat) (x2 : Int32) (h_f3_unknowns : (1 ≤ f3_unknowns.toInt ∧ f3_unknowns.toInt ≤ 4)) (h_f3_equations : (0 ≤ f3_equations.toInt ∧ f3_equations.toInt ≤ 3)) (h_f2_stale : (0 ≤ f2_stale.toInt ∧ f2_stale.toInt ≤ 1)) (h_f7_size : (0 ≤ f7_size.toInt ∧ f7_size.toInt ≤ 256)) (h_f1_size : (0 ≤ f1_size.toInt ∧ f1_size.toInt ≤ 4)) (h_f5_keptSize : (0 ≤ f5_keptSize.toInt ∧ f5_keptSize.toInt ≤ 128)) (h_f5_aheadSize : (0 ≤ f5_aheadSize.toInt ∧ f5_aheadSize.toInt ≤ 128)) (h_f4_blockCount : (0 ≤ f4_blockCount.toInt ∧ f4_blockCount.toInt ≤ 9261)) (h_f4_blockLength : (0 ≤ f4_blockLength.toInt ∧ f4_blockLength.toInt ≤ 21)) (h_f4_lastIsFree : (0 ≤ f4_lastIsFree.toInt ∧ f4_lastIsFree.toInt ≤ 1)) (h_f4_stale : (0 ≤ f4_stale.toInt ∧ f4_stale.toInt ≤ 1)) (hI : IAX ai) (hw_w0 : RWX ad w0) (hw_w1 : RWX ad w1) (hw_w2 : RWX ad w2) (hw_w3 : RWX ad w3) : Met l yX4_searchFrom (.code yX4_searchFrom cX4_searchFrom 4 none :: TT) ({ frames := 8, cells := 0, slots := 0, locals := 440 } : Room) (PcS dC dI (TY cI cJ cII cJJ) [.ref (ad 29), .int 1, .int x2] (WX cI cJ cII cJJ ad f3_unknowns f3_equations f2_roundSupports f2_stale f7_size f1_size f5_keptSize f5_aheadSize f0_solved f4_blockCount f4_blockLength f4_lastIsFree f4_stale ai al w0 w1 w2 w3) sz 0 g) (Q_m083_X4_searchFrom dC dI cI cJ cII cJJ ad f3_unknowns f3_equations f2_roundSupports f2_stale f7_size f1_size f5_keptSize f5_aheadSize f0_solved f4_blockLength f4_lastIsFree f4_stale ai al w0 w1 w2 w3 (va_A (WX cI cJ cII cJJ ad f3_unknowns f3_equations f2_roundSupports f2_stale f7_size f1_size f5_keptSize f5_aheadSize f0_solved f4_blockCount f4_blockLength f4_lastIsFree f4_stale ai al w0 w1 w2 w3) sz)) 0 0 (va_A (WX cI cJ cII cJJ ad f3_unknowns f3_equations f2_roundSupports f2_stale f7_size f1_size f5_keptSize f5_aheadSize f0_solved f4_blockCount f4_blockLength f4_lastIsFree f4_stale ai al w0 w1 w2 w3) sz) := by
  refine SM.of (y := yX4_searchFrom) (maxL := 4) (av := [.ref (ad 29), .int 1, .int x2]) (Q_m083_X4_searchFrom dC dI cI cJ cII cJJ ad f3_unknowns f3_equations f2_roundSupports f2_stale f7_size f1_size f5_keptSize f5_aheadSize f0_solved f4_blockLength f4_lastIsFree f4_stale ai al w0 w1 w2 w3) (by decide +kernel) (Nat.le_of_ble_eq_true rfl) (fun p e s m below meth c A ls hx hb hr hml hown hts hk hnm hA hK hP hD hS hX hl => ?_)
  have C : Cx p c s m meth (([.ref (ad 29), .int 1, .int x2] : List Value).toArray) A dC dI (TY cI cJ cII cJJ) cX4_searchFrom none 4 RX4 0 g := ⟨hx, hb, hr, hml, hown, hts, hk, hA, hK, hX⟩
  have hown : s.vm.findClass RX4 = some m.cls := hown
  have hl : lv_has ls 4 [(0, .ref (ad 29)), (1, .int 1), (2, .int x2)] := hl
  obtain ⟨H, hH⟩ : ∃ q, q = s.heap := ⟨_, rfl⟩
  rw [← hH] at hP
  have hS : va_S A s.heap H [] := by rw [hH]; exact hS
  rw [← hH]
  have hF := FR_refl [30, 32, 33, 37, 38] ai
  have ra_x2 := s_any x2
  refine lv_iload_n hx hb dX4_searchFrom_0 rfl (lv_at hl 1 rfl) ?_
  refine f_if_lt hx hb dX4_searchFrom_1 15 (by decide) (by decide +kernel) ?_
  refine lv_iload_n hx hb dX4_searchFrom_4 rfl (lv_at hl 1 rfl) ?_
  refine lv_aload_n hx hb dX4_searchFrom_5 rfl (lv_at hl 0 rfl) ?_
  refine gf (k := 0) hx hb hts inX4 hown hK hP k_205 rfl (by decide) rfl 29 rfl (.ref (ad 6)) rfl dX4_searchFrom_6 ?_
  refine gf (k := 0) hx hb hts inX3 hown hK hP k_39 rfl (by decide) rfl 6 rfl (.int f3_unknowns) rfl dX4_searchFrom_9 ?_
  refine lv_icmp_lt (tgt := 16) hx hb dX4_searchFrom_12 (by decide) (fun c1 => ?_) (fun c1 => ?_)
  · have c1 := j_lt (a := 1) (b := f3_unknowns.toInt) (by decide +kernel) rfl c1
    refine lv_aload_n hx hb dX4_searchFrom_16 rfl (lv_at hl 0 rfl) ?_
    refine gf (k := 3) hx hb hts inX4 hown hK hP k_208 rfl (by decide) rfl 29 rfl (.ref (ad 32)) rfl dX4_searchFrom_17 ?_
    refine lv_iload_n hx hb dX4_searchFrom_20 rfl (lv_at hl 1 rfl) ?_
    refine lv_aload_n hx hb dX4_searchFrom_21 rfl (lv_at hl 0 rfl) ?_
    refine gf (k := 0) hx hb hts inX4 hown hK hP k_205 rfl (by decide) rfl 29 rfl (.ref (ad 6)) rfl dX4_searchFrom_22 ?_
    refine gf (k := 4) hx hb hts inX3 hown hK hP k_57 rfl (by decide) rfl 6 rfl (.ref (ad 7)) rfl dX4_searchFrom_25 ?_
    refine lv_iload_n hx hb dX4_searchFrom_28 rfl (lv_at hl 1 rfl) ?_
    refine va_iald hx hb hK hP 7 0 rfl rfl (vin (by decide +kernel)) dX4_searchFrom_29 ?_
    refine lv_topi (fun z2 e_z2 => ?_)
    have k_z2 : z2.toInt = (ai 7 1).toInt := by rw [e_z2]; rfl
    have g_z2 : -10 ≤ z2.toInt ∧ z2.toInt ≤ 10 := by rw [e_z2]; exact IAX_at7 hI _
    refine va_iast hx hb hK hP hD hS 32 0 rfl rfl (vin (by decide +kernel)) dX4_searchFrom_30 (fun H_1 locs_1 hP_1 hD_1 hS_1 => ?_)
    obtain ⟨ai3, e_ai3⟩ : ∃ q : Nat → Nat → Int32, q = va_up ai 32 (upd (ai 32) (1 : Int32).toNatClampNeg z2) := ⟨_, rfl⟩
    have hF_2 := FR_st hF e_ai3 (by decide)
    have ra_z2 := s_any z2
    have hI_3 : IAX ai3 := by rw [e_ai3]; exact IAX_st32 hI (a := z2.toInt) rfl (by omega) (by omega)
    have hP_4 : va_P (dC, dI) vwCl (WX cI cJ cII cJJ ad f3_unknowns f3_equations f2_roundSupports f2_stale f7_size f1_size f5_keptSize f5_aheadSize f0_solved f4_blockCount f4_blockLength f4_lastIsFree f4_stale ai3 al w0 w1 w2 w3) H_1 := by rw [e_ai3]; exact hP_1
    have hD_5 : va_D A (WX cI cJ cII cJJ ad f3_unknowns f3_equations f2_roundSupports f2_stale f7_size f1_size f5_keptSize f5_aheadSize f0_solved f4_blockCount f4_blockLength f4_lastIsFree f4_stale ai3 al w0 w1 w2 w3) := by rw [e_ai3]; exact hD_1
    have tk_ai3_33_0 : (ai3 33 0).toInt = (ai 33 0).toInt := by rw [e_ai3]; rfl
    refine lv_aload_n hx hb dX4_searchFrom_31 rfl (lv_at hl 0 rfl) ?_
    refine gf (k := 4) hx hb hts inX4 hown hK hP_4 k_209 rfl (by decide) rfl 29 rfl (.ref (ad 33)) rfl dX4_searchFrom_32 ?_
    refine lv_iload_n hx hb dX4_searchFrom_35 rfl (lv_at hl 1 rfl) ?_
    refine lv_aload_n hx hb dX4_searchFrom_36 rfl (lv_at hl 0 rfl) ?_
    refine gf (k := 0) hx hb hts inX4 hown hK hP_4 k_205 rfl (by decide) rfl 29 rfl (.ref (ad 6)) rfl dX4_searchFrom_37 ?_
    refine gf (k := 5) hx hb hts inX3 hown hK hP_4 k_61 rfl (by decide) rfl 6 rfl (.ref (ad 8)) rfl dX4_searchFrom_40 ?_
    refine lv_iload_n hx hb dX4_searchFrom_43 rfl (lv_at hl 1 rfl) ?_
    refine va_iald hx hb hK hP_4 8 0 rfl rfl (vin (by decide +kernel)) dX4_searchFrom_44 ?_
    refine lv_topi (fun z4 e_z4 => ?_)
    have k_z4 : z4.toInt = (ai3 8 1).toInt := by rw [e_z4]; rfl
    have g_z4 : -10 ≤ z4.toInt ∧ z4.toInt ≤ 10 := by rw [e_z4]; exact IAX_at8 hI_3 _
    refine va_iast hx hb hK hP_4 hD_5 hS_1 33 0 rfl rfl (vin (by decide +kernel)) dX4_searchFrom_45 (fun H_6 locs_6 hP_6 hD_6 hS_6 => ?_)
    obtain ⟨ai5, e_ai5⟩ : ∃ q : Nat → Nat → Int32, q = va_up ai3 33 (upd (ai3 33) (1 : Int32).toNatClampNeg z4) := ⟨_, rfl⟩
    have hF_7 := FR_st hF_2 e_ai5 (by decide)
    have ra_z4 := s_any z4
    have hI_8 : IAX ai5 := by rw [e_ai5]; exact IAX_st33 hI_3 (a := z4.toInt) rfl (by omega) (by omega)
    have hP_9 : va_P (dC, dI) vwCl (WX cI cJ cII cJJ ad f3_unknowns f3_equations f2_roundSupports f2_stale f7_size f1_size f5_keptSize f5_aheadSize f0_solved f4_blockCount f4_blockLength f4_lastIsFree f4_stale ai5 al w0 w1 w2 w3) H_6 := by rw [e_ai5]; exact hP_6
    have hD_10 : va_D A (WX cI cJ cII cJJ ad f3_unknowns f3_equations f2_roundSupports f2_stale f7_size f1_size f5_keptSize f5_aheadSize f0_solved f4_blockCount f4_blockLength f4_lastIsFree f4_stale ai5 al w0 w1 w2 w3) := by rw [e_ai5]; exact hD_6
    have tk_ai5_33_0 : (ai5 33 0).toInt = (ai3 33 0).toInt := by rw [e_ai5]; rfl
    refine lv_iconst (v := 0) hx hb dX4_searchFrom_46 (by decide) ?_
    refine lv_istore_n (lv' := [(3, .int 0), (0, .ref (ad 29)), (1, .int 1), (2, .int x2)]) hx hb dX4_searchFrom_47 rfl hl (by decide) rfl (fun ls_11 hl_11 => ?_)
    exact m083_X4_searchFrom_b48 C  _ x2 0 f4_blockCount ai5 _ _ _ (by first | omega | decide | (have ka0 := (by decide +kernel : (0 : Int32).toInt = 0); omega)) (by first | omega | decide | (have ka0 := (by decide +kernel : (0 : Int32).toInt = 0); omega)) (by first | omega | decide | (have ka0 := (by decide +kernel : (0 : Int32).toInt = 0); omega)) (by first | omega | decide | (have ka0 := (by decide +kernel : (0 : Int32).toInt = 0); omega)) (by first | omega | decide | (have ka0 := (by decide +kernel : (0 : Int32).toInt = 0); omega)) (by first | omega | decide | (have ka0 := (by decide +kernel : (0 : Int32).toInt = 0); omega)) (by first | omega | decide | (have ka0 := (by decide +kernel : (0 : Int32).toInt = 0); omega)) (by first | omega | decide | (have ka0 := (by decide +kernel : (0 : Int32).toInt = 0); omega)) (by first | omega | decide | (have ka0 := (by decide +kernel : (0 : Int32).toInt = 0); omega)) (by first | omega | decide | (have ka0 := (by decide +kernel : (0 : Int32).toInt = 0); omega)) (by first | omega | decide | (have ka0 := (by decide +kernel : (0 : Int32).toInt = 0); omega)) (by first | omega | decide | (have ka0 := (by decide +kernel : (0 : Int32).toInt = 0); omega)) (by first | omega | decide | (have ka0 := (by decide +kernel : (0 : Int32).toInt = 0); omega)) (j_fuel _) (by omega) hI_8 hF_7 hw_w0 hw_w1 hw_w2 hw_w3 hP_9 hD_10 hS_6 (lv_sub hl_11 [1, 2, 3, 0] rfl)
  · have c1 := j_nlt (a := 1) (b := f3_unknowns.toInt) (by decide +kernel) rfl c1
    exact r2_v hx hb hr hk hS dX4_searchFrom_15 (fun t ht hW => ⟨f4_blockCount, ai, ⟨(by first | omega | decide | exact Or.inl (by decide) | exact Or.inr (by decide) | exact Or.inr (by omega)), (by first | omega | decide | exact Or.inl (by decide) | exact Or.inr (by decide) | exact Or.inr (by omega)), hI, hF⟩, by rw [ht]; exact hP, va_K.moved hW.alike hK, hD⟩)
def Q_m084_X4_tryNumbers (dC : Nat → ClassId) (dI : Nat → Nat → Nat) (cI cJ cII cJJ : ClassId) (ad : Nat → Nat) (f3_unknowns f3_equations f2_roundSupports f2_stale f7_size f1_size f5_keptSize f5_aheadSize f0_solved f4_blockLength f4_lastIsFree f4_stale : Int32) (ai0 : Nat → Nat → Int32) (al : Nat → Nat → Int64) (w0 w1 w2 w3 : Nat) : (Nat → Prop) → Array Value → State → Outcome → State → Prop := fun A => QV (fun t => ∃ (n_f4_blockCount : Int32), ∃ (n_ai : Nat → Nat → Int32), ((0 ≤ n_f4_blockCount.toInt ∧ n_f4_blockCount.toInt ≤ 9261) ∧ (n_ai 33 0).toInt = (ai0 33 0).toInt ∧ IAX n_ai ∧ FR [30, 32, 33, 36, 37, 38] ai0 n_ai) ∧ WO dC dI (TY cI cJ cII cJJ) (WX cI cJ cII cJJ ad f3_unknowns f3_equations f2_roundSupports f2_stale f7_size f1_size f5_keptSize f5_aheadSize f0_solved n_f4_blockCount f4_blockLength f4_lastIsFree f4_stale n_ai al w0 w1 w2 w3) A t) A
set_option maxRecDepth 100000 in
set_option maxHeartbeats 4000000 in
theorem m084_X4_tryNumbers_b20 {p : Program} {l : Launch} {e : Env} {s : State} {m : MethodId} {args : Array Value} {below : List Frame} {meth : Method} {c : Code} {A : Nat → Prop} {dC : Nat → ClassId} {dI : Nat → Nat → Nat} {cI cJ cII cJJ : ClassId} {ad : Nat → Nat} {g : Nat} {f3_unknowns f3_equations f2_roundSupports f2_stale f7_size f1_size f5_keptSize f5_aheadSize f0_solved f4_blockLength f4_lastIsFree f4_stale : Int32} {ai0 : Nat → Nat → Int32} {al : Nat → Nat → Int64} {w0 w1 w2 w3 : Nat} (C : Cx p c s m meth args A dC dI (TY cI cJ cII cJJ) cX4_tryNumbers none 5 RX4 0 g) (n7 : Nat) (K7 : ∀ (L2 L3 f4_blockCount : Int32) (ai : Nat → Nat → Int32) (H : Heap) (locs : List Loc) (ls : Array Slot), -10 ≤ L3.toInt → (1 ≤ f3_unknowns.toInt ∧ f3_unknowns.toInt ≤ 4) → (0 ≤ f3_equations.toInt ∧ f3_equations.toInt ≤ 3) → (0 ≤ f2_stale.toInt ∧ f2_stale.toInt ≤ 1) → (0 ≤ f7_size.toInt ∧ f7_size.toInt ≤ 256) → (0 ≤ f1_size.toInt ∧ f1_size.toInt ≤ 4) → (0 ≤ f5_keptSize.toInt ∧ f5_keptSize.toInt ≤ 128) → (0 ≤ f5_aheadSize.toInt ∧ f5_aheadSize.toInt ≤ 128) → (0 ≤ f4_blockCount.toInt ∧ f4_blockCount.toInt ≤ 9261) → (0 ≤ f4_blockLength.toInt ∧ f4_blockLength.toInt ≤ 21) → (0 ≤ f4_lastIsFree.toInt ∧ f4_lastIsFree.toInt ≤ 1) → (0 ≤ f4_stale.toInt ∧ f4_stale.toInt ≤ 1) → (ai 33 0).toInt = (ai0 33 0).toInt → (ai 33 0).toInt + 1 - L3.toInt < (n7 : Int) → (0 : Int) < (n7 : Int) → IAX ai → FR [30, 32, 33, 36, 37, 38] ai0 ai → RWX ad w0 → RWX ad w1 → RWX ad w2 → RWX ad w3 → va_P (dC, dI) vwCl (WX cI cJ cII cJJ ad f3_unknowns f3_equations f2_roundSupports f2_stale f7_size f1_size f5_keptSize f5_aheadSize f0_solved f4_blockCount f4_blockLength f4_lastIsFree f4_stale ai al w0 w1 w2 w3) H → va_D A (WX cI cJ cII cJJ ad f3_unknowns f3_equations f2_roundSupports f2_stale f7_size f1_size f5_keptSize f5_aheadSize f0_solved f4_blockCount f4_blockLength f4_lastIsFree f4_stale ai al w0 w1 w2 w3) → va_S A s.heap H locs → lv_has ls 5 [(0, .ref (ad 29)), (1, .int 0), (2, .int L2), (3, .int L3)] → W p l e ({ frames := 9, cells := 0, slots := 0, locals := 500 } : Room) s m args below meth c H locs 0 0 (MQ below (Q_m084_X4_tryNumbers dC dI cI cJ cII cJJ ad f3_unknowns f3_equations f2_roundSupports f2_stale f7_size f1_size f5_keptSize f5_aheadSize f0_solved f4_blockLength f4_lastIsFree f4_stale ai0 al w0 w1 w2 w3 A) args s 0 0 A) (F0 m 7 ls [])) : ∀ (n : Nat), ∀ (L2 L3 L4 f4_blockCount : Int32) (ai : Nat → Nat → Int32) (H : Heap) (locs : List Loc) (ls : Array Slot), (-10 ≤ L3.toInt ∧ L3.toInt ≤ 2147483646) → (0 ≤ L4.toInt ∧ L4.toInt ≤ 3) → (1 ≤ f3_unknowns.toInt ∧ f3_unknowns.toInt ≤ 4) → (0 ≤ f3_equations.toInt ∧ f3_equations.toInt ≤ 3) → (0 ≤ f2_stale.toInt ∧ f2_stale.toInt ≤ 1) → (0 ≤ f7_size.toInt ∧ f7_size.toInt ≤ 256) → (0 ≤ f1_size.toInt ∧ f1_size.toInt ≤ 4) → (0 ≤ f5_keptSize.toInt ∧ f5_keptSize.toInt ≤ 128) → (0 ≤ f5_aheadSize.toInt ∧ f5_aheadSize.toInt ≤ 128) → (0 ≤ f4_blockCount.toInt ∧ f4_blockCount.toInt ≤ 9261) → (0 ≤ f4_blockLength.toInt ∧ f4_blockLength.toInt ≤ 21) → (0 ≤ f4_lastIsFree.toInt ∧ f4_lastIsFree.toInt ≤ 1) → (0 ≤ f4_stale.toInt ∧ f4_stale.toInt ≤ 1) → (ai 33 0).toInt = (ai0 33 0).toInt → L3.toInt ≤ (ai 33 0).toInt → (ai 33 0).toInt + 1 - L3.toInt ≤ (n7 : Int) → f3_equations.toInt - L4.toInt < (n : Int) → (0 : Int) < (n : Int) → IAX ai → FR [30, 32, 33, 36, 37, 38] ai0 ai → RWX ad w0 → RWX ad w1 → RWX ad w2 → RWX ad w3 → va_P (dC, dI) vwCl (WX cI cJ cII cJJ ad f3_unknowns f3_equations f2_roundSupports f2_stale f7_size f1_size f5_keptSize f5_aheadSize f0_solved f4_blockCount f4_blockLength f4_lastIsFree f4_stale ai al w0 w1 w2 w3) H → va_D A (WX cI cJ cII cJJ ad f3_unknowns f3_equations f2_roundSupports f2_stale f7_size f1_size f5_keptSize f5_aheadSize f0_solved f4_blockCount f4_blockLength f4_lastIsFree f4_stale ai al w0 w1 w2 w3) → va_S A s.heap H locs → lv_has ls 5 [(0, .ref (ad 29)), (1, .int 0), (2, .int L2), (3, .int L3), (4, .int L4)] → W p l e ({ frames := 9, cells := 0, slots := 0, locals := 500 } : Room) s m args below meth c H locs 0 0 (MQ below (Q_m084_X4_tryNumbers dC dI cI cJ cII cJJ ad f3_unknowns f3_equations f2_roundSupports f2_stale f7_size f1_size f5_keptSize f5_aheadSize f0_solved f4_blockLength f4_lastIsFree f4_stale ai0 al w0 w1 w2 w3 A) args s 0 0 A) (F0 m 20 ls []) := by
  obtain ⟨hx, hb, hr, hml, hown, hts, hk, hA, hK, hX⟩ := id C
  intro n
  induction n with
  | zero =>
    intro L2 L3 L4 f4_blockCount ai H locs ls h0 h1 h2 h3 h4 h5 h6 h7 h8 h9 h10 h11 h12 h13 h14 h15 h16 h17 hI hF hw_w0 hw_w1 hw_w2 hw_w3 hP hD hS hl
    exact absurd h17 (by omega)
  | succ n ih =>
    intro L2 L3 L4 f4_blockCount ai H locs ls h0 h1 h2 h3 h4 h5 h6 h7 h8 h9 h10 h11 h12 h13 h14 h15 h16 h17 hI hF hw_w0 hw_w1 hw_w2 hw_w3 hP hD hS hl
    have ra_L2 := s_any L2
    refine lv_iload hx hb dX4_tryNumbers_20 (lv_at hl 4 rfl) ?_
    refine lv_aload_n hx hb dX4_tryNumbers_22 rfl (lv_at hl 0 rfl) ?_
    refine gf (k := 0) hx hb hts inX4 hown hK hP k_205 rfl (by decide) rfl 29 rfl (.ref (ad 6)) rfl dX4_tryNumbers_23 ?_
    refine gf (k := 1) hx hb hts inX3 hown hK hP k_47 rfl (by decide) rfl 6 rfl (.int f3_equations) rfl dX4_tryNumbers_26 ?_
    refine lv_icmp_ge (tgt := 73) hx hb dX4_tryNumbers_29 (by decide) (fun c1 => ?_) (fun c1 => ?_)
    · have c1 := j_le (a := f3_equations.toInt) (b := L4.toInt) rfl rfl c1
      refine lv_aload_n hx hb dX4_tryNumbers_73 rfl (lv_at hl 0 rfl) ?_
      refine lv_iload_n hx hb dX4_tryNumbers_74 rfl (lv_at hl 1 rfl) ?_
      refine lv_iconst (v := 1) hx hb dX4_tryNumbers_75 (by decide) ?_
      refine v_iadd hx hb dX4_tryNumbers_76 1 (by decide +kernel) ?_
      refine lv_iload_n hx hb dX4_tryNumbers_77 rfl (lv_at hl 2 rfl) ?_
      refine lv_bipush (v := 21) hx hb dX4_tryNumbers_78 (by decide) ?_
      refine v_imul hx hb dX4_tryNumbers_80 _ rfl ?_
      refine lv_topi (fun z2 e_z2 => ?_)
      refine lv_iload_n hx hb dX4_tryNumbers_81 rfl (lv_at hl 3 rfl) ?_
      refine v_iadd hx hb dX4_tryNumbers_82 _ rfl ?_
      refine lv_topi (fun z3 e_z3 => ?_)
      refine lv_bipush (v := 10) hx hb dX4_tryNumbers_83 (by decide) ?_
      refine v_iadd hx hb dX4_tryNumbers_85 _ rfl ?_
      refine lv_topi (fun z4 e_z4 => ?_)
      have kc1 : (1 : Int32).toInt = 1 := by decide +kernel
      have hM := m083_X4_searchFrom l dC dI cI cJ cII cJJ H.size 0 ad f3_unknowns f3_equations f2_roundSupports f2_stale f7_size f1_size f5_keptSize f5_aheadSize f0_solved f4_blockCount f4_blockLength f4_lastIsFree f4_stale ai al w0 w1 w2 w3 z4 (by omega) (by omega) (by omega) (by omega) (by omega) (by omega) (by omega) (by omega) (by omega) (by omega) (by omega) hI hw_w0 hw_w1 hw_w2 hw_w3
      refine k2V_v (q0 := 29) ⟨hx, hb, hml, hown, hts⟩ hK hP hD hS hA hX cv_RX4_77 hM ⟨by decide +kernel, by decide +kernel⟩ rfl rfl (Or.inl rfl) (rest := []) rfl rfl rfl hl.1 rfl (Nat.le_of_ble_eq_true rfl) dX4_tryNumbers_86 ⟨Nat.le_of_ble_eq_true rfl, Nat.le_of_ble_eq_true rfl⟩ (fun t H1 locs_1 ht hB hS_1 hFc => ?_)
      obtain ⟨v6, ai7, ⟨gpr5_0, gpr5_1, hI_2, hFr_r5⟩, hP_2, -, hD_2⟩ := hB
      have hF_3 := FR_tr hF hFr_r5 (by decide)
      rw [ht] at hP_2
      have hD_4 := hD_2.weaken (B := A) (fun k q _ h9 => hFc q.1 h9)
      clear ht
      generalize H1 = H_5 at hP_2 hS_1 ⊢
      obtain ⟨z8, e_z8⟩ : ∃ q : Int32, q = L3 + Int32.ofInt 1 := ⟨_, rfl⟩
      have g_z8 : z8.toInt = L3.toInt + 1 := by rw [e_z8]; exact n_add (a := L3.toInt) (b := 1) rfl (by decide +kernel) (by omega) (by omega)
      refine lv_iinc (v := z8) (lv' := [(3, .int z8), (0, .ref (ad 29)), (1, .int 0), (2, .int L2), (4, .int L4)]) hx hb dX4_tryNumbers_89 hl (k := 3) rfl e_z8.symm (by decide) rfl (fun ls_6 hl_6 => ?_)
      refine lv_goto (tgt := 7) hx hb dX4_tryNumbers_92 (by decide) ?_
      exact K7 L2 z8 v6 ai7 _ _ _ (by omega) (by omega) (by omega) (by omega) (by omega) (by omega) (by omega) (by omega) (by omega) (by omega) (by omega) (by omega) (by omega) (by omega) (by omega) hI_2 hF_3 hw_w0 hw_w1 hw_w2 hw_w3 hP_2 hD_4 hS_1 (lv_sub hl_6 [1, 2, 3, 0] rfl)
    · have c1 := j_nle (a := f3_equations.toInt) (b := L4.toInt) rfl rfl c1
      refine lv_aload_n hx hb dX4_tryNumbers_32 rfl (lv_at hl 0 rfl) ?_
      refine gf (k := 5) hx hb hts inX4 hown hK hP k_210 rfl (by decide) rfl 29 rfl (.ref (ad 34)) rfl dX4_tryNumbers_33 ?_
      refine lv_iload_n hx hb dX4_tryNumbers_36 rfl (lv_at hl 1 rfl) ?_
      refine lv_iconst (v := 1) hx hb dX4_tryNumbers_37 (by decide) ?_
      refine v_iadd hx hb dX4_tryNumbers_38 1 (by decide +kernel) ?_
      refine ld_a hx hb hK hP 34 2 rfl rfl (vin (by decide +kernel)) dX4_tryNumbers_39 (ad 36) rfl ?_
      refine lv_iload hx hb dX4_tryNumbers_40 (lv_at hl 4 rfl) ?_
      refine lv_aload_n hx hb dX4_tryNumbers_42 rfl (lv_at hl 0 rfl) ?_
      refine gf (k := 5) hx hb hts inX4 hown hK hP k_210 rfl (by decide) rfl 29 rfl (.ref (ad 34)) rfl dX4_tryNumbers_43 ?_
      refine lv_iload_n hx hb dX4_tryNumbers_46 rfl (lv_at hl 1 rfl) ?_
      refine ld_a hx hb hK hP 34 2 rfl rfl (vin (by decide +kernel)) dX4_tryNumbers_47 (ad 35) rfl ?_
      refine lv_iload hx hb dX4_tryNumbers_48 (lv_at hl 4 rfl) ?_
      refine va_iald hx hb hK hP 35 0 rfl rfl (j_in (a := L4.toInt) rfl (by omega) (by omega)) dX4_tryNumbers_50 ?_
      refine lv_topi (fun z9 e_z9 => ?_)
      refine lv_aload_n hx hb dX4_tryNumbers_51 rfl (lv_at hl 0 rfl) ?_
      refine gf (k := 0) hx hb hts inX4 hown hK hP k_205 rfl (by decide) rfl 29 rfl (.ref (ad 6)) rfl dX4_tryNumbers_52 ?_
      refine gf (k := 2) hx hb hts inX3 hown hK hP k_52 rfl (by decide) rfl 6 rfl (.ref (ad 1)) rfl dX4_tryNumbers_55 ?_
      refine lv_iload hx hb dX4_tryNumbers_58 (lv_at hl 4 rfl) ?_
      rcases (show L4 = 0 ∨ L4 = 1 ∨ L4 = 2 from j_cases3 (a := L4.toInt) rfl (by omega) (by omega)) with rfl | rfl | rfl
      · have k9 : (0 : Int32).toInt = 0 := by decide +kernel
        refine ld_a hx hb hK hP 1 2 rfl rfl (vin (by decide +kernel)) dX4_tryNumbers_60 (ad 2) rfl ?_
        refine lv_iload_n hx hb dX4_tryNumbers_61 rfl (lv_at hl 1 rfl) ?_
        refine va_iald hx hb hK hP 2 0 rfl rfl (vin (by decide +kernel)) dX4_tryNumbers_62 ?_
        refine lv_topi (fun z10 e_z10 => ?_)
        have k_z10 : z10.toInt = (ai 2 0).toInt := by rw [e_z10]; rfl
        have g_z10 : -6 ≤ z10.toInt ∧ z10.toInt ≤ 6 := by rw [e_z10]; exact IAX_at2 hI _
        refine lv_iload_n hx hb dX4_tryNumbers_63 rfl (lv_at hl 3 rfl) ?_
        refine v_imul hx hb dX4_tryNumbers_64 _ rfl ?_
        refine lv_topi (fun z11 e_z11 => ?_)
        refine v_isub hx hb dX4_tryNumbers_65 _ rfl ?_
        refine lv_topi (fun z12 e_z12 => ?_)
        refine va_iast hx hb hK hP hD hS 36 0 rfl rfl (vin (by decide +kernel)) dX4_tryNumbers_66 (fun H_7 locs_7 hP_7 hD_7 hS_7 => ?_)
        obtain ⟨ai13, e_ai13⟩ : ∃ q : Nat → Nat → Int32, q = va_up ai 36 (upd (ai 36) (0 : Int32).toNatClampNeg z12) := ⟨_, rfl⟩
        have hF_8 := FR_st hF e_ai13 (by decide)
        have hI_9 : IAX ai13 := by rw [e_ai13]; exact hI
        have hP_10 : va_P (dC, dI) vwCl (WX cI cJ cII cJJ ad f3_unknowns f3_equations f2_roundSupports f2_stale f7_size f1_size f5_keptSize f5_aheadSize f0_solved f4_blockCount f4_blockLength f4_lastIsFree f4_stale ai13 al w0 w1 w2 w3) H_7 := by rw [e_ai13]; exact hP_7
        have hD_11 : va_D A (WX cI cJ cII cJJ ad f3_unknowns f3_equations f2_roundSupports f2_stale f7_size f1_size f5_keptSize f5_aheadSize f0_solved f4_blockCount f4_blockLength f4_lastIsFree f4_stale ai13 al w0 w1 w2 w3) := by rw [e_ai13]; exact hD_7
        have tk_ai13_33_0 : (ai13 33 0).toInt = (ai 33 0).toInt := by rw [e_ai13]; rfl
        obtain ⟨z14, e_z14⟩ : ∃ q : Int32, q = 0 + Int32.ofInt 1 := ⟨_, rfl⟩
        have g_z14 : z14.toInt = 0 + 1 := by rw [e_z14]; exact n_add (a := 0) (b := 1) (by decide +kernel) (by decide +kernel) (by omega) (by omega)
        refine lv_iinc (v := z14) (lv' := [(4, .int z14), (0, .ref (ad 29)), (1, .int 0), (2, .int L2), (3, .int L3)]) hx hb dX4_tryNumbers_67 hl (k := 4) rfl e_z14.symm (by decide) rfl (fun ls_12 hl_12 => ?_)
        refine lv_goto (tgt := 20) hx hb dX4_tryNumbers_70 (by decide) ?_
        exact ih L2 L3 z14 f4_blockCount ai13 _ _ _ (by omega) (by omega) (by omega) (by omega) (by omega) (by omega) (by omega) (by omega) (by omega) (by omega) (by omega) (by omega) (by omega) (by omega) (by omega) (by omega) (by omega) (by omega) hI_9 hF_8 hw_w0 hw_w1 hw_w2 hw_w3 hP_10 hD_11 hS_7 (lv_sub hl_12 [1, 2, 3, 4, 0] rfl)
      · have k9 : (1 : Int32).toInt = 1 := by decide +kernel
        refine ld_a hx hb hK hP 1 2 rfl rfl (vin (by decide +kernel)) dX4_tryNumbers_60 (ad 3) rfl ?_
        refine lv_iload_n hx hb dX4_tryNumbers_61 rfl (lv_at hl 1 rfl) ?_
        refine va_iald hx hb hK hP 3 0 rfl rfl (vin (by decide +kernel)) dX4_tryNumbers_62 ?_
        refine lv_topi (fun z15 e_z15 => ?_)
        have k_z15 : z15.toInt = (ai 3 0).toInt := by rw [e_z15]; rfl
        have g_z15 : -6 ≤ z15.toInt ∧ z15.toInt ≤ 6 := by rw [e_z15]; exact IAX_at3 hI _
        refine lv_iload_n hx hb dX4_tryNumbers_63 rfl (lv_at hl 3 rfl) ?_
        refine v_imul hx hb dX4_tryNumbers_64 _ rfl ?_
        refine lv_topi (fun z16 e_z16 => ?_)
        refine v_isub hx hb dX4_tryNumbers_65 _ rfl ?_
        refine lv_topi (fun z17 e_z17 => ?_)
        refine va_iast hx hb hK hP hD hS 36 0 rfl rfl (vin (by decide +kernel)) dX4_tryNumbers_66 (fun H_13 locs_13 hP_13 hD_13 hS_13 => ?_)
        obtain ⟨ai18, e_ai18⟩ : ∃ q : Nat → Nat → Int32, q = va_up ai 36 (upd (ai 36) (1 : Int32).toNatClampNeg z17) := ⟨_, rfl⟩
        have hF_14 := FR_st hF e_ai18 (by decide)
        have hI_15 : IAX ai18 := by rw [e_ai18]; exact hI
        have hP_16 : va_P (dC, dI) vwCl (WX cI cJ cII cJJ ad f3_unknowns f3_equations f2_roundSupports f2_stale f7_size f1_size f5_keptSize f5_aheadSize f0_solved f4_blockCount f4_blockLength f4_lastIsFree f4_stale ai18 al w0 w1 w2 w3) H_13 := by rw [e_ai18]; exact hP_13
        have hD_17 : va_D A (WX cI cJ cII cJJ ad f3_unknowns f3_equations f2_roundSupports f2_stale f7_size f1_size f5_keptSize f5_aheadSize f0_solved f4_blockCount f4_blockLength f4_lastIsFree f4_stale ai18 al w0 w1 w2 w3) := by rw [e_ai18]; exact hD_13
        have tk_ai18_33_0 : (ai18 33 0).toInt = (ai 33 0).toInt := by rw [e_ai18]; rfl
        obtain ⟨z19, e_z19⟩ : ∃ q : Int32, q = 1 + Int32.ofInt 1 := ⟨_, rfl⟩
        have g_z19 : z19.toInt = 1 + 1 := by rw [e_z19]; exact n_add (a := 1) (b := 1) (by decide +kernel) (by decide +kernel) (by omega) (by omega)
        refine lv_iinc (v := z19) (lv' := [(4, .int z19), (0, .ref (ad 29)), (1, .int 0), (2, .int L2), (3, .int L3)]) hx hb dX4_tryNumbers_67 hl (k := 4) rfl e_z19.symm (by decide) rfl (fun ls_18 hl_18 => ?_)
        refine lv_goto (tgt := 20) hx hb dX4_tryNumbers_70 (by decide) ?_
        exact ih L2 L3 z19 f4_blockCount ai18 _ _ _ (by omega) (by omega) (by omega) (by omega) (by omega) (by omega) (by omega) (by omega) (by omega) (by omega) (by omega) (by omega) (by omega) (by omega) (by omega) (by omega) (by omega) (by omega) hI_15 hF_14 hw_w0 hw_w1 hw_w2 hw_w3 hP_16 hD_17 hS_13 (lv_sub hl_18 [1, 2, 3, 4, 0] rfl)
      · have k9 : (2 : Int32).toInt = 2 := by decide +kernel
        refine ld_a hx hb hK hP 1 2 rfl rfl (vin (by decide +kernel)) dX4_tryNumbers_60 (ad 4) rfl ?_
        refine lv_iload_n hx hb dX4_tryNumbers_61 rfl (lv_at hl 1 rfl) ?_
        refine va_iald hx hb hK hP 4 0 rfl rfl (vin (by decide +kernel)) dX4_tryNumbers_62 ?_
        refine lv_topi (fun z20 e_z20 => ?_)
        have k_z20 : z20.toInt = (ai 4 0).toInt := by rw [e_z20]; rfl
        have g_z20 : -6 ≤ z20.toInt ∧ z20.toInt ≤ 6 := by rw [e_z20]; exact IAX_at4 hI _
        refine lv_iload_n hx hb dX4_tryNumbers_63 rfl (lv_at hl 3 rfl) ?_
        refine v_imul hx hb dX4_tryNumbers_64 _ rfl ?_
        refine lv_topi (fun z21 e_z21 => ?_)
        refine v_isub hx hb dX4_tryNumbers_65 _ rfl ?_
        refine lv_topi (fun z22 e_z22 => ?_)
        refine va_iast hx hb hK hP hD hS 36 0 rfl rfl (vin (by decide +kernel)) dX4_tryNumbers_66 (fun H_19 locs_19 hP_19 hD_19 hS_19 => ?_)
        obtain ⟨ai23, e_ai23⟩ : ∃ q : Nat → Nat → Int32, q = va_up ai 36 (upd (ai 36) (2 : Int32).toNatClampNeg z22) := ⟨_, rfl⟩
        have hF_20 := FR_st hF e_ai23 (by decide)
        have hI_21 : IAX ai23 := by rw [e_ai23]; exact hI
        have hP_22 : va_P (dC, dI) vwCl (WX cI cJ cII cJJ ad f3_unknowns f3_equations f2_roundSupports f2_stale f7_size f1_size f5_keptSize f5_aheadSize f0_solved f4_blockCount f4_blockLength f4_lastIsFree f4_stale ai23 al w0 w1 w2 w3) H_19 := by rw [e_ai23]; exact hP_19
        have hD_23 : va_D A (WX cI cJ cII cJJ ad f3_unknowns f3_equations f2_roundSupports f2_stale f7_size f1_size f5_keptSize f5_aheadSize f0_solved f4_blockCount f4_blockLength f4_lastIsFree f4_stale ai23 al w0 w1 w2 w3) := by rw [e_ai23]; exact hD_19
        have tk_ai23_33_0 : (ai23 33 0).toInt = (ai 33 0).toInt := by rw [e_ai23]; rfl
        obtain ⟨z24, e_z24⟩ : ∃ q : Int32, q = 2 + Int32.ofInt 1 := ⟨_, rfl⟩
        have g_z24 : z24.toInt = 2 + 1 := by rw [e_z24]; exact n_add (a := 2) (b := 1) (by decide +kernel) (by decide +kernel) (by omega) (by omega)
        refine lv_iinc (v := z24) (lv' := [(4, .int z24), (0, .ref (ad 29)), (1, .int 0), (2, .int L2), (3, .int L3)]) hx hb dX4_tryNumbers_67 hl (k := 4) rfl e_z24.symm (by decide) rfl (fun ls_24 hl_24 => ?_)
        refine lv_goto (tgt := 20) hx hb dX4_tryNumbers_70 (by decide) ?_
        exact ih L2 L3 z24 f4_blockCount ai23 _ _ _ (by omega) (by omega) (by omega) (by omega) (by omega) (by omega) (by omega) (by omega) (by omega) (by omega) (by omega) (by omega) (by omega) (by omega) (by omega) (by omega) (by omega) (by omega) hI_21 hF_20 hw_w0 hw_w1 hw_w2 hw_w3 hP_22 hD_23 hS_19 (lv_sub hl_24 [1, 2, 3, 4, 0] rfl)
set_option maxRecDepth 100000 in
set_option maxHeartbeats 4000000 in
theorem m084_X4_tryNumbers_b7 {p : Program} {l : Launch} {e : Env} {s : State} {m : MethodId} {args : Array Value} {below : List Frame} {meth : Method} {c : Code} {A : Nat → Prop} {dC : Nat → ClassId} {dI : Nat → Nat → Nat} {cI cJ cII cJJ : ClassId} {ad : Nat → Nat} {g : Nat} {f3_unknowns f3_equations f2_roundSupports f2_stale f7_size f1_size f5_keptSize f5_aheadSize f0_solved f4_blockLength f4_lastIsFree f4_stale : Int32} {ai0 : Nat → Nat → Int32} {al : Nat → Nat → Int64} {w0 w1 w2 w3 : Nat} (C : Cx p c s m meth args A dC dI (TY cI cJ cII cJJ) cX4_tryNumbers none 5 RX4 0 g) : ∀ (n : Nat), ∀ (L2 L3 f4_blockCount : Int32) (ai : Nat → Nat → Int32) (H : Heap) (locs : List Loc) (ls : Array Slot), -10 ≤ L3.toInt → (1 ≤ f3_unknowns.toInt ∧ f3_unknowns.toInt ≤ 4) → (0 ≤ f3_equations.toInt ∧ f3_equations.toInt ≤ 3) → (0 ≤ f2_stale.toInt ∧ f2_stale.toInt ≤ 1) → (0 ≤ f7_size.toInt ∧ f7_size.toInt ≤ 256) → (0 ≤ f1_size.toInt ∧ f1_size.toInt ≤ 4) → (0 ≤ f5_keptSize.toInt ∧ f5_keptSize.toInt ≤ 128) → (0 ≤ f5_aheadSize.toInt ∧ f5_aheadSize.toInt ≤ 128) → (0 ≤ f4_blockCount.toInt ∧ f4_blockCount.toInt ≤ 9261) → (0 ≤ f4_blockLength.toInt ∧ f4_blockLength.toInt ≤ 21) → (0 ≤ f4_lastIsFree.toInt ∧ f4_lastIsFree.toInt ≤ 1) → (0 ≤ f4_stale.toInt ∧ f4_stale.toInt ≤ 1) → (ai 33 0).toInt = (ai0 33 0).toInt → (ai 33 0).toInt + 1 - L3.toInt < (n : Int) → (0 : Int) < (n : Int) → IAX ai → FR [30, 32, 33, 36, 37, 38] ai0 ai → RWX ad w0 → RWX ad w1 → RWX ad w2 → RWX ad w3 → va_P (dC, dI) vwCl (WX cI cJ cII cJJ ad f3_unknowns f3_equations f2_roundSupports f2_stale f7_size f1_size f5_keptSize f5_aheadSize f0_solved f4_blockCount f4_blockLength f4_lastIsFree f4_stale ai al w0 w1 w2 w3) H → va_D A (WX cI cJ cII cJJ ad f3_unknowns f3_equations f2_roundSupports f2_stale f7_size f1_size f5_keptSize f5_aheadSize f0_solved f4_blockCount f4_blockLength f4_lastIsFree f4_stale ai al w0 w1 w2 w3) → va_S A s.heap H locs → lv_has ls 5 [(0, .ref (ad 29)), (1, .int 0), (2, .int L2), (3, .int L3)] → W p l e ({ frames := 9, cells := 0, slots := 0, locals := 500 } : Room) s m args below meth c H locs 0 0 (MQ below (Q_m084_X4_tryNumbers dC dI cI cJ cII cJJ ad f3_unknowns f3_equations f2_roundSupports f2_stale f7_size f1_size f5_keptSize f5_aheadSize f0_solved f4_blockLength f4_lastIsFree f4_stale ai0 al w0 w1 w2 w3 A) args s 0 0 A) (F0 m 7 ls []) := by
  obtain ⟨hx, hb, hr, hml, hown, hts, hk, hA, hK, hX⟩ := id C
  intro n
  induction n with
  | zero =>
    intro L2 L3 f4_blockCount ai H locs ls h0 h1 h2 h3 h4 h5 h6 h7 h8 h9 h10 h11 h12 h13 h14 hI hF hw_w0 hw_w1 hw_w2 hw_w3 hP hD hS hl
    exact absurd h14 (by omega)
  | succ n ih =>
    intro L2 L3 f4_blockCount ai H locs ls h0 h1 h2 h3 h4 h5 h6 h7 h8 h9 h10 h11 h12 h13 h14 hI hF hw_w0 hw_w1 hw_w2 hw_w3 hP hD hS hl
    have ra_L2 := s_any L2
    have ra_L3 := s_any L3
    refine lv_iload_n hx hb dX4_tryNumbers_7 rfl (lv_at hl 3 rfl) ?_
    refine lv_aload_n hx hb dX4_tryNumbers_8 rfl (lv_at hl 0 rfl) ?_
    refine gf (k := 4) hx hb hts inX4 hown hK hP k_209 rfl (by decide) rfl 29 rfl (.ref (ad 33)) rfl dX4_tryNumbers_9 ?_
    refine lv_iload_n hx hb dX4_tryNumbers_12 rfl (lv_at hl 1 rfl) ?_
    refine va_iald hx hb hK hP 33 0 rfl rfl (vin (by decide +kernel)) dX4_tryNumbers_13 ?_
    refine lv_topi (fun z1 e_z1 => ?_)
    have k_z1 : z1.toInt = (ai 33 0).toInt := by rw [e_z1]; rfl
    have g_z1 : -2147483648 ≤ z1.toInt ∧ z1.toInt ≤ 2147483646 := by rw [e_z1]; exact IAX_at33 hI _
    refine lv_icmp_gt (tgt := 95) hx hb dX4_tryNumbers_14 (by decide) (fun c2 => ?_) (fun c2 => ?_)
    · have c2 := j_lt (a := z1.toInt) (b := L3.toInt) rfl rfl c2
      exact r2_v hx hb hr hk hS dX4_tryNumbers_95 (fun t ht hW => ⟨f4_blockCount, ai, ⟨(by first | omega | decide | exact Or.inl (by decide) | exact Or.inr (by decide) | exact Or.inr (by omega)), (by first | omega | decide | exact Or.inl (by decide) | exact Or.inr (by decide) | exact Or.inr (by omega)), hI, hF⟩, by rw [ht]; exact hP, va_K.moved hW.alike hK, hD⟩)
    · have c2 := j_nlt (a := z1.toInt) (b := L3.toInt) rfl rfl c2
      refine lv_iconst (v := 0) hx hb dX4_tryNumbers_17 (by decide) ?_
      refine lv_istore (lv' := [(4, .int 0), (0, .ref (ad 29)), (1, .int 0), (2, .int L2), (3, .int L3)]) hx hb dX4_tryNumbers_18 hl (by decide) rfl (fun ls_1 hl_1 => ?_)
      exact m084_X4_tryNumbers_b20 C n ih _ L2 L3 0 f4_blockCount ai _ _ _ (by first | omega | decide | (have ka0 := (by decide +kernel : (0 : Int32).toInt = 0); omega)) (by first | omega | decide | (have ka0 := (by decide +kernel : (0 : Int32).toInt = 0); omega)) (by first | omega | decide | (have ka0 := (by decide +kernel : (0 : Int32).toInt = 0); omega)) (by first | omega | decide | (have ka0 := (by decide +kernel : (0 : Int32).toInt = 0); omega)) (by first | omega | decide | (have ka0 := (by decide +kernel : (0 : Int32).toInt = 0); omega)) (by first | omega | decide | (have ka0 := (by decide +kernel : (0 : Int32).toInt = 0); omega)) (by first | omega | decide | (have ka0 := (by decide +kernel : (0 : Int32).toInt = 0); omega)) (by first | omega | decide | (have ka0 := (by decide +kernel : (0 : Int32).toInt = 0); omega)) (by first | omega | decide | (have ka0 := (by decide +kernel : (0 : Int32).toInt = 0); omega)) (by first | omega | decide | (have ka0 := (by decide +kernel : (0 : Int32).toInt = 0); omega)) (by first | omega | decide | (have ka0 := (by decide +kernel : (0 : Int32).toInt = 0); omega)) (by first | omega | decide | (have ka0 := (by decide +kernel : (0 : Int32).toInt = 0); omega)) (by first | omega | decide | (have ka0 := (by decide +kernel : (0 : Int32).toInt = 0); omega)) (by first | omega | decide | (have ka0 := (by decide +kernel : (0 : Int32).toInt = 0); omega)) (by first | omega | decide | (have ka0 := (by decide +kernel : (0 : Int32).toInt = 0); omega)) (by first | omega | decide | (have ka0 := (by decide +kernel : (0 : Int32).toInt = 0); omega)) (j_fuel _) (by omega) hI hF hw_w0 hw_w1 hw_w2 hw_w3 hP hD hS (lv_sub hl_1 [1, 2, 3, 4, 0] rfl)
set_option maxRecDepth 100000 in
set_option maxHeartbeats 4000000 in
theorem m084_X4_tryNumbers (l : Launch) (dC : Nat → ClassId) (dI : Nat → Nat → Nat) (cI cJ cII cJJ : ClassId) (sz g : Nat) (ad : Nat → Nat) (f3_unknowns f3_equations f2_roundSupports f2_stale f7_size f1_size f5_keptSize f5_aheadSize f0_solved f4_blockCount f4_blockLength f4_lastIsFree f4_stale : Int32) (ai : Nat → Nat → Int32) (al : Nat → Nat → Int64) (w0 w1 w2 w3 : Nat) (x2 : Int32) (h_f3_unknowns : (1 ≤ f3_unknowns.toInt ∧ f3_unknowns.toInt ≤ 4)) (h_f3_equations : (0 ≤ f3_equations.toInt ∧ f3_equations.toInt ≤ 3)) (h_f2_stale : (0 ≤ f2_stale.toInt ∧ f2_stale.toInt ≤ 1)) (h_f7_size : (0 ≤ f7_size.toInt ∧ f7_size.toInt ≤ 256)) (h_f1_size : (0 ≤ f1_size.toInt ∧ f1_size.toInt ≤ 4)) (h_f5_keptSize : (0 ≤ f5_keptSize.toInt ∧ f5_keptSize.toInt ≤ 128)) (h_f5_aheadSize : (0 ≤ f5_aheadSize.toInt ∧ f5_aheadSize.toInt ≤ 128)) (h_f4_blockCount : (0 ≤ f4_blockCount.toInt ∧ f4_blockCount.toInt ≤ 9261)) (h_f4_blockLength : (0 ≤ f4_blockLength.toInt ∧ f4_blockLength.toInt ≤ 21)) (h_f4_lastIsFree : (0 ≤ f4_lastIsFree.toInt ∧ f4_lastIsFree.toInt ≤ 1)) (h_f4_stale : (0 ≤ f4_stale.toInt ∧ f4_stale.toInt ≤ 1)) (hI : IAX ai) (hw_w0 : RWX ad w0) (hw_w1 : RWX ad w1) (hw_w2 : RWX ad w2) (hw_w3 : RWX ad w3) : Met l yX4_tryNumbers (.code yX4_tryNumbers cX4_tryNumbers 5 none :: TT) ({ frames := 9, cells := 0, slots := 0, locals := 500 } : Room) (PcS dC dI (TY cI cJ cII cJJ) [.ref (ad 29), .int 0, .int x2] (WX cI cJ cII cJJ ad f3_unknowns f3_equations f2_roundSupports f2_stale f7_size f1_size f5_keptSize f5_aheadSize f0_solved f4_blockCount f4_blockLength f4_lastIsFree f4_stale ai al w0 w1 w2 w3) sz 0 g) (Q_m084_X4_tryNumbers dC dI cI cJ cII cJJ ad f3_unknowns f3_equations f2_roundSupports f2_stale f7_size f1_size f5_keptSize f5_aheadSize f0_solved f4_blockLength f4_lastIsFree f4_stale ai al w0 w1 w2 w3 (va_A (WX cI cJ cII cJJ ad f3_unknowns f3_equations f2_roundSupports f2_stale f7_size f1_size f5_keptSize f5_aheadSize f0_solved f4_blockCount f4_blockLength f4_lastIsFree f4_stale ai al w0 w1 w2 w3) sz)) 0 0 (va_A (WX cI cJ cII cJJ ad f3_unknowns f3_equations f2_roundSupports f2_stale f7_size f1_size f5_keptSize f5_aheadSize f0_solved f4_blockCount f4_blockLength f4_lastIsFree f4_stale ai al w0 w1 w2 w3) sz) := by
  refine SM.of (y := yX4_tryNumbers) (maxL := 5) (av := [.ref (ad 29), .int 0, .int x2]) (Q_m084_X4_tryNumbers dC dI cI cJ cII cJJ ad f3_unknowns f3_equations f2_roundSupports f2_stale f7_size f1_size f5_keptSize f5_aheadSize f0_solved f4_blockLength f4_lastIsFree f4_stale ai al w0 w1 w2 w3) (by decide +kernel) (Nat.le_of_ble_eq_true rfl) (fun p e s m below meth c A ls hx hb hr hml hown hts hk hnm hA hK hP hD hS hX hl => ?_)
  have C : Cx p c s m meth (([.ref (ad 29), .int 0, .int x2] : List Value).toArray) A dC dI (TY cI cJ cII cJJ) cX4_tryNumbers none 5 RX4 0 g := ⟨hx, hb, hr, hml, hown, hts, hk, hA, hK, hX⟩
  have hown : s.vm.findClass RX4 = some m.cls := hown
  have hl : lv_has ls 5 [(0, .ref (ad 29)), (1, .int 0), (2, .int x2)] := hl
  obtain ⟨H, hH⟩ : ∃ q, q = s.heap := ⟨_, rfl⟩
  rw [← hH] at hP
  have hS : va_S A s.heap H [] := by rw [hH]; exact hS
  rw [← hH]
  have hF := FR_refl [30, 32, 33, 36, 37, 38] ai
  have ra_x2 := s_any x2
  refine lv_aload_n hx hb dX4_tryNumbers_0 rfl (lv_at hl 0 rfl) ?_
  refine gf (k := 3) hx hb hts inX4 hown hK hP k_208 rfl (by decide) rfl 29 rfl (.ref (ad 32)) rfl dX4_tryNumbers_1 ?_
  refine lv_iload_n hx hb dX4_tryNumbers_4 rfl (lv_at hl 1 rfl) ?_
  refine va_iald hx hb hK hP 32 0 rfl rfl (vin (by decide +kernel)) dX4_tryNumbers_5 ?_
  refine lv_topi (fun z1 e_z1 => ?_)
  have k_z1 : z1.toInt = (ai 32 0).toInt := by rw [e_z1]; rfl
  have g_z1 : -10 ≤ z1.toInt ∧ z1.toInt ≤ 2147483647 := by rw [e_z1]; exact IAX_at32 hI _
  refine lv_istore_n (lv' := [(3, .int z1), (0, .ref (ad 29)), (1, .int 0), (2, .int x2)]) hx hb dX4_tryNumbers_6 rfl hl (by decide) rfl (fun ls_1 hl_1 => ?_)
  exact m084_X4_tryNumbers_b7 C  _ x2 z1 f4_blockCount ai _ _ _ (by omega) (by omega) (by omega) (by omega) (by omega) (by omega) (by omega) (by omega) (by omega) (by omega) (by omega) (by omega) (by omega) (j_fuel _) (by omega) hI hF hw_w0 hw_w1 hw_w2 hw_w3 hP hD hS (lv_sub hl_1 [1, 2, 3, 0] rfl)
def Q_m085_X4_searchFrom (dC : Nat → ClassId) (dI : Nat → Nat → Nat) (cI cJ cII cJJ : ClassId) (ad : Nat → Nat) (f3_unknowns f3_equations f2_roundSupports f2_stale f7_size f1_size f5_keptSize f5_aheadSize f0_solved f4_blockLength f4_lastIsFree f4_stale : Int32) (ai0 : Nat → Nat → Int32) (al : Nat → Nat → Int64) (w0 w1 w2 w3 : Nat) : (Nat → Prop) → Array Value → State → Outcome → State → Prop := fun A => QV (fun t => ∃ (n_f4_blockCount : Int32), ∃ (n_ai : Nat → Nat → Int32), ((0 ≤ n_f4_blockCount.toInt ∧ n_f4_blockCount.toInt ≤ 9261) ∧ IAX n_ai ∧ FR [30, 32, 33, 36, 37, 38] ai0 n_ai) ∧ WO dC dI (TY cI cJ cII cJJ) (WX cI cJ cII cJJ ad f3_unknowns f3_equations f2_roundSupports f2_stale f7_size f1_size f5_keptSize f5_aheadSize f0_solved n_f4_blockCount f4_blockLength f4_lastIsFree f4_stale n_ai al w0 w1 w2 w3) A t) A
set_option maxRecDepth 100000 in
set_option maxHeartbeats 4000000 in
theorem m085_X4_searchFrom_b48 {p : Program} {l : Launch} {e : Env} {s : State} {m : MethodId} {args : Array Value} {below : List Frame} {meth : Method} {c : Code} {A : Nat → Prop} {dC : Nat → ClassId} {dI : Nat → Nat → Nat} {cI cJ cII cJJ : ClassId} {ad : Nat → Nat} {g : Nat} {f3_unknowns f3_equations f2_roundSupports f2_stale f7_size f1_size f5_keptSize f5_aheadSize f0_solved f4_blockLength f4_lastIsFree f4_stale : Int32} {ai0 : Nat → Nat → Int32} {al : Nat → Nat → Int64} {w0 w1 w2 w3 : Nat} (C : Cx p c s m meth args A dC dI (TY cI cJ cII cJJ) cX4_searchFrom none 4 RX4 0 g) : ∀ (n : Nat), ∀ (L2 L3 f4_blockCount : Int32) (ai : Nat → Nat → Int32) (H : Heap) (locs : List Loc) (ls : Array Slot), (0 ≤ L3.toInt ∧ L3.toInt ≤ 3) → (1 ≤ f3_unknowns.toInt ∧ f3_unknowns.toInt ≤ 4) → (0 ≤ f3_equations.toInt ∧ f3_equations.toInt ≤ 3) → (0 ≤ f2_stale.toInt ∧ f2_stale.toInt ≤ 1) → (0 ≤ f7_size.toInt ∧ f7_size.toInt ≤ 256) → (0 ≤ f1_size.toInt ∧ f1_size.toInt ≤ 4) → (0 ≤ f5_keptSize.toInt ∧ f5_keptSize.toInt ≤ 128) → (0 ≤ f5_aheadSize.toInt ∧ f5_aheadSize.toInt ≤ 128) → (0 ≤ f4_blockCount.toInt ∧ f4_blockCount.toInt ≤ 9261) → (0 ≤ f4_blockLength.toInt ∧ f4_blockLength.toInt ≤ 21) → (0 ≤ f4_lastIsFree.toInt ∧ f4_lastIsFree.toInt ≤ 1) → (0 ≤ f4_stale.toInt ∧ f4_stale.toInt ≤ 1) → f3_equations.toInt - L3.toInt < (n : Int) → (0 : Int) < (n : Int) → IAX ai → FR [30, 32, 33, 36, 37, 38] ai0 ai → RWX ad w0 → RWX ad w1 → RWX ad w2 → RWX ad w3 → va_P (dC, dI) vwCl (WX cI cJ cII cJJ ad f3_unknowns f3_equations f2_roundSupports f2_stale f7_size f1_size f5_keptSize f5_aheadSize f0_solved f4_blockCount f4_blockLength f4_lastIsFree f4_stale ai al w0 w1 w2 w3) H → va_D A (WX cI cJ cII cJJ ad f3_unknowns f3_equations f2_roundSupports f2_stale f7_size f1_size f5_keptSize f5_aheadSize f0_solved f4_blockCount f4_blockLength f4_lastIsFree f4_stale ai al w0 w1 w2 w3) → va_S A s.heap H locs → lv_has ls 4 [(0, .ref (ad 29)), (1, .int 0), (2, .int L2), (3, .int L3)] → W p l e ({ frames := 10, cells := 0, slots := 0, locals := 560 } : Room) s m args below meth c H locs 0 0 (MQ below (Q_m085_X4_searchFrom dC dI cI cJ cII cJJ ad f3_unknowns f3_equations f2_roundSupports f2_stale f7_size f1_size f5_keptSize f5_aheadSize f0_solved f4_blockLength f4_lastIsFree f4_stale ai0 al w0 w1 w2 w3 A) args s 0 0 A) (F0 m 48 ls []) := by
  obtain ⟨hx, hb, hr, hml, hown, hts, hk, hA, hK, hX⟩ := id C
  intro n
  induction n with
  | zero =>
    intro L2 L3 f4_blockCount ai H locs ls h0 h1 h2 h3 h4 h5 h6 h7 h8 h9 h10 h11 h12 h13 hI hF hw_w0 hw_w1 hw_w2 hw_w3 hP hD hS hl
    exact absurd h13 (by omega)
  | succ n ih =>
    intro L2 L3 f4_blockCount ai H locs ls h0 h1 h2 h3 h4 h5 h6 h7 h8 h9 h10 h11 h12 h13 hI hF hw_w0 hw_w1 hw_w2 hw_w3 hP hD hS hl
    have ra_L2 := s_any L2
    refine lv_iload_n hx hb dX4_searchFrom_48 rfl (lv_at hl 3 rfl) ?_
    refine lv_aload_n hx hb dX4_searchFrom_49 rfl (lv_at hl 0 rfl) ?_
    refine gf (k := 0) hx hb hts inX4 hown hK hP k_205 rfl (by decide) rfl 29 rfl (.ref (ad 6)) rfl dX4_searchFrom_50 ?_
    refine gf (k := 1) hx hb hts inX3 hown hK hP k_47 rfl (by decide) rfl 6 rfl (.int f3_equations) rfl dX4_searchFrom_53 ?_
    refine lv_icmp_ge (tgt := 71) hx hb dX4_searchFrom_56 (by decide) (fun c1 => ?_) (fun c1 => ?_)
    · have c1 := j_le (a := f3_equations.toInt) (b := L3.toInt) rfl rfl c1
      refine lv_iload_n hx hb dX4_searchFrom_71 rfl (lv_at hl 1 rfl) ?_
      refine lv_aload_n hx hb dX4_searchFrom_72 rfl (lv_at hl 0 rfl) ?_
      refine gf (k := 0) hx hb hts inX4 hown hK hP k_205 rfl (by decide) rfl 29 rfl (.ref (ad 6)) rfl dX4_searchFrom_73 ?_
      refine gf (k := 0) hx hb hts inX3 hown hK hP k_39 rfl (by decide) rfl 6 rfl (.int f3_unknowns) rfl dX4_searchFrom_76 ?_
      refine lv_iconst (v := 1) hx hb dX4_searchFrom_79 (by decide) ?_
      refine v_isub hx hb dX4_searchFrom_80 _ rfl ?_
      refine lv_topi (fun z2 e_z2 => ?_)
      have g_z2 : z2.toInt = f3_unknowns.toInt - 1 := by rw [e_z2]; exact n_sub (a := f3_unknowns.toInt) (b := 1) rfl (by decide +kernel) (by omega) (by omega)
      refine lv_icmp_ge (tgt := 93) hx hb dX4_searchFrom_81 (by decide) (fun c3 => ?_) (fun c3 => ?_)
      · have c3 := j_le (a := z2.toInt) (b := 0) rfl (by decide +kernel) c3
        refine lv_aload_n hx hb dX4_searchFrom_93 rfl (lv_at hl 0 rfl) ?_
        refine gf (k := 3) hx hb hts inX4 hown hK hP k_208 rfl (by decide) rfl 29 rfl (.ref (ad 32)) rfl dX4_searchFrom_94 ?_
        refine lv_iload_n hx hb dX4_searchFrom_97 rfl (lv_at hl 1 rfl) ?_
        refine va_iald hx hb hK hP 32 0 rfl rfl (vin (by decide +kernel)) dX4_searchFrom_98 ?_
        refine lv_topi (fun z4 e_z4 => ?_)
        have k_z4 : z4.toInt = (ai 32 0).toInt := by rw [e_z4]; rfl
        have g_z4 : -10 ≤ z4.toInt ∧ z4.toInt ≤ 2147483647 := by rw [e_z4]; exact IAX_at32 hI _
        refine lv_aload_n hx hb dX4_searchFrom_99 rfl (lv_at hl 0 rfl) ?_
        refine gf (k := 4) hx hb hts inX4 hown hK hP k_209 rfl (by decide) rfl 29 rfl (.ref (ad 33)) rfl dX4_searchFrom_100 ?_
        refine lv_iload_n hx hb dX4_searchFrom_103 rfl (lv_at hl 1 rfl) ?_
        refine va_iald hx hb hK hP 33 0 rfl rfl (vin (by decide +kernel)) dX4_searchFrom_104 ?_
        refine lv_topi (fun z5 e_z5 => ?_)
        have k_z5 : z5.toInt = (ai 33 0).toInt := by rw [e_z5]; rfl
        have g_z5 : -2147483648 ≤ z5.toInt ∧ z5.toInt ≤ 2147483646 := by rw [e_z5]; exact IAX_at33 hI _
        refine lv_icmp_gt (tgt := 126) hx hb dX4_searchFrom_105 (by decide) (fun c6 => ?_) (fun c6 => ?_)
        · have c6 := j_lt (a := z5.toInt) (b := z4.toInt) rfl rfl c6
          exact r2_v hx hb hr hk hS dX4_searchFrom_126 (fun t ht hW => ⟨f4_blockCount, ai, ⟨(by first | omega | decide | exact Or.inl (by decide) | exact Or.inr (by decide) | exact Or.inr (by omega)), hI, hF⟩, by rw [ht]; exact hP, va_K.moved hW.alike hK, hD⟩)
        · have c6 := j_nlt (a := z5.toInt) (b := z4.toInt) rfl rfl c6
          refine lv_aload_n hx hb dX4_searchFrom_108 rfl (lv_at hl 0 rfl) ?_
          refine lv_iload_n hx hb dX4_searchFrom_109 rfl (lv_at hl 2 rfl) ?_
          refine lv_bipush (v := 21) hx hb dX4_searchFrom_110 (by decide) ?_
          refine v_imul hx hb dX4_searchFrom_112 _ rfl ?_
          refine lv_topi (fun z7 e_z7 => ?_)
          refine lv_aload_n hx hb dX4_searchFrom_113 rfl (lv_at hl 0 rfl) ?_
          refine gf (k := 3) hx hb hts inX4 hown hK hP k_208 rfl (by decide) rfl 29 rfl (.ref (ad 32)) rfl dX4_searchFrom_114 ?_
          refine lv_iload_n hx hb dX4_searchFrom_117 rfl (lv_at hl 1 rfl) ?_
          refine va_iald hx hb hK hP 32 0 rfl rfl (vin (by decide +kernel)) dX4_searchFrom_118 ?_
          refine lv_topi (fun z8 e_z8 => ?_)
          have k_z8 : z8.toInt = (ai 32 0).toInt := by rw [e_z8]; rfl
          have g_z8 : -10 ≤ z8.toInt ∧ z8.toInt ≤ 2147483647 := by rw [e_z8]; exact IAX_at32 hI _
          refine v_iadd hx hb dX4_searchFrom_119 _ rfl ?_
          refine lv_topi (fun z9 e_z9 => ?_)
          refine lv_bipush (v := 10) hx hb dX4_searchFrom_120 (by decide) ?_
          refine v_iadd hx hb dX4_searchFrom_122 _ rfl ?_
          refine lv_topi (fun z10 e_z10 => ?_)
          have hM := m072_X4_appendBlock l dC dI cI cJ cII cJJ H.size 0 ad f3_unknowns f3_equations f2_roundSupports f2_stale f7_size f1_size f5_keptSize f5_aheadSize f0_solved f4_blockCount f4_blockLength f4_lastIsFree f4_stale ai al w0 w1 w2 w3 z10 (by omega) (by omega) (by omega) (by omega) (by omega) (by omega) (by omega) (by omega) (by omega) (by omega) (by omega) hI hw_w0 hw_w1 hw_w2 hw_w3
          refine k2V_v (q0 := 29) ⟨hx, hb, hml, hown, hts⟩ hK hP hD hS hA hX cv_RX4_131 hM ⟨by decide +kernel, by decide +kernel⟩ rfl rfl (Or.inl rfl) (rest := []) rfl rfl rfl hl.1 rfl (Nat.le_of_ble_eq_true rfl) dX4_searchFrom_123 ⟨Nat.le_of_ble_eq_true rfl, Nat.le_of_ble_eq_true rfl⟩ (fun t H1 locs_1 ht hB hS_1 hFc => ?_)
          obtain ⟨v12, ai13, ⟨gpr11_0, gpr11_1, gpr11_2, gpr11_3, gpr11_4, hI_2, hFr_r11⟩, hP_2, -, hD_2⟩ := hB
          have hF_3 := FR_tr hF hFr_r11 (by decide)
          rw [ht] at hP_2
          have hD_4 := hD_2.weaken (B := A) (fun k q _ h9 => hFc q.1 h9)
          clear ht
          generalize H1 = H_5 at hP_2 hS_1 ⊢
          exact r2_v hx hb hr hk hS_1 dX4_searchFrom_126 (fun t ht hW => ⟨v12, ai13, ⟨(by first | omega | decide | exact Or.inl (by decide) | exact Or.inr (by decide) | exact Or.inr (by omega)), hI_2, hF_3⟩, by rw [ht]; exact hP_2, va_K.moved hW.alike hK, hD_4⟩)
      · have c3 := j_nle (a := z2.toInt) (b := 0) rfl (by decide +kernel) c3
        refine lv_aload_n hx hb dX4_searchFrom_84 rfl (lv_at hl 0 rfl) ?_
        refine lv_iload_n hx hb dX4_searchFrom_85 rfl (lv_at hl 1 rfl) ?_
        refine lv_iload_n hx hb dX4_searchFrom_86 rfl (lv_at hl 2 rfl) ?_
        have kc0 : (0 : Int32).toInt = 0 := by decide +kernel
        have hM := m084_X4_tryNumbers l dC dI cI cJ cII cJJ H.size 0 ad f3_unknowns f3_equations f2_roundSupports f2_stale f7_size f1_size f5_keptSize f5_aheadSize f0_solved f4_blockCount f4_blockLength f4_lastIsFree f4_stale ai al w0 w1 w2 w3 L2 (by omega) (by omega) (by omega) (by omega) (by omega) (by omega) (by omega) (by omega) (by omega) (by omega) (by omega) hI hw_w0 hw_w1 hw_w2 hw_w3
        refine k2V_v (q0 := 29) ⟨hx, hb, hml, hown, hts⟩ hK hP hD hS hA hX cv_RX4_128 hM ⟨by decide +kernel, by decide +kernel⟩ rfl rfl (Or.inl rfl) (rest := []) rfl rfl rfl hl.1 rfl (Nat.le_of_ble_eq_true rfl) dX4_searchFrom_87 ⟨Nat.le_of_ble_eq_true rfl, Nat.le_of_ble_eq_true rfl⟩ (fun t H1 locs_6 ht hB hS_6 hFc => ?_)
        obtain ⟨v15, ai16, ⟨gpr14_0, gpr14_1, hI_7, hFr_r14⟩, hP_7, -, hD_7⟩ := hB
        have hF_8 := FR_tr hF hFr_r14 (by decide)
        rw [ht] at hP_7
        have hD_9 := hD_7.weaken (B := A) (fun k q _ h9 => hFc q.1 h9)
        clear ht
        generalize H1 = H_10 at hP_7 hS_6 ⊢
        refine lv_goto (tgt := 126) hx hb dX4_searchFrom_90 (by decide) ?_
        exact r2_v hx hb hr hk hS_6 dX4_searchFrom_126 (fun t ht hW => ⟨v15, ai16, ⟨(by first | omega | decide | exact Or.inl (by decide) | exact Or.inr (by decide) | exact Or.inr (by omega)), hI_7, hF_8⟩, by rw [ht]; exact hP_7, va_K.moved hW.alike hK, hD_9⟩)
    · have c1 := j_nle (a := f3_equations.toInt) (b := L3.toInt) rfl rfl c1
      refine lv_aload_n hx hb dX4_searchFrom_59 rfl (lv_at hl 0 rfl) ?_
      refine lv_iload_n hx hb dX4_searchFrom_60 rfl (lv_at hl 1 rfl) ?_
      refine lv_iload_n hx hb dX4_searchFrom_61 rfl (lv_at hl 3 rfl) ?_
      have kc0 : (0 : Int32).toInt = 0 := by decide +kernel
      have hM := m075_X4_narrow l dC dI cI cJ cII cJJ H.size 0 ad f3_unknowns f3_equations f2_roundSupports f2_stale f7_size f1_size f5_keptSize f5_aheadSize f0_solved f4_blockCount f4_blockLength f4_lastIsFree f4_stale ai al w0 w1 w2 w3 L3 (by omega) (by omega) (by omega) (by omega) (by omega) (by omega) (by omega) (by omega) (by omega) (by omega) (by omega) (by omega) hI hw_w0 hw_w1 hw_w2 hw_w3
      refine k2V_v (q0 := 29) ⟨hx, hb, hml, hown, hts⟩ hK hP hD hS hA hX cv_RX4_125 hM ⟨by decide +kernel, by decide +kernel⟩ rfl rfl (Or.inl rfl) (rest := []) rfl rfl rfl hl.1 rfl (Nat.le_of_ble_eq_true rfl) dX4_searchFrom_62 ⟨Nat.le_of_ble_eq_true rfl, Nat.le_of_ble_eq_true rfl⟩ (fun t H1 locs_11 ht hB hS_11 hFc => ?_)
      obtain ⟨ai18, ⟨hI_12, hFr_r17⟩, hP_12, -, hD_12⟩ := hB
      have hF_13 := FR_tr hF hFr_r17 (by decide)
      rw [ht] at hP_12
      have hD_14 := hD_12.weaken (B := A) (fun k q _ h9 => hFc q.1 h9)
      clear ht
      generalize H1 = H_15 at hP_12 hS_11 ⊢
      obtain ⟨z19, e_z19⟩ : ∃ q : Int32, q = L3 + Int32.ofInt 1 := ⟨_, rfl⟩
      have g_z19 : z19.toInt = L3.toInt + 1 := by rw [e_z19]; exact n_add (a := L3.toInt) (b := 1) rfl (by decide +kernel) (by omega) (by omega)
      refine lv_iinc (v := z19) (lv' := [(3, .int z19), (0, .ref (ad 29)), (1, .int 0), (2, .int L2)]) hx hb dX4_searchFrom_65 hl (k := 3) rfl e_z19.symm (by decide) rfl (fun ls_16 hl_16 => ?_)
      refine lv_goto (tgt := 48) hx hb dX4_searchFrom_68 (by decide) ?_
      exact ih L2 z19 f4_blockCount ai18 _ _ _ (by omega) (by omega) (by omega) (by omega) (by omega) (by omega) (by omega) (by omega) (by omega) (by omega) (by omega) (by omega) (by omega) (by omega) hI_12 hF_13 hw_w0 hw_w1 hw_w2 hw_w3 hP_12 hD_14 hS_11 (lv_sub hl_16 [1, 2, 3, 0] rfl)
set_option maxRecDepth 100000 in
set_option maxHeartbeats 4000000 in
theorem m085_X4_searchFrom (l : Launch) (dC : Nat → ClassId) (dI : Nat → Nat → Nat) (cI cJ cII cJJ : ClassId) (sz g : Nat) (ad : Nat → Nat) (f3_unknowns f3_equations f2_roundSupports f2_stale f7_size f1_size f5_keptSize f5_aheadSize f0_solved f4_blockCount f4_blockLength f4_lastIsFree f4_stale : Int32) (ai : Nat → Nat → Int32) (al : Nat → Nat → Int64) (w0 w1 w2 w3 : Nat) (x2 : Int32) (h_f3_unknowns : (1 ≤ f3_unknowns.toInt ∧ f3_unknowns.toInt ≤ 4)) (h_f3_equations : (0 ≤ f3_equations.toInt ∧ f3_equations.toInt ≤ 3)) (h_f2_stale : (0 ≤ f2_stale.toInt ∧ f2_stale.toInt ≤ 1)) (h_f7_size : (0 ≤ f7_size.toInt ∧ f7_size.toInt ≤ 256)) (h_f1_size : (0 ≤ f1_size.toInt ∧ f1_size.toInt ≤ 4)) (h_f5_keptSize : (0 ≤ f5_keptSize.toInt ∧ f5_keptSize.toInt ≤ 128)) (h_f5_aheadSize : (0 ≤ f5_aheadSize.toInt ∧ f5_aheadSize.toInt ≤ 128)) (h_f4_blockCount : (0 ≤ f4_blockCount.toInt ∧ f4_blockCount.toInt ≤ 9261)) (h_f4_blockLength : (0 ≤ f4_blockLength.toInt ∧ f4_blockLength.toInt ≤ 21)) (h_f4_lastIsFree : (0 ≤ f4_lastIsFree.toInt ∧ f4_lastIsFree.toInt ≤ 1)) (h_f4_stale : (0 ≤ f4_stale.toInt ∧ f4_stale.toInt ≤ 1)) (hI : IAX ai) (hw_w0 : RWX ad w0) (hw_w1 : RWX ad w1) (hw_w2 : RWX ad w2) (hw_w3 : RWX ad w3) : Met l yX4_searchFrom (.code yX4_searchFrom cX4_searchFrom 4 none :: TT) ({ frames := 10, cells := 0, slots := 0, locals := 560 } : Room) (PcS dC dI (TY cI cJ cII cJJ) [.ref (ad 29), .int 0, .int x2] (WX cI cJ cII cJJ ad f3_unknowns f3_equations f2_roundSupports f2_stale f7_size f1_size f5_keptSize f5_aheadSize f0_solved f4_blockCount f4_blockLength f4_lastIsFree f4_stale ai al w0 w1 w2 w3) sz 0 g) (Q_m085_X4_searchFrom dC dI cI cJ cII cJJ ad f3_unknowns f3_equations f2_roundSupports f2_stale f7_size f1_size f5_keptSize f5_aheadSize f0_solved f4_blockLength f4_lastIsFree f4_stale ai al w0 w1 w2 w3 (va_A (WX cI cJ cII cJJ ad f3_unknowns f3_equations f2_roundSupports f2_stale f7_size f1_size f5_keptSize f5_aheadSize f0_solved f4_blockCount f4_blockLength f4_lastIsFree f4_stale ai al w0 w1 w2 w3) sz)) 0 0 (va_A (WX cI cJ cII cJJ ad f3_unknowns f3_equations f2_roundSupports f2_stale f7_size f1_size f5_keptSize f5_aheadSize f0_solved f4_blockCount f4_blockLength f4_lastIsFree f4_stale ai al w0 w1 w2 w3) sz) := by
  refine SM.of (y := yX4_searchFrom) (maxL := 4) (av := [.ref (ad 29), .int 0, .int x2]) (Q_m085_X4_searchFrom dC dI cI cJ cII cJJ ad f3_unknowns f3_equations f2_roundSupports f2_stale f7_size f1_size f5_keptSize f5_aheadSize f0_solved f4_blockLength f4_lastIsFree f4_stale ai al w0 w1 w2 w3) (by decide +kernel) (Nat.le_of_ble_eq_true rfl) (fun p e s m below meth c A ls hx hb hr hml hown hts hk hnm hA hK hP hD hS hX hl => ?_)
  have C : Cx p c s m meth (([.ref (ad 29), .int 0, .int x2] : List Value).toArray) A dC dI (TY cI cJ cII cJJ) cX4_searchFrom none 4 RX4 0 g := ⟨hx, hb, hr, hml, hown, hts, hk, hA, hK, hX⟩
  have hown : s.vm.findClass RX4 = some m.cls := hown
  have hl : lv_has ls 4 [(0, .ref (ad 29)), (1, .int 0), (2, .int x2)] := hl
  obtain ⟨H, hH⟩ : ∃ q, q = s.heap := ⟨_, rfl⟩
  rw [← hH] at hP
  have hS : va_S A s.heap H [] := by rw [hH]; exact hS
  rw [← hH]
  have hF := FR_refl [30, 32, 33, 36, 37, 38] ai
  have ra_x2 := s_any x2
  refine lv_iload_n hx hb dX4_searchFrom_0 rfl (lv_at hl 1 rfl) ?_
  refine f_if_lt hx hb dX4_searchFrom_1 15 (by decide) (by decide +kernel) ?_
  refine lv_iload_n hx hb dX4_searchFrom_4 rfl (lv_at hl 1 rfl) ?_
  refine lv_aload_n hx hb dX4_searchFrom_5 rfl (lv_at hl 0 rfl) ?_
  refine gf (k := 0) hx hb hts inX4 hown hK hP k_205 rfl (by decide) rfl 29 rfl (.ref (ad 6)) rfl dX4_searchFrom_6 ?_
  refine gf (k := 0) hx hb hts inX3 hown hK hP k_39 rfl (by decide) rfl 6 rfl (.int f3_unknowns) rfl dX4_searchFrom_9 ?_
  refine t_icmp_lt hx hb dX4_searchFrom_12 16 (by decide) (q_lt (a := 0) (b := f3_unknowns.toInt) (by decide +kernel) rfl (by omega)) ?_
  refine lv_aload_n hx hb dX4_searchFrom_16 rfl (lv_at hl 0 rfl) ?_
  refine gf (k := 3) hx hb hts inX4 hown hK hP k_208 rfl (by decide) rfl 29 rfl (.ref (ad 32)) rfl dX4_searchFrom_17 ?_
  refine lv_iload_n hx hb dX4_searchFrom_20 rfl (lv_at hl 1 rfl) ?_
  refine lv_aload_n hx hb dX4_searchFrom_21 rfl (lv_at hl 0 rfl) ?_
  refine gf (k := 0) hx hb hts inX4 hown hK hP k_205 rfl (by decide) rfl 29 rfl (.ref (ad 6)) rfl dX4_searchFrom_22 ?_
  refine gf (k := 4) hx hb hts inX3 hown hK hP k_57 rfl (by decide) rfl 6 rfl (.ref (ad 7)) rfl dX4_searchFrom_25 ?_
  refine lv_iload_n hx hb dX4_searchFrom_28 rfl (lv_at hl 1 rfl) ?_
  refine va_iald hx hb hK hP 7 0 rfl rfl (vin (by decide +kernel)) dX4_searchFrom_29 ?_
  refine lv_topi (fun z1 e_z1 => ?_)
  have k_z1 : z1.toInt = (ai 7 0).toInt := by rw [e_z1]; rfl
  have g_z1 : -10 ≤ z1.toInt ∧ z1.toInt ≤ 10 := by rw [e_z1]; exact IAX_at7 hI _
  refine va_iast hx hb hK hP hD hS 32 0 rfl rfl (vin (by decide +kernel)) dX4_searchFrom_30 (fun H_1 locs_1 hP_1 hD_1 hS_1 => ?_)
  obtain ⟨ai2, e_ai2⟩ : ∃ q : Nat → Nat → Int32, q = va_up ai 32 (upd (ai 32) (0 : Int32).toNatClampNeg z1) := ⟨_, rfl⟩
  have hF_2 := FR_st hF e_ai2 (by decide)
  have ra_z1 := s_any z1
  have hI_3 : IAX ai2 := by rw [e_ai2]; exact IAX_st32 hI (a := z1.toInt) rfl (by omega) (by omega)
  have hP_4 : va_P (dC, dI) vwCl (WX cI cJ cII cJJ ad f3_unknowns f3_equations f2_roundSupports f2_stale f7_size f1_size f5_keptSize f5_aheadSize f0_solved f4_blockCount f4_blockLength f4_lastIsFree f4_stale ai2 al w0 w1 w2 w3) H_1 := by rw [e_ai2]; exact hP_1
  have hD_5 : va_D A (WX cI cJ cII cJJ ad f3_unknowns f3_equations f2_roundSupports f2_stale f7_size f1_size f5_keptSize f5_aheadSize f0_solved f4_blockCount f4_blockLength f4_lastIsFree f4_stale ai2 al w0 w1 w2 w3) := by rw [e_ai2]; exact hD_1
  refine lv_aload_n hx hb dX4_searchFrom_31 rfl (lv_at hl 0 rfl) ?_
  refine gf (k := 4) hx hb hts inX4 hown hK hP_4 k_209 rfl (by decide) rfl 29 rfl (.ref (ad 33)) rfl dX4_searchFrom_32 ?_
  refine lv_iload_n hx hb dX4_searchFrom_35 rfl (lv_at hl 1 rfl) ?_
  refine lv_aload_n hx hb dX4_searchFrom_36 rfl (lv_at hl 0 rfl) ?_
  refine gf (k := 0) hx hb hts inX4 hown hK hP_4 k_205 rfl (by decide) rfl 29 rfl (.ref (ad 6)) rfl dX4_searchFrom_37 ?_
  refine gf (k := 5) hx hb hts inX3 hown hK hP_4 k_61 rfl (by decide) rfl 6 rfl (.ref (ad 8)) rfl dX4_searchFrom_40 ?_
  refine lv_iload_n hx hb dX4_searchFrom_43 rfl (lv_at hl 1 rfl) ?_
  refine va_iald hx hb hK hP_4 8 0 rfl rfl (vin (by decide +kernel)) dX4_searchFrom_44 ?_
  refine lv_topi (fun z3 e_z3 => ?_)
  have k_z3 : z3.toInt = (ai2 8 0).toInt := by rw [e_z3]; rfl
  have g_z3 : -10 ≤ z3.toInt ∧ z3.toInt ≤ 10 := by rw [e_z3]; exact IAX_at8 hI_3 _
  refine va_iast hx hb hK hP_4 hD_5 hS_1 33 0 rfl rfl (vin (by decide +kernel)) dX4_searchFrom_45 (fun H_6 locs_6 hP_6 hD_6 hS_6 => ?_)
  obtain ⟨ai4, e_ai4⟩ : ∃ q : Nat → Nat → Int32, q = va_up ai2 33 (upd (ai2 33) (0 : Int32).toNatClampNeg z3) := ⟨_, rfl⟩
  have hF_7 := FR_st hF_2 e_ai4 (by decide)
  have ra_z3 := s_any z3
  have hI_8 : IAX ai4 := by rw [e_ai4]; exact IAX_st33 hI_3 (a := z3.toInt) rfl (by omega) (by omega)
  have hP_9 : va_P (dC, dI) vwCl (WX cI cJ cII cJJ ad f3_unknowns f3_equations f2_roundSupports f2_stale f7_size f1_size f5_keptSize f5_aheadSize f0_solved f4_blockCount f4_blockLength f4_lastIsFree f4_stale ai4 al w0 w1 w2 w3) H_6 := by rw [e_ai4]; exact hP_6
  have hD_10 : va_D A (WX cI cJ cII cJJ ad f3_unknowns f3_equations f2_roundSupports f2_stale f7_size f1_size f5_keptSize f5_aheadSize f0_solved f4_blockCount f4_blockLength f4_lastIsFree f4_stale ai4 al w0 w1 w2 w3) := by rw [e_ai4]; exact hD_6
  refine lv_iconst (v := 0) hx hb dX4_searchFrom_46 (by decide) ?_
  refine lv_istore_n (lv' := [(3, .int 0), (0, .ref (ad 29)), (1, .int 0), (2, .int x2)]) hx hb dX4_searchFrom_47 rfl hl (by decide) rfl (fun ls_11 hl_11 => ?_)
  exact m085_X4_searchFrom_b48 C  _ x2 0 f4_blockCount ai4 _ _ _ (by first | omega | decide | (have ka0 := (by decide +kernel : (0 : Int32).toInt = 0); omega)) (by first | omega | decide | (have ka0 := (by decide +kernel : (0 : Int32).toInt = 0); omega)) (by first | omega | decide | (have ka0 := (by decide +kernel : (0 : Int32).toInt = 0); omega)) (by first | omega | decide | (have ka0 := (by decide +kernel : (0 : Int32).toInt = 0); omega)) (by first | omega | decide | (have ka0 := (by decide +kernel : (0 : Int32).toInt = 0); omega)) (by first | omega | decide | (have ka0 := (by decide +kernel : (0 : Int32).toInt = 0); omega)) (by first | omega | decide | (have ka0 := (by decide +kernel : (0 : Int32).toInt = 0); omega)) (by first | omega | decide | (have ka0 := (by decide +kernel : (0 : Int32).toInt = 0); omega)) (by first | omega | decide | (have ka0 := (by decide +kernel : (0 : Int32).toInt = 0); omega)) (by first | omega | decide | (have ka0 := (by decide +kernel : (0 : Int32).toInt = 0); omega)) (by first | omega | decide | (have ka0 := (by decide +kernel : (0 : Int32).toInt = 0); omega)) (by first | omega | decide | (have ka0 := (by decide +kernel : (0 : Int32).toInt = 0); omega)) (j_fuel _) (by omega) hI_8 hF_7 hw_w0 hw_w1 hw_w2 hw_w3 hP_9 hD_10 hS_6 (lv_sub hl_11 [1, 2, 3, 0] rfl)
def Q_m086_X4_refresh (dC : Nat → ClassId) (dI : Nat → Nat → Nat) (cI cJ cII cJJ : ClassId) (ad : Nat → Nat) (f3_unknowns f3_equations f2_roundSupports f2_stale f7_size f1_size f5_keptSize f5_aheadSize f0_solved : Int32) (ai0 : Nat → Nat → Int32) (al : Nat → Nat → Int64) (w0 w1 w2 w3 : Nat) : (Nat → Prop) → Array Value → State → Outcome → State → Prop := fun A => QV (fun t => ∃ (n_f4_blockCount n_f4_blockLength n_f4_lastIsFree n_f4_stale : Int32), ∃ (n_ai : Nat → Nat → Int32), ((0 ≤ n_f4_blockCount.toInt ∧ n_f4_blockCount.toInt ≤ 9261) ∧ (0 ≤ n_f4_blockLength.toInt ∧ n_f4_blockLength.toInt ≤ 21) ∧ (0 ≤ n_f4_lastIsFree.toInt ∧ n_f4_lastIsFree.toInt ≤ 1) ∧ (0 ≤ n_f4_stale.toInt ∧ n_f4_stale.toInt ≤ 0) ∧ IAX n_ai ∧ FR [30, 32, 33, 35, 36, 37, 38, 41, 42, 43, 44, 45, 47, 48, 49, 50, 51] ai0 n_ai) ∧ WO dC dI (TY cI cJ cII cJJ) (WX cI cJ cII cJJ ad f3_unknowns f3_equations f2_roundSupports f2_stale f7_size f1_size f5_keptSize f5_aheadSize f0_solved n_f4_blockCount n_f4_blockLength n_f4_lastIsFree n_f4_stale n_ai al w0 w1 w2 w3) A t) A
set_option maxRecDepth 100000 in
set_option maxHeartbeats 4000000 in
theorem m086_X4_refresh_b82 {p : Program} {l : Launch} {e : Env} {s : State} {m : MethodId} {args : Array Value} {below : List Frame} {meth : Method} {c : Code} {A : Nat → Prop} {dC : Nat → ClassId} {dI : Nat → Nat → Nat} {cI cJ cII cJJ : ClassId} {ad : Nat → Nat} {g : Nat} {f3_unknowns f3_equations f2_roundSupports f2_stale f7_size f1_size f5_keptSize f5_aheadSize f0_solved : Int32} {ai0 : Nat → Nat → Int32} {al : Nat → Nat → Int64} {w0 w1 w2 w3 : Nat} (C : Cx p c s m meth args A dC dI (TY cI cJ cII cJJ) cX4_refresh none 3 RX4 0 g) : ∀ (n : Nat), ∀ (L1 L2 f4_blockCount f4_blockLength f4_lastIsFree f4_stale : Int32) (ai : Nat → Nat → Int32) (H : Heap) (locs : List Loc) (ls : Array Slot), (0 ≤ L1.toInt ∧ L1.toInt ≤ 3) → (0 ≤ L2.toInt ∧ L2.toInt ≤ 4) → (1 ≤ f3_unknowns.toInt ∧ f3_unknowns.toInt ≤ 4) → (0 ≤ f3_equations.toInt ∧ f3_equations.toInt ≤ 3) → (0 ≤ f2_stale.toInt ∧ f2_stale.toInt ≤ 1) → (0 ≤ f7_size.toInt ∧ f7_size.toInt ≤ 256) → (0 ≤ f1_size.toInt ∧ f1_size.toInt ≤ 4) → (0 ≤ f5_keptSize.toInt ∧ f5_keptSize.toInt ≤ 128) → (0 ≤ f5_aheadSize.toInt ∧ f5_aheadSize.toInt ≤ 128) → (0 ≤ f4_blockCount.toInt ∧ f4_blockCount.toInt ≤ 0) → (0 ≤ f4_blockLength.toInt ∧ f4_blockLength.toInt ≤ 21) → (0 ≤ f4_lastIsFree.toInt ∧ f4_lastIsFree.toInt ≤ 1) → (0 ≤ f4_stale.toInt ∧ f4_stale.toInt ≤ 0) → L1.toInt + 1 - L2.toInt < (n : Int) → (0 : Int) < (n : Int) → IAX ai → FR [30, 32, 33, 35, 36, 37, 38, 41, 42, 43, 44, 45, 47, 48, 49, 50, 51] ai0 ai → RWX ad w0 → RWX ad w1 → RWX ad w2 → RWX ad w3 → va_P (dC, dI) vwCl (WX cI cJ cII cJJ ad f3_unknowns f3_equations f2_roundSupports f2_stale f7_size f1_size f5_keptSize f5_aheadSize f0_solved f4_blockCount f4_blockLength f4_lastIsFree f4_stale ai al w0 w1 w2 w3) H → va_D A (WX cI cJ cII cJJ ad f3_unknowns f3_equations f2_roundSupports f2_stale f7_size f1_size f5_keptSize f5_aheadSize f0_solved f4_blockCount f4_blockLength f4_lastIsFree f4_stale ai al w0 w1 w2 w3) → va_S A s.heap H locs → lv_has ls 3 [(0, .ref (ad 29)), (1, .int L1), (2, .int L2)] → W p l e ({ frames := 11, cells := 0, slots := 0, locals := 620 } : Room) s m args below meth c H locs 0 0 (MQ below (Q_m086_X4_refresh dC dI cI cJ cII cJJ ad f3_unknowns f3_equations f2_roundSupports f2_stale f7_size f1_size f5_keptSize f5_aheadSize f0_solved ai0 al w0 w1 w2 w3 A) args s 0 0 A) (F0 m 82 ls []) := by
  obtain ⟨hx, hb, hr, hml, hown, hts, hk, hA, hK, hX⟩ := id C
  intro n
  induction n with
  | zero =>
    intro L1 L2 f4_blockCount f4_blockLength f4_lastIsFree f4_stale ai H locs ls h0 h1 h2 h3 h4 h5 h6 h7 h8 h9 h10 h11 h12 h13 h14 hI hF hw_w0 hw_w1 hw_w2 hw_w3 hP hD hS hl
    exact absurd h14 (by omega)
  | succ n ih =>
    intro L1 L2 f4_blockCount f4_blockLength f4_lastIsFree f4_stale ai H locs ls h0 h1 h2 h3 h4 h5 h6 h7 h8 h9 h10 h11 h12 h13 h14 hI hF hw_w0 hw_w1 hw_w2 hw_w3 hP hD hS hl
    refine lv_iload_n hx hb dX4_refresh_82 rfl (lv_at hl 2 rfl) ?_
    refine lv_iload_n hx hb dX4_refresh_83 rfl (lv_at hl 1 rfl) ?_
    refine lv_icmp_gt (tgt := 115) hx hb dX4_refresh_84 (by decide) (fun c1 => ?_) (fun c1 => ?_)
    · have c1 := j_lt (a := L1.toInt) (b := L2.toInt) rfl rfl c1
      refine lv_aload_n hx hb dX4_refresh_115 rfl (lv_at hl 0 rfl) ?_
      have hM := m073_X4_findSums l dC dI cI cJ cII cJJ H.size 0 ad f3_unknowns f3_equations f2_roundSupports f2_stale f7_size f1_size f5_keptSize f5_aheadSize f0_solved f4_blockCount f4_blockLength f4_lastIsFree f4_stale ai al w0 w1 w2 w3 (by omega) (by omega) (by omega) (by omega) (by omega) (by omega) (by omega) (by omega) (by omega) (by omega) (by omega) hI hw_w0 hw_w1 hw_w2 hw_w3
      refine k2V_v (q0 := 29) ⟨hx, hb, hml, hown, hts⟩ hK hP hD hS hA hX cv_RX4_74 hM ⟨by decide +kernel, by decide +kernel⟩ rfl rfl (Or.inl rfl) (rest := []) rfl rfl rfl hl.1 rfl (Nat.le_of_ble_eq_true rfl) dX4_refresh_116 ⟨Nat.le_of_ble_eq_true rfl, Nat.le_of_ble_eq_true rfl⟩ (fun t H1 locs_1 ht hB hS_1 hFc => ?_)
      obtain ⟨ai3, ⟨hI_2, hFr_r2⟩, hP_2, -, hD_2⟩ := hB
      have hF_3 := FR_tr hF hFr_r2 (by decide)
      rw [ht] at hP_2
      have hD_4 := hD_2.weaken (B := A) (fun k q _ h9 => hFc q.1 h9)
      clear ht
      generalize H1 = H_5 at hP_2 hS_1 ⊢
      refine lv_aload_n hx hb dX4_refresh_119 rfl (lv_at hl 0 rfl) ?_
      refine lv_iconst (v := 0) hx hb dX4_refresh_120 (by decide) ?_
      refine lv_iconst (v := 0) hx hb dX4_refresh_121 (by decide) ?_
      have kc0 : (0 : Int32).toInt = 0 := by decide +kernel
      have hM := m085_X4_searchFrom l dC dI cI cJ cII cJJ H_5.size 0 ad f3_unknowns f3_equations f2_roundSupports f2_stale f7_size f1_size f5_keptSize f5_aheadSize f0_solved f4_blockCount f4_blockLength f4_lastIsFree f4_stale ai3 al w0 w1 w2 w3 0 (by omega) (by omega) (by omega) (by omega) (by omega) (by omega) (by omega) (by omega) (by omega) (by omega) (by omega) hI_2 hw_w0 hw_w1 hw_w2 hw_w3
      refine k2V_v (q0 := 29) ⟨hx, hb, hml, hown, hts⟩ hK hP_2 hD_4 hS_1 hA hX cv_RX4_77 hM ⟨by decide +kernel, by decide +kernel⟩ rfl rfl (Or.inl rfl) (rest := []) rfl rfl rfl hl.1 rfl (Nat.le_of_ble_eq_true rfl) dX4_refresh_122 ⟨Nat.le_of_ble_eq_true rfl, Nat.le_of_ble_eq_true rfl⟩ (fun t H1 locs_6 ht hB hS_6 hFc => ?_)
      obtain ⟨v5, ai6, ⟨gpr4_0, hI_7, hFr_r4⟩, hP_7, -, hD_7⟩ := hB
      have hF_8 := FR_tr hF_3 hFr_r4 (by decide)
      rw [ht] at hP_7
      have hD_9 := hD_7.weaken (B := A) (fun k q _ h9 => hFc q.1 h9)
      clear ht
      generalize H1 = H_10 at hP_7 hS_6 ⊢
      exact r2_v hx hb hr hk hS_6 dX4_refresh_125 (fun t ht hW => ⟨v5, f4_blockLength, f4_lastIsFree, f4_stale, ai6, ⟨(by first | omega | decide | exact Or.inl (by decide) | exact Or.inr (by decide) | exact Or.inr (by omega)), (by first | omega | decide | exact Or.inl (by decide) | exact Or.inr (by decide) | exact Or.inr (by omega)), (by first | omega | decide | exact Or.inl (by decide) | exact Or.inr (by decide) | exact Or.inr (by omega)), (by first | omega | decide | exact Or.inl (by decide) | exact Or.inr (by decide) | exact Or.inr (by omega)), hI_7, hF_8⟩, by rw [ht]; exact hP_7, va_K.moved hW.alike hK, hD_9⟩)
    · have c1 := j_nlt (a := L1.toInt) (b := L2.toInt) rfl rfl c1
      refine lv_aload_n hx hb dX4_refresh_87 rfl (lv_at hl 0 rfl) ?_
      refine gf (k := 0) hx hb hts inX4 hown hK hP k_205 rfl (by decide) rfl 29 rfl (.ref (ad 6)) rfl dX4_refresh_88 ?_
      refine gf (k := 4) hx hb hts inX3 hown hK hP k_57 rfl (by decide) rfl 6 rfl (.ref (ad 7)) rfl dX4_refresh_91 ?_
      refine lv_iload_n hx hb dX4_refresh_94 rfl (lv_at hl 2 rfl) ?_
      refine va_iald hx hb hK hP 7 0 rfl rfl (j_in (a := L2.toInt) rfl (by omega) (by omega)) dX4_refresh_95 ?_
      refine lv_topi (fun z7 e_z7 => ?_)
      have g_z7 : -10 ≤ z7.toInt ∧ z7.toInt ≤ 10 := by rw [e_z7]; exact IAX_at7 hI _
      refine lv_aload_n hx hb dX4_refresh_96 rfl (lv_at hl 0 rfl) ?_
      refine gf (k := 0) hx hb hts inX4 hown hK hP k_205 rfl (by decide) rfl 29 rfl (.ref (ad 6)) rfl dX4_refresh_97 ?_
      refine gf (k := 5) hx hb hts inX3 hown hK hP k_61 rfl (by decide) rfl 6 rfl (.ref (ad 8)) rfl dX4_refresh_100 ?_
      refine lv_iload_n hx hb dX4_refresh_103 rfl (lv_at hl 2 rfl) ?_
      refine va_iald hx hb hK hP 8 0 rfl rfl (j_in (a := L2.toInt) rfl (by omega) (by omega)) dX4_refresh_104 ?_
      refine lv_topi (fun z8 e_z8 => ?_)
      have g_z8 : -10 ≤ z8.toInt ∧ z8.toInt ≤ 10 := by rw [e_z8]; exact IAX_at8 hI _
      refine lv_icmp_le (tgt := 109) hx hb dX4_refresh_105 (by decide) (fun c9 => ?_) (fun c9 => ?_)
      · have c9 := j_le (a := z7.toInt) (b := z8.toInt) rfl rfl c9
        obtain ⟨z10, e_z10⟩ : ∃ q : Int32, q = L2 + Int32.ofInt 1 := ⟨_, rfl⟩
        have g_z10 : z10.toInt = L2.toInt + 1 := by rw [e_z10]; exact n_add (a := L2.toInt) (b := 1) rfl (by decide +kernel) (by omega) (by omega)
        refine lv_iinc (v := z10) (lv' := [(2, .int z10), (0, .ref (ad 29)), (1, .int L1)]) hx hb dX4_refresh_109 hl (k := 2) rfl e_z10.symm (by decide) rfl (fun ls_11 hl_11 => ?_)
        refine lv_goto (tgt := 82) hx hb dX4_refresh_112 (by decide) ?_
        exact ih L1 z10 f4_blockCount f4_blockLength f4_lastIsFree f4_stale ai _ _ _ (by omega) (by omega) (by omega) (by omega) (by omega) (by omega) (by omega) (by omega) (by omega) (by omega) (by omega) (by omega) (by omega) (by omega) (by omega) hI hF hw_w0 hw_w1 hw_w2 hw_w3 hP hD hS (lv_sub hl_11 [1, 2, 0] rfl)
      · have c9 := j_nle (a := z7.toInt) (b := z8.toInt) rfl rfl c9
        exact r2_v hx hb hr hk hS dX4_refresh_108 (fun t ht hW => ⟨f4_blockCount, f4_blockLength, f4_lastIsFree, f4_stale, ai, ⟨(by first | omega | decide | exact Or.inl (by decide) | exact Or.inr (by decide) | exact Or.inr (by omega)), (by first | omega | decide | exact Or.inl (by decide) | exact Or.inr (by decide) | exact Or.inr (by omega)), (by first | omega | decide | exact Or.inl (by decide) | exact Or.inr (by decide) | exact Or.inr (by omega)), (by first | omega | decide | exact Or.inl (by decide) | exact Or.inr (by decide) | exact Or.inr (by omega)), hI, hF⟩, by rw [ht]; exact hP, va_K.moved hW.alike hK, hD⟩)
set_option maxRecDepth 100000 in
set_option maxHeartbeats 4000000 in
theorem m086_X4_refresh_b77 {p : Program} {l : Launch} {e : Env} {s : State} {m : MethodId} {args : Array Value} {below : List Frame} {meth : Method} {c : Code} {A : Nat → Prop} {dC : Nat → ClassId} {dI : Nat → Nat → Nat} {cI cJ cII cJJ : ClassId} {ad : Nat → Nat} {g : Nat} {f3_unknowns f3_equations f2_roundSupports f2_stale f7_size f1_size f5_keptSize f5_aheadSize f0_solved : Int32} {ai0 : Nat → Nat → Int32} {al : Nat → Nat → Int64} {w0 w1 w2 w3 : Nat} (C : Cx p c s m meth args A dC dI (TY cI cJ cII cJJ) cX4_refresh none 3 RX4 0 g) : ∀ (L1 S0 f4_blockCount f4_blockLength f4_lastIsFree f4_stale : Int32) (ai : Nat → Nat → Int32) (H : Heap) (locs : List Loc) (ls : Array Slot), (0 ≤ L1.toInt ∧ L1.toInt ≤ 3) → (0 ≤ S0.toInt ∧ S0.toInt ≤ 21) → (1 ≤ f3_unknowns.toInt ∧ f3_unknowns.toInt ≤ 4) → (0 ≤ f3_equations.toInt ∧ f3_equations.toInt ≤ 3) → (0 ≤ f2_stale.toInt ∧ f2_stale.toInt ≤ 1) → (0 ≤ f7_size.toInt ∧ f7_size.toInt ≤ 256) → (0 ≤ f1_size.toInt ∧ f1_size.toInt ≤ 4) → (0 ≤ f5_keptSize.toInt ∧ f5_keptSize.toInt ≤ 128) → (0 ≤ f5_aheadSize.toInt ∧ f5_aheadSize.toInt ≤ 128) → (0 ≤ f4_blockCount.toInt ∧ f4_blockCount.toInt ≤ 0) → (0 ≤ f4_blockLength.toInt ∧ f4_blockLength.toInt ≤ 21) → (0 ≤ f4_lastIsFree.toInt ∧ f4_lastIsFree.toInt ≤ 1) → (0 ≤ f4_stale.toInt ∧ f4_stale.toInt ≤ 0) → IAX ai → FR [30, 32, 33, 35, 36, 37, 38, 41, 42, 43, 44, 45, 47, 48, 49, 50, 51] ai0 ai → RWX ad w0 → RWX ad w1 → RWX ad w2 → RWX ad w3 → va_P (dC, dI) vwCl (WX cI cJ cII cJJ ad f3_unknowns f3_equations f2_roundSupports f2_stale f7_size f1_size f5_keptSize f5_aheadSize f0_solved f4_blockCount f4_blockLength f4_lastIsFree f4_stale ai al w0 w1 w2 w3) H → va_D A (WX cI cJ cII cJJ ad f3_unknowns f3_equations f2_roundSupports f2_stale f7_size f1_size f5_keptSize f5_aheadSize f0_solved f4_blockCount f4_blockLength f4_lastIsFree f4_stale ai al w0 w1 w2 w3) → va_S A s.heap H locs → lv_has ls 3 [(0, .ref (ad 29)), (1, .int L1)] → W p l e ({ frames := 11, cells := 0, slots := 0, locals := 620 } : Room) s m args below meth c H locs 0 0 (MQ below (Q_m086_X4_refresh dC dI cI cJ cII cJJ ad f3_unknowns f3_equations f2_roundSupports f2_stale f7_size f1_size f5_keptSize f5_aheadSize f0_solved ai0 al w0 w1 w2 w3 A) args s 0 0 A) (F0 m 77 ls [.int S0, .ref (ad 29)]) := by
  obtain ⟨hx, hb, hr, hml, hown, hts, hk, hA, hK, hX⟩ := id C
  intro L1 S0 f4_blockCount f4_blockLength f4_lastIsFree f4_stale ai H locs ls h0 h1 h2 h3 h4 h5 h6 h7 h8 h9 h10 h11 h12 hI hF hw_w0 hw_w1 hw_w2 hw_w3 hP hD hS hl
  refine pf (k := 9) hx hb hts inX4 tyX4_ok nmX4 hown hK hP hD hS k_214 rfl (by decide) rfl rfl 29 rfl rfl rfl (Nat.le_of_ble_eq_true rfl) dX4_refresh_77 (W' := (WX cI cJ cII cJJ ad f3_unknowns f3_equations f2_roundSupports f2_stale f7_size f1_size f5_keptSize f5_aheadSize f0_solved f4_blockCount S0 f4_lastIsFree f4_stale ai al w0 w1 w2 w3)) rfl (fun H_1 locs_1 hP_1 hD_1 hS_1 => ?_)
  refine lv_iconst (v := 0) hx hb dX4_refresh_80 (by decide) ?_
  refine lv_istore_n (lv' := [(2, .int 0), (0, .ref (ad 29)), (1, .int L1)]) hx hb dX4_refresh_81 rfl hl (by decide) rfl (fun ls_2 hl_2 => ?_)
  exact m086_X4_refresh_b82 C  _ L1 0 f4_blockCount S0 f4_lastIsFree f4_stale ai _ _ _ (by first | omega | decide | (have ka0 := (by decide +kernel : (0 : Int32).toInt = 0); omega)) (by first | omega | decide | (have ka0 := (by decide +kernel : (0 : Int32).toInt = 0); omega)) (by first | omega | decide | (have ka0 := (by decide +kernel : (0 : Int32).toInt = 0); omega)) (by first | omega | decide | (have ka0 := (by decide +kernel : (0 : Int32).toInt = 0); omega)) (by first | omega | decide | (have ka0 := (by decide +kernel : (0 : Int32).toInt = 0); omega)) (by first | omega | decide | (have ka0 := (by decide +kernel : (0 : Int32).toInt = 0); omega)) (by first | omega | decide | (have ka0 := (by decide +kernel : (0 : Int32).toInt = 0); omega)) (by first | omega | decide | (have ka0 := (by decide +kernel : (0 : Int32).toInt = 0); omega)) (by first | omega | decide | (have ka0 := (by decide +kernel : (0 : Int32).toInt = 0); omega)) (by first | omega | decide | (have ka0 := (by decide +kernel : (0 : Int32).toInt = 0); omega)) (by first | omega | decide | (have ka0 := (by decide +kernel : (0 : Int32).toInt = 0); omega)) (by first | omega | decide | (have ka0 := (by decide +kernel : (0 : Int32).toInt = 0); omega)) (by first | omega | decide | (have ka0 := (by decide +kernel : (0 : Int32).toInt = 0); omega)) (j_fuel _) (by omega) hI hF hw_w0 hw_w1 hw_w2 hw_w3 hP_1 hD_1 hS_1 (lv_sub hl_2 [1, 2, 0] rfl)
set_option maxRecDepth 100000 in
set_option maxHeartbeats 4000000 in
theorem m086_X4_refresh (l : Launch) (dC : Nat → ClassId) (dI : Nat → Nat → Nat) (cI cJ cII cJJ : ClassId) (sz g : Nat) (ad : Nat → Nat) (f3_unknowns f3_equations f2_roundSupports f2_stale f7_size f1_size f5_keptSize f5_aheadSize f0_solved f4_blockCount f4_blockLength f4_lastIsFree f4_stale : Int32) (ai : Nat → Nat → Int32) (al : Nat → Nat → Int64) (w0 w1 w2 w3 : Nat) (h_f3_unknowns : (1 ≤ f3_unknowns.toInt ∧ f3_unknowns.toInt ≤ 4)) (h_f3_equations : (0 ≤ f3_equations.toInt ∧ f3_equations.toInt ≤ 3)) (h_f2_stale : (0 ≤ f2_stale.toInt ∧ f2_stale.toInt ≤ 1)) (h_f7_size : (0 ≤ f7_size.toInt ∧ f7_size.toInt ≤ 256)) (h_f1_size : (0 ≤ f1_size.toInt ∧ f1_size.toInt ≤ 4)) (h_f5_keptSize : (0 ≤ f5_keptSize.toInt ∧ f5_keptSize.toInt ≤ 128)) (h_f5_aheadSize : (0 ≤ f5_aheadSize.toInt ∧ f5_aheadSize.toInt ≤ 128)) (h_f4_blockCount : (0 ≤ f4_blockCount.toInt ∧ f4_blockCount.toInt ≤ 9261)) (h_f4_blockLength : (0 ≤ f4_blockLength.toInt ∧ f4_blockLength.toInt ≤ 21)) (h_f4_lastIsFree : (0 ≤ f4_lastIsFree.toInt ∧ f4_lastIsFree.toInt ≤ 1)) (h_f4_stale : (0 ≤ f4_stale.toInt ∧ f4_stale.toInt ≤ 1)) (hI : IAX ai) (hw_w0 : RWX ad w0) (hw_w1 : RWX ad w1) (hw_w2 : RWX ad w2) (hw_w3 : RWX ad w3) : Met l yX4_refresh (.code yX4_refresh cX4_refresh 3 none :: TT) ({ frames := 11, cells := 0, slots := 0, locals := 620 } : Room) (PcS dC dI (TY cI cJ cII cJJ) [.ref (ad 29)] (WX cI cJ cII cJJ ad f3_unknowns f3_equations f2_roundSupports f2_stale f7_size f1_size f5_keptSize f5_aheadSize f0_solved f4_blockCount f4_blockLength f4_lastIsFree f4_stale ai al w0 w1 w2 w3) sz 0 g) (Q_m086_X4_refresh dC dI cI cJ cII cJJ ad f3_unknowns f3_equations f2_roundSupports f2_stale f7_size f1_size f5_keptSize f5_aheadSize f0_solved ai al w0 w1 w2 w3 (va_A (WX cI cJ cII cJJ ad f3_unknowns f3_equations f2_roundSupports f2_stale f7_size f1_size f5_keptSize f5_aheadSize f0_solved f4_blockCount f4_blockLength f4_lastIsFree f4_stale ai al w0 w1 w2 w3) sz)) 0 0 (va_A (WX cI cJ cII cJJ ad f3_unknowns f3_equations f2_roundSupports f2_stale f7_size f1_size f5_keptSize f5_aheadSize f0_solved f4_blockCount f4_blockLength f4_lastIsFree f4_stale ai al w0 w1 w2 w3) sz) := by
  refine SM.of (y := yX4_refresh) (maxL := 3) (av := [.ref (ad 29)]) (Q_m086_X4_refresh dC dI cI cJ cII cJJ ad f3_unknowns f3_equations f2_roundSupports f2_stale f7_size f1_size f5_keptSize f5_aheadSize f0_solved ai al w0 w1 w2 w3) (by decide +kernel) (Nat.le_of_ble_eq_true rfl) (fun p e s m below meth c A ls hx hb hr hml hown hts hk hnm hA hK hP hD hS hX hl => ?_)
  have C : Cx p c s m meth (([.ref (ad 29)] : List Value).toArray) A dC dI (TY cI cJ cII cJJ) cX4_refresh none 3 RX4 0 g := ⟨hx, hb, hr, hml, hown, hts, hk, hA, hK, hX⟩
  have hown : s.vm.findClass RX4 = some m.cls := hown
  have hl : lv_has ls 3 [(0, .ref (ad 29))] := hl
  obtain ⟨H, hH⟩ : ∃ q, q = s.heap := ⟨_, rfl⟩
  rw [← hH] at hP
  have hS : va_S A s.heap H [] := by rw [hH]; exact hS
  rw [← hH]
  have hF := FR_refl [30, 32, 33, 35, 36, 37, 38, 41, 42, 43, 44, 45, 47, 48, 49, 50, 51] ai
  refine lv_aload_n hx hb dX4_refresh_0 rfl (lv_at hl 0 rfl) ?_
  refine gf (k := 11) hx hb hts inX4 hown hK hP k_216 rfl (by decide) rfl 29 rfl (.int f4_stale) rfl dX4_refresh_1 ?_
  refine lv_if_ne (tgt := 8) hx hb dX4_refresh_4 (by decide) (fun c1 => ?_) (fun c1 => ?_)
  · have c1 := j_ne (a := f4_stale.toInt) (b := 0) rfl (by decide +kernel) c1
    refine lv_aload_n hx hb dX4_refresh_8 rfl (lv_at hl 0 rfl) ?_
    refine lv_iconst (v := 0) hx hb dX4_refresh_9 (by decide) ?_
    refine pf (k := 11) hx hb hts inX4 tyX4_ok nmX4 hown hK hP hD hS k_216 rfl (by decide) rfl rfl 29 rfl rfl rfl (Nat.le_of_ble_eq_true rfl) dX4_refresh_10 (W' := (WX cI cJ cII cJJ ad f3_unknowns f3_equations f2_roundSupports f2_stale f7_size f1_size f5_keptSize f5_aheadSize f0_solved f4_blockCount f4_blockLength f4_lastIsFree 0 ai al w0 w1 w2 w3)) rfl (fun H_1 locs_1 hP_1 hD_1 hS_1 => ?_)
    refine lv_aload_n hx hb dX4_refresh_13 rfl (lv_at hl 0 rfl) ?_
    refine lv_iconst (v := 0) hx hb dX4_refresh_14 (by decide) ?_
    refine pf (k := 8) hx hb hts inX4 tyX4_ok nmX4 hown hK hP_1 hD_1 hS_1 k_213 rfl (by decide) rfl rfl 29 rfl rfl rfl (Nat.le_of_ble_eq_true rfl) dX4_refresh_15 (W' := (WX cI cJ cII cJJ ad f3_unknowns f3_equations f2_roundSupports f2_stale f7_size f1_size f5_keptSize f5_aheadSize f0_solved 0 f4_blockLength f4_lastIsFree 0 ai al w0 w1 w2 w3)) rfl (fun H_2 locs_2 hP_2 hD_2 hS_2 => ?_)
    refine lv_aload_n hx hb dX4_refresh_18 rfl (lv_at hl 0 rfl) ?_
    refine gf (k := 0) hx hb hts inX4 hown hK hP_2 k_205 rfl (by decide) rfl 29 rfl (.ref (ad 6)) rfl dX4_refresh_19 ?_
    refine gf (k := 0) hx hb hts inX3 hown hK hP_2 k_39 rfl (by decide) rfl 6 rfl (.int f3_unknowns) rfl dX4_refresh_22 ?_
    refine lv_iconst (v := 1) hx hb dX4_refresh_25 (by decide) ?_
    refine v_isub hx hb dX4_refresh_26 _ rfl ?_
    refine lv_topi (fun z2 e_z2 => ?_)
    have g_z2 : z2.toInt = f3_unknowns.toInt - 1 := by rw [e_z2]; exact n_sub (a := f3_unknowns.toInt) (b := 1) rfl (by decide +kernel) (by omega) (by omega)
    refine lv_istore_n (lv' := [(1, .int z2), (0, .ref (ad 29))]) hx hb dX4_refresh_27 rfl hl (by decide) rfl (fun ls_3 hl_3 => ?_)
    refine lv_aload_n hx hb dX4_refresh_28 rfl (lv_at hl_3 1 rfl) ?_
    refine lv_aload_n hx hb dX4_refresh_29 rfl (lv_at hl_3 1 rfl) ?_
    refine gf (k := 0) hx hb hts inX4 hown hK hP_2 k_205 rfl (by decide) rfl 29 rfl (.ref (ad 6)) rfl dX4_refresh_30 ?_
    refine lv_iload_n hx hb dX4_refresh_33 rfl (lv_at hl_3 0 rfl) ?_
    have kc0 : (0 : Int32).toInt = 0 := by decide +kernel
    have hM := m005_X3_isFree l dC dI cI cJ cII cJJ H_2.size 0 ad f3_unknowns f3_equations f2_roundSupports f2_stale f7_size f1_size f5_keptSize f5_aheadSize f0_solved 0 f4_blockLength f4_lastIsFree 0 ai al w0 w1 w2 w3 z2 (by omega) (by omega) (by omega) (by omega) (by omega) (by omega) (by omega) (by omega) (by decide +kernel) (by omega) (by omega) (by decide +kernel) hI hw_w0 hw_w1 hw_w2 hw_w3
    refine k2V_i (q0 := 6) ⟨hx, hb, hml, hown, hts⟩ hK hP_2 hD_2 hS_2 hA hX cv_RX4_52 hM ⟨by decide +kernel, by decide +kernel⟩ rfl rfl (Or.inl rfl) (rest := [.ref (ad 29)]) rfl rfl rfl hl_3.1 rfl (Nat.le_of_ble_eq_true rfl) dX4_refresh_34 ⟨Nat.le_of_ble_eq_true rfl, Nat.le_of_ble_eq_true rfl⟩ (fun r3 t H1 locs_4 ht hB hS_4 hFc => ?_)
    obtain ⟨gpr3_0, hP_5, -, hD_5⟩ := hB
    rw [ht] at hP_5
    have hD_6 := hD_5.weaken (B := A) (fun k q _ h9 => hFc q.1 h9)
    clear ht
    generalize H1 = H_7 at hP_5 hS_4 ⊢
    refine pf (k := 10) hx hb hts inX4 tyX4_ok nmX4 hown hK hP_5 hD_6 hS_4 k_215 rfl (by decide) rfl rfl 29 rfl (nb_n (a := r3.toInt) rfl (by omega) (by omega)) (nb_f (a := r3.toInt) rfl (by omega) (by omega)) (Nat.le_of_ble_eq_true rfl) dX4_refresh_37 (W' := (WX cI cJ cII cJJ ad f3_unknowns f3_equations f2_roundSupports f2_stale f7_size f1_size f5_keptSize f5_aheadSize f0_solved 0 f4_blockLength r3 0 ai al w0 w1 w2 w3)) rfl (fun H_8 locs_8 hP_8 hD_8 hS_8 => ?_)
    refine lv_aload_n hx hb dX4_refresh_40 rfl (lv_at hl_3 1 rfl) ?_
    refine lv_aload_n hx hb dX4_refresh_41 rfl (lv_at hl_3 1 rfl) ?_
    refine gf (k := 10) hx hb hts inX4 hown hK hP_8 k_215 rfl (by decide) rfl 29 rfl (.int r3) rfl dX4_refresh_42 ?_
    refine lv_if_eq (tgt := 76) hx hb dX4_refresh_45 (by decide) (fun c4 => ?_) (fun c4 => ?_)
    · have c4 := j_eq (a := r3.toInt) (b := 0) rfl (by decide +kernel) c4
      refine lv_iconst (v := 1) hx hb dX4_refresh_76 (by decide) ?_
      exact m086_X4_refresh_b77 C  z2 1 0 f4_blockLength r3 0 ai _ _ _ (by first | omega | decide | (have ka0 := (by decide +kernel : (0 : Int32).toInt = 0); have ka1 := (by decide +kernel : (1 : Int32).toInt = 1); omega)) (by first | omega | decide | (have ka0 := (by decide +kernel : (0 : Int32).toInt = 0); have ka1 := (by decide +kernel : (1 : Int32).toInt = 1); omega)) (by first | omega | decide | (have ka0 := (by decide +kernel : (0 : Int32).toInt = 0); have ka1 := (by decide +kernel : (1 : Int32).toInt = 1); omega)) (by first | omega | decide | (have ka0 := (by decide +kernel : (0 : Int32).toInt = 0); have ka1 := (by decide +kernel : (1 : Int32).toInt = 1); omega)) (by first | omega | decide | (have ka0 := (by decide +kernel : (0 : Int32).toInt = 0); have ka1 := (by decide +kernel : (1 : Int32).toInt = 1); omega)) (by first | omega | decide | (have ka0 := (by decide +kernel : (0 : Int32).toInt = 0); have ka1 := (by decide +kernel : (1 : Int32).toInt = 1); omega)) (by first | omega | decide | (have ka0 := (by decide +kernel : (0 : Int32).toInt = 0); have ka1 := (by decide +kernel : (1 : Int32).toInt = 1); omega)) (by first | omega | decide | (have ka0 := (by decide +kernel : (0 : Int32).toInt = 0); have ka1 := (by decide +kernel : (1 : Int32).toInt = 1); omega)) (by first | omega | decide | (have ka0 := (by decide +kernel : (0 : Int32).toInt = 0); have ka1 := (by decide +kernel : (1 : Int32).toInt = 1); omega)) (by first | omega | decide | (have ka0 := (by decide +kernel : (0 : Int32).toInt = 0); have ka1 := (by decide +kernel : (1 : Int32).toInt = 1); omega)) (by first | omega | decide | (have ka0 := (by decide +kernel : (0 : Int32).toInt = 0); have ka1 := (by decide +kernel : (1 : Int32).toInt = 1); omega)) (by first | omega | decide | (have ka0 := (by decide +kernel : (0 : Int32).toInt = 0); have ka1 := (by decide +kernel : (1 : Int32).toInt = 1); omega)) (by first | omega | decide | (have ka0 := (by decide +kernel : (0 : Int32).toInt = 0); have ka1 := (by decide +kernel : (1 : Int32).toInt = 1); omega)) hI hF hw_w0 hw_w1 hw_w2 hw_w3 hP_8 hD_8 hS_8 (lv_sub hl_3 [1, 0] rfl)
    · have c4 := j_ne (a := r3.toInt) (b := 0) rfl (by decide +kernel) c4
      refine lv_iconst (v := 0) hx hb dX4_refresh_48 (by decide) ?_
      refine lv_aload_n hx hb dX4_refresh_49 rfl (lv_at hl_3 1 rfl) ?_
      refine gf (k := 0) hx hb hts inX4 hown hK hP_8 k_205 rfl (by decide) rfl 29 rfl (.ref (ad 6)) rfl dX4_refresh_50 ?_
      refine gf (k := 5) hx hb hts inX3 hown hK hP_8 k_61 rfl (by decide) rfl 6 rfl (.ref (ad 8)) rfl dX4_refresh_53 ?_
      refine lv_iload_n hx hb dX4_refresh_56 rfl (lv_at hl_3 0 rfl) ?_
      refine va_iald hx hb hK hP_8 8 0 rfl rfl (j_in (a := z2.toInt) rfl (by omega) (by omega)) dX4_refresh_57 ?_
      refine lv_topi (fun z5 e_z5 => ?_)
      have g_z5 : -10 ≤ z5.toInt ∧ z5.toInt ≤ 10 := by rw [e_z5]; exact IAX_at8 hI _
      refine lv_aload_n hx hb dX4_refresh_58 rfl (lv_at hl_3 1 rfl) ?_
      refine gf (k := 0) hx hb hts inX4 hown hK hP_8 k_205 rfl (by decide) rfl 29 rfl (.ref (ad 6)) rfl dX4_refresh_59 ?_
      refine gf (k := 4) hx hb hts inX3 hown hK hP_8 k_57 rfl (by decide) rfl 6 rfl (.ref (ad 7)) rfl dX4_refresh_62 ?_
      refine lv_iload_n hx hb dX4_refresh_65 rfl (lv_at hl_3 0 rfl) ?_
      refine va_iald hx hb hK hP_8 7 0 rfl rfl (j_in (a := z2.toInt) rfl (by omega) (by omega)) dX4_refresh_66 ?_
      refine lv_topi (fun z6 e_z6 => ?_)
      have g_z6 : -10 ≤ z6.toInt ∧ z6.toInt ≤ 10 := by rw [e_z6]; exact IAX_at7 hI _
      refine v_isub hx hb dX4_refresh_67 _ rfl ?_
      refine lv_topi (fun z7 e_z7 => ?_)
      have g_z7 : z7.toInt = z5.toInt - z6.toInt := by rw [e_z7]; exact n_sub (a := z5.toInt) (b := z6.toInt) rfl rfl (by omega) (by omega)
      refine lv_iconst (v := 1) hx hb dX4_refresh_68 (by decide) ?_
      refine v_iadd hx hb dX4_refresh_69 _ rfl ?_
      refine lv_topi (fun z8 e_z8 => ?_)
      have g_z8 : z8.toInt = z7.toInt + 1 := by rw [e_z8]; exact n_add (a := z7.toInt) (b := 1) rfl (by decide +kernel) (by omega) (by omega)
      refine va_mmax hx hb (by rw [hml]; exact hl_3.1.symm) hown (hts _ k_667) (hts _ k_445) (hts _ k_13) (hts _ k_446) (by decide) (Nat.le_of_ble_eq_true rfl) (Nat.le_of_ble_eq_true rfl) (Nat.le_of_ble_eq_true rfl) dX4_refresh_70 ?_
      refine lv_topi (fun z9 e_z9 => ?_)
      have g_z9 : (z9.toInt = 0 ∨ z9.toInt = z8.toInt) ∧ 0 ≤ z9.toInt ∧ z8.toInt ≤ z9.toInt := by rw [e_z9]; exact n_max (a := 0) (b := z8.toInt) (by decide +kernel) rfl
      refine lv_goto (tgt := 77) hx hb dX4_refresh_73 (by decide) ?_
      exact m086_X4_refresh_b77 C  z2 z9 0 f4_blockLength r3 0 ai _ _ _ (by first | omega | decide | (have ka0 := (by decide +kernel : (0 : Int32).toInt = 0); omega)) (by first | omega | decide | (have ka0 := (by decide +kernel : (0 : Int32).toInt = 0); omega)) (by first | omega | decide | (have ka0 := (by decide +kernel : (0 : Int32).toInt = 0); omega)) (by first | omega | decide | (have ka0 := (by decide +kernel : (0 : Int32).toInt = 0); omega)) (by first | omega | decide | (have ka0 := (by decide +kernel : (0 : Int32).toInt = 0); omega)) (by first | omega | decide | (have ka0 := (by decide +kernel : (0 : Int32).toInt = 0); omega)) (by first | omega | decide | (have ka0 := (by decide +kernel : (0 : Int32).toInt = 0); omega)) (by first | omega | decide | (have ka0 := (by decide +kernel : (0 : Int32).toInt = 0); omega)) (by first | omega | decide | (have ka0 := (by decide +kernel : (0 : Int32).toInt = 0); omega)) (by first | omega | decide | (have ka0 := (by decide +kernel : (0 : Int32).toInt = 0); omega)) (by first | omega | decide | (have ka0 := (by decide +kernel : (0 : Int32).toInt = 0); omega)) (by first | omega | decide | (have ka0 := (by decide +kernel : (0 : Int32).toInt = 0); omega)) (by first | omega | decide | (have ka0 := (by decide +kernel : (0 : Int32).toInt = 0); omega)) hI hF hw_w0 hw_w1 hw_w2 hw_w3 hP_8 hD_8 hS_8 (lv_sub hl_3 [1, 0] rfl)
  · have c1 := j_eq (a := f4_stale.toInt) (b := 0) rfl (by decide +kernel) c1
    exact r2_v hx hb hr hk hS dX4_refresh_7 (fun t ht hW => ⟨f4_blockCount, f4_blockLength, f4_lastIsFree, f4_stale, ai, ⟨(by first | omega | decide | exact Or.inl (by decide) | exact Or.inr (by decide) | exact Or.inr (by omega)), (by first | omega | decide | exact Or.inl (by decide) | exact Or.inr (by decide) | exact Or.inr (by omega)), (by first | omega | decide | exact Or.inl (by decide) | exact Or.inr (by decide) | exact Or.inr (by omega)), (by first | omega | decide | exact Or.inl (by decide) | exact Or.inr (by decide) | exact Or.inr (by omega)), hI, hF⟩, by rw [ht]; exact hP, va_K.moved hW.alike hK, hD⟩)
def Q_m087_X1_subtract (dC : Nat → ClassId) (dI : Nat → Nat → Nat) (cI cJ cII cJJ : ClassId) (ad : Nat → Nat) (f3_unknowns f3_equations f2_roundSupports f2_stale f7_size f1_size f5_keptSize f5_aheadSize f0_solved f4_blockCount f4_blockLength f4_lastIsFree f4_stale : Int32) (ai : Nat → Nat → Int32) (al0 : Nat → Nat → Int64) (w0 w1 w2 w3 : Nat) : (Nat → Prop) → Array Value → State → Outcome → State → Prop := fun A => QV (fun t => ∃ (n_al : Nat → Nat → Int64), (FL [16, 17, 18, 19] al0 n_al) ∧ WO dC dI (TY cI cJ cII cJJ) (WX cI cJ cII cJJ ad f3_unknowns f3_equations f2_roundSupports f2_stale f7_size f1_size f5_keptSize f5_aheadSize f0_solved f4_blockCount f4_blockLength f4_lastIsFree f4_stale ai n_al w0 w1 w2 w3) A t) A
set_option maxRecDepth 100000 in
set_option maxHeartbeats 4000000 in
theorem m087_X1_subtract_b3 {p : Program} {l : Launch} {e : Env} {s : State} {m : MethodId} {args : Array Value} {below : List Frame} {meth : Method} {c : Code} {A : Nat → Prop} {dC : Nat → ClassId} {dI : Nat → Nat → Nat} {cI cJ cII cJJ : ClassId} {ad : Nat → Nat} {g : Nat} {f3_unknowns f3_equations f2_roundSupports f2_stale f7_size f1_size f5_keptSize f5_aheadSize f0_solved f4_blockCount f4_blockLength f4_lastIsFree f4_stale : Int32} {ai : Nat → Nat → Int32} {al0 : Nat → Nat → Int64} {w0 w1 w2 w3 : Nat} (C : Cx p c s m meth args A dC dI (TY cI cJ cII cJJ) cX1_subtract none 6 RX1 0 g) : ∀ (n : Nat), ∀ (L1 L2 L5 : Int32) (J3 : Int64) (al : Nat → Nat → Int64) (H : Heap) (locs : List Loc) (ls : Array Slot), (0 ≤ L1.toInt ∧ L1.toInt ≤ 3) → (0 ≤ L2.toInt ∧ L2.toInt ≤ 3) → (0 ≤ L5.toInt ∧ L5.toInt ≤ 4) → (1 ≤ f3_unknowns.toInt ∧ f3_unknowns.toInt ≤ 4) → (0 ≤ f3_equations.toInt ∧ f3_equations.toInt ≤ 3) → (0 ≤ f2_stale.toInt ∧ f2_stale.toInt ≤ 1) → (0 ≤ f7_size.toInt ∧ f7_size.toInt ≤ 256) → (0 ≤ f1_size.toInt ∧ f1_size.toInt ≤ 4) → (0 ≤ f5_keptSize.toInt ∧ f5_keptSize.toInt ≤ 128) → (0 ≤ f5_aheadSize.toInt ∧ f5_aheadSize.toInt ≤ 128) → (0 ≤ f4_blockCount.toInt ∧ f4_blockCount.toInt ≤ 9261) → (0 ≤ f4_blockLength.toInt ∧ f4_blockLength.toInt ≤ 21) → (0 ≤ f4_lastIsFree.toInt ∧ f4_lastIsFree.toInt ≤ 1) → (0 ≤ f4_stale.toInt ∧ f4_stale.toInt ≤ 1) → 4 - L5.toInt < (n : Int) → (0 : Int) < (n : Int) → IAX ai → FL [16, 17, 18, 19] al0 al → RWX ad w0 → RWX ad w1 → RWX ad w2 → RWX ad w3 → va_P (dC, dI) vwCl (WX cI cJ cII cJJ ad f3_unknowns f3_equations f2_roundSupports f2_stale f7_size f1_size f5_keptSize f5_aheadSize f0_solved f4_blockCount f4_blockLength f4_lastIsFree f4_stale ai al w0 w1 w2 w3) H → va_D A (WX cI cJ cII cJJ ad f3_unknowns f3_equations f2_roundSupports f2_stale f7_size f1_size f5_keptSize f5_aheadSize f0_solved f4_blockCount f4_blockLength f4_lastIsFree f4_stale ai al w0 w1 w2 w3) → va_S A s.heap H locs → lv_has ls 6 [(0, .ref (ad 14)), (1, .int L1), (2, .int L2), (3, .long J3), (5, .int L5)] → W p l e ({ frames := 2, cells := 0, slots := 0, locals := 80 } : Room) s m args below meth c H locs 0 0 (MQ below (Q_m087_X1_subtract dC dI cI cJ cII cJJ ad f3_unknowns f3_equations f2_roundSupports f2_stale f7_size f1_size f5_keptSize f5_aheadSize f0_solved f4_blockCount f4_blockLength f4_lastIsFree f4_stale ai al0 w0 w1 w2 w3 A) args s 0 0 A) (F0 m 3 ls []) := by
  obtain ⟨hx, hb, hr, hml, hown, hts, hk, hA, hK, hX⟩ := id C
  intro n
  induction n with
  | zero =>
    intro L1 L2 L5 J3 al H locs ls h0 h1 h2 h3 h4 h5 h6 h7 h8 h9 h10 h11 h12 h13 h14 h15 hI hG hw_w0 hw_w1 hw_w2 hw_w3 hP hD hS hl
    exact absurd h15 (by omega)
  | succ n ih =>
    intro L1 L2 L5 J3 al H locs ls h0 h1 h2 h3 h4 h5 h6 h7 h8 h9 h10 h11 h12 h13 h14 h15 hI hG hw_w0 hw_w1 hw_w2 hw_w3 hP hD hS hl
    refine lv_iload hx hb dX1_subtract_3 (lv_at hl 4 rfl) ?_
    refine lv_iconst (v := 4) hx hb dX1_subtract_5 (by decide) ?_
    refine lv_icmp_ge (tgt := 38) hx hb dX1_subtract_6 (by decide) (fun c1 => ?_) (fun c1 => ?_)
    · have c1 := j_le (a := 4) (b := L5.toInt) (by decide +kernel) rfl c1
      exact r2_v hx hb hr hk hS dX1_subtract_38 (fun t ht hW => ⟨al, hG, by rw [ht]; exact hP, va_K.moved hW.alike hK, hD⟩)
    · have c1 := j_nle (a := 4) (b := L5.toInt) (by decide +kernel) rfl c1
      refine lv_aload_n hx hb dX1_subtract_9 rfl (lv_at hl 0 rfl) ?_
      refine gf (k := 0) hx hb hts inX1 hown hK hP k_116 rfl (by decide) rfl 14 rfl (.ref (ad 15)) rfl dX1_subtract_10 ?_
      refine lv_iload_n hx hb dX1_subtract_13 rfl (lv_at hl 1 rfl) ?_
      rcases (show L1 = 0 ∨ L1 = 1 ∨ L1 = 2 ∨ L1 = 3 from j_cases4 (a := L1.toInt) rfl (by omega) (by omega)) with rfl | rfl | rfl | rfl
      · have k9 : (0 : Int32).toInt = 0 := by decide +kernel
        refine ld_a hx hb hK hP 15 3 rfl rfl (vin (by decide +kernel)) dX1_subtract_14 w0 rfl ?_
        refine lv_iload hx hb dX1_subtract_15 (lv_at hl 4 rfl) ?_
        refine lv_dup2_11 hx hb dX1_subtract_17 rfl rfl ?_
        refine ld_wX hx hb hK hP hw_w0 (j_in (a := L5.toInt) rfl (by omega) (by omega)) dX1_subtract_18 (fun yy2 => ?_)
        refine lv_lload_n hx hb dX1_subtract_19 rfl (lv_at hl 3 rfl) ?_
        refine lv_aload_n hx hb dX1_subtract_20 rfl (lv_at hl 0 rfl) ?_
        refine gf (k := 0) hx hb hts inX1 hown hK hP k_116 rfl (by decide) rfl 14 rfl (.ref (ad 15)) rfl dX1_subtract_21 ?_
        refine lv_iload_n hx hb dX1_subtract_24 rfl (lv_at hl 2 rfl) ?_
        rcases (show L2 = 0 ∨ L2 = 1 ∨ L2 = 2 ∨ L2 = 3 from j_cases4 (a := L2.toInt) rfl (by omega) (by omega)) with rfl | rfl | rfl | rfl
        · have k9 : (0 : Int32).toInt = 0 := by decide +kernel
          refine ld_a hx hb hK hP 15 3 rfl rfl (vin (by decide +kernel)) dX1_subtract_25 w0 rfl ?_
          refine lv_iload hx hb dX1_subtract_26 (lv_at hl 4 rfl) ?_
          refine ld_wX hx hb hK hP hw_w0 (j_in (a := L5.toInt) rfl (by omega) (by omega)) dX1_subtract_28 (fun yy3 => ?_)
          refine v_lmul hx hb dX1_subtract_29 _ rfl ?_
          refine lv_topl (fun yy4 e_yy4 => ?_)
          refine v_lsub hx hb dX1_subtract_30 _ rfl ?_
          refine lv_topl (fun yy5 e_yy5 => ?_)
          refine st_wX hx hb hK hP hD hS hw_w0 (j_in (a := L5.toInt) rfl (by omega) (by omega)) dX1_subtract_31 (fun al6 e_al6 H_1 locs_1 hP_1 hD_1 hS_1 => ?_)
          have hG_2 := FL_tr hG e_al6 (by decide)
          obtain ⟨z7, e_z7⟩ : ∃ q : Int32, q = L5 + Int32.ofInt 1 := ⟨_, rfl⟩
          have g_z7 : z7.toInt = L5.toInt + 1 := by rw [e_z7]; exact n_add (a := L5.toInt) (b := 1) rfl (by decide +kernel) (by omega) (by omega)
          refine lv_iinc (v := z7) (lv' := [(5, .int z7), (0, .ref (ad 14)), (1, .int 0), (2, .int 0), (3, .long J3)]) hx hb dX1_subtract_32 hl (k := 4) rfl e_z7.symm (by decide) rfl (fun ls_3 hl_3 => ?_)
          refine lv_goto (tgt := 3) hx hb dX1_subtract_35 (by decide) ?_
          exact ih 0 0 z7 J3 al6 _ _ _ (by first | omega | decide | (have ka0 := (by decide +kernel : (0 : Int32).toInt = 0); omega)) (by first | omega | decide | (have ka0 := (by decide +kernel : (0 : Int32).toInt = 0); omega)) (by first | omega | decide | (have ka0 := (by decide +kernel : (0 : Int32).toInt = 0); omega)) (by first | omega | decide | (have ka0 := (by decide +kernel : (0 : Int32).toInt = 0); omega)) (by first | omega | decide | (have ka0 := (by decide +kernel : (0 : Int32).toInt = 0); omega)) (by first | omega | decide | (have ka0 := (by decide +kernel : (0 : Int32).toInt = 0); omega)) (by first | omega | decide | (have ka0 := (by decide +kernel : (0 : Int32).toInt = 0); omega)) (by first | omega | decide | (have ka0 := (by decide +kernel : (0 : Int32).toInt = 0); omega)) (by first | omega | decide | (have ka0 := (by decide +kernel : (0 : Int32).toInt = 0); omega)) (by first | omega | decide | (have ka0 := (by decide +kernel : (0 : Int32).toInt = 0); omega)) (by first | omega | decide | (have ka0 := (by decide +kernel : (0 : Int32).toInt = 0); omega)) (by first | omega | decide | (have ka0 := (by decide +kernel : (0 : Int32).toInt = 0); omega)) (by first | omega | decide | (have ka0 := (by decide +kernel : (0 : Int32).toInt = 0); omega)) (by first | omega | decide | (have ka0 := (by decide +kernel : (0 : Int32).toInt = 0); omega)) (by first | omega | decide | (have ka0 := (by decide +kernel : (0 : Int32).toInt = 0); omega)) (by first | omega | decide | (have ka0 := (by decide +kernel : (0 : Int32).toInt = 0); omega)) hI hG_2 hw_w0 hw_w1 hw_w2 hw_w3 hP_1 hD_1 hS_1 (lv_sub hl_3 [1, 2, 3, 4, 0] rfl)
        · have k9 : (1 : Int32).toInt = 1 := by decide +kernel
          refine ld_a hx hb hK hP 15 3 rfl rfl (vin (by decide +kernel)) dX1_subtract_25 w1 rfl ?_
          refine lv_iload hx hb dX1_subtract_26 (lv_at hl 4 rfl) ?_
          refine ld_wX hx hb hK hP hw_w1 (j_in (a := L5.toInt) rfl (by omega) (by omega)) dX1_subtract_28 (fun yy8 => ?_)
          refine v_lmul hx hb dX1_subtract_29 _ rfl ?_
          refine lv_topl (fun yy9 e_yy9 => ?_)
          refine v_lsub hx hb dX1_subtract_30 _ rfl ?_
          refine lv_topl (fun yy10 e_yy10 => ?_)
          refine st_wX hx hb hK hP hD hS hw_w0 (j_in (a := L5.toInt) rfl (by omega) (by omega)) dX1_subtract_31 (fun al11 e_al11 H_4 locs_4 hP_4 hD_4 hS_4 => ?_)
          have hG_5 := FL_tr hG e_al11 (by decide)
          obtain ⟨z12, e_z12⟩ : ∃ q : Int32, q = L5 + Int32.ofInt 1 := ⟨_, rfl⟩
          have g_z12 : z12.toInt = L5.toInt + 1 := by rw [e_z12]; exact n_add (a := L5.toInt) (b := 1) rfl (by decide +kernel) (by omega) (by omega)
          refine lv_iinc (v := z12) (lv' := [(5, .int z12), (0, .ref (ad 14)), (1, .int 0), (2, .int 1), (3, .long J3)]) hx hb dX1_subtract_32 hl (k := 4) rfl e_z12.symm (by decide) rfl (fun ls_6 hl_6 => ?_)
          refine lv_goto (tgt := 3) hx hb dX1_subtract_35 (by decide) ?_
          exact ih 0 1 z12 J3 al11 _ _ _ (by first | omega | decide | (have ka0 := (by decide +kernel : (0 : Int32).toInt = 0); have ka1 := (by decide +kernel : (1 : Int32).toInt = 1); omega)) (by first | omega | decide | (have ka0 := (by decide +kernel : (0 : Int32).toInt = 0); have ka1 := (by decide +kernel : (1 : Int32).toInt = 1); omega)) (by first | omega | decide | (have ka0 := (by decide +kernel : (0 : Int32).toInt = 0); have ka1 := (by decide +kernel : (1 : Int32).toInt = 1); omega)) (by first | omega | decide | (have ka0 := (by decide +kernel : (0 : Int32).toInt = 0); have ka1 := (by decide +kernel : (1 : Int32).toInt = 1); omega)) (by first | omega | decide | (have ka0 := (by decide +kernel : (0 : Int32).toInt = 0); have ka1 := (by decide +kernel : (1 : Int32).toInt = 1); omega)) (by first | omega | decide | (have ka0 := (by decide +kernel : (0 : Int32).toInt = 0); have ka1 := (by decide +kernel : (1 : Int32).toInt = 1); omega)) (by first | omega | decide | (have ka0 := (by decide +kernel : (0 : Int32).toInt = 0); have ka1 := (by decide +kernel : (1 : Int32).toInt = 1); omega)) (by first | omega | decide | (have ka0 := (by decide +kernel : (0 : Int32).toInt = 0); have ka1 := (by decide +kernel : (1 : Int32).toInt = 1); omega)) (by first | omega | decide | (have ka0 := (by decide +kernel : (0 : Int32).toInt = 0); have ka1 := (by decide +kernel : (1 : Int32).toInt = 1); omega)) (by first | omega | decide | (have ka0 := (by decide +kernel : (0 : Int32).toInt = 0); have ka1 := (by decide +kernel : (1 : Int32).toInt = 1); omega)) (by first | omega | decide | (have ka0 := (by decide +kernel : (0 : Int32).toInt = 0); have ka1 := (by decide +kernel : (1 : Int32).toInt = 1); omega)) (by first | omega | decide | (have ka0 := (by decide +kernel : (0 : Int32).toInt = 0); have ka1 := (by decide +kernel : (1 : Int32).toInt = 1); omega)) (by first | omega | decide | (have ka0 := (by decide +kernel : (0 : Int32).toInt = 0); have ka1 := (by decide +kernel : (1 : Int32).toInt = 1); omega)) (by first | omega | decide | (have ka0 := (by decide +kernel : (0 : Int32).toInt = 0); have ka1 := (by decide +kernel : (1 : Int32).toInt = 1); omega)) (by first | omega | decide | (have ka0 := (by decide +kernel : (0 : Int32).toInt = 0); have ka1 := (by decide +kernel : (1 : Int32).toInt = 1); omega)) (by first | omega | decide | (have ka0 := (by decide +kernel : (0 : Int32).toInt = 0); have ka1 := (by decide +kernel : (1 : Int32).toInt = 1); omega)) hI hG_5 hw_w0 hw_w1 hw_w2 hw_w3 hP_4 hD_4 hS_4 (lv_sub hl_6 [1, 2, 3, 4, 0] rfl)
        · have k9 : (2 : Int32).toInt = 2 := by decide +kernel
          refine ld_a hx hb hK hP 15 3 rfl rfl (vin (by decide +kernel)) dX1_subtract_25 w2 rfl ?_
          refine lv_iload hx hb dX1_subtract_26 (lv_at hl 4 rfl) ?_
          refine ld_wX hx hb hK hP hw_w2 (j_in (a := L5.toInt) rfl (by omega) (by omega)) dX1_subtract_28 (fun yy13 => ?_)
          refine v_lmul hx hb dX1_subtract_29 _ rfl ?_
          refine lv_topl (fun yy14 e_yy14 => ?_)
          refine v_lsub hx hb dX1_subtract_30 _ rfl ?_
          refine lv_topl (fun yy15 e_yy15 => ?_)
          refine st_wX hx hb hK hP hD hS hw_w0 (j_in (a := L5.toInt) rfl (by omega) (by omega)) dX1_subtract_31 (fun al16 e_al16 H_7 locs_7 hP_7 hD_7 hS_7 => ?_)
          have hG_8 := FL_tr hG e_al16 (by decide)
          obtain ⟨z17, e_z17⟩ : ∃ q : Int32, q = L5 + Int32.ofInt 1 := ⟨_, rfl⟩
          have g_z17 : z17.toInt = L5.toInt + 1 := by rw [e_z17]; exact n_add (a := L5.toInt) (b := 1) rfl (by decide +kernel) (by omega) (by omega)
          refine lv_iinc (v := z17) (lv' := [(5, .int z17), (0, .ref (ad 14)), (1, .int 0), (2, .int 2), (3, .long J3)]) hx hb dX1_subtract_32 hl (k := 4) rfl e_z17.symm (by decide) rfl (fun ls_9 hl_9 => ?_)
          refine lv_goto (tgt := 3) hx hb dX1_subtract_35 (by decide) ?_
          exact ih 0 2 z17 J3 al16 _ _ _ (by first | omega | decide | (have ka0 := (by decide +kernel : (0 : Int32).toInt = 0); have ka1 := (by decide +kernel : (2 : Int32).toInt = 2); omega)) (by first | omega | decide | (have ka0 := (by decide +kernel : (0 : Int32).toInt = 0); have ka1 := (by decide +kernel : (2 : Int32).toInt = 2); omega)) (by first | omega | decide | (have ka0 := (by decide +kernel : (0 : Int32).toInt = 0); have ka1 := (by decide +kernel : (2 : Int32).toInt = 2); omega)) (by first | omega | decide | (have ka0 := (by decide +kernel : (0 : Int32).toInt = 0); have ka1 := (by decide +kernel : (2 : Int32).toInt = 2); omega)) (by first | omega | decide | (have ka0 := (by decide +kernel : (0 : Int32).toInt = 0); have ka1 := (by decide +kernel : (2 : Int32).toInt = 2); omega)) (by first | omega | decide | (have ka0 := (by decide +kernel : (0 : Int32).toInt = 0); have ka1 := (by decide +kernel : (2 : Int32).toInt = 2); omega)) (by first | omega | decide | (have ka0 := (by decide +kernel : (0 : Int32).toInt = 0); have ka1 := (by decide +kernel : (2 : Int32).toInt = 2); omega)) (by first | omega | decide | (have ka0 := (by decide +kernel : (0 : Int32).toInt = 0); have ka1 := (by decide +kernel : (2 : Int32).toInt = 2); omega)) (by first | omega | decide | (have ka0 := (by decide +kernel : (0 : Int32).toInt = 0); have ka1 := (by decide +kernel : (2 : Int32).toInt = 2); omega)) (by first | omega | decide | (have ka0 := (by decide +kernel : (0 : Int32).toInt = 0); have ka1 := (by decide +kernel : (2 : Int32).toInt = 2); omega)) (by first | omega | decide | (have ka0 := (by decide +kernel : (0 : Int32).toInt = 0); have ka1 := (by decide +kernel : (2 : Int32).toInt = 2); omega)) (by first | omega | decide | (have ka0 := (by decide +kernel : (0 : Int32).toInt = 0); have ka1 := (by decide +kernel : (2 : Int32).toInt = 2); omega)) (by first | omega | decide | (have ka0 := (by decide +kernel : (0 : Int32).toInt = 0); have ka1 := (by decide +kernel : (2 : Int32).toInt = 2); omega)) (by first | omega | decide | (have ka0 := (by decide +kernel : (0 : Int32).toInt = 0); have ka1 := (by decide +kernel : (2 : Int32).toInt = 2); omega)) (by first | omega | decide | (have ka0 := (by decide +kernel : (0 : Int32).toInt = 0); have ka1 := (by decide +kernel : (2 : Int32).toInt = 2); omega)) (by first | omega | decide | (have ka0 := (by decide +kernel : (0 : Int32).toInt = 0); have ka1 := (by decide +kernel : (2 : Int32).toInt = 2); omega)) hI hG_8 hw_w0 hw_w1 hw_w2 hw_w3 hP_7 hD_7 hS_7 (lv_sub hl_9 [1, 2, 3, 4, 0] rfl)
        · have k9 : (3 : Int32).toInt = 3 := by decide +kernel
          refine ld_a hx hb hK hP 15 3 rfl rfl (vin (by decide +kernel)) dX1_subtract_25 w3 rfl ?_
          refine lv_iload hx hb dX1_subtract_26 (lv_at hl 4 rfl) ?_
          refine ld_wX hx hb hK hP hw_w3 (j_in (a := L5.toInt) rfl (by omega) (by omega)) dX1_subtract_28 (fun yy18 => ?_)
          refine v_lmul hx hb dX1_subtract_29 _ rfl ?_
          refine lv_topl (fun yy19 e_yy19 => ?_)
          refine v_lsub hx hb dX1_subtract_30 _ rfl ?_
          refine lv_topl (fun yy20 e_yy20 => ?_)
          refine st_wX hx hb hK hP hD hS hw_w0 (j_in (a := L5.toInt) rfl (by omega) (by omega)) dX1_subtract_31 (fun al21 e_al21 H_10 locs_10 hP_10 hD_10 hS_10 => ?_)
          have hG_11 := FL_tr hG e_al21 (by decide)
          obtain ⟨z22, e_z22⟩ : ∃ q : Int32, q = L5 + Int32.ofInt 1 := ⟨_, rfl⟩
          have g_z22 : z22.toInt = L5.toInt + 1 := by rw [e_z22]; exact n_add (a := L5.toInt) (b := 1) rfl (by decide +kernel) (by omega) (by omega)
          refine lv_iinc (v := z22) (lv' := [(5, .int z22), (0, .ref (ad 14)), (1, .int 0), (2, .int 3), (3, .long J3)]) hx hb dX1_subtract_32 hl (k := 4) rfl e_z22.symm (by decide) rfl (fun ls_12 hl_12 => ?_)
          refine lv_goto (tgt := 3) hx hb dX1_subtract_35 (by decide) ?_
          exact ih 0 3 z22 J3 al21 _ _ _ (by first | omega | decide | (have ka0 := (by decide +kernel : (0 : Int32).toInt = 0); have ka1 := (by decide +kernel : (3 : Int32).toInt = 3); omega)) (by first | omega | decide | (have ka0 := (by decide +kernel : (0 : Int32).toInt = 0); have ka1 := (by decide +kernel : (3 : Int32).toInt = 3); omega)) (by first | omega | decide | (have ka0 := (by decide +kernel : (0 : Int32).toInt = 0); have ka1 := (by decide +kernel : (3 : Int32).toInt = 3); omega)) (by first | omega | decide | (have ka0 := (by decide +kernel : (0 : Int32).toInt = 0); have ka1 := (by decide +kernel : (3 : Int32).toInt = 3); omega)) (by first | omega | decide | (have ka0 := (by decide +kernel : (0 : Int32).toInt = 0); have ka1 := (by decide +kernel : (3 : Int32).toInt = 3); omega)) (by first | omega | decide | (have ka0 := (by decide +kernel : (0 : Int32).toInt = 0); have ka1 := (by decide +kernel : (3 : Int32).toInt = 3); omega)) (by first | omega | decide | (have ka0 := (by decide +kernel : (0 : Int32).toInt = 0); have ka1 := (by decide +kernel : (3 : Int32).toInt = 3); omega)) (by first | omega | decide | (have ka0 := (by decide +kernel : (0 : Int32).toInt = 0); have ka1 := (by decide +kernel : (3 : Int32).toInt = 3); omega)) (by first | omega | decide | (have ka0 := (by decide +kernel : (0 : Int32).toInt = 0); have ka1 := (by decide +kernel : (3 : Int32).toInt = 3); omega)) (by first | omega | decide | (have ka0 := (by decide +kernel : (0 : Int32).toInt = 0); have ka1 := (by decide +kernel : (3 : Int32).toInt = 3); omega)) (by first | omega | decide | (have ka0 := (by decide +kernel : (0 : Int32).toInt = 0); have ka1 := (by decide +kernel : (3 : Int32).toInt = 3); omega)) (by first | omega | decide | (have ka0 := (by decide +kernel : (0 : Int32).toInt = 0); have ka1 := (by decide +kernel : (3 : Int32).toInt = 3); omega)) (by first | omega | decide | (have ka0 := (by decide +kernel : (0 : Int32).toInt = 0); have ka1 := (by decide +kernel : (3 : Int32).toInt = 3); omega)) (by first | omega | decide | (have ka0 := (by decide +kernel : (0 : Int32).toInt = 0); have ka1 := (by decide +kernel : (3 : Int32).toInt = 3); omega)) (by first | omega | decide | (have ka0 := (by decide +kernel : (0 : Int32).toInt = 0); have ka1 := (by decide +kernel : (3 : Int32).toInt = 3); omega)) (by first | omega | decide | (have ka0 := (by decide +kernel : (0 : Int32).toInt = 0); have ka1 := (by decide +kernel : (3 : Int32).toInt = 3); omega)) hI hG_11 hw_w0 hw_w1 hw_w2 hw_w3 hP_10 hD_10 hS_10 (lv_sub hl_12 [1, 2, 3, 4, 0] rfl)
      · have k9 : (1 : Int32).toInt = 1 := by decide +kernel
        refine ld_a hx hb hK hP 15 3 rfl rfl (vin (by decide +kernel)) dX1_subtract_14 w1 rfl ?_
        refine lv_iload hx hb dX1_subtract_15 (lv_at hl 4 rfl) ?_
        refine lv_dup2_11 hx hb dX1_subtract_17 rfl rfl ?_
        refine ld_wX hx hb hK hP hw_w1 (j_in (a := L5.toInt) rfl (by omega) (by omega)) dX1_subtract_18 (fun yy23 => ?_)
        refine lv_lload_n hx hb dX1_subtract_19 rfl (lv_at hl 3 rfl) ?_
        refine lv_aload_n hx hb dX1_subtract_20 rfl (lv_at hl 0 rfl) ?_
        refine gf (k := 0) hx hb hts inX1 hown hK hP k_116 rfl (by decide) rfl 14 rfl (.ref (ad 15)) rfl dX1_subtract_21 ?_
        refine lv_iload_n hx hb dX1_subtract_24 rfl (lv_at hl 2 rfl) ?_
        rcases (show L2 = 0 ∨ L2 = 1 ∨ L2 = 2 ∨ L2 = 3 from j_cases4 (a := L2.toInt) rfl (by omega) (by omega)) with rfl | rfl | rfl | rfl
        · have k9 : (0 : Int32).toInt = 0 := by decide +kernel
          refine ld_a hx hb hK hP 15 3 rfl rfl (vin (by decide +kernel)) dX1_subtract_25 w0 rfl ?_
          refine lv_iload hx hb dX1_subtract_26 (lv_at hl 4 rfl) ?_
          refine ld_wX hx hb hK hP hw_w0 (j_in (a := L5.toInt) rfl (by omega) (by omega)) dX1_subtract_28 (fun yy24 => ?_)
          refine v_lmul hx hb dX1_subtract_29 _ rfl ?_
          refine lv_topl (fun yy25 e_yy25 => ?_)
          refine v_lsub hx hb dX1_subtract_30 _ rfl ?_
          refine lv_topl (fun yy26 e_yy26 => ?_)
          refine st_wX hx hb hK hP hD hS hw_w1 (j_in (a := L5.toInt) rfl (by omega) (by omega)) dX1_subtract_31 (fun al27 e_al27 H_13 locs_13 hP_13 hD_13 hS_13 => ?_)
          have hG_14 := FL_tr hG e_al27 (by decide)
          obtain ⟨z28, e_z28⟩ : ∃ q : Int32, q = L5 + Int32.ofInt 1 := ⟨_, rfl⟩
          have g_z28 : z28.toInt = L5.toInt + 1 := by rw [e_z28]; exact n_add (a := L5.toInt) (b := 1) rfl (by decide +kernel) (by omega) (by omega)
          refine lv_iinc (v := z28) (lv' := [(5, .int z28), (0, .ref (ad 14)), (1, .int 1), (2, .int 0), (3, .long J3)]) hx hb dX1_subtract_32 hl (k := 4) rfl e_z28.symm (by decide) rfl (fun ls_15 hl_15 => ?_)
          refine lv_goto (tgt := 3) hx hb dX1_subtract_35 (by decide) ?_
          exact ih 1 0 z28 J3 al27 _ _ _ (by first | omega | decide | (have ka0 := (by decide +kernel : (0 : Int32).toInt = 0); have ka1 := (by decide +kernel : (1 : Int32).toInt = 1); omega)) (by first | omega | decide | (have ka0 := (by decide +kernel : (0 : Int32).toInt = 0); have ka1 := (by decide +kernel : (1 : Int32).toInt = 1); omega)) (by first | omega | decide | (have ka0 := (by decide +kernel : (0 : Int32).toInt = 0); have ka1 := (by decide +kernel : (1 : Int32).toInt = 1); omega)) (by first | omega | decide | (have ka0 := (by decide +kernel : (0 : Int32).toInt = 0); have ka1 := (by decide +kernel : (1 : Int32).toInt = 1); omega)) (by first | omega | decide | (have ka0 := (by decide +kernel : (0 : Int32).toInt = 0); have ka1 := (by decide +kernel : (1 : Int32).toInt = 1); omega)) (by first | omega | decide | (have ka0 := (by decide +kernel : (0 : Int32).toInt = 0); have ka1 := (by decide +kernel : (1 : Int32).toInt = 1); omega)) (by first | omega | decide | (have ka0 := (by decide +kernel : (0 : Int32).toInt = 0); have ka1 := (by decide +kernel : (1 : Int32).toInt = 1); omega)) (by first | omega | decide | (have ka0 := (by decide +kernel : (0 : Int32).toInt = 0); have ka1 := (by decide +kernel : (1 : Int32).toInt = 1); omega)) (by first | omega | decide | (have ka0 := (by decide +kernel : (0 : Int32).toInt = 0); have ka1 := (by decide +kernel : (1 : Int32).toInt = 1); omega)) (by first | omega | decide | (have ka0 := (by decide +kernel : (0 : Int32).toInt = 0); have ka1 := (by decide +kernel : (1 : Int32).toInt = 1); omega)) (by first | omega | decide | (have ka0 := (by decide +kernel : (0 : Int32).toInt = 0); have ka1 := (by decide +kernel : (1 : Int32).toInt = 1); omega)) (by first | omega | decide | (have ka0 := (by decide +kernel : (0 : Int32).toInt = 0); have ka1 := (by decide +kernel : (1 : Int32).toInt = 1); omega)) (by first | omega | decide | (have ka0 := (by decide +kernel : (0 : Int32).toInt = 0); have ka1 := (by decide +kernel : (1 : Int32).toInt = 1); omega)) (by first | omega | decide | (have ka0 := (by decide +kernel : (0 : Int32).toInt = 0); have ka1 := (by decide +kernel : (1 : Int32).toInt = 1); omega)) (by first | omega | decide | (have ka0 := (by decide +kernel : (0 : Int32).toInt = 0); have ka1 := (by decide +kernel : (1 : Int32).toInt = 1); omega)) (by first | omega | decide | (have ka0 := (by decide +kernel : (0 : Int32).toInt = 0); have ka1 := (by decide +kernel : (1 : Int32).toInt = 1); omega)) hI hG_14 hw_w0 hw_w1 hw_w2 hw_w3 hP_13 hD_13 hS_13 (lv_sub hl_15 [1, 2, 3, 4, 0] rfl)
        · have k9 : (1 : Int32).toInt = 1 := by decide +kernel
          refine ld_a hx hb hK hP 15 3 rfl rfl (vin (by decide +kernel)) dX1_subtract_25 w1 rfl ?_
          refine lv_iload hx hb dX1_subtract_26 (lv_at hl 4 rfl) ?_
          refine ld_wX hx hb hK hP hw_w1 (j_in (a := L5.toInt) rfl (by omega) (by omega)) dX1_subtract_28 (fun yy29 => ?_)
          refine v_lmul hx hb dX1_subtract_29 _ rfl ?_
          refine lv_topl (fun yy30 e_yy30 => ?_)
          refine v_lsub hx hb dX1_subtract_30 _ rfl ?_
          refine lv_topl (fun yy31 e_yy31 => ?_)
          refine st_wX hx hb hK hP hD hS hw_w1 (j_in (a := L5.toInt) rfl (by omega) (by omega)) dX1_subtract_31 (fun al32 e_al32 H_16 locs_16 hP_16 hD_16 hS_16 => ?_)
          have hG_17 := FL_tr hG e_al32 (by decide)
          obtain ⟨z33, e_z33⟩ : ∃ q : Int32, q = L5 + Int32.ofInt 1 := ⟨_, rfl⟩
          have g_z33 : z33.toInt = L5.toInt + 1 := by rw [e_z33]; exact n_add (a := L5.toInt) (b := 1) rfl (by decide +kernel) (by omega) (by omega)
          refine lv_iinc (v := z33) (lv' := [(5, .int z33), (0, .ref (ad 14)), (1, .int 1), (2, .int 1), (3, .long J3)]) hx hb dX1_subtract_32 hl (k := 4) rfl e_z33.symm (by decide) rfl (fun ls_18 hl_18 => ?_)
          refine lv_goto (tgt := 3) hx hb dX1_subtract_35 (by decide) ?_
          exact ih 1 1 z33 J3 al32 _ _ _ (by first | omega | decide | (have ka0 := (by decide +kernel : (1 : Int32).toInt = 1); omega)) (by first | omega | decide | (have ka0 := (by decide +kernel : (1 : Int32).toInt = 1); omega)) (by first | omega | decide | (have ka0 := (by decide +kernel : (1 : Int32).toInt = 1); omega)) (by first | omega | decide | (have ka0 := (by decide +kernel : (1 : Int32).toInt = 1); omega)) (by first | omega | decide | (have ka0 := (by decide +kernel : (1 : Int32).toInt = 1); omega)) (by first | omega | decide | (have ka0 := (by decide +kernel : (1 : Int32).toInt = 1); omega)) (by first | omega | decide | (have ka0 := (by decide +kernel : (1 : Int32).toInt = 1); omega)) (by first | omega | decide | (have ka0 := (by decide +kernel : (1 : Int32).toInt = 1); omega)) (by first | omega | decide | (have ka0 := (by decide +kernel : (1 : Int32).toInt = 1); omega)) (by first | omega | decide | (have ka0 := (by decide +kernel : (1 : Int32).toInt = 1); omega)) (by first | omega | decide | (have ka0 := (by decide +kernel : (1 : Int32).toInt = 1); omega)) (by first | omega | decide | (have ka0 := (by decide +kernel : (1 : Int32).toInt = 1); omega)) (by first | omega | decide | (have ka0 := (by decide +kernel : (1 : Int32).toInt = 1); omega)) (by first | omega | decide | (have ka0 := (by decide +kernel : (1 : Int32).toInt = 1); omega)) (by first | omega | decide | (have ka0 := (by decide +kernel : (1 : Int32).toInt = 1); omega)) (by first | omega | decide | (have ka0 := (by decide +kernel : (1 : Int32).toInt = 1); omega)) hI hG_17 hw_w0 hw_w1 hw_w2 hw_w3 hP_16 hD_16 hS_16 (lv_sub hl_18 [1, 2, 3, 4, 0] rfl)
        · have k9 : (2 : Int32).toInt = 2 := by decide +kernel
          refine ld_a hx hb hK hP 15 3 rfl rfl (vin (by decide +kernel)) dX1_subtract_25 w2 rfl ?_
          refine lv_iload hx hb dX1_subtract_26 (lv_at hl 4 rfl) ?_
          refine ld_wX hx hb hK hP hw_w2 (j_in (a := L5.toInt) rfl (by omega) (by omega)) dX1_subtract_28 (fun yy34 => ?_)
          refine v_lmul hx hb dX1_subtract_29 _ rfl ?_
          refine lv_topl (fun yy35 e_yy35 => ?_)
          refine v_lsub hx hb dX1_subtract_30 _ rfl ?_
          refine lv_topl (fun yy36 e_yy36 => ?_)
          refine st_wX hx hb hK hP hD hS hw_w1 (j_in (a := L5.toInt) rfl (by omega) (by omega)) dX1_subtract_31 (fun al37 e_al37 H_19 locs_19 hP_19 hD_19 hS_19 => ?_)
          have hG_20 := FL_tr hG e_al37 (by decide)
          obtain ⟨z38, e_z38⟩ : ∃ q : Int32, q = L5 + Int32.ofInt 1 := ⟨_, rfl⟩
          have g_z38 : z38.toInt = L5.toInt + 1 := by rw [e_z38]; exact n_add (a := L5.toInt) (b := 1) rfl (by decide +kernel) (by omega) (by omega)
          refine lv_iinc (v := z38) (lv' := [(5, .int z38), (0, .ref (ad 14)), (1, .int 1), (2, .int 2), (3, .long J3)]) hx hb dX1_subtract_32 hl (k := 4) rfl e_z38.symm (by decide) rfl (fun ls_21 hl_21 => ?_)
          refine lv_goto (tgt := 3) hx hb dX1_subtract_35 (by decide) ?_
          exact ih 1 2 z38 J3 al37 _ _ _ (by first | omega | decide | (have ka0 := (by decide +kernel : (1 : Int32).toInt = 1); have ka1 := (by decide +kernel : (2 : Int32).toInt = 2); omega)) (by first | omega | decide | (have ka0 := (by decide +kernel : (1 : Int32).toInt = 1); have ka1 := (by decide +kernel : (2 : Int32).toInt = 2); omega)) (by first | omega | decide | (have ka0 := (by decide +kernel : (1 : Int32).toInt = 1); have ka1 := (by decide +kernel : (2 : Int32).toInt = 2); omega)) (by first | omega | decide | (have ka0 := (by decide +kernel : (1 : Int32).toInt = 1); have ka1 := (by decide +kernel : (2 : Int32).toInt = 2); omega)) (by first | omega | decide | (have ka0 := (by decide +kernel : (1 : Int32).toInt = 1); have ka1 := (by decide +kernel : (2 : Int32).toInt = 2); omega)) (by first | omega | decide | (have ka0 := (by decide +kernel : (1 : Int32).toInt = 1); have ka1 := (by decide +kernel : (2 : Int32).toInt = 2); omega)) (by first | omega | decide | (have ka0 := (by decide +kernel : (1 : Int32).toInt = 1); have ka1 := (by decide +kernel : (2 : Int32).toInt = 2); omega)) (by first | omega | decide | (have ka0 := (by decide +kernel : (1 : Int32).toInt = 1); have ka1 := (by decide +kernel : (2 : Int32).toInt = 2); omega)) (by first | omega | decide | (have ka0 := (by decide +kernel : (1 : Int32).toInt = 1); have ka1 := (by decide +kernel : (2 : Int32).toInt = 2); omega)) (by first | omega | decide | (have ka0 := (by decide +kernel : (1 : Int32).toInt = 1); have ka1 := (by decide +kernel : (2 : Int32).toInt = 2); omega)) (by first | omega | decide | (have ka0 := (by decide +kernel : (1 : Int32).toInt = 1); have ka1 := (by decide +kernel : (2 : Int32).toInt = 2); omega)) (by first | omega | decide | (have ka0 := (by decide +kernel : (1 : Int32).toInt = 1); have ka1 := (by decide +kernel : (2 : Int32).toInt = 2); omega)) (by first | omega | decide | (have ka0 := (by decide +kernel : (1 : Int32).toInt = 1); have ka1 := (by decide +kernel : (2 : Int32).toInt = 2); omega)) (by first | omega | decide | (have ka0 := (by decide +kernel : (1 : Int32).toInt = 1); have ka1 := (by decide +kernel : (2 : Int32).toInt = 2); omega)) (by first | omega | decide | (have ka0 := (by decide +kernel : (1 : Int32).toInt = 1); have ka1 := (by decide +kernel : (2 : Int32).toInt = 2); omega)) (by first | omega | decide | (have ka0 := (by decide +kernel : (1 : Int32).toInt = 1); have ka1 := (by decide +kernel : (2 : Int32).toInt = 2); omega)) hI hG_20 hw_w0 hw_w1 hw_w2 hw_w3 hP_19 hD_19 hS_19 (lv_sub hl_21 [1, 2, 3, 4, 0] rfl)
        · have k9 : (3 : Int32).toInt = 3 := by decide +kernel
          refine ld_a hx hb hK hP 15 3 rfl rfl (vin (by decide +kernel)) dX1_subtract_25 w3 rfl ?_
          refine lv_iload hx hb dX1_subtract_26 (lv_at hl 4 rfl) ?_
          refine ld_wX hx hb hK hP hw_w3 (j_in (a := L5.toInt) rfl (by omega) (by omega)) dX1_subtract_28 (fun yy39 => ?_)
          refine v_lmul hx hb dX1_subtract_29 _ rfl ?_
          refine lv_topl (fun yy40 e_yy40 => ?_)
          refine v_lsub hx hb dX1_subtract_30 _ rfl ?_
          refine lv_topl (fun yy41 e_yy41 => ?_)
          refine st_wX hx hb hK hP hD hS hw_w1 (j_in (a := L5.toInt) rfl (by omega) (by omega)) dX1_subtract_31 (fun al42 e_al42 H_22 locs_22 hP_22 hD_22 hS_22 => ?_)
          have hG_23 := FL_tr hG e_al42 (by decide)
          obtain ⟨z43, e_z43⟩ : ∃ q : Int32, q = L5 + Int32.ofInt 1 := ⟨_, rfl⟩
          have g_z43 : z43.toInt = L5.toInt + 1 := by rw [e_z43]; exact n_add (a := L5.toInt) (b := 1) rfl (by decide +kernel) (by omega) (by omega)
          refine lv_iinc (v := z43) (lv' := [(5, .int z43), (0, .ref (ad 14)), (1, .int 1), (2, .int 3), (3, .long J3)]) hx hb dX1_subtract_32 hl (k := 4) rfl e_z43.symm (by decide) rfl (fun ls_24 hl_24 => ?_)
          refine lv_goto (tgt := 3) hx hb dX1_subtract_35 (by decide) ?_
          exact ih 1 3 z43 J3 al42 _ _ _ (by first | omega | decide | (have ka0 := (by decide +kernel : (1 : Int32).toInt = 1); have ka1 := (by decide +kernel : (3 : Int32).toInt = 3); omega)) (by first | omega | decide | (have ka0 := (by decide +kernel : (1 : Int32).toInt = 1); have ka1 := (by decide +kernel : (3 : Int32).toInt = 3); omega)) (by first | omega | decide | (have ka0 := (by decide +kernel : (1 : Int32).toInt = 1); have ka1 := (by decide +kernel : (3 : Int32).toInt = 3); omega)) (by first | omega | decide | (have ka0 := (by decide +kernel : (1 : Int32).toInt = 1); have ka1 := (by decide +kernel : (3 : Int32).toInt = 3); omega)) (by first | omega | decide | (have ka0 := (by decide +kernel : (1 : Int32).toInt = 1); have ka1 := (by decide +kernel : (3 : Int32).toInt = 3); omega)) (by first | omega | decide | (have ka0 := (by decide +kernel : (1 : Int32).toInt = 1); have ka1 := (by decide +kernel : (3 : Int32).toInt = 3); omega)) (by first | omega | decide | (have ka0 := (by decide +kernel : (1 : Int32).toInt = 1); have ka1 := (by decide +kernel : (3 : Int32).toInt = 3); omega)) (by first | omega | decide | (have ka0 := (by decide +kernel : (1 : Int32).toInt = 1); have ka1 := (by decide +kernel : (3 : Int32).toInt = 3); omega)) (by first | omega | decide | (have ka0 := (by decide +kernel : (1 : Int32).toInt = 1); have ka1 := (by decide +kernel : (3 : Int32).toInt = 3); omega)) (by first | omega | decide | (have ka0 := (by decide +kernel : (1 : Int32).toInt = 1); have ka1 := (by decide +kernel : (3 : Int32).toInt = 3); omega)) (by first | omega | decide | (have ka0 := (by decide +kernel : (1 : Int32).toInt = 1); have ka1 := (by decide +kernel : (3 : Int32).toInt = 3); omega)) (by first | omega | decide | (have ka0 := (by decide +kernel : (1 : Int32).toInt = 1); have ka1 := (by decide +kernel : (3 : Int32).toInt = 3); omega)) (by first | omega | decide | (have ka0 := (by decide +kernel : (1 : Int32).toInt = 1); have ka1 := (by decide +kernel : (3 : Int32).toInt = 3); omega)) (by first | omega | decide | (have ka0 := (by decide +kernel : (1 : Int32).toInt = 1); have ka1 := (by decide +kernel : (3 : Int32).toInt = 3); omega)) (by first | omega | decide | (have ka0 := (by decide +kernel : (1 : Int32).toInt = 1); have ka1 := (by decide +kernel : (3 : Int32).toInt = 3); omega)) (by first | omega | decide | (have ka0 := (by decide +kernel : (1 : Int32).toInt = 1); have ka1 := (by decide +kernel : (3 : Int32).toInt = 3); omega)) hI hG_23 hw_w0 hw_w1 hw_w2 hw_w3 hP_22 hD_22 hS_22 (lv_sub hl_24 [1, 2, 3, 4, 0] rfl)
      · have k9 : (2 : Int32).toInt = 2 := by decide +kernel
        refine ld_a hx hb hK hP 15 3 rfl rfl (vin (by decide +kernel)) dX1_subtract_14 w2 rfl ?_
        refine lv_iload hx hb dX1_subtract_15 (lv_at hl 4 rfl) ?_
        refine lv_dup2_11 hx hb dX1_subtract_17 rfl rfl ?_
        refine ld_wX hx hb hK hP hw_w2 (j_in (a := L5.toInt) rfl (by omega) (by omega)) dX1_subtract_18 (fun yy44 => ?_)
        refine lv_lload_n hx hb dX1_subtract_19 rfl (lv_at hl 3 rfl) ?_
        refine lv_aload_n hx hb dX1_subtract_20 rfl (lv_at hl 0 rfl) ?_
        refine gf (k := 0) hx hb hts inX1 hown hK hP k_116 rfl (by decide) rfl 14 rfl (.ref (ad 15)) rfl dX1_subtract_21 ?_
        refine lv_iload_n hx hb dX1_subtract_24 rfl (lv_at hl 2 rfl) ?_
        rcases (show L2 = 0 ∨ L2 = 1 ∨ L2 = 2 ∨ L2 = 3 from j_cases4 (a := L2.toInt) rfl (by omega) (by omega)) with rfl | rfl | rfl | rfl
        · have k9 : (0 : Int32).toInt = 0 := by decide +kernel
          refine ld_a hx hb hK hP 15 3 rfl rfl (vin (by decide +kernel)) dX1_subtract_25 w0 rfl ?_
          refine lv_iload hx hb dX1_subtract_26 (lv_at hl 4 rfl) ?_
          refine ld_wX hx hb hK hP hw_w0 (j_in (a := L5.toInt) rfl (by omega) (by omega)) dX1_subtract_28 (fun yy45 => ?_)
          refine v_lmul hx hb dX1_subtract_29 _ rfl ?_
          refine lv_topl (fun yy46 e_yy46 => ?_)
          refine v_lsub hx hb dX1_subtract_30 _ rfl ?_
          refine lv_topl (fun yy47 e_yy47 => ?_)
          refine st_wX hx hb hK hP hD hS hw_w2 (j_in (a := L5.toInt) rfl (by omega) (by omega)) dX1_subtract_31 (fun al48 e_al48 H_25 locs_25 hP_25 hD_25 hS_25 => ?_)
          have hG_26 := FL_tr hG e_al48 (by decide)
          obtain ⟨z49, e_z49⟩ : ∃ q : Int32, q = L5 + Int32.ofInt 1 := ⟨_, rfl⟩
          have g_z49 : z49.toInt = L5.toInt + 1 := by rw [e_z49]; exact n_add (a := L5.toInt) (b := 1) rfl (by decide +kernel) (by omega) (by omega)
          refine lv_iinc (v := z49) (lv' := [(5, .int z49), (0, .ref (ad 14)), (1, .int 2), (2, .int 0), (3, .long J3)]) hx hb dX1_subtract_32 hl (k := 4) rfl e_z49.symm (by decide) rfl (fun ls_27 hl_27 => ?_)
          refine lv_goto (tgt := 3) hx hb dX1_subtract_35 (by decide) ?_
          exact ih 2 0 z49 J3 al48 _ _ _ (by first | omega | decide | (have ka0 := (by decide +kernel : (0 : Int32).toInt = 0); have ka1 := (by decide +kernel : (2 : Int32).toInt = 2); omega)) (by first | omega | decide | (have ka0 := (by decide +kernel : (0 : Int32).toInt = 0); have ka1 := (by decide +kernel : (2 : Int32).toInt = 2); omega)) (by first | omega | decide | (have ka0 := (by decide +kernel : (0 : Int32).toInt = 0); have ka1 := (by decide +kernel : (2 : Int32).toInt = 2); omega)) (by first | omega | decide | (have ka0 := (by decide +kernel : (0 : Int32).toInt = 0); have ka1 := (by decide +kernel : (2 : Int32).toInt = 2); omega)) (by first | omega | decide | (have ka0 := (by decide +kernel : (0 : Int32).toInt = 0); have ka1 := (by decide +kernel : (2 : Int32).toInt = 2); omega)) (by first | omega | decide | (have ka0 := (by decide +kernel : (0 : Int32).toInt = 0); have ka1 := (by decide +kernel : (2 : Int32).toInt = 2); omega)) (by first | omega | decide | (have ka0 := (by decide +kernel : (0 : Int32).toInt = 0); have ka1 := (by decide +kernel : (2 : Int32).toInt = 2); omega)) (by first | omega | decide | (have ka0 := (by decide +kernel : (0 : Int32).toInt = 0); have ka1 := (by decide +kernel : (2 : Int32).toInt = 2); omega)) (by first | omega | decide | (have ka0 := (by decide +kernel : (0 : Int32).toInt = 0); have ka1 := (by decide +kernel : (2 : Int32).toInt = 2); omega)) (by first | omega | decide | (have ka0 := (by decide +kernel : (0 : Int32).toInt = 0); have ka1 := (by decide +kernel : (2 : Int32).toInt = 2); omega)) (by first | omega | decide | (have ka0 := (by decide +kernel : (0 : Int32).toInt = 0); have ka1 := (by decide +kernel : (2 : Int32).toInt = 2); omega)) (by first | omega | decide | (have ka0 := (by decide +kernel : (0 : Int32).toInt = 0); have ka1 := (by decide +kernel : (2 : Int32).toInt = 2); omega)) (by first | omega | decide | (have ka0 := (by decide +kernel : (0 : Int32).toInt = 0); have ka1 := (by decide +kernel : (2 : Int32).toInt = 2); omega)) (by first | omega | decide | (have ka0 := (by decide +kernel : (0 : Int32).toInt = 0); have ka1 := (by decide +kernel : (2 : Int32).toInt = 2); omega)) (by first | omega | decide | (have ka0 := (by decide +kernel : (0 : Int32).toInt = 0); have ka1 := (by decide +kernel : (2 : Int32).toInt = 2); omega)) (by first | omega | decide | (have ka0 := (by decide +kernel : (0 : Int32).toInt = 0); have ka1 := (by decide +kernel : (2 : Int32).toInt = 2); omega)) hI hG_26 hw_w0 hw_w1 hw_w2 hw_w3 hP_25 hD_25 hS_25 (lv_sub hl_27 [1, 2, 3, 4, 0] rfl)
        · have k9 : (1 : Int32).toInt = 1 := by decide +kernel
          refine ld_a hx hb hK hP 15 3 rfl rfl (vin (by decide +kernel)) dX1_subtract_25 w1 rfl ?_
          refine lv_iload hx hb dX1_subtract_26 (lv_at hl 4 rfl) ?_
          refine ld_wX hx hb hK hP hw_w1 (j_in (a := L5.toInt) rfl (by omega) (by omega)) dX1_subtract_28 (fun yy50 => ?_)
          refine v_lmul hx hb dX1_subtract_29 _ rfl ?_
          refine lv_topl (fun yy51 e_yy51 => ?_)
          refine v_lsub hx hb dX1_subtract_30 _ rfl ?_
          refine lv_topl (fun yy52 e_yy52 => ?_)
          refine st_wX hx hb hK hP hD hS hw_w2 (j_in (a := L5.toInt) rfl (by omega) (by omega)) dX1_subtract_31 (fun al53 e_al53 H_28 locs_28 hP_28 hD_28 hS_28 => ?_)
          have hG_29 := FL_tr hG e_al53 (by decide)
          obtain ⟨z54, e_z54⟩ : ∃ q : Int32, q = L5 + Int32.ofInt 1 := ⟨_, rfl⟩
          have g_z54 : z54.toInt = L5.toInt + 1 := by rw [e_z54]; exact n_add (a := L5.toInt) (b := 1) rfl (by decide +kernel) (by omega) (by omega)
          refine lv_iinc (v := z54) (lv' := [(5, .int z54), (0, .ref (ad 14)), (1, .int 2), (2, .int 1), (3, .long J3)]) hx hb dX1_subtract_32 hl (k := 4) rfl e_z54.symm (by decide) rfl (fun ls_30 hl_30 => ?_)
          refine lv_goto (tgt := 3) hx hb dX1_subtract_35 (by decide) ?_
          exact ih 2 1 z54 J3 al53 _ _ _ (by first | omega | decide | (have ka0 := (by decide +kernel : (1 : Int32).toInt = 1); have ka1 := (by decide +kernel : (2 : Int32).toInt = 2); omega)) (by first | omega | decide | (have ka0 := (by decide +kernel : (1 : Int32).toInt = 1); have ka1 := (by decide +kernel : (2 : Int32).toInt = 2); omega)) (by first | omega | decide | (have ka0 := (by decide +kernel : (1 : Int32).toInt = 1); have ka1 := (by decide +kernel : (2 : Int32).toInt = 2); omega)) (by first | omega | decide | (have ka0 := (by decide +kernel : (1 : Int32).toInt = 1); have ka1 := (by decide +kernel : (2 : Int32).toInt = 2); omega)) (by first | omega | decide | (have ka0 := (by decide +kernel : (1 : Int32).toInt = 1); have ka1 := (by decide +kernel : (2 : Int32).toInt = 2); omega)) (by first | omega | decide | (have ka0 := (by decide +kernel : (1 : Int32).toInt = 1); have ka1 := (by decide +kernel : (2 : Int32).toInt = 2); omega)) (by first | omega | decide | (have ka0 := (by decide +kernel : (1 : Int32).toInt = 1); have ka1 := (by decide +kernel : (2 : Int32).toInt = 2); omega)) (by first | omega | decide | (have ka0 := (by decide +kernel : (1 : Int32).toInt = 1); have ka1 := (by decide +kernel : (2 : Int32).toInt = 2); omega)) (by first | omega | decide | (have ka0 := (by decide +kernel : (1 : Int32).toInt = 1); have ka1 := (by decide +kernel : (2 : Int32).toInt = 2); omega)) (by first | omega | decide | (have ka0 := (by decide +kernel : (1 : Int32).toInt = 1); have ka1 := (by decide +kernel : (2 : Int32).toInt = 2); omega)) (by first | omega | decide | (have ka0 := (by decide +kernel : (1 : Int32).toInt = 1); have ka1 := (by decide +kernel : (2 : Int32).toInt = 2); omega)) (by first | omega | decide | (have ka0 := (by decide +kernel : (1 : Int32).toInt = 1); have ka1 := (by decide +kernel : (2 : Int32).toInt = 2); omega)) (by first | omega | decide | (have ka0 := (by decide +kernel : (1 : Int32).toInt = 1); have ka1 := (by decide +kernel : (2 : Int32).toInt = 2); omega)) (by first | omega | decide | (have ka0 := (by decide +kernel : (1 : Int32).toInt = 1); have ka1 := (by decide +kernel : (2 : Int32).toInt = 2); omega)) (by first | omega | decide | (have ka0 := (by decide +kernel : (1 : Int32).toInt = 1); have ka1 := (by decide +kernel : (2 : Int32).toInt = 2); omega)) (by first | omega | decide | (have ka0 := (by decide +kernel : (1 : Int32).toInt = 1); have ka1 := (by decide +kernel : (2 : Int32).toInt = 2); omega)) hI hG_29 hw_w0 hw_w1 hw_w2 hw_w3 hP_28 hD_28 hS_28 (lv_sub hl_30 [1, 2, 3, 4, 0] rfl)
        · have k9 : (2 : Int32).toInt = 2 := by decide +kernel
          refine ld_a hx hb hK hP 15 3 rfl rfl (vin (by decide +kernel)) dX1_subtract_25 w2 rfl ?_
          refine lv_iload hx hb dX1_subtract_26 (lv_at hl 4 rfl) ?_
          refine ld_wX hx hb hK hP hw_w2 (j_in (a := L5.toInt) rfl (by omega) (by omega)) dX1_subtract_28 (fun yy55 => ?_)
          refine v_lmul hx hb dX1_subtract_29 _ rfl ?_
          refine lv_topl (fun yy56 e_yy56 => ?_)
          refine v_lsub hx hb dX1_subtract_30 _ rfl ?_
          refine lv_topl (fun yy57 e_yy57 => ?_)
          refine st_wX hx hb hK hP hD hS hw_w2 (j_in (a := L5.toInt) rfl (by omega) (by omega)) dX1_subtract_31 (fun al58 e_al58 H_31 locs_31 hP_31 hD_31 hS_31 => ?_)
          have hG_32 := FL_tr hG e_al58 (by decide)
          obtain ⟨z59, e_z59⟩ : ∃ q : Int32, q = L5 + Int32.ofInt 1 := ⟨_, rfl⟩
          have g_z59 : z59.toInt = L5.toInt + 1 := by rw [e_z59]; exact n_add (a := L5.toInt) (b := 1) rfl (by decide +kernel) (by omega) (by omega)
          refine lv_iinc (v := z59) (lv' := [(5, .int z59), (0, .ref (ad 14)), (1, .int 2), (2, .int 2), (3, .long J3)]) hx hb dX1_subtract_32 hl (k := 4) rfl e_z59.symm (by decide) rfl (fun ls_33 hl_33 => ?_)
          refine lv_goto (tgt := 3) hx hb dX1_subtract_35 (by decide) ?_
          exact ih 2 2 z59 J3 al58 _ _ _ (by first | omega | decide | (have ka0 := (by decide +kernel : (2 : Int32).toInt = 2); omega)) (by first | omega | decide | (have ka0 := (by decide +kernel : (2 : Int32).toInt = 2); omega)) (by first | omega | decide | (have ka0 := (by decide +kernel : (2 : Int32).toInt = 2); omega)) (by first | omega | decide | (have ka0 := (by decide +kernel : (2 : Int32).toInt = 2); omega)) (by first | omega | decide | (have ka0 := (by decide +kernel : (2 : Int32).toInt = 2); omega)) (by first | omega | decide | (have ka0 := (by decide +kernel : (2 : Int32).toInt = 2); omega)) (by first | omega | decide | (have ka0 := (by decide +kernel : (2 : Int32).toInt = 2); omega)) (by first | omega | decide | (have ka0 := (by decide +kernel : (2 : Int32).toInt = 2); omega)) (by first | omega | decide | (have ka0 := (by decide +kernel : (2 : Int32).toInt = 2); omega)) (by first | omega | decide | (have ka0 := (by decide +kernel : (2 : Int32).toInt = 2); omega)) (by first | omega | decide | (have ka0 := (by decide +kernel : (2 : Int32).toInt = 2); omega)) (by first | omega | decide | (have ka0 := (by decide +kernel : (2 : Int32).toInt = 2); omega)) (by first | omega | decide | (have ka0 := (by decide +kernel : (2 : Int32).toInt = 2); omega)) (by first | omega | decide | (have ka0 := (by decide +kernel : (2 : Int32).toInt = 2); omega)) (by first | omega | decide | (have ka0 := (by decide +kernel : (2 : Int32).toInt = 2); omega)) (by first | omega | decide | (have ka0 := (by decide +kernel : (2 : Int32).toInt = 2); omega)) hI hG_32 hw_w0 hw_w1 hw_w2 hw_w3 hP_31 hD_31 hS_31 (lv_sub hl_33 [1, 2, 3, 4, 0] rfl)
        · have k9 : (3 : Int32).toInt = 3 := by decide +kernel
          refine ld_a hx hb hK hP 15 3 rfl rfl (vin (by decide +kernel)) dX1_subtract_25 w3 rfl ?_
          refine lv_iload hx hb dX1_subtract_26 (lv_at hl 4 rfl) ?_
          refine ld_wX hx hb hK hP hw_w3 (j_in (a := L5.toInt) rfl (by omega) (by omega)) dX1_subtract_28 (fun yy60 => ?_)
          refine v_lmul hx hb dX1_subtract_29 _ rfl ?_
          refine lv_topl (fun yy61 e_yy61 => ?_)
          refine v_lsub hx hb dX1_subtract_30 _ rfl ?_
          refine lv_topl (fun yy62 e_yy62 => ?_)
          refine st_wX hx hb hK hP hD hS hw_w2 (j_in (a := L5.toInt) rfl (by omega) (by omega)) dX1_subtract_31 (fun al63 e_al63 H_34 locs_34 hP_34 hD_34 hS_34 => ?_)
          have hG_35 := FL_tr hG e_al63 (by decide)
          obtain ⟨z64, e_z64⟩ : ∃ q : Int32, q = L5 + Int32.ofInt 1 := ⟨_, rfl⟩
          have g_z64 : z64.toInt = L5.toInt + 1 := by rw [e_z64]; exact n_add (a := L5.toInt) (b := 1) rfl (by decide +kernel) (by omega) (by omega)
          refine lv_iinc (v := z64) (lv' := [(5, .int z64), (0, .ref (ad 14)), (1, .int 2), (2, .int 3), (3, .long J3)]) hx hb dX1_subtract_32 hl (k := 4) rfl e_z64.symm (by decide) rfl (fun ls_36 hl_36 => ?_)
          refine lv_goto (tgt := 3) hx hb dX1_subtract_35 (by decide) ?_
          exact ih 2 3 z64 J3 al63 _ _ _ (by first | omega | decide | (have ka0 := (by decide +kernel : (2 : Int32).toInt = 2); have ka1 := (by decide +kernel : (3 : Int32).toInt = 3); omega)) (by first | omega | decide | (have ka0 := (by decide +kernel : (2 : Int32).toInt = 2); have ka1 := (by decide +kernel : (3 : Int32).toInt = 3); omega)) (by first | omega | decide | (have ka0 := (by decide +kernel : (2 : Int32).toInt = 2); have ka1 := (by decide +kernel : (3 : Int32).toInt = 3); omega)) (by first | omega | decide | (have ka0 := (by decide +kernel : (2 : Int32).toInt = 2); have ka1 := (by decide +kernel : (3 : Int32).toInt = 3); omega)) (by first | omega | decide | (have ka0 := (by decide +kernel : (2 : Int32).toInt = 2); have ka1 := (by decide +kernel : (3 : Int32).toInt = 3); omega)) (by first | omega | decide | (have ka0 := (by decide +kernel : (2 : Int32).toInt = 2); have ka1 := (by decide +kernel : (3 : Int32).toInt = 3); omega)) (by first | omega | decide | (have ka0 := (by decide +kernel : (2 : Int32).toInt = 2); have ka1 := (by decide +kernel : (3 : Int32).toInt = 3); omega)) (by first | omega | decide | (have ka0 := (by decide +kernel : (2 : Int32).toInt = 2); have ka1 := (by decide +kernel : (3 : Int32).toInt = 3); omega)) (by first | omega | decide | (have ka0 := (by decide +kernel : (2 : Int32).toInt = 2); have ka1 := (by decide +kernel : (3 : Int32).toInt = 3); omega)) (by first | omega | decide | (have ka0 := (by decide +kernel : (2 : Int32).toInt = 2); have ka1 := (by decide +kernel : (3 : Int32).toInt = 3); omega)) (by first | omega | decide | (have ka0 := (by decide +kernel : (2 : Int32).toInt = 2); have ka1 := (by decide +kernel : (3 : Int32).toInt = 3); omega)) (by first | omega | decide | (have ka0 := (by decide +kernel : (2 : Int32).toInt = 2); have ka1 := (by decide +kernel : (3 : Int32).toInt = 3); omega)) (by first | omega | decide | (have ka0 := (by decide +kernel : (2 : Int32).toInt = 2); have ka1 := (by decide +kernel : (3 : Int32).toInt = 3); omega)) (by first | omega | decide | (have ka0 := (by decide +kernel : (2 : Int32).toInt = 2); have ka1 := (by decide +kernel : (3 : Int32).toInt = 3); omega)) (by first | omega | decide | (have ka0 := (by decide +kernel : (2 : Int32).toInt = 2); have ka1 := (by decide +kernel : (3 : Int32).toInt = 3); omega)) (by first | omega | decide | (have ka0 := (by decide +kernel : (2 : Int32).toInt = 2); have ka1 := (by decide +kernel : (3 : Int32).toInt = 3); omega)) hI hG_35 hw_w0 hw_w1 hw_w2 hw_w3 hP_34 hD_34 hS_34 (lv_sub hl_36 [1, 2, 3, 4, 0] rfl)
      · have k9 : (3 : Int32).toInt = 3 := by decide +kernel
        refine ld_a hx hb hK hP 15 3 rfl rfl (vin (by decide +kernel)) dX1_subtract_14 w3 rfl ?_
        refine lv_iload hx hb dX1_subtract_15 (lv_at hl 4 rfl) ?_
        refine lv_dup2_11 hx hb dX1_subtract_17 rfl rfl ?_
        refine ld_wX hx hb hK hP hw_w3 (j_in (a := L5.toInt) rfl (by omega) (by omega)) dX1_subtract_18 (fun yy65 => ?_)
        refine lv_lload_n hx hb dX1_subtract_19 rfl (lv_at hl 3 rfl) ?_
        refine lv_aload_n hx hb dX1_subtract_20 rfl (lv_at hl 0 rfl) ?_
        refine gf (k := 0) hx hb hts inX1 hown hK hP k_116 rfl (by decide) rfl 14 rfl (.ref (ad 15)) rfl dX1_subtract_21 ?_
        refine lv_iload_n hx hb dX1_subtract_24 rfl (lv_at hl 2 rfl) ?_
        rcases (show L2 = 0 ∨ L2 = 1 ∨ L2 = 2 ∨ L2 = 3 from j_cases4 (a := L2.toInt) rfl (by omega) (by omega)) with rfl | rfl | rfl | rfl
        · have k9 : (0 : Int32).toInt = 0 := by decide +kernel
          refine ld_a hx hb hK hP 15 3 rfl rfl (vin (by decide +kernel)) dX1_subtract_25 w0 rfl ?_
          refine lv_iload hx hb dX1_subtract_26 (lv_at hl 4 rfl) ?_
          refine ld_wX hx hb hK hP hw_w0 (j_in (a := L5.toInt) rfl (by omega) (by omega)) dX1_subtract_28 (fun yy66 => ?_)
          refine v_lmul hx hb dX1_subtract_29 _ rfl ?_
          refine lv_topl (fun yy67 e_yy67 => ?_)
          refine v_lsub hx hb dX1_subtract_30 _ rfl ?_
          refine lv_topl (fun yy68 e_yy68 => ?_)
          refine st_wX hx hb hK hP hD hS hw_w3 (j_in (a := L5.toInt) rfl (by omega) (by omega)) dX1_subtract_31 (fun al69 e_al69 H_37 locs_37 hP_37 hD_37 hS_37 => ?_)
          have hG_38 := FL_tr hG e_al69 (by decide)
          obtain ⟨z70, e_z70⟩ : ∃ q : Int32, q = L5 + Int32.ofInt 1 := ⟨_, rfl⟩
          have g_z70 : z70.toInt = L5.toInt + 1 := by rw [e_z70]; exact n_add (a := L5.toInt) (b := 1) rfl (by decide +kernel) (by omega) (by omega)
          refine lv_iinc (v := z70) (lv' := [(5, .int z70), (0, .ref (ad 14)), (1, .int 3), (2, .int 0), (3, .long J3)]) hx hb dX1_subtract_32 hl (k := 4) rfl e_z70.symm (by decide) rfl (fun ls_39 hl_39 => ?_)
          refine lv_goto (tgt := 3) hx hb dX1_subtract_35 (by decide) ?_
          exact ih 3 0 z70 J3 al69 _ _ _ (by first | omega | decide | (have ka0 := (by decide +kernel : (0 : Int32).toInt = 0); have ka1 := (by decide +kernel : (3 : Int32).toInt = 3); omega)) (by first | omega | decide | (have ka0 := (by decide +kernel : (0 : Int32).toInt = 0); have ka1 := (by decide +kernel : (3 : Int32).toInt = 3); omega)) (by first | omega | decide | (have ka0 := (by decide +kernel : (0 : Int32).toInt = 0); have ka1 := (by decide +kernel : (3 : Int32).toInt = 3); omega)) (by first | omega | decide | (have ka0 := (by decide +kernel : (0 : Int32).toInt = 0); have ka1 := (by decide +kernel : (3 : Int32).toInt = 3); omega)) (by first | omega | decide | (have ka0 := (by decide +kernel : (0 : Int32).toInt = 0); have ka1 := (by decide +kernel : (3 : Int32).toInt = 3); omega)) (by first | omega | decide | (have ka0 := (by decide +kernel : (0 : Int32).toInt = 0); have ka1 := (by decide +kernel : (3 : Int32).toInt = 3); omega)) (by first | omega | decide | (have ka0 := (by decide +kernel : (0 : Int32).toInt = 0); have ka1 := (by decide +kernel : (3 : Int32).toInt = 3); omega)) (by first | omega | decide | (have ka0 := (by decide +kernel : (0 : Int32).toInt = 0); have ka1 := (by decide +kernel : (3 : Int32).toInt = 3); omega)) (by first | omega | decide | (have ka0 := (by decide +kernel : (0 : Int32).toInt = 0); have ka1 := (by decide +kernel : (3 : Int32).toInt = 3); omega)) (by first | omega | decide | (have ka0 := (by decide +kernel : (0 : Int32).toInt = 0); have ka1 := (by decide +kernel : (3 : Int32).toInt = 3); omega)) (by first | omega | decide | (have ka0 := (by decide +kernel : (0 : Int32).toInt = 0); have ka1 := (by decide +kernel : (3 : Int32).toInt = 3); omega)) (by first | omega | decide | (have ka0 := (by decide +kernel : (0 : Int32).toInt = 0); have ka1 := (by decide +kernel : (3 : Int32).toInt = 3); omega)) (by first | omega | decide | (have ka0 := (by decide +kernel : (0 : Int32).toInt = 0); have ka1 := (by decide +kernel : (3 : Int32).toInt = 3); omega)) (by first | omega | decide | (have ka0 := (by decide +kernel : (0 : Int32).toInt = 0); have ka1 := (by decide +kernel : (3 : Int32).toInt = 3); omega)) (by first | omega | decide | (have ka0 := (by decide +kernel : (0 : Int32).toInt = 0); have ka1 := (by decide +kernel : (3 : Int32).toInt = 3); omega)) (by first | omega | decide | (have ka0 := (by decide +kernel : (0 : Int32).toInt = 0); have ka1 := (by decide +kernel : (3 : Int32).toInt = 3); omega)) hI hG_38 hw_w0 hw_w1 hw_w2 hw_w3 hP_37 hD_37 hS_37 (lv_sub hl_39 [1, 2, 3, 4, 0] rfl)
        · have k9 : (1 : Int32).toInt = 1 := by decide +kernel
          refine ld_a hx hb hK hP 15 3 rfl rfl (vin (by decide +kernel)) dX1_subtract_25 w1 rfl ?_
          refine lv_iload hx hb dX1_subtract_26 (lv_at hl 4 rfl) ?_
          refine ld_wX hx hb hK hP hw_w1 (j_in (a := L5.toInt) rfl (by omega) (by omega)) dX1_subtract_28 (fun yy71 => ?_)
          refine v_lmul hx hb dX1_subtract_29 _ rfl ?_
          refine lv_topl (fun yy72 e_yy72 => ?_)
          refine v_lsub hx hb dX1_subtract_30 _ rfl ?_
          refine lv_topl (fun yy73 e_yy73 => ?_)
          refine st_wX hx hb hK hP hD hS hw_w3 (j_in (a := L5.toInt) rfl (by omega) (by omega)) dX1_subtract_31 (fun al74 e_al74 H_40 locs_40 hP_40 hD_40 hS_40 => ?_)
          have hG_41 := FL_tr hG e_al74 (by decide)
          obtain ⟨z75, e_z75⟩ : ∃ q : Int32, q = L5 + Int32.ofInt 1 := ⟨_, rfl⟩
          have g_z75 : z75.toInt = L5.toInt + 1 := by rw [e_z75]; exact n_add (a := L5.toInt) (b := 1) rfl (by decide +kernel) (by omega) (by omega)
          refine lv_iinc (v := z75) (lv' := [(5, .int z75), (0, .ref (ad 14)), (1, .int 3), (2, .int 1), (3, .long J3)]) hx hb dX1_subtract_32 hl (k := 4) rfl e_z75.symm (by decide) rfl (fun ls_42 hl_42 => ?_)
          refine lv_goto (tgt := 3) hx hb dX1_subtract_35 (by decide) ?_
          exact ih 3 1 z75 J3 al74 _ _ _ (by first | omega | decide | (have ka0 := (by decide +kernel : (1 : Int32).toInt = 1); have ka1 := (by decide +kernel : (3 : Int32).toInt = 3); omega)) (by first | omega | decide | (have ka0 := (by decide +kernel : (1 : Int32).toInt = 1); have ka1 := (by decide +kernel : (3 : Int32).toInt = 3); omega)) (by first | omega | decide | (have ka0 := (by decide +kernel : (1 : Int32).toInt = 1); have ka1 := (by decide +kernel : (3 : Int32).toInt = 3); omega)) (by first | omega | decide | (have ka0 := (by decide +kernel : (1 : Int32).toInt = 1); have ka1 := (by decide +kernel : (3 : Int32).toInt = 3); omega)) (by first | omega | decide | (have ka0 := (by decide +kernel : (1 : Int32).toInt = 1); have ka1 := (by decide +kernel : (3 : Int32).toInt = 3); omega)) (by first | omega | decide | (have ka0 := (by decide +kernel : (1 : Int32).toInt = 1); have ka1 := (by decide +kernel : (3 : Int32).toInt = 3); omega)) (by first | omega | decide | (have ka0 := (by decide +kernel : (1 : Int32).toInt = 1); have ka1 := (by decide +kernel : (3 : Int32).toInt = 3); omega)) (by first | omega | decide | (have ka0 := (by decide +kernel : (1 : Int32).toInt = 1); have ka1 := (by decide +kernel : (3 : Int32).toInt = 3); omega)) (by first | omega | decide | (have ka0 := (by decide +kernel : (1 : Int32).toInt = 1); have ka1 := (by decide +kernel : (3 : Int32).toInt = 3); omega)) (by first | omega | decide | (have ka0 := (by decide +kernel : (1 : Int32).toInt = 1); have ka1 := (by decide +kernel : (3 : Int32).toInt = 3); omega)) (by first | omega | decide | (have ka0 := (by decide +kernel : (1 : Int32).toInt = 1); have ka1 := (by decide +kernel : (3 : Int32).toInt = 3); omega)) (by first | omega | decide | (have ka0 := (by decide +kernel : (1 : Int32).toInt = 1); have ka1 := (by decide +kernel : (3 : Int32).toInt = 3); omega)) (by first | omega | decide | (have ka0 := (by decide +kernel : (1 : Int32).toInt = 1); have ka1 := (by decide +kernel : (3 : Int32).toInt = 3); omega)) (by first | omega | decide | (have ka0 := (by decide +kernel : (1 : Int32).toInt = 1); have ka1 := (by decide +kernel : (3 : Int32).toInt = 3); omega)) (by first | omega | decide | (have ka0 := (by decide +kernel : (1 : Int32).toInt = 1); have ka1 := (by decide +kernel : (3 : Int32).toInt = 3); omega)) (by first | omega | decide | (have ka0 := (by decide +kernel : (1 : Int32).toInt = 1); have ka1 := (by decide +kernel : (3 : Int32).toInt = 3); omega)) hI hG_41 hw_w0 hw_w1 hw_w2 hw_w3 hP_40 hD_40 hS_40 (lv_sub hl_42 [1, 2, 3, 4, 0] rfl)
        · have k9 : (2 : Int32).toInt = 2 := by decide +kernel
          refine ld_a hx hb hK hP 15 3 rfl rfl (vin (by decide +kernel)) dX1_subtract_25 w2 rfl ?_
          refine lv_iload hx hb dX1_subtract_26 (lv_at hl 4 rfl) ?_
          refine ld_wX hx hb hK hP hw_w2 (j_in (a := L5.toInt) rfl (by omega) (by omega)) dX1_subtract_28 (fun yy76 => ?_)
          refine v_lmul hx hb dX1_subtract_29 _ rfl ?_
          refine lv_topl (fun yy77 e_yy77 => ?_)
          refine v_lsub hx hb dX1_subtract_30 _ rfl ?_
          refine lv_topl (fun yy78 e_yy78 => ?_)
          refine st_wX hx hb hK hP hD hS hw_w3 (j_in (a := L5.toInt) rfl (by omega) (by omega)) dX1_subtract_31 (fun al79 e_al79 H_43 locs_43 hP_43 hD_43 hS_43 => ?_)
          have hG_44 := FL_tr hG e_al79 (by decide)
          obtain ⟨z80, e_z80⟩ : ∃ q : Int32, q = L5 + Int32.ofInt 1 := ⟨_, rfl⟩
          have g_z80 : z80.toInt = L5.toInt + 1 := by rw [e_z80]; exact n_add (a := L5.toInt) (b := 1) rfl (by decide +kernel) (by omega) (by omega)
          refine lv_iinc (v := z80) (lv' := [(5, .int z80), (0, .ref (ad 14)), (1, .int 3), (2, .int 2), (3, .long J3)]) hx hb dX1_subtract_32 hl (k := 4) rfl e_z80.symm (by decide) rfl (fun ls_45 hl_45 => ?_)
          refine lv_goto (tgt := 3) hx hb dX1_subtract_35 (by decide) ?_
          exact ih 3 2 z80 J3 al79 _ _ _ (by first | omega | decide | (have ka0 := (by decide +kernel : (2 : Int32).toInt = 2); have ka1 := (by decide +kernel : (3 : Int32).toInt = 3); omega)) (by first | omega | decide | (have ka0 := (by decide +kernel : (2 : Int32).toInt = 2); have ka1 := (by decide +kernel : (3 : Int32).toInt = 3); omega)) (by first | omega | decide | (have ka0 := (by decide +kernel : (2 : Int32).toInt = 2); have ka1 := (by decide +kernel : (3 : Int32).toInt = 3); omega)) (by first | omega | decide | (have ka0 := (by decide +kernel : (2 : Int32).toInt = 2); have ka1 := (by decide +kernel : (3 : Int32).toInt = 3); omega)) (by first | omega | decide | (have ka0 := (by decide +kernel : (2 : Int32).toInt = 2); have ka1 := (by decide +kernel : (3 : Int32).toInt = 3); omega)) (by first | omega | decide | (have ka0 := (by decide +kernel : (2 : Int32).toInt = 2); have ka1 := (by decide +kernel : (3 : Int32).toInt = 3); omega)) (by first | omega | decide | (have ka0 := (by decide +kernel : (2 : Int32).toInt = 2); have ka1 := (by decide +kernel : (3 : Int32).toInt = 3); omega)) (by first | omega | decide | (have ka0 := (by decide +kernel : (2 : Int32).toInt = 2); have ka1 := (by decide +kernel : (3 : Int32).toInt = 3); omega)) (by first | omega | decide | (have ka0 := (by decide +kernel : (2 : Int32).toInt = 2); have ka1 := (by decide +kernel : (3 : Int32).toInt = 3); omega)) (by first | omega | decide | (have ka0 := (by decide +kernel : (2 : Int32).toInt = 2); have ka1 := (by decide +kernel : (3 : Int32).toInt = 3); omega)) (by first | omega | decide | (have ka0 := (by decide +kernel : (2 : Int32).toInt = 2); have ka1 := (by decide +kernel : (3 : Int32).toInt = 3); omega)) (by first | omega | decide | (have ka0 := (by decide +kernel : (2 : Int32).toInt = 2); have ka1 := (by decide +kernel : (3 : Int32).toInt = 3); omega)) (by first | omega | decide | (have ka0 := (by decide +kernel : (2 : Int32).toInt = 2); have ka1 := (by decide +kernel : (3 : Int32).toInt = 3); omega)) (by first | omega | decide | (have ka0 := (by decide +kernel : (2 : Int32).toInt = 2); have ka1 := (by decide +kernel : (3 : Int32).toInt = 3); omega)) (by first | omega | decide | (have ka0 := (by decide +kernel : (2 : Int32).toInt = 2); have ka1 := (by decide +kernel : (3 : Int32).toInt = 3); omega)) (by first | omega | decide | (have ka0 := (by decide +kernel : (2 : Int32).toInt = 2); have ka1 := (by decide +kernel : (3 : Int32).toInt = 3); omega)) hI hG_44 hw_w0 hw_w1 hw_w2 hw_w3 hP_43 hD_43 hS_43 (lv_sub hl_45 [1, 2, 3, 4, 0] rfl)
        · have k9 : (3 : Int32).toInt = 3 := by decide +kernel
          refine ld_a hx hb hK hP 15 3 rfl rfl (vin (by decide +kernel)) dX1_subtract_25 w3 rfl ?_
          refine lv_iload hx hb dX1_subtract_26 (lv_at hl 4 rfl) ?_
          refine ld_wX hx hb hK hP hw_w3 (j_in (a := L5.toInt) rfl (by omega) (by omega)) dX1_subtract_28 (fun yy81 => ?_)
          refine v_lmul hx hb dX1_subtract_29 _ rfl ?_
          refine lv_topl (fun yy82 e_yy82 => ?_)
          refine v_lsub hx hb dX1_subtract_30 _ rfl ?_
          refine lv_topl (fun yy83 e_yy83 => ?_)
          refine st_wX hx hb hK hP hD hS hw_w3 (j_in (a := L5.toInt) rfl (by omega) (by omega)) dX1_subtract_31 (fun al84 e_al84 H_46 locs_46 hP_46 hD_46 hS_46 => ?_)
          have hG_47 := FL_tr hG e_al84 (by decide)
          obtain ⟨z85, e_z85⟩ : ∃ q : Int32, q = L5 + Int32.ofInt 1 := ⟨_, rfl⟩
          have g_z85 : z85.toInt = L5.toInt + 1 := by rw [e_z85]; exact n_add (a := L5.toInt) (b := 1) rfl (by decide +kernel) (by omega) (by omega)
          refine lv_iinc (v := z85) (lv' := [(5, .int z85), (0, .ref (ad 14)), (1, .int 3), (2, .int 3), (3, .long J3)]) hx hb dX1_subtract_32 hl (k := 4) rfl e_z85.symm (by decide) rfl (fun ls_48 hl_48 => ?_)
          refine lv_goto (tgt := 3) hx hb dX1_subtract_35 (by decide) ?_
          exact ih 3 3 z85 J3 al84 _ _ _ (by first | omega | decide | (have ka0 := (by decide +kernel : (3 : Int32).toInt = 3); omega)) (by first | omega | decide | (have ka0 := (by decide +kernel : (3 : Int32).toInt = 3); omega)) (by first | omega | decide | (have ka0 := (by decide +kernel : (3 : Int32).toInt = 3); omega)) (by first | omega | decide | (have ka0 := (by decide +kernel : (3 : Int32).toInt = 3); omega)) (by first | omega | decide | (have ka0 := (by decide +kernel : (3 : Int32).toInt = 3); omega)) (by first | omega | decide | (have ka0 := (by decide +kernel : (3 : Int32).toInt = 3); omega)) (by first | omega | decide | (have ka0 := (by decide +kernel : (3 : Int32).toInt = 3); omega)) (by first | omega | decide | (have ka0 := (by decide +kernel : (3 : Int32).toInt = 3); omega)) (by first | omega | decide | (have ka0 := (by decide +kernel : (3 : Int32).toInt = 3); omega)) (by first | omega | decide | (have ka0 := (by decide +kernel : (3 : Int32).toInt = 3); omega)) (by first | omega | decide | (have ka0 := (by decide +kernel : (3 : Int32).toInt = 3); omega)) (by first | omega | decide | (have ka0 := (by decide +kernel : (3 : Int32).toInt = 3); omega)) (by first | omega | decide | (have ka0 := (by decide +kernel : (3 : Int32).toInt = 3); omega)) (by first | omega | decide | (have ka0 := (by decide +kernel : (3 : Int32).toInt = 3); omega)) (by first | omega | decide | (have ka0 := (by decide +kernel : (3 : Int32).toInt = 3); omega)) (by first | omega | decide | (have ka0 := (by decide +kernel : (3 : Int32).toInt = 3); omega)) hI hG_47 hw_w0 hw_w1 hw_w2 hw_w3 hP_46 hD_46 hS_46 (lv_sub hl_48 [1, 2, 3, 4, 0] rfl)
set_option maxRecDepth 100000 in
set_option maxHeartbeats 4000000 in
theorem m087_X1_subtract (l : Launch) (dC : Nat → ClassId) (dI : Nat → Nat → Nat) (cI cJ cII cJJ : ClassId) (sz g : Nat) (ad : Nat → Nat) (f3_unknowns f3_equations f2_roundSupports f2_stale f7_size f1_size f5_keptSize f5_aheadSize f0_solved f4_blockCount f4_blockLength f4_lastIsFree f4_stale : Int32) (ai : Nat → Nat → Int32) (al : Nat → Nat → Int64) (w0 w1 w2 w3 : Nat) (x1 : Int32) (x2 : Int32) (y3 : Int64) (h_x1 : (0 ≤ x1.toInt ∧ x1.toInt ≤ 3)) (h_x2 : (0 ≤ x2.toInt ∧ x2.toInt ≤ 3)) (h_f3_unknowns : (1 ≤ f3_unknowns.toInt ∧ f3_unknowns.toInt ≤ 4)) (h_f3_equations : (0 ≤ f3_equations.toInt ∧ f3_equations.toInt ≤ 3)) (h_f2_stale : (0 ≤ f2_stale.toInt ∧ f2_stale.toInt ≤ 1)) (h_f7_size : (0 ≤ f7_size.toInt ∧ f7_size.toInt ≤ 256)) (h_f1_size : (0 ≤ f1_size.toInt ∧ f1_size.toInt ≤ 4)) (h_f5_keptSize : (0 ≤ f5_keptSize.toInt ∧ f5_keptSize.toInt ≤ 128)) (h_f5_aheadSize : (0 ≤ f5_aheadSize.toInt ∧ f5_aheadSize.toInt ≤ 128)) (h_f4_blockCount : (0 ≤ f4_blockCount.toInt ∧ f4_blockCount.toInt ≤ 9261)) (h_f4_blockLength : (0 ≤ f4_blockLength.toInt ∧ f4_blockLength.toInt ≤ 21)) (h_f4_lastIsFree : (0 ≤ f4_lastIsFree.toInt ∧ f4_lastIsFree.toInt ≤ 1)) (h_f4_stale : (0 ≤ f4_stale.toInt ∧ f4_stale.toInt ≤ 1)) (hI : IAX ai) (hw_w0 : RWX ad w0) (hw_w1 : RWX ad w1) (hw_w2 : RWX ad w2) (hw_w3 : RWX ad w3) : Met l yX1_subtract (.code yX1_subtract cX1_subtract 6 none :: TT) ({ frames := 2, cells := 0, slots := 0, locals := 80 } : Room) (PcS dC dI (TY cI cJ cII cJJ) [.ref (ad 14), .int x1, .int x2, .long y3] (WX cI cJ cII cJJ ad f3_unknowns f3_equations f2_roundSupports f2_stale f7_size f1_size f5_keptSize f5_aheadSize f0_solved f4_blockCount f4_blockLength f4_lastIsFree f4_stale ai al w0 w1 w2 w3) sz 0 g) (Q_m087_X1_subtract dC dI cI cJ cII cJJ ad f3_unknowns f3_equations f2_roundSupports f2_stale f7_size f1_size f5_keptSize f5_aheadSize f0_solved f4_blockCount f4_blockLength f4_lastIsFree f4_stale ai al w0 w1 w2 w3 (va_A (WX cI cJ cII cJJ ad f3_unknowns f3_equations f2_roundSupports f2_stale f7_size f1_size f5_keptSize f5_aheadSize f0_solved f4_blockCount f4_blockLength f4_lastIsFree f4_stale ai al w0 w1 w2 w3) sz)) 0 0 (va_A (WX cI cJ cII cJJ ad f3_unknowns f3_equations f2_roundSupports f2_stale f7_size f1_size f5_keptSize f5_aheadSize f0_solved f4_blockCount f4_blockLength f4_lastIsFree f4_stale ai al w0 w1 w2 w3) sz) := by
  refine SM.of (y := yX1_subtract) (maxL := 6) (av := [.ref (ad 14), .int x1, .int x2, .long y3]) (Q_m087_X1_subtract dC dI cI cJ cII cJJ ad f3_unknowns f3_equations f2_roundSupports f2_stale f7_size f1_size f5_keptSize f5_aheadSize f0_solved f4_blockCount f4_blockLength f4_lastIsFree f4_stale ai al w0 w1 w2 w3) (by decide +kernel) (Nat.le_of_ble_eq_true rfl) (fun p e s m below meth c A ls hx hb hr hml hown hts hk hnm hA hK hP hD hS hX hl => ?_)
  have C : Cx p c s m meth (([.ref (ad 14), .int x1, .int x2, .long y3] : List Value).toArray) A dC dI (TY cI cJ cII cJJ) cX1_subtract none 6 RX1 0 g := ⟨hx, hb, hr, hml, hown, hts, hk, hA, hK, hX⟩
  have hown : s.vm.findClass RX1 = some m.cls := hown
  have hl : lv_has ls 6 [(0, .ref (ad 14)), (1, .int x1), (2, .int x2), (3, .long y3)] := hl
  obtain ⟨H, hH⟩ : ∃ q, q = s.heap := ⟨_, rfl⟩
  rw [← hH] at hP
  have hS : va_S A s.heap H [] := by rw [hH]; exact hS
  rw [← hH]
  have hG := FL_refl [16, 17, 18, 19] al
  refine lv_iconst (v := 0) hx hb dX1_subtract_0 (by decide) ?_
  refine lv_istore (lv' := [(5, .int 0), (0, .ref (ad 14)), (1, .int x1), (2, .int x2), (3, .long y3)]) hx hb dX1_subtract_1 hl (by decide) rfl (fun ls_1 hl_1 => ?_)
  exact m087_X1_subtract_b3 C  _ x1 x2 0 y3 al _ _ _ (by first | omega | decide | (have ka0 := (by decide +kernel : (0 : Int32).toInt = 0); omega)) (by first | omega | decide | (have ka0 := (by decide +kernel : (0 : Int32).toInt = 0); omega)) (by first | omega | decide | (have ka0 := (by decide +kernel : (0 : Int32).toInt = 0); omega)) (by first | omega | decide | (have ka0 := (by decide +kernel : (0 : Int32).toInt = 0); omega)) (by first | omega | decide | (have ka0 := (by decide +kernel : (0 : Int32).toInt = 0); omega)) (by first | omega | decide | (have ka0 := (by decide +kernel : (0 : Int32).toInt = 0); omega)) (by first | omega | decide | (have ka0 := (by decide +kernel : (0 : Int32).toInt = 0); omega)) (by first | omega | decide | (have ka0 := (by decide +kernel : (0 : Int32).toInt = 0); omega)) (by first | omega | decide | (have ka0 := (by decide +kernel : (0 : Int32).toInt = 0); omega)) (by first | omega | decide | (have ka0 := (by decide +kernel : (0 : Int32).toInt = 0); omega)) (by first | omega | decide | (have ka0 := (by decide +kernel : (0 : Int32).toInt = 0); omega)) (by first | omega | decide | (have ka0 := (by decide +kernel : (0 : Int32).toInt = 0); omega)) (by first | omega | decide | (have ka0 := (by decide +kernel : (0 : Int32).toInt = 0); omega)) (by first | omega | decide | (have ka0 := (by decide +kernel : (0 : Int32).toInt = 0); omega)) (j_fuel _) (by omega) hI hG hw_w0 hw_w1 hw_w2 hw_w3 hP hD hS (lv_sub hl_1 [1, 2, 3, 4, 0] rfl)
