def Q_m144_X1_impose (dC : Nat → ClassId) (dI : Nat → Nat → Nat) (cI cJ cII cJJ : ClassId) (ad : Nat → Nat) (f3_unknowns f3_equations f2_roundSupports f2_stale f7_size f5_keptSize f5_aheadSize f0_solved f4_blockCount f4_blockLength f4_lastIsFree f4_stale : Int32) (ai : Nat → Nat → Int32) (al0 : Nat → Nat → Int64) : (Nat → Prop) → Array Value → State → Outcome → State → Prop := fun A => QV (fun t => ∃ (n_f1_size : Int32), ∃ (n_al : Nat → Nat → Int64), ∃ (n_w0 n_w1 n_w2 n_w3 : Nat), ((0 ≤ n_f1_size.toInt ∧ n_f1_size.toInt ≤ 4) ∧ FL [16, 17, 18, 19, 20] al0 n_al ∧ RWX ad n_w0 ∧ RWX ad n_w1 ∧ RWX ad n_w2 ∧ RWX ad n_w3) ∧ WO dC dI (TY cI cJ cII cJJ) (WX cI cJ cII cJJ ad f3_unknowns f3_equations f2_roundSupports f2_stale f7_size n_f1_size f5_keptSize f5_aheadSize f0_solved f4_blockCount f4_blockLength f4_lastIsFree f4_stale ai n_al n_w0 n_w1 n_w2 n_w3) A t) A
set_option maxRecDepth 100000 in
set_option maxHeartbeats 4000000 in
theorem m144_X1_impose_b60 {p : Program} {l : Launch} {e : Env} {s : State} {m : MethodId} {args : Array Value} {below : List Frame} {meth : Method} {c : Code} {A : Nat → Prop} {dC : Nat → ClassId} {dI : Nat → Nat → Nat} {cI cJ cII cJJ : ClassId} {ad : Nat → Nat} {g : Nat} {f3_unknowns f3_equations f2_roundSupports f2_stale f7_size f5_keptSize f5_aheadSize f0_solved f4_blockCount f4_blockLength f4_lastIsFree f4_stale : Int32} {ai : Nat → Nat → Int32} {al0 : Nat → Nat → Int64} (C : Cx p c s m meth args A dC dI (TY cI cJ cII cJJ) cX1_impose none 4 RX1 1 g) : ∀ (n : Nat), ∀ (L2 f1_size : Int32) (al : Nat → Nat → Int64) (w0 w1 w2 w3 : Nat) (H : Heap) (locs : List Loc) (ls : Array Slot), (0 ≤ L2.toInt ∧ L2.toInt ≤ 127) → (1 ≤ f3_unknowns.toInt ∧ f3_unknowns.toInt ≤ 4) → (0 ≤ f3_equations.toInt ∧ f3_equations.toInt ≤ 3) → (0 ≤ f2_stale.toInt ∧ f2_stale.toInt ≤ 1) → (0 ≤ f7_size.toInt ∧ f7_size.toInt ≤ 256) → (0 ≤ f1_size.toInt ∧ f1_size.toInt ≤ 4) → (0 ≤ f5_keptSize.toInt ∧ f5_keptSize.toInt ≤ 128) → (0 ≤ f5_aheadSize.toInt ∧ f5_aheadSize.toInt ≤ 128) → (0 ≤ f4_blockCount.toInt ∧ f4_blockCount.toInt ≤ 9261) → (0 ≤ f4_blockLength.toInt ∧ f4_blockLength.toInt ≤ 21) → (0 ≤ f4_lastIsFree.toInt ∧ f4_lastIsFree.toInt ≤ 1) → (0 ≤ f4_stale.toInt ∧ f4_stale.toInt ≤ 1) → 100 - L2.toInt < (n : Int) → (0 : Int) < (n : Int) → IAX ai → FL [16, 17, 18, 19, 20] al0 al → RWX ad w0 → RWX ad w1 → RWX ad w2 → RWX ad w3 → va_P (dC, dI) vwCl (WX cI cJ cII cJJ ad f3_unknowns f3_equations f2_roundSupports f2_stale f7_size f1_size f5_keptSize f5_aheadSize f0_solved f4_blockCount f4_blockLength f4_lastIsFree f4_stale ai al w0 w1 w2 w3) H → va_D A (WX cI cJ cII cJJ ad f3_unknowns f3_equations f2_roundSupports f2_stale f7_size f1_size f5_keptSize f5_aheadSize f0_solved f4_blockCount f4_blockLength f4_lastIsFree f4_stale ai al w0 w1 w2 w3) → va_S A s.heap H locs → lv_has ls 4 [(0, .ref (ad 14)), (1, .ref (ad 4)), (2, .int L2)] → W p l e ({ frames := 4, cells := 0, slots := 0, locals := 200 } : Room) s m args below meth c H locs 0 0 (MQ below (Q_m144_X1_impose dC dI cI cJ cII cJJ ad f3_unknowns f3_equations f2_roundSupports f2_stale f7_size f5_keptSize f5_aheadSize f0_solved f4_blockCount f4_blockLength f4_lastIsFree f4_stale ai al0 A) args s 0 0 A) (F0 m 60 ls []) := by
  obtain ⟨hx, hb, hr, hml, hown, hts, hk, hA, hK, hX⟩ := id C
  intro n
  induction n with
  | zero =>
    intro L2 f1_size al w0 w1 w2 w3 H locs ls h0 h1 h2 h3 h4 h5 h6 h7 h8 h9 h10 h11 h12 h13 hI hG hw_w0 hw_w1 hw_w2 hw_w3 hP hD hS hl
    exact absurd h13 (by omega)
  | succ n ih =>
    intro L2 f1_size al w0 w1 w2 w3 H locs ls h0 h1 h2 h3 h4 h5 h6 h7 h8 h9 h10 h11 h12 h13 hI hG hw_w0 hw_w1 hw_w2 hw_w3 hP hD hS hl
    refine lv_iload_n hx hb dX1_impose_60 rfl (lv_at hl 2 rfl) ?_
    refine lv_bipush (v := 100) hx hb dX1_impose_61 (by decide) ?_
    refine lv_icmp_ge (tgt := 96) hx hb dX1_impose_63 (by decide) (fun c1 => ?_) (fun c1 => ?_)
    · have c1 := j_le (a := 100) (b := L2.toInt) (by decide +kernel) rfl c1
      exact r2_v hx hb hr hk hS dX1_impose_96 (fun t ht hW => ⟨f1_size, al, w0, w1, w2, w3, ⟨(by first | omega | decide | exact Or.inl (by decide) | exact Or.inr (by decide) | exact Or.inr (by omega)), hG, hw_w0, hw_w1, hw_w2, hw_w3⟩, by rw [ht]; exact hP, va_K.moved hW.alike hK, hD⟩)
    · have c1 := j_nle (a := 100) (b := L2.toInt) (by decide +kernel) rfl c1
      refine lv_aload_n hx hb dX1_impose_66 rfl (lv_at hl 0 rfl) ?_
      have hM := m089_X1_leastSum l dC dI cI cJ cII cJJ H.size 0 ad f3_unknowns f3_equations f2_roundSupports f2_stale f7_size f1_size f5_keptSize f5_aheadSize f0_solved f4_blockCount f4_blockLength f4_lastIsFree f4_stale ai al w0 w1 w2 w3 (by omega) (by omega) (by omega) (by omega) (by omega) (by omega) (by omega) (by omega) (by omega) (by omega) (by omega) hI hw_w0 hw_w1 hw_w2 hw_w3
      refine k2V_i (q0 := 14) ⟨hx, hb, hml, hown, hts⟩ hK hP hD hS hA hX cv_RX1_63 hM ⟨by decide +kernel, by decide +kernel⟩ rfl rfl (Or.inl rfl) (rest := []) rfl rfl rfl hl.1 rfl (Nat.le_of_ble_eq_true rfl) dX1_impose_67 ⟨Nat.le_of_ble_eq_true rfl, Nat.le_of_ble_eq_true rfl⟩ (fun r2 t H1 locs_1 ht hB hS_1 hFc => ?_)
      obtain ⟨⟨gpr2_0, gpr2_1⟩, hP_2, -, hD_2⟩ := hB
      rw [ht] at hP_2
      have hD_3 := hD_2.weaken (B := A) (fun k q _ h9 => hFc q.1 h9)
      clear ht
      generalize H1 = H_4 at hP_2 hS_1 ⊢
      refine lv_istore_n (lv' := [(3, .int r2), (0, .ref (ad 14)), (1, .ref (ad 4)), (2, .int L2)]) hx hb dX1_impose_70 rfl hl (by decide) rfl (fun ls_5 hl_5 => ?_)
      refine lv_iload_n hx hb dX1_impose_71 rfl (lv_at hl_5 0 rfl) ?_
      refine lv_if_ge (tgt := 76) hx hb dX1_impose_72 (by decide) (fun c3 => ?_) (fun c3 => ?_)
      · have c3 := j_le (a := 0) (b := r2.toInt) (by decide +kernel) rfl c3
        refine lv_aload_n hx hb dX1_impose_76 rfl (lv_at hl_5 1 rfl) ?_
        refine lv_iload_n hx hb dX1_impose_77 rfl (lv_at hl_5 0 rfl) ?_
        have hM := m090_X1_reduceBy l dC dI cI cJ cII cJJ H_4.size 0 ad f3_unknowns f3_equations f2_roundSupports f2_stale f7_size f1_size f5_keptSize f5_aheadSize f0_solved f4_blockCount f4_blockLength f4_lastIsFree f4_stale ai al w0 w1 w2 w3 r2 (by omega) (by omega) (by omega) (by omega) (by omega) (by omega) (by omega) (by omega) (by omega) (by omega) (by omega) (by omega) hI hw_w0 hw_w1 hw_w2 hw_w3
        refine k2V_i (q0 := 14) ⟨hx, hb, hml, hown, hts⟩ hK hP_2 hD_3 hS_1 hA hX cv_RX1_67 hM ⟨by decide +kernel, by decide +kernel⟩ rfl rfl (Or.inl rfl) (rest := []) rfl rfl rfl hl_5.1 rfl (Nat.le_of_ble_eq_true rfl) dX1_impose_78 ⟨Nat.le_of_ble_eq_true rfl, Nat.le_of_ble_eq_true rfl⟩ (fun r4 t H1 locs_6 ht hB hS_6 hFc => ?_)
        obtain ⟨al5, ⟨gpr4_0, hGr_r4⟩, hP_7, -, hD_7⟩ := hB
        have hG_8 := FL_tr hG hGr_r4 (by decide)
        rw [ht] at hP_7
        have hD_9 := hD_7.weaken (B := A) (fun k q _ h9 => hFc q.1 h9)
        clear ht
        generalize H1 = H_10 at hP_7 hS_6 ⊢
        refine lv_if_ne (tgt := 90) hx hb dX1_impose_81 (by decide) (fun c6 => ?_) (fun c6 => ?_)
        · have c6 := j_ne (a := r4.toInt) (b := 0) rfl (by decide +kernel) c6
          obtain ⟨z7, e_z7⟩ : ∃ q : Int32, q = L2 + Int32.ofInt 1 := ⟨_, rfl⟩
          have g_z7 : z7.toInt = L2.toInt + 1 := by rw [e_z7]; exact n_add (a := L2.toInt) (b := 1) rfl (by decide +kernel) (by omega) (by omega)
          refine lv_iinc (v := z7) (lv' := [(2, .int z7), (3, .int r2), (0, .ref (ad 14)), (1, .ref (ad 4))]) hx hb dX1_impose_90 hl_5 (k := 3) rfl e_z7.symm (by decide) rfl (fun ls_11 hl_11 => ?_)
          refine lv_goto (tgt := 60) hx hb dX1_impose_93 (by decide) ?_
          exact ih z7 f1_size al5 w0 w1 w2 w3 _ _ _ (by omega) (by omega) (by omega) (by omega) (by omega) (by omega) (by omega) (by omega) (by omega) (by omega) (by omega) (by omega) (by omega) (by omega) hI hG_8 hw_w0 hw_w1 hw_w2 hw_w3 hP_7 hD_9 hS_6 (lv_sub hl_11 [2, 3, 0] rfl)
        · have c6 := j_eq (a := r4.toInt) (b := 0) rfl (by decide +kernel) c6
          refine lv_aload_n hx hb dX1_impose_84 rfl (lv_at hl_5 1 rfl) ?_
          refine lv_iload_n hx hb dX1_impose_85 rfl (lv_at hl_5 0 rfl) ?_
          have hM := m133_X1_removeVector l dC dI cI cJ cII cJJ H_10.size g ad f3_unknowns f3_equations f2_roundSupports f2_stale f7_size f1_size f5_keptSize f5_aheadSize f0_solved f4_blockCount f4_blockLength f4_lastIsFree f4_stale ai al5 w0 w1 w2 w3 r2 (by omega) (by omega) (by omega) (by omega) (by omega) (by omega) (by omega) (by omega) (by omega) (by omega) (by omega) (by omega) hI hw_w0 hw_w1 hw_w2 hw_w3
          refine k2V_v (q0 := 14) ⟨hx, hb, hml, hown, hts⟩ hK hP_7 hD_9 hS_6 hA hX cv_RX1_71 hM ⟨by decide +kernel, by decide +kernel⟩ rfl rfl (Or.inr ⟨rfl, rfl, rfl⟩) (rest := []) rfl rfl rfl hl_5.1 rfl (Nat.le_of_ble_eq_true rfl) dX1_impose_86 ⟨Nat.le_of_ble_eq_true rfl, Nat.le_of_ble_eq_true rfl⟩ (fun t H1 locs_12 ht hB hS_12 hFc => ?_)
          obtain ⟨v9, w10, w11, w12, w13, ⟨gpr8_0, hw_w10, hw_w11, hw_w12, hw_w13⟩, hP_13, -, hD_13⟩ := hB
          rw [ht] at hP_13
          have hD_14 := hD_13.weaken (B := A) (fun k q _ h9 => hFc q.1 h9)
          clear ht
          generalize H1 = H_15 at hP_13 hS_12 ⊢
          exact r2_v hx hb hr hk hS_12 dX1_impose_89 (fun t ht hW => ⟨v9, al5, w10, w11, w12, w13, ⟨(by first | omega | decide | exact Or.inl (by decide) | exact Or.inr (by decide) | exact Or.inr (by omega)), hG_8, hw_w10, hw_w11, hw_w12, hw_w13⟩, by rw [ht]; exact hP_13, va_K.moved hW.alike hK, hD_14⟩)
      · have c3 := j_nle (a := 0) (b := r2.toInt) (by decide +kernel) rfl c3
        exact r2_v hx hb hr hk hS_1 dX1_impose_75 (fun t ht hW => ⟨f1_size, al, w0, w1, w2, w3, ⟨(by first | omega | decide | exact Or.inl (by decide) | exact Or.inr (by decide) | exact Or.inr (by omega)), hG, hw_w0, hw_w1, hw_w2, hw_w3⟩, by rw [ht]; exact hP_2, va_K.moved hW.alike hK, hD_3⟩)
set_option maxRecDepth 100000 in
set_option maxHeartbeats 4000000 in
theorem m144_X1_impose_b19 {p : Program} {l : Launch} {e : Env} {s : State} {m : MethodId} {args : Array Value} {below : List Frame} {meth : Method} {c : Code} {A : Nat → Prop} {dC : Nat → ClassId} {dI : Nat → Nat → Nat} {cI cJ cII cJJ : ClassId} {ad : Nat → Nat} {g : Nat} {f3_unknowns f3_equations f2_roundSupports f2_stale f7_size f5_keptSize f5_aheadSize f0_solved f4_blockCount f4_blockLength f4_lastIsFree f4_stale : Int32} {ai : Nat → Nat → Int32} {al0 : Nat → Nat → Int64} (C : Cx p c s m meth args A dC dI (TY cI cJ cII cJJ) cX1_impose none 4 RX1 1 g) (n2 : Nat) (K2 : ∀ (L2 f1_size : Int32) (al : Nat → Nat → Int64) (w0 w1 w2 w3 : Nat) (H : Heap) (locs : List Loc) (ls : Array Slot), (0 ≤ L2.toInt ∧ L2.toInt ≤ 4) → (1 ≤ f3_unknowns.toInt ∧ f3_unknowns.toInt ≤ 4) → (0 ≤ f3_equations.toInt ∧ f3_equations.toInt ≤ 3) → (0 ≤ f2_stale.toInt ∧ f2_stale.toInt ≤ 1) → (0 ≤ f7_size.toInt ∧ f7_size.toInt ≤ 256) → (0 ≤ f1_size.toInt ∧ f1_size.toInt ≤ 4) → (0 ≤ f5_keptSize.toInt ∧ f5_keptSize.toInt ≤ 128) → (0 ≤ f5_aheadSize.toInt ∧ f5_aheadSize.toInt ≤ 128) → (0 ≤ f4_blockCount.toInt ∧ f4_blockCount.toInt ≤ 9261) → (0 ≤ f4_blockLength.toInt ∧ f4_blockLength.toInt ≤ 21) → (0 ≤ f4_lastIsFree.toInt ∧ f4_lastIsFree.toInt ≤ 1) → (0 ≤ f4_stale.toInt ∧ f4_stale.toInt ≤ 1) → f1_size.toInt - L2.toInt < (n2 : Int) → (0 : Int) < (n2 : Int) → IAX ai → FL [16, 17, 18, 19, 20] al0 al → RWX ad w0 → RWX ad w1 → RWX ad w2 → RWX ad w3 → va_P (dC, dI) vwCl (WX cI cJ cII cJJ ad f3_unknowns f3_equations f2_roundSupports f2_stale f7_size f1_size f5_keptSize f5_aheadSize f0_solved f4_blockCount f4_blockLength f4_lastIsFree f4_stale ai al w0 w1 w2 w3) H → va_D A (WX cI cJ cII cJJ ad f3_unknowns f3_equations f2_roundSupports f2_stale f7_size f1_size f5_keptSize f5_aheadSize f0_solved f4_blockCount f4_blockLength f4_lastIsFree f4_stale ai al w0 w1 w2 w3) → va_S A s.heap H locs → lv_has ls 4 [(0, .ref (ad 14)), (1, .ref (ad 4)), (2, .int L2)] → W p l e ({ frames := 4, cells := 0, slots := 0, locals := 200 } : Room) s m args below meth c H locs 0 0 (MQ below (Q_m144_X1_impose dC dI cI cJ cII cJJ ad f3_unknowns f3_equations f2_roundSupports f2_stale f7_size f5_keptSize f5_aheadSize f0_solved f4_blockCount f4_blockLength f4_lastIsFree f4_stale ai al0 A) args s 0 0 A) (F0 m 2 ls [])) : ∀ (n : Nat), ∀ (L2 L3 f1_size : Int32) (al : Nat → Nat → Int64) (w0 w1 w2 w3 : Nat) (H : Heap) (locs : List Loc) (ls : Array Slot), (0 ≤ L2.toInt ∧ L2.toInt ≤ 3) → (0 ≤ L3.toInt ∧ L3.toInt ≤ 4) → (1 ≤ f3_unknowns.toInt ∧ f3_unknowns.toInt ≤ 4) → (0 ≤ f3_equations.toInt ∧ f3_equations.toInt ≤ 3) → (0 ≤ f2_stale.toInt ∧ f2_stale.toInt ≤ 1) → (0 ≤ f7_size.toInt ∧ f7_size.toInt ≤ 256) → (1 ≤ f1_size.toInt ∧ f1_size.toInt ≤ 4) → (0 ≤ f5_keptSize.toInt ∧ f5_keptSize.toInt ≤ 128) → (0 ≤ f5_aheadSize.toInt ∧ f5_aheadSize.toInt ≤ 128) → (0 ≤ f4_blockCount.toInt ∧ f4_blockCount.toInt ≤ 9261) → (0 ≤ f4_blockLength.toInt ∧ f4_blockLength.toInt ≤ 21) → (0 ≤ f4_lastIsFree.toInt ∧ f4_lastIsFree.toInt ≤ 1) → (0 ≤ f4_stale.toInt ∧ f4_stale.toInt ≤ 1) → L2.toInt < f1_size.toInt → f1_size.toInt - L2.toInt ≤ (n2 : Int) → 4 - L3.toInt < (n : Int) → (0 : Int) < (n : Int) → IAX ai → FL [16, 17, 18, 19, 20] al0 al → RWX ad w0 → RWX ad w1 → RWX ad w2 → RWX ad w3 → va_P (dC, dI) vwCl (WX cI cJ cII cJJ ad f3_unknowns f3_equations f2_roundSupports f2_stale f7_size f1_size f5_keptSize f5_aheadSize f0_solved f4_blockCount f4_blockLength f4_lastIsFree f4_stale ai al w0 w1 w2 w3) H → va_D A (WX cI cJ cII cJJ ad f3_unknowns f3_equations f2_roundSupports f2_stale f7_size f1_size f5_keptSize f5_aheadSize f0_solved f4_blockCount f4_blockLength f4_lastIsFree f4_stale ai al w0 w1 w2 w3) → va_S A s.heap H locs → lv_has ls 4 [(0, .ref (ad 14)), (1, .ref (ad 4)), (2, .int L2), (3, .int L3)] → W p l e ({ frames := 4, cells := 0, slots := 0, locals := 200 } : Room) s m args below meth c H locs 0 0 (MQ below (Q_m144_X1_impose dC dI cI cJ cII cJJ ad f3_unknowns f3_equations f2_roundSupports f2_stale f7_size f5_keptSize f5_aheadSize f0_solved f4_blockCount f4_blockLength f4_lastIsFree f4_stale ai al0 A) args s 0 0 A) (F0 m 19 ls []) := by
  obtain ⟨hx, hb, hr, hml, hown, hts, hk, hA, hK, hX⟩ := id C
  intro n
  induction n with
  | zero =>
    intro L2 L3 f1_size al w0 w1 w2 w3 H locs ls h0 h1 h2 h3 h4 h5 h6 h7 h8 h9 h10 h11 h12 h13 h14 h15 h16 hI hG hw_w0 hw_w1 hw_w2 hw_w3 hP hD hS hl
    exact absurd h16 (by omega)
  | succ n ih =>
    intro L2 L3 f1_size al w0 w1 w2 w3 H locs ls h0 h1 h2 h3 h4 h5 h6 h7 h8 h9 h10 h11 h12 h13 h14 h15 h16 hI hG hw_w0 hw_w1 hw_w2 hw_w3 hP hD hS hl
    refine lv_iload_n hx hb dX1_impose_19 rfl (lv_at hl 3 rfl) ?_
    refine lv_iconst (v := 4) hx hb dX1_impose_20 (by decide) ?_
    refine lv_icmp_ge (tgt := 52) hx hb dX1_impose_21 (by decide) (fun c1 => ?_) (fun c1 => ?_)
    · have c1 := j_le (a := 4) (b := L3.toInt) (by decide +kernel) rfl c1
      obtain ⟨z2, e_z2⟩ : ∃ q : Int32, q = L2 + Int32.ofInt 1 := ⟨_, rfl⟩
      have g_z2 : z2.toInt = L2.toInt + 1 := by rw [e_z2]; exact n_add (a := L2.toInt) (b := 1) rfl (by decide +kernel) (by omega) (by omega)
      refine lv_iinc (v := z2) (lv' := [(2, .int z2), (0, .ref (ad 14)), (1, .ref (ad 4)), (3, .int L3)]) hx hb dX1_impose_52 hl (k := 2) rfl e_z2.symm (by decide) rfl (fun ls_1 hl_1 => ?_)
      refine lv_goto (tgt := 2) hx hb dX1_impose_55 (by decide) ?_
      exact K2 z2 f1_size al w0 w1 w2 w3 _ _ _ (by omega) (by omega) (by omega) (by omega) (by omega) (by omega) (by omega) (by omega) (by omega) (by omega) (by omega) (by omega) (by omega) (by omega) hI hG hw_w0 hw_w1 hw_w2 hw_w3 hP hD hS (lv_sub hl_1 [1, 2, 0] rfl)
    · have c1 := j_nle (a := 4) (b := L3.toInt) (by decide +kernel) rfl c1
      refine lv_aload_n hx hb dX1_impose_24 rfl (lv_at hl 0 rfl) ?_
      refine gf (k := 1) hx hb hts inX1 hown hK hP k_118 rfl (by decide) rfl 14 rfl (.ref (ad 20)) rfl dX1_impose_25 ?_
      refine lv_iload_n hx hb dX1_impose_28 rfl (lv_at hl 2 rfl) ?_
      refine lv_dup2_11 hx hb dX1_impose_29 rfl rfl ?_
      refine va_lald hx hb hK hP 20 1 rfl rfl (j_in (a := L2.toInt) rfl (by omega) (by omega)) dX1_impose_30 ?_
      refine lv_aload_n hx hb dX1_impose_31 rfl (lv_at hl 1 rfl) ?_
      refine lv_iload_n hx hb dX1_impose_32 rfl (lv_at hl 3 rfl) ?_
      refine va_iald hx hb hK hP 4 0 rfl rfl (j_in (a := L3.toInt) rfl (by omega) (by omega)) dX1_impose_33 ?_
      refine lv_topi (fun z3 e_z3 => ?_)
      have g_z3 : -6 ≤ z3.toInt ∧ z3.toInt ≤ 6 := by rw [e_z3]; exact IAX_at4 hI _
      refine lv_i2l hx hb dX1_impose_34 rfl ?_
      refine lv_topl (fun yy4 e_yy4 => ?_)
      refine lv_aload_n hx hb dX1_impose_35 rfl (lv_at hl 0 rfl) ?_
      refine gf (k := 0) hx hb hts inX1 hown hK hP k_116 rfl (by decide) rfl 14 rfl (.ref (ad 15)) rfl dX1_impose_36 ?_
      refine lv_iload_n hx hb dX1_impose_39 rfl (lv_at hl 2 rfl) ?_
      rcases (show L2 = 0 ∨ L2 = 1 ∨ L2 = 2 ∨ L2 = 3 from j_cases4 (a := L2.toInt) rfl (by omega) (by omega)) with rfl | rfl | rfl | rfl
      · have k9 : (0 : Int32).toInt = 0 := by decide +kernel
        refine ld_a hx hb hK hP 15 3 rfl rfl (vin (by decide +kernel)) dX1_impose_40 w0 rfl ?_
        refine lv_iload_n hx hb dX1_impose_41 rfl (lv_at hl 3 rfl) ?_
        refine ld_wX hx hb hK hP hw_w0 (j_in (a := L3.toInt) rfl (by omega) (by omega)) dX1_impose_42 (fun yy5 => ?_)
        refine v_lmul hx hb dX1_impose_43 _ rfl ?_
        refine lv_topl (fun yy6 e_yy6 => ?_)
        refine v_ladd hx hb dX1_impose_44 _ rfl ?_
        refine lv_topl (fun yy7 e_yy7 => ?_)
        refine va_last hx hb hK hP hD hS 20 1 rfl rfl (vin (by decide +kernel)) dX1_impose_45 (fun H_2 locs_2 hP_2 hD_2 hS_2 => ?_)
        obtain ⟨al8, e_al8⟩ : ∃ q : Nat → Nat → Int64, q = va_up al 20 (vp_updL (al 20) (0 : Int32).toNatClampNeg yy7) := ⟨_, rfl⟩
        have hG_3 := FL_st hG e_al8 (by decide)
        have hP_4 : va_P (dC, dI) vwCl (WX cI cJ cII cJJ ad f3_unknowns f3_equations f2_roundSupports f2_stale f7_size f1_size f5_keptSize f5_aheadSize f0_solved f4_blockCount f4_blockLength f4_lastIsFree f4_stale ai al8 w0 w1 w2 w3) H_2 := by rw [e_al8]; exact hP_2
        have hD_5 : va_D A (WX cI cJ cII cJJ ad f3_unknowns f3_equations f2_roundSupports f2_stale f7_size f1_size f5_keptSize f5_aheadSize f0_solved f4_blockCount f4_blockLength f4_lastIsFree f4_stale ai al8 w0 w1 w2 w3) := by rw [e_al8]; exact hD_2
        obtain ⟨z9, e_z9⟩ : ∃ q : Int32, q = L3 + Int32.ofInt 1 := ⟨_, rfl⟩
        have g_z9 : z9.toInt = L3.toInt + 1 := by rw [e_z9]; exact n_add (a := L3.toInt) (b := 1) rfl (by decide +kernel) (by omega) (by omega)
        refine lv_iinc (v := z9) (lv' := [(3, .int z9), (0, .ref (ad 14)), (1, .ref (ad 4)), (2, .int 0)]) hx hb dX1_impose_46 hl (k := 3) rfl e_z9.symm (by decide) rfl (fun ls_6 hl_6 => ?_)
        refine lv_goto (tgt := 19) hx hb dX1_impose_49 (by decide) ?_
        exact ih 0 z9 f1_size al8 w0 w1 w2 w3 _ _ _ (by first | omega | decide | (have ka0 := (by decide +kernel : (0 : Int32).toInt = 0); omega)) (by first | omega | decide | (have ka0 := (by decide +kernel : (0 : Int32).toInt = 0); omega)) (by first | omega | decide | (have ka0 := (by decide +kernel : (0 : Int32).toInt = 0); omega)) (by first | omega | decide | (have ka0 := (by decide +kernel : (0 : Int32).toInt = 0); omega)) (by first | omega | decide | (have ka0 := (by decide +kernel : (0 : Int32).toInt = 0); omega)) (by first | omega | decide | (have ka0 := (by decide +kernel : (0 : Int32).toInt = 0); omega)) (by first | omega | decide | (have ka0 := (by decide +kernel : (0 : Int32).toInt = 0); omega)) (by first | omega | decide | (have ka0 := (by decide +kernel : (0 : Int32).toInt = 0); omega)) (by first | omega | decide | (have ka0 := (by decide +kernel : (0 : Int32).toInt = 0); omega)) (by first | omega | decide | (have ka0 := (by decide +kernel : (0 : Int32).toInt = 0); omega)) (by first | omega | decide | (have ka0 := (by decide +kernel : (0 : Int32).toInt = 0); omega)) (by first | omega | decide | (have ka0 := (by decide +kernel : (0 : Int32).toInt = 0); omega)) (by first | omega | decide | (have ka0 := (by decide +kernel : (0 : Int32).toInt = 0); omega)) (by first | omega | decide | (have ka0 := (by decide +kernel : (0 : Int32).toInt = 0); omega)) (by first | omega | decide | (have ka0 := (by decide +kernel : (0 : Int32).toInt = 0); omega)) (by first | omega | decide | (have ka0 := (by decide +kernel : (0 : Int32).toInt = 0); omega)) (by first | omega | decide | (have ka0 := (by decide +kernel : (0 : Int32).toInt = 0); omega)) hI hG_3 hw_w0 hw_w1 hw_w2 hw_w3 hP_4 hD_5 hS_2 (lv_sub hl_6 [1, 2, 3, 0] rfl)
      · have k9 : (1 : Int32).toInt = 1 := by decide +kernel
        refine ld_a hx hb hK hP 15 3 rfl rfl (vin (by decide +kernel)) dX1_impose_40 w1 rfl ?_
        refine lv_iload_n hx hb dX1_impose_41 rfl (lv_at hl 3 rfl) ?_
        refine ld_wX hx hb hK hP hw_w1 (j_in (a := L3.toInt) rfl (by omega) (by omega)) dX1_impose_42 (fun yy10 => ?_)
        refine v_lmul hx hb dX1_impose_43 _ rfl ?_
        refine lv_topl (fun yy11 e_yy11 => ?_)
        refine v_ladd hx hb dX1_impose_44 _ rfl ?_
        refine lv_topl (fun yy12 e_yy12 => ?_)
        refine va_last hx hb hK hP hD hS 20 1 rfl rfl (vin (by decide +kernel)) dX1_impose_45 (fun H_7 locs_7 hP_7 hD_7 hS_7 => ?_)
        obtain ⟨al13, e_al13⟩ : ∃ q : Nat → Nat → Int64, q = va_up al 20 (vp_updL (al 20) (1 : Int32).toNatClampNeg yy12) := ⟨_, rfl⟩
        have hG_8 := FL_st hG e_al13 (by decide)
        have hP_9 : va_P (dC, dI) vwCl (WX cI cJ cII cJJ ad f3_unknowns f3_equations f2_roundSupports f2_stale f7_size f1_size f5_keptSize f5_aheadSize f0_solved f4_blockCount f4_blockLength f4_lastIsFree f4_stale ai al13 w0 w1 w2 w3) H_7 := by rw [e_al13]; exact hP_7
        have hD_10 : va_D A (WX cI cJ cII cJJ ad f3_unknowns f3_equations f2_roundSupports f2_stale f7_size f1_size f5_keptSize f5_aheadSize f0_solved f4_blockCount f4_blockLength f4_lastIsFree f4_stale ai al13 w0 w1 w2 w3) := by rw [e_al13]; exact hD_7
        obtain ⟨z14, e_z14⟩ : ∃ q : Int32, q = L3 + Int32.ofInt 1 := ⟨_, rfl⟩
        have g_z14 : z14.toInt = L3.toInt + 1 := by rw [e_z14]; exact n_add (a := L3.toInt) (b := 1) rfl (by decide +kernel) (by omega) (by omega)
        refine lv_iinc (v := z14) (lv' := [(3, .int z14), (0, .ref (ad 14)), (1, .ref (ad 4)), (2, .int 1)]) hx hb dX1_impose_46 hl (k := 3) rfl e_z14.symm (by decide) rfl (fun ls_11 hl_11 => ?_)
        refine lv_goto (tgt := 19) hx hb dX1_impose_49 (by decide) ?_
        exact ih 1 z14 f1_size al13 w0 w1 w2 w3 _ _ _ (by first | omega | decide | (have ka0 := (by decide +kernel : (1 : Int32).toInt = 1); omega)) (by first | omega | decide | (have ka0 := (by decide +kernel : (1 : Int32).toInt = 1); omega)) (by first | omega | decide | (have ka0 := (by decide +kernel : (1 : Int32).toInt = 1); omega)) (by first | omega | decide | (have ka0 := (by decide +kernel : (1 : Int32).toInt = 1); omega)) (by first | omega | decide | (have ka0 := (by decide +kernel : (1 : Int32).toInt = 1); omega)) (by first | omega | decide | (have ka0 := (by decide +kernel : (1 : Int32).toInt = 1); omega)) (by first | omega | decide | (have ka0 := (by decide +kernel : (1 : Int32).toInt = 1); omega)) (by first | omega | decide | (have ka0 := (by decide +kernel : (1 : Int32).toInt = 1); omega)) (by first | omega | decide | (have ka0 := (by decide +kernel : (1 : Int32).toInt = 1); omega)) (by first | omega | decide | (have ka0 := (by decide +kernel : (1 : Int32).toInt = 1); omega)) (by first | omega | decide | (have ka0 := (by decide +kernel : (1 : Int32).toInt = 1); omega)) (by first | omega | decide | (have ka0 := (by decide +kernel : (1 : Int32).toInt = 1); omega)) (by first | omega | decide | (have ka0 := (by decide +kernel : (1 : Int32).toInt = 1); omega)) (by first | omega | decide | (have ka0 := (by decide +kernel : (1 : Int32).toInt = 1); omega)) (by first | omega | decide | (have ka0 := (by decide +kernel : (1 : Int32).toInt = 1); omega)) (by first | omega | decide | (have ka0 := (by decide +kernel : (1 : Int32).toInt = 1); omega)) (by first | omega | decide | (have ka0 := (by decide +kernel : (1 : Int32).toInt = 1); omega)) hI hG_8 hw_w0 hw_w1 hw_w2 hw_w3 hP_9 hD_10 hS_7 (lv_sub hl_11 [1, 2, 3, 0] rfl)
      · have k9 : (2 : Int32).toInt = 2 := by decide +kernel
        refine ld_a hx hb hK hP 15 3 rfl rfl (vin (by decide +kernel)) dX1_impose_40 w2 rfl ?_
        refine lv_iload_n hx hb dX1_impose_41 rfl (lv_at hl 3 rfl) ?_
        refine ld_wX hx hb hK hP hw_w2 (j_in (a := L3.toInt) rfl (by omega) (by omega)) dX1_impose_42 (fun yy15 => ?_)
        refine v_lmul hx hb dX1_impose_43 _ rfl ?_
        refine lv_topl (fun yy16 e_yy16 => ?_)
        refine v_ladd hx hb dX1_impose_44 _ rfl ?_
        refine lv_topl (fun yy17 e_yy17 => ?_)
        refine va_last hx hb hK hP hD hS 20 1 rfl rfl (vin (by decide +kernel)) dX1_impose_45 (fun H_12 locs_12 hP_12 hD_12 hS_12 => ?_)
        obtain ⟨al18, e_al18⟩ : ∃ q : Nat → Nat → Int64, q = va_up al 20 (vp_updL (al 20) (2 : Int32).toNatClampNeg yy17) := ⟨_, rfl⟩
        have hG_13 := FL_st hG e_al18 (by decide)
        have hP_14 : va_P (dC, dI) vwCl (WX cI cJ cII cJJ ad f3_unknowns f3_equations f2_roundSupports f2_stale f7_size f1_size f5_keptSize f5_aheadSize f0_solved f4_blockCount f4_blockLength f4_lastIsFree f4_stale ai al18 w0 w1 w2 w3) H_12 := by rw [e_al18]; exact hP_12
        have hD_15 : va_D A (WX cI cJ cII cJJ ad f3_unknowns f3_equations f2_roundSupports f2_stale f7_size f1_size f5_keptSize f5_aheadSize f0_solved f4_blockCount f4_blockLength f4_lastIsFree f4_stale ai al18 w0 w1 w2 w3) := by rw [e_al18]; exact hD_12
        obtain ⟨z19, e_z19⟩ : ∃ q : Int32, q = L3 + Int32.ofInt 1 := ⟨_, rfl⟩
        have g_z19 : z19.toInt = L3.toInt + 1 := by rw [e_z19]; exact n_add (a := L3.toInt) (b := 1) rfl (by decide +kernel) (by omega) (by omega)
        refine lv_iinc (v := z19) (lv' := [(3, .int z19), (0, .ref (ad 14)), (1, .ref (ad 4)), (2, .int 2)]) hx hb dX1_impose_46 hl (k := 3) rfl e_z19.symm (by decide) rfl (fun ls_16 hl_16 => ?_)
        refine lv_goto (tgt := 19) hx hb dX1_impose_49 (by decide) ?_
        exact ih 2 z19 f1_size al18 w0 w1 w2 w3 _ _ _ (by first | omega | decide | (have ka0 := (by decide +kernel : (2 : Int32).toInt = 2); omega)) (by first | omega | decide | (have ka0 := (by decide +kernel : (2 : Int32).toInt = 2); omega)) (by first | omega | decide | (have ka0 := (by decide +kernel : (2 : Int32).toInt = 2); omega)) (by first | omega | decide | (have ka0 := (by decide +kernel : (2 : Int32).toInt = 2); omega)) (by first | omega | decide | (have ka0 := (by decide +kernel : (2 : Int32).toInt = 2); omega)) (by first | omega | decide | (have ka0 := (by decide +kernel : (2 : Int32).toInt = 2); omega)) (by first | omega | decide | (have ka0 := (by decide +kernel : (2 : Int32).toInt = 2); omega)) (by first | omega | decide | (have ka0 := (by decide +kernel : (2 : Int32).toInt = 2); omega)) (by first | omega | decide | (have ka0 := (by decide +kernel : (2 : Int32).toInt = 2); omega)) (by first | omega | decide | (have ka0 := (by decide +kernel : (2 : Int32).toInt = 2); omega)) (by first | omega | decide | (have ka0 := (by decide +kernel : (2 : Int32).toInt = 2); omega)) (by first | omega | decide | (have ka0 := (by decide +kernel : (2 : Int32).toInt = 2); omega)) (by first | omega | decide | (have ka0 := (by decide +kernel : (2 : Int32).toInt = 2); omega)) (by first | omega | decide | (have ka0 := (by decide +kernel : (2 : Int32).toInt = 2); omega)) (by first | omega | decide | (have ka0 := (by decide +kernel : (2 : Int32).toInt = 2); omega)) (by first | omega | decide | (have ka0 := (by decide +kernel : (2 : Int32).toInt = 2); omega)) (by first | omega | decide | (have ka0 := (by decide +kernel : (2 : Int32).toInt = 2); omega)) hI hG_13 hw_w0 hw_w1 hw_w2 hw_w3 hP_14 hD_15 hS_12 (lv_sub hl_16 [1, 2, 3, 0] rfl)
      · have k9 : (3 : Int32).toInt = 3 := by decide +kernel
        refine ld_a hx hb hK hP 15 3 rfl rfl (vin (by decide +kernel)) dX1_impose_40 w3 rfl ?_
        refine lv_iload_n hx hb dX1_impose_41 rfl (lv_at hl 3 rfl) ?_
        refine ld_wX hx hb hK hP hw_w3 (j_in (a := L3.toInt) rfl (by omega) (by omega)) dX1_impose_42 (fun yy20 => ?_)
        refine v_lmul hx hb dX1_impose_43 _ rfl ?_
        refine lv_topl (fun yy21 e_yy21 => ?_)
        refine v_ladd hx hb dX1_impose_44 _ rfl ?_
        refine lv_topl (fun yy22 e_yy22 => ?_)
        refine va_last hx hb hK hP hD hS 20 1 rfl rfl (vin (by decide +kernel)) dX1_impose_45 (fun H_17 locs_17 hP_17 hD_17 hS_17 => ?_)
        obtain ⟨al23, e_al23⟩ : ∃ q : Nat → Nat → Int64, q = va_up al 20 (vp_updL (al 20) (3 : Int32).toNatClampNeg yy22) := ⟨_, rfl⟩
        have hG_18 := FL_st hG e_al23 (by decide)
        have hP_19 : va_P (dC, dI) vwCl (WX cI cJ cII cJJ ad f3_unknowns f3_equations f2_roundSupports f2_stale f7_size f1_size f5_keptSize f5_aheadSize f0_solved f4_blockCount f4_blockLength f4_lastIsFree f4_stale ai al23 w0 w1 w2 w3) H_17 := by rw [e_al23]; exact hP_17
        have hD_20 : va_D A (WX cI cJ cII cJJ ad f3_unknowns f3_equations f2_roundSupports f2_stale f7_size f1_size f5_keptSize f5_aheadSize f0_solved f4_blockCount f4_blockLength f4_lastIsFree f4_stale ai al23 w0 w1 w2 w3) := by rw [e_al23]; exact hD_17
        obtain ⟨z24, e_z24⟩ : ∃ q : Int32, q = L3 + Int32.ofInt 1 := ⟨_, rfl⟩
        have g_z24 : z24.toInt = L3.toInt + 1 := by rw [e_z24]; exact n_add (a := L3.toInt) (b := 1) rfl (by decide +kernel) (by omega) (by omega)
        refine lv_iinc (v := z24) (lv' := [(3, .int z24), (0, .ref (ad 14)), (1, .ref (ad 4)), (2, .int 3)]) hx hb dX1_impose_46 hl (k := 3) rfl e_z24.symm (by decide) rfl (fun ls_21 hl_21 => ?_)
        refine lv_goto (tgt := 19) hx hb dX1_impose_49 (by decide) ?_
        exact ih 3 z24 f1_size al23 w0 w1 w2 w3 _ _ _ (by first | omega | decide | (have ka0 := (by decide +kernel : (3 : Int32).toInt = 3); omega)) (by first | omega | decide | (have ka0 := (by decide +kernel : (3 : Int32).toInt = 3); omega)) (by first | omega | decide | (have ka0 := (by decide +kernel : (3 : Int32).toInt = 3); omega)) (by first | omega | decide | (have ka0 := (by decide +kernel : (3 : Int32).toInt = 3); omega)) (by first | omega | decide | (have ka0 := (by decide +kernel : (3 : Int32).toInt = 3); omega)) (by first | omega | decide | (have ka0 := (by decide +kernel : (3 : Int32).toInt = 3); omega)) (by first | omega | decide | (have ka0 := (by decide +kernel : (3 : Int32).toInt = 3); omega)) (by first | omega | decide | (have ka0 := (by decide +kernel : (3 : Int32).toInt = 3); omega)) (by first | omega | decide | (have ka0 := (by decide +kernel : (3 : Int32).toInt = 3); omega)) (by first | omega | decide | (have ka0 := (by decide +kernel : (3 : Int32).toInt = 3); omega)) (by first | omega | decide | (have ka0 := (by decide +kernel : (3 : Int32).toInt = 3); omega)) (by first | omega | decide | (have ka0 := (by decide +kernel : (3 : Int32).toInt = 3); omega)) (by first | omega | decide | (have ka0 := (by decide +kernel : (3 : Int32).toInt = 3); omega)) (by first | omega | decide | (have ka0 := (by decide +kernel : (3 : Int32).toInt = 3); omega)) (by first | omega | decide | (have ka0 := (by decide +kernel : (3 : Int32).toInt = 3); omega)) (by first | omega | decide | (have ka0 := (by decide +kernel : (3 : Int32).toInt = 3); omega)) (by first | omega | decide | (have ka0 := (by decide +kernel : (3 : Int32).toInt = 3); omega)) hI hG_18 hw_w0 hw_w1 hw_w2 hw_w3 hP_19 hD_20 hS_17 (lv_sub hl_21 [1, 2, 3, 0] rfl)
set_option maxRecDepth 100000 in
set_option maxHeartbeats 4000000 in
theorem m144_X1_impose_b2 {p : Program} {l : Launch} {e : Env} {s : State} {m : MethodId} {args : Array Value} {below : List Frame} {meth : Method} {c : Code} {A : Nat → Prop} {dC : Nat → ClassId} {dI : Nat → Nat → Nat} {cI cJ cII cJJ : ClassId} {ad : Nat → Nat} {g : Nat} {f3_unknowns f3_equations f2_roundSupports f2_stale f7_size f5_keptSize f5_aheadSize f0_solved f4_blockCount f4_blockLength f4_lastIsFree f4_stale : Int32} {ai : Nat → Nat → Int32} {al0 : Nat → Nat → Int64} (C : Cx p c s m meth args A dC dI (TY cI cJ cII cJJ) cX1_impose none 4 RX1 1 g) : ∀ (n : Nat), ∀ (L2 f1_size : Int32) (al : Nat → Nat → Int64) (w0 w1 w2 w3 : Nat) (H : Heap) (locs : List Loc) (ls : Array Slot), (0 ≤ L2.toInt ∧ L2.toInt ≤ 4) → (1 ≤ f3_unknowns.toInt ∧ f3_unknowns.toInt ≤ 4) → (0 ≤ f3_equations.toInt ∧ f3_equations.toInt ≤ 3) → (0 ≤ f2_stale.toInt ∧ f2_stale.toInt ≤ 1) → (0 ≤ f7_size.toInt ∧ f7_size.toInt ≤ 256) → (0 ≤ f1_size.toInt ∧ f1_size.toInt ≤ 4) → (0 ≤ f5_keptSize.toInt ∧ f5_keptSize.toInt ≤ 128) → (0 ≤ f5_aheadSize.toInt ∧ f5_aheadSize.toInt ≤ 128) → (0 ≤ f4_blockCount.toInt ∧ f4_blockCount.toInt ≤ 9261) → (0 ≤ f4_blockLength.toInt ∧ f4_blockLength.toInt ≤ 21) → (0 ≤ f4_lastIsFree.toInt ∧ f4_lastIsFree.toInt ≤ 1) → (0 ≤ f4_stale.toInt ∧ f4_stale.toInt ≤ 1) → f1_size.toInt - L2.toInt < (n : Int) → (0 : Int) < (n : Int) → IAX ai → FL [16, 17, 18, 19, 20] al0 al → RWX ad w0 → RWX ad w1 → RWX ad w2 → RWX ad w3 → va_P (dC, dI) vwCl (WX cI cJ cII cJJ ad f3_unknowns f3_equations f2_roundSupports f2_stale f7_size f1_size f5_keptSize f5_aheadSize f0_solved f4_blockCount f4_blockLength f4_lastIsFree f4_stale ai al w0 w1 w2 w3) H → va_D A (WX cI cJ cII cJJ ad f3_unknowns f3_equations f2_roundSupports f2_stale f7_size f1_size f5_keptSize f5_aheadSize f0_solved f4_blockCount f4_blockLength f4_lastIsFree f4_stale ai al w0 w1 w2 w3) → va_S A s.heap H locs → lv_has ls 4 [(0, .ref (ad 14)), (1, .ref (ad 4)), (2, .int L2)] → W p l e ({ frames := 4, cells := 0, slots := 0, locals := 200 } : Room) s m args below meth c H locs 0 0 (MQ below (Q_m144_X1_impose dC dI cI cJ cII cJJ ad f3_unknowns f3_equations f2_roundSupports f2_stale f7_size f5_keptSize f5_aheadSize f0_solved f4_blockCount f4_blockLength f4_lastIsFree f4_stale ai al0 A) args s 0 0 A) (F0 m 2 ls []) := by
  obtain ⟨hx, hb, hr, hml, hown, hts, hk, hA, hK, hX⟩ := id C
  intro n
  induction n with
  | zero =>
    intro L2 f1_size al w0 w1 w2 w3 H locs ls h0 h1 h2 h3 h4 h5 h6 h7 h8 h9 h10 h11 h12 h13 hI hG hw_w0 hw_w1 hw_w2 hw_w3 hP hD hS hl
    exact absurd h13 (by omega)
  | succ n ih =>
    intro L2 f1_size al w0 w1 w2 w3 H locs ls h0 h1 h2 h3 h4 h5 h6 h7 h8 h9 h10 h11 h12 h13 hI hG hw_w0 hw_w1 hw_w2 hw_w3 hP hD hS hl
    refine lv_iload_n hx hb dX1_impose_2 rfl (lv_at hl 2 rfl) ?_
    refine lv_aload_n hx hb dX1_impose_3 rfl (lv_at hl 0 rfl) ?_
    refine gf (k := 3) hx hb hts inX1 hown hK hP k_120 rfl (by decide) rfl 14 rfl (.int f1_size) rfl dX1_impose_4 ?_
    refine lv_icmp_ge (tgt := 58) hx hb dX1_impose_7 (by decide) (fun c1 => ?_) (fun c1 => ?_)
    · have c1 := j_le (a := f1_size.toInt) (b := L2.toInt) rfl rfl c1
      refine lv_iconst (v := 0) hx hb dX1_impose_58 (by decide) ?_
      refine lv_istore_n (lv' := [(2, .int 0), (0, .ref (ad 14)), (1, .ref (ad 4))]) hx hb dX1_impose_59 rfl hl (by decide) rfl (fun ls_1 hl_1 => ?_)
      exact m144_X1_impose_b60 C  _ 0 f1_size al w0 w1 w2 w3 _ _ _ (by first | omega | decide | (have ka0 := (by decide +kernel : (0 : Int32).toInt = 0); omega)) (by first | omega | decide | (have ka0 := (by decide +kernel : (0 : Int32).toInt = 0); omega)) (by first | omega | decide | (have ka0 := (by decide +kernel : (0 : Int32).toInt = 0); omega)) (by first | omega | decide | (have ka0 := (by decide +kernel : (0 : Int32).toInt = 0); omega)) (by first | omega | decide | (have ka0 := (by decide +kernel : (0 : Int32).toInt = 0); omega)) (by first | omega | decide | (have ka0 := (by decide +kernel : (0 : Int32).toInt = 0); omega)) (by first | omega | decide | (have ka0 := (by decide +kernel : (0 : Int32).toInt = 0); omega)) (by first | omega | decide | (have ka0 := (by decide +kernel : (0 : Int32).toInt = 0); omega)) (by first | omega | decide | (have ka0 := (by decide +kernel : (0 : Int32).toInt = 0); omega)) (by first | omega | decide | (have ka0 := (by decide +kernel : (0 : Int32).toInt = 0); omega)) (by first | omega | decide | (have ka0 := (by decide +kernel : (0 : Int32).toInt = 0); omega)) (by first | omega | decide | (have ka0 := (by decide +kernel : (0 : Int32).toInt = 0); omega)) (j_fuel _) (by omega) hI hG hw_w0 hw_w1 hw_w2 hw_w3 hP hD hS (lv_sub hl_1 [1, 2, 0] rfl)
    · have c1 := j_nle (a := f1_size.toInt) (b := L2.toInt) rfl rfl c1
      refine lv_aload_n hx hb dX1_impose_10 rfl (lv_at hl 0 rfl) ?_
      refine gf (k := 1) hx hb hts inX1 hown hK hP k_118 rfl (by decide) rfl 14 rfl (.ref (ad 20)) rfl dX1_impose_11 ?_
      refine lv_iload_n hx hb dX1_impose_14 rfl (lv_at hl 2 rfl) ?_
      refine lv_lconst (v := 0) hx hb dX1_impose_15 (by decide) ?_
      refine va_last hx hb hK hP hD hS 20 1 rfl rfl (j_in (a := L2.toInt) rfl (by omega) (by omega)) dX1_impose_16 (fun H_2 locs_2 hP_2 hD_2 hS_2 => ?_)
      obtain ⟨al2, e_al2⟩ : ∃ q : Nat → Nat → Int64, q = va_up al 20 (vp_updL (al 20) L2.toNatClampNeg 0) := ⟨_, rfl⟩
      have hG_3 := FL_st hG e_al2 (by decide)
      have hP_4 : va_P (dC, dI) vwCl (WX cI cJ cII cJJ ad f3_unknowns f3_equations f2_roundSupports f2_stale f7_size f1_size f5_keptSize f5_aheadSize f0_solved f4_blockCount f4_blockLength f4_lastIsFree f4_stale ai al2 w0 w1 w2 w3) H_2 := by rw [e_al2]; exact hP_2
      have hD_5 : va_D A (WX cI cJ cII cJJ ad f3_unknowns f3_equations f2_roundSupports f2_stale f7_size f1_size f5_keptSize f5_aheadSize f0_solved f4_blockCount f4_blockLength f4_lastIsFree f4_stale ai al2 w0 w1 w2 w3) := by rw [e_al2]; exact hD_2
      refine lv_iconst (v := 0) hx hb dX1_impose_17 (by decide) ?_
      refine lv_istore_n (lv' := [(3, .int 0), (0, .ref (ad 14)), (1, .ref (ad 4)), (2, .int L2)]) hx hb dX1_impose_18 rfl hl (by decide) rfl (fun ls_6 hl_6 => ?_)
      exact m144_X1_impose_b19 C n ih _ L2 0 f1_size al2 w0 w1 w2 w3 _ _ _ (by first | omega | decide | (have ka0 := (by decide +kernel : (0 : Int32).toInt = 0); omega)) (by first | omega | decide | (have ka0 := (by decide +kernel : (0 : Int32).toInt = 0); omega)) (by first | omega | decide | (have ka0 := (by decide +kernel : (0 : Int32).toInt = 0); omega)) (by first | omega | decide | (have ka0 := (by decide +kernel : (0 : Int32).toInt = 0); omega)) (by first | omega | decide | (have ka0 := (by decide +kernel : (0 : Int32).toInt = 0); omega)) (by first | omega | decide | (have ka0 := (by decide +kernel : (0 : Int32).toInt = 0); omega)) (by first | omega | decide | (have ka0 := (by decide +kernel : (0 : Int32).toInt = 0); omega)) (by first | omega | decide | (have ka0 := (by decide +kernel : (0 : Int32).toInt = 0); omega)) (by first | omega | decide | (have ka0 := (by decide +kernel : (0 : Int32).toInt = 0); omega)) (by first | omega | decide | (have ka0 := (by decide +kernel : (0 : Int32).toInt = 0); omega)) (by first | omega | decide | (have ka0 := (by decide +kernel : (0 : Int32).toInt = 0); omega)) (by first | omega | decide | (have ka0 := (by decide +kernel : (0 : Int32).toInt = 0); omega)) (by first | omega | decide | (have ka0 := (by decide +kernel : (0 : Int32).toInt = 0); omega)) (by first | omega | decide | (have ka0 := (by decide +kernel : (0 : Int32).toInt = 0); omega)) (by first | omega | decide | (have ka0 := (by decide +kernel : (0 : Int32).toInt = 0); omega)) (j_fuel _) (by omega) hI hG_3 hw_w0 hw_w1 hw_w2 hw_w3 hP_4 hD_5 hS_2 (lv_sub hl_6 [1, 2, 3, 0] rfl)
set_option maxRecDepth 100000 in
set_option maxHeartbeats 4000000 in
theorem m144_X1_impose (l : Launch) (dC : Nat → ClassId) (dI : Nat → Nat → Nat) (cI cJ cII cJJ : ClassId) (sz g : Nat) (ad : Nat → Nat) (f3_unknowns f3_equations f2_roundSupports f2_stale f7_size f1_size f5_keptSize f5_aheadSize f0_solved f4_blockCount f4_blockLength f4_lastIsFree f4_stale : Int32) (ai : Nat → Nat → Int32) (al : Nat → Nat → Int64) (w0 w1 w2 w3 : Nat) (h_f3_unknowns : (1 ≤ f3_unknowns.toInt ∧ f3_unknowns.toInt ≤ 4)) (h_f3_equations : (0 ≤ f3_equations.toInt ∧ f3_equations.toInt ≤ 3)) (h_f2_stale : (0 ≤ f2_stale.toInt ∧ f2_stale.toInt ≤ 1)) (h_f7_size : (0 ≤ f7_size.toInt ∧ f7_size.toInt ≤ 256)) (h_f1_size : (0 ≤ f1_size.toInt ∧ f1_size.toInt ≤ 4)) (h_f5_keptSize : (0 ≤ f5_keptSize.toInt ∧ f5_keptSize.toInt ≤ 128)) (h_f5_aheadSize : (0 ≤ f5_aheadSize.toInt ∧ f5_aheadSize.toInt ≤ 128)) (h_f4_blockCount : (0 ≤ f4_blockCount.toInt ∧ f4_blockCount.toInt ≤ 9261)) (h_f4_blockLength : (0 ≤ f4_blockLength.toInt ∧ f4_blockLength.toInt ≤ 21)) (h_f4_lastIsFree : (0 ≤ f4_lastIsFree.toInt ∧ f4_lastIsFree.toInt ≤ 1)) (h_f4_stale : (0 ≤ f4_stale.toInt ∧ f4_stale.toInt ≤ 1)) (hI : IAX ai) (hw_w0 : RWX ad w0) (hw_w1 : RWX ad w1) (hw_w2 : RWX ad w2) (hw_w3 : RWX ad w3) : Met l yX1_impose (.code yX1_impose cX1_impose 4 none :: TT) ({ frames := 4, cells := 0, slots := 0, locals := 200 } : Room) (PcS dC dI (TY cI cJ cII cJJ) [.ref (ad 14), .ref (ad 4)] (WX cI cJ cII cJJ ad f3_unknowns f3_equations f2_roundSupports f2_stale f7_size f1_size f5_keptSize f5_aheadSize f0_solved f4_blockCount f4_blockLength f4_lastIsFree f4_stale ai al w0 w1 w2 w3) sz 1 g) (Q_m144_X1_impose dC dI cI cJ cII cJJ ad f3_unknowns f3_equations f2_roundSupports f2_stale f7_size f5_keptSize f5_aheadSize f0_solved f4_blockCount f4_blockLength f4_lastIsFree f4_stale ai al (va_A (WX cI cJ cII cJJ ad f3_unknowns f3_equations f2_roundSupports f2_stale f7_size f1_size f5_keptSize f5_aheadSize f0_solved f4_blockCount f4_blockLength f4_lastIsFree f4_stale ai al w0 w1 w2 w3) sz)) 0 0 (va_A (WX cI cJ cII cJJ ad f3_unknowns f3_equations f2_roundSupports f2_stale f7_size f1_size f5_keptSize f5_aheadSize f0_solved f4_blockCount f4_blockLength f4_lastIsFree f4_stale ai al w0 w1 w2 w3) sz) := by
  refine SM.of (y := yX1_impose) (maxL := 4) (av := [.ref (ad 14), .ref (ad 4)]) (Q_m144_X1_impose dC dI cI cJ cII cJJ ad f3_unknowns f3_equations f2_roundSupports f2_stale f7_size f5_keptSize f5_aheadSize f0_solved f4_blockCount f4_blockLength f4_lastIsFree f4_stale ai al) (by decide +kernel) (Nat.le_of_ble_eq_true rfl) (fun p e s m below meth c A ls hx hb hr hml hown hts hk hnm hA hK hP hD hS hX hl => ?_)
  have C : Cx p c s m meth (([.ref (ad 14), .ref (ad 4)] : List Value).toArray) A dC dI (TY cI cJ cII cJJ) cX1_impose none 4 RX1 1 g := ⟨hx, hb, hr, hml, hown, hts, hk, hA, hK, hX⟩
  have hown : s.vm.findClass RX1 = some m.cls := hown
  have hl : lv_has ls 4 [(0, .ref (ad 14)), (1, .ref (ad 4))] := hl
  obtain ⟨H, hH⟩ : ∃ q, q = s.heap := ⟨_, rfl⟩
  rw [← hH] at hP
  have hS : va_S A s.heap H [] := by rw [hH]; exact hS
  rw [← hH]
  have hG := FL_refl [16, 17, 18, 19, 20] al
  refine lv_iconst (v := 0) hx hb dX1_impose_0 (by decide) ?_
  refine lv_istore_n (lv' := [(2, .int 0), (0, .ref (ad 14)), (1, .ref (ad 4))]) hx hb dX1_impose_1 rfl hl (by decide) rfl (fun ls_1 hl_1 => ?_)
  exact m144_X1_impose_b2 C  _ 0 f1_size al w0 w1 w2 w3 _ _ _ (by first | omega | decide | (have ka0 := (by decide +kernel : (0 : Int32).toInt = 0); omega)) (by first | omega | decide | (have ka0 := (by decide +kernel : (0 : Int32).toInt = 0); omega)) (by first | omega | decide | (have ka0 := (by decide +kernel : (0 : Int32).toInt = 0); omega)) (by first | omega | decide | (have ka0 := (by decide +kernel : (0 : Int32).toInt = 0); omega)) (by first | omega | decide | (have ka0 := (by decide +kernel : (0 : Int32).toInt = 0); omega)) (by first | omega | decide | (have ka0 := (by decide +kernel : (0 : Int32).toInt = 0); omega)) (by first | omega | decide | (have ka0 := (by decide +kernel : (0 : Int32).toInt = 0); omega)) (by first | omega | decide | (have ka0 := (by decide +kernel : (0 : Int32).toInt = 0); omega)) (by first | omega | decide | (have ka0 := (by decide +kernel : (0 : Int32).toInt = 0); omega)) (by first | omega | decide | (have ka0 := (by decide +kernel : (0 : Int32).toInt = 0); omega)) (by first | omega | decide | (have ka0 := (by decide +kernel : (0 : Int32).toInt = 0); omega)) (by first | omega | decide | (have ka0 := (by decide +kernel : (0 : Int32).toInt = 0); omega)) (j_fuel _) (by omega) hI hG hw_w0 hw_w1 hw_w2 hw_w3 hP hD hS (lv_sub hl_1 [1, 2, 0] rfl)
def Q_m145_X1_solve (dC : Nat → ClassId) (dI : Nat → Nat → Nat) (cI cJ cII cJJ : ClassId) (ad : Nat → Nat) (f3_unknowns f3_equations f2_roundSupports f2_stale f7_size f5_keptSize f5_aheadSize f0_solved f4_blockCount f4_blockLength f4_lastIsFree f4_stale : Int32) (ai : Nat → Nat → Int32) (al0 : Nat → Nat → Int64) : (Nat → Prop) → Array Value → State → Outcome → State → Prop := fun A => QV (fun t => ∃ (n_f1_size : Int32), ∃ (n_al : Nat → Nat → Int64), ∃ (n_w0 n_w1 n_w2 n_w3 : Nat), ((0 ≤ n_f1_size.toInt ∧ n_f1_size.toInt ≤ 4) ∧ FL [16, 17, 18, 19, 20] al0 n_al ∧ RWX ad n_w0 ∧ RWX ad n_w1 ∧ RWX ad n_w2 ∧ RWX ad n_w3) ∧ WO dC dI (TY cI cJ cII cJJ) (WX cI cJ cII cJJ ad f3_unknowns f3_equations f2_roundSupports f2_stale f7_size n_f1_size f5_keptSize f5_aheadSize f0_solved f4_blockCount f4_blockLength f4_lastIsFree f4_stale ai n_al n_w0 n_w1 n_w2 n_w3) A t) A
set_option maxRecDepth 100000 in
set_option maxHeartbeats 4000000 in
theorem m145_X1_solve_b42 {p : Program} {l : Launch} {e : Env} {s : State} {m : MethodId} {args : Array Value} {below : List Frame} {meth : Method} {c : Code} {A : Nat → Prop} {dC : Nat → ClassId} {dI : Nat → Nat → Nat} {cI cJ cII cJJ : ClassId} {ad : Nat → Nat} {g : Nat} {f3_unknowns f3_equations f2_roundSupports f2_stale f7_size f5_keptSize f5_aheadSize f0_solved f4_blockCount f4_blockLength f4_lastIsFree f4_stale : Int32} {ai : Nat → Nat → Int32} {al0 : Nat → Nat → Int64} (C : Cx p c s m meth args A dC dI (TY cI cJ cII cJJ) cX1_solve none 3 RX1 1 g) : ∀ (n : Nat), ∀ (L2 f1_size : Int32) (al : Nat → Nat → Int64) (w0 w1 w2 w3 : Nat) (H : Heap) (locs : List Loc) (ls : Array Slot), (0 ≤ L2.toInt ∧ L2.toInt ≤ 3) → (1 ≤ f3_unknowns.toInt ∧ f3_unknowns.toInt ≤ 4) → (0 ≤ f3_equations.toInt ∧ f3_equations.toInt ≤ 3) → (0 ≤ f2_stale.toInt ∧ f2_stale.toInt ≤ 1) → (0 ≤ f7_size.toInt ∧ f7_size.toInt ≤ 256) → (0 ≤ f1_size.toInt ∧ f1_size.toInt ≤ 4) → (0 ≤ f5_keptSize.toInt ∧ f5_keptSize.toInt ≤ 128) → (0 ≤ f5_aheadSize.toInt ∧ f5_aheadSize.toInt ≤ 128) → (0 ≤ f4_blockCount.toInt ∧ f4_blockCount.toInt ≤ 9261) → (0 ≤ f4_blockLength.toInt ∧ f4_blockLength.toInt ≤ 21) → (0 ≤ f4_lastIsFree.toInt ∧ f4_lastIsFree.toInt ≤ 1) → (0 ≤ f4_stale.toInt ∧ f4_stale.toInt ≤ 1) → f3_equations.toInt - L2.toInt < (n : Int) → (0 : Int) < (n : Int) → IAX ai → FL [16, 17, 18, 19, 20] al0 al → RWX ad w0 → RWX ad w1 → RWX ad w2 → RWX ad w3 → va_P (dC, dI) vwCl (WX cI cJ cII cJJ ad f3_unknowns f3_equations f2_roundSupports f2_stale f7_size f1_size f5_keptSize f5_aheadSize f0_solved f4_blockCount f4_blockLength f4_lastIsFree f4_stale ai al w0 w1 w2 w3) H → va_D A (WX cI cJ cII cJJ ad f3_unknowns f3_equations f2_roundSupports f2_stale f7_size f1_size f5_keptSize f5_aheadSize f0_solved f4_blockCount f4_blockLength f4_lastIsFree f4_stale ai al w0 w1 w2 w3) → va_S A s.heap H locs → lv_has ls 3 [(0, .ref (ad 14)), (1, .ref (ad 6)), (2, .int L2)] → W p l e ({ frames := 5, cells := 0, slots := 0, locals := 260 } : Room) s m args below meth c H locs 0 0 (MQ below (Q_m145_X1_solve dC dI cI cJ cII cJJ ad f3_unknowns f3_equations f2_roundSupports f2_stale f7_size f5_keptSize f5_aheadSize f0_solved f4_blockCount f4_blockLength f4_lastIsFree f4_stale ai al0 A) args s 0 0 A) (F0 m 42 ls []) := by
  obtain ⟨hx, hb, hr, hml, hown, hts, hk, hA, hK, hX⟩ := id C
  intro n
  induction n with
  | zero =>
    intro L2 f1_size al w0 w1 w2 w3 H locs ls h0 h1 h2 h3 h4 h5 h6 h7 h8 h9 h10 h11 h12 h13 hI hG hw_w0 hw_w1 hw_w2 hw_w3 hP hD hS hl
    exact absurd h13 (by omega)
  | succ n ih =>
    intro L2 f1_size al w0 w1 w2 w3 H locs ls h0 h1 h2 h3 h4 h5 h6 h7 h8 h9 h10 h11 h12 h13 hI hG hw_w0 hw_w1 hw_w2 hw_w3 hP hD hS hl
    refine lv_iload_n hx hb dX1_solve_42 rfl (lv_at hl 2 rfl) ?_
    refine lv_aload_n hx hb dX1_solve_43 rfl (lv_at hl 1 rfl) ?_
    refine gf (k := 1) hx hb hts inX3 hown hK hP k_44 rfl (by decide) rfl 6 rfl (.int f3_equations) rfl dX1_solve_44 ?_
    refine lv_icmp_ge (tgt := 66) hx hb dX1_solve_47 (by decide) (fun c1 => ?_) (fun c1 => ?_)
    · have c1 := j_le (a := f3_equations.toInt) (b := L2.toInt) rfl rfl c1
      exact r2_v hx hb hr hk hS dX1_solve_66 (fun t ht hW => ⟨f1_size, al, w0, w1, w2, w3, ⟨(by first | omega | decide | exact Or.inl (by decide) | exact Or.inr (by decide) | exact Or.inr (by omega)), hG, hw_w0, hw_w1, hw_w2, hw_w3⟩, by rw [ht]; exact hP, va_K.moved hW.alike hK, hD⟩)
    · have c1 := j_nle (a := f3_equations.toInt) (b := L2.toInt) rfl rfl c1
      refine lv_aload_n hx hb dX1_solve_50 rfl (lv_at hl 0 rfl) ?_
      refine lv_aload_n hx hb dX1_solve_51 rfl (lv_at hl 1 rfl) ?_
      refine gf (k := 2) hx hb hts inX3 hown hK hP k_49 rfl (by decide) rfl 6 rfl (.ref (ad 1)) rfl dX1_solve_52 ?_
      refine lv_iload_n hx hb dX1_solve_55 rfl (lv_at hl 2 rfl) ?_
      rcases (show L2 = 0 ∨ L2 = 1 ∨ L2 = 2 from j_cases3 (a := L2.toInt) rfl (by omega) (by omega)) with rfl | rfl | rfl
      · have k9 : (0 : Int32).toInt = 0 := by decide +kernel
        refine ld_a hx hb hK hP 1 2 rfl rfl (vin (by decide +kernel)) dX1_solve_56 (ad 2) rfl ?_
        have hM := m142_X1_impose l dC dI cI cJ cII cJJ H.size g ad f3_unknowns f3_equations f2_roundSupports f2_stale f7_size f1_size f5_keptSize f5_aheadSize f0_solved f4_blockCount f4_blockLength f4_lastIsFree f4_stale ai al w0 w1 w2 w3 (by omega) (by omega) (by omega) (by omega) (by omega) (by omega) (by omega) (by omega) (by omega) (by omega) (by omega) hI hw_w0 hw_w1 hw_w2 hw_w3
        refine k2V_v (q0 := 14) ⟨hx, hb, hml, hown, hts⟩ hK hP hD hS hA hX cv_RX1_46 hM ⟨by decide +kernel, by decide +kernel⟩ rfl rfl (Or.inr ⟨rfl, rfl, rfl⟩) (rest := []) rfl rfl rfl hl.1 rfl (Nat.le_of_ble_eq_true rfl) dX1_solve_57 ⟨Nat.le_of_ble_eq_true rfl, Nat.le_of_ble_eq_true rfl⟩ (fun t H1 locs_1 ht hB hS_1 hFc => ?_)
        obtain ⟨v3, al4, w5, w6, w7, w8, ⟨gpr2_0, hGr_r2, hw_w5, hw_w6, hw_w7, hw_w8⟩, hP_2, -, hD_2⟩ := hB
        have hG_3 := FL_tr hG hGr_r2 (by decide)
        rw [ht] at hP_2
        have hD_4 := hD_2.weaken (B := A) (fun k q _ h9 => hFc q.1 h9)
        clear ht
        generalize H1 = H_5 at hP_2 hS_1 ⊢
        obtain ⟨z9, e_z9⟩ : ∃ q : Int32, q = 0 + Int32.ofInt 1 := ⟨_, rfl⟩
        have g_z9 : z9.toInt = 0 + 1 := by rw [e_z9]; exact n_add (a := 0) (b := 1) (by decide +kernel) (by decide +kernel) (by omega) (by omega)
        refine lv_iinc (v := z9) (lv' := [(2, .int z9), (0, .ref (ad 14)), (1, .ref (ad 6))]) hx hb dX1_solve_60 hl (k := 2) rfl e_z9.symm (by decide) rfl (fun ls_6 hl_6 => ?_)
        refine lv_goto (tgt := 42) hx hb dX1_solve_63 (by decide) ?_
        exact ih z9 v3 al4 w5 w6 w7 w8 _ _ _ (by omega) (by omega) (by omega) (by omega) (by omega) (by omega) (by omega) (by omega) (by omega) (by omega) (by omega) (by omega) (by omega) (by omega) hI hG_3 hw_w5 hw_w6 hw_w7 hw_w8 hP_2 hD_4 hS_1 (lv_sub hl_6 [1, 2, 0] rfl)
      · have k9 : (1 : Int32).toInt = 1 := by decide +kernel
        refine ld_a hx hb hK hP 1 2 rfl rfl (vin (by decide +kernel)) dX1_solve_56 (ad 3) rfl ?_
        have hM := m143_X1_impose l dC dI cI cJ cII cJJ H.size g ad f3_unknowns f3_equations f2_roundSupports f2_stale f7_size f1_size f5_keptSize f5_aheadSize f0_solved f4_blockCount f4_blockLength f4_lastIsFree f4_stale ai al w0 w1 w2 w3 (by omega) (by omega) (by omega) (by omega) (by omega) (by omega) (by omega) (by omega) (by omega) (by omega) (by omega) hI hw_w0 hw_w1 hw_w2 hw_w3
        refine k2V_v (q0 := 14) ⟨hx, hb, hml, hown, hts⟩ hK hP hD hS hA hX cv_RX1_46 hM ⟨by decide +kernel, by decide +kernel⟩ rfl rfl (Or.inr ⟨rfl, rfl, rfl⟩) (rest := []) rfl rfl rfl hl.1 rfl (Nat.le_of_ble_eq_true rfl) dX1_solve_57 ⟨Nat.le_of_ble_eq_true rfl, Nat.le_of_ble_eq_true rfl⟩ (fun t H1 locs_7 ht hB hS_7 hFc => ?_)
        obtain ⟨v11, al12, w13, w14, w15, w16, ⟨gpr10_0, hGr_r10, hw_w13, hw_w14, hw_w15, hw_w16⟩, hP_8, -, hD_8⟩ := hB
        have hG_9 := FL_tr hG hGr_r10 (by decide)
        rw [ht] at hP_8
        have hD_10 := hD_8.weaken (B := A) (fun k q _ h9 => hFc q.1 h9)
        clear ht
        generalize H1 = H_11 at hP_8 hS_7 ⊢
        obtain ⟨z17, e_z17⟩ : ∃ q : Int32, q = 1 + Int32.ofInt 1 := ⟨_, rfl⟩
        have g_z17 : z17.toInt = 1 + 1 := by rw [e_z17]; exact n_add (a := 1) (b := 1) (by decide +kernel) (by decide +kernel) (by omega) (by omega)
        refine lv_iinc (v := z17) (lv' := [(2, .int z17), (0, .ref (ad 14)), (1, .ref (ad 6))]) hx hb dX1_solve_60 hl (k := 2) rfl e_z17.symm (by decide) rfl (fun ls_12 hl_12 => ?_)
        refine lv_goto (tgt := 42) hx hb dX1_solve_63 (by decide) ?_
        exact ih z17 v11 al12 w13 w14 w15 w16 _ _ _ (by omega) (by omega) (by omega) (by omega) (by omega) (by omega) (by omega) (by omega) (by omega) (by omega) (by omega) (by omega) (by omega) (by omega) hI hG_9 hw_w13 hw_w14 hw_w15 hw_w16 hP_8 hD_10 hS_7 (lv_sub hl_12 [1, 2, 0] rfl)
      · have k9 : (2 : Int32).toInt = 2 := by decide +kernel
        refine ld_a hx hb hK hP 1 2 rfl rfl (vin (by decide +kernel)) dX1_solve_56 (ad 4) rfl ?_
        have hM := m144_X1_impose l dC dI cI cJ cII cJJ H.size g ad f3_unknowns f3_equations f2_roundSupports f2_stale f7_size f1_size f5_keptSize f5_aheadSize f0_solved f4_blockCount f4_blockLength f4_lastIsFree f4_stale ai al w0 w1 w2 w3 (by omega) (by omega) (by omega) (by omega) (by omega) (by omega) (by omega) (by omega) (by omega) (by omega) (by omega) hI hw_w0 hw_w1 hw_w2 hw_w3
        refine k2V_v (q0 := 14) ⟨hx, hb, hml, hown, hts⟩ hK hP hD hS hA hX cv_RX1_46 hM ⟨by decide +kernel, by decide +kernel⟩ rfl rfl (Or.inr ⟨rfl, rfl, rfl⟩) (rest := []) rfl rfl rfl hl.1 rfl (Nat.le_of_ble_eq_true rfl) dX1_solve_57 ⟨Nat.le_of_ble_eq_true rfl, Nat.le_of_ble_eq_true rfl⟩ (fun t H1 locs_13 ht hB hS_13 hFc => ?_)
        obtain ⟨v19, al20, w21, w22, w23, w24, ⟨gpr18_0, hGr_r18, hw_w21, hw_w22, hw_w23, hw_w24⟩, hP_14, -, hD_14⟩ := hB
        have hG_15 := FL_tr hG hGr_r18 (by decide)
        rw [ht] at hP_14
        have hD_16 := hD_14.weaken (B := A) (fun k q _ h9 => hFc q.1 h9)
        clear ht
        generalize H1 = H_17 at hP_14 hS_13 ⊢
        obtain ⟨z25, e_z25⟩ : ∃ q : Int32, q = 2 + Int32.ofInt 1 := ⟨_, rfl⟩
        have g_z25 : z25.toInt = 2 + 1 := by rw [e_z25]; exact n_add (a := 2) (b := 1) (by decide +kernel) (by decide +kernel) (by omega) (by omega)
        refine lv_iinc (v := z25) (lv' := [(2, .int z25), (0, .ref (ad 14)), (1, .ref (ad 6))]) hx hb dX1_solve_60 hl (k := 2) rfl e_z25.symm (by decide) rfl (fun ls_18 hl_18 => ?_)
        refine lv_goto (tgt := 42) hx hb dX1_solve_63 (by decide) ?_
        exact ih z25 v19 al20 w21 w22 w23 w24 _ _ _ (by omega) (by omega) (by omega) (by omega) (by omega) (by omega) (by omega) (by omega) (by omega) (by omega) (by omega) (by omega) (by omega) (by omega) hI hG_15 hw_w21 hw_w22 hw_w23 hw_w24 hP_14 hD_16 hS_13 (lv_sub hl_18 [1, 2, 0] rfl)
set_option maxRecDepth 100000 in
set_option maxHeartbeats 4000000 in
theorem m145_X1_solve_b10 {p : Program} {l : Launch} {e : Env} {s : State} {m : MethodId} {args : Array Value} {below : List Frame} {meth : Method} {c : Code} {A : Nat → Prop} {dC : Nat → ClassId} {dI : Nat → Nat → Nat} {cI cJ cII cJJ : ClassId} {ad : Nat → Nat} {g : Nat} {f3_unknowns f3_equations f2_roundSupports f2_stale f7_size f5_keptSize f5_aheadSize f0_solved f4_blockCount f4_blockLength f4_lastIsFree f4_stale : Int32} {ai : Nat → Nat → Int32} {al0 : Nat → Nat → Int64} (C : Cx p c s m meth args A dC dI (TY cI cJ cII cJJ) cX1_solve none 3 RX1 1 g) : ∀ (n : Nat), ∀ (L2 f1_size : Int32) (al : Nat → Nat → Int64) (w0 w1 w2 w3 : Nat) (H : Heap) (locs : List Loc) (ls : Array Slot), (0 ≤ L2.toInt ∧ L2.toInt ≤ 4) → (1 ≤ f3_unknowns.toInt ∧ f3_unknowns.toInt ≤ 4) → (0 ≤ f3_equations.toInt ∧ f3_equations.toInt ≤ 3) → (0 ≤ f2_stale.toInt ∧ f2_stale.toInt ≤ 1) → (0 ≤ f7_size.toInt ∧ f7_size.toInt ≤ 256) → (1 ≤ f1_size.toInt ∧ f1_size.toInt ≤ 4) → (0 ≤ f5_keptSize.toInt ∧ f5_keptSize.toInt ≤ 128) → (0 ≤ f5_aheadSize.toInt ∧ f5_aheadSize.toInt ≤ 128) → (0 ≤ f4_blockCount.toInt ∧ f4_blockCount.toInt ≤ 9261) → (0 ≤ f4_blockLength.toInt ∧ f4_blockLength.toInt ≤ 21) → (0 ≤ f4_lastIsFree.toInt ∧ f4_lastIsFree.toInt ≤ 1) → (0 ≤ f4_stale.toInt ∧ f4_stale.toInt ≤ 1) → 4 - L2.toInt < (n : Int) → (0 : Int) < (n : Int) → IAX ai → FL [16, 17, 18, 19, 20] al0 al → RWX ad w0 → RWX ad w1 → RWX ad w2 → RWX ad w3 → va_P (dC, dI) vwCl (WX cI cJ cII cJJ ad f3_unknowns f3_equations f2_roundSupports f2_stale f7_size f1_size f5_keptSize f5_aheadSize f0_solved f4_blockCount f4_blockLength f4_lastIsFree f4_stale ai al w0 w1 w2 w3) H → va_D A (WX cI cJ cII cJJ ad f3_unknowns f3_equations f2_roundSupports f2_stale f7_size f1_size f5_keptSize f5_aheadSize f0_solved f4_blockCount f4_blockLength f4_lastIsFree f4_stale ai al w0 w1 w2 w3) → va_S A s.heap H locs → lv_has ls 3 [(0, .ref (ad 14)), (1, .ref (ad 6)), (2, .int L2)] → W p l e ({ frames := 5, cells := 0, slots := 0, locals := 260 } : Room) s m args below meth c H locs 0 0 (MQ below (Q_m145_X1_solve dC dI cI cJ cII cJJ ad f3_unknowns f3_equations f2_roundSupports f2_stale f7_size f5_keptSize f5_aheadSize f0_solved f4_blockCount f4_blockLength f4_lastIsFree f4_stale ai al0 A) args s 0 0 A) (F0 m 10 ls []) := by
  obtain ⟨hx, hb, hr, hml, hown, hts, hk, hA, hK, hX⟩ := id C
  intro n
  induction n with
  | zero =>
    intro L2 f1_size al w0 w1 w2 w3 H locs ls h0 h1 h2 h3 h4 h5 h6 h7 h8 h9 h10 h11 h12 h13 hI hG hw_w0 hw_w1 hw_w2 hw_w3 hP hD hS hl
    exact absurd h13 (by omega)
  | succ n ih =>
    intro L2 f1_size al w0 w1 w2 w3 H locs ls h0 h1 h2 h3 h4 h5 h6 h7 h8 h9 h10 h11 h12 h13 hI hG hw_w0 hw_w1 hw_w2 hw_w3 hP hD hS hl
    refine lv_iload_n hx hb dX1_solve_10 rfl (lv_at hl 2 rfl) ?_
    refine lv_iconst (v := 4) hx hb dX1_solve_11 (by decide) ?_
    refine lv_icmp_ge (tgt := 40) hx hb dX1_solve_12 (by decide) (fun c1 => ?_) (fun c1 => ?_)
    · have c1 := j_le (a := 4) (b := L2.toInt) (by decide +kernel) rfl c1
      refine lv_iconst (v := 0) hx hb dX1_solve_40 (by decide) ?_
      refine lv_istore_n (lv' := [(2, .int 0), (0, .ref (ad 14)), (1, .ref (ad 6))]) hx hb dX1_solve_41 rfl hl (by decide) rfl (fun ls_1 hl_1 => ?_)
      exact m145_X1_solve_b42 C  _ 0 f1_size al w0 w1 w2 w3 _ _ _ (by first | omega | decide | (have ka0 := (by decide +kernel : (0 : Int32).toInt = 0); omega)) (by first | omega | decide | (have ka0 := (by decide +kernel : (0 : Int32).toInt = 0); omega)) (by first | omega | decide | (have ka0 := (by decide +kernel : (0 : Int32).toInt = 0); omega)) (by first | omega | decide | (have ka0 := (by decide +kernel : (0 : Int32).toInt = 0); omega)) (by first | omega | decide | (have ka0 := (by decide +kernel : (0 : Int32).toInt = 0); omega)) (by first | omega | decide | (have ka0 := (by decide +kernel : (0 : Int32).toInt = 0); omega)) (by first | omega | decide | (have ka0 := (by decide +kernel : (0 : Int32).toInt = 0); omega)) (by first | omega | decide | (have ka0 := (by decide +kernel : (0 : Int32).toInt = 0); omega)) (by first | omega | decide | (have ka0 := (by decide +kernel : (0 : Int32).toInt = 0); omega)) (by first | omega | decide | (have ka0 := (by decide +kernel : (0 : Int32).toInt = 0); omega)) (by first | omega | decide | (have ka0 := (by decide +kernel : (0 : Int32).toInt = 0); omega)) (by first | omega | decide | (have ka0 := (by decide +kernel : (0 : Int32).toInt = 0); omega)) (j_fuel _) (by omega) hI hG hw_w0 hw_w1 hw_w2 hw_w3 hP hD hS (lv_sub hl_1 [1, 2, 0] rfl)
    · have c1 := j_nle (a := 4) (b := L2.toInt) (by decide +kernel) rfl c1
      refine lv_aload_n hx hb dX1_solve_15 rfl (lv_at hl 0 rfl) ?_
      refine gf (k := 0) hx hb hts inX1 hown hK hP k_116 rfl (by decide) rfl 14 rfl (.ref (ad 15)) rfl dX1_solve_16 ?_
      refine lv_iload_n hx hb dX1_solve_19 rfl (lv_at hl 2 rfl) ?_
      rcases (show L2 = 0 ∨ L2 = 1 ∨ L2 = 2 ∨ L2 = 3 from j_cases4 (a := L2.toInt) rfl (by omega) (by omega)) with rfl | rfl | rfl | rfl
      · have k9 : (0 : Int32).toInt = 0 := by decide +kernel
        refine ld_a hx hb hK hP 15 3 rfl rfl (vin (by decide +kernel)) dX1_solve_20 w0 rfl ?_
        refine lv_lconst (v := 0) hx hb dX1_solve_21 (by decide) ?_
        rcases hw_w0 with rfl | rfl | rfl | rfl
        · skip
          have hM := m138_J7_fill_d0a16 l dC dI cI cJ cII cJJ H.size 0 ad f3_unknowns f3_equations f2_roundSupports f2_stale f7_size f1_size f5_keptSize f5_aheadSize f0_solved f4_blockCount f4_blockLength f4_lastIsFree f4_stale ai al (ad 16) w1 w2 w3 0 (by omega) (by omega) (by omega) (by omega) (by omega) (by omega) (by omega) (by omega) (by omega) (by omega) (by omega) hI (RWX_16 ad) hw_w1 hw_w2 hw_w3
          refine k2S_v ⟨hx, hb, hml, hown, hts⟩ hK hP hD hS hA hX cs_RX1_33 hM ⟨by decide +kernel, by decide +kernel⟩ rfl rfl (Or.inl rfl) (rest := []) rfl hl.1 rfl (Nat.le_of_ble_eq_true rfl) dX1_solve_22 ⟨Nat.le_of_ble_eq_true rfl, Nat.le_of_ble_eq_true rfl⟩ (fun t H1 locs_2 ht hB hS_2 hFc => ?_)
          obtain ⟨al3, hGr_r2, hP_3, -, hD_3⟩ := hB
          have hG_4 := FL_tr hG hGr_r2 (by decide)
          rw [ht] at hP_3
          have hD_5 := hD_3.weaken (B := A) (fun k q _ h9 => hFc q.1 h9)
          clear ht
          generalize H1 = H_6 at hP_3 hS_2 ⊢
          refine lv_aload_n hx hb dX1_solve_25 rfl (lv_at hl 0 rfl) ?_
          refine gf (k := 0) hx hb hts inX1 hown hK hP_3 k_116 rfl (by decide) rfl 14 rfl (.ref (ad 15)) rfl dX1_solve_26 ?_
          refine lv_iload_n hx hb dX1_solve_29 rfl (lv_at hl 2 rfl) ?_
          refine ld_a hx hb hK hP_3 15 3 rfl rfl (vin (by decide +kernel)) dX1_solve_30 (ad 16) rfl ?_
          refine lv_iload_n hx hb dX1_solve_31 rfl (lv_at hl 2 rfl) ?_
          refine lv_lconst (v := 1) hx hb dX1_solve_32 (by decide) ?_
          refine va_last hx hb hK hP_3 hD_5 hS_2 16 1 rfl rfl (vin (by decide +kernel)) dX1_solve_33 (fun H_7 locs_7 hP_7 hD_7 hS_7 => ?_)
          obtain ⟨al4, e_al4⟩ : ∃ q : Nat → Nat → Int64, q = va_up al3 16 (vp_updL (al3 16) (0 : Int32).toNatClampNeg 1) := ⟨_, rfl⟩
          have hG_8 := FL_st hG_4 e_al4 (by decide)
          have hP_9 : va_P (dC, dI) vwCl (WX cI cJ cII cJJ ad f3_unknowns f3_equations f2_roundSupports f2_stale f7_size f1_size f5_keptSize f5_aheadSize f0_solved f4_blockCount f4_blockLength f4_lastIsFree f4_stale ai al4 (ad 16) w1 w2 w3) H_7 := by rw [e_al4]; exact hP_7
          have hD_10 : va_D A (WX cI cJ cII cJJ ad f3_unknowns f3_equations f2_roundSupports f2_stale f7_size f1_size f5_keptSize f5_aheadSize f0_solved f4_blockCount f4_blockLength f4_lastIsFree f4_stale ai al4 (ad 16) w1 w2 w3) := by rw [e_al4]; exact hD_7
          obtain ⟨z5, e_z5⟩ : ∃ q : Int32, q = 0 + Int32.ofInt 1 := ⟨_, rfl⟩
          have g_z5 : z5.toInt = 0 + 1 := by rw [e_z5]; exact n_add (a := 0) (b := 1) (by decide +kernel) (by decide +kernel) (by omega) (by omega)
          refine lv_iinc (v := z5) (lv' := [(2, .int z5), (0, .ref (ad 14)), (1, .ref (ad 6))]) hx hb dX1_solve_34 hl (k := 2) rfl e_z5.symm (by decide) rfl (fun ls_11 hl_11 => ?_)
          refine lv_goto (tgt := 10) hx hb dX1_solve_37 (by decide) ?_
          exact ih z5 f1_size al4 (ad 16) w1 w2 w3 _ _ _ (by omega) (by omega) (by omega) (by omega) (by omega) (by omega) (by omega) (by omega) (by omega) (by omega) (by omega) (by omega) (by omega) (by omega) hI hG_8 (RWX_16 ad) hw_w1 hw_w2 hw_w3 hP_9 hD_10 hS_7 (lv_sub hl_11 [1, 2, 0] rfl)
        · skip
          have hM := m139_J7_fill_d0a16 l dC dI cI cJ cII cJJ H.size 0 ad f3_unknowns f3_equations f2_roundSupports f2_stale f7_size f1_size f5_keptSize f5_aheadSize f0_solved f4_blockCount f4_blockLength f4_lastIsFree f4_stale ai al (ad 17) w1 w2 w3 0 (by omega) (by omega) (by omega) (by omega) (by omega) (by omega) (by omega) (by omega) (by omega) (by omega) (by omega) hI (RWX_17 ad) hw_w1 hw_w2 hw_w3
          refine k2S_v ⟨hx, hb, hml, hown, hts⟩ hK hP hD hS hA hX cs_RX1_33 hM ⟨by decide +kernel, by decide +kernel⟩ rfl rfl (Or.inl rfl) (rest := []) rfl hl.1 rfl (Nat.le_of_ble_eq_true rfl) dX1_solve_22 ⟨Nat.le_of_ble_eq_true rfl, Nat.le_of_ble_eq_true rfl⟩ (fun t H1 locs_12 ht hB hS_12 hFc => ?_)
          obtain ⟨al7, hGr_r6, hP_13, -, hD_13⟩ := hB
          have hG_14 := FL_tr hG hGr_r6 (by decide)
          rw [ht] at hP_13
          have hD_15 := hD_13.weaken (B := A) (fun k q _ h9 => hFc q.1 h9)
          clear ht
          generalize H1 = H_16 at hP_13 hS_12 ⊢
          refine lv_aload_n hx hb dX1_solve_25 rfl (lv_at hl 0 rfl) ?_
          refine gf (k := 0) hx hb hts inX1 hown hK hP_13 k_116 rfl (by decide) rfl 14 rfl (.ref (ad 15)) rfl dX1_solve_26 ?_
          refine lv_iload_n hx hb dX1_solve_29 rfl (lv_at hl 2 rfl) ?_
          refine ld_a hx hb hK hP_13 15 3 rfl rfl (vin (by decide +kernel)) dX1_solve_30 (ad 17) rfl ?_
          refine lv_iload_n hx hb dX1_solve_31 rfl (lv_at hl 2 rfl) ?_
          refine lv_lconst (v := 1) hx hb dX1_solve_32 (by decide) ?_
          refine va_last hx hb hK hP_13 hD_15 hS_12 17 1 rfl rfl (vin (by decide +kernel)) dX1_solve_33 (fun H_17 locs_17 hP_17 hD_17 hS_17 => ?_)
          obtain ⟨al8, e_al8⟩ : ∃ q : Nat → Nat → Int64, q = va_up al7 17 (vp_updL (al7 17) (0 : Int32).toNatClampNeg 1) := ⟨_, rfl⟩
          have hG_18 := FL_st hG_14 e_al8 (by decide)
          have hP_19 : va_P (dC, dI) vwCl (WX cI cJ cII cJJ ad f3_unknowns f3_equations f2_roundSupports f2_stale f7_size f1_size f5_keptSize f5_aheadSize f0_solved f4_blockCount f4_blockLength f4_lastIsFree f4_stale ai al8 (ad 17) w1 w2 w3) H_17 := by rw [e_al8]; exact hP_17
          have hD_20 : va_D A (WX cI cJ cII cJJ ad f3_unknowns f3_equations f2_roundSupports f2_stale f7_size f1_size f5_keptSize f5_aheadSize f0_solved f4_blockCount f4_blockLength f4_lastIsFree f4_stale ai al8 (ad 17) w1 w2 w3) := by rw [e_al8]; exact hD_17
          obtain ⟨z9, e_z9⟩ : ∃ q : Int32, q = 0 + Int32.ofInt 1 := ⟨_, rfl⟩
          have g_z9 : z9.toInt = 0 + 1 := by rw [e_z9]; exact n_add (a := 0) (b := 1) (by decide +kernel) (by decide +kernel) (by omega) (by omega)
          refine lv_iinc (v := z9) (lv' := [(2, .int z9), (0, .ref (ad 14)), (1, .ref (ad 6))]) hx hb dX1_solve_34 hl (k := 2) rfl e_z9.symm (by decide) rfl (fun ls_21 hl_21 => ?_)
          refine lv_goto (tgt := 10) hx hb dX1_solve_37 (by decide) ?_
          exact ih z9 f1_size al8 (ad 17) w1 w2 w3 _ _ _ (by omega) (by omega) (by omega) (by omega) (by omega) (by omega) (by omega) (by omega) (by omega) (by omega) (by omega) (by omega) (by omega) (by omega) hI hG_18 (RWX_17 ad) hw_w1 hw_w2 hw_w3 hP_19 hD_20 hS_17 (lv_sub hl_21 [1, 2, 0] rfl)
        · skip
          have hM := m140_J7_fill_d0a16 l dC dI cI cJ cII cJJ H.size 0 ad f3_unknowns f3_equations f2_roundSupports f2_stale f7_size f1_size f5_keptSize f5_aheadSize f0_solved f4_blockCount f4_blockLength f4_lastIsFree f4_stale ai al (ad 18) w1 w2 w3 0 (by omega) (by omega) (by omega) (by omega) (by omega) (by omega) (by omega) (by omega) (by omega) (by omega) (by omega) hI (RWX_18 ad) hw_w1 hw_w2 hw_w3
          refine k2S_v ⟨hx, hb, hml, hown, hts⟩ hK hP hD hS hA hX cs_RX1_33 hM ⟨by decide +kernel, by decide +kernel⟩ rfl rfl (Or.inl rfl) (rest := []) rfl hl.1 rfl (Nat.le_of_ble_eq_true rfl) dX1_solve_22 ⟨Nat.le_of_ble_eq_true rfl, Nat.le_of_ble_eq_true rfl⟩ (fun t H1 locs_22 ht hB hS_22 hFc => ?_)
          obtain ⟨al11, hGr_r10, hP_23, -, hD_23⟩ := hB
          have hG_24 := FL_tr hG hGr_r10 (by decide)
          rw [ht] at hP_23
          have hD_25 := hD_23.weaken (B := A) (fun k q _ h9 => hFc q.1 h9)
          clear ht
          generalize H1 = H_26 at hP_23 hS_22 ⊢
          refine lv_aload_n hx hb dX1_solve_25 rfl (lv_at hl 0 rfl) ?_
          refine gf (k := 0) hx hb hts inX1 hown hK hP_23 k_116 rfl (by decide) rfl 14 rfl (.ref (ad 15)) rfl dX1_solve_26 ?_
          refine lv_iload_n hx hb dX1_solve_29 rfl (lv_at hl 2 rfl) ?_
          refine ld_a hx hb hK hP_23 15 3 rfl rfl (vin (by decide +kernel)) dX1_solve_30 (ad 18) rfl ?_
          refine lv_iload_n hx hb dX1_solve_31 rfl (lv_at hl 2 rfl) ?_
          refine lv_lconst (v := 1) hx hb dX1_solve_32 (by decide) ?_
          refine va_last hx hb hK hP_23 hD_25 hS_22 18 1 rfl rfl (vin (by decide +kernel)) dX1_solve_33 (fun H_27 locs_27 hP_27 hD_27 hS_27 => ?_)
          obtain ⟨al12, e_al12⟩ : ∃ q : Nat → Nat → Int64, q = va_up al11 18 (vp_updL (al11 18) (0 : Int32).toNatClampNeg 1) := ⟨_, rfl⟩
          have hG_28 := FL_st hG_24 e_al12 (by decide)
          have hP_29 : va_P (dC, dI) vwCl (WX cI cJ cII cJJ ad f3_unknowns f3_equations f2_roundSupports f2_stale f7_size f1_size f5_keptSize f5_aheadSize f0_solved f4_blockCount f4_blockLength f4_lastIsFree f4_stale ai al12 (ad 18) w1 w2 w3) H_27 := by rw [e_al12]; exact hP_27
          have hD_30 : va_D A (WX cI cJ cII cJJ ad f3_unknowns f3_equations f2_roundSupports f2_stale f7_size f1_size f5_keptSize f5_aheadSize f0_solved f4_blockCount f4_blockLength f4_lastIsFree f4_stale ai al12 (ad 18) w1 w2 w3) := by rw [e_al12]; exact hD_27
          obtain ⟨z13, e_z13⟩ : ∃ q : Int32, q = 0 + Int32.ofInt 1 := ⟨_, rfl⟩
          have g_z13 : z13.toInt = 0 + 1 := by rw [e_z13]; exact n_add (a := 0) (b := 1) (by decide +kernel) (by decide +kernel) (by omega) (by omega)
          refine lv_iinc (v := z13) (lv' := [(2, .int z13), (0, .ref (ad 14)), (1, .ref (ad 6))]) hx hb dX1_solve_34 hl (k := 2) rfl e_z13.symm (by decide) rfl (fun ls_31 hl_31 => ?_)
          refine lv_goto (tgt := 10) hx hb dX1_solve_37 (by decide) ?_
          exact ih z13 f1_size al12 (ad 18) w1 w2 w3 _ _ _ (by omega) (by omega) (by omega) (by omega) (by omega) (by omega) (by omega) (by omega) (by omega) (by omega) (by omega) (by omega) (by omega) (by omega) hI hG_28 (RWX_18 ad) hw_w1 hw_w2 hw_w3 hP_29 hD_30 hS_27 (lv_sub hl_31 [1, 2, 0] rfl)
        · skip
          have hM := m141_J7_fill_d0a16 l dC dI cI cJ cII cJJ H.size 0 ad f3_unknowns f3_equations f2_roundSupports f2_stale f7_size f1_size f5_keptSize f5_aheadSize f0_solved f4_blockCount f4_blockLength f4_lastIsFree f4_stale ai al (ad 19) w1 w2 w3 0 (by omega) (by omega) (by omega) (by omega) (by omega) (by omega) (by omega) (by omega) (by omega) (by omega) (by omega) hI (RWX_19 ad) hw_w1 hw_w2 hw_w3
          refine k2S_v ⟨hx, hb, hml, hown, hts⟩ hK hP hD hS hA hX cs_RX1_33 hM ⟨by decide +kernel, by decide +kernel⟩ rfl rfl (Or.inl rfl) (rest := []) rfl hl.1 rfl (Nat.le_of_ble_eq_true rfl) dX1_solve_22 ⟨Nat.le_of_ble_eq_true rfl, Nat.le_of_ble_eq_true rfl⟩ (fun t H1 locs_32 ht hB hS_32 hFc => ?_)
          obtain ⟨al15, hGr_r14, hP_33, -, hD_33⟩ := hB
          have hG_34 := FL_tr hG hGr_r14 (by decide)
          rw [ht] at hP_33
          have hD_35 := hD_33.weaken (B := A) (fun k q _ h9 => hFc q.1 h9)
          clear ht
          generalize H1 = H_36 at hP_33 hS_32 ⊢
          refine lv_aload_n hx hb dX1_solve_25 rfl (lv_at hl 0 rfl) ?_
          refine gf (k := 0) hx hb hts inX1 hown hK hP_33 k_116 rfl (by decide) rfl 14 rfl (.ref (ad 15)) rfl dX1_solve_26 ?_
          refine lv_iload_n hx hb dX1_solve_29 rfl (lv_at hl 2 rfl) ?_
          refine ld_a hx hb hK hP_33 15 3 rfl rfl (vin (by decide +kernel)) dX1_solve_30 (ad 19) rfl ?_
          refine lv_iload_n hx hb dX1_solve_31 rfl (lv_at hl 2 rfl) ?_
          refine lv_lconst (v := 1) hx hb dX1_solve_32 (by decide) ?_
          refine va_last hx hb hK hP_33 hD_35 hS_32 19 1 rfl rfl (vin (by decide +kernel)) dX1_solve_33 (fun H_37 locs_37 hP_37 hD_37 hS_37 => ?_)
          obtain ⟨al16, e_al16⟩ : ∃ q : Nat → Nat → Int64, q = va_up al15 19 (vp_updL (al15 19) (0 : Int32).toNatClampNeg 1) := ⟨_, rfl⟩
          have hG_38 := FL_st hG_34 e_al16 (by decide)
          have hP_39 : va_P (dC, dI) vwCl (WX cI cJ cII cJJ ad f3_unknowns f3_equations f2_roundSupports f2_stale f7_size f1_size f5_keptSize f5_aheadSize f0_solved f4_blockCount f4_blockLength f4_lastIsFree f4_stale ai al16 (ad 19) w1 w2 w3) H_37 := by rw [e_al16]; exact hP_37
          have hD_40 : va_D A (WX cI cJ cII cJJ ad f3_unknowns f3_equations f2_roundSupports f2_stale f7_size f1_size f5_keptSize f5_aheadSize f0_solved f4_blockCount f4_blockLength f4_lastIsFree f4_stale ai al16 (ad 19) w1 w2 w3) := by rw [e_al16]; exact hD_37
          obtain ⟨z17, e_z17⟩ : ∃ q : Int32, q = 0 + Int32.ofInt 1 := ⟨_, rfl⟩
          have g_z17 : z17.toInt = 0 + 1 := by rw [e_z17]; exact n_add (a := 0) (b := 1) (by decide +kernel) (by decide +kernel) (by omega) (by omega)
          refine lv_iinc (v := z17) (lv' := [(2, .int z17), (0, .ref (ad 14)), (1, .ref (ad 6))]) hx hb dX1_solve_34 hl (k := 2) rfl e_z17.symm (by decide) rfl (fun ls_41 hl_41 => ?_)
          refine lv_goto (tgt := 10) hx hb dX1_solve_37 (by decide) ?_
          exact ih z17 f1_size al16 (ad 19) w1 w2 w3 _ _ _ (by omega) (by omega) (by omega) (by omega) (by omega) (by omega) (by omega) (by omega) (by omega) (by omega) (by omega) (by omega) (by omega) (by omega) hI hG_38 (RWX_19 ad) hw_w1 hw_w2 hw_w3 hP_39 hD_40 hS_37 (lv_sub hl_41 [1, 2, 0] rfl)
      · have k9 : (1 : Int32).toInt = 1 := by decide +kernel
        refine ld_a hx hb hK hP 15 3 rfl rfl (vin (by decide +kernel)) dX1_solve_20 w1 rfl ?_
        refine lv_lconst (v := 0) hx hb dX1_solve_21 (by decide) ?_
        rcases hw_w1 with rfl | rfl | rfl | rfl
        · skip
          have hM := m138_J7_fill_d0a16 l dC dI cI cJ cII cJJ H.size 0 ad f3_unknowns f3_equations f2_roundSupports f2_stale f7_size f1_size f5_keptSize f5_aheadSize f0_solved f4_blockCount f4_blockLength f4_lastIsFree f4_stale ai al w0 (ad 16) w2 w3 0 (by omega) (by omega) (by omega) (by omega) (by omega) (by omega) (by omega) (by omega) (by omega) (by omega) (by omega) hI hw_w0 (RWX_16 ad) hw_w2 hw_w3
          refine k2S_v ⟨hx, hb, hml, hown, hts⟩ hK hP hD hS hA hX cs_RX1_33 hM ⟨by decide +kernel, by decide +kernel⟩ rfl rfl (Or.inl rfl) (rest := []) rfl hl.1 rfl (Nat.le_of_ble_eq_true rfl) dX1_solve_22 ⟨Nat.le_of_ble_eq_true rfl, Nat.le_of_ble_eq_true rfl⟩ (fun t H1 locs_42 ht hB hS_42 hFc => ?_)
          obtain ⟨al19, hGr_r18, hP_43, -, hD_43⟩ := hB
          have hG_44 := FL_tr hG hGr_r18 (by decide)
          rw [ht] at hP_43
          have hD_45 := hD_43.weaken (B := A) (fun k q _ h9 => hFc q.1 h9)
          clear ht
          generalize H1 = H_46 at hP_43 hS_42 ⊢
          refine lv_aload_n hx hb dX1_solve_25 rfl (lv_at hl 0 rfl) ?_
          refine gf (k := 0) hx hb hts inX1 hown hK hP_43 k_116 rfl (by decide) rfl 14 rfl (.ref (ad 15)) rfl dX1_solve_26 ?_
          refine lv_iload_n hx hb dX1_solve_29 rfl (lv_at hl 2 rfl) ?_
          refine ld_a hx hb hK hP_43 15 3 rfl rfl (vin (by decide +kernel)) dX1_solve_30 (ad 16) rfl ?_
          refine lv_iload_n hx hb dX1_solve_31 rfl (lv_at hl 2 rfl) ?_
          refine lv_lconst (v := 1) hx hb dX1_solve_32 (by decide) ?_
          refine va_last hx hb hK hP_43 hD_45 hS_42 16 1 rfl rfl (vin (by decide +kernel)) dX1_solve_33 (fun H_47 locs_47 hP_47 hD_47 hS_47 => ?_)
          obtain ⟨al20, e_al20⟩ : ∃ q : Nat → Nat → Int64, q = va_up al19 16 (vp_updL (al19 16) (1 : Int32).toNatClampNeg 1) := ⟨_, rfl⟩
          have hG_48 := FL_st hG_44 e_al20 (by decide)
          have hP_49 : va_P (dC, dI) vwCl (WX cI cJ cII cJJ ad f3_unknowns f3_equations f2_roundSupports f2_stale f7_size f1_size f5_keptSize f5_aheadSize f0_solved f4_blockCount f4_blockLength f4_lastIsFree f4_stale ai al20 w0 (ad 16) w2 w3) H_47 := by rw [e_al20]; exact hP_47
          have hD_50 : va_D A (WX cI cJ cII cJJ ad f3_unknowns f3_equations f2_roundSupports f2_stale f7_size f1_size f5_keptSize f5_aheadSize f0_solved f4_blockCount f4_blockLength f4_lastIsFree f4_stale ai al20 w0 (ad 16) w2 w3) := by rw [e_al20]; exact hD_47
          obtain ⟨z21, e_z21⟩ : ∃ q : Int32, q = 1 + Int32.ofInt 1 := ⟨_, rfl⟩
          have g_z21 : z21.toInt = 1 + 1 := by rw [e_z21]; exact n_add (a := 1) (b := 1) (by decide +kernel) (by decide +kernel) (by omega) (by omega)
          refine lv_iinc (v := z21) (lv' := [(2, .int z21), (0, .ref (ad 14)), (1, .ref (ad 6))]) hx hb dX1_solve_34 hl (k := 2) rfl e_z21.symm (by decide) rfl (fun ls_51 hl_51 => ?_)
          refine lv_goto (tgt := 10) hx hb dX1_solve_37 (by decide) ?_
          exact ih z21 f1_size al20 w0 (ad 16) w2 w3 _ _ _ (by omega) (by omega) (by omega) (by omega) (by omega) (by omega) (by omega) (by omega) (by omega) (by omega) (by omega) (by omega) (by omega) (by omega) hI hG_48 hw_w0 (RWX_16 ad) hw_w2 hw_w3 hP_49 hD_50 hS_47 (lv_sub hl_51 [1, 2, 0] rfl)
        · skip
          have hM := m139_J7_fill_d0a16 l dC dI cI cJ cII cJJ H.size 0 ad f3_unknowns f3_equations f2_roundSupports f2_stale f7_size f1_size f5_keptSize f5_aheadSize f0_solved f4_blockCount f4_blockLength f4_lastIsFree f4_stale ai al w0 (ad 17) w2 w3 0 (by omega) (by omega) (by omega) (by omega) (by omega) (by omega) (by omega) (by omega) (by omega) (by omega) (by omega) hI hw_w0 (RWX_17 ad) hw_w2 hw_w3
          refine k2S_v ⟨hx, hb, hml, hown, hts⟩ hK hP hD hS hA hX cs_RX1_33 hM ⟨by decide +kernel, by decide +kernel⟩ rfl rfl (Or.inl rfl) (rest := []) rfl hl.1 rfl (Nat.le_of_ble_eq_true rfl) dX1_solve_22 ⟨Nat.le_of_ble_eq_true rfl, Nat.le_of_ble_eq_true rfl⟩ (fun t H1 locs_52 ht hB hS_52 hFc => ?_)
          obtain ⟨al23, hGr_r22, hP_53, -, hD_53⟩ := hB
          have hG_54 := FL_tr hG hGr_r22 (by decide)
          rw [ht] at hP_53
          have hD_55 := hD_53.weaken (B := A) (fun k q _ h9 => hFc q.1 h9)
          clear ht
          generalize H1 = H_56 at hP_53 hS_52 ⊢
          refine lv_aload_n hx hb dX1_solve_25 rfl (lv_at hl 0 rfl) ?_
          refine gf (k := 0) hx hb hts inX1 hown hK hP_53 k_116 rfl (by decide) rfl 14 rfl (.ref (ad 15)) rfl dX1_solve_26 ?_
          refine lv_iload_n hx hb dX1_solve_29 rfl (lv_at hl 2 rfl) ?_
          refine ld_a hx hb hK hP_53 15 3 rfl rfl (vin (by decide +kernel)) dX1_solve_30 (ad 17) rfl ?_
          refine lv_iload_n hx hb dX1_solve_31 rfl (lv_at hl 2 rfl) ?_
          refine lv_lconst (v := 1) hx hb dX1_solve_32 (by decide) ?_
          refine va_last hx hb hK hP_53 hD_55 hS_52 17 1 rfl rfl (vin (by decide +kernel)) dX1_solve_33 (fun H_57 locs_57 hP_57 hD_57 hS_57 => ?_)
          obtain ⟨al24, e_al24⟩ : ∃ q : Nat → Nat → Int64, q = va_up al23 17 (vp_updL (al23 17) (1 : Int32).toNatClampNeg 1) := ⟨_, rfl⟩
          have hG_58 := FL_st hG_54 e_al24 (by decide)
          have hP_59 : va_P (dC, dI) vwCl (WX cI cJ cII cJJ ad f3_unknowns f3_equations f2_roundSupports f2_stale f7_size f1_size f5_keptSize f5_aheadSize f0_solved f4_blockCount f4_blockLength f4_lastIsFree f4_stale ai al24 w0 (ad 17) w2 w3) H_57 := by rw [e_al24]; exact hP_57
          have hD_60 : va_D A (WX cI cJ cII cJJ ad f3_unknowns f3_equations f2_roundSupports f2_stale f7_size f1_size f5_keptSize f5_aheadSize f0_solved f4_blockCount f4_blockLength f4_lastIsFree f4_stale ai al24 w0 (ad 17) w2 w3) := by rw [e_al24]; exact hD_57
          obtain ⟨z25, e_z25⟩ : ∃ q : Int32, q = 1 + Int32.ofInt 1 := ⟨_, rfl⟩
          have g_z25 : z25.toInt = 1 + 1 := by rw [e_z25]; exact n_add (a := 1) (b := 1) (by decide +kernel) (by decide +kernel) (by omega) (by omega)
          refine lv_iinc (v := z25) (lv' := [(2, .int z25), (0, .ref (ad 14)), (1, .ref (ad 6))]) hx hb dX1_solve_34 hl (k := 2) rfl e_z25.symm (by decide) rfl (fun ls_61 hl_61 => ?_)
          refine lv_goto (tgt := 10) hx hb dX1_solve_37 (by decide) ?_
          exact ih z25 f1_size al24 w0 (ad 17) w2 w3 _ _ _ (by omega) (by omega) (by omega) (by omega) (by omega) (by omega) (by omega) (by omega) (by omega) (by omega) (by omega) (by omega) (by omega) (by omega) hI hG_58 hw_w0 (RWX_17 ad) hw_w2 hw_w3 hP_59 hD_60 hS_57 (lv_sub hl_61 [1, 2, 0] rfl)
        · skip
          have hM := m140_J7_fill_d0a16 l dC dI cI cJ cII cJJ H.size 0 ad f3_unknowns f3_equations f2_roundSupports f2_stale f7_size f1_size f5_keptSize f5_aheadSize f0_solved f4_blockCount f4_blockLength f4_lastIsFree f4_stale ai al w0 (ad 18) w2 w3 0 (by omega) (by omega) (by omega) (by omega) (by omega) (by omega) (by omega) (by omega) (by omega) (by omega) (by omega) hI hw_w0 (RWX_18 ad) hw_w2 hw_w3
          refine k2S_v ⟨hx, hb, hml, hown, hts⟩ hK hP hD hS hA hX cs_RX1_33 hM ⟨by decide +kernel, by decide +kernel⟩ rfl rfl (Or.inl rfl) (rest := []) rfl hl.1 rfl (Nat.le_of_ble_eq_true rfl) dX1_solve_22 ⟨Nat.le_of_ble_eq_true rfl, Nat.le_of_ble_eq_true rfl⟩ (fun t H1 locs_62 ht hB hS_62 hFc => ?_)
          obtain ⟨al27, hGr_r26, hP_63, -, hD_63⟩ := hB
          have hG_64 := FL_tr hG hGr_r26 (by decide)
          rw [ht] at hP_63
          have hD_65 := hD_63.weaken (B := A) (fun k q _ h9 => hFc q.1 h9)
          clear ht
          generalize H1 = H_66 at hP_63 hS_62 ⊢
          refine lv_aload_n hx hb dX1_solve_25 rfl (lv_at hl 0 rfl) ?_
          refine gf (k := 0) hx hb hts inX1 hown hK hP_63 k_116 rfl (by decide) rfl 14 rfl (.ref (ad 15)) rfl dX1_solve_26 ?_
          refine lv_iload_n hx hb dX1_solve_29 rfl (lv_at hl 2 rfl) ?_
          refine ld_a hx hb hK hP_63 15 3 rfl rfl (vin (by decide +kernel)) dX1_solve_30 (ad 18) rfl ?_
          refine lv_iload_n hx hb dX1_solve_31 rfl (lv_at hl 2 rfl) ?_
          refine lv_lconst (v := 1) hx hb dX1_solve_32 (by decide) ?_
          refine va_last hx hb hK hP_63 hD_65 hS_62 18 1 rfl rfl (vin (by decide +kernel)) dX1_solve_33 (fun H_67 locs_67 hP_67 hD_67 hS_67 => ?_)
          obtain ⟨al28, e_al28⟩ : ∃ q : Nat → Nat → Int64, q = va_up al27 18 (vp_updL (al27 18) (1 : Int32).toNatClampNeg 1) := ⟨_, rfl⟩
          have hG_68 := FL_st hG_64 e_al28 (by decide)
          have hP_69 : va_P (dC, dI) vwCl (WX cI cJ cII cJJ ad f3_unknowns f3_equations f2_roundSupports f2_stale f7_size f1_size f5_keptSize f5_aheadSize f0_solved f4_blockCount f4_blockLength f4_lastIsFree f4_stale ai al28 w0 (ad 18) w2 w3) H_67 := by rw [e_al28]; exact hP_67
          have hD_70 : va_D A (WX cI cJ cII cJJ ad f3_unknowns f3_equations f2_roundSupports f2_stale f7_size f1_size f5_keptSize f5_aheadSize f0_solved f4_blockCount f4_blockLength f4_lastIsFree f4_stale ai al28 w0 (ad 18) w2 w3) := by rw [e_al28]; exact hD_67
          obtain ⟨z29, e_z29⟩ : ∃ q : Int32, q = 1 + Int32.ofInt 1 := ⟨_, rfl⟩
          have g_z29 : z29.toInt = 1 + 1 := by rw [e_z29]; exact n_add (a := 1) (b := 1) (by decide +kernel) (by decide +kernel) (by omega) (by omega)
          refine lv_iinc (v := z29) (lv' := [(2, .int z29), (0, .ref (ad 14)), (1, .ref (ad 6))]) hx hb dX1_solve_34 hl (k := 2) rfl e_z29.symm (by decide) rfl (fun ls_71 hl_71 => ?_)
          refine lv_goto (tgt := 10) hx hb dX1_solve_37 (by decide) ?_
          exact ih z29 f1_size al28 w0 (ad 18) w2 w3 _ _ _ (by omega) (by omega) (by omega) (by omega) (by omega) (by omega) (by omega) (by omega) (by omega) (by omega) (by omega) (by omega) (by omega) (by omega) hI hG_68 hw_w0 (RWX_18 ad) hw_w2 hw_w3 hP_69 hD_70 hS_67 (lv_sub hl_71 [1, 2, 0] rfl)
        · skip
          have hM := m141_J7_fill_d0a16 l dC dI cI cJ cII cJJ H.size 0 ad f3_unknowns f3_equations f2_roundSupports f2_stale f7_size f1_size f5_keptSize f5_aheadSize f0_solved f4_blockCount f4_blockLength f4_lastIsFree f4_stale ai al w0 (ad 19) w2 w3 0 (by omega) (by omega) (by omega) (by omega) (by omega) (by omega) (by omega) (by omega) (by omega) (by omega) (by omega) hI hw_w0 (RWX_19 ad) hw_w2 hw_w3
          refine k2S_v ⟨hx, hb, hml, hown, hts⟩ hK hP hD hS hA hX cs_RX1_33 hM ⟨by decide +kernel, by decide +kernel⟩ rfl rfl (Or.inl rfl) (rest := []) rfl hl.1 rfl (Nat.le_of_ble_eq_true rfl) dX1_solve_22 ⟨Nat.le_of_ble_eq_true rfl, Nat.le_of_ble_eq_true rfl⟩ (fun t H1 locs_72 ht hB hS_72 hFc => ?_)
          obtain ⟨al31, hGr_r30, hP_73, -, hD_73⟩ := hB
          have hG_74 := FL_tr hG hGr_r30 (by decide)
          rw [ht] at hP_73
          have hD_75 := hD_73.weaken (B := A) (fun k q _ h9 => hFc q.1 h9)
          clear ht
          generalize H1 = H_76 at hP_73 hS_72 ⊢
          refine lv_aload_n hx hb dX1_solve_25 rfl (lv_at hl 0 rfl) ?_
          refine gf (k := 0) hx hb hts inX1 hown hK hP_73 k_116 rfl (by decide) rfl 14 rfl (.ref (ad 15)) rfl dX1_solve_26 ?_
          refine lv_iload_n hx hb dX1_solve_29 rfl (lv_at hl 2 rfl) ?_
          refine ld_a hx hb hK hP_73 15 3 rfl rfl (vin (by decide +kernel)) dX1_solve_30 (ad 19) rfl ?_
          refine lv_iload_n hx hb dX1_solve_31 rfl (lv_at hl 2 rfl) ?_
          refine lv_lconst (v := 1) hx hb dX1_solve_32 (by decide) ?_
          refine va_last hx hb hK hP_73 hD_75 hS_72 19 1 rfl rfl (vin (by decide +kernel)) dX1_solve_33 (fun H_77 locs_77 hP_77 hD_77 hS_77 => ?_)
          obtain ⟨al32, e_al32⟩ : ∃ q : Nat → Nat → Int64, q = va_up al31 19 (vp_updL (al31 19) (1 : Int32).toNatClampNeg 1) := ⟨_, rfl⟩
          have hG_78 := FL_st hG_74 e_al32 (by decide)
          have hP_79 : va_P (dC, dI) vwCl (WX cI cJ cII cJJ ad f3_unknowns f3_equations f2_roundSupports f2_stale f7_size f1_size f5_keptSize f5_aheadSize f0_solved f4_blockCount f4_blockLength f4_lastIsFree f4_stale ai al32 w0 (ad 19) w2 w3) H_77 := by rw [e_al32]; exact hP_77
          have hD_80 : va_D A (WX cI cJ cII cJJ ad f3_unknowns f3_equations f2_roundSupports f2_stale f7_size f1_size f5_keptSize f5_aheadSize f0_solved f4_blockCount f4_blockLength f4_lastIsFree f4_stale ai al32 w0 (ad 19) w2 w3) := by rw [e_al32]; exact hD_77
          obtain ⟨z33, e_z33⟩ : ∃ q : Int32, q = 1 + Int32.ofInt 1 := ⟨_, rfl⟩
          have g_z33 : z33.toInt = 1 + 1 := by rw [e_z33]; exact n_add (a := 1) (b := 1) (by decide +kernel) (by decide +kernel) (by omega) (by omega)
          refine lv_iinc (v := z33) (lv' := [(2, .int z33), (0, .ref (ad 14)), (1, .ref (ad 6))]) hx hb dX1_solve_34 hl (k := 2) rfl e_z33.symm (by decide) rfl (fun ls_81 hl_81 => ?_)
          refine lv_goto (tgt := 10) hx hb dX1_solve_37 (by decide) ?_
          exact ih z33 f1_size al32 w0 (ad 19) w2 w3 _ _ _ (by omega) (by omega) (by omega) (by omega) (by omega) (by omega) (by omega) (by omega) (by omega) (by omega) (by omega) (by omega) (by omega) (by omega) hI hG_78 hw_w0 (RWX_19 ad) hw_w2 hw_w3 hP_79 hD_80 hS_77 (lv_sub hl_81 [1, 2, 0] rfl)
      · have k9 : (2 : Int32).toInt = 2 := by decide +kernel
        refine ld_a hx hb hK hP 15 3 rfl rfl (vin (by decide +kernel)) dX1_solve_20 w2 rfl ?_
        refine lv_lconst (v := 0) hx hb dX1_solve_21 (by decide) ?_
        rcases hw_w2 with rfl | rfl | rfl | rfl
        · skip
          have hM := m138_J7_fill_d0a16 l dC dI cI cJ cII cJJ H.size 0 ad f3_unknowns f3_equations f2_roundSupports f2_stale f7_size f1_size f5_keptSize f5_aheadSize f0_solved f4_blockCount f4_blockLength f4_lastIsFree f4_stale ai al w0 w1 (ad 16) w3 0 (by omega) (by omega) (by omega) (by omega) (by omega) (by omega) (by omega) (by omega) (by omega) (by omega) (by omega) hI hw_w0 hw_w1 (RWX_16 ad) hw_w3
          refine k2S_v ⟨hx, hb, hml, hown, hts⟩ hK hP hD hS hA hX cs_RX1_33 hM ⟨by decide +kernel, by decide +kernel⟩ rfl rfl (Or.inl rfl) (rest := []) rfl hl.1 rfl (Nat.le_of_ble_eq_true rfl) dX1_solve_22 ⟨Nat.le_of_ble_eq_true rfl, Nat.le_of_ble_eq_true rfl⟩ (fun t H1 locs_82 ht hB hS_82 hFc => ?_)
          obtain ⟨al35, hGr_r34, hP_83, -, hD_83⟩ := hB
          have hG_84 := FL_tr hG hGr_r34 (by decide)
          rw [ht] at hP_83
          have hD_85 := hD_83.weaken (B := A) (fun k q _ h9 => hFc q.1 h9)
          clear ht
          generalize H1 = H_86 at hP_83 hS_82 ⊢
          refine lv_aload_n hx hb dX1_solve_25 rfl (lv_at hl 0 rfl) ?_
          refine gf (k := 0) hx hb hts inX1 hown hK hP_83 k_116 rfl (by decide) rfl 14 rfl (.ref (ad 15)) rfl dX1_solve_26 ?_
          refine lv_iload_n hx hb dX1_solve_29 rfl (lv_at hl 2 rfl) ?_
          refine ld_a hx hb hK hP_83 15 3 rfl rfl (vin (by decide +kernel)) dX1_solve_30 (ad 16) rfl ?_
          refine lv_iload_n hx hb dX1_solve_31 rfl (lv_at hl 2 rfl) ?_
          refine lv_lconst (v := 1) hx hb dX1_solve_32 (by decide) ?_
          refine va_last hx hb hK hP_83 hD_85 hS_82 16 1 rfl rfl (vin (by decide +kernel)) dX1_solve_33 (fun H_87 locs_87 hP_87 hD_87 hS_87 => ?_)
          obtain ⟨al36, e_al36⟩ : ∃ q : Nat → Nat → Int64, q = va_up al35 16 (vp_updL (al35 16) (2 : Int32).toNatClampNeg 1) := ⟨_, rfl⟩
          have hG_88 := FL_st hG_84 e_al36 (by decide)
          have hP_89 : va_P (dC, dI) vwCl (WX cI cJ cII cJJ ad f3_unknowns f3_equations f2_roundSupports f2_stale f7_size f1_size f5_keptSize f5_aheadSize f0_solved f4_blockCount f4_blockLength f4_lastIsFree f4_stale ai al36 w0 w1 (ad 16) w3) H_87 := by rw [e_al36]; exact hP_87
          have hD_90 : va_D A (WX cI cJ cII cJJ ad f3_unknowns f3_equations f2_roundSupports f2_stale f7_size f1_size f5_keptSize f5_aheadSize f0_solved f4_blockCount f4_blockLength f4_lastIsFree f4_stale ai al36 w0 w1 (ad 16) w3) := by rw [e_al36]; exact hD_87
          obtain ⟨z37, e_z37⟩ : ∃ q : Int32, q = 2 + Int32.ofInt 1 := ⟨_, rfl⟩
          have g_z37 : z37.toInt = 2 + 1 := by rw [e_z37]; exact n_add (a := 2) (b := 1) (by decide +kernel) (by decide +kernel) (by omega) (by omega)
          refine lv_iinc (v := z37) (lv' := [(2, .int z37), (0, .ref (ad 14)), (1, .ref (ad 6))]) hx hb dX1_solve_34 hl (k := 2) rfl e_z37.symm (by decide) rfl (fun ls_91 hl_91 => ?_)
          refine lv_goto (tgt := 10) hx hb dX1_solve_37 (by decide) ?_
          exact ih z37 f1_size al36 w0 w1 (ad 16) w3 _ _ _ (by omega) (by omega) (by omega) (by omega) (by omega) (by omega) (by omega) (by omega) (by omega) (by omega) (by omega) (by omega) (by omega) (by omega) hI hG_88 hw_w0 hw_w1 (RWX_16 ad) hw_w3 hP_89 hD_90 hS_87 (lv_sub hl_91 [1, 2, 0] rfl)
        · skip
          have hM := m139_J7_fill_d0a16 l dC dI cI cJ cII cJJ H.size 0 ad f3_unknowns f3_equations f2_roundSupports f2_stale f7_size f1_size f5_keptSize f5_aheadSize f0_solved f4_blockCount f4_blockLength f4_lastIsFree f4_stale ai al w0 w1 (ad 17) w3 0 (by omega) (by omega) (by omega) (by omega) (by omega) (by omega) (by omega) (by omega) (by omega) (by omega) (by omega) hI hw_w0 hw_w1 (RWX_17 ad) hw_w3
          refine k2S_v ⟨hx, hb, hml, hown, hts⟩ hK hP hD hS hA hX cs_RX1_33 hM ⟨by decide +kernel, by decide +kernel⟩ rfl rfl (Or.inl rfl) (rest := []) rfl hl.1 rfl (Nat.le_of_ble_eq_true rfl) dX1_solve_22 ⟨Nat.le_of_ble_eq_true rfl, Nat.le_of_ble_eq_true rfl⟩ (fun t H1 locs_92 ht hB hS_92 hFc => ?_)
          obtain ⟨al39, hGr_r38, hP_93, -, hD_93⟩ := hB
          have hG_94 := FL_tr hG hGr_r38 (by decide)
          rw [ht] at hP_93
          have hD_95 := hD_93.weaken (B := A) (fun k q _ h9 => hFc q.1 h9)
          clear ht
          generalize H1 = H_96 at hP_93 hS_92 ⊢
          refine lv_aload_n hx hb dX1_solve_25 rfl (lv_at hl 0 rfl) ?_
          refine gf (k := 0) hx hb hts inX1 hown hK hP_93 k_116 rfl (by decide) rfl 14 rfl (.ref (ad 15)) rfl dX1_solve_26 ?_
          refine lv_iload_n hx hb dX1_solve_29 rfl (lv_at hl 2 rfl) ?_
          refine ld_a hx hb hK hP_93 15 3 rfl rfl (vin (by decide +kernel)) dX1_solve_30 (ad 17) rfl ?_
          refine lv_iload_n hx hb dX1_solve_31 rfl (lv_at hl 2 rfl) ?_
          refine lv_lconst (v := 1) hx hb dX1_solve_32 (by decide) ?_
          refine va_last hx hb hK hP_93 hD_95 hS_92 17 1 rfl rfl (vin (by decide +kernel)) dX1_solve_33 (fun H_97 locs_97 hP_97 hD_97 hS_97 => ?_)
          obtain ⟨al40, e_al40⟩ : ∃ q : Nat → Nat → Int64, q = va_up al39 17 (vp_updL (al39 17) (2 : Int32).toNatClampNeg 1) := ⟨_, rfl⟩
          have hG_98 := FL_st hG_94 e_al40 (by decide)
          have hP_99 : va_P (dC, dI) vwCl (WX cI cJ cII cJJ ad f3_unknowns f3_equations f2_roundSupports f2_stale f7_size f1_size f5_keptSize f5_aheadSize f0_solved f4_blockCount f4_blockLength f4_lastIsFree f4_stale ai al40 w0 w1 (ad 17) w3) H_97 := by rw [e_al40]; exact hP_97
          have hD_100 : va_D A (WX cI cJ cII cJJ ad f3_unknowns f3_equations f2_roundSupports f2_stale f7_size f1_size f5_keptSize f5_aheadSize f0_solved f4_blockCount f4_blockLength f4_lastIsFree f4_stale ai al40 w0 w1 (ad 17) w3) := by rw [e_al40]; exact hD_97
          obtain ⟨z41, e_z41⟩ : ∃ q : Int32, q = 2 + Int32.ofInt 1 := ⟨_, rfl⟩
          have g_z41 : z41.toInt = 2 + 1 := by rw [e_z41]; exact n_add (a := 2) (b := 1) (by decide +kernel) (by decide +kernel) (by omega) (by omega)
          refine lv_iinc (v := z41) (lv' := [(2, .int z41), (0, .ref (ad 14)), (1, .ref (ad 6))]) hx hb dX1_solve_34 hl (k := 2) rfl e_z41.symm (by decide) rfl (fun ls_101 hl_101 => ?_)
          refine lv_goto (tgt := 10) hx hb dX1_solve_37 (by decide) ?_
          exact ih z41 f1_size al40 w0 w1 (ad 17) w3 _ _ _ (by omega) (by omega) (by omega) (by omega) (by omega) (by omega) (by omega) (by omega) (by omega) (by omega) (by omega) (by omega) (by omega) (by omega) hI hG_98 hw_w0 hw_w1 (RWX_17 ad) hw_w3 hP_99 hD_100 hS_97 (lv_sub hl_101 [1, 2, 0] rfl)
        · skip
          have hM := m140_J7_fill_d0a16 l dC dI cI cJ cII cJJ H.size 0 ad f3_unknowns f3_equations f2_roundSupports f2_stale f7_size f1_size f5_keptSize f5_aheadSize f0_solved f4_blockCount f4_blockLength f4_lastIsFree f4_stale ai al w0 w1 (ad 18) w3 0 (by omega) (by omega) (by omega) (by omega) (by omega) (by omega) (by omega) (by omega) (by omega) (by omega) (by omega) hI hw_w0 hw_w1 (RWX_18 ad) hw_w3
          refine k2S_v ⟨hx, hb, hml, hown, hts⟩ hK hP hD hS hA hX cs_RX1_33 hM ⟨by decide +kernel, by decide +kernel⟩ rfl rfl (Or.inl rfl) (rest := []) rfl hl.1 rfl (Nat.le_of_ble_eq_true rfl) dX1_solve_22 ⟨Nat.le_of_ble_eq_true rfl, Nat.le_of_ble_eq_true rfl⟩ (fun t H1 locs_102 ht hB hS_102 hFc => ?_)
          obtain ⟨al43, hGr_r42, hP_103, -, hD_103⟩ := hB
          have hG_104 := FL_tr hG hGr_r42 (by decide)
          rw [ht] at hP_103
          have hD_105 := hD_103.weaken (B := A) (fun k q _ h9 => hFc q.1 h9)
          clear ht
          generalize H1 = H_106 at hP_103 hS_102 ⊢
          refine lv_aload_n hx hb dX1_solve_25 rfl (lv_at hl 0 rfl) ?_
          refine gf (k := 0) hx hb hts inX1 hown hK hP_103 k_116 rfl (by decide) rfl 14 rfl (.ref (ad 15)) rfl dX1_solve_26 ?_
          refine lv_iload_n hx hb dX1_solve_29 rfl (lv_at hl 2 rfl) ?_
          refine ld_a hx hb hK hP_103 15 3 rfl rfl (vin (by decide +kernel)) dX1_solve_30 (ad 18) rfl ?_
          refine lv_iload_n hx hb dX1_solve_31 rfl (lv_at hl 2 rfl) ?_
          refine lv_lconst (v := 1) hx hb dX1_solve_32 (by decide) ?_
          refine va_last hx hb hK hP_103 hD_105 hS_102 18 1 rfl rfl (vin (by decide +kernel)) dX1_solve_33 (fun H_107 locs_107 hP_107 hD_107 hS_107 => ?_)
          obtain ⟨al44, e_al44⟩ : ∃ q : Nat → Nat → Int64, q = va_up al43 18 (vp_updL (al43 18) (2 : Int32).toNatClampNeg 1) := ⟨_, rfl⟩
          have hG_108 := FL_st hG_104 e_al44 (by decide)
          have hP_109 : va_P (dC, dI) vwCl (WX cI cJ cII cJJ ad f3_unknowns f3_equations f2_roundSupports f2_stale f7_size f1_size f5_keptSize f5_aheadSize f0_solved f4_blockCount f4_blockLength f4_lastIsFree f4_stale ai al44 w0 w1 (ad 18) w3) H_107 := by rw [e_al44]; exact hP_107
          have hD_110 : va_D A (WX cI cJ cII cJJ ad f3_unknowns f3_equations f2_roundSupports f2_stale f7_size f1_size f5_keptSize f5_aheadSize f0_solved f4_blockCount f4_blockLength f4_lastIsFree f4_stale ai al44 w0 w1 (ad 18) w3) := by rw [e_al44]; exact hD_107
          obtain ⟨z45, e_z45⟩ : ∃ q : Int32, q = 2 + Int32.ofInt 1 := ⟨_, rfl⟩
          have g_z45 : z45.toInt = 2 + 1 := by rw [e_z45]; exact n_add (a := 2) (b := 1) (by decide +kernel) (by decide +kernel) (by omega) (by omega)
          refine lv_iinc (v := z45) (lv' := [(2, .int z45), (0, .ref (ad 14)), (1, .ref (ad 6))]) hx hb dX1_solve_34 hl (k := 2) rfl e_z45.symm (by decide) rfl (fun ls_111 hl_111 => ?_)
          refine lv_goto (tgt := 10) hx hb dX1_solve_37 (by decide) ?_
          exact ih z45 f1_size al44 w0 w1 (ad 18) w3 _ _ _ (by omega) (by omega) (by omega) (by omega) (by omega) (by omega) (by omega) (by omega) (by omega) (by omega) (by omega) (by omega) (by omega) (by omega) hI hG_108 hw_w0 hw_w1 (RWX_18 ad) hw_w3 hP_109 hD_110 hS_107 (lv_sub hl_111 [1, 2, 0] rfl)
        · skip
          have hM := m141_J7_fill_d0a16 l dC dI cI cJ cII cJJ H.size 0 ad f3_unknowns f3_equations f2_roundSupports f2_stale f7_size f1_size f5_keptSize f5_aheadSize f0_solved f4_blockCount f4_blockLength f4_lastIsFree f4_stale ai al w0 w1 (ad 19) w3 0 (by omega) (by omega) (by omega) (by omega) (by omega) (by omega) (by omega) (by omega) (by omega) (by omega) (by omega) hI hw_w0 hw_w1 (RWX_19 ad) hw_w3
          refine k2S_v ⟨hx, hb, hml, hown, hts⟩ hK hP hD hS hA hX cs_RX1_33 hM ⟨by decide +kernel, by decide +kernel⟩ rfl rfl (Or.inl rfl) (rest := []) rfl hl.1 rfl (Nat.le_of_ble_eq_true rfl) dX1_solve_22 ⟨Nat.le_of_ble_eq_true rfl, Nat.le_of_ble_eq_true rfl⟩ (fun t H1 locs_112 ht hB hS_112 hFc => ?_)
          obtain ⟨al47, hGr_r46, hP_113, -, hD_113⟩ := hB
          have hG_114 := FL_tr hG hGr_r46 (by decide)
          rw [ht] at hP_113
          have hD_115 := hD_113.weaken (B := A) (fun k q _ h9 => hFc q.1 h9)
          clear ht
          generalize H1 = H_116 at hP_113 hS_112 ⊢
          refine lv_aload_n hx hb dX1_solve_25 rfl (lv_at hl 0 rfl) ?_
          refine gf (k := 0) hx hb hts inX1 hown hK hP_113 k_116 rfl (by decide) rfl 14 rfl (.ref (ad 15)) rfl dX1_solve_26 ?_
          refine lv_iload_n hx hb dX1_solve_29 rfl (lv_at hl 2 rfl) ?_
          refine ld_a hx hb hK hP_113 15 3 rfl rfl (vin (by decide +kernel)) dX1_solve_30 (ad 19) rfl ?_
          refine lv_iload_n hx hb dX1_solve_31 rfl (lv_at hl 2 rfl) ?_
          refine lv_lconst (v := 1) hx hb dX1_solve_32 (by decide) ?_
          refine va_last hx hb hK hP_113 hD_115 hS_112 19 1 rfl rfl (vin (by decide +kernel)) dX1_solve_33 (fun H_117 locs_117 hP_117 hD_117 hS_117 => ?_)
          obtain ⟨al48, e_al48⟩ : ∃ q : Nat → Nat → Int64, q = va_up al47 19 (vp_updL (al47 19) (2 : Int32).toNatClampNeg 1) := ⟨_, rfl⟩
          have hG_118 := FL_st hG_114 e_al48 (by decide)
          have hP_119 : va_P (dC, dI) vwCl (WX cI cJ cII cJJ ad f3_unknowns f3_equations f2_roundSupports f2_stale f7_size f1_size f5_keptSize f5_aheadSize f0_solved f4_blockCount f4_blockLength f4_lastIsFree f4_stale ai al48 w0 w1 (ad 19) w3) H_117 := by rw [e_al48]; exact hP_117
          have hD_120 : va_D A (WX cI cJ cII cJJ ad f3_unknowns f3_equations f2_roundSupports f2_stale f7_size f1_size f5_keptSize f5_aheadSize f0_solved f4_blockCount f4_blockLength f4_lastIsFree f4_stale ai al48 w0 w1 (ad 19) w3) := by rw [e_al48]; exact hD_117
          obtain ⟨z49, e_z49⟩ : ∃ q : Int32, q = 2 + Int32.ofInt 1 := ⟨_, rfl⟩
          have g_z49 : z49.toInt = 2 + 1 := by rw [e_z49]; exact n_add (a := 2) (b := 1) (by decide +kernel) (by decide +kernel) (by omega) (by omega)
          refine lv_iinc (v := z49) (lv' := [(2, .int z49), (0, .ref (ad 14)), (1, .ref (ad 6))]) hx hb dX1_solve_34 hl (k := 2) rfl e_z49.symm (by decide) rfl (fun ls_121 hl_121 => ?_)
          refine lv_goto (tgt := 10) hx hb dX1_solve_37 (by decide) ?_
          exact ih z49 f1_size al48 w0 w1 (ad 19) w3 _ _ _ (by omega) (by omega) (by omega) (by omega) (by omega) (by omega) (by omega) (by omega) (by omega) (by omega) (by omega) (by omega) (by omega) (by omega) hI hG_118 hw_w0 hw_w1 (RWX_19 ad) hw_w3 hP_119 hD_120 hS_117 (lv_sub hl_121 [1, 2, 0] rfl)
      · have k9 : (3 : Int32).toInt = 3 := by decide +kernel
        refine ld_a hx hb hK hP 15 3 rfl rfl (vin (by decide +kernel)) dX1_solve_20 w3 rfl ?_
        refine lv_lconst (v := 0) hx hb dX1_solve_21 (by decide) ?_
        rcases hw_w3 with rfl | rfl | rfl | rfl
        · skip
          have hM := m138_J7_fill_d0a16 l dC dI cI cJ cII cJJ H.size 0 ad f3_unknowns f3_equations f2_roundSupports f2_stale f7_size f1_size f5_keptSize f5_aheadSize f0_solved f4_blockCount f4_blockLength f4_lastIsFree f4_stale ai al w0 w1 w2 (ad 16) 0 (by omega) (by omega) (by omega) (by omega) (by omega) (by omega) (by omega) (by omega) (by omega) (by omega) (by omega) hI hw_w0 hw_w1 hw_w2 (RWX_16 ad)
          refine k2S_v ⟨hx, hb, hml, hown, hts⟩ hK hP hD hS hA hX cs_RX1_33 hM ⟨by decide +kernel, by decide +kernel⟩ rfl rfl (Or.inl rfl) (rest := []) rfl hl.1 rfl (Nat.le_of_ble_eq_true rfl) dX1_solve_22 ⟨Nat.le_of_ble_eq_true rfl, Nat.le_of_ble_eq_true rfl⟩ (fun t H1 locs_122 ht hB hS_122 hFc => ?_)
          obtain ⟨al51, hGr_r50, hP_123, -, hD_123⟩ := hB
          have hG_124 := FL_tr hG hGr_r50 (by decide)
          rw [ht] at hP_123
          have hD_125 := hD_123.weaken (B := A) (fun k q _ h9 => hFc q.1 h9)
          clear ht
          generalize H1 = H_126 at hP_123 hS_122 ⊢
          refine lv_aload_n hx hb dX1_solve_25 rfl (lv_at hl 0 rfl) ?_
          refine gf (k := 0) hx hb hts inX1 hown hK hP_123 k_116 rfl (by decide) rfl 14 rfl (.ref (ad 15)) rfl dX1_solve_26 ?_
          refine lv_iload_n hx hb dX1_solve_29 rfl (lv_at hl 2 rfl) ?_
          refine ld_a hx hb hK hP_123 15 3 rfl rfl (vin (by decide +kernel)) dX1_solve_30 (ad 16) rfl ?_
          refine lv_iload_n hx hb dX1_solve_31 rfl (lv_at hl 2 rfl) ?_
          refine lv_lconst (v := 1) hx hb dX1_solve_32 (by decide) ?_
          refine va_last hx hb hK hP_123 hD_125 hS_122 16 1 rfl rfl (vin (by decide +kernel)) dX1_solve_33 (fun H_127 locs_127 hP_127 hD_127 hS_127 => ?_)
          obtain ⟨al52, e_al52⟩ : ∃ q : Nat → Nat → Int64, q = va_up al51 16 (vp_updL (al51 16) (3 : Int32).toNatClampNeg 1) := ⟨_, rfl⟩
          have hG_128 := FL_st hG_124 e_al52 (by decide)
          have hP_129 : va_P (dC, dI) vwCl (WX cI cJ cII cJJ ad f3_unknowns f3_equations f2_roundSupports f2_stale f7_size f1_size f5_keptSize f5_aheadSize f0_solved f4_blockCount f4_blockLength f4_lastIsFree f4_stale ai al52 w0 w1 w2 (ad 16)) H_127 := by rw [e_al52]; exact hP_127
          have hD_130 : va_D A (WX cI cJ cII cJJ ad f3_unknowns f3_equations f2_roundSupports f2_stale f7_size f1_size f5_keptSize f5_aheadSize f0_solved f4_blockCount f4_blockLength f4_lastIsFree f4_stale ai al52 w0 w1 w2 (ad 16)) := by rw [e_al52]; exact hD_127
          obtain ⟨z53, e_z53⟩ : ∃ q : Int32, q = 3 + Int32.ofInt 1 := ⟨_, rfl⟩
          have g_z53 : z53.toInt = 3 + 1 := by rw [e_z53]; exact n_add (a := 3) (b := 1) (by decide +kernel) (by decide +kernel) (by omega) (by omega)
          refine lv_iinc (v := z53) (lv' := [(2, .int z53), (0, .ref (ad 14)), (1, .ref (ad 6))]) hx hb dX1_solve_34 hl (k := 2) rfl e_z53.symm (by decide) rfl (fun ls_131 hl_131 => ?_)
          refine lv_goto (tgt := 10) hx hb dX1_solve_37 (by decide) ?_
          exact ih z53 f1_size al52 w0 w1 w2 (ad 16) _ _ _ (by omega) (by omega) (by omega) (by omega) (by omega) (by omega) (by omega) (by omega) (by omega) (by omega) (by omega) (by omega) (by omega) (by omega) hI hG_128 hw_w0 hw_w1 hw_w2 (RWX_16 ad) hP_129 hD_130 hS_127 (lv_sub hl_131 [1, 2, 0] rfl)
        · skip
          have hM := m139_J7_fill_d0a16 l dC dI cI cJ cII cJJ H.size 0 ad f3_unknowns f3_equations f2_roundSupports f2_stale f7_size f1_size f5_keptSize f5_aheadSize f0_solved f4_blockCount f4_blockLength f4_lastIsFree f4_stale ai al w0 w1 w2 (ad 17) 0 (by omega) (by omega) (by omega) (by omega) (by omega) (by omega) (by omega) (by omega) (by omega) (by omega) (by omega) hI hw_w0 hw_w1 hw_w2 (RWX_17 ad)
          refine k2S_v ⟨hx, hb, hml, hown, hts⟩ hK hP hD hS hA hX cs_RX1_33 hM ⟨by decide +kernel, by decide +kernel⟩ rfl rfl (Or.inl rfl) (rest := []) rfl hl.1 rfl (Nat.le_of_ble_eq_true rfl) dX1_solve_22 ⟨Nat.le_of_ble_eq_true rfl, Nat.le_of_ble_eq_true rfl⟩ (fun t H1 locs_132 ht hB hS_132 hFc => ?_)
          obtain ⟨al55, hGr_r54, hP_133, -, hD_133⟩ := hB
          have hG_134 := FL_tr hG hGr_r54 (by decide)
          rw [ht] at hP_133
          have hD_135 := hD_133.weaken (B := A) (fun k q _ h9 => hFc q.1 h9)
          clear ht
          generalize H1 = H_136 at hP_133 hS_132 ⊢
          refine lv_aload_n hx hb dX1_solve_25 rfl (lv_at hl 0 rfl) ?_
          refine gf (k := 0) hx hb hts inX1 hown hK hP_133 k_116 rfl (by decide) rfl 14 rfl (.ref (ad 15)) rfl dX1_solve_26 ?_
          refine lv_iload_n hx hb dX1_solve_29 rfl (lv_at hl 2 rfl) ?_
          refine ld_a hx hb hK hP_133 15 3 rfl rfl (vin (by decide +kernel)) dX1_solve_30 (ad 17) rfl ?_
          refine lv_iload_n hx hb dX1_solve_31 rfl (lv_at hl 2 rfl) ?_
          refine lv_lconst (v := 1) hx hb dX1_solve_32 (by decide) ?_
          refine va_last hx hb hK hP_133 hD_135 hS_132 17 1 rfl rfl (vin (by decide +kernel)) dX1_solve_33 (fun H_137 locs_137 hP_137 hD_137 hS_137 => ?_)
          obtain ⟨al56, e_al56⟩ : ∃ q : Nat → Nat → Int64, q = va_up al55 17 (vp_updL (al55 17) (3 : Int32).toNatClampNeg 1) := ⟨_, rfl⟩
          have hG_138 := FL_st hG_134 e_al56 (by decide)
          have hP_139 : va_P (dC, dI) vwCl (WX cI cJ cII cJJ ad f3_unknowns f3_equations f2_roundSupports f2_stale f7_size f1_size f5_keptSize f5_aheadSize f0_solved f4_blockCount f4_blockLength f4_lastIsFree f4_stale ai al56 w0 w1 w2 (ad 17)) H_137 := by rw [e_al56]; exact hP_137
          have hD_140 : va_D A (WX cI cJ cII cJJ ad f3_unknowns f3_equations f2_roundSupports f2_stale f7_size f1_size f5_keptSize f5_aheadSize f0_solved f4_blockCount f4_blockLength f4_lastIsFree f4_stale ai al56 w0 w1 w2 (ad 17)) := by rw [e_al56]; exact hD_137
          obtain ⟨z57, e_z57⟩ : ∃ q : Int32, q = 3 + Int32.ofInt 1 := ⟨_, rfl⟩
          have g_z57 : z57.toInt = 3 + 1 := by rw [e_z57]; exact n_add (a := 3) (b := 1) (by decide +kernel) (by decide +kernel) (by omega) (by omega)
          refine lv_iinc (v := z57) (lv' := [(2, .int z57), (0, .ref (ad 14)), (1, .ref (ad 6))]) hx hb dX1_solve_34 hl (k := 2) rfl e_z57.symm (by decide) rfl (fun ls_141 hl_141 => ?_)
          refine lv_goto (tgt := 10) hx hb dX1_solve_37 (by decide) ?_
          exact ih z57 f1_size al56 w0 w1 w2 (ad 17) _ _ _ (by omega) (by omega) (by omega) (by omega) (by omega) (by omega) (by omega) (by omega) (by omega) (by omega) (by omega) (by omega) (by omega) (by omega) hI hG_138 hw_w0 hw_w1 hw_w2 (RWX_17 ad) hP_139 hD_140 hS_137 (lv_sub hl_141 [1, 2, 0] rfl)
        · skip
          have hM := m140_J7_fill_d0a16 l dC dI cI cJ cII cJJ H.size 0 ad f3_unknowns f3_equations f2_roundSupports f2_stale f7_size f1_size f5_keptSize f5_aheadSize f0_solved f4_blockCount f4_blockLength f4_lastIsFree f4_stale ai al w0 w1 w2 (ad 18) 0 (by omega) (by omega) (by omega) (by omega) (by omega) (by omega) (by omega) (by omega) (by omega) (by omega) (by omega) hI hw_w0 hw_w1 hw_w2 (RWX_18 ad)
          refine k2S_v ⟨hx, hb, hml, hown, hts⟩ hK hP hD hS hA hX cs_RX1_33 hM ⟨by decide +kernel, by decide +kernel⟩ rfl rfl (Or.inl rfl) (rest := []) rfl hl.1 rfl (Nat.le_of_ble_eq_true rfl) dX1_solve_22 ⟨Nat.le_of_ble_eq_true rfl, Nat.le_of_ble_eq_true rfl⟩ (fun t H1 locs_142 ht hB hS_142 hFc => ?_)
          obtain ⟨al59, hGr_r58, hP_143, -, hD_143⟩ := hB
          have hG_144 := FL_tr hG hGr_r58 (by decide)
          rw [ht] at hP_143
          have hD_145 := hD_143.weaken (B := A) (fun k q _ h9 => hFc q.1 h9)
          clear ht
          generalize H1 = H_146 at hP_143 hS_142 ⊢
          refine lv_aload_n hx hb dX1_solve_25 rfl (lv_at hl 0 rfl) ?_
          refine gf (k := 0) hx hb hts inX1 hown hK hP_143 k_116 rfl (by decide) rfl 14 rfl (.ref (ad 15)) rfl dX1_solve_26 ?_
          refine lv_iload_n hx hb dX1_solve_29 rfl (lv_at hl 2 rfl) ?_
          refine ld_a hx hb hK hP_143 15 3 rfl rfl (vin (by decide +kernel)) dX1_solve_30 (ad 18) rfl ?_
          refine lv_iload_n hx hb dX1_solve_31 rfl (lv_at hl 2 rfl) ?_
          refine lv_lconst (v := 1) hx hb dX1_solve_32 (by decide) ?_
          refine va_last hx hb hK hP_143 hD_145 hS_142 18 1 rfl rfl (vin (by decide +kernel)) dX1_solve_33 (fun H_147 locs_147 hP_147 hD_147 hS_147 => ?_)
          obtain ⟨al60, e_al60⟩ : ∃ q : Nat → Nat → Int64, q = va_up al59 18 (vp_updL (al59 18) (3 : Int32).toNatClampNeg 1) := ⟨_, rfl⟩
          have hG_148 := FL_st hG_144 e_al60 (by decide)
          have hP_149 : va_P (dC, dI) vwCl (WX cI cJ cII cJJ ad f3_unknowns f3_equations f2_roundSupports f2_stale f7_size f1_size f5_keptSize f5_aheadSize f0_solved f4_blockCount f4_blockLength f4_lastIsFree f4_stale ai al60 w0 w1 w2 (ad 18)) H_147 := by rw [e_al60]; exact hP_147
          have hD_150 : va_D A (WX cI cJ cII cJJ ad f3_unknowns f3_equations f2_roundSupports f2_stale f7_size f1_size f5_keptSize f5_aheadSize f0_solved f4_blockCount f4_blockLength f4_lastIsFree f4_stale ai al60 w0 w1 w2 (ad 18)) := by rw [e_al60]; exact hD_147
          obtain ⟨z61, e_z61⟩ : ∃ q : Int32, q = 3 + Int32.ofInt 1 := ⟨_, rfl⟩
          have g_z61 : z61.toInt = 3 + 1 := by rw [e_z61]; exact n_add (a := 3) (b := 1) (by decide +kernel) (by decide +kernel) (by omega) (by omega)
          refine lv_iinc (v := z61) (lv' := [(2, .int z61), (0, .ref (ad 14)), (1, .ref (ad 6))]) hx hb dX1_solve_34 hl (k := 2) rfl e_z61.symm (by decide) rfl (fun ls_151 hl_151 => ?_)
          refine lv_goto (tgt := 10) hx hb dX1_solve_37 (by decide) ?_
          exact ih z61 f1_size al60 w0 w1 w2 (ad 18) _ _ _ (by omega) (by omega) (by omega) (by omega) (by omega) (by omega) (by omega) (by omega) (by omega) (by omega) (by omega) (by omega) (by omega) (by omega) hI hG_148 hw_w0 hw_w1 hw_w2 (RWX_18 ad) hP_149 hD_150 hS_147 (lv_sub hl_151 [1, 2, 0] rfl)
        · skip
          have hM := m141_J7_fill_d0a16 l dC dI cI cJ cII cJJ H.size 0 ad f3_unknowns f3_equations f2_roundSupports f2_stale f7_size f1_size f5_keptSize f5_aheadSize f0_solved f4_blockCount f4_blockLength f4_lastIsFree f4_stale ai al w0 w1 w2 (ad 19) 0 (by omega) (by omega) (by omega) (by omega) (by omega) (by omega) (by omega) (by omega) (by omega) (by omega) (by omega) hI hw_w0 hw_w1 hw_w2 (RWX_19 ad)
          refine k2S_v ⟨hx, hb, hml, hown, hts⟩ hK hP hD hS hA hX cs_RX1_33 hM ⟨by decide +kernel, by decide +kernel⟩ rfl rfl (Or.inl rfl) (rest := []) rfl hl.1 rfl (Nat.le_of_ble_eq_true rfl) dX1_solve_22 ⟨Nat.le_of_ble_eq_true rfl, Nat.le_of_ble_eq_true rfl⟩ (fun t H1 locs_152 ht hB hS_152 hFc => ?_)
          obtain ⟨al63, hGr_r62, hP_153, -, hD_153⟩ := hB
          have hG_154 := FL_tr hG hGr_r62 (by decide)
          rw [ht] at hP_153
          have hD_155 := hD_153.weaken (B := A) (fun k q _ h9 => hFc q.1 h9)
          clear ht
          generalize H1 = H_156 at hP_153 hS_152 ⊢
          refine lv_aload_n hx hb dX1_solve_25 rfl (lv_at hl 0 rfl) ?_
          refine gf (k := 0) hx hb hts inX1 hown hK hP_153 k_116 rfl (by decide) rfl 14 rfl (.ref (ad 15)) rfl dX1_solve_26 ?_
          refine lv_iload_n hx hb dX1_solve_29 rfl (lv_at hl 2 rfl) ?_
          refine ld_a hx hb hK hP_153 15 3 rfl rfl (vin (by decide +kernel)) dX1_solve_30 (ad 19) rfl ?_
          refine lv_iload_n hx hb dX1_solve_31 rfl (lv_at hl 2 rfl) ?_
          refine lv_lconst (v := 1) hx hb dX1_solve_32 (by decide) ?_
          refine va_last hx hb hK hP_153 hD_155 hS_152 19 1 rfl rfl (vin (by decide +kernel)) dX1_solve_33 (fun H_157 locs_157 hP_157 hD_157 hS_157 => ?_)
          obtain ⟨al64, e_al64⟩ : ∃ q : Nat → Nat → Int64, q = va_up al63 19 (vp_updL (al63 19) (3 : Int32).toNatClampNeg 1) := ⟨_, rfl⟩
          have hG_158 := FL_st hG_154 e_al64 (by decide)
          have hP_159 : va_P (dC, dI) vwCl (WX cI cJ cII cJJ ad f3_unknowns f3_equations f2_roundSupports f2_stale f7_size f1_size f5_keptSize f5_aheadSize f0_solved f4_blockCount f4_blockLength f4_lastIsFree f4_stale ai al64 w0 w1 w2 (ad 19)) H_157 := by rw [e_al64]; exact hP_157
          have hD_160 : va_D A (WX cI cJ cII cJJ ad f3_unknowns f3_equations f2_roundSupports f2_stale f7_size f1_size f5_keptSize f5_aheadSize f0_solved f4_blockCount f4_blockLength f4_lastIsFree f4_stale ai al64 w0 w1 w2 (ad 19)) := by rw [e_al64]; exact hD_157
          obtain ⟨z65, e_z65⟩ : ∃ q : Int32, q = 3 + Int32.ofInt 1 := ⟨_, rfl⟩
          have g_z65 : z65.toInt = 3 + 1 := by rw [e_z65]; exact n_add (a := 3) (b := 1) (by decide +kernel) (by decide +kernel) (by omega) (by omega)
          refine lv_iinc (v := z65) (lv' := [(2, .int z65), (0, .ref (ad 14)), (1, .ref (ad 6))]) hx hb dX1_solve_34 hl (k := 2) rfl e_z65.symm (by decide) rfl (fun ls_161 hl_161 => ?_)
          refine lv_goto (tgt := 10) hx hb dX1_solve_37 (by decide) ?_
          exact ih z65 f1_size al64 w0 w1 w2 (ad 19) _ _ _ (by omega) (by omega) (by omega) (by omega) (by omega) (by omega) (by omega) (by omega) (by omega) (by omega) (by omega) (by omega) (by omega) (by omega) hI hG_158 hw_w0 hw_w1 hw_w2 (RWX_19 ad) hP_159 hD_160 hS_157 (lv_sub hl_161 [1, 2, 0] rfl)
set_option maxRecDepth 100000 in
set_option maxHeartbeats 4000000 in
theorem m145_X1_solve (l : Launch) (dC : Nat → ClassId) (dI : Nat → Nat → Nat) (cI cJ cII cJJ : ClassId) (sz g : Nat) (ad : Nat → Nat) (f3_unknowns f3_equations f2_roundSupports f2_stale f7_size f1_size f5_keptSize f5_aheadSize f0_solved f4_blockCount f4_blockLength f4_lastIsFree f4_stale : Int32) (ai : Nat → Nat → Int32) (al : Nat → Nat → Int64) (w0 w1 w2 w3 : Nat) (h_f3_unknowns : (1 ≤ f3_unknowns.toInt ∧ f3_unknowns.toInt ≤ 4)) (h_f3_equations : (0 ≤ f3_equations.toInt ∧ f3_equations.toInt ≤ 3)) (h_f2_stale : (0 ≤ f2_stale.toInt ∧ f2_stale.toInt ≤ 1)) (h_f7_size : (0 ≤ f7_size.toInt ∧ f7_size.toInt ≤ 256)) (h_f1_size : (0 ≤ f1_size.toInt ∧ f1_size.toInt ≤ 4)) (h_f5_keptSize : (0 ≤ f5_keptSize.toInt ∧ f5_keptSize.toInt ≤ 128)) (h_f5_aheadSize : (0 ≤ f5_aheadSize.toInt ∧ f5_aheadSize.toInt ≤ 128)) (h_f4_blockCount : (0 ≤ f4_blockCount.toInt ∧ f4_blockCount.toInt ≤ 9261)) (h_f4_blockLength : (0 ≤ f4_blockLength.toInt ∧ f4_blockLength.toInt ≤ 21)) (h_f4_lastIsFree : (0 ≤ f4_lastIsFree.toInt ∧ f4_lastIsFree.toInt ≤ 1)) (h_f4_stale : (0 ≤ f4_stale.toInt ∧ f4_stale.toInt ≤ 1)) (hI : IAX ai) (hw_w0 : RWX ad w0) (hw_w1 : RWX ad w1) (hw_w2 : RWX ad w2) (hw_w3 : RWX ad w3) : Met l yX1_solve (.code yX1_solve cX1_solve 3 none :: TT) ({ frames := 5, cells := 0, slots := 0, locals := 260 } : Room) (PcS dC dI (TY cI cJ cII cJJ) [.ref (ad 14), .ref (ad 6)] (WX cI cJ cII cJJ ad f3_unknowns f3_equations f2_roundSupports f2_stale f7_size f1_size f5_keptSize f5_aheadSize f0_solved f4_blockCount f4_blockLength f4_lastIsFree f4_stale ai al w0 w1 w2 w3) sz 1 g) (Q_m145_X1_solve dC dI cI cJ cII cJJ ad f3_unknowns f3_equations f2_roundSupports f2_stale f7_size f5_keptSize f5_aheadSize f0_solved f4_blockCount f4_blockLength f4_lastIsFree f4_stale ai al (va_A (WX cI cJ cII cJJ ad f3_unknowns f3_equations f2_roundSupports f2_stale f7_size f1_size f5_keptSize f5_aheadSize f0_solved f4_blockCount f4_blockLength f4_lastIsFree f4_stale ai al w0 w1 w2 w3) sz)) 0 0 (va_A (WX cI cJ cII cJJ ad f3_unknowns f3_equations f2_roundSupports f2_stale f7_size f1_size f5_keptSize f5_aheadSize f0_solved f4_blockCount f4_blockLength f4_lastIsFree f4_stale ai al w0 w1 w2 w3) sz) := by
  refine SM.of (y := yX1_solve) (maxL := 3) (av := [.ref (ad 14), .ref (ad 6)]) (Q_m145_X1_solve dC dI cI cJ cII cJJ ad f3_unknowns f3_equations f2_roundSupports f2_stale f7_size f5_keptSize f5_aheadSize f0_solved f4_blockCount f4_blockLength f4_lastIsFree f4_stale ai al) (by decide +kernel) (Nat.le_of_ble_eq_true rfl) (fun p e s m below meth c A ls hx hb hr hml hown hts hk hnm hA hK hP hD hS hX hl => ?_)
  have C : Cx p c s m meth (([.ref (ad 14), .ref (ad 6)] : List Value).toArray) A dC dI (TY cI cJ cII cJJ) cX1_solve none 3 RX1 1 g := ⟨hx, hb, hr, hml, hown, hts, hk, hA, hK, hX⟩
  have hown : s.vm.findClass RX1 = some m.cls := hown
  have hl : lv_has ls 3 [(0, .ref (ad 14)), (1, .ref (ad 6))] := hl
  obtain ⟨H, hH⟩ : ∃ q, q = s.heap := ⟨_, rfl⟩
  rw [← hH] at hP
  have hS : va_S A s.heap H [] := by rw [hH]; exact hS
  rw [← hH]
  have hG := FL_refl [16, 17, 18, 19, 20] al
  refine lv_aload_n hx hb dX1_solve_0 rfl (lv_at hl 0 rfl) ?_
  refine lv_aload_n hx hb dX1_solve_1 rfl (lv_at hl 1 rfl) ?_
  refine gf (k := 0) hx hb hts inX3 hown hK hP k_38 rfl (by decide) rfl 6 rfl (.int f3_unknowns) rfl dX1_solve_2 ?_
  refine pf (k := 3) hx hb hts inX1 tyX1_ok nmX1 hown hK hP hD hS k_120 rfl (by decide) rfl rfl 14 rfl rfl rfl (Nat.le_of_ble_eq_true rfl) dX1_solve_5 (W' := (WX cI cJ cII cJJ ad f3_unknowns f3_equations f2_roundSupports f2_stale f7_size f3_unknowns f5_keptSize f5_aheadSize f0_solved f4_blockCount f4_blockLength f4_lastIsFree f4_stale ai al w0 w1 w2 w3)) rfl (fun H_1 locs_1 hP_1 hD_1 hS_1 => ?_)
  refine lv_iconst (v := 0) hx hb dX1_solve_8 (by decide) ?_
  refine lv_istore_n (lv' := [(2, .int 0), (0, .ref (ad 14)), (1, .ref (ad 6))]) hx hb dX1_solve_9 rfl hl (by decide) rfl (fun ls_2 hl_2 => ?_)
  exact m145_X1_solve_b10 C  _ 0 f3_unknowns al w0 w1 w2 w3 _ _ _ (by first | omega | decide | (have ka0 := (by decide +kernel : (0 : Int32).toInt = 0); omega)) (by first | omega | decide | (have ka0 := (by decide +kernel : (0 : Int32).toInt = 0); omega)) (by first | omega | decide | (have ka0 := (by decide +kernel : (0 : Int32).toInt = 0); omega)) (by first | omega | decide | (have ka0 := (by decide +kernel : (0 : Int32).toInt = 0); omega)) (by first | omega | decide | (have ka0 := (by decide +kernel : (0 : Int32).toInt = 0); omega)) (by first | omega | decide | (have ka0 := (by decide +kernel : (0 : Int32).toInt = 0); omega)) (by first | omega | decide | (have ka0 := (by decide +kernel : (0 : Int32).toInt = 0); omega)) (by first | omega | decide | (have ka0 := (by decide +kernel : (0 : Int32).toInt = 0); omega)) (by first | omega | decide | (have ka0 := (by decide +kernel : (0 : Int32).toInt = 0); omega)) (by first | omega | decide | (have ka0 := (by decide +kernel : (0 : Int32).toInt = 0); omega)) (by first | omega | decide | (have ka0 := (by decide +kernel : (0 : Int32).toInt = 0); omega)) (by first | omega | decide | (have ka0 := (by decide +kernel : (0 : Int32).toInt = 0); omega)) (j_fuel _) (by omega) hI hG hw_w0 hw_w1 hw_w2 hw_w3 hP_1 hD_1 hS_1 (lv_sub hl_2 [1, 2, 0] rfl)
def Q_m146_X5_walk (dC : Nat → ClassId) (dI : Nat → Nat → Nat) (cI cJ cII cJJ : ClassId) (ad : Nat → Nat) (f3_unknowns f3_equations f2_roundSupports f2_stale f7_size f1_size f0_solved f4_blockCount f4_blockLength f4_lastIsFree f4_stale : Int32) (ai0 : Nat → Nat → Int32) (al : Nat → Nat → Int64) (w0 w1 w2 w3 : Nat) : (Nat → Prop) → Array Value → State → Outcome → State → Prop := fun A => QV (fun t => ∃ (n_f5_keptSize n_f5_aheadSize : Int32), ∃ (n_ai : Nat → Nat → Int32), ((0 ≤ n_f5_keptSize.toInt ∧ n_f5_keptSize.toInt ≤ 127) ∧ (0 ≤ n_f5_aheadSize.toInt ∧ n_f5_aheadSize.toInt ≤ 128) ∧ IAX n_ai ∧ FR [23, 24] ai0 n_ai) ∧ WO dC dI (TY cI cJ cII cJJ) (WX cI cJ cII cJJ ad f3_unknowns f3_equations f2_roundSupports f2_stale f7_size f1_size n_f5_keptSize n_f5_aheadSize f0_solved f4_blockCount f4_blockLength f4_lastIsFree f4_stale n_ai al w0 w1 w2 w3) A t) A
set_option maxRecDepth 100000 in
set_option maxHeartbeats 4000000 in
theorem m146_X5_walk_b107 {p : Program} {l : Launch} {e : Env} {s : State} {m : MethodId} {args : Array Value} {below : List Frame} {meth : Method} {c : Code} {A : Nat → Prop} {dC : Nat → ClassId} {dI : Nat → Nat → Nat} {cI cJ cII cJJ : ClassId} {ad : Nat → Nat} {g : Nat} {f3_unknowns f3_equations f2_roundSupports f2_stale f7_size f1_size f0_solved f4_blockCount f4_blockLength f4_lastIsFree f4_stale : Int32} {ai0 : Nat → Nat → Int32} {al : Nat → Nat → Int64} {w0 w1 w2 w3 : Nat} (C : Cx p c s m meth args A dC dI (TY cI cJ cII cJJ) cX5_walk none 7 RX5 0 g) : ∀ (L3 L4 f5_keptSize f5_aheadSize : Int32) (ai : Nat → Nat → Int32) (H : Heap) (locs : List Loc) (ls : Array Slot), (1 ≤ L3.toInt ∧ L3.toInt ≤ 1) → (0 ≤ L4.toInt ∧ L4.toInt ≤ 100000) → (1 ≤ f3_unknowns.toInt ∧ f3_unknowns.toInt ≤ 4) → (0 ≤ f3_equations.toInt ∧ f3_equations.toInt ≤ 3) → (0 ≤ f2_stale.toInt ∧ f2_stale.toInt ≤ 1) → (0 ≤ f7_size.toInt ∧ f7_size.toInt ≤ 256) → (0 ≤ f1_size.toInt ∧ f1_size.toInt ≤ 4) → (1 ≤ f5_keptSize.toInt ∧ f5_keptSize.toInt ≤ 128) → (0 ≤ f5_aheadSize.toInt ∧ f5_aheadSize.toInt ≤ 128) → (0 ≤ f4_blockCount.toInt ∧ f4_blockCount.toInt ≤ 9261) → (0 ≤ f4_blockLength.toInt ∧ f4_blockLength.toInt ≤ 21) → (0 ≤ f4_lastIsFree.toInt ∧ f4_lastIsFree.toInt ≤ 1) → (0 ≤ f4_stale.toInt ∧ f4_stale.toInt ≤ 1) → IAX ai → FR [23, 24] ai0 ai → RWX ad w0 → RWX ad w1 → RWX ad w2 → RWX ad w3 → va_P (dC, dI) vwCl (WX cI cJ cII cJJ ad f3_unknowns f3_equations f2_roundSupports f2_stale f7_size f1_size f5_keptSize f5_aheadSize f0_solved f4_blockCount f4_blockLength f4_lastIsFree f4_stale ai al w0 w1 w2 w3) H → va_D A (WX cI cJ cII cJJ ad f3_unknowns f3_equations f2_roundSupports f2_stale f7_size f1_size f5_keptSize f5_aheadSize f0_solved f4_blockCount f4_blockLength f4_lastIsFree f4_stale ai al w0 w1 w2 w3) → va_S A s.heap H locs → lv_has ls 7 [(0, .ref (ad 22)), (1, .ref (ad 16)), (2, .ref (ad 16)), (3, .int L3), (4, .int L4)] → W p l e ({ frames := 3, cells := 0, slots := 0, locals := 140 } : Room) s m args below meth c H locs 0 0 (MQ below (Q_m146_X5_walk dC dI cI cJ cII cJJ ad f3_unknowns f3_equations f2_roundSupports f2_stale f7_size f1_size f0_solved f4_blockCount f4_blockLength f4_lastIsFree f4_stale ai0 al w0 w1 w2 w3 A) args s 0 0 A) (F0 m 107 ls []) := by
  obtain ⟨hx, hb, hr, hml, hown, hts, hk, hA, hK, hX⟩ := id C
  intro L3 L4 f5_keptSize f5_aheadSize ai H locs ls h0 h1 h2 h3 h4 h5 h6 h7 h8 h9 h10 h11 h12 hI hF hw_w0 hw_w1 hw_w2 hw_w3 hP hD hS hl
  refine lv_aload_n hx hb dX5_walk_107 rfl (lv_at hl 0 rfl) ?_
  refine lv_dup hx hb dX5_walk_108 rfl ?_
  refine gf (k := 2) hx hb hts inX5 hown hK hP k_139 rfl (by decide) rfl 22 rfl (.int f5_keptSize) rfl dX5_walk_109 ?_
  refine lv_iconst (v := 1) hx hb dX5_walk_112 (by decide) ?_
  refine v_isub hx hb dX5_walk_113 _ rfl ?_
  refine lv_topi (fun z1 e_z1 => ?_)
  have g_z1 : z1.toInt = f5_keptSize.toInt - 1 := by rw [e_z1]; exact n_sub (a := f5_keptSize.toInt) (b := 1) rfl (by decide +kernel) (by omega) (by omega)
  refine pf (k := 2) hx hb hts inX5 tyX5_ok nmX5 hown hK hP hD hS k_139 rfl (by decide) rfl rfl 22 rfl rfl rfl (Nat.le_of_ble_eq_true rfl) dX5_walk_114 (W' := (WX cI cJ cII cJJ ad f3_unknowns f3_equations f2_roundSupports f2_stale f7_size f1_size z1 f5_aheadSize f0_solved f4_blockCount f4_blockLength f4_lastIsFree f4_stale ai al w0 w1 w2 w3)) rfl (fun H_1 locs_1 hP_1 hD_1 hS_1 => ?_)
  exact r2_v hx hb hr hk hS_1 dX5_walk_117 (fun t ht hW => ⟨z1, f5_aheadSize, ai, ⟨(by first | omega | decide | exact Or.inl (by decide) | exact Or.inr (by decide) | exact Or.inr (by omega)), (by first | omega | decide | exact Or.inl (by decide) | exact Or.inr (by decide) | exact Or.inr (by omega)), hI, hF⟩, by rw [ht]; exact hP_1, va_K.moved hW.alike hK, hD_1⟩)
set_option maxRecDepth 100000 in
set_option maxHeartbeats 4000000 in
theorem m146_X5_walk_b101 {p : Program} {l : Launch} {e : Env} {s : State} {m : MethodId} {args : Array Value} {below : List Frame} {meth : Method} {c : Code} {A : Nat → Prop} {dC : Nat → ClassId} {dI : Nat → Nat → Nat} {cI cJ cII cJJ : ClassId} {ad : Nat → Nat} {g : Nat} {f3_unknowns f3_equations f2_roundSupports f2_stale f7_size f1_size f0_solved f4_blockCount f4_blockLength f4_lastIsFree f4_stale : Int32} {ai0 : Nat → Nat → Int32} {al : Nat → Nat → Int64} {w0 w1 w2 w3 : Nat} (C : Cx p c s m meth args A dC dI (TY cI cJ cII cJJ) cX5_walk none 7 RX5 0 g) (n40 : Nat) (K40 : ∀ (L3 L4 f5_keptSize f5_aheadSize : Int32) (ai : Nat → Nat → Int32) (H : Heap) (locs : List Loc) (ls : Array Slot), (1 ≤ L3.toInt ∧ L3.toInt ≤ 1) → (0 ≤ L4.toInt ∧ L4.toInt ≤ 100000) → (1 ≤ f3_unknowns.toInt ∧ f3_unknowns.toInt ≤ 4) → (0 ≤ f3_equations.toInt ∧ f3_equations.toInt ≤ 3) → (0 ≤ f2_stale.toInt ∧ f2_stale.toInt ≤ 1) → (0 ≤ f7_size.toInt ∧ f7_size.toInt ≤ 256) → (0 ≤ f1_size.toInt ∧ f1_size.toInt ≤ 4) → (1 ≤ f5_keptSize.toInt ∧ f5_keptSize.toInt ≤ 128) → (0 ≤ f5_aheadSize.toInt ∧ f5_aheadSize.toInt ≤ 128) → (0 ≤ f4_blockCount.toInt ∧ f4_blockCount.toInt ≤ 9261) → (0 ≤ f4_blockLength.toInt ∧ f4_blockLength.toInt ≤ 21) → (0 ≤ f4_lastIsFree.toInt ∧ f4_lastIsFree.toInt ≤ 1) → (0 ≤ f4_stale.toInt ∧ f4_stale.toInt ≤ 1) → 10000 - L4.toInt < (n40 : Int) → (0 : Int) < (n40 : Int) → IAX ai → FR [23, 24] ai0 ai → RWX ad w0 → RWX ad w1 → RWX ad w2 → RWX ad w3 → va_P (dC, dI) vwCl (WX cI cJ cII cJJ ad f3_unknowns f3_equations f2_roundSupports f2_stale f7_size f1_size f5_keptSize f5_aheadSize f0_solved f4_blockCount f4_blockLength f4_lastIsFree f4_stale ai al w0 w1 w2 w3) H → va_D A (WX cI cJ cII cJJ ad f3_unknowns f3_equations f2_roundSupports f2_stale f7_size f1_size f5_keptSize f5_aheadSize f0_solved f4_blockCount f4_blockLength f4_lastIsFree f4_stale ai al w0 w1 w2 w3) → va_S A s.heap H locs → lv_has ls 7 [(0, .ref (ad 22)), (1, .ref (ad 16)), (2, .ref (ad 16)), (3, .int L3), (4, .int L4)] → W p l e ({ frames := 3, cells := 0, slots := 0, locals := 140 } : Room) s m args below meth c H locs 0 0 (MQ below (Q_m146_X5_walk dC dI cI cJ cII cJJ ad f3_unknowns f3_equations f2_roundSupports f2_stale f7_size f1_size f0_solved f4_blockCount f4_blockLength f4_lastIsFree f4_stale ai0 al w0 w1 w2 w3 A) args s 0 0 A) (F0 m 40 ls [])) : ∀ (L3 L4 L5 L6 f5_keptSize f5_aheadSize : Int32) (ai : Nat → Nat → Int32) (H : Heap) (locs : List Loc) (ls : Array Slot), (1 ≤ L3.toInt ∧ L3.toInt ≤ 1) → (0 ≤ L4.toInt ∧ L4.toInt ≤ 99999) → (0 ≤ L5.toInt ∧ L5.toInt ≤ 5999) → (0 ≤ L6.toInt ∧ L6.toInt ≤ 5999) → (1 ≤ f3_unknowns.toInt ∧ f3_unknowns.toInt ≤ 4) → (0 ≤ f3_equations.toInt ∧ f3_equations.toInt ≤ 3) → (0 ≤ f2_stale.toInt ∧ f2_stale.toInt ≤ 1) → (0 ≤ f7_size.toInt ∧ f7_size.toInt ≤ 256) → (0 ≤ f1_size.toInt ∧ f1_size.toInt ≤ 4) → (1 ≤ f5_keptSize.toInt ∧ f5_keptSize.toInt ≤ 128) → (0 ≤ f5_aheadSize.toInt ∧ f5_aheadSize.toInt ≤ 128) → (0 ≤ f4_blockCount.toInt ∧ f4_blockCount.toInt ≤ 9261) → (0 ≤ f4_blockLength.toInt ∧ f4_blockLength.toInt ≤ 21) → (0 ≤ f4_lastIsFree.toInt ∧ f4_lastIsFree.toInt ≤ 1) → (0 ≤ f4_stale.toInt ∧ f4_stale.toInt ≤ 1) → L4.toInt < 10000 → 10000 - L4.toInt ≤ (n40 : Int) → IAX ai → FR [23, 24] ai0 ai → RWX ad w0 → RWX ad w1 → RWX ad w2 → RWX ad w3 → va_P (dC, dI) vwCl (WX cI cJ cII cJJ ad f3_unknowns f3_equations f2_roundSupports f2_stale f7_size f1_size f5_keptSize f5_aheadSize f0_solved f4_blockCount f4_blockLength f4_lastIsFree f4_stale ai al w0 w1 w2 w3) H → va_D A (WX cI cJ cII cJJ ad f3_unknowns f3_equations f2_roundSupports f2_stale f7_size f1_size f5_keptSize f5_aheadSize f0_solved f4_blockCount f4_blockLength f4_lastIsFree f4_stale ai al w0 w1 w2 w3) → va_S A s.heap H locs → lv_has ls 7 [(0, .ref (ad 22)), (1, .ref (ad 16)), (2, .ref (ad 16)), (3, .int L3), (4, .int L4), (5, .int L5), (6, .int L6)] → W p l e ({ frames := 3, cells := 0, slots := 0, locals := 140 } : Room) s m args below meth c H locs 0 0 (MQ below (Q_m146_X5_walk dC dI cI cJ cII cJJ ad f3_unknowns f3_equations f2_roundSupports f2_stale f7_size f1_size f0_solved f4_blockCount f4_blockLength f4_lastIsFree f4_stale ai0 al w0 w1 w2 w3 A) args s 0 0 A) (F0 m 101 ls []) := by
  obtain ⟨hx, hb, hr, hml, hown, hts, hk, hA, hK, hX⟩ := id C
  intro L3 L4 L5 L6 f5_keptSize f5_aheadSize ai H locs ls h0 h1 h2 h3 h4 h5 h6 h7 h8 h9 h10 h11 h12 h13 h14 h15 h16 hI hF hw_w0 hw_w1 hw_w2 hw_w3 hP hD hS hl
  obtain ⟨z1, e_z1⟩ : ∃ q : Int32, q = L4 + Int32.ofInt 1 := ⟨_, rfl⟩
  have g_z1 : z1.toInt = L4.toInt + 1 := by rw [e_z1]; exact n_add (a := L4.toInt) (b := 1) rfl (by decide +kernel) (by omega) (by omega)
  refine lv_iinc (v := z1) (lv' := [(4, .int z1), (0, .ref (ad 22)), (1, .ref (ad 16)), (2, .ref (ad 16)), (3, .int L3), (5, .int L5), (6, .int L6)]) hx hb dX5_walk_101 hl (k := 4) rfl e_z1.symm (by decide) rfl (fun ls_1 hl_1 => ?_)
  refine lv_goto (tgt := 40) hx hb dX5_walk_104 (by decide) ?_
  exact K40 L3 z1 f5_keptSize f5_aheadSize ai _ _ _ (by omega) (by omega) (by omega) (by omega) (by omega) (by omega) (by omega) (by omega) (by omega) (by omega) (by omega) (by omega) (by omega) (by omega) (by omega) hI hF hw_w0 hw_w1 hw_w2 hw_w3 hP hD hS (lv_sub hl_1 [1, 2, 3, 4, 0] rfl)
set_option maxRecDepth 100000 in
set_option maxHeartbeats 4000000 in
theorem m146_X5_walk_b40 {p : Program} {l : Launch} {e : Env} {s : State} {m : MethodId} {args : Array Value} {below : List Frame} {meth : Method} {c : Code} {A : Nat → Prop} {dC : Nat → ClassId} {dI : Nat → Nat → Nat} {cI cJ cII cJJ : ClassId} {ad : Nat → Nat} {g : Nat} {f3_unknowns f3_equations f2_roundSupports f2_stale f7_size f1_size f0_solved f4_blockCount f4_blockLength f4_lastIsFree f4_stale : Int32} {ai0 : Nat → Nat → Int32} {al : Nat → Nat → Int64} {w0 w1 w2 w3 : Nat} (C : Cx p c s m meth args A dC dI (TY cI cJ cII cJJ) cX5_walk none 7 RX5 0 g) : ∀ (n : Nat), ∀ (L3 L4 f5_keptSize f5_aheadSize : Int32) (ai : Nat → Nat → Int32) (H : Heap) (locs : List Loc) (ls : Array Slot), (1 ≤ L3.toInt ∧ L3.toInt ≤ 1) → (0 ≤ L4.toInt ∧ L4.toInt ≤ 100000) → (1 ≤ f3_unknowns.toInt ∧ f3_unknowns.toInt ≤ 4) → (0 ≤ f3_equations.toInt ∧ f3_equations.toInt ≤ 3) → (0 ≤ f2_stale.toInt ∧ f2_stale.toInt ≤ 1) → (0 ≤ f7_size.toInt ∧ f7_size.toInt ≤ 256) → (0 ≤ f1_size.toInt ∧ f1_size.toInt ≤ 4) → (1 ≤ f5_keptSize.toInt ∧ f5_keptSize.toInt ≤ 128) → (0 ≤ f5_aheadSize.toInt ∧ f5_aheadSize.toInt ≤ 128) → (0 ≤ f4_blockCount.toInt ∧ f4_blockCount.toInt ≤ 9261) → (0 ≤ f4_blockLength.toInt ∧ f4_blockLength.toInt ≤ 21) → (0 ≤ f4_lastIsFree.toInt ∧ f4_lastIsFree.toInt ≤ 1) → (0 ≤ f4_stale.toInt ∧ f4_stale.toInt ≤ 1) → 10000 - L4.toInt < (n : Int) → (0 : Int) < (n : Int) → IAX ai → FR [23, 24] ai0 ai → RWX ad w0 → RWX ad w1 → RWX ad w2 → RWX ad w3 → va_P (dC, dI) vwCl (WX cI cJ cII cJJ ad f3_unknowns f3_equations f2_roundSupports f2_stale f7_size f1_size f5_keptSize f5_aheadSize f0_solved f4_blockCount f4_blockLength f4_lastIsFree f4_stale ai al w0 w1 w2 w3) H → va_D A (WX cI cJ cII cJJ ad f3_unknowns f3_equations f2_roundSupports f2_stale f7_size f1_size f5_keptSize f5_aheadSize f0_solved f4_blockCount f4_blockLength f4_lastIsFree f4_stale ai al w0 w1 w2 w3) → va_S A s.heap H locs → lv_has ls 7 [(0, .ref (ad 22)), (1, .ref (ad 16)), (2, .ref (ad 16)), (3, .int L3), (4, .int L4)] → W p l e ({ frames := 3, cells := 0, slots := 0, locals := 140 } : Room) s m args below meth c H locs 0 0 (MQ below (Q_m146_X5_walk dC dI cI cJ cII cJJ ad f3_unknowns f3_equations f2_roundSupports f2_stale f7_size f1_size f0_solved f4_blockCount f4_blockLength f4_lastIsFree f4_stale ai0 al w0 w1 w2 w3 A) args s 0 0 A) (F0 m 40 ls []) := by
  obtain ⟨hx, hb, hr, hml, hown, hts, hk, hA, hK, hX⟩ := id C
  intro n
  induction n with
  | zero =>
    intro L3 L4 f5_keptSize f5_aheadSize ai H locs ls h0 h1 h2 h3 h4 h5 h6 h7 h8 h9 h10 h11 h12 h13 h14 hI hF hw_w0 hw_w1 hw_w2 hw_w3 hP hD hS hl
    exact absurd h14 (by omega)
  | succ n ih =>
    intro L3 L4 f5_keptSize f5_aheadSize ai H locs ls h0 h1 h2 h3 h4 h5 h6 h7 h8 h9 h10 h11 h12 h13 h14 hI hF hw_w0 hw_w1 hw_w2 hw_w3 hP hD hS hl
    refine lv_iload hx hb dX5_walk_40 (lv_at hl 4 rfl) ?_
    refine lv_sipush (v := 10000) hx hb dX5_walk_42 (by decide) ?_
    refine lv_icmp_ge (tgt := 107) hx hb dX5_walk_45 (by decide) (fun c1 => ?_) (fun c1 => ?_)
    · have c1 := j_le (a := 10000) (b := L4.toInt) (by decide +kernel) rfl c1
      exact m146_X5_walk_b107 C  L3 L4 f5_keptSize f5_aheadSize ai _ _ _ (by omega) (by omega) (by omega) (by omega) (by omega) (by omega) (by omega) (by omega) (by omega) (by omega) (by omega) (by omega) (by omega) hI hF hw_w0 hw_w1 hw_w2 hw_w3 hP hD hS (lv_sub hl [0, 1, 2, 3, 4] rfl)
    · have c1 := j_nle (a := 10000) (b := L4.toInt) (by decide +kernel) rfl c1
      refine lv_aload_n hx hb dX5_walk_48 rfl (lv_at hl 0 rfl) ?_
      refine gf (k := 3) hx hb hts inX5 hown hK hP k_140 rfl (by decide) rfl 22 rfl (.int f5_aheadSize) rfl dX5_walk_49 ?_
      refine lv_if_le (tgt := 107) hx hb dX5_walk_52 (by decide) (fun c2 => ?_) (fun c2 => ?_)
      · have c2 := j_le (a := f5_aheadSize.toInt) (b := 0) rfl (by decide +kernel) c2
        exact m146_X5_walk_b107 C  L3 L4 f5_keptSize f5_aheadSize ai _ _ _ (by omega) (by omega) (by omega) (by omega) (by omega) (by omega) (by omega) (by omega) (by omega) (by omega) (by omega) (by omega) (by omega) hI hF hw_w0 hw_w1 hw_w2 hw_w3 hP hD hS (lv_sub hl [0, 1, 2, 3, 4] rfl)
      · have c2 := j_nle (a := f5_aheadSize.toInt) (b := 0) rfl (by decide +kernel) c2
        refine lv_aload_n hx hb dX5_walk_55 rfl (lv_at hl 0 rfl) ?_
        refine gf (k := 2) hx hb hts inX5 hown hK hP k_139 rfl (by decide) rfl 22 rfl (.int f5_keptSize) rfl dX5_walk_56 ?_
        refine lv_iconst (v := 1) hx hb dX5_walk_59 (by decide) ?_
        refine v_isub hx hb dX5_walk_60 _ rfl ?_
        refine lv_topi (fun z3 e_z3 => ?_)
        have g_z3 : z3.toInt = f5_keptSize.toInt - 1 := by rw [e_z3]; exact n_sub (a := f5_keptSize.toInt) (b := 1) rfl (by decide +kernel) (by omega) (by omega)
        refine lv_iconst (v := 4) hx hb dX5_walk_61 (by decide) ?_
        refine v_imul hx hb dX5_walk_62 _ rfl ?_
        refine lv_topi (fun z4 e_z4 => ?_)
        have g_z4 : z4.toInt = z3.toInt * 4 := by rw [e_z4]; exact n_mul (a := z3.toInt) (b := 4) rfl (by decide +kernel) (by omega) (by omega)
        refine lv_istore (lv' := [(5, .int z4), (0, .ref (ad 22)), (1, .ref (ad 16)), (2, .ref (ad 16)), (3, .int L3), (4, .int L4)]) hx hb dX5_walk_63 hl (by decide) rfl (fun ls_1 hl_1 => ?_)
        refine lv_aload_n hx hb dX5_walk_65 rfl (lv_at hl_1 1 rfl) ?_
        refine gf (k := 3) hx hb hts inX5 hown hK hP k_140 rfl (by decide) rfl 22 rfl (.int f5_aheadSize) rfl dX5_walk_66 ?_
        refine lv_iconst (v := 1) hx hb dX5_walk_69 (by decide) ?_
        refine v_isub hx hb dX5_walk_70 _ rfl ?_
        refine lv_topi (fun z5 e_z5 => ?_)
        have g_z5 : z5.toInt = f5_aheadSize.toInt - 1 := by rw [e_z5]; exact n_sub (a := f5_aheadSize.toInt) (b := 1) rfl (by decide +kernel) (by omega) (by omega)
        refine lv_iconst (v := 4) hx hb dX5_walk_71 (by decide) ?_
        refine v_imul hx hb dX5_walk_72 _ rfl ?_
        refine lv_topi (fun z6 e_z6 => ?_)
        have g_z6 : z6.toInt = z5.toInt * 4 := by rw [e_z6]; exact n_mul (a := z5.toInt) (b := 4) rfl (by decide +kernel) (by omega) (by omega)
        refine lv_istore (lv' := [(6, .int z6), (5, .int z4), (0, .ref (ad 22)), (1, .ref (ad 16)), (2, .ref (ad 16)), (3, .int L3), (4, .int L4)]) hx hb dX5_walk_73 hl_1 (by decide) rfl (fun ls_2 hl_2 => ?_)
        refine lv_aload_n hx hb dX5_walk_75 rfl (lv_at hl_2 2 rfl) ?_
        refine lv_iload hx hb dX5_walk_76 (lv_at hl_2 1 rfl) ?_
        refine lv_iload hx hb dX5_walk_78 (lv_at hl_2 0 rfl) ?_
        have hM := m068_X5_haveOppositeSigns l dC dI cI cJ cII cJJ H.size 0 ad f3_unknowns f3_equations f2_roundSupports f2_stale f7_size f1_size f5_keptSize f5_aheadSize f0_solved f4_blockCount f4_blockLength f4_lastIsFree f4_stale ai al w0 w1 w2 w3 z4 z6 (by omega) (by omega) (by omega) (by omega) (by omega) (by omega) (by omega) (by omega) (by omega) (by omega) (by omega) (by omega) (by omega) hI hw_w0 hw_w1 hw_w2 hw_w3
        refine k2V_i (q0 := 22) ⟨hx, hb, hml, hown, hts⟩ hK hP hD hS hA hX cv_RX5_32 hM ⟨by decide +kernel, by decide +kernel⟩ rfl rfl (Or.inl rfl) (rest := []) rfl rfl rfl hl_2.1 rfl (Nat.le_of_ble_eq_true rfl) dX5_walk_80 ⟨Nat.le_of_ble_eq_true rfl, Nat.le_of_ble_eq_true rfl⟩ (fun r7 t H1 locs_3 ht hB hS_3 hFc => ?_)
        obtain ⟨gpr7_0, hP_4, -, hD_4⟩ := hB
        rw [ht] at hP_4
        have hD_5 := hD_4.weaken (B := A) (fun k q _ h9 => hFc q.1 h9)
        clear ht
        generalize H1 = H_6 at hP_4 hS_3 ⊢
        refine lv_if_eq (tgt := 97) hx hb dX5_walk_83 (by decide) (fun c8 => ?_) (fun c8 => ?_)
        · have c8 := j_eq (a := r7.toInt) (b := 0) rfl (by decide +kernel) c8
          refine lv_aload_n hx hb dX5_walk_97 rfl (lv_at hl_2 2 rfl) ?_
          have hM := m067_X5_keepNext l dC dI cI cJ cII cJJ H_6.size 0 ad f3_unknowns f3_equations f2_roundSupports f2_stale f7_size f1_size f5_keptSize f5_aheadSize f0_solved f4_blockCount f4_blockLength f4_lastIsFree f4_stale ai al w0 w1 w2 w3 (by omega) (by omega) (by omega) (by omega) (by omega) (by omega) (by omega) (by omega) (by omega) (by omega) (by omega) hI hw_w0 hw_w1 hw_w2 hw_w3
          refine k2V_v (q0 := 22) ⟨hx, hb, hml, hown, hts⟩ hK hP_4 hD_5 hS_3 hA hX cv_RX5_29 hM ⟨by decide +kernel, by decide +kernel⟩ rfl rfl (Or.inl rfl) (rest := []) rfl rfl rfl hl_2.1 rfl (Nat.le_of_ble_eq_true rfl) dX5_walk_98 ⟨Nat.le_of_ble_eq_true rfl, Nat.le_of_ble_eq_true rfl⟩ (fun t H1 locs_7 ht hB hS_7 hFc => ?_)
          obtain ⟨v10, v11, ai12, ⟨gpr9_0, gpr9_1, gpr9_2, hI_8, hFr_r9⟩, hP_8, -, hD_8⟩ := hB
          have hF_9 := FR_tr hF hFr_r9 (by decide)
          rw [ht] at hP_8
          have hD_10 := hD_8.weaken (B := A) (fun k q _ h9 => hFc q.1 h9)
          clear ht
          generalize H1 = H_11 at hP_8 hS_7 ⊢
          exact m146_X5_walk_b101 C n ih L3 L4 z4 z6 v10 v11 ai12 _ _ _ (by omega) (by omega) (by omega) (by omega) (by omega) (by omega) (by omega) (by omega) (by omega) (by omega) (by omega) (by omega) (by omega) (by omega) (by omega) (by omega) (by omega) hI_8 hF_9 hw_w0 hw_w1 hw_w2 hw_w3 hP_8 hD_10 hS_7 (lv_sub hl_2 [2, 3, 4, 5, 6, 1, 0] rfl)
        · have c8 := j_ne (a := r7.toInt) (b := 0) rfl (by decide +kernel) c8
          refine lv_aload_n hx hb dX5_walk_86 rfl (lv_at hl_2 2 rfl) ?_
          refine lv_iload hx hb dX5_walk_87 (lv_at hl_2 1 rfl) ?_
          refine lv_iload hx hb dX5_walk_89 (lv_at hl_2 0 rfl) ?_
          have hM := m066_X5_pushSum l dC dI cI cJ cII cJJ H_6.size 0 ad f3_unknowns f3_equations f2_roundSupports f2_stale f7_size f1_size f5_keptSize f5_aheadSize f0_solved f4_blockCount f4_blockLength f4_lastIsFree f4_stale ai al w0 w1 w2 w3 z4 z6 (by omega) (by omega) (by omega) (by omega) (by omega) (by omega) (by omega) (by omega) (by omega) (by omega) (by omega) (by omega) (by omega) hI hw_w0 hw_w1 hw_w2 hw_w3
          refine k2V_v (q0 := 22) ⟨hx, hb, hml, hown, hts⟩ hK hP_4 hD_5 hS_3 hA hX cv_RX5_36 hM ⟨by decide +kernel, by decide +kernel⟩ rfl rfl (Or.inl rfl) (rest := []) rfl rfl rfl hl_2.1 rfl (Nat.le_of_ble_eq_true rfl) dX5_walk_91 ⟨Nat.le_of_ble_eq_true rfl, Nat.le_of_ble_eq_true rfl⟩ (fun t H1 locs_12 ht hB hS_12 hFc => ?_)
          obtain ⟨v14, ai15, ⟨gpr13_0, gpr13_1, hI_13, hFr_r13⟩, hP_13, -, hD_13⟩ := hB
          have hF_14 := FR_tr hF hFr_r13 (by decide)
          rw [ht] at hP_13
          have hD_15 := hD_13.weaken (B := A) (fun k q _ h9 => hFc q.1 h9)
          clear ht
          generalize H1 = H_16 at hP_13 hS_12 ⊢
          refine lv_goto (tgt := 101) hx hb dX5_walk_94 (by decide) ?_
          exact m146_X5_walk_b101 C n ih L3 L4 z4 z6 f5_keptSize v14 ai15 _ _ _ (by omega) (by omega) (by omega) (by omega) (by omega) (by omega) (by omega) (by omega) (by omega) (by omega) (by omega) (by omega) (by omega) (by omega) (by omega) (by omega) (by omega) hI_13 hF_14 hw_w0 hw_w1 hw_w2 hw_w3 hP_13 hD_15 hS_12 (lv_sub hl_2 [2, 3, 4, 5, 6, 1, 0] rfl)
set_option maxRecDepth 100000 in
set_option maxHeartbeats 4000000 in
theorem m146_X5_walk (l : Launch) (dC : Nat → ClassId) (dI : Nat → Nat → Nat) (cI cJ cII cJJ : ClassId) (sz g : Nat) (ad : Nat → Nat) (f3_unknowns f3_equations f2_roundSupports f2_stale f7_size f1_size f5_keptSize f5_aheadSize f0_solved f4_blockCount f4_blockLength f4_lastIsFree f4_stale : Int32) (ai : Nat → Nat → Int32) (al : Nat → Nat → Int64) (w0 w1 w2 w3 : Nat) (x3 : Int32) (h_x3 : (0 ≤ x3.toInt ∧ x3.toInt ≤ 1)) (h_f3_unknowns : (1 ≤ f3_unknowns.toInt ∧ f3_unknowns.toInt ≤ 4)) (h_f3_equations : (0 ≤ f3_equations.toInt ∧ f3_equations.toInt ≤ 3)) (h_f2_stale : (0 ≤ f2_stale.toInt ∧ f2_stale.toInt ≤ 1)) (h_f7_size : (0 ≤ f7_size.toInt ∧ f7_size.toInt ≤ 256)) (h_f1_size : (0 ≤ f1_size.toInt ∧ f1_size.toInt ≤ 4)) (h_f5_keptSize : (0 ≤ f5_keptSize.toInt ∧ f5_keptSize.toInt ≤ 128)) (h_f5_aheadSize : (0 ≤ f5_aheadSize.toInt ∧ f5_aheadSize.toInt ≤ 128)) (h_f4_blockCount : (0 ≤ f4_blockCount.toInt ∧ f4_blockCount.toInt ≤ 9261)) (h_f4_blockLength : (0 ≤ f4_blockLength.toInt ∧ f4_blockLength.toInt ≤ 21)) (h_f4_lastIsFree : (0 ≤ f4_lastIsFree.toInt ∧ f4_lastIsFree.toInt ≤ 1)) (h_f4_stale : (0 ≤ f4_stale.toInt ∧ f4_stale.toInt ≤ 1)) (hI : IAX ai) (hw_w0 : RWX ad w0) (hw_w1 : RWX ad w1) (hw_w2 : RWX ad w2) (hw_w3 : RWX ad w3) : Met l yX5_walk (.code yX5_walk cX5_walk 7 none :: TT) ({ frames := 3, cells := 0, slots := 0, locals := 140 } : Room) (PcS dC dI (TY cI cJ cII cJJ) [.ref (ad 22), .ref (ad 16), .ref (ad 16), .int x3] (WX cI cJ cII cJJ ad f3_unknowns f3_equations f2_roundSupports f2_stale f7_size f1_size f5_keptSize f5_aheadSize f0_solved f4_blockCount f4_blockLength f4_lastIsFree f4_stale ai al w0 w1 w2 w3) sz 0 g) (Q_m146_X5_walk dC dI cI cJ cII cJJ ad f3_unknowns f3_equations f2_roundSupports f2_stale f7_size f1_size f0_solved f4_blockCount f4_blockLength f4_lastIsFree f4_stale ai al w0 w1 w2 w3 (va_A (WX cI cJ cII cJJ ad f3_unknowns f3_equations f2_roundSupports f2_stale f7_size f1_size f5_keptSize f5_aheadSize f0_solved f4_blockCount f4_blockLength f4_lastIsFree f4_stale ai al w0 w1 w2 w3) sz)) 0 0 (va_A (WX cI cJ cII cJJ ad f3_unknowns f3_equations f2_roundSupports f2_stale f7_size f1_size f5_keptSize f5_aheadSize f0_solved f4_blockCount f4_blockLength f4_lastIsFree f4_stale ai al w0 w1 w2 w3) sz) := by
  refine SM.of (y := yX5_walk) (maxL := 7) (av := [.ref (ad 22), .ref (ad 16), .ref (ad 16), .int x3]) (Q_m146_X5_walk dC dI cI cJ cII cJJ ad f3_unknowns f3_equations f2_roundSupports f2_stale f7_size f1_size f0_solved f4_blockCount f4_blockLength f4_lastIsFree f4_stale ai al w0 w1 w2 w3) (by decide +kernel) (Nat.le_of_ble_eq_true rfl) (fun p e s m below meth c A ls hx hb hr hml hown hts hk hnm hA hK hP hD hS hX hl => ?_)
  have C : Cx p c s m meth (([.ref (ad 22), .ref (ad 16), .ref (ad 16), .int x3] : List Value).toArray) A dC dI (TY cI cJ cII cJJ) cX5_walk none 7 RX5 0 g := ⟨hx, hb, hr, hml, hown, hts, hk, hA, hK, hX⟩
  have hown : s.vm.findClass RX5 = some m.cls := hown
  have hl : lv_has ls 7 [(0, .ref (ad 22)), (1, .ref (ad 16)), (2, .ref (ad 16)), (3, .int x3)] := hl
  obtain ⟨H, hH⟩ : ∃ q, q = s.heap := ⟨_, rfl⟩
  rw [← hH] at hP
  have hS : va_S A s.heap H [] := by rw [hH]; exact hS
  rw [← hH]
  have hF := FR_refl [23, 24] ai
  refine lv_aload_n hx hb dX5_walk_0 rfl (lv_at hl 0 rfl) ?_
  refine lv_iconst (v := 0) hx hb dX5_walk_1 (by decide) ?_
  refine pf (k := 2) hx hb hts inX5 tyX5_ok nmX5 hown hK hP hD hS k_139 rfl (by decide) rfl rfl 22 rfl rfl rfl (Nat.le_of_ble_eq_true rfl) dX5_walk_2 (W' := (WX cI cJ cII cJJ ad f3_unknowns f3_equations f2_roundSupports f2_stale f7_size f1_size 0 f5_aheadSize f0_solved f4_blockCount f4_blockLength f4_lastIsFree f4_stale ai al w0 w1 w2 w3)) rfl (fun H_1 locs_1 hP_1 hD_1 hS_1 => ?_)
  refine lv_aload_n hx hb dX5_walk_5 rfl (lv_at hl 0 rfl) ?_
  refine lv_iconst (v := 0) hx hb dX5_walk_6 (by decide) ?_
  refine pf (k := 3) hx hb hts inX5 tyX5_ok nmX5 hown hK hP_1 hD_1 hS_1 k_140 rfl (by decide) rfl rfl 22 rfl rfl rfl (Nat.le_of_ble_eq_true rfl) dX5_walk_7 (W' := (WX cI cJ cII cJJ ad f3_unknowns f3_equations f2_roundSupports f2_stale f7_size f1_size 0 0 f0_solved f4_blockCount f4_blockLength f4_lastIsFree f4_stale ai al w0 w1 w2 w3)) rfl (fun H_2 locs_2 hP_2 hD_2 hS_2 => ?_)
  refine lv_aload_n hx hb dX5_walk_10 rfl (lv_at hl 0 rfl) ?_
  refine lv_aload_n hx hb dX5_walk_11 rfl (lv_at hl 1 rfl) ?_
  refine lv_iconst (v := 1) hx hb dX5_walk_12 (by decide) ?_
  have kc0 : (0 : Int32).toInt = 0 := by decide +kernel
  have kc1 : (1 : Int32).toInt = 1 := by decide +kernel
  have hM := m065_X5_pushAhead l dC dI cI cJ cII cJJ H_2.size 0 ad f3_unknowns f3_equations f2_roundSupports f2_stale f7_size f1_size 0 0 f0_solved f4_blockCount f4_blockLength f4_lastIsFree f4_stale ai al w0 w1 w2 w3 1 (by omega) (by omega) (by omega) (by omega) (by omega) (by decide +kernel) (by decide +kernel) (by omega) (by omega) (by omega) (by omega) hI hw_w0 hw_w1 hw_w2 hw_w3
  refine k2V_v (q0 := 22) ⟨hx, hb, hml, hown, hts⟩ hK hP_2 hD_2 hS_2 hA hX cv_RX5_25 hM ⟨by decide +kernel, by decide +kernel⟩ rfl rfl (Or.inl rfl) (rest := []) rfl rfl rfl hl.1 rfl (Nat.le_of_ble_eq_true rfl) dX5_walk_13 ⟨Nat.le_of_ble_eq_true rfl, Nat.le_of_ble_eq_true rfl⟩ (fun t H1 locs_3 ht hB hS_3 hFc => ?_)
  obtain ⟨v2, ai3, ⟨gpr1_0, gpr1_1, hI_4, hFr_r1⟩, hP_4, -, hD_4⟩ := hB
  have hF_5 := FR_tr hF hFr_r1 (by decide)
  rw [ht] at hP_4
  have hD_6 := hD_4.weaken (B := A) (fun k q _ h9 => hFc q.1 h9)
  clear ht
  generalize H1 = H_7 at hP_4 hS_3 ⊢
  refine lv_aload_n hx hb dX5_walk_16 rfl (lv_at hl 0 rfl) ?_
  have kc0 : (0 : Int32).toInt = 0 := by decide +kernel
  have hM := m067_X5_keepNext l dC dI cI cJ cII cJJ H_7.size 0 ad f3_unknowns f3_equations f2_roundSupports f2_stale f7_size f1_size 0 v2 f0_solved f4_blockCount f4_blockLength f4_lastIsFree f4_stale ai3 al w0 w1 w2 w3 (by omega) (by omega) (by omega) (by omega) (by omega) (by decide +kernel) (by omega) (by omega) (by omega) (by omega) (by omega) hI_4 hw_w0 hw_w1 hw_w2 hw_w3
  refine k2V_v (q0 := 22) ⟨hx, hb, hml, hown, hts⟩ hK hP_4 hD_6 hS_3 hA hX cv_RX5_29 hM ⟨by decide +kernel, by decide +kernel⟩ rfl rfl (Or.inl rfl) (rest := []) rfl rfl rfl hl.1 rfl (Nat.le_of_ble_eq_true rfl) dX5_walk_17 ⟨Nat.le_of_ble_eq_true rfl, Nat.le_of_ble_eq_true rfl⟩ (fun t H1 locs_8 ht hB hS_8 hFc => ?_)
  obtain ⟨v5, v6, ai7, ⟨gpr4_0, gpr4_1, gpr4_2, hI_9, hFr_r4⟩, hP_9, -, hD_9⟩ := hB
  have hF_10 := FR_tr hF_5 hFr_r4 (by decide)
  rw [ht] at hP_9
  have hD_11 := hD_9.weaken (B := A) (fun k q _ h9 => hFc q.1 h9)
  clear ht
  generalize H1 = H_12 at hP_9 hS_8 ⊢
  refine lv_iload_n hx hb dX5_walk_20 rfl (lv_at hl 3 rfl) ?_
  refine lv_if_ne (tgt := 25) hx hb dX5_walk_21 (by decide) (fun c8 => ?_) (fun c8 => ?_)
  · have c8 := j_ne (a := x3.toInt) (b := 0) rfl (by decide +kernel) c8
    refine lv_aload_n hx hb dX5_walk_25 rfl (lv_at hl 0 rfl) ?_
    refine lv_aload_n hx hb dX5_walk_26 rfl (lv_at hl 1 rfl) ?_
    refine lv_iconst (v := (-1)) hx hb dX5_walk_27 (by decide) ?_
    have kcm1 : ((-1) : Int32).toInt = (-1) := by decide +kernel
    have hM := m065_X5_pushAhead l dC dI cI cJ cII cJJ H_12.size 0 ad f3_unknowns f3_equations f2_roundSupports f2_stale f7_size f1_size v5 v6 f0_solved f4_blockCount f4_blockLength f4_lastIsFree f4_stale ai7 al w0 w1 w2 w3 (-1) (by omega) (by omega) (by omega) (by omega) (by omega) (by omega) (by omega) (by omega) (by omega) (by omega) (by omega) hI_9 hw_w0 hw_w1 hw_w2 hw_w3
    refine k2V_v (q0 := 22) ⟨hx, hb, hml, hown, hts⟩ hK hP_9 hD_11 hS_8 hA hX cv_RX5_25 hM ⟨by decide +kernel, by decide +kernel⟩ rfl rfl (Or.inl rfl) (rest := []) rfl rfl rfl hl.1 rfl (Nat.le_of_ble_eq_true rfl) dX5_walk_28 ⟨Nat.le_of_ble_eq_true rfl, Nat.le_of_ble_eq_true rfl⟩ (fun t H1 locs_13 ht hB hS_13 hFc => ?_)
    obtain ⟨v10, ai11, ⟨gpr9_0, gpr9_1, hI_14, hFr_r9⟩, hP_14, -, hD_14⟩ := hB
    have hF_15 := FR_tr hF_10 hFr_r9 (by decide)
    rw [ht] at hP_14
    have hD_16 := hD_14.weaken (B := A) (fun k q _ h9 => hFc q.1 h9)
    clear ht
    generalize H1 = H_17 at hP_14 hS_13 ⊢
    refine lv_aload_n hx hb dX5_walk_31 rfl (lv_at hl 0 rfl) ?_
    refine lv_aload_n hx hb dX5_walk_32 rfl (lv_at hl 2 rfl) ?_
    refine lv_iconst (v := 1) hx hb dX5_walk_33 (by decide) ?_
    have kc1 : (1 : Int32).toInt = 1 := by decide +kernel
    have hM := m065_X5_pushAhead l dC dI cI cJ cII cJJ H_17.size 0 ad f3_unknowns f3_equations f2_roundSupports f2_stale f7_size f1_size v5 v10 f0_solved f4_blockCount f4_blockLength f4_lastIsFree f4_stale ai11 al w0 w1 w2 w3 1 (by omega) (by omega) (by omega) (by omega) (by omega) (by omega) (by omega) (by omega) (by omega) (by omega) (by omega) hI_14 hw_w0 hw_w1 hw_w2 hw_w3
    refine k2V_v (q0 := 22) ⟨hx, hb, hml, hown, hts⟩ hK hP_14 hD_16 hS_13 hA hX cv_RX5_25 hM ⟨by decide +kernel, by decide +kernel⟩ rfl rfl (Or.inl rfl) (rest := []) rfl rfl rfl hl.1 rfl (Nat.le_of_ble_eq_true rfl) dX5_walk_34 ⟨Nat.le_of_ble_eq_true rfl, Nat.le_of_ble_eq_true rfl⟩ (fun t H1 locs_18 ht hB hS_18 hFc => ?_)
    obtain ⟨v13, ai14, ⟨gpr12_0, gpr12_1, hI_19, hFr_r12⟩, hP_19, -, hD_19⟩ := hB
    have hF_20 := FR_tr hF_15 hFr_r12 (by decide)
    rw [ht] at hP_19
    have hD_21 := hD_19.weaken (B := A) (fun k q _ h9 => hFc q.1 h9)
    clear ht
    generalize H1 = H_22 at hP_19 hS_18 ⊢
    refine lv_iconst (v := 0) hx hb dX5_walk_37 (by decide) ?_
    refine lv_istore (lv' := [(4, .int 0), (0, .ref (ad 22)), (1, .ref (ad 16)), (2, .ref (ad 16)), (3, .int x3)]) hx hb dX5_walk_38 hl (by decide) rfl (fun ls_23 hl_23 => ?_)
    exact m146_X5_walk_b40 C  _ x3 0 v5 v13 ai14 _ _ _ (by first | omega | decide | (have ka0 := (by decide +kernel : (0 : Int32).toInt = 0); omega)) (by first | omega | decide | (have ka0 := (by decide +kernel : (0 : Int32).toInt = 0); omega)) (by first | omega | decide | (have ka0 := (by decide +kernel : (0 : Int32).toInt = 0); omega)) (by first | omega | decide | (have ka0 := (by decide +kernel : (0 : Int32).toInt = 0); omega)) (by first | omega | decide | (have ka0 := (by decide +kernel : (0 : Int32).toInt = 0); omega)) (by first | omega | decide | (have ka0 := (by decide +kernel : (0 : Int32).toInt = 0); omega)) (by first | omega | decide | (have ka0 := (by decide +kernel : (0 : Int32).toInt = 0); omega)) (by first | omega | decide | (have ka0 := (by decide +kernel : (0 : Int32).toInt = 0); omega)) (by first | omega | decide | (have ka0 := (by decide +kernel : (0 : Int32).toInt = 0); omega)) (by first | omega | decide | (have ka0 := (by decide +kernel : (0 : Int32).toInt = 0); omega)) (by first | omega | decide | (have ka0 := (by decide +kernel : (0 : Int32).toInt = 0); omega)) (by first | omega | decide | (have ka0 := (by decide +kernel : (0 : Int32).toInt = 0); omega)) (by first | omega | decide | (have ka0 := (by decide +kernel : (0 : Int32).toInt = 0); omega)) (j_fuel _) (by omega) hI_19 hF_20 hw_w0 hw_w1 hw_w2 hw_w3 hP_19 hD_21 hS_18 (lv_sub hl_23 [1, 2, 3, 4, 0] rfl)
  · have c8 := j_eq (a := x3.toInt) (b := 0) rfl (by decide +kernel) c8
    exact r2_v hx hb hr hk hS_8 dX5_walk_24 (fun t ht hW => ⟨v5, v6, ai7, ⟨(by first | omega | decide | exact Or.inl (by decide) | exact Or.inr (by decide) | exact Or.inr (by omega)), (by first | omega | decide | exact Or.inl (by decide) | exact Or.inr (by decide) | exact Or.inr (by omega)), hI_9, hF_10⟩, by rw [ht]; exact hP_9, va_K.moved hW.alike hK, hD_11⟩)
