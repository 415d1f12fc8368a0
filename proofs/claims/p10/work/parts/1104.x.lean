def Q_m042_X2_addTimes (dC : Nat → ClassId) (dI : Nat → Nat → Nat) (cI cJ cII cJJ : ClassId) (ad : Nat → Nat) (f3_unknowns f3_equations f2_roundSupports f2_stale f7_size f1_size f5_keptSize f5_aheadSize f0_solved f4_blockCount f4_blockLength f4_lastIsFree f4_stale : Int32) (ai0 : Nat → Nat → Int32) (al : Nat → Nat → Int64) (w0 w1 w2 w3 : Nat) : (Nat → Prop) → Array Value → State → Outcome → State → Prop := fun A => QV (fun t => ∃ (n_ai : Nat → Nat → Int32), (IAX n_ai ∧ FR [60] ai0 n_ai) ∧ WO dC dI (TY cI cJ cII cJJ) (WX cI cJ cII cJJ ad f3_unknowns f3_equations f2_roundSupports f2_stale f7_size f1_size f5_keptSize f5_aheadSize f0_solved f4_blockCount f4_blockLength f4_lastIsFree f4_stale n_ai al w0 w1 w2 w3) A t) A
set_option maxRecDepth 100000 in
set_option maxHeartbeats 4000000 in
theorem m042_X2_addTimes_b3 {p : Program} {l : Launch} {e : Env} {s : State} {m : MethodId} {args : Array Value} {below : List Frame} {meth : Method} {c : Code} {A : Nat → Prop} {dC : Nat → ClassId} {dI : Nat → Nat → Nat} {cI cJ cII cJJ : ClassId} {ad : Nat → Nat} {g : Nat} {f3_unknowns f3_equations f2_roundSupports f2_stale f7_size f1_size f5_keptSize f5_aheadSize f0_solved f4_blockCount f4_blockLength f4_lastIsFree f4_stale : Int32} {ai0 : Nat → Nat → Int32} {al : Nat → Nat → Int64} {w0 w1 w2 w3 : Nat} (C : Cx p c s m meth args A dC dI (TY cI cJ cII cJJ) cX2_addTimes none 5 RX2 0 g) : ∀ (n : Nat), ∀ (L1 L2 L4 : Int32) (ai : Nat → Nat → Int32) (H : Heap) (locs : List Loc) (ls : Array Slot), (0 ≤ L1.toInt ∧ L1.toInt ≤ 255) → (0 ≤ L4.toInt ∧ L4.toInt ≤ 4) → (1 ≤ f3_unknowns.toInt ∧ f3_unknowns.toInt ≤ 4) → (0 ≤ f3_equations.toInt ∧ f3_equations.toInt ≤ 3) → (0 ≤ f2_stale.toInt ∧ f2_stale.toInt ≤ 1) → (0 ≤ f7_size.toInt ∧ f7_size.toInt ≤ 256) → (0 ≤ f1_size.toInt ∧ f1_size.toInt ≤ 4) → (0 ≤ f5_keptSize.toInt ∧ f5_keptSize.toInt ≤ 128) → (0 ≤ f5_aheadSize.toInt ∧ f5_aheadSize.toInt ≤ 128) → (0 ≤ f4_blockCount.toInt ∧ f4_blockCount.toInt ≤ 9261) → (0 ≤ f4_blockLength.toInt ∧ f4_blockLength.toInt ≤ 21) → (0 ≤ f4_lastIsFree.toInt ∧ f4_lastIsFree.toInt ≤ 1) → (0 ≤ f4_stale.toInt ∧ f4_stale.toInt ≤ 1) → 4 - L4.toInt < (n : Int) → (0 : Int) < (n : Int) → IAX ai → FR [60] ai0 ai → RWX ad w0 → RWX ad w1 → RWX ad w2 → RWX ad w3 → va_P (dC, dI) vwCl (WX cI cJ cII cJJ ad f3_unknowns f3_equations f2_roundSupports f2_stale f7_size f1_size f5_keptSize f5_aheadSize f0_solved f4_blockCount f4_blockLength f4_lastIsFree f4_stale ai al w0 w1 w2 w3) H → va_D A (WX cI cJ cII cJJ ad f3_unknowns f3_equations f2_roundSupports f2_stale f7_size f1_size f5_keptSize f5_aheadSize f0_solved f4_blockCount f4_blockLength f4_lastIsFree f4_stale ai al w0 w1 w2 w3) → va_S A s.heap H locs → lv_has ls 5 [(0, .ref (ad 11)), (1, .int L1), (2, .int L2), (3, .ref (ad 60)), (4, .int L4)] → W p l e ({ frames := 4, cells := 0, slots := 0, locals := 200 } : Room) s m args below meth c H locs 0 0 (MQ below (Q_m042_X2_addTimes dC dI cI cJ cII cJJ ad f3_unknowns f3_equations f2_roundSupports f2_stale f7_size f1_size f5_keptSize f5_aheadSize f0_solved f4_blockCount f4_blockLength f4_lastIsFree f4_stale ai0 al w0 w1 w2 w3 A) args s 0 0 A) (F0 m 3 ls []) := by
  obtain ⟨hx, hb, hr, hml, hown, hts, hk, hA, hK, hX⟩ := id C
  intro n
  induction n with
  | zero =>
    intro L1 L2 L4 ai H locs ls h0 h1 h2 h3 h4 h5 h6 h7 h8 h9 h10 h11 h12 h13 h14 hI hF hw_w0 hw_w1 hw_w2 hw_w3 hP hD hS hl
    exact absurd h14 (by omega)
  | succ n ih =>
    intro L1 L2 L4 ai H locs ls h0 h1 h2 h3 h4 h5 h6 h7 h8 h9 h10 h11 h12 h13 h14 hI hF hw_w0 hw_w1 hw_w2 hw_w3 hP hD hS hl
    have ra_L2 := s_any L2
    refine lv_iload hx hb dX2_addTimes_3 (lv_at hl 4 rfl) ?_
    refine lv_iconst (v := 4) hx hb dX2_addTimes_5 (by decide) ?_
    refine lv_icmp_ge (tgt := 31) hx hb dX2_addTimes_6 (by decide) (fun c1 => ?_) (fun c1 => ?_)
    · have c1 := j_le (a := 4) (b := L4.toInt) (by decide +kernel) rfl c1
      exact r2_v hx hb hr hk hS dX2_addTimes_31 (fun t ht hW => ⟨ai, ⟨hI, hF⟩, by rw [ht]; exact hP, va_K.moved hW.alike hK, hD⟩)
    · have c1 := j_nle (a := 4) (b := L4.toInt) (by decide +kernel) rfl c1
      refine lv_aload_n hx hb dX2_addTimes_9 rfl (lv_at hl 3 rfl) ?_
      refine lv_iload hx hb dX2_addTimes_10 (lv_at hl 4 rfl) ?_
      refine lv_dup2_11 hx hb dX2_addTimes_12 rfl rfl ?_
      refine va_iald hx hb hK hP 60 0 rfl rfl (j_in (a := L4.toInt) rfl (by omega) (by omega)) dX2_addTimes_13 ?_
      refine lv_topi (fun z2 e_z2 => ?_)
      refine lv_iload_n hx hb dX2_addTimes_14 rfl (lv_at hl 2 rfl) ?_
      refine lv_aload_n hx hb dX2_addTimes_15 rfl (lv_at hl 0 rfl) ?_
      refine lv_iload_n hx hb dX2_addTimes_16 rfl (lv_at hl 1 rfl) ?_
      refine lv_iload hx hb dX2_addTimes_17 (lv_at hl 4 rfl) ?_
      have hM := m034_X2_at l dC dI cI cJ cII cJJ H.size 0 ad f3_unknowns f3_equations f2_roundSupports f2_stale f7_size f1_size f5_keptSize f5_aheadSize f0_solved f4_blockCount f4_blockLength f4_lastIsFree f4_stale ai al w0 w1 w2 w3 L1 L4 (by omega) (by omega) (by omega) (by omega) (by omega) (by omega) (by omega) (by omega) (by omega) (by omega) (by omega) (by omega) hI hw_w0 hw_w1 hw_w2 hw_w3
      refine k2V_i (q0 := 11) ⟨hx, hb, hml, hown, hts⟩ hK hP hD hS hA hX cv_RX2_98 hM ⟨by decide +kernel, by decide +kernel⟩ rfl rfl (Or.inl rfl) (rest := [.int L2, .int z2, .int L4, .ref (ad 60)]) rfl rfl rfl hl.1 rfl (Nat.le_of_ble_eq_true rfl) dX2_addTimes_19 ⟨Nat.le_of_ble_eq_true rfl, Nat.le_of_ble_eq_true rfl⟩ (fun r3 t H1 locs_1 ht hB hS_1 hFc => ?_)
      obtain ⟨-, hP_2, -, hD_2⟩ := hB
      rw [ht] at hP_2
      have hD_3 := hD_2.weaken (B := A) (fun k q _ h9 => hFc q.1 h9)
      clear ht
      generalize H1 = H_4 at hP_2 hS_1 ⊢
      refine v_imul hx hb dX2_addTimes_22 _ rfl ?_
      refine lv_topi (fun z4 e_z4 => ?_)
      refine v_iadd hx hb dX2_addTimes_23 _ rfl ?_
      refine lv_topi (fun z5 e_z5 => ?_)
      refine va_iast hx hb hK hP_2 hD_3 hS_1 60 0 rfl rfl (j_in (a := L4.toInt) rfl (by omega) (by omega)) dX2_addTimes_24 (fun H_5 locs_5 hP_5 hD_5 hS_5 => ?_)
      obtain ⟨ai6, e_ai6⟩ : ∃ q : Nat → Nat → Int32, q = va_up ai 60 (upd (ai 60) L4.toNatClampNeg z5) := ⟨_, rfl⟩
      have hF_6 := FR_st hF e_ai6 (by decide)
      have hI_7 : IAX ai6 := by rw [e_ai6]; exact hI
      have hP_8 : va_P (dC, dI) vwCl (WX cI cJ cII cJJ ad f3_unknowns f3_equations f2_roundSupports f2_stale f7_size f1_size f5_keptSize f5_aheadSize f0_solved f4_blockCount f4_blockLength f4_lastIsFree f4_stale ai6 al w0 w1 w2 w3) H_5 := by rw [e_ai6]; exact hP_5
      have hD_9 : va_D A (WX cI cJ cII cJJ ad f3_unknowns f3_equations f2_roundSupports f2_stale f7_size f1_size f5_keptSize f5_aheadSize f0_solved f4_blockCount f4_blockLength f4_lastIsFree f4_stale ai6 al w0 w1 w2 w3) := by rw [e_ai6]; exact hD_5
      obtain ⟨z7, e_z7⟩ : ∃ q : Int32, q = L4 + Int32.ofInt 1 := ⟨_, rfl⟩
      have g_z7 : z7.toInt = L4.toInt + 1 := by rw [e_z7]; exact n_add (a := L4.toInt) (b := 1) rfl (by decide +kernel) (by omega) (by omega)
      refine lv_iinc (v := z7) (lv' := [(4, .int z7), (0, .ref (ad 11)), (1, .int L1), (2, .int L2), (3, .ref (ad 60))]) hx hb dX2_addTimes_25 hl (k := 4) rfl e_z7.symm (by decide) rfl (fun ls_10 hl_10 => ?_)
      refine lv_goto (tgt := 3) hx hb dX2_addTimes_28 (by decide) ?_
      exact ih L1 L2 z7 ai6 _ _ _ (by omega) (by omega) (by omega) (by omega) (by omega) (by omega) (by omega) (by omega) (by omega) (by omega) (by omega) (by omega) (by omega) (by omega) (by omega) hI_7 hF_6 hw_w0 hw_w1 hw_w2 hw_w3 hP_8 hD_9 hS_5 (lv_sub hl_10 [1, 2, 3, 4, 0] rfl)
set_option maxRecDepth 100000 in
set_option maxHeartbeats 4000000 in
theorem m042_X2_addTimes (l : Launch) (dC : Nat → ClassId) (dI : Nat → Nat → Nat) (cI cJ cII cJJ : ClassId) (sz g : Nat) (ad : Nat → Nat) (f3_unknowns f3_equations f2_roundSupports f2_stale f7_size f1_size f5_keptSize f5_aheadSize f0_solved f4_blockCount f4_blockLength f4_lastIsFree f4_stale : Int32) (ai : Nat → Nat → Int32) (al : Nat → Nat → Int64) (w0 w1 w2 w3 : Nat) (x1 : Int32) (x2 : Int32) (h_x1 : (0 ≤ x1.toInt ∧ x1.toInt ≤ 255)) (h_f3_unknowns : (1 ≤ f3_unknowns.toInt ∧ f3_unknowns.toInt ≤ 4)) (h_f3_equations : (0 ≤ f3_equations.toInt ∧ f3_equations.toInt ≤ 3)) (h_f2_stale : (0 ≤ f2_stale.toInt ∧ f2_stale.toInt ≤ 1)) (h_f7_size : (0 ≤ f7_size.toInt ∧ f7_size.toInt ≤ 256)) (h_f1_size : (0 ≤ f1_size.toInt ∧ f1_size.toInt ≤ 4)) (h_f5_keptSize : (0 ≤ f5_keptSize.toInt ∧ f5_keptSize.toInt ≤ 128)) (h_f5_aheadSize : (0 ≤ f5_aheadSize.toInt ∧ f5_aheadSize.toInt ≤ 128)) (h_f4_blockCount : (0 ≤ f4_blockCount.toInt ∧ f4_blockCount.toInt ≤ 9261)) (h_f4_blockLength : (0 ≤ f4_blockLength.toInt ∧ f4_blockLength.toInt ≤ 21)) (h_f4_lastIsFree : (0 ≤ f4_lastIsFree.toInt ∧ f4_lastIsFree.toInt ≤ 1)) (h_f4_stale : (0 ≤ f4_stale.toInt ∧ f4_stale.toInt ≤ 1)) (hI : IAX ai) (hw_w0 : RWX ad w0) (hw_w1 : RWX ad w1) (hw_w2 : RWX ad w2) (hw_w3 : RWX ad w3) : Met l yX2_addTimes (.code yX2_addTimes cX2_addTimes 5 none :: TT) ({ frames := 4, cells := 0, slots := 0, locals := 200 } : Room) (PcS dC dI (TY cI cJ cII cJJ) [.ref (ad 11), .int x1, .int x2, .ref (ad 60)] (WX cI cJ cII cJJ ad f3_unknowns f3_equations f2_roundSupports f2_stale f7_size f1_size f5_keptSize f5_aheadSize f0_solved f4_blockCount f4_blockLength f4_lastIsFree f4_stale ai al w0 w1 w2 w3) sz 0 g) (Q_m042_X2_addTimes dC dI cI cJ cII cJJ ad f3_unknowns f3_equations f2_roundSupports f2_stale f7_size f1_size f5_keptSize f5_aheadSize f0_solved f4_blockCount f4_blockLength f4_lastIsFree f4_stale ai al w0 w1 w2 w3 (va_A (WX cI cJ cII cJJ ad f3_unknowns f3_equations f2_roundSupports f2_stale f7_size f1_size f5_keptSize f5_aheadSize f0_solved f4_blockCount f4_blockLength f4_lastIsFree f4_stale ai al w0 w1 w2 w3) sz)) 0 0 (va_A (WX cI cJ cII cJJ ad f3_unknowns f3_equations f2_roundSupports f2_stale f7_size f1_size f5_keptSize f5_aheadSize f0_solved f4_blockCount f4_blockLength f4_lastIsFree f4_stale ai al w0 w1 w2 w3) sz) := by
  refine SM.of (y := yX2_addTimes) (maxL := 5) (av := [.ref (ad 11), .int x1, .int x2, .ref (ad 60)]) (Q_m042_X2_addTimes dC dI cI cJ cII cJJ ad f3_unknowns f3_equations f2_roundSupports f2_stale f7_size f1_size f5_keptSize f5_aheadSize f0_solved f4_blockCount f4_blockLength f4_lastIsFree f4_stale ai al w0 w1 w2 w3) (by decide +kernel) (Nat.le_of_ble_eq_true rfl) (fun p e s m below meth c A ls hx hb hr hml hown hts hk hnm hA hK hP hD hS hX hl => ?_)
  have C : Cx p c s m meth (([.ref (ad 11), .int x1, .int x2, .ref (ad 60)] : List Value).toArray) A dC dI (TY cI cJ cII cJJ) cX2_addTimes none 5 RX2 0 g := ⟨hx, hb, hr, hml, hown, hts, hk, hA, hK, hX⟩
  have hown : s.vm.findClass RX2 = some m.cls := hown
  have hl : lv_has ls 5 [(0, .ref (ad 11)), (1, .int x1), (2, .int x2), (3, .ref (ad 60))] := hl
  obtain ⟨H, hH⟩ : ∃ q, q = s.heap := ⟨_, rfl⟩
  rw [← hH] at hP
  have hS : va_S A s.heap H [] := by rw [hH]; exact hS
  rw [← hH]
  have hF := FR_refl [60] ai
  have ra_x2 := s_any x2
  refine lv_iconst (v := 0) hx hb dX2_addTimes_0 (by decide) ?_
  refine lv_istore (lv' := [(4, .int 0), (0, .ref (ad 11)), (1, .int x1), (2, .int x2), (3, .ref (ad 60))]) hx hb dX2_addTimes_1 hl (by decide) rfl (fun ls_1 hl_1 => ?_)
  exact m042_X2_addTimes_b3 C  _ x1 x2 0 ai _ _ _ (by first | omega | decide | (have ka0 := (by decide +kernel : (0 : Int32).toInt = 0); omega)) (by first | omega | decide | (have ka0 := (by decide +kernel : (0 : Int32).toInt = 0); omega)) (by first | omega | decide | (have ka0 := (by decide +kernel : (0 : Int32).toInt = 0); omega)) (by first | omega | decide | (have ka0 := (by decide +kernel : (0 : Int32).toInt = 0); omega)) (by first | omega | decide | (have ka0 := (by decide +kernel : (0 : Int32).toInt = 0); omega)) (by first | omega | decide | (have ka0 := (by decide +kernel : (0 : Int32).toInt = 0); omega)) (by first | omega | decide | (have ka0 := (by decide +kernel : (0 : Int32).toInt = 0); omega)) (by first | omega | decide | (have ka0 := (by decide +kernel : (0 : Int32).toInt = 0); omega)) (by first | omega | decide | (have ka0 := (by decide +kernel : (0 : Int32).toInt = 0); omega)) (by first | omega | decide | (have ka0 := (by decide +kernel : (0 : Int32).toInt = 0); omega)) (by first | omega | decide | (have ka0 := (by decide +kernel : (0 : Int32).toInt = 0); omega)) (by first | omega | decide | (have ka0 := (by decide +kernel : (0 : Int32).toInt = 0); omega)) (by first | omega | decide | (have ka0 := (by decide +kernel : (0 : Int32).toInt = 0); omega)) (j_fuel _) (by omega) hI hF hw_w0 hw_w1 hw_w2 hw_w3 hP hD hS (lv_sub hl_1 [1, 2, 3, 4, 0] rfl)
def Q_m043_X2_slopeAt (dC : Nat → ClassId) (dI : Nat → Nat → Nat) (cI cJ cII cJJ : ClassId) (ad : Nat → Nat) (f3_unknowns f3_equations f2_roundSupports f2_stale f7_size f1_size f5_keptSize f5_aheadSize f0_solved f4_blockCount f4_blockLength f4_lastIsFree f4_stale : Int32) (ai : Nat → Nat → Int32) (al : Nat → Nat → Int64) (w0 w1 w2 w3 : Nat) : (Nat → Prop) → Array Value → State → Outcome → State → Prop := fun A => QL (fun r t => (True) ∧ WO dC dI (TY cI cJ cII cJJ) (WX cI cJ cII cJJ ad f3_unknowns f3_equations f2_roundSupports f2_stale f7_size f1_size f5_keptSize f5_aheadSize f0_solved f4_blockCount f4_blockLength f4_lastIsFree f4_stale ai al w0 w1 w2 w3) A t) A
set_option maxRecDepth 100000 in
set_option maxHeartbeats 4000000 in
theorem m043_X2_slopeAt_b5 {p : Program} {l : Launch} {e : Env} {s : State} {m : MethodId} {args : Array Value} {below : List Frame} {meth : Method} {c : Code} {A : Nat → Prop} {dC : Nat → ClassId} {dI : Nat → Nat → Nat} {cI cJ cII cJJ : ClassId} {ad : Nat → Nat} {g : Nat} {f3_unknowns f3_equations f2_roundSupports f2_stale f7_size f1_size f5_keptSize f5_aheadSize f0_solved f4_blockCount f4_blockLength f4_lastIsFree f4_stale : Int32} {ai : Nat → Nat → Int32} {al : Nat → Nat → Int64} {w0 w1 w2 w3 : Nat} (C : Cx p c s m meth args A dC dI (TY cI cJ cII cJJ) cX2_slopeAt (some .long) 6 RX2 0 g) : ∀ (n : Nat), ∀ (L1 L5 : Int32) (J3 : Int64) (H : Heap) (locs : List Loc) (ls : Array Slot), (0 ≤ L1.toInt ∧ L1.toInt ≤ 255) → (0 ≤ L5.toInt ∧ L5.toInt ≤ 4) → (1 ≤ f3_unknowns.toInt ∧ f3_unknowns.toInt ≤ 4) → (0 ≤ f3_equations.toInt ∧ f3_equations.toInt ≤ 3) → (0 ≤ f2_stale.toInt ∧ f2_stale.toInt ≤ 1) → (0 ≤ f7_size.toInt ∧ f7_size.toInt ≤ 256) → (0 ≤ f1_size.toInt ∧ f1_size.toInt ≤ 4) → (0 ≤ f5_keptSize.toInt ∧ f5_keptSize.toInt ≤ 128) → (0 ≤ f5_aheadSize.toInt ∧ f5_aheadSize.toInt ≤ 128) → (0 ≤ f4_blockCount.toInt ∧ f4_blockCount.toInt ≤ 9261) → (0 ≤ f4_blockLength.toInt ∧ f4_blockLength.toInt ≤ 21) → (0 ≤ f4_lastIsFree.toInt ∧ f4_lastIsFree.toInt ≤ 1) → (0 ≤ f4_stale.toInt ∧ f4_stale.toInt ≤ 1) → f3_unknowns.toInt - L5.toInt < (n : Int) → (0 : Int) < (n : Int) → IAX ai → RWX ad w0 → RWX ad w1 → RWX ad w2 → RWX ad w3 → va_P (dC, dI) vwCl (WX cI cJ cII cJJ ad f3_unknowns f3_equations f2_roundSupports f2_stale f7_size f1_size f5_keptSize f5_aheadSize f0_solved f4_blockCount f4_blockLength f4_lastIsFree f4_stale ai al w0 w1 w2 w3) H → va_D A (WX cI cJ cII cJJ ad f3_unknowns f3_equations f2_roundSupports f2_stale f7_size f1_size f5_keptSize f5_aheadSize f0_solved f4_blockCount f4_blockLength f4_lastIsFree f4_stale ai al w0 w1 w2 w3) → va_S A s.heap H locs → lv_has ls 6 [(0, .ref (ad 11)), (1, .int L1), (2, .ref (ad 60)), (3, .long J3), (5, .int L5)] → W p l e ({ frames := 4, cells := 0, slots := 0, locals := 200 } : Room) s m args below meth c H locs 0 0 (MQ below (Q_m043_X2_slopeAt dC dI cI cJ cII cJJ ad f3_unknowns f3_equations f2_roundSupports f2_stale f7_size f1_size f5_keptSize f5_aheadSize f0_solved f4_blockCount f4_blockLength f4_lastIsFree f4_stale ai al w0 w1 w2 w3 A) args s 0 0 A) (F0 m 5 ls []) := by
  obtain ⟨hx, hb, hr, hml, hown, hts, hk, hA, hK, hX⟩ := id C
  intro n
  induction n with
  | zero =>
    intro L1 L5 J3 H locs ls h0 h1 h2 h3 h4 h5 h6 h7 h8 h9 h10 h11 h12 h13 h14 hI hw_w0 hw_w1 hw_w2 hw_w3 hP hD hS hl
    exact absurd h14 (by omega)
  | succ n ih =>
    intro L1 L5 J3 H locs ls h0 h1 h2 h3 h4 h5 h6 h7 h8 h9 h10 h11 h12 h13 h14 hI hw_w0 hw_w1 hw_w2 hw_w3 hP hD hS hl
    refine lv_iload hx hb dX2_slopeAt_5 (lv_at hl 4 rfl) ?_
    refine lv_aload_n hx hb dX2_slopeAt_7 rfl (lv_at hl 0 rfl) ?_
    refine gf (k := 0) hx hb hts inX2 hown hK hP k_175 rfl (by decide) rfl 11 rfl (.ref (ad 6)) rfl dX2_slopeAt_8 ?_
    refine gf (k := 0) hx hb hts inX3 hown hK hP k_41 rfl (by decide) rfl 6 rfl (.int f3_unknowns) rfl dX2_slopeAt_11 ?_
    refine lv_icmp_ge (tgt := 68) hx hb dX2_slopeAt_14 (by decide) (fun c1 => ?_) (fun c1 => ?_)
    · have c1 := j_le (a := f3_unknowns.toInt) (b := L5.toInt) rfl rfl c1
      refine lv_lload_n hx hb dX2_slopeAt_68 rfl (lv_at hl 3 rfl) ?_
      exact r2_l hx hb hr hk hS dX2_slopeAt_69 (fun t ht hW => ⟨trivial, by rw [ht]; exact hP, va_K.moved hW.alike hK, hD⟩)
    · have c1 := j_nle (a := f3_unknowns.toInt) (b := L5.toInt) rfl rfl c1
      refine lv_lload_n hx hb dX2_slopeAt_17 rfl (lv_at hl 3 rfl) ?_
      refine lv_aload_n hx hb dX2_slopeAt_18 rfl (lv_at hl 0 rfl) ?_
      refine lv_iload_n hx hb dX2_slopeAt_19 rfl (lv_at hl 1 rfl) ?_
      refine lv_iload hx hb dX2_slopeAt_20 (lv_at hl 4 rfl) ?_
      have hM := m034_X2_at l dC dI cI cJ cII cJJ H.size 0 ad f3_unknowns f3_equations f2_roundSupports f2_stale f7_size f1_size f5_keptSize f5_aheadSize f0_solved f4_blockCount f4_blockLength f4_lastIsFree f4_stale ai al w0 w1 w2 w3 L1 L5 (by omega) (by omega) (by omega) (by omega) (by omega) (by omega) (by omega) (by omega) (by omega) (by omega) (by omega) (by omega) hI hw_w0 hw_w1 hw_w2 hw_w3
      refine k2V_i (q0 := 11) ⟨hx, hb, hml, hown, hts⟩ hK hP hD hS hA hX cv_RX2_98 hM ⟨by decide +kernel, by decide +kernel⟩ rfl rfl (Or.inl rfl) (rest := [.long J3]) rfl rfl rfl hl.1 rfl (Nat.le_of_ble_eq_true rfl) dX2_slopeAt_22 ⟨Nat.le_of_ble_eq_true rfl, Nat.le_of_ble_eq_true rfl⟩ (fun r2 t H1 locs_1 ht hB hS_1 hFc => ?_)
      obtain ⟨-, hP_2, -, hD_2⟩ := hB
      rw [ht] at hP_2
      have hD_3 := hD_2.weaken (B := A) (fun k q _ h9 => hFc q.1 h9)
      clear ht
      generalize H1 = H_4 at hP_2 hS_1 ⊢
      refine lv_i2l hx hb dX2_slopeAt_25 rfl ?_
      refine lv_topl (fun yy3 e_yy3 => ?_)
      refine lv_aload_n hx hb dX2_slopeAt_26 rfl (lv_at hl 0 rfl) ?_
      refine gf (k := 0) hx hb hts inX2 hown hK hP_2 k_175 rfl (by decide) rfl 11 rfl (.ref (ad 6)) rfl dX2_slopeAt_27 ?_
      refine gf (k := 6) hx hb hts inX3 hown hK hP_2 k_66 rfl (by decide) rfl 6 rfl (.ref (ad 9)) rfl dX2_slopeAt_30 ?_
      refine lv_iload hx hb dX2_slopeAt_33 (lv_at hl 4 rfl) ?_
      refine va_iald hx hb hK hP_2 9 0 rfl rfl (j_in (a := L5.toInt) rfl (by omega) (by omega)) dX2_slopeAt_35 ?_
      refine lv_topi (fun z4 e_z4 => ?_)
      refine lv_i2l hx hb dX2_slopeAt_36 rfl ?_
      refine lv_topl (fun yy5 e_yy5 => ?_)
      refine lv_ldc2 (v := 2) hx hb hown (hts _ k_641) dX2_slopeAt_37 ?_
      refine lv_aload_n hx hb dX2_slopeAt_40 rfl (lv_at hl 0 rfl) ?_
      refine gf (k := 0) hx hb hts inX2 hown hK hP_2 k_175 rfl (by decide) rfl 11 rfl (.ref (ad 6)) rfl dX2_slopeAt_41 ?_
      refine gf (k := 7) hx hb hts inX3 hown hK hP_2 k_69 rfl (by decide) rfl 6 rfl (.ref (ad 10)) rfl dX2_slopeAt_44 ?_
      refine lv_iload hx hb dX2_slopeAt_47 (lv_at hl 4 rfl) ?_
      refine va_iald hx hb hK hP_2 10 0 rfl rfl (j_in (a := L5.toInt) rfl (by omega) (by omega)) dX2_slopeAt_49 ?_
      refine lv_topi (fun z6 e_z6 => ?_)
      refine lv_i2l hx hb dX2_slopeAt_50 rfl ?_
      refine lv_topl (fun yy7 e_yy7 => ?_)
      refine v_lmul hx hb dX2_slopeAt_51 _ rfl ?_
      refine lv_topl (fun yy8 e_yy8 => ?_)
      refine lv_aload_n hx hb dX2_slopeAt_52 rfl (lv_at hl 2 rfl) ?_
      refine lv_iload hx hb dX2_slopeAt_53 (lv_at hl 4 rfl) ?_
      refine va_iald hx hb hK hP_2 60 0 rfl rfl (j_in (a := L5.toInt) rfl (by omega) (by omega)) dX2_slopeAt_55 ?_
      refine lv_topi (fun z9 e_z9 => ?_)
      refine lv_i2l hx hb dX2_slopeAt_56 rfl ?_
      refine lv_topl (fun yy10 e_yy10 => ?_)
      refine v_lmul hx hb dX2_slopeAt_57 _ rfl ?_
      refine lv_topl (fun yy11 e_yy11 => ?_)
      refine v_ladd hx hb dX2_slopeAt_58 _ rfl ?_
      refine lv_topl (fun yy12 e_yy12 => ?_)
      refine v_lmul hx hb dX2_slopeAt_59 _ rfl ?_
      refine lv_topl (fun yy13 e_yy13 => ?_)
      refine v_ladd hx hb dX2_slopeAt_60 _ rfl ?_
      refine lv_topl (fun yy14 e_yy14 => ?_)
      refine lv_lstore_n (lv' := [(3, .long yy14), (0, .ref (ad 11)), (1, .int L1), (2, .ref (ad 60)), (5, .int L5)]) hx hb dX2_slopeAt_61 rfl hl (by decide) rfl (fun ls_5 hl_5 => ?_)
      obtain ⟨z15, e_z15⟩ : ∃ q : Int32, q = L5 + Int32.ofInt 1 := ⟨_, rfl⟩
      have g_z15 : z15.toInt = L5.toInt + 1 := by rw [e_z15]; exact n_add (a := L5.toInt) (b := 1) rfl (by decide +kernel) (by omega) (by omega)
      refine lv_iinc (v := z15) (lv' := [(5, .int z15), (3, .long yy14), (0, .ref (ad 11)), (1, .int L1), (2, .ref (ad 60))]) hx hb dX2_slopeAt_62 hl_5 (k := 4) rfl e_z15.symm (by decide) rfl (fun ls_6 hl_6 => ?_)
      refine lv_goto (tgt := 5) hx hb dX2_slopeAt_65 (by decide) ?_
      exact ih L1 z15 yy14 _ _ _ (by omega) (by omega) (by omega) (by omega) (by omega) (by omega) (by omega) (by omega) (by omega) (by omega) (by omega) (by omega) (by omega) (by omega) (by omega) hI hw_w0 hw_w1 hw_w2 hw_w3 hP_2 hD_3 hS_1 (lv_sub hl_6 [2, 3, 4, 1, 0] rfl)
set_option maxRecDepth 100000 in
set_option maxHeartbeats 4000000 in
theorem m043_X2_slopeAt (l : Launch) (dC : Nat → ClassId) (dI : Nat → Nat → Nat) (cI cJ cII cJJ : ClassId) (sz g : Nat) (ad : Nat → Nat) (f3_unknowns f3_equations f2_roundSupports f2_stale f7_size f1_size f5_keptSize f5_aheadSize f0_solved f4_blockCount f4_blockLength f4_lastIsFree f4_stale : Int32) (ai : Nat → Nat → Int32) (al : Nat → Nat → Int64) (w0 w1 w2 w3 : Nat) (x1 : Int32) (h_x1 : (0 ≤ x1.toInt ∧ x1.toInt ≤ 255)) (h_f3_unknowns : (1 ≤ f3_unknowns.toInt ∧ f3_unknowns.toInt ≤ 4)) (h_f3_equations : (0 ≤ f3_equations.toInt ∧ f3_equations.toInt ≤ 3)) (h_f2_stale : (0 ≤ f2_stale.toInt ∧ f2_stale.toInt ≤ 1)) (h_f7_size : (0 ≤ f7_size.toInt ∧ f7_size.toInt ≤ 256)) (h_f1_size : (0 ≤ f1_size.toInt ∧ f1_size.toInt ≤ 4)) (h_f5_keptSize : (0 ≤ f5_keptSize.toInt ∧ f5_keptSize.toInt ≤ 128)) (h_f5_aheadSize : (0 ≤ f5_aheadSize.toInt ∧ f5_aheadSize.toInt ≤ 128)) (h_f4_blockCount : (0 ≤ f4_blockCount.toInt ∧ f4_blockCount.toInt ≤ 9261)) (h_f4_blockLength : (0 ≤ f4_blockLength.toInt ∧ f4_blockLength.toInt ≤ 21)) (h_f4_lastIsFree : (0 ≤ f4_lastIsFree.toInt ∧ f4_lastIsFree.toInt ≤ 1)) (h_f4_stale : (0 ≤ f4_stale.toInt ∧ f4_stale.toInt ≤ 1)) (hI : IAX ai) (hw_w0 : RWX ad w0) (hw_w1 : RWX ad w1) (hw_w2 : RWX ad w2) (hw_w3 : RWX ad w3) : Met l yX2_slopeAt (.code yX2_slopeAt cX2_slopeAt 6 (some .long) :: TT) ({ frames := 4, cells := 0, slots := 0, locals := 200 } : Room) (PcS dC dI (TY cI cJ cII cJJ) [.ref (ad 11), .int x1, .ref (ad 60)] (WX cI cJ cII cJJ ad f3_unknowns f3_equations f2_roundSupports f2_stale f7_size f1_size f5_keptSize f5_aheadSize f0_solved f4_blockCount f4_blockLength f4_lastIsFree f4_stale ai al w0 w1 w2 w3) sz 0 g) (Q_m043_X2_slopeAt dC dI cI cJ cII cJJ ad f3_unknowns f3_equations f2_roundSupports f2_stale f7_size f1_size f5_keptSize f5_aheadSize f0_solved f4_blockCount f4_blockLength f4_lastIsFree f4_stale ai al w0 w1 w2 w3 (va_A (WX cI cJ cII cJJ ad f3_unknowns f3_equations f2_roundSupports f2_stale f7_size f1_size f5_keptSize f5_aheadSize f0_solved f4_blockCount f4_blockLength f4_lastIsFree f4_stale ai al w0 w1 w2 w3) sz)) 0 0 (va_A (WX cI cJ cII cJJ ad f3_unknowns f3_equations f2_roundSupports f2_stale f7_size f1_size f5_keptSize f5_aheadSize f0_solved f4_blockCount f4_blockLength f4_lastIsFree f4_stale ai al w0 w1 w2 w3) sz) := by
  refine SM.of (y := yX2_slopeAt) (maxL := 6) (av := [.ref (ad 11), .int x1, .ref (ad 60)]) (Q_m043_X2_slopeAt dC dI cI cJ cII cJJ ad f3_unknowns f3_equations f2_roundSupports f2_stale f7_size f1_size f5_keptSize f5_aheadSize f0_solved f4_blockCount f4_blockLength f4_lastIsFree f4_stale ai al w0 w1 w2 w3) (by decide +kernel) (Nat.le_of_ble_eq_true rfl) (fun p e s m below meth c A ls hx hb hr hml hown hts hk hnm hA hK hP hD hS hX hl => ?_)
  have C : Cx p c s m meth (([.ref (ad 11), .int x1, .ref (ad 60)] : List Value).toArray) A dC dI (TY cI cJ cII cJJ) cX2_slopeAt (some .long) 6 RX2 0 g := ⟨hx, hb, hr, hml, hown, hts, hk, hA, hK, hX⟩
  have hown : s.vm.findClass RX2 = some m.cls := hown
  have hl : lv_has ls 6 [(0, .ref (ad 11)), (1, .int x1), (2, .ref (ad 60))] := hl
  obtain ⟨H, hH⟩ : ∃ q, q = s.heap := ⟨_, rfl⟩
  rw [← hH] at hP
  have hS : va_S A s.heap H [] := by rw [hH]; exact hS
  rw [← hH]
  refine lv_lconst (v := 0) hx hb dX2_slopeAt_0 (by decide) ?_
  refine lv_lstore_n (lv' := [(3, .long 0), (0, .ref (ad 11)), (1, .int x1), (2, .ref (ad 60))]) hx hb dX2_slopeAt_1 rfl hl (by decide) rfl (fun ls_1 hl_1 => ?_)
  refine lv_iconst (v := 0) hx hb dX2_slopeAt_2 (by decide) ?_
  refine lv_istore (lv' := [(5, .int 0), (3, .long 0), (0, .ref (ad 11)), (1, .int x1), (2, .ref (ad 60))]) hx hb dX2_slopeAt_3 hl_1 (by decide) rfl (fun ls_2 hl_2 => ?_)
  exact m043_X2_slopeAt_b5 C  _ x1 0 0 _ _ _ (by first | omega | decide | (have ka0 := (by decide +kernel : (0 : Int32).toInt = 0); omega)) (by first | omega | decide | (have ka0 := (by decide +kernel : (0 : Int32).toInt = 0); omega)) (by first | omega | decide | (have ka0 := (by decide +kernel : (0 : Int32).toInt = 0); omega)) (by first | omega | decide | (have ka0 := (by decide +kernel : (0 : Int32).toInt = 0); omega)) (by first | omega | decide | (have ka0 := (by decide +kernel : (0 : Int32).toInt = 0); omega)) (by first | omega | decide | (have ka0 := (by decide +kernel : (0 : Int32).toInt = 0); omega)) (by first | omega | decide | (have ka0 := (by decide +kernel : (0 : Int32).toInt = 0); omega)) (by first | omega | decide | (have ka0 := (by decide +kernel : (0 : Int32).toInt = 0); omega)) (by first | omega | decide | (have ka0 := (by decide +kernel : (0 : Int32).toInt = 0); omega)) (by first | omega | decide | (have ka0 := (by decide +kernel : (0 : Int32).toInt = 0); omega)) (by first | omega | decide | (have ka0 := (by decide +kernel : (0 : Int32).toInt = 0); omega)) (by first | omega | decide | (have ka0 := (by decide +kernel : (0 : Int32).toInt = 0); omega)) (by first | omega | decide | (have ka0 := (by decide +kernel : (0 : Int32).toInt = 0); omega)) (j_fuel _) (by omega) hI hw_w0 hw_w1 hw_w2 hw_w3 hP hD hS (lv_sub hl_2 [2, 3, 4, 1, 0] rfl)
def Q_m044_X2_curveOf (dC : Nat → ClassId) (dI : Nat → Nat → Nat) (cI cJ cII cJJ : ClassId) (ad : Nat → Nat) (f3_unknowns f3_equations f2_roundSupports f2_stale f7_size f1_size f5_keptSize f5_aheadSize f0_solved f4_blockCount f4_blockLength f4_lastIsFree f4_stale : Int32) (ai : Nat → Nat → Int32) (al : Nat → Nat → Int64) (w0 w1 w2 w3 : Nat) : (Nat → Prop) → Array Value → State → Outcome → State → Prop := fun A => QL (fun r t => (True) ∧ WO dC dI (TY cI cJ cII cJJ) (WX cI cJ cII cJJ ad f3_unknowns f3_equations f2_roundSupports f2_stale f7_size f1_size f5_keptSize f5_aheadSize f0_solved f4_blockCount f4_blockLength f4_lastIsFree f4_stale ai al w0 w1 w2 w3) A t) A
set_option maxRecDepth 100000 in
set_option maxHeartbeats 4000000 in
theorem m044_X2_curveOf_b5 {p : Program} {l : Launch} {e : Env} {s : State} {m : MethodId} {args : Array Value} {below : List Frame} {meth : Method} {c : Code} {A : Nat → Prop} {dC : Nat → ClassId} {dI : Nat → Nat → Nat} {cI cJ cII cJJ : ClassId} {ad : Nat → Nat} {g : Nat} {f3_unknowns f3_equations f2_roundSupports f2_stale f7_size f1_size f5_keptSize f5_aheadSize f0_solved f4_blockCount f4_blockLength f4_lastIsFree f4_stale : Int32} {ai : Nat → Nat → Int32} {al : Nat → Nat → Int64} {w0 w1 w2 w3 : Nat} (C : Cx p c s m meth args A dC dI (TY cI cJ cII cJJ) cX2_curveOf (some .long) 7 RX2 0 g) : ∀ (n : Nat), ∀ (L1 L4 : Int32) (J2 : Int64) (H : Heap) (locs : List Loc) (ls : Array Slot), (0 ≤ L1.toInt ∧ L1.toInt ≤ 255) → (0 ≤ L4.toInt ∧ L4.toInt ≤ 4) → (1 ≤ f3_unknowns.toInt ∧ f3_unknowns.toInt ≤ 4) → (0 ≤ f3_equations.toInt ∧ f3_equations.toInt ≤ 3) → (0 ≤ f2_stale.toInt ∧ f2_stale.toInt ≤ 1) → (0 ≤ f7_size.toInt ∧ f7_size.toInt ≤ 256) → (0 ≤ f1_size.toInt ∧ f1_size.toInt ≤ 4) → (0 ≤ f5_keptSize.toInt ∧ f5_keptSize.toInt ≤ 128) → (0 ≤ f5_aheadSize.toInt ∧ f5_aheadSize.toInt ≤ 128) → (0 ≤ f4_blockCount.toInt ∧ f4_blockCount.toInt ≤ 9261) → (0 ≤ f4_blockLength.toInt ∧ f4_blockLength.toInt ≤ 21) → (0 ≤ f4_lastIsFree.toInt ∧ f4_lastIsFree.toInt ≤ 1) → (0 ≤ f4_stale.toInt ∧ f4_stale.toInt ≤ 1) → f3_unknowns.toInt - L4.toInt < (n : Int) → (0 : Int) < (n : Int) → IAX ai → RWX ad w0 → RWX ad w1 → RWX ad w2 → RWX ad w3 → va_P (dC, dI) vwCl (WX cI cJ cII cJJ ad f3_unknowns f3_equations f2_roundSupports f2_stale f7_size f1_size f5_keptSize f5_aheadSize f0_solved f4_blockCount f4_blockLength f4_lastIsFree f4_stale ai al w0 w1 w2 w3) H → va_D A (WX cI cJ cII cJJ ad f3_unknowns f3_equations f2_roundSupports f2_stale f7_size f1_size f5_keptSize f5_aheadSize f0_solved f4_blockCount f4_blockLength f4_lastIsFree f4_stale ai al w0 w1 w2 w3) → va_S A s.heap H locs → lv_has ls 7 [(0, .ref (ad 11)), (1, .int L1), (2, .long J2), (4, .int L4)] → W p l e ({ frames := 4, cells := 0, slots := 0, locals := 200 } : Room) s m args below meth c H locs 0 0 (MQ below (Q_m044_X2_curveOf dC dI cI cJ cII cJJ ad f3_unknowns f3_equations f2_roundSupports f2_stale f7_size f1_size f5_keptSize f5_aheadSize f0_solved f4_blockCount f4_blockLength f4_lastIsFree f4_stale ai al w0 w1 w2 w3 A) args s 0 0 A) (F0 m 5 ls []) := by
  obtain ⟨hx, hb, hr, hml, hown, hts, hk, hA, hK, hX⟩ := id C
  intro n
  induction n with
  | zero =>
    intro L1 L4 J2 H locs ls h0 h1 h2 h3 h4 h5 h6 h7 h8 h9 h10 h11 h12 h13 h14 hI hw_w0 hw_w1 hw_w2 hw_w3 hP hD hS hl
    exact absurd h14 (by omega)
  | succ n ih =>
    intro L1 L4 J2 H locs ls h0 h1 h2 h3 h4 h5 h6 h7 h8 h9 h10 h11 h12 h13 h14 hI hw_w0 hw_w1 hw_w2 hw_w3 hP hD hS hl
    refine lv_iload hx hb dX2_curveOf_5 (lv_at hl 3 rfl) ?_
    refine lv_aload_n hx hb dX2_curveOf_7 rfl (lv_at hl 0 rfl) ?_
    refine gf (k := 0) hx hb hts inX2 hown hK hP k_175 rfl (by decide) rfl 11 rfl (.ref (ad 6)) rfl dX2_curveOf_8 ?_
    refine gf (k := 0) hx hb hts inX3 hown hK hP k_41 rfl (by decide) rfl 6 rfl (.int f3_unknowns) rfl dX2_curveOf_11 ?_
    refine lv_icmp_ge (tgt := 53) hx hb dX2_curveOf_14 (by decide) (fun c1 => ?_) (fun c1 => ?_)
    · have c1 := j_le (a := f3_unknowns.toInt) (b := L4.toInt) rfl rfl c1
      refine lv_lload_n hx hb dX2_curveOf_53 rfl (lv_at hl 2 rfl) ?_
      exact r2_l hx hb hr hk hS dX2_curveOf_54 (fun t ht hW => ⟨trivial, by rw [ht]; exact hP, va_K.moved hW.alike hK, hD⟩)
    · have c1 := j_nle (a := f3_unknowns.toInt) (b := L4.toInt) rfl rfl c1
      refine lv_aload_n hx hb dX2_curveOf_17 rfl (lv_at hl 0 rfl) ?_
      refine lv_iload_n hx hb dX2_curveOf_18 rfl (lv_at hl 1 rfl) ?_
      refine lv_iload hx hb dX2_curveOf_19 (lv_at hl 3 rfl) ?_
      have hM := m034_X2_at l dC dI cI cJ cII cJJ H.size 0 ad f3_unknowns f3_equations f2_roundSupports f2_stale f7_size f1_size f5_keptSize f5_aheadSize f0_solved f4_blockCount f4_blockLength f4_lastIsFree f4_stale ai al w0 w1 w2 w3 L1 L4 (by omega) (by omega) (by omega) (by omega) (by omega) (by omega) (by omega) (by omega) (by omega) (by omega) (by omega) (by omega) hI hw_w0 hw_w1 hw_w2 hw_w3
      refine k2V_i (q0 := 11) ⟨hx, hb, hml, hown, hts⟩ hK hP hD hS hA hX cv_RX2_98 hM ⟨by decide +kernel, by decide +kernel⟩ rfl rfl (Or.inl rfl) (rest := []) rfl rfl rfl hl.1 rfl (Nat.le_of_ble_eq_true rfl) dX2_curveOf_21 ⟨Nat.le_of_ble_eq_true rfl, Nat.le_of_ble_eq_true rfl⟩ (fun r2 t H1 locs_1 ht hB hS_1 hFc => ?_)
      obtain ⟨-, hP_2, -, hD_2⟩ := hB
      rw [ht] at hP_2
      have hD_3 := hD_2.weaken (B := A) (fun k q _ h9 => hFc q.1 h9)
      clear ht
      generalize H1 = H_4 at hP_2 hS_1 ⊢
      refine lv_i2l hx hb dX2_curveOf_24 rfl ?_
      refine lv_topl (fun yy3 e_yy3 => ?_)
      refine lv_lstore (lv' := [(5, .long yy3), (0, .ref (ad 11)), (1, .int L1), (2, .long J2), (4, .int L4)]) hx hb dX2_curveOf_25 hl (by decide) rfl (fun ls_5 hl_5 => ?_)
      refine lv_lload_n hx hb dX2_curveOf_27 rfl (lv_at hl_5 3 rfl) ?_
      refine lv_aload_n hx hb dX2_curveOf_28 rfl (lv_at hl_5 1 rfl) ?_
      refine gf (k := 0) hx hb hts inX2 hown hK hP_2 k_175 rfl (by decide) rfl 11 rfl (.ref (ad 6)) rfl dX2_curveOf_29 ?_
      refine gf (k := 7) hx hb hts inX3 hown hK hP_2 k_69 rfl (by decide) rfl 6 rfl (.ref (ad 10)) rfl dX2_curveOf_32 ?_
      refine lv_iload hx hb dX2_curveOf_35 (lv_at hl_5 4 rfl) ?_
      refine va_iald hx hb hK hP_2 10 0 rfl rfl (j_in (a := L4.toInt) rfl (by omega) (by omega)) dX2_curveOf_37 ?_
      refine lv_topi (fun z4 e_z4 => ?_)
      refine lv_i2l hx hb dX2_curveOf_38 rfl ?_
      refine lv_topl (fun yy5 e_yy5 => ?_)
      refine lv_lload hx hb dX2_curveOf_39 (lv_at hl_5 0 rfl) ?_
      refine v_lmul hx hb dX2_curveOf_41 _ rfl ?_
      refine lv_topl (fun yy6 e_yy6 => ?_)
      refine lv_lload hx hb dX2_curveOf_42 (lv_at hl_5 0 rfl) ?_
      refine v_lmul hx hb dX2_curveOf_44 _ rfl ?_
      refine lv_topl (fun yy7 e_yy7 => ?_)
      refine v_ladd hx hb dX2_curveOf_45 _ rfl ?_
      refine lv_topl (fun yy8 e_yy8 => ?_)
      refine lv_lstore_n (lv' := [(2, .long yy8), (5, .long yy3), (0, .ref (ad 11)), (1, .int L1), (4, .int L4)]) hx hb dX2_curveOf_46 rfl hl_5 (by decide) rfl (fun ls_6 hl_6 => ?_)
      obtain ⟨z9, e_z9⟩ : ∃ q : Int32, q = L4 + Int32.ofInt 1 := ⟨_, rfl⟩
      have g_z9 : z9.toInt = L4.toInt + 1 := by rw [e_z9]; exact n_add (a := L4.toInt) (b := 1) rfl (by decide +kernel) (by omega) (by omega)
      refine lv_iinc (v := z9) (lv' := [(4, .int z9), (2, .long yy8), (5, .long yy3), (0, .ref (ad 11)), (1, .int L1)]) hx hb dX2_curveOf_47 hl_6 (k := 4) rfl e_z9.symm (by decide) rfl (fun ls_7 hl_7 => ?_)
      refine lv_goto (tgt := 5) hx hb dX2_curveOf_50 (by decide) ?_
      exact ih L1 z9 yy8 _ _ _ (by omega) (by omega) (by omega) (by omega) (by omega) (by omega) (by omega) (by omega) (by omega) (by omega) (by omega) (by omega) (by omega) (by omega) (by omega) hI hw_w0 hw_w1 hw_w2 hw_w3 hP_2 hD_3 hS_1 (lv_sub hl_7 [3, 4, 1, 0] rfl)
set_option maxRecDepth 100000 in
set_option maxHeartbeats 4000000 in
theorem m044_X2_curveOf (l : Launch) (dC : Nat → ClassId) (dI : Nat → Nat → Nat) (cI cJ cII cJJ : ClassId) (sz g : Nat) (ad : Nat → Nat) (f3_unknowns f3_equations f2_roundSupports f2_stale f7_size f1_size f5_keptSize f5_aheadSize f0_solved f4_blockCount f4_blockLength f4_lastIsFree f4_stale : Int32) (ai : Nat → Nat → Int32) (al : Nat → Nat → Int64) (w0 w1 w2 w3 : Nat) (x1 : Int32) (h_x1 : (0 ≤ x1.toInt ∧ x1.toInt ≤ 255)) (h_f3_unknowns : (1 ≤ f3_unknowns.toInt ∧ f3_unknowns.toInt ≤ 4)) (h_f3_equations : (0 ≤ f3_equations.toInt ∧ f3_equations.toInt ≤ 3)) (h_f2_stale : (0 ≤ f2_stale.toInt ∧ f2_stale.toInt ≤ 1)) (h_f7_size : (0 ≤ f7_size.toInt ∧ f7_size.toInt ≤ 256)) (h_f1_size : (0 ≤ f1_size.toInt ∧ f1_size.toInt ≤ 4)) (h_f5_keptSize : (0 ≤ f5_keptSize.toInt ∧ f5_keptSize.toInt ≤ 128)) (h_f5_aheadSize : (0 ≤ f5_aheadSize.toInt ∧ f5_aheadSize.toInt ≤ 128)) (h_f4_blockCount : (0 ≤ f4_blockCount.toInt ∧ f4_blockCount.toInt ≤ 9261)) (h_f4_blockLength : (0 ≤ f4_blockLength.toInt ∧ f4_blockLength.toInt ≤ 21)) (h_f4_lastIsFree : (0 ≤ f4_lastIsFree.toInt ∧ f4_lastIsFree.toInt ≤ 1)) (h_f4_stale : (0 ≤ f4_stale.toInt ∧ f4_stale.toInt ≤ 1)) (hI : IAX ai) (hw_w0 : RWX ad w0) (hw_w1 : RWX ad w1) (hw_w2 : RWX ad w2) (hw_w3 : RWX ad w3) : Met l yX2_curveOf (.code yX2_curveOf cX2_curveOf 7 (some .long) :: TT) ({ frames := 4, cells := 0, slots := 0, locals := 200 } : Room) (PcS dC dI (TY cI cJ cII cJJ) [.ref (ad 11), .int x1] (WX cI cJ cII cJJ ad f3_unknowns f3_equations f2_roundSupports f2_stale f7_size f1_size f5_keptSize f5_aheadSize f0_solved f4_blockCount f4_blockLength f4_lastIsFree f4_stale ai al w0 w1 w2 w3) sz 0 g) (Q_m044_X2_curveOf dC dI cI cJ cII cJJ ad f3_unknowns f3_equations f2_roundSupports f2_stale f7_size f1_size f5_keptSize f5_aheadSize f0_solved f4_blockCount f4_blockLength f4_lastIsFree f4_stale ai al w0 w1 w2 w3 (va_A (WX cI cJ cII cJJ ad f3_unknowns f3_equations f2_roundSupports f2_stale f7_size f1_size f5_keptSize f5_aheadSize f0_solved f4_blockCount f4_blockLength f4_lastIsFree f4_stale ai al w0 w1 w2 w3) sz)) 0 0 (va_A (WX cI cJ cII cJJ ad f3_unknowns f3_equations f2_roundSupports f2_stale f7_size f1_size f5_keptSize f5_aheadSize f0_solved f4_blockCount f4_blockLength f4_lastIsFree f4_stale ai al w0 w1 w2 w3) sz) := by
  refine SM.of (y := yX2_curveOf) (maxL := 7) (av := [.ref (ad 11), .int x1]) (Q_m044_X2_curveOf dC dI cI cJ cII cJJ ad f3_unknowns f3_equations f2_roundSupports f2_stale f7_size f1_size f5_keptSize f5_aheadSize f0_solved f4_blockCount f4_blockLength f4_lastIsFree f4_stale ai al w0 w1 w2 w3) (by decide +kernel) (Nat.le_of_ble_eq_true rfl) (fun p e s m below meth c A ls hx hb hr hml hown hts hk hnm hA hK hP hD hS hX hl => ?_)
  have C : Cx p c s m meth (([.ref (ad 11), .int x1] : List Value).toArray) A dC dI (TY cI cJ cII cJJ) cX2_curveOf (some .long) 7 RX2 0 g := ⟨hx, hb, hr, hml, hown, hts, hk, hA, hK, hX⟩
  have hown : s.vm.findClass RX2 = some m.cls := hown
  have hl : lv_has ls 7 [(0, .ref (ad 11)), (1, .int x1)] := hl
  obtain ⟨H, hH⟩ : ∃ q, q = s.heap := ⟨_, rfl⟩
  rw [← hH] at hP
  have hS : va_S A s.heap H [] := by rw [hH]; exact hS
  rw [← hH]
  refine lv_lconst (v := 0) hx hb dX2_curveOf_0 (by decide) ?_
  refine lv_lstore_n (lv' := [(2, .long 0), (0, .ref (ad 11)), (1, .int x1)]) hx hb dX2_curveOf_1 rfl hl (by decide) rfl (fun ls_1 hl_1 => ?_)
  refine lv_iconst (v := 0) hx hb dX2_curveOf_2 (by decide) ?_
  refine lv_istore (lv' := [(4, .int 0), (2, .long 0), (0, .ref (ad 11)), (1, .int x1)]) hx hb dX2_curveOf_3 hl_1 (by decide) rfl (fun ls_2 hl_2 => ?_)
  exact m044_X2_curveOf_b5 C  _ x1 0 0 _ _ _ (by first | omega | decide | (have ka0 := (by decide +kernel : (0 : Int32).toInt = 0); omega)) (by first | omega | decide | (have ka0 := (by decide +kernel : (0 : Int32).toInt = 0); omega)) (by first | omega | decide | (have ka0 := (by decide +kernel : (0 : Int32).toInt = 0); omega)) (by first | omega | decide | (have ka0 := (by decide +kernel : (0 : Int32).toInt = 0); omega)) (by first | omega | decide | (have ka0 := (by decide +kernel : (0 : Int32).toInt = 0); omega)) (by first | omega | decide | (have ka0 := (by decide +kernel : (0 : Int32).toInt = 0); omega)) (by first | omega | decide | (have ka0 := (by decide +kernel : (0 : Int32).toInt = 0); omega)) (by first | omega | decide | (have ka0 := (by decide +kernel : (0 : Int32).toInt = 0); omega)) (by first | omega | decide | (have ka0 := (by decide +kernel : (0 : Int32).toInt = 0); omega)) (by first | omega | decide | (have ka0 := (by decide +kernel : (0 : Int32).toInt = 0); omega)) (by first | omega | decide | (have ka0 := (by decide +kernel : (0 : Int32).toInt = 0); omega)) (by first | omega | decide | (have ka0 := (by decide +kernel : (0 : Int32).toInt = 0); omega)) (by first | omega | decide | (have ka0 := (by decide +kernel : (0 : Int32).toInt = 0); omega)) (j_fuel _) (by omega) hI hw_w0 hw_w1 hw_w2 hw_w3 hP hD hS (lv_sub hl_2 [2, 3, 1, 0] rfl)
def Q_m045_X2_hasSmaller (dC : Nat → ClassId) (dI : Nat → Nat → Nat) (cI cJ cII cJJ : ClassId) (ad : Nat → Nat) (f3_unknowns f3_equations f2_roundSupports f2_stale f7_size f1_size f5_keptSize f5_aheadSize f0_solved f4_blockCount f4_blockLength f4_lastIsFree f4_stale : Int32) (ai : Nat → Nat → Int32) (al : Nat → Nat → Int64) (w0 w1 w2 w3 : Nat) : (Nat → Prop) → Array Value → State → Outcome → State → Prop := fun A => QI (fun r t => ((0 ≤ r.toInt ∧ r.toInt ≤ 1)) ∧ WO dC dI (TY cI cJ cII cJJ) (WX cI cJ cII cJJ ad f3_unknowns f3_equations f2_roundSupports f2_stale f7_size f1_size f5_keptSize f5_aheadSize f0_solved f4_blockCount f4_blockLength f4_lastIsFree f4_stale ai al w0 w1 w2 w3) A t) A
set_option maxRecDepth 100000 in
set_option maxHeartbeats 4000000 in
theorem m045_X2_hasSmaller_b25 {p : Program} {l : Launch} {e : Env} {s : State} {m : MethodId} {args : Array Value} {below : List Frame} {meth : Method} {c : Code} {A : Nat → Prop} {dC : Nat → ClassId} {dI : Nat → Nat → Nat} {cI cJ cII cJJ : ClassId} {ad : Nat → Nat} {g : Nat} {f3_unknowns f3_equations f2_roundSupports f2_stale f7_size f1_size f5_keptSize f5_aheadSize f0_solved f4_blockCount f4_blockLength f4_lastIsFree f4_stale : Int32} {ai : Nat → Nat → Int32} {al : Nat → Nat → Int64} {w0 w1 w2 w3 : Nat} (C : Cx p c s m meth args A dC dI (TY cI cJ cII cJJ) cX2_hasSmaller (some .boolean) 4 RX2 0 g) (n2 : Nat) (K2 : ∀ (L1 L2 L3 : Int32) (H : Heap) (locs : List Loc) (ls : Array Slot), 1 ≤ L3.toInt → (1 ≤ f3_unknowns.toInt ∧ f3_unknowns.toInt ≤ 4) → (0 ≤ f3_equations.toInt ∧ f3_equations.toInt ≤ 3) → (0 ≤ f2_stale.toInt ∧ f2_stale.toInt ≤ 1) → (0 ≤ f7_size.toInt ∧ f7_size.toInt ≤ 256) → (0 ≤ f1_size.toInt ∧ f1_size.toInt ≤ 4) → (0 ≤ f5_keptSize.toInt ∧ f5_keptSize.toInt ≤ 128) → (0 ≤ f5_aheadSize.toInt ∧ f5_aheadSize.toInt ≤ 128) → (0 ≤ f4_blockCount.toInt ∧ f4_blockCount.toInt ≤ 9261) → (0 ≤ f4_blockLength.toInt ∧ f4_blockLength.toInt ≤ 21) → (0 ≤ f4_lastIsFree.toInt ∧ f4_lastIsFree.toInt ≤ 1) → (0 ≤ f4_stale.toInt ∧ f4_stale.toInt ≤ 1) → L2.toInt - L3.toInt < (n2 : Int) → (0 : Int) < (n2 : Int) → IAX ai → RWX ad w0 → RWX ad w1 → RWX ad w2 → RWX ad w3 → va_P (dC, dI) vwCl (WX cI cJ cII cJJ ad f3_unknowns f3_equations f2_roundSupports f2_stale f7_size f1_size f5_keptSize f5_aheadSize f0_solved f4_blockCount f4_blockLength f4_lastIsFree f4_stale ai al w0 w1 w2 w3) H → va_D A (WX cI cJ cII cJJ ad f3_unknowns f3_equations f2_roundSupports f2_stale f7_size f1_size f5_keptSize f5_aheadSize f0_solved f4_blockCount f4_blockLength f4_lastIsFree f4_stale ai al w0 w1 w2 w3) → va_S A s.heap H locs → lv_has ls 4 [(0, .ref (ad 11)), (1, .int L1), (2, .int L2), (3, .int L3)] → W p l e ({ frames := 2, cells := 0, slots := 0, locals := 80 } : Room) s m args below meth c H locs 0 0 (MQ below (Q_m045_X2_hasSmaller dC dI cI cJ cII cJJ ad f3_unknowns f3_equations f2_roundSupports f2_stale f7_size f1_size f5_keptSize f5_aheadSize f0_solved f4_blockCount f4_blockLength f4_lastIsFree f4_stale ai al w0 w1 w2 w3 A) args s 0 0 A) (F0 m 2 ls [])) : ∀ (L1 L2 L3 : Int32) (H : Heap) (locs : List Loc) (ls : Array Slot), 2 ≤ L2.toInt → (1 ≤ L3.toInt ∧ L3.toInt ≤ 2147483646) → (1 ≤ f3_unknowns.toInt ∧ f3_unknowns.toInt ≤ 4) → (0 ≤ f3_equations.toInt ∧ f3_equations.toInt ≤ 3) → (0 ≤ f2_stale.toInt ∧ f2_stale.toInt ≤ 1) → (0 ≤ f7_size.toInt ∧ f7_size.toInt ≤ 256) → (0 ≤ f1_size.toInt ∧ f1_size.toInt ≤ 4) → (0 ≤ f5_keptSize.toInt ∧ f5_keptSize.toInt ≤ 128) → (0 ≤ f5_aheadSize.toInt ∧ f5_aheadSize.toInt ≤ 128) → (0 ≤ f4_blockCount.toInt ∧ f4_blockCount.toInt ≤ 9261) → (0 ≤ f4_blockLength.toInt ∧ f4_blockLength.toInt ≤ 21) → (0 ≤ f4_lastIsFree.toInt ∧ f4_lastIsFree.toInt ≤ 1) → (0 ≤ f4_stale.toInt ∧ f4_stale.toInt ≤ 1) → L3.toInt < L2.toInt → L2.toInt - L3.toInt ≤ (n2 : Int) → IAX ai → RWX ad w0 → RWX ad w1 → RWX ad w2 → RWX ad w3 → va_P (dC, dI) vwCl (WX cI cJ cII cJJ ad f3_unknowns f3_equations f2_roundSupports f2_stale f7_size f1_size f5_keptSize f5_aheadSize f0_solved f4_blockCount f4_blockLength f4_lastIsFree f4_stale ai al w0 w1 w2 w3) H → va_D A (WX cI cJ cII cJJ ad f3_unknowns f3_equations f2_roundSupports f2_stale f7_size f1_size f5_keptSize f5_aheadSize f0_solved f4_blockCount f4_blockLength f4_lastIsFree f4_stale ai al w0 w1 w2 w3) → va_S A s.heap H locs → lv_has ls 4 [(0, .ref (ad 11)), (1, .int L1), (2, .int L2), (3, .int L3)] → W p l e ({ frames := 2, cells := 0, slots := 0, locals := 80 } : Room) s m args below meth c H locs 0 0 (MQ below (Q_m045_X2_hasSmaller dC dI cI cJ cII cJJ ad f3_unknowns f3_equations f2_roundSupports f2_stale f7_size f1_size f5_keptSize f5_aheadSize f0_solved f4_blockCount f4_blockLength f4_lastIsFree f4_stale ai al w0 w1 w2 w3 A) args s 0 0 A) (F0 m 25 ls []) := by
  obtain ⟨hx, hb, hr, hml, hown, hts, hk, hA, hK, hX⟩ := id C
  intro L1 L2 L3 H locs ls h0 h1 h2 h3 h4 h5 h6 h7 h8 h9 h10 h11 h12 h13 h14 hI hw_w0 hw_w1 hw_w2 hw_w3 hP hD hS hl
  have ra_L1 := s_any L1
  have ra_L2 := s_any L2
  obtain ⟨z1, e_z1⟩ : ∃ q : Int32, q = L3 + Int32.ofInt 1 := ⟨_, rfl⟩
  have g_z1 : z1.toInt = L3.toInt + 1 := by rw [e_z1]; exact n_add (a := L3.toInt) (b := 1) rfl (by decide +kernel) (by omega) (by omega)
  refine lv_iinc (v := z1) (lv' := [(3, .int z1), (0, .ref (ad 11)), (1, .int L1), (2, .int L2)]) hx hb dX2_hasSmaller_25 hl (k := 3) rfl e_z1.symm (by decide) rfl (fun ls_1 hl_1 => ?_)
  refine lv_goto (tgt := 2) hx hb dX2_hasSmaller_28 (by decide) ?_
  exact K2 L1 L2 z1 _ _ _ (by omega) (by omega) (by omega) (by omega) (by omega) (by omega) (by omega) (by omega) (by omega) (by omega) (by omega) (by omega) (by omega) (by omega) hI hw_w0 hw_w1 hw_w2 hw_w3 hP hD hS (lv_sub hl_1 [1, 2, 3, 0] rfl)
set_option maxRecDepth 100000 in
set_option maxHeartbeats 4000000 in
theorem m045_X2_hasSmaller_b2 {p : Program} {l : Launch} {e : Env} {s : State} {m : MethodId} {args : Array Value} {below : List Frame} {meth : Method} {c : Code} {A : Nat → Prop} {dC : Nat → ClassId} {dI : Nat → Nat → Nat} {cI cJ cII cJJ : ClassId} {ad : Nat → Nat} {g : Nat} {f3_unknowns f3_equations f2_roundSupports f2_stale f7_size f1_size f5_keptSize f5_aheadSize f0_solved f4_blockCount f4_blockLength f4_lastIsFree f4_stale : Int32} {ai : Nat → Nat → Int32} {al : Nat → Nat → Int64} {w0 w1 w2 w3 : Nat} (C : Cx p c s m meth args A dC dI (TY cI cJ cII cJJ) cX2_hasSmaller (some .boolean) 4 RX2 0 g) : ∀ (n : Nat), ∀ (L1 L2 L3 : Int32) (H : Heap) (locs : List Loc) (ls : Array Slot), 1 ≤ L3.toInt → (1 ≤ f3_unknowns.toInt ∧ f3_unknowns.toInt ≤ 4) → (0 ≤ f3_equations.toInt ∧ f3_equations.toInt ≤ 3) → (0 ≤ f2_stale.toInt ∧ f2_stale.toInt ≤ 1) → (0 ≤ f7_size.toInt ∧ f7_size.toInt ≤ 256) → (0 ≤ f1_size.toInt ∧ f1_size.toInt ≤ 4) → (0 ≤ f5_keptSize.toInt ∧ f5_keptSize.toInt ≤ 128) → (0 ≤ f5_aheadSize.toInt ∧ f5_aheadSize.toInt ≤ 128) → (0 ≤ f4_blockCount.toInt ∧ f4_blockCount.toInt ≤ 9261) → (0 ≤ f4_blockLength.toInt ∧ f4_blockLength.toInt ≤ 21) → (0 ≤ f4_lastIsFree.toInt ∧ f4_lastIsFree.toInt ≤ 1) → (0 ≤ f4_stale.toInt ∧ f4_stale.toInt ≤ 1) → L2.toInt - L3.toInt < (n : Int) → (0 : Int) < (n : Int) → IAX ai → RWX ad w0 → RWX ad w1 → RWX ad w2 → RWX ad w3 → va_P (dC, dI) vwCl (WX cI cJ cII cJJ ad f3_unknowns f3_equations f2_roundSupports f2_stale f7_size f1_size f5_keptSize f5_aheadSize f0_solved f4_blockCount f4_blockLength f4_lastIsFree f4_stale ai al w0 w1 w2 w3) H → va_D A (WX cI cJ cII cJJ ad f3_unknowns f3_equations f2_roundSupports f2_stale f7_size f1_size f5_keptSize f5_aheadSize f0_solved f4_blockCount f4_blockLength f4_lastIsFree f4_stale ai al w0 w1 w2 w3) → va_S A s.heap H locs → lv_has ls 4 [(0, .ref (ad 11)), (1, .int L1), (2, .int L2), (3, .int L3)] → W p l e ({ frames := 2, cells := 0, slots := 0, locals := 80 } : Room) s m args below meth c H locs 0 0 (MQ below (Q_m045_X2_hasSmaller dC dI cI cJ cII cJJ ad f3_unknowns f3_equations f2_roundSupports f2_stale f7_size f1_size f5_keptSize f5_aheadSize f0_solved f4_blockCount f4_blockLength f4_lastIsFree f4_stale ai al w0 w1 w2 w3 A) args s 0 0 A) (F0 m 2 ls []) := by
  obtain ⟨hx, hb, hr, hml, hown, hts, hk, hA, hK, hX⟩ := id C
  intro n
  induction n with
  | zero =>
    intro L1 L2 L3 H locs ls h0 h1 h2 h3 h4 h5 h6 h7 h8 h9 h10 h11 h12 h13 hI hw_w0 hw_w1 hw_w2 hw_w3 hP hD hS hl
    exact absurd h13 (by omega)
  | succ n ih =>
    intro L1 L2 L3 H locs ls h0 h1 h2 h3 h4 h5 h6 h7 h8 h9 h10 h11 h12 h13 hI hw_w0 hw_w1 hw_w2 hw_w3 hP hD hS hl
    have ra_L1 := s_any L1
    have ra_L2 := s_any L2
    have ra_L3 := s_any L3
    refine lv_iload_n hx hb dX2_hasSmaller_2 rfl (lv_at hl 3 rfl) ?_
    refine lv_iload_n hx hb dX2_hasSmaller_3 rfl (lv_at hl 2 rfl) ?_
    refine lv_icmp_ge (tgt := 31) hx hb dX2_hasSmaller_4 (by decide) (fun c1 => ?_) (fun c1 => ?_)
    · have c1 := j_le (a := L2.toInt) (b := L3.toInt) rfl rfl c1
      refine lv_iconst (v := 0) hx hb dX2_hasSmaller_31 (by decide) ?_
      exact r2_z hx hb hr hk hS dX2_hasSmaller_32 rfl (fun t ht hW => ⟨(by first | omega | decide | exact Or.inl (by decide) | exact Or.inr (by decide) | exact Or.inr (by omega)), by rw [ht]; exact hP, va_K.moved hW.alike hK, hD⟩)
    · have c1 := j_nle (a := L2.toInt) (b := L3.toInt) rfl rfl c1
      refine lv_iload_n hx hb dX2_hasSmaller_7 rfl (lv_at hl 1 rfl) ?_
      refine lv_iload_n hx hb dX2_hasSmaller_8 rfl (lv_at hl 3 rfl) ?_
      refine v_ishr hx hb dX2_hasSmaller_9 _ rfl ?_
      refine lv_topi (fun z2 e_z2 => ?_)
      refine lv_iconst (v := 1) hx hb dX2_hasSmaller_10 (by decide) ?_
      refine v_iand hx hb dX2_hasSmaller_11 _ rfl ?_
      refine lv_topi (fun z3 e_z3 => ?_)
      refine lv_iconst (v := 1) hx hb dX2_hasSmaller_12 (by decide) ?_
      refine lv_icmp_ne (tgt := 25) hx hb dX2_hasSmaller_13 (by decide) (fun c4 => ?_) (fun c4 => ?_)
      · have c4 := j_ne (a := z3.toInt) (b := 1) rfl (by decide +kernel) c4
        exact m045_X2_hasSmaller_b25 C n ih L1 L2 L3 _ _ _ (by omega) (by omega) (by omega) (by omega) (by omega) (by omega) (by omega) (by omega) (by omega) (by omega) (by omega) (by omega) (by omega) (by omega) (by omega) hI hw_w0 hw_w1 hw_w2 hw_w3 hP hD hS (lv_sub hl [0, 1, 2, 3] rfl)
      · have c4 := j_eq (a := z3.toInt) (b := 1) rfl (by decide +kernel) c4
        refine lv_iload_n hx hb dX2_hasSmaller_16 rfl (lv_at hl 3 rfl) ?_
        refine lv_iload_n hx hb dX2_hasSmaller_17 rfl (lv_at hl 2 rfl) ?_
        refine v_iand hx hb dX2_hasSmaller_18 _ rfl ?_
        refine lv_topi (fun z5 e_z5 => ?_)
        refine lv_iload_n hx hb dX2_hasSmaller_19 rfl (lv_at hl 3 rfl) ?_
        refine lv_icmp_ne (tgt := 25) hx hb dX2_hasSmaller_20 (by decide) (fun c6 => ?_) (fun c6 => ?_)
        · have c6 := j_ne (a := z5.toInt) (b := L3.toInt) rfl rfl c6
          exact m045_X2_hasSmaller_b25 C n ih L1 L2 L3 _ _ _ (by omega) (by omega) (by omega) (by omega) (by omega) (by omega) (by omega) (by omega) (by omega) (by omega) (by omega) (by omega) (by omega) (by omega) (by omega) hI hw_w0 hw_w1 hw_w2 hw_w3 hP hD hS (lv_sub hl [0, 1, 2, 3] rfl)
        · have c6 := j_eq (a := z5.toInt) (b := L3.toInt) rfl rfl c6
          refine lv_iconst (v := 1) hx hb dX2_hasSmaller_23 (by decide) ?_
          exact r2_z hx hb hr hk hS dX2_hasSmaller_24 rfl (fun t ht hW => ⟨(by first | omega | decide | exact Or.inl (by decide) | exact Or.inr (by decide) | exact Or.inr (by omega)), by rw [ht]; exact hP, va_K.moved hW.alike hK, hD⟩)
set_option maxRecDepth 100000 in
set_option maxHeartbeats 4000000 in
theorem m045_X2_hasSmaller (l : Launch) (dC : Nat → ClassId) (dI : Nat → Nat → Nat) (cI cJ cII cJJ : ClassId) (sz g : Nat) (ad : Nat → Nat) (f3_unknowns f3_equations f2_roundSupports f2_stale f7_size f1_size f5_keptSize f5_aheadSize f0_solved f4_blockCount f4_blockLength f4_lastIsFree f4_stale : Int32) (ai : Nat → Nat → Int32) (al : Nat → Nat → Int64) (w0 w1 w2 w3 : Nat) (x1 : Int32) (x2 : Int32) (h_f3_unknowns : (1 ≤ f3_unknowns.toInt ∧ f3_unknowns.toInt ≤ 4)) (h_f3_equations : (0 ≤ f3_equations.toInt ∧ f3_equations.toInt ≤ 3)) (h_f2_stale : (0 ≤ f2_stale.toInt ∧ f2_stale.toInt ≤ 1)) (h_f7_size : (0 ≤ f7_size.toInt ∧ f7_size.toInt ≤ 256)) (h_f1_size : (0 ≤ f1_size.toInt ∧ f1_size.toInt ≤ 4)) (h_f5_keptSize : (0 ≤ f5_keptSize.toInt ∧ f5_keptSize.toInt ≤ 128)) (h_f5_aheadSize : (0 ≤ f5_aheadSize.toInt ∧ f5_aheadSize.toInt ≤ 128)) (h_f4_blockCount : (0 ≤ f4_blockCount.toInt ∧ f4_blockCount.toInt ≤ 9261)) (h_f4_blockLength : (0 ≤ f4_blockLength.toInt ∧ f4_blockLength.toInt ≤ 21)) (h_f4_lastIsFree : (0 ≤ f4_lastIsFree.toInt ∧ f4_lastIsFree.toInt ≤ 1)) (h_f4_stale : (0 ≤ f4_stale.toInt ∧ f4_stale.toInt ≤ 1)) (hI : IAX ai) (hw_w0 : RWX ad w0) (hw_w1 : RWX ad w1) (hw_w2 : RWX ad w2) (hw_w3 : RWX ad w3) : Met l yX2_hasSmaller (.code yX2_hasSmaller cX2_hasSmaller 4 (some .boolean) :: TT) ({ frames := 2, cells := 0, slots := 0, locals := 80 } : Room) (PcS dC dI (TY cI cJ cII cJJ) [.ref (ad 11), .int x1, .int x2] (WX cI cJ cII cJJ ad f3_unknowns f3_equations f2_roundSupports f2_stale f7_size f1_size f5_keptSize f5_aheadSize f0_solved f4_blockCount f4_blockLength f4_lastIsFree f4_stale ai al w0 w1 w2 w3) sz 0 g) (Q_m045_X2_hasSmaller dC dI cI cJ cII cJJ ad f3_unknowns f3_equations f2_roundSupports f2_stale f7_size f1_size f5_keptSize f5_aheadSize f0_solved f4_blockCount f4_blockLength f4_lastIsFree f4_stale ai al w0 w1 w2 w3 (va_A (WX cI cJ cII cJJ ad f3_unknowns f3_equations f2_roundSupports f2_stale f7_size f1_size f5_keptSize f5_aheadSize f0_solved f4_blockCount f4_blockLength f4_lastIsFree f4_stale ai al w0 w1 w2 w3) sz)) 0 0 (va_A (WX cI cJ cII cJJ ad f3_unknowns f3_equations f2_roundSupports f2_stale f7_size f1_size f5_keptSize f5_aheadSize f0_solved f4_blockCount f4_blockLength f4_lastIsFree f4_stale ai al w0 w1 w2 w3) sz) := by
  refine SM.of (y := yX2_hasSmaller) (maxL := 4) (av := [.ref (ad 11), .int x1, .int x2]) (Q_m045_X2_hasSmaller dC dI cI cJ cII cJJ ad f3_unknowns f3_equations f2_roundSupports f2_stale f7_size f1_size f5_keptSize f5_aheadSize f0_solved f4_blockCount f4_blockLength f4_lastIsFree f4_stale ai al w0 w1 w2 w3) (by decide +kernel) (Nat.le_of_ble_eq_true rfl) (fun p e s m below meth c A ls hx hb hr hml hown hts hk hnm hA hK hP hD hS hX hl => ?_)
  have C : Cx p c s m meth (([.ref (ad 11), .int x1, .int x2] : List Value).toArray) A dC dI (TY cI cJ cII cJJ) cX2_hasSmaller (some .boolean) 4 RX2 0 g := ⟨hx, hb, hr, hml, hown, hts, hk, hA, hK, hX⟩
  have hown : s.vm.findClass RX2 = some m.cls := hown
  have hl : lv_has ls 4 [(0, .ref (ad 11)), (1, .int x1), (2, .int x2)] := hl
  obtain ⟨H, hH⟩ : ∃ q, q = s.heap := ⟨_, rfl⟩
  rw [← hH] at hP
  have hS : va_S A s.heap H [] := by rw [hH]; exact hS
  rw [← hH]
  have ra_x1 := s_any x1
  have ra_x2 := s_any x2
  refine lv_iconst (v := 1) hx hb dX2_hasSmaller_0 (by decide) ?_
  refine lv_istore_n (lv' := [(3, .int 1), (0, .ref (ad 11)), (1, .int x1), (2, .int x2)]) hx hb dX2_hasSmaller_1 rfl hl (by decide) rfl (fun ls_1 hl_1 => ?_)
  exact m045_X2_hasSmaller_b2 C  _ x1 x2 1 _ _ _ (by first | omega | decide | (have ka0 := (by decide +kernel : (1 : Int32).toInt = 1); omega)) (by first | omega | decide | (have ka0 := (by decide +kernel : (1 : Int32).toInt = 1); omega)) (by first | omega | decide | (have ka0 := (by decide +kernel : (1 : Int32).toInt = 1); omega)) (by first | omega | decide | (have ka0 := (by decide +kernel : (1 : Int32).toInt = 1); omega)) (by first | omega | decide | (have ka0 := (by decide +kernel : (1 : Int32).toInt = 1); omega)) (by first | omega | decide | (have ka0 := (by decide +kernel : (1 : Int32).toInt = 1); omega)) (by first | omega | decide | (have ka0 := (by decide +kernel : (1 : Int32).toInt = 1); omega)) (by first | omega | decide | (have ka0 := (by decide +kernel : (1 : Int32).toInt = 1); omega)) (by first | omega | decide | (have ka0 := (by decide +kernel : (1 : Int32).toInt = 1); omega)) (by first | omega | decide | (have ka0 := (by decide +kernel : (1 : Int32).toInt = 1); omega)) (by first | omega | decide | (have ka0 := (by decide +kernel : (1 : Int32).toInt = 1); omega)) (by first | omega | decide | (have ka0 := (by decide +kernel : (1 : Int32).toInt = 1); omega)) (j_fuel _) (by omega) hI hw_w0 hw_w1 hw_w2 hw_w3 hP hD hS (lv_sub hl_1 [1, 2, 3, 0] rfl)
def Q_m046_X2_findRoundSupports (dC : Nat → ClassId) (dI : Nat → Nat → Nat) (cI cJ cII cJJ : ClassId) (ad : Nat → Nat) (f3_unknowns f3_equations f2_stale f7_size f1_size f5_keptSize f5_aheadSize f0_solved f4_blockCount f4_blockLength f4_lastIsFree f4_stale : Int32) (ai : Nat → Nat → Int32) (al : Nat → Nat → Int64) (w0 w1 w2 w3 : Nat) : (Nat → Prop) → Array Value → State → Outcome → State → Prop := fun A => QV (fun t => ∃ (n_f2_roundSupports : Int32), (True) ∧ WO dC dI (TY cI cJ cII cJJ) (WX cI cJ cII cJJ ad f3_unknowns f3_equations n_f2_roundSupports f2_stale f7_size f1_size f5_keptSize f5_aheadSize f0_solved f4_blockCount f4_blockLength f4_lastIsFree f4_stale ai al w0 w1 w2 w3) A t) A
set_option maxRecDepth 100000 in
set_option maxHeartbeats 4000000 in
theorem m046_X2_findRoundSupports_b74 {p : Program} {l : Launch} {e : Env} {s : State} {m : MethodId} {args : Array Value} {below : List Frame} {meth : Method} {c : Code} {A : Nat → Prop} {dC : Nat → ClassId} {dI : Nat → Nat → Nat} {cI cJ cII cJJ : ClassId} {ad : Nat → Nat} {g : Nat} {f3_unknowns f3_equations f2_stale f7_size f1_size f5_keptSize f5_aheadSize f0_solved f4_blockCount f4_blockLength f4_lastIsFree f4_stale : Int32} {ai : Nat → Nat → Int32} {al : Nat → Nat → Int64} {w0 w1 w2 w3 : Nat} (C : Cx p c s m meth args A dC dI (TY cI cJ cII cJJ) cX2_findRoundSupports none 3 RX2 0 g) (n38 : Nat) (K38 : ∀ (L1 L2 f2_roundSupports : Int32) (H : Heap) (locs : List Loc) (ls : Array Slot), (1 ≤ L2.toInt ∧ L2.toInt ≤ 19) → (1 ≤ f3_unknowns.toInt ∧ f3_unknowns.toInt ≤ 4) → (0 ≤ f3_equations.toInt ∧ f3_equations.toInt ≤ 3) → (0 ≤ f2_stale.toInt ∧ f2_stale.toInt ≤ 1) → (0 ≤ f7_size.toInt ∧ f7_size.toInt ≤ 256) → (0 ≤ f1_size.toInt ∧ f1_size.toInt ≤ 4) → (0 ≤ f5_keptSize.toInt ∧ f5_keptSize.toInt ≤ 128) → (0 ≤ f5_aheadSize.toInt ∧ f5_aheadSize.toInt ≤ 128) → (0 ≤ f4_blockCount.toInt ∧ f4_blockCount.toInt ≤ 9261) → (0 ≤ f4_blockLength.toInt ∧ f4_blockLength.toInt ≤ 21) → (0 ≤ f4_lastIsFree.toInt ∧ f4_lastIsFree.toInt ≤ 1) → (0 ≤ f4_stale.toInt ∧ f4_stale.toInt ≤ 1) → 16 - L2.toInt < (n38 : Int) → (0 : Int) < (n38 : Int) → IAX ai → RWX ad w0 → RWX ad w1 → RWX ad w2 → RWX ad w3 → va_P (dC, dI) vwCl (WX cI cJ cII cJJ ad f3_unknowns f3_equations f2_roundSupports f2_stale f7_size f1_size f5_keptSize f5_aheadSize f0_solved f4_blockCount f4_blockLength f4_lastIsFree f4_stale ai al w0 w1 w2 w3) H → va_D A (WX cI cJ cII cJJ ad f3_unknowns f3_equations f2_roundSupports f2_stale f7_size f1_size f5_keptSize f5_aheadSize f0_solved f4_blockCount f4_blockLength f4_lastIsFree f4_stale ai al w0 w1 w2 w3) → va_S A s.heap H locs → lv_has ls 3 [(0, .ref (ad 11)), (1, .int L1), (2, .int L2)] → W p l e ({ frames := 5, cells := 0, slots := 0, locals := 260 } : Room) s m args below meth c H locs 0 0 (MQ below (Q_m046_X2_findRoundSupports dC dI cI cJ cII cJJ ad f3_unknowns f3_equations f2_stale f7_size f1_size f5_keptSize f5_aheadSize f0_solved f4_blockCount f4_blockLength f4_lastIsFree f4_stale ai al w0 w1 w2 w3 A) args s 0 0 A) (F0 m 38 ls [])) : ∀ (L1 L2 f2_roundSupports : Int32) (H : Heap) (locs : List Loc) (ls : Array Slot), (1 ≤ L2.toInt ∧ L2.toInt ≤ 15) → (1 ≤ f3_unknowns.toInt ∧ f3_unknowns.toInt ≤ 4) → (0 ≤ f3_equations.toInt ∧ f3_equations.toInt ≤ 3) → (0 ≤ f2_stale.toInt ∧ f2_stale.toInt ≤ 1) → (0 ≤ f7_size.toInt ∧ f7_size.toInt ≤ 256) → (0 ≤ f1_size.toInt ∧ f1_size.toInt ≤ 4) → (0 ≤ f5_keptSize.toInt ∧ f5_keptSize.toInt ≤ 128) → (0 ≤ f5_aheadSize.toInt ∧ f5_aheadSize.toInt ≤ 128) → (0 ≤ f4_blockCount.toInt ∧ f4_blockCount.toInt ≤ 9261) → (0 ≤ f4_blockLength.toInt ∧ f4_blockLength.toInt ≤ 21) → (0 ≤ f4_lastIsFree.toInt ∧ f4_lastIsFree.toInt ≤ 1) → (0 ≤ f4_stale.toInt ∧ f4_stale.toInt ≤ 1) → L2.toInt < 16 → 16 - L2.toInt ≤ (n38 : Int) → IAX ai → RWX ad w0 → RWX ad w1 → RWX ad w2 → RWX ad w3 → va_P (dC, dI) vwCl (WX cI cJ cII cJJ ad f3_unknowns f3_equations f2_roundSupports f2_stale f7_size f1_size f5_keptSize f5_aheadSize f0_solved f4_blockCount f4_blockLength f4_lastIsFree f4_stale ai al w0 w1 w2 w3) H → va_D A (WX cI cJ cII cJJ ad f3_unknowns f3_equations f2_roundSupports f2_stale f7_size f1_size f5_keptSize f5_aheadSize f0_solved f4_blockCount f4_blockLength f4_lastIsFree f4_stale ai al w0 w1 w2 w3) → va_S A s.heap H locs → lv_has ls 3 [(0, .ref (ad 11)), (1, .int L1), (2, .int L2)] → W p l e ({ frames := 5, cells := 0, slots := 0, locals := 260 } : Room) s m args below meth c H locs 0 0 (MQ below (Q_m046_X2_findRoundSupports dC dI cI cJ cII cJJ ad f3_unknowns f3_equations f2_stale f7_size f1_size f5_keptSize f5_aheadSize f0_solved f4_blockCount f4_blockLength f4_lastIsFree f4_stale ai al w0 w1 w2 w3 A) args s 0 0 A) (F0 m 74 ls []) := by
  obtain ⟨hx, hb, hr, hml, hown, hts, hk, hA, hK, hX⟩ := id C
  intro L1 L2 f2_roundSupports H locs ls h0 h1 h2 h3 h4 h5 h6 h7 h8 h9 h10 h11 h12 h13 hI hw_w0 hw_w1 hw_w2 hw_w3 hP hD hS hl
  have ra_L1 := s_any L1
  obtain ⟨z1, e_z1⟩ : ∃ q : Int32, q = L2 + Int32.ofInt 1 := ⟨_, rfl⟩
  have g_z1 : z1.toInt = L2.toInt + 1 := by rw [e_z1]; exact n_add (a := L2.toInt) (b := 1) rfl (by decide +kernel) (by omega) (by omega)
  refine lv_iinc (v := z1) (lv' := [(2, .int z1), (0, .ref (ad 11)), (1, .int L1)]) hx hb dX2_findRoundSupports_74 hl (k := 2) rfl e_z1.symm (by decide) rfl (fun ls_1 hl_1 => ?_)
  refine lv_goto (tgt := 38) hx hb dX2_findRoundSupports_77 (by decide) ?_
  exact K38 L1 z1 f2_roundSupports _ _ _ (by omega) (by omega) (by omega) (by omega) (by omega) (by omega) (by omega) (by omega) (by omega) (by omega) (by omega) (by omega) (by omega) (by omega) hI hw_w0 hw_w1 hw_w2 hw_w3 hP hD hS (lv_sub hl_1 [1, 2, 0] rfl)
set_option maxRecDepth 100000 in
set_option maxHeartbeats 4000000 in
theorem m046_X2_findRoundSupports_b38 {p : Program} {l : Launch} {e : Env} {s : State} {m : MethodId} {args : Array Value} {below : List Frame} {meth : Method} {c : Code} {A : Nat → Prop} {dC : Nat → ClassId} {dI : Nat → Nat → Nat} {cI cJ cII cJJ : ClassId} {ad : Nat → Nat} {g : Nat} {f3_unknowns f3_equations f2_stale f7_size f1_size f5_keptSize f5_aheadSize f0_solved f4_blockCount f4_blockLength f4_lastIsFree f4_stale : Int32} {ai : Nat → Nat → Int32} {al : Nat → Nat → Int64} {w0 w1 w2 w3 : Nat} (C : Cx p c s m meth args A dC dI (TY cI cJ cII cJJ) cX2_findRoundSupports none 3 RX2 0 g) : ∀ (n : Nat), ∀ (L1 L2 f2_roundSupports : Int32) (H : Heap) (locs : List Loc) (ls : Array Slot), (1 ≤ L2.toInt ∧ L2.toInt ≤ 19) → (1 ≤ f3_unknowns.toInt ∧ f3_unknowns.toInt ≤ 4) → (0 ≤ f3_equations.toInt ∧ f3_equations.toInt ≤ 3) → (0 ≤ f2_stale.toInt ∧ f2_stale.toInt ≤ 1) → (0 ≤ f7_size.toInt ∧ f7_size.toInt ≤ 256) → (0 ≤ f1_size.toInt ∧ f1_size.toInt ≤ 4) → (0 ≤ f5_keptSize.toInt ∧ f5_keptSize.toInt ≤ 128) → (0 ≤ f5_aheadSize.toInt ∧ f5_aheadSize.toInt ≤ 128) → (0 ≤ f4_blockCount.toInt ∧ f4_blockCount.toInt ≤ 9261) → (0 ≤ f4_blockLength.toInt ∧ f4_blockLength.toInt ≤ 21) → (0 ≤ f4_lastIsFree.toInt ∧ f4_lastIsFree.toInt ≤ 1) → (0 ≤ f4_stale.toInt ∧ f4_stale.toInt ≤ 1) → 16 - L2.toInt < (n : Int) → (0 : Int) < (n : Int) → IAX ai → RWX ad w0 → RWX ad w1 → RWX ad w2 → RWX ad w3 → va_P (dC, dI) vwCl (WX cI cJ cII cJJ ad f3_unknowns f3_equations f2_roundSupports f2_stale f7_size f1_size f5_keptSize f5_aheadSize f0_solved f4_blockCount f4_blockLength f4_lastIsFree f4_stale ai al w0 w1 w2 w3) H → va_D A (WX cI cJ cII cJJ ad f3_unknowns f3_equations f2_roundSupports f2_stale f7_size f1_size f5_keptSize f5_aheadSize f0_solved f4_blockCount f4_blockLength f4_lastIsFree f4_stale ai al w0 w1 w2 w3) → va_S A s.heap H locs → lv_has ls 3 [(0, .ref (ad 11)), (1, .int L1), (2, .int L2)] → W p l e ({ frames := 5, cells := 0, slots := 0, locals := 260 } : Room) s m args below meth c H locs 0 0 (MQ below (Q_m046_X2_findRoundSupports dC dI cI cJ cII cJJ ad f3_unknowns f3_equations f2_stale f7_size f1_size f5_keptSize f5_aheadSize f0_solved f4_blockCount f4_blockLength f4_lastIsFree f4_stale ai al w0 w1 w2 w3 A) args s 0 0 A) (F0 m 38 ls []) := by
  obtain ⟨hx, hb, hr, hml, hown, hts, hk, hA, hK, hX⟩ := id C
  intro n
  induction n with
  | zero =>
    intro L1 L2 f2_roundSupports H locs ls h0 h1 h2 h3 h4 h5 h6 h7 h8 h9 h10 h11 h12 h13 hI hw_w0 hw_w1 hw_w2 hw_w3 hP hD hS hl
    exact absurd h13 (by omega)
  | succ n ih =>
    intro L1 L2 f2_roundSupports H locs ls h0 h1 h2 h3 h4 h5 h6 h7 h8 h9 h10 h11 h12 h13 hI hw_w0 hw_w1 hw_w2 hw_w3 hP hD hS hl
    have ra_L1 := s_any L1
    refine lv_iload_n hx hb dX2_findRoundSupports_38 rfl (lv_at hl 2 rfl) ?_
    refine lv_bipush (v := 16) hx hb dX2_findRoundSupports_39 (by decide) ?_
    refine lv_icmp_ge (tgt := 80) hx hb dX2_findRoundSupports_41 (by decide) (fun c1 => ?_) (fun c1 => ?_)
    · have c1 := j_le (a := 16) (b := L2.toInt) (by decide +kernel) rfl c1
      exact r2_v hx hb hr hk hS dX2_findRoundSupports_80 (fun t ht hW => ⟨f2_roundSupports, trivial, by rw [ht]; exact hP, va_K.moved hW.alike hK, hD⟩)
    · have c1 := j_nle (a := 16) (b := L2.toInt) (by decide +kernel) rfl c1
      refine lv_iload_n hx hb dX2_findRoundSupports_44 rfl (lv_at hl 1 rfl) ?_
      refine lv_iload_n hx hb dX2_findRoundSupports_45 rfl (lv_at hl 2 rfl) ?_
      refine v_ishr hx hb dX2_findRoundSupports_46 _ rfl ?_
      refine lv_topi (fun z2 e_z2 => ?_)
      refine lv_iconst (v := 1) hx hb dX2_findRoundSupports_47 (by decide) ?_
      refine v_iand hx hb dX2_findRoundSupports_48 _ rfl ?_
      refine lv_topi (fun z3 e_z3 => ?_)
      refine lv_iconst (v := 1) hx hb dX2_findRoundSupports_49 (by decide) ?_
      refine lv_icmp_ne (tgt := 74) hx hb dX2_findRoundSupports_50 (by decide) (fun c4 => ?_) (fun c4 => ?_)
      · have c4 := j_ne (a := z3.toInt) (b := 1) rfl (by decide +kernel) c4
        exact m046_X2_findRoundSupports_b74 C n ih L1 L2 f2_roundSupports _ _ _ (by omega) (by omega) (by omega) (by omega) (by omega) (by omega) (by omega) (by omega) (by omega) (by omega) (by omega) (by omega) (by omega) (by omega) hI hw_w0 hw_w1 hw_w2 hw_w3 hP hD hS (lv_sub hl [0, 1, 2] rfl)
      · have c4 := j_eq (a := z3.toInt) (b := 1) rfl (by decide +kernel) c4
        refine lv_aload_n hx hb dX2_findRoundSupports_53 rfl (lv_at hl 0 rfl) ?_
        refine lv_iload_n hx hb dX2_findRoundSupports_54 rfl (lv_at hl 1 rfl) ?_
        refine lv_iload_n hx hb dX2_findRoundSupports_55 rfl (lv_at hl 2 rfl) ?_
        have hM := m045_X2_hasSmaller l dC dI cI cJ cII cJJ H.size 0 ad f3_unknowns f3_equations f2_roundSupports f2_stale f7_size f1_size f5_keptSize f5_aheadSize f0_solved f4_blockCount f4_blockLength f4_lastIsFree f4_stale ai al w0 w1 w2 w3 L1 L2 (by omega) (by omega) (by omega) (by omega) (by omega) (by omega) (by omega) (by omega) (by omega) (by omega) (by omega) hI hw_w0 hw_w1 hw_w2 hw_w3
        refine k2V_i (q0 := 11) ⟨hx, hb, hml, hown, hts⟩ hK hP hD hS hA hX cv_RX2_130 hM ⟨by decide +kernel, by decide +kernel⟩ rfl rfl (Or.inl rfl) (rest := []) rfl rfl rfl hl.1 rfl (Nat.le_of_ble_eq_true rfl) dX2_findRoundSupports_56 ⟨Nat.le_of_ble_eq_true rfl, Nat.le_of_ble_eq_true rfl⟩ (fun r5 t H1 locs_1 ht hB hS_1 hFc => ?_)
        obtain ⟨gpr5_0, hP_2, -, hD_2⟩ := hB
        rw [ht] at hP_2
        have hD_3 := hD_2.weaken (B := A) (fun k q _ h9 => hFc q.1 h9)
        clear ht
        generalize H1 = H_4 at hP_2 hS_1 ⊢
        refine lv_if_ne (tgt := 74) hx hb dX2_findRoundSupports_59 (by decide) (fun c6 => ?_) (fun c6 => ?_)
        · have c6 := j_ne (a := r5.toInt) (b := 0) rfl (by decide +kernel) c6
          exact m046_X2_findRoundSupports_b74 C n ih L1 L2 f2_roundSupports _ _ _ (by omega) (by omega) (by omega) (by omega) (by omega) (by omega) (by omega) (by omega) (by omega) (by omega) (by omega) (by omega) (by omega) (by omega) hI hw_w0 hw_w1 hw_w2 hw_w3 hP_2 hD_3 hS_1 (lv_sub hl [0, 1, 2] rfl)
        · have c6 := j_eq (a := r5.toInt) (b := 0) rfl (by decide +kernel) c6
          refine lv_aload_n hx hb dX2_findRoundSupports_62 rfl (lv_at hl 0 rfl) ?_
          refine lv_dup hx hb dX2_findRoundSupports_63 rfl ?_
          refine gf (k := 5) hx hb hts inX2 hown hK hP_2 k_180 rfl (by decide) rfl 11 rfl (.int f2_roundSupports) rfl dX2_findRoundSupports_64 ?_
          refine lv_iconst (v := 1) hx hb dX2_findRoundSupports_67 (by decide) ?_
          refine lv_iload_n hx hb dX2_findRoundSupports_68 rfl (lv_at hl 2 rfl) ?_
          refine v_ishl hx hb dX2_findRoundSupports_69 _ rfl ?_
          refine lv_topi (fun z7 e_z7 => ?_)
          refine v_ior hx hb dX2_findRoundSupports_70 _ rfl ?_
          refine lv_topi (fun z8 e_z8 => ?_)
          refine pf (k := 5) hx hb hts inX2 tyX2_ok nmX2 hown hK hP_2 hD_3 hS_1 k_180 rfl (by decide) rfl rfl 11 rfl rfl rfl (Nat.le_of_ble_eq_true rfl) dX2_findRoundSupports_71 (W' := (WX cI cJ cII cJJ ad f3_unknowns f3_equations z8 f2_stale f7_size f1_size f5_keptSize f5_aheadSize f0_solved f4_blockCount f4_blockLength f4_lastIsFree f4_stale ai al w0 w1 w2 w3)) rfl (fun H_5 locs_5 hP_5 hD_5 hS_5 => ?_)
          exact m046_X2_findRoundSupports_b74 C n ih L1 L2 z8 _ _ _ (by omega) (by omega) (by omega) (by omega) (by omega) (by omega) (by omega) (by omega) (by omega) (by omega) (by omega) (by omega) (by omega) (by omega) hI hw_w0 hw_w1 hw_w2 hw_w3 hP_5 hD_5 hS_5 (lv_sub hl [0, 1, 2] rfl)
set_option maxRecDepth 100000 in
set_option maxHeartbeats 4000000 in
theorem m046_X2_findRoundSupports_b4 {p : Program} {l : Launch} {e : Env} {s : State} {m : MethodId} {args : Array Value} {below : List Frame} {meth : Method} {c : Code} {A : Nat → Prop} {dC : Nat → ClassId} {dI : Nat → Nat → Nat} {cI cJ cII cJJ : ClassId} {ad : Nat → Nat} {g : Nat} {f3_unknowns f3_equations f2_stale f7_size f1_size f5_keptSize f5_aheadSize f0_solved f4_blockCount f4_blockLength f4_lastIsFree f4_stale : Int32} {ai : Nat → Nat → Int32} {al : Nat → Nat → Int64} {w0 w1 w2 w3 : Nat} (C : Cx p c s m meth args A dC dI (TY cI cJ cII cJJ) cX2_findRoundSupports none 3 RX2 0 g) : ∀ (n : Nat), ∀ (L1 L2 f2_roundSupports : Int32) (H : Heap) (locs : List Loc) (ls : Array Slot), (0 ≤ L2.toInt ∧ L2.toInt ≤ 256) → (1 ≤ f3_unknowns.toInt ∧ f3_unknowns.toInt ≤ 4) → (0 ≤ f3_equations.toInt ∧ f3_equations.toInt ≤ 3) → (0 ≤ f2_stale.toInt ∧ f2_stale.toInt ≤ 1) → (0 ≤ f7_size.toInt ∧ f7_size.toInt ≤ 256) → (0 ≤ f1_size.toInt ∧ f1_size.toInt ≤ 4) → (0 ≤ f5_keptSize.toInt ∧ f5_keptSize.toInt ≤ 128) → (0 ≤ f5_aheadSize.toInt ∧ f5_aheadSize.toInt ≤ 128) → (0 ≤ f4_blockCount.toInt ∧ f4_blockCount.toInt ≤ 9261) → (0 ≤ f4_blockLength.toInt ∧ f4_blockLength.toInt ≤ 21) → (0 ≤ f4_lastIsFree.toInt ∧ f4_lastIsFree.toInt ≤ 1) → (0 ≤ f4_stale.toInt ∧ f4_stale.toInt ≤ 1) → f7_size.toInt - L2.toInt < (n : Int) → (0 : Int) < (n : Int) → IAX ai → RWX ad w0 → RWX ad w1 → RWX ad w2 → RWX ad w3 → va_P (dC, dI) vwCl (WX cI cJ cII cJJ ad f3_unknowns f3_equations f2_roundSupports f2_stale f7_size f1_size f5_keptSize f5_aheadSize f0_solved f4_blockCount f4_blockLength f4_lastIsFree f4_stale ai al w0 w1 w2 w3) H → va_D A (WX cI cJ cII cJJ ad f3_unknowns f3_equations f2_roundSupports f2_stale f7_size f1_size f5_keptSize f5_aheadSize f0_solved f4_blockCount f4_blockLength f4_lastIsFree f4_stale ai al w0 w1 w2 w3) → va_S A s.heap H locs → lv_has ls 3 [(0, .ref (ad 11)), (1, .int L1), (2, .int L2)] → W p l e ({ frames := 5, cells := 0, slots := 0, locals := 260 } : Room) s m args below meth c H locs 0 0 (MQ below (Q_m046_X2_findRoundSupports dC dI cI cJ cII cJJ ad f3_unknowns f3_equations f2_stale f7_size f1_size f5_keptSize f5_aheadSize f0_solved f4_blockCount f4_blockLength f4_lastIsFree f4_stale ai al w0 w1 w2 w3 A) args s 0 0 A) (F0 m 4 ls []) := by
  obtain ⟨hx, hb, hr, hml, hown, hts, hk, hA, hK, hX⟩ := id C
  intro n
  induction n with
  | zero =>
    intro L1 L2 f2_roundSupports H locs ls h0 h1 h2 h3 h4 h5 h6 h7 h8 h9 h10 h11 h12 h13 hI hw_w0 hw_w1 hw_w2 hw_w3 hP hD hS hl
    exact absurd h13 (by omega)
  | succ n ih =>
    intro L1 L2 f2_roundSupports H locs ls h0 h1 h2 h3 h4 h5 h6 h7 h8 h9 h10 h11 h12 h13 hI hw_w0 hw_w1 hw_w2 hw_w3 hP hD hS hl
    have ra_L1 := s_any L1
    refine lv_iload_n hx hb dX2_findRoundSupports_4 rfl (lv_at hl 2 rfl) ?_
    refine lv_aload_n hx hb dX2_findRoundSupports_5 rfl (lv_at hl 0 rfl) ?_
    refine gf (k := 1) hx hb hts inX2 hown hK hP k_176 rfl (by decide) rfl 11 rfl (.ref (ad 12)) rfl dX2_findRoundSupports_6 ?_
    have hM := m021_X7_size l dC dI cI cJ cII cJJ H.size 0 ad f3_unknowns f3_equations f2_roundSupports f2_stale f7_size f1_size f5_keptSize f5_aheadSize f0_solved f4_blockCount f4_blockLength f4_lastIsFree f4_stale ai al w0 w1 w2 w3 (by omega) (by omega) (by omega) (by omega) (by omega) (by omega) (by omega) (by omega) (by omega) (by omega) (by omega) hI hw_w0 hw_w1 hw_w2 hw_w3
    refine k2V_i (q0 := 12) ⟨hx, hb, hml, hown, hts⟩ hK hP hD hS hA hX cv_RX2_84 hM ⟨by decide +kernel, by decide +kernel⟩ rfl rfl (Or.inl rfl) (rest := [.int L2]) rfl rfl rfl hl.1 rfl (Nat.le_of_ble_eq_true rfl) dX2_findRoundSupports_9 ⟨Nat.le_of_ble_eq_true rfl, Nat.le_of_ble_eq_true rfl⟩ (fun r1 t H1 locs_1 ht hB hS_1 hFc => ?_)
    obtain ⟨⟨gpr1_0, gpr1_1⟩, hP_2, -, hD_2⟩ := hB
    rw [ht] at hP_2
    have hD_3 := hD_2.weaken (B := A) (fun k q _ h9 => hFc q.1 h9)
    clear ht
    generalize H1 = H_4 at hP_2 hS_1 ⊢
    refine lv_icmp_ge (tgt := 31) hx hb dX2_findRoundSupports_12 (by decide) (fun c2 => ?_) (fun c2 => ?_)
    · have c2 := j_le (a := r1.toInt) (b := L2.toInt) rfl rfl c2
      refine lv_aload_n hx hb dX2_findRoundSupports_31 rfl (lv_at hl 0 rfl) ?_
      refine lv_iconst (v := 0) hx hb dX2_findRoundSupports_32 (by decide) ?_
      refine pf (k := 5) hx hb hts inX2 tyX2_ok nmX2 hown hK hP_2 hD_3 hS_1 k_180 rfl (by decide) rfl rfl 11 rfl rfl rfl (Nat.le_of_ble_eq_true rfl) dX2_findRoundSupports_33 (W' := (WX cI cJ cII cJJ ad f3_unknowns f3_equations 0 f2_stale f7_size f1_size f5_keptSize f5_aheadSize f0_solved f4_blockCount f4_blockLength f4_lastIsFree f4_stale ai al w0 w1 w2 w3)) rfl (fun H_5 locs_5 hP_5 hD_5 hS_5 => ?_)
      refine lv_iconst (v := 1) hx hb dX2_findRoundSupports_36 (by decide) ?_
      refine lv_istore_n (lv' := [(2, .int 1), (0, .ref (ad 11)), (1, .int L1)]) hx hb dX2_findRoundSupports_37 rfl hl (by decide) rfl (fun ls_6 hl_6 => ?_)
      exact m046_X2_findRoundSupports_b38 C  _ L1 1 0 _ _ _ (by first | omega | decide | (have ka0 := (by decide +kernel : (0 : Int32).toInt = 0); have ka1 := (by decide +kernel : (1 : Int32).toInt = 1); omega)) (by first | omega | decide | (have ka0 := (by decide +kernel : (0 : Int32).toInt = 0); have ka1 := (by decide +kernel : (1 : Int32).toInt = 1); omega)) (by first | omega | decide | (have ka0 := (by decide +kernel : (0 : Int32).toInt = 0); have ka1 := (by decide +kernel : (1 : Int32).toInt = 1); omega)) (by first | omega | decide | (have ka0 := (by decide +kernel : (0 : Int32).toInt = 0); have ka1 := (by decide +kernel : (1 : Int32).toInt = 1); omega)) (by first | omega | decide | (have ka0 := (by decide +kernel : (0 : Int32).toInt = 0); have ka1 := (by decide +kernel : (1 : Int32).toInt = 1); omega)) (by first | omega | decide | (have ka0 := (by decide +kernel : (0 : Int32).toInt = 0); have ka1 := (by decide +kernel : (1 : Int32).toInt = 1); omega)) (by first | omega | decide | (have ka0 := (by decide +kernel : (0 : Int32).toInt = 0); have ka1 := (by decide +kernel : (1 : Int32).toInt = 1); omega)) (by first | omega | decide | (have ka0 := (by decide +kernel : (0 : Int32).toInt = 0); have ka1 := (by decide +kernel : (1 : Int32).toInt = 1); omega)) (by first | omega | decide | (have ka0 := (by decide +kernel : (0 : Int32).toInt = 0); have ka1 := (by decide +kernel : (1 : Int32).toInt = 1); omega)) (by first | omega | decide | (have ka0 := (by decide +kernel : (0 : Int32).toInt = 0); have ka1 := (by decide +kernel : (1 : Int32).toInt = 1); omega)) (by first | omega | decide | (have ka0 := (by decide +kernel : (0 : Int32).toInt = 0); have ka1 := (by decide +kernel : (1 : Int32).toInt = 1); omega)) (by first | omega | decide | (have ka0 := (by decide +kernel : (0 : Int32).toInt = 0); have ka1 := (by decide +kernel : (1 : Int32).toInt = 1); omega)) (j_fuel _) (by omega) hI hw_w0 hw_w1 hw_w2 hw_w3 hP_5 hD_5 hS_5 (lv_sub hl_6 [1, 2, 0] rfl)
    · have c2 := j_nle (a := r1.toInt) (b := L2.toInt) rfl rfl c2
      refine lv_iload_n hx hb dX2_findRoundSupports_15 rfl (lv_at hl 1 rfl) ?_
      refine lv_iconst (v := 1) hx hb dX2_findRoundSupports_16 (by decide) ?_
      refine lv_aload_n hx hb dX2_findRoundSupports_17 rfl (lv_at hl 0 rfl) ?_
      refine lv_iload_n hx hb dX2_findRoundSupports_18 rfl (lv_at hl 2 rfl) ?_
      have hM := m037_X2_supportOf l dC dI cI cJ cII cJJ H_4.size 0 ad f3_unknowns f3_equations f2_roundSupports f2_stale f7_size f1_size f5_keptSize f5_aheadSize f0_solved f4_blockCount f4_blockLength f4_lastIsFree f4_stale ai al w0 w1 w2 w3 L2 (by omega) (by omega) (by omega) (by omega) (by omega) (by omega) (by omega) (by omega) (by omega) (by omega) (by omega) (by omega) hI hw_w0 hw_w1 hw_w2 hw_w3
      refine k2V_i (q0 := 11) ⟨hx, hb, hml, hown, hts⟩ hK hP_2 hD_3 hS_1 hA hX cv_RX2_94 hM ⟨by decide +kernel, by decide +kernel⟩ rfl rfl (Or.inl rfl) (rest := [.int 1, .int L1]) rfl rfl rfl hl.1 rfl (Nat.le_of_ble_eq_true rfl) dX2_findRoundSupports_19 ⟨Nat.le_of_ble_eq_true rfl, Nat.le_of_ble_eq_true rfl⟩ (fun r3 t H1 locs_7 ht hB hS_7 hFc => ?_)
      obtain ⟨-, hP_8, -, hD_8⟩ := hB
      rw [ht] at hP_8
      have hD_9 := hD_8.weaken (B := A) (fun k q _ h9 => hFc q.1 h9)
      clear ht
      generalize H1 = H_10 at hP_8 hS_7 ⊢
      refine v_ishl hx hb dX2_findRoundSupports_22 _ rfl ?_
      refine lv_topi (fun z4 e_z4 => ?_)
      refine v_ior hx hb dX2_findRoundSupports_23 _ rfl ?_
      refine lv_topi (fun z5 e_z5 => ?_)
      refine lv_istore_n (lv' := [(1, .int z5), (0, .ref (ad 11)), (2, .int L2)]) hx hb dX2_findRoundSupports_24 rfl hl (by decide) rfl (fun ls_11 hl_11 => ?_)
      obtain ⟨z6, e_z6⟩ : ∃ q : Int32, q = L2 + Int32.ofInt 1 := ⟨_, rfl⟩
      have g_z6 : z6.toInt = L2.toInt + 1 := by rw [e_z6]; exact n_add (a := L2.toInt) (b := 1) rfl (by decide +kernel) (by omega) (by omega)
      refine lv_iinc (v := z6) (lv' := [(2, .int z6), (1, .int z5), (0, .ref (ad 11))]) hx hb dX2_findRoundSupports_25 hl_11 (k := 2) rfl e_z6.symm (by decide) rfl (fun ls_12 hl_12 => ?_)
      refine lv_goto (tgt := 4) hx hb dX2_findRoundSupports_28 (by decide) ?_
      exact ih z5 z6 f2_roundSupports _ _ _ (by omega) (by omega) (by omega) (by omega) (by omega) (by omega) (by omega) (by omega) (by omega) (by omega) (by omega) (by omega) (by omega) (by omega) hI hw_w0 hw_w1 hw_w2 hw_w3 hP_8 hD_9 hS_7 (lv_sub hl_12 [2, 1, 0] rfl)
set_option maxRecDepth 100000 in
set_option maxHeartbeats 4000000 in
theorem m046_X2_findRoundSupports (l : Launch) (dC : Nat → ClassId) (dI : Nat → Nat → Nat) (cI cJ cII cJJ : ClassId) (sz g : Nat) (ad : Nat → Nat) (f3_unknowns f3_equations f2_roundSupports f2_stale f7_size f1_size f5_keptSize f5_aheadSize f0_solved f4_blockCount f4_blockLength f4_lastIsFree f4_stale : Int32) (ai : Nat → Nat → Int32) (al : Nat → Nat → Int64) (w0 w1 w2 w3 : Nat) (h_f3_unknowns : (1 ≤ f3_unknowns.toInt ∧ f3_unknowns.toInt ≤ 4)) (h_f3_equations : (0 ≤ f3_equations.toInt ∧ f3_equations.toInt ≤ 3)) (h_f2_stale : (0 ≤ f2_stale.toInt ∧ f2_stale.toInt ≤ 1)) (h_f7_size : (0 ≤ f7_size.toInt ∧ f7_size.toInt ≤ 256)) (h_f1_size : (0 ≤ f1_size.toInt ∧ f1_size.toInt ≤ 4)) (h_f5_keptSize : (0 ≤ f5_keptSize.toInt ∧ f5_keptSize.toInt ≤ 128)) (h_f5_aheadSize : (0 ≤ f5_aheadSize.toInt ∧ f5_aheadSize.toInt ≤ 128)) (h_f4_blockCount : (0 ≤ f4_blockCount.toInt ∧ f4_blockCount.toInt ≤ 9261)) (h_f4_blockLength : (0 ≤ f4_blockLength.toInt ∧ f4_blockLength.toInt ≤ 21)) (h_f4_lastIsFree : (0 ≤ f4_lastIsFree.toInt ∧ f4_lastIsFree.toInt ≤ 1)) (h_f4_stale : (0 ≤ f4_stale.toInt ∧ f4_stale.toInt ≤ 1)) (hI : IAX ai) (hw_w0 : RWX ad w0) (hw_w1 : RWX ad w1) (hw_w2 : RWX ad w2) (hw_w3 : RWX ad w3) : Met l yX2_findRoundSupports (.code yX2_findRoundSupports cX2_findRoundSupports 3 none :: TT) ({ frames := 5, cells := 0, slots := 0, locals := 260 } : Room) (PcS dC dI (TY cI cJ cII cJJ) [.ref (ad 11)] (WX cI cJ cII cJJ ad f3_unknowns f3_equations f2_roundSupports f2_stale f7_size f1_size f5_keptSize f5_aheadSize f0_solved f4_blockCount f4_blockLength f4_lastIsFree f4_stale ai al w0 w1 w2 w3) sz 0 g) (Q_m046_X2_findRoundSupports dC dI cI cJ cII cJJ ad f3_unknowns f3_equations f2_stale f7_size f1_size f5_keptSize f5_aheadSize f0_solved f4_blockCount f4_blockLength f4_lastIsFree f4_stale ai al w0 w1 w2 w3 (va_A (WX cI cJ cII cJJ ad f3_unknowns f3_equations f2_roundSupports f2_stale f7_size f1_size f5_keptSize f5_aheadSize f0_solved f4_blockCount f4_blockLength f4_lastIsFree f4_stale ai al w0 w1 w2 w3) sz)) 0 0 (va_A (WX cI cJ cII cJJ ad f3_unknowns f3_equations f2_roundSupports f2_stale f7_size f1_size f5_keptSize f5_aheadSize f0_solved f4_blockCount f4_blockLength f4_lastIsFree f4_stale ai al w0 w1 w2 w3) sz) := by
  refine SM.of (y := yX2_findRoundSupports) (maxL := 3) (av := [.ref (ad 11)]) (Q_m046_X2_findRoundSupports dC dI cI cJ cII cJJ ad f3_unknowns f3_equations f2_stale f7_size f1_size f5_keptSize f5_aheadSize f0_solved f4_blockCount f4_blockLength f4_lastIsFree f4_stale ai al w0 w1 w2 w3) (by decide +kernel) (Nat.le_of_ble_eq_true rfl) (fun p e s m below meth c A ls hx hb hr hml hown hts hk hnm hA hK hP hD hS hX hl => ?_)
  have C : Cx p c s m meth (([.ref (ad 11)] : List Value).toArray) A dC dI (TY cI cJ cII cJJ) cX2_findRoundSupports none 3 RX2 0 g := ⟨hx, hb, hr, hml, hown, hts, hk, hA, hK, hX⟩
  have hown : s.vm.findClass RX2 = some m.cls := hown
  have hl : lv_has ls 3 [(0, .ref (ad 11))] := hl
  obtain ⟨H, hH⟩ : ∃ q, q = s.heap := ⟨_, rfl⟩
  rw [← hH] at hP
  have hS : va_S A s.heap H [] := by rw [hH]; exact hS
  rw [← hH]
  refine lv_iconst (v := 0) hx hb dX2_findRoundSupports_0 (by decide) ?_
  refine lv_istore_n (lv' := [(1, .int 0), (0, .ref (ad 11))]) hx hb dX2_findRoundSupports_1 rfl hl (by decide) rfl (fun ls_1 hl_1 => ?_)
  refine lv_iconst (v := 0) hx hb dX2_findRoundSupports_2 (by decide) ?_
  refine lv_istore_n (lv' := [(2, .int 0), (1, .int 0), (0, .ref (ad 11))]) hx hb dX2_findRoundSupports_3 rfl hl_1 (by decide) rfl (fun ls_2 hl_2 => ?_)
  exact m046_X2_findRoundSupports_b4 C  _ 0 0 f2_roundSupports _ _ _ (by first | omega | decide | (have ka0 := (by decide +kernel : (0 : Int32).toInt = 0); omega)) (by first | omega | decide | (have ka0 := (by decide +kernel : (0 : Int32).toInt = 0); omega)) (by first | omega | decide | (have ka0 := (by decide +kernel : (0 : Int32).toInt = 0); omega)) (by first | omega | decide | (have ka0 := (by decide +kernel : (0 : Int32).toInt = 0); omega)) (by first | omega | decide | (have ka0 := (by decide +kernel : (0 : Int32).toInt = 0); omega)) (by first | omega | decide | (have ka0 := (by decide +kernel : (0 : Int32).toInt = 0); omega)) (by first | omega | decide | (have ka0 := (by decide +kernel : (0 : Int32).toInt = 0); omega)) (by first | omega | decide | (have ka0 := (by decide +kernel : (0 : Int32).toInt = 0); omega)) (by first | omega | decide | (have ka0 := (by decide +kernel : (0 : Int32).toInt = 0); omega)) (by first | omega | decide | (have ka0 := (by decide +kernel : (0 : Int32).toInt = 0); omega)) (by first | omega | decide | (have ka0 := (by decide +kernel : (0 : Int32).toInt = 0); omega)) (by first | omega | decide | (have ka0 := (by decide +kernel : (0 : Int32).toInt = 0); omega)) (j_fuel _) (by omega) hI hw_w0 hw_w1 hw_w2 hw_w3 hP hD hS (lv_sub hl_2 [2, 1, 0] rfl)
def Q_m047_J7_fill_53178 (dC : Nat → ClassId) (dI : Nat → Nat → Nat) (cI cJ cII cJJ : ClassId) (ad : Nat → Nat) (f3_unknowns f3_equations f2_roundSupports f2_stale f7_size f1_size f5_keptSize f5_aheadSize f0_solved f4_blockCount f4_blockLength f4_lastIsFree f4_stale : Int32) (ai0 : Nat → Nat → Int32) (al : Nat → Nat → Int64) (w0 w1 w2 w3 : Nat) : (Nat → Prop) → Array Value → State → Outcome → State → Prop := fun A => QV (fun t => ∃ (n_ai : Nat → Nat → Int32), (IAX n_ai ∧ FR [60] ai0 n_ai) ∧ WO dC dI (TY cI cJ cII cJJ) (WX cI cJ cII cJJ ad f3_unknowns f3_equations f2_roundSupports f2_stale f7_size f1_size f5_keptSize f5_aheadSize f0_solved f4_blockCount f4_blockLength f4_lastIsFree f4_stale n_ai al w0 w1 w2 w3) A t) A
set_option maxRecDepth 100000 in
set_option maxHeartbeats 4000000 in
theorem m047_J7_fill_53178_b5 {p : Program} {l : Launch} {e : Env} {s : State} {m : MethodId} {args : Array Value} {below : List Frame} {meth : Method} {c : Code} {A : Nat → Prop} {dC : Nat → ClassId} {dI : Nat → Nat → Nat} {cI cJ cII cJJ : ClassId} {ad : Nat → Nat} {g : Nat} {f3_unknowns f3_equations f2_roundSupports f2_stale f7_size f1_size f5_keptSize f5_aheadSize f0_solved f4_blockCount f4_blockLength f4_lastIsFree f4_stale : Int32} {ai0 : Nat → Nat → Int32} {al : Nat → Nat → Int64} {w0 w1 w2 w3 : Nat} (C : Cx p c s m meth args A dC dI (TY cI cJ cII cJJ) cJ7_fill_53178 none 4 RJ7 0 g) : ∀ (n : Nat), ∀ (L2 : Int32) (ai : Nat → Nat → Int32) (H : Heap) (locs : List Loc) (ls : Array Slot), (0 ≤ L2.toInt ∧ L2.toInt ≤ 4) → (1 ≤ f3_unknowns.toInt ∧ f3_unknowns.toInt ≤ 4) → (0 ≤ f3_equations.toInt ∧ f3_equations.toInt ≤ 3) → (0 ≤ f2_stale.toInt ∧ f2_stale.toInt ≤ 1) → (0 ≤ f7_size.toInt ∧ f7_size.toInt ≤ 256) → (0 ≤ f1_size.toInt ∧ f1_size.toInt ≤ 4) → (0 ≤ f5_keptSize.toInt ∧ f5_keptSize.toInt ≤ 128) → (0 ≤ f5_aheadSize.toInt ∧ f5_aheadSize.toInt ≤ 128) → (0 ≤ f4_blockCount.toInt ∧ f4_blockCount.toInt ≤ 9261) → (0 ≤ f4_blockLength.toInt ∧ f4_blockLength.toInt ≤ 21) → (0 ≤ f4_lastIsFree.toInt ∧ f4_lastIsFree.toInt ≤ 1) → (0 ≤ f4_stale.toInt ∧ f4_stale.toInt ≤ 1) → 4 - L2.toInt < (n : Int) → (0 : Int) < (n : Int) → IAX ai → FR [60] ai0 ai → RWX ad w0 → RWX ad w1 → RWX ad w2 → RWX ad w3 → va_P (dC, dI) vwCl (WX cI cJ cII cJJ ad f3_unknowns f3_equations f2_roundSupports f2_stale f7_size f1_size f5_keptSize f5_aheadSize f0_solved f4_blockCount f4_blockLength f4_lastIsFree f4_stale ai al w0 w1 w2 w3) H → va_D A (WX cI cJ cII cJJ ad f3_unknowns f3_equations f2_roundSupports f2_stale f7_size f1_size f5_keptSize f5_aheadSize f0_solved f4_blockCount f4_blockLength f4_lastIsFree f4_stale ai al w0 w1 w2 w3) → va_S A s.heap H locs → lv_has ls 4 [(0, .ref (ad 60)), (1, .int 0), (2, .int L2), (3, .int 4)] → W p l e ({ frames := 2, cells := 0, slots := 0, locals := 80 } : Room) s m args below meth c H locs 0 0 (MQ below (Q_m047_J7_fill_53178 dC dI cI cJ cII cJJ ad f3_unknowns f3_equations f2_roundSupports f2_stale f7_size f1_size f5_keptSize f5_aheadSize f0_solved f4_blockCount f4_blockLength f4_lastIsFree f4_stale ai0 al w0 w1 w2 w3 A) args s 0 0 A) (F0 m 5 ls []) := by
  obtain ⟨hx, hb, hr, hml, hown, hts, hk, hA, hK, hX⟩ := id C
  intro n
  induction n with
  | zero =>
    intro L2 ai H locs ls h0 h1 h2 h3 h4 h5 h6 h7 h8 h9 h10 h11 h12 h13 hI hF hw_w0 hw_w1 hw_w2 hw_w3 hP hD hS hl
    exact absurd h13 (by omega)
  | succ n ih =>
    intro L2 ai H locs ls h0 h1 h2 h3 h4 h5 h6 h7 h8 h9 h10 h11 h12 h13 hI hF hw_w0 hw_w1 hw_w2 hw_w3 hP hD hS hl
    refine lv_iload_n hx hb dJ7_fill_53178_5 rfl (lv_at hl 2 rfl) ?_
    refine lv_iload_n hx hb dJ7_fill_53178_6 rfl (lv_at hl 3 rfl) ?_
    refine lv_icmp_ge (tgt := 20) hx hb dJ7_fill_53178_7 (by decide) (fun c1 => ?_) (fun c1 => ?_)
    · have c1 := j_le (a := 4) (b := L2.toInt) (by decide +kernel) rfl c1
      exact r2_v hx hb hr hk hS dJ7_fill_53178_20 (fun t ht hW => ⟨ai, ⟨hI, hF⟩, by rw [ht]; exact hP, va_K.moved hW.alike hK, hD⟩)
    · have c1 := j_nle (a := 4) (b := L2.toInt) (by decide +kernel) rfl c1
      refine lv_aload_n hx hb dJ7_fill_53178_10 rfl (lv_at hl 0 rfl) ?_
      refine lv_iload_n hx hb dJ7_fill_53178_11 rfl (lv_at hl 2 rfl) ?_
      refine lv_iload_n hx hb dJ7_fill_53178_12 rfl (lv_at hl 1 rfl) ?_
      refine va_iast hx hb hK hP hD hS 60 0 rfl rfl (j_in (a := L2.toInt) rfl (by omega) (by omega)) dJ7_fill_53178_13 (fun H_1 locs_1 hP_1 hD_1 hS_1 => ?_)
      obtain ⟨ai2, e_ai2⟩ : ∃ q : Nat → Nat → Int32, q = va_up ai 60 (upd (ai 60) L2.toNatClampNeg 0) := ⟨_, rfl⟩
      have hF_2 := FR_st hF e_ai2 (by decide)
      have hI_3 : IAX ai2 := by rw [e_ai2]; exact hI
      have hP_4 : va_P (dC, dI) vwCl (WX cI cJ cII cJJ ad f3_unknowns f3_equations f2_roundSupports f2_stale f7_size f1_size f5_keptSize f5_aheadSize f0_solved f4_blockCount f4_blockLength f4_lastIsFree f4_stale ai2 al w0 w1 w2 w3) H_1 := by rw [e_ai2]; exact hP_1
      have hD_5 : va_D A (WX cI cJ cII cJJ ad f3_unknowns f3_equations f2_roundSupports f2_stale f7_size f1_size f5_keptSize f5_aheadSize f0_solved f4_blockCount f4_blockLength f4_lastIsFree f4_stale ai2 al w0 w1 w2 w3) := by rw [e_ai2]; exact hD_1
      obtain ⟨z3, e_z3⟩ : ∃ q : Int32, q = L2 + Int32.ofInt 1 := ⟨_, rfl⟩
      have g_z3 : z3.toInt = L2.toInt + 1 := by rw [e_z3]; exact n_add (a := L2.toInt) (b := 1) rfl (by decide +kernel) (by omega) (by omega)
      refine lv_iinc (v := z3) (lv' := [(2, .int z3), (0, .ref (ad 60)), (1, .int 0), (3, .int 4)]) hx hb dJ7_fill_53178_14 hl (k := 2) rfl e_z3.symm (by decide) rfl (fun ls_6 hl_6 => ?_)
      refine lv_goto (tgt := 5) hx hb dJ7_fill_53178_17 (by decide) ?_
      exact ih z3 ai2 _ _ _ (by omega) (by omega) (by omega) (by omega) (by omega) (by omega) (by omega) (by omega) (by omega) (by omega) (by omega) (by omega) (by omega) (by omega) hI_3 hF_2 hw_w0 hw_w1 hw_w2 hw_w3 hP_4 hD_5 hS_1 (lv_sub hl_6 [1, 2, 0, 3] rfl)
set_option maxRecDepth 100000 in
set_option maxHeartbeats 4000000 in
theorem m047_J7_fill_53178 (l : Launch) (dC : Nat → ClassId) (dI : Nat → Nat → Nat) (cI cJ cII cJJ : ClassId) (sz g : Nat) (ad : Nat → Nat) (f3_unknowns f3_equations f2_roundSupports f2_stale f7_size f1_size f5_keptSize f5_aheadSize f0_solved f4_blockCount f4_blockLength f4_lastIsFree f4_stale : Int32) (ai : Nat → Nat → Int32) (al : Nat → Nat → Int64) (w0 w1 w2 w3 : Nat) (h_f3_unknowns : (1 ≤ f3_unknowns.toInt ∧ f3_unknowns.toInt ≤ 4)) (h_f3_equations : (0 ≤ f3_equations.toInt ∧ f3_equations.toInt ≤ 3)) (h_f2_stale : (0 ≤ f2_stale.toInt ∧ f2_stale.toInt ≤ 1)) (h_f7_size : (0 ≤ f7_size.toInt ∧ f7_size.toInt ≤ 256)) (h_f1_size : (0 ≤ f1_size.toInt ∧ f1_size.toInt ≤ 4)) (h_f5_keptSize : (0 ≤ f5_keptSize.toInt ∧ f5_keptSize.toInt ≤ 128)) (h_f5_aheadSize : (0 ≤ f5_aheadSize.toInt ∧ f5_aheadSize.toInt ≤ 128)) (h_f4_blockCount : (0 ≤ f4_blockCount.toInt ∧ f4_blockCount.toInt ≤ 9261)) (h_f4_blockLength : (0 ≤ f4_blockLength.toInt ∧ f4_blockLength.toInt ≤ 21)) (h_f4_lastIsFree : (0 ≤ f4_lastIsFree.toInt ∧ f4_lastIsFree.toInt ≤ 1)) (h_f4_stale : (0 ≤ f4_stale.toInt ∧ f4_stale.toInt ≤ 1)) (hI : IAX ai) (hw_w0 : RWX ad w0) (hw_w1 : RWX ad w1) (hw_w2 : RWX ad w2) (hw_w3 : RWX ad w3) : Met l yJ7_fill_53178 (.code yJ7_fill_53178 cJ7_fill_53178 4 none :: TT) ({ frames := 2, cells := 0, slots := 0, locals := 80 } : Room) (PcS dC dI (TY cI cJ cII cJJ) [.ref (ad 60), .int 0] (WX cI cJ cII cJJ ad f3_unknowns f3_equations f2_roundSupports f2_stale f7_size f1_size f5_keptSize f5_aheadSize f0_solved f4_blockCount f4_blockLength f4_lastIsFree f4_stale ai al w0 w1 w2 w3) sz 0 g) (Q_m047_J7_fill_53178 dC dI cI cJ cII cJJ ad f3_unknowns f3_equations f2_roundSupports f2_stale f7_size f1_size f5_keptSize f5_aheadSize f0_solved f4_blockCount f4_blockLength f4_lastIsFree f4_stale ai al w0 w1 w2 w3 (va_A (WX cI cJ cII cJJ ad f3_unknowns f3_equations f2_roundSupports f2_stale f7_size f1_size f5_keptSize f5_aheadSize f0_solved f4_blockCount f4_blockLength f4_lastIsFree f4_stale ai al w0 w1 w2 w3) sz)) 0 0 (va_A (WX cI cJ cII cJJ ad f3_unknowns f3_equations f2_roundSupports f2_stale f7_size f1_size f5_keptSize f5_aheadSize f0_solved f4_blockCount f4_blockLength f4_lastIsFree f4_stale ai al w0 w1 w2 w3) sz) := by
  refine SM.of (y := yJ7_fill_53178) (maxL := 4) (av := [.ref (ad 60), .int 0]) (Q_m047_J7_fill_53178 dC dI cI cJ cII cJJ ad f3_unknowns f3_equations f2_roundSupports f2_stale f7_size f1_size f5_keptSize f5_aheadSize f0_solved f4_blockCount f4_blockLength f4_lastIsFree f4_stale ai al w0 w1 w2 w3) (by decide +kernel) (Nat.le_of_ble_eq_true rfl) (fun p e s m below meth c A ls hx hb hr hml hown hts hk hnm hA hK hP hD hS hX hl => ?_)
  have C : Cx p c s m meth (([.ref (ad 60), .int 0] : List Value).toArray) A dC dI (TY cI cJ cII cJJ) cJ7_fill_53178 none 4 RJ7 0 g := ⟨hx, hb, hr, hml, hown, hts, hk, hA, hK, hX⟩
  have hown : s.vm.findClass RJ7 = some m.cls := hown
  have hl : lv_has ls 4 [(0, .ref (ad 60)), (1, .int 0)] := hl
  obtain ⟨H, hH⟩ : ∃ q, q = s.heap := ⟨_, rfl⟩
  rw [← hH] at hP
  have hS : va_S A s.heap H [] := by rw [hH]; exact hS
  rw [← hH]
  have hF := FR_refl [60] ai
  refine lv_iconst (v := 0) hx hb dJ7_fill_53178_0 (by decide) ?_
  refine lv_istore_n (lv' := [(2, .int 0), (0, .ref (ad 60)), (1, .int 0)]) hx hb dJ7_fill_53178_1 rfl hl (by decide) rfl (fun ls_1 hl_1 => ?_)
  refine lv_aload_n hx hb dJ7_fill_53178_2 rfl (lv_at hl_1 1 rfl) ?_
  refine al_ hx hb hK hP 60 0 rfl rfl dJ7_fill_53178_3 4 rfl ?_
  refine lv_istore_n (lv' := [(3, .int 4), (2, .int 0), (0, .ref (ad 60)), (1, .int 0)]) hx hb dJ7_fill_53178_4 rfl hl_1 (by decide) rfl (fun ls_2 hl_2 => ?_)
  exact m047_J7_fill_53178_b5 C  _ 0 ai _ _ _ (by first | omega | decide | (have ka0 := (by decide +kernel : (0 : Int32).toInt = 0); omega)) (by first | omega | decide | (have ka0 := (by decide +kernel : (0 : Int32).toInt = 0); omega)) (by first | omega | decide | (have ka0 := (by decide +kernel : (0 : Int32).toInt = 0); omega)) (by first | omega | decide | (have ka0 := (by decide +kernel : (0 : Int32).toInt = 0); omega)) (by first | omega | decide | (have ka0 := (by decide +kernel : (0 : Int32).toInt = 0); omega)) (by first | omega | decide | (have ka0 := (by decide +kernel : (0 : Int32).toInt = 0); omega)) (by first | omega | decide | (have ka0 := (by decide +kernel : (0 : Int32).toInt = 0); omega)) (by first | omega | decide | (have ka0 := (by decide +kernel : (0 : Int32).toInt = 0); omega)) (by first | omega | decide | (have ka0 := (by decide +kernel : (0 : Int32).toInt = 0); omega)) (by first | omega | decide | (have ka0 := (by decide +kernel : (0 : Int32).toInt = 0); omega)) (by first | omega | decide | (have ka0 := (by decide +kernel : (0 : Int32).toInt = 0); omega)) (by first | omega | decide | (have ka0 := (by decide +kernel : (0 : Int32).toInt = 0); omega)) (j_fuel _) (by omega) hI hF hw_w0 hw_w1 hw_w2 hw_w3 hP hD hS (lv_sub hl_2 [2, 3, 1, 0] rfl)
def Q_m048_X8_works (dC : Nat → ClassId) (dI : Nat → Nat → Nat) (cI cJ cII cJJ : ClassId) (ad : Nat → Nat) (f2_roundSupports f7_size f1_size f5_keptSize f5_aheadSize f0_solved f4_blockCount f4_blockLength f4_lastIsFree : Int32) (ai0 : Nat → Nat → Int32) (al : Nat → Nat → Int64) (w0 w1 w2 w3 : Nat) (x1 : Int32) (o_f3_unknowns : Int32) (o_f3_equations : Int32) : (Nat → Prop) → Array Value → State → Outcome → State → Prop := fun A => QI (fun r t => ∃ (n_f3_unknowns n_f3_equations n_f2_stale n_f4_stale : Int32), ∃ (n_ai : Nat → Nat → Int32), ((1 ≤ n_f3_unknowns.toInt ∧ n_f3_unknowns.toInt ≤ 4) ∧ (0 ≤ n_f3_equations.toInt ∧ n_f3_equations.toInt ≤ 3) ∧ (0 ≤ n_f2_stale.toInt ∧ n_f2_stale.toInt ≤ 1) ∧ (0 ≤ n_f4_stale.toInt ∧ n_f4_stale.toInt ≤ 1) ∧ ((x1.toInt < 1 ∧ r.toInt = -4 ∧ n_f3_unknowns.toInt = o_f3_unknowns.toInt ∧ n_f3_equations.toInt = o_f3_equations.toInt) ∨ (4 < x1.toInt ∧ r.toInt = -6 ∧ n_f3_unknowns.toInt = o_f3_unknowns.toInt ∧ n_f3_equations.toInt = o_f3_equations.toInt) ∨ (1 ≤ x1.toInt ∧ x1.toInt ≤ 4 ∧ r.toInt = 1 ∧ n_f3_unknowns.toInt = x1.toInt ∧ n_f3_equations.toInt = 0)) ∧ IAX n_ai ∧ FR [7, 8, 9, 10, 60, 63] ai0 n_ai) ∧ WO dC dI (TY cI cJ cII cJJ) (WX cI cJ cII cJJ ad n_f3_unknowns n_f3_equations f2_roundSupports n_f2_stale f7_size f1_size f5_keptSize f5_aheadSize f0_solved f4_blockCount f4_blockLength f4_lastIsFree n_f4_stale n_ai al w0 w1 w2 w3) A t) A
set_option maxRecDepth 100000 in
set_option maxHeartbeats 4000000 in
theorem m048_X8_works (l : Launch) (dC : Nat → ClassId) (dI : Nat → Nat → Nat) (cI cJ cII cJJ : ClassId) (sz g : Nat) (ad : Nat → Nat) (f3_unknowns f3_equations f2_roundSupports f2_stale f7_size f1_size f5_keptSize f5_aheadSize f0_solved f4_blockCount f4_blockLength f4_lastIsFree f4_stale : Int32) (ai : Nat → Nat → Int32) (al : Nat → Nat → Int64) (w0 w1 w2 w3 : Nat) (x1 : Int32) (h_f3_unknowns : (1 ≤ f3_unknowns.toInt ∧ f3_unknowns.toInt ≤ 4)) (h_f3_equations : (0 ≤ f3_equations.toInt ∧ f3_equations.toInt ≤ 3)) (h_f2_stale : (0 ≤ f2_stale.toInt ∧ f2_stale.toInt ≤ 1)) (h_f7_size : (0 ≤ f7_size.toInt ∧ f7_size.toInt ≤ 256)) (h_f1_size : (0 ≤ f1_size.toInt ∧ f1_size.toInt ≤ 4)) (h_f5_keptSize : (0 ≤ f5_keptSize.toInt ∧ f5_keptSize.toInt ≤ 128)) (h_f5_aheadSize : (0 ≤ f5_aheadSize.toInt ∧ f5_aheadSize.toInt ≤ 128)) (h_f4_blockCount : (0 ≤ f4_blockCount.toInt ∧ f4_blockCount.toInt ≤ 9261)) (h_f4_blockLength : (0 ≤ f4_blockLength.toInt ∧ f4_blockLength.toInt ≤ 21)) (h_f4_lastIsFree : (0 ≤ f4_lastIsFree.toInt ∧ f4_lastIsFree.toInt ≤ 1)) (h_f4_stale : (0 ≤ f4_stale.toInt ∧ f4_stale.toInt ≤ 1)) (hI : IAX ai) (hw_w0 : RWX ad w0) (hw_w1 : RWX ad w1) (hw_w2 : RWX ad w2) (hw_w3 : RWX ad w3) : Met l yX8_works (.code yX8_works cX8_works 2 (some .int) :: TT) ({ frames := 4, cells := 0, slots := 0, locals := 200 } : Room) (PcS dC dI (TY cI cJ cII cJJ) [.ref (ad 0), .int x1] (WX cI cJ cII cJJ ad f3_unknowns f3_equations f2_roundSupports f2_stale f7_size f1_size f5_keptSize f5_aheadSize f0_solved f4_blockCount f4_blockLength f4_lastIsFree f4_stale ai al w0 w1 w2 w3) sz 0 g) (Q_m048_X8_works dC dI cI cJ cII cJJ ad f2_roundSupports f7_size f1_size f5_keptSize f5_aheadSize f0_solved f4_blockCount f4_blockLength f4_lastIsFree ai al w0 w1 w2 w3 x1 f3_unknowns f3_equations (va_A (WX cI cJ cII cJJ ad f3_unknowns f3_equations f2_roundSupports f2_stale f7_size f1_size f5_keptSize f5_aheadSize f0_solved f4_blockCount f4_blockLength f4_lastIsFree f4_stale ai al w0 w1 w2 w3) sz)) 0 0 (va_A (WX cI cJ cII cJJ ad f3_unknowns f3_equations f2_roundSupports f2_stale f7_size f1_size f5_keptSize f5_aheadSize f0_solved f4_blockCount f4_blockLength f4_lastIsFree f4_stale ai al w0 w1 w2 w3) sz) := by
  refine SM.of (y := yX8_works) (maxL := 2) (av := [.ref (ad 0), .int x1]) (Q_m048_X8_works dC dI cI cJ cII cJJ ad f2_roundSupports f7_size f1_size f5_keptSize f5_aheadSize f0_solved f4_blockCount f4_blockLength f4_lastIsFree ai al w0 w1 w2 w3 x1 f3_unknowns f3_equations) (by decide +kernel) (Nat.le_of_ble_eq_true rfl) (fun p e s m below meth c A ls hx hb hr hml hown hts hk hnm hA hK hP hD hS hX hl => ?_)
  have C : Cx p c s m meth (([.ref (ad 0), .int x1] : List Value).toArray) A dC dI (TY cI cJ cII cJJ) cX8_works (some .int) 2 RX8 0 g := ⟨hx, hb, hr, hml, hown, hts, hk, hA, hK, hX⟩
  have hown : s.vm.findClass RX8 = some m.cls := hown
  have hl : lv_has ls 2 [(0, .ref (ad 0)), (1, .int x1)] := hl
  obtain ⟨H, hH⟩ : ∃ q, q = s.heap := ⟨_, rfl⟩
  rw [← hH] at hP
  have hS : va_S A s.heap H [] := by rw [hH]; exact hS
  rw [← hH]
  have hF := FR_refl [7, 8, 9, 10, 60, 63] ai
  have ra_x1 := s_any x1
  refine lv_iload_n hx hb dX8_works_0 rfl (lv_at hl 1 rfl) ?_
  refine lv_iconst (v := 1) hx hb dX8_works_1 (by decide) ?_
  refine lv_icmp_ge (tgt := 12) hx hb dX8_works_2 (by decide) (fun c1 => ?_) (fun c1 => ?_)
  · have c1 := j_le (a := 1) (b := x1.toInt) (by decide +kernel) rfl c1
    refine lv_iload_n hx hb dX8_works_12 rfl (lv_at hl 1 rfl) ?_
    refine lv_iconst (v := 4) hx hb dX8_works_13 (by decide) ?_
    refine lv_icmp_le (tgt := 24) hx hb dX8_works_14 (by decide) (fun c2 => ?_) (fun c2 => ?_)
    · have c2 := j_le (a := x1.toInt) (b := 4) rfl (by decide +kernel) c2
      refine lv_aload_n hx hb dX8_works_24 rfl (lv_at hl 0 rfl) ?_
      refine gf (k := 0) hx hb hts inX8 hown hK hP k_264 rfl (by decide) rfl 0 rfl (.ref (ad 6)) rfl dX8_works_25 ?_
      refine lv_iload_n hx hb dX8_works_28 rfl (lv_at hl 1 rfl) ?_
      have hM := m019_X3_begin l dC dI cI cJ cII cJJ H.size 0 ad f3_unknowns f3_equations f2_roundSupports f2_stale f7_size f1_size f5_keptSize f5_aheadSize f0_solved f4_blockCount f4_blockLength f4_lastIsFree f4_stale ai al w0 w1 w2 w3 x1 (by omega) (by omega) (by omega) (by omega) (by omega) (by omega) (by omega) (by omega) (by omega) (by omega) (by omega) (by omega) hI hw_w0 hw_w1 hw_w2 hw_w3
      refine k2V_v (q0 := 6) ⟨hx, hb, hml, hown, hts⟩ hK hP hD hS hA hX cv_RX8_57 hM ⟨by decide +kernel, by decide +kernel⟩ rfl rfl (Or.inl rfl) (rest := []) rfl rfl rfl hl.1 rfl (Nat.le_of_ble_eq_true rfl) dX8_works_29 ⟨Nat.le_of_ble_eq_true rfl, Nat.le_of_ble_eq_true rfl⟩ (fun t H1 locs_1 ht hB hS_1 hFc => ?_)
      obtain ⟨v4, v5, ai6, ⟨gpr3_0, gpr3_1, gpr3_2, gpr3_3, hI_2, hFr_r3⟩, hP_2, -, hD_2⟩ := hB
      have hF_3 := FR_tr hF hFr_r3 (by decide)
      rw [ht] at hP_2
      have hD_4 := hD_2.weaken (B := A) (fun k q _ h9 => hFc q.1 h9)
      clear ht
      generalize H1 = H_5 at hP_2 hS_1 ⊢
      refine lv_aload_n hx hb dX8_works_32 rfl (lv_at hl 0 rfl) ?_
      refine gf (k := 4) hx hb hts inX8 hown hK hP_2 k_268 rfl (by decide) rfl 0 rfl (.ref (ad 60)) rfl dX8_works_33 ?_
      refine lv_iconst (v := 0) hx hb dX8_works_36 (by decide) ?_
      have kc0 : (0 : Int32).toInt = 0 := by decide +kernel
      have hM := m047_J7_fill_53178 l dC dI cI cJ cII cJJ H_5.size 0 ad v4 v5 f2_roundSupports f2_stale f7_size f1_size f5_keptSize f5_aheadSize f0_solved f4_blockCount f4_blockLength f4_lastIsFree f4_stale ai6 al w0 w1 w2 w3 (by omega) (by omega) (by omega) (by omega) (by omega) (by omega) (by omega) (by omega) (by omega) (by omega) (by omega) hI_2 hw_w0 hw_w1 hw_w2 hw_w3
      refine k2S_v ⟨hx, hb, hml, hown, hts⟩ hK hP_2 hD_4 hS_1 hA hX cs_RX8_61 hM ⟨by decide +kernel, by decide +kernel⟩ rfl rfl (Or.inl rfl) (rest := []) rfl hl.1 rfl (Nat.le_of_ble_eq_true rfl) dX8_works_37 ⟨Nat.le_of_ble_eq_true rfl, Nat.le_of_ble_eq_true rfl⟩ (fun t H1 locs_6 ht hB hS_6 hFc => ?_)
      obtain ⟨ai8, ⟨hI_7, hFr_r7⟩, hP_7, -, hD_7⟩ := hB
      have hF_8 := FR_tr hF_3 hFr_r7 (by decide)
      rw [ht] at hP_7
      have hD_9 := hD_7.weaken (B := A) (fun k q _ h9 => hFc q.1 h9)
      clear ht
      generalize H1 = H_10 at hP_7 hS_6 ⊢
      refine lv_aload_n hx hb dX8_works_40 rfl (lv_at hl 0 rfl) ?_
      have hM := m004_X8_equationsChanged l dC dI cI cJ cII cJJ H_10.size 0 ad v4 v5 f2_roundSupports f2_stale f7_size f1_size f5_keptSize f5_aheadSize f0_solved f4_blockCount f4_blockLength f4_lastIsFree f4_stale ai8 al w0 w1 w2 w3 (by omega) (by omega) (by omega) (by omega) (by omega) (by omega) (by omega) (by omega) (by omega) (by omega) (by omega) hI_7 hw_w0 hw_w1 hw_w2 hw_w3
      refine k2V_v (q0 := 0) ⟨hx, hb, hml, hown, hts⟩ hK hP_7 hD_9 hS_6 hA hX cv_RX8_67 hM ⟨by decide +kernel, by decide +kernel⟩ rfl rfl (Or.inl rfl) (rest := []) rfl rfl rfl hl.1 rfl (Nat.le_of_ble_eq_true rfl) dX8_works_41 ⟨Nat.le_of_ble_eq_true rfl, Nat.le_of_ble_eq_true rfl⟩ (fun t H1 locs_11 ht hB hS_11 hFc => ?_)
      obtain ⟨v10, v11, ⟨gpr9_0, gpr9_1⟩, hP_12, -, hD_12⟩ := hB
      rw [ht] at hP_12
      have hD_13 := hD_12.weaken (B := A) (fun k q _ h9 => hFc q.1 h9)
      clear ht
      generalize H1 = H_14 at hP_12 hS_11 ⊢
      refine lv_iconst (v := 1) hx hb dX8_works_44 (by decide) ?_
      exact r2_i hx hb hr hk hS_11 dX8_works_45 (fun t ht hW => ⟨v4, v5, v10, v11, ai8, ⟨(by first | omega | decide | exact Or.inl (by decide) | exact Or.inr (by decide) | exact Or.inr (by omega)), (by first | omega | decide | exact Or.inl (by decide) | exact Or.inr (by decide) | exact Or.inr (by omega)), (by first | omega | decide | exact Or.inl (by decide) | exact Or.inr (by decide) | exact Or.inr (by omega)), (by first | omega | decide | exact Or.inl (by decide) | exact Or.inr (by decide) | exact Or.inr (by omega)), (by have kr1 : (1 : Int32).toInt = 1 := (by decide); first | omega | decide | exact Or.inl (by decide) | exact Or.inr (by decide) | exact Or.inr (by omega)), hI_7, hF_8⟩, by rw [ht]; exact hP_12, va_K.moved hW.alike hK, hD_13⟩)
    · have c2 := j_nle (a := x1.toInt) (b := 4) rfl (by decide +kernel) c2
      refine lv_aload_n hx hb dX8_works_17 rfl (lv_at hl 0 rfl) ?_
      refine lv_bipush (v := (-6)) hx hb dX8_works_18 (by decide) ?_
      have kcm6 : ((-6) : Int32).toInt = (-6) := by decide +kernel
      have hM := m003_X8_refuse l dC dI cI cJ cII cJJ H.size 0 ad f3_unknowns f3_equations f2_roundSupports f2_stale f7_size f1_size f5_keptSize f5_aheadSize f0_solved f4_blockCount f4_blockLength f4_lastIsFree f4_stale ai al w0 w1 w2 w3 (-6) (by omega) (by omega) (by omega) (by omega) (by omega) (by omega) (by omega) (by omega) (by omega) (by omega) (by omega) hI hw_w0 hw_w1 hw_w2 hw_w3
      refine k2V_i (q0 := 0) ⟨hx, hb, hml, hown, hts⟩ hK hP hD hS hA hX cv_RX8_53 hM ⟨by decide +kernel, by decide +kernel⟩ rfl rfl (Or.inl rfl) (rest := []) rfl rfl rfl hl.1 rfl (Nat.le_of_ble_eq_true rfl) dX8_works_20 ⟨Nat.le_of_ble_eq_true rfl, Nat.le_of_ble_eq_true rfl⟩ (fun r12 t H1 locs_15 ht hB hS_15 hFc => ?_)
      obtain ⟨ai13, ⟨gpr12_0, hI_16, hFr_r12⟩, hP_16, -, hD_16⟩ := hB
      have hF_17 := FR_tr hF hFr_r12 (by decide)
      rw [ht] at hP_16
      have hD_18 := hD_16.weaken (B := A) (fun k q _ h9 => hFc q.1 h9)
      clear ht
      generalize H1 = H_19 at hP_16 hS_15 ⊢
      exact r2_i hx hb hr hk hS_15 dX8_works_23 (fun t ht hW => ⟨f3_unknowns, f3_equations, f2_stale, f4_stale, ai13, ⟨(by first | omega | decide | exact Or.inl (by decide) | exact Or.inr (by decide) | exact Or.inr (by omega)), (by first | omega | decide | exact Or.inl (by decide) | exact Or.inr (by decide) | exact Or.inr (by omega)), (by first | omega | decide | exact Or.inl (by decide) | exact Or.inr (by decide) | exact Or.inr (by omega)), (by first | omega | decide | exact Or.inl (by decide) | exact Or.inr (by decide) | exact Or.inr (by omega)), (by first | omega | decide | exact Or.inl (by decide) | exact Or.inr (by decide) | exact Or.inr (by omega)), hI_16, hF_17⟩, by rw [ht]; exact hP_16, va_K.moved hW.alike hK, hD_18⟩)
  · have c1 := j_nle (a := 1) (b := x1.toInt) (by decide +kernel) rfl c1
    refine lv_aload_n hx hb dX8_works_5 rfl (lv_at hl 0 rfl) ?_
    refine lv_bipush (v := (-4)) hx hb dX8_works_6 (by decide) ?_
    have kcm4 : ((-4) : Int32).toInt = (-4) := by decide +kernel
    have hM := m003_X8_refuse l dC dI cI cJ cII cJJ H.size 0 ad f3_unknowns f3_equations f2_roundSupports f2_stale f7_size f1_size f5_keptSize f5_aheadSize f0_solved f4_blockCount f4_blockLength f4_lastIsFree f4_stale ai al w0 w1 w2 w3 (-4) (by omega) (by omega) (by omega) (by omega) (by omega) (by omega) (by omega) (by omega) (by omega) (by omega) (by omega) hI hw_w0 hw_w1 hw_w2 hw_w3
    refine k2V_i (q0 := 0) ⟨hx, hb, hml, hown, hts⟩ hK hP hD hS hA hX cv_RX8_53 hM ⟨by decide +kernel, by decide +kernel⟩ rfl rfl (Or.inl rfl) (rest := []) rfl rfl rfl hl.1 rfl (Nat.le_of_ble_eq_true rfl) dX8_works_8 ⟨Nat.le_of_ble_eq_true rfl, Nat.le_of_ble_eq_true rfl⟩ (fun r14 t H1 locs_20 ht hB hS_20 hFc => ?_)
    obtain ⟨ai15, ⟨gpr14_0, hI_21, hFr_r14⟩, hP_21, -, hD_21⟩ := hB
    have hF_22 := FR_tr hF hFr_r14 (by decide)
    rw [ht] at hP_21
    have hD_23 := hD_21.weaken (B := A) (fun k q _ h9 => hFc q.1 h9)
    clear ht
    generalize H1 = H_24 at hP_21 hS_20 ⊢
    exact r2_i hx hb hr hk hS_20 dX8_works_11 (fun t ht hW => ⟨f3_unknowns, f3_equations, f2_stale, f4_stale, ai15, ⟨(by first | omega | decide | exact Or.inl (by decide) | exact Or.inr (by decide) | exact Or.inr (by omega)), (by first | omega | decide | exact Or.inl (by decide) | exact Or.inr (by decide) | exact Or.inr (by omega)), (by first | omega | decide | exact Or.inl (by decide) | exact Or.inr (by decide) | exact Or.inr (by omega)), (by first | omega | decide | exact Or.inl (by decide) | exact Or.inr (by decide) | exact Or.inr (by omega)), (by first | omega | decide | exact Or.inl (by decide) | exact Or.inr (by decide) | exact Or.inr (by omega)), hI_21, hF_22⟩, by rw [ht]; exact hP_21, va_K.moved hW.alike hK, hD_23⟩)
def Q_m049_X8_equation (dC : Nat → ClassId) (dI : Nat → Nat → Nat) (cI cJ cII cJJ : ClassId) (ad : Nat → Nat) (f3_unknowns f2_roundSupports f7_size f1_size f5_keptSize f5_aheadSize f0_solved f4_blockCount f4_blockLength f4_lastIsFree : Int32) (ai0 : Nat → Nat → Int32) (al : Nat → Nat → Int64) (w0 w1 w2 w3 : Nat) (o_f3_equations : Int32) : (Nat → Prop) → Array Value → State → Outcome → State → Prop := fun A => QI (fun r t => ∃ (n_f3_equations n_f2_stale n_f4_stale : Int32), ∃ (n_ai : Nat → Nat → Int32), ((1 ≤ n_f3_equations.toInt ∧ n_f3_equations.toInt ≤ 3) ∧ (0 ≤ n_f2_stale.toInt ∧ n_f2_stale.toInt ≤ 1) ∧ (0 ≤ n_f4_stale.toInt ∧ n_f4_stale.toInt ≤ 1) ∧ ((3 ≤ o_f3_equations.toInt ∧ r.toInt = -6 ∧ n_f3_equations.toInt = o_f3_equations.toInt) ∨ (o_f3_equations.toInt < 3 ∧ r.toInt = o_f3_equations.toInt ∧ n_f3_equations.toInt = o_f3_equations.toInt + 1)) ∧ ((3 ≤ o_f3_equations.toInt ∧ n_ai 5 = ai0 5) ∨ (o_f3_equations.toInt < 3 ∧ n_ai 5 = upd (ai0 5) o_f3_equations.toInt.toNat 0)) ∧ IAX n_ai ∧ FR [2, 3, 4, 5, 63] ai0 n_ai) ∧ WO dC dI (TY cI cJ cII cJJ) (WX cI cJ cII cJJ ad f3_unknowns n_f3_equations f2_roundSupports n_f2_stale f7_size f1_size f5_keptSize f5_aheadSize f0_solved f4_blockCount f4_blockLength f4_lastIsFree n_f4_stale n_ai al w0 w1 w2 w3) A t) A
set_option maxRecDepth 100000 in
set_option maxHeartbeats 4000000 in
theorem m049_X8_equation (l : Launch) (dC : Nat → ClassId) (dI : Nat → Nat → Nat) (cI cJ cII cJJ : ClassId) (sz g : Nat) (ad : Nat → Nat) (f3_unknowns f3_equations f2_roundSupports f2_stale f7_size f1_size f5_keptSize f5_aheadSize f0_solved f4_blockCount f4_blockLength f4_lastIsFree f4_stale : Int32) (ai : Nat → Nat → Int32) (al : Nat → Nat → Int64) (w0 w1 w2 w3 : Nat) (h_f3_unknowns : (1 ≤ f3_unknowns.toInt ∧ f3_unknowns.toInt ≤ 4)) (h_f3_equations : (0 ≤ f3_equations.toInt ∧ f3_equations.toInt ≤ 3)) (h_f2_stale : (0 ≤ f2_stale.toInt ∧ f2_stale.toInt ≤ 1)) (h_f7_size : (0 ≤ f7_size.toInt ∧ f7_size.toInt ≤ 256)) (h_f1_size : (0 ≤ f1_size.toInt ∧ f1_size.toInt ≤ 4)) (h_f5_keptSize : (0 ≤ f5_keptSize.toInt ∧ f5_keptSize.toInt ≤ 128)) (h_f5_aheadSize : (0 ≤ f5_aheadSize.toInt ∧ f5_aheadSize.toInt ≤ 128)) (h_f4_blockCount : (0 ≤ f4_blockCount.toInt ∧ f4_blockCount.toInt ≤ 9261)) (h_f4_blockLength : (0 ≤ f4_blockLength.toInt ∧ f4_blockLength.toInt ≤ 21)) (h_f4_lastIsFree : (0 ≤ f4_lastIsFree.toInt ∧ f4_lastIsFree.toInt ≤ 1)) (h_f4_stale : (0 ≤ f4_stale.toInt ∧ f4_stale.toInt ≤ 1)) (hI : IAX ai) (hw_w0 : RWX ad w0) (hw_w1 : RWX ad w1) (hw_w2 : RWX ad w2) (hw_w3 : RWX ad w3) : Met l yX8_equation (.code yX8_equation cX8_equation 1 (some .int) :: TT) ({ frames := 4, cells := 0, slots := 0, locals := 200 } : Room) (PcS dC dI (TY cI cJ cII cJJ) [.ref (ad 0)] (WX cI cJ cII cJJ ad f3_unknowns f3_equations f2_roundSupports f2_stale f7_size f1_size f5_keptSize f5_aheadSize f0_solved f4_blockCount f4_blockLength f4_lastIsFree f4_stale ai al w0 w1 w2 w3) sz 0 g) (Q_m049_X8_equation dC dI cI cJ cII cJJ ad f3_unknowns f2_roundSupports f7_size f1_size f5_keptSize f5_aheadSize f0_solved f4_blockCount f4_blockLength f4_lastIsFree ai al w0 w1 w2 w3 f3_equations (va_A (WX cI cJ cII cJJ ad f3_unknowns f3_equations f2_roundSupports f2_stale f7_size f1_size f5_keptSize f5_aheadSize f0_solved f4_blockCount f4_blockLength f4_lastIsFree f4_stale ai al w0 w1 w2 w3) sz)) 0 0 (va_A (WX cI cJ cII cJJ ad f3_unknowns f3_equations f2_roundSupports f2_stale f7_size f1_size f5_keptSize f5_aheadSize f0_solved f4_blockCount f4_blockLength f4_lastIsFree f4_stale ai al w0 w1 w2 w3) sz) := by
  refine SM.of (y := yX8_equation) (maxL := 1) (av := [.ref (ad 0)]) (Q_m049_X8_equation dC dI cI cJ cII cJJ ad f3_unknowns f2_roundSupports f7_size f1_size f5_keptSize f5_aheadSize f0_solved f4_blockCount f4_blockLength f4_lastIsFree ai al w0 w1 w2 w3 f3_equations) (by decide +kernel) (Nat.le_of_ble_eq_true rfl) (fun p e s m below meth c A ls hx hb hr hml hown hts hk hnm hA hK hP hD hS hX hl => ?_)
  have C : Cx p c s m meth (([.ref (ad 0)] : List Value).toArray) A dC dI (TY cI cJ cII cJJ) cX8_equation (some .int) 1 RX8 0 g := ⟨hx, hb, hr, hml, hown, hts, hk, hA, hK, hX⟩
  have hown : s.vm.findClass RX8 = some m.cls := hown
  have hl : lv_has ls 1 [(0, .ref (ad 0))] := hl
  obtain ⟨H, hH⟩ : ∃ q, q = s.heap := ⟨_, rfl⟩
  rw [← hH] at hP
  have hS : va_S A s.heap H [] := by rw [hH]; exact hS
  rw [← hH]
  have hF := FR_refl [2, 3, 4, 5, 63] ai
  refine lv_aload_n hx hb dX8_equation_0 rfl (lv_at hl 0 rfl) ?_
  refine gf (k := 0) hx hb hts inX8 hown hK hP k_264 rfl (by decide) rfl 0 rfl (.ref (ad 6)) rfl dX8_equation_1 ?_
  refine gf (k := 1) hx hb hts inX3 hown hK hP k_45 rfl (by decide) rfl 6 rfl (.int f3_equations) rfl dX8_equation_4 ?_
  refine lv_iconst (v := 3) hx hb dX8_equation_7 (by decide) ?_
  refine lv_icmp_lt (tgt := 18) hx hb dX8_equation_8 (by decide) (fun c1 => ?_) (fun c1 => ?_)
  · have c1 := j_lt (a := f3_equations.toInt) (b := 3) rfl (by decide +kernel) c1
    refine lv_aload_n hx hb dX8_equation_18 rfl (lv_at hl 0 rfl) ?_
    have hM := m004_X8_equationsChanged l dC dI cI cJ cII cJJ H.size 0 ad f3_unknowns f3_equations f2_roundSupports f2_stale f7_size f1_size f5_keptSize f5_aheadSize f0_solved f4_blockCount f4_blockLength f4_lastIsFree f4_stale ai al w0 w1 w2 w3 (by omega) (by omega) (by omega) (by omega) (by omega) (by omega) (by omega) (by omega) (by omega) (by omega) (by omega) hI hw_w0 hw_w1 hw_w2 hw_w3
    refine k2V_v (q0 := 0) ⟨hx, hb, hml, hown, hts⟩ hK hP hD hS hA hX cv_RX8_67 hM ⟨by decide +kernel, by decide +kernel⟩ rfl rfl (Or.inl rfl) (rest := []) rfl rfl rfl hl.1 rfl (Nat.le_of_ble_eq_true rfl) dX8_equation_19 ⟨Nat.le_of_ble_eq_true rfl, Nat.le_of_ble_eq_true rfl⟩ (fun t H1 locs_1 ht hB hS_1 hFc => ?_)
    obtain ⟨v3, v4, ⟨gpr2_0, gpr2_1⟩, hP_2, -, hD_2⟩ := hB
    rw [ht] at hP_2
    have hD_3 := hD_2.weaken (B := A) (fun k q _ h9 => hFc q.1 h9)
    clear ht
    generalize H1 = H_4 at hP_2 hS_1 ⊢
    refine lv_aload_n hx hb dX8_equation_22 rfl (lv_at hl 0 rfl) ?_
    refine gf (k := 0) hx hb hts inX8 hown hK hP_2 k_264 rfl (by decide) rfl 0 rfl (.ref (ad 6)) rfl dX8_equation_23 ?_
    have hM := m014_X3_addEquation l dC dI cI cJ cII cJJ H_4.size 0 ad f3_unknowns f3_equations f2_roundSupports v3 f7_size f1_size f5_keptSize f5_aheadSize f0_solved f4_blockCount f4_blockLength f4_lastIsFree v4 ai al w0 w1 w2 w3 (by omega) (by omega) (by omega) (by omega) (by omega) (by omega) (by omega) (by omega) (by omega) (by omega) (by omega) hI hw_w0 hw_w1 hw_w2 hw_w3
    refine k2V_i (q0 := 6) ⟨hx, hb, hml, hown, hts⟩ hK hP_2 hD_3 hS_1 hA hX cv_RX8_74 hM ⟨by decide +kernel, by decide +kernel⟩ rfl rfl (Or.inl rfl) (rest := []) rfl rfl rfl hl.1 rfl (Nat.le_of_ble_eq_true rfl) dX8_equation_26 ⟨Nat.le_of_ble_eq_true rfl, Nat.le_of_ble_eq_true rfl⟩ (fun r5 t H1 locs_5 ht hB hS_5 hFc => ?_)
    obtain ⟨v6, ai7, ⟨gpr5_0, gpr5_1, gpr5_2, gpr5_3, gpr5_4, hI_6, hFr_r5⟩, hP_6, -, hD_6⟩ := hB
    have hF_7 := FR_tr hF hFr_r5 (by decide)
    rw [ht] at hP_6
    have hD_8 := hD_6.weaken (B := A) (fun k q _ h9 => hFc q.1 h9)
    clear ht
    generalize H1 = H_9 at hP_6 hS_5 ⊢
    exact r2_i hx hb hr hk hS_5 dX8_equation_29 (fun t ht hW => ⟨v6, v3, v4, ai7, ⟨(by first | omega | decide | exact Or.inl (by decide) | exact Or.inr (by decide) | exact Or.inr (by omega)), (by first | omega | decide | exact Or.inl (by decide) | exact Or.inr (by decide) | exact Or.inr (by omega)), (by first | omega | decide | exact Or.inl (by decide) | exact Or.inr (by decide) | exact Or.inr (by omega)), (by first | omega | decide | exact Or.inl (by decide) | exact Or.inr (by decide) | exact Or.inr (by omega)), (Or.inr ⟨by omega, gpr5_4⟩), hI_6, hF_7⟩, by rw [ht]; exact hP_6, va_K.moved hW.alike hK, hD_8⟩)
  · have c1 := j_nlt (a := f3_equations.toInt) (b := 3) rfl (by decide +kernel) c1
    refine lv_aload_n hx hb dX8_equation_11 rfl (lv_at hl 0 rfl) ?_
    refine lv_bipush (v := (-6)) hx hb dX8_equation_12 (by decide) ?_
    have kcm6 : ((-6) : Int32).toInt = (-6) := by decide +kernel
    have hM := m003_X8_refuse l dC dI cI cJ cII cJJ H.size 0 ad f3_unknowns f3_equations f2_roundSupports f2_stale f7_size f1_size f5_keptSize f5_aheadSize f0_solved f4_blockCount f4_blockLength f4_lastIsFree f4_stale ai al w0 w1 w2 w3 (-6) (by omega) (by omega) (by omega) (by omega) (by omega) (by omega) (by omega) (by omega) (by omega) (by omega) (by omega) hI hw_w0 hw_w1 hw_w2 hw_w3
    refine k2V_i (q0 := 0) ⟨hx, hb, hml, hown, hts⟩ hK hP hD hS hA hX cv_RX8_53 hM ⟨by decide +kernel, by decide +kernel⟩ rfl rfl (Or.inl rfl) (rest := []) rfl rfl rfl hl.1 rfl (Nat.le_of_ble_eq_true rfl) dX8_equation_14 ⟨Nat.le_of_ble_eq_true rfl, Nat.le_of_ble_eq_true rfl⟩ (fun r8 t H1 locs_10 ht hB hS_10 hFc => ?_)
    obtain ⟨ai9, ⟨gpr8_0, hI_11, hFr_r8⟩, hP_11, -, hD_11⟩ := hB
    have hF_12 := FR_tr hF hFr_r8 (by decide)
    rw [ht] at hP_11
    have hD_13 := hD_11.weaken (B := A) (fun k q _ h9 => hFc q.1 h9)
    clear ht
    generalize H1 = H_14 at hP_11 hS_10 ⊢
    exact r2_i hx hb hr hk hS_10 dX8_equation_17 (fun t ht hW => ⟨f3_equations, f2_stale, f4_stale, ai9, ⟨(by first | omega | decide | exact Or.inl (by decide) | exact Or.inr (by decide) | exact Or.inr (by omega)), (by first | omega | decide | exact Or.inl (by decide) | exact Or.inr (by decide) | exact Or.inr (by omega)), (by first | omega | decide | exact Or.inl (by decide) | exact Or.inr (by decide) | exact Or.inr (by omega)), (by first | omega | decide | exact Or.inl (by decide) | exact Or.inr (by decide) | exact Or.inr (by omega)), (Or.inl ⟨by omega, hFr_r8 5 (by decide)⟩), hI_11, hF_12⟩, by rw [ht]; exact hP_11, va_K.moved hW.alike hK, hD_13⟩)
def Q_m050_X8_put (dC : Nat → ClassId) (dI : Nat → Nat → Nat) (cI cJ cII cJJ : ClassId) (ad : Nat → Nat) (f3_unknowns f3_equations f2_roundSupports f7_size f1_size f5_keptSize f5_aheadSize f0_solved f4_blockCount f4_blockLength f4_lastIsFree : Int32) (ai0 : Nat → Nat → Int32) (al : Nat → Nat → Int64) (w0 w1 w2 w3 : Nat) : (Nat → Prop) → Array Value → State → Outcome → State → Prop := fun A => QI (fun r t => ∃ (n_f2_stale n_f4_stale : Int32), ∃ (n_ai : Nat → Nat → Int32), ((0 ≤ n_f2_stale.toInt ∧ n_f2_stale.toInt ≤ 1) ∧ (0 ≤ n_f4_stale.toInt ∧ n_f4_stale.toInt ≤ 1) ∧ IAX n_ai ∧ FR [2, 3, 4, 63] ai0 n_ai) ∧ WO dC dI (TY cI cJ cII cJJ) (WX cI cJ cII cJJ ad f3_unknowns f3_equations f2_roundSupports n_f2_stale f7_size f1_size f5_keptSize f5_aheadSize f0_solved f4_blockCount f4_blockLength f4_lastIsFree n_f4_stale n_ai al w0 w1 w2 w3) A t) A
set_option maxRecDepth 100000 in
set_option maxHeartbeats 4000000 in
theorem m050_X8_put_b22 {p : Program} {l : Launch} {e : Env} {s : State} {m : MethodId} {args : Array Value} {below : List Frame} {meth : Method} {c : Code} {A : Nat → Prop} {dC : Nat → ClassId} {dI : Nat → Nat → Nat} {cI cJ cII cJJ : ClassId} {ad : Nat → Nat} {g : Nat} {f3_unknowns f3_equations f2_roundSupports f7_size f1_size f5_keptSize f5_aheadSize f0_solved f4_blockCount f4_blockLength f4_lastIsFree : Int32} {ai0 : Nat → Nat → Int32} {al : Nat → Nat → Int64} {w0 w1 w2 w3 : Nat} (C : Cx p c s m meth args A dC dI (TY cI cJ cII cJJ) cX8_put (some .int) 5 RX8 0 g) : ∀ (L1 L2 L3 f2_stale f4_stale : Int32) (ai : Nat → Nat → Int32) (H : Heap) (locs : List Loc) (ls : Array Slot), (1 ≤ f3_unknowns.toInt ∧ f3_unknowns.toInt ≤ 4) → (0 ≤ f3_equations.toInt ∧ f3_equations.toInt ≤ 3) → (0 ≤ f2_stale.toInt ∧ f2_stale.toInt ≤ 1) → (0 ≤ f7_size.toInt ∧ f7_size.toInt ≤ 256) → (0 ≤ f1_size.toInt ∧ f1_size.toInt ≤ 4) → (0 ≤ f5_keptSize.toInt ∧ f5_keptSize.toInt ≤ 128) → (0 ≤ f5_aheadSize.toInt ∧ f5_aheadSize.toInt ≤ 128) → (0 ≤ f4_blockCount.toInt ∧ f4_blockCount.toInt ≤ 9261) → (0 ≤ f4_blockLength.toInt ∧ f4_blockLength.toInt ≤ 21) → (0 ≤ f4_lastIsFree.toInt ∧ f4_lastIsFree.toInt ≤ 1) → (0 ≤ f4_stale.toInt ∧ f4_stale.toInt ≤ 1) → IAX ai → FR [2, 3, 4, 63] ai0 ai → RWX ad w0 → RWX ad w1 → RWX ad w2 → RWX ad w3 → va_P (dC, dI) vwCl (WX cI cJ cII cJJ ad f3_unknowns f3_equations f2_roundSupports f2_stale f7_size f1_size f5_keptSize f5_aheadSize f0_solved f4_blockCount f4_blockLength f4_lastIsFree f4_stale ai al w0 w1 w2 w3) H → va_D A (WX cI cJ cII cJJ ad f3_unknowns f3_equations f2_roundSupports f2_stale f7_size f1_size f5_keptSize f5_aheadSize f0_solved f4_blockCount f4_blockLength f4_lastIsFree f4_stale ai al w0 w1 w2 w3) → va_S A s.heap H locs → lv_has ls 5 [(0, .ref (ad 0)), (1, .int L1), (2, .int L2), (3, .int L3)] → W p l e ({ frames := 4, cells := 0, slots := 0, locals := 200 } : Room) s m args below meth c H locs 0 0 (MQ below (Q_m050_X8_put dC dI cI cJ cII cJJ ad f3_unknowns f3_equations f2_roundSupports f7_size f1_size f5_keptSize f5_aheadSize f0_solved f4_blockCount f4_blockLength f4_lastIsFree ai0 al w0 w1 w2 w3 A) args s 0 0 A) (F0 m 22 ls []) := by
  obtain ⟨hx, hb, hr, hml, hown, hts, hk, hA, hK, hX⟩ := id C
  intro L1 L2 L3 f2_stale f4_stale ai H locs ls h0 h1 h2 h3 h4 h5 h6 h7 h8 h9 h10 hI hF hw_w0 hw_w1 hw_w2 hw_w3 hP hD hS hl
  have ra_L1 := s_any L1
  have ra_L2 := s_any L2
  have ra_L3 := s_any L3
  refine lv_aload_n hx hb dX8_put_22 rfl (lv_at hl 0 rfl) ?_
  refine lv_iconst (v := (-1)) hx hb dX8_put_23 (by decide) ?_
  have kcm1 : ((-1) : Int32).toInt = (-1) := by decide +kernel
  have hM := m003_X8_refuse l dC dI cI cJ cII cJJ H.size 0 ad f3_unknowns f3_equations f2_roundSupports f2_stale f7_size f1_size f5_keptSize f5_aheadSize f0_solved f4_blockCount f4_blockLength f4_lastIsFree f4_stale ai al w0 w1 w2 w3 (-1) (by omega) (by omega) (by omega) (by omega) (by omega) (by omega) (by omega) (by omega) (by omega) (by omega) (by omega) hI hw_w0 hw_w1 hw_w2 hw_w3
  refine k2V_i (q0 := 0) ⟨hx, hb, hml, hown, hts⟩ hK hP hD hS hA hX cv_RX8_53 hM ⟨by decide +kernel, by decide +kernel⟩ rfl rfl (Or.inl rfl) (rest := []) rfl rfl rfl hl.1 rfl (Nat.le_of_ble_eq_true rfl) dX8_put_24 ⟨Nat.le_of_ble_eq_true rfl, Nat.le_of_ble_eq_true rfl⟩ (fun r1 t H1 locs_1 ht hB hS_1 hFc => ?_)
  obtain ⟨ai2, ⟨gpr1_0, hI_2, hFr_r1⟩, hP_2, -, hD_2⟩ := hB
  have hF_3 := FR_tr hF hFr_r1 (by decide)
  rw [ht] at hP_2
  have hD_4 := hD_2.weaken (B := A) (fun k q _ h9 => hFc q.1 h9)
  clear ht
  generalize H1 = H_5 at hP_2 hS_1 ⊢
  exact r2_i hx hb hr hk hS_1 dX8_put_27 (fun t ht hW => ⟨f2_stale, f4_stale, ai2, ⟨(by first | omega | decide | exact Or.inl (by decide) | exact Or.inr (by decide) | exact Or.inr (by omega)), (by first | omega | decide | exact Or.inl (by decide) | exact Or.inr (by decide) | exact Or.inr (by omega)), hI_2, hF_3⟩, by rw [ht]; exact hP_2, va_K.moved hW.alike hK, hD_4⟩)
set_option maxRecDepth 100000 in
set_option maxHeartbeats 4000000 in
theorem m050_X8_put (l : Launch) (dC : Nat → ClassId) (dI : Nat → Nat → Nat) (cI cJ cII cJJ : ClassId) (sz g : Nat) (ad : Nat → Nat) (f3_unknowns f3_equations f2_roundSupports f2_stale f7_size f1_size f5_keptSize f5_aheadSize f0_solved f4_blockCount f4_blockLength f4_lastIsFree f4_stale : Int32) (ai : Nat → Nat → Int32) (al : Nat → Nat → Int64) (w0 w1 w2 w3 : Nat) (x1 : Int32) (x2 : Int32) (x3 : Int32) (h_f3_unknowns : (1 ≤ f3_unknowns.toInt ∧ f3_unknowns.toInt ≤ 4)) (h_f3_equations : (0 ≤ f3_equations.toInt ∧ f3_equations.toInt ≤ 3)) (h_f2_stale : (0 ≤ f2_stale.toInt ∧ f2_stale.toInt ≤ 1)) (h_f7_size : (0 ≤ f7_size.toInt ∧ f7_size.toInt ≤ 256)) (h_f1_size : (0 ≤ f1_size.toInt ∧ f1_size.toInt ≤ 4)) (h_f5_keptSize : (0 ≤ f5_keptSize.toInt ∧ f5_keptSize.toInt ≤ 128)) (h_f5_aheadSize : (0 ≤ f5_aheadSize.toInt ∧ f5_aheadSize.toInt ≤ 128)) (h_f4_blockCount : (0 ≤ f4_blockCount.toInt ∧ f4_blockCount.toInt ≤ 9261)) (h_f4_blockLength : (0 ≤ f4_blockLength.toInt ∧ f4_blockLength.toInt ≤ 21)) (h_f4_lastIsFree : (0 ≤ f4_lastIsFree.toInt ∧ f4_lastIsFree.toInt ≤ 1)) (h_f4_stale : (0 ≤ f4_stale.toInt ∧ f4_stale.toInt ≤ 1)) (hI : IAX ai) (hw_w0 : RWX ad w0) (hw_w1 : RWX ad w1) (hw_w2 : RWX ad w2) (hw_w3 : RWX ad w3) : Met l yX8_put (.code yX8_put cX8_put 5 (some .int) :: TT) ({ frames := 4, cells := 0, slots := 0, locals := 200 } : Room) (PcS dC dI (TY cI cJ cII cJJ) [.ref (ad 0), .int x1, .int x2, .int x3] (WX cI cJ cII cJJ ad f3_unknowns f3_equations f2_roundSupports f2_stale f7_size f1_size f5_keptSize f5_aheadSize f0_solved f4_blockCount f4_blockLength f4_lastIsFree f4_stale ai al w0 w1 w2 w3) sz 0 g) (Q_m050_X8_put dC dI cI cJ cII cJJ ad f3_unknowns f3_equations f2_roundSupports f7_size f1_size f5_keptSize f5_aheadSize f0_solved f4_blockCount f4_blockLength f4_lastIsFree ai al w0 w1 w2 w3 (va_A (WX cI cJ cII cJJ ad f3_unknowns f3_equations f2_roundSupports f2_stale f7_size f1_size f5_keptSize f5_aheadSize f0_solved f4_blockCount f4_blockLength f4_lastIsFree f4_stale ai al w0 w1 w2 w3) sz)) 0 0 (va_A (WX cI cJ cII cJJ ad f3_unknowns f3_equations f2_roundSupports f2_stale f7_size f1_size f5_keptSize f5_aheadSize f0_solved f4_blockCount f4_blockLength f4_lastIsFree f4_stale ai al w0 w1 w2 w3) sz) := by
  refine SM.of (y := yX8_put) (maxL := 5) (av := [.ref (ad 0), .int x1, .int x2, .int x3]) (Q_m050_X8_put dC dI cI cJ cII cJJ ad f3_unknowns f3_equations f2_roundSupports f7_size f1_size f5_keptSize f5_aheadSize f0_solved f4_blockCount f4_blockLength f4_lastIsFree ai al w0 w1 w2 w3) (by decide +kernel) (Nat.le_of_ble_eq_true rfl) (fun p e s m below meth c A ls hx hb hr hml hown hts hk hnm hA hK hP hD hS hX hl => ?_)
  have C : Cx p c s m meth (([.ref (ad 0), .int x1, .int x2, .int x3] : List Value).toArray) A dC dI (TY cI cJ cII cJJ) cX8_put (some .int) 5 RX8 0 g := ⟨hx, hb, hr, hml, hown, hts, hk, hA, hK, hX⟩
  have hown : s.vm.findClass RX8 = some m.cls := hown
  have hl : lv_has ls 5 [(0, .ref (ad 0)), (1, .int x1), (2, .int x2), (3, .int x3)] := hl
  obtain ⟨H, hH⟩ : ∃ q, q = s.heap := ⟨_, rfl⟩
  rw [← hH] at hP
  have hS : va_S A s.heap H [] := by rw [hH]; exact hS
  rw [← hH]
  have hF := FR_refl [2, 3, 4, 63] ai
  have ra_x1 := s_any x1
  have ra_x2 := s_any x2
  have ra_x3 := s_any x3
  refine lv_aload_n hx hb dX8_put_0 rfl (lv_at hl 0 rfl) ?_
  refine gf (k := 0) hx hb hts inX8 hown hK hP k_264 rfl (by decide) rfl 0 rfl (.ref (ad 6)) rfl dX8_put_1 ?_
  refine lv_iload_n hx hb dX8_put_4 rfl (lv_at hl 1 rfl) ?_
  have hM := m002_X3_hasEquation l dC dI cI cJ cII cJJ H.size 0 ad f3_unknowns f3_equations f2_roundSupports f2_stale f7_size f1_size f5_keptSize f5_aheadSize f0_solved f4_blockCount f4_blockLength f4_lastIsFree f4_stale ai al w0 w1 w2 w3 x1 (by omega) (by omega) (by omega) (by omega) (by omega) (by omega) (by omega) (by omega) (by omega) (by omega) (by omega) hI hw_w0 hw_w1 hw_w2 hw_w3
  refine k2V_i (q0 := 6) ⟨hx, hb, hml, hown, hts⟩ hK hP hD hS hA hX cv_RX8_78 hM ⟨by decide +kernel, by decide +kernel⟩ rfl rfl (Or.inl rfl) (rest := []) rfl rfl rfl hl.1 rfl (Nat.le_of_ble_eq_true rfl) dX8_put_5 ⟨Nat.le_of_ble_eq_true rfl, Nat.le_of_ble_eq_true rfl⟩ (fun r1 t H1 locs_1 ht hB hS_1 hFc => ?_)
  obtain ⟨⟨gpr1_0, gpr1_1⟩, hP_2, -, hD_2⟩ := hB
  rw [ht] at hP_2
  have hD_3 := hD_2.weaken (B := A) (fun k q _ h9 => hFc q.1 h9)
  clear ht
  generalize H1 = H_4 at hP_2 hS_1 ⊢
  refine lv_if_eq (tgt := 22) hx hb dX8_put_8 (by decide) (fun c2 => ?_) (fun c2 => ?_)
  · have c2 := j_eq (a := r1.toInt) (b := 0) rfl (by decide +kernel) c2
    exact m050_X8_put_b22 C  x1 x2 x3 f2_stale f4_stale ai _ _ _ (by omega) (by omega) (by omega) (by omega) (by omega) (by omega) (by omega) (by omega) (by omega) (by omega) (by omega) hI hF hw_w0 hw_w1 hw_w2 hw_w3 hP_2 hD_3 hS_1 (lv_sub hl [0, 1, 2, 3] rfl)
  · have c2 := j_ne (a := r1.toInt) (b := 0) rfl (by decide +kernel) c2
    refine lv_aload_n hx hb dX8_put_11 rfl (lv_at hl 0 rfl) ?_
    refine gf (k := 0) hx hb hts inX8 hown hK hP_2 k_264 rfl (by decide) rfl 0 rfl (.ref (ad 6)) rfl dX8_put_12 ?_
    refine lv_iload_n hx hb dX8_put_15 rfl (lv_at hl 2 rfl) ?_
    have hM := m001_X3_hasUnknown l dC dI cI cJ cII cJJ H_4.size 0 ad f3_unknowns f3_equations f2_roundSupports f2_stale f7_size f1_size f5_keptSize f5_aheadSize f0_solved f4_blockCount f4_blockLength f4_lastIsFree f4_stale ai al w0 w1 w2 w3 x2 (by omega) (by omega) (by omega) (by omega) (by omega) (by omega) (by omega) (by omega) (by omega) (by omega) (by omega) hI hw_w0 hw_w1 hw_w2 hw_w3
    refine k2V_i (q0 := 6) ⟨hx, hb, hml, hown, hts⟩ hK hP_2 hD_3 hS_1 hA hX cv_RX8_82 hM ⟨by decide +kernel, by decide +kernel⟩ rfl rfl (Or.inl rfl) (rest := []) rfl rfl rfl hl.1 rfl (Nat.le_of_ble_eq_true rfl) dX8_put_16 ⟨Nat.le_of_ble_eq_true rfl, Nat.le_of_ble_eq_true rfl⟩ (fun r3 t H1 locs_5 ht hB hS_5 hFc => ?_)
    obtain ⟨⟨gpr3_0, gpr3_1⟩, hP_6, -, hD_6⟩ := hB
    rw [ht] at hP_6
    have hD_7 := hD_6.weaken (B := A) (fun k q _ h9 => hFc q.1 h9)
    clear ht
    generalize H1 = H_8 at hP_6 hS_5 ⊢
    refine lv_if_ne (tgt := 28) hx hb dX8_put_19 (by decide) (fun c4 => ?_) (fun c4 => ?_)
    · have c4 := j_ne (a := r3.toInt) (b := 0) rfl (by decide +kernel) c4
      refine lv_iload_n hx hb dX8_put_28 rfl (lv_at hl 3 rfl) ?_
      refine lv_bipush (v := (-6)) hx hb dX8_put_29 (by decide) ?_
      refine lv_icmp_ge (tgt := 41) hx hb dX8_put_31 (by decide) (fun c5 => ?_) (fun c5 => ?_)
      · have c5 := j_le (a := (-6)) (b := x3.toInt) (by decide +kernel) rfl c5
        refine lv_iload_n hx hb dX8_put_41 rfl (lv_at hl 3 rfl) ?_
        refine lv_bipush (v := 6) hx hb dX8_put_42 (by decide) ?_
        refine lv_icmp_le (tgt := 54) hx hb dX8_put_44 (by decide) (fun c6 => ?_) (fun c6 => ?_)
        · have c6 := j_le (a := x3.toInt) (b := 6) rfl (by decide +kernel) c6
          refine lv_aload_n hx hb dX8_put_54 rfl (lv_at hl 0 rfl) ?_
          refine gf (k := 0) hx hb hts inX8 hown hK hP_6 k_264 rfl (by decide) rfl 0 rfl (.ref (ad 6)) rfl dX8_put_55 ?_
          refine gf (k := 2) hx hb hts inX3 hown hK hP_6 k_51 rfl (by decide) rfl 6 rfl (.ref (ad 1)) rfl dX8_put_58 ?_
          refine lv_iload_n hx hb dX8_put_61 rfl (lv_at hl 1 rfl) ?_
          rcases (show x1 = 0 ∨ x1 = 1 ∨ x1 = 2 from j_cases3 (a := x1.toInt) rfl (by omega) (by omega)) with rfl | rfl | rfl
          · have k9 : (0 : Int32).toInt = 0 := by decide +kernel
            refine ld_a hx hb hK hP_6 1 2 rfl rfl (vin (by decide +kernel)) dX8_put_62 (ad 2) rfl ?_
            refine lv_iload_n hx hb dX8_put_63 rfl (lv_at hl 2 rfl) ?_
            refine va_iald hx hb hK hP_6 2 0 rfl rfl (j_in (a := x2.toInt) rfl (by omega) (by omega)) dX8_put_64 ?_
            refine lv_topi (fun z7 e_z7 => ?_)
            have g_z7 : -6 ≤ z7.toInt ∧ z7.toInt ≤ 6 := by rw [e_z7]; exact IAX_at2 hI _
            refine lv_istore (lv' := [(4, .int z7), (0, .ref (ad 0)), (1, .int 0), (2, .int x2), (3, .int x3)]) hx hb dX8_put_65 hl (by decide) rfl (fun ls_9 hl_9 => ?_)
            refine lv_aload_n hx hb dX8_put_67 rfl (lv_at hl_9 1 rfl) ?_
            refine lv_iload_n hx hb dX8_put_68 rfl (lv_at hl_9 2 rfl) ?_
            refine lv_iload_n hx hb dX8_put_69 rfl (lv_at hl_9 3 rfl) ?_
            refine lv_iload_n hx hb dX8_put_70 rfl (lv_at hl_9 4 rfl) ?_
            have kc0 : (0 : Int32).toInt = 0 := by decide +kernel
            have hM := m020_X8_setCoefficient l dC dI cI cJ cII cJJ H_8.size 0 ad f3_unknowns f3_equations f2_roundSupports f2_stale f7_size f1_size f5_keptSize f5_aheadSize f0_solved f4_blockCount f4_blockLength f4_lastIsFree f4_stale ai al w0 w1 w2 w3 0 x2 x3 (by decide +kernel) (by omega) (by omega) (by omega) (by omega) (by omega) (by omega) (by omega) (by omega) (by omega) (by omega) (by omega) (by omega) (by omega) hI hw_w0 hw_w1 hw_w2 hw_w3
            refine k2V_v (q0 := 0) ⟨hx, hb, hml, hown, hts⟩ hK hP_6 hD_7 hS_5 hA hX cv_RX8_89 hM ⟨by decide +kernel, by decide +kernel⟩ rfl rfl (Or.inl rfl) (rest := []) rfl rfl rfl hl_9.1 rfl (Nat.le_of_ble_eq_true rfl) dX8_put_71 ⟨Nat.le_of_ble_eq_true rfl, Nat.le_of_ble_eq_true rfl⟩ (fun t H1 locs_10 ht hB hS_10 hFc => ?_)
            obtain ⟨v9, v10, ai11, ⟨gpr8_0, gpr8_1, hI_11, hFr_r8⟩, hP_11, -, hD_11⟩ := hB
            have hF_12 := FR_tr hF hFr_r8 (by decide)
            rw [ht] at hP_11
            have hD_13 := hD_11.weaken (B := A) (fun k q _ h9 => hFc q.1 h9)
            clear ht
            generalize H1 = H_14 at hP_11 hS_10 ⊢
            refine lv_iload hx hb dX8_put_74 (lv_at hl_9 0 rfl) ?_
            exact r2_i hx hb hr hk hS_10 dX8_put_76 (fun t ht hW => ⟨v9, v10, ai11, ⟨(by first | omega | decide | exact Or.inl (by decide) | exact Or.inr (by decide) | exact Or.inr (by omega)), (by first | omega | decide | exact Or.inl (by decide) | exact Or.inr (by decide) | exact Or.inr (by omega)), hI_11, hF_12⟩, by rw [ht]; exact hP_11, va_K.moved hW.alike hK, hD_13⟩)
          · have k9 : (1 : Int32).toInt = 1 := by decide +kernel
            refine ld_a hx hb hK hP_6 1 2 rfl rfl (vin (by decide +kernel)) dX8_put_62 (ad 3) rfl ?_
            refine lv_iload_n hx hb dX8_put_63 rfl (lv_at hl 2 rfl) ?_
            refine va_iald hx hb hK hP_6 3 0 rfl rfl (j_in (a := x2.toInt) rfl (by omega) (by omega)) dX8_put_64 ?_
            refine lv_topi (fun z12 e_z12 => ?_)
            have g_z12 : -6 ≤ z12.toInt ∧ z12.toInt ≤ 6 := by rw [e_z12]; exact IAX_at3 hI _
            refine lv_istore (lv' := [(4, .int z12), (0, .ref (ad 0)), (1, .int 1), (2, .int x2), (3, .int x3)]) hx hb dX8_put_65 hl (by decide) rfl (fun ls_15 hl_15 => ?_)
            refine lv_aload_n hx hb dX8_put_67 rfl (lv_at hl_15 1 rfl) ?_
            refine lv_iload_n hx hb dX8_put_68 rfl (lv_at hl_15 2 rfl) ?_
            refine lv_iload_n hx hb dX8_put_69 rfl (lv_at hl_15 3 rfl) ?_
            refine lv_iload_n hx hb dX8_put_70 rfl (lv_at hl_15 4 rfl) ?_
            have kc1 : (1 : Int32).toInt = 1 := by decide +kernel
            have hM := m020_X8_setCoefficient l dC dI cI cJ cII cJJ H_8.size 0 ad f3_unknowns f3_equations f2_roundSupports f2_stale f7_size f1_size f5_keptSize f5_aheadSize f0_solved f4_blockCount f4_blockLength f4_lastIsFree f4_stale ai al w0 w1 w2 w3 1 x2 x3 (by decide +kernel) (by omega) (by omega) (by omega) (by omega) (by omega) (by omega) (by omega) (by omega) (by omega) (by omega) (by omega) (by omega) (by omega) hI hw_w0 hw_w1 hw_w2 hw_w3
            refine k2V_v (q0 := 0) ⟨hx, hb, hml, hown, hts⟩ hK hP_6 hD_7 hS_5 hA hX cv_RX8_89 hM ⟨by decide +kernel, by decide +kernel⟩ rfl rfl (Or.inl rfl) (rest := []) rfl rfl rfl hl_15.1 rfl (Nat.le_of_ble_eq_true rfl) dX8_put_71 ⟨Nat.le_of_ble_eq_true rfl, Nat.le_of_ble_eq_true rfl⟩ (fun t H1 locs_16 ht hB hS_16 hFc => ?_)
            obtain ⟨v14, v15, ai16, ⟨gpr13_0, gpr13_1, hI_17, hFr_r13⟩, hP_17, -, hD_17⟩ := hB
            have hF_18 := FR_tr hF hFr_r13 (by decide)
            rw [ht] at hP_17
            have hD_19 := hD_17.weaken (B := A) (fun k q _ h9 => hFc q.1 h9)
            clear ht
            generalize H1 = H_20 at hP_17 hS_16 ⊢
            refine lv_iload hx hb dX8_put_74 (lv_at hl_15 0 rfl) ?_
            exact r2_i hx hb hr hk hS_16 dX8_put_76 (fun t ht hW => ⟨v14, v15, ai16, ⟨(by first | omega | decide | exact Or.inl (by decide) | exact Or.inr (by decide) | exact Or.inr (by omega)), (by first | omega | decide | exact Or.inl (by decide) | exact Or.inr (by decide) | exact Or.inr (by omega)), hI_17, hF_18⟩, by rw [ht]; exact hP_17, va_K.moved hW.alike hK, hD_19⟩)
          · have k9 : (2 : Int32).toInt = 2 := by decide +kernel
            refine ld_a hx hb hK hP_6 1 2 rfl rfl (vin (by decide +kernel)) dX8_put_62 (ad 4) rfl ?_
            refine lv_iload_n hx hb dX8_put_63 rfl (lv_at hl 2 rfl) ?_
            refine va_iald hx hb hK hP_6 4 0 rfl rfl (j_in (a := x2.toInt) rfl (by omega) (by omega)) dX8_put_64 ?_
            refine lv_topi (fun z17 e_z17 => ?_)
            have g_z17 : -6 ≤ z17.toInt ∧ z17.toInt ≤ 6 := by rw [e_z17]; exact IAX_at4 hI _
            refine lv_istore (lv' := [(4, .int z17), (0, .ref (ad 0)), (1, .int 2), (2, .int x2), (3, .int x3)]) hx hb dX8_put_65 hl (by decide) rfl (fun ls_21 hl_21 => ?_)
            refine lv_aload_n hx hb dX8_put_67 rfl (lv_at hl_21 1 rfl) ?_
            refine lv_iload_n hx hb dX8_put_68 rfl (lv_at hl_21 2 rfl) ?_
            refine lv_iload_n hx hb dX8_put_69 rfl (lv_at hl_21 3 rfl) ?_
            refine lv_iload_n hx hb dX8_put_70 rfl (lv_at hl_21 4 rfl) ?_
            have kc2 : (2 : Int32).toInt = 2 := by decide +kernel
            have hM := m020_X8_setCoefficient l dC dI cI cJ cII cJJ H_8.size 0 ad f3_unknowns f3_equations f2_roundSupports f2_stale f7_size f1_size f5_keptSize f5_aheadSize f0_solved f4_blockCount f4_blockLength f4_lastIsFree f4_stale ai al w0 w1 w2 w3 2 x2 x3 (by decide +kernel) (by omega) (by omega) (by omega) (by omega) (by omega) (by omega) (by omega) (by omega) (by omega) (by omega) (by omega) (by omega) (by omega) hI hw_w0 hw_w1 hw_w2 hw_w3
            refine k2V_v (q0 := 0) ⟨hx, hb, hml, hown, hts⟩ hK hP_6 hD_7 hS_5 hA hX cv_RX8_89 hM ⟨by decide +kernel, by decide +kernel⟩ rfl rfl (Or.inl rfl) (rest := []) rfl rfl rfl hl_21.1 rfl (Nat.le_of_ble_eq_true rfl) dX8_put_71 ⟨Nat.le_of_ble_eq_true rfl, Nat.le_of_ble_eq_true rfl⟩ (fun t H1 locs_22 ht hB hS_22 hFc => ?_)
            obtain ⟨v19, v20, ai21, ⟨gpr18_0, gpr18_1, hI_23, hFr_r18⟩, hP_23, -, hD_23⟩ := hB
            have hF_24 := FR_tr hF hFr_r18 (by decide)
            rw [ht] at hP_23
            have hD_25 := hD_23.weaken (B := A) (fun k q _ h9 => hFc q.1 h9)
            clear ht
            generalize H1 = H_26 at hP_23 hS_22 ⊢
            refine lv_iload hx hb dX8_put_74 (lv_at hl_21 0 rfl) ?_
            exact r2_i hx hb hr hk hS_22 dX8_put_76 (fun t ht hW => ⟨v19, v20, ai21, ⟨(by first | omega | decide | exact Or.inl (by decide) | exact Or.inr (by decide) | exact Or.inr (by omega)), (by first | omega | decide | exact Or.inl (by decide) | exact Or.inr (by decide) | exact Or.inr (by omega)), hI_23, hF_24⟩, by rw [ht]; exact hP_23, va_K.moved hW.alike hK, hD_25⟩)
        · have c6 := j_nle (a := x3.toInt) (b := 6) rfl (by decide +kernel) c6
          refine lv_aload_n hx hb dX8_put_47 rfl (lv_at hl 0 rfl) ?_
          refine lv_bipush (v := (-6)) hx hb dX8_put_48 (by decide) ?_
          have kcm6 : ((-6) : Int32).toInt = (-6) := by decide +kernel
          have hM := m003_X8_refuse l dC dI cI cJ cII cJJ H_8.size 0 ad f3_unknowns f3_equations f2_roundSupports f2_stale f7_size f1_size f5_keptSize f5_aheadSize f0_solved f4_blockCount f4_blockLength f4_lastIsFree f4_stale ai al w0 w1 w2 w3 (-6) (by omega) (by omega) (by omega) (by omega) (by omega) (by omega) (by omega) (by omega) (by omega) (by omega) (by omega) hI hw_w0 hw_w1 hw_w2 hw_w3
          refine k2V_i (q0 := 0) ⟨hx, hb, hml, hown, hts⟩ hK hP_6 hD_7 hS_5 hA hX cv_RX8_53 hM ⟨by decide +kernel, by decide +kernel⟩ rfl rfl (Or.inl rfl) (rest := []) rfl rfl rfl hl.1 rfl (Nat.le_of_ble_eq_true rfl) dX8_put_50 ⟨Nat.le_of_ble_eq_true rfl, Nat.le_of_ble_eq_true rfl⟩ (fun r22 t H1 locs_27 ht hB hS_27 hFc => ?_)
          obtain ⟨ai23, ⟨gpr22_0, hI_28, hFr_r22⟩, hP_28, -, hD_28⟩ := hB
          have hF_29 := FR_tr hF hFr_r22 (by decide)
          rw [ht] at hP_28
          have hD_30 := hD_28.weaken (B := A) (fun k q _ h9 => hFc q.1 h9)
          clear ht
          generalize H1 = H_31 at hP_28 hS_27 ⊢
          exact r2_i hx hb hr hk hS_27 dX8_put_53 (fun t ht hW => ⟨f2_stale, f4_stale, ai23, ⟨(by first | omega | decide | exact Or.inl (by decide) | exact Or.inr (by decide) | exact Or.inr (by omega)), (by first | omega | decide | exact Or.inl (by decide) | exact Or.inr (by decide) | exact Or.inr (by omega)), hI_28, hF_29⟩, by rw [ht]; exact hP_28, va_K.moved hW.alike hK, hD_30⟩)
      · have c5 := j_nle (a := (-6)) (b := x3.toInt) (by decide +kernel) rfl c5
        refine lv_aload_n hx hb dX8_put_34 rfl (lv_at hl 0 rfl) ?_
        refine lv_bipush (v := (-4)) hx hb dX8_put_35 (by decide) ?_
        have kcm4 : ((-4) : Int32).toInt = (-4) := by decide +kernel
        have hM := m003_X8_refuse l dC dI cI cJ cII cJJ H_8.size 0 ad f3_unknowns f3_equations f2_roundSupports f2_stale f7_size f1_size f5_keptSize f5_aheadSize f0_solved f4_blockCount f4_blockLength f4_lastIsFree f4_stale ai al w0 w1 w2 w3 (-4) (by omega) (by omega) (by omega) (by omega) (by omega) (by omega) (by omega) (by omega) (by omega) (by omega) (by omega) hI hw_w0 hw_w1 hw_w2 hw_w3
        refine k2V_i (q0 := 0) ⟨hx, hb, hml, hown, hts⟩ hK hP_6 hD_7 hS_5 hA hX cv_RX8_53 hM ⟨by decide +kernel, by decide +kernel⟩ rfl rfl (Or.inl rfl) (rest := []) rfl rfl rfl hl.1 rfl (Nat.le_of_ble_eq_true rfl) dX8_put_37 ⟨Nat.le_of_ble_eq_true rfl, Nat.le_of_ble_eq_true rfl⟩ (fun r24 t H1 locs_32 ht hB hS_32 hFc => ?_)
        obtain ⟨ai25, ⟨gpr24_0, hI_33, hFr_r24⟩, hP_33, -, hD_33⟩ := hB
        have hF_34 := FR_tr hF hFr_r24 (by decide)
        rw [ht] at hP_33
        have hD_35 := hD_33.weaken (B := A) (fun k q _ h9 => hFc q.1 h9)
        clear ht
        generalize H1 = H_36 at hP_33 hS_32 ⊢
        exact r2_i hx hb hr hk hS_32 dX8_put_40 (fun t ht hW => ⟨f2_stale, f4_stale, ai25, ⟨(by first | omega | decide | exact Or.inl (by decide) | exact Or.inr (by decide) | exact Or.inr (by omega)), (by first | omega | decide | exact Or.inl (by decide) | exact Or.inr (by decide) | exact Or.inr (by omega)), hI_33, hF_34⟩, by rw [ht]; exact hP_33, va_K.moved hW.alike hK, hD_35⟩)
    · have c4 := j_eq (a := r3.toInt) (b := 0) rfl (by decide +kernel) c4
      exact m050_X8_put_b22 C  x1 x2 x3 f2_stale f4_stale ai _ _ _ (by omega) (by omega) (by omega) (by omega) (by omega) (by omega) (by omega) (by omega) (by omega) (by omega) (by omega) hI hF hw_w0 hw_w1 hw_w2 hw_w3 hP_6 hD_7 hS_5 (lv_sub hl [0, 1, 2, 3] rfl)
