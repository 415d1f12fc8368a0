def Q_m124_J7_fill_53178 (dC : Nat → ClassId) (dI : Nat → Nat → Nat) (cI cJ cII cJJ : ClassId) (ad : Nat → Nat) (f3_unknowns f3_equations f2_roundSupports f2_stale f7_size f1_size f5_keptSize f5_aheadSize f0_solved f4_blockCount f4_blockLength f4_lastIsFree f4_stale : Int32) (ai0 : Nat → Nat → Int32) (al : Nat → Nat → Int64) (w0 w1 w2 w3 : Nat) : (Nat → Prop) → Array Value → State → Outcome → State → Prop := fun A => QV (fun t => ∃ (n_ai : Nat → Nat → Int32), (IAX n_ai ∧ FR [61] ai0 n_ai) ∧ WO dC dI (TY cI cJ cII cJJ) (WX cI cJ cII cJJ ad f3_unknowns f3_equations f2_roundSupports f2_stale f7_size f1_size f5_keptSize f5_aheadSize f0_solved f4_blockCount f4_blockLength f4_lastIsFree f4_stale n_ai al w0 w1 w2 w3) A t) A
set_option maxRecDepth 100000 in
set_option maxHeartbeats 4000000 in
theorem m124_J7_fill_53178_b5 {p : Program} {l : Launch} {e : Env} {s : State} {m : MethodId} {args : Array Value} {below : List Frame} {meth : Method} {c : Code} {A : Nat → Prop} {dC : Nat → ClassId} {dI : Nat → Nat → Nat} {cI cJ cII cJJ : ClassId} {ad : Nat → Nat} {g : Nat} {f3_unknowns f3_equations f2_roundSupports f2_stale f7_size f1_size f5_keptSize f5_aheadSize f0_solved f4_blockCount f4_blockLength f4_lastIsFree f4_stale : Int32} {ai0 : Nat → Nat → Int32} {al : Nat → Nat → Int64} {w0 w1 w2 w3 : Nat} (C : Cx p c s m meth args A dC dI (TY cI cJ cII cJJ) cJ7_fill_53178 none 4 RJ7 0 g) : ∀ (n : Nat), ∀ (L2 : Int32) (ai : Nat → Nat → Int32) (H : Heap) (locs : List Loc) (ls : Array Slot), (0 ≤ L2.toInt ∧ L2.toInt ≤ 4) → (1 ≤ f3_unknowns.toInt ∧ f3_unknowns.toInt ≤ 4) → (0 ≤ f3_equations.toInt ∧ f3_equations.toInt ≤ 3) → (0 ≤ f2_stale.toInt ∧ f2_stale.toInt ≤ 1) → (0 ≤ f7_size.toInt ∧ f7_size.toInt ≤ 256) → (0 ≤ f1_size.toInt ∧ f1_size.toInt ≤ 4) → (0 ≤ f5_keptSize.toInt ∧ f5_keptSize.toInt ≤ 128) → (0 ≤ f5_aheadSize.toInt ∧ f5_aheadSize.toInt ≤ 128) → (0 ≤ f4_blockCount.toInt ∧ f4_blockCount.toInt ≤ 9261) → (0 ≤ f4_blockLength.toInt ∧ f4_blockLength.toInt ≤ 21) → (0 ≤ f4_lastIsFree.toInt ∧ f4_lastIsFree.toInt ≤ 1) → (0 ≤ f4_stale.toInt ∧ f4_stale.toInt ≤ 1) → 4 - L2.toInt < (n : Int) → (0 : Int) < (n : Int) → IAX ai → FR [61] ai0 ai → RWX ad w0 → RWX ad w1 → RWX ad w2 → RWX ad w3 → va_P (dC, dI) vwCl (WX cI cJ cII cJJ ad f3_unknowns f3_equations f2_roundSupports f2_stale f7_size f1_size f5_keptSize f5_aheadSize f0_solved f4_blockCount f4_blockLength f4_lastIsFree f4_stale ai al w0 w1 w2 w3) H → va_D A (WX cI cJ cII cJJ ad f3_unknowns f3_equations f2_roundSupports f2_stale f7_size f1_size f5_keptSize f5_aheadSize f0_solved f4_blockCount f4_blockLength f4_lastIsFree f4_stale ai al w0 w1 w2 w3) → va_S A s.heap H locs → lv_has ls 4 [(0, .ref (ad 61)), (1, .int 0), (2, .int L2), (3, .int 4)] → W p l e ({ frames := 2, cells := 0, slots := 0, locals := 80 } : Room) s m args below meth c H locs 0 0 (MQ below (Q_m124_J7_fill_53178 dC dI cI cJ cII cJJ ad f3_unknowns f3_equations f2_roundSupports f2_stale f7_size f1_size f5_keptSize f5_aheadSize f0_solved f4_blockCount f4_blockLength f4_lastIsFree f4_stale ai0 al w0 w1 w2 w3 A) args s 0 0 A) (F0 m 5 ls []) := by
  obtain ⟨hx, hb, hr, hml, hown, hts, hk, hA, hK, hX⟩ := id C
  intro n
  induction n with
  | zero =>
    intro L2 ai H locs ls h0 h1 h2 h3 h4 h5 h6 h7 h8 h9 h10 h11 h12 h13 hI hF hw_w0 hw_w1 hw_w2 hw_w3 hP hD hS hl
    exact absurd h13 (by omega)
  | succ n ih =>
    intro L2 ai H locs ls h0 h1 h2 h3 h4 h5 h6 h7 h8 h9 h10 h11 h12 h13 hI hF hw_w0 hw_w1 hw_w2 hw_w3 hP hD hS hl
    refine lv_iload_n hx hb dJ7_fill_53178_5 rfl (lv_at hl 2 rfl) ?_
    refine lv_iload_n hx hb dJ7_fill_53178_6 rfl (lv_at hl 3 rfl) ?_
    refine lv_icmp_ge (tgt := 20) hx hb dJ7_fill_53178_7 (by decide) (fun c1 => ?_) (fun c1 => ?_)
    · have c1 := j_le (a := 4) (b := L2.toInt) (by decide +kernel) rfl c1
      exact r2_v hx hb hr hk hS dJ7_fill_53178_20 (fun t ht hW => ⟨ai, ⟨hI, hF⟩, by rw [ht]; exact hP, va_K.moved hW.alike hK, hD⟩)
    · have c1 := j_nle (a := 4) (b := L2.toInt) (by decide +kernel) rfl c1
      refine lv_aload_n hx hb dJ7_fill_53178_10 rfl (lv_at hl 0 rfl) ?_
      refine lv_iload_n hx hb dJ7_fill_53178_11 rfl (lv_at hl 2 rfl) ?_
      refine lv_iload_n hx hb dJ7_fill_53178_12 rfl (lv_at hl 1 rfl) ?_
      refine va_iast hx hb hK hP hD hS 61 0 rfl rfl (j_in (a := L2.toInt) rfl (by omega) (by omega)) dJ7_fill_53178_13 (fun H_1 locs_1 hP_1 hD_1 hS_1 => ?_)
      obtain ⟨ai2, e_ai2⟩ : ∃ q : Nat → Nat → Int32, q = va_up ai 61 (upd (ai 61) L2.toNatClampNeg 0) := ⟨_, rfl⟩
      have hF_2 := FR_st hF e_ai2 (by decide)
      have hI_3 : IAX ai2 := by rw [e_ai2]; exact hI
      have hP_4 : va_P (dC, dI) vwCl (WX cI cJ cII cJJ ad f3_unknowns f3_equations f2_roundSupports f2_stale f7_size f1_size f5_keptSize f5_aheadSize f0_solved f4_blockCount f4_blockLength f4_lastIsFree f4_stale ai2 al w0 w1 w2 w3) H_1 := by rw [e_ai2]; exact hP_1
      have hD_5 : va_D A (WX cI cJ cII cJJ ad f3_unknowns f3_equations f2_roundSupports f2_stale f7_size f1_size f5_keptSize f5_aheadSize f0_solved f4_blockCount f4_blockLength f4_lastIsFree f4_stale ai2 al w0 w1 w2 w3) := by rw [e_ai2]; exact hD_1
      obtain ⟨z3, e_z3⟩ : ∃ q : Int32, q = L2 + Int32.ofInt 1 := ⟨_, rfl⟩
      have g_z3 : z3.toInt = L2.toInt + 1 := by rw [e_z3]; exact n_add (a := L2.toInt) (b := 1) rfl (by decide +kernel) (by omega) (by omega)
      refine lv_iinc (v := z3) (lv' := [(2, .int z3), (0, .ref (ad 61)), (1, .int 0), (3, .int 4)]) hx hb dJ7_fill_53178_14 hl (k := 2) rfl e_z3.symm (by decide) rfl (fun ls_6 hl_6 => ?_)
      refine lv_goto (tgt := 5) hx hb dJ7_fill_53178_17 (by decide) ?_
      exact ih z3 ai2 _ _ _ (by omega) (by omega) (by omega) (by omega) (by omega) (by omega) (by omega) (by omega) (by omega) (by omega) (by omega) (by omega) (by omega) (by omega) hI_3 hF_2 hw_w0 hw_w1 hw_w2 hw_w3 hP_4 hD_5 hS_1 (lv_sub hl_6 [1, 2, 0, 3] rfl)
set_option maxRecDepth 100000 in
set_option maxHeartbeats 4000000 in
theorem m124_J7_fill_53178 (l : Launch) (dC : Nat → ClassId) (dI : Nat → Nat → Nat) (cI cJ cII cJJ : ClassId) (sz g : Nat) (ad : Nat → Nat) (f3_unknowns f3_equations f2_roundSupports f2_stale f7_size f1_size f5_keptSize f5_aheadSize f0_solved f4_blockCount f4_blockLength f4_lastIsFree f4_stale : Int32) (ai : Nat → Nat → Int32) (al : Nat → Nat → Int64) (w0 w1 w2 w3 : Nat) (h_f3_unknowns : (1 ≤ f3_unknowns.toInt ∧ f3_unknowns.toInt ≤ 4)) (h_f3_equations : (0 ≤ f3_equations.toInt ∧ f3_equations.toInt ≤ 3)) (h_f2_stale : (0 ≤ f2_stale.toInt ∧ f2_stale.toInt ≤ 1)) (h_f7_size : (0 ≤ f7_size.toInt ∧ f7_size.toInt ≤ 256)) (h_f1_size : (0 ≤ f1_size.toInt ∧ f1_size.toInt ≤ 4)) (h_f5_keptSize : (0 ≤ f5_keptSize.toInt ∧ f5_keptSize.toInt ≤ 128)) (h_f5_aheadSize : (0 ≤ f5_aheadSize.toInt ∧ f5_aheadSize.toInt ≤ 128)) (h_f4_blockCount : (0 ≤ f4_blockCount.toInt ∧ f4_blockCount.toInt ≤ 9261)) (h_f4_blockLength : (0 ≤ f4_blockLength.toInt ∧ f4_blockLength.toInt ≤ 21)) (h_f4_lastIsFree : (0 ≤ f4_lastIsFree.toInt ∧ f4_lastIsFree.toInt ≤ 1)) (h_f4_stale : (0 ≤ f4_stale.toInt ∧ f4_stale.toInt ≤ 1)) (hI : IAX ai) (hw_w0 : RWX ad w0) (hw_w1 : RWX ad w1) (hw_w2 : RWX ad w2) (hw_w3 : RWX ad w3) : Met l yJ7_fill_53178 (.code yJ7_fill_53178 cJ7_fill_53178 4 none :: TT) ({ frames := 2, cells := 0, slots := 0, locals := 80 } : Room) (PcS dC dI (TY cI cJ cII cJJ) [.ref (ad 61), .int 0] (WX cI cJ cII cJJ ad f3_unknowns f3_equations f2_roundSupports f2_stale f7_size f1_size f5_keptSize f5_aheadSize f0_solved f4_blockCount f4_blockLength f4_lastIsFree f4_stale ai al w0 w1 w2 w3) sz 0 g) (Q_m124_J7_fill_53178 dC dI cI cJ cII cJJ ad f3_unknowns f3_equations f2_roundSupports f2_stale f7_size f1_size f5_keptSize f5_aheadSize f0_solved f4_blockCount f4_blockLength f4_lastIsFree f4_stale ai al w0 w1 w2 w3 (va_A (WX cI cJ cII cJJ ad f3_unknowns f3_equations f2_roundSupports f2_stale f7_size f1_size f5_keptSize f5_aheadSize f0_solved f4_blockCount f4_blockLength f4_lastIsFree f4_stale ai al w0 w1 w2 w3) sz)) 0 0 (va_A (WX cI cJ cII cJJ ad f3_unknowns f3_equations f2_roundSupports f2_stale f7_size f1_size f5_keptSize f5_aheadSize f0_solved f4_blockCount f4_blockLength f4_lastIsFree f4_stale ai al w0 w1 w2 w3) sz) := by
  refine SM.of (y := yJ7_fill_53178) (maxL := 4) (av := [.ref (ad 61), .int 0]) (Q_m124_J7_fill_53178 dC dI cI cJ cII cJJ ad f3_unknowns f3_equations f2_roundSupports f2_stale f7_size f1_size f5_keptSize f5_aheadSize f0_solved f4_blockCount f4_blockLength f4_lastIsFree f4_stale ai al w0 w1 w2 w3) (by decide +kernel) (Nat.le_of_ble_eq_true rfl) (fun p e s m below meth c A ls hx hb hr hml hown hts hk hnm hA hK hP hD hS hX hl => ?_)
  have C : Cx p c s m meth (([.ref (ad 61), .int 0] : List Value).toArray) A dC dI (TY cI cJ cII cJJ) cJ7_fill_53178 none 4 RJ7 0 g := ⟨hx, hb, hr, hml, hown, hts, hk, hA, hK, hX⟩
  have hown : s.vm.findClass RJ7 = some m.cls := hown
  have hl : lv_has ls 4 [(0, .ref (ad 61)), (1, .int 0)] := hl
  obtain ⟨H, hH⟩ : ∃ q, q = s.heap := ⟨_, rfl⟩
  rw [← hH] at hP
  have hS : va_S A s.heap H [] := by rw [hH]; exact hS
  rw [← hH]
  have hF := FR_refl [61] ai
  refine lv_iconst (v := 0) hx hb dJ7_fill_53178_0 (by decide) ?_
  refine lv_istore_n (lv' := [(2, .int 0), (0, .ref (ad 61)), (1, .int 0)]) hx hb dJ7_fill_53178_1 rfl hl (by decide) rfl (fun ls_1 hl_1 => ?_)
  refine lv_aload_n hx hb dJ7_fill_53178_2 rfl (lv_at hl_1 1 rfl) ?_
  refine al_ hx hb hK hP 61 0 rfl rfl dJ7_fill_53178_3 4 rfl ?_
  refine lv_istore_n (lv' := [(3, .int 4), (2, .int 0), (0, .ref (ad 61)), (1, .int 0)]) hx hb dJ7_fill_53178_4 rfl hl_1 (by decide) rfl (fun ls_2 hl_2 => ?_)
  exact m124_J7_fill_53178_b5 C  _ 0 ai _ _ _ (by first | omega | decide | (have ka0 := (by decide +kernel : (0 : Int32).toInt = 0); omega)) (by first | omega | decide | (have ka0 := (by decide +kernel : (0 : Int32).toInt = 0); omega)) (by first | omega | decide | (have ka0 := (by decide +kernel : (0 : Int32).toInt = 0); omega)) (by first | omega | decide | (have ka0 := (by decide +kernel : (0 : Int32).toInt = 0); omega)) (by first | omega | decide | (have ka0 := (by decide +kernel : (0 : Int32).toInt = 0); omega)) (by first | omega | decide | (have ka0 := (by decide +kernel : (0 : Int32).toInt = 0); omega)) (by first | omega | decide | (have ka0 := (by decide +kernel : (0 : Int32).toInt = 0); omega)) (by first | omega | decide | (have ka0 := (by decide +kernel : (0 : Int32).toInt = 0); omega)) (by first | omega | decide | (have ka0 := (by decide +kernel : (0 : Int32).toInt = 0); omega)) (by first | omega | decide | (have ka0 := (by decide +kernel : (0 : Int32).toInt = 0); omega)) (by first | omega | decide | (have ka0 := (by decide +kernel : (0 : Int32).toInt = 0); omega)) (by first | omega | decide | (have ka0 := (by decide +kernel : (0 : Int32).toInt = 0); omega)) (j_fuel _) (by omega) hI hF hw_w0 hw_w1 hw_w2 hw_w3 hP hD hS (lv_sub hl_2 [2, 3, 1, 0] rfl)
def Q_m125_X4_readBlock (dC : Nat → ClassId) (dI : Nat → Nat → Nat) (cI cJ cII cJJ : ClassId) (ad : Nat → Nat) (f3_unknowns f3_equations f2_roundSupports f2_stale f7_size f1_size f5_keptSize f5_aheadSize f0_solved f4_blockCount f4_blockLength f4_lastIsFree f4_stale : Int32) (ai0 : Nat → Nat → Int32) (al : Nat → Nat → Int64) (w0 w1 w2 w3 : Nat) : (Nat → Prop) → Array Value → State → Outcome → State → Prop := fun A => QV (fun t => ∃ (n_ai : Nat → Nat → Int32), (IAX n_ai ∧ FR [61] ai0 n_ai) ∧ WO dC dI (TY cI cJ cII cJJ) (WX cI cJ cII cJJ ad f3_unknowns f3_equations f2_roundSupports f2_stale f7_size f1_size f5_keptSize f5_aheadSize f0_solved f4_blockCount f4_blockLength f4_lastIsFree f4_stale n_ai al w0 w1 w2 w3) A t) A
set_option maxRecDepth 100000 in
set_option maxHeartbeats 4000000 in
theorem m125_X4_readBlock_b23 {p : Program} {l : Launch} {e : Env} {s : State} {m : MethodId} {args : Array Value} {below : List Frame} {meth : Method} {c : Code} {A : Nat → Prop} {dC : Nat → ClassId} {dI : Nat → Nat → Nat} {cI cJ cII cJJ : ClassId} {ad : Nat → Nat} {g : Nat} {f3_unknowns f3_equations f2_roundSupports f2_stale f7_size f1_size f5_keptSize f5_aheadSize f0_solved f4_blockCount f4_blockLength f4_lastIsFree f4_stale : Int32} {ai0 : Nat → Nat → Int32} {al : Nat → Nat → Int64} {w0 w1 w2 w3 : Nat} (C : Cx p c s m meth args A dC dI (TY cI cJ cII cJJ) cX4_readBlock none 5 RX4 0 g) : ∀ (n : Nat), ∀ (L1 L3 L4 : Int32) (ai : Nat → Nat → Int32) (H : Heap) (locs : List Loc) (ls : Array Slot), (0 ≤ L1.toInt ∧ L1.toInt ≤ 9260) → (-1 ≤ L4.toInt ∧ L4.toInt ≤ 3) → (1 ≤ f3_unknowns.toInt ∧ f3_unknowns.toInt ≤ 4) → (0 ≤ f3_equations.toInt ∧ f3_equations.toInt ≤ 3) → (0 ≤ f2_stale.toInt ∧ f2_stale.toInt ≤ 1) → (0 ≤ f7_size.toInt ∧ f7_size.toInt ≤ 256) → (0 ≤ f1_size.toInt ∧ f1_size.toInt ≤ 4) → (0 ≤ f5_keptSize.toInt ∧ f5_keptSize.toInt ≤ 128) → (0 ≤ f5_aheadSize.toInt ∧ f5_aheadSize.toInt ≤ 128) → (0 ≤ f4_blockCount.toInt ∧ f4_blockCount.toInt ≤ 9261) → (0 ≤ f4_blockLength.toInt ∧ f4_blockLength.toInt ≤ 21) → (0 ≤ f4_lastIsFree.toInt ∧ f4_lastIsFree.toInt ≤ 1) → (0 ≤ f4_stale.toInt ∧ f4_stale.toInt ≤ 1) → L4.toInt + 1 < (n : Int) → (0 : Int) < (n : Int) → IAX ai → FR [61] ai0 ai → RWX ad w0 → RWX ad w1 → RWX ad w2 → RWX ad w3 → va_P (dC, dI) vwCl (WX cI cJ cII cJJ ad f3_unknowns f3_equations f2_roundSupports f2_stale f7_size f1_size f5_keptSize f5_aheadSize f0_solved f4_blockCount f4_blockLength f4_lastIsFree f4_stale ai al w0 w1 w2 w3) H → va_D A (WX cI cJ cII cJJ ad f3_unknowns f3_equations f2_roundSupports f2_stale f7_size f1_size f5_keptSize f5_aheadSize f0_solved f4_blockCount f4_blockLength f4_lastIsFree f4_stale ai al w0 w1 w2 w3) → va_S A s.heap H locs → lv_has ls 5 [(0, .ref (ad 29)), (1, .int L1), (2, .ref (ad 61)), (3, .int L3), (4, .int L4)] → W p l e ({ frames := 3, cells := 0, slots := 0, locals := 140 } : Room) s m args below meth c H locs 0 0 (MQ below (Q_m125_X4_readBlock dC dI cI cJ cII cJJ ad f3_unknowns f3_equations f2_roundSupports f2_stale f7_size f1_size f5_keptSize f5_aheadSize f0_solved f4_blockCount f4_blockLength f4_lastIsFree f4_stale ai0 al w0 w1 w2 w3 A) args s 0 0 A) (F0 m 23 ls []) := by
  obtain ⟨hx, hb, hr, hml, hown, hts, hk, hA, hK, hX⟩ := id C
  intro n
  induction n with
  | zero =>
    intro L1 L3 L4 ai H locs ls h0 h1 h2 h3 h4 h5 h6 h7 h8 h9 h10 h11 h12 h13 h14 hI hF hw_w0 hw_w1 hw_w2 hw_w3 hP hD hS hl
    exact absurd h14 (by omega)
  | succ n ih =>
    intro L1 L3 L4 ai H locs ls h0 h1 h2 h3 h4 h5 h6 h7 h8 h9 h10 h11 h12 h13 h14 hI hF hw_w0 hw_w1 hw_w2 hw_w3 hP hD hS hl
    have ra_L3 := s_any L3
    refine lv_iload hx hb dX4_readBlock_23 (lv_at hl 4 rfl) ?_
    refine lv_if_lt (tgt := 50) hx hb dX4_readBlock_25 (by decide) (fun c1 => ?_) (fun c1 => ?_)
    · have c1 := j_lt (a := L4.toInt) (b := 0) rfl (by decide +kernel) c1
      exact r2_v hx hb hr hk hS dX4_readBlock_50 (fun t ht hW => ⟨ai, ⟨hI, hF⟩, by rw [ht]; exact hP, va_K.moved hW.alike hK, hD⟩)
    · have c1 := j_nlt (a := L4.toInt) (b := 0) rfl (by decide +kernel) c1
      refine lv_aload_n hx hb dX4_readBlock_28 rfl (lv_at hl 2 rfl) ?_
      refine lv_iload hx hb dX4_readBlock_29 (lv_at hl 4 rfl) ?_
      refine lv_iload_n hx hb dX4_readBlock_31 rfl (lv_at hl 3 rfl) ?_
      refine lv_bipush (v := 21) hx hb dX4_readBlock_32 (by decide) ?_
      refine v_irem hx hb dX4_readBlock_34 (by decide +kernel) _ rfl ?_
      refine lv_topi (fun z2 e_z2 => ?_)
      refine lv_bipush (v := 10) hx hb dX4_readBlock_35 (by decide) ?_
      refine v_isub hx hb dX4_readBlock_37 _ rfl ?_
      refine lv_topi (fun z3 e_z3 => ?_)
      refine va_iast hx hb hK hP hD hS 61 0 rfl rfl (j_in (a := L4.toInt) rfl (by omega) (by omega)) dX4_readBlock_38 (fun H_1 locs_1 hP_1 hD_1 hS_1 => ?_)
      obtain ⟨ai4, e_ai4⟩ : ∃ q : Nat → Nat → Int32, q = va_up ai 61 (upd (ai 61) L4.toNatClampNeg z3) := ⟨_, rfl⟩
      have hF_2 := FR_st hF e_ai4 (by decide)
      have hI_3 : IAX ai4 := by rw [e_ai4]; exact hI
      have hP_4 : va_P (dC, dI) vwCl (WX cI cJ cII cJJ ad f3_unknowns f3_equations f2_roundSupports f2_stale f7_size f1_size f5_keptSize f5_aheadSize f0_solved f4_blockCount f4_blockLength f4_lastIsFree f4_stale ai4 al w0 w1 w2 w3) H_1 := by rw [e_ai4]; exact hP_1
      have hD_5 : va_D A (WX cI cJ cII cJJ ad f3_unknowns f3_equations f2_roundSupports f2_stale f7_size f1_size f5_keptSize f5_aheadSize f0_solved f4_blockCount f4_blockLength f4_lastIsFree f4_stale ai4 al w0 w1 w2 w3) := by rw [e_ai4]; exact hD_1
      refine lv_iload_n hx hb dX4_readBlock_39 rfl (lv_at hl 3 rfl) ?_
      refine lv_bipush (v := 21) hx hb dX4_readBlock_40 (by decide) ?_
      refine v_idiv hx hb dX4_readBlock_42 (by decide +kernel) _ rfl ?_
      refine lv_topi (fun z5 e_z5 => ?_)
      refine lv_istore_n (lv' := [(3, .int z5), (0, .ref (ad 29)), (1, .int L1), (2, .ref (ad 61)), (4, .int L4)]) hx hb dX4_readBlock_43 rfl hl (by decide) rfl (fun ls_6 hl_6 => ?_)
      obtain ⟨z6, e_z6⟩ : ∃ q : Int32, q = L4 + Int32.ofInt (-1) := ⟨_, rfl⟩
      have g_z6 : z6.toInt = L4.toInt + (-1) := by rw [e_z6]; exact n_add (a := L4.toInt) (b := (-1)) rfl (by decide +kernel) (by omega) (by omega)
      refine lv_iinc (v := z6) (lv' := [(4, .int z6), (3, .int z5), (0, .ref (ad 29)), (1, .int L1), (2, .ref (ad 61))]) hx hb dX4_readBlock_44 hl_6 (k := 4) rfl e_z6.symm (by decide) rfl (fun ls_7 hl_7 => ?_)
      refine lv_goto (tgt := 23) hx hb dX4_readBlock_47 (by decide) ?_
      exact ih L1 z5 z6 ai4 _ _ _ (by omega) (by omega) (by omega) (by omega) (by omega) (by omega) (by omega) (by omega) (by omega) (by omega) (by omega) (by omega) (by omega) (by omega) (by omega) hI_3 hF_2 hw_w0 hw_w1 hw_w2 hw_w3 hP_4 hD_5 hS_1 (lv_sub hl_7 [2, 3, 4, 1, 0] rfl)
set_option maxRecDepth 100000 in
set_option maxHeartbeats 4000000 in
theorem m125_X4_readBlock (l : Launch) (dC : Nat → ClassId) (dI : Nat → Nat → Nat) (cI cJ cII cJJ : ClassId) (sz g : Nat) (ad : Nat → Nat) (f3_unknowns f3_equations f2_roundSupports f2_stale f7_size f1_size f5_keptSize f5_aheadSize f0_solved f4_blockCount f4_blockLength f4_lastIsFree f4_stale : Int32) (ai : Nat → Nat → Int32) (al : Nat → Nat → Int64) (w0 w1 w2 w3 : Nat) (x1 : Int32) (h_x1 : (0 ≤ x1.toInt ∧ x1.toInt ≤ 9260)) (h_f3_unknowns : (1 ≤ f3_unknowns.toInt ∧ f3_unknowns.toInt ≤ 4)) (h_f3_equations : (0 ≤ f3_equations.toInt ∧ f3_equations.toInt ≤ 3)) (h_f2_stale : (0 ≤ f2_stale.toInt ∧ f2_stale.toInt ≤ 1)) (h_f7_size : (0 ≤ f7_size.toInt ∧ f7_size.toInt ≤ 256)) (h_f1_size : (0 ≤ f1_size.toInt ∧ f1_size.toInt ≤ 4)) (h_f5_keptSize : (0 ≤ f5_keptSize.toInt ∧ f5_keptSize.toInt ≤ 128)) (h_f5_aheadSize : (0 ≤ f5_aheadSize.toInt ∧ f5_aheadSize.toInt ≤ 128)) (h_f4_blockCount : (0 ≤ f4_blockCount.toInt ∧ f4_blockCount.toInt ≤ 9261)) (h_f4_blockLength : (0 ≤ f4_blockLength.toInt ∧ f4_blockLength.toInt ≤ 21)) (h_f4_lastIsFree : (0 ≤ f4_lastIsFree.toInt ∧ f4_lastIsFree.toInt ≤ 1)) (h_f4_stale : (0 ≤ f4_stale.toInt ∧ f4_stale.toInt ≤ 1)) (hI : IAX ai) (hw_w0 : RWX ad w0) (hw_w1 : RWX ad w1) (hw_w2 : RWX ad w2) (hw_w3 : RWX ad w3) : Met l yX4_readBlock (.code yX4_readBlock cX4_readBlock 5 none :: TT) ({ frames := 3, cells := 0, slots := 0, locals := 140 } : Room) (PcS dC dI (TY cI cJ cII cJJ) [.ref (ad 29), .int x1, .ref (ad 61)] (WX cI cJ cII cJJ ad f3_unknowns f3_equations f2_roundSupports f2_stale f7_size f1_size f5_keptSize f5_aheadSize f0_solved f4_blockCount f4_blockLength f4_lastIsFree f4_stale ai al w0 w1 w2 w3) sz 0 g) (Q_m125_X4_readBlock dC dI cI cJ cII cJJ ad f3_unknowns f3_equations f2_roundSupports f2_stale f7_size f1_size f5_keptSize f5_aheadSize f0_solved f4_blockCount f4_blockLength f4_lastIsFree f4_stale ai al w0 w1 w2 w3 (va_A (WX cI cJ cII cJJ ad f3_unknowns f3_equations f2_roundSupports f2_stale f7_size f1_size f5_keptSize f5_aheadSize f0_solved f4_blockCount f4_blockLength f4_lastIsFree f4_stale ai al w0 w1 w2 w3) sz)) 0 0 (va_A (WX cI cJ cII cJJ ad f3_unknowns f3_equations f2_roundSupports f2_stale f7_size f1_size f5_keptSize f5_aheadSize f0_solved f4_blockCount f4_blockLength f4_lastIsFree f4_stale ai al w0 w1 w2 w3) sz) := by
  refine SM.of (y := yX4_readBlock) (maxL := 5) (av := [.ref (ad 29), .int x1, .ref (ad 61)]) (Q_m125_X4_readBlock dC dI cI cJ cII cJJ ad f3_unknowns f3_equations f2_roundSupports f2_stale f7_size f1_size f5_keptSize f5_aheadSize f0_solved f4_blockCount f4_blockLength f4_lastIsFree f4_stale ai al w0 w1 w2 w3) (by decide +kernel) (Nat.le_of_ble_eq_true rfl) (fun p e s m below meth c A ls hx hb hr hml hown hts hk hnm hA hK hP hD hS hX hl => ?_)
  have C : Cx p c s m meth (([.ref (ad 29), .int x1, .ref (ad 61)] : List Value).toArray) A dC dI (TY cI cJ cII cJJ) cX4_readBlock none 5 RX4 0 g := ⟨hx, hb, hr, hml, hown, hts, hk, hA, hK, hX⟩
  have hown : s.vm.findClass RX4 = some m.cls := hown
  have hl : lv_has ls 5 [(0, .ref (ad 29)), (1, .int x1), (2, .ref (ad 61))] := hl
  obtain ⟨H, hH⟩ : ∃ q, q = s.heap := ⟨_, rfl⟩
  rw [← hH] at hP
  have hS : va_S A s.heap H [] := by rw [hH]; exact hS
  rw [← hH]
  have hF := FR_refl [61] ai
  refine lv_aload_n hx hb dX4_readBlock_0 rfl (lv_at hl 0 rfl) ?_
  refine gf (k := 1) hx hb hts inX4 hown hK hP k_206 rfl (by decide) rfl 29 rfl (.ref (ad 30)) rfl dX4_readBlock_1 ?_
  refine lv_iload_n hx hb dX4_readBlock_4 rfl (lv_at hl 1 rfl) ?_
  refine va_iald hx hb hK hP 30 0 rfl rfl (j_in (a := x1.toInt) rfl (by omega) (by omega)) dX4_readBlock_5 ?_
  refine lv_topi (fun z1 e_z1 => ?_)
  refine lv_istore_n (lv' := [(3, .int z1), (0, .ref (ad 29)), (1, .int x1), (2, .ref (ad 61))]) hx hb dX4_readBlock_6 rfl hl (by decide) rfl (fun ls_1 hl_1 => ?_)
  refine lv_aload_n hx hb dX4_readBlock_7 rfl (lv_at hl_1 3 rfl) ?_
  refine lv_iconst (v := 0) hx hb dX4_readBlock_8 (by decide) ?_
  have kc0 : (0 : Int32).toInt = 0 := by decide +kernel
  have hM := m124_J7_fill_53178 l dC dI cI cJ cII cJJ H.size 0 ad f3_unknowns f3_equations f2_roundSupports f2_stale f7_size f1_size f5_keptSize f5_aheadSize f0_solved f4_blockCount f4_blockLength f4_lastIsFree f4_stale ai al w0 w1 w2 w3 (by omega) (by omega) (by omega) (by omega) (by omega) (by omega) (by omega) (by omega) (by omega) (by omega) (by omega) hI hw_w0 hw_w1 hw_w2 hw_w3
  refine k2S_v ⟨hx, hb, hml, hown, hts⟩ hK hP hD hS hA hX cs_RX4_110 hM ⟨by decide +kernel, by decide +kernel⟩ rfl rfl (Or.inl rfl) (rest := []) rfl hl_1.1 rfl (Nat.le_of_ble_eq_true rfl) dX4_readBlock_9 ⟨Nat.le_of_ble_eq_true rfl, Nat.le_of_ble_eq_true rfl⟩ (fun t H1 locs_2 ht hB hS_2 hFc => ?_)
  obtain ⟨ai3, ⟨hI_3, hFr_r2⟩, hP_3, -, hD_3⟩ := hB
  have hF_4 := FR_tr hF hFr_r2 (by decide)
  rw [ht] at hP_3
  have hD_5 := hD_3.weaken (B := A) (fun k q _ h9 => hFc q.1 h9)
  clear ht
  generalize H1 = H_6 at hP_3 hS_2 ⊢
  refine lv_aload_n hx hb dX4_readBlock_12 rfl (lv_at hl_1 1 rfl) ?_
  refine gf (k := 0) hx hb hts inX4 hown hK hP_3 k_205 rfl (by decide) rfl 29 rfl (.ref (ad 6)) rfl dX4_readBlock_13 ?_
  refine gf (k := 0) hx hb hts inX3 hown hK hP_3 k_39 rfl (by decide) rfl 6 rfl (.int f3_unknowns) rfl dX4_readBlock_16 ?_
  refine lv_iconst (v := 1) hx hb dX4_readBlock_19 (by decide) ?_
  refine v_isub hx hb dX4_readBlock_20 _ rfl ?_
  refine lv_topi (fun z4 e_z4 => ?_)
  have g_z4 : z4.toInt = f3_unknowns.toInt - 1 := by rw [e_z4]; exact n_sub (a := f3_unknowns.toInt) (b := 1) rfl (by decide +kernel) (by omega) (by omega)
  refine lv_istore (lv' := [(4, .int z4), (3, .int z1), (0, .ref (ad 29)), (1, .int x1), (2, .ref (ad 61))]) hx hb dX4_readBlock_21 hl_1 (by decide) rfl (fun ls_7 hl_7 => ?_)
  exact m125_X4_readBlock_b23 C  _ x1 z1 z4 ai3 _ _ _ (by omega) (by omega) (by omega) (by omega) (by omega) (by omega) (by omega) (by omega) (by omega) (by omega) (by omega) (by omega) (by omega) (j_fuel _) (by omega) hI_3 hF_4 hw_w0 hw_w1 hw_w2 hw_w3 hP_3 hD_5 hS_2 (lv_sub hl_7 [2, 3, 4, 1, 0] rfl)
def Q_m126_X4_read (dC : Nat → ClassId) (dI : Nat → Nat → Nat) (cI cJ cII cJJ : ClassId) (ad : Nat → Nat) (f3_unknowns f3_equations f2_roundSupports f2_stale f7_size f1_size f5_keptSize f5_aheadSize f0_solved f4_blockCount f4_blockLength f4_lastIsFree f4_stale : Int32) (ai0 : Nat → Nat → Int32) (al : Nat → Nat → Int64) (w0 w1 w2 w3 : Nat) : (Nat → Prop) → Array Value → State → Outcome → State → Prop := fun A => QV (fun t => ∃ (n_ai : Nat → Nat → Int32), (IAX n_ai ∧ FR [61] ai0 n_ai) ∧ WO dC dI (TY cI cJ cII cJJ) (WX cI cJ cII cJJ ad f3_unknowns f3_equations f2_roundSupports f2_stale f7_size f1_size f5_keptSize f5_aheadSize f0_solved f4_blockCount f4_blockLength f4_lastIsFree f4_stale n_ai al w0 w1 w2 w3) A t) A
set_option maxRecDepth 100000 in
set_option maxHeartbeats 4000000 in
theorem m126_X4_read (l : Launch) (dC : Nat → ClassId) (dI : Nat → Nat → Nat) (cI cJ cII cJJ : ClassId) (sz g : Nat) (ad : Nat → Nat) (f3_unknowns f3_equations f2_roundSupports f2_stale f7_size f1_size f5_keptSize f5_aheadSize f0_solved f4_blockCount f4_blockLength f4_lastIsFree f4_stale : Int32) (ai : Nat → Nat → Int32) (al : Nat → Nat → Int64) (w0 w1 w2 w3 : Nat) (x1 : Int32) (h_f3_unknowns : (1 ≤ f3_unknowns.toInt ∧ f3_unknowns.toInt ≤ 4)) (h_f3_equations : (0 ≤ f3_equations.toInt ∧ f3_equations.toInt ≤ 3)) (h_f2_stale : (0 ≤ f2_stale.toInt ∧ f2_stale.toInt ≤ 1)) (h_f7_size : (0 ≤ f7_size.toInt ∧ f7_size.toInt ≤ 256)) (h_f1_size : (0 ≤ f1_size.toInt ∧ f1_size.toInt ≤ 4)) (h_f5_keptSize : (0 ≤ f5_keptSize.toInt ∧ f5_keptSize.toInt ≤ 128)) (h_f5_aheadSize : (0 ≤ f5_aheadSize.toInt ∧ f5_aheadSize.toInt ≤ 128)) (h_f4_blockCount : (0 ≤ f4_blockCount.toInt ∧ f4_blockCount.toInt ≤ 9261)) (h_f4_blockLength : (0 ≤ f4_blockLength.toInt ∧ f4_blockLength.toInt ≤ 21)) (h_f4_lastIsFree : (0 ≤ f4_lastIsFree.toInt ∧ f4_lastIsFree.toInt ≤ 1)) (h_f4_stale : (0 ≤ f4_stale.toInt ∧ f4_stale.toInt ≤ 1)) (hp0 : 0 ≤ x1.toInt) (hp1 : x1.toInt < f4_blockCount.toInt * f4_blockLength.toInt) (hI : IAX ai) (hw_w0 : RWX ad w0) (hw_w1 : RWX ad w1) (hw_w2 : RWX ad w2) (hw_w3 : RWX ad w3) : Met l yX4_read (.code yX4_read cX4_read 3 none :: TT) ({ frames := 4, cells := 0, slots := 0, locals := 200 } : Room) (PcS dC dI (TY cI cJ cII cJJ) [.ref (ad 29), .int x1, .ref (ad 61)] (WX cI cJ cII cJJ ad f3_unknowns f3_equations f2_roundSupports f2_stale f7_size f1_size f5_keptSize f5_aheadSize f0_solved f4_blockCount f4_blockLength f4_lastIsFree f4_stale ai al w0 w1 w2 w3) sz 0 g) (Q_m126_X4_read dC dI cI cJ cII cJJ ad f3_unknowns f3_equations f2_roundSupports f2_stale f7_size f1_size f5_keptSize f5_aheadSize f0_solved f4_blockCount f4_blockLength f4_lastIsFree f4_stale ai al w0 w1 w2 w3 (va_A (WX cI cJ cII cJJ ad f3_unknowns f3_equations f2_roundSupports f2_stale f7_size f1_size f5_keptSize f5_aheadSize f0_solved f4_blockCount f4_blockLength f4_lastIsFree f4_stale ai al w0 w1 w2 w3) sz)) 0 0 (va_A (WX cI cJ cII cJJ ad f3_unknowns f3_equations f2_roundSupports f2_stale f7_size f1_size f5_keptSize f5_aheadSize f0_solved f4_blockCount f4_blockLength f4_lastIsFree f4_stale ai al w0 w1 w2 w3) sz) := by
  refine SM.of (y := yX4_read) (maxL := 3) (av := [.ref (ad 29), .int x1, .ref (ad 61)]) (Q_m126_X4_read dC dI cI cJ cII cJJ ad f3_unknowns f3_equations f2_roundSupports f2_stale f7_size f1_size f5_keptSize f5_aheadSize f0_solved f4_blockCount f4_blockLength f4_lastIsFree f4_stale ai al w0 w1 w2 w3) (by decide +kernel) (Nat.le_of_ble_eq_true rfl) (fun p e s m below meth c A ls hx hb hr hml hown hts hk hnm hA hK hP hD hS hX hl => ?_)
  have C : Cx p c s m meth (([.ref (ad 29), .int x1, .ref (ad 61)] : List Value).toArray) A dC dI (TY cI cJ cII cJJ) cX4_read none 3 RX4 0 g := ⟨hx, hb, hr, hml, hown, hts, hk, hA, hK, hX⟩
  have hown : s.vm.findClass RX4 = some m.cls := hown
  have hl : lv_has ls 3 [(0, .ref (ad 29)), (1, .int x1), (2, .ref (ad 61))] := hl
  obtain ⟨H, hH⟩ : ∃ q, q = s.heap := ⟨_, rfl⟩
  rw [← hH] at hP
  have hS : va_S A s.heap H [] := by rw [hH]; exact hS
  rw [← hH]
  have hF := FR_refl [61] ai
  have ra_x1 := s_any x1
  refine lv_aload_n hx hb dX4_read_0 rfl (lv_at hl 0 rfl) ?_
  refine gf (k := 9) hx hb hts inX4 hown hK hP k_214 rfl (by decide) rfl 29 rfl (.int f4_blockLength) rfl dX4_read_1 ?_
  refine lv_if_gt (tgt := 8) hx hb dX4_read_4 (by decide) (fun c1 => ?_) (fun c1 => ?_)
  · have c1 := j_lt (a := 0) (b := f4_blockLength.toInt) (by decide +kernel) rfl c1
    refine lv_aload_n hx hb dX4_read_8 rfl (lv_at hl 0 rfl) ?_
    refine lv_iload_n hx hb dX4_read_9 rfl (lv_at hl 1 rfl) ?_
    refine lv_aload_n hx hb dX4_read_10 rfl (lv_at hl 0 rfl) ?_
    refine gf (k := 9) hx hb hts inX4 hown hK hP k_214 rfl (by decide) rfl 29 rfl (.int f4_blockLength) rfl dX4_read_11 ?_
    refine v_idiv hx hb dX4_read_14 (j_nz (a := f4_blockLength.toInt) rfl (by omega)) _ rfl ?_
    refine lv_topi (fun z2 e_z2 => ?_)
    have g_z2 : 0 ≤ z2.toInt ∧ z2.toInt ≤ 9260 := by rw [e_z2]; have q9 := n_divlt (a := x1.toInt) (b := f4_blockLength.toInt) (k := f4_blockCount.toInt) rfl rfl (by omega) (by omega) hp1; omega
    refine lv_aload_n hx hb dX4_read_15 rfl (lv_at hl 2 rfl) ?_
    have hM := m125_X4_readBlock l dC dI cI cJ cII cJJ H.size 0 ad f3_unknowns f3_equations f2_roundSupports f2_stale f7_size f1_size f5_keptSize f5_aheadSize f0_solved f4_blockCount f4_blockLength f4_lastIsFree f4_stale ai al w0 w1 w2 w3 z2 (by omega) (by omega) (by omega) (by omega) (by omega) (by omega) (by omega) (by omega) (by omega) (by omega) (by omega) (by omega) hI hw_w0 hw_w1 hw_w2 hw_w3
    refine k2V_v (q0 := 29) ⟨hx, hb, hml, hown, hts⟩ hK hP hD hS hA hX cv_RX4_85 hM ⟨by decide +kernel, by decide +kernel⟩ rfl rfl (Or.inl rfl) (rest := []) rfl rfl rfl hl.1 rfl (Nat.le_of_ble_eq_true rfl) dX4_read_16 ⟨Nat.le_of_ble_eq_true rfl, Nat.le_of_ble_eq_true rfl⟩ (fun t H1 locs_1 ht hB hS_1 hFc => ?_)
    obtain ⟨ai4, ⟨hI_2, hFr_r3⟩, hP_2, -, hD_2⟩ := hB
    have hF_3 := FR_tr hF hFr_r3 (by decide)
    rw [ht] at hP_2
    have hD_4 := hD_2.weaken (B := A) (fun k q _ h9 => hFc q.1 h9)
    clear ht
    generalize H1 = H_5 at hP_2 hS_1 ⊢
    refine lv_aload_n hx hb dX4_read_19 rfl (lv_at hl 2 rfl) ?_
    refine lv_aload_n hx hb dX4_read_20 rfl (lv_at hl 0 rfl) ?_
    refine gf (k := 0) hx hb hts inX4 hown hK hP_2 k_205 rfl (by decide) rfl 29 rfl (.ref (ad 6)) rfl dX4_read_21 ?_
    refine gf (k := 0) hx hb hts inX3 hown hK hP_2 k_39 rfl (by decide) rfl 6 rfl (.int f3_unknowns) rfl dX4_read_24 ?_
    refine lv_iconst (v := 1) hx hb dX4_read_27 (by decide) ?_
    refine v_isub hx hb dX4_read_28 _ rfl ?_
    refine lv_topi (fun z5 e_z5 => ?_)
    have g_z5 : z5.toInt = f3_unknowns.toInt - 1 := by rw [e_z5]; exact n_sub (a := f3_unknowns.toInt) (b := 1) rfl (by decide +kernel) (by omega) (by omega)
    refine lv_dup2_11 hx hb dX4_read_29 rfl rfl ?_
    refine va_iald hx hb hK hP_2 61 0 rfl rfl (j_in (a := z5.toInt) rfl (by omega) (by omega)) dX4_read_30 ?_
    refine lv_topi (fun z6 e_z6 => ?_)
    refine lv_iload_n hx hb dX4_read_31 rfl (lv_at hl 1 rfl) ?_
    refine lv_aload_n hx hb dX4_read_32 rfl (lv_at hl 0 rfl) ?_
    refine gf (k := 9) hx hb hts inX4 hown hK hP_2 k_214 rfl (by decide) rfl 29 rfl (.int f4_blockLength) rfl dX4_read_33 ?_
    refine v_irem hx hb dX4_read_36 (j_nz (a := f4_blockLength.toInt) rfl (by omega)) _ rfl ?_
    refine lv_topi (fun z7 e_z7 => ?_)
    refine v_iadd hx hb dX4_read_37 _ rfl ?_
    refine lv_topi (fun z8 e_z8 => ?_)
    refine va_iast hx hb hK hP_2 hD_4 hS_1 61 0 rfl rfl (j_in (a := z5.toInt) rfl (by omega) (by omega)) dX4_read_38 (fun H_6 locs_6 hP_6 hD_6 hS_6 => ?_)
    obtain ⟨ai9, e_ai9⟩ : ∃ q : Nat → Nat → Int32, q = va_up ai4 61 (upd (ai4 61) z5.toNatClampNeg z8) := ⟨_, rfl⟩
    have hF_7 := FR_st hF_3 e_ai9 (by decide)
    have hI_8 : IAX ai9 := by rw [e_ai9]; exact hI_2
    have hP_9 : va_P (dC, dI) vwCl (WX cI cJ cII cJJ ad f3_unknowns f3_equations f2_roundSupports f2_stale f7_size f1_size f5_keptSize f5_aheadSize f0_solved f4_blockCount f4_blockLength f4_lastIsFree f4_stale ai9 al w0 w1 w2 w3) H_6 := by rw [e_ai9]; exact hP_6
    have hD_10 : va_D A (WX cI cJ cII cJJ ad f3_unknowns f3_equations f2_roundSupports f2_stale f7_size f1_size f5_keptSize f5_aheadSize f0_solved f4_blockCount f4_blockLength f4_lastIsFree f4_stale ai9 al w0 w1 w2 w3) := by rw [e_ai9]; exact hD_6
    exact r2_v hx hb hr hk hS_6 dX4_read_39 (fun t ht hW => ⟨ai9, ⟨hI_8, hF_7⟩, by rw [ht]; exact hP_9, va_K.moved hW.alike hK, hD_10⟩)
  · have c1 := j_nlt (a := 0) (b := f4_blockLength.toInt) (by decide +kernel) rfl c1
    exact r2_v hx hb hr hk hS dX4_read_7 (fun t ht hW => ⟨ai, ⟨hI, hF⟩, by rw [ht]; exact hP, va_K.moved hW.alike hK, hD⟩)
def Q_m127_X8_plan (dC : Nat → ClassId) (dI : Nat → Nat → Nat) (cI cJ cII cJJ : ClassId) (ad : Nat → Nat) (f3_unknowns f3_equations f2_roundSupports f2_stale f7_size f1_size f5_keptSize f5_aheadSize f0_solved : Int32) (ai0 : Nat → Nat → Int32) (al : Nat → Nat → Int64) (w0 w1 w2 w3 : Nat) : (Nat → Prop) → Array Value → State → Outcome → State → Prop := fun A => QI (fun r t => ∃ (n_f4_blockCount n_f4_blockLength n_f4_lastIsFree n_f4_stale : Int32), ∃ (n_ai : Nat → Nat → Int32), ((0 ≤ n_f4_blockCount.toInt ∧ n_f4_blockCount.toInt ≤ 9261) ∧ (0 ≤ n_f4_blockLength.toInt ∧ n_f4_blockLength.toInt ≤ 21) ∧ (0 ≤ n_f4_lastIsFree.toInt ∧ n_f4_lastIsFree.toInt ≤ 1) ∧ (0 ≤ n_f4_stale.toInt ∧ n_f4_stale.toInt ≤ 0) ∧ IAX n_ai ∧ FR [30, 32, 33, 35, 36, 37, 38, 41, 42, 43, 44, 45, 47, 48, 49, 50, 51, 61] ai0 n_ai) ∧ WO dC dI (TY cI cJ cII cJJ) (WX cI cJ cII cJJ ad f3_unknowns f3_equations f2_roundSupports f2_stale f7_size f1_size f5_keptSize f5_aheadSize f0_solved n_f4_blockCount n_f4_blockLength n_f4_lastIsFree n_f4_stale n_ai al w0 w1 w2 w3) A t) A
set_option maxRecDepth 100000 in
set_option maxHeartbeats 4000000 in
theorem m127_X8_plan_b22 {p : Program} {l : Launch} {e : Env} {s : State} {m : MethodId} {args : Array Value} {below : List Frame} {meth : Method} {c : Code} {A : Nat → Prop} {dC : Nat → ClassId} {dI : Nat → Nat → Nat} {cI cJ cII cJJ : ClassId} {ad : Nat → Nat} {g : Nat} {f3_unknowns f3_equations f2_roundSupports f2_stale f7_size f1_size f5_keptSize f5_aheadSize f0_solved : Int32} {ai0 : Nat → Nat → Int32} {al : Nat → Nat → Int64} {w0 w1 w2 w3 : Nat} (C : Cx p c s m meth args A dC dI (TY cI cJ cII cJJ) cX8_plan (some .int) 3 RX8 0 g) : ∀ (L1 L2 f4_blockCount f4_blockLength f4_lastIsFree f4_stale : Int32) (ai : Nat → Nat → Int32) (H : Heap) (locs : List Loc) (ls : Array Slot), (1 ≤ f3_unknowns.toInt ∧ f3_unknowns.toInt ≤ 4) → (0 ≤ f3_equations.toInt ∧ f3_equations.toInt ≤ 3) → (0 ≤ f2_stale.toInt ∧ f2_stale.toInt ≤ 1) → (0 ≤ f7_size.toInt ∧ f7_size.toInt ≤ 256) → (0 ≤ f1_size.toInt ∧ f1_size.toInt ≤ 4) → (0 ≤ f5_keptSize.toInt ∧ f5_keptSize.toInt ≤ 128) → (0 ≤ f5_aheadSize.toInt ∧ f5_aheadSize.toInt ≤ 128) → (0 ≤ f4_blockCount.toInt ∧ f4_blockCount.toInt ≤ 9261) → (0 ≤ f4_blockLength.toInt ∧ f4_blockLength.toInt ≤ 21) → (0 ≤ f4_lastIsFree.toInt ∧ f4_lastIsFree.toInt ≤ 1) → (0 ≤ f4_stale.toInt ∧ f4_stale.toInt ≤ 0) → IAX ai → FR [30, 32, 33, 35, 36, 37, 38, 41, 42, 43, 44, 45, 47, 48, 49, 50, 51, 61] ai0 ai → RWX ad w0 → RWX ad w1 → RWX ad w2 → RWX ad w3 → va_P (dC, dI) vwCl (WX cI cJ cII cJJ ad f3_unknowns f3_equations f2_roundSupports f2_stale f7_size f1_size f5_keptSize f5_aheadSize f0_solved f4_blockCount f4_blockLength f4_lastIsFree f4_stale ai al w0 w1 w2 w3) H → va_D A (WX cI cJ cII cJJ ad f3_unknowns f3_equations f2_roundSupports f2_stale f7_size f1_size f5_keptSize f5_aheadSize f0_solved f4_blockCount f4_blockLength f4_lastIsFree f4_stale ai al w0 w1 w2 w3) → va_S A s.heap H locs → lv_has ls 3 [(0, .ref (ad 0)), (1, .int L1), (2, .int L2)] → W p l e ({ frames := 13, cells := 0, slots := 0, locals := 740 } : Room) s m args below meth c H locs 0 0 (MQ below (Q_m127_X8_plan dC dI cI cJ cII cJJ ad f3_unknowns f3_equations f2_roundSupports f2_stale f7_size f1_size f5_keptSize f5_aheadSize f0_solved ai0 al w0 w1 w2 w3 A) args s 0 0 A) (F0 m 22 ls []) := by
  obtain ⟨hx, hb, hr, hml, hown, hts, hk, hA, hK, hX⟩ := id C
  intro L1 L2 f4_blockCount f4_blockLength f4_lastIsFree f4_stale ai H locs ls h0 h1 h2 h3 h4 h5 h6 h7 h8 h9 h10 hI hF hw_w0 hw_w1 hw_w2 hw_w3 hP hD hS hl
  have ra_L1 := s_any L1
  have ra_L2 := s_any L2
  refine lv_ldc (v := (-99999)) hx hb hown (hts _ k_543) dX8_plan_22 ?_
  exact r2_i hx hb hr hk hS dX8_plan_24 (fun t ht hW => ⟨f4_blockCount, f4_blockLength, f4_lastIsFree, f4_stale, ai, ⟨(by first | omega | decide | exact Or.inl (by decide) | exact Or.inr (by decide) | exact Or.inr (by omega)), (by first | omega | decide | exact Or.inl (by decide) | exact Or.inr (by decide) | exact Or.inr (by omega)), (by first | omega | decide | exact Or.inl (by decide) | exact Or.inr (by decide) | exact Or.inr (by omega)), (by first | omega | decide | exact Or.inl (by decide) | exact Or.inr (by decide) | exact Or.inr (by omega)), hI, hF⟩, by rw [ht]; exact hP, va_K.moved hW.alike hK, hD⟩)
set_option maxRecDepth 100000 in
set_option maxHeartbeats 4000000 in
theorem m127_X8_plan (l : Launch) (dC : Nat → ClassId) (dI : Nat → Nat → Nat) (cI cJ cII cJJ : ClassId) (sz g : Nat) (ad : Nat → Nat) (f3_unknowns f3_equations f2_roundSupports f2_stale f7_size f1_size f5_keptSize f5_aheadSize f0_solved f4_blockCount f4_blockLength f4_lastIsFree f4_stale : Int32) (ai : Nat → Nat → Int32) (al : Nat → Nat → Int64) (w0 w1 w2 w3 : Nat) (x1 : Int32) (x2 : Int32) (h_f3_unknowns : (1 ≤ f3_unknowns.toInt ∧ f3_unknowns.toInt ≤ 4)) (h_f3_equations : (0 ≤ f3_equations.toInt ∧ f3_equations.toInt ≤ 3)) (h_f2_stale : (0 ≤ f2_stale.toInt ∧ f2_stale.toInt ≤ 1)) (h_f7_size : (0 ≤ f7_size.toInt ∧ f7_size.toInt ≤ 256)) (h_f1_size : (0 ≤ f1_size.toInt ∧ f1_size.toInt ≤ 4)) (h_f5_keptSize : (0 ≤ f5_keptSize.toInt ∧ f5_keptSize.toInt ≤ 128)) (h_f5_aheadSize : (0 ≤ f5_aheadSize.toInt ∧ f5_aheadSize.toInt ≤ 128)) (h_f4_blockCount : (0 ≤ f4_blockCount.toInt ∧ f4_blockCount.toInt ≤ 9261)) (h_f4_blockLength : (0 ≤ f4_blockLength.toInt ∧ f4_blockLength.toInt ≤ 21)) (h_f4_lastIsFree : (0 ≤ f4_lastIsFree.toInt ∧ f4_lastIsFree.toInt ≤ 1)) (h_f4_stale : (0 ≤ f4_stale.toInt ∧ f4_stale.toInt ≤ 1)) (hI : IAX ai) (hw_w0 : RWX ad w0) (hw_w1 : RWX ad w1) (hw_w2 : RWX ad w2) (hw_w3 : RWX ad w3) : Met l yX8_plan (.code yX8_plan cX8_plan 3 (some .int) :: TT) ({ frames := 13, cells := 0, slots := 0, locals := 740 } : Room) (PcS dC dI (TY cI cJ cII cJJ) [.ref (ad 0), .int x1, .int x2] (WX cI cJ cII cJJ ad f3_unknowns f3_equations f2_roundSupports f2_stale f7_size f1_size f5_keptSize f5_aheadSize f0_solved f4_blockCount f4_blockLength f4_lastIsFree f4_stale ai al w0 w1 w2 w3) sz 0 g) (Q_m127_X8_plan dC dI cI cJ cII cJJ ad f3_unknowns f3_equations f2_roundSupports f2_stale f7_size f1_size f5_keptSize f5_aheadSize f0_solved ai al w0 w1 w2 w3 (va_A (WX cI cJ cII cJJ ad f3_unknowns f3_equations f2_roundSupports f2_stale f7_size f1_size f5_keptSize f5_aheadSize f0_solved f4_blockCount f4_blockLength f4_lastIsFree f4_stale ai al w0 w1 w2 w3) sz)) 0 0 (va_A (WX cI cJ cII cJJ ad f3_unknowns f3_equations f2_roundSupports f2_stale f7_size f1_size f5_keptSize f5_aheadSize f0_solved f4_blockCount f4_blockLength f4_lastIsFree f4_stale ai al w0 w1 w2 w3) sz) := by
  refine SM.of (y := yX8_plan) (maxL := 3) (av := [.ref (ad 0), .int x1, .int x2]) (Q_m127_X8_plan dC dI cI cJ cII cJJ ad f3_unknowns f3_equations f2_roundSupports f2_stale f7_size f1_size f5_keptSize f5_aheadSize f0_solved ai al w0 w1 w2 w3) (by decide +kernel) (Nat.le_of_ble_eq_true rfl) (fun p e s m below meth c A ls hx hb hr hml hown hts hk hnm hA hK hP hD hS hX hl => ?_)
  have C : Cx p c s m meth (([.ref (ad 0), .int x1, .int x2] : List Value).toArray) A dC dI (TY cI cJ cII cJJ) cX8_plan (some .int) 3 RX8 0 g := ⟨hx, hb, hr, hml, hown, hts, hk, hA, hK, hX⟩
  have hown : s.vm.findClass RX8 = some m.cls := hown
  have hl : lv_has ls 3 [(0, .ref (ad 0)), (1, .int x1), (2, .int x2)] := hl
  obtain ⟨H, hH⟩ : ∃ q, q = s.heap := ⟨_, rfl⟩
  rw [← hH] at hP
  have hS : va_S A s.heap H [] := by rw [hH]; exact hS
  rw [← hH]
  have hF := FR_refl [30, 32, 33, 35, 36, 37, 38, 41, 42, 43, 44, 45, 47, 48, 49, 50, 51, 61] ai
  have ra_x1 := s_any x1
  have ra_x2 := s_any x2
  refine lv_aload_n hx hb dX8_plan_0 rfl (lv_at hl 0 rfl) ?_
  have hM := m121_X8_freshPlans l dC dI cI cJ cII cJJ H.size 0 ad f3_unknowns f3_equations f2_roundSupports f2_stale f7_size f1_size f5_keptSize f5_aheadSize f0_solved f4_blockCount f4_blockLength f4_lastIsFree f4_stale ai al w0 w1 w2 w3 (by omega) (by omega) (by omega) (by omega) (by omega) (by omega) (by omega) (by omega) (by omega) (by omega) (by omega) hI hw_w0 hw_w1 hw_w2 hw_w3
  refine k2V_a (q0 := 0) ⟨hx, hb, hml, hown, hts⟩ hK hP hD hS hA hX cv_RX8_196 hM ⟨by decide +kernel, by decide +kernel⟩ rfl rfl (Or.inl rfl) (rest := []) rfl rfl rfl hl.1 rfl (Nat.le_of_ble_eq_true rfl) dX8_plan_1 ⟨Nat.le_of_ble_eq_true rfl, Nat.le_of_ble_eq_true rfl⟩ (fun t H1 locs_1 ht hB hS_1 hFc => ?_)
  obtain ⟨v2, v3, v4, v5, ai6, ⟨gpr1_0, gpr1_1, gpr1_2, gpr1_3, hI_2, hFr_r1⟩, hP_2, -, hD_2⟩ := hB
  have hF_3 := FR_tr hF hFr_r1 (by decide)
  rw [ht] at hP_2
  have hD_4 := hD_2.weaken (B := A) (fun k q _ h9 => hFc q.1 h9)
  clear ht
  generalize H1 = H_5 at hP_2 hS_1 ⊢
  refine lv_iload_n hx hb dX8_plan_4 rfl (lv_at hl 1 rfl) ?_
  have hM := m108_X4_isNumber l dC dI cI cJ cII cJJ H_5.size 0 ad f3_unknowns f3_equations f2_roundSupports f2_stale f7_size f1_size f5_keptSize f5_aheadSize f0_solved v2 v3 v4 v5 ai6 al w0 w1 w2 w3 x1 (by omega) (by omega) (by omega) (by omega) (by omega) (by omega) (by omega) (by omega) (by omega) (by omega) (by omega) hI_2 hw_w0 hw_w1 hw_w2 hw_w3
  refine k2V_i (q0 := 29) ⟨hx, hb, hml, hown, hts⟩ hK hP_2 hD_4 hS_1 hA hX cv_RX8_201 hM ⟨by decide +kernel, by decide +kernel⟩ rfl rfl (Or.inl rfl) (rest := []) rfl rfl rfl hl.1 rfl (Nat.le_of_ble_eq_true rfl) dX8_plan_5 ⟨Nat.le_of_ble_eq_true rfl, Nat.le_of_ble_eq_true rfl⟩ (fun r7 t H1 locs_6 ht hB hS_6 hFc => ?_)
  obtain ⟨⟨gpr7_0, gpr7_1⟩, hP_7, -, hD_7⟩ := hB
  rw [ht] at hP_7
  have hD_8 := hD_7.weaken (B := A) (fun k q _ h9 => hFc q.1 h9)
  clear ht
  generalize H1 = H_9 at hP_7 hS_6 ⊢
  refine lv_if_eq (tgt := 22) hx hb dX8_plan_8 (by decide) (fun c8 => ?_) (fun c8 => ?_)
  · have c8 := j_eq (a := r7.toInt) (b := 0) rfl (by decide +kernel) c8
    exact m127_X8_plan_b22 C  x1 x2 v2 v3 v4 v5 ai6 _ _ _ (by omega) (by omega) (by omega) (by omega) (by omega) (by omega) (by omega) (by omega) (by omega) (by omega) (by omega) hI_2 hF_3 hw_w0 hw_w1 hw_w2 hw_w3 hP_7 hD_8 hS_6 (lv_sub hl [0, 1, 2] rfl)
  · have c8 := j_ne (a := r7.toInt) (b := 0) rfl (by decide +kernel) c8
    refine lv_aload_n hx hb dX8_plan_11 rfl (lv_at hl 0 rfl) ?_
    refine gf (k := 0) hx hb hts inX8 hown hK hP_7 k_264 rfl (by decide) rfl 0 rfl (.ref (ad 6)) rfl dX8_plan_12 ?_
    refine lv_iload_n hx hb dX8_plan_15 rfl (lv_at hl 2 rfl) ?_
    have hM := m001_X3_hasUnknown l dC dI cI cJ cII cJJ H_9.size 0 ad f3_unknowns f3_equations f2_roundSupports f2_stale f7_size f1_size f5_keptSize f5_aheadSize f0_solved v2 v3 v4 v5 ai6 al w0 w1 w2 w3 x2 (by omega) (by omega) (by omega) (by omega) (by omega) (by omega) (by omega) (by omega) (by omega) (by omega) (by omega) hI_2 hw_w0 hw_w1 hw_w2 hw_w3
    refine k2V_i (q0 := 6) ⟨hx, hb, hml, hown, hts⟩ hK hP_7 hD_8 hS_6 hA hX cv_RX8_82 hM ⟨by decide +kernel, by decide +kernel⟩ rfl rfl (Or.inl rfl) (rest := []) rfl rfl rfl hl.1 rfl (Nat.le_of_ble_eq_true rfl) dX8_plan_16 ⟨Nat.le_of_ble_eq_true rfl, Nat.le_of_ble_eq_true rfl⟩ (fun r9 t H1 locs_10 ht hB hS_10 hFc => ?_)
    obtain ⟨⟨gpr9_0, gpr9_1⟩, hP_11, -, hD_11⟩ := hB
    rw [ht] at hP_11
    have hD_12 := hD_11.weaken (B := A) (fun k q _ h9 => hFc q.1 h9)
    clear ht
    generalize H1 = H_13 at hP_11 hS_10 ⊢
    refine lv_if_ne (tgt := 25) hx hb dX8_plan_19 (by decide) (fun c10 => ?_) (fun c10 => ?_)
    · have c10 := j_ne (a := r9.toInt) (b := 0) rfl (by decide +kernel) c10
      refine lv_aload_n hx hb dX8_plan_25 rfl (lv_at hl 0 rfl) ?_
      refine gf (k := 2) hx hb hts inX8 hown hK hP_11 k_266 rfl (by decide) rfl 0 rfl (.ref (ad 29)) rfl dX8_plan_26 ?_
      refine lv_iload_n hx hb dX8_plan_29 rfl (lv_at hl 1 rfl) ?_
      refine lv_aload_n hx hb dX8_plan_30 rfl (lv_at hl 0 rfl) ?_
      refine gf (k := 5) hx hb hts inX8 hown hK hP_11 k_269 rfl (by decide) rfl 0 rfl (.ref (ad 61)) rfl dX8_plan_31 ?_
      have hM := m126_X4_read l dC dI cI cJ cII cJJ H_13.size 0 ad f3_unknowns f3_equations f2_roundSupports f2_stale f7_size f1_size f5_keptSize f5_aheadSize f0_solved v2 v3 v4 v5 ai6 al w0 w1 w2 w3 x1 (by omega) (by omega) (by omega) (by omega) (by omega) (by omega) (by omega) (by omega) (by omega) (by omega) (by omega) (by omega) (by omega) hI_2 hw_w0 hw_w1 hw_w2 hw_w3
      refine k2V_v (q0 := 29) ⟨hx, hb, hml, hown, hts⟩ hK hP_11 hD_12 hS_10 hA hX cv_RX8_204 hM ⟨by decide +kernel, by decide +kernel⟩ rfl rfl (Or.inl rfl) (rest := []) rfl rfl rfl hl.1 rfl (Nat.le_of_ble_eq_true rfl) dX8_plan_34 ⟨Nat.le_of_ble_eq_true rfl, Nat.le_of_ble_eq_true rfl⟩ (fun t H1 locs_14 ht hB hS_14 hFc => ?_)
      obtain ⟨ai12, ⟨hI_15, hFr_r11⟩, hP_15, -, hD_15⟩ := hB
      have hF_16 := FR_tr hF_3 hFr_r11 (by decide)
      rw [ht] at hP_15
      have hD_17 := hD_15.weaken (B := A) (fun k q _ h9 => hFc q.1 h9)
      clear ht
      generalize H1 = H_18 at hP_15 hS_14 ⊢
      refine lv_aload_n hx hb dX8_plan_37 rfl (lv_at hl 0 rfl) ?_
      refine gf (k := 5) hx hb hts inX8 hown hK hP_15 k_269 rfl (by decide) rfl 0 rfl (.ref (ad 61)) rfl dX8_plan_38 ?_
      refine lv_iload_n hx hb dX8_plan_41 rfl (lv_at hl 2 rfl) ?_
      refine va_iald hx hb hK hP_15 61 0 rfl rfl (j_in (a := x2.toInt) rfl (by omega) (by omega)) dX8_plan_42 ?_
      refine lv_topi (fun z13 e_z13 => ?_)
      exact r2_i hx hb hr hk hS_14 dX8_plan_43 (fun t ht hW => ⟨v2, v3, v4, v5, ai12, ⟨(by first | omega | decide | exact Or.inl (by decide) | exact Or.inr (by decide) | exact Or.inr (by omega)), (by first | omega | decide | exact Or.inl (by decide) | exact Or.inr (by decide) | exact Or.inr (by omega)), (by first | omega | decide | exact Or.inl (by decide) | exact Or.inr (by decide) | exact Or.inr (by omega)), (by first | omega | decide | exact Or.inl (by decide) | exact Or.inr (by decide) | exact Or.inr (by omega)), hI_15, hF_16⟩, by rw [ht]; exact hP_15, va_K.moved hW.alike hK, hD_17⟩)
    · have c10 := j_eq (a := r9.toInt) (b := 0) rfl (by decide +kernel) c10
      exact m127_X8_plan_b22 C  x1 x2 v2 v3 v4 v5 ai6 _ _ _ (by omega) (by omega) (by omega) (by omega) (by omega) (by omega) (by omega) (by omega) (by omega) (by omega) (by omega) hI_2 hF_3 hw_w0 hw_w1 hw_w2 hw_w3 hP_11 hD_12 hS_10 (lv_sub hl [0, 1, 2] rfl)
def Q_m128_X8_take (dC : Nat → ClassId) (dI : Nat → Nat → Nat) (cI cJ cII cJJ : ClassId) (ad : Nat → Nat) (f3_unknowns f3_equations f2_roundSupports f2_stale f7_size f1_size f5_keptSize f5_aheadSize f0_solved : Int32) (ai0 : Nat → Nat → Int32) (al : Nat → Nat → Int64) (w0 w1 w2 w3 : Nat) : (Nat → Prop) → Array Value → State → Outcome → State → Prop := fun A => QI (fun r t => ∃ (n_f4_blockCount n_f4_blockLength n_f4_lastIsFree n_f4_stale : Int32), ∃ (n_ai : Nat → Nat → Int32), ((0 ≤ n_f4_blockCount.toInt ∧ n_f4_blockCount.toInt ≤ 9261) ∧ (0 ≤ n_f4_blockLength.toInt ∧ n_f4_blockLength.toInt ≤ 21) ∧ (0 ≤ n_f4_lastIsFree.toInt ∧ n_f4_lastIsFree.toInt ≤ 1) ∧ (0 ≤ n_f4_stale.toInt ∧ n_f4_stale.toInt ≤ 0) ∧ IAX n_ai ∧ FR [30, 32, 33, 35, 36, 37, 38, 41, 42, 43, 44, 45, 47, 48, 49, 50, 51, 60, 63] ai0 n_ai) ∧ WO dC dI (TY cI cJ cII cJJ) (WX cI cJ cII cJJ ad f3_unknowns f3_equations f2_roundSupports f2_stale f7_size f1_size f5_keptSize f5_aheadSize f0_solved n_f4_blockCount n_f4_blockLength n_f4_lastIsFree n_f4_stale n_ai al w0 w1 w2 w3) A t) A
set_option maxRecDepth 100000 in
set_option maxHeartbeats 4000000 in
theorem m128_X8_take (l : Launch) (dC : Nat → ClassId) (dI : Nat → Nat → Nat) (cI cJ cII cJJ : ClassId) (sz g : Nat) (ad : Nat → Nat) (f3_unknowns f3_equations f2_roundSupports f2_stale f7_size f1_size f5_keptSize f5_aheadSize f0_solved f4_blockCount f4_blockLength f4_lastIsFree f4_stale : Int32) (ai : Nat → Nat → Int32) (al : Nat → Nat → Int64) (w0 w1 w2 w3 : Nat) (x1 : Int32) (h_f3_unknowns : (1 ≤ f3_unknowns.toInt ∧ f3_unknowns.toInt ≤ 4)) (h_f3_equations : (0 ≤ f3_equations.toInt ∧ f3_equations.toInt ≤ 3)) (h_f2_stale : (0 ≤ f2_stale.toInt ∧ f2_stale.toInt ≤ 1)) (h_f7_size : (0 ≤ f7_size.toInt ∧ f7_size.toInt ≤ 256)) (h_f1_size : (0 ≤ f1_size.toInt ∧ f1_size.toInt ≤ 4)) (h_f5_keptSize : (0 ≤ f5_keptSize.toInt ∧ f5_keptSize.toInt ≤ 128)) (h_f5_aheadSize : (0 ≤ f5_aheadSize.toInt ∧ f5_aheadSize.toInt ≤ 128)) (h_f4_blockCount : (0 ≤ f4_blockCount.toInt ∧ f4_blockCount.toInt ≤ 9261)) (h_f4_blockLength : (0 ≤ f4_blockLength.toInt ∧ f4_blockLength.toInt ≤ 21)) (h_f4_lastIsFree : (0 ≤ f4_lastIsFree.toInt ∧ f4_lastIsFree.toInt ≤ 1)) (h_f4_stale : (0 ≤ f4_stale.toInt ∧ f4_stale.toInt ≤ 1)) (hI : IAX ai) (hw_w0 : RWX ad w0) (hw_w1 : RWX ad w1) (hw_w2 : RWX ad w2) (hw_w3 : RWX ad w3) : Met l yX8_take (.code yX8_take cX8_take 2 (some .int) :: TT) ({ frames := 13, cells := 0, slots := 0, locals := 740 } : Room) (PcS dC dI (TY cI cJ cII cJJ) [.ref (ad 0), .int x1] (WX cI cJ cII cJJ ad f3_unknowns f3_equations f2_roundSupports f2_stale f7_size f1_size f5_keptSize f5_aheadSize f0_solved f4_blockCount f4_blockLength f4_lastIsFree f4_stale ai al w0 w1 w2 w3) sz 0 g) (Q_m128_X8_take dC dI cI cJ cII cJJ ad f3_unknowns f3_equations f2_roundSupports f2_stale f7_size f1_size f5_keptSize f5_aheadSize f0_solved ai al w0 w1 w2 w3 (va_A (WX cI cJ cII cJJ ad f3_unknowns f3_equations f2_roundSupports f2_stale f7_size f1_size f5_keptSize f5_aheadSize f0_solved f4_blockCount f4_blockLength f4_lastIsFree f4_stale ai al w0 w1 w2 w3) sz)) 0 0 (va_A (WX cI cJ cII cJJ ad f3_unknowns f3_equations f2_roundSupports f2_stale f7_size f1_size f5_keptSize f5_aheadSize f0_solved f4_blockCount f4_blockLength f4_lastIsFree f4_stale ai al w0 w1 w2 w3) sz) := by
  refine SM.of (y := yX8_take) (maxL := 2) (av := [.ref (ad 0), .int x1]) (Q_m128_X8_take dC dI cI cJ cII cJJ ad f3_unknowns f3_equations f2_roundSupports f2_stale f7_size f1_size f5_keptSize f5_aheadSize f0_solved ai al w0 w1 w2 w3) (by decide +kernel) (Nat.le_of_ble_eq_true rfl) (fun p e s m below meth c A ls hx hb hr hml hown hts hk hnm hA hK hP hD hS hX hl => ?_)
  have C : Cx p c s m meth (([.ref (ad 0), .int x1] : List Value).toArray) A dC dI (TY cI cJ cII cJJ) cX8_take (some .int) 2 RX8 0 g := ⟨hx, hb, hr, hml, hown, hts, hk, hA, hK, hX⟩
  have hown : s.vm.findClass RX8 = some m.cls := hown
  have hl : lv_has ls 2 [(0, .ref (ad 0)), (1, .int x1)] := hl
  obtain ⟨H, hH⟩ : ∃ q, q = s.heap := ⟨_, rfl⟩
  rw [← hH] at hP
  have hS : va_S A s.heap H [] := by rw [hH]; exact hS
  rw [← hH]
  have hF := FR_refl [30, 32, 33, 35, 36, 37, 38, 41, 42, 43, 44, 45, 47, 48, 49, 50, 51, 60, 63] ai
  have ra_x1 := s_any x1
  refine lv_aload_n hx hb dX8_take_0 rfl (lv_at hl 0 rfl) ?_
  have hM := m121_X8_freshPlans l dC dI cI cJ cII cJJ H.size 0 ad f3_unknowns f3_equations f2_roundSupports f2_stale f7_size f1_size f5_keptSize f5_aheadSize f0_solved f4_blockCount f4_blockLength f4_lastIsFree f4_stale ai al w0 w1 w2 w3 (by omega) (by omega) (by omega) (by omega) (by omega) (by omega) (by omega) (by omega) (by omega) (by omega) (by omega) hI hw_w0 hw_w1 hw_w2 hw_w3
  refine k2V_a (q0 := 0) ⟨hx, hb, hml, hown, hts⟩ hK hP hD hS hA hX cv_RX8_196 hM ⟨by decide +kernel, by decide +kernel⟩ rfl rfl (Or.inl rfl) (rest := []) rfl rfl rfl hl.1 rfl (Nat.le_of_ble_eq_true rfl) dX8_take_1 ⟨Nat.le_of_ble_eq_true rfl, Nat.le_of_ble_eq_true rfl⟩ (fun t H1 locs_1 ht hB hS_1 hFc => ?_)
  obtain ⟨v2, v3, v4, v5, ai6, ⟨gpr1_0, gpr1_1, gpr1_2, gpr1_3, hI_2, hFr_r1⟩, hP_2, -, hD_2⟩ := hB
  have hF_3 := FR_tr hF hFr_r1 (by decide)
  rw [ht] at hP_2
  have hD_4 := hD_2.weaken (B := A) (fun k q _ h9 => hFc q.1 h9)
  clear ht
  generalize H1 = H_5 at hP_2 hS_1 ⊢
  refine lv_iload_n hx hb dX8_take_4 rfl (lv_at hl 1 rfl) ?_
  have hM := m108_X4_isNumber l dC dI cI cJ cII cJJ H_5.size 0 ad f3_unknowns f3_equations f2_roundSupports f2_stale f7_size f1_size f5_keptSize f5_aheadSize f0_solved v2 v3 v4 v5 ai6 al w0 w1 w2 w3 x1 (by omega) (by omega) (by omega) (by omega) (by omega) (by omega) (by omega) (by omega) (by omega) (by omega) (by omega) hI_2 hw_w0 hw_w1 hw_w2 hw_w3
  refine k2V_i (q0 := 29) ⟨hx, hb, hml, hown, hts⟩ hK hP_2 hD_4 hS_1 hA hX cv_RX8_201 hM ⟨by decide +kernel, by decide +kernel⟩ rfl rfl (Or.inl rfl) (rest := []) rfl rfl rfl hl.1 rfl (Nat.le_of_ble_eq_true rfl) dX8_take_5 ⟨Nat.le_of_ble_eq_true rfl, Nat.le_of_ble_eq_true rfl⟩ (fun r7 t H1 locs_6 ht hB hS_6 hFc => ?_)
  obtain ⟨⟨gpr7_0, gpr7_1⟩, hP_7, -, hD_7⟩ := hB
  rw [ht] at hP_7
  have hD_8 := hD_7.weaken (B := A) (fun k q _ h9 => hFc q.1 h9)
  clear ht
  generalize H1 = H_9 at hP_7 hS_6 ⊢
  refine lv_if_ne (tgt := 17) hx hb dX8_take_8 (by decide) (fun c8 => ?_) (fun c8 => ?_)
  · have c8 := j_ne (a := r7.toInt) (b := 0) rfl (by decide +kernel) c8
    refine lv_aload_n hx hb dX8_take_17 rfl (lv_at hl 0 rfl) ?_
    refine gf (k := 2) hx hb hts inX8 hown hK hP_7 k_266 rfl (by decide) rfl 0 rfl (.ref (ad 29)) rfl dX8_take_18 ?_
    refine lv_iload_n hx hb dX8_take_21 rfl (lv_at hl 1 rfl) ?_
    refine lv_aload_n hx hb dX8_take_22 rfl (lv_at hl 0 rfl) ?_
    refine gf (k := 4) hx hb hts inX8 hown hK hP_7 k_268 rfl (by decide) rfl 0 rfl (.ref (ad 60)) rfl dX8_take_23 ?_
    have hM := m110_X4_read l dC dI cI cJ cII cJJ H_9.size 0 ad f3_unknowns f3_equations f2_roundSupports f2_stale f7_size f1_size f5_keptSize f5_aheadSize f0_solved v2 v3 v4 v5 ai6 al w0 w1 w2 w3 x1 (by omega) (by omega) (by omega) (by omega) (by omega) (by omega) (by omega) (by omega) (by omega) (by omega) (by omega) (by omega) (by omega) hI_2 hw_w0 hw_w1 hw_w2 hw_w3
    refine k2V_v (q0 := 29) ⟨hx, hb, hml, hown, hts⟩ hK hP_7 hD_8 hS_6 hA hX cv_RX8_204 hM ⟨by decide +kernel, by decide +kernel⟩ rfl rfl (Or.inl rfl) (rest := []) rfl rfl rfl hl.1 rfl (Nat.le_of_ble_eq_true rfl) dX8_take_26 ⟨Nat.le_of_ble_eq_true rfl, Nat.le_of_ble_eq_true rfl⟩ (fun t H1 locs_10 ht hB hS_10 hFc => ?_)
    obtain ⟨ai10, ⟨hI_11, hFr_r9⟩, hP_11, -, hD_11⟩ := hB
    have hF_12 := FR_tr hF_3 hFr_r9 (by decide)
    rw [ht] at hP_11
    have hD_13 := hD_11.weaken (B := A) (fun k q _ h9 => hFc q.1 h9)
    clear ht
    generalize H1 = H_14 at hP_11 hS_10 ⊢
    refine lv_iconst (v := 1) hx hb dX8_take_29 (by decide) ?_
    exact r2_i hx hb hr hk hS_10 dX8_take_30 (fun t ht hW => ⟨v2, v3, v4, v5, ai10, ⟨(by first | omega | decide | exact Or.inl (by decide) | exact Or.inr (by decide) | exact Or.inr (by omega)), (by first | omega | decide | exact Or.inl (by decide) | exact Or.inr (by decide) | exact Or.inr (by omega)), (by first | omega | decide | exact Or.inl (by decide) | exact Or.inr (by decide) | exact Or.inr (by omega)), (by first | omega | decide | exact Or.inl (by decide) | exact Or.inr (by decide) | exact Or.inr (by omega)), hI_11, hF_12⟩, by rw [ht]; exact hP_11, va_K.moved hW.alike hK, hD_13⟩)
  · have c8 := j_eq (a := r7.toInt) (b := 0) rfl (by decide +kernel) c8
    refine lv_aload_n hx hb dX8_take_11 rfl (lv_at hl 0 rfl) ?_
    refine lv_iconst (v := (-1)) hx hb dX8_take_12 (by decide) ?_
    have kcm1 : ((-1) : Int32).toInt = (-1) := by decide +kernel
    have hM := m003_X8_refuse l dC dI cI cJ cII cJJ H_9.size 0 ad f3_unknowns f3_equations f2_roundSupports f2_stale f7_size f1_size f5_keptSize f5_aheadSize f0_solved v2 v3 v4 v5 ai6 al w0 w1 w2 w3 (-1) (by omega) (by omega) (by omega) (by omega) (by omega) (by omega) (by omega) (by omega) (by omega) (by omega) (by omega) hI_2 hw_w0 hw_w1 hw_w2 hw_w3
    refine k2V_i (q0 := 0) ⟨hx, hb, hml, hown, hts⟩ hK hP_7 hD_8 hS_6 hA hX cv_RX8_53 hM ⟨by decide +kernel, by decide +kernel⟩ rfl rfl (Or.inl rfl) (rest := []) rfl rfl rfl hl.1 rfl (Nat.le_of_ble_eq_true rfl) dX8_take_13 ⟨Nat.le_of_ble_eq_true rfl, Nat.le_of_ble_eq_true rfl⟩ (fun r11 t H1 locs_15 ht hB hS_15 hFc => ?_)
    obtain ⟨ai12, ⟨gpr11_0, hI_16, hFr_r11⟩, hP_16, -, hD_16⟩ := hB
    have hF_17 := FR_tr hF_3 hFr_r11 (by decide)
    rw [ht] at hP_16
    have hD_18 := hD_16.weaken (B := A) (fun k q _ h9 => hFc q.1 h9)
    clear ht
    generalize H1 = H_19 at hP_16 hS_15 ⊢
    exact r2_i hx hb hr hk hS_15 dX8_take_16 (fun t ht hW => ⟨v2, v3, v4, v5, ai12, ⟨(by first | omega | decide | exact Or.inl (by decide) | exact Or.inr (by decide) | exact Or.inr (by omega)), (by first | omega | decide | exact Or.inl (by decide) | exact Or.inr (by decide) | exact Or.inr (by omega)), (by first | omega | decide | exact Or.inl (by decide) | exact Or.inr (by decide) | exact Or.inr (by omega)), (by first | omega | decide | exact Or.inl (by decide) | exact Or.inr (by decide) | exact Or.inr (by omega)), hI_16, hF_17⟩, by rw [ht]; exact hP_16, va_K.moved hW.alike hK, hD_18⟩)
def Q_m129_X8_less (dC : Nat → ClassId) (dI : Nat → Nat → Nat) (cI cJ cII cJJ : ClassId) (ad : Nat → Nat) (f3_unknowns f3_equations f2_roundSupports f2_stale f7_size f1_size f5_keptSize f5_aheadSize f0_solved : Int32) (ai0 : Nat → Nat → Int32) (al0 : Nat → Nat → Int64) (w0 w1 w2 w3 : Nat) : (Nat → Prop) → Array Value → State → Outcome → State → Prop := fun A => QI (fun r t => ∃ (n_f4_blockCount n_f4_blockLength n_f4_lastIsFree n_f4_stale : Int32), ∃ (n_ai : Nat → Nat → Int32), ∃ (n_al : Nat → Nat → Int64), ((0 ≤ n_f4_blockCount.toInt ∧ n_f4_blockCount.toInt ≤ 9261) ∧ (0 ≤ n_f4_blockLength.toInt ∧ n_f4_blockLength.toInt ≤ 21) ∧ (0 ≤ n_f4_lastIsFree.toInt ∧ n_f4_lastIsFree.toInt ≤ 1) ∧ (0 ≤ n_f4_stale.toInt ∧ n_f4_stale.toInt ≤ 0) ∧ IAX n_ai ∧ FR [30, 32, 33, 35, 36, 37, 38, 41, 42, 43, 44, 45, 47, 48, 49, 50, 51, 60, 61, 63] ai0 n_ai ∧ FL [62] al0 n_al) ∧ WO dC dI (TY cI cJ cII cJJ) (WX cI cJ cII cJJ ad f3_unknowns f3_equations f2_roundSupports f2_stale f7_size f1_size f5_keptSize f5_aheadSize f0_solved n_f4_blockCount n_f4_blockLength n_f4_lastIsFree n_f4_stale n_ai n_al w0 w1 w2 w3) A t) A
set_option maxRecDepth 100000 in
set_option maxHeartbeats 4000000 in
theorem m129_X8_less_b31 {p : Program} {l : Launch} {e : Env} {s : State} {m : MethodId} {args : Array Value} {below : List Frame} {meth : Method} {c : Code} {A : Nat → Prop} {dC : Nat → ClassId} {dI : Nat → Nat → Nat} {cI cJ cII cJJ : ClassId} {ad : Nat → Nat} {g : Nat} {f3_unknowns f3_equations f2_roundSupports f2_stale f7_size f1_size f5_keptSize f5_aheadSize f0_solved : Int32} {ai0 : Nat → Nat → Int32} {al0 : Nat → Nat → Int64} {w0 w1 w2 w3 : Nat} (C : Cx p c s m meth args A dC dI (TY cI cJ cII cJJ) cX8_less (some .int) 3 RX8 0 g) : ∀ (n : Nat), ∀ (L1 L2 f4_blockCount f4_blockLength f4_lastIsFree f4_stale : Int32) (ai : Nat → Nat → Int32) (al : Nat → Nat → Int64) (H : Heap) (locs : List Loc) (ls : Array Slot), (0 ≤ L1.toInt ∧ L1.toInt ≤ 194480) → (0 ≤ L2.toInt ∧ L2.toInt ≤ 4) → (1 ≤ f3_unknowns.toInt ∧ f3_unknowns.toInt ≤ 4) → (0 ≤ f3_equations.toInt ∧ f3_equations.toInt ≤ 3) → (0 ≤ f2_stale.toInt ∧ f2_stale.toInt ≤ 1) → (0 ≤ f7_size.toInt ∧ f7_size.toInt ≤ 256) → (0 ≤ f1_size.toInt ∧ f1_size.toInt ≤ 4) → (0 ≤ f5_keptSize.toInt ∧ f5_keptSize.toInt ≤ 128) → (0 ≤ f5_aheadSize.toInt ∧ f5_aheadSize.toInt ≤ 128) → (0 ≤ f4_blockCount.toInt ∧ f4_blockCount.toInt ≤ 9261) → (0 ≤ f4_blockLength.toInt ∧ f4_blockLength.toInt ≤ 21) → (0 ≤ f4_lastIsFree.toInt ∧ f4_lastIsFree.toInt ≤ 1) → (0 ≤ f4_stale.toInt ∧ f4_stale.toInt ≤ 0) → 4 - L2.toInt < (n : Int) → (0 : Int) < (n : Int) → IAX ai → FR [30, 32, 33, 35, 36, 37, 38, 41, 42, 43, 44, 45, 47, 48, 49, 50, 51, 60, 61, 63] ai0 ai → FL [62] al0 al → RWX ad w0 → RWX ad w1 → RWX ad w2 → RWX ad w3 → va_P (dC, dI) vwCl (WX cI cJ cII cJJ ad f3_unknowns f3_equations f2_roundSupports f2_stale f7_size f1_size f5_keptSize f5_aheadSize f0_solved f4_blockCount f4_blockLength f4_lastIsFree f4_stale ai al w0 w1 w2 w3) H → va_D A (WX cI cJ cII cJJ ad f3_unknowns f3_equations f2_roundSupports f2_stale f7_size f1_size f5_keptSize f5_aheadSize f0_solved f4_blockCount f4_blockLength f4_lastIsFree f4_stale ai al w0 w1 w2 w3) → va_S A s.heap H locs → lv_has ls 3 [(0, .ref (ad 0)), (1, .int L1), (2, .int L2)] → W p l e ({ frames := 13, cells := 0, slots := 0, locals := 740 } : Room) s m args below meth c H locs 0 0 (MQ below (Q_m129_X8_less dC dI cI cJ cII cJJ ad f3_unknowns f3_equations f2_roundSupports f2_stale f7_size f1_size f5_keptSize f5_aheadSize f0_solved ai0 al0 w0 w1 w2 w3 A) args s 0 0 A) (F0 m 31 ls []) := by
  obtain ⟨hx, hb, hr, hml, hown, hts, hk, hA, hK, hX⟩ := id C
  intro n
  induction n with
  | zero =>
    intro L1 L2 f4_blockCount f4_blockLength f4_lastIsFree f4_stale ai al H locs ls h0 h1 h2 h3 h4 h5 h6 h7 h8 h9 h10 h11 h12 h13 h14 hI hF hG hw_w0 hw_w1 hw_w2 hw_w3 hP hD hS hl
    exact absurd h14 (by omega)
  | succ n ih =>
    intro L1 L2 f4_blockCount f4_blockLength f4_lastIsFree f4_stale ai al H locs ls h0 h1 h2 h3 h4 h5 h6 h7 h8 h9 h10 h11 h12 h13 h14 hI hF hG hw_w0 hw_w1 hw_w2 hw_w3 hP hD hS hl
    refine lv_iload_n hx hb dX8_less_31 rfl (lv_at hl 2 rfl) ?_
    refine lv_iconst (v := 4) hx hb dX8_less_32 (by decide) ?_
    refine lv_icmp_ge (tgt := 62) hx hb dX8_less_33 (by decide) (fun c1 => ?_) (fun c1 => ?_)
    · have c1 := j_le (a := 4) (b := L2.toInt) (by decide +kernel) rfl c1
      refine lv_aload_n hx hb dX8_less_62 rfl (lv_at hl 0 rfl) ?_
      have hM := m061_X8_moveHand l dC dI cI cJ cII cJJ H.size 0 ad f3_unknowns f3_equations f2_roundSupports f2_stale f7_size f1_size f5_keptSize f5_aheadSize f0_solved f4_blockCount f4_blockLength f4_lastIsFree f4_stale ai al w0 w1 w2 w3 (by omega) (by omega) (by omega) (by omega) (by omega) (by omega) (by omega) (by omega) (by omega) (by omega) (by omega) hI hw_w0 hw_w1 hw_w2 hw_w3
      refine k2V_i (q0 := 0) ⟨hx, hb, hml, hown, hts⟩ hK hP hD hS hA hX cv_RX8_184 hM ⟨by decide +kernel, by decide +kernel⟩ rfl rfl (Or.inl rfl) (rest := []) rfl rfl rfl hl.1 rfl (Nat.le_of_ble_eq_true rfl) dX8_less_63 ⟨Nat.le_of_ble_eq_true rfl, Nat.le_of_ble_eq_true rfl⟩ (fun r2 t H1 locs_1 ht hB hS_1 hFc => ?_)
      obtain ⟨ai3, ⟨hI_2, hFr_r2⟩, hP_2, -, hD_2⟩ := hB
      have hF_3 := FR_tr hF hFr_r2 (by decide)
      rw [ht] at hP_2
      have hD_4 := hD_2.weaken (B := A) (fun k q _ h9 => hFc q.1 h9)
      clear ht
      generalize H1 = H_5 at hP_2 hS_1 ⊢
      exact r2_i hx hb hr hk hS_1 dX8_less_66 (fun t ht hW => ⟨f4_blockCount, f4_blockLength, f4_lastIsFree, f4_stale, ai3, al, ⟨(by first | omega | decide | exact Or.inl (by decide) | exact Or.inr (by decide) | exact Or.inr (by omega)), (by first | omega | decide | exact Or.inl (by decide) | exact Or.inr (by decide) | exact Or.inr (by omega)), (by first | omega | decide | exact Or.inl (by decide) | exact Or.inr (by decide) | exact Or.inr (by omega)), (by first | omega | decide | exact Or.inl (by decide) | exact Or.inr (by decide) | exact Or.inr (by omega)), hI_2, hF_3, hG⟩, by rw [ht]; exact hP_2, va_K.moved hW.alike hK, hD_4⟩)
    · have c1 := j_nle (a := 4) (b := L2.toInt) (by decide +kernel) rfl c1
      refine lv_aload_n hx hb dX8_less_36 rfl (lv_at hl 0 rfl) ?_
      refine gf (k := 6) hx hb hts inX8 hown hK hP k_270 rfl (by decide) rfl 0 rfl (.ref (ad 62)) rfl dX8_less_37 ?_
      refine lv_iload_n hx hb dX8_less_40 rfl (lv_at hl 2 rfl) ?_
      refine lv_aload_n hx hb dX8_less_41 rfl (lv_at hl 0 rfl) ?_
      refine gf (k := 4) hx hb hts inX8 hown hK hP k_268 rfl (by decide) rfl 0 rfl (.ref (ad 60)) rfl dX8_less_42 ?_
      refine lv_iload_n hx hb dX8_less_45 rfl (lv_at hl 2 rfl) ?_
      refine va_iald hx hb hK hP 60 0 rfl rfl (j_in (a := L2.toInt) rfl (by omega) (by omega)) dX8_less_46 ?_
      refine lv_topi (fun z4 e_z4 => ?_)
      refine lv_aload_n hx hb dX8_less_47 rfl (lv_at hl 0 rfl) ?_
      refine gf (k := 5) hx hb hts inX8 hown hK hP k_269 rfl (by decide) rfl 0 rfl (.ref (ad 61)) rfl dX8_less_48 ?_
      refine lv_iload_n hx hb dX8_less_51 rfl (lv_at hl 2 rfl) ?_
      refine va_iald hx hb hK hP 61 0 rfl rfl (j_in (a := L2.toInt) rfl (by omega) (by omega)) dX8_less_52 ?_
      refine lv_topi (fun z5 e_z5 => ?_)
      refine v_isub hx hb dX8_less_53 _ rfl ?_
      refine lv_topi (fun z6 e_z6 => ?_)
      refine lv_i2l hx hb dX8_less_54 rfl ?_
      refine lv_topl (fun yy7 e_yy7 => ?_)
      refine va_last hx hb hK hP hD hS 62 1 rfl rfl (j_in (a := L2.toInt) rfl (by omega) (by omega)) dX8_less_55 (fun H_6 locs_6 hP_6 hD_6 hS_6 => ?_)
      obtain ⟨al8, e_al8⟩ : ∃ q : Nat → Nat → Int64, q = va_up al 62 (vp_updL (al 62) L2.toNatClampNeg yy7) := ⟨_, rfl⟩
      have hG_7 := FL_st hG e_al8 (by decide)
      have hP_8 : va_P (dC, dI) vwCl (WX cI cJ cII cJJ ad f3_unknowns f3_equations f2_roundSupports f2_stale f7_size f1_size f5_keptSize f5_aheadSize f0_solved f4_blockCount f4_blockLength f4_lastIsFree f4_stale ai al8 w0 w1 w2 w3) H_6 := by rw [e_al8]; exact hP_6
      have hD_9 : va_D A (WX cI cJ cII cJJ ad f3_unknowns f3_equations f2_roundSupports f2_stale f7_size f1_size f5_keptSize f5_aheadSize f0_solved f4_blockCount f4_blockLength f4_lastIsFree f4_stale ai al8 w0 w1 w2 w3) := by rw [e_al8]; exact hD_6
      obtain ⟨z9, e_z9⟩ : ∃ q : Int32, q = L2 + Int32.ofInt 1 := ⟨_, rfl⟩
      have g_z9 : z9.toInt = L2.toInt + 1 := by rw [e_z9]; exact n_add (a := L2.toInt) (b := 1) rfl (by decide +kernel) (by omega) (by omega)
      refine lv_iinc (v := z9) (lv' := [(2, .int z9), (0, .ref (ad 0)), (1, .int L1)]) hx hb dX8_less_56 hl (k := 2) rfl e_z9.symm (by decide) rfl (fun ls_10 hl_10 => ?_)
      refine lv_goto (tgt := 31) hx hb dX8_less_59 (by decide) ?_
      exact ih L1 z9 f4_blockCount f4_blockLength f4_lastIsFree f4_stale ai al8 _ _ _ (by omega) (by omega) (by omega) (by omega) (by omega) (by omega) (by omega) (by omega) (by omega) (by omega) (by omega) (by omega) (by omega) (by omega) (by omega) hI hF hG_7 hw_w0 hw_w1 hw_w2 hw_w3 hP_8 hD_9 hS_6 (lv_sub hl_10 [1, 2, 0] rfl)
set_option maxRecDepth 100000 in
set_option maxHeartbeats 4000000 in
theorem m129_X8_less (l : Launch) (dC : Nat → ClassId) (dI : Nat → Nat → Nat) (cI cJ cII cJJ : ClassId) (sz g : Nat) (ad : Nat → Nat) (f3_unknowns f3_equations f2_roundSupports f2_stale f7_size f1_size f5_keptSize f5_aheadSize f0_solved f4_blockCount f4_blockLength f4_lastIsFree f4_stale : Int32) (ai : Nat → Nat → Int32) (al : Nat → Nat → Int64) (w0 w1 w2 w3 : Nat) (x1 : Int32) (h_f3_unknowns : (1 ≤ f3_unknowns.toInt ∧ f3_unknowns.toInt ≤ 4)) (h_f3_equations : (0 ≤ f3_equations.toInt ∧ f3_equations.toInt ≤ 3)) (h_f2_stale : (0 ≤ f2_stale.toInt ∧ f2_stale.toInt ≤ 1)) (h_f7_size : (0 ≤ f7_size.toInt ∧ f7_size.toInt ≤ 256)) (h_f1_size : (0 ≤ f1_size.toInt ∧ f1_size.toInt ≤ 4)) (h_f5_keptSize : (0 ≤ f5_keptSize.toInt ∧ f5_keptSize.toInt ≤ 128)) (h_f5_aheadSize : (0 ≤ f5_aheadSize.toInt ∧ f5_aheadSize.toInt ≤ 128)) (h_f4_blockCount : (0 ≤ f4_blockCount.toInt ∧ f4_blockCount.toInt ≤ 9261)) (h_f4_blockLength : (0 ≤ f4_blockLength.toInt ∧ f4_blockLength.toInt ≤ 21)) (h_f4_lastIsFree : (0 ≤ f4_lastIsFree.toInt ∧ f4_lastIsFree.toInt ≤ 1)) (h_f4_stale : (0 ≤ f4_stale.toInt ∧ f4_stale.toInt ≤ 1)) (hI : IAX ai) (hw_w0 : RWX ad w0) (hw_w1 : RWX ad w1) (hw_w2 : RWX ad w2) (hw_w3 : RWX ad w3) : Met l yX8_less (.code yX8_less cX8_less 3 (some .int) :: TT) ({ frames := 13, cells := 0, slots := 0, locals := 740 } : Room) (PcS dC dI (TY cI cJ cII cJJ) [.ref (ad 0), .int x1] (WX cI cJ cII cJJ ad f3_unknowns f3_equations f2_roundSupports f2_stale f7_size f1_size f5_keptSize f5_aheadSize f0_solved f4_blockCount f4_blockLength f4_lastIsFree f4_stale ai al w0 w1 w2 w3) sz 0 g) (Q_m129_X8_less dC dI cI cJ cII cJJ ad f3_unknowns f3_equations f2_roundSupports f2_stale f7_size f1_size f5_keptSize f5_aheadSize f0_solved ai al w0 w1 w2 w3 (va_A (WX cI cJ cII cJJ ad f3_unknowns f3_equations f2_roundSupports f2_stale f7_size f1_size f5_keptSize f5_aheadSize f0_solved f4_blockCount f4_blockLength f4_lastIsFree f4_stale ai al w0 w1 w2 w3) sz)) 0 0 (va_A (WX cI cJ cII cJJ ad f3_unknowns f3_equations f2_roundSupports f2_stale f7_size f1_size f5_keptSize f5_aheadSize f0_solved f4_blockCount f4_blockLength f4_lastIsFree f4_stale ai al w0 w1 w2 w3) sz) := by
  refine SM.of (y := yX8_less) (maxL := 3) (av := [.ref (ad 0), .int x1]) (Q_m129_X8_less dC dI cI cJ cII cJJ ad f3_unknowns f3_equations f2_roundSupports f2_stale f7_size f1_size f5_keptSize f5_aheadSize f0_solved ai al w0 w1 w2 w3) (by decide +kernel) (Nat.le_of_ble_eq_true rfl) (fun p e s m below meth c A ls hx hb hr hml hown hts hk hnm hA hK hP hD hS hX hl => ?_)
  have C : Cx p c s m meth (([.ref (ad 0), .int x1] : List Value).toArray) A dC dI (TY cI cJ cII cJJ) cX8_less (some .int) 3 RX8 0 g := ⟨hx, hb, hr, hml, hown, hts, hk, hA, hK, hX⟩
  have hown : s.vm.findClass RX8 = some m.cls := hown
  have hl : lv_has ls 3 [(0, .ref (ad 0)), (1, .int x1)] := hl
  obtain ⟨H, hH⟩ : ∃ q, q = s.heap := ⟨_, rfl⟩
  rw [← hH] at hP
  have hS : va_S A s.heap H [] := by rw [hH]; exact hS
  rw [← hH]
  have hF := FR_refl [30, 32, 33, 35, 36, 37, 38, 41, 42, 43, 44, 45, 47, 48, 49, 50, 51, 60, 61, 63] ai
  have hG := FL_refl [62] al
  have ra_x1 := s_any x1
  refine lv_aload_n hx hb dX8_less_0 rfl (lv_at hl 0 rfl) ?_
  have hM := m121_X8_freshPlans l dC dI cI cJ cII cJJ H.size 0 ad f3_unknowns f3_equations f2_roundSupports f2_stale f7_size f1_size f5_keptSize f5_aheadSize f0_solved f4_blockCount f4_blockLength f4_lastIsFree f4_stale ai al w0 w1 w2 w3 (by omega) (by omega) (by omega) (by omega) (by omega) (by omega) (by omega) (by omega) (by omega) (by omega) (by omega) hI hw_w0 hw_w1 hw_w2 hw_w3
  refine k2V_a (q0 := 0) ⟨hx, hb, hml, hown, hts⟩ hK hP hD hS hA hX cv_RX8_196 hM ⟨by decide +kernel, by decide +kernel⟩ rfl rfl (Or.inl rfl) (rest := []) rfl rfl rfl hl.1 rfl (Nat.le_of_ble_eq_true rfl) dX8_less_1 ⟨Nat.le_of_ble_eq_true rfl, Nat.le_of_ble_eq_true rfl⟩ (fun t H1 locs_1 ht hB hS_1 hFc => ?_)
  obtain ⟨v2, v3, v4, v5, ai6, ⟨gpr1_0, gpr1_1, gpr1_2, gpr1_3, hI_2, hFr_r1⟩, hP_2, -, hD_2⟩ := hB
  have hF_3 := FR_tr hF hFr_r1 (by decide)
  rw [ht] at hP_2
  have hD_4 := hD_2.weaken (B := A) (fun k q _ h9 => hFc q.1 h9)
  clear ht
  generalize H1 = H_5 at hP_2 hS_1 ⊢
  refine lv_iload_n hx hb dX8_less_4 rfl (lv_at hl 1 rfl) ?_
  have hM := m108_X4_isNumber l dC dI cI cJ cII cJJ H_5.size 0 ad f3_unknowns f3_equations f2_roundSupports f2_stale f7_size f1_size f5_keptSize f5_aheadSize f0_solved v2 v3 v4 v5 ai6 al w0 w1 w2 w3 x1 (by omega) (by omega) (by omega) (by omega) (by omega) (by omega) (by omega) (by omega) (by omega) (by omega) (by omega) hI_2 hw_w0 hw_w1 hw_w2 hw_w3
  refine k2V_i (q0 := 29) ⟨hx, hb, hml, hown, hts⟩ hK hP_2 hD_4 hS_1 hA hX cv_RX8_201 hM ⟨by decide +kernel, by decide +kernel⟩ rfl rfl (Or.inl rfl) (rest := []) rfl rfl rfl hl.1 rfl (Nat.le_of_ble_eq_true rfl) dX8_less_5 ⟨Nat.le_of_ble_eq_true rfl, Nat.le_of_ble_eq_true rfl⟩ (fun r7 t H1 locs_6 ht hB hS_6 hFc => ?_)
  obtain ⟨⟨gpr7_0, gpr7_1⟩, hP_7, -, hD_7⟩ := hB
  rw [ht] at hP_7
  have hD_8 := hD_7.weaken (B := A) (fun k q _ h9 => hFc q.1 h9)
  clear ht
  generalize H1 = H_9 at hP_7 hS_6 ⊢
  refine lv_if_ne (tgt := 17) hx hb dX8_less_8 (by decide) (fun c8 => ?_) (fun c8 => ?_)
  · have c8 := j_ne (a := r7.toInt) (b := 0) rfl (by decide +kernel) c8
    refine lv_aload_n hx hb dX8_less_17 rfl (lv_at hl 0 rfl) ?_
    refine gf (k := 2) hx hb hts inX8 hown hK hP_7 k_266 rfl (by decide) rfl 0 rfl (.ref (ad 29)) rfl dX8_less_18 ?_
    refine lv_iload_n hx hb dX8_less_21 rfl (lv_at hl 1 rfl) ?_
    refine lv_aload_n hx hb dX8_less_22 rfl (lv_at hl 0 rfl) ?_
    refine gf (k := 5) hx hb hts inX8 hown hK hP_7 k_269 rfl (by decide) rfl 0 rfl (.ref (ad 61)) rfl dX8_less_23 ?_
    have hM := m126_X4_read l dC dI cI cJ cII cJJ H_9.size 0 ad f3_unknowns f3_equations f2_roundSupports f2_stale f7_size f1_size f5_keptSize f5_aheadSize f0_solved v2 v3 v4 v5 ai6 al w0 w1 w2 w3 x1 (by omega) (by omega) (by omega) (by omega) (by omega) (by omega) (by omega) (by omega) (by omega) (by omega) (by omega) (by omega) (by omega) hI_2 hw_w0 hw_w1 hw_w2 hw_w3
    refine k2V_v (q0 := 29) ⟨hx, hb, hml, hown, hts⟩ hK hP_7 hD_8 hS_6 hA hX cv_RX8_204 hM ⟨by decide +kernel, by decide +kernel⟩ rfl rfl (Or.inl rfl) (rest := []) rfl rfl rfl hl.1 rfl (Nat.le_of_ble_eq_true rfl) dX8_less_26 ⟨Nat.le_of_ble_eq_true rfl, Nat.le_of_ble_eq_true rfl⟩ (fun t H1 locs_10 ht hB hS_10 hFc => ?_)
    obtain ⟨ai10, ⟨hI_11, hFr_r9⟩, hP_11, -, hD_11⟩ := hB
    have hF_12 := FR_tr hF_3 hFr_r9 (by decide)
    rw [ht] at hP_11
    have hD_13 := hD_11.weaken (B := A) (fun k q _ h9 => hFc q.1 h9)
    clear ht
    generalize H1 = H_14 at hP_11 hS_10 ⊢
    refine lv_iconst (v := 0) hx hb dX8_less_29 (by decide) ?_
    refine lv_istore_n (lv' := [(2, .int 0), (0, .ref (ad 0)), (1, .int x1)]) hx hb dX8_less_30 rfl hl (by decide) rfl (fun ls_15 hl_15 => ?_)
    exact m129_X8_less_b31 C  _ x1 0 v2 v3 v4 v5 ai10 al _ _ _ (by first | omega | decide | (have ka0 := (by decide +kernel : (0 : Int32).toInt = 0); omega)) (by first | omega | decide | (have ka0 := (by decide +kernel : (0 : Int32).toInt = 0); omega)) (by first | omega | decide | (have ka0 := (by decide +kernel : (0 : Int32).toInt = 0); omega)) (by first | omega | decide | (have ka0 := (by decide +kernel : (0 : Int32).toInt = 0); omega)) (by first | omega | decide | (have ka0 := (by decide +kernel : (0 : Int32).toInt = 0); omega)) (by first | omega | decide | (have ka0 := (by decide +kernel : (0 : Int32).toInt = 0); omega)) (by first | omega | decide | (have ka0 := (by decide +kernel : (0 : Int32).toInt = 0); omega)) (by first | omega | decide | (have ka0 := (by decide +kernel : (0 : Int32).toInt = 0); omega)) (by first | omega | decide | (have ka0 := (by decide +kernel : (0 : Int32).toInt = 0); omega)) (by first | omega | decide | (have ka0 := (by decide +kernel : (0 : Int32).toInt = 0); omega)) (by first | omega | decide | (have ka0 := (by decide +kernel : (0 : Int32).toInt = 0); omega)) (by first | omega | decide | (have ka0 := (by decide +kernel : (0 : Int32).toInt = 0); omega)) (by first | omega | decide | (have ka0 := (by decide +kernel : (0 : Int32).toInt = 0); omega)) (j_fuel _) (by omega) hI_11 hF_12 hG hw_w0 hw_w1 hw_w2 hw_w3 hP_11 hD_13 hS_10 (lv_sub hl_15 [1, 2, 0] rfl)
  · have c8 := j_eq (a := r7.toInt) (b := 0) rfl (by decide +kernel) c8
    refine lv_aload_n hx hb dX8_less_11 rfl (lv_at hl 0 rfl) ?_
    refine lv_iconst (v := (-1)) hx hb dX8_less_12 (by decide) ?_
    have kcm1 : ((-1) : Int32).toInt = (-1) := by decide +kernel
    have hM := m003_X8_refuse l dC dI cI cJ cII cJJ H_9.size 0 ad f3_unknowns f3_equations f2_roundSupports f2_stale f7_size f1_size f5_keptSize f5_aheadSize f0_solved v2 v3 v4 v5 ai6 al w0 w1 w2 w3 (-1) (by omega) (by omega) (by omega) (by omega) (by omega) (by omega) (by omega) (by omega) (by omega) (by omega) (by omega) hI_2 hw_w0 hw_w1 hw_w2 hw_w3
    refine k2V_i (q0 := 0) ⟨hx, hb, hml, hown, hts⟩ hK hP_7 hD_8 hS_6 hA hX cv_RX8_53 hM ⟨by decide +kernel, by decide +kernel⟩ rfl rfl (Or.inl rfl) (rest := []) rfl rfl rfl hl.1 rfl (Nat.le_of_ble_eq_true rfl) dX8_less_13 ⟨Nat.le_of_ble_eq_true rfl, Nat.le_of_ble_eq_true rfl⟩ (fun r11 t H1 locs_16 ht hB hS_16 hFc => ?_)
    obtain ⟨ai12, ⟨gpr11_0, hI_17, hFr_r11⟩, hP_17, -, hD_17⟩ := hB
    have hF_18 := FR_tr hF_3 hFr_r11 (by decide)
    rw [ht] at hP_17
    have hD_19 := hD_17.weaken (B := A) (fun k q _ h9 => hFc q.1 h9)
    clear ht
    generalize H1 = H_20 at hP_17 hS_16 ⊢
    exact r2_i hx hb hr hk hS_16 dX8_less_16 (fun t ht hW => ⟨v2, v3, v4, v5, ai12, al, ⟨(by first | omega | decide | exact Or.inl (by decide) | exact Or.inr (by decide) | exact Or.inr (by omega)), (by first | omega | decide | exact Or.inl (by decide) | exact Or.inr (by decide) | exact Or.inr (by omega)), (by first | omega | decide | exact Or.inl (by decide) | exact Or.inr (by decide) | exact Or.inr (by omega)), (by first | omega | decide | exact Or.inl (by decide) | exact Or.inr (by decide) | exact Or.inr (by omega)), hI_17, hF_18, hG⟩, by rw [ht]; exact hP_17, va_K.moved hW.alike hK, hD_19⟩)
def Q_m130_X8_span (dC : Nat → ClassId) (dI : Nat → Nat → Nat) (cI cJ cII cJJ : ClassId) (ad : Nat → Nat) (f3_unknowns f3_equations f2_roundSupports f2_stale f7_size f1_size f5_keptSize f5_aheadSize f0_solved : Int32) (ai0 : Nat → Nat → Int32) (al : Nat → Nat → Int64) (w0 w1 w2 w3 : Nat) : (Nat → Prop) → Array Value → State → Outcome → State → Prop := fun A => QI (fun r t => ∃ (n_f4_blockCount n_f4_blockLength n_f4_lastIsFree n_f4_stale : Int32), ∃ (n_ai : Nat → Nat → Int32), ((0 ≤ n_f4_blockCount.toInt ∧ n_f4_blockCount.toInt ≤ 9261) ∧ (0 ≤ n_f4_blockLength.toInt ∧ n_f4_blockLength.toInt ≤ 21) ∧ (0 ≤ n_f4_lastIsFree.toInt ∧ n_f4_lastIsFree.toInt ≤ 1) ∧ (0 ≤ n_f4_stale.toInt ∧ n_f4_stale.toInt ≤ 0) ∧ IAX n_ai ∧ FR [30, 32, 33, 35, 36, 37, 38, 41, 42, 43, 44, 45, 47, 48, 49, 50, 51] ai0 n_ai) ∧ WO dC dI (TY cI cJ cII cJJ) (WX cI cJ cII cJJ ad f3_unknowns f3_equations f2_roundSupports f2_stale f7_size f1_size f5_keptSize f5_aheadSize f0_solved n_f4_blockCount n_f4_blockLength n_f4_lastIsFree n_f4_stale n_ai al w0 w1 w2 w3) A t) A
set_option maxRecDepth 100000 in
set_option maxHeartbeats 4000000 in
theorem m130_X8_span_b30 {p : Program} {l : Launch} {e : Env} {s : State} {m : MethodId} {args : Array Value} {below : List Frame} {meth : Method} {c : Code} {A : Nat → Prop} {dC : Nat → ClassId} {dI : Nat → Nat → Nat} {cI cJ cII cJJ : ClassId} {ad : Nat → Nat} {g : Nat} {f3_unknowns f3_equations f2_roundSupports f2_stale f7_size f1_size f5_keptSize f5_aheadSize f0_solved : Int32} {ai0 : Nat → Nat → Int32} {al : Nat → Nat → Int64} {w0 w1 w2 w3 : Nat} (C : Cx p c s m meth args A dC dI (TY cI cJ cII cJJ) cX8_span (some .int) 3 RX8 0 g) : ∀ (L1 L2 f4_blockCount f4_blockLength f4_lastIsFree f4_stale : Int32) (ai : Nat → Nat → Int32) (H : Heap) (locs : List Loc) (ls : Array Slot), (1 ≤ f3_unknowns.toInt ∧ f3_unknowns.toInt ≤ 4) → (0 ≤ f3_equations.toInt ∧ f3_equations.toInt ≤ 3) → (0 ≤ f2_stale.toInt ∧ f2_stale.toInt ≤ 1) → (0 ≤ f7_size.toInt ∧ f7_size.toInt ≤ 256) → (0 ≤ f1_size.toInt ∧ f1_size.toInt ≤ 4) → (0 ≤ f5_keptSize.toInt ∧ f5_keptSize.toInt ≤ 128) → (0 ≤ f5_aheadSize.toInt ∧ f5_aheadSize.toInt ≤ 128) → (0 ≤ f4_blockCount.toInt ∧ f4_blockCount.toInt ≤ 9261) → (0 ≤ f4_blockLength.toInt ∧ f4_blockLength.toInt ≤ 21) → (0 ≤ f4_lastIsFree.toInt ∧ f4_lastIsFree.toInt ≤ 1) → (0 ≤ f4_stale.toInt ∧ f4_stale.toInt ≤ 0) → IAX ai → FR [30, 32, 33, 35, 36, 37, 38, 41, 42, 43, 44, 45, 47, 48, 49, 50, 51] ai0 ai → RWX ad w0 → RWX ad w1 → RWX ad w2 → RWX ad w3 → va_P (dC, dI) vwCl (WX cI cJ cII cJJ ad f3_unknowns f3_equations f2_roundSupports f2_stale f7_size f1_size f5_keptSize f5_aheadSize f0_solved f4_blockCount f4_blockLength f4_lastIsFree f4_stale ai al w0 w1 w2 w3) H → va_D A (WX cI cJ cII cJJ ad f3_unknowns f3_equations f2_roundSupports f2_stale f7_size f1_size f5_keptSize f5_aheadSize f0_solved f4_blockCount f4_blockLength f4_lastIsFree f4_stale ai al w0 w1 w2 w3) → va_S A s.heap H locs → lv_has ls 3 [(0, .ref (ad 0)), (1, .int L1), (2, .int L2)] → W p l e ({ frames := 13, cells := 0, slots := 0, locals := 740 } : Room) s m args below meth c H locs 0 0 (MQ below (Q_m130_X8_span dC dI cI cJ cII cJJ ad f3_unknowns f3_equations f2_roundSupports f2_stale f7_size f1_size f5_keptSize f5_aheadSize f0_solved ai0 al w0 w1 w2 w3 A) args s 0 0 A) (F0 m 30 ls []) := by
  obtain ⟨hx, hb, hr, hml, hown, hts, hk, hA, hK, hX⟩ := id C
  intro L1 L2 f4_blockCount f4_blockLength f4_lastIsFree f4_stale ai H locs ls h0 h1 h2 h3 h4 h5 h6 h7 h8 h9 h10 hI hF hw_w0 hw_w1 hw_w2 hw_w3 hP hD hS hl
  have ra_L1 := s_any L1
  have ra_L2 := s_any L2
  refine lv_ldc (v := (-99999)) hx hb hown (hts _ k_543) dX8_span_30 ?_
  exact r2_i hx hb hr hk hS dX8_span_32 (fun t ht hW => ⟨f4_blockCount, f4_blockLength, f4_lastIsFree, f4_stale, ai, ⟨(by first | omega | decide | exact Or.inl (by decide) | exact Or.inr (by decide) | exact Or.inr (by omega)), (by first | omega | decide | exact Or.inl (by decide) | exact Or.inr (by decide) | exact Or.inr (by omega)), (by first | omega | decide | exact Or.inl (by decide) | exact Or.inr (by decide) | exact Or.inr (by omega)), (by first | omega | decide | exact Or.inl (by decide) | exact Or.inr (by decide) | exact Or.inr (by omega)), hI, hF⟩, by rw [ht]; exact hP, va_K.moved hW.alike hK, hD⟩)
set_option maxRecDepth 100000 in
set_option maxHeartbeats 4000000 in
theorem m130_X8_span (l : Launch) (dC : Nat → ClassId) (dI : Nat → Nat → Nat) (cI cJ cII cJJ : ClassId) (sz g : Nat) (ad : Nat → Nat) (f3_unknowns f3_equations f2_roundSupports f2_stale f7_size f1_size f5_keptSize f5_aheadSize f0_solved f4_blockCount f4_blockLength f4_lastIsFree f4_stale : Int32) (ai : Nat → Nat → Int32) (al : Nat → Nat → Int64) (w0 w1 w2 w3 : Nat) (x1 : Int32) (x2 : Int32) (h_f3_unknowns : (1 ≤ f3_unknowns.toInt ∧ f3_unknowns.toInt ≤ 4)) (h_f3_equations : (0 ≤ f3_equations.toInt ∧ f3_equations.toInt ≤ 3)) (h_f2_stale : (0 ≤ f2_stale.toInt ∧ f2_stale.toInt ≤ 1)) (h_f7_size : (0 ≤ f7_size.toInt ∧ f7_size.toInt ≤ 256)) (h_f1_size : (0 ≤ f1_size.toInt ∧ f1_size.toInt ≤ 4)) (h_f5_keptSize : (0 ≤ f5_keptSize.toInt ∧ f5_keptSize.toInt ≤ 128)) (h_f5_aheadSize : (0 ≤ f5_aheadSize.toInt ∧ f5_aheadSize.toInt ≤ 128)) (h_f4_blockCount : (0 ≤ f4_blockCount.toInt ∧ f4_blockCount.toInt ≤ 9261)) (h_f4_blockLength : (0 ≤ f4_blockLength.toInt ∧ f4_blockLength.toInt ≤ 21)) (h_f4_lastIsFree : (0 ≤ f4_lastIsFree.toInt ∧ f4_lastIsFree.toInt ≤ 1)) (h_f4_stale : (0 ≤ f4_stale.toInt ∧ f4_stale.toInt ≤ 1)) (hI : IAX ai) (hw_w0 : RWX ad w0) (hw_w1 : RWX ad w1) (hw_w2 : RWX ad w2) (hw_w3 : RWX ad w3) : Met l yX8_span (.code yX8_span cX8_span 3 (some .int) :: TT) ({ frames := 13, cells := 0, slots := 0, locals := 740 } : Room) (PcS dC dI (TY cI cJ cII cJJ) [.ref (ad 0), .int x1, .int x2] (WX cI cJ cII cJJ ad f3_unknowns f3_equations f2_roundSupports f2_stale f7_size f1_size f5_keptSize f5_aheadSize f0_solved f4_blockCount f4_blockLength f4_lastIsFree f4_stale ai al w0 w1 w2 w3) sz 0 g) (Q_m130_X8_span dC dI cI cJ cII cJJ ad f3_unknowns f3_equations f2_roundSupports f2_stale f7_size f1_size f5_keptSize f5_aheadSize f0_solved ai al w0 w1 w2 w3 (va_A (WX cI cJ cII cJJ ad f3_unknowns f3_equations f2_roundSupports f2_stale f7_size f1_size f5_keptSize f5_aheadSize f0_solved f4_blockCount f4_blockLength f4_lastIsFree f4_stale ai al w0 w1 w2 w3) sz)) 0 0 (va_A (WX cI cJ cII cJJ ad f3_unknowns f3_equations f2_roundSupports f2_stale f7_size f1_size f5_keptSize f5_aheadSize f0_solved f4_blockCount f4_blockLength f4_lastIsFree f4_stale ai al w0 w1 w2 w3) sz) := by
  refine SM.of (y := yX8_span) (maxL := 3) (av := [.ref (ad 0), .int x1, .int x2]) (Q_m130_X8_span dC dI cI cJ cII cJJ ad f3_unknowns f3_equations f2_roundSupports f2_stale f7_size f1_size f5_keptSize f5_aheadSize f0_solved ai al w0 w1 w2 w3) (by decide +kernel) (Nat.le_of_ble_eq_true rfl) (fun p e s m below meth c A ls hx hb hr hml hown hts hk hnm hA hK hP hD hS hX hl => ?_)
  have C : Cx p c s m meth (([.ref (ad 0), .int x1, .int x2] : List Value).toArray) A dC dI (TY cI cJ cII cJJ) cX8_span (some .int) 3 RX8 0 g := ⟨hx, hb, hr, hml, hown, hts, hk, hA, hK, hX⟩
  have hown : s.vm.findClass RX8 = some m.cls := hown
  have hl : lv_has ls 3 [(0, .ref (ad 0)), (1, .int x1), (2, .int x2)] := hl
  obtain ⟨H, hH⟩ : ∃ q, q = s.heap := ⟨_, rfl⟩
  rw [← hH] at hP
  have hS : va_S A s.heap H [] := by rw [hH]; exact hS
  rw [← hH]
  have hF := FR_refl [30, 32, 33, 35, 36, 37, 38, 41, 42, 43, 44, 45, 47, 48, 49, 50, 51] ai
  have ra_x1 := s_any x1
  have ra_x2 := s_any x2
  refine lv_aload_n hx hb dX8_span_0 rfl (lv_at hl 0 rfl) ?_
  have hM := m121_X8_freshPlans l dC dI cI cJ cII cJJ H.size 0 ad f3_unknowns f3_equations f2_roundSupports f2_stale f7_size f1_size f5_keptSize f5_aheadSize f0_solved f4_blockCount f4_blockLength f4_lastIsFree f4_stale ai al w0 w1 w2 w3 (by omega) (by omega) (by omega) (by omega) (by omega) (by omega) (by omega) (by omega) (by omega) (by omega) (by omega) hI hw_w0 hw_w1 hw_w2 hw_w3
  refine k2V_a (q0 := 0) ⟨hx, hb, hml, hown, hts⟩ hK hP hD hS hA hX cv_RX8_196 hM ⟨by decide +kernel, by decide +kernel⟩ rfl rfl (Or.inl rfl) (rest := []) rfl rfl rfl hl.1 rfl (Nat.le_of_ble_eq_true rfl) dX8_span_1 ⟨Nat.le_of_ble_eq_true rfl, Nat.le_of_ble_eq_true rfl⟩ (fun t H1 locs_1 ht hB hS_1 hFc => ?_)
  obtain ⟨v2, v3, v4, v5, ai6, ⟨gpr1_0, gpr1_1, gpr1_2, gpr1_3, hI_2, hFr_r1⟩, hP_2, -, hD_2⟩ := hB
  have hF_3 := FR_tr hF hFr_r1 (by decide)
  rw [ht] at hP_2
  have hD_4 := hD_2.weaken (B := A) (fun k q _ h9 => hFc q.1 h9)
  clear ht
  generalize H1 = H_5 at hP_2 hS_1 ⊢
  have hM := m107_X4_size l dC dI cI cJ cII cJJ H_5.size 0 ad f3_unknowns f3_equations f2_roundSupports f2_stale f7_size f1_size f5_keptSize f5_aheadSize f0_solved v2 v3 v4 v5 ai6 al w0 w1 w2 w3 (by omega) (by omega) (by omega) (by omega) (by omega) (by omega) (by omega) (by omega) (by omega) (by omega) (by omega) hI_2 hw_w0 hw_w1 hw_w2 hw_w3
  refine k2V_i (q0 := 29) ⟨hx, hb, hml, hown, hts⟩ hK hP_2 hD_4 hS_1 hA hX cv_RX8_200 hM ⟨by decide +kernel, by decide +kernel⟩ rfl rfl (Or.inl rfl) (rest := []) rfl rfl rfl hl.1 rfl (Nat.le_of_ble_eq_true rfl) dX8_span_4 ⟨Nat.le_of_ble_eq_true rfl, Nat.le_of_ble_eq_true rfl⟩ (fun r7 t H1 locs_6 ht hB hS_6 hFc => ?_)
  obtain ⟨⟨gpr7_0, gpr7_1⟩, hP_7, -, hD_7⟩ := hB
  rw [ht] at hP_7
  have hD_8 := hD_7.weaken (B := A) (fun k q _ h9 => hFc q.1 h9)
  clear ht
  generalize H1 = H_9 at hP_7 hS_6 ⊢
  refine lv_if_eq (tgt := 30) hx hb dX8_span_7 (by decide) (fun c8 => ?_) (fun c8 => ?_)
  · have c8 := j_eq (a := r7.toInt) (b := 0) rfl (by decide +kernel) c8
    exact m130_X8_span_b30 C  x1 x2 v2 v3 v4 v5 ai6 _ _ _ (by omega) (by omega) (by omega) (by omega) (by omega) (by omega) (by omega) (by omega) (by omega) (by omega) (by omega) hI_2 hF_3 hw_w0 hw_w1 hw_w2 hw_w3 hP_7 hD_8 hS_6 (lv_sub hl [0, 1, 2] rfl)
  · have c8 := j_ne (a := r7.toInt) (b := 0) rfl (by decide +kernel) c8
    refine lv_aload_n hx hb dX8_span_10 rfl (lv_at hl 0 rfl) ?_
    refine gf (k := 0) hx hb hts inX8 hown hK hP_7 k_264 rfl (by decide) rfl 0 rfl (.ref (ad 6)) rfl dX8_span_11 ?_
    refine lv_iload_n hx hb dX8_span_14 rfl (lv_at hl 1 rfl) ?_
    have hM := m001_X3_hasUnknown l dC dI cI cJ cII cJJ H_9.size 0 ad f3_unknowns f3_equations f2_roundSupports f2_stale f7_size f1_size f5_keptSize f5_aheadSize f0_solved v2 v3 v4 v5 ai6 al w0 w1 w2 w3 x1 (by omega) (by omega) (by omega) (by omega) (by omega) (by omega) (by omega) (by omega) (by omega) (by omega) (by omega) hI_2 hw_w0 hw_w1 hw_w2 hw_w3
    refine k2V_i (q0 := 6) ⟨hx, hb, hml, hown, hts⟩ hK hP_7 hD_8 hS_6 hA hX cv_RX8_82 hM ⟨by decide +kernel, by decide +kernel⟩ rfl rfl (Or.inl rfl) (rest := []) rfl rfl rfl hl.1 rfl (Nat.le_of_ble_eq_true rfl) dX8_span_15 ⟨Nat.le_of_ble_eq_true rfl, Nat.le_of_ble_eq_true rfl⟩ (fun r9 t H1 locs_10 ht hB hS_10 hFc => ?_)
    obtain ⟨⟨gpr9_0, gpr9_1⟩, hP_11, -, hD_11⟩ := hB
    rw [ht] at hP_11
    have hD_12 := hD_11.weaken (B := A) (fun k q _ h9 => hFc q.1 h9)
    clear ht
    generalize H1 = H_13 at hP_11 hS_10 ⊢
    refine lv_if_eq (tgt := 30) hx hb dX8_span_18 (by decide) (fun c10 => ?_) (fun c10 => ?_)
    · have c10 := j_eq (a := r9.toInt) (b := 0) rfl (by decide +kernel) c10
      exact m130_X8_span_b30 C  x1 x2 v2 v3 v4 v5 ai6 _ _ _ (by omega) (by omega) (by omega) (by omega) (by omega) (by omega) (by omega) (by omega) (by omega) (by omega) (by omega) hI_2 hF_3 hw_w0 hw_w1 hw_w2 hw_w3 hP_11 hD_12 hS_10 (lv_sub hl [0, 1, 2] rfl)
    · have c10 := j_ne (a := r9.toInt) (b := 0) rfl (by decide +kernel) c10
      refine lv_iload_n hx hb dX8_span_21 rfl (lv_at hl 2 rfl) ?_
      refine lv_if_lt (tgt := 30) hx hb dX8_span_22 (by decide) (fun c11 => ?_) (fun c11 => ?_)
      · have c11 := j_lt (a := x2.toInt) (b := 0) rfl (by decide +kernel) c11
        exact m130_X8_span_b30 C  x1 x2 v2 v3 v4 v5 ai6 _ _ _ (by omega) (by omega) (by omega) (by omega) (by omega) (by omega) (by omega) (by omega) (by omega) (by omega) (by omega) hI_2 hF_3 hw_w0 hw_w1 hw_w2 hw_w3 hP_11 hD_12 hS_10 (lv_sub hl [0, 1, 2] rfl)
      · have c11 := j_nlt (a := x2.toInt) (b := 0) rfl (by decide +kernel) c11
        refine lv_iload_n hx hb dX8_span_25 rfl (lv_at hl 2 rfl) ?_
        refine lv_iconst (v := 1) hx hb dX8_span_26 (by decide) ?_
        refine lv_icmp_le (tgt := 33) hx hb dX8_span_27 (by decide) (fun c12 => ?_) (fun c12 => ?_)
        · have c12 := j_le (a := x2.toInt) (b := 1) rfl (by decide +kernel) c12
          refine lv_iload_n hx hb dX8_span_33 rfl (lv_at hl 2 rfl) ?_
          refine lv_if_ne (tgt := 48) hx hb dX8_span_34 (by decide) (fun c13 => ?_) (fun c13 => ?_)
          · have c13 := j_ne (a := x2.toInt) (b := 0) rfl (by decide +kernel) c13
            refine lv_aload_n hx hb dX8_span_48 rfl (lv_at hl 0 rfl) ?_
            refine gf (k := 2) hx hb hts inX8 hown hK hP_11 k_266 rfl (by decide) rfl 0 rfl (.ref (ad 29)) rfl dX8_span_49 ?_
            refine lv_iload_n hx hb dX8_span_52 rfl (lv_at hl 1 rfl) ?_
            have hM := m115_X4_greatestOf l dC dI cI cJ cII cJJ H_13.size 0 ad f3_unknowns f3_equations f2_roundSupports f2_stale f7_size f1_size f5_keptSize f5_aheadSize f0_solved v2 v3 v4 v5 ai6 al w0 w1 w2 w3 x1 (by omega) (by omega) (by omega) (by omega) (by omega) (by omega) (by omega) (by omega) (by omega) (by omega) (by omega) hI_2 hw_w0 hw_w1 hw_w2 hw_w3
            refine k2V_i (q0 := 29) ⟨hx, hb, hml, hown, hts⟩ hK hP_11 hD_12 hS_10 hA hX cv_RX8_215 hM ⟨by decide +kernel, by decide +kernel⟩ rfl rfl (Or.inl rfl) (rest := []) rfl rfl rfl hl.1 rfl (Nat.le_of_ble_eq_true rfl) dX8_span_53 ⟨Nat.le_of_ble_eq_true rfl, Nat.le_of_ble_eq_true rfl⟩ (fun r14 t H1 locs_14 ht hB hS_14 hFc => ?_)
            obtain ⟨-, hP_15, -, hD_15⟩ := hB
            rw [ht] at hP_15
            have hD_16 := hD_15.weaken (B := A) (fun k q _ h9 => hFc q.1 h9)
            clear ht
            generalize H1 = H_17 at hP_15 hS_14 ⊢
            exact r2_i hx hb hr hk hS_14 dX8_span_56 (fun t ht hW => ⟨v2, v3, v4, v5, ai6, ⟨(by first | omega | decide | exact Or.inl (by decide) | exact Or.inr (by decide) | exact Or.inr (by omega)), (by first | omega | decide | exact Or.inl (by decide) | exact Or.inr (by decide) | exact Or.inr (by omega)), (by first | omega | decide | exact Or.inl (by decide) | exact Or.inr (by decide) | exact Or.inr (by omega)), (by first | omega | decide | exact Or.inl (by decide) | exact Or.inr (by decide) | exact Or.inr (by omega)), hI_2, hF_3⟩, by rw [ht]; exact hP_15, va_K.moved hW.alike hK, hD_16⟩)
          · have c13 := j_eq (a := x2.toInt) (b := 0) rfl (by decide +kernel) c13
            refine lv_aload_n hx hb dX8_span_37 rfl (lv_at hl 0 rfl) ?_
            refine gf (k := 2) hx hb hts inX8 hown hK hP_11 k_266 rfl (by decide) rfl 0 rfl (.ref (ad 29)) rfl dX8_span_38 ?_
            refine lv_iload_n hx hb dX8_span_41 rfl (lv_at hl 1 rfl) ?_
            have hM := m114_X4_leastOf l dC dI cI cJ cII cJJ H_13.size 0 ad f3_unknowns f3_equations f2_roundSupports f2_stale f7_size f1_size f5_keptSize f5_aheadSize f0_solved v2 v3 v4 v5 ai6 al w0 w1 w2 w3 x1 (by omega) (by omega) (by omega) (by omega) (by omega) (by omega) (by omega) (by omega) (by omega) (by omega) (by omega) hI_2 hw_w0 hw_w1 hw_w2 hw_w3
            refine k2V_i (q0 := 29) ⟨hx, hb, hml, hown, hts⟩ hK hP_11 hD_12 hS_10 hA hX cv_RX8_212 hM ⟨by decide +kernel, by decide +kernel⟩ rfl rfl (Or.inl rfl) (rest := []) rfl rfl rfl hl.1 rfl (Nat.le_of_ble_eq_true rfl) dX8_span_42 ⟨Nat.le_of_ble_eq_true rfl, Nat.le_of_ble_eq_true rfl⟩ (fun r15 t H1 locs_18 ht hB hS_18 hFc => ?_)
            obtain ⟨gpr15_0, hP_19, -, hD_19⟩ := hB
            rw [ht] at hP_19
            have hD_20 := hD_19.weaken (B := A) (fun k q _ h9 => hFc q.1 h9)
            clear ht
            generalize H1 = H_21 at hP_19 hS_18 ⊢
            refine lv_goto (tgt := 56) hx hb dX8_span_45 (by decide) ?_
            exact r2_i hx hb hr hk hS_18 dX8_span_56 (fun t ht hW => ⟨v2, v3, v4, v5, ai6, ⟨(by first | omega | decide | exact Or.inl (by decide) | exact Or.inr (by decide) | exact Or.inr (by omega)), (by first | omega | decide | exact Or.inl (by decide) | exact Or.inr (by decide) | exact Or.inr (by omega)), (by first | omega | decide | exact Or.inl (by decide) | exact Or.inr (by decide) | exact Or.inr (by omega)), (by first | omega | decide | exact Or.inl (by decide) | exact Or.inr (by decide) | exact Or.inr (by omega)), hI_2, hF_3⟩, by rw [ht]; exact hP_19, va_K.moved hW.alike hK, hD_20⟩)
        · have c12 := j_nle (a := x2.toInt) (b := 1) rfl (by decide +kernel) c12
          exact m130_X8_span_b30 C  x1 x2 v2 v3 v4 v5 ai6 _ _ _ (by omega) (by omega) (by omega) (by omega) (by omega) (by omega) (by omega) (by omega) (by omega) (by omega) (by omega) hI_2 hF_3 hw_w0 hw_w1 hw_w2 hw_w3 hP_11 hD_12 hS_10 (lv_sub hl [0, 1, 2] rfl)
def Q_m131_X8_extreme (dC : Nat → ClassId) (dI : Nat → Nat → Nat) (cI cJ cII cJJ : ClassId) (ad : Nat → Nat) (f3_unknowns f3_equations f2_roundSupports f2_stale f7_size f1_size f5_keptSize f5_aheadSize f0_solved : Int32) (ai0 : Nat → Nat → Int32) (al : Nat → Nat → Int64) (w0 w1 w2 w3 : Nat) : (Nat → Prop) → Array Value → State → Outcome → State → Prop := fun A => QI (fun r t => ∃ (n_f4_blockCount n_f4_blockLength n_f4_lastIsFree n_f4_stale : Int32), ∃ (n_ai : Nat → Nat → Int32), ((0 ≤ n_f4_blockCount.toInt ∧ n_f4_blockCount.toInt ≤ 9261) ∧ (0 ≤ n_f4_blockLength.toInt ∧ n_f4_blockLength.toInt ≤ 21) ∧ (0 ≤ n_f4_lastIsFree.toInt ∧ n_f4_lastIsFree.toInt ≤ 1) ∧ (0 ≤ n_f4_stale.toInt ∧ n_f4_stale.toInt ≤ 0) ∧ IAX n_ai ∧ FR [30, 31, 32, 33, 35, 36, 37, 38, 41, 42, 43, 44, 45, 47, 48, 49, 50, 51] ai0 n_ai) ∧ WO dC dI (TY cI cJ cII cJJ) (WX cI cJ cII cJJ ad f3_unknowns f3_equations f2_roundSupports f2_stale f7_size f1_size f5_keptSize f5_aheadSize f0_solved n_f4_blockCount n_f4_blockLength n_f4_lastIsFree n_f4_stale n_ai al w0 w1 w2 w3) A t) A
set_option maxRecDepth 100000 in
set_option maxHeartbeats 4000000 in
theorem m131_X8_extreme_b37 {p : Program} {l : Launch} {e : Env} {s : State} {m : MethodId} {args : Array Value} {below : List Frame} {meth : Method} {c : Code} {A : Nat → Prop} {dC : Nat → ClassId} {dI : Nat → Nat → Nat} {cI cJ cII cJJ : ClassId} {ad : Nat → Nat} {g : Nat} {f3_unknowns f3_equations f2_roundSupports f2_stale f7_size f1_size f5_keptSize f5_aheadSize f0_solved : Int32} {ai0 : Nat → Nat → Int32} {al : Nat → Nat → Int64} {w0 w1 w2 w3 : Nat} (C : Cx p c s m meth args A dC dI (TY cI cJ cII cJJ) cX8_extreme (some .int) 2 RX8 0 g) : ∀ (L1 S0 f4_blockCount f4_blockLength f4_lastIsFree f4_stale : Int32) (ai : Nat → Nat → Int32) (H : Heap) (locs : List Loc) (ls : Array Slot), (0 ≤ L1.toInt ∧ L1.toInt ≤ 1) → (-1 ≤ S0.toInt ∧ S0.toInt ≤ 1) → (1 ≤ f3_unknowns.toInt ∧ f3_unknowns.toInt ≤ 4) → (0 ≤ f3_equations.toInt ∧ f3_equations.toInt ≤ 3) → (0 ≤ f2_stale.toInt ∧ f2_stale.toInt ≤ 1) → (0 ≤ f7_size.toInt ∧ f7_size.toInt ≤ 256) → (0 ≤ f1_size.toInt ∧ f1_size.toInt ≤ 4) → (0 ≤ f5_keptSize.toInt ∧ f5_keptSize.toInt ≤ 128) → (0 ≤ f5_aheadSize.toInt ∧ f5_aheadSize.toInt ≤ 128) → (0 ≤ f4_blockCount.toInt ∧ f4_blockCount.toInt ≤ 9261) → (0 ≤ f4_blockLength.toInt ∧ f4_blockLength.toInt ≤ 21) → (0 ≤ f4_lastIsFree.toInt ∧ f4_lastIsFree.toInt ≤ 1) → (0 ≤ f4_stale.toInt ∧ f4_stale.toInt ≤ 0) → IAX ai → FR [30, 31, 32, 33, 35, 36, 37, 38, 41, 42, 43, 44, 45, 47, 48, 49, 50, 51] ai0 ai → RWX ad w0 → RWX ad w1 → RWX ad w2 → RWX ad w3 → va_P (dC, dI) vwCl (WX cI cJ cII cJJ ad f3_unknowns f3_equations f2_roundSupports f2_stale f7_size f1_size f5_keptSize f5_aheadSize f0_solved f4_blockCount f4_blockLength f4_lastIsFree f4_stale ai al w0 w1 w2 w3) H → va_D A (WX cI cJ cII cJJ ad f3_unknowns f3_equations f2_roundSupports f2_stale f7_size f1_size f5_keptSize f5_aheadSize f0_solved f4_blockCount f4_blockLength f4_lastIsFree f4_stale ai al w0 w1 w2 w3) → va_S A s.heap H locs → lv_has ls 2 [(0, .ref (ad 0)), (1, .int L1)] → W p l e ({ frames := 13, cells := 0, slots := 0, locals := 740 } : Room) s m args below meth c H locs 0 0 (MQ below (Q_m131_X8_extreme dC dI cI cJ cII cJJ ad f3_unknowns f3_equations f2_roundSupports f2_stale f7_size f1_size f5_keptSize f5_aheadSize f0_solved ai0 al w0 w1 w2 w3 A) args s 0 0 A) (F0 m 37 ls [.int S0, .ref (ad 29)]) := by
  obtain ⟨hx, hb, hr, hml, hown, hts, hk, hA, hK, hX⟩ := id C
  intro L1 S0 f4_blockCount f4_blockLength f4_lastIsFree f4_stale ai H locs ls h0 h1 h2 h3 h4 h5 h6 h7 h8 h9 h10 h11 h12 hI hF hw_w0 hw_w1 hw_w2 hw_w3 hP hD hS hl
  have hM := m120_X4_firstOfCost l dC dI cI cJ cII cJJ H.size 0 ad f3_unknowns f3_equations f2_roundSupports f2_stale f7_size f1_size f5_keptSize f5_aheadSize f0_solved f4_blockCount f4_blockLength f4_lastIsFree f4_stale ai al w0 w1 w2 w3 S0 (by omega) (by omega) (by omega) (by omega) (by omega) (by omega) (by omega) (by omega) (by omega) (by omega) (by omega) hI hw_w0 hw_w1 hw_w2 hw_w3
  refine k2V_i (q0 := 29) ⟨hx, hb, hml, hown, hts⟩ hK hP hD hS hA hX cv_RX8_218 hM ⟨by decide +kernel, by decide +kernel⟩ rfl rfl (Or.inl rfl) (rest := []) rfl rfl rfl hl.1 rfl (Nat.le_of_ble_eq_true rfl) dX8_extreme_37 ⟨Nat.le_of_ble_eq_true rfl, Nat.le_of_ble_eq_true rfl⟩ (fun r1 t H1 locs_1 ht hB hS_1 hFc => ?_)
  obtain ⟨ai2, ⟨hI_2, hFr_r1⟩, hP_2, -, hD_2⟩ := hB
  have hF_3 := FR_tr hF hFr_r1 (by decide)
  rw [ht] at hP_2
  have hD_4 := hD_2.weaken (B := A) (fun k q _ h9 => hFc q.1 h9)
  clear ht
  generalize H1 = H_5 at hP_2 hS_1 ⊢
  exact r2_i hx hb hr hk hS_1 dX8_extreme_40 (fun t ht hW => ⟨f4_blockCount, f4_blockLength, f4_lastIsFree, f4_stale, ai2, ⟨(by first | omega | decide | exact Or.inl (by decide) | exact Or.inr (by decide) | exact Or.inr (by omega)), (by first | omega | decide | exact Or.inl (by decide) | exact Or.inr (by decide) | exact Or.inr (by omega)), (by first | omega | decide | exact Or.inl (by decide) | exact Or.inr (by decide) | exact Or.inr (by omega)), (by first | omega | decide | exact Or.inl (by decide) | exact Or.inr (by decide) | exact Or.inr (by omega)), hI_2, hF_3⟩, by rw [ht]; exact hP_2, va_K.moved hW.alike hK, hD_4⟩)
set_option maxRecDepth 100000 in
set_option maxHeartbeats 4000000 in
theorem m131_X8_extreme_b21 {p : Program} {l : Launch} {e : Env} {s : State} {m : MethodId} {args : Array Value} {below : List Frame} {meth : Method} {c : Code} {A : Nat → Prop} {dC : Nat → ClassId} {dI : Nat → Nat → Nat} {cI cJ cII cJJ : ClassId} {ad : Nat → Nat} {g : Nat} {f3_unknowns f3_equations f2_roundSupports f2_stale f7_size f1_size f5_keptSize f5_aheadSize f0_solved : Int32} {ai0 : Nat → Nat → Int32} {al : Nat → Nat → Int64} {w0 w1 w2 w3 : Nat} (C : Cx p c s m meth args A dC dI (TY cI cJ cII cJJ) cX8_extreme (some .int) 2 RX8 0 g) : ∀ (L1 f4_blockCount f4_blockLength f4_lastIsFree f4_stale : Int32) (ai : Nat → Nat → Int32) (H : Heap) (locs : List Loc) (ls : Array Slot), (1 ≤ f3_unknowns.toInt ∧ f3_unknowns.toInt ≤ 4) → (0 ≤ f3_equations.toInt ∧ f3_equations.toInt ≤ 3) → (0 ≤ f2_stale.toInt ∧ f2_stale.toInt ≤ 1) → (0 ≤ f7_size.toInt ∧ f7_size.toInt ≤ 256) → (0 ≤ f1_size.toInt ∧ f1_size.toInt ≤ 4) → (0 ≤ f5_keptSize.toInt ∧ f5_keptSize.toInt ≤ 128) → (0 ≤ f5_aheadSize.toInt ∧ f5_aheadSize.toInt ≤ 128) → (0 ≤ f4_blockCount.toInt ∧ f4_blockCount.toInt ≤ 9261) → (0 ≤ f4_blockLength.toInt ∧ f4_blockLength.toInt ≤ 21) → (0 ≤ f4_lastIsFree.toInt ∧ f4_lastIsFree.toInt ≤ 1) → (0 ≤ f4_stale.toInt ∧ f4_stale.toInt ≤ 0) → IAX ai → FR [30, 31, 32, 33, 35, 36, 37, 38, 41, 42, 43, 44, 45, 47, 48, 49, 50, 51] ai0 ai → RWX ad w0 → RWX ad w1 → RWX ad w2 → RWX ad w3 → va_P (dC, dI) vwCl (WX cI cJ cII cJJ ad f3_unknowns f3_equations f2_roundSupports f2_stale f7_size f1_size f5_keptSize f5_aheadSize f0_solved f4_blockCount f4_blockLength f4_lastIsFree f4_stale ai al w0 w1 w2 w3) H → va_D A (WX cI cJ cII cJJ ad f3_unknowns f3_equations f2_roundSupports f2_stale f7_size f1_size f5_keptSize f5_aheadSize f0_solved f4_blockCount f4_blockLength f4_lastIsFree f4_stale ai al w0 w1 w2 w3) → va_S A s.heap H locs → lv_has ls 2 [(0, .ref (ad 0)), (1, .int L1)] → W p l e ({ frames := 13, cells := 0, slots := 0, locals := 740 } : Room) s m args below meth c H locs 0 0 (MQ below (Q_m131_X8_extreme dC dI cI cJ cII cJJ ad f3_unknowns f3_equations f2_roundSupports f2_stale f7_size f1_size f5_keptSize f5_aheadSize f0_solved ai0 al w0 w1 w2 w3 A) args s 0 0 A) (F0 m 21 ls []) := by
  obtain ⟨hx, hb, hr, hml, hown, hts, hk, hA, hK, hX⟩ := id C
  intro L1 f4_blockCount f4_blockLength f4_lastIsFree f4_stale ai H locs ls h0 h1 h2 h3 h4 h5 h6 h7 h8 h9 h10 hI hF hw_w0 hw_w1 hw_w2 hw_w3 hP hD hS hl
  have ra_L1 := s_any L1
  refine lv_bipush (v := (-2)) hx hb dX8_extreme_21 (by decide) ?_
  exact r2_i hx hb hr hk hS dX8_extreme_23 (fun t ht hW => ⟨f4_blockCount, f4_blockLength, f4_lastIsFree, f4_stale, ai, ⟨(by first | omega | decide | exact Or.inl (by decide) | exact Or.inr (by decide) | exact Or.inr (by omega)), (by first | omega | decide | exact Or.inl (by decide) | exact Or.inr (by decide) | exact Or.inr (by omega)), (by first | omega | decide | exact Or.inl (by decide) | exact Or.inr (by decide) | exact Or.inr (by omega)), (by first | omega | decide | exact Or.inl (by decide) | exact Or.inr (by decide) | exact Or.inr (by omega)), hI, hF⟩, by rw [ht]; exact hP, va_K.moved hW.alike hK, hD⟩)
set_option maxRecDepth 100000 in
set_option maxHeartbeats 4000000 in
theorem m131_X8_extreme (l : Launch) (dC : Nat → ClassId) (dI : Nat → Nat → Nat) (cI cJ cII cJJ : ClassId) (sz g : Nat) (ad : Nat → Nat) (f3_unknowns f3_equations f2_roundSupports f2_stale f7_size f1_size f5_keptSize f5_aheadSize f0_solved f4_blockCount f4_blockLength f4_lastIsFree f4_stale : Int32) (ai : Nat → Nat → Int32) (al : Nat → Nat → Int64) (w0 w1 w2 w3 : Nat) (x1 : Int32) (h_f3_unknowns : (1 ≤ f3_unknowns.toInt ∧ f3_unknowns.toInt ≤ 4)) (h_f3_equations : (0 ≤ f3_equations.toInt ∧ f3_equations.toInt ≤ 3)) (h_f2_stale : (0 ≤ f2_stale.toInt ∧ f2_stale.toInt ≤ 1)) (h_f7_size : (0 ≤ f7_size.toInt ∧ f7_size.toInt ≤ 256)) (h_f1_size : (0 ≤ f1_size.toInt ∧ f1_size.toInt ≤ 4)) (h_f5_keptSize : (0 ≤ f5_keptSize.toInt ∧ f5_keptSize.toInt ≤ 128)) (h_f5_aheadSize : (0 ≤ f5_aheadSize.toInt ∧ f5_aheadSize.toInt ≤ 128)) (h_f4_blockCount : (0 ≤ f4_blockCount.toInt ∧ f4_blockCount.toInt ≤ 9261)) (h_f4_blockLength : (0 ≤ f4_blockLength.toInt ∧ f4_blockLength.toInt ≤ 21)) (h_f4_lastIsFree : (0 ≤ f4_lastIsFree.toInt ∧ f4_lastIsFree.toInt ≤ 1)) (h_f4_stale : (0 ≤ f4_stale.toInt ∧ f4_stale.toInt ≤ 1)) (hI : IAX ai) (hw_w0 : RWX ad w0) (hw_w1 : RWX ad w1) (hw_w2 : RWX ad w2) (hw_w3 : RWX ad w3) : Met l yX8_extreme (.code yX8_extreme cX8_extreme 2 (some .int) :: TT) ({ frames := 13, cells := 0, slots := 0, locals := 740 } : Room) (PcS dC dI (TY cI cJ cII cJJ) [.ref (ad 0), .int x1] (WX cI cJ cII cJJ ad f3_unknowns f3_equations f2_roundSupports f2_stale f7_size f1_size f5_keptSize f5_aheadSize f0_solved f4_blockCount f4_blockLength f4_lastIsFree f4_stale ai al w0 w1 w2 w3) sz 0 g) (Q_m131_X8_extreme dC dI cI cJ cII cJJ ad f3_unknowns f3_equations f2_roundSupports f2_stale f7_size f1_size f5_keptSize f5_aheadSize f0_solved ai al w0 w1 w2 w3 (va_A (WX cI cJ cII cJJ ad f3_unknowns f3_equations f2_roundSupports f2_stale f7_size f1_size f5_keptSize f5_aheadSize f0_solved f4_blockCount f4_blockLength f4_lastIsFree f4_stale ai al w0 w1 w2 w3) sz)) 0 0 (va_A (WX cI cJ cII cJJ ad f3_unknowns f3_equations f2_roundSupports f2_stale f7_size f1_size f5_keptSize f5_aheadSize f0_solved f4_blockCount f4_blockLength f4_lastIsFree f4_stale ai al w0 w1 w2 w3) sz) := by
  refine SM.of (y := yX8_extreme) (maxL := 2) (av := [.ref (ad 0), .int x1]) (Q_m131_X8_extreme dC dI cI cJ cII cJJ ad f3_unknowns f3_equations f2_roundSupports f2_stale f7_size f1_size f5_keptSize f5_aheadSize f0_solved ai al w0 w1 w2 w3) (by decide +kernel) (Nat.le_of_ble_eq_true rfl) (fun p e s m below meth c A ls hx hb hr hml hown hts hk hnm hA hK hP hD hS hX hl => ?_)
  have C : Cx p c s m meth (([.ref (ad 0), .int x1] : List Value).toArray) A dC dI (TY cI cJ cII cJJ) cX8_extreme (some .int) 2 RX8 0 g := ⟨hx, hb, hr, hml, hown, hts, hk, hA, hK, hX⟩
  have hown : s.vm.findClass RX8 = some m.cls := hown
  have hl : lv_has ls 2 [(0, .ref (ad 0)), (1, .int x1)] := hl
  obtain ⟨H, hH⟩ : ∃ q, q = s.heap := ⟨_, rfl⟩
  rw [← hH] at hP
  have hS : va_S A s.heap H [] := by rw [hH]; exact hS
  rw [← hH]
  have hF := FR_refl [30, 31, 32, 33, 35, 36, 37, 38, 41, 42, 43, 44, 45, 47, 48, 49, 50, 51] ai
  have ra_x1 := s_any x1
  refine lv_aload_n hx hb dX8_extreme_0 rfl (lv_at hl 0 rfl) ?_
  have hM := m121_X8_freshPlans l dC dI cI cJ cII cJJ H.size 0 ad f3_unknowns f3_equations f2_roundSupports f2_stale f7_size f1_size f5_keptSize f5_aheadSize f0_solved f4_blockCount f4_blockLength f4_lastIsFree f4_stale ai al w0 w1 w2 w3 (by omega) (by omega) (by omega) (by omega) (by omega) (by omega) (by omega) (by omega) (by omega) (by omega) (by omega) hI hw_w0 hw_w1 hw_w2 hw_w3
  refine k2V_a (q0 := 0) ⟨hx, hb, hml, hown, hts⟩ hK hP hD hS hA hX cv_RX8_196 hM ⟨by decide +kernel, by decide +kernel⟩ rfl rfl (Or.inl rfl) (rest := []) rfl rfl rfl hl.1 rfl (Nat.le_of_ble_eq_true rfl) dX8_extreme_1 ⟨Nat.le_of_ble_eq_true rfl, Nat.le_of_ble_eq_true rfl⟩ (fun t H1 locs_1 ht hB hS_1 hFc => ?_)
  obtain ⟨v2, v3, v4, v5, ai6, ⟨gpr1_0, gpr1_1, gpr1_2, gpr1_3, hI_2, hFr_r1⟩, hP_2, -, hD_2⟩ := hB
  have hF_3 := FR_tr hF hFr_r1 (by decide)
  rw [ht] at hP_2
  have hD_4 := hD_2.weaken (B := A) (fun k q _ h9 => hFc q.1 h9)
  clear ht
  generalize H1 = H_5 at hP_2 hS_1 ⊢
  have hM := m107_X4_size l dC dI cI cJ cII cJJ H_5.size 0 ad f3_unknowns f3_equations f2_roundSupports f2_stale f7_size f1_size f5_keptSize f5_aheadSize f0_solved v2 v3 v4 v5 ai6 al w0 w1 w2 w3 (by omega) (by omega) (by omega) (by omega) (by omega) (by omega) (by omega) (by omega) (by omega) (by omega) (by omega) hI_2 hw_w0 hw_w1 hw_w2 hw_w3
  refine k2V_i (q0 := 29) ⟨hx, hb, hml, hown, hts⟩ hK hP_2 hD_4 hS_1 hA hX cv_RX8_200 hM ⟨by decide +kernel, by decide +kernel⟩ rfl rfl (Or.inl rfl) (rest := []) rfl rfl rfl hl.1 rfl (Nat.le_of_ble_eq_true rfl) dX8_extreme_4 ⟨Nat.le_of_ble_eq_true rfl, Nat.le_of_ble_eq_true rfl⟩ (fun r7 t H1 locs_6 ht hB hS_6 hFc => ?_)
  obtain ⟨⟨gpr7_0, gpr7_1⟩, hP_7, -, hD_7⟩ := hB
  rw [ht] at hP_7
  have hD_8 := hD_7.weaken (B := A) (fun k q _ h9 => hFc q.1 h9)
  clear ht
  generalize H1 = H_9 at hP_7 hS_6 ⊢
  refine lv_if_ne (tgt := 12) hx hb dX8_extreme_7 (by decide) (fun c8 => ?_) (fun c8 => ?_)
  · have c8 := j_ne (a := r7.toInt) (b := 0) rfl (by decide +kernel) c8
    refine lv_iload_n hx hb dX8_extreme_12 rfl (lv_at hl 1 rfl) ?_
    refine lv_if_lt (tgt := 21) hx hb dX8_extreme_13 (by decide) (fun c9 => ?_) (fun c9 => ?_)
    · have c9 := j_lt (a := x1.toInt) (b := 0) rfl (by decide +kernel) c9
      exact m131_X8_extreme_b21 C  x1 v2 v3 v4 v5 ai6 _ _ _ (by omega) (by omega) (by omega) (by omega) (by omega) (by omega) (by omega) (by omega) (by omega) (by omega) (by omega) hI_2 hF_3 hw_w0 hw_w1 hw_w2 hw_w3 hP_7 hD_8 hS_6 (lv_sub hl [0, 1] rfl)
    · have c9 := j_nlt (a := x1.toInt) (b := 0) rfl (by decide +kernel) c9
      refine lv_iload_n hx hb dX8_extreme_16 rfl (lv_at hl 1 rfl) ?_
      refine lv_iconst (v := 1) hx hb dX8_extreme_17 (by decide) ?_
      refine lv_icmp_le (tgt := 24) hx hb dX8_extreme_18 (by decide) (fun c10 => ?_) (fun c10 => ?_)
      · have c10 := j_le (a := x1.toInt) (b := 1) rfl (by decide +kernel) c10
        refine lv_aload_n hx hb dX8_extreme_24 rfl (lv_at hl 0 rfl) ?_
        refine gf (k := 2) hx hb hts inX8 hown hK hP_7 k_266 rfl (by decide) rfl 0 rfl (.ref (ad 29)) rfl dX8_extreme_25 ?_
        refine lv_iload_n hx hb dX8_extreme_28 rfl (lv_at hl 1 rfl) ?_
        refine lv_if_ne (tgt := 36) hx hb dX8_extreme_29 (by decide) (fun c11 => ?_) (fun c11 => ?_)
        · have c11 := j_ne (a := x1.toInt) (b := 0) rfl (by decide +kernel) c11
          refine lv_iconst (v := (-1)) hx hb dX8_extreme_36 (by decide) ?_
          exact m131_X8_extreme_b37 C  x1 (-1) v2 v3 v4 v5 ai6 _ _ _ (by first | omega | decide | (have ka0 := (by decide +kernel : ((-1) : Int32).toInt = (-1)); omega)) (by first | omega | decide | (have ka0 := (by decide +kernel : ((-1) : Int32).toInt = (-1)); omega)) (by first | omega | decide | (have ka0 := (by decide +kernel : ((-1) : Int32).toInt = (-1)); omega)) (by first | omega | decide | (have ka0 := (by decide +kernel : ((-1) : Int32).toInt = (-1)); omega)) (by first | omega | decide | (have ka0 := (by decide +kernel : ((-1) : Int32).toInt = (-1)); omega)) (by first | omega | decide | (have ka0 := (by decide +kernel : ((-1) : Int32).toInt = (-1)); omega)) (by first | omega | decide | (have ka0 := (by decide +kernel : ((-1) : Int32).toInt = (-1)); omega)) (by first | omega | decide | (have ka0 := (by decide +kernel : ((-1) : Int32).toInt = (-1)); omega)) (by first | omega | decide | (have ka0 := (by decide +kernel : ((-1) : Int32).toInt = (-1)); omega)) (by first | omega | decide | (have ka0 := (by decide +kernel : ((-1) : Int32).toInt = (-1)); omega)) (by first | omega | decide | (have ka0 := (by decide +kernel : ((-1) : Int32).toInt = (-1)); omega)) (by first | omega | decide | (have ka0 := (by decide +kernel : ((-1) : Int32).toInt = (-1)); omega)) (by first | omega | decide | (have ka0 := (by decide +kernel : ((-1) : Int32).toInt = (-1)); omega)) hI_2 hF_3 hw_w0 hw_w1 hw_w2 hw_w3 hP_7 hD_8 hS_6 (lv_sub hl [0, 1] rfl)
        · have c11 := j_eq (a := x1.toInt) (b := 0) rfl (by decide +kernel) c11
          refine lv_iconst (v := 1) hx hb dX8_extreme_32 (by decide) ?_
          refine lv_goto (tgt := 37) hx hb dX8_extreme_33 (by decide) ?_
          exact m131_X8_extreme_b37 C  x1 1 v2 v3 v4 v5 ai6 _ _ _ (by first | omega | decide | (have ka0 := (by decide +kernel : (1 : Int32).toInt = 1); omega)) (by first | omega | decide | (have ka0 := (by decide +kernel : (1 : Int32).toInt = 1); omega)) (by first | omega | decide | (have ka0 := (by decide +kernel : (1 : Int32).toInt = 1); omega)) (by first | omega | decide | (have ka0 := (by decide +kernel : (1 : Int32).toInt = 1); omega)) (by first | omega | decide | (have ka0 := (by decide +kernel : (1 : Int32).toInt = 1); omega)) (by first | omega | decide | (have ka0 := (by decide +kernel : (1 : Int32).toInt = 1); omega)) (by first | omega | decide | (have ka0 := (by decide +kernel : (1 : Int32).toInt = 1); omega)) (by first | omega | decide | (have ka0 := (by decide +kernel : (1 : Int32).toInt = 1); omega)) (by first | omega | decide | (have ka0 := (by decide +kernel : (1 : Int32).toInt = 1); omega)) (by first | omega | decide | (have ka0 := (by decide +kernel : (1 : Int32).toInt = 1); omega)) (by first | omega | decide | (have ka0 := (by decide +kernel : (1 : Int32).toInt = 1); omega)) (by first | omega | decide | (have ka0 := (by decide +kernel : (1 : Int32).toInt = 1); omega)) (by first | omega | decide | (have ka0 := (by decide +kernel : (1 : Int32).toInt = 1); omega)) hI_2 hF_3 hw_w0 hw_w1 hw_w2 hw_w3 hP_7 hD_8 hS_6 (lv_sub hl [0, 1] rfl)
      · have c10 := j_nle (a := x1.toInt) (b := 1) rfl (by decide +kernel) c10
        exact m131_X8_extreme_b21 C  x1 v2 v3 v4 v5 ai6 _ _ _ (by omega) (by omega) (by omega) (by omega) (by omega) (by omega) (by omega) (by omega) (by omega) (by omega) (by omega) hI_2 hF_3 hw_w0 hw_w1 hw_w2 hw_w3 hP_7 hD_8 hS_6 (lv_sub hl [0, 1] rfl)
  · have c8 := j_eq (a := r7.toInt) (b := 0) rfl (by decide +kernel) c8
    refine lv_iconst (v := (-1)) hx hb dX8_extreme_10 (by decide) ?_
    exact r2_i hx hb hr hk hS_6 dX8_extreme_11 (fun t ht hW => ⟨v2, v3, v4, v5, ai6, ⟨(by first | omega | decide | exact Or.inl (by decide) | exact Or.inr (by decide) | exact Or.inr (by omega)), (by first | omega | decide | exact Or.inl (by decide) | exact Or.inr (by decide) | exact Or.inr (by omega)), (by first | omega | decide | exact Or.inl (by decide) | exact Or.inr (by decide) | exact Or.inr (by omega)), (by first | omega | decide | exact Or.inl (by decide) | exact Or.inr (by decide) | exact Or.inr (by omega)), hI_2, hF_3⟩, by rw [ht]; exact hP_7, va_K.moved hW.alike hK, hD_8⟩)
def Q_m132_X8_copy (dC : Nat → ClassId) (dI : Nat → Nat → Nat) (cI cJ cII cJJ : ClassId) (ad : Nat → Nat) (f3_unknowns f3_equations f2_roundSupports f2_stale f7_size f1_size f5_keptSize f5_aheadSize f0_solved f4_blockCount f4_blockLength f4_lastIsFree f4_stale : Int32) (ai0 : Nat → Nat → Int32) (al0 : Nat → Nat → Int64) (w0 w1 w2 w3 : Nat) (x1 : Int32) (x2 : Int32) (x3 : Int32) (x4 : Int32) : (Nat → Prop) → Array Value → State → Outcome → State → Prop := fun A => QI (fun r t => ∃ (n_ai : Nat → Nat → Int32), ∃ (n_al : Nat → Nat → Int64), (((¬ ((0 ≤ x1.toInt ∧ x1.toInt < 4) ∧ (0 ≤ x3.toInt ∧ x3.toInt < 4)) ∧ r.toInt = -1) ∨ (((0 ≤ x1.toInt ∧ x1.toInt < 4) ∧ (0 ≤ x3.toInt ∧ x3.toInt < 4)) ∧ ((ai0 59 x1.toInt.toNat).toInt = -1 ∨ (ai0 59 x3.toInt.toNat).toInt = -1) ∧ r.toInt = -7) ∨ (((0 ≤ x1.toInt ∧ x1.toInt < 4) ∧ (0 ≤ x3.toInt ∧ x3.toInt < 4)) ∧ ((ai0 59 x1.toInt.toNat).toInt ≠ -1 ∧ (ai0 59 x3.toInt.toNat).toInt ≠ -1) ∧ ¬ (ai0 58 x1.toInt.toNat).toInt = (ai0 58 x3.toInt.toNat).toInt ∧ r.toInt = -2) ∨ (((0 ≤ x1.toInt ∧ x1.toInt < 4) ∧ (0 ≤ x3.toInt ∧ x3.toInt < 4)) ∧ ((ai0 59 x1.toInt.toNat).toInt ≠ -1 ∧ (ai0 59 x3.toInt.toNat).toInt ≠ -1) ∧ (ai0 58 x1.toInt.toNat).toInt = (ai0 58 x3.toInt.toNat).toInt ∧ x4.toInt < 0 ∧ r.toInt = -4) ∨ (((0 ≤ x1.toInt ∧ x1.toInt < 4) ∧ (0 ≤ x3.toInt ∧ x3.toInt < 4)) ∧ ((ai0 59 x1.toInt.toNat).toInt ≠ -1 ∧ (ai0 59 x3.toInt.toNat).toInt ≠ -1) ∧ (ai0 58 x1.toInt.toNat).toInt = (ai0 58 x3.toInt.toNat).toInt ∧ 0 ≤ x4.toInt ∧ (x2.toInt < 0 ∨ (ai0 59 x1.toInt.toNat).toInt < x2.toInt + x4.toInt ∨ (ai0 59 x3.toInt.toNat).toInt < x4.toInt) ∧ r.toInt = -3) ∨ (((0 ≤ x1.toInt ∧ x1.toInt < 4) ∧ (0 ≤ x3.toInt ∧ x3.toInt < 4)) ∧ ((ai0 59 x1.toInt.toNat).toInt ≠ -1 ∧ (ai0 59 x3.toInt.toNat).toInt ≠ -1) ∧ (ai0 58 x1.toInt.toNat).toInt = (ai0 58 x3.toInt.toNat).toInt ∧ 0 ≤ x4.toInt ∧ (0 ≤ x2.toInt ∧ x2.toInt + x4.toInt ≤ (ai0 59 x1.toInt.toNat).toInt ∧ x4.toInt ≤ (ai0 59 x3.toInt.toNat).toInt) ∧ r.toInt = 1)) ∧ IAX n_ai ∧ FR [63] ai0 n_ai ∧ FL [54, 55, 56, 57] al0 n_al) ∧ WO dC dI (TY cI cJ cII cJJ) (WX cI cJ cII cJJ ad f3_unknowns f3_equations f2_roundSupports f2_stale f7_size f1_size f5_keptSize f5_aheadSize f0_solved f4_blockCount f4_blockLength f4_lastIsFree f4_stale n_ai n_al w0 w1 w2 w3) A t) A
set_option maxRecDepth 100000 in
set_option maxHeartbeats 4000000 in
theorem m132_X8_copy_b131 {p : Program} {l : Launch} {e : Env} {s : State} {m : MethodId} {args : Array Value} {below : List Frame} {meth : Method} {c : Code} {A : Nat → Prop} {dC : Nat → ClassId} {dI : Nat → Nat → Nat} {cI cJ cII cJJ : ClassId} {ad : Nat → Nat} {g : Nat} {f3_unknowns f3_equations f2_roundSupports f2_stale f7_size f1_size f5_keptSize f5_aheadSize f0_solved f4_blockCount f4_blockLength f4_lastIsFree f4_stale : Int32} {ai0 : Nat → Nat → Int32} {al0 : Nat → Nat → Int64} {w0 w1 w2 w3 : Nat} {x1 : Int32} {x2 : Int32} {x3 : Int32} {x4 : Int32} (C : Cx p c s m meth args A dC dI (TY cI cJ cII cJJ) cX8_copy (some .int) 5 RX8 0 g) : ∀ (ai : Nat → Nat → Int32) (al : Nat → Nat → Int64) (H : Heap) (locs : List Loc) (ls : Array Slot), (1 ≤ f3_unknowns.toInt ∧ f3_unknowns.toInt ≤ 4) → (0 ≤ f3_equations.toInt ∧ f3_equations.toInt ≤ 3) → (0 ≤ f2_stale.toInt ∧ f2_stale.toInt ≤ 1) → (0 ≤ f7_size.toInt ∧ f7_size.toInt ≤ 256) → (0 ≤ f1_size.toInt ∧ f1_size.toInt ≤ 4) → (0 ≤ f5_keptSize.toInt ∧ f5_keptSize.toInt ≤ 128) → (0 ≤ f5_aheadSize.toInt ∧ f5_aheadSize.toInt ≤ 128) → (0 ≤ f4_blockCount.toInt ∧ f4_blockCount.toInt ≤ 9261) → (0 ≤ f4_blockLength.toInt ∧ f4_blockLength.toInt ≤ 21) → (0 ≤ f4_lastIsFree.toInt ∧ f4_lastIsFree.toInt ≤ 1) → (0 ≤ f4_stale.toInt ∧ f4_stale.toInt ≤ 1) → (0 ≤ x1.toInt ∧ x1.toInt ≤ 3) → (0 ≤ x3.toInt ∧ x3.toInt ≤ 3) → 0 ≤ x4.toInt → ((0 ≤ x1.toInt ∧ x1.toInt < 4) ∧ (0 ≤ x3.toInt ∧ x3.toInt < 4)) → ((ai0 59 x1.toInt.toNat).toInt ≠ -1 ∧ (ai0 59 x3.toInt.toNat).toInt ≠ -1) → (ai0 58 x1.toInt.toNat).toInt = (ai0 58 x3.toInt.toNat).toInt → 0 ≤ x4.toInt → (x2.toInt < 0 ∨ (ai0 59 x1.toInt.toNat).toInt < x2.toInt + x4.toInt ∨ (ai0 59 x3.toInt.toNat).toInt < x4.toInt) → IAX ai → FR [63] ai0 ai → FL [54, 55, 56, 57] al0 al → RWX ad w0 → RWX ad w1 → RWX ad w2 → RWX ad w3 → va_P (dC, dI) vwCl (WX cI cJ cII cJJ ad f3_unknowns f3_equations f2_roundSupports f2_stale f7_size f1_size f5_keptSize f5_aheadSize f0_solved f4_blockCount f4_blockLength f4_lastIsFree f4_stale ai al w0 w1 w2 w3) H → va_D A (WX cI cJ cII cJJ ad f3_unknowns f3_equations f2_roundSupports f2_stale f7_size f1_size f5_keptSize f5_aheadSize f0_solved f4_blockCount f4_blockLength f4_lastIsFree f4_stale ai al w0 w1 w2 w3) → va_S A s.heap H locs → lv_has ls 5 [(0, .ref (ad 0)), (1, .int x1), (2, .int x2), (3, .int x3), (4, .int x4)] → W p l e ({ frames := 3, cells := 0, slots := 0, locals := 140 } : Room) s m args below meth c H locs 0 0 (MQ below (Q_m132_X8_copy dC dI cI cJ cII cJJ ad f3_unknowns f3_equations f2_roundSupports f2_stale f7_size f1_size f5_keptSize f5_aheadSize f0_solved f4_blockCount f4_blockLength f4_lastIsFree f4_stale ai0 al0 w0 w1 w2 w3 x1 x2 x3 x4 A) args s 0 0 A) (F0 m 131 ls []) := by
  obtain ⟨hx, hb, hr, hml, hown, hts, hk, hA, hK, hX⟩ := id C
  intro ai al H locs ls h0 h1 h2 h3 h4 h5 h6 h7 h8 h9 h10 h11 h12 h13 h14 h15 h16 h17 h18 hI hF hG hw_w0 hw_w1 hw_w2 hw_w3 hP hD hS hl
  refine lv_aload_n hx hb dX8_copy_131 rfl (lv_at hl 0 rfl) ?_
  refine lv_bipush (v := (-3)) hx hb dX8_copy_132 (by decide) ?_
  have kcm3 : ((-3) : Int32).toInt = (-3) := by decide +kernel
  have hM := m003_X8_refuse l dC dI cI cJ cII cJJ H.size 0 ad f3_unknowns f3_equations f2_roundSupports f2_stale f7_size f1_size f5_keptSize f5_aheadSize f0_solved f4_blockCount f4_blockLength f4_lastIsFree f4_stale ai al w0 w1 w2 w3 (-3) (by omega) (by omega) (by omega) (by omega) (by omega) (by omega) (by omega) (by omega) (by omega) (by omega) (by omega) hI hw_w0 hw_w1 hw_w2 hw_w3
  refine k2V_i (q0 := 0) ⟨hx, hb, hml, hown, hts⟩ hK hP hD hS hA hX cv_RX8_53 hM ⟨by decide +kernel, by decide +kernel⟩ rfl rfl (Or.inl rfl) (rest := []) rfl rfl rfl hl.1 rfl (Nat.le_of_ble_eq_true rfl) dX8_copy_134 ⟨Nat.le_of_ble_eq_true rfl, Nat.le_of_ble_eq_true rfl⟩ (fun r1 t H1 locs_1 ht hB hS_1 hFc => ?_)
  obtain ⟨ai2, ⟨gpr1_0, hI_2, hFr_r1⟩, hP_2, -, hD_2⟩ := hB
  have hF_3 := FR_tr hF hFr_r1 (by decide)
  rw [ht] at hP_2
  have hD_4 := hD_2.weaken (B := A) (fun k q _ h9 => hFc q.1 h9)
  clear ht
  generalize H1 = H_5 at hP_2 hS_1 ⊢
  exact r2_i hx hb hr hk hS_1 dX8_copy_137 (fun t ht hW => ⟨ai2, al, ⟨(Or.inr (Or.inr (Or.inr (Or.inr (Or.inl ⟨(by omega), (by omega), (by omega), (by omega), (by omega), (by omega)⟩))))), hI_2, hF_3, hG⟩, by rw [ht]; exact hP_2, va_K.moved hW.alike hK, hD_4⟩)
set_option maxRecDepth 100000 in
set_option maxHeartbeats 4000000 in
theorem m132_X8_copy_b50 {p : Program} {l : Launch} {e : Env} {s : State} {m : MethodId} {args : Array Value} {below : List Frame} {meth : Method} {c : Code} {A : Nat → Prop} {dC : Nat → ClassId} {dI : Nat → Nat → Nat} {cI cJ cII cJJ : ClassId} {ad : Nat → Nat} {g : Nat} {f3_unknowns f3_equations f2_roundSupports f2_stale f7_size f1_size f5_keptSize f5_aheadSize f0_solved f4_blockCount f4_blockLength f4_lastIsFree f4_stale : Int32} {ai0 : Nat → Nat → Int32} {al0 : Nat → Nat → Int64} {w0 w1 w2 w3 : Nat} {x1 : Int32} {x2 : Int32} {x3 : Int32} {x4 : Int32} (C : Cx p c s m meth args A dC dI (TY cI cJ cII cJJ) cX8_copy (some .int) 5 RX8 0 g) : ∀ (ai : Nat → Nat → Int32) (al : Nat → Nat → Int64) (H : Heap) (locs : List Loc) (ls : Array Slot), (1 ≤ f3_unknowns.toInt ∧ f3_unknowns.toInt ≤ 4) → (0 ≤ f3_equations.toInt ∧ f3_equations.toInt ≤ 3) → (0 ≤ f2_stale.toInt ∧ f2_stale.toInt ≤ 1) → (0 ≤ f7_size.toInt ∧ f7_size.toInt ≤ 256) → (0 ≤ f1_size.toInt ∧ f1_size.toInt ≤ 4) → (0 ≤ f5_keptSize.toInt ∧ f5_keptSize.toInt ≤ 128) → (0 ≤ f5_aheadSize.toInt ∧ f5_aheadSize.toInt ≤ 128) → (0 ≤ f4_blockCount.toInt ∧ f4_blockCount.toInt ≤ 9261) → (0 ≤ f4_blockLength.toInt ∧ f4_blockLength.toInt ≤ 21) → (0 ≤ f4_lastIsFree.toInt ∧ f4_lastIsFree.toInt ≤ 1) → (0 ≤ f4_stale.toInt ∧ f4_stale.toInt ≤ 1) → (0 ≤ x1.toInt ∧ x1.toInt ≤ 3) → (0 ≤ x3.toInt ∧ x3.toInt ≤ 3) → ((0 ≤ x1.toInt ∧ x1.toInt < 4) ∧ (0 ≤ x3.toInt ∧ x3.toInt < 4)) → ((ai0 59 x1.toInt.toNat).toInt = -1 ∨ (ai0 59 x3.toInt.toNat).toInt = -1) → IAX ai → FR [63] ai0 ai → FL [54, 55, 56, 57] al0 al → RWX ad w0 → RWX ad w1 → RWX ad w2 → RWX ad w3 → va_P (dC, dI) vwCl (WX cI cJ cII cJJ ad f3_unknowns f3_equations f2_roundSupports f2_stale f7_size f1_size f5_keptSize f5_aheadSize f0_solved f4_blockCount f4_blockLength f4_lastIsFree f4_stale ai al w0 w1 w2 w3) H → va_D A (WX cI cJ cII cJJ ad f3_unknowns f3_equations f2_roundSupports f2_stale f7_size f1_size f5_keptSize f5_aheadSize f0_solved f4_blockCount f4_blockLength f4_lastIsFree f4_stale ai al w0 w1 w2 w3) → va_S A s.heap H locs → lv_has ls 5 [(0, .ref (ad 0)), (1, .int x1), (2, .int x2), (3, .int x3), (4, .int x4)] → W p l e ({ frames := 3, cells := 0, slots := 0, locals := 140 } : Room) s m args below meth c H locs 0 0 (MQ below (Q_m132_X8_copy dC dI cI cJ cII cJJ ad f3_unknowns f3_equations f2_roundSupports f2_stale f7_size f1_size f5_keptSize f5_aheadSize f0_solved f4_blockCount f4_blockLength f4_lastIsFree f4_stale ai0 al0 w0 w1 w2 w3 x1 x2 x3 x4 A) args s 0 0 A) (F0 m 50 ls []) := by
  obtain ⟨hx, hb, hr, hml, hown, hts, hk, hA, hK, hX⟩ := id C
  intro ai al H locs ls h0 h1 h2 h3 h4 h5 h6 h7 h8 h9 h10 h11 h12 h13 h14 hI hF hG hw_w0 hw_w1 hw_w2 hw_w3 hP hD hS hl
  refine lv_aload_n hx hb dX8_copy_50 rfl (lv_at hl 0 rfl) ?_
  refine lv_bipush (v := (-7)) hx hb dX8_copy_51 (by decide) ?_
  have kcm7 : ((-7) : Int32).toInt = (-7) := by decide +kernel
  have hM := m003_X8_refuse l dC dI cI cJ cII cJJ H.size 0 ad f3_unknowns f3_equations f2_roundSupports f2_stale f7_size f1_size f5_keptSize f5_aheadSize f0_solved f4_blockCount f4_blockLength f4_lastIsFree f4_stale ai al w0 w1 w2 w3 (-7) (by omega) (by omega) (by omega) (by omega) (by omega) (by omega) (by omega) (by omega) (by omega) (by omega) (by omega) hI hw_w0 hw_w1 hw_w2 hw_w3
  refine k2V_i (q0 := 0) ⟨hx, hb, hml, hown, hts⟩ hK hP hD hS hA hX cv_RX8_53 hM ⟨by decide +kernel, by decide +kernel⟩ rfl rfl (Or.inl rfl) (rest := []) rfl rfl rfl hl.1 rfl (Nat.le_of_ble_eq_true rfl) dX8_copy_53 ⟨Nat.le_of_ble_eq_true rfl, Nat.le_of_ble_eq_true rfl⟩ (fun r1 t H1 locs_1 ht hB hS_1 hFc => ?_)
  obtain ⟨ai2, ⟨gpr1_0, hI_2, hFr_r1⟩, hP_2, -, hD_2⟩ := hB
  have hF_3 := FR_tr hF hFr_r1 (by decide)
  rw [ht] at hP_2
  have hD_4 := hD_2.weaken (B := A) (fun k q _ h9 => hFc q.1 h9)
  clear ht
  generalize H1 = H_5 at hP_2 hS_1 ⊢
  exact r2_i hx hb hr hk hS_1 dX8_copy_56 (fun t ht hW => ⟨ai2, al, ⟨(Or.inr (Or.inl ⟨(by omega), (by omega), (by omega)⟩)), hI_2, hF_3, hG⟩, by rw [ht]; exact hP_2, va_K.moved hW.alike hK, hD_4⟩)
set_option maxRecDepth 100000 in
set_option maxHeartbeats 4000000 in
theorem m132_X8_copy_b22 {p : Program} {l : Launch} {e : Env} {s : State} {m : MethodId} {args : Array Value} {below : List Frame} {meth : Method} {c : Code} {A : Nat → Prop} {dC : Nat → ClassId} {dI : Nat → Nat → Nat} {cI cJ cII cJJ : ClassId} {ad : Nat → Nat} {g : Nat} {f3_unknowns f3_equations f2_roundSupports f2_stale f7_size f1_size f5_keptSize f5_aheadSize f0_solved f4_blockCount f4_blockLength f4_lastIsFree f4_stale : Int32} {ai0 : Nat → Nat → Int32} {al0 : Nat → Nat → Int64} {w0 w1 w2 w3 : Nat} {x1 : Int32} {x2 : Int32} {x3 : Int32} {x4 : Int32} (C : Cx p c s m meth args A dC dI (TY cI cJ cII cJJ) cX8_copy (some .int) 5 RX8 0 g) : ∀ (ai : Nat → Nat → Int32) (al : Nat → Nat → Int64) (H : Heap) (locs : List Loc) (ls : Array Slot), (1 ≤ f3_unknowns.toInt ∧ f3_unknowns.toInt ≤ 4) → (0 ≤ f3_equations.toInt ∧ f3_equations.toInt ≤ 3) → (0 ≤ f2_stale.toInt ∧ f2_stale.toInt ≤ 1) → (0 ≤ f7_size.toInt ∧ f7_size.toInt ≤ 256) → (0 ≤ f1_size.toInt ∧ f1_size.toInt ≤ 4) → (0 ≤ f5_keptSize.toInt ∧ f5_keptSize.toInt ≤ 128) → (0 ≤ f5_aheadSize.toInt ∧ f5_aheadSize.toInt ≤ 128) → (0 ≤ f4_blockCount.toInt ∧ f4_blockCount.toInt ≤ 9261) → (0 ≤ f4_blockLength.toInt ∧ f4_blockLength.toInt ≤ 21) → (0 ≤ f4_lastIsFree.toInt ∧ f4_lastIsFree.toInt ≤ 1) → (0 ≤ f4_stale.toInt ∧ f4_stale.toInt ≤ 1) → ¬ ((0 ≤ x1.toInt ∧ x1.toInt < 4) ∧ (0 ≤ x3.toInt ∧ x3.toInt < 4)) → IAX ai → FR [63] ai0 ai → FL [54, 55, 56, 57] al0 al → RWX ad w0 → RWX ad w1 → RWX ad w2 → RWX ad w3 → va_P (dC, dI) vwCl (WX cI cJ cII cJJ ad f3_unknowns f3_equations f2_roundSupports f2_stale f7_size f1_size f5_keptSize f5_aheadSize f0_solved f4_blockCount f4_blockLength f4_lastIsFree f4_stale ai al w0 w1 w2 w3) H → va_D A (WX cI cJ cII cJJ ad f3_unknowns f3_equations f2_roundSupports f2_stale f7_size f1_size f5_keptSize f5_aheadSize f0_solved f4_blockCount f4_blockLength f4_lastIsFree f4_stale ai al w0 w1 w2 w3) → va_S A s.heap H locs → lv_has ls 5 [(0, .ref (ad 0)), (1, .int x1), (2, .int x2), (3, .int x3), (4, .int x4)] → W p l e ({ frames := 3, cells := 0, slots := 0, locals := 140 } : Room) s m args below meth c H locs 0 0 (MQ below (Q_m132_X8_copy dC dI cI cJ cII cJJ ad f3_unknowns f3_equations f2_roundSupports f2_stale f7_size f1_size f5_keptSize f5_aheadSize f0_solved f4_blockCount f4_blockLength f4_lastIsFree f4_stale ai0 al0 w0 w1 w2 w3 x1 x2 x3 x4 A) args s 0 0 A) (F0 m 22 ls []) := by
  obtain ⟨hx, hb, hr, hml, hown, hts, hk, hA, hK, hX⟩ := id C
  intro ai al H locs ls h0 h1 h2 h3 h4 h5 h6 h7 h8 h9 h10 h11 hI hF hG hw_w0 hw_w1 hw_w2 hw_w3 hP hD hS hl
  refine lv_aload_n hx hb dX8_copy_22 rfl (lv_at hl 0 rfl) ?_
  refine lv_iconst (v := (-1)) hx hb dX8_copy_23 (by decide) ?_
  have kcm1 : ((-1) : Int32).toInt = (-1) := by decide +kernel
  have hM := m003_X8_refuse l dC dI cI cJ cII cJJ H.size 0 ad f3_unknowns f3_equations f2_roundSupports f2_stale f7_size f1_size f5_keptSize f5_aheadSize f0_solved f4_blockCount f4_blockLength f4_lastIsFree f4_stale ai al w0 w1 w2 w3 (-1) (by omega) (by omega) (by omega) (by omega) (by omega) (by omega) (by omega) (by omega) (by omega) (by omega) (by omega) hI hw_w0 hw_w1 hw_w2 hw_w3
  refine k2V_i (q0 := 0) ⟨hx, hb, hml, hown, hts⟩ hK hP hD hS hA hX cv_RX8_53 hM ⟨by decide +kernel, by decide +kernel⟩ rfl rfl (Or.inl rfl) (rest := []) rfl rfl rfl hl.1 rfl (Nat.le_of_ble_eq_true rfl) dX8_copy_24 ⟨Nat.le_of_ble_eq_true rfl, Nat.le_of_ble_eq_true rfl⟩ (fun r1 t H1 locs_1 ht hB hS_1 hFc => ?_)
  obtain ⟨ai2, ⟨gpr1_0, hI_2, hFr_r1⟩, hP_2, -, hD_2⟩ := hB
  have hF_3 := FR_tr hF hFr_r1 (by decide)
  rw [ht] at hP_2
  have hD_4 := hD_2.weaken (B := A) (fun k q _ h9 => hFc q.1 h9)
  clear ht
  generalize H1 = H_5 at hP_2 hS_1 ⊢
  exact r2_i hx hb hr hk hS_1 dX8_copy_27 (fun t ht hW => ⟨ai2, al, ⟨(Or.inl ⟨(by omega), (by omega)⟩), hI_2, hF_3, hG⟩, by rw [ht]; exact hP_2, va_K.moved hW.alike hK, hD_4⟩)
set_option maxRecDepth 100000 in
set_option maxHeartbeats 4000000 in
theorem m132_X8_copy (l : Launch) (dC : Nat → ClassId) (dI : Nat → Nat → Nat) (cI cJ cII cJJ : ClassId) (sz g : Nat) (ad : Nat → Nat) (f3_unknowns f3_equations f2_roundSupports f2_stale f7_size f1_size f5_keptSize f5_aheadSize f0_solved f4_blockCount f4_blockLength f4_lastIsFree f4_stale : Int32) (ai : Nat → Nat → Int32) (al : Nat → Nat → Int64) (w0 w1 w2 w3 : Nat) (x1 : Int32) (x2 : Int32) (x3 : Int32) (x4 : Int32) (h_f3_unknowns : (1 ≤ f3_unknowns.toInt ∧ f3_unknowns.toInt ≤ 4)) (h_f3_equations : (0 ≤ f3_equations.toInt ∧ f3_equations.toInt ≤ 3)) (h_f2_stale : (0 ≤ f2_stale.toInt ∧ f2_stale.toInt ≤ 1)) (h_f7_size : (0 ≤ f7_size.toInt ∧ f7_size.toInt ≤ 256)) (h_f1_size : (0 ≤ f1_size.toInt ∧ f1_size.toInt ≤ 4)) (h_f5_keptSize : (0 ≤ f5_keptSize.toInt ∧ f5_keptSize.toInt ≤ 128)) (h_f5_aheadSize : (0 ≤ f5_aheadSize.toInt ∧ f5_aheadSize.toInt ≤ 128)) (h_f4_blockCount : (0 ≤ f4_blockCount.toInt ∧ f4_blockCount.toInt ≤ 9261)) (h_f4_blockLength : (0 ≤ f4_blockLength.toInt ∧ f4_blockLength.toInt ≤ 21)) (h_f4_lastIsFree : (0 ≤ f4_lastIsFree.toInt ∧ f4_lastIsFree.toInt ≤ 1)) (h_f4_stale : (0 ≤ f4_stale.toInt ∧ f4_stale.toInt ≤ 1)) (hI : IAX ai) (hw_w0 : RWX ad w0) (hw_w1 : RWX ad w1) (hw_w2 : RWX ad w2) (hw_w3 : RWX ad w3) : Met l yX8_copy (.code yX8_copy cX8_copy 5 (some .int) :: TT) ({ frames := 3, cells := 0, slots := 0, locals := 140 } : Room) (PcS dC dI (TY cI cJ cII cJJ) [.ref (ad 0), .int x1, .int x2, .int x3, .int x4] (WX cI cJ cII cJJ ad f3_unknowns f3_equations f2_roundSupports f2_stale f7_size f1_size f5_keptSize f5_aheadSize f0_solved f4_blockCount f4_blockLength f4_lastIsFree f4_stale ai al w0 w1 w2 w3) sz 0 g) (Q_m132_X8_copy dC dI cI cJ cII cJJ ad f3_unknowns f3_equations f2_roundSupports f2_stale f7_size f1_size f5_keptSize f5_aheadSize f0_solved f4_blockCount f4_blockLength f4_lastIsFree f4_stale ai al w0 w1 w2 w3 x1 x2 x3 x4 (va_A (WX cI cJ cII cJJ ad f3_unknowns f3_equations f2_roundSupports f2_stale f7_size f1_size f5_keptSize f5_aheadSize f0_solved f4_blockCount f4_blockLength f4_lastIsFree f4_stale ai al w0 w1 w2 w3) sz)) 0 0 (va_A (WX cI cJ cII cJJ ad f3_unknowns f3_equations f2_roundSupports f2_stale f7_size f1_size f5_keptSize f5_aheadSize f0_solved f4_blockCount f4_blockLength f4_lastIsFree f4_stale ai al w0 w1 w2 w3) sz) := by
  refine SM.of (y := yX8_copy) (maxL := 5) (av := [.ref (ad 0), .int x1, .int x2, .int x3, .int x4]) (Q_m132_X8_copy dC dI cI cJ cII cJJ ad f3_unknowns f3_equations f2_roundSupports f2_stale f7_size f1_size f5_keptSize f5_aheadSize f0_solved f4_blockCount f4_blockLength f4_lastIsFree f4_stale ai al w0 w1 w2 w3 x1 x2 x3 x4) (by decide +kernel) (Nat.le_of_ble_eq_true rfl) (fun p e s m below meth c A ls hx hb hr hml hown hts hk hnm hA hK hP hD hS hX hl => ?_)
  have C : Cx p c s m meth (([.ref (ad 0), .int x1, .int x2, .int x3, .int x4] : List Value).toArray) A dC dI (TY cI cJ cII cJJ) cX8_copy (some .int) 5 RX8 0 g := ⟨hx, hb, hr, hml, hown, hts, hk, hA, hK, hX⟩
  have hown : s.vm.findClass RX8 = some m.cls := hown
  have hl : lv_has ls 5 [(0, .ref (ad 0)), (1, .int x1), (2, .int x2), (3, .int x3), (4, .int x4)] := hl
  obtain ⟨H, hH⟩ : ∃ q, q = s.heap := ⟨_, rfl⟩
  rw [← hH] at hP
  have hS : va_S A s.heap H [] := by rw [hH]; exact hS
  rw [← hH]
  have hF := FR_refl [63] ai
  have hG := FL_refl [54, 55, 56, 57] al
  have ra_x1 := s_any x1
  have ra_x2 := s_any x2
  have ra_x3 := s_any x3
  have ra_x4 := s_any x4
  refine lv_aload_n hx hb dX8_copy_0 rfl (lv_at hl 0 rfl) ?_
  refine gf (k := 3) hx hb hts inX8 hown hK hP k_267 rfl (by decide) rfl 0 rfl (.ref (ad 52)) rfl dX8_copy_1 ?_
  refine lv_iload_n hx hb dX8_copy_4 rfl (lv_at hl 1 rfl) ?_
  have hM := m024_X6_isTray l dC dI cI cJ cII cJJ H.size 0 ad f3_unknowns f3_equations f2_roundSupports f2_stale f7_size f1_size f5_keptSize f5_aheadSize f0_solved f4_blockCount f4_blockLength f4_lastIsFree f4_stale ai al w0 w1 w2 w3 x1 (by omega) (by omega) (by omega) (by omega) (by omega) (by omega) (by omega) (by omega) (by omega) (by omega) (by omega) hI hw_w0 hw_w1 hw_w2 hw_w3
  refine k2V_i (q0 := 52) ⟨hx, hb, hml, hown, hts⟩ hK hP hD hS hA hX cv_RX8_112 hM ⟨by decide +kernel, by decide +kernel⟩ rfl rfl (Or.inl rfl) (rest := []) rfl rfl rfl hl.1 rfl (Nat.le_of_ble_eq_true rfl) dX8_copy_5 ⟨Nat.le_of_ble_eq_true rfl, Nat.le_of_ble_eq_true rfl⟩ (fun r1 t H1 locs_1 ht hB hS_1 hFc => ?_)
  obtain ⟨⟨gpr1_0, gpr1_1⟩, hP_2, -, hD_2⟩ := hB
  rw [ht] at hP_2
  have hD_3 := hD_2.weaken (B := A) (fun k q _ h9 => hFc q.1 h9)
  clear ht
  generalize H1 = H_4 at hP_2 hS_1 ⊢
  refine lv_if_eq (tgt := 22) hx hb dX8_copy_8 (by decide) (fun c2 => ?_) (fun c2 => ?_)
  · have c2 := j_eq (a := r1.toInt) (b := 0) rfl (by decide +kernel) c2
    exact m132_X8_copy_b22 C  ai al _ _ _ (by omega) (by omega) (by omega) (by omega) (by omega) (by omega) (by omega) (by omega) (by omega) (by omega) (by omega) (by omega) hI hF hG hw_w0 hw_w1 hw_w2 hw_w3 hP_2 hD_3 hS_1 (lv_sub hl [0, 1, 2, 3, 4] rfl)
  · have c2 := j_ne (a := r1.toInt) (b := 0) rfl (by decide +kernel) c2
    refine lv_aload_n hx hb dX8_copy_11 rfl (lv_at hl 0 rfl) ?_
    refine gf (k := 3) hx hb hts inX8 hown hK hP_2 k_267 rfl (by decide) rfl 0 rfl (.ref (ad 52)) rfl dX8_copy_12 ?_
    refine lv_iload_n hx hb dX8_copy_15 rfl (lv_at hl 3 rfl) ?_
    have hM := m024_X6_isTray l dC dI cI cJ cII cJJ H_4.size 0 ad f3_unknowns f3_equations f2_roundSupports f2_stale f7_size f1_size f5_keptSize f5_aheadSize f0_solved f4_blockCount f4_blockLength f4_lastIsFree f4_stale ai al w0 w1 w2 w3 x3 (by omega) (by omega) (by omega) (by omega) (by omega) (by omega) (by omega) (by omega) (by omega) (by omega) (by omega) hI hw_w0 hw_w1 hw_w2 hw_w3
    refine k2V_i (q0 := 52) ⟨hx, hb, hml, hown, hts⟩ hK hP_2 hD_3 hS_1 hA hX cv_RX8_112 hM ⟨by decide +kernel, by decide +kernel⟩ rfl rfl (Or.inl rfl) (rest := []) rfl rfl rfl hl.1 rfl (Nat.le_of_ble_eq_true rfl) dX8_copy_16 ⟨Nat.le_of_ble_eq_true rfl, Nat.le_of_ble_eq_true rfl⟩ (fun r3 t H1 locs_5 ht hB hS_5 hFc => ?_)
    obtain ⟨⟨gpr3_0, gpr3_1⟩, hP_6, -, hD_6⟩ := hB
    rw [ht] at hP_6
    have hD_7 := hD_6.weaken (B := A) (fun k q _ h9 => hFc q.1 h9)
    clear ht
    generalize H1 = H_8 at hP_6 hS_5 ⊢
    refine lv_if_ne (tgt := 28) hx hb dX8_copy_19 (by decide) (fun c4 => ?_) (fun c4 => ?_)
    · have c4 := j_ne (a := r3.toInt) (b := 0) rfl (by decide +kernel) c4
      refine lv_aload_n hx hb dX8_copy_28 rfl (lv_at hl 0 rfl) ?_
      refine gf (k := 3) hx hb hts inX8 hown hK hP_6 k_267 rfl (by decide) rfl 0 rfl (.ref (ad 52)) rfl dX8_copy_29 ?_
      refine lv_iload_n hx hb dX8_copy_32 rfl (lv_at hl 1 rfl) ?_
      have hM := m025_X6_isMissing l dC dI cI cJ cII cJJ H_8.size 0 ad f3_unknowns f3_equations f2_roundSupports f2_stale f7_size f1_size f5_keptSize f5_aheadSize f0_solved f4_blockCount f4_blockLength f4_lastIsFree f4_stale ai al w0 w1 w2 w3 x1 (by omega) (by omega) (by omega) (by omega) (by omega) (by omega) (by omega) (by omega) (by omega) (by omega) (by omega) (by omega) hI hw_w0 hw_w1 hw_w2 hw_w3
      refine k2V_i (q0 := 52) ⟨hx, hb, hml, hown, hts⟩ hK hP_6 hD_7 hS_5 hA hX cv_RX8_118 hM ⟨by decide +kernel, by decide +kernel⟩ rfl rfl (Or.inl rfl) (rest := []) rfl rfl rfl hl.1 rfl (Nat.le_of_ble_eq_true rfl) dX8_copy_33 ⟨Nat.le_of_ble_eq_true rfl, Nat.le_of_ble_eq_true rfl⟩ (fun r5 t H1 locs_9 ht hB hS_9 hFc => ?_)
      obtain ⟨⟨gpr5_0, gpr5_1⟩, hP_10, -, hD_10⟩ := hB
      rw [ht] at hP_10
      have hD_11 := hD_10.weaken (B := A) (fun k q _ h9 => hFc q.1 h9)
      clear ht
      generalize H1 = H_12 at hP_10 hS_9 ⊢
      refine lv_if_ne (tgt := 50) hx hb dX8_copy_36 (by decide) (fun c6 => ?_) (fun c6 => ?_)
      · have c6 := j_ne (a := r5.toInt) (b := 0) rfl (by decide +kernel) c6
        exact m132_X8_copy_b50 C  ai al _ _ _ (by omega) (by omega) (by omega) (by omega) (by omega) (by omega) (by omega) (by omega) (by omega) (by omega) (by omega) (by omega) (by omega) (by omega) (by omega) hI hF hG hw_w0 hw_w1 hw_w2 hw_w3 hP_10 hD_11 hS_9 (lv_sub hl [0, 1, 2, 3, 4] rfl)
      · have c6 := j_eq (a := r5.toInt) (b := 0) rfl (by decide +kernel) c6
        refine lv_aload_n hx hb dX8_copy_39 rfl (lv_at hl 0 rfl) ?_
        refine gf (k := 3) hx hb hts inX8 hown hK hP_10 k_267 rfl (by decide) rfl 0 rfl (.ref (ad 52)) rfl dX8_copy_40 ?_
        refine lv_iload_n hx hb dX8_copy_43 rfl (lv_at hl 3 rfl) ?_
        have hM := m025_X6_isMissing l dC dI cI cJ cII cJJ H_12.size 0 ad f3_unknowns f3_equations f2_roundSupports f2_stale f7_size f1_size f5_keptSize f5_aheadSize f0_solved f4_blockCount f4_blockLength f4_lastIsFree f4_stale ai al w0 w1 w2 w3 x3 (by omega) (by omega) (by omega) (by omega) (by omega) (by omega) (by omega) (by omega) (by omega) (by omega) (by omega) (by omega) hI hw_w0 hw_w1 hw_w2 hw_w3
        refine k2V_i (q0 := 52) ⟨hx, hb, hml, hown, hts⟩ hK hP_10 hD_11 hS_9 hA hX cv_RX8_118 hM ⟨by decide +kernel, by decide +kernel⟩ rfl rfl (Or.inl rfl) (rest := []) rfl rfl rfl hl.1 rfl (Nat.le_of_ble_eq_true rfl) dX8_copy_44 ⟨Nat.le_of_ble_eq_true rfl, Nat.le_of_ble_eq_true rfl⟩ (fun r7 t H1 locs_13 ht hB hS_13 hFc => ?_)
        obtain ⟨⟨gpr7_0, gpr7_1⟩, hP_14, -, hD_14⟩ := hB
        rw [ht] at hP_14
        have hD_15 := hD_14.weaken (B := A) (fun k q _ h9 => hFc q.1 h9)
        clear ht
        generalize H1 = H_16 at hP_14 hS_13 ⊢
        refine lv_if_eq (tgt := 57) hx hb dX8_copy_47 (by decide) (fun c8 => ?_) (fun c8 => ?_)
        · have c8 := j_eq (a := r7.toInt) (b := 0) rfl (by decide +kernel) c8
          refine lv_aload_n hx hb dX8_copy_57 rfl (lv_at hl 0 rfl) ?_
          refine gf (k := 3) hx hb hts inX8 hown hK hP_14 k_267 rfl (by decide) rfl 0 rfl (.ref (ad 52)) rfl dX8_copy_58 ?_
          refine gf (k := 1) hx hb hts inX6 hown hK hP_14 k_254 rfl (by decide) rfl 52 rfl (.ref (ad 58)) rfl dX8_copy_61 ?_
          refine lv_iload_n hx hb dX8_copy_64 rfl (lv_at hl 1 rfl) ?_
          refine va_iald hx hb hK hP_14 58 0 rfl rfl (j_in (a := x1.toInt) rfl (by omega) (by omega)) dX8_copy_65 ?_
          refine lv_topi (fun z9 e_z9 => ?_)
          have k_z9 : z9.toInt = (ai 58 x1.toInt.toNat).toInt := by rw [e_z9]; rfl
          refine lv_aload_n hx hb dX8_copy_66 rfl (lv_at hl 0 rfl) ?_
          refine gf (k := 3) hx hb hts inX8 hown hK hP_14 k_267 rfl (by decide) rfl 0 rfl (.ref (ad 52)) rfl dX8_copy_67 ?_
          refine gf (k := 1) hx hb hts inX6 hown hK hP_14 k_254 rfl (by decide) rfl 52 rfl (.ref (ad 58)) rfl dX8_copy_70 ?_
          refine lv_iload_n hx hb dX8_copy_73 rfl (lv_at hl 3 rfl) ?_
          refine va_iald hx hb hK hP_14 58 0 rfl rfl (j_in (a := x3.toInt) rfl (by omega) (by omega)) dX8_copy_74 ?_
          refine lv_topi (fun z10 e_z10 => ?_)
          have k_z10 : z10.toInt = (ai 58 x3.toInt.toNat).toInt := by rw [e_z10]; rfl
          refine lv_icmp_eq (tgt := 85) hx hb dX8_copy_75 (by decide) (fun c11 => ?_) (fun c11 => ?_)
          · have c11 := j_eq (a := z9.toInt) (b := z10.toInt) rfl rfl c11
            refine lv_iload hx hb dX8_copy_85 (lv_at hl 4 rfl) ?_
            refine lv_if_ge (tgt := 97) hx hb dX8_copy_87 (by decide) (fun c12 => ?_) (fun c12 => ?_)
            · have c12 := j_le (a := 0) (b := x4.toInt) (by decide +kernel) rfl c12
              refine lv_iload hx hb dX8_copy_97 (lv_at hl 4 rfl) ?_
              refine lv_aload_n hx hb dX8_copy_99 rfl (lv_at hl 0 rfl) ?_
              refine gf (k := 3) hx hb hts inX8 hown hK hP_14 k_267 rfl (by decide) rfl 0 rfl (.ref (ad 52)) rfl dX8_copy_100 ?_
              refine gf (k := 2) hx hb hts inX6 hown hK hP_14 k_256 rfl (by decide) rfl 52 rfl (.ref (ad 59)) rfl dX8_copy_103 ?_
              refine lv_iload_n hx hb dX8_copy_106 rfl (lv_at hl 3 rfl) ?_
              refine va_iald hx hb hK hP_14 59 0 rfl rfl (j_in (a := x3.toInt) rfl (by omega) (by omega)) dX8_copy_107 ?_
              refine lv_topi (fun z13 e_z13 => ?_)
              have g_z13 : -1 ≤ z13.toInt ∧ z13.toInt ≤ 20 := by rw [e_z13]; exact IAX_at59 hI _
              have k_z13 : z13.toInt = (ai 59 x3.toInt.toNat).toInt := by rw [e_z13]; rfl
              refine lv_icmp_gt (tgt := 131) hx hb dX8_copy_108 (by decide) (fun c14 => ?_) (fun c14 => ?_)
              · have c14 := j_lt (a := z13.toInt) (b := x4.toInt) rfl rfl c14
                exact m132_X8_copy_b131 C  ai al _ _ _ (by omega) (by omega) (by omega) (by omega) (by omega) (by omega) (by omega) (by omega) (by omega) (by omega) (by omega) (by omega) (by omega) (by omega) (by omega) (by omega) (by omega) (by omega) (by omega) hI hF hG hw_w0 hw_w1 hw_w2 hw_w3 hP_14 hD_15 hS_13 (lv_sub hl [0, 1, 2, 3, 4] rfl)
              · have c14 := j_nlt (a := z13.toInt) (b := x4.toInt) rfl rfl c14
                refine lv_iload_n hx hb dX8_copy_111 rfl (lv_at hl 2 rfl) ?_
                refine lv_if_lt (tgt := 131) hx hb dX8_copy_112 (by decide) (fun c15 => ?_) (fun c15 => ?_)
                · have c15 := j_lt (a := x2.toInt) (b := 0) rfl (by decide +kernel) c15
                  exact m132_X8_copy_b131 C  ai al _ _ _ (by omega) (by omega) (by omega) (by omega) (by omega) (by omega) (by omega) (by omega) (by omega) (by omega) (by omega) (by omega) (by omega) (by omega) (by omega) (by omega) (by omega) (by omega) (by omega) hI hF hG hw_w0 hw_w1 hw_w2 hw_w3 hP_14 hD_15 hS_13 (lv_sub hl [0, 1, 2, 3, 4] rfl)
                · have c15 := j_nlt (a := x2.toInt) (b := 0) rfl (by decide +kernel) c15
                  refine lv_iload_n hx hb dX8_copy_115 rfl (lv_at hl 2 rfl) ?_
                  refine lv_aload_n hx hb dX8_copy_116 rfl (lv_at hl 0 rfl) ?_
                  refine gf (k := 3) hx hb hts inX8 hown hK hP_14 k_267 rfl (by decide) rfl 0 rfl (.ref (ad 52)) rfl dX8_copy_117 ?_
                  refine gf (k := 2) hx hb hts inX6 hown hK hP_14 k_256 rfl (by decide) rfl 52 rfl (.ref (ad 59)) rfl dX8_copy_120 ?_
                  refine lv_iload_n hx hb dX8_copy_123 rfl (lv_at hl 1 rfl) ?_
                  refine va_iald hx hb hK hP_14 59 0 rfl rfl (j_in (a := x1.toInt) rfl (by omega) (by omega)) dX8_copy_124 ?_
                  refine lv_topi (fun z16 e_z16 => ?_)
                  have g_z16 : -1 ≤ z16.toInt ∧ z16.toInt ≤ 20 := by rw [e_z16]; exact IAX_at59 hI _
                  have k_z16 : z16.toInt = (ai 59 x1.toInt.toNat).toInt := by rw [e_z16]; rfl
                  refine lv_iload hx hb dX8_copy_125 (lv_at hl 4 rfl) ?_
                  refine v_isub hx hb dX8_copy_127 _ rfl ?_
                  refine lv_topi (fun z17 e_z17 => ?_)
                  have g_z17 : z17.toInt = z16.toInt - x4.toInt := by rw [e_z17]; exact n_sub (a := z16.toInt) (b := x4.toInt) rfl rfl (by omega) (by omega)
                  refine lv_icmp_le (tgt := 138) hx hb dX8_copy_128 (by decide) (fun c18 => ?_) (fun c18 => ?_)
                  · have c18 := j_le (a := x2.toInt) (b := z17.toInt) rfl rfl c18
                    refine lv_aload_n hx hb dX8_copy_138 rfl (lv_at hl 0 rfl) ?_
                    refine gf (k := 3) hx hb hts inX8 hown hK hP_14 k_267 rfl (by decide) rfl 0 rfl (.ref (ad 52)) rfl dX8_copy_139 ?_
                    refine gf (k := 0) hx hb hts inX6 hown hK hP_14 k_252 rfl (by decide) rfl 52 rfl (.ref (ad 53)) rfl dX8_copy_142 ?_
                    refine lv_iload_n hx hb dX8_copy_145 rfl (lv_at hl 3 rfl) ?_
                    rcases (show x3 = 0 ∨ x3 = 1 ∨ x3 = 2 ∨ x3 = 3 from j_cases4 (a := x3.toInt) rfl (by omega) (by omega)) with rfl | rfl | rfl | rfl
                    · have k9 : (0 : Int32).toInt = 0 := by decide +kernel
                      refine ld_a hx hb hK hP_14 53 3 rfl rfl (vin (by decide +kernel)) dX8_copy_146 (ad 54) rfl ?_
                      refine lv_iconst (v := 0) hx hb dX8_copy_147 (by decide) ?_
                      refine lv_aload_n hx hb dX8_copy_148 rfl (lv_at hl 0 rfl) ?_
                      refine gf (k := 3) hx hb hts inX8 hown hK hP_14 k_267 rfl (by decide) rfl 0 rfl (.ref (ad 52)) rfl dX8_copy_149 ?_
                      refine gf (k := 0) hx hb hts inX6 hown hK hP_14 k_252 rfl (by decide) rfl 52 rfl (.ref (ad 53)) rfl dX8_copy_152 ?_
                      refine lv_iload_n hx hb dX8_copy_155 rfl (lv_at hl 1 rfl) ?_
                      rcases (show x1 = 0 ∨ x1 = 1 ∨ x1 = 2 ∨ x1 = 3 from j_cases4 (a := x1.toInt) rfl (by omega) (by omega)) with rfl | rfl | rfl | rfl
                      · have k9 : (0 : Int32).toInt = 0 := by decide +kernel
                        refine ld_a hx hb hK hP_14 53 3 rfl rfl (vin (by decide +kernel)) dX8_copy_156 (ad 54) rfl ?_
                        refine lv_iload_n hx hb dX8_copy_157 rfl (lv_at hl 2 rfl) ?_
                        refine lv_iload hx hb dX8_copy_158 (lv_at hl 4 rfl) ?_
                        refine va_copyl (ty := .long) hx hb (by rw [hml]; exact hl.1.symm) hown (hts _ k_370) (hts _ k_372) (hts _ k_371) (hts _ k_12) hK hP_14 hD_15 hS_13 54 54 1 1 rfl rfl rfl rfl rfl (q_nlt (a := 0) (b := 0) (by decide +kernel) (by decide +kernel) (by omega)) (q_nlt (a := x2.toInt) (b := 0) rfl (by decide +kernel) (by omega)) (q_nlt (a := x4.toInt) (b := 0) rfl (by decide +kernel) (by omega)) (j_cp (a := 0) (b := x4.toInt) (by decide +kernel) rfl (by omega) (by omega) (by omega)) (j_cp (a := x2.toInt) (b := x4.toInt) rfl rfl (by omega) (by omega) (by omega)) (fun i _ => rfl) (by decide) (Nat.le_of_ble_eq_true rfl) dX8_copy_160 (fun H_17 locs_17 hP_17 hD_17 hS_17 => ?_)
                        obtain ⟨al19, e_al19⟩ : ∃ q : Nat → Nat → Int64, q = va_up al 54 (va_cpy (al 54) (al 54) (0 : Int32).toNatClampNeg x2.toNatClampNeg x4.toNatClampNeg) := ⟨_, rfl⟩
                        have hG_18 := FL_st hG e_al19 (by decide)
                        have hP_19 : va_P (dC, dI) vwCl (WX cI cJ cII cJJ ad f3_unknowns f3_equations f2_roundSupports f2_stale f7_size f1_size f5_keptSize f5_aheadSize f0_solved f4_blockCount f4_blockLength f4_lastIsFree f4_stale ai al19 w0 w1 w2 w3) H_17 := by rw [e_al19]; exact hP_17
                        have hD_20 : va_D A (WX cI cJ cII cJJ ad f3_unknowns f3_equations f2_roundSupports f2_stale f7_size f1_size f5_keptSize f5_aheadSize f0_solved f4_blockCount f4_blockLength f4_lastIsFree f4_stale ai al19 w0 w1 w2 w3) := by rw [e_al19]; exact hD_17
                        refine lv_iconst (v := 1) hx hb dX8_copy_163 (by decide) ?_
                        exact r2_i hx hb hr hk hS_17 dX8_copy_164 (fun t ht hW => ⟨ai, al19, ⟨(Or.inr (Or.inr (Or.inr (Or.inr (Or.inr (⟨(by have kr : (1 : Int32).toInt = 1 := (by decide); omega), (by have kr : (1 : Int32).toInt = 1 := (by decide); omega), (by have kr : (1 : Int32).toInt = 1 := (by decide); omega), (by have kr : (1 : Int32).toInt = 1 := (by decide); omega), (by have kr : (1 : Int32).toInt = 1 := (by decide); omega), (by have kr : (1 : Int32).toInt = 1 := (by decide); omega)⟩)))))), hI, hF, hG_18⟩, by rw [ht]; exact hP_19, va_K.moved hW.alike hK, hD_20⟩)
                      · have k9 : (1 : Int32).toInt = 1 := by decide +kernel
                        refine ld_a hx hb hK hP_14 53 3 rfl rfl (vin (by decide +kernel)) dX8_copy_156 (ad 55) rfl ?_
                        refine lv_iload_n hx hb dX8_copy_157 rfl (lv_at hl 2 rfl) ?_
                        refine lv_iload hx hb dX8_copy_158 (lv_at hl 4 rfl) ?_
                        refine va_copyl (ty := .long) hx hb (by rw [hml]; exact hl.1.symm) hown (hts _ k_370) (hts _ k_372) (hts _ k_371) (hts _ k_12) hK hP_14 hD_15 hS_13 54 55 1 1 rfl rfl rfl rfl rfl (q_nlt (a := 0) (b := 0) (by decide +kernel) (by decide +kernel) (by omega)) (q_nlt (a := x2.toInt) (b := 0) rfl (by decide +kernel) (by omega)) (q_nlt (a := x4.toInt) (b := 0) rfl (by decide +kernel) (by omega)) (j_cp (a := 0) (b := x4.toInt) (by decide +kernel) rfl (by omega) (by omega) (by omega)) (j_cp (a := x2.toInt) (b := x4.toInt) rfl rfl (by omega) (by omega) (by omega)) (fun i _ => rfl) (by decide) (Nat.le_of_ble_eq_true rfl) dX8_copy_160 (fun H_21 locs_21 hP_21 hD_21 hS_21 => ?_)
                        obtain ⟨al20, e_al20⟩ : ∃ q : Nat → Nat → Int64, q = va_up al 55 (va_cpy (al 54) (al 55) (0 : Int32).toNatClampNeg x2.toNatClampNeg x4.toNatClampNeg) := ⟨_, rfl⟩
                        have hG_22 := FL_st hG e_al20 (by decide)
                        have hP_23 : va_P (dC, dI) vwCl (WX cI cJ cII cJJ ad f3_unknowns f3_equations f2_roundSupports f2_stale f7_size f1_size f5_keptSize f5_aheadSize f0_solved f4_blockCount f4_blockLength f4_lastIsFree f4_stale ai al20 w0 w1 w2 w3) H_21 := by rw [e_al20]; exact hP_21
                        have hD_24 : va_D A (WX cI cJ cII cJJ ad f3_unknowns f3_equations f2_roundSupports f2_stale f7_size f1_size f5_keptSize f5_aheadSize f0_solved f4_blockCount f4_blockLength f4_lastIsFree f4_stale ai al20 w0 w1 w2 w3) := by rw [e_al20]; exact hD_21
                        refine lv_iconst (v := 1) hx hb dX8_copy_163 (by decide) ?_
                        exact r2_i hx hb hr hk hS_21 dX8_copy_164 (fun t ht hW => ⟨ai, al20, ⟨(Or.inr (Or.inr (Or.inr (Or.inr (Or.inr (⟨(by have kr : (1 : Int32).toInt = 1 := (by decide); omega), (by have kr : (1 : Int32).toInt = 1 := (by decide); omega), (by have kr : (1 : Int32).toInt = 1 := (by decide); omega), (by have kr : (1 : Int32).toInt = 1 := (by decide); omega), (by have kr : (1 : Int32).toInt = 1 := (by decide); omega), (by have kr : (1 : Int32).toInt = 1 := (by decide); omega)⟩)))))), hI, hF, hG_22⟩, by rw [ht]; exact hP_23, va_K.moved hW.alike hK, hD_24⟩)
                      · have k9 : (2 : Int32).toInt = 2 := by decide +kernel
                        refine ld_a hx hb hK hP_14 53 3 rfl rfl (vin (by decide +kernel)) dX8_copy_156 (ad 56) rfl ?_
                        refine lv_iload_n hx hb dX8_copy_157 rfl (lv_at hl 2 rfl) ?_
                        refine lv_iload hx hb dX8_copy_158 (lv_at hl 4 rfl) ?_
                        refine va_copyl (ty := .long) hx hb (by rw [hml]; exact hl.1.symm) hown (hts _ k_370) (hts _ k_372) (hts _ k_371) (hts _ k_12) hK hP_14 hD_15 hS_13 54 56 1 1 rfl rfl rfl rfl rfl (q_nlt (a := 0) (b := 0) (by decide +kernel) (by decide +kernel) (by omega)) (q_nlt (a := x2.toInt) (b := 0) rfl (by decide +kernel) (by omega)) (q_nlt (a := x4.toInt) (b := 0) rfl (by decide +kernel) (by omega)) (j_cp (a := 0) (b := x4.toInt) (by decide +kernel) rfl (by omega) (by omega) (by omega)) (j_cp (a := x2.toInt) (b := x4.toInt) rfl rfl (by omega) (by omega) (by omega)) (fun i _ => rfl) (by decide) (Nat.le_of_ble_eq_true rfl) dX8_copy_160 (fun H_25 locs_25 hP_25 hD_25 hS_25 => ?_)
                        obtain ⟨al21, e_al21⟩ : ∃ q : Nat → Nat → Int64, q = va_up al 56 (va_cpy (al 54) (al 56) (0 : Int32).toNatClampNeg x2.toNatClampNeg x4.toNatClampNeg) := ⟨_, rfl⟩
                        have hG_26 := FL_st hG e_al21 (by decide)
                        have hP_27 : va_P (dC, dI) vwCl (WX cI cJ cII cJJ ad f3_unknowns f3_equations f2_roundSupports f2_stale f7_size f1_size f5_keptSize f5_aheadSize f0_solved f4_blockCount f4_blockLength f4_lastIsFree f4_stale ai al21 w0 w1 w2 w3) H_25 := by rw [e_al21]; exact hP_25
                        have hD_28 : va_D A (WX cI cJ cII cJJ ad f3_unknowns f3_equations f2_roundSupports f2_stale f7_size f1_size f5_keptSize f5_aheadSize f0_solved f4_blockCount f4_blockLength f4_lastIsFree f4_stale ai al21 w0 w1 w2 w3) := by rw [e_al21]; exact hD_25
                        refine lv_iconst (v := 1) hx hb dX8_copy_163 (by decide) ?_
                        exact r2_i hx hb hr hk hS_25 dX8_copy_164 (fun t ht hW => ⟨ai, al21, ⟨(Or.inr (Or.inr (Or.inr (Or.inr (Or.inr (⟨(by have kr : (1 : Int32).toInt = 1 := (by decide); omega), (by have kr : (1 : Int32).toInt = 1 := (by decide); omega), (by have kr : (1 : Int32).toInt = 1 := (by decide); omega), (by have kr : (1 : Int32).toInt = 1 := (by decide); omega), (by have kr : (1 : Int32).toInt = 1 := (by decide); omega), (by have kr : (1 : Int32).toInt = 1 := (by decide); omega)⟩)))))), hI, hF, hG_26⟩, by rw [ht]; exact hP_27, va_K.moved hW.alike hK, hD_28⟩)
                      · have k9 : (3 : Int32).toInt = 3 := by decide +kernel
                        refine ld_a hx hb hK hP_14 53 3 rfl rfl (vin (by decide +kernel)) dX8_copy_156 (ad 57) rfl ?_
                        refine lv_iload_n hx hb dX8_copy_157 rfl (lv_at hl 2 rfl) ?_
                        refine lv_iload hx hb dX8_copy_158 (lv_at hl 4 rfl) ?_
                        refine va_copyl (ty := .long) hx hb (by rw [hml]; exact hl.1.symm) hown (hts _ k_370) (hts _ k_372) (hts _ k_371) (hts _ k_12) hK hP_14 hD_15 hS_13 54 57 1 1 rfl rfl rfl rfl rfl (q_nlt (a := 0) (b := 0) (by decide +kernel) (by decide +kernel) (by omega)) (q_nlt (a := x2.toInt) (b := 0) rfl (by decide +kernel) (by omega)) (q_nlt (a := x4.toInt) (b := 0) rfl (by decide +kernel) (by omega)) (j_cp (a := 0) (b := x4.toInt) (by decide +kernel) rfl (by omega) (by omega) (by omega)) (j_cp (a := x2.toInt) (b := x4.toInt) rfl rfl (by omega) (by omega) (by omega)) (fun i _ => rfl) (by decide) (Nat.le_of_ble_eq_true rfl) dX8_copy_160 (fun H_29 locs_29 hP_29 hD_29 hS_29 => ?_)
                        obtain ⟨al22, e_al22⟩ : ∃ q : Nat → Nat → Int64, q = va_up al 57 (va_cpy (al 54) (al 57) (0 : Int32).toNatClampNeg x2.toNatClampNeg x4.toNatClampNeg) := ⟨_, rfl⟩
                        have hG_30 := FL_st hG e_al22 (by decide)
                        have hP_31 : va_P (dC, dI) vwCl (WX cI cJ cII cJJ ad f3_unknowns f3_equations f2_roundSupports f2_stale f7_size f1_size f5_keptSize f5_aheadSize f0_solved f4_blockCount f4_blockLength f4_lastIsFree f4_stale ai al22 w0 w1 w2 w3) H_29 := by rw [e_al22]; exact hP_29
                        have hD_32 : va_D A (WX cI cJ cII cJJ ad f3_unknowns f3_equations f2_roundSupports f2_stale f7_size f1_size f5_keptSize f5_aheadSize f0_solved f4_blockCount f4_blockLength f4_lastIsFree f4_stale ai al22 w0 w1 w2 w3) := by rw [e_al22]; exact hD_29
                        refine lv_iconst (v := 1) hx hb dX8_copy_163 (by decide) ?_
                        exact r2_i hx hb hr hk hS_29 dX8_copy_164 (fun t ht hW => ⟨ai, al22, ⟨(Or.inr (Or.inr (Or.inr (Or.inr (Or.inr (⟨(by have kr : (1 : Int32).toInt = 1 := (by decide); omega), (by have kr : (1 : Int32).toInt = 1 := (by decide); omega), (by have kr : (1 : Int32).toInt = 1 := (by decide); omega), (by have kr : (1 : Int32).toInt = 1 := (by decide); omega), (by have kr : (1 : Int32).toInt = 1 := (by decide); omega), (by have kr : (1 : Int32).toInt = 1 := (by decide); omega)⟩)))))), hI, hF, hG_30⟩, by rw [ht]; exact hP_31, va_K.moved hW.alike hK, hD_32⟩)
                    · have k9 : (1 : Int32).toInt = 1 := by decide +kernel
                      refine ld_a hx hb hK hP_14 53 3 rfl rfl (vin (by decide +kernel)) dX8_copy_146 (ad 55) rfl ?_
                      refine lv_iconst (v := 0) hx hb dX8_copy_147 (by decide) ?_
                      refine lv_aload_n hx hb dX8_copy_148 rfl (lv_at hl 0 rfl) ?_
                      refine gf (k := 3) hx hb hts inX8 hown hK hP_14 k_267 rfl (by decide) rfl 0 rfl (.ref (ad 52)) rfl dX8_copy_149 ?_
                      refine gf (k := 0) hx hb hts inX6 hown hK hP_14 k_252 rfl (by decide) rfl 52 rfl (.ref (ad 53)) rfl dX8_copy_152 ?_
                      refine lv_iload_n hx hb dX8_copy_155 rfl (lv_at hl 1 rfl) ?_
                      rcases (show x1 = 0 ∨ x1 = 1 ∨ x1 = 2 ∨ x1 = 3 from j_cases4 (a := x1.toInt) rfl (by omega) (by omega)) with rfl | rfl | rfl | rfl
                      · have k9 : (0 : Int32).toInt = 0 := by decide +kernel
                        refine ld_a hx hb hK hP_14 53 3 rfl rfl (vin (by decide +kernel)) dX8_copy_156 (ad 54) rfl ?_
                        refine lv_iload_n hx hb dX8_copy_157 rfl (lv_at hl 2 rfl) ?_
                        refine lv_iload hx hb dX8_copy_158 (lv_at hl 4 rfl) ?_
                        refine va_copyl (ty := .long) hx hb (by rw [hml]; exact hl.1.symm) hown (hts _ k_370) (hts _ k_372) (hts _ k_371) (hts _ k_12) hK hP_14 hD_15 hS_13 55 54 1 1 rfl rfl rfl rfl rfl (q_nlt (a := 0) (b := 0) (by decide +kernel) (by decide +kernel) (by omega)) (q_nlt (a := x2.toInt) (b := 0) rfl (by decide +kernel) (by omega)) (q_nlt (a := x4.toInt) (b := 0) rfl (by decide +kernel) (by omega)) (j_cp (a := 0) (b := x4.toInt) (by decide +kernel) rfl (by omega) (by omega) (by omega)) (j_cp (a := x2.toInt) (b := x4.toInt) rfl rfl (by omega) (by omega) (by omega)) (fun i _ => rfl) (by decide) (Nat.le_of_ble_eq_true rfl) dX8_copy_160 (fun H_33 locs_33 hP_33 hD_33 hS_33 => ?_)
                        obtain ⟨al23, e_al23⟩ : ∃ q : Nat → Nat → Int64, q = va_up al 54 (va_cpy (al 55) (al 54) (0 : Int32).toNatClampNeg x2.toNatClampNeg x4.toNatClampNeg) := ⟨_, rfl⟩
                        have hG_34 := FL_st hG e_al23 (by decide)
                        have hP_35 : va_P (dC, dI) vwCl (WX cI cJ cII cJJ ad f3_unknowns f3_equations f2_roundSupports f2_stale f7_size f1_size f5_keptSize f5_aheadSize f0_solved f4_blockCount f4_blockLength f4_lastIsFree f4_stale ai al23 w0 w1 w2 w3) H_33 := by rw [e_al23]; exact hP_33
                        have hD_36 : va_D A (WX cI cJ cII cJJ ad f3_unknowns f3_equations f2_roundSupports f2_stale f7_size f1_size f5_keptSize f5_aheadSize f0_solved f4_blockCount f4_blockLength f4_lastIsFree f4_stale ai al23 w0 w1 w2 w3) := by rw [e_al23]; exact hD_33
                        refine lv_iconst (v := 1) hx hb dX8_copy_163 (by decide) ?_
                        exact r2_i hx hb hr hk hS_33 dX8_copy_164 (fun t ht hW => ⟨ai, al23, ⟨(Or.inr (Or.inr (Or.inr (Or.inr (Or.inr (⟨(by have kr : (1 : Int32).toInt = 1 := (by decide); omega), (by have kr : (1 : Int32).toInt = 1 := (by decide); omega), (by have kr : (1 : Int32).toInt = 1 := (by decide); omega), (by have kr : (1 : Int32).toInt = 1 := (by decide); omega), (by have kr : (1 : Int32).toInt = 1 := (by decide); omega), (by have kr : (1 : Int32).toInt = 1 := (by decide); omega)⟩)))))), hI, hF, hG_34⟩, by rw [ht]; exact hP_35, va_K.moved hW.alike hK, hD_36⟩)
                      · have k9 : (1 : Int32).toInt = 1 := by decide +kernel
                        refine ld_a hx hb hK hP_14 53 3 rfl rfl (vin (by decide +kernel)) dX8_copy_156 (ad 55) rfl ?_
                        refine lv_iload_n hx hb dX8_copy_157 rfl (lv_at hl 2 rfl) ?_
                        refine lv_iload hx hb dX8_copy_158 (lv_at hl 4 rfl) ?_
                        refine va_copyl (ty := .long) hx hb (by rw [hml]; exact hl.1.symm) hown (hts _ k_370) (hts _ k_372) (hts _ k_371) (hts _ k_12) hK hP_14 hD_15 hS_13 55 55 1 1 rfl rfl rfl rfl rfl (q_nlt (a := 0) (b := 0) (by decide +kernel) (by decide +kernel) (by omega)) (q_nlt (a := x2.toInt) (b := 0) rfl (by decide +kernel) (by omega)) (q_nlt (a := x4.toInt) (b := 0) rfl (by decide +kernel) (by omega)) (j_cp (a := 0) (b := x4.toInt) (by decide +kernel) rfl (by omega) (by omega) (by omega)) (j_cp (a := x2.toInt) (b := x4.toInt) rfl rfl (by omega) (by omega) (by omega)) (fun i _ => rfl) (by decide) (Nat.le_of_ble_eq_true rfl) dX8_copy_160 (fun H_37 locs_37 hP_37 hD_37 hS_37 => ?_)
                        obtain ⟨al24, e_al24⟩ : ∃ q : Nat → Nat → Int64, q = va_up al 55 (va_cpy (al 55) (al 55) (0 : Int32).toNatClampNeg x2.toNatClampNeg x4.toNatClampNeg) := ⟨_, rfl⟩
                        have hG_38 := FL_st hG e_al24 (by decide)
                        have hP_39 : va_P (dC, dI) vwCl (WX cI cJ cII cJJ ad f3_unknowns f3_equations f2_roundSupports f2_stale f7_size f1_size f5_keptSize f5_aheadSize f0_solved f4_blockCount f4_blockLength f4_lastIsFree f4_stale ai al24 w0 w1 w2 w3) H_37 := by rw [e_al24]; exact hP_37
                        have hD_40 : va_D A (WX cI cJ cII cJJ ad f3_unknowns f3_equations f2_roundSupports f2_stale f7_size f1_size f5_keptSize f5_aheadSize f0_solved f4_blockCount f4_blockLength f4_lastIsFree f4_stale ai al24 w0 w1 w2 w3) := by rw [e_al24]; exact hD_37
                        refine lv_iconst (v := 1) hx hb dX8_copy_163 (by decide) ?_
                        exact r2_i hx hb hr hk hS_37 dX8_copy_164 (fun t ht hW => ⟨ai, al24, ⟨(Or.inr (Or.inr (Or.inr (Or.inr (Or.inr (⟨(by have kr : (1 : Int32).toInt = 1 := (by decide); omega), (by have kr : (1 : Int32).toInt = 1 := (by decide); omega), (by have kr : (1 : Int32).toInt = 1 := (by decide); omega), (by have kr : (1 : Int32).toInt = 1 := (by decide); omega), (by have kr : (1 : Int32).toInt = 1 := (by decide); omega), (by have kr : (1 : Int32).toInt = 1 := (by decide); omega)⟩)))))), hI, hF, hG_38⟩, by rw [ht]; exact hP_39, va_K.moved hW.alike hK, hD_40⟩)
                      · have k9 : (2 : Int32).toInt = 2 := by decide +kernel
                        refine ld_a hx hb hK hP_14 53 3 rfl rfl (vin (by decide +kernel)) dX8_copy_156 (ad 56) rfl ?_
                        refine lv_iload_n hx hb dX8_copy_157 rfl (lv_at hl 2 rfl) ?_
                        refine lv_iload hx hb dX8_copy_158 (lv_at hl 4 rfl) ?_
                        refine va_copyl (ty := .long) hx hb (by rw [hml]; exact hl.1.symm) hown (hts _ k_370) (hts _ k_372) (hts _ k_371) (hts _ k_12) hK hP_14 hD_15 hS_13 55 56 1 1 rfl rfl rfl rfl rfl (q_nlt (a := 0) (b := 0) (by decide +kernel) (by decide +kernel) (by omega)) (q_nlt (a := x2.toInt) (b := 0) rfl (by decide +kernel) (by omega)) (q_nlt (a := x4.toInt) (b := 0) rfl (by decide +kernel) (by omega)) (j_cp (a := 0) (b := x4.toInt) (by decide +kernel) rfl (by omega) (by omega) (by omega)) (j_cp (a := x2.toInt) (b := x4.toInt) rfl rfl (by omega) (by omega) (by omega)) (fun i _ => rfl) (by decide) (Nat.le_of_ble_eq_true rfl) dX8_copy_160 (fun H_41 locs_41 hP_41 hD_41 hS_41 => ?_)
                        obtain ⟨al25, e_al25⟩ : ∃ q : Nat → Nat → Int64, q = va_up al 56 (va_cpy (al 55) (al 56) (0 : Int32).toNatClampNeg x2.toNatClampNeg x4.toNatClampNeg) := ⟨_, rfl⟩
                        have hG_42 := FL_st hG e_al25 (by decide)
                        have hP_43 : va_P (dC, dI) vwCl (WX cI cJ cII cJJ ad f3_unknowns f3_equations f2_roundSupports f2_stale f7_size f1_size f5_keptSize f5_aheadSize f0_solved f4_blockCount f4_blockLength f4_lastIsFree f4_stale ai al25 w0 w1 w2 w3) H_41 := by rw [e_al25]; exact hP_41
                        have hD_44 : va_D A (WX cI cJ cII cJJ ad f3_unknowns f3_equations f2_roundSupports f2_stale f7_size f1_size f5_keptSize f5_aheadSize f0_solved f4_blockCount f4_blockLength f4_lastIsFree f4_stale ai al25 w0 w1 w2 w3) := by rw [e_al25]; exact hD_41
                        refine lv_iconst (v := 1) hx hb dX8_copy_163 (by decide) ?_
                        exact r2_i hx hb hr hk hS_41 dX8_copy_164 (fun t ht hW => ⟨ai, al25, ⟨(Or.inr (Or.inr (Or.inr (Or.inr (Or.inr (⟨(by have kr : (1 : Int32).toInt = 1 := (by decide); omega), (by have kr : (1 : Int32).toInt = 1 := (by decide); omega), (by have kr : (1 : Int32).toInt = 1 := (by decide); omega), (by have kr : (1 : Int32).toInt = 1 := (by decide); omega), (by have kr : (1 : Int32).toInt = 1 := (by decide); omega), (by have kr : (1 : Int32).toInt = 1 := (by decide); omega)⟩)))))), hI, hF, hG_42⟩, by rw [ht]; exact hP_43, va_K.moved hW.alike hK, hD_44⟩)
                      · have k9 : (3 : Int32).toInt = 3 := by decide +kernel
                        refine ld_a hx hb hK hP_14 53 3 rfl rfl (vin (by decide +kernel)) dX8_copy_156 (ad 57) rfl ?_
                        refine lv_iload_n hx hb dX8_copy_157 rfl (lv_at hl 2 rfl) ?_
                        refine lv_iload hx hb dX8_copy_158 (lv_at hl 4 rfl) ?_
                        refine va_copyl (ty := .long) hx hb (by rw [hml]; exact hl.1.symm) hown (hts _ k_370) (hts _ k_372) (hts _ k_371) (hts _ k_12) hK hP_14 hD_15 hS_13 55 57 1 1 rfl rfl rfl rfl rfl (q_nlt (a := 0) (b := 0) (by decide +kernel) (by decide +kernel) (by omega)) (q_nlt (a := x2.toInt) (b := 0) rfl (by decide +kernel) (by omega)) (q_nlt (a := x4.toInt) (b := 0) rfl (by decide +kernel) (by omega)) (j_cp (a := 0) (b := x4.toInt) (by decide +kernel) rfl (by omega) (by omega) (by omega)) (j_cp (a := x2.toInt) (b := x4.toInt) rfl rfl (by omega) (by omega) (by omega)) (fun i _ => rfl) (by decide) (Nat.le_of_ble_eq_true rfl) dX8_copy_160 (fun H_45 locs_45 hP_45 hD_45 hS_45 => ?_)
                        obtain ⟨al26, e_al26⟩ : ∃ q : Nat → Nat → Int64, q = va_up al 57 (va_cpy (al 55) (al 57) (0 : Int32).toNatClampNeg x2.toNatClampNeg x4.toNatClampNeg) := ⟨_, rfl⟩
                        have hG_46 := FL_st hG e_al26 (by decide)
                        have hP_47 : va_P (dC, dI) vwCl (WX cI cJ cII cJJ ad f3_unknowns f3_equations f2_roundSupports f2_stale f7_size f1_size f5_keptSize f5_aheadSize f0_solved f4_blockCount f4_blockLength f4_lastIsFree f4_stale ai al26 w0 w1 w2 w3) H_45 := by rw [e_al26]; exact hP_45
                        have hD_48 : va_D A (WX cI cJ cII cJJ ad f3_unknowns f3_equations f2_roundSupports f2_stale f7_size f1_size f5_keptSize f5_aheadSize f0_solved f4_blockCount f4_blockLength f4_lastIsFree f4_stale ai al26 w0 w1 w2 w3) := by rw [e_al26]; exact hD_45
                        refine lv_iconst (v := 1) hx hb dX8_copy_163 (by decide) ?_
                        exact r2_i hx hb hr hk hS_45 dX8_copy_164 (fun t ht hW => ⟨ai, al26, ⟨(Or.inr (Or.inr (Or.inr (Or.inr (Or.inr (⟨(by have kr : (1 : Int32).toInt = 1 := (by decide); omega), (by have kr : (1 : Int32).toInt = 1 := (by decide); omega), (by have kr : (1 : Int32).toInt = 1 := (by decide); omega), (by have kr : (1 : Int32).toInt = 1 := (by decide); omega), (by have kr : (1 : Int32).toInt = 1 := (by decide); omega), (by have kr : (1 : Int32).toInt = 1 := (by decide); omega)⟩)))))), hI, hF, hG_46⟩, by rw [ht]; exact hP_47, va_K.moved hW.alike hK, hD_48⟩)
                    · have k9 : (2 : Int32).toInt = 2 := by decide +kernel
                      refine ld_a hx hb hK hP_14 53 3 rfl rfl (vin (by decide +kernel)) dX8_copy_146 (ad 56) rfl ?_
                      refine lv_iconst (v := 0) hx hb dX8_copy_147 (by decide) ?_
                      refine lv_aload_n hx hb dX8_copy_148 rfl (lv_at hl 0 rfl) ?_
                      refine gf (k := 3) hx hb hts inX8 hown hK hP_14 k_267 rfl (by decide) rfl 0 rfl (.ref (ad 52)) rfl dX8_copy_149 ?_
                      refine gf (k := 0) hx hb hts inX6 hown hK hP_14 k_252 rfl (by decide) rfl 52 rfl (.ref (ad 53)) rfl dX8_copy_152 ?_
                      refine lv_iload_n hx hb dX8_copy_155 rfl (lv_at hl 1 rfl) ?_
                      rcases (show x1 = 0 ∨ x1 = 1 ∨ x1 = 2 ∨ x1 = 3 from j_cases4 (a := x1.toInt) rfl (by omega) (by omega)) with rfl | rfl | rfl | rfl
                      · have k9 : (0 : Int32).toInt = 0 := by decide +kernel
                        refine ld_a hx hb hK hP_14 53 3 rfl rfl (vin (by decide +kernel)) dX8_copy_156 (ad 54) rfl ?_
                        refine lv_iload_n hx hb dX8_copy_157 rfl (lv_at hl 2 rfl) ?_
                        refine lv_iload hx hb dX8_copy_158 (lv_at hl 4 rfl) ?_
                        refine va_copyl (ty := .long) hx hb (by rw [hml]; exact hl.1.symm) hown (hts _ k_370) (hts _ k_372) (hts _ k_371) (hts _ k_12) hK hP_14 hD_15 hS_13 56 54 1 1 rfl rfl rfl rfl rfl (q_nlt (a := 0) (b := 0) (by decide +kernel) (by decide +kernel) (by omega)) (q_nlt (a := x2.toInt) (b := 0) rfl (by decide +kernel) (by omega)) (q_nlt (a := x4.toInt) (b := 0) rfl (by decide +kernel) (by omega)) (j_cp (a := 0) (b := x4.toInt) (by decide +kernel) rfl (by omega) (by omega) (by omega)) (j_cp (a := x2.toInt) (b := x4.toInt) rfl rfl (by omega) (by omega) (by omega)) (fun i _ => rfl) (by decide) (Nat.le_of_ble_eq_true rfl) dX8_copy_160 (fun H_49 locs_49 hP_49 hD_49 hS_49 => ?_)
                        obtain ⟨al27, e_al27⟩ : ∃ q : Nat → Nat → Int64, q = va_up al 54 (va_cpy (al 56) (al 54) (0 : Int32).toNatClampNeg x2.toNatClampNeg x4.toNatClampNeg) := ⟨_, rfl⟩
                        have hG_50 := FL_st hG e_al27 (by decide)
                        have hP_51 : va_P (dC, dI) vwCl (WX cI cJ cII cJJ ad f3_unknowns f3_equations f2_roundSupports f2_stale f7_size f1_size f5_keptSize f5_aheadSize f0_solved f4_blockCount f4_blockLength f4_lastIsFree f4_stale ai al27 w0 w1 w2 w3) H_49 := by rw [e_al27]; exact hP_49
                        have hD_52 : va_D A (WX cI cJ cII cJJ ad f3_unknowns f3_equations f2_roundSupports f2_stale f7_size f1_size f5_keptSize f5_aheadSize f0_solved f4_blockCount f4_blockLength f4_lastIsFree f4_stale ai al27 w0 w1 w2 w3) := by rw [e_al27]; exact hD_49
                        refine lv_iconst (v := 1) hx hb dX8_copy_163 (by decide) ?_
                        exact r2_i hx hb hr hk hS_49 dX8_copy_164 (fun t ht hW => ⟨ai, al27, ⟨(Or.inr (Or.inr (Or.inr (Or.inr (Or.inr (⟨(by have kr : (1 : Int32).toInt = 1 := (by decide); omega), (by have kr : (1 : Int32).toInt = 1 := (by decide); omega), (by have kr : (1 : Int32).toInt = 1 := (by decide); omega), (by have kr : (1 : Int32).toInt = 1 := (by decide); omega), (by have kr : (1 : Int32).toInt = 1 := (by decide); omega), (by have kr : (1 : Int32).toInt = 1 := (by decide); omega)⟩)))))), hI, hF, hG_50⟩, by rw [ht]; exact hP_51, va_K.moved hW.alike hK, hD_52⟩)
                      · have k9 : (1 : Int32).toInt = 1 := by decide +kernel
                        refine ld_a hx hb hK hP_14 53 3 rfl rfl (vin (by decide +kernel)) dX8_copy_156 (ad 55) rfl ?_
                        refine lv_iload_n hx hb dX8_copy_157 rfl (lv_at hl 2 rfl) ?_
                        refine lv_iload hx hb dX8_copy_158 (lv_at hl 4 rfl) ?_
                        refine va_copyl (ty := .long) hx hb (by rw [hml]; exact hl.1.symm) hown (hts _ k_370) (hts _ k_372) (hts _ k_371) (hts _ k_12) hK hP_14 hD_15 hS_13 56 55 1 1 rfl rfl rfl rfl rfl (q_nlt (a := 0) (b := 0) (by decide +kernel) (by decide +kernel) (by omega)) (q_nlt (a := x2.toInt) (b := 0) rfl (by decide +kernel) (by omega)) (q_nlt (a := x4.toInt) (b := 0) rfl (by decide +kernel) (by omega)) (j_cp (a := 0) (b := x4.toInt) (by decide +kernel) rfl (by omega) (by omega) (by omega)) (j_cp (a := x2.toInt) (b := x4.toInt) rfl rfl (by omega) (by omega) (by omega)) (fun i _ => rfl) (by decide) (Nat.le_of_ble_eq_true rfl) dX8_copy_160 (fun H_53 locs_53 hP_53 hD_53 hS_53 => ?_)
                        obtain ⟨al28, e_al28⟩ : ∃ q : Nat → Nat → Int64, q = va_up al 55 (va_cpy (al 56) (al 55) (0 : Int32).toNatClampNeg x2.toNatClampNeg x4.toNatClampNeg) := ⟨_, rfl⟩
                        have hG_54 := FL_st hG e_al28 (by decide)
                        have hP_55 : va_P (dC, dI) vwCl (WX cI cJ cII cJJ ad f3_unknowns f3_equations f2_roundSupports f2_stale f7_size f1_size f5_keptSize f5_aheadSize f0_solved f4_blockCount f4_blockLength f4_lastIsFree f4_stale ai al28 w0 w1 w2 w3) H_53 := by rw [e_al28]; exact hP_53
                        have hD_56 : va_D A (WX cI cJ cII cJJ ad f3_unknowns f3_equations f2_roundSupports f2_stale f7_size f1_size f5_keptSize f5_aheadSize f0_solved f4_blockCount f4_blockLength f4_lastIsFree f4_stale ai al28 w0 w1 w2 w3) := by rw [e_al28]; exact hD_53
                        refine lv_iconst (v := 1) hx hb dX8_copy_163 (by decide) ?_
                        exact r2_i hx hb hr hk hS_53 dX8_copy_164 (fun t ht hW => ⟨ai, al28, ⟨(Or.inr (Or.inr (Or.inr (Or.inr (Or.inr (⟨(by have kr : (1 : Int32).toInt = 1 := (by decide); omega), (by have kr : (1 : Int32).toInt = 1 := (by decide); omega), (by have kr : (1 : Int32).toInt = 1 := (by decide); omega), (by have kr : (1 : Int32).toInt = 1 := (by decide); omega), (by have kr : (1 : Int32).toInt = 1 := (by decide); omega), (by have kr : (1 : Int32).toInt = 1 := (by decide); omega)⟩)))))), hI, hF, hG_54⟩, by rw [ht]; exact hP_55, va_K.moved hW.alike hK, hD_56⟩)
                      · have k9 : (2 : Int32).toInt = 2 := by decide +kernel
                        refine ld_a hx hb hK hP_14 53 3 rfl rfl (vin (by decide +kernel)) dX8_copy_156 (ad 56) rfl ?_
                        refine lv_iload_n hx hb dX8_copy_157 rfl (lv_at hl 2 rfl) ?_
                        refine lv_iload hx hb dX8_copy_158 (lv_at hl 4 rfl) ?_
                        refine va_copyl (ty := .long) hx hb (by rw [hml]; exact hl.1.symm) hown (hts _ k_370) (hts _ k_372) (hts _ k_371) (hts _ k_12) hK hP_14 hD_15 hS_13 56 56 1 1 rfl rfl rfl rfl rfl (q_nlt (a := 0) (b := 0) (by decide +kernel) (by decide +kernel) (by omega)) (q_nlt (a := x2.toInt) (b := 0) rfl (by decide +kernel) (by omega)) (q_nlt (a := x4.toInt) (b := 0) rfl (by decide +kernel) (by omega)) (j_cp (a := 0) (b := x4.toInt) (by decide +kernel) rfl (by omega) (by omega) (by omega)) (j_cp (a := x2.toInt) (b := x4.toInt) rfl rfl (by omega) (by omega) (by omega)) (fun i _ => rfl) (by decide) (Nat.le_of_ble_eq_true rfl) dX8_copy_160 (fun H_57 locs_57 hP_57 hD_57 hS_57 => ?_)
                        obtain ⟨al29, e_al29⟩ : ∃ q : Nat → Nat → Int64, q = va_up al 56 (va_cpy (al 56) (al 56) (0 : Int32).toNatClampNeg x2.toNatClampNeg x4.toNatClampNeg) := ⟨_, rfl⟩
                        have hG_58 := FL_st hG e_al29 (by decide)
                        have hP_59 : va_P (dC, dI) vwCl (WX cI cJ cII cJJ ad f3_unknowns f3_equations f2_roundSupports f2_stale f7_size f1_size f5_keptSize f5_aheadSize f0_solved f4_blockCount f4_blockLength f4_lastIsFree f4_stale ai al29 w0 w1 w2 w3) H_57 := by rw [e_al29]; exact hP_57
                        have hD_60 : va_D A (WX cI cJ cII cJJ ad f3_unknowns f3_equations f2_roundSupports f2_stale f7_size f1_size f5_keptSize f5_aheadSize f0_solved f4_blockCount f4_blockLength f4_lastIsFree f4_stale ai al29 w0 w1 w2 w3) := by rw [e_al29]; exact hD_57
                        refine lv_iconst (v := 1) hx hb dX8_copy_163 (by decide) ?_
                        exact r2_i hx hb hr hk hS_57 dX8_copy_164 (fun t ht hW => ⟨ai, al29, ⟨(Or.inr (Or.inr (Or.inr (Or.inr (Or.inr (⟨(by have kr : (1 : Int32).toInt = 1 := (by decide); omega), (by have kr : (1 : Int32).toInt = 1 := (by decide); omega), (by have kr : (1 : Int32).toInt = 1 := (by decide); omega), (by have kr : (1 : Int32).toInt = 1 := (by decide); omega), (by have kr : (1 : Int32).toInt = 1 := (by decide); omega), (by have kr : (1 : Int32).toInt = 1 := (by decide); omega)⟩)))))), hI, hF, hG_58⟩, by rw [ht]; exact hP_59, va_K.moved hW.alike hK, hD_60⟩)
                      · have k9 : (3 : Int32).toInt = 3 := by decide +kernel
                        refine ld_a hx hb hK hP_14 53 3 rfl rfl (vin (by decide +kernel)) dX8_copy_156 (ad 57) rfl ?_
                        refine lv_iload_n hx hb dX8_copy_157 rfl (lv_at hl 2 rfl) ?_
                        refine lv_iload hx hb dX8_copy_158 (lv_at hl 4 rfl) ?_
                        refine va_copyl (ty := .long) hx hb (by rw [hml]; exact hl.1.symm) hown (hts _ k_370) (hts _ k_372) (hts _ k_371) (hts _ k_12) hK hP_14 hD_15 hS_13 56 57 1 1 rfl rfl rfl rfl rfl (q_nlt (a := 0) (b := 0) (by decide +kernel) (by decide +kernel) (by omega)) (q_nlt (a := x2.toInt) (b := 0) rfl (by decide +kernel) (by omega)) (q_nlt (a := x4.toInt) (b := 0) rfl (by decide +kernel) (by omega)) (j_cp (a := 0) (b := x4.toInt) (by decide +kernel) rfl (by omega) (by omega) (by omega)) (j_cp (a := x2.toInt) (b := x4.toInt) rfl rfl (by omega) (by omega) (by omega)) (fun i _ => rfl) (by decide) (Nat.le_of_ble_eq_true rfl) dX8_copy_160 (fun H_61 locs_61 hP_61 hD_61 hS_61 => ?_)
                        obtain ⟨al30, e_al30⟩ : ∃ q : Nat → Nat → Int64, q = va_up al 57 (va_cpy (al 56) (al 57) (0 : Int32).toNatClampNeg x2.toNatClampNeg x4.toNatClampNeg) := ⟨_, rfl⟩
                        have hG_62 := FL_st hG e_al30 (by decide)
                        have hP_63 : va_P (dC, dI) vwCl (WX cI cJ cII cJJ ad f3_unknowns f3_equations f2_roundSupports f2_stale f7_size f1_size f5_keptSize f5_aheadSize f0_solved f4_blockCount f4_blockLength f4_lastIsFree f4_stale ai al30 w0 w1 w2 w3) H_61 := by rw [e_al30]; exact hP_61
                        have hD_64 : va_D A (WX cI cJ cII cJJ ad f3_unknowns f3_equations f2_roundSupports f2_stale f7_size f1_size f5_keptSize f5_aheadSize f0_solved f4_blockCount f4_blockLength f4_lastIsFree f4_stale ai al30 w0 w1 w2 w3) := by rw [e_al30]; exact hD_61
                        refine lv_iconst (v := 1) hx hb dX8_copy_163 (by decide) ?_
                        exact r2_i hx hb hr hk hS_61 dX8_copy_164 (fun t ht hW => ⟨ai, al30, ⟨(Or.inr (Or.inr (Or.inr (Or.inr (Or.inr (⟨(by have kr : (1 : Int32).toInt = 1 := (by decide); omega), (by have kr : (1 : Int32).toInt = 1 := (by decide); omega), (by have kr : (1 : Int32).toInt = 1 := (by decide); omega), (by have kr : (1 : Int32).toInt = 1 := (by decide); omega), (by have kr : (1 : Int32).toInt = 1 := (by decide); omega), (by have kr : (1 : Int32).toInt = 1 := (by decide); omega)⟩)))))), hI, hF, hG_62⟩, by rw [ht]; exact hP_63, va_K.moved hW.alike hK, hD_64⟩)
                    · have k9 : (3 : Int32).toInt = 3 := by decide +kernel
                      refine ld_a hx hb hK hP_14 53 3 rfl rfl (vin (by decide +kernel)) dX8_copy_146 (ad 57) rfl ?_
                      refine lv_iconst (v := 0) hx hb dX8_copy_147 (by decide) ?_
                      refine lv_aload_n hx hb dX8_copy_148 rfl (lv_at hl 0 rfl) ?_
                      refine gf (k := 3) hx hb hts inX8 hown hK hP_14 k_267 rfl (by decide) rfl 0 rfl (.ref (ad 52)) rfl dX8_copy_149 ?_
                      refine gf (k := 0) hx hb hts inX6 hown hK hP_14 k_252 rfl (by decide) rfl 52 rfl (.ref (ad 53)) rfl dX8_copy_152 ?_
                      refine lv_iload_n hx hb dX8_copy_155 rfl (lv_at hl 1 rfl) ?_
                      rcases (show x1 = 0 ∨ x1 = 1 ∨ x1 = 2 ∨ x1 = 3 from j_cases4 (a := x1.toInt) rfl (by omega) (by omega)) with rfl | rfl | rfl | rfl
                      · have k9 : (0 : Int32).toInt = 0 := by decide +kernel
                        refine ld_a hx hb hK hP_14 53 3 rfl rfl (vin (by decide +kernel)) dX8_copy_156 (ad 54) rfl ?_
                        refine lv_iload_n hx hb dX8_copy_157 rfl (lv_at hl 2 rfl) ?_
                        refine lv_iload hx hb dX8_copy_158 (lv_at hl 4 rfl) ?_
                        refine va_copyl (ty := .long) hx hb (by rw [hml]; exact hl.1.symm) hown (hts _ k_370) (hts _ k_372) (hts _ k_371) (hts _ k_12) hK hP_14 hD_15 hS_13 57 54 1 1 rfl rfl rfl rfl rfl (q_nlt (a := 0) (b := 0) (by decide +kernel) (by decide +kernel) (by omega)) (q_nlt (a := x2.toInt) (b := 0) rfl (by decide +kernel) (by omega)) (q_nlt (a := x4.toInt) (b := 0) rfl (by decide +kernel) (by omega)) (j_cp (a := 0) (b := x4.toInt) (by decide +kernel) rfl (by omega) (by omega) (by omega)) (j_cp (a := x2.toInt) (b := x4.toInt) rfl rfl (by omega) (by omega) (by omega)) (fun i _ => rfl) (by decide) (Nat.le_of_ble_eq_true rfl) dX8_copy_160 (fun H_65 locs_65 hP_65 hD_65 hS_65 => ?_)
                        obtain ⟨al31, e_al31⟩ : ∃ q : Nat → Nat → Int64, q = va_up al 54 (va_cpy (al 57) (al 54) (0 : Int32).toNatClampNeg x2.toNatClampNeg x4.toNatClampNeg) := ⟨_, rfl⟩
                        have hG_66 := FL_st hG e_al31 (by decide)
                        have hP_67 : va_P (dC, dI) vwCl (WX cI cJ cII cJJ ad f3_unknowns f3_equations f2_roundSupports f2_stale f7_size f1_size f5_keptSize f5_aheadSize f0_solved f4_blockCount f4_blockLength f4_lastIsFree f4_stale ai al31 w0 w1 w2 w3) H_65 := by rw [e_al31]; exact hP_65
                        have hD_68 : va_D A (WX cI cJ cII cJJ ad f3_unknowns f3_equations f2_roundSupports f2_stale f7_size f1_size f5_keptSize f5_aheadSize f0_solved f4_blockCount f4_blockLength f4_lastIsFree f4_stale ai al31 w0 w1 w2 w3) := by rw [e_al31]; exact hD_65
                        refine lv_iconst (v := 1) hx hb dX8_copy_163 (by decide) ?_
                        exact r2_i hx hb hr hk hS_65 dX8_copy_164 (fun t ht hW => ⟨ai, al31, ⟨(Or.inr (Or.inr (Or.inr (Or.inr (Or.inr (⟨(by have kr : (1 : Int32).toInt = 1 := (by decide); omega), (by have kr : (1 : Int32).toInt = 1 := (by decide); omega), (by have kr : (1 : Int32).toInt = 1 := (by decide); omega), (by have kr : (1 : Int32).toInt = 1 := (by decide); omega), (by have kr : (1 : Int32).toInt = 1 := (by decide); omega), (by have kr : (1 : Int32).toInt = 1 := (by decide); omega)⟩)))))), hI, hF, hG_66⟩, by rw [ht]; exact hP_67, va_K.moved hW.alike hK, hD_68⟩)
                      · have k9 : (1 : Int32).toInt = 1 := by decide +kernel
                        refine ld_a hx hb hK hP_14 53 3 rfl rfl (vin (by decide +kernel)) dX8_copy_156 (ad 55) rfl ?_
                        refine lv_iload_n hx hb dX8_copy_157 rfl (lv_at hl 2 rfl) ?_
                        refine lv_iload hx hb dX8_copy_158 (lv_at hl 4 rfl) ?_
                        refine va_copyl (ty := .long) hx hb (by rw [hml]; exact hl.1.symm) hown (hts _ k_370) (hts _ k_372) (hts _ k_371) (hts _ k_12) hK hP_14 hD_15 hS_13 57 55 1 1 rfl rfl rfl rfl rfl (q_nlt (a := 0) (b := 0) (by decide +kernel) (by decide +kernel) (by omega)) (q_nlt (a := x2.toInt) (b := 0) rfl (by decide +kernel) (by omega)) (q_nlt (a := x4.toInt) (b := 0) rfl (by decide +kernel) (by omega)) (j_cp (a := 0) (b := x4.toInt) (by decide +kernel) rfl (by omega) (by omega) (by omega)) (j_cp (a := x2.toInt) (b := x4.toInt) rfl rfl (by omega) (by omega) (by omega)) (fun i _ => rfl) (by decide) (Nat.le_of_ble_eq_true rfl) dX8_copy_160 (fun H_69 locs_69 hP_69 hD_69 hS_69 => ?_)
                        obtain ⟨al32, e_al32⟩ : ∃ q : Nat → Nat → Int64, q = va_up al 55 (va_cpy (al 57) (al 55) (0 : Int32).toNatClampNeg x2.toNatClampNeg x4.toNatClampNeg) := ⟨_, rfl⟩
                        have hG_70 := FL_st hG e_al32 (by decide)
                        have hP_71 : va_P (dC, dI) vwCl (WX cI cJ cII cJJ ad f3_unknowns f3_equations f2_roundSupports f2_stale f7_size f1_size f5_keptSize f5_aheadSize f0_solved f4_blockCount f4_blockLength f4_lastIsFree f4_stale ai al32 w0 w1 w2 w3) H_69 := by rw [e_al32]; exact hP_69
                        have hD_72 : va_D A (WX cI cJ cII cJJ ad f3_unknowns f3_equations f2_roundSupports f2_stale f7_size f1_size f5_keptSize f5_aheadSize f0_solved f4_blockCount f4_blockLength f4_lastIsFree f4_stale ai al32 w0 w1 w2 w3) := by rw [e_al32]; exact hD_69
                        refine lv_iconst (v := 1) hx hb dX8_copy_163 (by decide) ?_
                        exact r2_i hx hb hr hk hS_69 dX8_copy_164 (fun t ht hW => ⟨ai, al32, ⟨(Or.inr (Or.inr (Or.inr (Or.inr (Or.inr (⟨(by have kr : (1 : Int32).toInt = 1 := (by decide); omega), (by have kr : (1 : Int32).toInt = 1 := (by decide); omega), (by have kr : (1 : Int32).toInt = 1 := (by decide); omega), (by have kr : (1 : Int32).toInt = 1 := (by decide); omega), (by have kr : (1 : Int32).toInt = 1 := (by decide); omega), (by have kr : (1 : Int32).toInt = 1 := (by decide); omega)⟩)))))), hI, hF, hG_70⟩, by rw [ht]; exact hP_71, va_K.moved hW.alike hK, hD_72⟩)
                      · have k9 : (2 : Int32).toInt = 2 := by decide +kernel
                        refine ld_a hx hb hK hP_14 53 3 rfl rfl (vin (by decide +kernel)) dX8_copy_156 (ad 56) rfl ?_
                        refine lv_iload_n hx hb dX8_copy_157 rfl (lv_at hl 2 rfl) ?_
                        refine lv_iload hx hb dX8_copy_158 (lv_at hl 4 rfl) ?_
                        refine va_copyl (ty := .long) hx hb (by rw [hml]; exact hl.1.symm) hown (hts _ k_370) (hts _ k_372) (hts _ k_371) (hts _ k_12) hK hP_14 hD_15 hS_13 57 56 1 1 rfl rfl rfl rfl rfl (q_nlt (a := 0) (b := 0) (by decide +kernel) (by decide +kernel) (by omega)) (q_nlt (a := x2.toInt) (b := 0) rfl (by decide +kernel) (by omega)) (q_nlt (a := x4.toInt) (b := 0) rfl (by decide +kernel) (by omega)) (j_cp (a := 0) (b := x4.toInt) (by decide +kernel) rfl (by omega) (by omega) (by omega)) (j_cp (a := x2.toInt) (b := x4.toInt) rfl rfl (by omega) (by omega) (by omega)) (fun i _ => rfl) (by decide) (Nat.le_of_ble_eq_true rfl) dX8_copy_160 (fun H_73 locs_73 hP_73 hD_73 hS_73 => ?_)
                        obtain ⟨al33, e_al33⟩ : ∃ q : Nat → Nat → Int64, q = va_up al 56 (va_cpy (al 57) (al 56) (0 : Int32).toNatClampNeg x2.toNatClampNeg x4.toNatClampNeg) := ⟨_, rfl⟩
                        have hG_74 := FL_st hG e_al33 (by decide)
                        have hP_75 : va_P (dC, dI) vwCl (WX cI cJ cII cJJ ad f3_unknowns f3_equations f2_roundSupports f2_stale f7_size f1_size f5_keptSize f5_aheadSize f0_solved f4_blockCount f4_blockLength f4_lastIsFree f4_stale ai al33 w0 w1 w2 w3) H_73 := by rw [e_al33]; exact hP_73
                        have hD_76 : va_D A (WX cI cJ cII cJJ ad f3_unknowns f3_equations f2_roundSupports f2_stale f7_size f1_size f5_keptSize f5_aheadSize f0_solved f4_blockCount f4_blockLength f4_lastIsFree f4_stale ai al33 w0 w1 w2 w3) := by rw [e_al33]; exact hD_73
                        refine lv_iconst (v := 1) hx hb dX8_copy_163 (by decide) ?_
                        exact r2_i hx hb hr hk hS_73 dX8_copy_164 (fun t ht hW => ⟨ai, al33, ⟨(Or.inr (Or.inr (Or.inr (Or.inr (Or.inr (⟨(by have kr : (1 : Int32).toInt = 1 := (by decide); omega), (by have kr : (1 : Int32).toInt = 1 := (by decide); omega), (by have kr : (1 : Int32).toInt = 1 := (by decide); omega), (by have kr : (1 : Int32).toInt = 1 := (by decide); omega), (by have kr : (1 : Int32).toInt = 1 := (by decide); omega), (by have kr : (1 : Int32).toInt = 1 := (by decide); omega)⟩)))))), hI, hF, hG_74⟩, by rw [ht]; exact hP_75, va_K.moved hW.alike hK, hD_76⟩)
                      · have k9 : (3 : Int32).toInt = 3 := by decide +kernel
                        refine ld_a hx hb hK hP_14 53 3 rfl rfl (vin (by decide +kernel)) dX8_copy_156 (ad 57) rfl ?_
                        refine lv_iload_n hx hb dX8_copy_157 rfl (lv_at hl 2 rfl) ?_
                        refine lv_iload hx hb dX8_copy_158 (lv_at hl 4 rfl) ?_
                        refine va_copyl (ty := .long) hx hb (by rw [hml]; exact hl.1.symm) hown (hts _ k_370) (hts _ k_372) (hts _ k_371) (hts _ k_12) hK hP_14 hD_15 hS_13 57 57 1 1 rfl rfl rfl rfl rfl (q_nlt (a := 0) (b := 0) (by decide +kernel) (by decide +kernel) (by omega)) (q_nlt (a := x2.toInt) (b := 0) rfl (by decide +kernel) (by omega)) (q_nlt (a := x4.toInt) (b := 0) rfl (by decide +kernel) (by omega)) (j_cp (a := 0) (b := x4.toInt) (by decide +kernel) rfl (by omega) (by omega) (by omega)) (j_cp (a := x2.toInt) (b := x4.toInt) rfl rfl (by omega) (by omega) (by omega)) (fun i _ => rfl) (by decide) (Nat.le_of_ble_eq_true rfl) dX8_copy_160 (fun H_77 locs_77 hP_77 hD_77 hS_77 => ?_)
                        obtain ⟨al34, e_al34⟩ : ∃ q : Nat → Nat → Int64, q = va_up al 57 (va_cpy (al 57) (al 57) (0 : Int32).toNatClampNeg x2.toNatClampNeg x4.toNatClampNeg) := ⟨_, rfl⟩
                        have hG_78 := FL_st hG e_al34 (by decide)
                        have hP_79 : va_P (dC, dI) vwCl (WX cI cJ cII cJJ ad f3_unknowns f3_equations f2_roundSupports f2_stale f7_size f1_size f5_keptSize f5_aheadSize f0_solved f4_blockCount f4_blockLength f4_lastIsFree f4_stale ai al34 w0 w1 w2 w3) H_77 := by rw [e_al34]; exact hP_77
                        have hD_80 : va_D A (WX cI cJ cII cJJ ad f3_unknowns f3_equations f2_roundSupports f2_stale f7_size f1_size f5_keptSize f5_aheadSize f0_solved f4_blockCount f4_blockLength f4_lastIsFree f4_stale ai al34 w0 w1 w2 w3) := by rw [e_al34]; exact hD_77
                        refine lv_iconst (v := 1) hx hb dX8_copy_163 (by decide) ?_
                        exact r2_i hx hb hr hk hS_77 dX8_copy_164 (fun t ht hW => ⟨ai, al34, ⟨(Or.inr (Or.inr (Or.inr (Or.inr (Or.inr (⟨(by have kr : (1 : Int32).toInt = 1 := (by decide); omega), (by have kr : (1 : Int32).toInt = 1 := (by decide); omega), (by have kr : (1 : Int32).toInt = 1 := (by decide); omega), (by have kr : (1 : Int32).toInt = 1 := (by decide); omega), (by have kr : (1 : Int32).toInt = 1 := (by decide); omega), (by have kr : (1 : Int32).toInt = 1 := (by decide); omega)⟩)))))), hI, hF, hG_78⟩, by rw [ht]; exact hP_79, va_K.moved hW.alike hK, hD_80⟩)
                  · have c18 := j_nle (a := x2.toInt) (b := z17.toInt) rfl rfl c18
                    exact m132_X8_copy_b131 C  ai al _ _ _ (by omega) (by omega) (by omega) (by omega) (by omega) (by omega) (by omega) (by omega) (by omega) (by omega) (by omega) (by omega) (by omega) (by omega) (by omega) (by omega) (by omega) (by omega) (by omega) hI hF hG hw_w0 hw_w1 hw_w2 hw_w3 hP_14 hD_15 hS_13 (lv_sub hl [0, 1, 2, 3, 4] rfl)
            · have c12 := j_nle (a := 0) (b := x4.toInt) (by decide +kernel) rfl c12
              refine lv_aload_n hx hb dX8_copy_90 rfl (lv_at hl 0 rfl) ?_
              refine lv_bipush (v := (-4)) hx hb dX8_copy_91 (by decide) ?_
              have kcm4 : ((-4) : Int32).toInt = (-4) := by decide +kernel
              have hM := m003_X8_refuse l dC dI cI cJ cII cJJ H_16.size 0 ad f3_unknowns f3_equations f2_roundSupports f2_stale f7_size f1_size f5_keptSize f5_aheadSize f0_solved f4_blockCount f4_blockLength f4_lastIsFree f4_stale ai al w0 w1 w2 w3 (-4) (by omega) (by omega) (by omega) (by omega) (by omega) (by omega) (by omega) (by omega) (by omega) (by omega) (by omega) hI hw_w0 hw_w1 hw_w2 hw_w3
              refine k2V_i (q0 := 0) ⟨hx, hb, hml, hown, hts⟩ hK hP_14 hD_15 hS_13 hA hX cv_RX8_53 hM ⟨by decide +kernel, by decide +kernel⟩ rfl rfl (Or.inl rfl) (rest := []) rfl rfl rfl hl.1 rfl (Nat.le_of_ble_eq_true rfl) dX8_copy_93 ⟨Nat.le_of_ble_eq_true rfl, Nat.le_of_ble_eq_true rfl⟩ (fun r35 t H1 locs_81 ht hB hS_81 hFc => ?_)
              obtain ⟨ai36, ⟨gpr35_0, hI_82, hFr_r35⟩, hP_82, -, hD_82⟩ := hB
              have hF_83 := FR_tr hF hFr_r35 (by decide)
              rw [ht] at hP_82
              have hD_84 := hD_82.weaken (B := A) (fun k q _ h9 => hFc q.1 h9)
              clear ht
              generalize H1 = H_85 at hP_82 hS_81 ⊢
              exact r2_i hx hb hr hk hS_81 dX8_copy_96 (fun t ht hW => ⟨ai36, al, ⟨(Or.inr (Or.inr (Or.inr (Or.inl ⟨(by omega), (by omega), (by omega), (by omega), (by omega)⟩)))), hI_82, hF_83, hG⟩, by rw [ht]; exact hP_82, va_K.moved hW.alike hK, hD_84⟩)
          · have c11 := j_ne (a := z9.toInt) (b := z10.toInt) rfl rfl c11
            refine lv_aload_n hx hb dX8_copy_78 rfl (lv_at hl 0 rfl) ?_
            refine lv_bipush (v := (-2)) hx hb dX8_copy_79 (by decide) ?_
            have kcm2 : ((-2) : Int32).toInt = (-2) := by decide +kernel
            have hM := m003_X8_refuse l dC dI cI cJ cII cJJ H_16.size 0 ad f3_unknowns f3_equations f2_roundSupports f2_stale f7_size f1_size f5_keptSize f5_aheadSize f0_solved f4_blockCount f4_blockLength f4_lastIsFree f4_stale ai al w0 w1 w2 w3 (-2) (by omega) (by omega) (by omega) (by omega) (by omega) (by omega) (by omega) (by omega) (by omega) (by omega) (by omega) hI hw_w0 hw_w1 hw_w2 hw_w3
            refine k2V_i (q0 := 0) ⟨hx, hb, hml, hown, hts⟩ hK hP_14 hD_15 hS_13 hA hX cv_RX8_53 hM ⟨by decide +kernel, by decide +kernel⟩ rfl rfl (Or.inl rfl) (rest := []) rfl rfl rfl hl.1 rfl (Nat.le_of_ble_eq_true rfl) dX8_copy_81 ⟨Nat.le_of_ble_eq_true rfl, Nat.le_of_ble_eq_true rfl⟩ (fun r37 t H1 locs_86 ht hB hS_86 hFc => ?_)
            obtain ⟨ai38, ⟨gpr37_0, hI_87, hFr_r37⟩, hP_87, -, hD_87⟩ := hB
            have hF_88 := FR_tr hF hFr_r37 (by decide)
            rw [ht] at hP_87
            have hD_89 := hD_87.weaken (B := A) (fun k q _ h9 => hFc q.1 h9)
            clear ht
            generalize H1 = H_90 at hP_87 hS_86 ⊢
            exact r2_i hx hb hr hk hS_86 dX8_copy_84 (fun t ht hW => ⟨ai38, al, ⟨(Or.inr (Or.inr (Or.inl ⟨(by omega), (by omega), (by omega), (by omega)⟩))), hI_87, hF_88, hG⟩, by rw [ht]; exact hP_87, va_K.moved hW.alike hK, hD_89⟩)
        · have c8 := j_ne (a := r7.toInt) (b := 0) rfl (by decide +kernel) c8
          exact m132_X8_copy_b50 C  ai al _ _ _ (by omega) (by omega) (by omega) (by omega) (by omega) (by omega) (by omega) (by omega) (by omega) (by omega) (by omega) (by omega) (by omega) (by omega) (by omega) hI hF hG hw_w0 hw_w1 hw_w2 hw_w3 hP_14 hD_15 hS_13 (lv_sub hl [0, 1, 2, 3, 4] rfl)
    · have c4 := j_eq (a := r3.toInt) (b := 0) rfl (by decide +kernel) c4
      exact m132_X8_copy_b22 C  ai al _ _ _ (by omega) (by omega) (by omega) (by omega) (by omega) (by omega) (by omega) (by omega) (by omega) (by omega) (by omega) (by omega) hI hF hG hw_w0 hw_w1 hw_w2 hw_w3 hP_6 hD_7 hS_5 (lv_sub hl [0, 1, 2, 3, 4] rfl)
