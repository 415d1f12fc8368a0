def Q_m098_J7_fill_53178 (dC : Nat → ClassId) (dI : Nat → Nat → Nat) (cI cJ cII cJJ : ClassId) (ad : Nat → Nat) (f3_unknowns f3_equations f2_roundSupports f2_stale f7_size f1_size f5_keptSize f5_aheadSize f0_solved f4_blockCount f4_blockLength f4_lastIsFree f4_stale : Int32) (ai0 : Nat → Nat → Int32) (al : Nat → Nat → Int64) (w0 w1 w2 w3 : Nat) : (Nat → Prop) → Array Value → State → Outcome → State → Prop := fun A => QV (fun t => ∃ (n_ai : Nat → Nat → Int32), (IAX n_ai ∧ FR [28] ai0 n_ai) ∧ WO dC dI (TY cI cJ cII cJJ) (WX cI cJ cII cJJ ad f3_unknowns f3_equations f2_roundSupports f2_stale f7_size f1_size f5_keptSize f5_aheadSize f0_solved f4_blockCount f4_blockLength f4_lastIsFree f4_stale n_ai al w0 w1 w2 w3) A t) A
set_option maxRecDepth 100000 in
set_option maxHeartbeats 4000000 in
theorem m098_J7_fill_53178_b5 {p : Program} {l : Launch} {e : Env} {s : State} {m : MethodId} {args : Array Value} {below : List Frame} {meth : Method} {c : Code} {A : Nat → Prop} {dC : Nat → ClassId} {dI : Nat → Nat → Nat} {cI cJ cII cJJ : ClassId} {ad : Nat → Nat} {g : Nat} {f3_unknowns f3_equations f2_roundSupports f2_stale f7_size f1_size f5_keptSize f5_aheadSize f0_solved f4_blockCount f4_blockLength f4_lastIsFree f4_stale : Int32} {ai0 : Nat → Nat → Int32} {al : Nat → Nat → Int64} {w0 w1 w2 w3 : Nat} (C : Cx p c s m meth args A dC dI (TY cI cJ cII cJJ) cJ7_fill_53178 none 4 RJ7 0 g) : ∀ (n : Nat), ∀ (L2 : Int32) (ai : Nat → Nat → Int32) (H : Heap) (locs : List Loc) (ls : Array Slot), (0 ≤ L2.toInt ∧ L2.toInt ≤ 4) → (1 ≤ f3_unknowns.toInt ∧ f3_unknowns.toInt ≤ 4) → (0 ≤ f3_equations.toInt ∧ f3_equations.toInt ≤ 3) → (0 ≤ f2_stale.toInt ∧ f2_stale.toInt ≤ 1) → (0 ≤ f7_size.toInt ∧ f7_size.toInt ≤ 256) → (0 ≤ f1_size.toInt ∧ f1_size.toInt ≤ 4) → (0 ≤ f5_keptSize.toInt ∧ f5_keptSize.toInt ≤ 128) → (0 ≤ f5_aheadSize.toInt ∧ f5_aheadSize.toInt ≤ 128) → (0 ≤ f4_blockCount.toInt ∧ f4_blockCount.toInt ≤ 9261) → (0 ≤ f4_blockLength.toInt ∧ f4_blockLength.toInt ≤ 21) → (0 ≤ f4_lastIsFree.toInt ∧ f4_lastIsFree.toInt ≤ 1) → (0 ≤ f4_stale.toInt ∧ f4_stale.toInt ≤ 1) → 4 - L2.toInt < (n : Int) → (0 : Int) < (n : Int) → IAX ai → FR [28] ai0 ai → RWX ad w0 → RWX ad w1 → RWX ad w2 → RWX ad w3 → va_P (dC, dI) vwCl (WX cI cJ cII cJJ ad f3_unknowns f3_equations f2_roundSupports f2_stale f7_size f1_size f5_keptSize f5_aheadSize f0_solved f4_blockCount f4_blockLength f4_lastIsFree f4_stale ai al w0 w1 w2 w3) H → va_D A (WX cI cJ cII cJJ ad f3_unknowns f3_equations f2_roundSupports f2_stale f7_size f1_size f5_keptSize f5_aheadSize f0_solved f4_blockCount f4_blockLength f4_lastIsFree f4_stale ai al w0 w1 w2 w3) → va_S A s.heap H locs → lv_has ls 4 [(0, .ref (ad 28)), (1, .int 0), (2, .int L2), (3, .int 4)] → W p l e ({ frames := 2, cells := 0, slots := 0, locals := 80 } : Room) s m args below meth c H locs 0 0 (MQ below (Q_m098_J7_fill_53178 dC dI cI cJ cII cJJ ad f3_unknowns f3_equations f2_roundSupports f2_stale f7_size f1_size f5_keptSize f5_aheadSize f0_solved f4_blockCount f4_blockLength f4_lastIsFree f4_stale ai0 al w0 w1 w2 w3 A) args s 0 0 A) (F0 m 5 ls []) := by
  obtain ⟨hx, hb, hr, hml, hown, hts, hk, hA, hK, hX⟩ := id C
  intro n
  induction n with
  | zero =>
    intro L2 ai H locs ls h0 h1 h2 h3 h4 h5 h6 h7 h8 h9 h10 h11 h12 h13 hI hF hw_w0 hw_w1 hw_w2 hw_w3 hP hD hS hl
    exact absurd h13 (by omega)
  | succ n ih =>
    intro L2 ai H locs ls h0 h1 h2 h3 h4 h5 h6 h7 h8 h9 h10 h11 h12 h13 hI hF hw_w0 hw_w1 hw_w2 hw_w3 hP hD hS hl
    refine lv_iload_n hx hb dJ7_fill_53178_5 rfl (lv_at hl 2 rfl) ?_
    refine lv_iload_n hx hb dJ7_fill_53178_6 rfl (lv_at hl 3 rfl) ?_
    refine lv_icmp_ge (tgt := 20) hx hb dJ7_fill_53178_7 (by decide) (fun c1 => ?_) (fun c1 => ?_)
    · have c1 := j_le (a := 4) (b := L2.toInt) (by decide +kernel) rfl c1
      exact r2_v hx hb hr hk hS dJ7_fill_53178_20 (fun t ht hW => ⟨ai, ⟨hI, hF⟩, by rw [ht]; exact hP, va_K.moved hW.alike hK, hD⟩)
    · have c1 := j_nle (a := 4) (b := L2.toInt) (by decide +kernel) rfl c1
      refine lv_aload_n hx hb dJ7_fill_53178_10 rfl (lv_at hl 0 rfl) ?_
      refine lv_iload_n hx hb dJ7_fill_53178_11 rfl (lv_at hl 2 rfl) ?_
      refine lv_iload_n hx hb dJ7_fill_53178_12 rfl (lv_at hl 1 rfl) ?_
      refine va_iast hx hb hK hP hD hS 28 0 rfl rfl (j_in (a := L2.toInt) rfl (by omega) (by omega)) dJ7_fill_53178_13 (fun H_1 locs_1 hP_1 hD_1 hS_1 => ?_)
      obtain ⟨ai2, e_ai2⟩ : ∃ q : Nat → Nat → Int32, q = va_up ai 28 (upd (ai 28) L2.toNatClampNeg 0) := ⟨_, rfl⟩
      have hF_2 := FR_st hF e_ai2 (by decide)
      have hI_3 : IAX ai2 := by rw [e_ai2]; exact hI
      have hP_4 : va_P (dC, dI) vwCl (WX cI cJ cII cJJ ad f3_unknowns f3_equations f2_roundSupports f2_stale f7_size f1_size f5_keptSize f5_aheadSize f0_solved f4_blockCount f4_blockLength f4_lastIsFree f4_stale ai2 al w0 w1 w2 w3) H_1 := by rw [e_ai2]; exact hP_1
      have hD_5 : va_D A (WX cI cJ cII cJJ ad f3_unknowns f3_equations f2_roundSupports f2_stale f7_size f1_size f5_keptSize f5_aheadSize f0_solved f4_blockCount f4_blockLength f4_lastIsFree f4_stale ai2 al w0 w1 w2 w3) := by rw [e_ai2]; exact hD_1
      obtain ⟨z3, e_z3⟩ : ∃ q : Int32, q = L2 + Int32.ofInt 1 := ⟨_, rfl⟩
      have g_z3 : z3.toInt = L2.toInt + 1 := by rw [e_z3]; exact n_add (a := L2.toInt) (b := 1) rfl (by decide +kernel) (by omega) (by omega)
      refine lv_iinc (v := z3) (lv' := [(2, .int z3), (0, .ref (ad 28)), (1, .int 0), (3, .int 4)]) hx hb dJ7_fill_53178_14 hl (k := 2) rfl e_z3.symm (by decide) rfl (fun ls_6 hl_6 => ?_)
      refine lv_goto (tgt := 5) hx hb dJ7_fill_53178_17 (by decide) ?_
      exact ih z3 ai2 _ _ _ (by omega) (by omega) (by omega) (by omega) (by omega) (by omega) (by omega) (by omega) (by omega) (by omega) (by omega) (by omega) (by omega) (by omega) hI_3 hF_2 hw_w0 hw_w1 hw_w2 hw_w3 hP_4 hD_5 hS_1 (lv_sub hl_6 [1, 2, 0, 3] rfl)
set_option maxRecDepth 100000 in
set_option maxHeartbeats 4000000 in
theorem m098_J7_fill_53178 (l : Launch) (dC : Nat → ClassId) (dI : Nat → Nat → Nat) (cI cJ cII cJJ : ClassId) (sz g : Nat) (ad : Nat → Nat) (f3_unknowns f3_equations f2_roundSupports f2_stale f7_size f1_size f5_keptSize f5_aheadSize f0_solved f4_blockCount f4_blockLength f4_lastIsFree f4_stale : Int32) (ai : Nat → Nat → Int32) (al : Nat → Nat → Int64) (w0 w1 w2 w3 : Nat) (h_f3_unknowns : (1 ≤ f3_unknowns.toInt ∧ f3_unknowns.toInt ≤ 4)) (h_f3_equations : (0 ≤ f3_equations.toInt ∧ f3_equations.toInt ≤ 3)) (h_f2_stale : (0 ≤ f2_stale.toInt ∧ f2_stale.toInt ≤ 1)) (h_f7_size : (0 ≤ f7_size.toInt ∧ f7_size.toInt ≤ 256)) (h_f1_size : (0 ≤ f1_size.toInt ∧ f1_size.toInt ≤ 4)) (h_f5_keptSize : (0 ≤ f5_keptSize.toInt ∧ f5_keptSize.toInt ≤ 128)) (h_f5_aheadSize : (0 ≤ f5_aheadSize.toInt ∧ f5_aheadSize.toInt ≤ 128)) (h_f4_blockCount : (0 ≤ f4_blockCount.toInt ∧ f4_blockCount.toInt ≤ 9261)) (h_f4_blockLength : (0 ≤ f4_blockLength.toInt ∧ f4_blockLength.toInt ≤ 21)) (h_f4_lastIsFree : (0 ≤ f4_lastIsFree.toInt ∧ f4_lastIsFree.toInt ≤ 1)) (h_f4_stale : (0 ≤ f4_stale.toInt ∧ f4_stale.toInt ≤ 1)) (hI : IAX ai) (hw_w0 : RWX ad w0) (hw_w1 : RWX ad w1) (hw_w2 : RWX ad w2) (hw_w3 : RWX ad w3) : Met l yJ7_fill_53178 (.code yJ7_fill_53178 cJ7_fill_53178 4 none :: TT) ({ frames := 2, cells := 0, slots := 0, locals := 80 } : Room) (PcS dC dI (TY cI cJ cII cJJ) [.ref (ad 28), .int 0] (WX cI cJ cII cJJ ad f3_unknowns f3_equations f2_roundSupports f2_stale f7_size f1_size f5_keptSize f5_aheadSize f0_solved f4_blockCount f4_blockLength f4_lastIsFree f4_stale ai al w0 w1 w2 w3) sz 0 g) (Q_m098_J7_fill_53178 dC dI cI cJ cII cJJ ad f3_unknowns f3_equations f2_roundSupports f2_stale f7_size f1_size f5_keptSize f5_aheadSize f0_solved f4_blockCount f4_blockLength f4_lastIsFree f4_stale ai al w0 w1 w2 w3 (va_A (WX cI cJ cII cJJ ad f3_unknowns f3_equations f2_roundSupports f2_stale f7_size f1_size f5_keptSize f5_aheadSize f0_solved f4_blockCount f4_blockLength f4_lastIsFree f4_stale ai al w0 w1 w2 w3) sz)) 0 0 (va_A (WX cI cJ cII cJJ ad f3_unknowns f3_equations f2_roundSupports f2_stale f7_size f1_size f5_keptSize f5_aheadSize f0_solved f4_blockCount f4_blockLength f4_lastIsFree f4_stale ai al w0 w1 w2 w3) sz) := by
  refine SM.of (y := yJ7_fill_53178) (maxL := 4) (av := [.ref (ad 28), .int 0]) (Q_m098_J7_fill_53178 dC dI cI cJ cII cJJ ad f3_unknowns f3_equations f2_roundSupports f2_stale f7_size f1_size f5_keptSize f5_aheadSize f0_solved f4_blockCount f4_blockLength f4_lastIsFree f4_stale ai al w0 w1 w2 w3) (by decide +kernel) (Nat.le_of_ble_eq_true rfl) (fun p e s m below meth c A ls hx hb hr hml hown hts hk hnm hA hK hP hD hS hX hl => ?_)
  have C : Cx p c s m meth (([.ref (ad 28), .int 0] : List Value).toArray) A dC dI (TY cI cJ cII cJJ) cJ7_fill_53178 none 4 RJ7 0 g := ⟨hx, hb, hr, hml, hown, hts, hk, hA, hK, hX⟩
  have hown : s.vm.findClass RJ7 = some m.cls := hown
  have hl : lv_has ls 4 [(0, .ref (ad 28)), (1, .int 0)] := hl
  obtain ⟨H, hH⟩ : ∃ q, q = s.heap := ⟨_, rfl⟩
  rw [← hH] at hP
  have hS : va_S A s.heap H [] := by rw [hH]; exact hS
  rw [← hH]
  have hF := FR_refl [28] ai
  refine lv_iconst (v := 0) hx hb dJ7_fill_53178_0 (by decide) ?_
  refine lv_istore_n (lv' := [(2, .int 0), (0, .ref (ad 28)), (1, .int 0)]) hx hb dJ7_fill_53178_1 rfl hl (by decide) rfl (fun ls_1 hl_1 => ?_)
  refine lv_aload_n hx hb dJ7_fill_53178_2 rfl (lv_at hl_1 1 rfl) ?_
  refine al_ hx hb hK hP 28 0 rfl rfl dJ7_fill_53178_3 4 rfl ?_
  refine lv_istore_n (lv' := [(3, .int 4), (2, .int 0), (0, .ref (ad 28)), (1, .int 0)]) hx hb dJ7_fill_53178_4 rfl hl_1 (by decide) rfl (fun ls_2 hl_2 => ?_)
  exact m098_J7_fill_53178_b5 C  _ 0 ai _ _ _ (by first | omega | decide | (have ka0 := (by decide +kernel : (0 : Int32).toInt = 0); omega)) (by first | omega | decide | (have ka0 := (by decide +kernel : (0 : Int32).toInt = 0); omega)) (by first | omega | decide | (have ka0 := (by decide +kernel : (0 : Int32).toInt = 0); omega)) (by first | omega | decide | (have ka0 := (by decide +kernel : (0 : Int32).toInt = 0); omega)) (by first | omega | decide | (have ka0 := (by decide +kernel : (0 : Int32).toInt = 0); omega)) (by first | omega | decide | (have ka0 := (by decide +kernel : (0 : Int32).toInt = 0); omega)) (by first | omega | decide | (have ka0 := (by decide +kernel : (0 : Int32).toInt = 0); omega)) (by first | omega | decide | (have ka0 := (by decide +kernel : (0 : Int32).toInt = 0); omega)) (by first | omega | decide | (have ka0 := (by decide +kernel : (0 : Int32).toInt = 0); omega)) (by first | omega | decide | (have ka0 := (by decide +kernel : (0 : Int32).toInt = 0); omega)) (by first | omega | decide | (have ka0 := (by decide +kernel : (0 : Int32).toInt = 0); omega)) (by first | omega | decide | (have ka0 := (by decide +kernel : (0 : Int32).toInt = 0); omega)) (j_fuel _) (by omega) hI hF hw_w0 hw_w1 hw_w2 hw_w3 hP hD hS (lv_sub hl_2 [2, 3, 1, 0] rfl)
def Q_m099_X0_searchFrom (dC : Nat → ClassId) (dI : Nat → Nat → Nat) (cI cJ cII cJJ : ClassId) (ad : Nat → Nat) (f3_unknowns f3_equations f2_roundSupports f2_stale f1_size f5_keptSize f5_aheadSize f0_solved f4_blockCount f4_blockLength f4_lastIsFree f4_stale : Int32) (ai0 : Nat → Nat → Int32) (al0 : Nat → Nat → Int64) (w0 w1 w2 w3 : Nat) : (Nat → Prop) → Array Value → State → Outcome → State → Prop := fun A => QV (fun t => ∃ (n_f7_size : Int32), ∃ (n_ai : Nat → Nat → Int32), ∃ (n_al : Nat → Nat → Int64), ((0 ≤ n_f7_size.toInt ∧ n_f7_size.toInt ≤ 256) ∧ IAX n_ai ∧ FR [28] ai0 n_ai ∧ FL [13] al0 n_al) ∧ WO dC dI (TY cI cJ cII cJJ) (WX cI cJ cII cJJ ad f3_unknowns f3_equations f2_roundSupports f2_stale n_f7_size f1_size f5_keptSize f5_aheadSize f0_solved f4_blockCount f4_blockLength f4_lastIsFree f4_stale n_ai n_al w0 w1 w2 w3) A t) A
set_option maxRecDepth 100000 in
set_option maxHeartbeats 4000000 in
theorem m099_X0_searchFrom_b28 {p : Program} {l : Launch} {e : Env} {s : State} {m : MethodId} {args : Array Value} {below : List Frame} {meth : Method} {c : Code} {A : Nat → Prop} {dC : Nat → ClassId} {dI : Nat → Nat → Nat} {cI cJ cII cJJ : ClassId} {ad : Nat → Nat} {g : Nat} {f3_unknowns f3_equations f2_roundSupports f2_stale f1_size f5_keptSize f5_aheadSize f0_solved f4_blockCount f4_blockLength f4_lastIsFree f4_stale : Int32} {ai0 : Nat → Nat → Int32} {al0 : Nat → Nat → Int64} {w0 w1 w2 w3 : Nat} (C : Cx p c s m meth args A dC dI (TY cI cJ cII cJJ) cX0_searchFrom none 4 RX0 0 g) : ∀ (L2 L3 f7_size : Int32) (ai : Nat → Nat → Int32) (al : Nat → Nat → Int64) (H : Heap) (locs : List Loc) (ls : Array Slot), L2.toInt ≤ 36 → L3.toInt ≤ 36 → (1 ≤ f3_unknowns.toInt ∧ f3_unknowns.toInt ≤ 3) → (0 ≤ f3_equations.toInt ∧ f3_equations.toInt ≤ 3) → (0 ≤ f2_stale.toInt ∧ f2_stale.toInt ≤ 1) → (0 ≤ f7_size.toInt ∧ f7_size.toInt ≤ 256) → (0 ≤ f1_size.toInt ∧ f1_size.toInt ≤ 4) → (0 ≤ f5_keptSize.toInt ∧ f5_keptSize.toInt ≤ 128) → (0 ≤ f5_aheadSize.toInt ∧ f5_aheadSize.toInt ≤ 128) → (0 ≤ f4_blockCount.toInt ∧ f4_blockCount.toInt ≤ 9261) → (0 ≤ f4_blockLength.toInt ∧ f4_blockLength.toInt ≤ 21) → (0 ≤ f4_lastIsFree.toInt ∧ f4_lastIsFree.toInt ≤ 1) → (0 ≤ f4_stale.toInt ∧ f4_stale.toInt ≤ 1) → IAX ai → FR [28] ai0 ai → FL [13] al0 al → RWX ad w0 → RWX ad w1 → RWX ad w2 → RWX ad w3 → va_P (dC, dI) vwCl (WX cI cJ cII cJJ ad f3_unknowns f3_equations f2_roundSupports f2_stale f7_size f1_size f5_keptSize f5_aheadSize f0_solved f4_blockCount f4_blockLength f4_lastIsFree f4_stale ai al w0 w1 w2 w3) H → va_D A (WX cI cJ cII cJJ ad f3_unknowns f3_equations f2_roundSupports f2_stale f7_size f1_size f5_keptSize f5_aheadSize f0_solved f4_blockCount f4_blockLength f4_lastIsFree f4_stale ai al w0 w1 w2 w3) → va_S A s.heap H locs → lv_has ls 4 [(0, .ref (ad 25)), (1, .int 3), (2, .int L2), (3, .int L3)] → W p l e ({ frames := 5, cells := 0, slots := 0, locals := 260 } : Room) s m args below meth c H locs 0 0 (MQ below (Q_m099_X0_searchFrom dC dI cI cJ cII cJJ ad f3_unknowns f3_equations f2_roundSupports f2_stale f1_size f5_keptSize f5_aheadSize f0_solved f4_blockCount f4_blockLength f4_lastIsFree f4_stale ai0 al0 w0 w1 w2 w3 A) args s 0 0 A) (F0 m 28 ls []) := by
  obtain ⟨hx, hb, hr, hml, hown, hts, hk, hA, hK, hX⟩ := id C
  intro L2 L3 f7_size ai al H locs ls h0 h1 h2 h3 h4 h5 h6 h7 h8 h9 h10 h11 h12 hI hF hG hw_w0 hw_w1 hw_w2 hw_w3 hP hD hS hl
  have ra_L2 := s_any L2
  have ra_L3 := s_any L3
  refine lv_iload_n hx hb dX0_searchFrom_28 rfl (lv_at hl 2 rfl) ?_
  refine lv_iload_n hx hb dX0_searchFrom_29 rfl (lv_at hl 3 rfl) ?_
  refine lv_icmp_ne (tgt := 54) hx hb dX0_searchFrom_30 (by decide) (fun c1 => ?_) (fun c1 => ?_)
  · have c1 := j_ne (a := L2.toInt) (b := L3.toInt) rfl rfl c1
    exact r2_v hx hb hr hk hS dX0_searchFrom_54 (fun t ht hW => ⟨f7_size, ai, al, ⟨(by first | omega | decide | exact Or.inl (by decide) | exact Or.inr (by decide) | exact Or.inr (by omega)), hI, hF, hG⟩, by rw [ht]; exact hP, va_K.moved hW.alike hK, hD⟩)
  · have c1 := j_eq (a := L2.toInt) (b := L3.toInt) rfl rfl c1
    refine lv_aload_n hx hb dX0_searchFrom_33 rfl (lv_at hl 0 rfl) ?_
    refine lv_iload_n hx hb dX0_searchFrom_34 rfl (lv_at hl 2 rfl) ?_
    have hM := m094_X0_isLeast l dC dI cI cJ cII cJJ H.size 0 ad f3_unknowns f3_equations f2_roundSupports f2_stale f7_size f1_size f5_keptSize f5_aheadSize f0_solved f4_blockCount f4_blockLength f4_lastIsFree f4_stale ai al w0 w1 w2 w3 L2 (by omega) (by omega) (by omega) (by omega) (by omega) (by omega) (by omega) (by omega) (by omega) (by omega) (by omega) hI hw_w0 hw_w1 hw_w2 hw_w3
    refine k2V_i (q0 := 25) ⟨hx, hb, hml, hown, hts⟩ hK hP hD hS hA hX cv_RX0_76 hM ⟨by decide +kernel, by decide +kernel⟩ rfl rfl (Or.inl rfl) (rest := []) rfl rfl rfl hl.1 rfl (Nat.le_of_ble_eq_true rfl) dX0_searchFrom_35 ⟨Nat.le_of_ble_eq_true rfl, Nat.le_of_ble_eq_true rfl⟩ (fun r2 t H1 locs_1 ht hB hS_1 hFc => ?_)
    obtain ⟨gpr2_0, hP_2, -, hD_2⟩ := hB
    rw [ht] at hP_2
    have hD_3 := hD_2.weaken (B := A) (fun k q _ h9 => hFc q.1 h9)
    clear ht
    generalize H1 = H_4 at hP_2 hS_1 ⊢
    refine lv_if_eq (tgt := 54) hx hb dX0_searchFrom_38 (by decide) (fun c3 => ?_) (fun c3 => ?_)
    · have c3 := j_eq (a := r2.toInt) (b := 0) rfl (by decide +kernel) c3
      exact r2_v hx hb hr hk hS_1 dX0_searchFrom_54 (fun t ht hW => ⟨f7_size, ai, al, ⟨(by first | omega | decide | exact Or.inl (by decide) | exact Or.inr (by decide) | exact Or.inr (by omega)), hI, hF, hG⟩, by rw [ht]; exact hP_2, va_K.moved hW.alike hK, hD_3⟩)
    · have c3 := j_ne (a := r2.toInt) (b := 0) rfl (by decide +kernel) c3
      refine lv_aload_n hx hb dX0_searchFrom_41 rfl (lv_at hl 0 rfl) ?_
      refine gf (k := 1) hx hb hts inX0 hown hK hP_2 k_157 rfl (by decide) rfl 25 rfl (.ref (ad 12)) rfl dX0_searchFrom_42 ?_
      refine lv_aload_n hx hb dX0_searchFrom_45 rfl (lv_at hl 0 rfl) ?_
      refine gf (k := 4) hx hb hts inX0 hown hK hP_2 k_160 rfl (by decide) rfl 25 rfl (.ref (ad 28)) rfl dX0_searchFrom_46 ?_
      refine lv_iconst (v := 0) hx hb dX0_searchFrom_49 (by decide) ?_
      refine lv_iconst (v := 1) hx hb dX0_searchFrom_50 (by decide) ?_
      have kc0 : (0 : Int32).toInt = 0 := by decide +kernel
      have kc1 : (1 : Int32).toInt = 1 := by decide +kernel
      have hM := m095_X7_append l dC dI cI cJ cII cJJ H_4.size 0 ad f3_unknowns f3_equations f2_roundSupports f2_stale f7_size f1_size f5_keptSize f5_aheadSize f0_solved f4_blockCount f4_blockLength f4_lastIsFree f4_stale ai al w0 w1 w2 w3 0 1 (by omega) (by omega) (by omega) (by omega) (by omega) (by omega) (by omega) (by omega) (by omega) (by omega) (by omega) hI hw_w0 hw_w1 hw_w2 hw_w3
      refine k2V_v (q0 := 12) ⟨hx, hb, hml, hown, hts⟩ hK hP_2 hD_3 hS_1 hA hX cv_RX0_80 hM ⟨by decide +kernel, by decide +kernel⟩ rfl rfl (Or.inl rfl) (rest := []) rfl rfl rfl hl.1 rfl (Nat.le_of_ble_eq_true rfl) dX0_searchFrom_51 ⟨Nat.le_of_ble_eq_true rfl, Nat.le_of_ble_eq_true rfl⟩ (fun t H1 locs_5 ht hB hS_5 hFc => ?_)
      obtain ⟨v5, al6, ⟨gpr4_0, hGr_r4⟩, hP_6, -, hD_6⟩ := hB
      have hG_7 := FL_tr hG hGr_r4 (by decide)
      rw [ht] at hP_6
      have hD_8 := hD_6.weaken (B := A) (fun k q _ h9 => hFc q.1 h9)
      clear ht
      generalize H1 = H_9 at hP_6 hS_5 ⊢
      exact r2_v hx hb hr hk hS_5 dX0_searchFrom_54 (fun t ht hW => ⟨v5, ai, al6, ⟨(by first | omega | decide | exact Or.inl (by decide) | exact Or.inr (by decide) | exact Or.inr (by omega)), hI, hF, hG_7⟩, by rw [ht]; exact hP_6, va_K.moved hW.alike hK, hD_8⟩)
set_option maxRecDepth 100000 in
set_option maxHeartbeats 4000000 in
theorem m099_X0_searchFrom (l : Launch) (dC : Nat → ClassId) (dI : Nat → Nat → Nat) (cI cJ cII cJJ : ClassId) (sz g : Nat) (ad : Nat → Nat) (f3_unknowns f3_equations f2_roundSupports f2_stale f7_size f1_size f5_keptSize f5_aheadSize f0_solved f4_blockCount f4_blockLength f4_lastIsFree f4_stale : Int32) (ai : Nat → Nat → Int32) (al : Nat → Nat → Int64) (w0 w1 w2 w3 : Nat) (x2 : Int32) (x3 : Int32) (h_f3_unknowns : (1 ≤ f3_unknowns.toInt ∧ f3_unknowns.toInt ≤ 4)) (h_f3_equations : (0 ≤ f3_equations.toInt ∧ f3_equations.toInt ≤ 3)) (h_f2_stale : (0 ≤ f2_stale.toInt ∧ f2_stale.toInt ≤ 1)) (h_f7_size : (0 ≤ f7_size.toInt ∧ f7_size.toInt ≤ 256)) (h_f1_size : (0 ≤ f1_size.toInt ∧ f1_size.toInt ≤ 4)) (h_f5_keptSize : (0 ≤ f5_keptSize.toInt ∧ f5_keptSize.toInt ≤ 128)) (h_f5_aheadSize : (0 ≤ f5_aheadSize.toInt ∧ f5_aheadSize.toInt ≤ 128)) (h_f4_blockCount : (0 ≤ f4_blockCount.toInt ∧ f4_blockCount.toInt ≤ 9261)) (h_f4_blockLength : (0 ≤ f4_blockLength.toInt ∧ f4_blockLength.toInt ≤ 21)) (h_f4_lastIsFree : (0 ≤ f4_lastIsFree.toInt ∧ f4_lastIsFree.toInt ≤ 1)) (h_f4_stale : (0 ≤ f4_stale.toInt ∧ f4_stale.toInt ≤ 1)) (hI : IAX ai) (hw_w0 : RWX ad w0) (hw_w1 : RWX ad w1) (hw_w2 : RWX ad w2) (hw_w3 : RWX ad w3) : Met l yX0_searchFrom (.code yX0_searchFrom cX0_searchFrom 4 none :: TT) ({ frames := 5, cells := 0, slots := 0, locals := 260 } : Room) (PcS dC dI (TY cI cJ cII cJJ) [.ref (ad 25), .int 3, .int x2, .int x3] (WX cI cJ cII cJJ ad f3_unknowns f3_equations f2_roundSupports f2_stale f7_size f1_size f5_keptSize f5_aheadSize f0_solved f4_blockCount f4_blockLength f4_lastIsFree f4_stale ai al w0 w1 w2 w3) sz 0 g) (Q_m099_X0_searchFrom dC dI cI cJ cII cJJ ad f3_unknowns f3_equations f2_roundSupports f2_stale f1_size f5_keptSize f5_aheadSize f0_solved f4_blockCount f4_blockLength f4_lastIsFree f4_stale ai al w0 w1 w2 w3 (va_A (WX cI cJ cII cJJ ad f3_unknowns f3_equations f2_roundSupports f2_stale f7_size f1_size f5_keptSize f5_aheadSize f0_solved f4_blockCount f4_blockLength f4_lastIsFree f4_stale ai al w0 w1 w2 w3) sz)) 0 0 (va_A (WX cI cJ cII cJJ ad f3_unknowns f3_equations f2_roundSupports f2_stale f7_size f1_size f5_keptSize f5_aheadSize f0_solved f4_blockCount f4_blockLength f4_lastIsFree f4_stale ai al w0 w1 w2 w3) sz) := by
  refine SM.of (y := yX0_searchFrom) (maxL := 4) (av := [.ref (ad 25), .int 3, .int x2, .int x3]) (Q_m099_X0_searchFrom dC dI cI cJ cII cJJ ad f3_unknowns f3_equations f2_roundSupports f2_stale f1_size f5_keptSize f5_aheadSize f0_solved f4_blockCount f4_blockLength f4_lastIsFree f4_stale ai al w0 w1 w2 w3) (by decide +kernel) (Nat.le_of_ble_eq_true rfl) (fun p e s m below meth c A ls hx hb hr hml hown hts hk hnm hA hK hP hD hS hX hl => ?_)
  have C : Cx p c s m meth (([.ref (ad 25), .int 3, .int x2, .int x3] : List Value).toArray) A dC dI (TY cI cJ cII cJJ) cX0_searchFrom none 4 RX0 0 g := ⟨hx, hb, hr, hml, hown, hts, hk, hA, hK, hX⟩
  have hown : s.vm.findClass RX0 = some m.cls := hown
  have hl : lv_has ls 4 [(0, .ref (ad 25)), (1, .int 3), (2, .int x2), (3, .int x3)] := hl
  obtain ⟨H, hH⟩ : ∃ q, q = s.heap := ⟨_, rfl⟩
  rw [← hH] at hP
  have hS : va_S A s.heap H [] := by rw [hH]; exact hS
  rw [← hH]
  have hF := FR_refl [28] ai
  have hG := FL_refl [13] al
  have ra_x2 := s_any x2
  have ra_x3 := s_any x3
  refine lv_iload_n hx hb dX0_searchFrom_0 rfl (lv_at hl 2 rfl) ?_
  refine lv_bipush (v := 36) hx hb dX0_searchFrom_1 (by decide) ?_
  refine lv_icmp_gt (tgt := 12) hx hb dX0_searchFrom_3 (by decide) (fun c1 => ?_) (fun c1 => ?_)
  · have c1 := j_lt (a := 36) (b := x2.toInt) (by decide +kernel) rfl c1
    exact r2_v hx hb hr hk hS dX0_searchFrom_12 (fun t ht hW => ⟨f7_size, ai, al, ⟨(by first | omega | decide | exact Or.inl (by decide) | exact Or.inr (by decide) | exact Or.inr (by omega)), hI, hF, hG⟩, by rw [ht]; exact hP, va_K.moved hW.alike hK, hD⟩)
  · have c1 := j_nlt (a := 36) (b := x2.toInt) (by decide +kernel) rfl c1
    refine lv_iload_n hx hb dX0_searchFrom_6 rfl (lv_at hl 3 rfl) ?_
    refine lv_bipush (v := 36) hx hb dX0_searchFrom_7 (by decide) ?_
    refine lv_icmp_le (tgt := 13) hx hb dX0_searchFrom_9 (by decide) (fun c2 => ?_) (fun c2 => ?_)
    · have c2 := j_le (a := x3.toInt) (b := 36) rfl (by decide +kernel) c2
      refine lv_iload_n hx hb dX0_searchFrom_13 rfl (lv_at hl 1 rfl) ?_
      refine f_if_lt hx hb dX0_searchFrom_14 28 (by decide) (by decide +kernel) ?_
      refine lv_iload_n hx hb dX0_searchFrom_17 rfl (lv_at hl 1 rfl) ?_
      refine lv_aload_n hx hb dX0_searchFrom_18 rfl (lv_at hl 0 rfl) ?_
      refine gf (k := 0) hx hb hts inX0 hown hK hP k_156 rfl (by decide) rfl 25 rfl (.ref (ad 6)) rfl dX0_searchFrom_19 ?_
      refine gf (k := 0) hx hb hts inX3 hown hK hP k_40 rfl (by decide) rfl 6 rfl (.int f3_unknowns) rfl dX0_searchFrom_22 ?_
      refine lv_icmp_lt (tgt := 55) hx hb dX0_searchFrom_25 (by decide) (fun c3 => ?_) (fun c3 => ?_)
      · have c3 := j_lt (a := 3) (b := f3_unknowns.toInt) (by decide +kernel) rfl c3
        refine lv_aload_n hx hb dX0_searchFrom_55 rfl (lv_at hl 0 rfl) ?_
        refine lv_iload_n hx hb dX0_searchFrom_56 rfl (lv_at hl 1 rfl) ?_
        refine lv_iload_n hx hb dX0_searchFrom_57 rfl (lv_at hl 2 rfl) ?_
        refine lv_iload_n hx hb dX0_searchFrom_58 rfl (lv_at hl 3 rfl) ?_
        have kc3 : (3 : Int32).toInt = 3 := by decide +kernel
        have hM := m097_X0_tryNumbers l dC dI cI cJ cII cJJ H.size 0 ad f3_unknowns f3_equations f2_roundSupports f2_stale f7_size f1_size f5_keptSize f5_aheadSize f0_solved f4_blockCount f4_blockLength f4_lastIsFree f4_stale ai al w0 w1 w2 w3 x2 x3 (by omega) (by omega) (by omega) (by omega) (by omega) (by omega) (by omega) (by omega) (by omega) (by omega) (by omega) hI hw_w0 hw_w1 hw_w2 hw_w3
        refine k2V_v (q0 := 25) ⟨hx, hb, hml, hown, hts⟩ hK hP hD hS hA hX cv_RX0_86 hM ⟨by decide +kernel, by decide +kernel⟩ rfl rfl (Or.inl rfl) (rest := []) rfl rfl rfl hl.1 rfl (Nat.le_of_ble_eq_true rfl) dX0_searchFrom_59 ⟨Nat.le_of_ble_eq_true rfl, Nat.le_of_ble_eq_true rfl⟩ (fun t H1 locs_1 ht hB hS_1 hFc => ?_)
        obtain ⟨v5, ai6, al7, ⟨gpr4_0, hI_2, hFr_r4, hGr_r4⟩, hP_2, -, hD_2⟩ := hB
        have hF_3 := FR_tr hF hFr_r4 (by decide)
        have hG_4 := FL_tr hG hGr_r4 (by decide)
        rw [ht] at hP_2
        have hD_5 := hD_2.weaken (B := A) (fun k q _ h9 => hFc q.1 h9)
        clear ht
        generalize H1 = H_6 at hP_2 hS_1 ⊢
        exact r2_v hx hb hr hk hS_1 dX0_searchFrom_62 (fun t ht hW => ⟨v5, ai6, al7, ⟨(by first | omega | decide | exact Or.inl (by decide) | exact Or.inr (by decide) | exact Or.inr (by omega)), hI_2, hF_3, hG_4⟩, by rw [ht]; exact hP_2, va_K.moved hW.alike hK, hD_5⟩)
      · have c3 := j_nlt (a := 3) (b := f3_unknowns.toInt) (by decide +kernel) rfl c3
        exact m099_X0_searchFrom_b28 C  x2 x3 f7_size ai al _ _ _ (by omega) (by omega) (by omega) (by omega) (by omega) (by omega) (by omega) (by omega) (by omega) (by omega) (by omega) (by omega) (by omega) hI hF hG hw_w0 hw_w1 hw_w2 hw_w3 hP hD hS (lv_sub hl [0, 1, 2, 3] rfl)
    · have c2 := j_nle (a := x3.toInt) (b := 36) rfl (by decide +kernel) c2
      exact r2_v hx hb hr hk hS dX0_searchFrom_12 (fun t ht hW => ⟨f7_size, ai, al, ⟨(by first | omega | decide | exact Or.inl (by decide) | exact Or.inr (by decide) | exact Or.inr (by omega)), hI, hF, hG⟩, by rw [ht]; exact hP, va_K.moved hW.alike hK, hD⟩)
def Q_m100_X0_tryNumbers (dC : Nat → ClassId) (dI : Nat → Nat → Nat) (cI cJ cII cJJ : ClassId) (ad : Nat → Nat) (f3_unknowns f3_equations f2_roundSupports f2_stale f1_size f5_keptSize f5_aheadSize f0_solved f4_blockCount f4_blockLength f4_lastIsFree f4_stale : Int32) (ai0 : Nat → Nat → Int32) (al0 : Nat → Nat → Int64) (w0 w1 w2 w3 : Nat) : (Nat → Prop) → Array Value → State → Outcome → State → Prop := fun A => QV (fun t => ∃ (n_f7_size : Int32), ∃ (n_ai : Nat → Nat → Int32), ∃ (n_al : Nat → Nat → Int64), ((0 ≤ n_f7_size.toInt ∧ n_f7_size.toInt ≤ 256) ∧ IAX n_ai ∧ FR [28] ai0 n_ai ∧ FL [13] al0 n_al) ∧ WO dC dI (TY cI cJ cII cJJ) (WX cI cJ cII cJJ ad f3_unknowns f3_equations f2_roundSupports f2_stale n_f7_size f1_size f5_keptSize f5_aheadSize f0_solved f4_blockCount f4_blockLength f4_lastIsFree f4_stale n_ai n_al w0 w1 w2 w3) A t) A
set_option maxRecDepth 100000 in
set_option maxHeartbeats 4000000 in
theorem m100_X0_tryNumbers_b68 {p : Program} {l : Launch} {e : Env} {s : State} {m : MethodId} {args : Array Value} {below : List Frame} {meth : Method} {c : Code} {A : Nat → Prop} {dC : Nat → ClassId} {dI : Nat → Nat → Nat} {cI cJ cII cJJ : ClassId} {ad : Nat → Nat} {g : Nat} {f3_unknowns f3_equations f2_roundSupports f2_stale f1_size f5_keptSize f5_aheadSize f0_solved f4_blockCount f4_blockLength f4_lastIsFree f4_stale : Int32} {ai0 : Nat → Nat → Int32} {al0 : Nat → Nat → Int64} {w0 w1 w2 w3 : Nat} (C : Cx p c s m meth args A dC dI (TY cI cJ cII cJJ) cX0_tryNumbers none 9 RX0 0 g) : ∀ (n : Nat), ∀ (L2 L3 L4 L5 L6 L7 f7_size : Int32) (ai : Nat → Nat → Int32) (al : Nat → Nat → Int64) (H : Heap) (locs : List Loc) (ls : Array Slot), (-6 ≤ L4.toInt ∧ L4.toInt ≤ 6) → -6 ≤ L5.toInt → L6.toInt ≤ 6 → -6 ≤ L7.toInt → (1 ≤ f3_unknowns.toInt ∧ f3_unknowns.toInt ≤ 4) → (0 ≤ f3_equations.toInt ∧ f3_equations.toInt ≤ 3) → (0 ≤ f2_stale.toInt ∧ f2_stale.toInt ≤ 1) → (0 ≤ f7_size.toInt ∧ f7_size.toInt ≤ 256) → (0 ≤ f1_size.toInt ∧ f1_size.toInt ≤ 4) → (0 ≤ f5_keptSize.toInt ∧ f5_keptSize.toInt ≤ 128) → (0 ≤ f5_aheadSize.toInt ∧ f5_aheadSize.toInt ≤ 128) → (0 ≤ f4_blockCount.toInt ∧ f4_blockCount.toInt ≤ 9261) → (0 ≤ f4_blockLength.toInt ∧ f4_blockLength.toInt ≤ 21) → (0 ≤ f4_lastIsFree.toInt ∧ f4_lastIsFree.toInt ≤ 1) → (0 ≤ f4_stale.toInt ∧ f4_stale.toInt ≤ 1) → L6.toInt + 1 - L7.toInt < (n : Int) → (0 : Int) < (n : Int) → IAX ai → FR [28] ai0 ai → FL [13] al0 al → RWX ad w0 → RWX ad w1 → RWX ad w2 → RWX ad w3 → va_P (dC, dI) vwCl (WX cI cJ cII cJJ ad f3_unknowns f3_equations f2_roundSupports f2_stale f7_size f1_size f5_keptSize f5_aheadSize f0_solved f4_blockCount f4_blockLength f4_lastIsFree f4_stale ai al w0 w1 w2 w3) H → va_D A (WX cI cJ cII cJJ ad f3_unknowns f3_equations f2_roundSupports f2_stale f7_size f1_size f5_keptSize f5_aheadSize f0_solved f4_blockCount f4_blockLength f4_lastIsFree f4_stale ai al w0 w1 w2 w3) → va_S A s.heap H locs → lv_has ls 9 [(0, .ref (ad 25)), (1, .int 2), (2, .int L2), (3, .int L3), (4, .int L4), (5, .int L5), (6, .int L6), (7, .int L7)] → W p l e ({ frames := 6, cells := 0, slots := 0, locals := 320 } : Room) s m args below meth c H locs 0 0 (MQ below (Q_m100_X0_tryNumbers dC dI cI cJ cII cJJ ad f3_unknowns f3_equations f2_roundSupports f2_stale f1_size f5_keptSize f5_aheadSize f0_solved f4_blockCount f4_blockLength f4_lastIsFree f4_stale ai0 al0 w0 w1 w2 w3 A) args s 0 0 A) (F0 m 68 ls []) := by
  obtain ⟨hx, hb, hr, hml, hown, hts, hk, hA, hK, hX⟩ := id C
  intro n
  induction n with
  | zero =>
    intro L2 L3 L4 L5 L6 L7 f7_size ai al H locs ls h0 h1 h2 h3 h4 h5 h6 h7 h8 h9 h10 h11 h12 h13 h14 h15 h16 hI hF hG hw_w0 hw_w1 hw_w2 hw_w3 hP hD hS hl
    exact absurd h16 (by omega)
  | succ n ih =>
    intro L2 L3 L4 L5 L6 L7 f7_size ai al H locs ls h0 h1 h2 h3 h4 h5 h6 h7 h8 h9 h10 h11 h12 h13 h14 h15 h16 hI hF hG hw_w0 hw_w1 hw_w2 hw_w3 hP hD hS hl
    have ra_L2 := s_any L2
    have ra_L3 := s_any L3
    have ra_L5 := s_any L5
    have ra_L6 := s_any L6
    have ra_L7 := s_any L7
    refine lv_iload hx hb dX0_tryNumbers_68 (lv_at hl 7 rfl) ?_
    refine lv_iload hx hb dX0_tryNumbers_70 (lv_at hl 6 rfl) ?_
    refine lv_icmp_gt (tgt := 120) hx hb dX0_tryNumbers_72 (by decide) (fun c1 => ?_) (fun c1 => ?_)
    · have c1 := j_lt (a := L6.toInt) (b := L7.toInt) rfl rfl c1
      exact r2_v hx hb hr hk hS dX0_tryNumbers_120 (fun t ht hW => ⟨f7_size, ai, al, ⟨(by first | omega | decide | exact Or.inl (by decide) | exact Or.inr (by decide) | exact Or.inr (by omega)), hI, hF, hG⟩, by rw [ht]; exact hP, va_K.moved hW.alike hK, hD⟩)
    · have c1 := j_nlt (a := L6.toInt) (b := L7.toInt) rfl rfl c1
      refine lv_iload hx hb dX0_tryNumbers_75 (lv_at hl 4 rfl) ?_
      refine lv_iload hx hb dX0_tryNumbers_77 (lv_at hl 7 rfl) ?_
      refine v_imul hx hb dX0_tryNumbers_79 _ rfl ?_
      refine lv_topi (fun z2 e_z2 => ?_)
      refine lv_istore (lv' := [(8, .int z2), (0, .ref (ad 25)), (1, .int 2), (2, .int L2), (3, .int L3), (4, .int L4), (5, .int L5), (6, .int L6), (7, .int L7)]) hx hb dX0_tryNumbers_80 hl (by decide) rfl (fun ls_1 hl_1 => ?_)
      refine lv_aload_n hx hb dX0_tryNumbers_82 rfl (lv_at hl_1 1 rfl) ?_
      refine gf (k := 4) hx hb hts inX0 hown hK hP k_160 rfl (by decide) rfl 25 rfl (.ref (ad 28)) rfl dX0_tryNumbers_83 ?_
      refine lv_iload_n hx hb dX0_tryNumbers_86 rfl (lv_at hl_1 2 rfl) ?_
      refine lv_iload hx hb dX0_tryNumbers_87 (lv_at hl_1 8 rfl) ?_
      refine va_iast hx hb hK hP hD hS 28 0 rfl rfl (vin (by decide +kernel)) dX0_tryNumbers_89 (fun H_2 locs_2 hP_2 hD_2 hS_2 => ?_)
      obtain ⟨ai3, e_ai3⟩ : ∃ q : Nat → Nat → Int32, q = va_up ai 28 (upd (ai 28) (2 : Int32).toNatClampNeg L7) := ⟨_, rfl⟩
      have hF_3 := FR_st hF e_ai3 (by decide)
      have hI_4 : IAX ai3 := by rw [e_ai3]; exact hI
      have hP_5 : va_P (dC, dI) vwCl (WX cI cJ cII cJJ ad f3_unknowns f3_equations f2_roundSupports f2_stale f7_size f1_size f5_keptSize f5_aheadSize f0_solved f4_blockCount f4_blockLength f4_lastIsFree f4_stale ai3 al w0 w1 w2 w3) H_2 := by rw [e_ai3]; exact hP_2
      have hD_6 : va_D A (WX cI cJ cII cJJ ad f3_unknowns f3_equations f2_roundSupports f2_stale f7_size f1_size f5_keptSize f5_aheadSize f0_solved f4_blockCount f4_blockLength f4_lastIsFree f4_stale ai3 al w0 w1 w2 w3) := by rw [e_ai3]; exact hD_2
      refine lv_aload_n hx hb dX0_tryNumbers_90 rfl (lv_at hl_1 1 rfl) ?_
      refine lv_iload_n hx hb dX0_tryNumbers_91 rfl (lv_at hl_1 2 rfl) ?_
      refine lv_iconst (v := 1) hx hb dX0_tryNumbers_92 (by decide) ?_
      refine v_iadd hx hb dX0_tryNumbers_93 3 (by decide +kernel) ?_
      refine lv_iload_n hx hb dX0_tryNumbers_94 rfl (lv_at hl_1 3 rfl) ?_
      refine lv_iload hx hb dX0_tryNumbers_95 (lv_at hl_1 0 rfl) ?_
      refine lv_iconst (v := 0) hx hb dX0_tryNumbers_97 (by decide) ?_
      refine va_mmax hx hb (by rw [hml]; exact hl_1.1.symm) hown (hts _ k_444) (hts _ k_445) (hts _ k_13) (hts _ k_446) (by decide) (Nat.le_of_ble_eq_true rfl) (Nat.le_of_ble_eq_true rfl) (Nat.le_of_ble_eq_true rfl) dX0_tryNumbers_98 ?_
      refine lv_topi (fun z4 e_z4 => ?_)
      have g_z4 : (z4.toInt = z2.toInt ∨ z4.toInt = 0) ∧ z2.toInt ≤ z4.toInt ∧ 0 ≤ z4.toInt := by rw [e_z4]; exact n_max (a := z2.toInt) (b := 0) rfl (by decide +kernel)
      refine v_iadd hx hb dX0_tryNumbers_101 _ rfl ?_
      refine lv_topi (fun z5 e_z5 => ?_)
      refine lv_iload_n hx hb dX0_tryNumbers_102 rfl (lv_at hl_1 4 rfl) ?_
      refine lv_iload hx hb dX0_tryNumbers_103 (lv_at hl_1 0 rfl) ?_
      refine v_ineg hx hb dX0_tryNumbers_105 _ rfl ?_
      refine lv_topi (fun z6 e_z6 => ?_)
      refine lv_iconst (v := 0) hx hb dX0_tryNumbers_106 (by decide) ?_
      refine va_mmax hx hb (by rw [hml]; exact hl_1.1.symm) hown (hts _ k_444) (hts _ k_445) (hts _ k_13) (hts _ k_446) (by decide) (Nat.le_of_ble_eq_true rfl) (Nat.le_of_ble_eq_true rfl) (Nat.le_of_ble_eq_true rfl) dX0_tryNumbers_107 ?_
      refine lv_topi (fun z7 e_z7 => ?_)
      have g_z7 : (z7.toInt = z6.toInt ∨ z7.toInt = 0) ∧ z6.toInt ≤ z7.toInt ∧ 0 ≤ z7.toInt := by rw [e_z7]; exact n_max (a := z6.toInt) (b := 0) rfl (by decide +kernel)
      refine v_iadd hx hb dX0_tryNumbers_110 _ rfl ?_
      refine lv_topi (fun z8 e_z8 => ?_)
      have kc3 : (3 : Int32).toInt = 3 := by decide +kernel
      have hM := m099_X0_searchFrom l dC dI cI cJ cII cJJ H_2.size 0 ad f3_unknowns f3_equations f2_roundSupports f2_stale f7_size f1_size f5_keptSize f5_aheadSize f0_solved f4_blockCount f4_blockLength f4_lastIsFree f4_stale ai3 al w0 w1 w2 w3 z5 z8 (by omega) (by omega) (by omega) (by omega) (by omega) (by omega) (by omega) (by omega) (by omega) (by omega) (by omega) hI_4 hw_w0 hw_w1 hw_w2 hw_w3
      refine k2V_v (q0 := 25) ⟨hx, hb, hml, hown, hts⟩ hK hP_5 hD_6 hS_2 hA hX cv_RX0_51 hM ⟨by decide +kernel, by decide +kernel⟩ rfl rfl (Or.inl rfl) (rest := []) rfl rfl rfl hl_1.1 rfl (Nat.le_of_ble_eq_true rfl) dX0_tryNumbers_111 ⟨Nat.le_of_ble_eq_true rfl, Nat.le_of_ble_eq_true rfl⟩ (fun t H1 locs_7 ht hB hS_7 hFc => ?_)
      obtain ⟨v10, ai11, al12, ⟨gpr9_0, hI_8, hFr_r9, hGr_r9⟩, hP_8, -, hD_8⟩ := hB
      have hF_9 := FR_tr hF_3 hFr_r9 (by decide)
      have hG_10 := FL_tr hG hGr_r9 (by decide)
      rw [ht] at hP_8
      have hD_11 := hD_8.weaken (B := A) (fun k q _ h9 => hFc q.1 h9)
      clear ht
      generalize H1 = H_12 at hP_8 hS_7 ⊢
      obtain ⟨z13, e_z13⟩ : ∃ q : Int32, q = L7 + Int32.ofInt 1 := ⟨_, rfl⟩
      have g_z13 : z13.toInt = L7.toInt + 1 := by rw [e_z13]; exact n_add (a := L7.toInt) (b := 1) rfl (by decide +kernel) (by omega) (by omega)
      refine lv_iinc (v := z13) (lv' := [(7, .int z13), (8, .int z2), (0, .ref (ad 25)), (1, .int 2), (2, .int L2), (3, .int L3), (4, .int L4), (5, .int L5), (6, .int L6)]) hx hb dX0_tryNumbers_114 hl_1 (k := 8) rfl e_z13.symm (by decide) rfl (fun ls_13 hl_13 => ?_)
      refine lv_goto (tgt := 68) hx hb dX0_tryNumbers_117 (by decide) ?_
      exact ih L2 L3 L4 L5 L6 z13 v10 ai11 al12 _ _ _ (by omega) (by omega) (by omega) (by omega) (by omega) (by omega) (by omega) (by omega) (by omega) (by omega) (by omega) (by omega) (by omega) (by omega) (by omega) (by omega) (by omega) hI_8 hF_9 hG_10 hw_w0 hw_w1 hw_w2 hw_w3 hP_8 hD_11 hS_7 (lv_sub hl_13 [2, 3, 4, 5, 6, 7, 8, 0] rfl)
set_option maxRecDepth 100000 in
set_option maxHeartbeats 4000000 in
theorem m100_X0_tryNumbers_b64 {p : Program} {l : Launch} {e : Env} {s : State} {m : MethodId} {args : Array Value} {below : List Frame} {meth : Method} {c : Code} {A : Nat → Prop} {dC : Nat → ClassId} {dI : Nat → Nat → Nat} {cI cJ cII cJJ : ClassId} {ad : Nat → Nat} {g : Nat} {f3_unknowns f3_equations f2_roundSupports f2_stale f1_size f5_keptSize f5_aheadSize f0_solved f4_blockCount f4_blockLength f4_lastIsFree f4_stale : Int32} {ai0 : Nat → Nat → Int32} {al0 : Nat → Nat → Int64} {w0 w1 w2 w3 : Nat} (C : Cx p c s m meth args A dC dI (TY cI cJ cII cJJ) cX0_tryNumbers none 9 RX0 0 g) : ∀ (L2 L3 L4 L5 L6 f7_size : Int32) (ai : Nat → Nat → Int32) (al : Nat → Nat → Int64) (H : Heap) (locs : List Loc) (ls : Array Slot), (-6 ≤ L4.toInt ∧ L4.toInt ≤ 6) → -6 ≤ L5.toInt → L6.toInt ≤ 6 → (1 ≤ f3_unknowns.toInt ∧ f3_unknowns.toInt ≤ 4) → (0 ≤ f3_equations.toInt ∧ f3_equations.toInt ≤ 3) → (0 ≤ f2_stale.toInt ∧ f2_stale.toInt ≤ 1) → (0 ≤ f7_size.toInt ∧ f7_size.toInt ≤ 256) → (0 ≤ f1_size.toInt ∧ f1_size.toInt ≤ 4) → (0 ≤ f5_keptSize.toInt ∧ f5_keptSize.toInt ≤ 128) → (0 ≤ f5_aheadSize.toInt ∧ f5_aheadSize.toInt ≤ 128) → (0 ≤ f4_blockCount.toInt ∧ f4_blockCount.toInt ≤ 9261) → (0 ≤ f4_blockLength.toInt ∧ f4_blockLength.toInt ≤ 21) → (0 ≤ f4_lastIsFree.toInt ∧ f4_lastIsFree.toInt ≤ 1) → (0 ≤ f4_stale.toInt ∧ f4_stale.toInt ≤ 1) → IAX ai → FR [28] ai0 ai → FL [13] al0 al → RWX ad w0 → RWX ad w1 → RWX ad w2 → RWX ad w3 → va_P (dC, dI) vwCl (WX cI cJ cII cJJ ad f3_unknowns f3_equations f2_roundSupports f2_stale f7_size f1_size f5_keptSize f5_aheadSize f0_solved f4_blockCount f4_blockLength f4_lastIsFree f4_stale ai al w0 w1 w2 w3) H → va_D A (WX cI cJ cII cJJ ad f3_unknowns f3_equations f2_roundSupports f2_stale f7_size f1_size f5_keptSize f5_aheadSize f0_solved f4_blockCount f4_blockLength f4_lastIsFree f4_stale ai al w0 w1 w2 w3) → va_S A s.heap H locs → lv_has ls 9 [(0, .ref (ad 25)), (1, .int 2), (2, .int L2), (3, .int L3), (4, .int L4), (5, .int L5), (6, .int L6)] → W p l e ({ frames := 6, cells := 0, slots := 0, locals := 320 } : Room) s m args below meth c H locs 0 0 (MQ below (Q_m100_X0_tryNumbers dC dI cI cJ cII cJJ ad f3_unknowns f3_equations f2_roundSupports f2_stale f1_size f5_keptSize f5_aheadSize f0_solved f4_blockCount f4_blockLength f4_lastIsFree f4_stale ai0 al0 w0 w1 w2 w3 A) args s 0 0 A) (F0 m 64 ls []) := by
  obtain ⟨hx, hb, hr, hml, hown, hts, hk, hA, hK, hX⟩ := id C
  intro L2 L3 L4 L5 L6 f7_size ai al H locs ls h0 h1 h2 h3 h4 h5 h6 h7 h8 h9 h10 h11 h12 h13 hI hF hG hw_w0 hw_w1 hw_w2 hw_w3 hP hD hS hl
  have ra_L2 := s_any L2
  have ra_L3 := s_any L3
  have ra_L5 := s_any L5
  have ra_L6 := s_any L6
  refine lv_iload hx hb dX0_tryNumbers_64 (lv_at hl 5 rfl) ?_
  refine lv_istore (lv' := [(7, .int L5), (0, .ref (ad 25)), (1, .int 2), (2, .int L2), (3, .int L3), (4, .int L4), (5, .int L5), (6, .int L6)]) hx hb dX0_tryNumbers_66 hl (by decide) rfl (fun ls_1 hl_1 => ?_)
  exact m100_X0_tryNumbers_b68 C  _ L2 L3 L4 L5 L6 L5 f7_size ai al _ _ _ (by omega) (by omega) (by omega) (by omega) (by omega) (by omega) (by omega) (by omega) (by omega) (by omega) (by omega) (by omega) (by omega) (by omega) (by omega) (j_fuel _) (by omega) hI hF hG hw_w0 hw_w1 hw_w2 hw_w3 hP hD hS (lv_sub hl_1 [1, 2, 3, 4, 5, 6, 7, 0] rfl)
set_option maxRecDepth 100000 in
set_option maxHeartbeats 4000000 in
theorem m100_X0_tryNumbers (l : Launch) (dC : Nat → ClassId) (dI : Nat → Nat → Nat) (cI cJ cII cJJ : ClassId) (sz g : Nat) (ad : Nat → Nat) (f3_unknowns f3_equations f2_roundSupports f2_stale f7_size f1_size f5_keptSize f5_aheadSize f0_solved f4_blockCount f4_blockLength f4_lastIsFree f4_stale : Int32) (ai : Nat → Nat → Int32) (al : Nat → Nat → Int64) (w0 w1 w2 w3 : Nat) (x2 : Int32) (x3 : Int32) (h_f3_unknowns : (1 ≤ f3_unknowns.toInt ∧ f3_unknowns.toInt ≤ 4)) (h_f3_equations : (0 ≤ f3_equations.toInt ∧ f3_equations.toInt ≤ 3)) (h_f2_stale : (0 ≤ f2_stale.toInt ∧ f2_stale.toInt ≤ 1)) (h_f7_size : (0 ≤ f7_size.toInt ∧ f7_size.toInt ≤ 256)) (h_f1_size : (0 ≤ f1_size.toInt ∧ f1_size.toInt ≤ 4)) (h_f5_keptSize : (0 ≤ f5_keptSize.toInt ∧ f5_keptSize.toInt ≤ 128)) (h_f5_aheadSize : (0 ≤ f5_aheadSize.toInt ∧ f5_aheadSize.toInt ≤ 128)) (h_f4_blockCount : (0 ≤ f4_blockCount.toInt ∧ f4_blockCount.toInt ≤ 9261)) (h_f4_blockLength : (0 ≤ f4_blockLength.toInt ∧ f4_blockLength.toInt ≤ 21)) (h_f4_lastIsFree : (0 ≤ f4_lastIsFree.toInt ∧ f4_lastIsFree.toInt ≤ 1)) (h_f4_stale : (0 ≤ f4_stale.toInt ∧ f4_stale.toInt ≤ 1)) (hI : IAX ai) (hw_w0 : RWX ad w0) (hw_w1 : RWX ad w1) (hw_w2 : RWX ad w2) (hw_w3 : RWX ad w3) : Met l yX0_tryNumbers (.code yX0_tryNumbers cX0_tryNumbers 9 none :: TT) ({ frames := 6, cells := 0, slots := 0, locals := 320 } : Room) (PcS dC dI (TY cI cJ cII cJJ) [.ref (ad 25), .int 2, .int x2, .int x3] (WX cI cJ cII cJJ ad f3_unknowns f3_equations f2_roundSupports f2_stale f7_size f1_size f5_keptSize f5_aheadSize f0_solved f4_blockCount f4_blockLength f4_lastIsFree f4_stale ai al w0 w1 w2 w3) sz 0 g) (Q_m100_X0_tryNumbers dC dI cI cJ cII cJJ ad f3_unknowns f3_equations f2_roundSupports f2_stale f1_size f5_keptSize f5_aheadSize f0_solved f4_blockCount f4_blockLength f4_lastIsFree f4_stale ai al w0 w1 w2 w3 (va_A (WX cI cJ cII cJJ ad f3_unknowns f3_equations f2_roundSupports f2_stale f7_size f1_size f5_keptSize f5_aheadSize f0_solved f4_blockCount f4_blockLength f4_lastIsFree f4_stale ai al w0 w1 w2 w3) sz)) 0 0 (va_A (WX cI cJ cII cJJ ad f3_unknowns f3_equations f2_roundSupports f2_stale f7_size f1_size f5_keptSize f5_aheadSize f0_solved f4_blockCount f4_blockLength f4_lastIsFree f4_stale ai al w0 w1 w2 w3) sz) := by
  refine SM.of (y := yX0_tryNumbers) (maxL := 9) (av := [.ref (ad 25), .int 2, .int x2, .int x3]) (Q_m100_X0_tryNumbers dC dI cI cJ cII cJJ ad f3_unknowns f3_equations f2_roundSupports f2_stale f1_size f5_keptSize f5_aheadSize f0_solved f4_blockCount f4_blockLength f4_lastIsFree f4_stale ai al w0 w1 w2 w3) (by decide +kernel) (Nat.le_of_ble_eq_true rfl) (fun p e s m below meth c A ls hx hb hr hml hown hts hk hnm hA hK hP hD hS hX hl => ?_)
  have C : Cx p c s m meth (([.ref (ad 25), .int 2, .int x2, .int x3] : List Value).toArray) A dC dI (TY cI cJ cII cJJ) cX0_tryNumbers none 9 RX0 0 g := ⟨hx, hb, hr, hml, hown, hts, hk, hA, hK, hX⟩
  have hown : s.vm.findClass RX0 = some m.cls := hown
  have hl : lv_has ls 9 [(0, .ref (ad 25)), (1, .int 2), (2, .int x2), (3, .int x3)] := hl
  obtain ⟨H, hH⟩ : ∃ q, q = s.heap := ⟨_, rfl⟩
  rw [← hH] at hP
  have hS : va_S A s.heap H [] := by rw [hH]; exact hS
  rw [← hH]
  have hF := FR_refl [28] ai
  have hG := FL_refl [13] al
  have ra_x2 := s_any x2
  have ra_x3 := s_any x3
  refine lv_aload_n hx hb dX0_tryNumbers_0 rfl (lv_at hl 0 rfl) ?_
  refine gf (k := 2) hx hb hts inX0 hown hK hP k_158 rfl (by decide) rfl 25 rfl (.ref (ad 26)) rfl dX0_tryNumbers_1 ?_
  refine lv_iload_n hx hb dX0_tryNumbers_4 rfl (lv_at hl 1 rfl) ?_
  refine va_iald hx hb hK hP 26 0 rfl rfl (vin (by decide +kernel)) dX0_tryNumbers_5 ?_
  refine lv_topi (fun z1 e_z1 => ?_)
  have k_z1 : z1.toInt = (ai 26 2).toInt := by rw [e_z1]; rfl
  have g_z1 : -6 ≤ z1.toInt ∧ z1.toInt ≤ 6 := by rw [e_z1]; exact IAX_at26 hI _
  refine lv_istore (lv' := [(4, .int z1), (0, .ref (ad 25)), (1, .int 2), (2, .int x2), (3, .int x3)]) hx hb dX0_tryNumbers_6 hl (by decide) rfl (fun ls_1 hl_1 => ?_)
  refine lv_aload_n hx hb dX0_tryNumbers_8 rfl (lv_at hl_1 1 rfl) ?_
  refine gf (k := 3) hx hb hts inX0 hown hK hP k_159 rfl (by decide) rfl 25 rfl (.ref (ad 27)) rfl dX0_tryNumbers_9 ?_
  refine lv_iload_n hx hb dX0_tryNumbers_12 rfl (lv_at hl_1 2 rfl) ?_
  refine va_iald hx hb hK hP 27 0 rfl rfl (vin (by decide +kernel)) dX0_tryNumbers_13 ?_
  refine lv_topi (fun z2 e_z2 => ?_)
  have k_z2 : z2.toInt = (ai 27 2).toInt := by rw [e_z2]; rfl
  have g_z2 : 0 ≤ z2.toInt ∧ z2.toInt ≤ 6 := by rw [e_z2]; exact IAX_at27 hI _
  refine v_ineg hx hb dX0_tryNumbers_14 _ rfl ?_
  refine lv_topi (fun z3 e_z3 => ?_)
  have g_z3 : z3.toInt = -z2.toInt := by rw [e_z3]; exact n_neg (a := z2.toInt) rfl (by omega)
  refine lv_istore (lv' := [(5, .int z3), (4, .int z1), (0, .ref (ad 25)), (1, .int 2), (2, .int x2), (3, .int x3)]) hx hb dX0_tryNumbers_15 hl_1 (by decide) rfl (fun ls_2 hl_2 => ?_)
  refine lv_aload_n hx hb dX0_tryNumbers_17 rfl (lv_at hl_2 2 rfl) ?_
  refine gf (k := 3) hx hb hts inX0 hown hK hP k_159 rfl (by decide) rfl 25 rfl (.ref (ad 27)) rfl dX0_tryNumbers_18 ?_
  refine lv_iload_n hx hb dX0_tryNumbers_21 rfl (lv_at hl_2 3 rfl) ?_
  refine va_iald hx hb hK hP 27 0 rfl rfl (vin (by decide +kernel)) dX0_tryNumbers_22 ?_
  refine lv_topi (fun z4 e_z4 => ?_)
  have k_z4 : z4.toInt = (ai 27 2).toInt := by rw [e_z4]; rfl
  have g_z4 : 0 ≤ z4.toInt ∧ z4.toInt ≤ 6 := by rw [e_z4]; exact IAX_at27 hI _
  refine lv_istore (lv' := [(6, .int z4), (5, .int z3), (4, .int z1), (0, .ref (ad 25)), (1, .int 2), (2, .int x2), (3, .int x3)]) hx hb dX0_tryNumbers_23 hl_2 (by decide) rfl (fun ls_3 hl_3 => ?_)
  refine lv_iload_n hx hb dX0_tryNumbers_25 rfl (lv_at hl_3 4 rfl) ?_
  refine lv_aload_n hx hb dX0_tryNumbers_26 rfl (lv_at hl_3 3 rfl) ?_
  refine gf (k := 5) hx hb hts inX0 hown hK hP k_161 rfl (by decide) rfl 25 rfl (.int f0_solved) rfl dX0_tryNumbers_27 ?_
  refine lv_icmp_ne (tgt := 64) hx hb dX0_tryNumbers_30 (by decide) (fun c5 => ?_) (fun c5 => ?_)
  · have c5 := j_ne (a := 2) (b := f0_solved.toInt) (by decide +kernel) rfl c5
    exact m100_X0_tryNumbers_b64 C  x2 x3 z1 z3 z4 f7_size ai al _ _ _ (by omega) (by omega) (by omega) (by omega) (by omega) (by omega) (by omega) (by omega) (by omega) (by omega) (by omega) (by omega) (by omega) (by omega) hI hF hG hw_w0 hw_w1 hw_w2 hw_w3 hP hD hS (lv_sub hl_3 [3, 4, 5, 6, 2, 1, 0] rfl)
  · have c5 := j_eq (a := 2) (b := f0_solved.toInt) (by decide +kernel) rfl c5
    refine lv_iload hx hb dX0_tryNumbers_33 (lv_at hl_3 2 rfl) ?_
    refine lv_if_eq (tgt := 64) hx hb dX0_tryNumbers_35 (by decide) (fun c6 => ?_) (fun c6 => ?_)
    · have c6 := j_eq (a := z1.toInt) (b := 0) rfl (by decide +kernel) c6
      exact m100_X0_tryNumbers_b64 C  x2 x3 z1 z3 z4 f7_size ai al _ _ _ (by omega) (by omega) (by omega) (by omega) (by omega) (by omega) (by omega) (by omega) (by omega) (by omega) (by omega) (by omega) (by omega) (by omega) hI hF hG hw_w0 hw_w1 hw_w2 hw_w3 hP hD hS (lv_sub hl_3 [3, 4, 5, 6, 2, 1, 0] rfl)
    · have c6 := j_ne (a := z1.toInt) (b := 0) rfl (by decide +kernel) c6
      refine lv_iload_n hx hb dX0_tryNumbers_38 rfl (lv_at hl_3 6 rfl) ?_
      refine lv_iload_n hx hb dX0_tryNumbers_39 rfl (lv_at hl_3 5 rfl) ?_
      refine v_isub hx hb dX0_tryNumbers_40 _ rfl ?_
      refine lv_topi (fun z7 e_z7 => ?_)
      refine lv_iload hx hb dX0_tryNumbers_41 (lv_at hl_3 2 rfl) ?_
      refine v_idiv hx hb dX0_tryNumbers_43 (j_nz (a := z1.toInt) rfl (by omega)) _ rfl ?_
      refine lv_topi (fun z8 e_z8 => ?_)
      refine lv_istore (lv' := [(7, .int z8), (6, .int z4), (5, .int z3), (4, .int z1), (0, .ref (ad 25)), (1, .int 2), (2, .int x2), (3, .int x3)]) hx hb dX0_tryNumbers_44 hl_3 (by decide) rfl (fun ls_4 hl_4 => ?_)
      refine lv_iload hx hb dX0_tryNumbers_46 (lv_at hl_4 2 rfl) ?_
      refine lv_iload hx hb dX0_tryNumbers_48 (lv_at hl_4 0 rfl) ?_
      refine va_mmax hx hb (by rw [hml]; exact hl_4.1.symm) hown (hts _ k_444) (hts _ k_445) (hts _ k_13) (hts _ k_446) (by decide) (Nat.le_of_ble_eq_true rfl) (Nat.le_of_ble_eq_true rfl) (Nat.le_of_ble_eq_true rfl) dX0_tryNumbers_50 ?_
      refine lv_topi (fun z9 e_z9 => ?_)
      have g_z9 : (z9.toInt = z3.toInt ∨ z9.toInt = z8.toInt) ∧ z3.toInt ≤ z9.toInt ∧ z8.toInt ≤ z9.toInt := by rw [e_z9]; exact n_max (a := z3.toInt) (b := z8.toInt) rfl rfl
      refine lv_istore (lv' := [(5, .int z9), (7, .int z8), (6, .int z4), (4, .int z1), (0, .ref (ad 25)), (1, .int 2), (2, .int x2), (3, .int x3)]) hx hb dX0_tryNumbers_53 hl_4 (by decide) rfl (fun ls_5 hl_5 => ?_)
      refine lv_iload hx hb dX0_tryNumbers_55 (lv_at hl_5 2 rfl) ?_
      refine lv_iload hx hb dX0_tryNumbers_57 (lv_at hl_5 1 rfl) ?_
      refine va_mmin hx hb (by rw [hml]; exact hl_5.1.symm) hown (hts _ k_463) (hts _ k_464) (hts _ k_13) (hts _ k_465) (by decide) (Nat.le_of_ble_eq_true rfl) (Nat.le_of_ble_eq_true rfl) (Nat.le_of_ble_eq_true rfl) dX0_tryNumbers_59 ?_
      refine lv_topi (fun z10 e_z10 => ?_)
      have g_z10 : (z10.toInt = z4.toInt ∨ z10.toInt = z8.toInt) ∧ z4.toInt ≥ z10.toInt ∧ z8.toInt ≥ z10.toInt := by rw [e_z10]; exact n_min (a := z4.toInt) (b := z8.toInt) rfl rfl
      refine lv_istore (lv' := [(6, .int z10), (5, .int z9), (7, .int z8), (4, .int z1), (0, .ref (ad 25)), (1, .int 2), (2, .int x2), (3, .int x3)]) hx hb dX0_tryNumbers_62 hl_5 (by decide) rfl (fun ls_6 hl_6 => ?_)
      exact m100_X0_tryNumbers_b64 C  x2 x3 z1 z9 z10 f7_size ai al _ _ _ (by omega) (by omega) (by omega) (by omega) (by omega) (by omega) (by omega) (by omega) (by omega) (by omega) (by omega) (by omega) (by omega) (by omega) hI hF hG hw_w0 hw_w1 hw_w2 hw_w3 hP hD hS (lv_sub hl_6 [4, 5, 6, 7, 3, 1, 0] rfl)
def Q_m101_X0_searchFrom (dC : Nat → ClassId) (dI : Nat → Nat → Nat) (cI cJ cII cJJ : ClassId) (ad : Nat → Nat) (f3_unknowns f3_equations f2_roundSupports f2_stale f1_size f5_keptSize f5_aheadSize f0_solved f4_blockCount f4_blockLength f4_lastIsFree f4_stale : Int32) (ai0 : Nat → Nat → Int32) (al0 : Nat → Nat → Int64) (w0 w1 w2 w3 : Nat) : (Nat → Prop) → Array Value → State → Outcome → State → Prop := fun A => QV (fun t => ∃ (n_f7_size : Int32), ∃ (n_ai : Nat → Nat → Int32), ∃ (n_al : Nat → Nat → Int64), ((0 ≤ n_f7_size.toInt ∧ n_f7_size.toInt ≤ 256) ∧ IAX n_ai ∧ FR [28] ai0 n_ai ∧ FL [13] al0 n_al) ∧ WO dC dI (TY cI cJ cII cJJ) (WX cI cJ cII cJJ ad f3_unknowns f3_equations f2_roundSupports f2_stale n_f7_size f1_size f5_keptSize f5_aheadSize f0_solved f4_blockCount f4_blockLength f4_lastIsFree f4_stale n_ai n_al w0 w1 w2 w3) A t) A
set_option maxRecDepth 100000 in
set_option maxHeartbeats 4000000 in
theorem m101_X0_searchFrom_b28 {p : Program} {l : Launch} {e : Env} {s : State} {m : MethodId} {args : Array Value} {below : List Frame} {meth : Method} {c : Code} {A : Nat → Prop} {dC : Nat → ClassId} {dI : Nat → Nat → Nat} {cI cJ cII cJJ : ClassId} {ad : Nat → Nat} {g : Nat} {f3_unknowns f3_equations f2_roundSupports f2_stale f1_size f5_keptSize f5_aheadSize f0_solved f4_blockCount f4_blockLength f4_lastIsFree f4_stale : Int32} {ai0 : Nat → Nat → Int32} {al0 : Nat → Nat → Int64} {w0 w1 w2 w3 : Nat} (C : Cx p c s m meth args A dC dI (TY cI cJ cII cJJ) cX0_searchFrom none 4 RX0 0 g) : ∀ (L2 L3 f7_size : Int32) (ai : Nat → Nat → Int32) (al : Nat → Nat → Int64) (H : Heap) (locs : List Loc) (ls : Array Slot), L2.toInt ≤ 36 → L3.toInt ≤ 36 → (1 ≤ f3_unknowns.toInt ∧ f3_unknowns.toInt ≤ 2) → (0 ≤ f3_equations.toInt ∧ f3_equations.toInt ≤ 3) → (0 ≤ f2_stale.toInt ∧ f2_stale.toInt ≤ 1) → (0 ≤ f7_size.toInt ∧ f7_size.toInt ≤ 256) → (0 ≤ f1_size.toInt ∧ f1_size.toInt ≤ 4) → (0 ≤ f5_keptSize.toInt ∧ f5_keptSize.toInt ≤ 128) → (0 ≤ f5_aheadSize.toInt ∧ f5_aheadSize.toInt ≤ 128) → (0 ≤ f4_blockCount.toInt ∧ f4_blockCount.toInt ≤ 9261) → (0 ≤ f4_blockLength.toInt ∧ f4_blockLength.toInt ≤ 21) → (0 ≤ f4_lastIsFree.toInt ∧ f4_lastIsFree.toInt ≤ 1) → (0 ≤ f4_stale.toInt ∧ f4_stale.toInt ≤ 1) → IAX ai → FR [28] ai0 ai → FL [13] al0 al → RWX ad w0 → RWX ad w1 → RWX ad w2 → RWX ad w3 → va_P (dC, dI) vwCl (WX cI cJ cII cJJ ad f3_unknowns f3_equations f2_roundSupports f2_stale f7_size f1_size f5_keptSize f5_aheadSize f0_solved f4_blockCount f4_blockLength f4_lastIsFree f4_stale ai al w0 w1 w2 w3) H → va_D A (WX cI cJ cII cJJ ad f3_unknowns f3_equations f2_roundSupports f2_stale f7_size f1_size f5_keptSize f5_aheadSize f0_solved f4_blockCount f4_blockLength f4_lastIsFree f4_stale ai al w0 w1 w2 w3) → va_S A s.heap H locs → lv_has ls 4 [(0, .ref (ad 25)), (1, .int 2), (2, .int L2), (3, .int L3)] → W p l e ({ frames := 7, cells := 0, slots := 0, locals := 380 } : Room) s m args below meth c H locs 0 0 (MQ below (Q_m101_X0_searchFrom dC dI cI cJ cII cJJ ad f3_unknowns f3_equations f2_roundSupports f2_stale f1_size f5_keptSize f5_aheadSize f0_solved f4_blockCount f4_blockLength f4_lastIsFree f4_stale ai0 al0 w0 w1 w2 w3 A) args s 0 0 A) (F0 m 28 ls []) := by
  obtain ⟨hx, hb, hr, hml, hown, hts, hk, hA, hK, hX⟩ := id C
  intro L2 L3 f7_size ai al H locs ls h0 h1 h2 h3 h4 h5 h6 h7 h8 h9 h10 h11 h12 hI hF hG hw_w0 hw_w1 hw_w2 hw_w3 hP hD hS hl
  have ra_L2 := s_any L2
  have ra_L3 := s_any L3
  refine lv_iload_n hx hb dX0_searchFrom_28 rfl (lv_at hl 2 rfl) ?_
  refine lv_iload_n hx hb dX0_searchFrom_29 rfl (lv_at hl 3 rfl) ?_
  refine lv_icmp_ne (tgt := 54) hx hb dX0_searchFrom_30 (by decide) (fun c1 => ?_) (fun c1 => ?_)
  · have c1 := j_ne (a := L2.toInt) (b := L3.toInt) rfl rfl c1
    exact r2_v hx hb hr hk hS dX0_searchFrom_54 (fun t ht hW => ⟨f7_size, ai, al, ⟨(by first | omega | decide | exact Or.inl (by decide) | exact Or.inr (by decide) | exact Or.inr (by omega)), hI, hF, hG⟩, by rw [ht]; exact hP, va_K.moved hW.alike hK, hD⟩)
  · have c1 := j_eq (a := L2.toInt) (b := L3.toInt) rfl rfl c1
    refine lv_aload_n hx hb dX0_searchFrom_33 rfl (lv_at hl 0 rfl) ?_
    refine lv_iload_n hx hb dX0_searchFrom_34 rfl (lv_at hl 2 rfl) ?_
    have hM := m094_X0_isLeast l dC dI cI cJ cII cJJ H.size 0 ad f3_unknowns f3_equations f2_roundSupports f2_stale f7_size f1_size f5_keptSize f5_aheadSize f0_solved f4_blockCount f4_blockLength f4_lastIsFree f4_stale ai al w0 w1 w2 w3 L2 (by omega) (by omega) (by omega) (by omega) (by omega) (by omega) (by omega) (by omega) (by omega) (by omega) (by omega) hI hw_w0 hw_w1 hw_w2 hw_w3
    refine k2V_i (q0 := 25) ⟨hx, hb, hml, hown, hts⟩ hK hP hD hS hA hX cv_RX0_76 hM ⟨by decide +kernel, by decide +kernel⟩ rfl rfl (Or.inl rfl) (rest := []) rfl rfl rfl hl.1 rfl (Nat.le_of_ble_eq_true rfl) dX0_searchFrom_35 ⟨Nat.le_of_ble_eq_true rfl, Nat.le_of_ble_eq_true rfl⟩ (fun r2 t H1 locs_1 ht hB hS_1 hFc => ?_)
    obtain ⟨gpr2_0, hP_2, -, hD_2⟩ := hB
    rw [ht] at hP_2
    have hD_3 := hD_2.weaken (B := A) (fun k q _ h9 => hFc q.1 h9)
    clear ht
    generalize H1 = H_4 at hP_2 hS_1 ⊢
    refine lv_if_eq (tgt := 54) hx hb dX0_searchFrom_38 (by decide) (fun c3 => ?_) (fun c3 => ?_)
    · have c3 := j_eq (a := r2.toInt) (b := 0) rfl (by decide +kernel) c3
      exact r2_v hx hb hr hk hS_1 dX0_searchFrom_54 (fun t ht hW => ⟨f7_size, ai, al, ⟨(by first | omega | decide | exact Or.inl (by decide) | exact Or.inr (by decide) | exact Or.inr (by omega)), hI, hF, hG⟩, by rw [ht]; exact hP_2, va_K.moved hW.alike hK, hD_3⟩)
    · have c3 := j_ne (a := r2.toInt) (b := 0) rfl (by decide +kernel) c3
      refine lv_aload_n hx hb dX0_searchFrom_41 rfl (lv_at hl 0 rfl) ?_
      refine gf (k := 1) hx hb hts inX0 hown hK hP_2 k_157 rfl (by decide) rfl 25 rfl (.ref (ad 12)) rfl dX0_searchFrom_42 ?_
      refine lv_aload_n hx hb dX0_searchFrom_45 rfl (lv_at hl 0 rfl) ?_
      refine gf (k := 4) hx hb hts inX0 hown hK hP_2 k_160 rfl (by decide) rfl 25 rfl (.ref (ad 28)) rfl dX0_searchFrom_46 ?_
      refine lv_iconst (v := 0) hx hb dX0_searchFrom_49 (by decide) ?_
      refine lv_iconst (v := 1) hx hb dX0_searchFrom_50 (by decide) ?_
      have kc0 : (0 : Int32).toInt = 0 := by decide +kernel
      have kc1 : (1 : Int32).toInt = 1 := by decide +kernel
      have hM := m095_X7_append l dC dI cI cJ cII cJJ H_4.size 0 ad f3_unknowns f3_equations f2_roundSupports f2_stale f7_size f1_size f5_keptSize f5_aheadSize f0_solved f4_blockCount f4_blockLength f4_lastIsFree f4_stale ai al w0 w1 w2 w3 0 1 (by omega) (by omega) (by omega) (by omega) (by omega) (by omega) (by omega) (by omega) (by omega) (by omega) (by omega) hI hw_w0 hw_w1 hw_w2 hw_w3
      refine k2V_v (q0 := 12) ⟨hx, hb, hml, hown, hts⟩ hK hP_2 hD_3 hS_1 hA hX cv_RX0_80 hM ⟨by decide +kernel, by decide +kernel⟩ rfl rfl (Or.inl rfl) (rest := []) rfl rfl rfl hl.1 rfl (Nat.le_of_ble_eq_true rfl) dX0_searchFrom_51 ⟨Nat.le_of_ble_eq_true rfl, Nat.le_of_ble_eq_true rfl⟩ (fun t H1 locs_5 ht hB hS_5 hFc => ?_)
      obtain ⟨v5, al6, ⟨gpr4_0, hGr_r4⟩, hP_6, -, hD_6⟩ := hB
      have hG_7 := FL_tr hG hGr_r4 (by decide)
      rw [ht] at hP_6
      have hD_8 := hD_6.weaken (B := A) (fun k q _ h9 => hFc q.1 h9)
      clear ht
      generalize H1 = H_9 at hP_6 hS_5 ⊢
      exact r2_v hx hb hr hk hS_5 dX0_searchFrom_54 (fun t ht hW => ⟨v5, ai, al6, ⟨(by first | omega | decide | exact Or.inl (by decide) | exact Or.inr (by decide) | exact Or.inr (by omega)), hI, hF, hG_7⟩, by rw [ht]; exact hP_6, va_K.moved hW.alike hK, hD_8⟩)
set_option maxRecDepth 100000 in
set_option maxHeartbeats 4000000 in
theorem m101_X0_searchFrom (l : Launch) (dC : Nat → ClassId) (dI : Nat → Nat → Nat) (cI cJ cII cJJ : ClassId) (sz g : Nat) (ad : Nat → Nat) (f3_unknowns f3_equations f2_roundSupports f2_stale f7_size f1_size f5_keptSize f5_aheadSize f0_solved f4_blockCount f4_blockLength f4_lastIsFree f4_stale : Int32) (ai : Nat → Nat → Int32) (al : Nat → Nat → Int64) (w0 w1 w2 w3 : Nat) (x2 : Int32) (x3 : Int32) (h_f3_unknowns : (1 ≤ f3_unknowns.toInt ∧ f3_unknowns.toInt ≤ 4)) (h_f3_equations : (0 ≤ f3_equations.toInt ∧ f3_equations.toInt ≤ 3)) (h_f2_stale : (0 ≤ f2_stale.toInt ∧ f2_stale.toInt ≤ 1)) (h_f7_size : (0 ≤ f7_size.toInt ∧ f7_size.toInt ≤ 256)) (h_f1_size : (0 ≤ f1_size.toInt ∧ f1_size.toInt ≤ 4)) (h_f5_keptSize : (0 ≤ f5_keptSize.toInt ∧ f5_keptSize.toInt ≤ 128)) (h_f5_aheadSize : (0 ≤ f5_aheadSize.toInt ∧ f5_aheadSize.toInt ≤ 128)) (h_f4_blockCount : (0 ≤ f4_blockCount.toInt ∧ f4_blockCount.toInt ≤ 9261)) (h_f4_blockLength : (0 ≤ f4_blockLength.toInt ∧ f4_blockLength.toInt ≤ 21)) (h_f4_lastIsFree : (0 ≤ f4_lastIsFree.toInt ∧ f4_lastIsFree.toInt ≤ 1)) (h_f4_stale : (0 ≤ f4_stale.toInt ∧ f4_stale.toInt ≤ 1)) (hI : IAX ai) (hw_w0 : RWX ad w0) (hw_w1 : RWX ad w1) (hw_w2 : RWX ad w2) (hw_w3 : RWX ad w3) : Met l yX0_searchFrom (.code yX0_searchFrom cX0_searchFrom 4 none :: TT) ({ frames := 7, cells := 0, slots := 0, locals := 380 } : Room) (PcS dC dI (TY cI cJ cII cJJ) [.ref (ad 25), .int 2, .int x2, .int x3] (WX cI cJ cII cJJ ad f3_unknowns f3_equations f2_roundSupports f2_stale f7_size f1_size f5_keptSize f5_aheadSize f0_solved f4_blockCount f4_blockLength f4_lastIsFree f4_stale ai al w0 w1 w2 w3) sz 0 g) (Q_m101_X0_searchFrom dC dI cI cJ cII cJJ ad f3_unknowns f3_equations f2_roundSupports f2_stale f1_size f5_keptSize f5_aheadSize f0_solved f4_blockCount f4_blockLength f4_lastIsFree f4_stale ai al w0 w1 w2 w3 (va_A (WX cI cJ cII cJJ ad f3_unknowns f3_equations f2_roundSupports f2_stale f7_size f1_size f5_keptSize f5_aheadSize f0_solved f4_blockCount f4_blockLength f4_lastIsFree f4_stale ai al w0 w1 w2 w3) sz)) 0 0 (va_A (WX cI cJ cII cJJ ad f3_unknowns f3_equations f2_roundSupports f2_stale f7_size f1_size f5_keptSize f5_aheadSize f0_solved f4_blockCount f4_blockLength f4_lastIsFree f4_stale ai al w0 w1 w2 w3) sz) := by
  refine SM.of (y := yX0_searchFrom) (maxL := 4) (av := [.ref (ad 25), .int 2, .int x2, .int x3]) (Q_m101_X0_searchFrom dC dI cI cJ cII cJJ ad f3_unknowns f3_equations f2_roundSupports f2_stale f1_size f5_keptSize f5_aheadSize f0_solved f4_blockCount f4_blockLength f4_lastIsFree f4_stale ai al w0 w1 w2 w3) (by decide +kernel) (Nat.le_of_ble_eq_true rfl) (fun p e s m below meth c A ls hx hb hr hml hown hts hk hnm hA hK hP hD hS hX hl => ?_)
  have C : Cx p c s m meth (([.ref (ad 25), .int 2, .int x2, .int x3] : List Value).toArray) A dC dI (TY cI cJ cII cJJ) cX0_searchFrom none 4 RX0 0 g := ⟨hx, hb, hr, hml, hown, hts, hk, hA, hK, hX⟩
  have hown : s.vm.findClass RX0 = some m.cls := hown
  have hl : lv_has ls 4 [(0, .ref (ad 25)), (1, .int 2), (2, .int x2), (3, .int x3)] := hl
  obtain ⟨H, hH⟩ : ∃ q, q = s.heap := ⟨_, rfl⟩
  rw [← hH] at hP
  have hS : va_S A s.heap H [] := by rw [hH]; exact hS
  rw [← hH]
  have hF := FR_refl [28] ai
  have hG := FL_refl [13] al
  have ra_x2 := s_any x2
  have ra_x3 := s_any x3
  refine lv_iload_n hx hb dX0_searchFrom_0 rfl (lv_at hl 2 rfl) ?_
  refine lv_bipush (v := 36) hx hb dX0_searchFrom_1 (by decide) ?_
  refine lv_icmp_gt (tgt := 12) hx hb dX0_searchFrom_3 (by decide) (fun c1 => ?_) (fun c1 => ?_)
  · have c1 := j_lt (a := 36) (b := x2.toInt) (by decide +kernel) rfl c1
    exact r2_v hx hb hr hk hS dX0_searchFrom_12 (fun t ht hW => ⟨f7_size, ai, al, ⟨(by first | omega | decide | exact Or.inl (by decide) | exact Or.inr (by decide) | exact Or.inr (by omega)), hI, hF, hG⟩, by rw [ht]; exact hP, va_K.moved hW.alike hK, hD⟩)
  · have c1 := j_nlt (a := 36) (b := x2.toInt) (by decide +kernel) rfl c1
    refine lv_iload_n hx hb dX0_searchFrom_6 rfl (lv_at hl 3 rfl) ?_
    refine lv_bipush (v := 36) hx hb dX0_searchFrom_7 (by decide) ?_
    refine lv_icmp_le (tgt := 13) hx hb dX0_searchFrom_9 (by decide) (fun c2 => ?_) (fun c2 => ?_)
    · have c2 := j_le (a := x3.toInt) (b := 36) rfl (by decide +kernel) c2
      refine lv_iload_n hx hb dX0_searchFrom_13 rfl (lv_at hl 1 rfl) ?_
      refine f_if_lt hx hb dX0_searchFrom_14 28 (by decide) (by decide +kernel) ?_
      refine lv_iload_n hx hb dX0_searchFrom_17 rfl (lv_at hl 1 rfl) ?_
      refine lv_aload_n hx hb dX0_searchFrom_18 rfl (lv_at hl 0 rfl) ?_
      refine gf (k := 0) hx hb hts inX0 hown hK hP k_156 rfl (by decide) rfl 25 rfl (.ref (ad 6)) rfl dX0_searchFrom_19 ?_
      refine gf (k := 0) hx hb hts inX3 hown hK hP k_40 rfl (by decide) rfl 6 rfl (.int f3_unknowns) rfl dX0_searchFrom_22 ?_
      refine lv_icmp_lt (tgt := 55) hx hb dX0_searchFrom_25 (by decide) (fun c3 => ?_) (fun c3 => ?_)
      · have c3 := j_lt (a := 2) (b := f3_unknowns.toInt) (by decide +kernel) rfl c3
        refine lv_aload_n hx hb dX0_searchFrom_55 rfl (lv_at hl 0 rfl) ?_
        refine lv_iload_n hx hb dX0_searchFrom_56 rfl (lv_at hl 1 rfl) ?_
        refine lv_iload_n hx hb dX0_searchFrom_57 rfl (lv_at hl 2 rfl) ?_
        refine lv_iload_n hx hb dX0_searchFrom_58 rfl (lv_at hl 3 rfl) ?_
        have kc2 : (2 : Int32).toInt = 2 := by decide +kernel
        have hM := m100_X0_tryNumbers l dC dI cI cJ cII cJJ H.size 0 ad f3_unknowns f3_equations f2_roundSupports f2_stale f7_size f1_size f5_keptSize f5_aheadSize f0_solved f4_blockCount f4_blockLength f4_lastIsFree f4_stale ai al w0 w1 w2 w3 x2 x3 (by omega) (by omega) (by omega) (by omega) (by omega) (by omega) (by omega) (by omega) (by omega) (by omega) (by omega) hI hw_w0 hw_w1 hw_w2 hw_w3
        refine k2V_v (q0 := 25) ⟨hx, hb, hml, hown, hts⟩ hK hP hD hS hA hX cv_RX0_86 hM ⟨by decide +kernel, by decide +kernel⟩ rfl rfl (Or.inl rfl) (rest := []) rfl rfl rfl hl.1 rfl (Nat.le_of_ble_eq_true rfl) dX0_searchFrom_59 ⟨Nat.le_of_ble_eq_true rfl, Nat.le_of_ble_eq_true rfl⟩ (fun t H1 locs_1 ht hB hS_1 hFc => ?_)
        obtain ⟨v5, ai6, al7, ⟨gpr4_0, hI_2, hFr_r4, hGr_r4⟩, hP_2, -, hD_2⟩ := hB
        have hF_3 := FR_tr hF hFr_r4 (by decide)
        have hG_4 := FL_tr hG hGr_r4 (by decide)
        rw [ht] at hP_2
        have hD_5 := hD_2.weaken (B := A) (fun k q _ h9 => hFc q.1 h9)
        clear ht
        generalize H1 = H_6 at hP_2 hS_1 ⊢
        exact r2_v hx hb hr hk hS_1 dX0_searchFrom_62 (fun t ht hW => ⟨v5, ai6, al7, ⟨(by first | omega | decide | exact Or.inl (by decide) | exact Or.inr (by decide) | exact Or.inr (by omega)), hI_2, hF_3, hG_4⟩, by rw [ht]; exact hP_2, va_K.moved hW.alike hK, hD_5⟩)
      · have c3 := j_nlt (a := 2) (b := f3_unknowns.toInt) (by decide +kernel) rfl c3
        exact m101_X0_searchFrom_b28 C  x2 x3 f7_size ai al _ _ _ (by omega) (by omega) (by omega) (by omega) (by omega) (by omega) (by omega) (by omega) (by omega) (by omega) (by omega) (by omega) (by omega) hI hF hG hw_w0 hw_w1 hw_w2 hw_w3 hP hD hS (lv_sub hl [0, 1, 2, 3] rfl)
    · have c2 := j_nle (a := x3.toInt) (b := 36) rfl (by decide +kernel) c2
      exact r2_v hx hb hr hk hS dX0_searchFrom_12 (fun t ht hW => ⟨f7_size, ai, al, ⟨(by first | omega | decide | exact Or.inl (by decide) | exact Or.inr (by decide) | exact Or.inr (by omega)), hI, hF, hG⟩, by rw [ht]; exact hP, va_K.moved hW.alike hK, hD⟩)
def Q_m102_X0_tryNumbers (dC : Nat → ClassId) (dI : Nat → Nat → Nat) (cI cJ cII cJJ : ClassId) (ad : Nat → Nat) (f3_unknowns f3_equations f2_roundSupports f2_stale f1_size f5_keptSize f5_aheadSize f0_solved f4_blockCount f4_blockLength f4_lastIsFree f4_stale : Int32) (ai0 : Nat → Nat → Int32) (al0 : Nat → Nat → Int64) (w0 w1 w2 w3 : Nat) : (Nat → Prop) → Array Value → State → Outcome → State → Prop := fun A => QV (fun t => ∃ (n_f7_size : Int32), ∃ (n_ai : Nat → Nat → Int32), ∃ (n_al : Nat → Nat → Int64), ((0 ≤ n_f7_size.toInt ∧ n_f7_size.toInt ≤ 256) ∧ IAX n_ai ∧ FR [28] ai0 n_ai ∧ FL [13] al0 n_al) ∧ WO dC dI (TY cI cJ cII cJJ) (WX cI cJ cII cJJ ad f3_unknowns f3_equations f2_roundSupports f2_stale n_f7_size f1_size f5_keptSize f5_aheadSize f0_solved f4_blockCount f4_blockLength f4_lastIsFree f4_stale n_ai n_al w0 w1 w2 w3) A t) A
set_option maxRecDepth 100000 in
set_option maxHeartbeats 4000000 in
theorem m102_X0_tryNumbers_b68 {p : Program} {l : Launch} {e : Env} {s : State} {m : MethodId} {args : Array Value} {below : List Frame} {meth : Method} {c : Code} {A : Nat → Prop} {dC : Nat → ClassId} {dI : Nat → Nat → Nat} {cI cJ cII cJJ : ClassId} {ad : Nat → Nat} {g : Nat} {f3_unknowns f3_equations f2_roundSupports f2_stale f1_size f5_keptSize f5_aheadSize f0_solved f4_blockCount f4_blockLength f4_lastIsFree f4_stale : Int32} {ai0 : Nat → Nat → Int32} {al0 : Nat → Nat → Int64} {w0 w1 w2 w3 : Nat} (C : Cx p c s m meth args A dC dI (TY cI cJ cII cJJ) cX0_tryNumbers none 9 RX0 0 g) : ∀ (n : Nat), ∀ (L2 L3 L4 L5 L6 L7 f7_size : Int32) (ai : Nat → Nat → Int32) (al : Nat → Nat → Int64) (H : Heap) (locs : List Loc) (ls : Array Slot), (-6 ≤ L4.toInt ∧ L4.toInt ≤ 6) → -6 ≤ L5.toInt → L6.toInt ≤ 6 → -6 ≤ L7.toInt → (1 ≤ f3_unknowns.toInt ∧ f3_unknowns.toInt ≤ 4) → (0 ≤ f3_equations.toInt ∧ f3_equations.toInt ≤ 3) → (0 ≤ f2_stale.toInt ∧ f2_stale.toInt ≤ 1) → (0 ≤ f7_size.toInt ∧ f7_size.toInt ≤ 256) → (0 ≤ f1_size.toInt ∧ f1_size.toInt ≤ 4) → (0 ≤ f5_keptSize.toInt ∧ f5_keptSize.toInt ≤ 128) → (0 ≤ f5_aheadSize.toInt ∧ f5_aheadSize.toInt ≤ 128) → (0 ≤ f4_blockCount.toInt ∧ f4_blockCount.toInt ≤ 9261) → (0 ≤ f4_blockLength.toInt ∧ f4_blockLength.toInt ≤ 21) → (0 ≤ f4_lastIsFree.toInt ∧ f4_lastIsFree.toInt ≤ 1) → (0 ≤ f4_stale.toInt ∧ f4_stale.toInt ≤ 1) → L6.toInt + 1 - L7.toInt < (n : Int) → (0 : Int) < (n : Int) → IAX ai → FR [28] ai0 ai → FL [13] al0 al → RWX ad w0 → RWX ad w1 → RWX ad w2 → RWX ad w3 → va_P (dC, dI) vwCl (WX cI cJ cII cJJ ad f3_unknowns f3_equations f2_roundSupports f2_stale f7_size f1_size f5_keptSize f5_aheadSize f0_solved f4_blockCount f4_blockLength f4_lastIsFree f4_stale ai al w0 w1 w2 w3) H → va_D A (WX cI cJ cII cJJ ad f3_unknowns f3_equations f2_roundSupports f2_stale f7_size f1_size f5_keptSize f5_aheadSize f0_solved f4_blockCount f4_blockLength f4_lastIsFree f4_stale ai al w0 w1 w2 w3) → va_S A s.heap H locs → lv_has ls 9 [(0, .ref (ad 25)), (1, .int 1), (2, .int L2), (3, .int L3), (4, .int L4), (5, .int L5), (6, .int L6), (7, .int L7)] → W p l e ({ frames := 8, cells := 0, slots := 0, locals := 440 } : Room) s m args below meth c H locs 0 0 (MQ below (Q_m102_X0_tryNumbers dC dI cI cJ cII cJJ ad f3_unknowns f3_equations f2_roundSupports f2_stale f1_size f5_keptSize f5_aheadSize f0_solved f4_blockCount f4_blockLength f4_lastIsFree f4_stale ai0 al0 w0 w1 w2 w3 A) args s 0 0 A) (F0 m 68 ls []) := by
  obtain ⟨hx, hb, hr, hml, hown, hts, hk, hA, hK, hX⟩ := id C
  intro n
  induction n with
  | zero =>
    intro L2 L3 L4 L5 L6 L7 f7_size ai al H locs ls h0 h1 h2 h3 h4 h5 h6 h7 h8 h9 h10 h11 h12 h13 h14 h15 h16 hI hF hG hw_w0 hw_w1 hw_w2 hw_w3 hP hD hS hl
    exact absurd h16 (by omega)
  | succ n ih =>
    intro L2 L3 L4 L5 L6 L7 f7_size ai al H locs ls h0 h1 h2 h3 h4 h5 h6 h7 h8 h9 h10 h11 h12 h13 h14 h15 h16 hI hF hG hw_w0 hw_w1 hw_w2 hw_w3 hP hD hS hl
    have ra_L2 := s_any L2
    have ra_L3 := s_any L3
    have ra_L5 := s_any L5
    have ra_L6 := s_any L6
    have ra_L7 := s_any L7
    refine lv_iload hx hb dX0_tryNumbers_68 (lv_at hl 7 rfl) ?_
    refine lv_iload hx hb dX0_tryNumbers_70 (lv_at hl 6 rfl) ?_
    refine lv_icmp_gt (tgt := 120) hx hb dX0_tryNumbers_72 (by decide) (fun c1 => ?_) (fun c1 => ?_)
    · have c1 := j_lt (a := L6.toInt) (b := L7.toInt) rfl rfl c1
      exact r2_v hx hb hr hk hS dX0_tryNumbers_120 (fun t ht hW => ⟨f7_size, ai, al, ⟨(by first | omega | decide | exact Or.inl (by decide) | exact Or.inr (by decide) | exact Or.inr (by omega)), hI, hF, hG⟩, by rw [ht]; exact hP, va_K.moved hW.alike hK, hD⟩)
    · have c1 := j_nlt (a := L6.toInt) (b := L7.toInt) rfl rfl c1
      refine lv_iload hx hb dX0_tryNumbers_75 (lv_at hl 4 rfl) ?_
      refine lv_iload hx hb dX0_tryNumbers_77 (lv_at hl 7 rfl) ?_
      refine v_imul hx hb dX0_tryNumbers_79 _ rfl ?_
      refine lv_topi (fun z2 e_z2 => ?_)
      refine lv_istore (lv' := [(8, .int z2), (0, .ref (ad 25)), (1, .int 1), (2, .int L2), (3, .int L3), (4, .int L4), (5, .int L5), (6, .int L6), (7, .int L7)]) hx hb dX0_tryNumbers_80 hl (by decide) rfl (fun ls_1 hl_1 => ?_)
      refine lv_aload_n hx hb dX0_tryNumbers_82 rfl (lv_at hl_1 1 rfl) ?_
      refine gf (k := 4) hx hb hts inX0 hown hK hP k_160 rfl (by decide) rfl 25 rfl (.ref (ad 28)) rfl dX0_tryNumbers_83 ?_
      refine lv_iload_n hx hb dX0_tryNumbers_86 rfl (lv_at hl_1 2 rfl) ?_
      refine lv_iload hx hb dX0_tryNumbers_87 (lv_at hl_1 8 rfl) ?_
      refine va_iast hx hb hK hP hD hS 28 0 rfl rfl (vin (by decide +kernel)) dX0_tryNumbers_89 (fun H_2 locs_2 hP_2 hD_2 hS_2 => ?_)
      obtain ⟨ai3, e_ai3⟩ : ∃ q : Nat → Nat → Int32, q = va_up ai 28 (upd (ai 28) (1 : Int32).toNatClampNeg L7) := ⟨_, rfl⟩
      have hF_3 := FR_st hF e_ai3 (by decide)
      have hI_4 : IAX ai3 := by rw [e_ai3]; exact hI
      have hP_5 : va_P (dC, dI) vwCl (WX cI cJ cII cJJ ad f3_unknowns f3_equations f2_roundSupports f2_stale f7_size f1_size f5_keptSize f5_aheadSize f0_solved f4_blockCount f4_blockLength f4_lastIsFree f4_stale ai3 al w0 w1 w2 w3) H_2 := by rw [e_ai3]; exact hP_2
      have hD_6 : va_D A (WX cI cJ cII cJJ ad f3_unknowns f3_equations f2_roundSupports f2_stale f7_size f1_size f5_keptSize f5_aheadSize f0_solved f4_blockCount f4_blockLength f4_lastIsFree f4_stale ai3 al w0 w1 w2 w3) := by rw [e_ai3]; exact hD_2
      refine lv_aload_n hx hb dX0_tryNumbers_90 rfl (lv_at hl_1 1 rfl) ?_
      refine lv_iload_n hx hb dX0_tryNumbers_91 rfl (lv_at hl_1 2 rfl) ?_
      refine lv_iconst (v := 1) hx hb dX0_tryNumbers_92 (by decide) ?_
      refine v_iadd hx hb dX0_tryNumbers_93 2 (by decide +kernel) ?_
      refine lv_iload_n hx hb dX0_tryNumbers_94 rfl (lv_at hl_1 3 rfl) ?_
      refine lv_iload hx hb dX0_tryNumbers_95 (lv_at hl_1 0 rfl) ?_
      refine lv_iconst (v := 0) hx hb dX0_tryNumbers_97 (by decide) ?_
      refine va_mmax hx hb (by rw [hml]; exact hl_1.1.symm) hown (hts _ k_444) (hts _ k_445) (hts _ k_13) (hts _ k_446) (by decide) (Nat.le_of_ble_eq_true rfl) (Nat.le_of_ble_eq_true rfl) (Nat.le_of_ble_eq_true rfl) dX0_tryNumbers_98 ?_
      refine lv_topi (fun z4 e_z4 => ?_)
      have g_z4 : (z4.toInt = z2.toInt ∨ z4.toInt = 0) ∧ z2.toInt ≤ z4.toInt ∧ 0 ≤ z4.toInt := by rw [e_z4]; exact n_max (a := z2.toInt) (b := 0) rfl (by decide +kernel)
      refine v_iadd hx hb dX0_tryNumbers_101 _ rfl ?_
      refine lv_topi (fun z5 e_z5 => ?_)
      refine lv_iload_n hx hb dX0_tryNumbers_102 rfl (lv_at hl_1 4 rfl) ?_
      refine lv_iload hx hb dX0_tryNumbers_103 (lv_at hl_1 0 rfl) ?_
      refine v_ineg hx hb dX0_tryNumbers_105 _ rfl ?_
      refine lv_topi (fun z6 e_z6 => ?_)
      refine lv_iconst (v := 0) hx hb dX0_tryNumbers_106 (by decide) ?_
      refine va_mmax hx hb (by rw [hml]; exact hl_1.1.symm) hown (hts _ k_444) (hts _ k_445) (hts _ k_13) (hts _ k_446) (by decide) (Nat.le_of_ble_eq_true rfl) (Nat.le_of_ble_eq_true rfl) (Nat.le_of_ble_eq_true rfl) dX0_tryNumbers_107 ?_
      refine lv_topi (fun z7 e_z7 => ?_)
      have g_z7 : (z7.toInt = z6.toInt ∨ z7.toInt = 0) ∧ z6.toInt ≤ z7.toInt ∧ 0 ≤ z7.toInt := by rw [e_z7]; exact n_max (a := z6.toInt) (b := 0) rfl (by decide +kernel)
      refine v_iadd hx hb dX0_tryNumbers_110 _ rfl ?_
      refine lv_topi (fun z8 e_z8 => ?_)
      have kc2 : (2 : Int32).toInt = 2 := by decide +kernel
      have hM := m101_X0_searchFrom l dC dI cI cJ cII cJJ H_2.size 0 ad f3_unknowns f3_equations f2_roundSupports f2_stale f7_size f1_size f5_keptSize f5_aheadSize f0_solved f4_blockCount f4_blockLength f4_lastIsFree f4_stale ai3 al w0 w1 w2 w3 z5 z8 (by omega) (by omega) (by omega) (by omega) (by omega) (by omega) (by omega) (by omega) (by omega) (by omega) (by omega) hI_4 hw_w0 hw_w1 hw_w2 hw_w3
      refine k2V_v (q0 := 25) ⟨hx, hb, hml, hown, hts⟩ hK hP_5 hD_6 hS_2 hA hX cv_RX0_51 hM ⟨by decide +kernel, by decide +kernel⟩ rfl rfl (Or.inl rfl) (rest := []) rfl rfl rfl hl_1.1 rfl (Nat.le_of_ble_eq_true rfl) dX0_tryNumbers_111 ⟨Nat.le_of_ble_eq_true rfl, Nat.le_of_ble_eq_true rfl⟩ (fun t H1 locs_7 ht hB hS_7 hFc => ?_)
      obtain ⟨v10, ai11, al12, ⟨gpr9_0, hI_8, hFr_r9, hGr_r9⟩, hP_8, -, hD_8⟩ := hB
      have hF_9 := FR_tr hF_3 hFr_r9 (by decide)
      have hG_10 := FL_tr hG hGr_r9 (by decide)
      rw [ht] at hP_8
      have hD_11 := hD_8.weaken (B := A) (fun k q _ h9 => hFc q.1 h9)
      clear ht
      generalize H1 = H_12 at hP_8 hS_7 ⊢
      obtain ⟨z13, e_z13⟩ : ∃ q : Int32, q = L7 + Int32.ofInt 1 := ⟨_, rfl⟩
      have g_z13 : z13.toInt = L7.toInt + 1 := by rw [e_z13]; exact n_add (a := L7.toInt) (b := 1) rfl (by decide +kernel) (by omega) (by omega)
      refine lv_iinc (v := z13) (lv' := [(7, .int z13), (8, .int z2), (0, .ref (ad 25)), (1, .int 1), (2, .int L2), (3, .int L3), (4, .int L4), (5, .int L5), (6, .int L6)]) hx hb dX0_tryNumbers_114 hl_1 (k := 8) rfl e_z13.symm (by decide) rfl (fun ls_13 hl_13 => ?_)
      refine lv_goto (tgt := 68) hx hb dX0_tryNumbers_117 (by decide) ?_
      exact ih L2 L3 L4 L5 L6 z13 v10 ai11 al12 _ _ _ (by omega) (by omega) (by omega) (by omega) (by omega) (by omega) (by omega) (by omega) (by omega) (by omega) (by omega) (by omega) (by omega) (by omega) (by omega) (by omega) (by omega) hI_8 hF_9 hG_10 hw_w0 hw_w1 hw_w2 hw_w3 hP_8 hD_11 hS_7 (lv_sub hl_13 [2, 3, 4, 5, 6, 7, 8, 0] rfl)
set_option maxRecDepth 100000 in
set_option maxHeartbeats 4000000 in
theorem m102_X0_tryNumbers_b64 {p : Program} {l : Launch} {e : Env} {s : State} {m : MethodId} {args : Array Value} {below : List Frame} {meth : Method} {c : Code} {A : Nat → Prop} {dC : Nat → ClassId} {dI : Nat → Nat → Nat} {cI cJ cII cJJ : ClassId} {ad : Nat → Nat} {g : Nat} {f3_unknowns f3_equations f2_roundSupports f2_stale f1_size f5_keptSize f5_aheadSize f0_solved f4_blockCount f4_blockLength f4_lastIsFree f4_stale : Int32} {ai0 : Nat → Nat → Int32} {al0 : Nat → Nat → Int64} {w0 w1 w2 w3 : Nat} (C : Cx p c s m meth args A dC dI (TY cI cJ cII cJJ) cX0_tryNumbers none 9 RX0 0 g) : ∀ (L2 L3 L4 L5 L6 f7_size : Int32) (ai : Nat → Nat → Int32) (al : Nat → Nat → Int64) (H : Heap) (locs : List Loc) (ls : Array Slot), (-6 ≤ L4.toInt ∧ L4.toInt ≤ 6) → -6 ≤ L5.toInt → L6.toInt ≤ 6 → (1 ≤ f3_unknowns.toInt ∧ f3_unknowns.toInt ≤ 4) → (0 ≤ f3_equations.toInt ∧ f3_equations.toInt ≤ 3) → (0 ≤ f2_stale.toInt ∧ f2_stale.toInt ≤ 1) → (0 ≤ f7_size.toInt ∧ f7_size.toInt ≤ 256) → (0 ≤ f1_size.toInt ∧ f1_size.toInt ≤ 4) → (0 ≤ f5_keptSize.toInt ∧ f5_keptSize.toInt ≤ 128) → (0 ≤ f5_aheadSize.toInt ∧ f5_aheadSize.toInt ≤ 128) → (0 ≤ f4_blockCount.toInt ∧ f4_blockCount.toInt ≤ 9261) → (0 ≤ f4_blockLength.toInt ∧ f4_blockLength.toInt ≤ 21) → (0 ≤ f4_lastIsFree.toInt ∧ f4_lastIsFree.toInt ≤ 1) → (0 ≤ f4_stale.toInt ∧ f4_stale.toInt ≤ 1) → IAX ai → FR [28] ai0 ai → FL [13] al0 al → RWX ad w0 → RWX ad w1 → RWX ad w2 → RWX ad w3 → va_P (dC, dI) vwCl (WX cI cJ cII cJJ ad f3_unknowns f3_equations f2_roundSupports f2_stale f7_size f1_size f5_keptSize f5_aheadSize f0_solved f4_blockCount f4_blockLength f4_lastIsFree f4_stale ai al w0 w1 w2 w3) H → va_D A (WX cI cJ cII cJJ ad f3_unknowns f3_equations f2_roundSupports f2_stale f7_size f1_size f5_keptSize f5_aheadSize f0_solved f4_blockCount f4_blockLength f4_lastIsFree f4_stale ai al w0 w1 w2 w3) → va_S A s.heap H locs → lv_has ls 9 [(0, .ref (ad 25)), (1, .int 1), (2, .int L2), (3, .int L3), (4, .int L4), (5, .int L5), (6, .int L6)] → W p l e ({ frames := 8, cells := 0, slots := 0, locals := 440 } : Room) s m args below meth c H locs 0 0 (MQ below (Q_m102_X0_tryNumbers dC dI cI cJ cII cJJ ad f3_unknowns f3_equations f2_roundSupports f2_stale f1_size f5_keptSize f5_aheadSize f0_solved f4_blockCount f4_blockLength f4_lastIsFree f4_stale ai0 al0 w0 w1 w2 w3 A) args s 0 0 A) (F0 m 64 ls []) := by
  obtain ⟨hx, hb, hr, hml, hown, hts, hk, hA, hK, hX⟩ := id C
  intro L2 L3 L4 L5 L6 f7_size ai al H locs ls h0 h1 h2 h3 h4 h5 h6 h7 h8 h9 h10 h11 h12 h13 hI hF hG hw_w0 hw_w1 hw_w2 hw_w3 hP hD hS hl
  have ra_L2 := s_any L2
  have ra_L3 := s_any L3
  have ra_L5 := s_any L5
  have ra_L6 := s_any L6
  refine lv_iload hx hb dX0_tryNumbers_64 (lv_at hl 5 rfl) ?_
  refine lv_istore (lv' := [(7, .int L5), (0, .ref (ad 25)), (1, .int 1), (2, .int L2), (3, .int L3), (4, .int L4), (5, .int L5), (6, .int L6)]) hx hb dX0_tryNumbers_66 hl (by decide) rfl (fun ls_1 hl_1 => ?_)
  exact m102_X0_tryNumbers_b68 C  _ L2 L3 L4 L5 L6 L5 f7_size ai al _ _ _ (by omega) (by omega) (by omega) (by omega) (by omega) (by omega) (by omega) (by omega) (by omega) (by omega) (by omega) (by omega) (by omega) (by omega) (by omega) (j_fuel _) (by omega) hI hF hG hw_w0 hw_w1 hw_w2 hw_w3 hP hD hS (lv_sub hl_1 [1, 2, 3, 4, 5, 6, 7, 0] rfl)
set_option maxRecDepth 100000 in
set_option maxHeartbeats 4000000 in
theorem m102_X0_tryNumbers (l : Launch) (dC : Nat → ClassId) (dI : Nat → Nat → Nat) (cI cJ cII cJJ : ClassId) (sz g : Nat) (ad : Nat → Nat) (f3_unknowns f3_equations f2_roundSupports f2_stale f7_size f1_size f5_keptSize f5_aheadSize f0_solved f4_blockCount f4_blockLength f4_lastIsFree f4_stale : Int32) (ai : Nat → Nat → Int32) (al : Nat → Nat → Int64) (w0 w1 w2 w3 : Nat) (x2 : Int32) (x3 : Int32) (h_f3_unknowns : (1 ≤ f3_unknowns.toInt ∧ f3_unknowns.toInt ≤ 4)) (h_f3_equations : (0 ≤ f3_equations.toInt ∧ f3_equations.toInt ≤ 3)) (h_f2_stale : (0 ≤ f2_stale.toInt ∧ f2_stale.toInt ≤ 1)) (h_f7_size : (0 ≤ f7_size.toInt ∧ f7_size.toInt ≤ 256)) (h_f1_size : (0 ≤ f1_size.toInt ∧ f1_size.toInt ≤ 4)) (h_f5_keptSize : (0 ≤ f5_keptSize.toInt ∧ f5_keptSize.toInt ≤ 128)) (h_f5_aheadSize : (0 ≤ f5_aheadSize.toInt ∧ f5_aheadSize.toInt ≤ 128)) (h_f4_blockCount : (0 ≤ f4_blockCount.toInt ∧ f4_blockCount.toInt ≤ 9261)) (h_f4_blockLength : (0 ≤ f4_blockLength.toInt ∧ f4_blockLength.toInt ≤ 21)) (h_f4_lastIsFree : (0 ≤ f4_lastIsFree.toInt ∧ f4_lastIsFree.toInt ≤ 1)) (h_f4_stale : (0 ≤ f4_stale.toInt ∧ f4_stale.toInt ≤ 1)) (hI : IAX ai) (hw_w0 : RWX ad w0) (hw_w1 : RWX ad w1) (hw_w2 : RWX ad w2) (hw_w3 : RWX ad w3) : Met l yX0_tryNumbers (.code yX0_tryNumbers cX0_tryNumbers 9 none :: TT) ({ frames := 8, cells := 0, slots := 0, locals := 440 } : Room) (PcS dC dI (TY cI cJ cII cJJ) [.ref (ad 25), .int 1, .int x2, .int x3] (WX cI cJ cII cJJ ad f3_unknowns f3_equations f2_roundSupports f2_stale f7_size f1_size f5_keptSize f5_aheadSize f0_solved f4_blockCount f4_blockLength f4_lastIsFree f4_stale ai al w0 w1 w2 w3) sz 0 g) (Q_m102_X0_tryNumbers dC dI cI cJ cII cJJ ad f3_unknowns f3_equations f2_roundSupports f2_stale f1_size f5_keptSize f5_aheadSize f0_solved f4_blockCount f4_blockLength f4_lastIsFree f4_stale ai al w0 w1 w2 w3 (va_A (WX cI cJ cII cJJ ad f3_unknowns f3_equations f2_roundSupports f2_stale f7_size f1_size f5_keptSize f5_aheadSize f0_solved f4_blockCount f4_blockLength f4_lastIsFree f4_stale ai al w0 w1 w2 w3) sz)) 0 0 (va_A (WX cI cJ cII cJJ ad f3_unknowns f3_equations f2_roundSupports f2_stale f7_size f1_size f5_keptSize f5_aheadSize f0_solved f4_blockCount f4_blockLength f4_lastIsFree f4_stale ai al w0 w1 w2 w3) sz) := by
  refine SM.of (y := yX0_tryNumbers) (maxL := 9) (av := [.ref (ad 25), .int 1, .int x2, .int x3]) (Q_m102_X0_tryNumbers dC dI cI cJ cII cJJ ad f3_unknowns f3_equations f2_roundSupports f2_stale f1_size f5_keptSize f5_aheadSize f0_solved f4_blockCount f4_blockLength f4_lastIsFree f4_stale ai al w0 w1 w2 w3) (by decide +kernel) (Nat.le_of_ble_eq_true rfl) (fun p e s m below meth c A ls hx hb hr hml hown hts hk hnm hA hK hP hD hS hX hl => ?_)
  have C : Cx p c s m meth (([.ref (ad 25), .int 1, .int x2, .int x3] : List Value).toArray) A dC dI (TY cI cJ cII cJJ) cX0_tryNumbers none 9 RX0 0 g := ⟨hx, hb, hr, hml, hown, hts, hk, hA, hK, hX⟩
  have hown : s.vm.findClass RX0 = some m.cls := hown
  have hl : lv_has ls 9 [(0, .ref (ad 25)), (1, .int 1), (2, .int x2), (3, .int x3)] := hl
  obtain ⟨H, hH⟩ : ∃ q, q = s.heap := ⟨_, rfl⟩
  rw [← hH] at hP
  have hS : va_S A s.heap H [] := by rw [hH]; exact hS
  rw [← hH]
  have hF := FR_refl [28] ai
  have hG := FL_refl [13] al
  have ra_x2 := s_any x2
  have ra_x3 := s_any x3
  refine lv_aload_n hx hb dX0_tryNumbers_0 rfl (lv_at hl 0 rfl) ?_
  refine gf (k := 2) hx hb hts inX0 hown hK hP k_158 rfl (by decide) rfl 25 rfl (.ref (ad 26)) rfl dX0_tryNumbers_1 ?_
  refine lv_iload_n hx hb dX0_tryNumbers_4 rfl (lv_at hl 1 rfl) ?_
  refine va_iald hx hb hK hP 26 0 rfl rfl (vin (by decide +kernel)) dX0_tryNumbers_5 ?_
  refine lv_topi (fun z1 e_z1 => ?_)
  have k_z1 : z1.toInt = (ai 26 1).toInt := by rw [e_z1]; rfl
  have g_z1 : -6 ≤ z1.toInt ∧ z1.toInt ≤ 6 := by rw [e_z1]; exact IAX_at26 hI _
  refine lv_istore (lv' := [(4, .int z1), (0, .ref (ad 25)), (1, .int 1), (2, .int x2), (3, .int x3)]) hx hb dX0_tryNumbers_6 hl (by decide) rfl (fun ls_1 hl_1 => ?_)
  refine lv_aload_n hx hb dX0_tryNumbers_8 rfl (lv_at hl_1 1 rfl) ?_
  refine gf (k := 3) hx hb hts inX0 hown hK hP k_159 rfl (by decide) rfl 25 rfl (.ref (ad 27)) rfl dX0_tryNumbers_9 ?_
  refine lv_iload_n hx hb dX0_tryNumbers_12 rfl (lv_at hl_1 2 rfl) ?_
  refine va_iald hx hb hK hP 27 0 rfl rfl (vin (by decide +kernel)) dX0_tryNumbers_13 ?_
  refine lv_topi (fun z2 e_z2 => ?_)
  have k_z2 : z2.toInt = (ai 27 1).toInt := by rw [e_z2]; rfl
  have g_z2 : 0 ≤ z2.toInt ∧ z2.toInt ≤ 6 := by rw [e_z2]; exact IAX_at27 hI _
  refine v_ineg hx hb dX0_tryNumbers_14 _ rfl ?_
  refine lv_topi (fun z3 e_z3 => ?_)
  have g_z3 : z3.toInt = -z2.toInt := by rw [e_z3]; exact n_neg (a := z2.toInt) rfl (by omega)
  refine lv_istore (lv' := [(5, .int z3), (4, .int z1), (0, .ref (ad 25)), (1, .int 1), (2, .int x2), (3, .int x3)]) hx hb dX0_tryNumbers_15 hl_1 (by decide) rfl (fun ls_2 hl_2 => ?_)
  refine lv_aload_n hx hb dX0_tryNumbers_17 rfl (lv_at hl_2 2 rfl) ?_
  refine gf (k := 3) hx hb hts inX0 hown hK hP k_159 rfl (by decide) rfl 25 rfl (.ref (ad 27)) rfl dX0_tryNumbers_18 ?_
  refine lv_iload_n hx hb dX0_tryNumbers_21 rfl (lv_at hl_2 3 rfl) ?_
  refine va_iald hx hb hK hP 27 0 rfl rfl (vin (by decide +kernel)) dX0_tryNumbers_22 ?_
  refine lv_topi (fun z4 e_z4 => ?_)
  have k_z4 : z4.toInt = (ai 27 1).toInt := by rw [e_z4]; rfl
  have g_z4 : 0 ≤ z4.toInt ∧ z4.toInt ≤ 6 := by rw [e_z4]; exact IAX_at27 hI _
  refine lv_istore (lv' := [(6, .int z4), (5, .int z3), (4, .int z1), (0, .ref (ad 25)), (1, .int 1), (2, .int x2), (3, .int x3)]) hx hb dX0_tryNumbers_23 hl_2 (by decide) rfl (fun ls_3 hl_3 => ?_)
  refine lv_iload_n hx hb dX0_tryNumbers_25 rfl (lv_at hl_3 4 rfl) ?_
  refine lv_aload_n hx hb dX0_tryNumbers_26 rfl (lv_at hl_3 3 rfl) ?_
  refine gf (k := 5) hx hb hts inX0 hown hK hP k_161 rfl (by decide) rfl 25 rfl (.int f0_solved) rfl dX0_tryNumbers_27 ?_
  refine lv_icmp_ne (tgt := 64) hx hb dX0_tryNumbers_30 (by decide) (fun c5 => ?_) (fun c5 => ?_)
  · have c5 := j_ne (a := 1) (b := f0_solved.toInt) (by decide +kernel) rfl c5
    exact m102_X0_tryNumbers_b64 C  x2 x3 z1 z3 z4 f7_size ai al _ _ _ (by omega) (by omega) (by omega) (by omega) (by omega) (by omega) (by omega) (by omega) (by omega) (by omega) (by omega) (by omega) (by omega) (by omega) hI hF hG hw_w0 hw_w1 hw_w2 hw_w3 hP hD hS (lv_sub hl_3 [3, 4, 5, 6, 2, 1, 0] rfl)
  · have c5 := j_eq (a := 1) (b := f0_solved.toInt) (by decide +kernel) rfl c5
    refine lv_iload hx hb dX0_tryNumbers_33 (lv_at hl_3 2 rfl) ?_
    refine lv_if_eq (tgt := 64) hx hb dX0_tryNumbers_35 (by decide) (fun c6 => ?_) (fun c6 => ?_)
    · have c6 := j_eq (a := z1.toInt) (b := 0) rfl (by decide +kernel) c6
      exact m102_X0_tryNumbers_b64 C  x2 x3 z1 z3 z4 f7_size ai al _ _ _ (by omega) (by omega) (by omega) (by omega) (by omega) (by omega) (by omega) (by omega) (by omega) (by omega) (by omega) (by omega) (by omega) (by omega) hI hF hG hw_w0 hw_w1 hw_w2 hw_w3 hP hD hS (lv_sub hl_3 [3, 4, 5, 6, 2, 1, 0] rfl)
    · have c6 := j_ne (a := z1.toInt) (b := 0) rfl (by decide +kernel) c6
      refine lv_iload_n hx hb dX0_tryNumbers_38 rfl (lv_at hl_3 6 rfl) ?_
      refine lv_iload_n hx hb dX0_tryNumbers_39 rfl (lv_at hl_3 5 rfl) ?_
      refine v_isub hx hb dX0_tryNumbers_40 _ rfl ?_
      refine lv_topi (fun z7 e_z7 => ?_)
      refine lv_iload hx hb dX0_tryNumbers_41 (lv_at hl_3 2 rfl) ?_
      refine v_idiv hx hb dX0_tryNumbers_43 (j_nz (a := z1.toInt) rfl (by omega)) _ rfl ?_
      refine lv_topi (fun z8 e_z8 => ?_)
      refine lv_istore (lv' := [(7, .int z8), (6, .int z4), (5, .int z3), (4, .int z1), (0, .ref (ad 25)), (1, .int 1), (2, .int x2), (3, .int x3)]) hx hb dX0_tryNumbers_44 hl_3 (by decide) rfl (fun ls_4 hl_4 => ?_)
      refine lv_iload hx hb dX0_tryNumbers_46 (lv_at hl_4 2 rfl) ?_
      refine lv_iload hx hb dX0_tryNumbers_48 (lv_at hl_4 0 rfl) ?_
      refine va_mmax hx hb (by rw [hml]; exact hl_4.1.symm) hown (hts _ k_444) (hts _ k_445) (hts _ k_13) (hts _ k_446) (by decide) (Nat.le_of_ble_eq_true rfl) (Nat.le_of_ble_eq_true rfl) (Nat.le_of_ble_eq_true rfl) dX0_tryNumbers_50 ?_
      refine lv_topi (fun z9 e_z9 => ?_)
      have g_z9 : (z9.toInt = z3.toInt ∨ z9.toInt = z8.toInt) ∧ z3.toInt ≤ z9.toInt ∧ z8.toInt ≤ z9.toInt := by rw [e_z9]; exact n_max (a := z3.toInt) (b := z8.toInt) rfl rfl
      refine lv_istore (lv' := [(5, .int z9), (7, .int z8), (6, .int z4), (4, .int z1), (0, .ref (ad 25)), (1, .int 1), (2, .int x2), (3, .int x3)]) hx hb dX0_tryNumbers_53 hl_4 (by decide) rfl (fun ls_5 hl_5 => ?_)
      refine lv_iload hx hb dX0_tryNumbers_55 (lv_at hl_5 2 rfl) ?_
      refine lv_iload hx hb dX0_tryNumbers_57 (lv_at hl_5 1 rfl) ?_
      refine va_mmin hx hb (by rw [hml]; exact hl_5.1.symm) hown (hts _ k_463) (hts _ k_464) (hts _ k_13) (hts _ k_465) (by decide) (Nat.le_of_ble_eq_true rfl) (Nat.le_of_ble_eq_true rfl) (Nat.le_of_ble_eq_true rfl) dX0_tryNumbers_59 ?_
      refine lv_topi (fun z10 e_z10 => ?_)
      have g_z10 : (z10.toInt = z4.toInt ∨ z10.toInt = z8.toInt) ∧ z4.toInt ≥ z10.toInt ∧ z8.toInt ≥ z10.toInt := by rw [e_z10]; exact n_min (a := z4.toInt) (b := z8.toInt) rfl rfl
      refine lv_istore (lv' := [(6, .int z10), (5, .int z9), (7, .int z8), (4, .int z1), (0, .ref (ad 25)), (1, .int 1), (2, .int x2), (3, .int x3)]) hx hb dX0_tryNumbers_62 hl_5 (by decide) rfl (fun ls_6 hl_6 => ?_)
      exact m102_X0_tryNumbers_b64 C  x2 x3 z1 z9 z10 f7_size ai al _ _ _ (by omega) (by omega) (by omega) (by omega) (by omega) (by omega) (by omega) (by omega) (by omega) (by omega) (by omega) (by omega) (by omega) (by omega) hI hF hG hw_w0 hw_w1 hw_w2 hw_w3 hP hD hS (lv_sub hl_6 [4, 5, 6, 7, 3, 1, 0] rfl)
def Q_m103_X0_searchFrom (dC : Nat → ClassId) (dI : Nat → Nat → Nat) (cI cJ cII cJJ : ClassId) (ad : Nat → Nat) (f3_unknowns f3_equations f2_roundSupports f2_stale f1_size f5_keptSize f5_aheadSize f0_solved f4_blockCount f4_blockLength f4_lastIsFree f4_stale : Int32) (ai0 : Nat → Nat → Int32) (al0 : Nat → Nat → Int64) (w0 w1 w2 w3 : Nat) : (Nat → Prop) → Array Value → State → Outcome → State → Prop := fun A => QV (fun t => ∃ (n_f7_size : Int32), ∃ (n_ai : Nat → Nat → Int32), ∃ (n_al : Nat → Nat → Int64), ((0 ≤ n_f7_size.toInt ∧ n_f7_size.toInt ≤ 256) ∧ IAX n_ai ∧ FR [28] ai0 n_ai ∧ FL [13] al0 n_al) ∧ WO dC dI (TY cI cJ cII cJJ) (WX cI cJ cII cJJ ad f3_unknowns f3_equations f2_roundSupports f2_stale n_f7_size f1_size f5_keptSize f5_aheadSize f0_solved f4_blockCount f4_blockLength f4_lastIsFree f4_stale n_ai n_al w0 w1 w2 w3) A t) A
set_option maxRecDepth 100000 in
set_option maxHeartbeats 4000000 in
theorem m103_X0_searchFrom_b28 {p : Program} {l : Launch} {e : Env} {s : State} {m : MethodId} {args : Array Value} {below : List Frame} {meth : Method} {c : Code} {A : Nat → Prop} {dC : Nat → ClassId} {dI : Nat → Nat → Nat} {cI cJ cII cJJ : ClassId} {ad : Nat → Nat} {g : Nat} {f3_unknowns f3_equations f2_roundSupports f2_stale f1_size f5_keptSize f5_aheadSize f0_solved f4_blockCount f4_blockLength f4_lastIsFree f4_stale : Int32} {ai0 : Nat → Nat → Int32} {al0 : Nat → Nat → Int64} {w0 w1 w2 w3 : Nat} (C : Cx p c s m meth args A dC dI (TY cI cJ cII cJJ) cX0_searchFrom none 4 RX0 0 g) : ∀ (L2 L3 f7_size : Int32) (ai : Nat → Nat → Int32) (al : Nat → Nat → Int64) (H : Heap) (locs : List Loc) (ls : Array Slot), L2.toInt ≤ 36 → L3.toInt ≤ 36 → (1 ≤ f3_unknowns.toInt ∧ f3_unknowns.toInt ≤ 1) → (0 ≤ f3_equations.toInt ∧ f3_equations.toInt ≤ 3) → (0 ≤ f2_stale.toInt ∧ f2_stale.toInt ≤ 1) → (0 ≤ f7_size.toInt ∧ f7_size.toInt ≤ 256) → (0 ≤ f1_size.toInt ∧ f1_size.toInt ≤ 4) → (0 ≤ f5_keptSize.toInt ∧ f5_keptSize.toInt ≤ 128) → (0 ≤ f5_aheadSize.toInt ∧ f5_aheadSize.toInt ≤ 128) → (0 ≤ f4_blockCount.toInt ∧ f4_blockCount.toInt ≤ 9261) → (0 ≤ f4_blockLength.toInt ∧ f4_blockLength.toInt ≤ 21) → (0 ≤ f4_lastIsFree.toInt ∧ f4_lastIsFree.toInt ≤ 1) → (0 ≤ f4_stale.toInt ∧ f4_stale.toInt ≤ 1) → IAX ai → FR [28] ai0 ai → FL [13] al0 al → RWX ad w0 → RWX ad w1 → RWX ad w2 → RWX ad w3 → va_P (dC, dI) vwCl (WX cI cJ cII cJJ ad f3_unknowns f3_equations f2_roundSupports f2_stale f7_size f1_size f5_keptSize f5_aheadSize f0_solved f4_blockCount f4_blockLength f4_lastIsFree f4_stale ai al w0 w1 w2 w3) H → va_D A (WX cI cJ cII cJJ ad f3_unknowns f3_equations f2_roundSupports f2_stale f7_size f1_size f5_keptSize f5_aheadSize f0_solved f4_blockCount f4_blockLength f4_lastIsFree f4_stale ai al w0 w1 w2 w3) → va_S A s.heap H locs → lv_has ls 4 [(0, .ref (ad 25)), (1, .int 1), (2, .int L2), (3, .int L3)] → W p l e ({ frames := 9, cells := 0, slots := 0, locals := 500 } : Room) s m args below meth c H locs 0 0 (MQ below (Q_m103_X0_searchFrom dC dI cI cJ cII cJJ ad f3_unknowns f3_equations f2_roundSupports f2_stale f1_size f5_keptSize f5_aheadSize f0_solved f4_blockCount f4_blockLength f4_lastIsFree f4_stale ai0 al0 w0 w1 w2 w3 A) args s 0 0 A) (F0 m 28 ls []) := by
  obtain ⟨hx, hb, hr, hml, hown, hts, hk, hA, hK, hX⟩ := id C
  intro L2 L3 f7_size ai al H locs ls h0 h1 h2 h3 h4 h5 h6 h7 h8 h9 h10 h11 h12 hI hF hG hw_w0 hw_w1 hw_w2 hw_w3 hP hD hS hl
  have ra_L2 := s_any L2
  have ra_L3 := s_any L3
  refine lv_iload_n hx hb dX0_searchFrom_28 rfl (lv_at hl 2 rfl) ?_
  refine lv_iload_n hx hb dX0_searchFrom_29 rfl (lv_at hl 3 rfl) ?_
  refine lv_icmp_ne (tgt := 54) hx hb dX0_searchFrom_30 (by decide) (fun c1 => ?_) (fun c1 => ?_)
  · have c1 := j_ne (a := L2.toInt) (b := L3.toInt) rfl rfl c1
    exact r2_v hx hb hr hk hS dX0_searchFrom_54 (fun t ht hW => ⟨f7_size, ai, al, ⟨(by first | omega | decide | exact Or.inl (by decide) | exact Or.inr (by decide) | exact Or.inr (by omega)), hI, hF, hG⟩, by rw [ht]; exact hP, va_K.moved hW.alike hK, hD⟩)
  · have c1 := j_eq (a := L2.toInt) (b := L3.toInt) rfl rfl c1
    refine lv_aload_n hx hb dX0_searchFrom_33 rfl (lv_at hl 0 rfl) ?_
    refine lv_iload_n hx hb dX0_searchFrom_34 rfl (lv_at hl 2 rfl) ?_
    have hM := m094_X0_isLeast l dC dI cI cJ cII cJJ H.size 0 ad f3_unknowns f3_equations f2_roundSupports f2_stale f7_size f1_size f5_keptSize f5_aheadSize f0_solved f4_blockCount f4_blockLength f4_lastIsFree f4_stale ai al w0 w1 w2 w3 L2 (by omega) (by omega) (by omega) (by omega) (by omega) (by omega) (by omega) (by omega) (by omega) (by omega) (by omega) hI hw_w0 hw_w1 hw_w2 hw_w3
    refine k2V_i (q0 := 25) ⟨hx, hb, hml, hown, hts⟩ hK hP hD hS hA hX cv_RX0_76 hM ⟨by decide +kernel, by decide +kernel⟩ rfl rfl (Or.inl rfl) (rest := []) rfl rfl rfl hl.1 rfl (Nat.le_of_ble_eq_true rfl) dX0_searchFrom_35 ⟨Nat.le_of_ble_eq_true rfl, Nat.le_of_ble_eq_true rfl⟩ (fun r2 t H1 locs_1 ht hB hS_1 hFc => ?_)
    obtain ⟨gpr2_0, hP_2, -, hD_2⟩ := hB
    rw [ht] at hP_2
    have hD_3 := hD_2.weaken (B := A) (fun k q _ h9 => hFc q.1 h9)
    clear ht
    generalize H1 = H_4 at hP_2 hS_1 ⊢
    refine lv_if_eq (tgt := 54) hx hb dX0_searchFrom_38 (by decide) (fun c3 => ?_) (fun c3 => ?_)
    · have c3 := j_eq (a := r2.toInt) (b := 0) rfl (by decide +kernel) c3
      exact r2_v hx hb hr hk hS_1 dX0_searchFrom_54 (fun t ht hW => ⟨f7_size, ai, al, ⟨(by first | omega | decide | exact Or.inl (by decide) | exact Or.inr (by decide) | exact Or.inr (by omega)), hI, hF, hG⟩, by rw [ht]; exact hP_2, va_K.moved hW.alike hK, hD_3⟩)
    · have c3 := j_ne (a := r2.toInt) (b := 0) rfl (by decide +kernel) c3
      refine lv_aload_n hx hb dX0_searchFrom_41 rfl (lv_at hl 0 rfl) ?_
      refine gf (k := 1) hx hb hts inX0 hown hK hP_2 k_157 rfl (by decide) rfl 25 rfl (.ref (ad 12)) rfl dX0_searchFrom_42 ?_
      refine lv_aload_n hx hb dX0_searchFrom_45 rfl (lv_at hl 0 rfl) ?_
      refine gf (k := 4) hx hb hts inX0 hown hK hP_2 k_160 rfl (by decide) rfl 25 rfl (.ref (ad 28)) rfl dX0_searchFrom_46 ?_
      refine lv_iconst (v := 0) hx hb dX0_searchFrom_49 (by decide) ?_
      refine lv_iconst (v := 1) hx hb dX0_searchFrom_50 (by decide) ?_
      have kc0 : (0 : Int32).toInt = 0 := by decide +kernel
      have kc1 : (1 : Int32).toInt = 1 := by decide +kernel
      have hM := m095_X7_append l dC dI cI cJ cII cJJ H_4.size 0 ad f3_unknowns f3_equations f2_roundSupports f2_stale f7_size f1_size f5_keptSize f5_aheadSize f0_solved f4_blockCount f4_blockLength f4_lastIsFree f4_stale ai al w0 w1 w2 w3 0 1 (by omega) (by omega) (by omega) (by omega) (by omega) (by omega) (by omega) (by omega) (by omega) (by omega) (by omega) hI hw_w0 hw_w1 hw_w2 hw_w3
      refine k2V_v (q0 := 12) ⟨hx, hb, hml, hown, hts⟩ hK hP_2 hD_3 hS_1 hA hX cv_RX0_80 hM ⟨by decide +kernel, by decide +kernel⟩ rfl rfl (Or.inl rfl) (rest := []) rfl rfl rfl hl.1 rfl (Nat.le_of_ble_eq_true rfl) dX0_searchFrom_51 ⟨Nat.le_of_ble_eq_true rfl, Nat.le_of_ble_eq_true rfl⟩ (fun t H1 locs_5 ht hB hS_5 hFc => ?_)
      obtain ⟨v5, al6, ⟨gpr4_0, hGr_r4⟩, hP_6, -, hD_6⟩ := hB
      have hG_7 := FL_tr hG hGr_r4 (by decide)
      rw [ht] at hP_6
      have hD_8 := hD_6.weaken (B := A) (fun k q _ h9 => hFc q.1 h9)
      clear ht
      generalize H1 = H_9 at hP_6 hS_5 ⊢
      exact r2_v hx hb hr hk hS_5 dX0_searchFrom_54 (fun t ht hW => ⟨v5, ai, al6, ⟨(by first | omega | decide | exact Or.inl (by decide) | exact Or.inr (by decide) | exact Or.inr (by omega)), hI, hF, hG_7⟩, by rw [ht]; exact hP_6, va_K.moved hW.alike hK, hD_8⟩)
set_option maxRecDepth 100000 in
set_option maxHeartbeats 4000000 in
theorem m103_X0_searchFrom (l : Launch) (dC : Nat → ClassId) (dI : Nat → Nat → Nat) (cI cJ cII cJJ : ClassId) (sz g : Nat) (ad : Nat → Nat) (f3_unknowns f3_equations f2_roundSupports f2_stale f7_size f1_size f5_keptSize f5_aheadSize f0_solved f4_blockCount f4_blockLength f4_lastIsFree f4_stale : Int32) (ai : Nat → Nat → Int32) (al : Nat → Nat → Int64) (w0 w1 w2 w3 : Nat) (x2 : Int32) (x3 : Int32) (h_f3_unknowns : (1 ≤ f3_unknowns.toInt ∧ f3_unknowns.toInt ≤ 4)) (h_f3_equations : (0 ≤ f3_equations.toInt ∧ f3_equations.toInt ≤ 3)) (h_f2_stale : (0 ≤ f2_stale.toInt ∧ f2_stale.toInt ≤ 1)) (h_f7_size : (0 ≤ f7_size.toInt ∧ f7_size.toInt ≤ 256)) (h_f1_size : (0 ≤ f1_size.toInt ∧ f1_size.toInt ≤ 4)) (h_f5_keptSize : (0 ≤ f5_keptSize.toInt ∧ f5_keptSize.toInt ≤ 128)) (h_f5_aheadSize : (0 ≤ f5_aheadSize.toInt ∧ f5_aheadSize.toInt ≤ 128)) (h_f4_blockCount : (0 ≤ f4_blockCount.toInt ∧ f4_blockCount.toInt ≤ 9261)) (h_f4_blockLength : (0 ≤ f4_blockLength.toInt ∧ f4_blockLength.toInt ≤ 21)) (h_f4_lastIsFree : (0 ≤ f4_lastIsFree.toInt ∧ f4_lastIsFree.toInt ≤ 1)) (h_f4_stale : (0 ≤ f4_stale.toInt ∧ f4_stale.toInt ≤ 1)) (hI : IAX ai) (hw_w0 : RWX ad w0) (hw_w1 : RWX ad w1) (hw_w2 : RWX ad w2) (hw_w3 : RWX ad w3) : Met l yX0_searchFrom (.code yX0_searchFrom cX0_searchFrom 4 none :: TT) ({ frames := 9, cells := 0, slots := 0, locals := 500 } : Room) (PcS dC dI (TY cI cJ cII cJJ) [.ref (ad 25), .int 1, .int x2, .int x3] (WX cI cJ cII cJJ ad f3_unknowns f3_equations f2_roundSupports f2_stale f7_size f1_size f5_keptSize f5_aheadSize f0_solved f4_blockCount f4_blockLength f4_lastIsFree f4_stale ai al w0 w1 w2 w3) sz 0 g) (Q_m103_X0_searchFrom dC dI cI cJ cII cJJ ad f3_unknowns f3_equations f2_roundSupports f2_stale f1_size f5_keptSize f5_aheadSize f0_solved f4_blockCount f4_blockLength f4_lastIsFree f4_stale ai al w0 w1 w2 w3 (va_A (WX cI cJ cII cJJ ad f3_unknowns f3_equations f2_roundSupports f2_stale f7_size f1_size f5_keptSize f5_aheadSize f0_solved f4_blockCount f4_blockLength f4_lastIsFree f4_stale ai al w0 w1 w2 w3) sz)) 0 0 (va_A (WX cI cJ cII cJJ ad f3_unknowns f3_equations f2_roundSupports f2_stale f7_size f1_size f5_keptSize f5_aheadSize f0_solved f4_blockCount f4_blockLength f4_lastIsFree f4_stale ai al w0 w1 w2 w3) sz) := by
  refine SM.of (y := yX0_searchFrom) (maxL := 4) (av := [.ref (ad 25), .int 1, .int x2, .int x3]) (Q_m103_X0_searchFrom dC dI cI cJ cII cJJ ad f3_unknowns f3_equations f2_roundSupports f2_stale f1_size f5_keptSize f5_aheadSize f0_solved f4_blockCount f4_blockLength f4_lastIsFree f4_stale ai al w0 w1 w2 w3) (by decide +kernel) (Nat.le_of_ble_eq_true rfl) (fun p e s m below meth c A ls hx hb hr hml hown hts hk hnm hA hK hP hD hS hX hl => ?_)
  have C : Cx p c s m meth (([.ref (ad 25), .int 1, .int x2, .int x3] : List Value).toArray) A dC dI (TY cI cJ cII cJJ) cX0_searchFrom none 4 RX0 0 g := ⟨hx, hb, hr, hml, hown, hts, hk, hA, hK, hX⟩
  have hown : s.vm.findClass RX0 = some m.cls := hown
  have hl : lv_has ls 4 [(0, .ref (ad 25)), (1, .int 1), (2, .int x2), (3, .int x3)] := hl
  obtain ⟨H, hH⟩ : ∃ q, q = s.heap := ⟨_, rfl⟩
  rw [← hH] at hP
  have hS : va_S A s.heap H [] := by rw [hH]; exact hS
  rw [← hH]
  have hF := FR_refl [28] ai
  have hG := FL_refl [13] al
  have ra_x2 := s_any x2
  have ra_x3 := s_any x3
  refine lv_iload_n hx hb dX0_searchFrom_0 rfl (lv_at hl 2 rfl) ?_
  refine lv_bipush (v := 36) hx hb dX0_searchFrom_1 (by decide) ?_
  refine lv_icmp_gt (tgt := 12) hx hb dX0_searchFrom_3 (by decide) (fun c1 => ?_) (fun c1 => ?_)
  · have c1 := j_lt (a := 36) (b := x2.toInt) (by decide +kernel) rfl c1
    exact r2_v hx hb hr hk hS dX0_searchFrom_12 (fun t ht hW => ⟨f7_size, ai, al, ⟨(by first | omega | decide | exact Or.inl (by decide) | exact Or.inr (by decide) | exact Or.inr (by omega)), hI, hF, hG⟩, by rw [ht]; exact hP, va_K.moved hW.alike hK, hD⟩)
  · have c1 := j_nlt (a := 36) (b := x2.toInt) (by decide +kernel) rfl c1
    refine lv_iload_n hx hb dX0_searchFrom_6 rfl (lv_at hl 3 rfl) ?_
    refine lv_bipush (v := 36) hx hb dX0_searchFrom_7 (by decide) ?_
    refine lv_icmp_le (tgt := 13) hx hb dX0_searchFrom_9 (by decide) (fun c2 => ?_) (fun c2 => ?_)
    · have c2 := j_le (a := x3.toInt) (b := 36) rfl (by decide +kernel) c2
      refine lv_iload_n hx hb dX0_searchFrom_13 rfl (lv_at hl 1 rfl) ?_
      refine f_if_lt hx hb dX0_searchFrom_14 28 (by decide) (by decide +kernel) ?_
      refine lv_iload_n hx hb dX0_searchFrom_17 rfl (lv_at hl 1 rfl) ?_
      refine lv_aload_n hx hb dX0_searchFrom_18 rfl (lv_at hl 0 rfl) ?_
      refine gf (k := 0) hx hb hts inX0 hown hK hP k_156 rfl (by decide) rfl 25 rfl (.ref (ad 6)) rfl dX0_searchFrom_19 ?_
      refine gf (k := 0) hx hb hts inX3 hown hK hP k_40 rfl (by decide) rfl 6 rfl (.int f3_unknowns) rfl dX0_searchFrom_22 ?_
      refine lv_icmp_lt (tgt := 55) hx hb dX0_searchFrom_25 (by decide) (fun c3 => ?_) (fun c3 => ?_)
      · have c3 := j_lt (a := 1) (b := f3_unknowns.toInt) (by decide +kernel) rfl c3
        refine lv_aload_n hx hb dX0_searchFrom_55 rfl (lv_at hl 0 rfl) ?_
        refine lv_iload_n hx hb dX0_searchFrom_56 rfl (lv_at hl 1 rfl) ?_
        refine lv_iload_n hx hb dX0_searchFrom_57 rfl (lv_at hl 2 rfl) ?_
        refine lv_iload_n hx hb dX0_searchFrom_58 rfl (lv_at hl 3 rfl) ?_
        have kc1 : (1 : Int32).toInt = 1 := by decide +kernel
        have hM := m102_X0_tryNumbers l dC dI cI cJ cII cJJ H.size 0 ad f3_unknowns f3_equations f2_roundSupports f2_stale f7_size f1_size f5_keptSize f5_aheadSize f0_solved f4_blockCount f4_blockLength f4_lastIsFree f4_stale ai al w0 w1 w2 w3 x2 x3 (by omega) (by omega) (by omega) (by omega) (by omega) (by omega) (by omega) (by omega) (by omega) (by omega) (by omega) hI hw_w0 hw_w1 hw_w2 hw_w3
        refine k2V_v (q0 := 25) ⟨hx, hb, hml, hown, hts⟩ hK hP hD hS hA hX cv_RX0_86 hM ⟨by decide +kernel, by decide +kernel⟩ rfl rfl (Or.inl rfl) (rest := []) rfl rfl rfl hl.1 rfl (Nat.le_of_ble_eq_true rfl) dX0_searchFrom_59 ⟨Nat.le_of_ble_eq_true rfl, Nat.le_of_ble_eq_true rfl⟩ (fun t H1 locs_1 ht hB hS_1 hFc => ?_)
        obtain ⟨v5, ai6, al7, ⟨gpr4_0, hI_2, hFr_r4, hGr_r4⟩, hP_2, -, hD_2⟩ := hB
        have hF_3 := FR_tr hF hFr_r4 (by decide)
        have hG_4 := FL_tr hG hGr_r4 (by decide)
        rw [ht] at hP_2
        have hD_5 := hD_2.weaken (B := A) (fun k q _ h9 => hFc q.1 h9)
        clear ht
        generalize H1 = H_6 at hP_2 hS_1 ⊢
        exact r2_v hx hb hr hk hS_1 dX0_searchFrom_62 (fun t ht hW => ⟨v5, ai6, al7, ⟨(by first | omega | decide | exact Or.inl (by decide) | exact Or.inr (by decide) | exact Or.inr (by omega)), hI_2, hF_3, hG_4⟩, by rw [ht]; exact hP_2, va_K.moved hW.alike hK, hD_5⟩)
      · have c3 := j_nlt (a := 1) (b := f3_unknowns.toInt) (by decide +kernel) rfl c3
        exact m103_X0_searchFrom_b28 C  x2 x3 f7_size ai al _ _ _ (by omega) (by omega) (by omega) (by omega) (by omega) (by omega) (by omega) (by omega) (by omega) (by omega) (by omega) (by omega) (by omega) hI hF hG hw_w0 hw_w1 hw_w2 hw_w3 hP hD hS (lv_sub hl [0, 1, 2, 3] rfl)
    · have c2 := j_nle (a := x3.toInt) (b := 36) rfl (by decide +kernel) c2
      exact r2_v hx hb hr hk hS dX0_searchFrom_12 (fun t ht hW => ⟨f7_size, ai, al, ⟨(by first | omega | decide | exact Or.inl (by decide) | exact Or.inr (by decide) | exact Or.inr (by omega)), hI, hF, hG⟩, by rw [ht]; exact hP, va_K.moved hW.alike hK, hD⟩)
def Q_m104_X0_tryNumbers (dC : Nat → ClassId) (dI : Nat → Nat → Nat) (cI cJ cII cJJ : ClassId) (ad : Nat → Nat) (f3_unknowns f3_equations f2_roundSupports f2_stale f1_size f5_keptSize f5_aheadSize f0_solved f4_blockCount f4_blockLength f4_lastIsFree f4_stale : Int32) (ai0 : Nat → Nat → Int32) (al0 : Nat → Nat → Int64) (w0 w1 w2 w3 : Nat) : (Nat → Prop) → Array Value → State → Outcome → State → Prop := fun A => QV (fun t => ∃ (n_f7_size : Int32), ∃ (n_ai : Nat → Nat → Int32), ∃ (n_al : Nat → Nat → Int64), ((0 ≤ n_f7_size.toInt ∧ n_f7_size.toInt ≤ 256) ∧ IAX n_ai ∧ FR [28] ai0 n_ai ∧ FL [13] al0 n_al) ∧ WO dC dI (TY cI cJ cII cJJ) (WX cI cJ cII cJJ ad f3_unknowns f3_equations f2_roundSupports f2_stale n_f7_size f1_size f5_keptSize f5_aheadSize f0_solved f4_blockCount f4_blockLength f4_lastIsFree f4_stale n_ai n_al w0 w1 w2 w3) A t) A
set_option maxRecDepth 100000 in
set_option maxHeartbeats 4000000 in
theorem m104_X0_tryNumbers_b68 {p : Program} {l : Launch} {e : Env} {s : State} {m : MethodId} {args : Array Value} {below : List Frame} {meth : Method} {c : Code} {A : Nat → Prop} {dC : Nat → ClassId} {dI : Nat → Nat → Nat} {cI cJ cII cJJ : ClassId} {ad : Nat → Nat} {g : Nat} {f3_unknowns f3_equations f2_roundSupports f2_stale f1_size f5_keptSize f5_aheadSize f0_solved f4_blockCount f4_blockLength f4_lastIsFree f4_stale : Int32} {ai0 : Nat → Nat → Int32} {al0 : Nat → Nat → Int64} {w0 w1 w2 w3 : Nat} (C : Cx p c s m meth args A dC dI (TY cI cJ cII cJJ) cX0_tryNumbers none 9 RX0 0 g) : ∀ (n : Nat), ∀ (L2 L3 L4 L5 L6 L7 f7_size : Int32) (ai : Nat → Nat → Int32) (al : Nat → Nat → Int64) (H : Heap) (locs : List Loc) (ls : Array Slot), (-6 ≤ L4.toInt ∧ L4.toInt ≤ 6) → -6 ≤ L5.toInt → L6.toInt ≤ 6 → -6 ≤ L7.toInt → (1 ≤ f3_unknowns.toInt ∧ f3_unknowns.toInt ≤ 4) → (0 ≤ f3_equations.toInt ∧ f3_equations.toInt ≤ 3) → (0 ≤ f2_stale.toInt ∧ f2_stale.toInt ≤ 1) → (0 ≤ f7_size.toInt ∧ f7_size.toInt ≤ 256) → (0 ≤ f1_size.toInt ∧ f1_size.toInt ≤ 4) → (0 ≤ f5_keptSize.toInt ∧ f5_keptSize.toInt ≤ 128) → (0 ≤ f5_aheadSize.toInt ∧ f5_aheadSize.toInt ≤ 128) → (0 ≤ f4_blockCount.toInt ∧ f4_blockCount.toInt ≤ 9261) → (0 ≤ f4_blockLength.toInt ∧ f4_blockLength.toInt ≤ 21) → (0 ≤ f4_lastIsFree.toInt ∧ f4_lastIsFree.toInt ≤ 1) → (0 ≤ f4_stale.toInt ∧ f4_stale.toInt ≤ 1) → L6.toInt + 1 - L7.toInt < (n : Int) → (0 : Int) < (n : Int) → IAX ai → FR [28] ai0 ai → FL [13] al0 al → RWX ad w0 → RWX ad w1 → RWX ad w2 → RWX ad w3 → va_P (dC, dI) vwCl (WX cI cJ cII cJJ ad f3_unknowns f3_equations f2_roundSupports f2_stale f7_size f1_size f5_keptSize f5_aheadSize f0_solved f4_blockCount f4_blockLength f4_lastIsFree f4_stale ai al w0 w1 w2 w3) H → va_D A (WX cI cJ cII cJJ ad f3_unknowns f3_equations f2_roundSupports f2_stale f7_size f1_size f5_keptSize f5_aheadSize f0_solved f4_blockCount f4_blockLength f4_lastIsFree f4_stale ai al w0 w1 w2 w3) → va_S A s.heap H locs → lv_has ls 9 [(0, .ref (ad 25)), (1, .int 0), (2, .int L2), (3, .int L3), (4, .int L4), (5, .int L5), (6, .int L6), (7, .int L7)] → W p l e ({ frames := 10, cells := 0, slots := 0, locals := 560 } : Room) s m args below meth c H locs 0 0 (MQ below (Q_m104_X0_tryNumbers dC dI cI cJ cII cJJ ad f3_unknowns f3_equations f2_roundSupports f2_stale f1_size f5_keptSize f5_aheadSize f0_solved f4_blockCount f4_blockLength f4_lastIsFree f4_stale ai0 al0 w0 w1 w2 w3 A) args s 0 0 A) (F0 m 68 ls []) := by
  obtain ⟨hx, hb, hr, hml, hown, hts, hk, hA, hK, hX⟩ := id C
  intro n
  induction n with
  | zero =>
    intro L2 L3 L4 L5 L6 L7 f7_size ai al H locs ls h0 h1 h2 h3 h4 h5 h6 h7 h8 h9 h10 h11 h12 h13 h14 h15 h16 hI hF hG hw_w0 hw_w1 hw_w2 hw_w3 hP hD hS hl
    exact absurd h16 (by omega)
  | succ n ih =>
    intro L2 L3 L4 L5 L6 L7 f7_size ai al H locs ls h0 h1 h2 h3 h4 h5 h6 h7 h8 h9 h10 h11 h12 h13 h14 h15 h16 hI hF hG hw_w0 hw_w1 hw_w2 hw_w3 hP hD hS hl
    have ra_L2 := s_any L2
    have ra_L3 := s_any L3
    have ra_L5 := s_any L5
    have ra_L6 := s_any L6
    have ra_L7 := s_any L7
    refine lv_iload hx hb dX0_tryNumbers_68 (lv_at hl 7 rfl) ?_
    refine lv_iload hx hb dX0_tryNumbers_70 (lv_at hl 6 rfl) ?_
    refine lv_icmp_gt (tgt := 120) hx hb dX0_tryNumbers_72 (by decide) (fun c1 => ?_) (fun c1 => ?_)
    · have c1 := j_lt (a := L6.toInt) (b := L7.toInt) rfl rfl c1
      exact r2_v hx hb hr hk hS dX0_tryNumbers_120 (fun t ht hW => ⟨f7_size, ai, al, ⟨(by first | omega | decide | exact Or.inl (by decide) | exact Or.inr (by decide) | exact Or.inr (by omega)), hI, hF, hG⟩, by rw [ht]; exact hP, va_K.moved hW.alike hK, hD⟩)
    · have c1 := j_nlt (a := L6.toInt) (b := L7.toInt) rfl rfl c1
      refine lv_iload hx hb dX0_tryNumbers_75 (lv_at hl 4 rfl) ?_
      refine lv_iload hx hb dX0_tryNumbers_77 (lv_at hl 7 rfl) ?_
      refine v_imul hx hb dX0_tryNumbers_79 _ rfl ?_
      refine lv_topi (fun z2 e_z2 => ?_)
      refine lv_istore (lv' := [(8, .int z2), (0, .ref (ad 25)), (1, .int 0), (2, .int L2), (3, .int L3), (4, .int L4), (5, .int L5), (6, .int L6), (7, .int L7)]) hx hb dX0_tryNumbers_80 hl (by decide) rfl (fun ls_1 hl_1 => ?_)
      refine lv_aload_n hx hb dX0_tryNumbers_82 rfl (lv_at hl_1 1 rfl) ?_
      refine gf (k := 4) hx hb hts inX0 hown hK hP k_160 rfl (by decide) rfl 25 rfl (.ref (ad 28)) rfl dX0_tryNumbers_83 ?_
      refine lv_iload_n hx hb dX0_tryNumbers_86 rfl (lv_at hl_1 2 rfl) ?_
      refine lv_iload hx hb dX0_tryNumbers_87 (lv_at hl_1 8 rfl) ?_
      refine va_iast hx hb hK hP hD hS 28 0 rfl rfl (vin (by decide +kernel)) dX0_tryNumbers_89 (fun H_2 locs_2 hP_2 hD_2 hS_2 => ?_)
      obtain ⟨ai3, e_ai3⟩ : ∃ q : Nat → Nat → Int32, q = va_up ai 28 (upd (ai 28) (0 : Int32).toNatClampNeg L7) := ⟨_, rfl⟩
      have hF_3 := FR_st hF e_ai3 (by decide)
      have hI_4 : IAX ai3 := by rw [e_ai3]; exact hI
      have hP_5 : va_P (dC, dI) vwCl (WX cI cJ cII cJJ ad f3_unknowns f3_equations f2_roundSupports f2_stale f7_size f1_size f5_keptSize f5_aheadSize f0_solved f4_blockCount f4_blockLength f4_lastIsFree f4_stale ai3 al w0 w1 w2 w3) H_2 := by rw [e_ai3]; exact hP_2
      have hD_6 : va_D A (WX cI cJ cII cJJ ad f3_unknowns f3_equations f2_roundSupports f2_stale f7_size f1_size f5_keptSize f5_aheadSize f0_solved f4_blockCount f4_blockLength f4_lastIsFree f4_stale ai3 al w0 w1 w2 w3) := by rw [e_ai3]; exact hD_2
      refine lv_aload_n hx hb dX0_tryNumbers_90 rfl (lv_at hl_1 1 rfl) ?_
      refine lv_iload_n hx hb dX0_tryNumbers_91 rfl (lv_at hl_1 2 rfl) ?_
      refine lv_iconst (v := 1) hx hb dX0_tryNumbers_92 (by decide) ?_
      refine v_iadd hx hb dX0_tryNumbers_93 1 (by decide +kernel) ?_
      refine lv_iload_n hx hb dX0_tryNumbers_94 rfl (lv_at hl_1 3 rfl) ?_
      refine lv_iload hx hb dX0_tryNumbers_95 (lv_at hl_1 0 rfl) ?_
      refine lv_iconst (v := 0) hx hb dX0_tryNumbers_97 (by decide) ?_
      refine va_mmax hx hb (by rw [hml]; exact hl_1.1.symm) hown (hts _ k_444) (hts _ k_445) (hts _ k_13) (hts _ k_446) (by decide) (Nat.le_of_ble_eq_true rfl) (Nat.le_of_ble_eq_true rfl) (Nat.le_of_ble_eq_true rfl) dX0_tryNumbers_98 ?_
      refine lv_topi (fun z4 e_z4 => ?_)
      have g_z4 : (z4.toInt = z2.toInt ∨ z4.toInt = 0) ∧ z2.toInt ≤ z4.toInt ∧ 0 ≤ z4.toInt := by rw [e_z4]; exact n_max (a := z2.toInt) (b := 0) rfl (by decide +kernel)
      refine v_iadd hx hb dX0_tryNumbers_101 _ rfl ?_
      refine lv_topi (fun z5 e_z5 => ?_)
      refine lv_iload_n hx hb dX0_tryNumbers_102 rfl (lv_at hl_1 4 rfl) ?_
      refine lv_iload hx hb dX0_tryNumbers_103 (lv_at hl_1 0 rfl) ?_
      refine v_ineg hx hb dX0_tryNumbers_105 _ rfl ?_
      refine lv_topi (fun z6 e_z6 => ?_)
      refine lv_iconst (v := 0) hx hb dX0_tryNumbers_106 (by decide) ?_
      refine va_mmax hx hb (by rw [hml]; exact hl_1.1.symm) hown (hts _ k_444) (hts _ k_445) (hts _ k_13) (hts _ k_446) (by decide) (Nat.le_of_ble_eq_true rfl) (Nat.le_of_ble_eq_true rfl) (Nat.le_of_ble_eq_true rfl) dX0_tryNumbers_107 ?_
      refine lv_topi (fun z7 e_z7 => ?_)
      have g_z7 : (z7.toInt = z6.toInt ∨ z7.toInt = 0) ∧ z6.toInt ≤ z7.toInt ∧ 0 ≤ z7.toInt := by rw [e_z7]; exact n_max (a := z6.toInt) (b := 0) rfl (by decide +kernel)
      refine v_iadd hx hb dX0_tryNumbers_110 _ rfl ?_
      refine lv_topi (fun z8 e_z8 => ?_)
      have kc1 : (1 : Int32).toInt = 1 := by decide +kernel
      have hM := m103_X0_searchFrom l dC dI cI cJ cII cJJ H_2.size 0 ad f3_unknowns f3_equations f2_roundSupports f2_stale f7_size f1_size f5_keptSize f5_aheadSize f0_solved f4_blockCount f4_blockLength f4_lastIsFree f4_stale ai3 al w0 w1 w2 w3 z5 z8 (by omega) (by omega) (by omega) (by omega) (by omega) (by omega) (by omega) (by omega) (by omega) (by omega) (by omega) hI_4 hw_w0 hw_w1 hw_w2 hw_w3
      refine k2V_v (q0 := 25) ⟨hx, hb, hml, hown, hts⟩ hK hP_5 hD_6 hS_2 hA hX cv_RX0_51 hM ⟨by decide +kernel, by decide +kernel⟩ rfl rfl (Or.inl rfl) (rest := []) rfl rfl rfl hl_1.1 rfl (Nat.le_of_ble_eq_true rfl) dX0_tryNumbers_111 ⟨Nat.le_of_ble_eq_true rfl, Nat.le_of_ble_eq_true rfl⟩ (fun t H1 locs_7 ht hB hS_7 hFc => ?_)
      obtain ⟨v10, ai11, al12, ⟨gpr9_0, hI_8, hFr_r9, hGr_r9⟩, hP_8, -, hD_8⟩ := hB
      have hF_9 := FR_tr hF_3 hFr_r9 (by decide)
      have hG_10 := FL_tr hG hGr_r9 (by decide)
      rw [ht] at hP_8
      have hD_11 := hD_8.weaken (B := A) (fun k q _ h9 => hFc q.1 h9)
      clear ht
      generalize H1 = H_12 at hP_8 hS_7 ⊢
      obtain ⟨z13, e_z13⟩ : ∃ q : Int32, q = L7 + Int32.ofInt 1 := ⟨_, rfl⟩
      have g_z13 : z13.toInt = L7.toInt + 1 := by rw [e_z13]; exact n_add (a := L7.toInt) (b := 1) rfl (by decide +kernel) (by omega) (by omega)
      refine lv_iinc (v := z13) (lv' := [(7, .int z13), (8, .int z2), (0, .ref (ad 25)), (1, .int 0), (2, .int L2), (3, .int L3), (4, .int L4), (5, .int L5), (6, .int L6)]) hx hb dX0_tryNumbers_114 hl_1 (k := 8) rfl e_z13.symm (by decide) rfl (fun ls_13 hl_13 => ?_)
      refine lv_goto (tgt := 68) hx hb dX0_tryNumbers_117 (by decide) ?_
      exact ih L2 L3 L4 L5 L6 z13 v10 ai11 al12 _ _ _ (by omega) (by omega) (by omega) (by omega) (by omega) (by omega) (by omega) (by omega) (by omega) (by omega) (by omega) (by omega) (by omega) (by omega) (by omega) (by omega) (by omega) hI_8 hF_9 hG_10 hw_w0 hw_w1 hw_w2 hw_w3 hP_8 hD_11 hS_7 (lv_sub hl_13 [2, 3, 4, 5, 6, 7, 8, 0] rfl)
set_option maxRecDepth 100000 in
set_option maxHeartbeats 4000000 in
theorem m104_X0_tryNumbers_b64 {p : Program} {l : Launch} {e : Env} {s : State} {m : MethodId} {args : Array Value} {below : List Frame} {meth : Method} {c : Code} {A : Nat → Prop} {dC : Nat → ClassId} {dI : Nat → Nat → Nat} {cI cJ cII cJJ : ClassId} {ad : Nat → Nat} {g : Nat} {f3_unknowns f3_equations f2_roundSupports f2_stale f1_size f5_keptSize f5_aheadSize f0_solved f4_blockCount f4_blockLength f4_lastIsFree f4_stale : Int32} {ai0 : Nat → Nat → Int32} {al0 : Nat → Nat → Int64} {w0 w1 w2 w3 : Nat} (C : Cx p c s m meth args A dC dI (TY cI cJ cII cJJ) cX0_tryNumbers none 9 RX0 0 g) : ∀ (L2 L3 L4 L5 L6 f7_size : Int32) (ai : Nat → Nat → Int32) (al : Nat → Nat → Int64) (H : Heap) (locs : List Loc) (ls : Array Slot), (-6 ≤ L4.toInt ∧ L4.toInt ≤ 6) → -6 ≤ L5.toInt → L6.toInt ≤ 6 → (1 ≤ f3_unknowns.toInt ∧ f3_unknowns.toInt ≤ 4) → (0 ≤ f3_equations.toInt ∧ f3_equations.toInt ≤ 3) → (0 ≤ f2_stale.toInt ∧ f2_stale.toInt ≤ 1) → (0 ≤ f7_size.toInt ∧ f7_size.toInt ≤ 256) → (0 ≤ f1_size.toInt ∧ f1_size.toInt ≤ 4) → (0 ≤ f5_keptSize.toInt ∧ f5_keptSize.toInt ≤ 128) → (0 ≤ f5_aheadSize.toInt ∧ f5_aheadSize.toInt ≤ 128) → (0 ≤ f4_blockCount.toInt ∧ f4_blockCount.toInt ≤ 9261) → (0 ≤ f4_blockLength.toInt ∧ f4_blockLength.toInt ≤ 21) → (0 ≤ f4_lastIsFree.toInt ∧ f4_lastIsFree.toInt ≤ 1) → (0 ≤ f4_stale.toInt ∧ f4_stale.toInt ≤ 1) → IAX ai → FR [28] ai0 ai → FL [13] al0 al → RWX ad w0 → RWX ad w1 → RWX ad w2 → RWX ad w3 → va_P (dC, dI) vwCl (WX cI cJ cII cJJ ad f3_unknowns f3_equations f2_roundSupports f2_stale f7_size f1_size f5_keptSize f5_aheadSize f0_solved f4_blockCount f4_blockLength f4_lastIsFree f4_stale ai al w0 w1 w2 w3) H → va_D A (WX cI cJ cII cJJ ad f3_unknowns f3_equations f2_roundSupports f2_stale f7_size f1_size f5_keptSize f5_aheadSize f0_solved f4_blockCount f4_blockLength f4_lastIsFree f4_stale ai al w0 w1 w2 w3) → va_S A s.heap H locs → lv_has ls 9 [(0, .ref (ad 25)), (1, .int 0), (2, .int L2), (3, .int L3), (4, .int L4), (5, .int L5), (6, .int L6)] → W p l e ({ frames := 10, cells := 0, slots := 0, locals := 560 } : Room) s m args below meth c H locs 0 0 (MQ below (Q_m104_X0_tryNumbers dC dI cI cJ cII cJJ ad f3_unknowns f3_equations f2_roundSupports f2_stale f1_size f5_keptSize f5_aheadSize f0_solved f4_blockCount f4_blockLength f4_lastIsFree f4_stale ai0 al0 w0 w1 w2 w3 A) args s 0 0 A) (F0 m 64 ls []) := by
  obtain ⟨hx, hb, hr, hml, hown, hts, hk, hA, hK, hX⟩ := id C
  intro L2 L3 L4 L5 L6 f7_size ai al H locs ls h0 h1 h2 h3 h4 h5 h6 h7 h8 h9 h10 h11 h12 h13 hI hF hG hw_w0 hw_w1 hw_w2 hw_w3 hP hD hS hl
  have ra_L2 := s_any L2
  have ra_L3 := s_any L3
  have ra_L5 := s_any L5
  have ra_L6 := s_any L6
  refine lv_iload hx hb dX0_tryNumbers_64 (lv_at hl 5 rfl) ?_
  refine lv_istore (lv' := [(7, .int L5), (0, .ref (ad 25)), (1, .int 0), (2, .int L2), (3, .int L3), (4, .int L4), (5, .int L5), (6, .int L6)]) hx hb dX0_tryNumbers_66 hl (by decide) rfl (fun ls_1 hl_1 => ?_)
  exact m104_X0_tryNumbers_b68 C  _ L2 L3 L4 L5 L6 L5 f7_size ai al _ _ _ (by omega) (by omega) (by omega) (by omega) (by omega) (by omega) (by omega) (by omega) (by omega) (by omega) (by omega) (by omega) (by omega) (by omega) (by omega) (j_fuel _) (by omega) hI hF hG hw_w0 hw_w1 hw_w2 hw_w3 hP hD hS (lv_sub hl_1 [1, 2, 3, 4, 5, 6, 7, 0] rfl)
set_option maxRecDepth 100000 in
set_option maxHeartbeats 4000000 in
theorem m104_X0_tryNumbers (l : Launch) (dC : Nat → ClassId) (dI : Nat → Nat → Nat) (cI cJ cII cJJ : ClassId) (sz g : Nat) (ad : Nat → Nat) (f3_unknowns f3_equations f2_roundSupports f2_stale f7_size f1_size f5_keptSize f5_aheadSize f0_solved f4_blockCount f4_blockLength f4_lastIsFree f4_stale : Int32) (ai : Nat → Nat → Int32) (al : Nat → Nat → Int64) (w0 w1 w2 w3 : Nat) (x2 : Int32) (x3 : Int32) (h_f3_unknowns : (1 ≤ f3_unknowns.toInt ∧ f3_unknowns.toInt ≤ 4)) (h_f3_equations : (0 ≤ f3_equations.toInt ∧ f3_equations.toInt ≤ 3)) (h_f2_stale : (0 ≤ f2_stale.toInt ∧ f2_stale.toInt ≤ 1)) (h_f7_size : (0 ≤ f7_size.toInt ∧ f7_size.toInt ≤ 256)) (h_f1_size : (0 ≤ f1_size.toInt ∧ f1_size.toInt ≤ 4)) (h_f5_keptSize : (0 ≤ f5_keptSize.toInt ∧ f5_keptSize.toInt ≤ 128)) (h_f5_aheadSize : (0 ≤ f5_aheadSize.toInt ∧ f5_aheadSize.toInt ≤ 128)) (h_f4_blockCount : (0 ≤ f4_blockCount.toInt ∧ f4_blockCount.toInt ≤ 9261)) (h_f4_blockLength : (0 ≤ f4_blockLength.toInt ∧ f4_blockLength.toInt ≤ 21)) (h_f4_lastIsFree : (0 ≤ f4_lastIsFree.toInt ∧ f4_lastIsFree.toInt ≤ 1)) (h_f4_stale : (0 ≤ f4_stale.toInt ∧ f4_stale.toInt ≤ 1)) (hI : IAX ai) (hw_w0 : RWX ad w0) (hw_w1 : RWX ad w1) (hw_w2 : RWX ad w2) (hw_w3 : RWX ad w3) : Met l yX0_tryNumbers (.code yX0_tryNumbers cX0_tryNumbers 9 none :: TT) ({ frames := 10, cells := 0, slots := 0, locals := 560 } : Room) (PcS dC dI (TY cI cJ cII cJJ) [.ref (ad 25), .int 0, .int x2, .int x3] (WX cI cJ cII cJJ ad f3_unknowns f3_equations f2_roundSupports f2_stale f7_size f1_size f5_keptSize f5_aheadSize f0_solved f4_blockCount f4_blockLength f4_lastIsFree f4_stale ai al w0 w1 w2 w3) sz 0 g) (Q_m104_X0_tryNumbers dC dI cI cJ cII cJJ ad f3_unknowns f3_equations f2_roundSupports f2_stale f1_size f5_keptSize f5_aheadSize f0_solved f4_blockCount f4_blockLength f4_lastIsFree f4_stale ai al w0 w1 w2 w3 (va_A (WX cI cJ cII cJJ ad f3_unknowns f3_equations f2_roundSupports f2_stale f7_size f1_size f5_keptSize f5_aheadSize f0_solved f4_blockCount f4_blockLength f4_lastIsFree f4_stale ai al w0 w1 w2 w3) sz)) 0 0 (va_A (WX cI cJ cII cJJ ad f3_unknowns f3_equations f2_roundSupports f2_stale f7_size f1_size f5_keptSize f5_aheadSize f0_solved f4_blockCount f4_blockLength f4_lastIsFree f4_stale ai al w0 w1 w2 w3) sz) := by
  refine SM.of (y := yX0_tryNumbers) (maxL := 9) (av := [.ref (ad 25), .int 0, .int x2, .int x3]) (Q_m104_X0_tryNumbers dC dI cI cJ cII cJJ ad f3_unknowns f3_equations f2_roundSupports f2_stale f1_size f5_keptSize f5_aheadSize f0_solved f4_blockCount f4_blockLength f4_lastIsFree f4_stale ai al w0 w1 w2 w3) (by decide +kernel) (Nat.le_of_ble_eq_true rfl) (fun p e s m below meth c A ls hx hb hr hml hown hts hk hnm hA hK hP hD hS hX hl => ?_)
  have C : Cx p c s m meth (([.ref (ad 25), .int 0, .int x2, .int x3] : List Value).toArray) A dC dI (TY cI cJ cII cJJ) cX0_tryNumbers none 9 RX0 0 g := ⟨hx, hb, hr, hml, hown, hts, hk, hA, hK, hX⟩
  have hown : s.vm.findClass RX0 = some m.cls := hown
  have hl : lv_has ls 9 [(0, .ref (ad 25)), (1, .int 0), (2, .int x2), (3, .int x3)] := hl
  obtain ⟨H, hH⟩ : ∃ q, q = s.heap := ⟨_, rfl⟩
  rw [← hH] at hP
  have hS : va_S A s.heap H [] := by rw [hH]; exact hS
  rw [← hH]
  have hF := FR_refl [28] ai
  have hG := FL_refl [13] al
  have ra_x2 := s_any x2
  have ra_x3 := s_any x3
  refine lv_aload_n hx hb dX0_tryNumbers_0 rfl (lv_at hl 0 rfl) ?_
  refine gf (k := 2) hx hb hts inX0 hown hK hP k_158 rfl (by decide) rfl 25 rfl (.ref (ad 26)) rfl dX0_tryNumbers_1 ?_
  refine lv_iload_n hx hb dX0_tryNumbers_4 rfl (lv_at hl 1 rfl) ?_
  refine va_iald hx hb hK hP 26 0 rfl rfl (vin (by decide +kernel)) dX0_tryNumbers_5 ?_
  refine lv_topi (fun z1 e_z1 => ?_)
  have k_z1 : z1.toInt = (ai 26 0).toInt := by rw [e_z1]; rfl
  have g_z1 : -6 ≤ z1.toInt ∧ z1.toInt ≤ 6 := by rw [e_z1]; exact IAX_at26 hI _
  refine lv_istore (lv' := [(4, .int z1), (0, .ref (ad 25)), (1, .int 0), (2, .int x2), (3, .int x3)]) hx hb dX0_tryNumbers_6 hl (by decide) rfl (fun ls_1 hl_1 => ?_)
  refine lv_aload_n hx hb dX0_tryNumbers_8 rfl (lv_at hl_1 1 rfl) ?_
  refine gf (k := 3) hx hb hts inX0 hown hK hP k_159 rfl (by decide) rfl 25 rfl (.ref (ad 27)) rfl dX0_tryNumbers_9 ?_
  refine lv_iload_n hx hb dX0_tryNumbers_12 rfl (lv_at hl_1 2 rfl) ?_
  refine va_iald hx hb hK hP 27 0 rfl rfl (vin (by decide +kernel)) dX0_tryNumbers_13 ?_
  refine lv_topi (fun z2 e_z2 => ?_)
  have k_z2 : z2.toInt = (ai 27 0).toInt := by rw [e_z2]; rfl
  have g_z2 : 0 ≤ z2.toInt ∧ z2.toInt ≤ 6 := by rw [e_z2]; exact IAX_at27 hI _
  refine v_ineg hx hb dX0_tryNumbers_14 _ rfl ?_
  refine lv_topi (fun z3 e_z3 => ?_)
  have g_z3 : z3.toInt = -z2.toInt := by rw [e_z3]; exact n_neg (a := z2.toInt) rfl (by omega)
  refine lv_istore (lv' := [(5, .int z3), (4, .int z1), (0, .ref (ad 25)), (1, .int 0), (2, .int x2), (3, .int x3)]) hx hb dX0_tryNumbers_15 hl_1 (by decide) rfl (fun ls_2 hl_2 => ?_)
  refine lv_aload_n hx hb dX0_tryNumbers_17 rfl (lv_at hl_2 2 rfl) ?_
  refine gf (k := 3) hx hb hts inX0 hown hK hP k_159 rfl (by decide) rfl 25 rfl (.ref (ad 27)) rfl dX0_tryNumbers_18 ?_
  refine lv_iload_n hx hb dX0_tryNumbers_21 rfl (lv_at hl_2 3 rfl) ?_
  refine va_iald hx hb hK hP 27 0 rfl rfl (vin (by decide +kernel)) dX0_tryNumbers_22 ?_
  refine lv_topi (fun z4 e_z4 => ?_)
  have k_z4 : z4.toInt = (ai 27 0).toInt := by rw [e_z4]; rfl
  have g_z4 : 0 ≤ z4.toInt ∧ z4.toInt ≤ 6 := by rw [e_z4]; exact IAX_at27 hI _
  refine lv_istore (lv' := [(6, .int z4), (5, .int z3), (4, .int z1), (0, .ref (ad 25)), (1, .int 0), (2, .int x2), (3, .int x3)]) hx hb dX0_tryNumbers_23 hl_2 (by decide) rfl (fun ls_3 hl_3 => ?_)
  refine lv_iload_n hx hb dX0_tryNumbers_25 rfl (lv_at hl_3 4 rfl) ?_
  refine lv_aload_n hx hb dX0_tryNumbers_26 rfl (lv_at hl_3 3 rfl) ?_
  refine gf (k := 5) hx hb hts inX0 hown hK hP k_161 rfl (by decide) rfl 25 rfl (.int f0_solved) rfl dX0_tryNumbers_27 ?_
  refine lv_icmp_ne (tgt := 64) hx hb dX0_tryNumbers_30 (by decide) (fun c5 => ?_) (fun c5 => ?_)
  · have c5 := j_ne (a := 0) (b := f0_solved.toInt) (by decide +kernel) rfl c5
    exact m104_X0_tryNumbers_b64 C  x2 x3 z1 z3 z4 f7_size ai al _ _ _ (by omega) (by omega) (by omega) (by omega) (by omega) (by omega) (by omega) (by omega) (by omega) (by omega) (by omega) (by omega) (by omega) (by omega) hI hF hG hw_w0 hw_w1 hw_w2 hw_w3 hP hD hS (lv_sub hl_3 [3, 4, 5, 6, 2, 1, 0] rfl)
  · have c5 := j_eq (a := 0) (b := f0_solved.toInt) (by decide +kernel) rfl c5
    refine lv_iload hx hb dX0_tryNumbers_33 (lv_at hl_3 2 rfl) ?_
    refine lv_if_eq (tgt := 64) hx hb dX0_tryNumbers_35 (by decide) (fun c6 => ?_) (fun c6 => ?_)
    · have c6 := j_eq (a := z1.toInt) (b := 0) rfl (by decide +kernel) c6
      exact m104_X0_tryNumbers_b64 C  x2 x3 z1 z3 z4 f7_size ai al _ _ _ (by omega) (by omega) (by omega) (by omega) (by omega) (by omega) (by omega) (by omega) (by omega) (by omega) (by omega) (by omega) (by omega) (by omega) hI hF hG hw_w0 hw_w1 hw_w2 hw_w3 hP hD hS (lv_sub hl_3 [3, 4, 5, 6, 2, 1, 0] rfl)
    · have c6 := j_ne (a := z1.toInt) (b := 0) rfl (by decide +kernel) c6
      refine lv_iload_n hx hb dX0_tryNumbers_38 rfl (lv_at hl_3 6 rfl) ?_
      refine lv_iload_n hx hb dX0_tryNumbers_39 rfl (lv_at hl_3 5 rfl) ?_
      refine v_isub hx hb dX0_tryNumbers_40 _ rfl ?_
      refine lv_topi (fun z7 e_z7 => ?_)
      refine lv_iload hx hb dX0_tryNumbers_41 (lv_at hl_3 2 rfl) ?_
      refine v_idiv hx hb dX0_tryNumbers_43 (j_nz (a := z1.toInt) rfl (by omega)) _ rfl ?_
      refine lv_topi (fun z8 e_z8 => ?_)
      refine lv_istore (lv' := [(7, .int z8), (6, .int z4), (5, .int z3), (4, .int z1), (0, .ref (ad 25)), (1, .int 0), (2, .int x2), (3, .int x3)]) hx hb dX0_tryNumbers_44 hl_3 (by decide) rfl (fun ls_4 hl_4 => ?_)
      refine lv_iload hx hb dX0_tryNumbers_46 (lv_at hl_4 2 rfl) ?_
      refine lv_iload hx hb dX0_tryNumbers_48 (lv_at hl_4 0 rfl) ?_
      refine va_mmax hx hb (by rw [hml]; exact hl_4.1.symm) hown (hts _ k_444) (hts _ k_445) (hts _ k_13) (hts _ k_446) (by decide) (Nat.le_of_ble_eq_true rfl) (Nat.le_of_ble_eq_true rfl) (Nat.le_of_ble_eq_true rfl) dX0_tryNumbers_50 ?_
      refine lv_topi (fun z9 e_z9 => ?_)
      have g_z9 : (z9.toInt = z3.toInt ∨ z9.toInt = z8.toInt) ∧ z3.toInt ≤ z9.toInt ∧ z8.toInt ≤ z9.toInt := by rw [e_z9]; exact n_max (a := z3.toInt) (b := z8.toInt) rfl rfl
      refine lv_istore (lv' := [(5, .int z9), (7, .int z8), (6, .int z4), (4, .int z1), (0, .ref (ad 25)), (1, .int 0), (2, .int x2), (3, .int x3)]) hx hb dX0_tryNumbers_53 hl_4 (by decide) rfl (fun ls_5 hl_5 => ?_)
      refine lv_iload hx hb dX0_tryNumbers_55 (lv_at hl_5 2 rfl) ?_
      refine lv_iload hx hb dX0_tryNumbers_57 (lv_at hl_5 1 rfl) ?_
      refine va_mmin hx hb (by rw [hml]; exact hl_5.1.symm) hown (hts _ k_463) (hts _ k_464) (hts _ k_13) (hts _ k_465) (by decide) (Nat.le_of_ble_eq_true rfl) (Nat.le_of_ble_eq_true rfl) (Nat.le_of_ble_eq_true rfl) dX0_tryNumbers_59 ?_
      refine lv_topi (fun z10 e_z10 => ?_)
      have g_z10 : (z10.toInt = z4.toInt ∨ z10.toInt = z8.toInt) ∧ z4.toInt ≥ z10.toInt ∧ z8.toInt ≥ z10.toInt := by rw [e_z10]; exact n_min (a := z4.toInt) (b := z8.toInt) rfl rfl
      refine lv_istore (lv' := [(6, .int z10), (5, .int z9), (7, .int z8), (4, .int z1), (0, .ref (ad 25)), (1, .int 0), (2, .int x2), (3, .int x3)]) hx hb dX0_tryNumbers_62 hl_5 (by decide) rfl (fun ls_6 hl_6 => ?_)
      exact m104_X0_tryNumbers_b64 C  x2 x3 z1 z9 z10 f7_size ai al _ _ _ (by omega) (by omega) (by omega) (by omega) (by omega) (by omega) (by omega) (by omega) (by omega) (by omega) (by omega) (by omega) (by omega) (by omega) hI hF hG hw_w0 hw_w1 hw_w2 hw_w3 hP hD hS (lv_sub hl_6 [4, 5, 6, 7, 3, 1, 0] rfl)
