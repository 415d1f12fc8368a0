def Q_m070_X5_walk (dC : Nat → ClassId) (dI : Nat → Nat → Nat) (cI cJ cII cJJ : ClassId) (ad : Nat → Nat) (f3_unknowns f3_equations f2_roundSupports f2_stale f7_size f1_size f0_solved f4_blockCount f4_blockLength f4_lastIsFree f4_stale : Int32) (ai0 : Nat → Nat → Int32) (al : Nat → Nat → Int64) (w0 w1 w2 w3 : Nat) : (Nat → Prop) → Array Value → State → Outcome → State → Prop := fun A => QV (fun t => ∃ (n_f5_keptSize n_f5_aheadSize : Int32), ∃ (n_ai : Nat → Nat → Int32), ((0 ≤ n_f5_keptSize.toInt ∧ n_f5_keptSize.toInt ≤ 127) ∧ (0 ≤ n_f5_aheadSize.toInt ∧ n_f5_aheadSize.toInt ≤ 128) ∧ IAX n_ai ∧ FR [23, 24] ai0 n_ai) ∧ WO dC dI (TY cI cJ cII cJJ) (WX cI cJ cII cJJ ad f3_unknowns f3_equations f2_roundSupports f2_stale f7_size f1_size n_f5_keptSize n_f5_aheadSize f0_solved f4_blockCount f4_blockLength f4_lastIsFree f4_stale n_ai al w0 w1 w2 w3) A t) A
set_option maxRecDepth 100000 in
set_option maxHeartbeats 4000000 in
theorem m070_X5_walk_b107 {p : Program} {l : Launch} {e : Env} {s : State} {m : MethodId} {args : Array Value} {below : List Frame} {meth : Method} {c : Code} {A : Nat → Prop} {dC : Nat → ClassId} {dI : Nat → Nat → Nat} {cI cJ cII cJJ : ClassId} {ad : Nat → Nat} {g : Nat} {f3_unknowns f3_equations f2_roundSupports f2_stale f7_size f1_size f0_solved f4_blockCount f4_blockLength f4_lastIsFree f4_stale : Int32} {ai0 : Nat → Nat → Int32} {al : Nat → Nat → Int64} {w0 w1 w2 w3 : Nat} (C : Cx p c s m meth args A dC dI (TY cI cJ cII cJJ) cX5_walk none 7 RX5 0 g) : ∀ (L3 L4 f5_keptSize f5_aheadSize : Int32) (ai : Nat → Nat → Int32) (H : Heap) (locs : List Loc) (ls : Array Slot), (1 ≤ L3.toInt ∧ L3.toInt ≤ 1) → (0 ≤ L4.toInt ∧ L4.toInt ≤ 100000) → (1 ≤ f3_unknowns.toInt ∧ f3_unknowns.toInt ≤ 4) → (0 ≤ f3_equations.toInt ∧ f3_equations.toInt ≤ 3) → (0 ≤ f2_stale.toInt ∧ f2_stale.toInt ≤ 1) → (0 ≤ f7_size.toInt ∧ f7_size.toInt ≤ 256) → (0 ≤ f1_size.toInt ∧ f1_size.toInt ≤ 4) → (1 ≤ f5_keptSize.toInt ∧ f5_keptSize.toInt ≤ 128) → (0 ≤ f5_aheadSize.toInt ∧ f5_aheadSize.toInt ≤ 128) → (0 ≤ f4_blockCount.toInt ∧ f4_blockCount.toInt ≤ 9261) → (0 ≤ f4_blockLength.toInt ∧ f4_blockLength.toInt ≤ 21) → (0 ≤ f4_lastIsFree.toInt ∧ f4_lastIsFree.toInt ≤ 1) → (0 ≤ f4_stale.toInt ∧ f4_stale.toInt ≤ 1) → IAX ai → FR [23, 24] ai0 ai → RWX ad w0 → RWX ad w1 → RWX ad w2 → RWX ad w3 → va_P (dC, dI) vwCl (WX cI cJ cII cJJ ad f3_unknowns f3_equations f2_roundSupports f2_stale f7_size f1_size f5_keptSize f5_aheadSize f0_solved f4_blockCount f4_blockLength f4_lastIsFree f4_stale ai al w0 w1 w2 w3) H → va_D A (WX cI cJ cII cJJ ad f3_unknowns f3_equations f2_roundSupports f2_stale f7_size f1_size f5_keptSize f5_aheadSize f0_solved f4_blockCount f4_blockLength f4_lastIsFree f4_stale ai al w0 w1 w2 w3) → va_S A s.heap H locs → lv_has ls 7 [(0, .ref (ad 22)), (1, .ref (ad 16)), (2, .ref (ad 17)), (3, .int L3), (4, .int L4)] → W p l e ({ frames := 3, cells := 0, slots := 0, locals := 140 } : Room) s m args below meth c H locs 0 0 (MQ below (Q_m070_X5_walk dC dI cI cJ cII cJJ ad f3_unknowns f3_equations f2_roundSupports f2_stale f7_size f1_size f0_solved f4_blockCount f4_blockLength f4_lastIsFree f4_stale ai0 al w0 w1 w2 w3 A) args s 0 0 A) (F0 m 107 ls []) := by
  obtain ⟨hx, hb, hr, hml, hown, hts, hk, hA, hK, hX⟩ := id C
  intro L3 L4 f5_keptSize f5_aheadSize ai H locs ls h0 h1 h2 h3 h4 h5 h6 h7 h8 h9 h10 h11 h12 hI hF hw_w0 hw_w1 hw_w2 hw_w3 hP hD hS hl
  refine lv_aload_n hx hb dX5_walk_107 rfl (lv_at hl 0 rfl) ?_
  refine lv_dup hx hb dX5_walk_108 rfl ?_
  refine gf (k := 2) hx hb hts inX5 hown hK hP k_139 rfl (by decide) rfl 22 rfl (.int f5_keptSize) rfl dX5_walk_109 ?_
  refine lv_iconst (v := 1) hx hb dX5_walk_112 (by decide) ?_
  refine v_isub hx hb dX5_walk_113 _ rfl ?_
  refine lv_topi (fun z1 e_z1 => ?_)
  have g_z1 : z1.toInt = f5_keptSize.toInt - 1 := by rw [e_z1]; exact n_sub (a := f5_keptSize.toInt) (b := 1) rfl (by decide +kernel) (by omega) (by omega)
  refine pf (k := 2) hx hb hts inX5 tyX5_ok nmX5 hown hK hP hD hS k_139 rfl (by decide) rfl rfl 22 rfl rfl rfl (Nat.le_of_ble_eq_true rfl) dX5_walk_114 (W' := (WX cI cJ cII cJJ ad f3_unknowns f3_equations f2_roundSupports f2_stale f7_size f1_size z1 f5_aheadSize f0_solved f4_blockCount f4_blockLength f4_lastIsFree f4_stale ai al w0 w1 w2 w3)) rfl (fun H_1 locs_1 hP_1 hD_1 hS_1 => ?_)
  exact r2_v hx hb hr hk hS_1 dX5_walk_117 (fun t ht hW => ⟨z1, f5_aheadSize, ai, ⟨(by first | omega | decide | exact Or.inl (by decide) | exact Or.inr (by decide) | exact Or.inr (by omega)), (by first | omega | decide | exact Or.inl (by decide) | exact Or.inr (by decide) | exact Or.inr (by omega)), hI, hF⟩, by rw [ht]; exact hP_1, va_K.moved hW.alike hK, hD_1⟩)
set_option maxRecDepth 100000 in
set_option maxHeartbeats 4000000 in
theorem m070_X5_walk_b101 {p : Program} {l : Launch} {e : Env} {s : State} {m : MethodId} {args : Array Value} {below : List Frame} {meth : Method} {c : Code} {A : Nat → Prop} {dC : Nat → ClassId} {dI : Nat → Nat → Nat} {cI cJ cII cJJ : ClassId} {ad : Nat → Nat} {g : Nat} {f3_unknowns f3_equations f2_roundSupports f2_stale f7_size f1_size f0_solved f4_blockCount f4_blockLength f4_lastIsFree f4_stale : Int32} {ai0 : Nat → Nat → Int32} {al : Nat → Nat → Int64} {w0 w1 w2 w3 : Nat} (C : Cx p c s m meth args A dC dI (TY cI cJ cII cJJ) cX5_walk none 7 RX5 0 g) (n40 : Nat) (K40 : ∀ (L3 L4 f5_keptSize f5_aheadSize : Int32) (ai : Nat → Nat → Int32) (H : Heap) (locs : List Loc) (ls : Array Slot), (1 ≤ L3.toInt ∧ L3.toInt ≤ 1) → (0 ≤ L4.toInt ∧ L4.toInt ≤ 100000) → (1 ≤ f3_unknowns.toInt ∧ f3_unknowns.toInt ≤ 4) → (0 ≤ f3_equations.toInt ∧ f3_equations.toInt ≤ 3) → (0 ≤ f2_stale.toInt ∧ f2_stale.toInt ≤ 1) → (0 ≤ f7_size.toInt ∧ f7_size.toInt ≤ 256) → (0 ≤ f1_size.toInt ∧ f1_size.toInt ≤ 4) → (1 ≤ f5_keptSize.toInt ∧ f5_keptSize.toInt ≤ 128) → (0 ≤ f5_aheadSize.toInt ∧ f5_aheadSize.toInt ≤ 128) → (0 ≤ f4_blockCount.toInt ∧ f4_blockCount.toInt ≤ 9261) → (0 ≤ f4_blockLength.toInt ∧ f4_blockLength.toInt ≤ 21) → (0 ≤ f4_lastIsFree.toInt ∧ f4_lastIsFree.toInt ≤ 1) → (0 ≤ f4_stale.toInt ∧ f4_stale.toInt ≤ 1) → 10000 - L4.toInt < (n40 : Int) → (0 : Int) < (n40 : Int) → IAX ai → FR [23, 24] ai0 ai → RWX ad w0 → RWX ad w1 → RWX ad w2 → RWX ad w3 → va_P (dC, dI) vwCl (WX cI cJ cII cJJ ad f3_unknowns f3_equations f2_roundSupports f2_stale f7_size f1_size f5_keptSize f5_aheadSize f0_solved f4_blockCount f4_blockLength f4_lastIsFree f4_stale ai al w0 w1 w2 w3) H → va_D A (WX cI cJ cII cJJ ad f3_unknowns f3_equations f2_roundSupports f2_stale f7_size f1_size f5_keptSize f5_aheadSize f0_solved f4_blockCount f4_blockLength f4_lastIsFree f4_stale ai al w0 w1 w2 w3) → va_S A s.heap H locs → lv_has ls 7 [(0, .ref (ad 22)), (1, .ref (ad 16)), (2, .ref (ad 17)), (3, .int L3), (4, .int L4)] → W p l e ({ frames := 3, cells := 0, slots := 0, locals := 140 } : Room) s m args below meth c H locs 0 0 (MQ below (Q_m070_X5_walk dC dI cI cJ cII cJJ ad f3_unknowns f3_equations f2_roundSupports f2_stale f7_size f1_size f0_solved f4_blockCount f4_blockLength f4_lastIsFree f4_stale ai0 al w0 w1 w2 w3 A) args s 0 0 A) (F0 m 40 ls [])) : ∀ (L3 L4 L5 L6 f5_keptSize f5_aheadSize : Int32) (ai : Nat → Nat → Int32) (H : Heap) (locs : List Loc) (ls : Array Slot), (1 ≤ L3.toInt ∧ L3.toInt ≤ 1) → (0 ≤ L4.toInt ∧ L4.toInt ≤ 99999) → (0 ≤ L5.toInt ∧ L5.toInt ≤ 5999) → (0 ≤ L6.toInt ∧ L6.toInt ≤ 5999) → (1 ≤ f3_unknowns.toInt ∧ f3_unknowns.toInt ≤ 4) → (0 ≤ f3_equations.toInt ∧ f3_equations.toInt ≤ 3) → (0 ≤ f2_stale.toInt ∧ f2_stale.toInt ≤ 1) → (0 ≤ f7_size.toInt ∧ f7_size.toInt ≤ 256) → (0 ≤ f1_size.toInt ∧ f1_size.toInt ≤ 4) → (1 ≤ f5_keptSize.toInt ∧ f5_keptSize.toInt ≤ 128) → (0 ≤ f5_aheadSize.toInt ∧ f5_aheadSize.toInt ≤ 128) → (0 ≤ f4_blockCount.toInt ∧ f4_blockCount.toInt ≤ 9261) → (0 ≤ f4_blockLength.toInt ∧ f4_blockLength.toInt ≤ 21) → (0 ≤ f4_lastIsFree.toInt ∧ f4_lastIsFree.toInt ≤ 1) → (0 ≤ f4_stale.toInt ∧ f4_stale.toInt ≤ 1) → L4.toInt < 10000 → 10000 - L4.toInt ≤ (n40 : Int) → IAX ai → FR [23, 24] ai0 ai → RWX ad w0 → RWX ad w1 → RWX ad w2 → RWX ad w3 → va_P (dC, dI) vwCl (WX cI cJ cII cJJ ad f3_unknowns f3_equations f2_roundSupports f2_stale f7_size f1_size f5_keptSize f5_aheadSize f0_solved f4_blockCount f4_blockLength f4_lastIsFree f4_stale ai al w0 w1 w2 w3) H → va_D A (WX cI cJ cII cJJ ad f3_unknowns f3_equations f2_roundSupports f2_stale f7_size f1_size f5_keptSize f5_aheadSize f0_solved f4_blockCount f4_blockLength f4_lastIsFree f4_stale ai al w0 w1 w2 w3) → va_S A s.heap H locs → lv_has ls 7 [(0, .ref (ad 22)), (1, .ref (ad 16)), (2, .ref (ad 17)), (3, .int L3), (4, .int L4), (5, .int L5), (6, .int L6)] → W p l e ({ frames := 3, cells := 0, slots := 0, locals := 140 } : Room) s m args below meth c H locs 0 0 (MQ below (Q_m070_X5_walk dC dI cI cJ cII cJJ ad f3_unknowns f3_equations f2_roundSupports f2_stale f7_size f1_size f0_solved f4_blockCount f4_blockLength f4_lastIsFree f4_stale ai0 al w0 w1 w2 w3 A) args s 0 0 A) (F0 m 101 ls []) := by
  obtain ⟨hx, hb, hr, hml, hown, hts, hk, hA, hK, hX⟩ := id C
  intro L3 L4 L5 L6 f5_keptSize f5_aheadSize ai H locs ls h0 h1 h2 h3 h4 h5 h6 h7 h8 h9 h10 h11 h12 h13 h14 h15 h16 hI hF hw_w0 hw_w1 hw_w2 hw_w3 hP hD hS hl
  obtain ⟨z1, e_z1⟩ : ∃ q : Int32, q = L4 + Int32.ofInt 1 := ⟨_, rfl⟩
  have g_z1 : z1.toInt = L4.toInt + 1 := by rw [e_z1]; exact n_add (a := L4.toInt) (b := 1) rfl (by decide +kernel) (by omega) (by omega)
  refine lv_iinc (v := z1) (lv' := [(4, .int z1), (0, .ref (ad 22)), (1, .ref (ad 16)), (2, .ref (ad 17)), (3, .int L3), (5, .int L5), (6, .int L6)]) hx hb dX5_walk_101 hl (k := 4) rfl e_z1.symm (by decide) rfl (fun ls_1 hl_1 => ?_)
  refine lv_goto (tgt := 40) hx hb dX5_walk_104 (by decide) ?_
  exact K40 L3 z1 f5_keptSize f5_aheadSize ai _ _ _ (by omega) (by omega) (by omega) (by omega) (by omega) (by omega) (by omega) (by omega) (by omega) (by omega) (by omega) (by omega) (by omega) (by omega) (by omega) hI hF hw_w0 hw_w1 hw_w2 hw_w3 hP hD hS (lv_sub hl_1 [1, 2, 3, 4, 0] rfl)
set_option maxRecDepth 100000 in
set_option maxHeartbeats 4000000 in
theorem m070_X5_walk_b40 {p : Program} {l : Launch} {e : Env} {s : State} {m : MethodId} {args : Array Value} {below : List Frame} {meth : Method} {c : Code} {A : Nat → Prop} {dC : Nat → ClassId} {dI : Nat → Nat → Nat} {cI cJ cII cJJ : ClassId} {ad : Nat → Nat} {g : Nat} {f3_unknowns f3_equations f2_roundSupports f2_stale f7_size f1_size f0_solved f4_blockCount f4_blockLength f4_lastIsFree f4_stale : Int32} {ai0 : Nat → Nat → Int32} {al : Nat → Nat → Int64} {w0 w1 w2 w3 : Nat} (C : Cx p c s m meth args A dC dI (TY cI cJ cII cJJ) cX5_walk none 7 RX5 0 g) : ∀ (n : Nat), ∀ (L3 L4 f5_keptSize f5_aheadSize : Int32) (ai : Nat → Nat → Int32) (H : Heap) (locs : List Loc) (ls : Array Slot), (1 ≤ L3.toInt ∧ L3.toInt ≤ 1) → (0 ≤ L4.toInt ∧ L4.toInt ≤ 100000) → (1 ≤ f3_unknowns.toInt ∧ f3_unknowns.toInt ≤ 4) → (0 ≤ f3_equations.toInt ∧ f3_equations.toInt ≤ 3) → (0 ≤ f2_stale.toInt ∧ f2_stale.toInt ≤ 1) → (0 ≤ f7_size.toInt ∧ f7_size.toInt ≤ 256) → (0 ≤ f1_size.toInt ∧ f1_size.toInt ≤ 4) → (1 ≤ f5_keptSize.toInt ∧ f5_keptSize.toInt ≤ 128) → (0 ≤ f5_aheadSize.toInt ∧ f5_aheadSize.toInt ≤ 128) → (0 ≤ f4_blockCount.toInt ∧ f4_blockCount.toInt ≤ 9261) → (0 ≤ f4_blockLength.toInt ∧ f4_blockLength.toInt ≤ 21) → (0 ≤ f4_lastIsFree.toInt ∧ f4_lastIsFree.toInt ≤ 1) → (0 ≤ f4_stale.toInt ∧ f4_stale.toInt ≤ 1) → 10000 - L4.toInt < (n : Int) → (0 : Int) < (n : Int) → IAX ai → FR [23, 24] ai0 ai → RWX ad w0 → RWX ad w1 → RWX ad w2 → RWX ad w3 → va_P (dC, dI) vwCl (WX cI cJ cII cJJ ad f3_unknowns f3_equations f2_roundSupports f2_stale f7_size f1_size f5_keptSize f5_aheadSize f0_solved f4_blockCount f4_blockLength f4_lastIsFree f4_stale ai al w0 w1 w2 w3) H → va_D A (WX cI cJ cII cJJ ad f3_unknowns f3_equations f2_roundSupports f2_stale f7_size f1_size f5_keptSize f5_aheadSize f0_solved f4_blockCount f4_blockLength f4_lastIsFree f4_stale ai al w0 w1 w2 w3) → va_S A s.heap H locs → lv_has ls 7 [(0, .ref (ad 22)), (1, .ref (ad 16)), (2, .ref (ad 17)), (3, .int L3), (4, .int L4)] → W p l e ({ frames := 3, cells := 0, slots := 0, locals := 140 } : Room) s m args below meth c H locs 0 0 (MQ below (Q_m070_X5_walk dC dI cI cJ cII cJJ ad f3_unknowns f3_equations f2_roundSupports f2_stale f7_size f1_size f0_solved f4_blockCount f4_blockLength f4_lastIsFree f4_stale ai0 al w0 w1 w2 w3 A) args s 0 0 A) (F0 m 40 ls []) := by
  obtain ⟨hx, hb, hr, hml, hown, hts, hk, hA, hK, hX⟩ := id C
  intro n
  induction n with
  | zero =>
    intro L3 L4 f5_keptSize f5_aheadSize ai H locs ls h0 h1 h2 h3 h4 h5 h6 h7 h8 h9 h10 h11 h12 h13 h14 hI hF hw_w0 hw_w1 hw_w2 hw_w3 hP hD hS hl
    exact absurd h14 (by omega)
  | succ n ih =>
    intro L3 L4 f5_keptSize f5_aheadSize ai H locs ls h0 h1 h2 h3 h4 h5 h6 h7 h8 h9 h10 h11 h12 h13 h14 hI hF hw_w0 hw_w1 hw_w2 hw_w3 hP hD hS hl
    refine lv_iload hx hb dX5_walk_40 (lv_at hl 4 rfl) ?_
    refine lv_sipush (v := 10000) hx hb dX5_walk_42 (by decide) ?_
    refine lv_icmp_ge (tgt := 107) hx hb dX5_walk_45 (by decide) (fun c1 => ?_) (fun c1 => ?_)
    · have c1 := j_le (a := 10000) (b := L4.toInt) (by decide +kernel) rfl c1
      exact m070_X5_walk_b107 C  L3 L4 f5_keptSize f5_aheadSize ai _ _ _ (by omega) (by omega) (by omega) (by omega) (by omega) (by omega) (by omega) (by omega) (by omega) (by omega) (by omega) (by omega) (by omega) hI hF hw_w0 hw_w1 hw_w2 hw_w3 hP hD hS (lv_sub hl [0, 1, 2, 3, 4] rfl)
    · have c1 := j_nle (a := 10000) (b := L4.toInt) (by decide +kernel) rfl c1
      refine lv_aload_n hx hb dX5_walk_48 rfl (lv_at hl 0 rfl) ?_
      refine gf (k := 3) hx hb hts inX5 hown hK hP k_140 rfl (by decide) rfl 22 rfl (.int f5_aheadSize) rfl dX5_walk_49 ?_
      refine lv_if_le (tgt := 107) hx hb dX5_walk_52 (by decide) (fun c2 => ?_) (fun c2 => ?_)
      · have c2 := j_le (a := f5_aheadSize.toInt) (b := 0) rfl (by decide +kernel) c2
        exact m070_X5_walk_b107 C  L3 L4 f5_keptSize f5_aheadSize ai _ _ _ (by omega) (by omega) (by omega) (by omega) (by omega) (by omega) (by omega) (by omega) (by omega) (by omega) (by omega) (by omega) (by omega) hI hF hw_w0 hw_w1 hw_w2 hw_w3 hP hD hS (lv_sub hl [0, 1, 2, 3, 4] rfl)
      · have c2 := j_nle (a := f5_aheadSize.toInt) (b := 0) rfl (by decide +kernel) c2
        refine lv_aload_n hx hb dX5_walk_55 rfl (lv_at hl 0 rfl) ?_
        refine gf (k := 2) hx hb hts inX5 hown hK hP k_139 rfl (by decide) rfl 22 rfl (.int f5_keptSize) rfl dX5_walk_56 ?_
        refine lv_iconst (v := 1) hx hb dX5_walk_59 (by decide) ?_
        refine v_isub hx hb dX5_walk_60 _ rfl ?_
        refine lv_topi (fun z3 e_z3 => ?_)
        have g_z3 : z3.toInt = f5_keptSize.toInt - 1 := by rw [e_z3]; exact n_sub (a := f5_keptSize.toInt) (b := 1) rfl (by decide +kernel) (by omega) (by omega)
        refine lv_iconst (v := 4) hx hb dX5_walk_61 (by decide) ?_
        refine v_imul hx hb dX5_walk_62 _ rfl ?_
        refine lv_topi (fun z4 e_z4 => ?_)
        have g_z4 : z4.toInt = z3.toInt * 4 := by rw [e_z4]; exact n_mul (a := z3.toInt) (b := 4) rfl (by decide +kernel) (by omega) (by omega)
        refine lv_istore (lv' := [(5, .int z4), (0, .ref (ad 22)), (1, .ref (ad 16)), (2, .ref (ad 17)), (3, .int L3), (4, .int L4)]) hx hb dX5_walk_63 hl (by decide) rfl (fun ls_1 hl_1 => ?_)
        refine lv_aload_n hx hb dX5_walk_65 rfl (lv_at hl_1 1 rfl) ?_
        refine gf (k := 3) hx hb hts inX5 hown hK hP k_140 rfl (by decide) rfl 22 rfl (.int f5_aheadSize) rfl dX5_walk_66 ?_
        refine lv_iconst (v := 1) hx hb dX5_walk_69 (by decide) ?_
        refine v_isub hx hb dX5_walk_70 _ rfl ?_
        refine lv_topi (fun z5 e_z5 => ?_)
        have g_z5 : z5.toInt = f5_aheadSize.toInt - 1 := by rw [e_z5]; exact n_sub (a := f5_aheadSize.toInt) (b := 1) rfl (by decide +kernel) (by omega) (by omega)
        refine lv_iconst (v := 4) hx hb dX5_walk_71 (by decide) ?_
        refine v_imul hx hb dX5_walk_72 _ rfl ?_
        refine lv_topi (fun z6 e_z6 => ?_)
        have g_z6 : z6.toInt = z5.toInt * 4 := by rw [e_z6]; exact n_mul (a := z5.toInt) (b := 4) rfl (by decide +kernel) (by omega) (by omega)
        refine lv_istore (lv' := [(6, .int z6), (5, .int z4), (0, .ref (ad 22)), (1, .ref (ad 16)), (2, .ref (ad 17)), (3, .int L3), (4, .int L4)]) hx hb dX5_walk_73 hl_1 (by decide) rfl (fun ls_2 hl_2 => ?_)
        refine lv_aload_n hx hb dX5_walk_75 rfl (lv_at hl_2 2 rfl) ?_
        refine lv_iload hx hb dX5_walk_76 (lv_at hl_2 1 rfl) ?_
        refine lv_iload hx hb dX5_walk_78 (lv_at hl_2 0 rfl) ?_
        have hM := m068_X5_haveOppositeSigns l dC dI cI cJ cII cJJ H.size 0 ad f3_unknowns f3_equations f2_roundSupports f2_stale f7_size f1_size f5_keptSize f5_aheadSize f0_solved f4_blockCount f4_blockLength f4_lastIsFree f4_stale ai al w0 w1 w2 w3 z4 z6 (by omega) (by omega) (by omega) (by omega) (by omega) (by omega) (by omega) (by omega) (by omega) (by omega) (by omega) (by omega) (by omega) hI hw_w0 hw_w1 hw_w2 hw_w3
        refine k2V_i (q0 := 22) ⟨hx, hb, hml, hown, hts⟩ hK hP hD hS hA hX cv_RX5_32 hM ⟨by decide +kernel, by decide +kernel⟩ rfl rfl (Or.inl rfl) (rest := []) rfl rfl rfl hl_2.1 rfl (Nat.le_of_ble_eq_true rfl) dX5_walk_80 ⟨Nat.le_of_ble_eq_true rfl, Nat.le_of_ble_eq_true rfl⟩ (fun r7 t H1 locs_3 ht hB hS_3 hFc => ?_)
        obtain ⟨gpr7_0, hP_4, -, hD_4⟩ := hB
        rw [ht] at hP_4
        have hD_5 := hD_4.weaken (B := A) (fun k q _ h9 => hFc q.1 h9)
        clear ht
        generalize H1 = H_6 at hP_4 hS_3 ⊢
        refine lv_if_eq (tgt := 97) hx hb dX5_walk_83 (by decide) (fun c8 => ?_) (fun c8 => ?_)
        · have c8 := j_eq (a := r7.toInt) (b := 0) rfl (by decide +kernel) c8
          refine lv_aload_n hx hb dX5_walk_97 rfl (lv_at hl_2 2 rfl) ?_
          have hM := m067_X5_keepNext l dC dI cI cJ cII cJJ H_6.size 0 ad f3_unknowns f3_equations f2_roundSupports f2_stale f7_size f1_size f5_keptSize f5_aheadSize f0_solved f4_blockCount f4_blockLength f4_lastIsFree f4_stale ai al w0 w1 w2 w3 (by omega) (by omega) (by omega) (by omega) (by omega) (by omega) (by omega) (by omega) (by omega) (by omega) (by omega) hI hw_w0 hw_w1 hw_w2 hw_w3
          refine k2V_v (q0 := 22) ⟨hx, hb, hml, hown, hts⟩ hK hP_4 hD_5 hS_3 hA hX cv_RX5_29 hM ⟨by decide +kernel, by decide +kernel⟩ rfl rfl (Or.inl rfl) (rest := []) rfl rfl rfl hl_2.1 rfl (Nat.le_of_ble_eq_true rfl) dX5_walk_98 ⟨Nat.le_of_ble_eq_true rfl, Nat.le_of_ble_eq_true rfl⟩ (fun t H1 locs_7 ht hB hS_7 hFc => ?_)
          obtain ⟨v10, v11, ai12, ⟨gpr9_0, gpr9_1, gpr9_2, hI_8, hFr_r9⟩, hP_8, -, hD_8⟩ := hB
          have hF_9 := FR_tr hF hFr_r9 (by decide)
          rw [ht] at hP_8
          have hD_10 := hD_8.weaken (B := A) (fun k q _ h9 => hFc q.1 h9)
          clear ht
          generalize H1 = H_11 at hP_8 hS_7 ⊢
          exact m070_X5_walk_b101 C n ih L3 L4 z4 z6 v10 v11 ai12 _ _ _ (by omega) (by omega) (by omega) (by omega) (by omega) (by omega) (by omega) (by omega) (by omega) (by omega) (by omega) (by omega) (by omega) (by omega) (by omega) (by omega) (by omega) hI_8 hF_9 hw_w0 hw_w1 hw_w2 hw_w3 hP_8 hD_10 hS_7 (lv_sub hl_2 [2, 3, 4, 5, 6, 1, 0] rfl)
        · have c8 := j_ne (a := r7.toInt) (b := 0) rfl (by decide +kernel) c8
          refine lv_aload_n hx hb dX5_walk_86 rfl (lv_at hl_2 2 rfl) ?_
          refine lv_iload hx hb dX5_walk_87 (lv_at hl_2 1 rfl) ?_
          refine lv_iload hx hb dX5_walk_89 (lv_at hl_2 0 rfl) ?_
          have hM := m066_X5_pushSum l dC dI cI cJ cII cJJ H_6.size 0 ad f3_unknowns f3_equations f2_roundSupports f2_stale f7_size f1_size f5_keptSize f5_aheadSize f0_solved f4_blockCount f4_blockLength f4_lastIsFree f4_stale ai al w0 w1 w2 w3 z4 z6 (by omega) (by omega) (by omega) (by omega) (by omega) (by omega) (by omega) (by omega) (by omega) (by omega) (by omega) (by omega) (by omega) hI hw_w0 hw_w1 hw_w2 hw_w3
          refine k2V_v (q0 := 22) ⟨hx, hb, hml, hown, hts⟩ hK hP_4 hD_5 hS_3 hA hX cv_RX5_36 hM ⟨by decide +kernel, by decide +kernel⟩ rfl rfl (Or.inl rfl) (rest := []) rfl rfl rfl hl_2.1 rfl (Nat.le_of_ble_eq_true rfl) dX5_walk_91 ⟨Nat.le_of_ble_eq_true rfl, Nat.le_of_ble_eq_true rfl⟩ (fun t H1 locs_12 ht hB hS_12 hFc => ?_)
          obtain ⟨v14, ai15, ⟨gpr13_0, gpr13_1, hI_13, hFr_r13⟩, hP_13, -, hD_13⟩ := hB
          have hF_14 := FR_tr hF hFr_r13 (by decide)
          rw [ht] at hP_13
          have hD_15 := hD_13.weaken (B := A) (fun k q _ h9 => hFc q.1 h9)
          clear ht
          generalize H1 = H_16 at hP_13 hS_12 ⊢
          refine lv_goto (tgt := 101) hx hb dX5_walk_94 (by decide) ?_
          exact m070_X5_walk_b101 C n ih L3 L4 z4 z6 f5_keptSize v14 ai15 _ _ _ (by omega) (by omega) (by omega) (by omega) (by omega) (by omega) (by omega) (by omega) (by omega) (by omega) (by omega) (by omega) (by omega) (by omega) (by omega) (by omega) (by omega) hI_13 hF_14 hw_w0 hw_w1 hw_w2 hw_w3 hP_13 hD_15 hS_12 (lv_sub hl_2 [2, 3, 4, 5, 6, 1, 0] rfl)
set_option maxRecDepth 100000 in
set_option maxHeartbeats 4000000 in
theorem m070_X5_walk (l : Launch) (dC : Nat → ClassId) (dI : Nat → Nat → Nat) (cI cJ cII cJJ : ClassId) (sz g : Nat) (ad : Nat → Nat) (f3_unknowns f3_equations f2_roundSupports f2_stale f7_size f1_size f5_keptSize f5_aheadSize f0_solved f4_blockCount f4_blockLength f4_lastIsFree f4_stale : Int32) (ai : Nat → Nat → Int32) (al : Nat → Nat → Int64) (w0 w1 w2 w3 : Nat) (x3 : Int32) (h_x3 : (0 ≤ x3.toInt ∧ x3.toInt ≤ 1)) (h_f3_unknowns : (1 ≤ f3_unknowns.toInt ∧ f3_unknowns.toInt ≤ 4)) (h_f3_equations : (0 ≤ f3_equations.toInt ∧ f3_equations.toInt ≤ 3)) (h_f2_stale : (0 ≤ f2_stale.toInt ∧ f2_stale.toInt ≤ 1)) (h_f7_size : (0 ≤ f7_size.toInt ∧ f7_size.toInt ≤ 256)) (h_f1_size : (0 ≤ f1_size.toInt ∧ f1_size.toInt ≤ 4)) (h_f5_keptSize : (0 ≤ f5_keptSize.toInt ∧ f5_keptSize.toInt ≤ 128)) (h_f5_aheadSize : (0 ≤ f5_aheadSize.toInt ∧ f5_aheadSize.toInt ≤ 128)) (h_f4_blockCount : (0 ≤ f4_blockCount.toInt ∧ f4_blockCount.toInt ≤ 9261)) (h_f4_blockLength : (0 ≤ f4_blockLength.toInt ∧ f4_blockLength.toInt ≤ 21)) (h_f4_lastIsFree : (0 ≤ f4_lastIsFree.toInt ∧ f4_lastIsFree.toInt ≤ 1)) (h_f4_stale : (0 ≤ f4_stale.toInt ∧ f4_stale.toInt ≤ 1)) (hI : IAX ai) (hw_w0 : RWX ad w0) (hw_w1 : RWX ad w1) (hw_w2 : RWX ad w2) (hw_w3 : RWX ad w3) : Met l yX5_walk (.code yX5_walk cX5_walk 7 none :: TT) ({ frames := 3, cells := 0, slots := 0, locals := 140 } : Room) (PcS dC dI (TY cI cJ cII cJJ) [.ref (ad 22), .ref (ad 16), .ref (ad 17), .int x3] (WX cI cJ cII cJJ ad f3_unknowns f3_equations f2_roundSupports f2_stale f7_size f1_size f5_keptSize f5_aheadSize f0_solved f4_blockCount f4_blockLength f4_lastIsFree f4_stale ai al w0 w1 w2 w3) sz 0 g) (Q_m070_X5_walk dC dI cI cJ cII cJJ ad f3_unknowns f3_equations f2_roundSupports f2_stale f7_size f1_size f0_solved f4_blockCount f4_blockLength f4_lastIsFree f4_stale ai al w0 w1 w2 w3 (va_A (WX cI cJ cII cJJ ad f3_unknowns f3_equations f2_roundSupports f2_stale f7_size f1_size f5_keptSize f5_aheadSize f0_solved f4_blockCount f4_blockLength f4_lastIsFree f4_stale ai al w0 w1 w2 w3) sz)) 0 0 (va_A (WX cI cJ cII cJJ ad f3_unknowns f3_equations f2_roundSupports f2_stale f7_size f1_size f5_keptSize f5_aheadSize f0_solved f4_blockCount f4_blockLength f4_lastIsFree f4_stale ai al w0 w1 w2 w3) sz) := by
  refine SM.of (y := yX5_walk) (maxL := 7) (av := [.ref (ad 22), .ref (ad 16), .ref (ad 17), .int x3]) (Q_m070_X5_walk dC dI cI cJ cII cJJ ad f3_unknowns f3_equations f2_roundSupports f2_stale f7_size f1_size f0_solved f4_blockCount f4_blockLength f4_lastIsFree f4_stale ai al w0 w1 w2 w3) (by decide +kernel) (Nat.le_of_ble_eq_true rfl) (fun p e s m below meth c A ls hx hb hr hml hown hts hk hnm hA hK hP hD hS hX hl => ?_)
  have C : Cx p c s m meth (([.ref (ad 22), .ref (ad 16), .ref (ad 17), .int x3] : List Value).toArray) A dC dI (TY cI cJ cII cJJ) cX5_walk none 7 RX5 0 g := ⟨hx, hb, hr, hml, hown, hts, hk, hA, hK, hX⟩
  have hown : s.vm.findClass RX5 = some m.cls := hown
  have hl : lv_has ls 7 [(0, .ref (ad 22)), (1, .ref (ad 16)), (2, .ref (ad 17)), (3, .int x3)] := hl
  obtain ⟨H, hH⟩ : ∃ q, q = s.heap := ⟨_, rfl⟩
  rw [← hH] at hP
  have hS : va_S A s.heap H [] := by rw [hH]; exact hS
  rw [← hH]
  have hF := FR_refl [23, 24] ai
  refine lv_aload_n hx hb dX5_walk_0 rfl (lv_at hl 0 rfl) ?_
  refine lv_iconst (v := 0) hx hb dX5_walk_1 (by decide) ?_
  refine pf (k := 2) hx hb hts inX5 tyX5_ok nmX5 hown hK hP hD hS k_139 rfl (by decide) rfl rfl 22 rfl rfl rfl (Nat.le_of_ble_eq_true rfl) dX5_walk_2 (W' := (WX cI cJ cII cJJ ad f3_unknowns f3_equations f2_roundSupports f2_stale f7_size f1_size 0 f5_aheadSize f0_solved f4_blockCount f4_blockLength f4_lastIsFree f4_stale ai al w0 w1 w2 w3)) rfl (fun H_1 locs_1 hP_1 hD_1 hS_1 => ?_)
  refine lv_aload_n hx hb dX5_walk_5 rfl (lv_at hl 0 rfl) ?_
  refine lv_iconst (v := 0) hx hb dX5_walk_6 (by decide) ?_
  refine pf (k := 3) hx hb hts inX5 tyX5_ok nmX5 hown hK hP_1 hD_1 hS_1 k_140 rfl (by decide) rfl rfl 22 rfl rfl rfl (Nat.le_of_ble_eq_true rfl) dX5_walk_7 (W' := (WX cI cJ cII cJJ ad f3_unknowns f3_equations f2_roundSupports f2_stale f7_size f1_size 0 0 f0_solved f4_blockCount f4_blockLength f4_lastIsFree f4_stale ai al w0 w1 w2 w3)) rfl (fun H_2 locs_2 hP_2 hD_2 hS_2 => ?_)
  refine lv_aload_n hx hb dX5_walk_10 rfl (lv_at hl 0 rfl) ?_
  refine lv_aload_n hx hb dX5_walk_11 rfl (lv_at hl 1 rfl) ?_
  refine lv_iconst (v := 1) hx hb dX5_walk_12 (by decide) ?_
  have kc0 : (0 : Int32).toInt = 0 := by decide +kernel
  have kc1 : (1 : Int32).toInt = 1 := by decide +kernel
  have hM := m065_X5_pushAhead l dC dI cI cJ cII cJJ H_2.size 0 ad f3_unknowns f3_equations f2_roundSupports f2_stale f7_size f1_size 0 0 f0_solved f4_blockCount f4_blockLength f4_lastIsFree f4_stale ai al w0 w1 w2 w3 1 (by omega) (by omega) (by omega) (by omega) (by omega) (by decide +kernel) (by decide +kernel) (by omega) (by omega) (by omega) (by omega) hI hw_w0 hw_w1 hw_w2 hw_w3
  refine k2V_v (q0 := 22) ⟨hx, hb, hml, hown, hts⟩ hK hP_2 hD_2 hS_2 hA hX cv_RX5_25 hM ⟨by decide +kernel, by decide +kernel⟩ rfl rfl (Or.inl rfl) (rest := []) rfl rfl rfl hl.1 rfl (Nat.le_of_ble_eq_true rfl) dX5_walk_13 ⟨Nat.le_of_ble_eq_true rfl, Nat.le_of_ble_eq_true rfl⟩ (fun t H1 locs_3 ht hB hS_3 hFc => ?_)
  obtain ⟨v2, ai3, ⟨gpr1_0, gpr1_1, hI_4, hFr_r1⟩, hP_4, -, hD_4⟩ := hB
  have hF_5 := FR_tr hF hFr_r1 (by decide)
  rw [ht] at hP_4
  have hD_6 := hD_4.weaken (B := A) (fun k q _ h9 => hFc q.1 h9)
  clear ht
  generalize H1 = H_7 at hP_4 hS_3 ⊢
  refine lv_aload_n hx hb dX5_walk_16 rfl (lv_at hl 0 rfl) ?_
  have kc0 : (0 : Int32).toInt = 0 := by decide +kernel
  have hM := m067_X5_keepNext l dC dI cI cJ cII cJJ H_7.size 0 ad f3_unknowns f3_equations f2_roundSupports f2_stale f7_size f1_size 0 v2 f0_solved f4_blockCount f4_blockLength f4_lastIsFree f4_stale ai3 al w0 w1 w2 w3 (by omega) (by omega) (by omega) (by omega) (by omega) (by decide +kernel) (by omega) (by omega) (by omega) (by omega) (by omega) hI_4 hw_w0 hw_w1 hw_w2 hw_w3
  refine k2V_v (q0 := 22) ⟨hx, hb, hml, hown, hts⟩ hK hP_4 hD_6 hS_3 hA hX cv_RX5_29 hM ⟨by decide +kernel, by decide +kernel⟩ rfl rfl (Or.inl rfl) (rest := []) rfl rfl rfl hl.1 rfl (Nat.le_of_ble_eq_true rfl) dX5_walk_17 ⟨Nat.le_of_ble_eq_true rfl, Nat.le_of_ble_eq_true rfl⟩ (fun t H1 locs_8 ht hB hS_8 hFc => ?_)
  obtain ⟨v5, v6, ai7, ⟨gpr4_0, gpr4_1, gpr4_2, hI_9, hFr_r4⟩, hP_9, -, hD_9⟩ := hB
  have hF_10 := FR_tr hF_5 hFr_r4 (by decide)
  rw [ht] at hP_9
  have hD_11 := hD_9.weaken (B := A) (fun k q _ h9 => hFc q.1 h9)
  clear ht
  generalize H1 = H_12 at hP_9 hS_8 ⊢
  refine lv_iload_n hx hb dX5_walk_20 rfl (lv_at hl 3 rfl) ?_
  refine lv_if_ne (tgt := 25) hx hb dX5_walk_21 (by decide) (fun c8 => ?_) (fun c8 => ?_)
  · have c8 := j_ne (a := x3.toInt) (b := 0) rfl (by decide +kernel) c8
    refine lv_aload_n hx hb dX5_walk_25 rfl (lv_at hl 0 rfl) ?_
    refine lv_aload_n hx hb dX5_walk_26 rfl (lv_at hl 1 rfl) ?_
    refine lv_iconst (v := (-1)) hx hb dX5_walk_27 (by decide) ?_
    have kcm1 : ((-1) : Int32).toInt = (-1) := by decide +kernel
    have hM := m065_X5_pushAhead l dC dI cI cJ cII cJJ H_12.size 0 ad f3_unknowns f3_equations f2_roundSupports f2_stale f7_size f1_size v5 v6 f0_solved f4_blockCount f4_blockLength f4_lastIsFree f4_stale ai7 al w0 w1 w2 w3 (-1) (by omega) (by omega) (by omega) (by omega) (by omega) (by omega) (by omega) (by omega) (by omega) (by omega) (by omega) hI_9 hw_w0 hw_w1 hw_w2 hw_w3
    refine k2V_v (q0 := 22) ⟨hx, hb, hml, hown, hts⟩ hK hP_9 hD_11 hS_8 hA hX cv_RX5_25 hM ⟨by decide +kernel, by decide +kernel⟩ rfl rfl (Or.inl rfl) (rest := []) rfl rfl rfl hl.1 rfl (Nat.le_of_ble_eq_true rfl) dX5_walk_28 ⟨Nat.le_of_ble_eq_true rfl, Nat.le_of_ble_eq_true rfl⟩ (fun t H1 locs_13 ht hB hS_13 hFc => ?_)
    obtain ⟨v10, ai11, ⟨gpr9_0, gpr9_1, hI_14, hFr_r9⟩, hP_14, -, hD_14⟩ := hB
    have hF_15 := FR_tr hF_10 hFr_r9 (by decide)
    rw [ht] at hP_14
    have hD_16 := hD_14.weaken (B := A) (fun k q _ h9 => hFc q.1 h9)
    clear ht
    generalize H1 = H_17 at hP_14 hS_13 ⊢
    refine lv_aload_n hx hb dX5_walk_31 rfl (lv_at hl 0 rfl) ?_
    refine lv_aload_n hx hb dX5_walk_32 rfl (lv_at hl 2 rfl) ?_
    refine lv_iconst (v := 1) hx hb dX5_walk_33 (by decide) ?_
    have kc1 : (1 : Int32).toInt = 1 := by decide +kernel
    have hM := m069_X5_pushAhead l dC dI cI cJ cII cJJ H_17.size 0 ad f3_unknowns f3_equations f2_roundSupports f2_stale f7_size f1_size v5 v10 f0_solved f4_blockCount f4_blockLength f4_lastIsFree f4_stale ai11 al w0 w1 w2 w3 1 (by omega) (by omega) (by omega) (by omega) (by omega) (by omega) (by omega) (by omega) (by omega) (by omega) (by omega) hI_14 hw_w0 hw_w1 hw_w2 hw_w3
    refine k2V_v (q0 := 22) ⟨hx, hb, hml, hown, hts⟩ hK hP_14 hD_16 hS_13 hA hX cv_RX5_25 hM ⟨by decide +kernel, by decide +kernel⟩ rfl rfl (Or.inl rfl) (rest := []) rfl rfl rfl hl.1 rfl (Nat.le_of_ble_eq_true rfl) dX5_walk_34 ⟨Nat.le_of_ble_eq_true rfl, Nat.le_of_ble_eq_true rfl⟩ (fun t H1 locs_18 ht hB hS_18 hFc => ?_)
    obtain ⟨v13, ai14, ⟨gpr12_0, gpr12_1, hI_19, hFr_r12⟩, hP_19, -, hD_19⟩ := hB
    have hF_20 := FR_tr hF_15 hFr_r12 (by decide)
    rw [ht] at hP_19
    have hD_21 := hD_19.weaken (B := A) (fun k q _ h9 => hFc q.1 h9)
    clear ht
    generalize H1 = H_22 at hP_19 hS_18 ⊢
    refine lv_iconst (v := 0) hx hb dX5_walk_37 (by decide) ?_
    refine lv_istore (lv' := [(4, .int 0), (0, .ref (ad 22)), (1, .ref (ad 16)), (2, .ref (ad 17)), (3, .int x3)]) hx hb dX5_walk_38 hl (by decide) rfl (fun ls_23 hl_23 => ?_)
    exact m070_X5_walk_b40 C  _ x3 0 v5 v13 ai14 _ _ _ (by first | omega | decide | (have ka0 := (by decide +kernel : (0 : Int32).toInt = 0); omega)) (by first | omega | decide | (have ka0 := (by decide +kernel : (0 : Int32).toInt = 0); omega)) (by first | omega | decide | (have ka0 := (by decide +kernel : (0 : Int32).toInt = 0); omega)) (by first | omega | decide | (have ka0 := (by decide +kernel : (0 : Int32).toInt = 0); omega)) (by first | omega | decide | (have ka0 := (by decide +kernel : (0 : Int32).toInt = 0); omega)) (by first | omega | decide | (have ka0 := (by decide +kernel : (0 : Int32).toInt = 0); omega)) (by first | omega | decide | (have ka0 := (by decide +kernel : (0 : Int32).toInt = 0); omega)) (by first | omega | decide | (have ka0 := (by decide +kernel : (0 : Int32).toInt = 0); omega)) (by first | omega | decide | (have ka0 := (by decide +kernel : (0 : Int32).toInt = 0); omega)) (by first | omega | decide | (have ka0 := (by decide +kernel : (0 : Int32).toInt = 0); omega)) (by first | omega | decide | (have ka0 := (by decide +kernel : (0 : Int32).toInt = 0); omega)) (by first | omega | decide | (have ka0 := (by decide +kernel : (0 : Int32).toInt = 0); omega)) (by first | omega | decide | (have ka0 := (by decide +kernel : (0 : Int32).toInt = 0); omega)) (j_fuel _) (by omega) hI_19 hF_20 hw_w0 hw_w1 hw_w2 hw_w3 hP_19 hD_21 hS_18 (lv_sub hl_23 [1, 2, 3, 4, 0] rfl)
  · have c8 := j_eq (a := x3.toInt) (b := 0) rfl (by decide +kernel) c8
    exact r2_v hx hb hr hk hS_8 dX5_walk_24 (fun t ht hW => ⟨v5, v6, ai7, ⟨(by first | omega | decide | exact Or.inl (by decide) | exact Or.inr (by decide) | exact Or.inr (by omega)), (by first | omega | decide | exact Or.inl (by decide) | exact Or.inr (by decide) | exact Or.inr (by omega)), hI_9, hF_10⟩, by rw [ht]; exact hP_9, va_K.moved hW.alike hK, hD_11⟩)
def Q_m071_X5_giveTo (dC : Nat → ClassId) (dI : Nat → Nat → Nat) (cI cJ cII cJJ : ClassId) (ad : Nat → Nat) (f3_unknowns f3_equations f2_roundSupports f2_stale f1_size f5_keptSize f5_aheadSize f0_solved f4_blockCount f4_blockLength f4_lastIsFree f4_stale : Int32) (ai : Nat → Nat → Int32) (al0 : Nat → Nat → Int64) (w0 w1 w2 w3 : Nat) : (Nat → Prop) → Array Value → State → Outcome → State → Prop := fun A => QV (fun t => ∃ (n_f7_size : Int32), ∃ (n_al : Nat → Nat → Int64), ((0 ≤ n_f7_size.toInt ∧ n_f7_size.toInt ≤ 256) ∧ FL [13] al0 n_al) ∧ WO dC dI (TY cI cJ cII cJJ) (WX cI cJ cII cJJ ad f3_unknowns f3_equations f2_roundSupports f2_stale n_f7_size f1_size f5_keptSize f5_aheadSize f0_solved f4_blockCount f4_blockLength f4_lastIsFree f4_stale ai n_al w0 w1 w2 w3) A t) A
set_option maxRecDepth 100000 in
set_option maxHeartbeats 4000000 in
theorem m071_X5_giveTo_b2 {p : Program} {l : Launch} {e : Env} {s : State} {m : MethodId} {args : Array Value} {below : List Frame} {meth : Method} {c : Code} {A : Nat → Prop} {dC : Nat → ClassId} {dI : Nat → Nat → Nat} {cI cJ cII cJJ : ClassId} {ad : Nat → Nat} {g : Nat} {f3_unknowns f3_equations f2_roundSupports f2_stale f1_size f5_keptSize f5_aheadSize f0_solved f4_blockCount f4_blockLength f4_lastIsFree f4_stale : Int32} {ai : Nat → Nat → Int32} {al0 : Nat → Nat → Int64} {w0 w1 w2 w3 : Nat} (C : Cx p c s m meth args A dC dI (TY cI cJ cII cJJ) cX5_giveTo none 3 RX5 0 g) : ∀ (n : Nat), ∀ (L2 f7_size : Int32) (al : Nat → Nat → Int64) (H : Heap) (locs : List Loc) (ls : Array Slot), (0 ≤ L2.toInt ∧ L2.toInt ≤ 128) → (1 ≤ f3_unknowns.toInt ∧ f3_unknowns.toInt ≤ 4) → (0 ≤ f3_equations.toInt ∧ f3_equations.toInt ≤ 3) → (0 ≤ f2_stale.toInt ∧ f2_stale.toInt ≤ 1) → (0 ≤ f7_size.toInt ∧ f7_size.toInt ≤ 256) → (0 ≤ f1_size.toInt ∧ f1_size.toInt ≤ 4) → (0 ≤ f5_keptSize.toInt ∧ f5_keptSize.toInt ≤ 128) → (0 ≤ f5_aheadSize.toInt ∧ f5_aheadSize.toInt ≤ 128) → (0 ≤ f4_blockCount.toInt ∧ f4_blockCount.toInt ≤ 9261) → (0 ≤ f4_blockLength.toInt ∧ f4_blockLength.toInt ≤ 21) → (0 ≤ f4_lastIsFree.toInt ∧ f4_lastIsFree.toInt ≤ 1) → (0 ≤ f4_stale.toInt ∧ f4_stale.toInt ≤ 1) → f5_keptSize.toInt - L2.toInt < (n : Int) → (0 : Int) < (n : Int) → IAX ai → FL [13] al0 al → RWX ad w0 → RWX ad w1 → RWX ad w2 → RWX ad w3 → va_P (dC, dI) vwCl (WX cI cJ cII cJJ ad f3_unknowns f3_equations f2_roundSupports f2_stale f7_size f1_size f5_keptSize f5_aheadSize f0_solved f4_blockCount f4_blockLength f4_lastIsFree f4_stale ai al w0 w1 w2 w3) H → va_D A (WX cI cJ cII cJJ ad f3_unknowns f3_equations f2_roundSupports f2_stale f7_size f1_size f5_keptSize f5_aheadSize f0_solved f4_blockCount f4_blockLength f4_lastIsFree f4_stale ai al w0 w1 w2 w3) → va_S A s.heap H locs → lv_has ls 3 [(0, .ref (ad 22)), (1, .ref (ad 12)), (2, .int L2)] → W p l e ({ frames := 3, cells := 0, slots := 0, locals := 140 } : Room) s m args below meth c H locs 0 0 (MQ below (Q_m071_X5_giveTo dC dI cI cJ cII cJJ ad f3_unknowns f3_equations f2_roundSupports f2_stale f1_size f5_keptSize f5_aheadSize f0_solved f4_blockCount f4_blockLength f4_lastIsFree f4_stale ai al0 w0 w1 w2 w3 A) args s 0 0 A) (F0 m 2 ls []) := by
  obtain ⟨hx, hb, hr, hml, hown, hts, hk, hA, hK, hX⟩ := id C
  intro n
  induction n with
  | zero =>
    intro L2 f7_size al H locs ls h0 h1 h2 h3 h4 h5 h6 h7 h8 h9 h10 h11 h12 h13 hI hG hw_w0 hw_w1 hw_w2 hw_w3 hP hD hS hl
    exact absurd h13 (by omega)
  | succ n ih =>
    intro L2 f7_size al H locs ls h0 h1 h2 h3 h4 h5 h6 h7 h8 h9 h10 h11 h12 h13 hI hG hw_w0 hw_w1 hw_w2 hw_w3 hP hD hS hl
    refine lv_iload_n hx hb dX5_giveTo_2 rfl (lv_at hl 2 rfl) ?_
    refine lv_aload_n hx hb dX5_giveTo_3 rfl (lv_at hl 0 rfl) ?_
    refine gf (k := 2) hx hb hts inX5 hown hK hP k_139 rfl (by decide) rfl 22 rfl (.int f5_keptSize) rfl dX5_giveTo_4 ?_
    refine lv_icmp_ge (tgt := 40) hx hb dX5_giveTo_7 (by decide) (fun c1 => ?_) (fun c1 => ?_)
    · have c1 := j_le (a := f5_keptSize.toInt) (b := L2.toInt) rfl rfl c1
      exact r2_v hx hb hr hk hS dX5_giveTo_40 (fun t ht hW => ⟨f7_size, al, ⟨(by first | omega | decide | exact Or.inl (by decide) | exact Or.inr (by decide) | exact Or.inr (by omega)), hG⟩, by rw [ht]; exact hP, va_K.moved hW.alike hK, hD⟩)
    · have c1 := j_nle (a := f5_keptSize.toInt) (b := L2.toInt) rfl rfl c1
      refine lv_aload_n hx hb dX5_giveTo_10 rfl (lv_at hl 1 rfl) ?_
      refine lv_aload_n hx hb dX5_giveTo_11 rfl (lv_at hl 0 rfl) ?_
      refine gf (k := 0) hx hb hts inX5 hown hK hP k_137 rfl (by decide) rfl 22 rfl (.ref (ad 23)) rfl dX5_giveTo_12 ?_
      refine lv_iload_n hx hb dX5_giveTo_15 rfl (lv_at hl 2 rfl) ?_
      refine lv_iconst (v := 4) hx hb dX5_giveTo_16 (by decide) ?_
      refine v_imul hx hb dX5_giveTo_17 _ rfl ?_
      refine lv_topi (fun z2 e_z2 => ?_)
      have g_z2 : z2.toInt = L2.toInt * 4 := by rw [e_z2]; exact n_mul (a := L2.toInt) (b := 4) rfl (by decide +kernel) (by omega) (by omega)
      refine lv_iconst (v := 1) hx hb dX5_giveTo_18 (by decide) ?_
      have kc1 : (1 : Int32).toInt = 1 := by decide +kernel
      have hM := m063_X7_append l dC dI cI cJ cII cJJ H.size 0 ad f3_unknowns f3_equations f2_roundSupports f2_stale f7_size f1_size f5_keptSize f5_aheadSize f0_solved f4_blockCount f4_blockLength f4_lastIsFree f4_stale ai al w0 w1 w2 w3 z2 1 (by omega) (by omega) (by omega) (by omega) (by omega) (by omega) (by omega) (by omega) (by omega) (by omega) (by omega) hI hw_w0 hw_w1 hw_w2 hw_w3
      refine k2V_v (q0 := 12) ⟨hx, hb, hml, hown, hts⟩ hK hP hD hS hA hX cv_RX5_40 hM ⟨by decide +kernel, by decide +kernel⟩ rfl rfl (Or.inl rfl) (rest := []) rfl rfl rfl hl.1 rfl (Nat.le_of_ble_eq_true rfl) dX5_giveTo_19 ⟨Nat.le_of_ble_eq_true rfl, Nat.le_of_ble_eq_true rfl⟩ (fun t H1 locs_1 ht hB hS_1 hFc => ?_)
      obtain ⟨v4, al5, ⟨gpr3_0, hGr_r3⟩, hP_2, -, hD_2⟩ := hB
      have hG_3 := FL_tr hG hGr_r3 (by decide)
      rw [ht] at hP_2
      have hD_4 := hD_2.weaken (B := A) (fun k q _ h9 => hFc q.1 h9)
      clear ht
      generalize H1 = H_5 at hP_2 hS_1 ⊢
      refine lv_aload_n hx hb dX5_giveTo_22 rfl (lv_at hl 1 rfl) ?_
      refine lv_aload_n hx hb dX5_giveTo_23 rfl (lv_at hl 0 rfl) ?_
      refine gf (k := 0) hx hb hts inX5 hown hK hP_2 k_137 rfl (by decide) rfl 22 rfl (.ref (ad 23)) rfl dX5_giveTo_24 ?_
      refine lv_iload_n hx hb dX5_giveTo_27 rfl (lv_at hl 2 rfl) ?_
      refine lv_iconst (v := 4) hx hb dX5_giveTo_28 (by decide) ?_
      refine v_imul hx hb dX5_giveTo_29 _ rfl ?_
      refine lv_topi (fun z6 e_z6 => ?_)
      have g_z6 : z6.toInt = L2.toInt * 4 := by rw [e_z6]; exact n_mul (a := L2.toInt) (b := 4) rfl (by decide +kernel) (by omega) (by omega)
      refine lv_iconst (v := (-1)) hx hb dX5_giveTo_30 (by decide) ?_
      have kcm1 : ((-1) : Int32).toInt = (-1) := by decide +kernel
      have hM := m063_X7_append l dC dI cI cJ cII cJJ H_5.size 0 ad f3_unknowns f3_equations f2_roundSupports f2_stale v4 f1_size f5_keptSize f5_aheadSize f0_solved f4_blockCount f4_blockLength f4_lastIsFree f4_stale ai al5 w0 w1 w2 w3 z6 (-1) (by omega) (by omega) (by omega) (by omega) (by omega) (by omega) (by omega) (by omega) (by omega) (by omega) (by omega) hI hw_w0 hw_w1 hw_w2 hw_w3
      refine k2V_v (q0 := 12) ⟨hx, hb, hml, hown, hts⟩ hK hP_2 hD_4 hS_1 hA hX cv_RX5_40 hM ⟨by decide +kernel, by decide +kernel⟩ rfl rfl (Or.inl rfl) (rest := []) rfl rfl rfl hl.1 rfl (Nat.le_of_ble_eq_true rfl) dX5_giveTo_31 ⟨Nat.le_of_ble_eq_true rfl, Nat.le_of_ble_eq_true rfl⟩ (fun t H1 locs_6 ht hB hS_6 hFc => ?_)
      obtain ⟨v8, al9, ⟨gpr7_0, hGr_r7⟩, hP_7, -, hD_7⟩ := hB
      have hG_8 := FL_tr hG_3 hGr_r7 (by decide)
      rw [ht] at hP_7
      have hD_9 := hD_7.weaken (B := A) (fun k q _ h9 => hFc q.1 h9)
      clear ht
      generalize H1 = H_10 at hP_7 hS_6 ⊢
      obtain ⟨z10, e_z10⟩ : ∃ q : Int32, q = L2 + Int32.ofInt 1 := ⟨_, rfl⟩
      have g_z10 : z10.toInt = L2.toInt + 1 := by rw [e_z10]; exact n_add (a := L2.toInt) (b := 1) rfl (by decide +kernel) (by omega) (by omega)
      refine lv_iinc (v := z10) (lv' := [(2, .int z10), (0, .ref (ad 22)), (1, .ref (ad 12))]) hx hb dX5_giveTo_34 hl (k := 2) rfl e_z10.symm (by decide) rfl (fun ls_11 hl_11 => ?_)
      refine lv_goto (tgt := 2) hx hb dX5_giveTo_37 (by decide) ?_
      exact ih z10 v8 al9 _ _ _ (by omega) (by omega) (by omega) (by omega) (by omega) (by omega) (by omega) (by omega) (by omega) (by omega) (by omega) (by omega) (by omega) (by omega) hI hG_8 hw_w0 hw_w1 hw_w2 hw_w3 hP_7 hD_9 hS_6 (lv_sub hl_11 [1, 2, 0] rfl)
set_option maxRecDepth 100000 in
set_option maxHeartbeats 4000000 in
theorem m071_X5_giveTo (l : Launch) (dC : Nat → ClassId) (dI : Nat → Nat → Nat) (cI cJ cII cJJ : ClassId) (sz g : Nat) (ad : Nat → Nat) (f3_unknowns f3_equations f2_roundSupports f2_stale f7_size f1_size f5_keptSize f5_aheadSize f0_solved f4_blockCount f4_blockLength f4_lastIsFree f4_stale : Int32) (ai : Nat → Nat → Int32) (al : Nat → Nat → Int64) (w0 w1 w2 w3 : Nat) (h_f3_unknowns : (1 ≤ f3_unknowns.toInt ∧ f3_unknowns.toInt ≤ 4)) (h_f3_equations : (0 ≤ f3_equations.toInt ∧ f3_equations.toInt ≤ 3)) (h_f2_stale : (0 ≤ f2_stale.toInt ∧ f2_stale.toInt ≤ 1)) (h_f7_size : (0 ≤ f7_size.toInt ∧ f7_size.toInt ≤ 256)) (h_f1_size : (0 ≤ f1_size.toInt ∧ f1_size.toInt ≤ 4)) (h_f5_keptSize : (0 ≤ f5_keptSize.toInt ∧ f5_keptSize.toInt ≤ 128)) (h_f5_aheadSize : (0 ≤ f5_aheadSize.toInt ∧ f5_aheadSize.toInt ≤ 128)) (h_f4_blockCount : (0 ≤ f4_blockCount.toInt ∧ f4_blockCount.toInt ≤ 9261)) (h_f4_blockLength : (0 ≤ f4_blockLength.toInt ∧ f4_blockLength.toInt ≤ 21)) (h_f4_lastIsFree : (0 ≤ f4_lastIsFree.toInt ∧ f4_lastIsFree.toInt ≤ 1)) (h_f4_stale : (0 ≤ f4_stale.toInt ∧ f4_stale.toInt ≤ 1)) (hI : IAX ai) (hw_w0 : RWX ad w0) (hw_w1 : RWX ad w1) (hw_w2 : RWX ad w2) (hw_w3 : RWX ad w3) : Met l yX5_giveTo (.code yX5_giveTo cX5_giveTo 3 none :: TT) ({ frames := 3, cells := 0, slots := 0, locals := 140 } : Room) (PcS dC dI (TY cI cJ cII cJJ) [.ref (ad 22), .ref (ad 12)] (WX cI cJ cII cJJ ad f3_unknowns f3_equations f2_roundSupports f2_stale f7_size f1_size f5_keptSize f5_aheadSize f0_solved f4_blockCount f4_blockLength f4_lastIsFree f4_stale ai al w0 w1 w2 w3) sz 0 g) (Q_m071_X5_giveTo dC dI cI cJ cII cJJ ad f3_unknowns f3_equations f2_roundSupports f2_stale f1_size f5_keptSize f5_aheadSize f0_solved f4_blockCount f4_blockLength f4_lastIsFree f4_stale ai al w0 w1 w2 w3 (va_A (WX cI cJ cII cJJ ad f3_unknowns f3_equations f2_roundSupports f2_stale f7_size f1_size f5_keptSize f5_aheadSize f0_solved f4_blockCount f4_blockLength f4_lastIsFree f4_stale ai al w0 w1 w2 w3) sz)) 0 0 (va_A (WX cI cJ cII cJJ ad f3_unknowns f3_equations f2_roundSupports f2_stale f7_size f1_size f5_keptSize f5_aheadSize f0_solved f4_blockCount f4_blockLength f4_lastIsFree f4_stale ai al w0 w1 w2 w3) sz) := by
  refine SM.of (y := yX5_giveTo) (maxL := 3) (av := [.ref (ad 22), .ref (ad 12)]) (Q_m071_X5_giveTo dC dI cI cJ cII cJJ ad f3_unknowns f3_equations f2_roundSupports f2_stale f1_size f5_keptSize f5_aheadSize f0_solved f4_blockCount f4_blockLength f4_lastIsFree f4_stale ai al w0 w1 w2 w3) (by decide +kernel) (Nat.le_of_ble_eq_true rfl) (fun p e s m below meth c A ls hx hb hr hml hown hts hk hnm hA hK hP hD hS hX hl => ?_)
  have C : Cx p c s m meth (([.ref (ad 22), .ref (ad 12)] : List Value).toArray) A dC dI (TY cI cJ cII cJJ) cX5_giveTo none 3 RX5 0 g := ⟨hx, hb, hr, hml, hown, hts, hk, hA, hK, hX⟩
  have hown : s.vm.findClass RX5 = some m.cls := hown
  have hl : lv_has ls 3 [(0, .ref (ad 22)), (1, .ref (ad 12))] := hl
  obtain ⟨H, hH⟩ : ∃ q, q = s.heap := ⟨_, rfl⟩
  rw [← hH] at hP
  have hS : va_S A s.heap H [] := by rw [hH]; exact hS
  rw [← hH]
  have hG := FL_refl [13] al
  refine lv_iconst (v := 0) hx hb dX5_giveTo_0 (by decide) ?_
  refine lv_istore_n (lv' := [(2, .int 0), (0, .ref (ad 22)), (1, .ref (ad 12))]) hx hb dX5_giveTo_1 rfl hl (by decide) rfl (fun ls_1 hl_1 => ?_)
  exact m071_X5_giveTo_b2 C  _ 0 f7_size al _ _ _ (by first | omega | decide | (have ka0 := (by decide +kernel : (0 : Int32).toInt = 0); omega)) (by first | omega | decide | (have ka0 := (by decide +kernel : (0 : Int32).toInt = 0); omega)) (by first | omega | decide | (have ka0 := (by decide +kernel : (0 : Int32).toInt = 0); omega)) (by first | omega | decide | (have ka0 := (by decide +kernel : (0 : Int32).toInt = 0); omega)) (by first | omega | decide | (have ka0 := (by decide +kernel : (0 : Int32).toInt = 0); omega)) (by first | omega | decide | (have ka0 := (by decide +kernel : (0 : Int32).toInt = 0); omega)) (by first | omega | decide | (have ka0 := (by decide +kernel : (0 : Int32).toInt = 0); omega)) (by first | omega | decide | (have ka0 := (by decide +kernel : (0 : Int32).toInt = 0); omega)) (by first | omega | decide | (have ka0 := (by decide +kernel : (0 : Int32).toInt = 0); omega)) (by first | omega | decide | (have ka0 := (by decide +kernel : (0 : Int32).toInt = 0); omega)) (by first | omega | decide | (have ka0 := (by decide +kernel : (0 : Int32).toInt = 0); omega)) (by first | omega | decide | (have ka0 := (by decide +kernel : (0 : Int32).toInt = 0); omega)) (j_fuel _) (by omega) hI hG hw_w0 hw_w1 hw_w2 hw_w3 hP hD hS (lv_sub hl_1 [1, 2, 0] rfl)
def Q_m072_X4_appendBlock (dC : Nat → ClassId) (dI : Nat → Nat → Nat) (cI cJ cII cJJ : ClassId) (ad : Nat → Nat) (f3_unknowns f3_equations f2_roundSupports f2_stale f7_size f1_size f5_keptSize f5_aheadSize f0_solved f4_blockLength f4_lastIsFree f4_stale : Int32) (ai0 : Nat → Nat → Int32) (al : Nat → Nat → Int64) (w0 w1 w2 w3 : Nat) : (Nat → Prop) → Array Value → State → Outcome → State → Prop := fun A => QV (fun t => ∃ (n_f4_blockCount : Int32), ∃ (n_ai : Nat → Nat → Int32), ((1 ≤ n_f4_blockCount.toInt ∧ n_f4_blockCount.toInt ≤ 9261) ∧ (n_ai 33 0).toInt = (ai0 33 0).toInt ∧ (n_ai 33 1).toInt = (ai0 33 1).toInt ∧ (n_ai 33 2).toInt = (ai0 33 2).toInt ∧ (n_ai 33 3).toInt = (ai0 33 3).toInt ∧ IAX n_ai ∧ FR [30] ai0 n_ai) ∧ WO dC dI (TY cI cJ cII cJJ) (WX cI cJ cII cJJ ad f3_unknowns f3_equations f2_roundSupports f2_stale f7_size f1_size f5_keptSize f5_aheadSize f0_solved n_f4_blockCount f4_blockLength f4_lastIsFree f4_stale n_ai al w0 w1 w2 w3) A t) A
set_option maxRecDepth 100000 in
set_option maxHeartbeats 4000000 in
theorem m072_X4_appendBlock (l : Launch) (dC : Nat → ClassId) (dI : Nat → Nat → Nat) (cI cJ cII cJJ : ClassId) (sz g : Nat) (ad : Nat → Nat) (f3_unknowns f3_equations f2_roundSupports f2_stale f7_size f1_size f5_keptSize f5_aheadSize f0_solved f4_blockCount f4_blockLength f4_lastIsFree f4_stale : Int32) (ai : Nat → Nat → Int32) (al : Nat → Nat → Int64) (w0 w1 w2 w3 : Nat) (x1 : Int32) (h_f3_unknowns : (1 ≤ f3_unknowns.toInt ∧ f3_unknowns.toInt ≤ 4)) (h_f3_equations : (0 ≤ f3_equations.toInt ∧ f3_equations.toInt ≤ 3)) (h_f2_stale : (0 ≤ f2_stale.toInt ∧ f2_stale.toInt ≤ 1)) (h_f7_size : (0 ≤ f7_size.toInt ∧ f7_size.toInt ≤ 256)) (h_f1_size : (0 ≤ f1_size.toInt ∧ f1_size.toInt ≤ 4)) (h_f5_keptSize : (0 ≤ f5_keptSize.toInt ∧ f5_keptSize.toInt ≤ 128)) (h_f5_aheadSize : (0 ≤ f5_aheadSize.toInt ∧ f5_aheadSize.toInt ≤ 128)) (h_f4_blockCount : (0 ≤ f4_blockCount.toInt ∧ f4_blockCount.toInt ≤ 9261)) (h_f4_blockLength : (0 ≤ f4_blockLength.toInt ∧ f4_blockLength.toInt ≤ 21)) (h_f4_lastIsFree : (0 ≤ f4_lastIsFree.toInt ∧ f4_lastIsFree.toInt ≤ 1)) (h_f4_stale : (0 ≤ f4_stale.toInt ∧ f4_stale.toInt ≤ 1)) (hI : IAX ai) (hw_w0 : RWX ad w0) (hw_w1 : RWX ad w1) (hw_w2 : RWX ad w2) (hw_w3 : RWX ad w3) : Met l yX4_appendBlock (.code yX4_appendBlock cX4_appendBlock 2 none :: TT) ({ frames := 2, cells := 0, slots := 0, locals := 80 } : Room) (PcS dC dI (TY cI cJ cII cJJ) [.ref (ad 29), .int x1] (WX cI cJ cII cJJ ad f3_unknowns f3_equations f2_roundSupports f2_stale f7_size f1_size f5_keptSize f5_aheadSize f0_solved f4_blockCount f4_blockLength f4_lastIsFree f4_stale ai al w0 w1 w2 w3) sz 0 g) (Q_m072_X4_appendBlock dC dI cI cJ cII cJJ ad f3_unknowns f3_equations f2_roundSupports f2_stale f7_size f1_size f5_keptSize f5_aheadSize f0_solved f4_blockLength f4_lastIsFree f4_stale ai al w0 w1 w2 w3 (va_A (WX cI cJ cII cJJ ad f3_unknowns f3_equations f2_roundSupports f2_stale f7_size f1_size f5_keptSize f5_aheadSize f0_solved f4_blockCount f4_blockLength f4_lastIsFree f4_stale ai al w0 w1 w2 w3) sz)) 0 0 (va_A (WX cI cJ cII cJJ ad f3_unknowns f3_equations f2_roundSupports f2_stale f7_size f1_size f5_keptSize f5_aheadSize f0_solved f4_blockCount f4_blockLength f4_lastIsFree f4_stale ai al w0 w1 w2 w3) sz) := by
  refine SM.of (y := yX4_appendBlock) (maxL := 2) (av := [.ref (ad 29), .int x1]) (Q_m072_X4_appendBlock dC dI cI cJ cII cJJ ad f3_unknowns f3_equations f2_roundSupports f2_stale f7_size f1_size f5_keptSize f5_aheadSize f0_solved f4_blockLength f4_lastIsFree f4_stale ai al w0 w1 w2 w3) (by decide +kernel) (Nat.le_of_ble_eq_true rfl) (fun p e s m below meth c A ls hx hb hr hml hown hts hk hnm hA hK hP hD hS hX hl => ?_)
  have C : Cx p c s m meth (([.ref (ad 29), .int x1] : List Value).toArray) A dC dI (TY cI cJ cII cJJ) cX4_appendBlock none 2 RX4 0 g := ⟨hx, hb, hr, hml, hown, hts, hk, hA, hK, hX⟩
  have hown : s.vm.findClass RX4 = some m.cls := hown
  have hl : lv_has ls 2 [(0, .ref (ad 29)), (1, .int x1)] := hl
  obtain ⟨H, hH⟩ : ∃ q, q = s.heap := ⟨_, rfl⟩
  rw [← hH] at hP
  have hS : va_S A s.heap H [] := by rw [hH]; exact hS
  rw [← hH]
  have hF := FR_refl [30] ai
  have ra_x1 := s_any x1
  refine lv_aload_n hx hb dX4_appendBlock_0 rfl (lv_at hl 0 rfl) ?_
  refine gf (k := 8) hx hb hts inX4 hown hK hP k_213 rfl (by decide) rfl 29 rfl (.int f4_blockCount) rfl dX4_appendBlock_1 ?_
  refine lv_sipush (v := 9261) hx hb dX4_appendBlock_4 (by decide) ?_
  refine lv_icmp_ge (tgt := 30) hx hb dX4_appendBlock_7 (by decide) (fun c1 => ?_) (fun c1 => ?_)
  · have c1 := j_le (a := 9261) (b := f4_blockCount.toInt) (by decide +kernel) rfl c1
    exact r2_v hx hb hr hk hS dX4_appendBlock_30 (fun t ht hW => ⟨f4_blockCount, ai, ⟨(by first | omega | decide | exact Or.inl (by decide) | exact Or.inr (by decide) | exact Or.inr (by omega)), (by first | omega | decide | exact Or.inl (by decide) | exact Or.inr (by decide) | exact Or.inr (by omega)), (by first | omega | decide | exact Or.inl (by decide) | exact Or.inr (by decide) | exact Or.inr (by omega)), (by first | omega | decide | exact Or.inl (by decide) | exact Or.inr (by decide) | exact Or.inr (by omega)), (by first | omega | decide | exact Or.inl (by decide) | exact Or.inr (by decide) | exact Or.inr (by omega)), hI, hF⟩, by rw [ht]; exact hP, va_K.moved hW.alike hK, hD⟩)
  · have c1 := j_nle (a := 9261) (b := f4_blockCount.toInt) (by decide +kernel) rfl c1
    refine lv_aload_n hx hb dX4_appendBlock_10 rfl (lv_at hl 0 rfl) ?_
    refine gf (k := 1) hx hb hts inX4 hown hK hP k_206 rfl (by decide) rfl 29 rfl (.ref (ad 30)) rfl dX4_appendBlock_11 ?_
    refine lv_aload_n hx hb dX4_appendBlock_14 rfl (lv_at hl 0 rfl) ?_
    refine gf (k := 8) hx hb hts inX4 hown hK hP k_213 rfl (by decide) rfl 29 rfl (.int f4_blockCount) rfl dX4_appendBlock_15 ?_
    refine lv_iload_n hx hb dX4_appendBlock_18 rfl (lv_at hl 1 rfl) ?_
    refine va_iast hx hb hK hP hD hS 30 0 rfl rfl (j_in (a := f4_blockCount.toInt) rfl (by omega) (by omega)) dX4_appendBlock_19 (fun H_1 locs_1 hP_1 hD_1 hS_1 => ?_)
    obtain ⟨ai2, e_ai2⟩ : ∃ q : Nat → Nat → Int32, q = va_up ai 30 (upd (ai 30) f4_blockCount.toNatClampNeg x1) := ⟨_, rfl⟩
    have hF_2 := FR_st hF e_ai2 (by decide)
    have hI_3 : IAX ai2 := by rw [e_ai2]; exact hI
    have hP_4 : va_P (dC, dI) vwCl (WX cI cJ cII cJJ ad f3_unknowns f3_equations f2_roundSupports f2_stale f7_size f1_size f5_keptSize f5_aheadSize f0_solved f4_blockCount f4_blockLength f4_lastIsFree f4_stale ai2 al w0 w1 w2 w3) H_1 := by rw [e_ai2]; exact hP_1
    have hD_5 : va_D A (WX cI cJ cII cJJ ad f3_unknowns f3_equations f2_roundSupports f2_stale f7_size f1_size f5_keptSize f5_aheadSize f0_solved f4_blockCount f4_blockLength f4_lastIsFree f4_stale ai2 al w0 w1 w2 w3) := by rw [e_ai2]; exact hD_1
    have tk_ai2_33_0 : (ai2 33 0).toInt = (ai 33 0).toInt := by rw [e_ai2]; rfl
    have tk_ai2_33_1 : (ai2 33 1).toInt = (ai 33 1).toInt := by rw [e_ai2]; rfl
    have tk_ai2_33_2 : (ai2 33 2).toInt = (ai 33 2).toInt := by rw [e_ai2]; rfl
    have tk_ai2_33_3 : (ai2 33 3).toInt = (ai 33 3).toInt := by rw [e_ai2]; rfl
    refine lv_aload_n hx hb dX4_appendBlock_20 rfl (lv_at hl 0 rfl) ?_
    refine lv_dup hx hb dX4_appendBlock_21 rfl ?_
    refine gf (k := 8) hx hb hts inX4 hown hK hP_4 k_213 rfl (by decide) rfl 29 rfl (.int f4_blockCount) rfl dX4_appendBlock_22 ?_
    refine lv_iconst (v := 1) hx hb dX4_appendBlock_25 (by decide) ?_
    refine v_iadd hx hb dX4_appendBlock_26 _ rfl ?_
    refine lv_topi (fun z3 e_z3 => ?_)
    have g_z3 : z3.toInt = f4_blockCount.toInt + 1 := by rw [e_z3]; exact n_add (a := f4_blockCount.toInt) (b := 1) rfl (by decide +kernel) (by omega) (by omega)
    refine pf (k := 8) hx hb hts inX4 tyX4_ok nmX4 hown hK hP_4 hD_5 hS_1 k_213 rfl (by decide) rfl rfl 29 rfl rfl rfl (Nat.le_of_ble_eq_true rfl) dX4_appendBlock_27 (W' := (WX cI cJ cII cJJ ad f3_unknowns f3_equations f2_roundSupports f2_stale f7_size f1_size f5_keptSize f5_aheadSize f0_solved z3 f4_blockLength f4_lastIsFree f4_stale ai2 al w0 w1 w2 w3)) rfl (fun H_6 locs_6 hP_6 hD_6 hS_6 => ?_)
    exact r2_v hx hb hr hk hS_6 dX4_appendBlock_30 (fun t ht hW => ⟨z3, ai2, ⟨(by first | omega | decide | exact Or.inl (by decide) | exact Or.inr (by decide) | exact Or.inr (by omega)), (by first | omega | decide | exact Or.inl (by decide) | exact Or.inr (by decide) | exact Or.inr (by omega)), (by first | omega | decide | exact Or.inl (by decide) | exact Or.inr (by decide) | exact Or.inr (by omega)), (by first | omega | decide | exact Or.inl (by decide) | exact Or.inr (by decide) | exact Or.inr (by omega)), (by first | omega | decide | exact Or.inl (by decide) | exact Or.inr (by decide) | exact Or.inr (by omega)), hI_3, hF_2⟩, by rw [ht]; exact hP_6, va_K.moved hW.alike hK, hD_6⟩)
def Q_m073_X4_findSums (dC : Nat → ClassId) (dI : Nat → Nat → Nat) (cI cJ cII cJJ : ClassId) (ad : Nat → Nat) (f3_unknowns f3_equations f2_roundSupports f2_stale f7_size f1_size f5_keptSize f5_aheadSize f0_solved f4_blockCount f4_blockLength f4_lastIsFree f4_stale : Int32) (ai0 : Nat → Nat → Int32) (al : Nat → Nat → Int64) (w0 w1 w2 w3 : Nat) : (Nat → Prop) → Array Value → State → Outcome → State → Prop := fun A => QV (fun t => ∃ (n_ai : Nat → Nat → Int32), (IAX n_ai ∧ FR [35, 41, 42, 43, 44, 45, 47, 48, 49, 50, 51] ai0 n_ai) ∧ WO dC dI (TY cI cJ cII cJJ) (WX cI cJ cII cJJ ad f3_unknowns f3_equations f2_roundSupports f2_stale f7_size f1_size f5_keptSize f5_aheadSize f0_solved f4_blockCount f4_blockLength f4_lastIsFree f4_stale n_ai al w0 w1 w2 w3) A t) A
set_option maxRecDepth 100000 in
set_option maxHeartbeats 4000000 in
theorem m073_X4_findSums_b70 {p : Program} {l : Launch} {e : Env} {s : State} {m : MethodId} {args : Array Value} {below : List Frame} {meth : Method} {c : Code} {A : Nat → Prop} {dC : Nat → ClassId} {dI : Nat → Nat → Nat} {cI cJ cII cJJ : ClassId} {ad : Nat → Nat} {g : Nat} {f3_unknowns f3_equations f2_roundSupports f2_stale f7_size f1_size f5_keptSize f5_aheadSize f0_solved f4_blockCount f4_blockLength f4_lastIsFree f4_stale : Int32} {ai0 : Nat → Nat → Int32} {al : Nat → Nat → Int64} {w0 w1 w2 w3 : Nat} (C : Cx p c s m meth args A dC dI (TY cI cJ cII cJJ) cX4_findSums none 5 RX4 0 g) (n2 : Nat) (K2 : ∀ (L1 : Int32) (ai : Nat → Nat → Int32) (H : Heap) (locs : List Loc) (ls : Array Slot), (0 ≤ L1.toInt ∧ L1.toInt ≤ 3) → (1 ≤ f3_unknowns.toInt ∧ f3_unknowns.toInt ≤ 4) → (0 ≤ f3_equations.toInt ∧ f3_equations.toInt ≤ 3) → (0 ≤ f2_stale.toInt ∧ f2_stale.toInt ≤ 1) → (0 ≤ f7_size.toInt ∧ f7_size.toInt ≤ 256) → (0 ≤ f1_size.toInt ∧ f1_size.toInt ≤ 4) → (0 ≤ f5_keptSize.toInt ∧ f5_keptSize.toInt ≤ 128) → (0 ≤ f5_aheadSize.toInt ∧ f5_aheadSize.toInt ≤ 128) → (0 ≤ f4_blockCount.toInt ∧ f4_blockCount.toInt ≤ 9261) → (0 ≤ f4_blockLength.toInt ∧ f4_blockLength.toInt ≤ 21) → (0 ≤ f4_lastIsFree.toInt ∧ f4_lastIsFree.toInt ≤ 1) → (0 ≤ f4_stale.toInt ∧ f4_stale.toInt ≤ 1) → f3_equations.toInt - L1.toInt < (n2 : Int) → (0 : Int) < (n2 : Int) → IAX ai → FR [35, 41, 42, 43, 44, 45, 47, 48, 49, 50, 51] ai0 ai → RWX ad w0 → RWX ad w1 → RWX ad w2 → RWX ad w3 → va_P (dC, dI) vwCl (WX cI cJ cII cJJ ad f3_unknowns f3_equations f2_roundSupports f2_stale f7_size f1_size f5_keptSize f5_aheadSize f0_solved f4_blockCount f4_blockLength f4_lastIsFree f4_stale ai al w0 w1 w2 w3) H → va_D A (WX cI cJ cII cJJ ad f3_unknowns f3_equations f2_roundSupports f2_stale f7_size f1_size f5_keptSize f5_aheadSize f0_solved f4_blockCount f4_blockLength f4_lastIsFree f4_stale ai al w0 w1 w2 w3) → va_S A s.heap H locs → lv_has ls 5 [(0, .ref (ad 29)), (1, .int L1)] → W p l e ({ frames := 2, cells := 0, slots := 0, locals := 80 } : Room) s m args below meth c H locs 0 0 (MQ below (Q_m073_X4_findSums dC dI cI cJ cII cJJ ad f3_unknowns f3_equations f2_roundSupports f2_stale f7_size f1_size f5_keptSize f5_aheadSize f0_solved f4_blockCount f4_blockLength f4_lastIsFree f4_stale ai0 al w0 w1 w2 w3 A) args s 0 0 A) (F0 m 2 ls [])) : ∀ (n : Nat), ∀ (L1 L2 : Int32) (ai : Nat → Nat → Int32) (H : Heap) (locs : List Loc) (ls : Array Slot), (0 ≤ L1.toInt ∧ L1.toInt ≤ 2) → (-1 ≤ L2.toInt ∧ L2.toInt ≤ 3) → (1 ≤ f3_unknowns.toInt ∧ f3_unknowns.toInt ≤ 4) → (1 ≤ f3_equations.toInt ∧ f3_equations.toInt ≤ 3) → (0 ≤ f2_stale.toInt ∧ f2_stale.toInt ≤ 1) → (0 ≤ f7_size.toInt ∧ f7_size.toInt ≤ 256) → (0 ≤ f1_size.toInt ∧ f1_size.toInt ≤ 4) → (0 ≤ f5_keptSize.toInt ∧ f5_keptSize.toInt ≤ 128) → (0 ≤ f5_aheadSize.toInt ∧ f5_aheadSize.toInt ≤ 128) → (0 ≤ f4_blockCount.toInt ∧ f4_blockCount.toInt ≤ 9261) → (0 ≤ f4_blockLength.toInt ∧ f4_blockLength.toInt ≤ 21) → (0 ≤ f4_lastIsFree.toInt ∧ f4_lastIsFree.toInt ≤ 1) → (0 ≤ f4_stale.toInt ∧ f4_stale.toInt ≤ 1) → L1.toInt < f3_equations.toInt → f3_equations.toInt - L1.toInt ≤ (n2 : Int) → L2.toInt + 1 < (n : Int) → (0 : Int) < (n : Int) → IAX ai → FR [35, 41, 42, 43, 44, 45, 47, 48, 49, 50, 51] ai0 ai → RWX ad w0 → RWX ad w1 → RWX ad w2 → RWX ad w3 → va_P (dC, dI) vwCl (WX cI cJ cII cJJ ad f3_unknowns f3_equations f2_roundSupports f2_stale f7_size f1_size f5_keptSize f5_aheadSize f0_solved f4_blockCount f4_blockLength f4_lastIsFree f4_stale ai al w0 w1 w2 w3) H → va_D A (WX cI cJ cII cJJ ad f3_unknowns f3_equations f2_roundSupports f2_stale f7_size f1_size f5_keptSize f5_aheadSize f0_solved f4_blockCount f4_blockLength f4_lastIsFree f4_stale ai al w0 w1 w2 w3) → va_S A s.heap H locs → lv_has ls 5 [(0, .ref (ad 29)), (1, .int L1), (2, .int L2)] → W p l e ({ frames := 2, cells := 0, slots := 0, locals := 80 } : Room) s m args below meth c H locs 0 0 (MQ below (Q_m073_X4_findSums dC dI cI cJ cII cJJ ad f3_unknowns f3_equations f2_roundSupports f2_stale f7_size f1_size f5_keptSize f5_aheadSize f0_solved f4_blockCount f4_blockLength f4_lastIsFree f4_stale ai0 al w0 w1 w2 w3 A) args s 0 0 A) (F0 m 70 ls []) := by
  obtain ⟨hx, hb, hr, hml, hown, hts, hk, hA, hK, hX⟩ := id C
  intro n
  induction n with
  | zero =>
    intro L1 L2 ai H locs ls h0 h1 h2 h3 h4 h5 h6 h7 h8 h9 h10 h11 h12 h13 h14 h15 h16 hI hF hw_w0 hw_w1 hw_w2 hw_w3 hP hD hS hl
    exact absurd h16 (by omega)
  | succ n ih =>
    intro L1 L2 ai H locs ls h0 h1 h2 h3 h4 h5 h6 h7 h8 h9 h10 h11 h12 h13 h14 h15 h16 hI hF hw_w0 hw_w1 hw_w2 hw_w3 hP hD hS hl
    refine lv_iload_n hx hb dX4_findSums_70 rfl (lv_at hl 2 rfl) ?_
    refine lv_if_lt (tgt := 175) hx hb dX4_findSums_71 (by decide) (fun c1 => ?_) (fun c1 => ?_)
    · have c1 := j_lt (a := L2.toInt) (b := 0) rfl (by decide +kernel) c1
      obtain ⟨z2, e_z2⟩ : ∃ q : Int32, q = L1 + Int32.ofInt 1 := ⟨_, rfl⟩
      have g_z2 : z2.toInt = L1.toInt + 1 := by rw [e_z2]; exact n_add (a := L1.toInt) (b := 1) rfl (by decide +kernel) (by omega) (by omega)
      refine lv_iinc (v := z2) (lv' := [(1, .int z2), (0, .ref (ad 29)), (2, .int L2)]) hx hb dX4_findSums_175 hl (k := 1) rfl e_z2.symm (by decide) rfl (fun ls_1 hl_1 => ?_)
      refine lv_goto (tgt := 2) hx hb dX4_findSums_178 (by decide) ?_
      exact K2 z2 ai _ _ _ (by omega) (by omega) (by omega) (by omega) (by omega) (by omega) (by omega) (by omega) (by omega) (by omega) (by omega) (by omega) (by omega) (by omega) hI hF hw_w0 hw_w1 hw_w2 hw_w3 hP hD hS (lv_sub hl_1 [1, 0] rfl)
    · have c1 := j_nlt (a := L2.toInt) (b := 0) rfl (by decide +kernel) c1
      refine lv_aload_n hx hb dX4_findSums_74 rfl (lv_at hl 0 rfl) ?_
      refine gf (k := 0) hx hb hts inX4 hown hK hP k_205 rfl (by decide) rfl 29 rfl (.ref (ad 6)) rfl dX4_findSums_75 ?_
      refine gf (k := 2) hx hb hts inX3 hown hK hP k_52 rfl (by decide) rfl 6 rfl (.ref (ad 1)) rfl dX4_findSums_78 ?_
      refine lv_iload_n hx hb dX4_findSums_81 rfl (lv_at hl 1 rfl) ?_
      rcases (show L1 = 0 ∨ L1 = 1 ∨ L1 = 2 from j_cases3 (a := L1.toInt) rfl (by omega) (by omega)) with rfl | rfl | rfl
      · have k9 : (0 : Int32).toInt = 0 := by decide +kernel
        refine ld_a hx hb hK hP 1 2 rfl rfl (vin (by decide +kernel)) dX4_findSums_82 (ad 2) rfl ?_
        refine lv_iload_n hx hb dX4_findSums_83 rfl (lv_at hl 2 rfl) ?_
        refine va_iald hx hb hK hP 2 0 rfl rfl (j_in (a := L2.toInt) rfl (by omega) (by omega)) dX4_findSums_84 ?_
        refine lv_topi (fun z3 e_z3 => ?_)
        have g_z3 : -6 ≤ z3.toInt ∧ z3.toInt ≤ 6 := by rw [e_z3]; exact IAX_at2 hI _
        refine lv_aload_n hx hb dX4_findSums_85 rfl (lv_at hl 0 rfl) ?_
        refine gf (k := 0) hx hb hts inX4 hown hK hP k_205 rfl (by decide) rfl 29 rfl (.ref (ad 6)) rfl dX4_findSums_86 ?_
        refine gf (k := 4) hx hb hts inX3 hown hK hP k_57 rfl (by decide) rfl 6 rfl (.ref (ad 7)) rfl dX4_findSums_89 ?_
        refine lv_iload_n hx hb dX4_findSums_92 rfl (lv_at hl 2 rfl) ?_
        refine va_iald hx hb hK hP 7 0 rfl rfl (j_in (a := L2.toInt) rfl (by omega) (by omega)) dX4_findSums_93 ?_
        refine lv_topi (fun z4 e_z4 => ?_)
        have g_z4 : -10 ≤ z4.toInt ∧ z4.toInt ≤ 10 := by rw [e_z4]; exact IAX_at7 hI _
        refine v_imul hx hb dX4_findSums_94 _ rfl ?_
        refine lv_topi (fun z5 e_z5 => ?_)
        refine lv_istore_n (lv' := [(3, .int z5), (0, .ref (ad 29)), (1, .int 0), (2, .int L2)]) hx hb dX4_findSums_95 rfl hl (by decide) rfl (fun ls_2 hl_2 => ?_)
        refine lv_aload_n hx hb dX4_findSums_96 rfl (lv_at hl_2 1 rfl) ?_
        refine gf (k := 0) hx hb hts inX4 hown hK hP k_205 rfl (by decide) rfl 29 rfl (.ref (ad 6)) rfl dX4_findSums_97 ?_
        refine gf (k := 2) hx hb hts inX3 hown hK hP k_52 rfl (by decide) rfl 6 rfl (.ref (ad 1)) rfl dX4_findSums_100 ?_
        refine lv_iload_n hx hb dX4_findSums_103 rfl (lv_at hl_2 2 rfl) ?_
        refine ld_a hx hb hK hP 1 2 rfl rfl (vin (by decide +kernel)) dX4_findSums_104 (ad 2) rfl ?_
        refine lv_iload_n hx hb dX4_findSums_105 rfl (lv_at hl_2 3 rfl) ?_
        refine va_iald hx hb hK hP 2 0 rfl rfl (j_in (a := L2.toInt) rfl (by omega) (by omega)) dX4_findSums_106 ?_
        refine lv_topi (fun z6 e_z6 => ?_)
        have g_z6 : -6 ≤ z6.toInt ∧ z6.toInt ≤ 6 := by rw [e_z6]; exact IAX_at2 hI _
        refine lv_aload_n hx hb dX4_findSums_107 rfl (lv_at hl_2 1 rfl) ?_
        refine gf (k := 0) hx hb hts inX4 hown hK hP k_205 rfl (by decide) rfl 29 rfl (.ref (ad 6)) rfl dX4_findSums_108 ?_
        refine gf (k := 5) hx hb hts inX3 hown hK hP k_61 rfl (by decide) rfl 6 rfl (.ref (ad 8)) rfl dX4_findSums_111 ?_
        refine lv_iload_n hx hb dX4_findSums_114 rfl (lv_at hl_2 3 rfl) ?_
        refine va_iald hx hb hK hP 8 0 rfl rfl (j_in (a := L2.toInt) rfl (by omega) (by omega)) dX4_findSums_115 ?_
        refine lv_topi (fun z7 e_z7 => ?_)
        have g_z7 : -10 ≤ z7.toInt ∧ z7.toInt ≤ 10 := by rw [e_z7]; exact IAX_at8 hI _
        refine v_imul hx hb dX4_findSums_116 _ rfl ?_
        refine lv_topi (fun z8 e_z8 => ?_)
        refine lv_istore (lv' := [(4, .int z8), (3, .int z5), (0, .ref (ad 29)), (1, .int 0), (2, .int L2)]) hx hb dX4_findSums_117 hl_2 (by decide) rfl (fun ls_3 hl_3 => ?_)
        refine lv_aload_n hx hb dX4_findSums_119 rfl (lv_at hl_3 2 rfl) ?_
        refine gf (k := 6) hx hb hts inX4 hown hK hP k_211 rfl (by decide) rfl 29 rfl (.ref (ad 40)) rfl dX4_findSums_120 ?_
        refine lv_iload_n hx hb dX4_findSums_123 rfl (lv_at hl_3 4 rfl) ?_
        rcases (show L2 = 0 ∨ L2 = 1 ∨ L2 = 2 ∨ L2 = 3 from j_cases4 (a := L2.toInt) rfl (by omega) (by omega)) with rfl | rfl | rfl | rfl
        · have k9 : (0 : Int32).toInt = 0 := by decide +kernel
          refine ld_a hx hb hK hP 40 2 rfl rfl (vin (by decide +kernel)) dX4_findSums_124 (ad 41) rfl ?_
          refine lv_iload_n hx hb dX4_findSums_125 rfl (lv_at hl_3 3 rfl) ?_
          refine lv_aload_n hx hb dX4_findSums_126 rfl (lv_at hl_3 2 rfl) ?_
          refine gf (k := 6) hx hb hts inX4 hown hK hP k_211 rfl (by decide) rfl 29 rfl (.ref (ad 40)) rfl dX4_findSums_127 ?_
          refine lv_iload_n hx hb dX4_findSums_130 rfl (lv_at hl_3 4 rfl) ?_
          refine lv_iconst (v := 1) hx hb dX4_findSums_131 (by decide) ?_
          refine v_iadd hx hb dX4_findSums_132 1 (by decide +kernel) ?_
          refine ld_a hx hb hK hP 40 2 rfl rfl (vin (by decide +kernel)) dX4_findSums_133 (ad 42) rfl ?_
          refine lv_iload_n hx hb dX4_findSums_134 rfl (lv_at hl_3 3 rfl) ?_
          refine va_iald hx hb hK hP 42 0 rfl rfl (vin (by decide +kernel)) dX4_findSums_135 ?_
          refine lv_topi (fun z9 e_z9 => ?_)
          have k_z9 : z9.toInt = (ai 42 0).toInt := by rw [e_z9]; rfl
          refine lv_iload_n hx hb dX4_findSums_136 rfl (lv_at hl_3 1 rfl) ?_
          refine lv_iload hx hb dX4_findSums_137 (lv_at hl_3 0 rfl) ?_
          refine va_mmin hx hb (by rw [hml]; exact hl_3.1.symm) hown (hts _ k_672) (hts _ k_464) (hts _ k_13) (hts _ k_465) (by decide) (Nat.le_of_ble_eq_true rfl) (Nat.le_of_ble_eq_true rfl) (Nat.le_of_ble_eq_true rfl) dX4_findSums_139 ?_
          refine lv_topi (fun z10 e_z10 => ?_)
          have g_z10 : (z10.toInt = z5.toInt ∨ z10.toInt = z8.toInt) ∧ z5.toInt ≥ z10.toInt ∧ z8.toInt ≥ z10.toInt := by rw [e_z10]; exact n_min (a := z5.toInt) (b := z8.toInt) rfl rfl
          refine v_iadd hx hb dX4_findSums_142 _ rfl ?_
          refine lv_topi (fun z11 e_z11 => ?_)
          refine va_iast hx hb hK hP hD hS 41 0 rfl rfl (vin (by decide +kernel)) dX4_findSums_143 (fun H_4 locs_4 hP_4 hD_4 hS_4 => ?_)
          obtain ⟨ai12, e_ai12⟩ : ∃ q : Nat → Nat → Int32, q = va_up ai 41 (upd (ai 41) (0 : Int32).toNatClampNeg z11) := ⟨_, rfl⟩
          have hF_5 := FR_st hF e_ai12 (by decide)
          have hI_6 : IAX ai12 := by rw [e_ai12]; exact hI
          have hP_7 : va_P (dC, dI) vwCl (WX cI cJ cII cJJ ad f3_unknowns f3_equations f2_roundSupports f2_stale f7_size f1_size f5_keptSize f5_aheadSize f0_solved f4_blockCount f4_blockLength f4_lastIsFree f4_stale ai12 al w0 w1 w2 w3) H_4 := by rw [e_ai12]; exact hP_4
          have hD_8 : va_D A (WX cI cJ cII cJJ ad f3_unknowns f3_equations f2_roundSupports f2_stale f7_size f1_size f5_keptSize f5_aheadSize f0_solved f4_blockCount f4_blockLength f4_lastIsFree f4_stale ai12 al w0 w1 w2 w3) := by rw [e_ai12]; exact hD_4
          refine lv_aload_n hx hb dX4_findSums_144 rfl (lv_at hl_3 2 rfl) ?_
          refine gf (k := 7) hx hb hts inX4 hown hK hP_7 k_212 rfl (by decide) rfl 29 rfl (.ref (ad 46)) rfl dX4_findSums_145 ?_
          refine lv_iload_n hx hb dX4_findSums_148 rfl (lv_at hl_3 4 rfl) ?_
          refine ld_a hx hb hK hP_7 46 2 rfl rfl (vin (by decide +kernel)) dX4_findSums_149 (ad 47) rfl ?_
          refine lv_iload_n hx hb dX4_findSums_150 rfl (lv_at hl_3 3 rfl) ?_
          refine lv_aload_n hx hb dX4_findSums_151 rfl (lv_at hl_3 2 rfl) ?_
          refine gf (k := 7) hx hb hts inX4 hown hK hP_7 k_212 rfl (by decide) rfl 29 rfl (.ref (ad 46)) rfl dX4_findSums_152 ?_
          refine lv_iload_n hx hb dX4_findSums_155 rfl (lv_at hl_3 4 rfl) ?_
          refine lv_iconst (v := 1) hx hb dX4_findSums_156 (by decide) ?_
          refine v_iadd hx hb dX4_findSums_157 1 (by decide +kernel) ?_
          refine ld_a hx hb hK hP_7 46 2 rfl rfl (vin (by decide +kernel)) dX4_findSums_158 (ad 48) rfl ?_
          refine lv_iload_n hx hb dX4_findSums_159 rfl (lv_at hl_3 3 rfl) ?_
          refine va_iald hx hb hK hP_7 48 0 rfl rfl (vin (by decide +kernel)) dX4_findSums_160 ?_
          refine lv_topi (fun z13 e_z13 => ?_)
          have k_z13 : z13.toInt = (ai12 48 0).toInt := by rw [e_z13]; rfl
          refine lv_iload_n hx hb dX4_findSums_161 rfl (lv_at hl_3 1 rfl) ?_
          refine lv_iload hx hb dX4_findSums_162 (lv_at hl_3 0 rfl) ?_
          refine va_mmax hx hb (by rw [hml]; exact hl_3.1.symm) hown (hts _ k_667) (hts _ k_445) (hts _ k_13) (hts _ k_446) (by decide) (Nat.le_of_ble_eq_true rfl) (Nat.le_of_ble_eq_true rfl) (Nat.le_of_ble_eq_true rfl) dX4_findSums_164 ?_
          refine lv_topi (fun z14 e_z14 => ?_)
          have g_z14 : (z14.toInt = z5.toInt ∨ z14.toInt = z8.toInt) ∧ z5.toInt ≤ z14.toInt ∧ z8.toInt ≤ z14.toInt := by rw [e_z14]; exact n_max (a := z5.toInt) (b := z8.toInt) rfl rfl
          refine v_iadd hx hb dX4_findSums_167 _ rfl ?_
          refine lv_topi (fun z15 e_z15 => ?_)
          refine va_iast hx hb hK hP_7 hD_8 hS_4 47 0 rfl rfl (vin (by decide +kernel)) dX4_findSums_168 (fun H_9 locs_9 hP_9 hD_9 hS_9 => ?_)
          obtain ⟨ai16, e_ai16⟩ : ∃ q : Nat → Nat → Int32, q = va_up ai12 47 (upd (ai12 47) (0 : Int32).toNatClampNeg z15) := ⟨_, rfl⟩
          have hF_10 := FR_st hF_5 e_ai16 (by decide)
          have hI_11 : IAX ai16 := by rw [e_ai16]; exact hI_6
          have hP_12 : va_P (dC, dI) vwCl (WX cI cJ cII cJJ ad f3_unknowns f3_equations f2_roundSupports f2_stale f7_size f1_size f5_keptSize f5_aheadSize f0_solved f4_blockCount f4_blockLength f4_lastIsFree f4_stale ai16 al w0 w1 w2 w3) H_9 := by rw [e_ai16]; exact hP_9
          have hD_13 : va_D A (WX cI cJ cII cJJ ad f3_unknowns f3_equations f2_roundSupports f2_stale f7_size f1_size f5_keptSize f5_aheadSize f0_solved f4_blockCount f4_blockLength f4_lastIsFree f4_stale ai16 al w0 w1 w2 w3) := by rw [e_ai16]; exact hD_9
          obtain ⟨z17, e_z17⟩ : ∃ q : Int32, q = 0 + Int32.ofInt (-1) := ⟨_, rfl⟩
          have g_z17 : z17.toInt = 0 + (-1) := by rw [e_z17]; exact n_add (a := 0) (b := (-1)) (by decide +kernel) (by decide +kernel) (by omega) (by omega)
          refine lv_iinc (v := z17) (lv' := [(2, .int z17), (4, .int z8), (3, .int z5), (0, .ref (ad 29)), (1, .int 0)]) hx hb dX4_findSums_169 hl_3 (k := 4) rfl e_z17.symm (by decide) rfl (fun ls_14 hl_14 => ?_)
          refine lv_goto (tgt := 70) hx hb dX4_findSums_172 (by decide) ?_
          exact ih 0 z17 ai16 _ _ _ (by first | omega | decide | (have ka0 := (by decide +kernel : (0 : Int32).toInt = 0); omega)) (by first | omega | decide | (have ka0 := (by decide +kernel : (0 : Int32).toInt = 0); omega)) (by first | omega | decide | (have ka0 := (by decide +kernel : (0 : Int32).toInt = 0); omega)) (by first | omega | decide | (have ka0 := (by decide +kernel : (0 : Int32).toInt = 0); omega)) (by first | omega | decide | (have ka0 := (by decide +kernel : (0 : Int32).toInt = 0); omega)) (by first | omega | decide | (have ka0 := (by decide +kernel : (0 : Int32).toInt = 0); omega)) (by first | omega | decide | (have ka0 := (by decide +kernel : (0 : Int32).toInt = 0); omega)) (by first | omega | decide | (have ka0 := (by decide +kernel : (0 : Int32).toInt = 0); omega)) (by first | omega | decide | (have ka0 := (by decide +kernel : (0 : Int32).toInt = 0); omega)) (by first | omega | decide | (have ka0 := (by decide +kernel : (0 : Int32).toInt = 0); omega)) (by first | omega | decide | (have ka0 := (by decide +kernel : (0 : Int32).toInt = 0); omega)) (by first | omega | decide | (have ka0 := (by decide +kernel : (0 : Int32).toInt = 0); omega)) (by first | omega | decide | (have ka0 := (by decide +kernel : (0 : Int32).toInt = 0); omega)) (by first | omega | decide | (have ka0 := (by decide +kernel : (0 : Int32).toInt = 0); omega)) (by first | omega | decide | (have ka0 := (by decide +kernel : (0 : Int32).toInt = 0); omega)) (by first | omega | decide | (have ka0 := (by decide +kernel : (0 : Int32).toInt = 0); omega)) (by first | omega | decide | (have ka0 := (by decide +kernel : (0 : Int32).toInt = 0); omega)) hI_11 hF_10 hw_w0 hw_w1 hw_w2 hw_w3 hP_12 hD_13 hS_9 (lv_sub hl_14 [3, 4, 0] rfl)
        · have k9 : (1 : Int32).toInt = 1 := by decide +kernel
          refine ld_a hx hb hK hP 40 2 rfl rfl (vin (by decide +kernel)) dX4_findSums_124 (ad 42) rfl ?_
          refine lv_iload_n hx hb dX4_findSums_125 rfl (lv_at hl_3 3 rfl) ?_
          refine lv_aload_n hx hb dX4_findSums_126 rfl (lv_at hl_3 2 rfl) ?_
          refine gf (k := 6) hx hb hts inX4 hown hK hP k_211 rfl (by decide) rfl 29 rfl (.ref (ad 40)) rfl dX4_findSums_127 ?_
          refine lv_iload_n hx hb dX4_findSums_130 rfl (lv_at hl_3 4 rfl) ?_
          refine lv_iconst (v := 1) hx hb dX4_findSums_131 (by decide) ?_
          refine v_iadd hx hb dX4_findSums_132 2 (by decide +kernel) ?_
          refine ld_a hx hb hK hP 40 2 rfl rfl (vin (by decide +kernel)) dX4_findSums_133 (ad 43) rfl ?_
          refine lv_iload_n hx hb dX4_findSums_134 rfl (lv_at hl_3 3 rfl) ?_
          refine va_iald hx hb hK hP 43 0 rfl rfl (vin (by decide +kernel)) dX4_findSums_135 ?_
          refine lv_topi (fun z18 e_z18 => ?_)
          have k_z18 : z18.toInt = (ai 43 0).toInt := by rw [e_z18]; rfl
          refine lv_iload_n hx hb dX4_findSums_136 rfl (lv_at hl_3 1 rfl) ?_
          refine lv_iload hx hb dX4_findSums_137 (lv_at hl_3 0 rfl) ?_
          refine va_mmin hx hb (by rw [hml]; exact hl_3.1.symm) hown (hts _ k_672) (hts _ k_464) (hts _ k_13) (hts _ k_465) (by decide) (Nat.le_of_ble_eq_true rfl) (Nat.le_of_ble_eq_true rfl) (Nat.le_of_ble_eq_true rfl) dX4_findSums_139 ?_
          refine lv_topi (fun z19 e_z19 => ?_)
          have g_z19 : (z19.toInt = z5.toInt ∨ z19.toInt = z8.toInt) ∧ z5.toInt ≥ z19.toInt ∧ z8.toInt ≥ z19.toInt := by rw [e_z19]; exact n_min (a := z5.toInt) (b := z8.toInt) rfl rfl
          refine v_iadd hx hb dX4_findSums_142 _ rfl ?_
          refine lv_topi (fun z20 e_z20 => ?_)
          refine va_iast hx hb hK hP hD hS 42 0 rfl rfl (vin (by decide +kernel)) dX4_findSums_143 (fun H_15 locs_15 hP_15 hD_15 hS_15 => ?_)
          obtain ⟨ai21, e_ai21⟩ : ∃ q : Nat → Nat → Int32, q = va_up ai 42 (upd (ai 42) (0 : Int32).toNatClampNeg z20) := ⟨_, rfl⟩
          have hF_16 := FR_st hF e_ai21 (by decide)
          have hI_17 : IAX ai21 := by rw [e_ai21]; exact hI
          have hP_18 : va_P (dC, dI) vwCl (WX cI cJ cII cJJ ad f3_unknowns f3_equations f2_roundSupports f2_stale f7_size f1_size f5_keptSize f5_aheadSize f0_solved f4_blockCount f4_blockLength f4_lastIsFree f4_stale ai21 al w0 w1 w2 w3) H_15 := by rw [e_ai21]; exact hP_15
          have hD_19 : va_D A (WX cI cJ cII cJJ ad f3_unknowns f3_equations f2_roundSupports f2_stale f7_size f1_size f5_keptSize f5_aheadSize f0_solved f4_blockCount f4_blockLength f4_lastIsFree f4_stale ai21 al w0 w1 w2 w3) := by rw [e_ai21]; exact hD_15
          refine lv_aload_n hx hb dX4_findSums_144 rfl (lv_at hl_3 2 rfl) ?_
          refine gf (k := 7) hx hb hts inX4 hown hK hP_18 k_212 rfl (by decide) rfl 29 rfl (.ref (ad 46)) rfl dX4_findSums_145 ?_
          refine lv_iload_n hx hb dX4_findSums_148 rfl (lv_at hl_3 4 rfl) ?_
          refine ld_a hx hb hK hP_18 46 2 rfl rfl (vin (by decide +kernel)) dX4_findSums_149 (ad 48) rfl ?_
          refine lv_iload_n hx hb dX4_findSums_150 rfl (lv_at hl_3 3 rfl) ?_
          refine lv_aload_n hx hb dX4_findSums_151 rfl (lv_at hl_3 2 rfl) ?_
          refine gf (k := 7) hx hb hts inX4 hown hK hP_18 k_212 rfl (by decide) rfl 29 rfl (.ref (ad 46)) rfl dX4_findSums_152 ?_
          refine lv_iload_n hx hb dX4_findSums_155 rfl (lv_at hl_3 4 rfl) ?_
          refine lv_iconst (v := 1) hx hb dX4_findSums_156 (by decide) ?_
          refine v_iadd hx hb dX4_findSums_157 2 (by decide +kernel) ?_
          refine ld_a hx hb hK hP_18 46 2 rfl rfl (vin (by decide +kernel)) dX4_findSums_158 (ad 49) rfl ?_
          refine lv_iload_n hx hb dX4_findSums_159 rfl (lv_at hl_3 3 rfl) ?_
          refine va_iald hx hb hK hP_18 49 0 rfl rfl (vin (by decide +kernel)) dX4_findSums_160 ?_
          refine lv_topi (fun z22 e_z22 => ?_)
          have k_z22 : z22.toInt = (ai21 49 0).toInt := by rw [e_z22]; rfl
          refine lv_iload_n hx hb dX4_findSums_161 rfl (lv_at hl_3 1 rfl) ?_
          refine lv_iload hx hb dX4_findSums_162 (lv_at hl_3 0 rfl) ?_
          refine va_mmax hx hb (by rw [hml]; exact hl_3.1.symm) hown (hts _ k_667) (hts _ k_445) (hts _ k_13) (hts _ k_446) (by decide) (Nat.le_of_ble_eq_true rfl) (Nat.le_of_ble_eq_true rfl) (Nat.le_of_ble_eq_true rfl) dX4_findSums_164 ?_
          refine lv_topi (fun z23 e_z23 => ?_)
          have g_z23 : (z23.toInt = z5.toInt ∨ z23.toInt = z8.toInt) ∧ z5.toInt ≤ z23.toInt ∧ z8.toInt ≤ z23.toInt := by rw [e_z23]; exact n_max (a := z5.toInt) (b := z8.toInt) rfl rfl
          refine v_iadd hx hb dX4_findSums_167 _ rfl ?_
          refine lv_topi (fun z24 e_z24 => ?_)
          refine va_iast hx hb hK hP_18 hD_19 hS_15 48 0 rfl rfl (vin (by decide +kernel)) dX4_findSums_168 (fun H_20 locs_20 hP_20 hD_20 hS_20 => ?_)
          obtain ⟨ai25, e_ai25⟩ : ∃ q : Nat → Nat → Int32, q = va_up ai21 48 (upd (ai21 48) (0 : Int32).toNatClampNeg z24) := ⟨_, rfl⟩
          have hF_21 := FR_st hF_16 e_ai25 (by decide)
          have hI_22 : IAX ai25 := by rw [e_ai25]; exact hI_17
          have hP_23 : va_P (dC, dI) vwCl (WX cI cJ cII cJJ ad f3_unknowns f3_equations f2_roundSupports f2_stale f7_size f1_size f5_keptSize f5_aheadSize f0_solved f4_blockCount f4_blockLength f4_lastIsFree f4_stale ai25 al w0 w1 w2 w3) H_20 := by rw [e_ai25]; exact hP_20
          have hD_24 : va_D A (WX cI cJ cII cJJ ad f3_unknowns f3_equations f2_roundSupports f2_stale f7_size f1_size f5_keptSize f5_aheadSize f0_solved f4_blockCount f4_blockLength f4_lastIsFree f4_stale ai25 al w0 w1 w2 w3) := by rw [e_ai25]; exact hD_20
          obtain ⟨z26, e_z26⟩ : ∃ q : Int32, q = 1 + Int32.ofInt (-1) := ⟨_, rfl⟩
          have g_z26 : z26.toInt = 1 + (-1) := by rw [e_z26]; exact n_add (a := 1) (b := (-1)) (by decide +kernel) (by decide +kernel) (by omega) (by omega)
          refine lv_iinc (v := z26) (lv' := [(2, .int z26), (4, .int z8), (3, .int z5), (0, .ref (ad 29)), (1, .int 0)]) hx hb dX4_findSums_169 hl_3 (k := 4) rfl e_z26.symm (by decide) rfl (fun ls_25 hl_25 => ?_)
          refine lv_goto (tgt := 70) hx hb dX4_findSums_172 (by decide) ?_
          exact ih 0 z26 ai25 _ _ _ (by first | omega | decide | (have ka0 := (by decide +kernel : (0 : Int32).toInt = 0); omega)) (by first | omega | decide | (have ka0 := (by decide +kernel : (0 : Int32).toInt = 0); omega)) (by first | omega | decide | (have ka0 := (by decide +kernel : (0 : Int32).toInt = 0); omega)) (by first | omega | decide | (have ka0 := (by decide +kernel : (0 : Int32).toInt = 0); omega)) (by first | omega | decide | (have ka0 := (by decide +kernel : (0 : Int32).toInt = 0); omega)) (by first | omega | decide | (have ka0 := (by decide +kernel : (0 : Int32).toInt = 0); omega)) (by first | omega | decide | (have ka0 := (by decide +kernel : (0 : Int32).toInt = 0); omega)) (by first | omega | decide | (have ka0 := (by decide +kernel : (0 : Int32).toInt = 0); omega)) (by first | omega | decide | (have ka0 := (by decide +kernel : (0 : Int32).toInt = 0); omega)) (by first | omega | decide | (have ka0 := (by decide +kernel : (0 : Int32).toInt = 0); omega)) (by first | omega | decide | (have ka0 := (by decide +kernel : (0 : Int32).toInt = 0); omega)) (by first | omega | decide | (have ka0 := (by decide +kernel : (0 : Int32).toInt = 0); omega)) (by first | omega | decide | (have ka0 := (by decide +kernel : (0 : Int32).toInt = 0); omega)) (by first | omega | decide | (have ka0 := (by decide +kernel : (0 : Int32).toInt = 0); omega)) (by first | omega | decide | (have ka0 := (by decide +kernel : (0 : Int32).toInt = 0); omega)) (by first | omega | decide | (have ka0 := (by decide +kernel : (0 : Int32).toInt = 0); omega)) (by first | omega | decide | (have ka0 := (by decide +kernel : (0 : Int32).toInt = 0); omega)) hI_22 hF_21 hw_w0 hw_w1 hw_w2 hw_w3 hP_23 hD_24 hS_20 (lv_sub hl_25 [3, 4, 0] rfl)
        · have k9 : (2 : Int32).toInt = 2 := by decide +kernel
          refine ld_a hx hb hK hP 40 2 rfl rfl (vin (by decide +kernel)) dX4_findSums_124 (ad 43) rfl ?_
          refine lv_iload_n hx hb dX4_findSums_125 rfl (lv_at hl_3 3 rfl) ?_
          refine lv_aload_n hx hb dX4_findSums_126 rfl (lv_at hl_3 2 rfl) ?_
          refine gf (k := 6) hx hb hts inX4 hown hK hP k_211 rfl (by decide) rfl 29 rfl (.ref (ad 40)) rfl dX4_findSums_127 ?_
          refine lv_iload_n hx hb dX4_findSums_130 rfl (lv_at hl_3 4 rfl) ?_
          refine lv_iconst (v := 1) hx hb dX4_findSums_131 (by decide) ?_
          refine v_iadd hx hb dX4_findSums_132 3 (by decide +kernel) ?_
          refine ld_a hx hb hK hP 40 2 rfl rfl (vin (by decide +kernel)) dX4_findSums_133 (ad 44) rfl ?_
          refine lv_iload_n hx hb dX4_findSums_134 rfl (lv_at hl_3 3 rfl) ?_
          refine va_iald hx hb hK hP 44 0 rfl rfl (vin (by decide +kernel)) dX4_findSums_135 ?_
          refine lv_topi (fun z27 e_z27 => ?_)
          have k_z27 : z27.toInt = (ai 44 0).toInt := by rw [e_z27]; rfl
          refine lv_iload_n hx hb dX4_findSums_136 rfl (lv_at hl_3 1 rfl) ?_
          refine lv_iload hx hb dX4_findSums_137 (lv_at hl_3 0 rfl) ?_
          refine va_mmin hx hb (by rw [hml]; exact hl_3.1.symm) hown (hts _ k_672) (hts _ k_464) (hts _ k_13) (hts _ k_465) (by decide) (Nat.le_of_ble_eq_true rfl) (Nat.le_of_ble_eq_true rfl) (Nat.le_of_ble_eq_true rfl) dX4_findSums_139 ?_
          refine lv_topi (fun z28 e_z28 => ?_)
          have g_z28 : (z28.toInt = z5.toInt ∨ z28.toInt = z8.toInt) ∧ z5.toInt ≥ z28.toInt ∧ z8.toInt ≥ z28.toInt := by rw [e_z28]; exact n_min (a := z5.toInt) (b := z8.toInt) rfl rfl
          refine v_iadd hx hb dX4_findSums_142 _ rfl ?_
          refine lv_topi (fun z29 e_z29 => ?_)
          refine va_iast hx hb hK hP hD hS 43 0 rfl rfl (vin (by decide +kernel)) dX4_findSums_143 (fun H_26 locs_26 hP_26 hD_26 hS_26 => ?_)
          obtain ⟨ai30, e_ai30⟩ : ∃ q : Nat → Nat → Int32, q = va_up ai 43 (upd (ai 43) (0 : Int32).toNatClampNeg z29) := ⟨_, rfl⟩
          have hF_27 := FR_st hF e_ai30 (by decide)
          have hI_28 : IAX ai30 := by rw [e_ai30]; exact hI
          have hP_29 : va_P (dC, dI) vwCl (WX cI cJ cII cJJ ad f3_unknowns f3_equations f2_roundSupports f2_stale f7_size f1_size f5_keptSize f5_aheadSize f0_solved f4_blockCount f4_blockLength f4_lastIsFree f4_stale ai30 al w0 w1 w2 w3) H_26 := by rw [e_ai30]; exact hP_26
          have hD_30 : va_D A (WX cI cJ cII cJJ ad f3_unknowns f3_equations f2_roundSupports f2_stale f7_size f1_size f5_keptSize f5_aheadSize f0_solved f4_blockCount f4_blockLength f4_lastIsFree f4_stale ai30 al w0 w1 w2 w3) := by rw [e_ai30]; exact hD_26
          refine lv_aload_n hx hb dX4_findSums_144 rfl (lv_at hl_3 2 rfl) ?_
          refine gf (k := 7) hx hb hts inX4 hown hK hP_29 k_212 rfl (by decide) rfl 29 rfl (.ref (ad 46)) rfl dX4_findSums_145 ?_
          refine lv_iload_n hx hb dX4_findSums_148 rfl (lv_at hl_3 4 rfl) ?_
          refine ld_a hx hb hK hP_29 46 2 rfl rfl (vin (by decide +kernel)) dX4_findSums_149 (ad 49) rfl ?_
          refine lv_iload_n hx hb dX4_findSums_150 rfl (lv_at hl_3 3 rfl) ?_
          refine lv_aload_n hx hb dX4_findSums_151 rfl (lv_at hl_3 2 rfl) ?_
          refine gf (k := 7) hx hb hts inX4 hown hK hP_29 k_212 rfl (by decide) rfl 29 rfl (.ref (ad 46)) rfl dX4_findSums_152 ?_
          refine lv_iload_n hx hb dX4_findSums_155 rfl (lv_at hl_3 4 rfl) ?_
          refine lv_iconst (v := 1) hx hb dX4_findSums_156 (by decide) ?_
          refine v_iadd hx hb dX4_findSums_157 3 (by decide +kernel) ?_
          refine ld_a hx hb hK hP_29 46 2 rfl rfl (vin (by decide +kernel)) dX4_findSums_158 (ad 50) rfl ?_
          refine lv_iload_n hx hb dX4_findSums_159 rfl (lv_at hl_3 3 rfl) ?_
          refine va_iald hx hb hK hP_29 50 0 rfl rfl (vin (by decide +kernel)) dX4_findSums_160 ?_
          refine lv_topi (fun z31 e_z31 => ?_)
          have k_z31 : z31.toInt = (ai30 50 0).toInt := by rw [e_z31]; rfl
          refine lv_iload_n hx hb dX4_findSums_161 rfl (lv_at hl_3 1 rfl) ?_
          refine lv_iload hx hb dX4_findSums_162 (lv_at hl_3 0 rfl) ?_
          refine va_mmax hx hb (by rw [hml]; exact hl_3.1.symm) hown (hts _ k_667) (hts _ k_445) (hts _ k_13) (hts _ k_446) (by decide) (Nat.le_of_ble_eq_true rfl) (Nat.le_of_ble_eq_true rfl) (Nat.le_of_ble_eq_true rfl) dX4_findSums_164 ?_
          refine lv_topi (fun z32 e_z32 => ?_)
          have g_z32 : (z32.toInt = z5.toInt ∨ z32.toInt = z8.toInt) ∧ z5.toInt ≤ z32.toInt ∧ z8.toInt ≤ z32.toInt := by rw [e_z32]; exact n_max (a := z5.toInt) (b := z8.toInt) rfl rfl
          refine v_iadd hx hb dX4_findSums_167 _ rfl ?_
          refine lv_topi (fun z33 e_z33 => ?_)
          refine va_iast hx hb hK hP_29 hD_30 hS_26 49 0 rfl rfl (vin (by decide +kernel)) dX4_findSums_168 (fun H_31 locs_31 hP_31 hD_31 hS_31 => ?_)
          obtain ⟨ai34, e_ai34⟩ : ∃ q : Nat → Nat → Int32, q = va_up ai30 49 (upd (ai30 49) (0 : Int32).toNatClampNeg z33) := ⟨_, rfl⟩
          have hF_32 := FR_st hF_27 e_ai34 (by decide)
          have hI_33 : IAX ai34 := by rw [e_ai34]; exact hI_28
          have hP_34 : va_P (dC, dI) vwCl (WX cI cJ cII cJJ ad f3_unknowns f3_equations f2_roundSupports f2_stale f7_size f1_size f5_keptSize f5_aheadSize f0_solved f4_blockCount f4_blockLength f4_lastIsFree f4_stale ai34 al w0 w1 w2 w3) H_31 := by rw [e_ai34]; exact hP_31
          have hD_35 : va_D A (WX cI cJ cII cJJ ad f3_unknowns f3_equations f2_roundSupports f2_stale f7_size f1_size f5_keptSize f5_aheadSize f0_solved f4_blockCount f4_blockLength f4_lastIsFree f4_stale ai34 al w0 w1 w2 w3) := by rw [e_ai34]; exact hD_31
          obtain ⟨z35, e_z35⟩ : ∃ q : Int32, q = 2 + Int32.ofInt (-1) := ⟨_, rfl⟩
          have g_z35 : z35.toInt = 2 + (-1) := by rw [e_z35]; exact n_add (a := 2) (b := (-1)) (by decide +kernel) (by decide +kernel) (by omega) (by omega)
          refine lv_iinc (v := z35) (lv' := [(2, .int z35), (4, .int z8), (3, .int z5), (0, .ref (ad 29)), (1, .int 0)]) hx hb dX4_findSums_169 hl_3 (k := 4) rfl e_z35.symm (by decide) rfl (fun ls_36 hl_36 => ?_)
          refine lv_goto (tgt := 70) hx hb dX4_findSums_172 (by decide) ?_
          exact ih 0 z35 ai34 _ _ _ (by first | omega | decide | (have ka0 := (by decide +kernel : (0 : Int32).toInt = 0); omega)) (by first | omega | decide | (have ka0 := (by decide +kernel : (0 : Int32).toInt = 0); omega)) (by first | omega | decide | (have ka0 := (by decide +kernel : (0 : Int32).toInt = 0); omega)) (by first | omega | decide | (have ka0 := (by decide +kernel : (0 : Int32).toInt = 0); omega)) (by first | omega | decide | (have ka0 := (by decide +kernel : (0 : Int32).toInt = 0); omega)) (by first | omega | decide | (have ka0 := (by decide +kernel : (0 : Int32).toInt = 0); omega)) (by first | omega | decide | (have ka0 := (by decide +kernel : (0 : Int32).toInt = 0); omega)) (by first | omega | decide | (have ka0 := (by decide +kernel : (0 : Int32).toInt = 0); omega)) (by first | omega | decide | (have ka0 := (by decide +kernel : (0 : Int32).toInt = 0); omega)) (by first | omega | decide | (have ka0 := (by decide +kernel : (0 : Int32).toInt = 0); omega)) (by first | omega | decide | (have ka0 := (by decide +kernel : (0 : Int32).toInt = 0); omega)) (by first | omega | decide | (have ka0 := (by decide +kernel : (0 : Int32).toInt = 0); omega)) (by first | omega | decide | (have ka0 := (by decide +kernel : (0 : Int32).toInt = 0); omega)) (by first | omega | decide | (have ka0 := (by decide +kernel : (0 : Int32).toInt = 0); omega)) (by first | omega | decide | (have ka0 := (by decide +kernel : (0 : Int32).toInt = 0); omega)) (by first | omega | decide | (have ka0 := (by decide +kernel : (0 : Int32).toInt = 0); omega)) (by first | omega | decide | (have ka0 := (by decide +kernel : (0 : Int32).toInt = 0); omega)) hI_33 hF_32 hw_w0 hw_w1 hw_w2 hw_w3 hP_34 hD_35 hS_31 (lv_sub hl_36 [3, 4, 0] rfl)
        · have k9 : (3 : Int32).toInt = 3 := by decide +kernel
          refine ld_a hx hb hK hP 40 2 rfl rfl (vin (by decide +kernel)) dX4_findSums_124 (ad 44) rfl ?_
          refine lv_iload_n hx hb dX4_findSums_125 rfl (lv_at hl_3 3 rfl) ?_
          refine lv_aload_n hx hb dX4_findSums_126 rfl (lv_at hl_3 2 rfl) ?_
          refine gf (k := 6) hx hb hts inX4 hown hK hP k_211 rfl (by decide) rfl 29 rfl (.ref (ad 40)) rfl dX4_findSums_127 ?_
          refine lv_iload_n hx hb dX4_findSums_130 rfl (lv_at hl_3 4 rfl) ?_
          refine lv_iconst (v := 1) hx hb dX4_findSums_131 (by decide) ?_
          refine v_iadd hx hb dX4_findSums_132 4 (by decide +kernel) ?_
          refine ld_a hx hb hK hP 40 2 rfl rfl (vin (by decide +kernel)) dX4_findSums_133 (ad 45) rfl ?_
          refine lv_iload_n hx hb dX4_findSums_134 rfl (lv_at hl_3 3 rfl) ?_
          refine va_iald hx hb hK hP 45 0 rfl rfl (vin (by decide +kernel)) dX4_findSums_135 ?_
          refine lv_topi (fun z36 e_z36 => ?_)
          have k_z36 : z36.toInt = (ai 45 0).toInt := by rw [e_z36]; rfl
          refine lv_iload_n hx hb dX4_findSums_136 rfl (lv_at hl_3 1 rfl) ?_
          refine lv_iload hx hb dX4_findSums_137 (lv_at hl_3 0 rfl) ?_
          refine va_mmin hx hb (by rw [hml]; exact hl_3.1.symm) hown (hts _ k_672) (hts _ k_464) (hts _ k_13) (hts _ k_465) (by decide) (Nat.le_of_ble_eq_true rfl) (Nat.le_of_ble_eq_true rfl) (Nat.le_of_ble_eq_true rfl) dX4_findSums_139 ?_
          refine lv_topi (fun z37 e_z37 => ?_)
          have g_z37 : (z37.toInt = z5.toInt ∨ z37.toInt = z8.toInt) ∧ z5.toInt ≥ z37.toInt ∧ z8.toInt ≥ z37.toInt := by rw [e_z37]; exact n_min (a := z5.toInt) (b := z8.toInt) rfl rfl
          refine v_iadd hx hb dX4_findSums_142 _ rfl ?_
          refine lv_topi (fun z38 e_z38 => ?_)
          refine va_iast hx hb hK hP hD hS 44 0 rfl rfl (vin (by decide +kernel)) dX4_findSums_143 (fun H_37 locs_37 hP_37 hD_37 hS_37 => ?_)
          obtain ⟨ai39, e_ai39⟩ : ∃ q : Nat → Nat → Int32, q = va_up ai 44 (upd (ai 44) (0 : Int32).toNatClampNeg z38) := ⟨_, rfl⟩
          have hF_38 := FR_st hF e_ai39 (by decide)
          have hI_39 : IAX ai39 := by rw [e_ai39]; exact hI
          have hP_40 : va_P (dC, dI) vwCl (WX cI cJ cII cJJ ad f3_unknowns f3_equations f2_roundSupports f2_stale f7_size f1_size f5_keptSize f5_aheadSize f0_solved f4_blockCount f4_blockLength f4_lastIsFree f4_stale ai39 al w0 w1 w2 w3) H_37 := by rw [e_ai39]; exact hP_37
          have hD_41 : va_D A (WX cI cJ cII cJJ ad f3_unknowns f3_equations f2_roundSupports f2_stale f7_size f1_size f5_keptSize f5_aheadSize f0_solved f4_blockCount f4_blockLength f4_lastIsFree f4_stale ai39 al w0 w1 w2 w3) := by rw [e_ai39]; exact hD_37
          refine lv_aload_n hx hb dX4_findSums_144 rfl (lv_at hl_3 2 rfl) ?_
          refine gf (k := 7) hx hb hts inX4 hown hK hP_40 k_212 rfl (by decide) rfl 29 rfl (.ref (ad 46)) rfl dX4_findSums_145 ?_
          refine lv_iload_n hx hb dX4_findSums_148 rfl (lv_at hl_3 4 rfl) ?_
          refine ld_a hx hb hK hP_40 46 2 rfl rfl (vin (by decide +kernel)) dX4_findSums_149 (ad 50) rfl ?_
          refine lv_iload_n hx hb dX4_findSums_150 rfl (lv_at hl_3 3 rfl) ?_
          refine lv_aload_n hx hb dX4_findSums_151 rfl (lv_at hl_3 2 rfl) ?_
          refine gf (k := 7) hx hb hts inX4 hown hK hP_40 k_212 rfl (by decide) rfl 29 rfl (.ref (ad 46)) rfl dX4_findSums_152 ?_
          refine lv_iload_n hx hb dX4_findSums_155 rfl (lv_at hl_3 4 rfl) ?_
          refine lv_iconst (v := 1) hx hb dX4_findSums_156 (by decide) ?_
          refine v_iadd hx hb dX4_findSums_157 4 (by decide +kernel) ?_
          refine ld_a hx hb hK hP_40 46 2 rfl rfl (vin (by decide +kernel)) dX4_findSums_158 (ad 51) rfl ?_
          refine lv_iload_n hx hb dX4_findSums_159 rfl (lv_at hl_3 3 rfl) ?_
          refine va_iald hx hb hK hP_40 51 0 rfl rfl (vin (by decide +kernel)) dX4_findSums_160 ?_
          refine lv_topi (fun z40 e_z40 => ?_)
          have k_z40 : z40.toInt = (ai39 51 0).toInt := by rw [e_z40]; rfl
          refine lv_iload_n hx hb dX4_findSums_161 rfl (lv_at hl_3 1 rfl) ?_
          refine lv_iload hx hb dX4_findSums_162 (lv_at hl_3 0 rfl) ?_
          refine va_mmax hx hb (by rw [hml]; exact hl_3.1.symm) hown (hts _ k_667) (hts _ k_445) (hts _ k_13) (hts _ k_446) (by decide) (Nat.le_of_ble_eq_true rfl) (Nat.le_of_ble_eq_true rfl) (Nat.le_of_ble_eq_true rfl) dX4_findSums_164 ?_
          refine lv_topi (fun z41 e_z41 => ?_)
          have g_z41 : (z41.toInt = z5.toInt ∨ z41.toInt = z8.toInt) ∧ z5.toInt ≤ z41.toInt ∧ z8.toInt ≤ z41.toInt := by rw [e_z41]; exact n_max (a := z5.toInt) (b := z8.toInt) rfl rfl
          refine v_iadd hx hb dX4_findSums_167 _ rfl ?_
          refine lv_topi (fun z42 e_z42 => ?_)
          refine va_iast hx hb hK hP_40 hD_41 hS_37 50 0 rfl rfl (vin (by decide +kernel)) dX4_findSums_168 (fun H_42 locs_42 hP_42 hD_42 hS_42 => ?_)
          obtain ⟨ai43, e_ai43⟩ : ∃ q : Nat → Nat → Int32, q = va_up ai39 50 (upd (ai39 50) (0 : Int32).toNatClampNeg z42) := ⟨_, rfl⟩
          have hF_43 := FR_st hF_38 e_ai43 (by decide)
          have hI_44 : IAX ai43 := by rw [e_ai43]; exact hI_39
          have hP_45 : va_P (dC, dI) vwCl (WX cI cJ cII cJJ ad f3_unknowns f3_equations f2_roundSupports f2_stale f7_size f1_size f5_keptSize f5_aheadSize f0_solved f4_blockCount f4_blockLength f4_lastIsFree f4_stale ai43 al w0 w1 w2 w3) H_42 := by rw [e_ai43]; exact hP_42
          have hD_46 : va_D A (WX cI cJ cII cJJ ad f3_unknowns f3_equations f2_roundSupports f2_stale f7_size f1_size f5_keptSize f5_aheadSize f0_solved f4_blockCount f4_blockLength f4_lastIsFree f4_stale ai43 al w0 w1 w2 w3) := by rw [e_ai43]; exact hD_42
          obtain ⟨z44, e_z44⟩ : ∃ q : Int32, q = 3 + Int32.ofInt (-1) := ⟨_, rfl⟩
          have g_z44 : z44.toInt = 3 + (-1) := by rw [e_z44]; exact n_add (a := 3) (b := (-1)) (by decide +kernel) (by decide +kernel) (by omega) (by omega)
          refine lv_iinc (v := z44) (lv' := [(2, .int z44), (4, .int z8), (3, .int z5), (0, .ref (ad 29)), (1, .int 0)]) hx hb dX4_findSums_169 hl_3 (k := 4) rfl e_z44.symm (by decide) rfl (fun ls_47 hl_47 => ?_)
          refine lv_goto (tgt := 70) hx hb dX4_findSums_172 (by decide) ?_
          exact ih 0 z44 ai43 _ _ _ (by first | omega | decide | (have ka0 := (by decide +kernel : (0 : Int32).toInt = 0); omega)) (by first | omega | decide | (have ka0 := (by decide +kernel : (0 : Int32).toInt = 0); omega)) (by first | omega | decide | (have ka0 := (by decide +kernel : (0 : Int32).toInt = 0); omega)) (by first | omega | decide | (have ka0 := (by decide +kernel : (0 : Int32).toInt = 0); omega)) (by first | omega | decide | (have ka0 := (by decide +kernel : (0 : Int32).toInt = 0); omega)) (by first | omega | decide | (have ka0 := (by decide +kernel : (0 : Int32).toInt = 0); omega)) (by first | omega | decide | (have ka0 := (by decide +kernel : (0 : Int32).toInt = 0); omega)) (by first | omega | decide | (have ka0 := (by decide +kernel : (0 : Int32).toInt = 0); omega)) (by first | omega | decide | (have ka0 := (by decide +kernel : (0 : Int32).toInt = 0); omega)) (by first | omega | decide | (have ka0 := (by decide +kernel : (0 : Int32).toInt = 0); omega)) (by first | omega | decide | (have ka0 := (by decide +kernel : (0 : Int32).toInt = 0); omega)) (by first | omega | decide | (have ka0 := (by decide +kernel : (0 : Int32).toInt = 0); omega)) (by first | omega | decide | (have ka0 := (by decide +kernel : (0 : Int32).toInt = 0); omega)) (by first | omega | decide | (have ka0 := (by decide +kernel : (0 : Int32).toInt = 0); omega)) (by first | omega | decide | (have ka0 := (by decide +kernel : (0 : Int32).toInt = 0); omega)) (by first | omega | decide | (have ka0 := (by decide +kernel : (0 : Int32).toInt = 0); omega)) (by first | omega | decide | (have ka0 := (by decide +kernel : (0 : Int32).toInt = 0); omega)) hI_44 hF_43 hw_w0 hw_w1 hw_w2 hw_w3 hP_45 hD_46 hS_42 (lv_sub hl_47 [3, 4, 0] rfl)
      · have k9 : (1 : Int32).toInt = 1 := by decide +kernel
        refine ld_a hx hb hK hP 1 2 rfl rfl (vin (by decide +kernel)) dX4_findSums_82 (ad 3) rfl ?_
        refine lv_iload_n hx hb dX4_findSums_83 rfl (lv_at hl 2 rfl) ?_
        refine va_iald hx hb hK hP 3 0 rfl rfl (j_in (a := L2.toInt) rfl (by omega) (by omega)) dX4_findSums_84 ?_
        refine lv_topi (fun z45 e_z45 => ?_)
        have g_z45 : -6 ≤ z45.toInt ∧ z45.toInt ≤ 6 := by rw [e_z45]; exact IAX_at3 hI _
        refine lv_aload_n hx hb dX4_findSums_85 rfl (lv_at hl 0 rfl) ?_
        refine gf (k := 0) hx hb hts inX4 hown hK hP k_205 rfl (by decide) rfl 29 rfl (.ref (ad 6)) rfl dX4_findSums_86 ?_
        refine gf (k := 4) hx hb hts inX3 hown hK hP k_57 rfl (by decide) rfl 6 rfl (.ref (ad 7)) rfl dX4_findSums_89 ?_
        refine lv_iload_n hx hb dX4_findSums_92 rfl (lv_at hl 2 rfl) ?_
        refine va_iald hx hb hK hP 7 0 rfl rfl (j_in (a := L2.toInt) rfl (by omega) (by omega)) dX4_findSums_93 ?_
        refine lv_topi (fun z46 e_z46 => ?_)
        have g_z46 : -10 ≤ z46.toInt ∧ z46.toInt ≤ 10 := by rw [e_z46]; exact IAX_at7 hI _
        refine v_imul hx hb dX4_findSums_94 _ rfl ?_
        refine lv_topi (fun z47 e_z47 => ?_)
        refine lv_istore_n (lv' := [(3, .int z47), (0, .ref (ad 29)), (1, .int 1), (2, .int L2)]) hx hb dX4_findSums_95 rfl hl (by decide) rfl (fun ls_48 hl_48 => ?_)
        refine lv_aload_n hx hb dX4_findSums_96 rfl (lv_at hl_48 1 rfl) ?_
        refine gf (k := 0) hx hb hts inX4 hown hK hP k_205 rfl (by decide) rfl 29 rfl (.ref (ad 6)) rfl dX4_findSums_97 ?_
        refine gf (k := 2) hx hb hts inX3 hown hK hP k_52 rfl (by decide) rfl 6 rfl (.ref (ad 1)) rfl dX4_findSums_100 ?_
        refine lv_iload_n hx hb dX4_findSums_103 rfl (lv_at hl_48 2 rfl) ?_
        refine ld_a hx hb hK hP 1 2 rfl rfl (vin (by decide +kernel)) dX4_findSums_104 (ad 3) rfl ?_
        refine lv_iload_n hx hb dX4_findSums_105 rfl (lv_at hl_48 3 rfl) ?_
        refine va_iald hx hb hK hP 3 0 rfl rfl (j_in (a := L2.toInt) rfl (by omega) (by omega)) dX4_findSums_106 ?_
        refine lv_topi (fun z48 e_z48 => ?_)
        have g_z48 : -6 ≤ z48.toInt ∧ z48.toInt ≤ 6 := by rw [e_z48]; exact IAX_at3 hI _
        refine lv_aload_n hx hb dX4_findSums_107 rfl (lv_at hl_48 1 rfl) ?_
        refine gf (k := 0) hx hb hts inX4 hown hK hP k_205 rfl (by decide) rfl 29 rfl (.ref (ad 6)) rfl dX4_findSums_108 ?_
        refine gf (k := 5) hx hb hts inX3 hown hK hP k_61 rfl (by decide) rfl 6 rfl (.ref (ad 8)) rfl dX4_findSums_111 ?_
        refine lv_iload_n hx hb dX4_findSums_114 rfl (lv_at hl_48 3 rfl) ?_
        refine va_iald hx hb hK hP 8 0 rfl rfl (j_in (a := L2.toInt) rfl (by omega) (by omega)) dX4_findSums_115 ?_
        refine lv_topi (fun z49 e_z49 => ?_)
        have g_z49 : -10 ≤ z49.toInt ∧ z49.toInt ≤ 10 := by rw [e_z49]; exact IAX_at8 hI _
        refine v_imul hx hb dX4_findSums_116 _ rfl ?_
        refine lv_topi (fun z50 e_z50 => ?_)
        refine lv_istore (lv' := [(4, .int z50), (3, .int z47), (0, .ref (ad 29)), (1, .int 1), (2, .int L2)]) hx hb dX4_findSums_117 hl_48 (by decide) rfl (fun ls_49 hl_49 => ?_)
        refine lv_aload_n hx hb dX4_findSums_119 rfl (lv_at hl_49 2 rfl) ?_
        refine gf (k := 6) hx hb hts inX4 hown hK hP k_211 rfl (by decide) rfl 29 rfl (.ref (ad 40)) rfl dX4_findSums_120 ?_
        refine lv_iload_n hx hb dX4_findSums_123 rfl (lv_at hl_49 4 rfl) ?_
        rcases (show L2 = 0 ∨ L2 = 1 ∨ L2 = 2 ∨ L2 = 3 from j_cases4 (a := L2.toInt) rfl (by omega) (by omega)) with rfl | rfl | rfl | rfl
        · have k9 : (0 : Int32).toInt = 0 := by decide +kernel
          refine ld_a hx hb hK hP 40 2 rfl rfl (vin (by decide +kernel)) dX4_findSums_124 (ad 41) rfl ?_
          refine lv_iload_n hx hb dX4_findSums_125 rfl (lv_at hl_49 3 rfl) ?_
          refine lv_aload_n hx hb dX4_findSums_126 rfl (lv_at hl_49 2 rfl) ?_
          refine gf (k := 6) hx hb hts inX4 hown hK hP k_211 rfl (by decide) rfl 29 rfl (.ref (ad 40)) rfl dX4_findSums_127 ?_
          refine lv_iload_n hx hb dX4_findSums_130 rfl (lv_at hl_49 4 rfl) ?_
          refine lv_iconst (v := 1) hx hb dX4_findSums_131 (by decide) ?_
          refine v_iadd hx hb dX4_findSums_132 1 (by decide +kernel) ?_
          refine ld_a hx hb hK hP 40 2 rfl rfl (vin (by decide +kernel)) dX4_findSums_133 (ad 42) rfl ?_
          refine lv_iload_n hx hb dX4_findSums_134 rfl (lv_at hl_49 3 rfl) ?_
          refine va_iald hx hb hK hP 42 0 rfl rfl (vin (by decide +kernel)) dX4_findSums_135 ?_
          refine lv_topi (fun z51 e_z51 => ?_)
          have k_z51 : z51.toInt = (ai 42 1).toInt := by rw [e_z51]; rfl
          refine lv_iload_n hx hb dX4_findSums_136 rfl (lv_at hl_49 1 rfl) ?_
          refine lv_iload hx hb dX4_findSums_137 (lv_at hl_49 0 rfl) ?_
          refine va_mmin hx hb (by rw [hml]; exact hl_49.1.symm) hown (hts _ k_672) (hts _ k_464) (hts _ k_13) (hts _ k_465) (by decide) (Nat.le_of_ble_eq_true rfl) (Nat.le_of_ble_eq_true rfl) (Nat.le_of_ble_eq_true rfl) dX4_findSums_139 ?_
          refine lv_topi (fun z52 e_z52 => ?_)
          have g_z52 : (z52.toInt = z47.toInt ∨ z52.toInt = z50.toInt) ∧ z47.toInt ≥ z52.toInt ∧ z50.toInt ≥ z52.toInt := by rw [e_z52]; exact n_min (a := z47.toInt) (b := z50.toInt) rfl rfl
          refine v_iadd hx hb dX4_findSums_142 _ rfl ?_
          refine lv_topi (fun z53 e_z53 => ?_)
          refine va_iast hx hb hK hP hD hS 41 0 rfl rfl (vin (by decide +kernel)) dX4_findSums_143 (fun H_50 locs_50 hP_50 hD_50 hS_50 => ?_)
          obtain ⟨ai54, e_ai54⟩ : ∃ q : Nat → Nat → Int32, q = va_up ai 41 (upd (ai 41) (1 : Int32).toNatClampNeg z53) := ⟨_, rfl⟩
          have hF_51 := FR_st hF e_ai54 (by decide)
          have hI_52 : IAX ai54 := by rw [e_ai54]; exact hI
          have hP_53 : va_P (dC, dI) vwCl (WX cI cJ cII cJJ ad f3_unknowns f3_equations f2_roundSupports f2_stale f7_size f1_size f5_keptSize f5_aheadSize f0_solved f4_blockCount f4_blockLength f4_lastIsFree f4_stale ai54 al w0 w1 w2 w3) H_50 := by rw [e_ai54]; exact hP_50
          have hD_54 : va_D A (WX cI cJ cII cJJ ad f3_unknowns f3_equations f2_roundSupports f2_stale f7_size f1_size f5_keptSize f5_aheadSize f0_solved f4_blockCount f4_blockLength f4_lastIsFree f4_stale ai54 al w0 w1 w2 w3) := by rw [e_ai54]; exact hD_50
          refine lv_aload_n hx hb dX4_findSums_144 rfl (lv_at hl_49 2 rfl) ?_
          refine gf (k := 7) hx hb hts inX4 hown hK hP_53 k_212 rfl (by decide) rfl 29 rfl (.ref (ad 46)) rfl dX4_findSums_145 ?_
          refine lv_iload_n hx hb dX4_findSums_148 rfl (lv_at hl_49 4 rfl) ?_
          refine ld_a hx hb hK hP_53 46 2 rfl rfl (vin (by decide +kernel)) dX4_findSums_149 (ad 47) rfl ?_
          refine lv_iload_n hx hb dX4_findSums_150 rfl (lv_at hl_49 3 rfl) ?_
          refine lv_aload_n hx hb dX4_findSums_151 rfl (lv_at hl_49 2 rfl) ?_
          refine gf (k := 7) hx hb hts inX4 hown hK hP_53 k_212 rfl (by decide) rfl 29 rfl (.ref (ad 46)) rfl dX4_findSums_152 ?_
          refine lv_iload_n hx hb dX4_findSums_155 rfl (lv_at hl_49 4 rfl) ?_
          refine lv_iconst (v := 1) hx hb dX4_findSums_156 (by decide) ?_
          refine v_iadd hx hb dX4_findSums_157 1 (by decide +kernel) ?_
          refine ld_a hx hb hK hP_53 46 2 rfl rfl (vin (by decide +kernel)) dX4_findSums_158 (ad 48) rfl ?_
          refine lv_iload_n hx hb dX4_findSums_159 rfl (lv_at hl_49 3 rfl) ?_
          refine va_iald hx hb hK hP_53 48 0 rfl rfl (vin (by decide +kernel)) dX4_findSums_160 ?_
          refine lv_topi (fun z55 e_z55 => ?_)
          have k_z55 : z55.toInt = (ai54 48 1).toInt := by rw [e_z55]; rfl
          refine lv_iload_n hx hb dX4_findSums_161 rfl (lv_at hl_49 1 rfl) ?_
          refine lv_iload hx hb dX4_findSums_162 (lv_at hl_49 0 rfl) ?_
          refine va_mmax hx hb (by rw [hml]; exact hl_49.1.symm) hown (hts _ k_667) (hts _ k_445) (hts _ k_13) (hts _ k_446) (by decide) (Nat.le_of_ble_eq_true rfl) (Nat.le_of_ble_eq_true rfl) (Nat.le_of_ble_eq_true rfl) dX4_findSums_164 ?_
          refine lv_topi (fun z56 e_z56 => ?_)
          have g_z56 : (z56.toInt = z47.toInt ∨ z56.toInt = z50.toInt) ∧ z47.toInt ≤ z56.toInt ∧ z50.toInt ≤ z56.toInt := by rw [e_z56]; exact n_max (a := z47.toInt) (b := z50.toInt) rfl rfl
          refine v_iadd hx hb dX4_findSums_167 _ rfl ?_
          refine lv_topi (fun z57 e_z57 => ?_)
          refine va_iast hx hb hK hP_53 hD_54 hS_50 47 0 rfl rfl (vin (by decide +kernel)) dX4_findSums_168 (fun H_55 locs_55 hP_55 hD_55 hS_55 => ?_)
          obtain ⟨ai58, e_ai58⟩ : ∃ q : Nat → Nat → Int32, q = va_up ai54 47 (upd (ai54 47) (1 : Int32).toNatClampNeg z57) := ⟨_, rfl⟩
          have hF_56 := FR_st hF_51 e_ai58 (by decide)
          have hI_57 : IAX ai58 := by rw [e_ai58]; exact hI_52
          have hP_58 : va_P (dC, dI) vwCl (WX cI cJ cII cJJ ad f3_unknowns f3_equations f2_roundSupports f2_stale f7_size f1_size f5_keptSize f5_aheadSize f0_solved f4_blockCount f4_blockLength f4_lastIsFree f4_stale ai58 al w0 w1 w2 w3) H_55 := by rw [e_ai58]; exact hP_55
          have hD_59 : va_D A (WX cI cJ cII cJJ ad f3_unknowns f3_equations f2_roundSupports f2_stale f7_size f1_size f5_keptSize f5_aheadSize f0_solved f4_blockCount f4_blockLength f4_lastIsFree f4_stale ai58 al w0 w1 w2 w3) := by rw [e_ai58]; exact hD_55
          obtain ⟨z59, e_z59⟩ : ∃ q : Int32, q = 0 + Int32.ofInt (-1) := ⟨_, rfl⟩
          have g_z59 : z59.toInt = 0 + (-1) := by rw [e_z59]; exact n_add (a := 0) (b := (-1)) (by decide +kernel) (by decide +kernel) (by omega) (by omega)
          refine lv_iinc (v := z59) (lv' := [(2, .int z59), (4, .int z50), (3, .int z47), (0, .ref (ad 29)), (1, .int 1)]) hx hb dX4_findSums_169 hl_49 (k := 4) rfl e_z59.symm (by decide) rfl (fun ls_60 hl_60 => ?_)
          refine lv_goto (tgt := 70) hx hb dX4_findSums_172 (by decide) ?_
          exact ih 1 z59 ai58 _ _ _ (by first | omega | decide | (have ka0 := (by decide +kernel : (1 : Int32).toInt = 1); omega)) (by first | omega | decide | (have ka0 := (by decide +kernel : (1 : Int32).toInt = 1); omega)) (by first | omega | decide | (have ka0 := (by decide +kernel : (1 : Int32).toInt = 1); omega)) (by first | omega | decide | (have ka0 := (by decide +kernel : (1 : Int32).toInt = 1); omega)) (by first | omega | decide | (have ka0 := (by decide +kernel : (1 : Int32).toInt = 1); omega)) (by first | omega | decide | (have ka0 := (by decide +kernel : (1 : Int32).toInt = 1); omega)) (by first | omega | decide | (have ka0 := (by decide +kernel : (1 : Int32).toInt = 1); omega)) (by first | omega | decide | (have ka0 := (by decide +kernel : (1 : Int32).toInt = 1); omega)) (by first | omega | decide | (have ka0 := (by decide +kernel : (1 : Int32).toInt = 1); omega)) (by first | omega | decide | (have ka0 := (by decide +kernel : (1 : Int32).toInt = 1); omega)) (by first | omega | decide | (have ka0 := (by decide +kernel : (1 : Int32).toInt = 1); omega)) (by first | omega | decide | (have ka0 := (by decide +kernel : (1 : Int32).toInt = 1); omega)) (by first | omega | decide | (have ka0 := (by decide +kernel : (1 : Int32).toInt = 1); omega)) (by first | omega | decide | (have ka0 := (by decide +kernel : (1 : Int32).toInt = 1); omega)) (by first | omega | decide | (have ka0 := (by decide +kernel : (1 : Int32).toInt = 1); omega)) (by first | omega | decide | (have ka0 := (by decide +kernel : (1 : Int32).toInt = 1); omega)) (by first | omega | decide | (have ka0 := (by decide +kernel : (1 : Int32).toInt = 1); omega)) hI_57 hF_56 hw_w0 hw_w1 hw_w2 hw_w3 hP_58 hD_59 hS_55 (lv_sub hl_60 [3, 4, 0] rfl)
        · have k9 : (1 : Int32).toInt = 1 := by decide +kernel
          refine ld_a hx hb hK hP 40 2 rfl rfl (vin (by decide +kernel)) dX4_findSums_124 (ad 42) rfl ?_
          refine lv_iload_n hx hb dX4_findSums_125 rfl (lv_at hl_49 3 rfl) ?_
          refine lv_aload_n hx hb dX4_findSums_126 rfl (lv_at hl_49 2 rfl) ?_
          refine gf (k := 6) hx hb hts inX4 hown hK hP k_211 rfl (by decide) rfl 29 rfl (.ref (ad 40)) rfl dX4_findSums_127 ?_
          refine lv_iload_n hx hb dX4_findSums_130 rfl (lv_at hl_49 4 rfl) ?_
          refine lv_iconst (v := 1) hx hb dX4_findSums_131 (by decide) ?_
          refine v_iadd hx hb dX4_findSums_132 2 (by decide +kernel) ?_
          refine ld_a hx hb hK hP 40 2 rfl rfl (vin (by decide +kernel)) dX4_findSums_133 (ad 43) rfl ?_
          refine lv_iload_n hx hb dX4_findSums_134 rfl (lv_at hl_49 3 rfl) ?_
          refine va_iald hx hb hK hP 43 0 rfl rfl (vin (by decide +kernel)) dX4_findSums_135 ?_
          refine lv_topi (fun z60 e_z60 => ?_)
          have k_z60 : z60.toInt = (ai 43 1).toInt := by rw [e_z60]; rfl
          refine lv_iload_n hx hb dX4_findSums_136 rfl (lv_at hl_49 1 rfl) ?_
          refine lv_iload hx hb dX4_findSums_137 (lv_at hl_49 0 rfl) ?_
          refine va_mmin hx hb (by rw [hml]; exact hl_49.1.symm) hown (hts _ k_672) (hts _ k_464) (hts _ k_13) (hts _ k_465) (by decide) (Nat.le_of_ble_eq_true rfl) (Nat.le_of_ble_eq_true rfl) (Nat.le_of_ble_eq_true rfl) dX4_findSums_139 ?_
          refine lv_topi (fun z61 e_z61 => ?_)
          have g_z61 : (z61.toInt = z47.toInt ∨ z61.toInt = z50.toInt) ∧ z47.toInt ≥ z61.toInt ∧ z50.toInt ≥ z61.toInt := by rw [e_z61]; exact n_min (a := z47.toInt) (b := z50.toInt) rfl rfl
          refine v_iadd hx hb dX4_findSums_142 _ rfl ?_
          refine lv_topi (fun z62 e_z62 => ?_)
          refine va_iast hx hb hK hP hD hS 42 0 rfl rfl (vin (by decide +kernel)) dX4_findSums_143 (fun H_61 locs_61 hP_61 hD_61 hS_61 => ?_)
          obtain ⟨ai63, e_ai63⟩ : ∃ q : Nat → Nat → Int32, q = va_up ai 42 (upd (ai 42) (1 : Int32).toNatClampNeg z62) := ⟨_, rfl⟩
          have hF_62 := FR_st hF e_ai63 (by decide)
          have hI_63 : IAX ai63 := by rw [e_ai63]; exact hI
          have hP_64 : va_P (dC, dI) vwCl (WX cI cJ cII cJJ ad f3_unknowns f3_equations f2_roundSupports f2_stale f7_size f1_size f5_keptSize f5_aheadSize f0_solved f4_blockCount f4_blockLength f4_lastIsFree f4_stale ai63 al w0 w1 w2 w3) H_61 := by rw [e_ai63]; exact hP_61
          have hD_65 : va_D A (WX cI cJ cII cJJ ad f3_unknowns f3_equations f2_roundSupports f2_stale f7_size f1_size f5_keptSize f5_aheadSize f0_solved f4_blockCount f4_blockLength f4_lastIsFree f4_stale ai63 al w0 w1 w2 w3) := by rw [e_ai63]; exact hD_61
          refine lv_aload_n hx hb dX4_findSums_144 rfl (lv_at hl_49 2 rfl) ?_
          refine gf (k := 7) hx hb hts inX4 hown hK hP_64 k_212 rfl (by decide) rfl 29 rfl (.ref (ad 46)) rfl dX4_findSums_145 ?_
          refine lv_iload_n hx hb dX4_findSums_148 rfl (lv_at hl_49 4 rfl) ?_
          refine ld_a hx hb hK hP_64 46 2 rfl rfl (vin (by decide +kernel)) dX4_findSums_149 (ad 48) rfl ?_
          refine lv_iload_n hx hb dX4_findSums_150 rfl (lv_at hl_49 3 rfl) ?_
          refine lv_aload_n hx hb dX4_findSums_151 rfl (lv_at hl_49 2 rfl) ?_
          refine gf (k := 7) hx hb hts inX4 hown hK hP_64 k_212 rfl (by decide) rfl 29 rfl (.ref (ad 46)) rfl dX4_findSums_152 ?_
          refine lv_iload_n hx hb dX4_findSums_155 rfl (lv_at hl_49 4 rfl) ?_
          refine lv_iconst (v := 1) hx hb dX4_findSums_156 (by decide) ?_
          refine v_iadd hx hb dX4_findSums_157 2 (by decide +kernel) ?_
          refine ld_a hx hb hK hP_64 46 2 rfl rfl (vin (by decide +kernel)) dX4_findSums_158 (ad 49) rfl ?_
          refine lv_iload_n hx hb dX4_findSums_159 rfl (lv_at hl_49 3 rfl) ?_
          refine va_iald hx hb hK hP_64 49 0 rfl rfl (vin (by decide +kernel)) dX4_findSums_160 ?_
          refine lv_topi (fun z64 e_z64 => ?_)
          have k_z64 : z64.toInt = (ai63 49 1).toInt := by rw [e_z64]; rfl
          refine lv_iload_n hx hb dX4_findSums_161 rfl (lv_at hl_49 1 rfl) ?_
          refine lv_iload hx hb dX4_findSums_162 (lv_at hl_49 0 rfl) ?_
          refine va_mmax hx hb (by rw [hml]; exact hl_49.1.symm) hown (hts _ k_667) (hts _ k_445) (hts _ k_13) (hts _ k_446) (by decide) (Nat.le_of_ble_eq_true rfl) (Nat.le_of_ble_eq_true rfl) (Nat.le_of_ble_eq_true rfl) dX4_findSums_164 ?_
          refine lv_topi (fun z65 e_z65 => ?_)
          have g_z65 : (z65.toInt = z47.toInt ∨ z65.toInt = z50.toInt) ∧ z47.toInt ≤ z65.toInt ∧ z50.toInt ≤ z65.toInt := by rw [e_z65]; exact n_max (a := z47.toInt) (b := z50.toInt) rfl rfl
          refine v_iadd hx hb dX4_findSums_167 _ rfl ?_
          refine lv_topi (fun z66 e_z66 => ?_)
          refine va_iast hx hb hK hP_64 hD_65 hS_61 48 0 rfl rfl (vin (by decide +kernel)) dX4_findSums_168 (fun H_66 locs_66 hP_66 hD_66 hS_66 => ?_)
          obtain ⟨ai67, e_ai67⟩ : ∃ q : Nat → Nat → Int32, q = va_up ai63 48 (upd (ai63 48) (1 : Int32).toNatClampNeg z66) := ⟨_, rfl⟩
          have hF_67 := FR_st hF_62 e_ai67 (by decide)
          have hI_68 : IAX ai67 := by rw [e_ai67]; exact hI_63
          have hP_69 : va_P (dC, dI) vwCl (WX cI cJ cII cJJ ad f3_unknowns f3_equations f2_roundSupports f2_stale f7_size f1_size f5_keptSize f5_aheadSize f0_solved f4_blockCount f4_blockLength f4_lastIsFree f4_stale ai67 al w0 w1 w2 w3) H_66 := by rw [e_ai67]; exact hP_66
          have hD_70 : va_D A (WX cI cJ cII cJJ ad f3_unknowns f3_equations f2_roundSupports f2_stale f7_size f1_size f5_keptSize f5_aheadSize f0_solved f4_blockCount f4_blockLength f4_lastIsFree f4_stale ai67 al w0 w1 w2 w3) := by rw [e_ai67]; exact hD_66
          obtain ⟨z68, e_z68⟩ : ∃ q : Int32, q = 1 + Int32.ofInt (-1) := ⟨_, rfl⟩
          have g_z68 : z68.toInt = 1 + (-1) := by rw [e_z68]; exact n_add (a := 1) (b := (-1)) (by decide +kernel) (by decide +kernel) (by omega) (by omega)
          refine lv_iinc (v := z68) (lv' := [(2, .int z68), (4, .int z50), (3, .int z47), (0, .ref (ad 29)), (1, .int 1)]) hx hb dX4_findSums_169 hl_49 (k := 4) rfl e_z68.symm (by decide) rfl (fun ls_71 hl_71 => ?_)
          refine lv_goto (tgt := 70) hx hb dX4_findSums_172 (by decide) ?_
          exact ih 1 z68 ai67 _ _ _ (by first | omega | decide | (have ka0 := (by decide +kernel : (1 : Int32).toInt = 1); omega)) (by first | omega | decide | (have ka0 := (by decide +kernel : (1 : Int32).toInt = 1); omega)) (by first | omega | decide | (have ka0 := (by decide +kernel : (1 : Int32).toInt = 1); omega)) (by first | omega | decide | (have ka0 := (by decide +kernel : (1 : Int32).toInt = 1); omega)) (by first | omega | decide | (have ka0 := (by decide +kernel : (1 : Int32).toInt = 1); omega)) (by first | omega | decide | (have ka0 := (by decide +kernel : (1 : Int32).toInt = 1); omega)) (by first | omega | decide | (have ka0 := (by decide +kernel : (1 : Int32).toInt = 1); omega)) (by first | omega | decide | (have ka0 := (by decide +kernel : (1 : Int32).toInt = 1); omega)) (by first | omega | decide | (have ka0 := (by decide +kernel : (1 : Int32).toInt = 1); omega)) (by first | omega | decide | (have ka0 := (by decide +kernel : (1 : Int32).toInt = 1); omega)) (by first | omega | decide | (have ka0 := (by decide +kernel : (1 : Int32).toInt = 1); omega)) (by first | omega | decide | (have ka0 := (by decide +kernel : (1 : Int32).toInt = 1); omega)) (by first | omega | decide | (have ka0 := (by decide +kernel : (1 : Int32).toInt = 1); omega)) (by first | omega | decide | (have ka0 := (by decide +kernel : (1 : Int32).toInt = 1); omega)) (by first | omega | decide | (have ka0 := (by decide +kernel : (1 : Int32).toInt = 1); omega)) (by first | omega | decide | (have ka0 := (by decide +kernel : (1 : Int32).toInt = 1); omega)) (by first | omega | decide | (have ka0 := (by decide +kernel : (1 : Int32).toInt = 1); omega)) hI_68 hF_67 hw_w0 hw_w1 hw_w2 hw_w3 hP_69 hD_70 hS_66 (lv_sub hl_71 [3, 4, 0] rfl)
        · have k9 : (2 : Int32).toInt = 2 := by decide +kernel
          refine ld_a hx hb hK hP 40 2 rfl rfl (vin (by decide +kernel)) dX4_findSums_124 (ad 43) rfl ?_
          refine lv_iload_n hx hb dX4_findSums_125 rfl (lv_at hl_49 3 rfl) ?_
          refine lv_aload_n hx hb dX4_findSums_126 rfl (lv_at hl_49 2 rfl) ?_
          refine gf (k := 6) hx hb hts inX4 hown hK hP k_211 rfl (by decide) rfl 29 rfl (.ref (ad 40)) rfl dX4_findSums_127 ?_
          refine lv_iload_n hx hb dX4_findSums_130 rfl (lv_at hl_49 4 rfl) ?_
          refine lv_iconst (v := 1) hx hb dX4_findSums_131 (by decide) ?_
          refine v_iadd hx hb dX4_findSums_132 3 (by decide +kernel) ?_
          refine ld_a hx hb hK hP 40 2 rfl rfl (vin (by decide +kernel)) dX4_findSums_133 (ad 44) rfl ?_
          refine lv_iload_n hx hb dX4_findSums_134 rfl (lv_at hl_49 3 rfl) ?_
          refine va_iald hx hb hK hP 44 0 rfl rfl (vin (by decide +kernel)) dX4_findSums_135 ?_
          refine lv_topi (fun z69 e_z69 => ?_)
          have k_z69 : z69.toInt = (ai 44 1).toInt := by rw [e_z69]; rfl
          refine lv_iload_n hx hb dX4_findSums_136 rfl (lv_at hl_49 1 rfl) ?_
          refine lv_iload hx hb dX4_findSums_137 (lv_at hl_49 0 rfl) ?_
          refine va_mmin hx hb (by rw [hml]; exact hl_49.1.symm) hown (hts _ k_672) (hts _ k_464) (hts _ k_13) (hts _ k_465) (by decide) (Nat.le_of_ble_eq_true rfl) (Nat.le_of_ble_eq_true rfl) (Nat.le_of_ble_eq_true rfl) dX4_findSums_139 ?_
          refine lv_topi (fun z70 e_z70 => ?_)
          have g_z70 : (z70.toInt = z47.toInt ∨ z70.toInt = z50.toInt) ∧ z47.toInt ≥ z70.toInt ∧ z50.toInt ≥ z70.toInt := by rw [e_z70]; exact n_min (a := z47.toInt) (b := z50.toInt) rfl rfl
          refine v_iadd hx hb dX4_findSums_142 _ rfl ?_
          refine lv_topi (fun z71 e_z71 => ?_)
          refine va_iast hx hb hK hP hD hS 43 0 rfl rfl (vin (by decide +kernel)) dX4_findSums_143 (fun H_72 locs_72 hP_72 hD_72 hS_72 => ?_)
          obtain ⟨ai72, e_ai72⟩ : ∃ q : Nat → Nat → Int32, q = va_up ai 43 (upd (ai 43) (1 : Int32).toNatClampNeg z71) := ⟨_, rfl⟩
          have hF_73 := FR_st hF e_ai72 (by decide)
          have hI_74 : IAX ai72 := by rw [e_ai72]; exact hI
          have hP_75 : va_P (dC, dI) vwCl (WX cI cJ cII cJJ ad f3_unknowns f3_equations f2_roundSupports f2_stale f7_size f1_size f5_keptSize f5_aheadSize f0_solved f4_blockCount f4_blockLength f4_lastIsFree f4_stale ai72 al w0 w1 w2 w3) H_72 := by rw [e_ai72]; exact hP_72
          have hD_76 : va_D A (WX cI cJ cII cJJ ad f3_unknowns f3_equations f2_roundSupports f2_stale f7_size f1_size f5_keptSize f5_aheadSize f0_solved f4_blockCount f4_blockLength f4_lastIsFree f4_stale ai72 al w0 w1 w2 w3) := by rw [e_ai72]; exact hD_72
          refine lv_aload_n hx hb dX4_findSums_144 rfl (lv_at hl_49 2 rfl) ?_
          refine gf (k := 7) hx hb hts inX4 hown hK hP_75 k_212 rfl (by decide) rfl 29 rfl (.ref (ad 46)) rfl dX4_findSums_145 ?_
          refine lv_iload_n hx hb dX4_findSums_148 rfl (lv_at hl_49 4 rfl) ?_
          refine ld_a hx hb hK hP_75 46 2 rfl rfl (vin (by decide +kernel)) dX4_findSums_149 (ad 49) rfl ?_
          refine lv_iload_n hx hb dX4_findSums_150 rfl (lv_at hl_49 3 rfl) ?_
          refine lv_aload_n hx hb dX4_findSums_151 rfl (lv_at hl_49 2 rfl) ?_
          refine gf (k := 7) hx hb hts inX4 hown hK hP_75 k_212 rfl (by decide) rfl 29 rfl (.ref (ad 46)) rfl dX4_findSums_152 ?_
          refine lv_iload_n hx hb dX4_findSums_155 rfl (lv_at hl_49 4 rfl) ?_
          refine lv_iconst (v := 1) hx hb dX4_findSums_156 (by decide) ?_
          refine v_iadd hx hb dX4_findSums_157 3 (by decide +kernel) ?_
          refine ld_a hx hb hK hP_75 46 2 rfl rfl (vin (by decide +kernel)) dX4_findSums_158 (ad 50) rfl ?_
          refine lv_iload_n hx hb dX4_findSums_159 rfl (lv_at hl_49 3 rfl) ?_
          refine va_iald hx hb hK hP_75 50 0 rfl rfl (vin (by decide +kernel)) dX4_findSums_160 ?_
          refine lv_topi (fun z73 e_z73 => ?_)
          have k_z73 : z73.toInt = (ai72 50 1).toInt := by rw [e_z73]; rfl
          refine lv_iload_n hx hb dX4_findSums_161 rfl (lv_at hl_49 1 rfl) ?_
          refine lv_iload hx hb dX4_findSums_162 (lv_at hl_49 0 rfl) ?_
          refine va_mmax hx hb (by rw [hml]; exact hl_49.1.symm) hown (hts _ k_667) (hts _ k_445) (hts _ k_13) (hts _ k_446) (by decide) (Nat.le_of_ble_eq_true rfl) (Nat.le_of_ble_eq_true rfl) (Nat.le_of_ble_eq_true rfl) dX4_findSums_164 ?_
          refine lv_topi (fun z74 e_z74 => ?_)
          have g_z74 : (z74.toInt = z47.toInt ∨ z74.toInt = z50.toInt) ∧ z47.toInt ≤ z74.toInt ∧ z50.toInt ≤ z74.toInt := by rw [e_z74]; exact n_max (a := z47.toInt) (b := z50.toInt) rfl rfl
          refine v_iadd hx hb dX4_findSums_167 _ rfl ?_
          refine lv_topi (fun z75 e_z75 => ?_)
          refine va_iast hx hb hK hP_75 hD_76 hS_72 49 0 rfl rfl (vin (by decide +kernel)) dX4_findSums_168 (fun H_77 locs_77 hP_77 hD_77 hS_77 => ?_)
          obtain ⟨ai76, e_ai76⟩ : ∃ q : Nat → Nat → Int32, q = va_up ai72 49 (upd (ai72 49) (1 : Int32).toNatClampNeg z75) := ⟨_, rfl⟩
          have hF_78 := FR_st hF_73 e_ai76 (by decide)
          have hI_79 : IAX ai76 := by rw [e_ai76]; exact hI_74
          have hP_80 : va_P (dC, dI) vwCl (WX cI cJ cII cJJ ad f3_unknowns f3_equations f2_roundSupports f2_stale f7_size f1_size f5_keptSize f5_aheadSize f0_solved f4_blockCount f4_blockLength f4_lastIsFree f4_stale ai76 al w0 w1 w2 w3) H_77 := by rw [e_ai76]; exact hP_77
          have hD_81 : va_D A (WX cI cJ cII cJJ ad f3_unknowns f3_equations f2_roundSupports f2_stale f7_size f1_size f5_keptSize f5_aheadSize f0_solved f4_blockCount f4_blockLength f4_lastIsFree f4_stale ai76 al w0 w1 w2 w3) := by rw [e_ai76]; exact hD_77
          obtain ⟨z77, e_z77⟩ : ∃ q : Int32, q = 2 + Int32.ofInt (-1) := ⟨_, rfl⟩
          have g_z77 : z77.toInt = 2 + (-1) := by rw [e_z77]; exact n_add (a := 2) (b := (-1)) (by decide +kernel) (by decide +kernel) (by omega) (by omega)
          refine lv_iinc (v := z77) (lv' := [(2, .int z77), (4, .int z50), (3, .int z47), (0, .ref (ad 29)), (1, .int 1)]) hx hb dX4_findSums_169 hl_49 (k := 4) rfl e_z77.symm (by decide) rfl (fun ls_82 hl_82 => ?_)
          refine lv_goto (tgt := 70) hx hb dX4_findSums_172 (by decide) ?_
          exact ih 1 z77 ai76 _ _ _ (by first | omega | decide | (have ka0 := (by decide +kernel : (1 : Int32).toInt = 1); omega)) (by first | omega | decide | (have ka0 := (by decide +kernel : (1 : Int32).toInt = 1); omega)) (by first | omega | decide | (have ka0 := (by decide +kernel : (1 : Int32).toInt = 1); omega)) (by first | omega | decide | (have ka0 := (by decide +kernel : (1 : Int32).toInt = 1); omega)) (by first | omega | decide | (have ka0 := (by decide +kernel : (1 : Int32).toInt = 1); omega)) (by first | omega | decide | (have ka0 := (by decide +kernel : (1 : Int32).toInt = 1); omega)) (by first | omega | decide | (have ka0 := (by decide +kernel : (1 : Int32).toInt = 1); omega)) (by first | omega | decide | (have ka0 := (by decide +kernel : (1 : Int32).toInt = 1); omega)) (by first | omega | decide | (have ka0 := (by decide +kernel : (1 : Int32).toInt = 1); omega)) (by first | omega | decide | (have ka0 := (by decide +kernel : (1 : Int32).toInt = 1); omega)) (by first | omega | decide | (have ka0 := (by decide +kernel : (1 : Int32).toInt = 1); omega)) (by first | omega | decide | (have ka0 := (by decide +kernel : (1 : Int32).toInt = 1); omega)) (by first | omega | decide | (have ka0 := (by decide +kernel : (1 : Int32).toInt = 1); omega)) (by first | omega | decide | (have ka0 := (by decide +kernel : (1 : Int32).toInt = 1); omega)) (by first | omega | decide | (have ka0 := (by decide +kernel : (1 : Int32).toInt = 1); omega)) (by first | omega | decide | (have ka0 := (by decide +kernel : (1 : Int32).toInt = 1); omega)) (by first | omega | decide | (have ka0 := (by decide +kernel : (1 : Int32).toInt = 1); omega)) hI_79 hF_78 hw_w0 hw_w1 hw_w2 hw_w3 hP_80 hD_81 hS_77 (lv_sub hl_82 [3, 4, 0] rfl)
        · have k9 : (3 : Int32).toInt = 3 := by decide +kernel
          refine ld_a hx hb hK hP 40 2 rfl rfl (vin (by decide +kernel)) dX4_findSums_124 (ad 44) rfl ?_
          refine lv_iload_n hx hb dX4_findSums_125 rfl (lv_at hl_49 3 rfl) ?_
          refine lv_aload_n hx hb dX4_findSums_126 rfl (lv_at hl_49 2 rfl) ?_
          refine gf (k := 6) hx hb hts inX4 hown hK hP k_211 rfl (by decide) rfl 29 rfl (.ref (ad 40)) rfl dX4_findSums_127 ?_
          refine lv_iload_n hx hb dX4_findSums_130 rfl (lv_at hl_49 4 rfl) ?_
          refine lv_iconst (v := 1) hx hb dX4_findSums_131 (by decide) ?_
          refine v_iadd hx hb dX4_findSums_132 4 (by decide +kernel) ?_
          refine ld_a hx hb hK hP 40 2 rfl rfl (vin (by decide +kernel)) dX4_findSums_133 (ad 45) rfl ?_
          refine lv_iload_n hx hb dX4_findSums_134 rfl (lv_at hl_49 3 rfl) ?_
          refine va_iald hx hb hK hP 45 0 rfl rfl (vin (by decide +kernel)) dX4_findSums_135 ?_
          refine lv_topi (fun z78 e_z78 => ?_)
          have k_z78 : z78.toInt = (ai 45 1).toInt := by rw [e_z78]; rfl
          refine lv_iload_n hx hb dX4_findSums_136 rfl (lv_at hl_49 1 rfl) ?_
          refine lv_iload hx hb dX4_findSums_137 (lv_at hl_49 0 rfl) ?_
          refine va_mmin hx hb (by rw [hml]; exact hl_49.1.symm) hown (hts _ k_672) (hts _ k_464) (hts _ k_13) (hts _ k_465) (by decide) (Nat.le_of_ble_eq_true rfl) (Nat.le_of_ble_eq_true rfl) (Nat.le_of_ble_eq_true rfl) dX4_findSums_139 ?_
          refine lv_topi (fun z79 e_z79 => ?_)
          have g_z79 : (z79.toInt = z47.toInt ∨ z79.toInt = z50.toInt) ∧ z47.toInt ≥ z79.toInt ∧ z50.toInt ≥ z79.toInt := by rw [e_z79]; exact n_min (a := z47.toInt) (b := z50.toInt) rfl rfl
          refine v_iadd hx hb dX4_findSums_142 _ rfl ?_
          refine lv_topi (fun z80 e_z80 => ?_)
          refine va_iast hx hb hK hP hD hS 44 0 rfl rfl (vin (by decide +kernel)) dX4_findSums_143 (fun H_83 locs_83 hP_83 hD_83 hS_83 => ?_)
          obtain ⟨ai81, e_ai81⟩ : ∃ q : Nat → Nat → Int32, q = va_up ai 44 (upd (ai 44) (1 : Int32).toNatClampNeg z80) := ⟨_, rfl⟩
          have hF_84 := FR_st hF e_ai81 (by decide)
          have hI_85 : IAX ai81 := by rw [e_ai81]; exact hI
          have hP_86 : va_P (dC, dI) vwCl (WX cI cJ cII cJJ ad f3_unknowns f3_equations f2_roundSupports f2_stale f7_size f1_size f5_keptSize f5_aheadSize f0_solved f4_blockCount f4_blockLength f4_lastIsFree f4_stale ai81 al w0 w1 w2 w3) H_83 := by rw [e_ai81]; exact hP_83
          have hD_87 : va_D A (WX cI cJ cII cJJ ad f3_unknowns f3_equations f2_roundSupports f2_stale f7_size f1_size f5_keptSize f5_aheadSize f0_solved f4_blockCount f4_blockLength f4_lastIsFree f4_stale ai81 al w0 w1 w2 w3) := by rw [e_ai81]; exact hD_83
          refine lv_aload_n hx hb dX4_findSums_144 rfl (lv_at hl_49 2 rfl) ?_
          refine gf (k := 7) hx hb hts inX4 hown hK hP_86 k_212 rfl (by decide) rfl 29 rfl (.ref (ad 46)) rfl dX4_findSums_145 ?_
          refine lv_iload_n hx hb dX4_findSums_148 rfl (lv_at hl_49 4 rfl) ?_
          refine ld_a hx hb hK hP_86 46 2 rfl rfl (vin (by decide +kernel)) dX4_findSums_149 (ad 50) rfl ?_
          refine lv_iload_n hx hb dX4_findSums_150 rfl (lv_at hl_49 3 rfl) ?_
          refine lv_aload_n hx hb dX4_findSums_151 rfl (lv_at hl_49 2 rfl) ?_
          refine gf (k := 7) hx hb hts inX4 hown hK hP_86 k_212 rfl (by decide) rfl 29 rfl (.ref (ad 46)) rfl dX4_findSums_152 ?_
          refine lv_iload_n hx hb dX4_findSums_155 rfl (lv_at hl_49 4 rfl) ?_
          refine lv_iconst (v := 1) hx hb dX4_findSums_156 (by decide) ?_
          refine v_iadd hx hb dX4_findSums_157 4 (by decide +kernel) ?_
          refine ld_a hx hb hK hP_86 46 2 rfl rfl (vin (by decide +kernel)) dX4_findSums_158 (ad 51) rfl ?_
          refine lv_iload_n hx hb dX4_findSums_159 rfl (lv_at hl_49 3 rfl) ?_
          refine va_iald hx hb hK hP_86 51 0 rfl rfl (vin (by decide +kernel)) dX4_findSums_160 ?_
          refine lv_topi (fun z82 e_z82 => ?_)
          have k_z82 : z82.toInt = (ai81 51 1).toInt := by rw [e_z82]; rfl
          refine lv_iload_n hx hb dX4_findSums_161 rfl (lv_at hl_49 1 rfl) ?_
          refine lv_iload hx hb dX4_findSums_162 (lv_at hl_49 0 rfl) ?_
          refine va_mmax hx hb (by rw [hml]; exact hl_49.1.symm) hown (hts _ k_667) (hts _ k_445) (hts _ k_13) (hts _ k_446) (by decide) (Nat.le_of_ble_eq_true rfl) (Nat.le_of_ble_eq_true rfl) (Nat.le_of_ble_eq_true rfl) dX4_findSums_164 ?_
          refine lv_topi (fun z83 e_z83 => ?_)
          have g_z83 : (z83.toInt = z47.toInt ∨ z83.toInt = z50.toInt) ∧ z47.toInt ≤ z83.toInt ∧ z50.toInt ≤ z83.toInt := by rw [e_z83]; exact n_max (a := z47.toInt) (b := z50.toInt) rfl rfl
          refine v_iadd hx hb dX4_findSums_167 _ rfl ?_
          refine lv_topi (fun z84 e_z84 => ?_)
          refine va_iast hx hb hK hP_86 hD_87 hS_83 50 0 rfl rfl (vin (by decide +kernel)) dX4_findSums_168 (fun H_88 locs_88 hP_88 hD_88 hS_88 => ?_)
          obtain ⟨ai85, e_ai85⟩ : ∃ q : Nat → Nat → Int32, q = va_up ai81 50 (upd (ai81 50) (1 : Int32).toNatClampNeg z84) := ⟨_, rfl⟩
          have hF_89 := FR_st hF_84 e_ai85 (by decide)
          have hI_90 : IAX ai85 := by rw [e_ai85]; exact hI_85
          have hP_91 : va_P (dC, dI) vwCl (WX cI cJ cII cJJ ad f3_unknowns f3_equations f2_roundSupports f2_stale f7_size f1_size f5_keptSize f5_aheadSize f0_solved f4_blockCount f4_blockLength f4_lastIsFree f4_stale ai85 al w0 w1 w2 w3) H_88 := by rw [e_ai85]; exact hP_88
          have hD_92 : va_D A (WX cI cJ cII cJJ ad f3_unknowns f3_equations f2_roundSupports f2_stale f7_size f1_size f5_keptSize f5_aheadSize f0_solved f4_blockCount f4_blockLength f4_lastIsFree f4_stale ai85 al w0 w1 w2 w3) := by rw [e_ai85]; exact hD_88
          obtain ⟨z86, e_z86⟩ : ∃ q : Int32, q = 3 + Int32.ofInt (-1) := ⟨_, rfl⟩
          have g_z86 : z86.toInt = 3 + (-1) := by rw [e_z86]; exact n_add (a := 3) (b := (-1)) (by decide +kernel) (by decide +kernel) (by omega) (by omega)
          refine lv_iinc (v := z86) (lv' := [(2, .int z86), (4, .int z50), (3, .int z47), (0, .ref (ad 29)), (1, .int 1)]) hx hb dX4_findSums_169 hl_49 (k := 4) rfl e_z86.symm (by decide) rfl (fun ls_93 hl_93 => ?_)
          refine lv_goto (tgt := 70) hx hb dX4_findSums_172 (by decide) ?_
          exact ih 1 z86 ai85 _ _ _ (by first | omega | decide | (have ka0 := (by decide +kernel : (1 : Int32).toInt = 1); omega)) (by first | omega | decide | (have ka0 := (by decide +kernel : (1 : Int32).toInt = 1); omega)) (by first | omega | decide | (have ka0 := (by decide +kernel : (1 : Int32).toInt = 1); omega)) (by first | omega | decide | (have ka0 := (by decide +kernel : (1 : Int32).toInt = 1); omega)) (by first | omega | decide | (have ka0 := (by decide +kernel : (1 : Int32).toInt = 1); omega)) (by first | omega | decide | (have ka0 := (by decide +kernel : (1 : Int32).toInt = 1); omega)) (by first | omega | decide | (have ka0 := (by decide +kernel : (1 : Int32).toInt = 1); omega)) (by first | omega | decide | (have ka0 := (by decide +kernel : (1 : Int32).toInt = 1); omega)) (by first | omega | decide | (have ka0 := (by decide +kernel : (1 : Int32).toInt = 1); omega)) (by first | omega | decide | (have ka0 := (by decide +kernel : (1 : Int32).toInt = 1); omega)) (by first | omega | decide | (have ka0 := (by decide +kernel : (1 : Int32).toInt = 1); omega)) (by first | omega | decide | (have ka0 := (by decide +kernel : (1 : Int32).toInt = 1); omega)) (by first | omega | decide | (have ka0 := (by decide +kernel : (1 : Int32).toInt = 1); omega)) (by first | omega | decide | (have ka0 := (by decide +kernel : (1 : Int32).toInt = 1); omega)) (by first | omega | decide | (have ka0 := (by decide +kernel : (1 : Int32).toInt = 1); omega)) (by first | omega | decide | (have ka0 := (by decide +kernel : (1 : Int32).toInt = 1); omega)) (by first | omega | decide | (have ka0 := (by decide +kernel : (1 : Int32).toInt = 1); omega)) hI_90 hF_89 hw_w0 hw_w1 hw_w2 hw_w3 hP_91 hD_92 hS_88 (lv_sub hl_93 [3, 4, 0] rfl)
      · have k9 : (2 : Int32).toInt = 2 := by decide +kernel
        refine ld_a hx hb hK hP 1 2 rfl rfl (vin (by decide +kernel)) dX4_findSums_82 (ad 4) rfl ?_
        refine lv_iload_n hx hb dX4_findSums_83 rfl (lv_at hl 2 rfl) ?_
        refine va_iald hx hb hK hP 4 0 rfl rfl (j_in (a := L2.toInt) rfl (by omega) (by omega)) dX4_findSums_84 ?_
        refine lv_topi (fun z87 e_z87 => ?_)
        have g_z87 : -6 ≤ z87.toInt ∧ z87.toInt ≤ 6 := by rw [e_z87]; exact IAX_at4 hI _
        refine lv_aload_n hx hb dX4_findSums_85 rfl (lv_at hl 0 rfl) ?_
        refine gf (k := 0) hx hb hts inX4 hown hK hP k_205 rfl (by decide) rfl 29 rfl (.ref (ad 6)) rfl dX4_findSums_86 ?_
        refine gf (k := 4) hx hb hts inX3 hown hK hP k_57 rfl (by decide) rfl 6 rfl (.ref (ad 7)) rfl dX4_findSums_89 ?_
        refine lv_iload_n hx hb dX4_findSums_92 rfl (lv_at hl 2 rfl) ?_
        refine va_iald hx hb hK hP 7 0 rfl rfl (j_in (a := L2.toInt) rfl (by omega) (by omega)) dX4_findSums_93 ?_
        refine lv_topi (fun z88 e_z88 => ?_)
        have g_z88 : -10 ≤ z88.toInt ∧ z88.toInt ≤ 10 := by rw [e_z88]; exact IAX_at7 hI _
        refine v_imul hx hb dX4_findSums_94 _ rfl ?_
        refine lv_topi (fun z89 e_z89 => ?_)
        refine lv_istore_n (lv' := [(3, .int z89), (0, .ref (ad 29)), (1, .int 2), (2, .int L2)]) hx hb dX4_findSums_95 rfl hl (by decide) rfl (fun ls_94 hl_94 => ?_)
        refine lv_aload_n hx hb dX4_findSums_96 rfl (lv_at hl_94 1 rfl) ?_
        refine gf (k := 0) hx hb hts inX4 hown hK hP k_205 rfl (by decide) rfl 29 rfl (.ref (ad 6)) rfl dX4_findSums_97 ?_
        refine gf (k := 2) hx hb hts inX3 hown hK hP k_52 rfl (by decide) rfl 6 rfl (.ref (ad 1)) rfl dX4_findSums_100 ?_
        refine lv_iload_n hx hb dX4_findSums_103 rfl (lv_at hl_94 2 rfl) ?_
        refine ld_a hx hb hK hP 1 2 rfl rfl (vin (by decide +kernel)) dX4_findSums_104 (ad 4) rfl ?_
        refine lv_iload_n hx hb dX4_findSums_105 rfl (lv_at hl_94 3 rfl) ?_
        refine va_iald hx hb hK hP 4 0 rfl rfl (j_in (a := L2.toInt) rfl (by omega) (by omega)) dX4_findSums_106 ?_
        refine lv_topi (fun z90 e_z90 => ?_)
        have g_z90 : -6 ≤ z90.toInt ∧ z90.toInt ≤ 6 := by rw [e_z90]; exact IAX_at4 hI _
        refine lv_aload_n hx hb dX4_findSums_107 rfl (lv_at hl_94 1 rfl) ?_
        refine gf (k := 0) hx hb hts inX4 hown hK hP k_205 rfl (by decide) rfl 29 rfl (.ref (ad 6)) rfl dX4_findSums_108 ?_
        refine gf (k := 5) hx hb hts inX3 hown hK hP k_61 rfl (by decide) rfl 6 rfl (.ref (ad 8)) rfl dX4_findSums_111 ?_
        refine lv_iload_n hx hb dX4_findSums_114 rfl (lv_at hl_94 3 rfl) ?_
        refine va_iald hx hb hK hP 8 0 rfl rfl (j_in (a := L2.toInt) rfl (by omega) (by omega)) dX4_findSums_115 ?_
        refine lv_topi (fun z91 e_z91 => ?_)
        have g_z91 : -10 ≤ z91.toInt ∧ z91.toInt ≤ 10 := by rw [e_z91]; exact IAX_at8 hI _
        refine v_imul hx hb dX4_findSums_116 _ rfl ?_
        refine lv_topi (fun z92 e_z92 => ?_)
        refine lv_istore (lv' := [(4, .int z92), (3, .int z89), (0, .ref (ad 29)), (1, .int 2), (2, .int L2)]) hx hb dX4_findSums_117 hl_94 (by decide) rfl (fun ls_95 hl_95 => ?_)
        refine lv_aload_n hx hb dX4_findSums_119 rfl (lv_at hl_95 2 rfl) ?_
        refine gf (k := 6) hx hb hts inX4 hown hK hP k_211 rfl (by decide) rfl 29 rfl (.ref (ad 40)) rfl dX4_findSums_120 ?_
        refine lv_iload_n hx hb dX4_findSums_123 rfl (lv_at hl_95 4 rfl) ?_
        rcases (show L2 = 0 ∨ L2 = 1 ∨ L2 = 2 ∨ L2 = 3 from j_cases4 (a := L2.toInt) rfl (by omega) (by omega)) with rfl | rfl | rfl | rfl
        · have k9 : (0 : Int32).toInt = 0 := by decide +kernel
          refine ld_a hx hb hK hP 40 2 rfl rfl (vin (by decide +kernel)) dX4_findSums_124 (ad 41) rfl ?_
          refine lv_iload_n hx hb dX4_findSums_125 rfl (lv_at hl_95 3 rfl) ?_
          refine lv_aload_n hx hb dX4_findSums_126 rfl (lv_at hl_95 2 rfl) ?_
          refine gf (k := 6) hx hb hts inX4 hown hK hP k_211 rfl (by decide) rfl 29 rfl (.ref (ad 40)) rfl dX4_findSums_127 ?_
          refine lv_iload_n hx hb dX4_findSums_130 rfl (lv_at hl_95 4 rfl) ?_
          refine lv_iconst (v := 1) hx hb dX4_findSums_131 (by decide) ?_
          refine v_iadd hx hb dX4_findSums_132 1 (by decide +kernel) ?_
          refine ld_a hx hb hK hP 40 2 rfl rfl (vin (by decide +kernel)) dX4_findSums_133 (ad 42) rfl ?_
          refine lv_iload_n hx hb dX4_findSums_134 rfl (lv_at hl_95 3 rfl) ?_
          refine va_iald hx hb hK hP 42 0 rfl rfl (vin (by decide +kernel)) dX4_findSums_135 ?_
          refine lv_topi (fun z93 e_z93 => ?_)
          have k_z93 : z93.toInt = (ai 42 2).toInt := by rw [e_z93]; rfl
          refine lv_iload_n hx hb dX4_findSums_136 rfl (lv_at hl_95 1 rfl) ?_
          refine lv_iload hx hb dX4_findSums_137 (lv_at hl_95 0 rfl) ?_
          refine va_mmin hx hb (by rw [hml]; exact hl_95.1.symm) hown (hts _ k_672) (hts _ k_464) (hts _ k_13) (hts _ k_465) (by decide) (Nat.le_of_ble_eq_true rfl) (Nat.le_of_ble_eq_true rfl) (Nat.le_of_ble_eq_true rfl) dX4_findSums_139 ?_
          refine lv_topi (fun z94 e_z94 => ?_)
          have g_z94 : (z94.toInt = z89.toInt ∨ z94.toInt = z92.toInt) ∧ z89.toInt ≥ z94.toInt ∧ z92.toInt ≥ z94.toInt := by rw [e_z94]; exact n_min (a := z89.toInt) (b := z92.toInt) rfl rfl
          refine v_iadd hx hb dX4_findSums_142 _ rfl ?_
          refine lv_topi (fun z95 e_z95 => ?_)
          refine va_iast hx hb hK hP hD hS 41 0 rfl rfl (vin (by decide +kernel)) dX4_findSums_143 (fun H_96 locs_96 hP_96 hD_96 hS_96 => ?_)
          obtain ⟨ai96, e_ai96⟩ : ∃ q : Nat → Nat → Int32, q = va_up ai 41 (upd (ai 41) (2 : Int32).toNatClampNeg z95) := ⟨_, rfl⟩
          have hF_97 := FR_st hF e_ai96 (by decide)
          have hI_98 : IAX ai96 := by rw [e_ai96]; exact hI
          have hP_99 : va_P (dC, dI) vwCl (WX cI cJ cII cJJ ad f3_unknowns f3_equations f2_roundSupports f2_stale f7_size f1_size f5_keptSize f5_aheadSize f0_solved f4_blockCount f4_blockLength f4_lastIsFree f4_stale ai96 al w0 w1 w2 w3) H_96 := by rw [e_ai96]; exact hP_96
          have hD_100 : va_D A (WX cI cJ cII cJJ ad f3_unknowns f3_equations f2_roundSupports f2_stale f7_size f1_size f5_keptSize f5_aheadSize f0_solved f4_blockCount f4_blockLength f4_lastIsFree f4_stale ai96 al w0 w1 w2 w3) := by rw [e_ai96]; exact hD_96
          refine lv_aload_n hx hb dX4_findSums_144 rfl (lv_at hl_95 2 rfl) ?_
          refine gf (k := 7) hx hb hts inX4 hown hK hP_99 k_212 rfl (by decide) rfl 29 rfl (.ref (ad 46)) rfl dX4_findSums_145 ?_
          refine lv_iload_n hx hb dX4_findSums_148 rfl (lv_at hl_95 4 rfl) ?_
          refine ld_a hx hb hK hP_99 46 2 rfl rfl (vin (by decide +kernel)) dX4_findSums_149 (ad 47) rfl ?_
          refine lv_iload_n hx hb dX4_findSums_150 rfl (lv_at hl_95 3 rfl) ?_
          refine lv_aload_n hx hb dX4_findSums_151 rfl (lv_at hl_95 2 rfl) ?_
          refine gf (k := 7) hx hb hts inX4 hown hK hP_99 k_212 rfl (by decide) rfl 29 rfl (.ref (ad 46)) rfl dX4_findSums_152 ?_
          refine lv_iload_n hx hb dX4_findSums_155 rfl (lv_at hl_95 4 rfl) ?_
          refine lv_iconst (v := 1) hx hb dX4_findSums_156 (by decide) ?_
          refine v_iadd hx hb dX4_findSums_157 1 (by decide +kernel) ?_
          refine ld_a hx hb hK hP_99 46 2 rfl rfl (vin (by decide +kernel)) dX4_findSums_158 (ad 48) rfl ?_
          refine lv_iload_n hx hb dX4_findSums_159 rfl (lv_at hl_95 3 rfl) ?_
          refine va_iald hx hb hK hP_99 48 0 rfl rfl (vin (by decide +kernel)) dX4_findSums_160 ?_
          refine lv_topi (fun z97 e_z97 => ?_)
          have k_z97 : z97.toInt = (ai96 48 2).toInt := by rw [e_z97]; rfl
          refine lv_iload_n hx hb dX4_findSums_161 rfl (lv_at hl_95 1 rfl) ?_
          refine lv_iload hx hb dX4_findSums_162 (lv_at hl_95 0 rfl) ?_
          refine va_mmax hx hb (by rw [hml]; exact hl_95.1.symm) hown (hts _ k_667) (hts _ k_445) (hts _ k_13) (hts _ k_446) (by decide) (Nat.le_of_ble_eq_true rfl) (Nat.le_of_ble_eq_true rfl) (Nat.le_of_ble_eq_true rfl) dX4_findSums_164 ?_
          refine lv_topi (fun z98 e_z98 => ?_)
          have g_z98 : (z98.toInt = z89.toInt ∨ z98.toInt = z92.toInt) ∧ z89.toInt ≤ z98.toInt ∧ z92.toInt ≤ z98.toInt := by rw [e_z98]; exact n_max (a := z89.toInt) (b := z92.toInt) rfl rfl
          refine v_iadd hx hb dX4_findSums_167 _ rfl ?_
          refine lv_topi (fun z99 e_z99 => ?_)
          refine va_iast hx hb hK hP_99 hD_100 hS_96 47 0 rfl rfl (vin (by decide +kernel)) dX4_findSums_168 (fun H_101 locs_101 hP_101 hD_101 hS_101 => ?_)
          obtain ⟨ai100, e_ai100⟩ : ∃ q : Nat → Nat → Int32, q = va_up ai96 47 (upd (ai96 47) (2 : Int32).toNatClampNeg z99) := ⟨_, rfl⟩
          have hF_102 := FR_st hF_97 e_ai100 (by decide)
          have hI_103 : IAX ai100 := by rw [e_ai100]; exact hI_98
          have hP_104 : va_P (dC, dI) vwCl (WX cI cJ cII cJJ ad f3_unknowns f3_equations f2_roundSupports f2_stale f7_size f1_size f5_keptSize f5_aheadSize f0_solved f4_blockCount f4_blockLength f4_lastIsFree f4_stale ai100 al w0 w1 w2 w3) H_101 := by rw [e_ai100]; exact hP_101
          have hD_105 : va_D A (WX cI cJ cII cJJ ad f3_unknowns f3_equations f2_roundSupports f2_stale f7_size f1_size f5_keptSize f5_aheadSize f0_solved f4_blockCount f4_blockLength f4_lastIsFree f4_stale ai100 al w0 w1 w2 w3) := by rw [e_ai100]; exact hD_101
          obtain ⟨z101, e_z101⟩ : ∃ q : Int32, q = 0 + Int32.ofInt (-1) := ⟨_, rfl⟩
          have g_z101 : z101.toInt = 0 + (-1) := by rw [e_z101]; exact n_add (a := 0) (b := (-1)) (by decide +kernel) (by decide +kernel) (by omega) (by omega)
          refine lv_iinc (v := z101) (lv' := [(2, .int z101), (4, .int z92), (3, .int z89), (0, .ref (ad 29)), (1, .int 2)]) hx hb dX4_findSums_169 hl_95 (k := 4) rfl e_z101.symm (by decide) rfl (fun ls_106 hl_106 => ?_)
          refine lv_goto (tgt := 70) hx hb dX4_findSums_172 (by decide) ?_
          exact ih 2 z101 ai100 _ _ _ (by first | omega | decide | (have ka0 := (by decide +kernel : (2 : Int32).toInt = 2); omega)) (by first | omega | decide | (have ka0 := (by decide +kernel : (2 : Int32).toInt = 2); omega)) (by first | omega | decide | (have ka0 := (by decide +kernel : (2 : Int32).toInt = 2); omega)) (by first | omega | decide | (have ka0 := (by decide +kernel : (2 : Int32).toInt = 2); omega)) (by first | omega | decide | (have ka0 := (by decide +kernel : (2 : Int32).toInt = 2); omega)) (by first | omega | decide | (have ka0 := (by decide +kernel : (2 : Int32).toInt = 2); omega)) (by first | omega | decide | (have ka0 := (by decide +kernel : (2 : Int32).toInt = 2); omega)) (by first | omega | decide | (have ka0 := (by decide +kernel : (2 : Int32).toInt = 2); omega)) (by first | omega | decide | (have ka0 := (by decide +kernel : (2 : Int32).toInt = 2); omega)) (by first | omega | decide | (have ka0 := (by decide +kernel : (2 : Int32).toInt = 2); omega)) (by first | omega | decide | (have ka0 := (by decide +kernel : (2 : Int32).toInt = 2); omega)) (by first | omega | decide | (have ka0 := (by decide +kernel : (2 : Int32).toInt = 2); omega)) (by first | omega | decide | (have ka0 := (by decide +kernel : (2 : Int32).toInt = 2); omega)) (by first | omega | decide | (have ka0 := (by decide +kernel : (2 : Int32).toInt = 2); omega)) (by first | omega | decide | (have ka0 := (by decide +kernel : (2 : Int32).toInt = 2); omega)) (by first | omega | decide | (have ka0 := (by decide +kernel : (2 : Int32).toInt = 2); omega)) (by first | omega | decide | (have ka0 := (by decide +kernel : (2 : Int32).toInt = 2); omega)) hI_103 hF_102 hw_w0 hw_w1 hw_w2 hw_w3 hP_104 hD_105 hS_101 (lv_sub hl_106 [3, 4, 0] rfl)
        · have k9 : (1 : Int32).toInt = 1 := by decide +kernel
          refine ld_a hx hb hK hP 40 2 rfl rfl (vin (by decide +kernel)) dX4_findSums_124 (ad 42) rfl ?_
          refine lv_iload_n hx hb dX4_findSums_125 rfl (lv_at hl_95 3 rfl) ?_
          refine lv_aload_n hx hb dX4_findSums_126 rfl (lv_at hl_95 2 rfl) ?_
          refine gf (k := 6) hx hb hts inX4 hown hK hP k_211 rfl (by decide) rfl 29 rfl (.ref (ad 40)) rfl dX4_findSums_127 ?_
          refine lv_iload_n hx hb dX4_findSums_130 rfl (lv_at hl_95 4 rfl) ?_
          refine lv_iconst (v := 1) hx hb dX4_findSums_131 (by decide) ?_
          refine v_iadd hx hb dX4_findSums_132 2 (by decide +kernel) ?_
          refine ld_a hx hb hK hP 40 2 rfl rfl (vin (by decide +kernel)) dX4_findSums_133 (ad 43) rfl ?_
          refine lv_iload_n hx hb dX4_findSums_134 rfl (lv_at hl_95 3 rfl) ?_
          refine va_iald hx hb hK hP 43 0 rfl rfl (vin (by decide +kernel)) dX4_findSums_135 ?_
          refine lv_topi (fun z102 e_z102 => ?_)
          have k_z102 : z102.toInt = (ai 43 2).toInt := by rw [e_z102]; rfl
          refine lv_iload_n hx hb dX4_findSums_136 rfl (lv_at hl_95 1 rfl) ?_
          refine lv_iload hx hb dX4_findSums_137 (lv_at hl_95 0 rfl) ?_
          refine va_mmin hx hb (by rw [hml]; exact hl_95.1.symm) hown (hts _ k_672) (hts _ k_464) (hts _ k_13) (hts _ k_465) (by decide) (Nat.le_of_ble_eq_true rfl) (Nat.le_of_ble_eq_true rfl) (Nat.le_of_ble_eq_true rfl) dX4_findSums_139 ?_
          refine lv_topi (fun z103 e_z103 => ?_)
          have g_z103 : (z103.toInt = z89.toInt ∨ z103.toInt = z92.toInt) ∧ z89.toInt ≥ z103.toInt ∧ z92.toInt ≥ z103.toInt := by rw [e_z103]; exact n_min (a := z89.toInt) (b := z92.toInt) rfl rfl
          refine v_iadd hx hb dX4_findSums_142 _ rfl ?_
          refine lv_topi (fun z104 e_z104 => ?_)
          refine va_iast hx hb hK hP hD hS 42 0 rfl rfl (vin (by decide +kernel)) dX4_findSums_143 (fun H_107 locs_107 hP_107 hD_107 hS_107 => ?_)
          obtain ⟨ai105, e_ai105⟩ : ∃ q : Nat → Nat → Int32, q = va_up ai 42 (upd (ai 42) (2 : Int32).toNatClampNeg z104) := ⟨_, rfl⟩
          have hF_108 := FR_st hF e_ai105 (by decide)
          have hI_109 : IAX ai105 := by rw [e_ai105]; exact hI
          have hP_110 : va_P (dC, dI) vwCl (WX cI cJ cII cJJ ad f3_unknowns f3_equations f2_roundSupports f2_stale f7_size f1_size f5_keptSize f5_aheadSize f0_solved f4_blockCount f4_blockLength f4_lastIsFree f4_stale ai105 al w0 w1 w2 w3) H_107 := by rw [e_ai105]; exact hP_107
          have hD_111 : va_D A (WX cI cJ cII cJJ ad f3_unknowns f3_equations f2_roundSupports f2_stale f7_size f1_size f5_keptSize f5_aheadSize f0_solved f4_blockCount f4_blockLength f4_lastIsFree f4_stale ai105 al w0 w1 w2 w3) := by rw [e_ai105]; exact hD_107
          refine lv_aload_n hx hb dX4_findSums_144 rfl (lv_at hl_95 2 rfl) ?_
          refine gf (k := 7) hx hb hts inX4 hown hK hP_110 k_212 rfl (by decide) rfl 29 rfl (.ref (ad 46)) rfl dX4_findSums_145 ?_
          refine lv_iload_n hx hb dX4_findSums_148 rfl (lv_at hl_95 4 rfl) ?_
          refine ld_a hx hb hK hP_110 46 2 rfl rfl (vin (by decide +kernel)) dX4_findSums_149 (ad 48) rfl ?_
          refine lv_iload_n hx hb dX4_findSums_150 rfl (lv_at hl_95 3 rfl) ?_
          refine lv_aload_n hx hb dX4_findSums_151 rfl (lv_at hl_95 2 rfl) ?_
          refine gf (k := 7) hx hb hts inX4 hown hK hP_110 k_212 rfl (by decide) rfl 29 rfl (.ref (ad 46)) rfl dX4_findSums_152 ?_
          refine lv_iload_n hx hb dX4_findSums_155 rfl (lv_at hl_95 4 rfl) ?_
          refine lv_iconst (v := 1) hx hb dX4_findSums_156 (by decide) ?_
          refine v_iadd hx hb dX4_findSums_157 2 (by decide +kernel) ?_
          refine ld_a hx hb hK hP_110 46 2 rfl rfl (vin (by decide +kernel)) dX4_findSums_158 (ad 49) rfl ?_
          refine lv_iload_n hx hb dX4_findSums_159 rfl (lv_at hl_95 3 rfl) ?_
          refine va_iald hx hb hK hP_110 49 0 rfl rfl (vin (by decide +kernel)) dX4_findSums_160 ?_
          refine lv_topi (fun z106 e_z106 => ?_)
          have k_z106 : z106.toInt = (ai105 49 2).toInt := by rw [e_z106]; rfl
          refine lv_iload_n hx hb dX4_findSums_161 rfl (lv_at hl_95 1 rfl) ?_
          refine lv_iload hx hb dX4_findSums_162 (lv_at hl_95 0 rfl) ?_
          refine va_mmax hx hb (by rw [hml]; exact hl_95.1.symm) hown (hts _ k_667) (hts _ k_445) (hts _ k_13) (hts _ k_446) (by decide) (Nat.le_of_ble_eq_true rfl) (Nat.le_of_ble_eq_true rfl) (Nat.le_of_ble_eq_true rfl) dX4_findSums_164 ?_
          refine lv_topi (fun z107 e_z107 => ?_)
          have g_z107 : (z107.toInt = z89.toInt ∨ z107.toInt = z92.toInt) ∧ z89.toInt ≤ z107.toInt ∧ z92.toInt ≤ z107.toInt := by rw [e_z107]; exact n_max (a := z89.toInt) (b := z92.toInt) rfl rfl
          refine v_iadd hx hb dX4_findSums_167 _ rfl ?_
          refine lv_topi (fun z108 e_z108 => ?_)
          refine va_iast hx hb hK hP_110 hD_111 hS_107 48 0 rfl rfl (vin (by decide +kernel)) dX4_findSums_168 (fun H_112 locs_112 hP_112 hD_112 hS_112 => ?_)
          obtain ⟨ai109, e_ai109⟩ : ∃ q : Nat → Nat → Int32, q = va_up ai105 48 (upd (ai105 48) (2 : Int32).toNatClampNeg z108) := ⟨_, rfl⟩
          have hF_113 := FR_st hF_108 e_ai109 (by decide)
          have hI_114 : IAX ai109 := by rw [e_ai109]; exact hI_109
          have hP_115 : va_P (dC, dI) vwCl (WX cI cJ cII cJJ ad f3_unknowns f3_equations f2_roundSupports f2_stale f7_size f1_size f5_keptSize f5_aheadSize f0_solved f4_blockCount f4_blockLength f4_lastIsFree f4_stale ai109 al w0 w1 w2 w3) H_112 := by rw [e_ai109]; exact hP_112
          have hD_116 : va_D A (WX cI cJ cII cJJ ad f3_unknowns f3_equations f2_roundSupports f2_stale f7_size f1_size f5_keptSize f5_aheadSize f0_solved f4_blockCount f4_blockLength f4_lastIsFree f4_stale ai109 al w0 w1 w2 w3) := by rw [e_ai109]; exact hD_112
          obtain ⟨z110, e_z110⟩ : ∃ q : Int32, q = 1 + Int32.ofInt (-1) := ⟨_, rfl⟩
          have g_z110 : z110.toInt = 1 + (-1) := by rw [e_z110]; exact n_add (a := 1) (b := (-1)) (by decide +kernel) (by decide +kernel) (by omega) (by omega)
          refine lv_iinc (v := z110) (lv' := [(2, .int z110), (4, .int z92), (3, .int z89), (0, .ref (ad 29)), (1, .int 2)]) hx hb dX4_findSums_169 hl_95 (k := 4) rfl e_z110.symm (by decide) rfl (fun ls_117 hl_117 => ?_)
          refine lv_goto (tgt := 70) hx hb dX4_findSums_172 (by decide) ?_
          exact ih 2 z110 ai109 _ _ _ (by first | omega | decide | (have ka0 := (by decide +kernel : (2 : Int32).toInt = 2); omega)) (by first | omega | decide | (have ka0 := (by decide +kernel : (2 : Int32).toInt = 2); omega)) (by first | omega | decide | (have ka0 := (by decide +kernel : (2 : Int32).toInt = 2); omega)) (by first | omega | decide | (have ka0 := (by decide +kernel : (2 : Int32).toInt = 2); omega)) (by first | omega | decide | (have ka0 := (by decide +kernel : (2 : Int32).toInt = 2); omega)) (by first | omega | decide | (have ka0 := (by decide +kernel : (2 : Int32).toInt = 2); omega)) (by first | omega | decide | (have ka0 := (by decide +kernel : (2 : Int32).toInt = 2); omega)) (by first | omega | decide | (have ka0 := (by decide +kernel : (2 : Int32).toInt = 2); omega)) (by first | omega | decide | (have ka0 := (by decide +kernel : (2 : Int32).toInt = 2); omega)) (by first | omega | decide | (have ka0 := (by decide +kernel : (2 : Int32).toInt = 2); omega)) (by first | omega | decide | (have ka0 := (by decide +kernel : (2 : Int32).toInt = 2); omega)) (by first | omega | decide | (have ka0 := (by decide +kernel : (2 : Int32).toInt = 2); omega)) (by first | omega | decide | (have ka0 := (by decide +kernel : (2 : Int32).toInt = 2); omega)) (by first | omega | decide | (have ka0 := (by decide +kernel : (2 : Int32).toInt = 2); omega)) (by first | omega | decide | (have ka0 := (by decide +kernel : (2 : Int32).toInt = 2); omega)) (by first | omega | decide | (have ka0 := (by decide +kernel : (2 : Int32).toInt = 2); omega)) (by first | omega | decide | (have ka0 := (by decide +kernel : (2 : Int32).toInt = 2); omega)) hI_114 hF_113 hw_w0 hw_w1 hw_w2 hw_w3 hP_115 hD_116 hS_112 (lv_sub hl_117 [3, 4, 0] rfl)
        · have k9 : (2 : Int32).toInt = 2 := by decide +kernel
          refine ld_a hx hb hK hP 40 2 rfl rfl (vin (by decide +kernel)) dX4_findSums_124 (ad 43) rfl ?_
          refine lv_iload_n hx hb dX4_findSums_125 rfl (lv_at hl_95 3 rfl) ?_
          refine lv_aload_n hx hb dX4_findSums_126 rfl (lv_at hl_95 2 rfl) ?_
          refine gf (k := 6) hx hb hts inX4 hown hK hP k_211 rfl (by decide) rfl 29 rfl (.ref (ad 40)) rfl dX4_findSums_127 ?_
          refine lv_iload_n hx hb dX4_findSums_130 rfl (lv_at hl_95 4 rfl) ?_
          refine lv_iconst (v := 1) hx hb dX4_findSums_131 (by decide) ?_
          refine v_iadd hx hb dX4_findSums_132 3 (by decide +kernel) ?_
          refine ld_a hx hb hK hP 40 2 rfl rfl (vin (by decide +kernel)) dX4_findSums_133 (ad 44) rfl ?_
          refine lv_iload_n hx hb dX4_findSums_134 rfl (lv_at hl_95 3 rfl) ?_
          refine va_iald hx hb hK hP 44 0 rfl rfl (vin (by decide +kernel)) dX4_findSums_135 ?_
          refine lv_topi (fun z111 e_z111 => ?_)
          have k_z111 : z111.toInt = (ai 44 2).toInt := by rw [e_z111]; rfl
          refine lv_iload_n hx hb dX4_findSums_136 rfl (lv_at hl_95 1 rfl) ?_
          refine lv_iload hx hb dX4_findSums_137 (lv_at hl_95 0 rfl) ?_
          refine va_mmin hx hb (by rw [hml]; exact hl_95.1.symm) hown (hts _ k_672) (hts _ k_464) (hts _ k_13) (hts _ k_465) (by decide) (Nat.le_of_ble_eq_true rfl) (Nat.le_of_ble_eq_true rfl) (Nat.le_of_ble_eq_true rfl) dX4_findSums_139 ?_
          refine lv_topi (fun z112 e_z112 => ?_)
          have g_z112 : (z112.toInt = z89.toInt ∨ z112.toInt = z92.toInt) ∧ z89.toInt ≥ z112.toInt ∧ z92.toInt ≥ z112.toInt := by rw [e_z112]; exact n_min (a := z89.toInt) (b := z92.toInt) rfl rfl
          refine v_iadd hx hb dX4_findSums_142 _ rfl ?_
          refine lv_topi (fun z113 e_z113 => ?_)
          refine va_iast hx hb hK hP hD hS 43 0 rfl rfl (vin (by decide +kernel)) dX4_findSums_143 (fun H_118 locs_118 hP_118 hD_118 hS_118 => ?_)
          obtain ⟨ai114, e_ai114⟩ : ∃ q : Nat → Nat → Int32, q = va_up ai 43 (upd (ai 43) (2 : Int32).toNatClampNeg z113) := ⟨_, rfl⟩
          have hF_119 := FR_st hF e_ai114 (by decide)
          have hI_120 : IAX ai114 := by rw [e_ai114]; exact hI
          have hP_121 : va_P (dC, dI) vwCl (WX cI cJ cII cJJ ad f3_unknowns f3_equations f2_roundSupports f2_stale f7_size f1_size f5_keptSize f5_aheadSize f0_solved f4_blockCount f4_blockLength f4_lastIsFree f4_stale ai114 al w0 w1 w2 w3) H_118 := by rw [e_ai114]; exact hP_118
          have hD_122 : va_D A (WX cI cJ cII cJJ ad f3_unknowns f3_equations f2_roundSupports f2_stale f7_size f1_size f5_keptSize f5_aheadSize f0_solved f4_blockCount f4_blockLength f4_lastIsFree f4_stale ai114 al w0 w1 w2 w3) := by rw [e_ai114]; exact hD_118
          refine lv_aload_n hx hb dX4_findSums_144 rfl (lv_at hl_95 2 rfl) ?_
          refine gf (k := 7) hx hb hts inX4 hown hK hP_121 k_212 rfl (by decide) rfl 29 rfl (.ref (ad 46)) rfl dX4_findSums_145 ?_
          refine lv_iload_n hx hb dX4_findSums_148 rfl (lv_at hl_95 4 rfl) ?_
          refine ld_a hx hb hK hP_121 46 2 rfl rfl (vin (by decide +kernel)) dX4_findSums_149 (ad 49) rfl ?_
          refine lv_iload_n hx hb dX4_findSums_150 rfl (lv_at hl_95 3 rfl) ?_
          refine lv_aload_n hx hb dX4_findSums_151 rfl (lv_at hl_95 2 rfl) ?_
          refine gf (k := 7) hx hb hts inX4 hown hK hP_121 k_212 rfl (by decide) rfl 29 rfl (.ref (ad 46)) rfl dX4_findSums_152 ?_
          refine lv_iload_n hx hb dX4_findSums_155 rfl (lv_at hl_95 4 rfl) ?_
          refine lv_iconst (v := 1) hx hb dX4_findSums_156 (by decide) ?_
          refine v_iadd hx hb dX4_findSums_157 3 (by decide +kernel) ?_
          refine ld_a hx hb hK hP_121 46 2 rfl rfl (vin (by decide +kernel)) dX4_findSums_158 (ad 50) rfl ?_
          refine lv_iload_n hx hb dX4_findSums_159 rfl (lv_at hl_95 3 rfl) ?_
          refine va_iald hx hb hK hP_121 50 0 rfl rfl (vin (by decide +kernel)) dX4_findSums_160 ?_
          refine lv_topi (fun z115 e_z115 => ?_)
          have k_z115 : z115.toInt = (ai114 50 2).toInt := by rw [e_z115]; rfl
          refine lv_iload_n hx hb dX4_findSums_161 rfl (lv_at hl_95 1 rfl) ?_
          refine lv_iload hx hb dX4_findSums_162 (lv_at hl_95 0 rfl) ?_
          refine va_mmax hx hb (by rw [hml]; exact hl_95.1.symm) hown (hts _ k_667) (hts _ k_445) (hts _ k_13) (hts _ k_446) (by decide) (Nat.le_of_ble_eq_true rfl) (Nat.le_of_ble_eq_true rfl) (Nat.le_of_ble_eq_true rfl) dX4_findSums_164 ?_
          refine lv_topi (fun z116 e_z116 => ?_)
          have g_z116 : (z116.toInt = z89.toInt ∨ z116.toInt = z92.toInt) ∧ z89.toInt ≤ z116.toInt ∧ z92.toInt ≤ z116.toInt := by rw [e_z116]; exact n_max (a := z89.toInt) (b := z92.toInt) rfl rfl
          refine v_iadd hx hb dX4_findSums_167 _ rfl ?_
          refine lv_topi (fun z117 e_z117 => ?_)
          refine va_iast hx hb hK hP_121 hD_122 hS_118 49 0 rfl rfl (vin (by decide +kernel)) dX4_findSums_168 (fun H_123 locs_123 hP_123 hD_123 hS_123 => ?_)
          obtain ⟨ai118, e_ai118⟩ : ∃ q : Nat → Nat → Int32, q = va_up ai114 49 (upd (ai114 49) (2 : Int32).toNatClampNeg z117) := ⟨_, rfl⟩
          have hF_124 := FR_st hF_119 e_ai118 (by decide)
          have hI_125 : IAX ai118 := by rw [e_ai118]; exact hI_120
          have hP_126 : va_P (dC, dI) vwCl (WX cI cJ cII cJJ ad f3_unknowns f3_equations f2_roundSupports f2_stale f7_size f1_size f5_keptSize f5_aheadSize f0_solved f4_blockCount f4_blockLength f4_lastIsFree f4_stale ai118 al w0 w1 w2 w3) H_123 := by rw [e_ai118]; exact hP_123
          have hD_127 : va_D A (WX cI cJ cII cJJ ad f3_unknowns f3_equations f2_roundSupports f2_stale f7_size f1_size f5_keptSize f5_aheadSize f0_solved f4_blockCount f4_blockLength f4_lastIsFree f4_stale ai118 al w0 w1 w2 w3) := by rw [e_ai118]; exact hD_123
          obtain ⟨z119, e_z119⟩ : ∃ q : Int32, q = 2 + Int32.ofInt (-1) := ⟨_, rfl⟩
          have g_z119 : z119.toInt = 2 + (-1) := by rw [e_z119]; exact n_add (a := 2) (b := (-1)) (by decide +kernel) (by decide +kernel) (by omega) (by omega)
          refine lv_iinc (v := z119) (lv' := [(2, .int z119), (4, .int z92), (3, .int z89), (0, .ref (ad 29)), (1, .int 2)]) hx hb dX4_findSums_169 hl_95 (k := 4) rfl e_z119.symm (by decide) rfl (fun ls_128 hl_128 => ?_)
          refine lv_goto (tgt := 70) hx hb dX4_findSums_172 (by decide) ?_
          exact ih 2 z119 ai118 _ _ _ (by first | omega | decide | (have ka0 := (by decide +kernel : (2 : Int32).toInt = 2); omega)) (by first | omega | decide | (have ka0 := (by decide +kernel : (2 : Int32).toInt = 2); omega)) (by first | omega | decide | (have ka0 := (by decide +kernel : (2 : Int32).toInt = 2); omega)) (by first | omega | decide | (have ka0 := (by decide +kernel : (2 : Int32).toInt = 2); omega)) (by first | omega | decide | (have ka0 := (by decide +kernel : (2 : Int32).toInt = 2); omega)) (by first | omega | decide | (have ka0 := (by decide +kernel : (2 : Int32).toInt = 2); omega)) (by first | omega | decide | (have ka0 := (by decide +kernel : (2 : Int32).toInt = 2); omega)) (by first | omega | decide | (have ka0 := (by decide +kernel : (2 : Int32).toInt = 2); omega)) (by first | omega | decide | (have ka0 := (by decide +kernel : (2 : Int32).toInt = 2); omega)) (by first | omega | decide | (have ka0 := (by decide +kernel : (2 : Int32).toInt = 2); omega)) (by first | omega | decide | (have ka0 := (by decide +kernel : (2 : Int32).toInt = 2); omega)) (by first | omega | decide | (have ka0 := (by decide +kernel : (2 : Int32).toInt = 2); omega)) (by first | omega | decide | (have ka0 := (by decide +kernel : (2 : Int32).toInt = 2); omega)) (by first | omega | decide | (have ka0 := (by decide +kernel : (2 : Int32).toInt = 2); omega)) (by first | omega | decide | (have ka0 := (by decide +kernel : (2 : Int32).toInt = 2); omega)) (by first | omega | decide | (have ka0 := (by decide +kernel : (2 : Int32).toInt = 2); omega)) (by first | omega | decide | (have ka0 := (by decide +kernel : (2 : Int32).toInt = 2); omega)) hI_125 hF_124 hw_w0 hw_w1 hw_w2 hw_w3 hP_126 hD_127 hS_123 (lv_sub hl_128 [3, 4, 0] rfl)
        · have k9 : (3 : Int32).toInt = 3 := by decide +kernel
          refine ld_a hx hb hK hP 40 2 rfl rfl (vin (by decide +kernel)) dX4_findSums_124 (ad 44) rfl ?_
          refine lv_iload_n hx hb dX4_findSums_125 rfl (lv_at hl_95 3 rfl) ?_
          refine lv_aload_n hx hb dX4_findSums_126 rfl (lv_at hl_95 2 rfl) ?_
          refine gf (k := 6) hx hb hts inX4 hown hK hP k_211 rfl (by decide) rfl 29 rfl (.ref (ad 40)) rfl dX4_findSums_127 ?_
          refine lv_iload_n hx hb dX4_findSums_130 rfl (lv_at hl_95 4 rfl) ?_
          refine lv_iconst (v := 1) hx hb dX4_findSums_131 (by decide) ?_
          refine v_iadd hx hb dX4_findSums_132 4 (by decide +kernel) ?_
          refine ld_a hx hb hK hP 40 2 rfl rfl (vin (by decide +kernel)) dX4_findSums_133 (ad 45) rfl ?_
          refine lv_iload_n hx hb dX4_findSums_134 rfl (lv_at hl_95 3 rfl) ?_
          refine va_iald hx hb hK hP 45 0 rfl rfl (vin (by decide +kernel)) dX4_findSums_135 ?_
          refine lv_topi (fun z120 e_z120 => ?_)
          have k_z120 : z120.toInt = (ai 45 2).toInt := by rw [e_z120]; rfl
          refine lv_iload_n hx hb dX4_findSums_136 rfl (lv_at hl_95 1 rfl) ?_
          refine lv_iload hx hb dX4_findSums_137 (lv_at hl_95 0 rfl) ?_
          refine va_mmin hx hb (by rw [hml]; exact hl_95.1.symm) hown (hts _ k_672) (hts _ k_464) (hts _ k_13) (hts _ k_465) (by decide) (Nat.le_of_ble_eq_true rfl) (Nat.le_of_ble_eq_true rfl) (Nat.le_of_ble_eq_true rfl) dX4_findSums_139 ?_
          refine lv_topi (fun z121 e_z121 => ?_)
          have g_z121 : (z121.toInt = z89.toInt ∨ z121.toInt = z92.toInt) ∧ z89.toInt ≥ z121.toInt ∧ z92.toInt ≥ z121.toInt := by rw [e_z121]; exact n_min (a := z89.toInt) (b := z92.toInt) rfl rfl
          refine v_iadd hx hb dX4_findSums_142 _ rfl ?_
          refine lv_topi (fun z122 e_z122 => ?_)
          refine va_iast hx hb hK hP hD hS 44 0 rfl rfl (vin (by decide +kernel)) dX4_findSums_143 (fun H_129 locs_129 hP_129 hD_129 hS_129 => ?_)
          obtain ⟨ai123, e_ai123⟩ : ∃ q : Nat → Nat → Int32, q = va_up ai 44 (upd (ai 44) (2 : Int32).toNatClampNeg z122) := ⟨_, rfl⟩
          have hF_130 := FR_st hF e_ai123 (by decide)
          have hI_131 : IAX ai123 := by rw [e_ai123]; exact hI
          have hP_132 : va_P (dC, dI) vwCl (WX cI cJ cII cJJ ad f3_unknowns f3_equations f2_roundSupports f2_stale f7_size f1_size f5_keptSize f5_aheadSize f0_solved f4_blockCount f4_blockLength f4_lastIsFree f4_stale ai123 al w0 w1 w2 w3) H_129 := by rw [e_ai123]; exact hP_129
          have hD_133 : va_D A (WX cI cJ cII cJJ ad f3_unknowns f3_equations f2_roundSupports f2_stale f7_size f1_size f5_keptSize f5_aheadSize f0_solved f4_blockCount f4_blockLength f4_lastIsFree f4_stale ai123 al w0 w1 w2 w3) := by rw [e_ai123]; exact hD_129
          refine lv_aload_n hx hb dX4_findSums_144 rfl (lv_at hl_95 2 rfl) ?_
          refine gf (k := 7) hx hb hts inX4 hown hK hP_132 k_212 rfl (by decide) rfl 29 rfl (.ref (ad 46)) rfl dX4_findSums_145 ?_
          refine lv_iload_n hx hb dX4_findSums_148 rfl (lv_at hl_95 4 rfl) ?_
          refine ld_a hx hb hK hP_132 46 2 rfl rfl (vin (by decide +kernel)) dX4_findSums_149 (ad 50) rfl ?_
          refine lv_iload_n hx hb dX4_findSums_150 rfl (lv_at hl_95 3 rfl) ?_
          refine lv_aload_n hx hb dX4_findSums_151 rfl (lv_at hl_95 2 rfl) ?_
          refine gf (k := 7) hx hb hts inX4 hown hK hP_132 k_212 rfl (by decide) rfl 29 rfl (.ref (ad 46)) rfl dX4_findSums_152 ?_
          refine lv_iload_n hx hb dX4_findSums_155 rfl (lv_at hl_95 4 rfl) ?_
          refine lv_iconst (v := 1) hx hb dX4_findSums_156 (by decide) ?_
          refine v_iadd hx hb dX4_findSums_157 4 (by decide +kernel) ?_
          refine ld_a hx hb hK hP_132 46 2 rfl rfl (vin (by decide +kernel)) dX4_findSums_158 (ad 51) rfl ?_
          refine lv_iload_n hx hb dX4_findSums_159 rfl (lv_at hl_95 3 rfl) ?_
          refine va_iald hx hb hK hP_132 51 0 rfl rfl (vin (by decide +kernel)) dX4_findSums_160 ?_
          refine lv_topi (fun z124 e_z124 => ?_)
          have k_z124 : z124.toInt = (ai123 51 2).toInt := by rw [e_z124]; rfl
          refine lv_iload_n hx hb dX4_findSums_161 rfl (lv_at hl_95 1 rfl) ?_
          refine lv_iload hx hb dX4_findSums_162 (lv_at hl_95 0 rfl) ?_
          refine va_mmax hx hb (by rw [hml]; exact hl_95.1.symm) hown (hts _ k_667) (hts _ k_445) (hts _ k_13) (hts _ k_446) (by decide) (Nat.le_of_ble_eq_true rfl) (Nat.le_of_ble_eq_true rfl) (Nat.le_of_ble_eq_true rfl) dX4_findSums_164 ?_
          refine lv_topi (fun z125 e_z125 => ?_)
          have g_z125 : (z125.toInt = z89.toInt ∨ z125.toInt = z92.toInt) ∧ z89.toInt ≤ z125.toInt ∧ z92.toInt ≤ z125.toInt := by rw [e_z125]; exact n_max (a := z89.toInt) (b := z92.toInt) rfl rfl
          refine v_iadd hx hb dX4_findSums_167 _ rfl ?_
          refine lv_topi (fun z126 e_z126 => ?_)
          refine va_iast hx hb hK hP_132 hD_133 hS_129 50 0 rfl rfl (vin (by decide +kernel)) dX4_findSums_168 (fun H_134 locs_134 hP_134 hD_134 hS_134 => ?_)
          obtain ⟨ai127, e_ai127⟩ : ∃ q : Nat → Nat → Int32, q = va_up ai123 50 (upd (ai123 50) (2 : Int32).toNatClampNeg z126) := ⟨_, rfl⟩
          have hF_135 := FR_st hF_130 e_ai127 (by decide)
          have hI_136 : IAX ai127 := by rw [e_ai127]; exact hI_131
          have hP_137 : va_P (dC, dI) vwCl (WX cI cJ cII cJJ ad f3_unknowns f3_equations f2_roundSupports f2_stale f7_size f1_size f5_keptSize f5_aheadSize f0_solved f4_blockCount f4_blockLength f4_lastIsFree f4_stale ai127 al w0 w1 w2 w3) H_134 := by rw [e_ai127]; exact hP_134
          have hD_138 : va_D A (WX cI cJ cII cJJ ad f3_unknowns f3_equations f2_roundSupports f2_stale f7_size f1_size f5_keptSize f5_aheadSize f0_solved f4_blockCount f4_blockLength f4_lastIsFree f4_stale ai127 al w0 w1 w2 w3) := by rw [e_ai127]; exact hD_134
          obtain ⟨z128, e_z128⟩ : ∃ q : Int32, q = 3 + Int32.ofInt (-1) := ⟨_, rfl⟩
          have g_z128 : z128.toInt = 3 + (-1) := by rw [e_z128]; exact n_add (a := 3) (b := (-1)) (by decide +kernel) (by decide +kernel) (by omega) (by omega)
          refine lv_iinc (v := z128) (lv' := [(2, .int z128), (4, .int z92), (3, .int z89), (0, .ref (ad 29)), (1, .int 2)]) hx hb dX4_findSums_169 hl_95 (k := 4) rfl e_z128.symm (by decide) rfl (fun ls_139 hl_139 => ?_)
          refine lv_goto (tgt := 70) hx hb dX4_findSums_172 (by decide) ?_
          exact ih 2 z128 ai127 _ _ _ (by first | omega | decide | (have ka0 := (by decide +kernel : (2 : Int32).toInt = 2); omega)) (by first | omega | decide | (have ka0 := (by decide +kernel : (2 : Int32).toInt = 2); omega)) (by first | omega | decide | (have ka0 := (by decide +kernel : (2 : Int32).toInt = 2); omega)) (by first | omega | decide | (have ka0 := (by decide +kernel : (2 : Int32).toInt = 2); omega)) (by first | omega | decide | (have ka0 := (by decide +kernel : (2 : Int32).toInt = 2); omega)) (by first | omega | decide | (have ka0 := (by decide +kernel : (2 : Int32).toInt = 2); omega)) (by first | omega | decide | (have ka0 := (by decide +kernel : (2 : Int32).toInt = 2); omega)) (by first | omega | decide | (have ka0 := (by decide +kernel : (2 : Int32).toInt = 2); omega)) (by first | omega | decide | (have ka0 := (by decide +kernel : (2 : Int32).toInt = 2); omega)) (by first | omega | decide | (have ka0 := (by decide +kernel : (2 : Int32).toInt = 2); omega)) (by first | omega | decide | (have ka0 := (by decide +kernel : (2 : Int32).toInt = 2); omega)) (by first | omega | decide | (have ka0 := (by decide +kernel : (2 : Int32).toInt = 2); omega)) (by first | omega | decide | (have ka0 := (by decide +kernel : (2 : Int32).toInt = 2); omega)) (by first | omega | decide | (have ka0 := (by decide +kernel : (2 : Int32).toInt = 2); omega)) (by first | omega | decide | (have ka0 := (by decide +kernel : (2 : Int32).toInt = 2); omega)) (by first | omega | decide | (have ka0 := (by decide +kernel : (2 : Int32).toInt = 2); omega)) (by first | omega | decide | (have ka0 := (by decide +kernel : (2 : Int32).toInt = 2); omega)) hI_136 hF_135 hw_w0 hw_w1 hw_w2 hw_w3 hP_137 hD_138 hS_134 (lv_sub hl_139 [3, 4, 0] rfl)
set_option maxRecDepth 100000 in
set_option maxHeartbeats 4000000 in
theorem m073_X4_findSums_b2 {p : Program} {l : Launch} {e : Env} {s : State} {m : MethodId} {args : Array Value} {below : List Frame} {meth : Method} {c : Code} {A : Nat → Prop} {dC : Nat → ClassId} {dI : Nat → Nat → Nat} {cI cJ cII cJJ : ClassId} {ad : Nat → Nat} {g : Nat} {f3_unknowns f3_equations f2_roundSupports f2_stale f7_size f1_size f5_keptSize f5_aheadSize f0_solved f4_blockCount f4_blockLength f4_lastIsFree f4_stale : Int32} {ai0 : Nat → Nat → Int32} {al : Nat → Nat → Int64} {w0 w1 w2 w3 : Nat} (C : Cx p c s m meth args A dC dI (TY cI cJ cII cJJ) cX4_findSums none 5 RX4 0 g) : ∀ (n : Nat), ∀ (L1 : Int32) (ai : Nat → Nat → Int32) (H : Heap) (locs : List Loc) (ls : Array Slot), (0 ≤ L1.toInt ∧ L1.toInt ≤ 3) → (1 ≤ f3_unknowns.toInt ∧ f3_unknowns.toInt ≤ 4) → (0 ≤ f3_equations.toInt ∧ f3_equations.toInt ≤ 3) → (0 ≤ f2_stale.toInt ∧ f2_stale.toInt ≤ 1) → (0 ≤ f7_size.toInt ∧ f7_size.toInt ≤ 256) → (0 ≤ f1_size.toInt ∧ f1_size.toInt ≤ 4) → (0 ≤ f5_keptSize.toInt ∧ f5_keptSize.toInt ≤ 128) → (0 ≤ f5_aheadSize.toInt ∧ f5_aheadSize.toInt ≤ 128) → (0 ≤ f4_blockCount.toInt ∧ f4_blockCount.toInt ≤ 9261) → (0 ≤ f4_blockLength.toInt ∧ f4_blockLength.toInt ≤ 21) → (0 ≤ f4_lastIsFree.toInt ∧ f4_lastIsFree.toInt ≤ 1) → (0 ≤ f4_stale.toInt ∧ f4_stale.toInt ≤ 1) → f3_equations.toInt - L1.toInt < (n : Int) → (0 : Int) < (n : Int) → IAX ai → FR [35, 41, 42, 43, 44, 45, 47, 48, 49, 50, 51] ai0 ai → RWX ad w0 → RWX ad w1 → RWX ad w2 → RWX ad w3 → va_P (dC, dI) vwCl (WX cI cJ cII cJJ ad f3_unknowns f3_equations f2_roundSupports f2_stale f7_size f1_size f5_keptSize f5_aheadSize f0_solved f4_blockCount f4_blockLength f4_lastIsFree f4_stale ai al w0 w1 w2 w3) H → va_D A (WX cI cJ cII cJJ ad f3_unknowns f3_equations f2_roundSupports f2_stale f7_size f1_size f5_keptSize f5_aheadSize f0_solved f4_blockCount f4_blockLength f4_lastIsFree f4_stale ai al w0 w1 w2 w3) → va_S A s.heap H locs → lv_has ls 5 [(0, .ref (ad 29)), (1, .int L1)] → W p l e ({ frames := 2, cells := 0, slots := 0, locals := 80 } : Room) s m args below meth c H locs 0 0 (MQ below (Q_m073_X4_findSums dC dI cI cJ cII cJJ ad f3_unknowns f3_equations f2_roundSupports f2_stale f7_size f1_size f5_keptSize f5_aheadSize f0_solved f4_blockCount f4_blockLength f4_lastIsFree f4_stale ai0 al w0 w1 w2 w3 A) args s 0 0 A) (F0 m 2 ls []) := by
  obtain ⟨hx, hb, hr, hml, hown, hts, hk, hA, hK, hX⟩ := id C
  intro n
  induction n with
  | zero =>
    intro L1 ai H locs ls h0 h1 h2 h3 h4 h5 h6 h7 h8 h9 h10 h11 h12 h13 hI hF hw_w0 hw_w1 hw_w2 hw_w3 hP hD hS hl
    exact absurd h13 (by omega)
  | succ n ih =>
    intro L1 ai H locs ls h0 h1 h2 h3 h4 h5 h6 h7 h8 h9 h10 h11 h12 h13 hI hF hw_w0 hw_w1 hw_w2 hw_w3 hP hD hS hl
    refine lv_iload_n hx hb dX4_findSums_2 rfl (lv_at hl 1 rfl) ?_
    refine lv_aload_n hx hb dX4_findSums_3 rfl (lv_at hl 0 rfl) ?_
    refine gf (k := 0) hx hb hts inX4 hown hK hP k_205 rfl (by decide) rfl 29 rfl (.ref (ad 6)) rfl dX4_findSums_4 ?_
    refine gf (k := 1) hx hb hts inX3 hown hK hP k_47 rfl (by decide) rfl 6 rfl (.int f3_equations) rfl dX4_findSums_7 ?_
    refine lv_icmp_ge (tgt := 181) hx hb dX4_findSums_10 (by decide) (fun c1 => ?_) (fun c1 => ?_)
    · have c1 := j_le (a := f3_equations.toInt) (b := L1.toInt) rfl rfl c1
      exact r2_v hx hb hr hk hS dX4_findSums_181 (fun t ht hW => ⟨ai, ⟨hI, hF⟩, by rw [ht]; exact hP, va_K.moved hW.alike hK, hD⟩)
    · have c1 := j_nle (a := f3_equations.toInt) (b := L1.toInt) rfl rfl c1
      refine lv_aload_n hx hb dX4_findSums_13 rfl (lv_at hl 0 rfl) ?_
      refine gf (k := 5) hx hb hts inX4 hown hK hP k_210 rfl (by decide) rfl 29 rfl (.ref (ad 34)) rfl dX4_findSums_14 ?_
      refine lv_iconst (v := 0) hx hb dX4_findSums_17 (by decide) ?_
      refine ld_a hx hb hK hP 34 2 rfl rfl (vin (by decide +kernel)) dX4_findSums_18 (ad 35) rfl ?_
      refine lv_iload_n hx hb dX4_findSums_19 rfl (lv_at hl 1 rfl) ?_
      refine lv_aload_n hx hb dX4_findSums_20 rfl (lv_at hl 0 rfl) ?_
      refine gf (k := 0) hx hb hts inX4 hown hK hP k_205 rfl (by decide) rfl 29 rfl (.ref (ad 6)) rfl dX4_findSums_21 ?_
      refine gf (k := 3) hx hb hts inX3 hown hK hP k_55 rfl (by decide) rfl 6 rfl (.ref (ad 5)) rfl dX4_findSums_24 ?_
      refine lv_iload_n hx hb dX4_findSums_27 rfl (lv_at hl 1 rfl) ?_
      refine va_iald hx hb hK hP 5 0 rfl rfl (j_in (a := L1.toInt) rfl (by omega) (by omega)) dX4_findSums_28 ?_
      refine lv_topi (fun z2 e_z2 => ?_)
      refine va_iast hx hb hK hP hD hS 35 0 rfl rfl (j_in (a := L1.toInt) rfl (by omega) (by omega)) dX4_findSums_29 (fun H_1 locs_1 hP_1 hD_1 hS_1 => ?_)
      obtain ⟨ai3, e_ai3⟩ : ∃ q : Nat → Nat → Int32, q = va_up ai 35 (upd (ai 35) L1.toNatClampNeg z2) := ⟨_, rfl⟩
      have hF_2 := FR_st hF e_ai3 (by decide)
      have hI_3 : IAX ai3 := by rw [e_ai3]; exact hI
      have hP_4 : va_P (dC, dI) vwCl (WX cI cJ cII cJJ ad f3_unknowns f3_equations f2_roundSupports f2_stale f7_size f1_size f5_keptSize f5_aheadSize f0_solved f4_blockCount f4_blockLength f4_lastIsFree f4_stale ai3 al w0 w1 w2 w3) H_1 := by rw [e_ai3]; exact hP_1
      have hD_5 : va_D A (WX cI cJ cII cJJ ad f3_unknowns f3_equations f2_roundSupports f2_stale f7_size f1_size f5_keptSize f5_aheadSize f0_solved f4_blockCount f4_blockLength f4_lastIsFree f4_stale ai3 al w0 w1 w2 w3) := by rw [e_ai3]; exact hD_1
      refine lv_aload_n hx hb dX4_findSums_30 rfl (lv_at hl 0 rfl) ?_
      refine gf (k := 6) hx hb hts inX4 hown hK hP_4 k_211 rfl (by decide) rfl 29 rfl (.ref (ad 40)) rfl dX4_findSums_31 ?_
      refine lv_aload_n hx hb dX4_findSums_34 rfl (lv_at hl 0 rfl) ?_
      refine gf (k := 0) hx hb hts inX4 hown hK hP_4 k_205 rfl (by decide) rfl 29 rfl (.ref (ad 6)) rfl dX4_findSums_35 ?_
      refine gf (k := 0) hx hb hts inX3 hown hK hP_4 k_39 rfl (by decide) rfl 6 rfl (.int f3_unknowns) rfl dX4_findSums_38 ?_
      rcases (show f3_unknowns = 1 ∨ f3_unknowns = 2 ∨ f3_unknowns = 3 ∨ f3_unknowns = 4 by exact j_casesG1_4 (a := f3_unknowns.toInt) rfl (by omega) (by omega)) with rfl | rfl | rfl | rfl
      · have k9 : (1 : Int32).toInt = 1 := by decide +kernel
        refine ld_a hx hb hK hP_4 40 2 rfl rfl (vin (by decide +kernel)) dX4_findSums_41 (ad 42) rfl ?_
        refine lv_iload_n hx hb dX4_findSums_42 rfl (lv_at hl 1 rfl) ?_
        refine lv_iconst (v := 0) hx hb dX4_findSums_43 (by decide) ?_
        refine va_iast hx hb hK hP_4 hD_5 hS_1 42 0 rfl rfl (j_in (a := L1.toInt) rfl (by omega) (by omega)) dX4_findSums_44 (fun H_6 locs_6 hP_6 hD_6 hS_6 => ?_)
        obtain ⟨ai4, e_ai4⟩ : ∃ q : Nat → Nat → Int32, q = va_up ai3 42 (upd (ai3 42) L1.toNatClampNeg 0) := ⟨_, rfl⟩
        have hF_7 := FR_st hF_2 e_ai4 (by decide)
        have hI_8 : IAX ai4 := by rw [e_ai4]; exact hI_3
        have hP_9 : va_P (dC, dI) vwCl (WX cI cJ cII cJJ ad 1 f3_equations f2_roundSupports f2_stale f7_size f1_size f5_keptSize f5_aheadSize f0_solved f4_blockCount f4_blockLength f4_lastIsFree f4_stale ai4 al w0 w1 w2 w3) H_6 := by rw [e_ai4]; exact hP_6
        have hD_10 : va_D A (WX cI cJ cII cJJ ad 1 f3_equations f2_roundSupports f2_stale f7_size f1_size f5_keptSize f5_aheadSize f0_solved f4_blockCount f4_blockLength f4_lastIsFree f4_stale ai4 al w0 w1 w2 w3) := by rw [e_ai4]; exact hD_6
        refine lv_aload_n hx hb dX4_findSums_45 rfl (lv_at hl 0 rfl) ?_
        refine gf (k := 7) hx hb hts inX4 hown hK hP_9 k_212 rfl (by decide) rfl 29 rfl (.ref (ad 46)) rfl dX4_findSums_46 ?_
        refine lv_aload_n hx hb dX4_findSums_49 rfl (lv_at hl 0 rfl) ?_
        refine gf (k := 0) hx hb hts inX4 hown hK hP_9 k_205 rfl (by decide) rfl 29 rfl (.ref (ad 6)) rfl dX4_findSums_50 ?_
        refine gf (k := 0) hx hb hts inX3 hown hK hP_9 k_39 rfl (by decide) rfl 6 rfl (.int 1) rfl dX4_findSums_53 ?_
        refine ld_a hx hb hK hP_9 46 2 rfl rfl (vin (by decide +kernel)) dX4_findSums_56 (ad 48) rfl ?_
        refine lv_iload_n hx hb dX4_findSums_57 rfl (lv_at hl 1 rfl) ?_
        refine lv_iconst (v := 0) hx hb dX4_findSums_58 (by decide) ?_
        refine va_iast hx hb hK hP_9 hD_10 hS_6 48 0 rfl rfl (j_in (a := L1.toInt) rfl (by omega) (by omega)) dX4_findSums_59 (fun H_11 locs_11 hP_11 hD_11 hS_11 => ?_)
        obtain ⟨ai5, e_ai5⟩ : ∃ q : Nat → Nat → Int32, q = va_up ai4 48 (upd (ai4 48) L1.toNatClampNeg 0) := ⟨_, rfl⟩
        have hF_12 := FR_st hF_7 e_ai5 (by decide)
        have hI_13 : IAX ai5 := by rw [e_ai5]; exact hI_8
        have hP_14 : va_P (dC, dI) vwCl (WX cI cJ cII cJJ ad 1 f3_equations f2_roundSupports f2_stale f7_size f1_size f5_keptSize f5_aheadSize f0_solved f4_blockCount f4_blockLength f4_lastIsFree f4_stale ai5 al w0 w1 w2 w3) H_11 := by rw [e_ai5]; exact hP_11
        have hD_15 : va_D A (WX cI cJ cII cJJ ad 1 f3_equations f2_roundSupports f2_stale f7_size f1_size f5_keptSize f5_aheadSize f0_solved f4_blockCount f4_blockLength f4_lastIsFree f4_stale ai5 al w0 w1 w2 w3) := by rw [e_ai5]; exact hD_11
        refine lv_aload_n hx hb dX4_findSums_60 rfl (lv_at hl 0 rfl) ?_
        refine gf (k := 0) hx hb hts inX4 hown hK hP_14 k_205 rfl (by decide) rfl 29 rfl (.ref (ad 6)) rfl dX4_findSums_61 ?_
        refine gf (k := 0) hx hb hts inX3 hown hK hP_14 k_39 rfl (by decide) rfl 6 rfl (.int 1) rfl dX4_findSums_64 ?_
        refine lv_iconst (v := 1) hx hb dX4_findSums_67 (by decide) ?_
        refine v_isub hx hb dX4_findSums_68 0 (by decide +kernel) ?_
        refine lv_istore_n (lv' := [(2, .int 0), (0, .ref (ad 29)), (1, .int L1)]) hx hb dX4_findSums_69 rfl hl (by decide) rfl (fun ls_16 hl_16 => ?_)
        exact m073_X4_findSums_b70 C n ih _ L1 0 ai5 _ _ _ (by first | omega | decide | (have ka0 := (by decide +kernel : (0 : Int32).toInt = 0); omega)) (by first | omega | decide | (have ka0 := (by decide +kernel : (0 : Int32).toInt = 0); omega)) (by first | omega | decide | (have ka0 := (by decide +kernel : (0 : Int32).toInt = 0); omega)) (by first | omega | decide | (have ka0 := (by decide +kernel : (0 : Int32).toInt = 0); omega)) (by first | omega | decide | (have ka0 := (by decide +kernel : (0 : Int32).toInt = 0); omega)) (by first | omega | decide | (have ka0 := (by decide +kernel : (0 : Int32).toInt = 0); omega)) (by first | omega | decide | (have ka0 := (by decide +kernel : (0 : Int32).toInt = 0); omega)) (by first | omega | decide | (have ka0 := (by decide +kernel : (0 : Int32).toInt = 0); omega)) (by first | omega | decide | (have ka0 := (by decide +kernel : (0 : Int32).toInt = 0); omega)) (by first | omega | decide | (have ka0 := (by decide +kernel : (0 : Int32).toInt = 0); omega)) (by first | omega | decide | (have ka0 := (by decide +kernel : (0 : Int32).toInt = 0); omega)) (by first | omega | decide | (have ka0 := (by decide +kernel : (0 : Int32).toInt = 0); omega)) (by first | omega | decide | (have ka0 := (by decide +kernel : (0 : Int32).toInt = 0); omega)) (by first | omega | decide | (have ka0 := (by decide +kernel : (0 : Int32).toInt = 0); omega)) (by first | omega | decide | (have ka0 := (by decide +kernel : (0 : Int32).toInt = 0); omega)) (j_fuel _) (by omega) hI_13 hF_12 hw_w0 hw_w1 hw_w2 hw_w3 hP_14 hD_15 hS_11 (lv_sub hl_16 [1, 2, 0] rfl)
      · have k9 : (2 : Int32).toInt = 2 := by decide +kernel
        refine ld_a hx hb hK hP_4 40 2 rfl rfl (vin (by decide +kernel)) dX4_findSums_41 (ad 43) rfl ?_
        refine lv_iload_n hx hb dX4_findSums_42 rfl (lv_at hl 1 rfl) ?_
        refine lv_iconst (v := 0) hx hb dX4_findSums_43 (by decide) ?_
        refine va_iast hx hb hK hP_4 hD_5 hS_1 43 0 rfl rfl (j_in (a := L1.toInt) rfl (by omega) (by omega)) dX4_findSums_44 (fun H_17 locs_17 hP_17 hD_17 hS_17 => ?_)
        obtain ⟨ai6, e_ai6⟩ : ∃ q : Nat → Nat → Int32, q = va_up ai3 43 (upd (ai3 43) L1.toNatClampNeg 0) := ⟨_, rfl⟩
        have hF_18 := FR_st hF_2 e_ai6 (by decide)
        have hI_19 : IAX ai6 := by rw [e_ai6]; exact hI_3
        have hP_20 : va_P (dC, dI) vwCl (WX cI cJ cII cJJ ad 2 f3_equations f2_roundSupports f2_stale f7_size f1_size f5_keptSize f5_aheadSize f0_solved f4_blockCount f4_blockLength f4_lastIsFree f4_stale ai6 al w0 w1 w2 w3) H_17 := by rw [e_ai6]; exact hP_17
        have hD_21 : va_D A (WX cI cJ cII cJJ ad 2 f3_equations f2_roundSupports f2_stale f7_size f1_size f5_keptSize f5_aheadSize f0_solved f4_blockCount f4_blockLength f4_lastIsFree f4_stale ai6 al w0 w1 w2 w3) := by rw [e_ai6]; exact hD_17
        refine lv_aload_n hx hb dX4_findSums_45 rfl (lv_at hl 0 rfl) ?_
        refine gf (k := 7) hx hb hts inX4 hown hK hP_20 k_212 rfl (by decide) rfl 29 rfl (.ref (ad 46)) rfl dX4_findSums_46 ?_
        refine lv_aload_n hx hb dX4_findSums_49 rfl (lv_at hl 0 rfl) ?_
        refine gf (k := 0) hx hb hts inX4 hown hK hP_20 k_205 rfl (by decide) rfl 29 rfl (.ref (ad 6)) rfl dX4_findSums_50 ?_
        refine gf (k := 0) hx hb hts inX3 hown hK hP_20 k_39 rfl (by decide) rfl 6 rfl (.int 2) rfl dX4_findSums_53 ?_
        refine ld_a hx hb hK hP_20 46 2 rfl rfl (vin (by decide +kernel)) dX4_findSums_56 (ad 49) rfl ?_
        refine lv_iload_n hx hb dX4_findSums_57 rfl (lv_at hl 1 rfl) ?_
        refine lv_iconst (v := 0) hx hb dX4_findSums_58 (by decide) ?_
        refine va_iast hx hb hK hP_20 hD_21 hS_17 49 0 rfl rfl (j_in (a := L1.toInt) rfl (by omega) (by omega)) dX4_findSums_59 (fun H_22 locs_22 hP_22 hD_22 hS_22 => ?_)
        obtain ⟨ai7, e_ai7⟩ : ∃ q : Nat → Nat → Int32, q = va_up ai6 49 (upd (ai6 49) L1.toNatClampNeg 0) := ⟨_, rfl⟩
        have hF_23 := FR_st hF_18 e_ai7 (by decide)
        have hI_24 : IAX ai7 := by rw [e_ai7]; exact hI_19
        have hP_25 : va_P (dC, dI) vwCl (WX cI cJ cII cJJ ad 2 f3_equations f2_roundSupports f2_stale f7_size f1_size f5_keptSize f5_aheadSize f0_solved f4_blockCount f4_blockLength f4_lastIsFree f4_stale ai7 al w0 w1 w2 w3) H_22 := by rw [e_ai7]; exact hP_22
        have hD_26 : va_D A (WX cI cJ cII cJJ ad 2 f3_equations f2_roundSupports f2_stale f7_size f1_size f5_keptSize f5_aheadSize f0_solved f4_blockCount f4_blockLength f4_lastIsFree f4_stale ai7 al w0 w1 w2 w3) := by rw [e_ai7]; exact hD_22
        refine lv_aload_n hx hb dX4_findSums_60 rfl (lv_at hl 0 rfl) ?_
        refine gf (k := 0) hx hb hts inX4 hown hK hP_25 k_205 rfl (by decide) rfl 29 rfl (.ref (ad 6)) rfl dX4_findSums_61 ?_
        refine gf (k := 0) hx hb hts inX3 hown hK hP_25 k_39 rfl (by decide) rfl 6 rfl (.int 2) rfl dX4_findSums_64 ?_
        refine lv_iconst (v := 1) hx hb dX4_findSums_67 (by decide) ?_
        refine v_isub hx hb dX4_findSums_68 1 (by decide +kernel) ?_
        refine lv_istore_n (lv' := [(2, .int 1), (0, .ref (ad 29)), (1, .int L1)]) hx hb dX4_findSums_69 rfl hl (by decide) rfl (fun ls_27 hl_27 => ?_)
        exact m073_X4_findSums_b70 C n ih _ L1 1 ai7 _ _ _ (by first | omega | decide | (have ka0 := (by decide +kernel : (1 : Int32).toInt = 1); omega)) (by first | omega | decide | (have ka0 := (by decide +kernel : (1 : Int32).toInt = 1); omega)) (by first | omega | decide | (have ka0 := (by decide +kernel : (1 : Int32).toInt = 1); omega)) (by first | omega | decide | (have ka0 := (by decide +kernel : (1 : Int32).toInt = 1); omega)) (by first | omega | decide | (have ka0 := (by decide +kernel : (1 : Int32).toInt = 1); omega)) (by first | omega | decide | (have ka0 := (by decide +kernel : (1 : Int32).toInt = 1); omega)) (by first | omega | decide | (have ka0 := (by decide +kernel : (1 : Int32).toInt = 1); omega)) (by first | omega | decide | (have ka0 := (by decide +kernel : (1 : Int32).toInt = 1); omega)) (by first | omega | decide | (have ka0 := (by decide +kernel : (1 : Int32).toInt = 1); omega)) (by first | omega | decide | (have ka0 := (by decide +kernel : (1 : Int32).toInt = 1); omega)) (by first | omega | decide | (have ka0 := (by decide +kernel : (1 : Int32).toInt = 1); omega)) (by first | omega | decide | (have ka0 := (by decide +kernel : (1 : Int32).toInt = 1); omega)) (by first | omega | decide | (have ka0 := (by decide +kernel : (1 : Int32).toInt = 1); omega)) (by first | omega | decide | (have ka0 := (by decide +kernel : (1 : Int32).toInt = 1); omega)) (by first | omega | decide | (have ka0 := (by decide +kernel : (1 : Int32).toInt = 1); omega)) (j_fuel _) (by omega) hI_24 hF_23 hw_w0 hw_w1 hw_w2 hw_w3 hP_25 hD_26 hS_22 (lv_sub hl_27 [1, 2, 0] rfl)
      · have k9 : (3 : Int32).toInt = 3 := by decide +kernel
        refine ld_a hx hb hK hP_4 40 2 rfl rfl (vin (by decide +kernel)) dX4_findSums_41 (ad 44) rfl ?_
        refine lv_iload_n hx hb dX4_findSums_42 rfl (lv_at hl 1 rfl) ?_
        refine lv_iconst (v := 0) hx hb dX4_findSums_43 (by decide) ?_
        refine va_iast hx hb hK hP_4 hD_5 hS_1 44 0 rfl rfl (j_in (a := L1.toInt) rfl (by omega) (by omega)) dX4_findSums_44 (fun H_28 locs_28 hP_28 hD_28 hS_28 => ?_)
        obtain ⟨ai8, e_ai8⟩ : ∃ q : Nat → Nat → Int32, q = va_up ai3 44 (upd (ai3 44) L1.toNatClampNeg 0) := ⟨_, rfl⟩
        have hF_29 := FR_st hF_2 e_ai8 (by decide)
        have hI_30 : IAX ai8 := by rw [e_ai8]; exact hI_3
        have hP_31 : va_P (dC, dI) vwCl (WX cI cJ cII cJJ ad 3 f3_equations f2_roundSupports f2_stale f7_size f1_size f5_keptSize f5_aheadSize f0_solved f4_blockCount f4_blockLength f4_lastIsFree f4_stale ai8 al w0 w1 w2 w3) H_28 := by rw [e_ai8]; exact hP_28
        have hD_32 : va_D A (WX cI cJ cII cJJ ad 3 f3_equations f2_roundSupports f2_stale f7_size f1_size f5_keptSize f5_aheadSize f0_solved f4_blockCount f4_blockLength f4_lastIsFree f4_stale ai8 al w0 w1 w2 w3) := by rw [e_ai8]; exact hD_28
        refine lv_aload_n hx hb dX4_findSums_45 rfl (lv_at hl 0 rfl) ?_
        refine gf (k := 7) hx hb hts inX4 hown hK hP_31 k_212 rfl (by decide) rfl 29 rfl (.ref (ad 46)) rfl dX4_findSums_46 ?_
        refine lv_aload_n hx hb dX4_findSums_49 rfl (lv_at hl 0 rfl) ?_
        refine gf (k := 0) hx hb hts inX4 hown hK hP_31 k_205 rfl (by decide) rfl 29 rfl (.ref (ad 6)) rfl dX4_findSums_50 ?_
        refine gf (k := 0) hx hb hts inX3 hown hK hP_31 k_39 rfl (by decide) rfl 6 rfl (.int 3) rfl dX4_findSums_53 ?_
        refine ld_a hx hb hK hP_31 46 2 rfl rfl (vin (by decide +kernel)) dX4_findSums_56 (ad 50) rfl ?_
        refine lv_iload_n hx hb dX4_findSums_57 rfl (lv_at hl 1 rfl) ?_
        refine lv_iconst (v := 0) hx hb dX4_findSums_58 (by decide) ?_
        refine va_iast hx hb hK hP_31 hD_32 hS_28 50 0 rfl rfl (j_in (a := L1.toInt) rfl (by omega) (by omega)) dX4_findSums_59 (fun H_33 locs_33 hP_33 hD_33 hS_33 => ?_)
        obtain ⟨ai9, e_ai9⟩ : ∃ q : Nat → Nat → Int32, q = va_up ai8 50 (upd (ai8 50) L1.toNatClampNeg 0) := ⟨_, rfl⟩
        have hF_34 := FR_st hF_29 e_ai9 (by decide)
        have hI_35 : IAX ai9 := by rw [e_ai9]; exact hI_30
        have hP_36 : va_P (dC, dI) vwCl (WX cI cJ cII cJJ ad 3 f3_equations f2_roundSupports f2_stale f7_size f1_size f5_keptSize f5_aheadSize f0_solved f4_blockCount f4_blockLength f4_lastIsFree f4_stale ai9 al w0 w1 w2 w3) H_33 := by rw [e_ai9]; exact hP_33
        have hD_37 : va_D A (WX cI cJ cII cJJ ad 3 f3_equations f2_roundSupports f2_stale f7_size f1_size f5_keptSize f5_aheadSize f0_solved f4_blockCount f4_blockLength f4_lastIsFree f4_stale ai9 al w0 w1 w2 w3) := by rw [e_ai9]; exact hD_33
        refine lv_aload_n hx hb dX4_findSums_60 rfl (lv_at hl 0 rfl) ?_
        refine gf (k := 0) hx hb hts inX4 hown hK hP_36 k_205 rfl (by decide) rfl 29 rfl (.ref (ad 6)) rfl dX4_findSums_61 ?_
        refine gf (k := 0) hx hb hts inX3 hown hK hP_36 k_39 rfl (by decide) rfl 6 rfl (.int 3) rfl dX4_findSums_64 ?_
        refine lv_iconst (v := 1) hx hb dX4_findSums_67 (by decide) ?_
        refine v_isub hx hb dX4_findSums_68 2 (by decide +kernel) ?_
        refine lv_istore_n (lv' := [(2, .int 2), (0, .ref (ad 29)), (1, .int L1)]) hx hb dX4_findSums_69 rfl hl (by decide) rfl (fun ls_38 hl_38 => ?_)
        exact m073_X4_findSums_b70 C n ih _ L1 2 ai9 _ _ _ (by first | omega | decide | (have ka0 := (by decide +kernel : (2 : Int32).toInt = 2); omega)) (by first | omega | decide | (have ka0 := (by decide +kernel : (2 : Int32).toInt = 2); omega)) (by first | omega | decide | (have ka0 := (by decide +kernel : (2 : Int32).toInt = 2); omega)) (by first | omega | decide | (have ka0 := (by decide +kernel : (2 : Int32).toInt = 2); omega)) (by first | omega | decide | (have ka0 := (by decide +kernel : (2 : Int32).toInt = 2); omega)) (by first | omega | decide | (have ka0 := (by decide +kernel : (2 : Int32).toInt = 2); omega)) (by first | omega | decide | (have ka0 := (by decide +kernel : (2 : Int32).toInt = 2); omega)) (by first | omega | decide | (have ka0 := (by decide +kernel : (2 : Int32).toInt = 2); omega)) (by first | omega | decide | (have ka0 := (by decide +kernel : (2 : Int32).toInt = 2); omega)) (by first | omega | decide | (have ka0 := (by decide +kernel : (2 : Int32).toInt = 2); omega)) (by first | omega | decide | (have ka0 := (by decide +kernel : (2 : Int32).toInt = 2); omega)) (by first | omega | decide | (have ka0 := (by decide +kernel : (2 : Int32).toInt = 2); omega)) (by first | omega | decide | (have ka0 := (by decide +kernel : (2 : Int32).toInt = 2); omega)) (by first | omega | decide | (have ka0 := (by decide +kernel : (2 : Int32).toInt = 2); omega)) (by first | omega | decide | (have ka0 := (by decide +kernel : (2 : Int32).toInt = 2); omega)) (j_fuel _) (by omega) hI_35 hF_34 hw_w0 hw_w1 hw_w2 hw_w3 hP_36 hD_37 hS_33 (lv_sub hl_38 [1, 2, 0] rfl)
      · have k9 : (4 : Int32).toInt = 4 := by decide +kernel
        refine ld_a hx hb hK hP_4 40 2 rfl rfl (vin (by decide +kernel)) dX4_findSums_41 (ad 45) rfl ?_
        refine lv_iload_n hx hb dX4_findSums_42 rfl (lv_at hl 1 rfl) ?_
        refine lv_iconst (v := 0) hx hb dX4_findSums_43 (by decide) ?_
        refine va_iast hx hb hK hP_4 hD_5 hS_1 45 0 rfl rfl (j_in (a := L1.toInt) rfl (by omega) (by omega)) dX4_findSums_44 (fun H_39 locs_39 hP_39 hD_39 hS_39 => ?_)
        obtain ⟨ai10, e_ai10⟩ : ∃ q : Nat → Nat → Int32, q = va_up ai3 45 (upd (ai3 45) L1.toNatClampNeg 0) := ⟨_, rfl⟩
        have hF_40 := FR_st hF_2 e_ai10 (by decide)
        have hI_41 : IAX ai10 := by rw [e_ai10]; exact hI_3
        have hP_42 : va_P (dC, dI) vwCl (WX cI cJ cII cJJ ad 4 f3_equations f2_roundSupports f2_stale f7_size f1_size f5_keptSize f5_aheadSize f0_solved f4_blockCount f4_blockLength f4_lastIsFree f4_stale ai10 al w0 w1 w2 w3) H_39 := by rw [e_ai10]; exact hP_39
        have hD_43 : va_D A (WX cI cJ cII cJJ ad 4 f3_equations f2_roundSupports f2_stale f7_size f1_size f5_keptSize f5_aheadSize f0_solved f4_blockCount f4_blockLength f4_lastIsFree f4_stale ai10 al w0 w1 w2 w3) := by rw [e_ai10]; exact hD_39
        refine lv_aload_n hx hb dX4_findSums_45 rfl (lv_at hl 0 rfl) ?_
        refine gf (k := 7) hx hb hts inX4 hown hK hP_42 k_212 rfl (by decide) rfl 29 rfl (.ref (ad 46)) rfl dX4_findSums_46 ?_
        refine lv_aload_n hx hb dX4_findSums_49 rfl (lv_at hl 0 rfl) ?_
        refine gf (k := 0) hx hb hts inX4 hown hK hP_42 k_205 rfl (by decide) rfl 29 rfl (.ref (ad 6)) rfl dX4_findSums_50 ?_
        refine gf (k := 0) hx hb hts inX3 hown hK hP_42 k_39 rfl (by decide) rfl 6 rfl (.int 4) rfl dX4_findSums_53 ?_
        refine ld_a hx hb hK hP_42 46 2 rfl rfl (vin (by decide +kernel)) dX4_findSums_56 (ad 51) rfl ?_
        refine lv_iload_n hx hb dX4_findSums_57 rfl (lv_at hl 1 rfl) ?_
        refine lv_iconst (v := 0) hx hb dX4_findSums_58 (by decide) ?_
        refine va_iast hx hb hK hP_42 hD_43 hS_39 51 0 rfl rfl (j_in (a := L1.toInt) rfl (by omega) (by omega)) dX4_findSums_59 (fun H_44 locs_44 hP_44 hD_44 hS_44 => ?_)
        obtain ⟨ai11, e_ai11⟩ : ∃ q : Nat → Nat → Int32, q = va_up ai10 51 (upd (ai10 51) L1.toNatClampNeg 0) := ⟨_, rfl⟩
        have hF_45 := FR_st hF_40 e_ai11 (by decide)
        have hI_46 : IAX ai11 := by rw [e_ai11]; exact hI_41
        have hP_47 : va_P (dC, dI) vwCl (WX cI cJ cII cJJ ad 4 f3_equations f2_roundSupports f2_stale f7_size f1_size f5_keptSize f5_aheadSize f0_solved f4_blockCount f4_blockLength f4_lastIsFree f4_stale ai11 al w0 w1 w2 w3) H_44 := by rw [e_ai11]; exact hP_44
        have hD_48 : va_D A (WX cI cJ cII cJJ ad 4 f3_equations f2_roundSupports f2_stale f7_size f1_size f5_keptSize f5_aheadSize f0_solved f4_blockCount f4_blockLength f4_lastIsFree f4_stale ai11 al w0 w1 w2 w3) := by rw [e_ai11]; exact hD_44
        refine lv_aload_n hx hb dX4_findSums_60 rfl (lv_at hl 0 rfl) ?_
        refine gf (k := 0) hx hb hts inX4 hown hK hP_47 k_205 rfl (by decide) rfl 29 rfl (.ref (ad 6)) rfl dX4_findSums_61 ?_
        refine gf (k := 0) hx hb hts inX3 hown hK hP_47 k_39 rfl (by decide) rfl 6 rfl (.int 4) rfl dX4_findSums_64 ?_
        refine lv_iconst (v := 1) hx hb dX4_findSums_67 (by decide) ?_
        refine v_isub hx hb dX4_findSums_68 3 (by decide +kernel) ?_
        refine lv_istore_n (lv' := [(2, .int 3), (0, .ref (ad 29)), (1, .int L1)]) hx hb dX4_findSums_69 rfl hl (by decide) rfl (fun ls_49 hl_49 => ?_)
        exact m073_X4_findSums_b70 C n ih _ L1 3 ai11 _ _ _ (by first | omega | decide | (have ka0 := (by decide +kernel : (3 : Int32).toInt = 3); omega)) (by first | omega | decide | (have ka0 := (by decide +kernel : (3 : Int32).toInt = 3); omega)) (by first | omega | decide | (have ka0 := (by decide +kernel : (3 : Int32).toInt = 3); omega)) (by first | omega | decide | (have ka0 := (by decide +kernel : (3 : Int32).toInt = 3); omega)) (by first | omega | decide | (have ka0 := (by decide +kernel : (3 : Int32).toInt = 3); omega)) (by first | omega | decide | (have ka0 := (by decide +kernel : (3 : Int32).toInt = 3); omega)) (by first | omega | decide | (have ka0 := (by decide +kernel : (3 : Int32).toInt = 3); omega)) (by first | omega | decide | (have ka0 := (by decide +kernel : (3 : Int32).toInt = 3); omega)) (by first | omega | decide | (have ka0 := (by decide +kernel : (3 : Int32).toInt = 3); omega)) (by first | omega | decide | (have ka0 := (by decide +kernel : (3 : Int32).toInt = 3); omega)) (by first | omega | decide | (have ka0 := (by decide +kernel : (3 : Int32).toInt = 3); omega)) (by first | omega | decide | (have ka0 := (by decide +kernel : (3 : Int32).toInt = 3); omega)) (by first | omega | decide | (have ka0 := (by decide +kernel : (3 : Int32).toInt = 3); omega)) (by first | omega | decide | (have ka0 := (by decide +kernel : (3 : Int32).toInt = 3); omega)) (by first | omega | decide | (have ka0 := (by decide +kernel : (3 : Int32).toInt = 3); omega)) (j_fuel _) (by omega) hI_46 hF_45 hw_w0 hw_w1 hw_w2 hw_w3 hP_47 hD_48 hS_44 (lv_sub hl_49 [1, 2, 0] rfl)
set_option maxRecDepth 100000 in
set_option maxHeartbeats 4000000 in
theorem m073_X4_findSums (l : Launch) (dC : Nat → ClassId) (dI : Nat → Nat → Nat) (cI cJ cII cJJ : ClassId) (sz g : Nat) (ad : Nat → Nat) (f3_unknowns f3_equations f2_roundSupports f2_stale f7_size f1_size f5_keptSize f5_aheadSize f0_solved f4_blockCount f4_blockLength f4_lastIsFree f4_stale : Int32) (ai : Nat → Nat → Int32) (al : Nat → Nat → Int64) (w0 w1 w2 w3 : Nat) (h_f3_unknowns : (1 ≤ f3_unknowns.toInt ∧ f3_unknowns.toInt ≤ 4)) (h_f3_equations : (0 ≤ f3_equations.toInt ∧ f3_equations.toInt ≤ 3)) (h_f2_stale : (0 ≤ f2_stale.toInt ∧ f2_stale.toInt ≤ 1)) (h_f7_size : (0 ≤ f7_size.toInt ∧ f7_size.toInt ≤ 256)) (h_f1_size : (0 ≤ f1_size.toInt ∧ f1_size.toInt ≤ 4)) (h_f5_keptSize : (0 ≤ f5_keptSize.toInt ∧ f5_keptSize.toInt ≤ 128)) (h_f5_aheadSize : (0 ≤ f5_aheadSize.toInt ∧ f5_aheadSize.toInt ≤ 128)) (h_f4_blockCount : (0 ≤ f4_blockCount.toInt ∧ f4_blockCount.toInt ≤ 9261)) (h_f4_blockLength : (0 ≤ f4_blockLength.toInt ∧ f4_blockLength.toInt ≤ 21)) (h_f4_lastIsFree : (0 ≤ f4_lastIsFree.toInt ∧ f4_lastIsFree.toInt ≤ 1)) (h_f4_stale : (0 ≤ f4_stale.toInt ∧ f4_stale.toInt ≤ 1)) (hI : IAX ai) (hw_w0 : RWX ad w0) (hw_w1 : RWX ad w1) (hw_w2 : RWX ad w2) (hw_w3 : RWX ad w3) : Met l yX4_findSums (.code yX4_findSums cX4_findSums 5 none :: TT) ({ frames := 2, cells := 0, slots := 0, locals := 80 } : Room) (PcS dC dI (TY cI cJ cII cJJ) [.ref (ad 29)] (WX cI cJ cII cJJ ad f3_unknowns f3_equations f2_roundSupports f2_stale f7_size f1_size f5_keptSize f5_aheadSize f0_solved f4_blockCount f4_blockLength f4_lastIsFree f4_stale ai al w0 w1 w2 w3) sz 0 g) (Q_m073_X4_findSums dC dI cI cJ cII cJJ ad f3_unknowns f3_equations f2_roundSupports f2_stale f7_size f1_size f5_keptSize f5_aheadSize f0_solved f4_blockCount f4_blockLength f4_lastIsFree f4_stale ai al w0 w1 w2 w3 (va_A (WX cI cJ cII cJJ ad f3_unknowns f3_equations f2_roundSupports f2_stale f7_size f1_size f5_keptSize f5_aheadSize f0_solved f4_blockCount f4_blockLength f4_lastIsFree f4_stale ai al w0 w1 w2 w3) sz)) 0 0 (va_A (WX cI cJ cII cJJ ad f3_unknowns f3_equations f2_roundSupports f2_stale f7_size f1_size f5_keptSize f5_aheadSize f0_solved f4_blockCount f4_blockLength f4_lastIsFree f4_stale ai al w0 w1 w2 w3) sz) := by
  refine SM.of (y := yX4_findSums) (maxL := 5) (av := [.ref (ad 29)]) (Q_m073_X4_findSums dC dI cI cJ cII cJJ ad f3_unknowns f3_equations f2_roundSupports f2_stale f7_size f1_size f5_keptSize f5_aheadSize f0_solved f4_blockCount f4_blockLength f4_lastIsFree f4_stale ai al w0 w1 w2 w3) (by decide +kernel) (Nat.le_of_ble_eq_true rfl) (fun p e s m below meth c A ls hx hb hr hml hown hts hk hnm hA hK hP hD hS hX hl => ?_)
  have C : Cx p c s m meth (([.ref (ad 29)] : List Value).toArray) A dC dI (TY cI cJ cII cJJ) cX4_findSums none 5 RX4 0 g := ⟨hx, hb, hr, hml, hown, hts, hk, hA, hK, hX⟩
  have hown : s.vm.findClass RX4 = some m.cls := hown
  have hl : lv_has ls 5 [(0, .ref (ad 29))] := hl
  obtain ⟨H, hH⟩ : ∃ q, q = s.heap := ⟨_, rfl⟩
  rw [← hH] at hP
  have hS : va_S A s.heap H [] := by rw [hH]; exact hS
  rw [← hH]
  have hF := FR_refl [35, 41, 42, 43, 44, 45, 47, 48, 49, 50, 51] ai
  refine lv_iconst (v := 0) hx hb dX4_findSums_0 (by decide) ?_
  refine lv_istore_n (lv' := [(1, .int 0), (0, .ref (ad 29))]) hx hb dX4_findSums_1 rfl hl (by decide) rfl (fun ls_1 hl_1 => ?_)
  exact m073_X4_findSums_b2 C  _ 0 ai _ _ _ (by first | omega | decide | (have ka0 := (by decide +kernel : (0 : Int32).toInt = 0); omega)) (by first | omega | decide | (have ka0 := (by decide +kernel : (0 : Int32).toInt = 0); omega)) (by first | omega | decide | (have ka0 := (by decide +kernel : (0 : Int32).toInt = 0); omega)) (by first | omega | decide | (have ka0 := (by decide +kernel : (0 : Int32).toInt = 0); omega)) (by first | omega | decide | (have ka0 := (by decide +kernel : (0 : Int32).toInt = 0); omega)) (by first | omega | decide | (have ka0 := (by decide +kernel : (0 : Int32).toInt = 0); omega)) (by first | omega | decide | (have ka0 := (by decide +kernel : (0 : Int32).toInt = 0); omega)) (by first | omega | decide | (have ka0 := (by decide +kernel : (0 : Int32).toInt = 0); omega)) (by first | omega | decide | (have ka0 := (by decide +kernel : (0 : Int32).toInt = 0); omega)) (by first | omega | decide | (have ka0 := (by decide +kernel : (0 : Int32).toInt = 0); omega)) (by first | omega | decide | (have ka0 := (by decide +kernel : (0 : Int32).toInt = 0); omega)) (by first | omega | decide | (have ka0 := (by decide +kernel : (0 : Int32).toInt = 0); omega)) (j_fuel _) (by omega) hI hF hw_w0 hw_w1 hw_w2 hw_w3 hP hD hS (lv_sub hl_1 [1, 0] rfl)
