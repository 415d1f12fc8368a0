def Q_m160_X5_walk (dC : Nat → ClassId) (dI : Nat → Nat → Nat) (cI cJ cII cJJ : ClassId) (ad : Nat → Nat) (f3_unknowns f3_equations f2_roundSupports f2_stale f7_size f1_size f0_solved f4_blockCount f4_blockLength f4_lastIsFree f4_stale : Int32) (ai0 : Nat → Nat → Int32) (al : Nat → Nat → Int64) (w0 w1 w2 w3 : Nat) : (Nat → Prop) → Array Value → State → Outcome → State → Prop := fun A => QV (fun t => ∃ (n_f5_keptSize n_f5_aheadSize : Int32), ∃ (n_ai : Nat → Nat → Int32), ((0 ≤ n_f5_keptSize.toInt ∧ n_f5_keptSize.toInt ≤ 127) ∧ (0 ≤ n_f5_aheadSize.toInt ∧ n_f5_aheadSize.toInt ≤ 128) ∧ IAX n_ai ∧ FR [23, 24] ai0 n_ai) ∧ WO dC dI (TY cI cJ cII cJJ) (WX cI cJ cII cJJ ad f3_unknowns f3_equations f2_roundSupports f2_stale f7_size f1_size n_f5_keptSize n_f5_aheadSize f0_solved f4_blockCount f4_blockLength f4_lastIsFree f4_stale n_ai al w0 w1 w2 w3) A t) A
set_option maxRecDepth 100000 in
set_option maxHeartbeats 4000000 in
theorem m160_X5_walk_b107 {p : Program} {l : Launch} {e : Env} {s : State} {m : MethodId} {args : Array Value} {below : List Frame} {meth : Method} {c : Code} {A : Nat → Prop} {dC : Nat → ClassId} {dI : Nat → Nat → Nat} {cI cJ cII cJJ : ClassId} {ad : Nat → Nat} {g : Nat} {f3_unknowns f3_equations f2_roundSupports f2_stale f7_size f1_size f0_solved f4_blockCount f4_blockLength f4_lastIsFree f4_stale : Int32} {ai0 : Nat → Nat → Int32} {al : Nat → Nat → Int64} {w0 w1 w2 w3 : Nat} (C : Cx p c s m meth args A dC dI (TY cI cJ cII cJJ) cX5_walk none 7 RX5 0 g) : ∀ (L3 L4 f5_keptSize f5_aheadSize : Int32) (ai : Nat → Nat → Int32) (H : Heap) (locs : List Loc) (ls : Array Slot), (1 ≤ L3.toInt ∧ L3.toInt ≤ 1) → (0 ≤ L4.toInt ∧ L4.toInt ≤ 100000) → (1 ≤ f3_unknowns.toInt ∧ f3_unknowns.toInt ≤ 4) → (0 ≤ f3_equations.toInt ∧ f3_equations.toInt ≤ 3) → (0 ≤ f2_stale.toInt ∧ f2_stale.toInt ≤ 1) → (0 ≤ f7_size.toInt ∧ f7_size.toInt ≤ 256) → (0 ≤ f1_size.toInt ∧ f1_size.toInt ≤ 4) → (1 ≤ f5_keptSize.toInt ∧ f5_keptSize.toInt ≤ 128) → (0 ≤ f5_aheadSize.toInt ∧ f5_aheadSize.toInt ≤ 128) → (0 ≤ f4_blockCount.toInt ∧ f4_blockCount.toInt ≤ 9261) → (0 ≤ f4_blockLength.toInt ∧ f4_blockLength.toInt ≤ 21) → (0 ≤ f4_lastIsFree.toInt ∧ f4_lastIsFree.toInt ≤ 1) → (0 ≤ f4_stale.toInt ∧ f4_stale.toInt ≤ 1) → IAX ai → FR [23, 24] ai0 ai → RWX ad w0 → RWX ad w1 → RWX ad w2 → RWX ad w3 → va_P (dC, dI) vwCl (WX cI cJ cII cJJ ad f3_unknowns f3_equations f2_roundSupports f2_stale f7_size f1_size f5_keptSize f5_aheadSize f0_solved f4_blockCount f4_blockLength f4_lastIsFree f4_stale ai al w0 w1 w2 w3) H → va_D A (WX cI cJ cII cJJ ad f3_unknowns f3_equations f2_roundSupports f2_stale f7_size f1_size f5_keptSize f5_aheadSize f0_solved f4_blockCount f4_blockLength f4_lastIsFree f4_stale ai al w0 w1 w2 w3) → va_S A s.heap H locs → lv_has ls 7 [(0, .ref (ad 22)), (1, .ref (ad 17)), (2, .ref (ad 19)), (3, .int L3), (4, .int L4)] → W p l e ({ frames := 3, cells := 0, slots := 0, locals := 140 } : Room) s m args below meth c H locs 0 0 (MQ below (Q_m160_X5_walk dC dI cI cJ cII cJJ ad f3_unknowns f3_equations f2_roundSupports f2_stale f7_size f1_size f0_solved f4_blockCount f4_blockLength f4_lastIsFree f4_stale ai0 al w0 w1 w2 w3 A) args s 0 0 A) (F0 m 107 ls []) := by
  obtain ⟨hx, hb, hr, hml, hown, hts, hk, hA, hK, hX⟩ := id C
  intro L3 L4 f5_keptSize f5_aheadSize ai H locs ls h0 h1 h2 h3 h4 h5 h6 h7 h8 h9 h10 h11 h12 hI hF hw_w0 hw_w1 hw_w2 hw_w3 hP hD hS hl
  refine lv_aload_n hx hb dX5_walk_107 rfl (lv_at hl 0 rfl) ?_
  refine lv_dup hx hb dX5_walk_108 rfl ?_
  refine gf (k := 2) hx hb hts inX5 hown hK hP k_139 rfl (by decide) rfl 22 rfl (.int f5_keptSize) rfl dX5_walk_109 ?_
  refine lv_iconst (v := 1) hx hb dX5_walk_112 (by decide) ?_
  refine v_isub hx hb dX5_walk_113 _ rfl ?_
  refine lv_topi (fun z1 e_z1 => ?_)
  have g_z1 : z1.toInt = f5_keptSize.toInt - 1 := by rw [e_z1]; exact n_sub (a := f5_keptSize.toInt) (b := 1) rfl (by decide +kernel) (by omega) (by omega)
  refine pf (k := 2) hx hb hts inX5 tyX5_ok nmX5 hown hK hP hD hS k_139 rfl (by decide) rfl rfl 22 rfl rfl rfl (Nat.le_of_ble_eq_true rfl) dX5_walk_114 (W' := (WX cI cJ cII cJJ ad f3_unknowns f3_equations f2_roundSupports f2_stale f7_size f1_size z1 f5_aheadSize f0_solved f4_blockCount f4_blockLength f4_lastIsFree f4_stale ai al w0 w1 w2 w3)) rfl (fun H_1 locs_1 hP_1 hD_1 hS_1 => ?_)
  exact r2_v hx hb hr hk hS_1 dX5_walk_117 (fun t ht hW => ⟨z1, f5_aheadSize, ai, ⟨(by first | omega | decide | exact Or.inl (by decide) | exact Or.inr (by decide) | exact Or.inr (by omega)), (by first | omega | decide | exact Or.inl (by decide) | exact Or.inr (by decide) | exact Or.inr (by omega)), hI, hF⟩, by rw [ht]; exact hP_1, va_K.moved hW.alike hK, hD_1⟩)
set_option maxRecDepth 100000 in
set_option maxHeartbeats 4000000 in
theorem m160_X5_walk_b101 {p : Program} {l : Launch} {e : Env} {s : State} {m : MethodId} {args : Array Value} {below : List Frame} {meth : Method} {c : Code} {A : Nat → Prop} {dC : Nat → ClassId} {dI : Nat → Nat → Nat} {cI cJ cII cJJ : ClassId} {ad : Nat → Nat} {g : Nat} {f3_unknowns f3_equations f2_roundSupports f2_stale f7_size f1_size f0_solved f4_blockCount f4_blockLength f4_lastIsFree f4_stale : Int32} {ai0 : Nat → Nat → Int32} {al : Nat → Nat → Int64} {w0 w1 w2 w3 : Nat} (C : Cx p c s m meth args A dC dI (TY cI cJ cII cJJ) cX5_walk none 7 RX5 0 g) (n40 : Nat) (K40 : ∀ (L3 L4 f5_keptSize f5_aheadSize : Int32) (ai : Nat → Nat → Int32) (H : Heap) (locs : List Loc) (ls : Array Slot), (1 ≤ L3.toInt ∧ L3.toInt ≤ 1) → (0 ≤ L4.toInt ∧ L4.toInt ≤ 100000) → (1 ≤ f3_unknowns.toInt ∧ f3_unknowns.toInt ≤ 4) → (0 ≤ f3_equations.toInt ∧ f3_equations.toInt ≤ 3) → (0 ≤ f2_stale.toInt ∧ f2_stale.toInt ≤ 1) → (0 ≤ f7_size.toInt ∧ f7_size.toInt ≤ 256) → (0 ≤ f1_size.toInt ∧ f1_size.toInt ≤ 4) → (1 ≤ f5_keptSize.toInt ∧ f5_keptSize.toInt ≤ 128) → (0 ≤ f5_aheadSize.toInt ∧ f5_aheadSize.toInt ≤ 128) → (0 ≤ f4_blockCount.toInt ∧ f4_blockCount.toInt ≤ 9261) → (0 ≤ f4_blockLength.toInt ∧ f4_blockLength.toInt ≤ 21) → (0 ≤ f4_lastIsFree.toInt ∧ f4_lastIsFree.toInt ≤ 1) → (0 ≤ f4_stale.toInt ∧ f4_stale.toInt ≤ 1) → 10000 - L4.toInt < (n40 : Int) → (0 : Int) < (n40 : Int) → IAX ai → FR [23, 24] ai0 ai → RWX ad w0 → RWX ad w1 → RWX ad w2 → RWX ad w3 → va_P (dC, dI) vwCl (WX cI cJ cII cJJ ad f3_unknowns f3_equations f2_roundSupports f2_stale f7_size f1_size f5_keptSize f5_aheadSize f0_solved f4_blockCount f4_blockLength f4_lastIsFree f4_stale ai al w0 w1 w2 w3) H → va_D A (WX cI cJ cII cJJ ad f3_unknowns f3_equations f2_roundSupports f2_stale f7_size f1_size f5_keptSize f5_aheadSize f0_solved f4_blockCount f4_blockLength f4_lastIsFree f4_stale ai al w0 w1 w2 w3) → va_S A s.heap H locs → lv_has ls 7 [(0, .ref (ad 22)), (1, .ref (ad 17)), (2, .ref (ad 19)), (3, .int L3), (4, .int L4)] → W p l e ({ frames := 3, cells := 0, slots := 0, locals := 140 } : Room) s m args below meth c H locs 0 0 (MQ below (Q_m160_X5_walk dC dI cI cJ cII cJJ ad f3_unknowns f3_equations f2_roundSupports f2_stale f7_size f1_size f0_solved f4_blockCount f4_blockLength f4_lastIsFree f4_stale ai0 al w0 w1 w2 w3 A) args s 0 0 A) (F0 m 40 ls [])) : ∀ (L3 L4 L5 L6 f5_keptSize f5_aheadSize : Int32) (ai : Nat → Nat → Int32) (H : Heap) (locs : List Loc) (ls : Array Slot), (1 ≤ L3.toInt ∧ L3.toInt ≤ 1) → (0 ≤ L4.toInt ∧ L4.toInt ≤ 99999) → (0 ≤ L5.toInt ∧ L5.toInt ≤ 5999) → (0 ≤ L6.toInt ∧ L6.toInt ≤ 5999) → (1 ≤ f3_unknowns.toInt ∧ f3_unknowns.toInt ≤ 4) → (0 ≤ f3_equations.toInt ∧ f3_equations.toInt ≤ 3) → (0 ≤ f2_stale.toInt ∧ f2_stale.toInt ≤ 1) → (0 ≤ f7_size.toInt ∧ f7_size.toInt ≤ 256) → (0 ≤ f1_size.toInt ∧ f1_size.toInt ≤ 4) → (1 ≤ f5_keptSize.toInt ∧ f5_keptSize.toInt ≤ 128) → (0 ≤ f5_aheadSize.toInt ∧ f5_aheadSize.toInt ≤ 128) → (0 ≤ f4_blockCount.toInt ∧ f4_blockCount.toInt ≤ 9261) → (0 ≤ f4_blockLength.toInt ∧ f4_blockLength.toInt ≤ 21) → (0 ≤ f4_lastIsFree.toInt ∧ f4_lastIsFree.toInt ≤ 1) → (0 ≤ f4_stale.toInt ∧ f4_stale.toInt ≤ 1) → L4.toInt < 10000 → 10000 - L4.toInt ≤ (n40 : Int) → IAX ai → FR [23, 24] ai0 ai → RWX ad w0 → RWX ad w1 → RWX ad w2 → RWX ad w3 → va_P (dC, dI) vwCl (WX cI cJ cII cJJ ad f3_unknowns f3_equations f2_roundSupports f2_stale f7_size f1_size f5_keptSize f5_aheadSize f0_solved f4_blockCount f4_blockLength f4_lastIsFree f4_stale ai al w0 w1 w2 w3) H → va_D A (WX cI cJ cII cJJ ad f3_unknowns f3_equations f2_roundSupports f2_stale f7_size f1_size f5_keptSize f5_aheadSize f0_solved f4_blockCount f4_blockLength f4_lastIsFree f4_stale ai al w0 w1 w2 w3) → va_S A s.heap H locs → lv_has ls 7 [(0, .ref (ad 22)), (1, .ref (ad 17)), (2, .ref (ad 19)), (3, .int L3), (4, .int L4), (5, .int L5), (6, .int L6)] → W p l e ({ frames := 3, cells := 0, slots := 0, locals := 140 } : Room) s m args below meth c H locs 0 0 (MQ below (Q_m160_X5_walk dC dI cI cJ cII cJJ ad f3_unknowns f3_equations f2_roundSupports f2_stale f7_size f1_size f0_solved f4_blockCount f4_blockLength f4_lastIsFree f4_stale ai0 al w0 w1 w2 w3 A) args s 0 0 A) (F0 m 101 ls []) := by
  obtain ⟨hx, hb, hr, hml, hown, hts, hk, hA, hK, hX⟩ := id C
  intro L3 L4 L5 L6 f5_keptSize f5_aheadSize ai H locs ls h0 h1 h2 h3 h4 h5 h6 h7 h8 h9 h10 h11 h12 h13 h14 h15 h16 hI hF hw_w0 hw_w1 hw_w2 hw_w3 hP hD hS hl
  obtain ⟨z1, e_z1⟩ : ∃ q : Int32, q = L4 + Int32.ofInt 1 := ⟨_, rfl⟩
  have g_z1 : z1.toInt = L4.toInt + 1 := by rw [e_z1]; exact n_add (a := L4.toInt) (b := 1) rfl (by decide +kernel) (by omega) (by omega)
  refine lv_iinc (v := z1) (lv' := [(4, .int z1), (0, .ref (ad 22)), (1, .ref (ad 17)), (2, .ref (ad 19)), (3, .int L3), (5, .int L5), (6, .int L6)]) hx hb dX5_walk_101 hl (k := 4) rfl e_z1.symm (by decide) rfl (fun ls_1 hl_1 => ?_)
  refine lv_goto (tgt := 40) hx hb dX5_walk_104 (by decide) ?_
  exact K40 L3 z1 f5_keptSize f5_aheadSize ai _ _ _ (by omega) (by omega) (by omega) (by omega) (by omega) (by omega) (by omega) (by omega) (by omega) (by omega) (by omega) (by omega) (by omega) (by omega) (by omega) hI hF hw_w0 hw_w1 hw_w2 hw_w3 hP hD hS (lv_sub hl_1 [1, 2, 3, 4, 0] rfl)
set_option maxRecDepth 100000 in
set_option maxHeartbeats 4000000 in
theorem m160_X5_walk_b40 {p : Program} {l : Launch} {e : Env} {s : State} {m : MethodId} {args : Array Value} {below : List Frame} {meth : Method} {c : Code} {A : Nat → Prop} {dC : Nat → ClassId} {dI : Nat → Nat → Nat} {cI cJ cII cJJ : ClassId} {ad : Nat → Nat} {g : Nat} {f3_unknowns f3_equations f2_roundSupports f2_stale f7_size f1_size f0_solved f4_blockCount f4_blockLength f4_lastIsFree f4_stale : Int32} {ai0 : Nat → Nat → Int32} {al : Nat → Nat → Int64} {w0 w1 w2 w3 : Nat} (C : Cx p c s m meth args A dC dI (TY cI cJ cII cJJ) cX5_walk none 7 RX5 0 g) : ∀ (n : Nat), ∀ (L3 L4 f5_keptSize f5_aheadSize : Int32) (ai : Nat → Nat → Int32) (H : Heap) (locs : List Loc) (ls : Array Slot), (1 ≤ L3.toInt ∧ L3.toInt ≤ 1) → (0 ≤ L4.toInt ∧ L4.toInt ≤ 100000) → (1 ≤ f3_unknowns.toInt ∧ f3_unknowns.toInt ≤ 4) → (0 ≤ f3_equations.toInt ∧ f3_equations.toInt ≤ 3) → (0 ≤ f2_stale.toInt ∧ f2_stale.toInt ≤ 1) → (0 ≤ f7_size.toInt ∧ f7_size.toInt ≤ 256) → (0 ≤ f1_size.toInt ∧ f1_size.toInt ≤ 4) → (1 ≤ f5_keptSize.toInt ∧ f5_keptSize.toInt ≤ 128) → (0 ≤ f5_aheadSize.toInt ∧ f5_aheadSize.toInt ≤ 128) → (0 ≤ f4_blockCount.toInt ∧ f4_blockCount.toInt ≤ 9261) → (0 ≤ f4_blockLength.toInt ∧ f4_blockLength.toInt ≤ 21) → (0 ≤ f4_lastIsFree.toInt ∧ f4_lastIsFree.toInt ≤ 1) → (0 ≤ f4_stale.toInt ∧ f4_stale.toInt ≤ 1) → 10000 - L4.toInt < (n : Int) → (0 : Int) < (n : Int) → IAX ai → FR [23, 24] ai0 ai → RWX ad w0 → RWX ad w1 → RWX ad w2 → RWX ad w3 → va_P (dC, dI) vwCl (WX cI cJ cII cJJ ad f3_unknowns f3_equations f2_roundSupports f2_stale f7_size f1_size f5_keptSize f5_aheadSize f0_solved f4_blockCount f4_blockLength f4_lastIsFree f4_stale ai al w0 w1 w2 w3) H → va_D A (WX cI cJ cII cJJ ad f3_unknowns f3_equations f2_roundSupports f2_stale f7_size f1_size f5_keptSize f5_aheadSize f0_solved f4_blockCount f4_blockLength f4_lastIsFree f4_stale ai al w0 w1 w2 w3) → va_S A s.heap H locs → lv_has ls 7 [(0, .ref (ad 22)), (1, .ref (ad 17)), (2, .ref (ad 19)), (3, .int L3), (4, .int L4)] → W p l e ({ frames := 3, cells := 0, slots := 0, locals := 140 } : Room) s m args below meth c H locs 0 0 (MQ below (Q_m160_X5_walk dC dI cI cJ cII cJJ ad f3_unknowns f3_equations f2_roundSupports f2_stale f7_size f1_size f0_solved f4_blockCount f4_blockLength f4_lastIsFree f4_stale ai0 al w0 w1 w2 w3 A) args s 0 0 A) (F0 m 40 ls []) := by
  obtain ⟨hx, hb, hr, hml, hown, hts, hk, hA, hK, hX⟩ := id C
  intro n
  induction n with
  | zero =>
    intro L3 L4 f5_keptSize f5_aheadSize ai H locs ls h0 h1 h2 h3 h4 h5 h6 h7 h8 h9 h10 h11 h12 h13 h14 hI hF hw_w0 hw_w1 hw_w2 hw_w3 hP hD hS hl
    exact absurd h14 (by omega)
  | succ n ih =>
    intro L3 L4 f5_keptSize f5_aheadSize ai H locs ls h0 h1 h2 h3 h4 h5 h6 h7 h8 h9 h10 h11 h12 h13 h14 hI hF hw_w0 hw_w1 hw_w2 hw_w3 hP hD hS hl
    refine lv_iload hx hb dX5_walk_40 (lv_at hl 4 rfl) ?_
    refine lv_sipush (v := 10000) hx hb dX5_walk_42 (by decide) ?_
    refine lv_icmp_ge (tgt := 107) hx hb dX5_walk_45 (by decide) (fun c1 => ?_) (fun c1 => ?_)
    · have c1 := j_le (a := 10000) (b := L4.toInt) (by decide +kernel) rfl c1
      exact m160_X5_walk_b107 C  L3 L4 f5_keptSize f5_aheadSize ai _ _ _ (by omega) (by omega) (by omega) (by omega) (by omega) (by omega) (by omega) (by omega) (by omega) (by omega) (by omega) (by omega) (by omega) hI hF hw_w0 hw_w1 hw_w2 hw_w3 hP hD hS (lv_sub hl [0, 1, 2, 3, 4] rfl)
    · have c1 := j_nle (a := 10000) (b := L4.toInt) (by decide +kernel) rfl c1
      refine lv_aload_n hx hb dX5_walk_48 rfl (lv_at hl 0 rfl) ?_
      refine gf (k := 3) hx hb hts inX5 hown hK hP k_140 rfl (by decide) rfl 22 rfl (.int f5_aheadSize) rfl dX5_walk_49 ?_
      refine lv_if_le (tgt := 107) hx hb dX5_walk_52 (by decide) (fun c2 => ?_) (fun c2 => ?_)
      · have c2 := j_le (a := f5_aheadSize.toInt) (b := 0) rfl (by decide +kernel) c2
        exact m160_X5_walk_b107 C  L3 L4 f5_keptSize f5_aheadSize ai _ _ _ (by omega) (by omega) (by omega) (by omega) (by omega) (by omega) (by omega) (by omega) (by omega) (by omega) (by omega) (by omega) (by omega) hI hF hw_w0 hw_w1 hw_w2 hw_w3 hP hD hS (lv_sub hl [0, 1, 2, 3, 4] rfl)
      · have c2 := j_nle (a := f5_aheadSize.toInt) (b := 0) rfl (by decide +kernel) c2
        refine lv_aload_n hx hb dX5_walk_55 rfl (lv_at hl 0 rfl) ?_
        refine gf (k := 2) hx hb hts inX5 hown hK hP k_139 rfl (by decide) rfl 22 rfl (.int f5_keptSize) rfl dX5_walk_56 ?_
        refine lv_iconst (v := 1) hx hb dX5_walk_59 (by decide) ?_
        refine v_isub hx hb dX5_walk_60 _ rfl ?_
        refine lv_topi (fun z3 e_z3 => ?_)
        have g_z3 : z3.toInt = f5_keptSize.toInt - 1 := by rw [e_z3]; exact n_sub (a := f5_keptSize.toInt) (b := 1) rfl (by decide +kernel) (by omega) (by omega)
        refine lv_iconst (v := 4) hx hb dX5_walk_61 (by decide) ?_
        refine v_imul hx hb dX5_walk_62 _ rfl ?_
        refine lv_topi (fun z4 e_z4 => ?_)
        have g_z4 : z4.toInt = z3.toInt * 4 := by rw [e_z4]; exact n_mul (a := z3.toInt) (b := 4) rfl (by decide +kernel) (by omega) (by omega)
        refine lv_istore (lv' := [(5, .int z4), (0, .ref (ad 22)), (1, .ref (ad 17)), (2, .ref (ad 19)), (3, .int L3), (4, .int L4)]) hx hb dX5_walk_63 hl (by decide) rfl (fun ls_1 hl_1 => ?_)
        refine lv_aload_n hx hb dX5_walk_65 rfl (lv_at hl_1 1 rfl) ?_
        refine gf (k := 3) hx hb hts inX5 hown hK hP k_140 rfl (by decide) rfl 22 rfl (.int f5_aheadSize) rfl dX5_walk_66 ?_
        refine lv_iconst (v := 1) hx hb dX5_walk_69 (by decide) ?_
        refine v_isub hx hb dX5_walk_70 _ rfl ?_
        refine lv_topi (fun z5 e_z5 => ?_)
        have g_z5 : z5.toInt = f5_aheadSize.toInt - 1 := by rw [e_z5]; exact n_sub (a := f5_aheadSize.toInt) (b := 1) rfl (by decide +kernel) (by omega) (by omega)
        refine lv_iconst (v := 4) hx hb dX5_walk_71 (by decide) ?_
        refine v_imul hx hb dX5_walk_72 _ rfl ?_
        refine lv_topi (fun z6 e_z6 => ?_)
        have g_z6 : z6.toInt = z5.toInt * 4 := by rw [e_z6]; exact n_mul (a := z5.toInt) (b := 4) rfl (by decide +kernel) (by omega) (by omega)
        refine lv_istore (lv' := [(6, .int z6), (5, .int z4), (0, .ref (ad 22)), (1, .ref (ad 17)), (2, .ref (ad 19)), (3, .int L3), (4, .int L4)]) hx hb dX5_walk_73 hl_1 (by decide) rfl (fun ls_2 hl_2 => ?_)
        refine lv_aload_n hx hb dX5_walk_75 rfl (lv_at hl_2 2 rfl) ?_
        refine lv_iload hx hb dX5_walk_76 (lv_at hl_2 1 rfl) ?_
        refine lv_iload hx hb dX5_walk_78 (lv_at hl_2 0 rfl) ?_
        have hM := m068_X5_haveOppositeSigns l dC dI cI cJ cII cJJ H.size 0 ad f3_unknowns f3_equations f2_roundSupports f2_stale f7_size f1_size f5_keptSize f5_aheadSize f0_solved f4_blockCount f4_blockLength f4_lastIsFree f4_stale ai al w0 w1 w2 w3 z4 z6 (by omega) (by omega) (by omega) (by omega) (by omega) (by omega) (by omega) (by omega) (by omega) (by omega) (by omega) (by omega) (by omega) hI hw_w0 hw_w1 hw_w2 hw_w3
        refine k2V_i (q0 := 22) ⟨hx, hb, hml, hown, hts⟩ hK hP hD hS hA hX cv_RX5_32 hM ⟨by decide +kernel, by decide +kernel⟩ rfl rfl (Or.inl rfl) (rest := []) rfl rfl rfl hl_2.1 rfl (Nat.le_of_ble_eq_true rfl) dX5_walk_80 ⟨Nat.le_of_ble_eq_true rfl, Nat.le_of_ble_eq_true rfl⟩ (fun r7 t H1 locs_3 ht hB hS_3 hFc => ?_)
        obtain ⟨gpr7_0, hP_4, -, hD_4⟩ := hB
        rw [ht] at hP_4
        have hD_5 := hD_4.weaken (B := A) (fun k q _ h9 => hFc q.1 h9)
        clear ht
        generalize H1 = H_6 at hP_4 hS_3 ⊢
        refine lv_if_eq (tgt := 97) hx hb dX5_walk_83 (by decide) (fun c8 => ?_) (fun c8 => ?_)
        · have c8 := j_eq (a := r7.toInt) (b := 0) rfl (by decide +kernel) c8
          refine lv_aload_n hx hb dX5_walk_97 rfl (lv_at hl_2 2 rfl) ?_
          have hM := m067_X5_keepNext l dC dI cI cJ cII cJJ H_6.size 0 ad f3_unknowns f3_equations f2_roundSupports f2_stale f7_size f1_size f5_keptSize f5_aheadSize f0_solved f4_blockCount f4_blockLength f4_lastIsFree f4_stale ai al w0 w1 w2 w3 (by omega) (by omega) (by omega) (by omega) (by omega) (by omega) (by omega) (by omega) (by omega) (by omega) (by omega) hI hw_w0 hw_w1 hw_w2 hw_w3
          refine k2V_v (q0 := 22) ⟨hx, hb, hml, hown, hts⟩ hK hP_4 hD_5 hS_3 hA hX cv_RX5_29 hM ⟨by decide +kernel, by decide +kernel⟩ rfl rfl (Or.inl rfl) (rest := []) rfl rfl rfl hl_2.1 rfl (Nat.le_of_ble_eq_true rfl) dX5_walk_98 ⟨Nat.le_of_ble_eq_true rfl, Nat.le_of_ble_eq_true rfl⟩ (fun t H1 locs_7 ht hB hS_7 hFc => ?_)
          obtain ⟨v10, v11, ai12, ⟨gpr9_0, gpr9_1, gpr9_2, hI_8, hFr_r9⟩, hP_8, -, hD_8⟩ := hB
          have hF_9 := FR_tr hF hFr_r9 (by decide)
          rw [ht] at hP_8
          have hD_10 := hD_8.weaken (B := A) (fun k q _ h9 => hFc q.1 h9)
          clear ht
          generalize H1 = H_11 at hP_8 hS_7 ⊢
          exact m160_X5_walk_b101 C n ih L3 L4 z4 z6 v10 v11 ai12 _ _ _ (by omega) (by omega) (by omega) (by omega) (by omega) (by omega) (by omega) (by omega) (by omega) (by omega) (by omega) (by omega) (by omega) (by omega) (by omega) (by omega) (by omega) hI_8 hF_9 hw_w0 hw_w1 hw_w2 hw_w3 hP_8 hD_10 hS_7 (lv_sub hl_2 [2, 3, 4, 5, 6, 1, 0] rfl)
        · have c8 := j_ne (a := r7.toInt) (b := 0) rfl (by decide +kernel) c8
          refine lv_aload_n hx hb dX5_walk_86 rfl (lv_at hl_2 2 rfl) ?_
          refine lv_iload hx hb dX5_walk_87 (lv_at hl_2 1 rfl) ?_
          refine lv_iload hx hb dX5_walk_89 (lv_at hl_2 0 rfl) ?_
          have hM := m066_X5_pushSum l dC dI cI cJ cII cJJ H_6.size 0 ad f3_unknowns f3_equations f2_roundSupports f2_stale f7_size f1_size f5_keptSize f5_aheadSize f0_solved f4_blockCount f4_blockLength f4_lastIsFree f4_stale ai al w0 w1 w2 w3 z4 z6 (by omega) (by omega) (by omega) (by omega) (by omega) (by omega) (by omega) (by omega) (by omega) (by omega) (by omega) (by omega) (by omega) hI hw_w0 hw_w1 hw_w2 hw_w3
          refine k2V_v (q0 := 22) ⟨hx, hb, hml, hown, hts⟩ hK hP_4 hD_5 hS_3 hA hX cv_RX5_36 hM ⟨by decide +kernel, by decide +kernel⟩ rfl rfl (Or.inl rfl) (rest := []) rfl rfl rfl hl_2.1 rfl (Nat.le_of_ble_eq_true rfl) dX5_walk_91 ⟨Nat.le_of_ble_eq_true rfl, Nat.le_of_ble_eq_true rfl⟩ (fun t H1 locs_12 ht hB hS_12 hFc => ?_)
          obtain ⟨v14, ai15, ⟨gpr13_0, gpr13_1, hI_13, hFr_r13⟩, hP_13, -, hD_13⟩ := hB
          have hF_14 := FR_tr hF hFr_r13 (by decide)
          rw [ht] at hP_13
          have hD_15 := hD_13.weaken (B := A) (fun k q _ h9 => hFc q.1 h9)
          clear ht
          generalize H1 = H_16 at hP_13 hS_12 ⊢
          refine lv_goto (tgt := 101) hx hb dX5_walk_94 (by decide) ?_
          exact m160_X5_walk_b101 C n ih L3 L4 z4 z6 f5_keptSize v14 ai15 _ _ _ (by omega) (by omega) (by omega) (by omega) (by omega) (by omega) (by omega) (by omega) (by omega) (by omega) (by omega) (by omega) (by omega) (by omega) (by omega) (by omega) (by omega) hI_13 hF_14 hw_w0 hw_w1 hw_w2 hw_w3 hP_13 hD_15 hS_12 (lv_sub hl_2 [2, 3, 4, 5, 6, 1, 0] rfl)
set_option maxRecDepth 100000 in
set_option maxHeartbeats 4000000 in
theorem m160_X5_walk (l : Launch) (dC : Nat → ClassId) (dI : Nat → Nat → Nat) (cI cJ cII cJJ : ClassId) (sz g : Nat) (ad : Nat → Nat) (f3_unknowns f3_equations f2_roundSupports f2_stale f7_size f1_size f5_keptSize f5_aheadSize f0_solved f4_blockCount f4_blockLength f4_lastIsFree f4_stale : Int32) (ai : Nat → Nat → Int32) (al : Nat → Nat → Int64) (w0 w1 w2 w3 : Nat) (x3 : Int32) (h_x3 : (0 ≤ x3.toInt ∧ x3.toInt ≤ 1)) (h_f3_unknowns : (1 ≤ f3_unknowns.toInt ∧ f3_unknowns.toInt ≤ 4)) (h_f3_equations : (0 ≤ f3_equations.toInt ∧ f3_equations.toInt ≤ 3)) (h_f2_stale : (0 ≤ f2_stale.toInt ∧ f2_stale.toInt ≤ 1)) (h_f7_size : (0 ≤ f7_size.toInt ∧ f7_size.toInt ≤ 256)) (h_f1_size : (0 ≤ f1_size.toInt ∧ f1_size.toInt ≤ 4)) (h_f5_keptSize : (0 ≤ f5_keptSize.toInt ∧ f5_keptSize.toInt ≤ 128)) (h_f5_aheadSize : (0 ≤ f5_aheadSize.toInt ∧ f5_aheadSize.toInt ≤ 128)) (h_f4_blockCount : (0 ≤ f4_blockCount.toInt ∧ f4_blockCount.toInt ≤ 9261)) (h_f4_blockLength : (0 ≤ f4_blockLength.toInt ∧ f4_blockLength.toInt ≤ 21)) (h_f4_lastIsFree : (0 ≤ f4_lastIsFree.toInt ∧ f4_lastIsFree.toInt ≤ 1)) (h_f4_stale : (0 ≤ f4_stale.toInt ∧ f4_stale.toInt ≤ 1)) (hI : IAX ai) (hw_w0 : RWX ad w0) (hw_w1 : RWX ad w1) (hw_w2 : RWX ad w2) (hw_w3 : RWX ad w3) : Met l yX5_walk (.code yX5_walk cX5_walk 7 none :: TT) ({ frames := 3, cells := 0, slots := 0, locals := 140 } : Room) (PcS dC dI (TY cI cJ cII cJJ) [.ref (ad 22), .ref (ad 17), .ref (ad 19), .int x3] (WX cI cJ cII cJJ ad f3_unknowns f3_equations f2_roundSupports f2_stale f7_size f1_size f5_keptSize f5_aheadSize f0_solved f4_blockCount f4_blockLength f4_lastIsFree f4_stale ai al w0 w1 w2 w3) sz 0 g) (Q_m160_X5_walk dC dI cI cJ cII cJJ ad f3_unknowns f3_equations f2_roundSupports f2_stale f7_size f1_size f0_solved f4_blockCount f4_blockLength f4_lastIsFree f4_stale ai al w0 w1 w2 w3 (va_A (WX cI cJ cII cJJ ad f3_unknowns f3_equations f2_roundSupports f2_stale f7_size f1_size f5_keptSize f5_aheadSize f0_solved f4_blockCount f4_blockLength f4_lastIsFree f4_stale ai al w0 w1 w2 w3) sz)) 0 0 (va_A (WX cI cJ cII cJJ ad f3_unknowns f3_equations f2_roundSupports f2_stale f7_size f1_size f5_keptSize f5_aheadSize f0_solved f4_blockCount f4_blockLength f4_lastIsFree f4_stale ai al w0 w1 w2 w3) sz) := by
  refine SM.of (y := yX5_walk) (maxL := 7) (av := [.ref (ad 22), .ref (ad 17), .ref (ad 19), .int x3]) (Q_m160_X5_walk dC dI cI cJ cII cJJ ad f3_unknowns f3_equations f2_roundSupports f2_stale f7_size f1_size f0_solved f4_blockCount f4_blockLength f4_lastIsFree f4_stale ai al w0 w1 w2 w3) (by decide +kernel) (Nat.le_of_ble_eq_true rfl) (fun p e s m below meth c A ls hx hb hr hml hown hts hk hnm hA hK hP hD hS hX hl => ?_)
  have C : Cx p c s m meth (([.ref (ad 22), .ref (ad 17), .ref (ad 19), .int x3] : List Value).toArray) A dC dI (TY cI cJ cII cJJ) cX5_walk none 7 RX5 0 g := ⟨hx, hb, hr, hml, hown, hts, hk, hA, hK, hX⟩
  have hown : s.vm.findClass RX5 = some m.cls := hown
  have hl : lv_has ls 7 [(0, .ref (ad 22)), (1, .ref (ad 17)), (2, .ref (ad 19)), (3, .int x3)] := hl
  obtain ⟨H, hH⟩ : ∃ q, q = s.heap := ⟨_, rfl⟩
  rw [← hH] at hP
  have hS : va_S A s.heap H [] := by rw [hH]; exact hS
  rw [← hH]
  have hF := FR_refl [23, 24] ai
  refine lv_aload_n hx hb dX5_walk_0 rfl (lv_at hl 0 rfl) ?_
  refine lv_iconst (v := 0) hx hb dX5_walk_1 (by decide) ?_
  refine pf (k := 2) hx hb hts inX5 tyX5_ok nmX5 hown hK hP hD hS k_139 rfl (by decide) rfl rfl 22 rfl rfl rfl (Nat.le_of_ble_eq_true rfl) dX5_walk_2 (W' := (WX cI cJ cII cJJ ad f3_unknowns f3_equations f2_roundSupports f2_stale f7_size f1_size 0 f5_aheadSize f0_solved f4_blockCount f4_blockLength f4_lastIsFree f4_stale ai al w0 w1 w2 w3)) rfl (fun H_1 locs_1 hP_1 hD_1 hS_1 => ?_)
  refine lv_aload_n hx hb dX5_walk_5 rfl (lv_at hl 0 rfl) ?_
  refine lv_iconst (v := 0) hx hb dX5_walk_6 (by decide) ?_
  refine pf (k := 3) hx hb hts inX5 tyX5_ok nmX5 hown hK hP_1 hD_1 hS_1 k_140 rfl (by decide) rfl rfl 22 rfl rfl rfl (Nat.le_of_ble_eq_true rfl) dX5_walk_7 (W' := (WX cI cJ cII cJJ ad f3_unknowns f3_equations f2_roundSupports f2_stale f7_size f1_size 0 0 f0_solved f4_blockCount f4_blockLength f4_lastIsFree f4_stale ai al w0 w1 w2 w3)) rfl (fun H_2 locs_2 hP_2 hD_2 hS_2 => ?_)
  refine lv_aload_n hx hb dX5_walk_10 rfl (lv_at hl 0 rfl) ?_
  refine lv_aload_n hx hb dX5_walk_11 rfl (lv_at hl 1 rfl) ?_
  refine lv_iconst (v := 1) hx hb dX5_walk_12 (by decide) ?_
  have kc0 : (0 : Int32).toInt = 0 := by decide +kernel
  have kc1 : (1 : Int32).toInt = 1 := by decide +kernel
  have hM := m069_X5_pushAhead l dC dI cI cJ cII cJJ H_2.size 0 ad f3_unknowns f3_equations f2_roundSupports f2_stale f7_size f1_size 0 0 f0_solved f4_blockCount f4_blockLength f4_lastIsFree f4_stale ai al w0 w1 w2 w3 1 (by omega) (by omega) (by omega) (by omega) (by omega) (by decide +kernel) (by decide +kernel) (by omega) (by omega) (by omega) (by omega) hI hw_w0 hw_w1 hw_w2 hw_w3
  refine k2V_v (q0 := 22) ⟨hx, hb, hml, hown, hts⟩ hK hP_2 hD_2 hS_2 hA hX cv_RX5_25 hM ⟨by decide +kernel, by decide +kernel⟩ rfl rfl (Or.inl rfl) (rest := []) rfl rfl rfl hl.1 rfl (Nat.le_of_ble_eq_true rfl) dX5_walk_13 ⟨Nat.le_of_ble_eq_true rfl, Nat.le_of_ble_eq_true rfl⟩ (fun t H1 locs_3 ht hB hS_3 hFc => ?_)
  obtain ⟨v2, ai3, ⟨gpr1_0, gpr1_1, hI_4, hFr_r1⟩, hP_4, -, hD_4⟩ := hB
  have hF_5 := FR_tr hF hFr_r1 (by decide)
  rw [ht] at hP_4
  have hD_6 := hD_4.weaken (B := A) (fun k q _ h9 => hFc q.1 h9)
  clear ht
  generalize H1 = H_7 at hP_4 hS_3 ⊢
  refine lv_aload_n hx hb dX5_walk_16 rfl (lv_at hl 0 rfl) ?_
  have kc0 : (0 : Int32).toInt = 0 := by decide +kernel
  have hM := m067_X5_keepNext l dC dI cI cJ cII cJJ H_7.size 0 ad f3_unknowns f3_equations f2_roundSupports f2_stale f7_size f1_size 0 v2 f0_solved f4_blockCount f4_blockLength f4_lastIsFree f4_stale ai3 al w0 w1 w2 w3 (by omega) (by omega) (by omega) (by omega) (by omega) (by decide +kernel) (by omega) (by omega) (by omega) (by omega) (by omega) hI_4 hw_w0 hw_w1 hw_w2 hw_w3
  refine k2V_v (q0 := 22) ⟨hx, hb, hml, hown, hts⟩ hK hP_4 hD_6 hS_3 hA hX cv_RX5_29 hM ⟨by decide +kernel, by decide +kernel⟩ rfl rfl (Or.inl rfl) (rest := []) rfl rfl rfl hl.1 rfl (Nat.le_of_ble_eq_true rfl) dX5_walk_17 ⟨Nat.le_of_ble_eq_true rfl, Nat.le_of_ble_eq_true rfl⟩ (fun t H1 locs_8 ht hB hS_8 hFc => ?_)
  obtain ⟨v5, v6, ai7, ⟨gpr4_0, gpr4_1, gpr4_2, hI_9, hFr_r4⟩, hP_9, -, hD_9⟩ := hB
  have hF_10 := FR_tr hF_5 hFr_r4 (by decide)
  rw [ht] at hP_9
  have hD_11 := hD_9.weaken (B := A) (fun k q _ h9 => hFc q.1 h9)
  clear ht
  generalize H1 = H_12 at hP_9 hS_8 ⊢
  refine lv_iload_n hx hb dX5_walk_20 rfl (lv_at hl 3 rfl) ?_
  refine lv_if_ne (tgt := 25) hx hb dX5_walk_21 (by decide) (fun c8 => ?_) (fun c8 => ?_)
  · have c8 := j_ne (a := x3.toInt) (b := 0) rfl (by decide +kernel) c8
    refine lv_aload_n hx hb dX5_walk_25 rfl (lv_at hl 0 rfl) ?_
    refine lv_aload_n hx hb dX5_walk_26 rfl (lv_at hl 1 rfl) ?_
    refine lv_iconst (v := (-1)) hx hb dX5_walk_27 (by decide) ?_
    have kcm1 : ((-1) : Int32).toInt = (-1) := by decide +kernel
    have hM := m069_X5_pushAhead l dC dI cI cJ cII cJJ H_12.size 0 ad f3_unknowns f3_equations f2_roundSupports f2_stale f7_size f1_size v5 v6 f0_solved f4_blockCount f4_blockLength f4_lastIsFree f4_stale ai7 al w0 w1 w2 w3 (-1) (by omega) (by omega) (by omega) (by omega) (by omega) (by omega) (by omega) (by omega) (by omega) (by omega) (by omega) hI_9 hw_w0 hw_w1 hw_w2 hw_w3
    refine k2V_v (q0 := 22) ⟨hx, hb, hml, hown, hts⟩ hK hP_9 hD_11 hS_8 hA hX cv_RX5_25 hM ⟨by decide +kernel, by decide +kernel⟩ rfl rfl (Or.inl rfl) (rest := []) rfl rfl rfl hl.1 rfl (Nat.le_of_ble_eq_true rfl) dX5_walk_28 ⟨Nat.le_of_ble_eq_true rfl, Nat.le_of_ble_eq_true rfl⟩ (fun t H1 locs_13 ht hB hS_13 hFc => ?_)
    obtain ⟨v10, ai11, ⟨gpr9_0, gpr9_1, hI_14, hFr_r9⟩, hP_14, -, hD_14⟩ := hB
    have hF_15 := FR_tr hF_10 hFr_r9 (by decide)
    rw [ht] at hP_14
    have hD_16 := hD_14.weaken (B := A) (fun k q _ h9 => hFc q.1 h9)
    clear ht
    generalize H1 = H_17 at hP_14 hS_13 ⊢
    refine lv_aload_n hx hb dX5_walk_31 rfl (lv_at hl 0 rfl) ?_
    refine lv_aload_n hx hb dX5_walk_32 rfl (lv_at hl 2 rfl) ?_
    refine lv_iconst (v := 1) hx hb dX5_walk_33 (by decide) ?_
    have kc1 : (1 : Int32).toInt = 1 := by decide +kernel
    have hM := m150_X5_pushAhead l dC dI cI cJ cII cJJ H_17.size 0 ad f3_unknowns f3_equations f2_roundSupports f2_stale f7_size f1_size v5 v10 f0_solved f4_blockCount f4_blockLength f4_lastIsFree f4_stale ai11 al w0 w1 w2 w3 1 (by omega) (by omega) (by omega) (by omega) (by omega) (by omega) (by omega) (by omega) (by omega) (by omega) (by omega) hI_14 hw_w0 hw_w1 hw_w2 hw_w3
    refine k2V_v (q0 := 22) ⟨hx, hb, hml, hown, hts⟩ hK hP_14 hD_16 hS_13 hA hX cv_RX5_25 hM ⟨by decide +kernel, by decide +kernel⟩ rfl rfl (Or.inl rfl) (rest := []) rfl rfl rfl hl.1 rfl (Nat.le_of_ble_eq_true rfl) dX5_walk_34 ⟨Nat.le_of_ble_eq_true rfl, Nat.le_of_ble_eq_true rfl⟩ (fun t H1 locs_18 ht hB hS_18 hFc => ?_)
    obtain ⟨v13, ai14, ⟨gpr12_0, gpr12_1, hI_19, hFr_r12⟩, hP_19, -, hD_19⟩ := hB
    have hF_20 := FR_tr hF_15 hFr_r12 (by decide)
    rw [ht] at hP_19
    have hD_21 := hD_19.weaken (B := A) (fun k q _ h9 => hFc q.1 h9)
    clear ht
    generalize H1 = H_22 at hP_19 hS_18 ⊢
    refine lv_iconst (v := 0) hx hb dX5_walk_37 (by decide) ?_
    refine lv_istore (lv' := [(4, .int 0), (0, .ref (ad 22)), (1, .ref (ad 17)), (2, .ref (ad 19)), (3, .int x3)]) hx hb dX5_walk_38 hl (by decide) rfl (fun ls_23 hl_23 => ?_)
    exact m160_X5_walk_b40 C  _ x3 0 v5 v13 ai14 _ _ _ (by first | omega | decide | (have ka0 := (by decide +kernel : (0 : Int32).toInt = 0); omega)) (by first | omega | decide | (have ka0 := (by decide +kernel : (0 : Int32).toInt = 0); omega)) (by first | omega | decide | (have ka0 := (by decide +kernel : (0 : Int32).toInt = 0); omega)) (by first | omega | decide | (have ka0 := (by decide +kernel : (0 : Int32).toInt = 0); omega)) (by first | omega | decide | (have ka0 := (by decide +kernel : (0 : Int32).toInt = 0); omega)) (by first | omega | decide | (have ka0 := (by decide +kernel : (0 : Int32).toInt = 0); omega)) (by first | omega | decide | (have ka0 := (by decide +kernel : (0 : Int32).toInt = 0); omega)) (by first | omega | decide | (have ka0 := (by decide +kernel : (0 : Int32).toInt = 0); omega)) (by first | omega | decide | (have ka0 := (by decide +kernel : (0 : Int32).toInt = 0); omega)) (by first | omega | decide | (have ka0 := (by decide +kernel : (0 : Int32).toInt = 0); omega)) (by first | omega | decide | (have ka0 := (by decide +kernel : (0 : Int32).toInt = 0); omega)) (by first | omega | decide | (have ka0 := (by decide +kernel : (0 : Int32).toInt = 0); omega)) (by first | omega | decide | (have ka0 := (by decide +kernel : (0 : Int32).toInt = 0); omega)) (j_fuel _) (by omega) hI_19 hF_20 hw_w0 hw_w1 hw_w2 hw_w3 hP_19 hD_21 hS_18 (lv_sub hl_23 [1, 2, 3, 4, 0] rfl)
  · have c8 := j_eq (a := x3.toInt) (b := 0) rfl (by decide +kernel) c8
    exact r2_v hx hb hr hk hS_8 dX5_walk_24 (fun t ht hW => ⟨v5, v6, ai7, ⟨(by first | omega | decide | exact Or.inl (by decide) | exact Or.inr (by decide) | exact Or.inr (by omega)), (by first | omega | decide | exact Or.inl (by decide) | exact Or.inr (by decide) | exact Or.inr (by omega)), hI_9, hF_10⟩, by rw [ht]; exact hP_9, va_K.moved hW.alike hK, hD_11⟩)
def Q_m161_X5_walk (dC : Nat → ClassId) (dI : Nat → Nat → Nat) (cI cJ cII cJJ : ClassId) (ad : Nat → Nat) (f3_unknowns f3_equations f2_roundSupports f2_stale f7_size f1_size f0_solved f4_blockCount f4_blockLength f4_lastIsFree f4_stale : Int32) (ai0 : Nat → Nat → Int32) (al : Nat → Nat → Int64) (w0 w1 w2 w3 : Nat) : (Nat → Prop) → Array Value → State → Outcome → State → Prop := fun A => QV (fun t => ∃ (n_f5_keptSize n_f5_aheadSize : Int32), ∃ (n_ai : Nat → Nat → Int32), ((0 ≤ n_f5_keptSize.toInt ∧ n_f5_keptSize.toInt ≤ 127) ∧ (0 ≤ n_f5_aheadSize.toInt ∧ n_f5_aheadSize.toInt ≤ 128) ∧ IAX n_ai ∧ FR [23, 24] ai0 n_ai) ∧ WO dC dI (TY cI cJ cII cJJ) (WX cI cJ cII cJJ ad f3_unknowns f3_equations f2_roundSupports f2_stale f7_size f1_size n_f5_keptSize n_f5_aheadSize f0_solved f4_blockCount f4_blockLength f4_lastIsFree f4_stale n_ai al w0 w1 w2 w3) A t) A
set_option maxRecDepth 100000 in
set_option maxHeartbeats 4000000 in
theorem m161_X5_walk_b107 {p : Program} {l : Launch} {e : Env} {s : State} {m : MethodId} {args : Array Value} {below : List Frame} {meth : Method} {c : Code} {A : Nat → Prop} {dC : Nat → ClassId} {dI : Nat → Nat → Nat} {cI cJ cII cJJ : ClassId} {ad : Nat → Nat} {g : Nat} {f3_unknowns f3_equations f2_roundSupports f2_stale f7_size f1_size f0_solved f4_blockCount f4_blockLength f4_lastIsFree f4_stale : Int32} {ai0 : Nat → Nat → Int32} {al : Nat → Nat → Int64} {w0 w1 w2 w3 : Nat} (C : Cx p c s m meth args A dC dI (TY cI cJ cII cJJ) cX5_walk none 7 RX5 0 g) : ∀ (L3 L4 f5_keptSize f5_aheadSize : Int32) (ai : Nat → Nat → Int32) (H : Heap) (locs : List Loc) (ls : Array Slot), (1 ≤ L3.toInt ∧ L3.toInt ≤ 1) → (0 ≤ L4.toInt ∧ L4.toInt ≤ 100000) → (1 ≤ f3_unknowns.toInt ∧ f3_unknowns.toInt ≤ 4) → (0 ≤ f3_equations.toInt ∧ f3_equations.toInt ≤ 3) → (0 ≤ f2_stale.toInt ∧ f2_stale.toInt ≤ 1) → (0 ≤ f7_size.toInt ∧ f7_size.toInt ≤ 256) → (0 ≤ f1_size.toInt ∧ f1_size.toInt ≤ 4) → (1 ≤ f5_keptSize.toInt ∧ f5_keptSize.toInt ≤ 128) → (0 ≤ f5_aheadSize.toInt ∧ f5_aheadSize.toInt ≤ 128) → (0 ≤ f4_blockCount.toInt ∧ f4_blockCount.toInt ≤ 9261) → (0 ≤ f4_blockLength.toInt ∧ f4_blockLength.toInt ≤ 21) → (0 ≤ f4_lastIsFree.toInt ∧ f4_lastIsFree.toInt ≤ 1) → (0 ≤ f4_stale.toInt ∧ f4_stale.toInt ≤ 1) → IAX ai → FR [23, 24] ai0 ai → RWX ad w0 → RWX ad w1 → RWX ad w2 → RWX ad w3 → va_P (dC, dI) vwCl (WX cI cJ cII cJJ ad f3_unknowns f3_equations f2_roundSupports f2_stale f7_size f1_size f5_keptSize f5_aheadSize f0_solved f4_blockCount f4_blockLength f4_lastIsFree f4_stale ai al w0 w1 w2 w3) H → va_D A (WX cI cJ cII cJJ ad f3_unknowns f3_equations f2_roundSupports f2_stale f7_size f1_size f5_keptSize f5_aheadSize f0_solved f4_blockCount f4_blockLength f4_lastIsFree f4_stale ai al w0 w1 w2 w3) → va_S A s.heap H locs → lv_has ls 7 [(0, .ref (ad 22)), (1, .ref (ad 18)), (2, .ref (ad 19)), (3, .int L3), (4, .int L4)] → W p l e ({ frames := 3, cells := 0, slots := 0, locals := 140 } : Room) s m args below meth c H locs 0 0 (MQ below (Q_m161_X5_walk dC dI cI cJ cII cJJ ad f3_unknowns f3_equations f2_roundSupports f2_stale f7_size f1_size f0_solved f4_blockCount f4_blockLength f4_lastIsFree f4_stale ai0 al w0 w1 w2 w3 A) args s 0 0 A) (F0 m 107 ls []) := by
  obtain ⟨hx, hb, hr, hml, hown, hts, hk, hA, hK, hX⟩ := id C
  intro L3 L4 f5_keptSize f5_aheadSize ai H locs ls h0 h1 h2 h3 h4 h5 h6 h7 h8 h9 h10 h11 h12 hI hF hw_w0 hw_w1 hw_w2 hw_w3 hP hD hS hl
  refine lv_aload_n hx hb dX5_walk_107 rfl (lv_at hl 0 rfl) ?_
  refine lv_dup hx hb dX5_walk_108 rfl ?_
  refine gf (k := 2) hx hb hts inX5 hown hK hP k_139 rfl (by decide) rfl 22 rfl (.int f5_keptSize) rfl dX5_walk_109 ?_
  refine lv_iconst (v := 1) hx hb dX5_walk_112 (by decide) ?_
  refine v_isub hx hb dX5_walk_113 _ rfl ?_
  refine lv_topi (fun z1 e_z1 => ?_)
  have g_z1 : z1.toInt = f5_keptSize.toInt - 1 := by rw [e_z1]; exact n_sub (a := f5_keptSize.toInt) (b := 1) rfl (by decide +kernel) (by omega) (by omega)
  refine pf (k := 2) hx hb hts inX5 tyX5_ok nmX5 hown hK hP hD hS k_139 rfl (by decide) rfl rfl 22 rfl rfl rfl (Nat.le_of_ble_eq_true rfl) dX5_walk_114 (W' := (WX cI cJ cII cJJ ad f3_unknowns f3_equations f2_roundSupports f2_stale f7_size f1_size z1 f5_aheadSize f0_solved f4_blockCount f4_blockLength f4_lastIsFree f4_stale ai al w0 w1 w2 w3)) rfl (fun H_1 locs_1 hP_1 hD_1 hS_1 => ?_)
  exact r2_v hx hb hr hk hS_1 dX5_walk_117 (fun t ht hW => ⟨z1, f5_aheadSize, ai, ⟨(by first | omega | decide | exact Or.inl (by decide) | exact Or.inr (by decide) | exact Or.inr (by omega)), (by first | omega | decide | exact Or.inl (by decide) | exact Or.inr (by decide) | exact Or.inr (by omega)), hI, hF⟩, by rw [ht]; exact hP_1, va_K.moved hW.alike hK, hD_1⟩)
set_option maxRecDepth 100000 in
set_option maxHeartbeats 4000000 in
theorem m161_X5_walk_b101 {p : Program} {l : Launch} {e : Env} {s : State} {m : MethodId} {args : Array Value} {below : List Frame} {meth : Method} {c : Code} {A : Nat → Prop} {dC : Nat → ClassId} {dI : Nat → Nat → Nat} {cI cJ cII cJJ : ClassId} {ad : Nat → Nat} {g : Nat} {f3_unknowns f3_equations f2_roundSupports f2_stale f7_size f1_size f0_solved f4_blockCount f4_blockLength f4_lastIsFree f4_stale : Int32} {ai0 : Nat → Nat → Int32} {al : Nat → Nat → Int64} {w0 w1 w2 w3 : Nat} (C : Cx p c s m meth args A dC dI (TY cI cJ cII cJJ) cX5_walk none 7 RX5 0 g) (n40 : Nat) (K40 : ∀ (L3 L4 f5_keptSize f5_aheadSize : Int32) (ai : Nat → Nat → Int32) (H : Heap) (locs : List Loc) (ls : Array Slot), (1 ≤ L3.toInt ∧ L3.toInt ≤ 1) → (0 ≤ L4.toInt ∧ L4.toInt ≤ 100000) → (1 ≤ f3_unknowns.toInt ∧ f3_unknowns.toInt ≤ 4) → (0 ≤ f3_equations.toInt ∧ f3_equations.toInt ≤ 3) → (0 ≤ f2_stale.toInt ∧ f2_stale.toInt ≤ 1) → (0 ≤ f7_size.toInt ∧ f7_size.toInt ≤ 256) → (0 ≤ f1_size.toInt ∧ f1_size.toInt ≤ 4) → (1 ≤ f5_keptSize.toInt ∧ f5_keptSize.toInt ≤ 128) → (0 ≤ f5_aheadSize.toInt ∧ f5_aheadSize.toInt ≤ 128) → (0 ≤ f4_blockCount.toInt ∧ f4_blockCount.toInt ≤ 9261) → (0 ≤ f4_blockLength.toInt ∧ f4_blockLength.toInt ≤ 21) → (0 ≤ f4_lastIsFree.toInt ∧ f4_lastIsFree.toInt ≤ 1) → (0 ≤ f4_stale.toInt ∧ f4_stale.toInt ≤ 1) → 10000 - L4.toInt < (n40 : Int) → (0 : Int) < (n40 : Int) → IAX ai → FR [23, 24] ai0 ai → RWX ad w0 → RWX ad w1 → RWX ad w2 → RWX ad w3 → va_P (dC, dI) vwCl (WX cI cJ cII cJJ ad f3_unknowns f3_equations f2_roundSupports f2_stale f7_size f1_size f5_keptSize f5_aheadSize f0_solved f4_blockCount f4_blockLength f4_lastIsFree f4_stale ai al w0 w1 w2 w3) H → va_D A (WX cI cJ cII cJJ ad f3_unknowns f3_equations f2_roundSupports f2_stale f7_size f1_size f5_keptSize f5_aheadSize f0_solved f4_blockCount f4_blockLength f4_lastIsFree f4_stale ai al w0 w1 w2 w3) → va_S A s.heap H locs → lv_has ls 7 [(0, .ref (ad 22)), (1, .ref (ad 18)), (2, .ref (ad 19)), (3, .int L3), (4, .int L4)] → W p l e ({ frames := 3, cells := 0, slots := 0, locals := 140 } : Room) s m args below meth c H locs 0 0 (MQ below (Q_m161_X5_walk dC dI cI cJ cII cJJ ad f3_unknowns f3_equations f2_roundSupports f2_stale f7_size f1_size f0_solved f4_blockCount f4_blockLength f4_lastIsFree f4_stale ai0 al w0 w1 w2 w3 A) args s 0 0 A) (F0 m 40 ls [])) : ∀ (L3 L4 L5 L6 f5_keptSize f5_aheadSize : Int32) (ai : Nat → Nat → Int32) (H : Heap) (locs : List Loc) (ls : Array Slot), (1 ≤ L3.toInt ∧ L3.toInt ≤ 1) → (0 ≤ L4.toInt ∧ L4.toInt ≤ 99999) → (0 ≤ L5.toInt ∧ L5.toInt ≤ 5999) → (0 ≤ L6.toInt ∧ L6.toInt ≤ 5999) → (1 ≤ f3_unknowns.toInt ∧ f3_unknowns.toInt ≤ 4) → (0 ≤ f3_equations.toInt ∧ f3_equations.toInt ≤ 3) → (0 ≤ f2_stale.toInt ∧ f2_stale.toInt ≤ 1) → (0 ≤ f7_size.toInt ∧ f7_size.toInt ≤ 256) → (0 ≤ f1_size.toInt ∧ f1_size.toInt ≤ 4) → (1 ≤ f5_keptSize.toInt ∧ f5_keptSize.toInt ≤ 128) → (0 ≤ f5_aheadSize.toInt ∧ f5_aheadSize.toInt ≤ 128) → (0 ≤ f4_blockCount.toInt ∧ f4_blockCount.toInt ≤ 9261) → (0 ≤ f4_blockLength.toInt ∧ f4_blockLength.toInt ≤ 21) → (0 ≤ f4_lastIsFree.toInt ∧ f4_lastIsFree.toInt ≤ 1) → (0 ≤ f4_stale.toInt ∧ f4_stale.toInt ≤ 1) → L4.toInt < 10000 → 10000 - L4.toInt ≤ (n40 : Int) → IAX ai → FR [23, 24] ai0 ai → RWX ad w0 → RWX ad w1 → RWX ad w2 → RWX ad w3 → va_P (dC, dI) vwCl (WX cI cJ cII cJJ ad f3_unknowns f3_equations f2_roundSupports f2_stale f7_size f1_size f5_keptSize f5_aheadSize f0_solved f4_blockCount f4_blockLength f4_lastIsFree f4_stale ai al w0 w1 w2 w3) H → va_D A (WX cI cJ cII cJJ ad f3_unknowns f3_equations f2_roundSupports f2_stale f7_size f1_size f5_keptSize f5_aheadSize f0_solved f4_blockCount f4_blockLength f4_lastIsFree f4_stale ai al w0 w1 w2 w3) → va_S A s.heap H locs → lv_has ls 7 [(0, .ref (ad 22)), (1, .ref (ad 18)), (2, .ref (ad 19)), (3, .int L3), (4, .int L4), (5, .int L5), (6, .int L6)] → W p l e ({ frames := 3, cells := 0, slots := 0, locals := 140 } : Room) s m args below meth c H locs 0 0 (MQ below (Q_m161_X5_walk dC dI cI cJ cII cJJ ad f3_unknowns f3_equations f2_roundSupports f2_stale f7_size f1_size f0_solved f4_blockCount f4_blockLength f4_lastIsFree f4_stale ai0 al w0 w1 w2 w3 A) args s 0 0 A) (F0 m 101 ls []) := by
  obtain ⟨hx, hb, hr, hml, hown, hts, hk, hA, hK, hX⟩ := id C
  intro L3 L4 L5 L6 f5_keptSize f5_aheadSize ai H locs ls h0 h1 h2 h3 h4 h5 h6 h7 h8 h9 h10 h11 h12 h13 h14 h15 h16 hI hF hw_w0 hw_w1 hw_w2 hw_w3 hP hD hS hl
  obtain ⟨z1, e_z1⟩ : ∃ q : Int32, q = L4 + Int32.ofInt 1 := ⟨_, rfl⟩
  have g_z1 : z1.toInt = L4.toInt + 1 := by rw [e_z1]; exact n_add (a := L4.toInt) (b := 1) rfl (by decide +kernel) (by omega) (by omega)
  refine lv_iinc (v := z1) (lv' := [(4, .int z1), (0, .ref (ad 22)), (1, .ref (ad 18)), (2, .ref (ad 19)), (3, .int L3), (5, .int L5), (6, .int L6)]) hx hb dX5_walk_101 hl (k := 4) rfl e_z1.symm (by decide) rfl (fun ls_1 hl_1 => ?_)
  refine lv_goto (tgt := 40) hx hb dX5_walk_104 (by decide) ?_
  exact K40 L3 z1 f5_keptSize f5_aheadSize ai _ _ _ (by omega) (by omega) (by omega) (by omega) (by omega) (by omega) (by omega) (by omega) (by omega) (by omega) (by omega) (by omega) (by omega) (by omega) (by omega) hI hF hw_w0 hw_w1 hw_w2 hw_w3 hP hD hS (lv_sub hl_1 [1, 2, 3, 4, 0] rfl)
set_option maxRecDepth 100000 in
set_option maxHeartbeats 4000000 in
theorem m161_X5_walk_b40 {p : Program} {l : Launch} {e : Env} {s : State} {m : MethodId} {args : Array Value} {below : List Frame} {meth : Method} {c : Code} {A : Nat → Prop} {dC : Nat → ClassId} {dI : Nat → Nat → Nat} {cI cJ cII cJJ : ClassId} {ad : Nat → Nat} {g : Nat} {f3_unknowns f3_equations f2_roundSupports f2_stale f7_size f1_size f0_solved f4_blockCount f4_blockLength f4_lastIsFree f4_stale : Int32} {ai0 : Nat → Nat → Int32} {al : Nat → Nat → Int64} {w0 w1 w2 w3 : Nat} (C : Cx p c s m meth args A dC dI (TY cI cJ cII cJJ) cX5_walk none 7 RX5 0 g) : ∀ (n : Nat), ∀ (L3 L4 f5_keptSize f5_aheadSize : Int32) (ai : Nat → Nat → Int32) (H : Heap) (locs : List Loc) (ls : Array Slot), (1 ≤ L3.toInt ∧ L3.toInt ≤ 1) → (0 ≤ L4.toInt ∧ L4.toInt ≤ 100000) → (1 ≤ f3_unknowns.toInt ∧ f3_unknowns.toInt ≤ 4) → (0 ≤ f3_equations.toInt ∧ f3_equations.toInt ≤ 3) → (0 ≤ f2_stale.toInt ∧ f2_stale.toInt ≤ 1) → (0 ≤ f7_size.toInt ∧ f7_size.toInt ≤ 256) → (0 ≤ f1_size.toInt ∧ f1_size.toInt ≤ 4) → (1 ≤ f5_keptSize.toInt ∧ f5_keptSize.toInt ≤ 128) → (0 ≤ f5_aheadSize.toInt ∧ f5_aheadSize.toInt ≤ 128) → (0 ≤ f4_blockCount.toInt ∧ f4_blockCount.toInt ≤ 9261) → (0 ≤ f4_blockLength.toInt ∧ f4_blockLength.toInt ≤ 21) → (0 ≤ f4_lastIsFree.toInt ∧ f4_lastIsFree.toInt ≤ 1) → (0 ≤ f4_stale.toInt ∧ f4_stale.toInt ≤ 1) → 10000 - L4.toInt < (n : Int) → (0 : Int) < (n : Int) → IAX ai → FR [23, 24] ai0 ai → RWX ad w0 → RWX ad w1 → RWX ad w2 → RWX ad w3 → va_P (dC, dI) vwCl (WX cI cJ cII cJJ ad f3_unknowns f3_equations f2_roundSupports f2_stale f7_size f1_size f5_keptSize f5_aheadSize f0_solved f4_blockCount f4_blockLength f4_lastIsFree f4_stale ai al w0 w1 w2 w3) H → va_D A (WX cI cJ cII cJJ ad f3_unknowns f3_equations f2_roundSupports f2_stale f7_size f1_size f5_keptSize f5_aheadSize f0_solved f4_blockCount f4_blockLength f4_lastIsFree f4_stale ai al w0 w1 w2 w3) → va_S A s.heap H locs → lv_has ls 7 [(0, .ref (ad 22)), (1, .ref (ad 18)), (2, .ref (ad 19)), (3, .int L3), (4, .int L4)] → W p l e ({ frames := 3, cells := 0, slots := 0, locals := 140 } : Room) s m args below meth c H locs 0 0 (MQ below (Q_m161_X5_walk dC dI cI cJ cII cJJ ad f3_unknowns f3_equations f2_roundSupports f2_stale f7_size f1_size f0_solved f4_blockCount f4_blockLength f4_lastIsFree f4_stale ai0 al w0 w1 w2 w3 A) args s 0 0 A) (F0 m 40 ls []) := by
  obtain ⟨hx, hb, hr, hml, hown, hts, hk, hA, hK, hX⟩ := id C
  intro n
  induction n with
  | zero =>
    intro L3 L4 f5_keptSize f5_aheadSize ai H locs ls h0 h1 h2 h3 h4 h5 h6 h7 h8 h9 h10 h11 h12 h13 h14 hI hF hw_w0 hw_w1 hw_w2 hw_w3 hP hD hS hl
    exact absurd h14 (by omega)
  | succ n ih =>
    intro L3 L4 f5_keptSize f5_aheadSize ai H locs ls h0 h1 h2 h3 h4 h5 h6 h7 h8 h9 h10 h11 h12 h13 h14 hI hF hw_w0 hw_w1 hw_w2 hw_w3 hP hD hS hl
    refine lv_iload hx hb dX5_walk_40 (lv_at hl 4 rfl) ?_
    refine lv_sipush (v := 10000) hx hb dX5_walk_42 (by decide) ?_
    refine lv_icmp_ge (tgt := 107) hx hb dX5_walk_45 (by decide) (fun c1 => ?_) (fun c1 => ?_)
    · have c1 := j_le (a := 10000) (b := L4.toInt) (by decide +kernel) rfl c1
      exact m161_X5_walk_b107 C  L3 L4 f5_keptSize f5_aheadSize ai _ _ _ (by omega) (by omega) (by omega) (by omega) (by omega) (by omega) (by omega) (by omega) (by omega) (by omega) (by omega) (by omega) (by omega) hI hF hw_w0 hw_w1 hw_w2 hw_w3 hP hD hS (lv_sub hl [0, 1, 2, 3, 4] rfl)
    · have c1 := j_nle (a := 10000) (b := L4.toInt) (by decide +kernel) rfl c1
      refine lv_aload_n hx hb dX5_walk_48 rfl (lv_at hl 0 rfl) ?_
      refine gf (k := 3) hx hb hts inX5 hown hK hP k_140 rfl (by decide) rfl 22 rfl (.int f5_aheadSize) rfl dX5_walk_49 ?_
      refine lv_if_le (tgt := 107) hx hb dX5_walk_52 (by decide) (fun c2 => ?_) (fun c2 => ?_)
      · have c2 := j_le (a := f5_aheadSize.toInt) (b := 0) rfl (by decide +kernel) c2
        exact m161_X5_walk_b107 C  L3 L4 f5_keptSize f5_aheadSize ai _ _ _ (by omega) (by omega) (by omega) (by omega) (by omega) (by omega) (by omega) (by omega) (by omega) (by omega) (by omega) (by omega) (by omega) hI hF hw_w0 hw_w1 hw_w2 hw_w3 hP hD hS (lv_sub hl [0, 1, 2, 3, 4] rfl)
      · have c2 := j_nle (a := f5_aheadSize.toInt) (b := 0) rfl (by decide +kernel) c2
        refine lv_aload_n hx hb dX5_walk_55 rfl (lv_at hl 0 rfl) ?_
        refine gf (k := 2) hx hb hts inX5 hown hK hP k_139 rfl (by decide) rfl 22 rfl (.int f5_keptSize) rfl dX5_walk_56 ?_
        refine lv_iconst (v := 1) hx hb dX5_walk_59 (by decide) ?_
        refine v_isub hx hb dX5_walk_60 _ rfl ?_
        refine lv_topi (fun z3 e_z3 => ?_)
        have g_z3 : z3.toInt = f5_keptSize.toInt - 1 := by rw [e_z3]; exact n_sub (a := f5_keptSize.toInt) (b := 1) rfl (by decide +kernel) (by omega) (by omega)
        refine lv_iconst (v := 4) hx hb dX5_walk_61 (by decide) ?_
        refine v_imul hx hb dX5_walk_62 _ rfl ?_
        refine lv_topi (fun z4 e_z4 => ?_)
        have g_z4 : z4.toInt = z3.toInt * 4 := by rw [e_z4]; exact n_mul (a := z3.toInt) (b := 4) rfl (by decide +kernel) (by omega) (by omega)
        refine lv_istore (lv' := [(5, .int z4), (0, .ref (ad 22)), (1, .ref (ad 18)), (2, .ref (ad 19)), (3, .int L3), (4, .int L4)]) hx hb dX5_walk_63 hl (by decide) rfl (fun ls_1 hl_1 => ?_)
        refine lv_aload_n hx hb dX5_walk_65 rfl (lv_at hl_1 1 rfl) ?_
        refine gf (k := 3) hx hb hts inX5 hown hK hP k_140 rfl (by decide) rfl 22 rfl (.int f5_aheadSize) rfl dX5_walk_66 ?_
        refine lv_iconst (v := 1) hx hb dX5_walk_69 (by decide) ?_
        refine v_isub hx hb dX5_walk_70 _ rfl ?_
        refine lv_topi (fun z5 e_z5 => ?_)
        have g_z5 : z5.toInt = f5_aheadSize.toInt - 1 := by rw [e_z5]; exact n_sub (a := f5_aheadSize.toInt) (b := 1) rfl (by decide +kernel) (by omega) (by omega)
        refine lv_iconst (v := 4) hx hb dX5_walk_71 (by decide) ?_
        refine v_imul hx hb dX5_walk_72 _ rfl ?_
        refine lv_topi (fun z6 e_z6 => ?_)
        have g_z6 : z6.toInt = z5.toInt * 4 := by rw [e_z6]; exact n_mul (a := z5.toInt) (b := 4) rfl (by decide +kernel) (by omega) (by omega)
        refine lv_istore (lv' := [(6, .int z6), (5, .int z4), (0, .ref (ad 22)), (1, .ref (ad 18)), (2, .ref (ad 19)), (3, .int L3), (4, .int L4)]) hx hb dX5_walk_73 hl_1 (by decide) rfl (fun ls_2 hl_2 => ?_)
        refine lv_aload_n hx hb dX5_walk_75 rfl (lv_at hl_2 2 rfl) ?_
        refine lv_iload hx hb dX5_walk_76 (lv_at hl_2 1 rfl) ?_
        refine lv_iload hx hb dX5_walk_78 (lv_at hl_2 0 rfl) ?_
        have hM := m068_X5_haveOppositeSigns l dC dI cI cJ cII cJJ H.size 0 ad f3_unknowns f3_equations f2_roundSupports f2_stale f7_size f1_size f5_keptSize f5_aheadSize f0_solved f4_blockCount f4_blockLength f4_lastIsFree f4_stale ai al w0 w1 w2 w3 z4 z6 (by omega) (by omega) (by omega) (by omega) (by omega) (by omega) (by omega) (by omega) (by omega) (by omega) (by omega) (by omega) (by omega) hI hw_w0 hw_w1 hw_w2 hw_w3
        refine k2V_i (q0 := 22) ⟨hx, hb, hml, hown, hts⟩ hK hP hD hS hA hX cv_RX5_32 hM ⟨by decide +kernel, by decide +kernel⟩ rfl rfl (Or.inl rfl) (rest := []) rfl rfl rfl hl_2.1 rfl (Nat.le_of_ble_eq_true rfl) dX5_walk_80 ⟨Nat.le_of_ble_eq_true rfl, Nat.le_of_ble_eq_true rfl⟩ (fun r7 t H1 locs_3 ht hB hS_3 hFc => ?_)
        obtain ⟨gpr7_0, hP_4, -, hD_4⟩ := hB
        rw [ht] at hP_4
        have hD_5 := hD_4.weaken (B := A) (fun k q _ h9 => hFc q.1 h9)
        clear ht
        generalize H1 = H_6 at hP_4 hS_3 ⊢
        refine lv_if_eq (tgt := 97) hx hb dX5_walk_83 (by decide) (fun c8 => ?_) (fun c8 => ?_)
        · have c8 := j_eq (a := r7.toInt) (b := 0) rfl (by decide +kernel) c8
          refine lv_aload_n hx hb dX5_walk_97 rfl (lv_at hl_2 2 rfl) ?_
          have hM := m067_X5_keepNext l dC dI cI cJ cII cJJ H_6.size 0 ad f3_unknowns f3_equations f2_roundSupports f2_stale f7_size f1_size f5_keptSize f5_aheadSize f0_solved f4_blockCount f4_blockLength f4_lastIsFree f4_stale ai al w0 w1 w2 w3 (by omega) (by omega) (by omega) (by omega) (by omega) (by omega) (by omega) (by omega) (by omega) (by omega) (by omega) hI hw_w0 hw_w1 hw_w2 hw_w3
          refine k2V_v (q0 := 22) ⟨hx, hb, hml, hown, hts⟩ hK hP_4 hD_5 hS_3 hA hX cv_RX5_29 hM ⟨by decide +kernel, by decide +kernel⟩ rfl rfl (Or.inl rfl) (rest := []) rfl rfl rfl hl_2.1 rfl (Nat.le_of_ble_eq_true rfl) dX5_walk_98 ⟨Nat.le_of_ble_eq_true rfl, Nat.le_of_ble_eq_true rfl⟩ (fun t H1 locs_7 ht hB hS_7 hFc => ?_)
          obtain ⟨v10, v11, ai12, ⟨gpr9_0, gpr9_1, gpr9_2, hI_8, hFr_r9⟩, hP_8, -, hD_8⟩ := hB
          have hF_9 := FR_tr hF hFr_r9 (by decide)
          rw [ht] at hP_8
          have hD_10 := hD_8.weaken (B := A) (fun k q _ h9 => hFc q.1 h9)
          clear ht
          generalize H1 = H_11 at hP_8 hS_7 ⊢
          exact m161_X5_walk_b101 C n ih L3 L4 z4 z6 v10 v11 ai12 _ _ _ (by omega) (by omega) (by omega) (by omega) (by omega) (by omega) (by omega) (by omega) (by omega) (by omega) (by omega) (by omega) (by omega) (by omega) (by omega) (by omega) (by omega) hI_8 hF_9 hw_w0 hw_w1 hw_w2 hw_w3 hP_8 hD_10 hS_7 (lv_sub hl_2 [2, 3, 4, 5, 6, 1, 0] rfl)
        · have c8 := j_ne (a := r7.toInt) (b := 0) rfl (by decide +kernel) c8
          refine lv_aload_n hx hb dX5_walk_86 rfl (lv_at hl_2 2 rfl) ?_
          refine lv_iload hx hb dX5_walk_87 (lv_at hl_2 1 rfl) ?_
          refine lv_iload hx hb dX5_walk_89 (lv_at hl_2 0 rfl) ?_
          have hM := m066_X5_pushSum l dC dI cI cJ cII cJJ H_6.size 0 ad f3_unknowns f3_equations f2_roundSupports f2_stale f7_size f1_size f5_keptSize f5_aheadSize f0_solved f4_blockCount f4_blockLength f4_lastIsFree f4_stale ai al w0 w1 w2 w3 z4 z6 (by omega) (by omega) (by omega) (by omega) (by omega) (by omega) (by omega) (by omega) (by omega) (by omega) (by omega) (by omega) (by omega) hI hw_w0 hw_w1 hw_w2 hw_w3
          refine k2V_v (q0 := 22) ⟨hx, hb, hml, hown, hts⟩ hK hP_4 hD_5 hS_3 hA hX cv_RX5_36 hM ⟨by decide +kernel, by decide +kernel⟩ rfl rfl (Or.inl rfl) (rest := []) rfl rfl rfl hl_2.1 rfl (Nat.le_of_ble_eq_true rfl) dX5_walk_91 ⟨Nat.le_of_ble_eq_true rfl, Nat.le_of_ble_eq_true rfl⟩ (fun t H1 locs_12 ht hB hS_12 hFc => ?_)
          obtain ⟨v14, ai15, ⟨gpr13_0, gpr13_1, hI_13, hFr_r13⟩, hP_13, -, hD_13⟩ := hB
          have hF_14 := FR_tr hF hFr_r13 (by decide)
          rw [ht] at hP_13
          have hD_15 := hD_13.weaken (B := A) (fun k q _ h9 => hFc q.1 h9)
          clear ht
          generalize H1 = H_16 at hP_13 hS_12 ⊢
          refine lv_goto (tgt := 101) hx hb dX5_walk_94 (by decide) ?_
          exact m161_X5_walk_b101 C n ih L3 L4 z4 z6 f5_keptSize v14 ai15 _ _ _ (by omega) (by omega) (by omega) (by omega) (by omega) (by omega) (by omega) (by omega) (by omega) (by omega) (by omega) (by omega) (by omega) (by omega) (by omega) (by omega) (by omega) hI_13 hF_14 hw_w0 hw_w1 hw_w2 hw_w3 hP_13 hD_15 hS_12 (lv_sub hl_2 [2, 3, 4, 5, 6, 1, 0] rfl)
set_option maxRecDepth 100000 in
set_option maxHeartbeats 4000000 in
theorem m161_X5_walk (l : Launch) (dC : Nat → ClassId) (dI : Nat → Nat → Nat) (cI cJ cII cJJ : ClassId) (sz g : Nat) (ad : Nat → Nat) (f3_unknowns f3_equations f2_roundSupports f2_stale f7_size f1_size f5_keptSize f5_aheadSize f0_solved f4_blockCount f4_blockLength f4_lastIsFree f4_stale : Int32) (ai : Nat → Nat → Int32) (al : Nat → Nat → Int64) (w0 w1 w2 w3 : Nat) (x3 : Int32) (h_x3 : (0 ≤ x3.toInt ∧ x3.toInt ≤ 1)) (h_f3_unknowns : (1 ≤ f3_unknowns.toInt ∧ f3_unknowns.toInt ≤ 4)) (h_f3_equations : (0 ≤ f3_equations.toInt ∧ f3_equations.toInt ≤ 3)) (h_f2_stale : (0 ≤ f2_stale.toInt ∧ f2_stale.toInt ≤ 1)) (h_f7_size : (0 ≤ f7_size.toInt ∧ f7_size.toInt ≤ 256)) (h_f1_size : (0 ≤ f1_size.toInt ∧ f1_size.toInt ≤ 4)) (h_f5_keptSize : (0 ≤ f5_keptSize.toInt ∧ f5_keptSize.toInt ≤ 128)) (h_f5_aheadSize : (0 ≤ f5_aheadSize.toInt ∧ f5_aheadSize.toInt ≤ 128)) (h_f4_blockCount : (0 ≤ f4_blockCount.toInt ∧ f4_blockCount.toInt ≤ 9261)) (h_f4_blockLength : (0 ≤ f4_blockLength.toInt ∧ f4_blockLength.toInt ≤ 21)) (h_f4_lastIsFree : (0 ≤ f4_lastIsFree.toInt ∧ f4_lastIsFree.toInt ≤ 1)) (h_f4_stale : (0 ≤ f4_stale.toInt ∧ f4_stale.toInt ≤ 1)) (hI : IAX ai) (hw_w0 : RWX ad w0) (hw_w1 : RWX ad w1) (hw_w2 : RWX ad w2) (hw_w3 : RWX ad w3) : Met l yX5_walk (.code yX5_walk cX5_walk 7 none :: TT) ({ frames := 3, cells := 0, slots := 0, locals := 140 } : Room) (PcS dC dI (TY cI cJ cII cJJ) [.ref (ad 22), .ref (ad 18), .ref (ad 19), .int x3] (WX cI cJ cII cJJ ad f3_unknowns f3_equations f2_roundSupports f2_stale f7_size f1_size f5_keptSize f5_aheadSize f0_solved f4_blockCount f4_blockLength f4_lastIsFree f4_stale ai al w0 w1 w2 w3) sz 0 g) (Q_m161_X5_walk dC dI cI cJ cII cJJ ad f3_unknowns f3_equations f2_roundSupports f2_stale f7_size f1_size f0_solved f4_blockCount f4_blockLength f4_lastIsFree f4_stale ai al w0 w1 w2 w3 (va_A (WX cI cJ cII cJJ ad f3_unknowns f3_equations f2_roundSupports f2_stale f7_size f1_size f5_keptSize f5_aheadSize f0_solved f4_blockCount f4_blockLength f4_lastIsFree f4_stale ai al w0 w1 w2 w3) sz)) 0 0 (va_A (WX cI cJ cII cJJ ad f3_unknowns f3_equations f2_roundSupports f2_stale f7_size f1_size f5_keptSize f5_aheadSize f0_solved f4_blockCount f4_blockLength f4_lastIsFree f4_stale ai al w0 w1 w2 w3) sz) := by
  refine SM.of (y := yX5_walk) (maxL := 7) (av := [.ref (ad 22), .ref (ad 18), .ref (ad 19), .int x3]) (Q_m161_X5_walk dC dI cI cJ cII cJJ ad f3_unknowns f3_equations f2_roundSupports f2_stale f7_size f1_size f0_solved f4_blockCount f4_blockLength f4_lastIsFree f4_stale ai al w0 w1 w2 w3) (by decide +kernel) (Nat.le_of_ble_eq_true rfl) (fun p e s m below meth c A ls hx hb hr hml hown hts hk hnm hA hK hP hD hS hX hl => ?_)
  have C : Cx p c s m meth (([.ref (ad 22), .ref (ad 18), .ref (ad 19), .int x3] : List Value).toArray) A dC dI (TY cI cJ cII cJJ) cX5_walk none 7 RX5 0 g := ⟨hx, hb, hr, hml, hown, hts, hk, hA, hK, hX⟩
  have hown : s.vm.findClass RX5 = some m.cls := hown
  have hl : lv_has ls 7 [(0, .ref (ad 22)), (1, .ref (ad 18)), (2, .ref (ad 19)), (3, .int x3)] := hl
  obtain ⟨H, hH⟩ : ∃ q, q = s.heap := ⟨_, rfl⟩
  rw [← hH] at hP
  have hS : va_S A s.heap H [] := by rw [hH]; exact hS
  rw [← hH]
  have hF := FR_refl [23, 24] ai
  refine lv_aload_n hx hb dX5_walk_0 rfl (lv_at hl 0 rfl) ?_
  refine lv_iconst (v := 0) hx hb dX5_walk_1 (by decide) ?_
  refine pf (k := 2) hx hb hts inX5 tyX5_ok nmX5 hown hK hP hD hS k_139 rfl (by decide) rfl rfl 22 rfl rfl rfl (Nat.le_of_ble_eq_true rfl) dX5_walk_2 (W' := (WX cI cJ cII cJJ ad f3_unknowns f3_equations f2_roundSupports f2_stale f7_size f1_size 0 f5_aheadSize f0_solved f4_blockCount f4_blockLength f4_lastIsFree f4_stale ai al w0 w1 w2 w3)) rfl (fun H_1 locs_1 hP_1 hD_1 hS_1 => ?_)
  refine lv_aload_n hx hb dX5_walk_5 rfl (lv_at hl 0 rfl) ?_
  refine lv_iconst (v := 0) hx hb dX5_walk_6 (by decide) ?_
  refine pf (k := 3) hx hb hts inX5 tyX5_ok nmX5 hown hK hP_1 hD_1 hS_1 k_140 rfl (by decide) rfl rfl 22 rfl rfl rfl (Nat.le_of_ble_eq_true rfl) dX5_walk_7 (W' := (WX cI cJ cII cJJ ad f3_unknowns f3_equations f2_roundSupports f2_stale f7_size f1_size 0 0 f0_solved f4_blockCount f4_blockLength f4_lastIsFree f4_stale ai al w0 w1 w2 w3)) rfl (fun H_2 locs_2 hP_2 hD_2 hS_2 => ?_)
  refine lv_aload_n hx hb dX5_walk_10 rfl (lv_at hl 0 rfl) ?_
  refine lv_aload_n hx hb dX5_walk_11 rfl (lv_at hl 1 rfl) ?_
  refine lv_iconst (v := 1) hx hb dX5_walk_12 (by decide) ?_
  have kc0 : (0 : Int32).toInt = 0 := by decide +kernel
  have kc1 : (1 : Int32).toInt = 1 := by decide +kernel
  have hM := m148_X5_pushAhead l dC dI cI cJ cII cJJ H_2.size 0 ad f3_unknowns f3_equations f2_roundSupports f2_stale f7_size f1_size 0 0 f0_solved f4_blockCount f4_blockLength f4_lastIsFree f4_stale ai al w0 w1 w2 w3 1 (by omega) (by omega) (by omega) (by omega) (by omega) (by decide +kernel) (by decide +kernel) (by omega) (by omega) (by omega) (by omega) hI hw_w0 hw_w1 hw_w2 hw_w3
  refine k2V_v (q0 := 22) ⟨hx, hb, hml, hown, hts⟩ hK hP_2 hD_2 hS_2 hA hX cv_RX5_25 hM ⟨by decide +kernel, by decide +kernel⟩ rfl rfl (Or.inl rfl) (rest := []) rfl rfl rfl hl.1 rfl (Nat.le_of_ble_eq_true rfl) dX5_walk_13 ⟨Nat.le_of_ble_eq_true rfl, Nat.le_of_ble_eq_true rfl⟩ (fun t H1 locs_3 ht hB hS_3 hFc => ?_)
  obtain ⟨v2, ai3, ⟨gpr1_0, gpr1_1, hI_4, hFr_r1⟩, hP_4, -, hD_4⟩ := hB
  have hF_5 := FR_tr hF hFr_r1 (by decide)
  rw [ht] at hP_4
  have hD_6 := hD_4.weaken (B := A) (fun k q _ h9 => hFc q.1 h9)
  clear ht
  generalize H1 = H_7 at hP_4 hS_3 ⊢
  refine lv_aload_n hx hb dX5_walk_16 rfl (lv_at hl 0 rfl) ?_
  have kc0 : (0 : Int32).toInt = 0 := by decide +kernel
  have hM := m067_X5_keepNext l dC dI cI cJ cII cJJ H_7.size 0 ad f3_unknowns f3_equations f2_roundSupports f2_stale f7_size f1_size 0 v2 f0_solved f4_blockCount f4_blockLength f4_lastIsFree f4_stale ai3 al w0 w1 w2 w3 (by omega) (by omega) (by omega) (by omega) (by omega) (by decide +kernel) (by omega) (by omega) (by omega) (by omega) (by omega) hI_4 hw_w0 hw_w1 hw_w2 hw_w3
  refine k2V_v (q0 := 22) ⟨hx, hb, hml, hown, hts⟩ hK hP_4 hD_6 hS_3 hA hX cv_RX5_29 hM ⟨by decide +kernel, by decide +kernel⟩ rfl rfl (Or.inl rfl) (rest := []) rfl rfl rfl hl.1 rfl (Nat.le_of_ble_eq_true rfl) dX5_walk_17 ⟨Nat.le_of_ble_eq_true rfl, Nat.le_of_ble_eq_true rfl⟩ (fun t H1 locs_8 ht hB hS_8 hFc => ?_)
  obtain ⟨v5, v6, ai7, ⟨gpr4_0, gpr4_1, gpr4_2, hI_9, hFr_r4⟩, hP_9, -, hD_9⟩ := hB
  have hF_10 := FR_tr hF_5 hFr_r4 (by decide)
  rw [ht] at hP_9
  have hD_11 := hD_9.weaken (B := A) (fun k q _ h9 => hFc q.1 h9)
  clear ht
  generalize H1 = H_12 at hP_9 hS_8 ⊢
  refine lv_iload_n hx hb dX5_walk_20 rfl (lv_at hl 3 rfl) ?_
  refine lv_if_ne (tgt := 25) hx hb dX5_walk_21 (by decide) (fun c8 => ?_) (fun c8 => ?_)
  · have c8 := j_ne (a := x3.toInt) (b := 0) rfl (by decide +kernel) c8
    refine lv_aload_n hx hb dX5_walk_25 rfl (lv_at hl 0 rfl) ?_
    refine lv_aload_n hx hb dX5_walk_26 rfl (lv_at hl 1 rfl) ?_
    refine lv_iconst (v := (-1)) hx hb dX5_walk_27 (by decide) ?_
    have kcm1 : ((-1) : Int32).toInt = (-1) := by decide +kernel
    have hM := m148_X5_pushAhead l dC dI cI cJ cII cJJ H_12.size 0 ad f3_unknowns f3_equations f2_roundSupports f2_stale f7_size f1_size v5 v6 f0_solved f4_blockCount f4_blockLength f4_lastIsFree f4_stale ai7 al w0 w1 w2 w3 (-1) (by omega) (by omega) (by omega) (by omega) (by omega) (by omega) (by omega) (by omega) (by omega) (by omega) (by omega) hI_9 hw_w0 hw_w1 hw_w2 hw_w3
    refine k2V_v (q0 := 22) ⟨hx, hb, hml, hown, hts⟩ hK hP_9 hD_11 hS_8 hA hX cv_RX5_25 hM ⟨by decide +kernel, by decide +kernel⟩ rfl rfl (Or.inl rfl) (rest := []) rfl rfl rfl hl.1 rfl (Nat.le_of_ble_eq_true rfl) dX5_walk_28 ⟨Nat.le_of_ble_eq_true rfl, Nat.le_of_ble_eq_true rfl⟩ (fun t H1 locs_13 ht hB hS_13 hFc => ?_)
    obtain ⟨v10, ai11, ⟨gpr9_0, gpr9_1, hI_14, hFr_r9⟩, hP_14, -, hD_14⟩ := hB
    have hF_15 := FR_tr hF_10 hFr_r9 (by decide)
    rw [ht] at hP_14
    have hD_16 := hD_14.weaken (B := A) (fun k q _ h9 => hFc q.1 h9)
    clear ht
    generalize H1 = H_17 at hP_14 hS_13 ⊢
    refine lv_aload_n hx hb dX5_walk_31 rfl (lv_at hl 0 rfl) ?_
    refine lv_aload_n hx hb dX5_walk_32 rfl (lv_at hl 2 rfl) ?_
    refine lv_iconst (v := 1) hx hb dX5_walk_33 (by decide) ?_
    have kc1 : (1 : Int32).toInt = 1 := by decide +kernel
    have hM := m150_X5_pushAhead l dC dI cI cJ cII cJJ H_17.size 0 ad f3_unknowns f3_equations f2_roundSupports f2_stale f7_size f1_size v5 v10 f0_solved f4_blockCount f4_blockLength f4_lastIsFree f4_stale ai11 al w0 w1 w2 w3 1 (by omega) (by omega) (by omega) (by omega) (by omega) (by omega) (by omega) (by omega) (by omega) (by omega) (by omega) hI_14 hw_w0 hw_w1 hw_w2 hw_w3
    refine k2V_v (q0 := 22) ⟨hx, hb, hml, hown, hts⟩ hK hP_14 hD_16 hS_13 hA hX cv_RX5_25 hM ⟨by decide +kernel, by decide +kernel⟩ rfl rfl (Or.inl rfl) (rest := []) rfl rfl rfl hl.1 rfl (Nat.le_of_ble_eq_true rfl) dX5_walk_34 ⟨Nat.le_of_ble_eq_true rfl, Nat.le_of_ble_eq_true rfl⟩ (fun t H1 locs_18 ht hB hS_18 hFc => ?_)
    obtain ⟨v13, ai14, ⟨gpr12_0, gpr12_1, hI_19, hFr_r12⟩, hP_19, -, hD_19⟩ := hB
    have hF_20 := FR_tr hF_15 hFr_r12 (by decide)
    rw [ht] at hP_19
    have hD_21 := hD_19.weaken (B := A) (fun k q _ h9 => hFc q.1 h9)
    clear ht
    generalize H1 = H_22 at hP_19 hS_18 ⊢
    refine lv_iconst (v := 0) hx hb dX5_walk_37 (by decide) ?_
    refine lv_istore (lv' := [(4, .int 0), (0, .ref (ad 22)), (1, .ref (ad 18)), (2, .ref (ad 19)), (3, .int x3)]) hx hb dX5_walk_38 hl (by decide) rfl (fun ls_23 hl_23 => ?_)
    exact m161_X5_walk_b40 C  _ x3 0 v5 v13 ai14 _ _ _ (by first | omega | decide | (have ka0 := (by decide +kernel : (0 : Int32).toInt = 0); omega)) (by first | omega | decide | (have ka0 := (by decide +kernel : (0 : Int32).toInt = 0); omega)) (by first | omega | decide | (have ka0 := (by decide +kernel : (0 : Int32).toInt = 0); omega)) (by first | omega | decide | (have ka0 := (by decide +kernel : (0 : Int32).toInt = 0); omega)) (by first | omega | decide | (have ka0 := (by decide +kernel : (0 : Int32).toInt = 0); omega)) (by first | omega | decide | (have ka0 := (by decide +kernel : (0 : Int32).toInt = 0); omega)) (by first | omega | decide | (have ka0 := (by decide +kernel : (0 : Int32).toInt = 0); omega)) (by first | omega | decide | (have ka0 := (by decide +kernel : (0 : Int32).toInt = 0); omega)) (by first | omega | decide | (have ka0 := (by decide +kernel : (0 : Int32).toInt = 0); omega)) (by first | omega | decide | (have ka0 := (by decide +kernel : (0 : Int32).toInt = 0); omega)) (by first | omega | decide | (have ka0 := (by decide +kernel : (0 : Int32).toInt = 0); omega)) (by first | omega | decide | (have ka0 := (by decide +kernel : (0 : Int32).toInt = 0); omega)) (by first | omega | decide | (have ka0 := (by decide +kernel : (0 : Int32).toInt = 0); omega)) (j_fuel _) (by omega) hI_19 hF_20 hw_w0 hw_w1 hw_w2 hw_w3 hP_19 hD_21 hS_18 (lv_sub hl_23 [1, 2, 3, 4, 0] rfl)
  · have c8 := j_eq (a := x3.toInt) (b := 0) rfl (by decide +kernel) c8
    exact r2_v hx hb hr hk hS_8 dX5_walk_24 (fun t ht hW => ⟨v5, v6, ai7, ⟨(by first | omega | decide | exact Or.inl (by decide) | exact Or.inr (by decide) | exact Or.inr (by omega)), (by first | omega | decide | exact Or.inl (by decide) | exact Or.inr (by decide) | exact Or.inr (by omega)), hI_9, hF_10⟩, by rw [ht]; exact hP_9, va_K.moved hW.alike hK, hD_11⟩)
def Q_m162_X5_walk (dC : Nat → ClassId) (dI : Nat → Nat → Nat) (cI cJ cII cJJ : ClassId) (ad : Nat → Nat) (f3_unknowns f3_equations f2_roundSupports f2_stale f7_size f1_size f0_solved f4_blockCount f4_blockLength f4_lastIsFree f4_stale : Int32) (ai0 : Nat → Nat → Int32) (al : Nat → Nat → Int64) (w0 w1 w2 w3 : Nat) : (Nat → Prop) → Array Value → State → Outcome → State → Prop := fun A => QV (fun t => ∃ (n_f5_keptSize n_f5_aheadSize : Int32), ∃ (n_ai : Nat → Nat → Int32), ((0 ≤ n_f5_keptSize.toInt ∧ n_f5_keptSize.toInt ≤ 127) ∧ (0 ≤ n_f5_aheadSize.toInt ∧ n_f5_aheadSize.toInt ≤ 128) ∧ IAX n_ai ∧ FR [23, 24] ai0 n_ai) ∧ WO dC dI (TY cI cJ cII cJJ) (WX cI cJ cII cJJ ad f3_unknowns f3_equations f2_roundSupports f2_stale f7_size f1_size n_f5_keptSize n_f5_aheadSize f0_solved f4_blockCount f4_blockLength f4_lastIsFree f4_stale n_ai al w0 w1 w2 w3) A t) A
set_option maxRecDepth 100000 in
set_option maxHeartbeats 4000000 in
theorem m162_X5_walk_b107 {p : Program} {l : Launch} {e : Env} {s : State} {m : MethodId} {args : Array Value} {below : List Frame} {meth : Method} {c : Code} {A : Nat → Prop} {dC : Nat → ClassId} {dI : Nat → Nat → Nat} {cI cJ cII cJJ : ClassId} {ad : Nat → Nat} {g : Nat} {f3_unknowns f3_equations f2_roundSupports f2_stale f7_size f1_size f0_solved f4_blockCount f4_blockLength f4_lastIsFree f4_stale : Int32} {ai0 : Nat → Nat → Int32} {al : Nat → Nat → Int64} {w0 w1 w2 w3 : Nat} (C : Cx p c s m meth args A dC dI (TY cI cJ cII cJJ) cX5_walk none 7 RX5 0 g) : ∀ (L3 L4 f5_keptSize f5_aheadSize : Int32) (ai : Nat → Nat → Int32) (H : Heap) (locs : List Loc) (ls : Array Slot), (1 ≤ L3.toInt ∧ L3.toInt ≤ 1) → (0 ≤ L4.toInt ∧ L4.toInt ≤ 100000) → (1 ≤ f3_unknowns.toInt ∧ f3_unknowns.toInt ≤ 4) → (0 ≤ f3_equations.toInt ∧ f3_equations.toInt ≤ 3) → (0 ≤ f2_stale.toInt ∧ f2_stale.toInt ≤ 1) → (0 ≤ f7_size.toInt ∧ f7_size.toInt ≤ 256) → (0 ≤ f1_size.toInt ∧ f1_size.toInt ≤ 4) → (1 ≤ f5_keptSize.toInt ∧ f5_keptSize.toInt ≤ 128) → (0 ≤ f5_aheadSize.toInt ∧ f5_aheadSize.toInt ≤ 128) → (0 ≤ f4_blockCount.toInt ∧ f4_blockCount.toInt ≤ 9261) → (0 ≤ f4_blockLength.toInt ∧ f4_blockLength.toInt ≤ 21) → (0 ≤ f4_lastIsFree.toInt ∧ f4_lastIsFree.toInt ≤ 1) → (0 ≤ f4_stale.toInt ∧ f4_stale.toInt ≤ 1) → IAX ai → FR [23, 24] ai0 ai → RWX ad w0 → RWX ad w1 → RWX ad w2 → RWX ad w3 → va_P (dC, dI) vwCl (WX cI cJ cII cJJ ad f3_unknowns f3_equations f2_roundSupports f2_stale f7_size f1_size f5_keptSize f5_aheadSize f0_solved f4_blockCount f4_blockLength f4_lastIsFree f4_stale ai al w0 w1 w2 w3) H → va_D A (WX cI cJ cII cJJ ad f3_unknowns f3_equations f2_roundSupports f2_stale f7_size f1_size f5_keptSize f5_aheadSize f0_solved f4_blockCount f4_blockLength f4_lastIsFree f4_stale ai al w0 w1 w2 w3) → va_S A s.heap H locs → lv_has ls 7 [(0, .ref (ad 22)), (1, .ref (ad 19)), (2, .ref (ad 19)), (3, .int L3), (4, .int L4)] → W p l e ({ frames := 3, cells := 0, slots := 0, locals := 140 } : Room) s m args below meth c H locs 0 0 (MQ below (Q_m162_X5_walk dC dI cI cJ cII cJJ ad f3_unknowns f3_equations f2_roundSupports f2_stale f7_size f1_size f0_solved f4_blockCount f4_blockLength f4_lastIsFree f4_stale ai0 al w0 w1 w2 w3 A) args s 0 0 A) (F0 m 107 ls []) := by
  obtain ⟨hx, hb, hr, hml, hown, hts, hk, hA, hK, hX⟩ := id C
  intro L3 L4 f5_keptSize f5_aheadSize ai H locs ls h0 h1 h2 h3 h4 h5 h6 h7 h8 h9 h10 h11 h12 hI hF hw_w0 hw_w1 hw_w2 hw_w3 hP hD hS hl
  refine lv_aload_n hx hb dX5_walk_107 rfl (lv_at hl 0 rfl) ?_
  refine lv_dup hx hb dX5_walk_108 rfl ?_
  refine gf (k := 2) hx hb hts inX5 hown hK hP k_139 rfl (by decide) rfl 22 rfl (.int f5_keptSize) rfl dX5_walk_109 ?_
  refine lv_iconst (v := 1) hx hb dX5_walk_112 (by decide) ?_
  refine v_isub hx hb dX5_walk_113 _ rfl ?_
  refine lv_topi (fun z1 e_z1 => ?_)
  have g_z1 : z1.toInt = f5_keptSize.toInt - 1 := by rw [e_z1]; exact n_sub (a := f5_keptSize.toInt) (b := 1) rfl (by decide +kernel) (by omega) (by omega)
  refine pf (k := 2) hx hb hts inX5 tyX5_ok nmX5 hown hK hP hD hS k_139 rfl (by decide) rfl rfl 22 rfl rfl rfl (Nat.le_of_ble_eq_true rfl) dX5_walk_114 (W' := (WX cI cJ cII cJJ ad f3_unknowns f3_equations f2_roundSupports f2_stale f7_size f1_size z1 f5_aheadSize f0_solved f4_blockCount f4_blockLength f4_lastIsFree f4_stale ai al w0 w1 w2 w3)) rfl (fun H_1 locs_1 hP_1 hD_1 hS_1 => ?_)
  exact r2_v hx hb hr hk hS_1 dX5_walk_117 (fun t ht hW => ⟨z1, f5_aheadSize, ai, ⟨(by first | omega | decide | exact Or.inl (by decide) | exact Or.inr (by decide) | exact Or.inr (by omega)), (by first | omega | decide | exact Or.inl (by decide) | exact Or.inr (by decide) | exact Or.inr (by omega)), hI, hF⟩, by rw [ht]; exact hP_1, va_K.moved hW.alike hK, hD_1⟩)
set_option maxRecDepth 100000 in
set_option maxHeartbeats 4000000 in
theorem m162_X5_walk_b101 {p : Program} {l : Launch} {e : Env} {s : State} {m : MethodId} {args : Array Value} {below : List Frame} {meth : Method} {c : Code} {A : Nat → Prop} {dC : Nat → ClassId} {dI : Nat → Nat → Nat} {cI cJ cII cJJ : ClassId} {ad : Nat → Nat} {g : Nat} {f3_unknowns f3_equations f2_roundSupports f2_stale f7_size f1_size f0_solved f4_blockCount f4_blockLength f4_lastIsFree f4_stale : Int32} {ai0 : Nat → Nat → Int32} {al : Nat → Nat → Int64} {w0 w1 w2 w3 : Nat} (C : Cx p c s m meth args A dC dI (TY cI cJ cII cJJ) cX5_walk none 7 RX5 0 g) (n40 : Nat) (K40 : ∀ (L3 L4 f5_keptSize f5_aheadSize : Int32) (ai : Nat → Nat → Int32) (H : Heap) (locs : List Loc) (ls : Array Slot), (1 ≤ L3.toInt ∧ L3.toInt ≤ 1) → (0 ≤ L4.toInt ∧ L4.toInt ≤ 100000) → (1 ≤ f3_unknowns.toInt ∧ f3_unknowns.toInt ≤ 4) → (0 ≤ f3_equations.toInt ∧ f3_equations.toInt ≤ 3) → (0 ≤ f2_stale.toInt ∧ f2_stale.toInt ≤ 1) → (0 ≤ f7_size.toInt ∧ f7_size.toInt ≤ 256) → (0 ≤ f1_size.toInt ∧ f1_size.toInt ≤ 4) → (1 ≤ f5_keptSize.toInt ∧ f5_keptSize.toInt ≤ 128) → (0 ≤ f5_aheadSize.toInt ∧ f5_aheadSize.toInt ≤ 128) → (0 ≤ f4_blockCount.toInt ∧ f4_blockCount.toInt ≤ 9261) → (0 ≤ f4_blockLength.toInt ∧ f4_blockLength.toInt ≤ 21) → (0 ≤ f4_lastIsFree.toInt ∧ f4_lastIsFree.toInt ≤ 1) → (0 ≤ f4_stale.toInt ∧ f4_stale.toInt ≤ 1) → 10000 - L4.toInt < (n40 : Int) → (0 : Int) < (n40 : Int) → IAX ai → FR [23, 24] ai0 ai → RWX ad w0 → RWX ad w1 → RWX ad w2 → RWX ad w3 → va_P (dC, dI) vwCl (WX cI cJ cII cJJ ad f3_unknowns f3_equations f2_roundSupports f2_stale f7_size f1_size f5_keptSize f5_aheadSize f0_solved f4_blockCount f4_blockLength f4_lastIsFree f4_stale ai al w0 w1 w2 w3) H → va_D A (WX cI cJ cII cJJ ad f3_unknowns f3_equations f2_roundSupports f2_stale f7_size f1_size f5_keptSize f5_aheadSize f0_solved f4_blockCount f4_blockLength f4_lastIsFree f4_stale ai al w0 w1 w2 w3) → va_S A s.heap H locs → lv_has ls 7 [(0, .ref (ad 22)), (1, .ref (ad 19)), (2, .ref (ad 19)), (3, .int L3), (4, .int L4)] → W p l e ({ frames := 3, cells := 0, slots := 0, locals := 140 } : Room) s m args below meth c H locs 0 0 (MQ below (Q_m162_X5_walk dC dI cI cJ cII cJJ ad f3_unknowns f3_equations f2_roundSupports f2_stale f7_size f1_size f0_solved f4_blockCount f4_blockLength f4_lastIsFree f4_stale ai0 al w0 w1 w2 w3 A) args s 0 0 A) (F0 m 40 ls [])) : ∀ (L3 L4 L5 L6 f5_keptSize f5_aheadSize : Int32) (ai : Nat → Nat → Int32) (H : Heap) (locs : List Loc) (ls : Array Slot), (1 ≤ L3.toInt ∧ L3.toInt ≤ 1) → (0 ≤ L4.toInt ∧ L4.toInt ≤ 99999) → (0 ≤ L5.toInt ∧ L5.toInt ≤ 5999) → (0 ≤ L6.toInt ∧ L6.toInt ≤ 5999) → (1 ≤ f3_unknowns.toInt ∧ f3_unknowns.toInt ≤ 4) → (0 ≤ f3_equations.toInt ∧ f3_equations.toInt ≤ 3) → (0 ≤ f2_stale.toInt ∧ f2_stale.toInt ≤ 1) → (0 ≤ f7_size.toInt ∧ f7_size.toInt ≤ 256) → (0 ≤ f1_size.toInt ∧ f1_size.toInt ≤ 4) → (1 ≤ f5_keptSize.toInt ∧ f5_keptSize.toInt ≤ 128) → (0 ≤ f5_aheadSize.toInt ∧ f5_aheadSize.toInt ≤ 128) → (0 ≤ f4_blockCount.toInt ∧ f4_blockCount.toInt ≤ 9261) → (0 ≤ f4_blockLength.toInt ∧ f4_blockLength.toInt ≤ 21) → (0 ≤ f4_lastIsFree.toInt ∧ f4_lastIsFree.toInt ≤ 1) → (0 ≤ f4_stale.toInt ∧ f4_stale.toInt ≤ 1) → L4.toInt < 10000 → 10000 - L4.toInt ≤ (n40 : Int) → IAX ai → FR [23, 24] ai0 ai → RWX ad w0 → RWX ad w1 → RWX ad w2 → RWX ad w3 → va_P (dC, dI) vwCl (WX cI cJ cII cJJ ad f3_unknowns f3_equations f2_roundSupports f2_stale f7_size f1_size f5_keptSize f5_aheadSize f0_solved f4_blockCount f4_blockLength f4_lastIsFree f4_stale ai al w0 w1 w2 w3) H → va_D A (WX cI cJ cII cJJ ad f3_unknowns f3_equations f2_roundSupports f2_stale f7_size f1_size f5_keptSize f5_aheadSize f0_solved f4_blockCount f4_blockLength f4_lastIsFree f4_stale ai al w0 w1 w2 w3) → va_S A s.heap H locs → lv_has ls 7 [(0, .ref (ad 22)), (1, .ref (ad 19)), (2, .ref (ad 19)), (3, .int L3), (4, .int L4), (5, .int L5), (6, .int L6)] → W p l e ({ frames := 3, cells := 0, slots := 0, locals := 140 } : Room) s m args below meth c H locs 0 0 (MQ below (Q_m162_X5_walk dC dI cI cJ cII cJJ ad f3_unknowns f3_equations f2_roundSupports f2_stale f7_size f1_size f0_solved f4_blockCount f4_blockLength f4_lastIsFree f4_stale ai0 al w0 w1 w2 w3 A) args s 0 0 A) (F0 m 101 ls []) := by
  obtain ⟨hx, hb, hr, hml, hown, hts, hk, hA, hK, hX⟩ := id C
  intro L3 L4 L5 L6 f5_keptSize f5_aheadSize ai H locs ls h0 h1 h2 h3 h4 h5 h6 h7 h8 h9 h10 h11 h12 h13 h14 h15 h16 hI hF hw_w0 hw_w1 hw_w2 hw_w3 hP hD hS hl
  obtain ⟨z1, e_z1⟩ : ∃ q : Int32, q = L4 + Int32.ofInt 1 := ⟨_, rfl⟩
  have g_z1 : z1.toInt = L4.toInt + 1 := by rw [e_z1]; exact n_add (a := L4.toInt) (b := 1) rfl (by decide +kernel) (by omega) (by omega)
  refine lv_iinc (v := z1) (lv' := [(4, .int z1), (0, .ref (ad 22)), (1, .ref (ad 19)), (2, .ref (ad 19)), (3, .int L3), (5, .int L5), (6, .int L6)]) hx hb dX5_walk_101 hl (k := 4) rfl e_z1.symm (by decide) rfl (fun ls_1 hl_1 => ?_)
  refine lv_goto (tgt := 40) hx hb dX5_walk_104 (by decide) ?_
  exact K40 L3 z1 f5_keptSize f5_aheadSize ai _ _ _ (by omega) (by omega) (by omega) (by omega) (by omega) (by omega) (by omega) (by omega) (by omega) (by omega) (by omega) (by omega) (by omega) (by omega) (by omega) hI hF hw_w0 hw_w1 hw_w2 hw_w3 hP hD hS (lv_sub hl_1 [1, 2, 3, 4, 0] rfl)
set_option maxRecDepth 100000 in
set_option maxHeartbeats 4000000 in
theorem m162_X5_walk_b40 {p : Program} {l : Launch} {e : Env} {s : State} {m : MethodId} {args : Array Value} {below : List Frame} {meth : Method} {c : Code} {A : Nat → Prop} {dC : Nat → ClassId} {dI : Nat → Nat → Nat} {cI cJ cII cJJ : ClassId} {ad : Nat → Nat} {g : Nat} {f3_unknowns f3_equations f2_roundSupports f2_stale f7_size f1_size f0_solved f4_blockCount f4_blockLength f4_lastIsFree f4_stale : Int32} {ai0 : Nat → Nat → Int32} {al : Nat → Nat → Int64} {w0 w1 w2 w3 : Nat} (C : Cx p c s m meth args A dC dI (TY cI cJ cII cJJ) cX5_walk none 7 RX5 0 g) : ∀ (n : Nat), ∀ (L3 L4 f5_keptSize f5_aheadSize : Int32) (ai : Nat → Nat → Int32) (H : Heap) (locs : List Loc) (ls : Array Slot), (1 ≤ L3.toInt ∧ L3.toInt ≤ 1) → (0 ≤ L4.toInt ∧ L4.toInt ≤ 100000) → (1 ≤ f3_unknowns.toInt ∧ f3_unknowns.toInt ≤ 4) → (0 ≤ f3_equations.toInt ∧ f3_equations.toInt ≤ 3) → (0 ≤ f2_stale.toInt ∧ f2_stale.toInt ≤ 1) → (0 ≤ f7_size.toInt ∧ f7_size.toInt ≤ 256) → (0 ≤ f1_size.toInt ∧ f1_size.toInt ≤ 4) → (1 ≤ f5_keptSize.toInt ∧ f5_keptSize.toInt ≤ 128) → (0 ≤ f5_aheadSize.toInt ∧ f5_aheadSize.toInt ≤ 128) → (0 ≤ f4_blockCount.toInt ∧ f4_blockCount.toInt ≤ 9261) → (0 ≤ f4_blockLength.toInt ∧ f4_blockLength.toInt ≤ 21) → (0 ≤ f4_lastIsFree.toInt ∧ f4_lastIsFree.toInt ≤ 1) → (0 ≤ f4_stale.toInt ∧ f4_stale.toInt ≤ 1) → 10000 - L4.toInt < (n : Int) → (0 : Int) < (n : Int) → IAX ai → FR [23, 24] ai0 ai → RWX ad w0 → RWX ad w1 → RWX ad w2 → RWX ad w3 → va_P (dC, dI) vwCl (WX cI cJ cII cJJ ad f3_unknowns f3_equations f2_roundSupports f2_stale f7_size f1_size f5_keptSize f5_aheadSize f0_solved f4_blockCount f4_blockLength f4_lastIsFree f4_stale ai al w0 w1 w2 w3) H → va_D A (WX cI cJ cII cJJ ad f3_unknowns f3_equations f2_roundSupports f2_stale f7_size f1_size f5_keptSize f5_aheadSize f0_solved f4_blockCount f4_blockLength f4_lastIsFree f4_stale ai al w0 w1 w2 w3) → va_S A s.heap H locs → lv_has ls 7 [(0, .ref (ad 22)), (1, .ref (ad 19)), (2, .ref (ad 19)), (3, .int L3), (4, .int L4)] → W p l e ({ frames := 3, cells := 0, slots := 0, locals := 140 } : Room) s m args below meth c H locs 0 0 (MQ below (Q_m162_X5_walk dC dI cI cJ cII cJJ ad f3_unknowns f3_equations f2_roundSupports f2_stale f7_size f1_size f0_solved f4_blockCount f4_blockLength f4_lastIsFree f4_stale ai0 al w0 w1 w2 w3 A) args s 0 0 A) (F0 m 40 ls []) := by
  obtain ⟨hx, hb, hr, hml, hown, hts, hk, hA, hK, hX⟩ := id C
  intro n
  induction n with
  | zero =>
    intro L3 L4 f5_keptSize f5_aheadSize ai H locs ls h0 h1 h2 h3 h4 h5 h6 h7 h8 h9 h10 h11 h12 h13 h14 hI hF hw_w0 hw_w1 hw_w2 hw_w3 hP hD hS hl
    exact absurd h14 (by omega)
  | succ n ih =>
    intro L3 L4 f5_keptSize f5_aheadSize ai H locs ls h0 h1 h2 h3 h4 h5 h6 h7 h8 h9 h10 h11 h12 h13 h14 hI hF hw_w0 hw_w1 hw_w2 hw_w3 hP hD hS hl
    refine lv_iload hx hb dX5_walk_40 (lv_at hl 4 rfl) ?_
    refine lv_sipush (v := 10000) hx hb dX5_walk_42 (by decide) ?_
    refine lv_icmp_ge (tgt := 107) hx hb dX5_walk_45 (by decide) (fun c1 => ?_) (fun c1 => ?_)
    · have c1 := j_le (a := 10000) (b := L4.toInt) (by decide +kernel) rfl c1
      exact m162_X5_walk_b107 C  L3 L4 f5_keptSize f5_aheadSize ai _ _ _ (by omega) (by omega) (by omega) (by omega) (by omega) (by omega) (by omega) (by omega) (by omega) (by omega) (by omega) (by omega) (by omega) hI hF hw_w0 hw_w1 hw_w2 hw_w3 hP hD hS (lv_sub hl [0, 1, 2, 3, 4] rfl)
    · have c1 := j_nle (a := 10000) (b := L4.toInt) (by decide +kernel) rfl c1
      refine lv_aload_n hx hb dX5_walk_48 rfl (lv_at hl 0 rfl) ?_
      refine gf (k := 3) hx hb hts inX5 hown hK hP k_140 rfl (by decide) rfl 22 rfl (.int f5_aheadSize) rfl dX5_walk_49 ?_
      refine lv_if_le (tgt := 107) hx hb dX5_walk_52 (by decide) (fun c2 => ?_) (fun c2 => ?_)
      · have c2 := j_le (a := f5_aheadSize.toInt) (b := 0) rfl (by decide +kernel) c2
        exact m162_X5_walk_b107 C  L3 L4 f5_keptSize f5_aheadSize ai _ _ _ (by omega) (by omega) (by omega) (by omega) (by omega) (by omega) (by omega) (by omega) (by omega) (by omega) (by omega) (by omega) (by omega) hI hF hw_w0 hw_w1 hw_w2 hw_w3 hP hD hS (lv_sub hl [0, 1, 2, 3, 4] rfl)
      · have c2 := j_nle (a := f5_aheadSize.toInt) (b := 0) rfl (by decide +kernel) c2
        refine lv_aload_n hx hb dX5_walk_55 rfl (lv_at hl 0 rfl) ?_
        refine gf (k := 2) hx hb hts inX5 hown hK hP k_139 rfl (by decide) rfl 22 rfl (.int f5_keptSize) rfl dX5_walk_56 ?_
        refine lv_iconst (v := 1) hx hb dX5_walk_59 (by decide) ?_
        refine v_isub hx hb dX5_walk_60 _ rfl ?_
        refine lv_topi (fun z3 e_z3 => ?_)
        have g_z3 : z3.toInt = f5_keptSize.toInt - 1 := by rw [e_z3]; exact n_sub (a := f5_keptSize.toInt) (b := 1) rfl (by decide +kernel) (by omega) (by omega)
        refine lv_iconst (v := 4) hx hb dX5_walk_61 (by decide) ?_
        refine v_imul hx hb dX5_walk_62 _ rfl ?_
        refine lv_topi (fun z4 e_z4 => ?_)
        have g_z4 : z4.toInt = z3.toInt * 4 := by rw [e_z4]; exact n_mul (a := z3.toInt) (b := 4) rfl (by decide +kernel) (by omega) (by omega)
        refine lv_istore (lv' := [(5, .int z4), (0, .ref (ad 22)), (1, .ref (ad 19)), (2, .ref (ad 19)), (3, .int L3), (4, .int L4)]) hx hb dX5_walk_63 hl (by decide) rfl (fun ls_1 hl_1 => ?_)
        refine lv_aload_n hx hb dX5_walk_65 rfl (lv_at hl_1 1 rfl) ?_
        refine gf (k := 3) hx hb hts inX5 hown hK hP k_140 rfl (by decide) rfl 22 rfl (.int f5_aheadSize) rfl dX5_walk_66 ?_
        refine lv_iconst (v := 1) hx hb dX5_walk_69 (by decide) ?_
        refine v_isub hx hb dX5_walk_70 _ rfl ?_
        refine lv_topi (fun z5 e_z5 => ?_)
        have g_z5 : z5.toInt = f5_aheadSize.toInt - 1 := by rw [e_z5]; exact n_sub (a := f5_aheadSize.toInt) (b := 1) rfl (by decide +kernel) (by omega) (by omega)
        refine lv_iconst (v := 4) hx hb dX5_walk_71 (by decide) ?_
        refine v_imul hx hb dX5_walk_72 _ rfl ?_
        refine lv_topi (fun z6 e_z6 => ?_)
        have g_z6 : z6.toInt = z5.toInt * 4 := by rw [e_z6]; exact n_mul (a := z5.toInt) (b := 4) rfl (by decide +kernel) (by omega) (by omega)
        refine lv_istore (lv' := [(6, .int z6), (5, .int z4), (0, .ref (ad 22)), (1, .ref (ad 19)), (2, .ref (ad 19)), (3, .int L3), (4, .int L4)]) hx hb dX5_walk_73 hl_1 (by decide) rfl (fun ls_2 hl_2 => ?_)
        refine lv_aload_n hx hb dX5_walk_75 rfl (lv_at hl_2 2 rfl) ?_
        refine lv_iload hx hb dX5_walk_76 (lv_at hl_2 1 rfl) ?_
        refine lv_iload hx hb dX5_walk_78 (lv_at hl_2 0 rfl) ?_
        have hM := m068_X5_haveOppositeSigns l dC dI cI cJ cII cJJ H.size 0 ad f3_unknowns f3_equations f2_roundSupports f2_stale f7_size f1_size f5_keptSize f5_aheadSize f0_solved f4_blockCount f4_blockLength f4_lastIsFree f4_stale ai al w0 w1 w2 w3 z4 z6 (by omega) (by omega) (by omega) (by omega) (by omega) (by omega) (by omega) (by omega) (by omega) (by omega) (by omega) (by omega) (by omega) hI hw_w0 hw_w1 hw_w2 hw_w3
        refine k2V_i (q0 := 22) ⟨hx, hb, hml, hown, hts⟩ hK hP hD hS hA hX cv_RX5_32 hM ⟨by decide +kernel, by decide +kernel⟩ rfl rfl (Or.inl rfl) (rest := []) rfl rfl rfl hl_2.1 rfl (Nat.le_of_ble_eq_true rfl) dX5_walk_80 ⟨Nat.le_of_ble_eq_true rfl, Nat.le_of_ble_eq_true rfl⟩ (fun r7 t H1 locs_3 ht hB hS_3 hFc => ?_)
        obtain ⟨gpr7_0, hP_4, -, hD_4⟩ := hB
        rw [ht] at hP_4
        have hD_5 := hD_4.weaken (B := A) (fun k q _ h9 => hFc q.1 h9)
        clear ht
        generalize H1 = H_6 at hP_4 hS_3 ⊢
        refine lv_if_eq (tgt := 97) hx hb dX5_walk_83 (by decide) (fun c8 => ?_) (fun c8 => ?_)
        · have c8 := j_eq (a := r7.toInt) (b := 0) rfl (by decide +kernel) c8
          refine lv_aload_n hx hb dX5_walk_97 rfl (lv_at hl_2 2 rfl) ?_
          have hM := m067_X5_keepNext l dC dI cI cJ cII cJJ H_6.size 0 ad f3_unknowns f3_equations f2_roundSupports f2_stale f7_size f1_size f5_keptSize f5_aheadSize f0_solved f4_blockCount f4_blockLength f4_lastIsFree f4_stale ai al w0 w1 w2 w3 (by omega) (by omega) (by omega) (by omega) (by omega) (by omega) (by omega) (by omega) (by omega) (by omega) (by omega) hI hw_w0 hw_w1 hw_w2 hw_w3
          refine k2V_v (q0 := 22) ⟨hx, hb, hml, hown, hts⟩ hK hP_4 hD_5 hS_3 hA hX cv_RX5_29 hM ⟨by decide +kernel, by decide +kernel⟩ rfl rfl (Or.inl rfl) (rest := []) rfl rfl rfl hl_2.1 rfl (Nat.le_of_ble_eq_true rfl) dX5_walk_98 ⟨Nat.le_of_ble_eq_true rfl, Nat.le_of_ble_eq_true rfl⟩ (fun t H1 locs_7 ht hB hS_7 hFc => ?_)
          obtain ⟨v10, v11, ai12, ⟨gpr9_0, gpr9_1, gpr9_2, hI_8, hFr_r9⟩, hP_8, -, hD_8⟩ := hB
          have hF_9 := FR_tr hF hFr_r9 (by decide)
          rw [ht] at hP_8
          have hD_10 := hD_8.weaken (B := A) (fun k q _ h9 => hFc q.1 h9)
          clear ht
          generalize H1 = H_11 at hP_8 hS_7 ⊢
          exact m162_X5_walk_b101 C n ih L3 L4 z4 z6 v10 v11 ai12 _ _ _ (by omega) (by omega) (by omega) (by omega) (by omega) (by omega) (by omega) (by omega) (by omega) (by omega) (by omega) (by omega) (by omega) (by omega) (by omega) (by omega) (by omega) hI_8 hF_9 hw_w0 hw_w1 hw_w2 hw_w3 hP_8 hD_10 hS_7 (lv_sub hl_2 [2, 3, 4, 5, 6, 1, 0] rfl)
        · have c8 := j_ne (a := r7.toInt) (b := 0) rfl (by decide +kernel) c8
          refine lv_aload_n hx hb dX5_walk_86 rfl (lv_at hl_2 2 rfl) ?_
          refine lv_iload hx hb dX5_walk_87 (lv_at hl_2 1 rfl) ?_
          refine lv_iload hx hb dX5_walk_89 (lv_at hl_2 0 rfl) ?_
          have hM := m066_X5_pushSum l dC dI cI cJ cII cJJ H_6.size 0 ad f3_unknowns f3_equations f2_roundSupports f2_stale f7_size f1_size f5_keptSize f5_aheadSize f0_solved f4_blockCount f4_blockLength f4_lastIsFree f4_stale ai al w0 w1 w2 w3 z4 z6 (by omega) (by omega) (by omega) (by omega) (by omega) (by omega) (by omega) (by omega) (by omega) (by omega) (by omega) (by omega) (by omega) hI hw_w0 hw_w1 hw_w2 hw_w3
          refine k2V_v (q0 := 22) ⟨hx, hb, hml, hown, hts⟩ hK hP_4 hD_5 hS_3 hA hX cv_RX5_36 hM ⟨by decide +kernel, by decide +kernel⟩ rfl rfl (Or.inl rfl) (rest := []) rfl rfl rfl hl_2.1 rfl (Nat.le_of_ble_eq_true rfl) dX5_walk_91 ⟨Nat.le_of_ble_eq_true rfl, Nat.le_of_ble_eq_true rfl⟩ (fun t H1 locs_12 ht hB hS_12 hFc => ?_)
          obtain ⟨v14, ai15, ⟨gpr13_0, gpr13_1, hI_13, hFr_r13⟩, hP_13, -, hD_13⟩ := hB
          have hF_14 := FR_tr hF hFr_r13 (by decide)
          rw [ht] at hP_13
          have hD_15 := hD_13.weaken (B := A) (fun k q _ h9 => hFc q.1 h9)
          clear ht
          generalize H1 = H_16 at hP_13 hS_12 ⊢
          refine lv_goto (tgt := 101) hx hb dX5_walk_94 (by decide) ?_
          exact m162_X5_walk_b101 C n ih L3 L4 z4 z6 f5_keptSize v14 ai15 _ _ _ (by omega) (by omega) (by omega) (by omega) (by omega) (by omega) (by omega) (by omega) (by omega) (by omega) (by omega) (by omega) (by omega) (by omega) (by omega) (by omega) (by omega) hI_13 hF_14 hw_w0 hw_w1 hw_w2 hw_w3 hP_13 hD_15 hS_12 (lv_sub hl_2 [2, 3, 4, 5, 6, 1, 0] rfl)
set_option maxRecDepth 100000 in
set_option maxHeartbeats 4000000 in
theorem m162_X5_walk (l : Launch) (dC : Nat → ClassId) (dI : Nat → Nat → Nat) (cI cJ cII cJJ : ClassId) (sz g : Nat) (ad : Nat → Nat) (f3_unknowns f3_equations f2_roundSupports f2_stale f7_size f1_size f5_keptSize f5_aheadSize f0_solved f4_blockCount f4_blockLength f4_lastIsFree f4_stale : Int32) (ai : Nat → Nat → Int32) (al : Nat → Nat → Int64) (w0 w1 w2 w3 : Nat) (x3 : Int32) (h_x3 : (0 ≤ x3.toInt ∧ x3.toInt ≤ 1)) (h_f3_unknowns : (1 ≤ f3_unknowns.toInt ∧ f3_unknowns.toInt ≤ 4)) (h_f3_equations : (0 ≤ f3_equations.toInt ∧ f3_equations.toInt ≤ 3)) (h_f2_stale : (0 ≤ f2_stale.toInt ∧ f2_stale.toInt ≤ 1)) (h_f7_size : (0 ≤ f7_size.toInt ∧ f7_size.toInt ≤ 256)) (h_f1_size : (0 ≤ f1_size.toInt ∧ f1_size.toInt ≤ 4)) (h_f5_keptSize : (0 ≤ f5_keptSize.toInt ∧ f5_keptSize.toInt ≤ 128)) (h_f5_aheadSize : (0 ≤ f5_aheadSize.toInt ∧ f5_aheadSize.toInt ≤ 128)) (h_f4_blockCount : (0 ≤ f4_blockCount.toInt ∧ f4_blockCount.toInt ≤ 9261)) (h_f4_blockLength : (0 ≤ f4_blockLength.toInt ∧ f4_blockLength.toInt ≤ 21)) (h_f4_lastIsFree : (0 ≤ f4_lastIsFree.toInt ∧ f4_lastIsFree.toInt ≤ 1)) (h_f4_stale : (0 ≤ f4_stale.toInt ∧ f4_stale.toInt ≤ 1)) (hI : IAX ai) (hw_w0 : RWX ad w0) (hw_w1 : RWX ad w1) (hw_w2 : RWX ad w2) (hw_w3 : RWX ad w3) : Met l yX5_walk (.code yX5_walk cX5_walk 7 none :: TT) ({ frames := 3, cells := 0, slots := 0, locals := 140 } : Room) (PcS dC dI (TY cI cJ cII cJJ) [.ref (ad 22), .ref (ad 19), .ref (ad 19), .int x3] (WX cI cJ cII cJJ ad f3_unknowns f3_equations f2_roundSupports f2_stale f7_size f1_size f5_keptSize f5_aheadSize f0_solved f4_blockCount f4_blockLength f4_lastIsFree f4_stale ai al w0 w1 w2 w3) sz 0 g) (Q_m162_X5_walk dC dI cI cJ cII cJJ ad f3_unknowns f3_equations f2_roundSupports f2_stale f7_size f1_size f0_solved f4_blockCount f4_blockLength f4_lastIsFree f4_stale ai al w0 w1 w2 w3 (va_A (WX cI cJ cII cJJ ad f3_unknowns f3_equations f2_roundSupports f2_stale f7_size f1_size f5_keptSize f5_aheadSize f0_solved f4_blockCount f4_blockLength f4_lastIsFree f4_stale ai al w0 w1 w2 w3) sz)) 0 0 (va_A (WX cI cJ cII cJJ ad f3_unknowns f3_equations f2_roundSupports f2_stale f7_size f1_size f5_keptSize f5_aheadSize f0_solved f4_blockCount f4_blockLength f4_lastIsFree f4_stale ai al w0 w1 w2 w3) sz) := by
  refine SM.of (y := yX5_walk) (maxL := 7) (av := [.ref (ad 22), .ref (ad 19), .ref (ad 19), .int x3]) (Q_m162_X5_walk dC dI cI cJ cII cJJ ad f3_unknowns f3_equations f2_roundSupports f2_stale f7_size f1_size f0_solved f4_blockCount f4_blockLength f4_lastIsFree f4_stale ai al w0 w1 w2 w3) (by decide +kernel) (Nat.le_of_ble_eq_true rfl) (fun p e s m below meth c A ls hx hb hr hml hown hts hk hnm hA hK hP hD hS hX hl => ?_)
  have C : Cx p c s m meth (([.ref (ad 22), .ref (ad 19), .ref (ad 19), .int x3] : List Value).toArray) A dC dI (TY cI cJ cII cJJ) cX5_walk none 7 RX5 0 g := ⟨hx, hb, hr, hml, hown, hts, hk, hA, hK, hX⟩
  have hown : s.vm.findClass RX5 = some m.cls := hown
  have hl : lv_has ls 7 [(0, .ref (ad 22)), (1, .ref (ad 19)), (2, .ref (ad 19)), (3, .int x3)] := hl
  obtain ⟨H, hH⟩ : ∃ q, q = s.heap := ⟨_, rfl⟩
  rw [← hH] at hP
  have hS : va_S A s.heap H [] := by rw [hH]; exact hS
  rw [← hH]
  have hF := FR_refl [23, 24] ai
  refine lv_aload_n hx hb dX5_walk_0 rfl (lv_at hl 0 rfl) ?_
  refine lv_iconst (v := 0) hx hb dX5_walk_1 (by decide) ?_
  refine pf (k := 2) hx hb hts inX5 tyX5_ok nmX5 hown hK hP hD hS k_139 rfl (by decide) rfl rfl 22 rfl rfl rfl (Nat.le_of_ble_eq_true rfl) dX5_walk_2 (W' := (WX cI cJ cII cJJ ad f3_unknowns f3_equations f2_roundSupports f2_stale f7_size f1_size 0 f5_aheadSize f0_solved f4_blockCount f4_blockLength f4_lastIsFree f4_stale ai al w0 w1 w2 w3)) rfl (fun H_1 locs_1 hP_1 hD_1 hS_1 => ?_)
  refine lv_aload_n hx hb dX5_walk_5 rfl (lv_at hl 0 rfl) ?_
  refine lv_iconst (v := 0) hx hb dX5_walk_6 (by decide) ?_
  refine pf (k := 3) hx hb hts inX5 tyX5_ok nmX5 hown hK hP_1 hD_1 hS_1 k_140 rfl (by decide) rfl rfl 22 rfl rfl rfl (Nat.le_of_ble_eq_true rfl) dX5_walk_7 (W' := (WX cI cJ cII cJJ ad f3_unknowns f3_equations f2_roundSupports f2_stale f7_size f1_size 0 0 f0_solved f4_blockCount f4_blockLength f4_lastIsFree f4_stale ai al w0 w1 w2 w3)) rfl (fun H_2 locs_2 hP_2 hD_2 hS_2 => ?_)
  refine lv_aload_n hx hb dX5_walk_10 rfl (lv_at hl 0 rfl) ?_
  refine lv_aload_n hx hb dX5_walk_11 rfl (lv_at hl 1 rfl) ?_
  refine lv_iconst (v := 1) hx hb dX5_walk_12 (by decide) ?_
  have kc0 : (0 : Int32).toInt = 0 := by decide +kernel
  have kc1 : (1 : Int32).toInt = 1 := by decide +kernel
  have hM := m150_X5_pushAhead l dC dI cI cJ cII cJJ H_2.size 0 ad f3_unknowns f3_equations f2_roundSupports f2_stale f7_size f1_size 0 0 f0_solved f4_blockCount f4_blockLength f4_lastIsFree f4_stale ai al w0 w1 w2 w3 1 (by omega) (by omega) (by omega) (by omega) (by omega) (by decide +kernel) (by decide +kernel) (by omega) (by omega) (by omega) (by omega) hI hw_w0 hw_w1 hw_w2 hw_w3
  refine k2V_v (q0 := 22) ⟨hx, hb, hml, hown, hts⟩ hK hP_2 hD_2 hS_2 hA hX cv_RX5_25 hM ⟨by decide +kernel, by decide +kernel⟩ rfl rfl (Or.inl rfl) (rest := []) rfl rfl rfl hl.1 rfl (Nat.le_of_ble_eq_true rfl) dX5_walk_13 ⟨Nat.le_of_ble_eq_true rfl, Nat.le_of_ble_eq_true rfl⟩ (fun t H1 locs_3 ht hB hS_3 hFc => ?_)
  obtain ⟨v2, ai3, ⟨gpr1_0, gpr1_1, hI_4, hFr_r1⟩, hP_4, -, hD_4⟩ := hB
  have hF_5 := FR_tr hF hFr_r1 (by decide)
  rw [ht] at hP_4
  have hD_6 := hD_4.weaken (B := A) (fun k q _ h9 => hFc q.1 h9)
  clear ht
  generalize H1 = H_7 at hP_4 hS_3 ⊢
  refine lv_aload_n hx hb dX5_walk_16 rfl (lv_at hl 0 rfl) ?_
  have kc0 : (0 : Int32).toInt = 0 := by decide +kernel
  have hM := m067_X5_keepNext l dC dI cI cJ cII cJJ H_7.size 0 ad f3_unknowns f3_equations f2_roundSupports f2_stale f7_size f1_size 0 v2 f0_solved f4_blockCount f4_blockLength f4_lastIsFree f4_stale ai3 al w0 w1 w2 w3 (by omega) (by omega) (by omega) (by omega) (by omega) (by decide +kernel) (by omega) (by omega) (by omega) (by omega) (by omega) hI_4 hw_w0 hw_w1 hw_w2 hw_w3
  refine k2V_v (q0 := 22) ⟨hx, hb, hml, hown, hts⟩ hK hP_4 hD_6 hS_3 hA hX cv_RX5_29 hM ⟨by decide +kernel, by decide +kernel⟩ rfl rfl (Or.inl rfl) (rest := []) rfl rfl rfl hl.1 rfl (Nat.le_of_ble_eq_true rfl) dX5_walk_17 ⟨Nat.le_of_ble_eq_true rfl, Nat.le_of_ble_eq_true rfl⟩ (fun t H1 locs_8 ht hB hS_8 hFc => ?_)
  obtain ⟨v5, v6, ai7, ⟨gpr4_0, gpr4_1, gpr4_2, hI_9, hFr_r4⟩, hP_9, -, hD_9⟩ := hB
  have hF_10 := FR_tr hF_5 hFr_r4 (by decide)
  rw [ht] at hP_9
  have hD_11 := hD_9.weaken (B := A) (fun k q _ h9 => hFc q.1 h9)
  clear ht
  generalize H1 = H_12 at hP_9 hS_8 ⊢
  refine lv_iload_n hx hb dX5_walk_20 rfl (lv_at hl 3 rfl) ?_
  refine lv_if_ne (tgt := 25) hx hb dX5_walk_21 (by decide) (fun c8 => ?_) (fun c8 => ?_)
  · have c8 := j_ne (a := x3.toInt) (b := 0) rfl (by decide +kernel) c8
    refine lv_aload_n hx hb dX5_walk_25 rfl (lv_at hl 0 rfl) ?_
    refine lv_aload_n hx hb dX5_walk_26 rfl (lv_at hl 1 rfl) ?_
    refine lv_iconst (v := (-1)) hx hb dX5_walk_27 (by decide) ?_
    have kcm1 : ((-1) : Int32).toInt = (-1) := by decide +kernel
    have hM := m150_X5_pushAhead l dC dI cI cJ cII cJJ H_12.size 0 ad f3_unknowns f3_equations f2_roundSupports f2_stale f7_size f1_size v5 v6 f0_solved f4_blockCount f4_blockLength f4_lastIsFree f4_stale ai7 al w0 w1 w2 w3 (-1) (by omega) (by omega) (by omega) (by omega) (by omega) (by omega) (by omega) (by omega) (by omega) (by omega) (by omega) hI_9 hw_w0 hw_w1 hw_w2 hw_w3
    refine k2V_v (q0 := 22) ⟨hx, hb, hml, hown, hts⟩ hK hP_9 hD_11 hS_8 hA hX cv_RX5_25 hM ⟨by decide +kernel, by decide +kernel⟩ rfl rfl (Or.inl rfl) (rest := []) rfl rfl rfl hl.1 rfl (Nat.le_of_ble_eq_true rfl) dX5_walk_28 ⟨Nat.le_of_ble_eq_true rfl, Nat.le_of_ble_eq_true rfl⟩ (fun t H1 locs_13 ht hB hS_13 hFc => ?_)
    obtain ⟨v10, ai11, ⟨gpr9_0, gpr9_1, hI_14, hFr_r9⟩, hP_14, -, hD_14⟩ := hB
    have hF_15 := FR_tr hF_10 hFr_r9 (by decide)
    rw [ht] at hP_14
    have hD_16 := hD_14.weaken (B := A) (fun k q _ h9 => hFc q.1 h9)
    clear ht
    generalize H1 = H_17 at hP_14 hS_13 ⊢
    refine lv_aload_n hx hb dX5_walk_31 rfl (lv_at hl 0 rfl) ?_
    refine lv_aload_n hx hb dX5_walk_32 rfl (lv_at hl 2 rfl) ?_
    refine lv_iconst (v := 1) hx hb dX5_walk_33 (by decide) ?_
    have kc1 : (1 : Int32).toInt = 1 := by decide +kernel
    have hM := m150_X5_pushAhead l dC dI cI cJ cII cJJ H_17.size 0 ad f3_unknowns f3_equations f2_roundSupports f2_stale f7_size f1_size v5 v10 f0_solved f4_blockCount f4_blockLength f4_lastIsFree f4_stale ai11 al w0 w1 w2 w3 1 (by omega) (by omega) (by omega) (by omega) (by omega) (by omega) (by omega) (by omega) (by omega) (by omega) (by omega) hI_14 hw_w0 hw_w1 hw_w2 hw_w3
    refine k2V_v (q0 := 22) ⟨hx, hb, hml, hown, hts⟩ hK hP_14 hD_16 hS_13 hA hX cv_RX5_25 hM ⟨by decide +kernel, by decide +kernel⟩ rfl rfl (Or.inl rfl) (rest := []) rfl rfl rfl hl.1 rfl (Nat.le_of_ble_eq_true rfl) dX5_walk_34 ⟨Nat.le_of_ble_eq_true rfl, Nat.le_of_ble_eq_true rfl⟩ (fun t H1 locs_18 ht hB hS_18 hFc => ?_)
    obtain ⟨v13, ai14, ⟨gpr12_0, gpr12_1, hI_19, hFr_r12⟩, hP_19, -, hD_19⟩ := hB
    have hF_20 := FR_tr hF_15 hFr_r12 (by decide)
    rw [ht] at hP_19
    have hD_21 := hD_19.weaken (B := A) (fun k q _ h9 => hFc q.1 h9)
    clear ht
    generalize H1 = H_22 at hP_19 hS_18 ⊢
    refine lv_iconst (v := 0) hx hb dX5_walk_37 (by decide) ?_
    refine lv_istore (lv' := [(4, .int 0), (0, .ref (ad 22)), (1, .ref (ad 19)), (2, .ref (ad 19)), (3, .int x3)]) hx hb dX5_walk_38 hl (by decide) rfl (fun ls_23 hl_23 => ?_)
    exact m162_X5_walk_b40 C  _ x3 0 v5 v13 ai14 _ _ _ (by first | omega | decide | (have ka0 := (by decide +kernel : (0 : Int32).toInt = 0); omega)) (by first | omega | decide | (have ka0 := (by decide +kernel : (0 : Int32).toInt = 0); omega)) (by first | omega | decide | (have ka0 := (by decide +kernel : (0 : Int32).toInt = 0); omega)) (by first | omega | decide | (have ka0 := (by decide +kernel : (0 : Int32).toInt = 0); omega)) (by first | omega | decide | (have ka0 := (by decide +kernel : (0 : Int32).toInt = 0); omega)) (by first | omega | decide | (have ka0 := (by decide +kernel : (0 : Int32).toInt = 0); omega)) (by first | omega | decide | (have ka0 := (by decide +kernel : (0 : Int32).toInt = 0); omega)) (by first | omega | decide | (have ka0 := (by decide +kernel : (0 : Int32).toInt = 0); omega)) (by first | omega | decide | (have ka0 := (by decide +kernel : (0 : Int32).toInt = 0); omega)) (by first | omega | decide | (have ka0 := (by decide +kernel : (0 : Int32).toInt = 0); omega)) (by first | omega | decide | (have ka0 := (by decide +kernel : (0 : Int32).toInt = 0); omega)) (by first | omega | decide | (have ka0 := (by decide +kernel : (0 : Int32).toInt = 0); omega)) (by first | omega | decide | (have ka0 := (by decide +kernel : (0 : Int32).toInt = 0); omega)) (j_fuel _) (by omega) hI_19 hF_20 hw_w0 hw_w1 hw_w2 hw_w3 hP_19 hD_21 hS_18 (lv_sub hl_23 [1, 2, 3, 4, 0] rfl)
  · have c8 := j_eq (a := x3.toInt) (b := 0) rfl (by decide +kernel) c8
    exact r2_v hx hb hr hk hS_8 dX5_walk_24 (fun t ht hW => ⟨v5, v6, ai7, ⟨(by first | omega | decide | exact Or.inl (by decide) | exact Or.inr (by decide) | exact Or.inr (by omega)), (by first | omega | decide | exact Or.inl (by decide) | exact Or.inr (by decide) | exact Or.inr (by omega)), hI_9, hF_10⟩, by rw [ht]; exact hP_9, va_K.moved hW.alike hK, hD_11⟩)
def Q_m163_X2_refresh (dC : Nat → ClassId) (dI : Nat → Nat → Nat) (cI cJ cII cJJ : ClassId) (ad : Nat → Nat) (f3_unknowns f3_equations f4_blockCount f4_blockLength f4_lastIsFree f4_stale : Int32) (ai0 : Nat → Nat → Int32) (al0 : Nat → Nat → Int64) : (Nat → Prop) → Array Value → State → Outcome → State → Prop := fun A => QV (fun t => ∃ (n_f2_roundSupports n_f2_stale n_f7_size n_f1_size n_f5_keptSize n_f5_aheadSize n_f0_solved : Int32), ∃ (n_ai : Nat → Nat → Int32), ∃ (n_al : Nat → Nat → Int64), ∃ (n_w0 n_w1 n_w2 n_w3 : Nat), ((0 ≤ n_f2_stale.toInt ∧ n_f2_stale.toInt ≤ 0) ∧ (0 ≤ n_f7_size.toInt ∧ n_f7_size.toInt ≤ 256) ∧ (0 ≤ n_f1_size.toInt ∧ n_f1_size.toInt ≤ 4) ∧ (0 ≤ n_f5_keptSize.toInt ∧ n_f5_keptSize.toInt ≤ 128) ∧ (0 ≤ n_f5_aheadSize.toInt ∧ n_f5_aheadSize.toInt ≤ 128) ∧ IAX n_ai ∧ FR [21, 23, 24, 26, 27, 28] ai0 n_ai ∧ FL [13, 16, 17, 18, 19, 20] al0 n_al ∧ RWX ad n_w0 ∧ RWX ad n_w1 ∧ RWX ad n_w2 ∧ RWX ad n_w3) ∧ WO dC dI (TY cI cJ cII cJJ) (WX cI cJ cII cJJ ad f3_unknowns f3_equations n_f2_roundSupports n_f2_stale n_f7_size n_f1_size n_f5_keptSize n_f5_aheadSize n_f0_solved f4_blockCount f4_blockLength f4_lastIsFree f4_stale n_ai n_al n_w0 n_w1 n_w2 n_w3) A t) A
set_option maxRecDepth 100000 in
set_option maxHeartbeats 4000000 in
theorem m163_X2_refresh_b134 {p : Program} {l : Launch} {e : Env} {s : State} {m : MethodId} {args : Array Value} {below : List Frame} {meth : Method} {c : Code} {A : Nat → Prop} {dC : Nat → ClassId} {dI : Nat → Nat → Nat} {cI cJ cII cJJ : ClassId} {ad : Nat → Nat} {g : Nat} {f3_unknowns f3_equations f4_blockCount f4_blockLength f4_lastIsFree f4_stale : Int32} {ai0 : Nat → Nat → Int32} {al0 : Nat → Nat → Int64} (C : Cx p c s m meth args A dC dI (TY cI cJ cII cJJ) cX2_refresh none 2 RX2 1 g) : ∀ (f2_roundSupports f2_stale f7_size f1_size f5_keptSize f5_aheadSize f0_solved : Int32) (ai : Nat → Nat → Int32) (al : Nat → Nat → Int64) (w0 w1 w2 w3 : Nat) (H : Heap) (locs : List Loc) (ls : Array Slot), (1 ≤ f3_unknowns.toInt ∧ f3_unknowns.toInt ≤ 4) → (0 ≤ f3_equations.toInt ∧ f3_equations.toInt ≤ 3) → (0 ≤ f2_stale.toInt ∧ f2_stale.toInt ≤ 0) → (0 ≤ f7_size.toInt ∧ f7_size.toInt ≤ 256) → (0 ≤ f1_size.toInt ∧ f1_size.toInt ≤ 4) → (0 ≤ f5_keptSize.toInt ∧ f5_keptSize.toInt ≤ 128) → (0 ≤ f5_aheadSize.toInt ∧ f5_aheadSize.toInt ≤ 128) → (0 ≤ f4_blockCount.toInt ∧ f4_blockCount.toInt ≤ 9261) → (0 ≤ f4_blockLength.toInt ∧ f4_blockLength.toInt ≤ 21) → (0 ≤ f4_lastIsFree.toInt ∧ f4_lastIsFree.toInt ≤ 1) → (0 ≤ f4_stale.toInt ∧ f4_stale.toInt ≤ 1) → IAX ai → FR [21, 23, 24, 26, 27, 28] ai0 ai → FL [13, 16, 17, 18, 19, 20] al0 al → RWX ad w0 → RWX ad w1 → RWX ad w2 → RWX ad w3 → va_P (dC, dI) vwCl (WX cI cJ cII cJJ ad f3_unknowns f3_equations f2_roundSupports f2_stale f7_size f1_size f5_keptSize f5_aheadSize f0_solved f4_blockCount f4_blockLength f4_lastIsFree f4_stale ai al w0 w1 w2 w3) H → va_D A (WX cI cJ cII cJJ ad f3_unknowns f3_equations f2_roundSupports f2_stale f7_size f1_size f5_keptSize f5_aheadSize f0_solved f4_blockCount f4_blockLength f4_lastIsFree f4_stale ai al w0 w1 w2 w3) → va_S A s.heap H locs → lv_has ls 2 [(0, .ref (ad 11))] → W p l e ({ frames := 13, cells := 0, slots := 0, locals := 740 } : Room) s m args below meth c H locs 0 0 (MQ below (Q_m163_X2_refresh dC dI cI cJ cII cJJ ad f3_unknowns f3_equations f4_blockCount f4_blockLength f4_lastIsFree f4_stale ai0 al0 A) args s 0 0 A) (F0 m 134 ls []) := by
  obtain ⟨hx, hb, hr, hml, hown, hts, hk, hA, hK, hX⟩ := id C
  intro f2_roundSupports f2_stale f7_size f1_size f5_keptSize f5_aheadSize f0_solved ai al w0 w1 w2 w3 H locs ls h0 h1 h2 h3 h4 h5 h6 h7 h8 h9 h10 hI hF hG hw_w0 hw_w1 hw_w2 hw_w3 hP hD hS hl
  refine lv_aload_n hx hb dX2_refresh_134 rfl (lv_at hl 0 rfl) ?_
  have hM := m046_X2_findRoundSupports l dC dI cI cJ cII cJJ H.size 0 ad f3_unknowns f3_equations f2_roundSupports f2_stale f7_size f1_size f5_keptSize f5_aheadSize f0_solved f4_blockCount f4_blockLength f4_lastIsFree f4_stale ai al w0 w1 w2 w3 (by omega) (by omega) (by omega) (by omega) (by omega) (by omega) (by omega) (by omega) (by omega) (by omega) (by omega) hI hw_w0 hw_w1 hw_w2 hw_w3
  refine k2V_v (q0 := 11) ⟨hx, hb, hml, hown, hts⟩ hK hP hD hS hA hX cv_RX2_81 hM ⟨by decide +kernel, by decide +kernel⟩ rfl rfl (Or.inl rfl) (rest := []) rfl rfl rfl hl.1 rfl (Nat.le_of_ble_eq_true rfl) dX2_refresh_135 ⟨Nat.le_of_ble_eq_true rfl, Nat.le_of_ble_eq_true rfl⟩ (fun t H1 locs_1 ht hB hS_1 hFc => ?_)
  obtain ⟨v2, -, hP_2, -, hD_2⟩ := hB
  rw [ht] at hP_2
  have hD_3 := hD_2.weaken (B := A) (fun k q _ h9 => hFc q.1 h9)
  clear ht
  generalize H1 = H_4 at hP_2 hS_1 ⊢
  exact r2_v hx hb hr hk hS_1 dX2_refresh_138 (fun t ht hW => ⟨v2, f2_stale, f7_size, f1_size, f5_keptSize, f5_aheadSize, f0_solved, ai, al, w0, w1, w2, w3, ⟨(by first | omega | decide | exact Or.inl (by decide) | exact Or.inr (by decide) | exact Or.inr (by omega)), (by first | omega | decide | exact Or.inl (by decide) | exact Or.inr (by decide) | exact Or.inr (by omega)), (by first | omega | decide | exact Or.inl (by decide) | exact Or.inr (by decide) | exact Or.inr (by omega)), (by first | omega | decide | exact Or.inl (by decide) | exact Or.inr (by decide) | exact Or.inr (by omega)), (by first | omega | decide | exact Or.inl (by decide) | exact Or.inr (by decide) | exact Or.inr (by omega)), hI, hF, hG, hw_w0, hw_w1, hw_w2, hw_w3⟩, by rw [ht]; exact hP_2, va_K.moved hW.alike hK, hD_3⟩)
set_option maxRecDepth 100000 in
set_option maxHeartbeats 4000000 in
theorem m163_X2_refresh_b90 {p : Program} {l : Launch} {e : Env} {s : State} {m : MethodId} {args : Array Value} {below : List Frame} {meth : Method} {c : Code} {A : Nat → Prop} {dC : Nat → ClassId} {dI : Nat → Nat → Nat} {cI cJ cII cJJ : ClassId} {ad : Nat → Nat} {g : Nat} {f3_unknowns f3_equations f4_blockCount f4_blockLength f4_lastIsFree f4_stale : Int32} {ai0 : Nat → Nat → Int32} {al0 : Nat → Nat → Int64} (C : Cx p c s m meth args A dC dI (TY cI cJ cII cJJ) cX2_refresh none 2 RX2 1 g) : ∀ (L1 f2_roundSupports f2_stale f7_size f1_size f5_keptSize f5_aheadSize f0_solved : Int32) (ai : Nat → Nat → Int32) (al : Nat → Nat → Int64) (w0 w1 w2 w3 : Nat) (H : Heap) (locs : List Loc) (ls : Array Slot), (0 ≤ L1.toInt ∧ L1.toInt ≤ 1) → (1 ≤ f3_unknowns.toInt ∧ f3_unknowns.toInt ≤ 4) → (0 ≤ f3_equations.toInt ∧ f3_equations.toInt ≤ 3) → (0 ≤ f2_stale.toInt ∧ f2_stale.toInt ≤ 0) → (0 ≤ f7_size.toInt ∧ f7_size.toInt ≤ 0) → (0 ≤ f1_size.toInt ∧ f1_size.toInt ≤ 4) → (0 ≤ f5_keptSize.toInt ∧ f5_keptSize.toInt ≤ 128) → (0 ≤ f5_aheadSize.toInt ∧ f5_aheadSize.toInt ≤ 128) → (0 ≤ f4_blockCount.toInt ∧ f4_blockCount.toInt ≤ 9261) → (0 ≤ f4_blockLength.toInt ∧ f4_blockLength.toInt ≤ 21) → (0 ≤ f4_lastIsFree.toInt ∧ f4_lastIsFree.toInt ≤ 1) → (0 ≤ f4_stale.toInt ∧ f4_stale.toInt ≤ 1) → IAX ai → FR [21, 23, 24, 26, 27, 28] ai0 ai → FL [13, 16, 17, 18, 19, 20] al0 al → RWX ad w0 → RWX ad w1 → RWX ad w2 → RWX ad w3 → va_P (dC, dI) vwCl (WX cI cJ cII cJJ ad f3_unknowns f3_equations f2_roundSupports f2_stale f7_size f1_size f5_keptSize f5_aheadSize f0_solved f4_blockCount f4_blockLength f4_lastIsFree f4_stale ai al w0 w1 w2 w3) H → va_D A (WX cI cJ cII cJJ ad f3_unknowns f3_equations f2_roundSupports f2_stale f7_size f1_size f5_keptSize f5_aheadSize f0_solved f4_blockCount f4_blockLength f4_lastIsFree f4_stale ai al w0 w1 w2 w3) → va_S A s.heap H locs → lv_has ls 2 [(0, .ref (ad 11)), (1, .int L1)] → W p l e ({ frames := 13, cells := 0, slots := 0, locals := 740 } : Room) s m args below meth c H locs 0 0 (MQ below (Q_m163_X2_refresh dC dI cI cJ cII cJJ ad f3_unknowns f3_equations f4_blockCount f4_blockLength f4_lastIsFree f4_stale ai0 al0 A) args s 0 0 A) (F0 m 90 ls []) := by
  obtain ⟨hx, hb, hr, hml, hown, hts, hk, hA, hK, hX⟩ := id C
  intro L1 f2_roundSupports f2_stale f7_size f1_size f5_keptSize f5_aheadSize f0_solved ai al w0 w1 w2 w3 H locs ls h0 h1 h2 h3 h4 h5 h6 h7 h8 h9 h10 h11 hI hF hG hw_w0 hw_w1 hw_w2 hw_w3 hP hD hS hl
  refine lv_aload_n hx hb dX2_refresh_90 rfl (lv_at hl 0 rfl) ?_
  refine gf (k := 3) hx hb hts inX2 hown hK hP k_178 rfl (by decide) rfl 11 rfl (.ref (ad 22)) rfl dX2_refresh_91 ?_
  refine lv_aload_n hx hb dX2_refresh_94 rfl (lv_at hl 0 rfl) ?_
  refine gf (k := 2) hx hb hts inX2 hown hK hP k_177 rfl (by decide) rfl 11 rfl (.ref (ad 14)) rfl dX2_refresh_95 ?_
  refine gf (k := 0) hx hb hts inX1 hown hK hP k_117 rfl (by decide) rfl 14 rfl (.ref (ad 15)) rfl dX2_refresh_98 ?_
  refine lv_iconst (v := 0) hx hb dX2_refresh_101 (by decide) ?_
  refine ld_a hx hb hK hP 15 3 rfl rfl (vin (by decide +kernel)) dX2_refresh_102 w0 rfl ?_
  refine lv_aload_n hx hb dX2_refresh_103 rfl (lv_at hl 0 rfl) ?_
  refine gf (k := 2) hx hb hts inX2 hown hK hP k_177 rfl (by decide) rfl 11 rfl (.ref (ad 14)) rfl dX2_refresh_104 ?_
  refine gf (k := 0) hx hb hts inX1 hown hK hP k_117 rfl (by decide) rfl 14 rfl (.ref (ad 15)) rfl dX2_refresh_107 ?_
  refine lv_iconst (v := 1) hx hb dX2_refresh_110 (by decide) ?_
  refine ld_a hx hb hK hP 15 3 rfl rfl (vin (by decide +kernel)) dX2_refresh_111 w1 rfl ?_
  refine lv_iload_n hx hb dX2_refresh_112 rfl (lv_at hl 1 rfl) ?_
  rcases hw_w1 with rfl | rfl | rfl | rfl
  · skip
    rcases hw_w0 with rfl | rfl | rfl | rfl
    · skip
      have hM := m146_X5_walk l dC dI cI cJ cII cJJ H.size 0 ad f3_unknowns f3_equations f2_roundSupports f2_stale f7_size f1_size f5_keptSize f5_aheadSize f0_solved f4_blockCount f4_blockLength f4_lastIsFree f4_stale ai al (ad 16) (ad 16) w2 w3 L1 (by omega) (by omega) (by omega) (by omega) (by omega) (by omega) (by omega) (by omega) (by omega) (by omega) (by omega) (by omega) hI (RWX_16 ad) (RWX_16 ad) hw_w2 hw_w3
      refine k2V_v (q0 := 22) ⟨hx, hb, hml, hown, hts⟩ hK hP hD hS hA hX cv_RX2_70 hM ⟨by decide +kernel, by decide +kernel⟩ rfl rfl (Or.inl rfl) (rest := []) rfl rfl rfl hl.1 rfl (Nat.le_of_ble_eq_true rfl) dX2_refresh_113 ⟨Nat.le_of_ble_eq_true rfl, Nat.le_of_ble_eq_true rfl⟩ (fun t H1 locs_1 ht hB hS_1 hFc => ?_)
      obtain ⟨v2, v3, ai4, ⟨gpr1_0, gpr1_1, hI_2, hFr_r1⟩, hP_2, -, hD_2⟩ := hB
      have hF_3 := FR_tr hF hFr_r1 (by decide)
      rw [ht] at hP_2
      have hD_4 := hD_2.weaken (B := A) (fun k q _ h9 => hFc q.1 h9)
      clear ht
      generalize H1 = H_5 at hP_2 hS_1 ⊢
      refine lv_aload_n hx hb dX2_refresh_116 rfl (lv_at hl 0 rfl) ?_
      refine gf (k := 3) hx hb hts inX2 hown hK hP_2 k_178 rfl (by decide) rfl 11 rfl (.ref (ad 22)) rfl dX2_refresh_117 ?_
      refine lv_aload_n hx hb dX2_refresh_120 rfl (lv_at hl 0 rfl) ?_
      refine gf (k := 1) hx hb hts inX2 hown hK hP_2 k_176 rfl (by decide) rfl 11 rfl (.ref (ad 12)) rfl dX2_refresh_121 ?_
      have hM := m071_X5_giveTo l dC dI cI cJ cII cJJ H_5.size 0 ad f3_unknowns f3_equations f2_roundSupports f2_stale f7_size f1_size v2 v3 f0_solved f4_blockCount f4_blockLength f4_lastIsFree f4_stale ai4 al (ad 16) (ad 16) w2 w3 (by omega) (by omega) (by omega) (by omega) (by omega) (by omega) (by omega) (by omega) (by omega) (by omega) (by omega) hI_2 (RWX_16 ad) (RWX_16 ad) hw_w2 hw_w3
      refine k2V_v (q0 := 22) ⟨hx, hb, hml, hown, hts⟩ hK hP_2 hD_4 hS_1 hA hX cv_RX2_74 hM ⟨by decide +kernel, by decide +kernel⟩ rfl rfl (Or.inl rfl) (rest := []) rfl rfl rfl hl.1 rfl (Nat.le_of_ble_eq_true rfl) dX2_refresh_124 ⟨Nat.le_of_ble_eq_true rfl, Nat.le_of_ble_eq_true rfl⟩ (fun t H1 locs_6 ht hB hS_6 hFc => ?_)
      obtain ⟨v6, al7, ⟨gpr5_0, hGr_r5⟩, hP_7, -, hD_7⟩ := hB
      have hG_8 := FL_tr hG hGr_r5 (by decide)
      rw [ht] at hP_7
      have hD_9 := hD_7.weaken (B := A) (fun k q _ h9 => hFc q.1 h9)
      clear ht
      generalize H1 = H_10 at hP_7 hS_6 ⊢
      refine lv_aload_n hx hb dX2_refresh_127 rfl (lv_at hl 0 rfl) ?_
      refine gf (k := 1) hx hb hts inX2 hown hK hP_7 k_176 rfl (by decide) rfl 11 rfl (.ref (ad 12)) rfl dX2_refresh_128 ?_
      have hM := m064_X7_sort l dC dI cI cJ cII cJJ H_10.size g ad f3_unknowns f3_equations f2_roundSupports f2_stale v6 f1_size v2 v3 f0_solved f4_blockCount f4_blockLength f4_lastIsFree f4_stale ai4 al7 (ad 16) (ad 16) w2 w3 (by omega) (by omega) (by omega) (by omega) (by omega) (by omega) (by omega) (by omega) (by omega) (by omega) (by omega) hI_2 (RWX_16 ad) (RWX_16 ad) hw_w2 hw_w3
      refine k2V_v (q0 := 12) ⟨hx, hb, hml, hown, hts⟩ hK hP_7 hD_9 hS_6 hA hX cv_RX2_78 hM ⟨by decide +kernel, by decide +kernel⟩ rfl rfl (Or.inr ⟨rfl, rfl, rfl⟩) (rest := []) rfl rfl rfl hl.1 rfl (Nat.le_of_ble_eq_true rfl) dX2_refresh_131 ⟨Nat.le_of_ble_eq_true rfl, Nat.le_of_ble_eq_true rfl⟩ (fun t H1 locs_11 ht hB hS_11 hFc => ?_)
      obtain ⟨al9, hGr_r8, hP_12, -, hD_12⟩ := hB
      have hG_13 := FL_tr hG_8 hGr_r8 (by decide)
      rw [ht] at hP_12
      have hD_14 := hD_12.weaken (B := A) (fun k q _ h9 => hFc q.1 h9)
      clear ht
      generalize H1 = H_15 at hP_12 hS_11 ⊢
      exact m163_X2_refresh_b134 C  f2_roundSupports f2_stale v6 f1_size v2 v3 f0_solved ai4 al9 (ad 16) (ad 16) w2 w3 _ _ _ (by omega) (by omega) (by omega) (by omega) (by omega) (by omega) (by omega) (by omega) (by omega) (by omega) (by omega) hI_2 hF_3 hG_13 (RWX_16 ad) (RWX_16 ad) hw_w2 hw_w3 hP_12 hD_14 hS_11 (lv_sub hl [0] rfl)
    · skip
      have hM := m147_X5_walk l dC dI cI cJ cII cJJ H.size 0 ad f3_unknowns f3_equations f2_roundSupports f2_stale f7_size f1_size f5_keptSize f5_aheadSize f0_solved f4_blockCount f4_blockLength f4_lastIsFree f4_stale ai al (ad 17) (ad 16) w2 w3 L1 (by omega) (by omega) (by omega) (by omega) (by omega) (by omega) (by omega) (by omega) (by omega) (by omega) (by omega) (by omega) hI (RWX_17 ad) (RWX_16 ad) hw_w2 hw_w3
      refine k2V_v (q0 := 22) ⟨hx, hb, hml, hown, hts⟩ hK hP hD hS hA hX cv_RX2_70 hM ⟨by decide +kernel, by decide +kernel⟩ rfl rfl (Or.inl rfl) (rest := []) rfl rfl rfl hl.1 rfl (Nat.le_of_ble_eq_true rfl) dX2_refresh_113 ⟨Nat.le_of_ble_eq_true rfl, Nat.le_of_ble_eq_true rfl⟩ (fun t H1 locs_16 ht hB hS_16 hFc => ?_)
      obtain ⟨v11, v12, ai13, ⟨gpr10_0, gpr10_1, hI_17, hFr_r10⟩, hP_17, -, hD_17⟩ := hB
      have hF_18 := FR_tr hF hFr_r10 (by decide)
      rw [ht] at hP_17
      have hD_19 := hD_17.weaken (B := A) (fun k q _ h9 => hFc q.1 h9)
      clear ht
      generalize H1 = H_20 at hP_17 hS_16 ⊢
      refine lv_aload_n hx hb dX2_refresh_116 rfl (lv_at hl 0 rfl) ?_
      refine gf (k := 3) hx hb hts inX2 hown hK hP_17 k_178 rfl (by decide) rfl 11 rfl (.ref (ad 22)) rfl dX2_refresh_117 ?_
      refine lv_aload_n hx hb dX2_refresh_120 rfl (lv_at hl 0 rfl) ?_
      refine gf (k := 1) hx hb hts inX2 hown hK hP_17 k_176 rfl (by decide) rfl 11 rfl (.ref (ad 12)) rfl dX2_refresh_121 ?_
      have hM := m071_X5_giveTo l dC dI cI cJ cII cJJ H_20.size 0 ad f3_unknowns f3_equations f2_roundSupports f2_stale f7_size f1_size v11 v12 f0_solved f4_blockCount f4_blockLength f4_lastIsFree f4_stale ai13 al (ad 17) (ad 16) w2 w3 (by omega) (by omega) (by omega) (by omega) (by omega) (by omega) (by omega) (by omega) (by omega) (by omega) (by omega) hI_17 (RWX_17 ad) (RWX_16 ad) hw_w2 hw_w3
      refine k2V_v (q0 := 22) ⟨hx, hb, hml, hown, hts⟩ hK hP_17 hD_19 hS_16 hA hX cv_RX2_74 hM ⟨by decide +kernel, by decide +kernel⟩ rfl rfl (Or.inl rfl) (rest := []) rfl rfl rfl hl.1 rfl (Nat.le_of_ble_eq_true rfl) dX2_refresh_124 ⟨Nat.le_of_ble_eq_true rfl, Nat.le_of_ble_eq_true rfl⟩ (fun t H1 locs_21 ht hB hS_21 hFc => ?_)
      obtain ⟨v15, al16, ⟨gpr14_0, hGr_r14⟩, hP_22, -, hD_22⟩ := hB
      have hG_23 := FL_tr hG hGr_r14 (by decide)
      rw [ht] at hP_22
      have hD_24 := hD_22.weaken (B := A) (fun k q _ h9 => hFc q.1 h9)
      clear ht
      generalize H1 = H_25 at hP_22 hS_21 ⊢
      refine lv_aload_n hx hb dX2_refresh_127 rfl (lv_at hl 0 rfl) ?_
      refine gf (k := 1) hx hb hts inX2 hown hK hP_22 k_176 rfl (by decide) rfl 11 rfl (.ref (ad 12)) rfl dX2_refresh_128 ?_
      have hM := m064_X7_sort l dC dI cI cJ cII cJJ H_25.size g ad f3_unknowns f3_equations f2_roundSupports f2_stale v15 f1_size v11 v12 f0_solved f4_blockCount f4_blockLength f4_lastIsFree f4_stale ai13 al16 (ad 17) (ad 16) w2 w3 (by omega) (by omega) (by omega) (by omega) (by omega) (by omega) (by omega) (by omega) (by omega) (by omega) (by omega) hI_17 (RWX_17 ad) (RWX_16 ad) hw_w2 hw_w3
      refine k2V_v (q0 := 12) ⟨hx, hb, hml, hown, hts⟩ hK hP_22 hD_24 hS_21 hA hX cv_RX2_78 hM ⟨by decide +kernel, by decide +kernel⟩ rfl rfl (Or.inr ⟨rfl, rfl, rfl⟩) (rest := []) rfl rfl rfl hl.1 rfl (Nat.le_of_ble_eq_true rfl) dX2_refresh_131 ⟨Nat.le_of_ble_eq_true rfl, Nat.le_of_ble_eq_true rfl⟩ (fun t H1 locs_26 ht hB hS_26 hFc => ?_)
      obtain ⟨al18, hGr_r17, hP_27, -, hD_27⟩ := hB
      have hG_28 := FL_tr hG_23 hGr_r17 (by decide)
      rw [ht] at hP_27
      have hD_29 := hD_27.weaken (B := A) (fun k q _ h9 => hFc q.1 h9)
      clear ht
      generalize H1 = H_30 at hP_27 hS_26 ⊢
      exact m163_X2_refresh_b134 C  f2_roundSupports f2_stale v15 f1_size v11 v12 f0_solved ai13 al18 (ad 17) (ad 16) w2 w3 _ _ _ (by omega) (by omega) (by omega) (by omega) (by omega) (by omega) (by omega) (by omega) (by omega) (by omega) (by omega) hI_17 hF_18 hG_28 (RWX_17 ad) (RWX_16 ad) hw_w2 hw_w3 hP_27 hD_29 hS_26 (lv_sub hl [0] rfl)
    · skip
      have hM := m149_X5_walk l dC dI cI cJ cII cJJ H.size 0 ad f3_unknowns f3_equations f2_roundSupports f2_stale f7_size f1_size f5_keptSize f5_aheadSize f0_solved f4_blockCount f4_blockLength f4_lastIsFree f4_stale ai al (ad 18) (ad 16) w2 w3 L1 (by omega) (by omega) (by omega) (by omega) (by omega) (by omega) (by omega) (by omega) (by omega) (by omega) (by omega) (by omega) hI (RWX_18 ad) (RWX_16 ad) hw_w2 hw_w3
      refine k2V_v (q0 := 22) ⟨hx, hb, hml, hown, hts⟩ hK hP hD hS hA hX cv_RX2_70 hM ⟨by decide +kernel, by decide +kernel⟩ rfl rfl (Or.inl rfl) (rest := []) rfl rfl rfl hl.1 rfl (Nat.le_of_ble_eq_true rfl) dX2_refresh_113 ⟨Nat.le_of_ble_eq_true rfl, Nat.le_of_ble_eq_true rfl⟩ (fun t H1 locs_31 ht hB hS_31 hFc => ?_)
      obtain ⟨v20, v21, ai22, ⟨gpr19_0, gpr19_1, hI_32, hFr_r19⟩, hP_32, -, hD_32⟩ := hB
      have hF_33 := FR_tr hF hFr_r19 (by decide)
      rw [ht] at hP_32
      have hD_34 := hD_32.weaken (B := A) (fun k q _ h9 => hFc q.1 h9)
      clear ht
      generalize H1 = H_35 at hP_32 hS_31 ⊢
      refine lv_aload_n hx hb dX2_refresh_116 rfl (lv_at hl 0 rfl) ?_
      refine gf (k := 3) hx hb hts inX2 hown hK hP_32 k_178 rfl (by decide) rfl 11 rfl (.ref (ad 22)) rfl dX2_refresh_117 ?_
      refine lv_aload_n hx hb dX2_refresh_120 rfl (lv_at hl 0 rfl) ?_
      refine gf (k := 1) hx hb hts inX2 hown hK hP_32 k_176 rfl (by decide) rfl 11 rfl (.ref (ad 12)) rfl dX2_refresh_121 ?_
      have hM := m071_X5_giveTo l dC dI cI cJ cII cJJ H_35.size 0 ad f3_unknowns f3_equations f2_roundSupports f2_stale f7_size f1_size v20 v21 f0_solved f4_blockCount f4_blockLength f4_lastIsFree f4_stale ai22 al (ad 18) (ad 16) w2 w3 (by omega) (by omega) (by omega) (by omega) (by omega) (by omega) (by omega) (by omega) (by omega) (by omega) (by omega) hI_32 (RWX_18 ad) (RWX_16 ad) hw_w2 hw_w3
      refine k2V_v (q0 := 22) ⟨hx, hb, hml, hown, hts⟩ hK hP_32 hD_34 hS_31 hA hX cv_RX2_74 hM ⟨by decide +kernel, by decide +kernel⟩ rfl rfl (Or.inl rfl) (rest := []) rfl rfl rfl hl.1 rfl (Nat.le_of_ble_eq_true rfl) dX2_refresh_124 ⟨Nat.le_of_ble_eq_true rfl, Nat.le_of_ble_eq_true rfl⟩ (fun t H1 locs_36 ht hB hS_36 hFc => ?_)
      obtain ⟨v24, al25, ⟨gpr23_0, hGr_r23⟩, hP_37, -, hD_37⟩ := hB
      have hG_38 := FL_tr hG hGr_r23 (by decide)
      rw [ht] at hP_37
      have hD_39 := hD_37.weaken (B := A) (fun k q _ h9 => hFc q.1 h9)
      clear ht
      generalize H1 = H_40 at hP_37 hS_36 ⊢
      refine lv_aload_n hx hb dX2_refresh_127 rfl (lv_at hl 0 rfl) ?_
      refine gf (k := 1) hx hb hts inX2 hown hK hP_37 k_176 rfl (by decide) rfl 11 rfl (.ref (ad 12)) rfl dX2_refresh_128 ?_
      have hM := m064_X7_sort l dC dI cI cJ cII cJJ H_40.size g ad f3_unknowns f3_equations f2_roundSupports f2_stale v24 f1_size v20 v21 f0_solved f4_blockCount f4_blockLength f4_lastIsFree f4_stale ai22 al25 (ad 18) (ad 16) w2 w3 (by omega) (by omega) (by omega) (by omega) (by omega) (by omega) (by omega) (by omega) (by omega) (by omega) (by omega) hI_32 (RWX_18 ad) (RWX_16 ad) hw_w2 hw_w3
      refine k2V_v (q0 := 12) ⟨hx, hb, hml, hown, hts⟩ hK hP_37 hD_39 hS_36 hA hX cv_RX2_78 hM ⟨by decide +kernel, by decide +kernel⟩ rfl rfl (Or.inr ⟨rfl, rfl, rfl⟩) (rest := []) rfl rfl rfl hl.1 rfl (Nat.le_of_ble_eq_true rfl) dX2_refresh_131 ⟨Nat.le_of_ble_eq_true rfl, Nat.le_of_ble_eq_true rfl⟩ (fun t H1 locs_41 ht hB hS_41 hFc => ?_)
      obtain ⟨al27, hGr_r26, hP_42, -, hD_42⟩ := hB
      have hG_43 := FL_tr hG_38 hGr_r26 (by decide)
      rw [ht] at hP_42
      have hD_44 := hD_42.weaken (B := A) (fun k q _ h9 => hFc q.1 h9)
      clear ht
      generalize H1 = H_45 at hP_42 hS_41 ⊢
      exact m163_X2_refresh_b134 C  f2_roundSupports f2_stale v24 f1_size v20 v21 f0_solved ai22 al27 (ad 18) (ad 16) w2 w3 _ _ _ (by omega) (by omega) (by omega) (by omega) (by omega) (by omega) (by omega) (by omega) (by omega) (by omega) (by omega) hI_32 hF_33 hG_43 (RWX_18 ad) (RWX_16 ad) hw_w2 hw_w3 hP_42 hD_44 hS_41 (lv_sub hl [0] rfl)
    · skip
      have hM := m151_X5_walk l dC dI cI cJ cII cJJ H.size 0 ad f3_unknowns f3_equations f2_roundSupports f2_stale f7_size f1_size f5_keptSize f5_aheadSize f0_solved f4_blockCount f4_blockLength f4_lastIsFree f4_stale ai al (ad 19) (ad 16) w2 w3 L1 (by omega) (by omega) (by omega) (by omega) (by omega) (by omega) (by omega) (by omega) (by omega) (by omega) (by omega) (by omega) hI (RWX_19 ad) (RWX_16 ad) hw_w2 hw_w3
      refine k2V_v (q0 := 22) ⟨hx, hb, hml, hown, hts⟩ hK hP hD hS hA hX cv_RX2_70 hM ⟨by decide +kernel, by decide +kernel⟩ rfl rfl (Or.inl rfl) (rest := []) rfl rfl rfl hl.1 rfl (Nat.le_of_ble_eq_true rfl) dX2_refresh_113 ⟨Nat.le_of_ble_eq_true rfl, Nat.le_of_ble_eq_true rfl⟩ (fun t H1 locs_46 ht hB hS_46 hFc => ?_)
      obtain ⟨v29, v30, ai31, ⟨gpr28_0, gpr28_1, hI_47, hFr_r28⟩, hP_47, -, hD_47⟩ := hB
      have hF_48 := FR_tr hF hFr_r28 (by decide)
      rw [ht] at hP_47
      have hD_49 := hD_47.weaken (B := A) (fun k q _ h9 => hFc q.1 h9)
      clear ht
      generalize H1 = H_50 at hP_47 hS_46 ⊢
      refine lv_aload_n hx hb dX2_refresh_116 rfl (lv_at hl 0 rfl) ?_
      refine gf (k := 3) hx hb hts inX2 hown hK hP_47 k_178 rfl (by decide) rfl 11 rfl (.ref (ad 22)) rfl dX2_refresh_117 ?_
      refine lv_aload_n hx hb dX2_refresh_120 rfl (lv_at hl 0 rfl) ?_
      refine gf (k := 1) hx hb hts inX2 hown hK hP_47 k_176 rfl (by decide) rfl 11 rfl (.ref (ad 12)) rfl dX2_refresh_121 ?_
      have hM := m071_X5_giveTo l dC dI cI cJ cII cJJ H_50.size 0 ad f3_unknowns f3_equations f2_roundSupports f2_stale f7_size f1_size v29 v30 f0_solved f4_blockCount f4_blockLength f4_lastIsFree f4_stale ai31 al (ad 19) (ad 16) w2 w3 (by omega) (by omega) (by omega) (by omega) (by omega) (by omega) (by omega) (by omega) (by omega) (by omega) (by omega) hI_47 (RWX_19 ad) (RWX_16 ad) hw_w2 hw_w3
      refine k2V_v (q0 := 22) ⟨hx, hb, hml, hown, hts⟩ hK hP_47 hD_49 hS_46 hA hX cv_RX2_74 hM ⟨by decide +kernel, by decide +kernel⟩ rfl rfl (Or.inl rfl) (rest := []) rfl rfl rfl hl.1 rfl (Nat.le_of_ble_eq_true rfl) dX2_refresh_124 ⟨Nat.le_of_ble_eq_true rfl, Nat.le_of_ble_eq_true rfl⟩ (fun t H1 locs_51 ht hB hS_51 hFc => ?_)
      obtain ⟨v33, al34, ⟨gpr32_0, hGr_r32⟩, hP_52, -, hD_52⟩ := hB
      have hG_53 := FL_tr hG hGr_r32 (by decide)
      rw [ht] at hP_52
      have hD_54 := hD_52.weaken (B := A) (fun k q _ h9 => hFc q.1 h9)
      clear ht
      generalize H1 = H_55 at hP_52 hS_51 ⊢
      refine lv_aload_n hx hb dX2_refresh_127 rfl (lv_at hl 0 rfl) ?_
      refine gf (k := 1) hx hb hts inX2 hown hK hP_52 k_176 rfl (by decide) rfl 11 rfl (.ref (ad 12)) rfl dX2_refresh_128 ?_
      have hM := m064_X7_sort l dC dI cI cJ cII cJJ H_55.size g ad f3_unknowns f3_equations f2_roundSupports f2_stale v33 f1_size v29 v30 f0_solved f4_blockCount f4_blockLength f4_lastIsFree f4_stale ai31 al34 (ad 19) (ad 16) w2 w3 (by omega) (by omega) (by omega) (by omega) (by omega) (by omega) (by omega) (by omega) (by omega) (by omega) (by omega) hI_47 (RWX_19 ad) (RWX_16 ad) hw_w2 hw_w3
      refine k2V_v (q0 := 12) ⟨hx, hb, hml, hown, hts⟩ hK hP_52 hD_54 hS_51 hA hX cv_RX2_78 hM ⟨by decide +kernel, by decide +kernel⟩ rfl rfl (Or.inr ⟨rfl, rfl, rfl⟩) (rest := []) rfl rfl rfl hl.1 rfl (Nat.le_of_ble_eq_true rfl) dX2_refresh_131 ⟨Nat.le_of_ble_eq_true rfl, Nat.le_of_ble_eq_true rfl⟩ (fun t H1 locs_56 ht hB hS_56 hFc => ?_)
      obtain ⟨al36, hGr_r35, hP_57, -, hD_57⟩ := hB
      have hG_58 := FL_tr hG_53 hGr_r35 (by decide)
      rw [ht] at hP_57
      have hD_59 := hD_57.weaken (B := A) (fun k q _ h9 => hFc q.1 h9)
      clear ht
      generalize H1 = H_60 at hP_57 hS_56 ⊢
      exact m163_X2_refresh_b134 C  f2_roundSupports f2_stale v33 f1_size v29 v30 f0_solved ai31 al36 (ad 19) (ad 16) w2 w3 _ _ _ (by omega) (by omega) (by omega) (by omega) (by omega) (by omega) (by omega) (by omega) (by omega) (by omega) (by omega) hI_47 hF_48 hG_58 (RWX_19 ad) (RWX_16 ad) hw_w2 hw_w3 hP_57 hD_59 hS_56 (lv_sub hl [0] rfl)
  · skip
    rcases hw_w0 with rfl | rfl | rfl | rfl
    · skip
      have hM := m070_X5_walk l dC dI cI cJ cII cJJ H.size 0 ad f3_unknowns f3_equations f2_roundSupports f2_stale f7_size f1_size f5_keptSize f5_aheadSize f0_solved f4_blockCount f4_blockLength f4_lastIsFree f4_stale ai al (ad 16) (ad 17) w2 w3 L1 (by omega) (by omega) (by omega) (by omega) (by omega) (by omega) (by omega) (by omega) (by omega) (by omega) (by omega) (by omega) hI (RWX_16 ad) (RWX_17 ad) hw_w2 hw_w3
      refine k2V_v (q0 := 22) ⟨hx, hb, hml, hown, hts⟩ hK hP hD hS hA hX cv_RX2_70 hM ⟨by decide +kernel, by decide +kernel⟩ rfl rfl (Or.inl rfl) (rest := []) rfl rfl rfl hl.1 rfl (Nat.le_of_ble_eq_true rfl) dX2_refresh_113 ⟨Nat.le_of_ble_eq_true rfl, Nat.le_of_ble_eq_true rfl⟩ (fun t H1 locs_61 ht hB hS_61 hFc => ?_)
      obtain ⟨v38, v39, ai40, ⟨gpr37_0, gpr37_1, hI_62, hFr_r37⟩, hP_62, -, hD_62⟩ := hB
      have hF_63 := FR_tr hF hFr_r37 (by decide)
      rw [ht] at hP_62
      have hD_64 := hD_62.weaken (B := A) (fun k q _ h9 => hFc q.1 h9)
      clear ht
      generalize H1 = H_65 at hP_62 hS_61 ⊢
      refine lv_aload_n hx hb dX2_refresh_116 rfl (lv_at hl 0 rfl) ?_
      refine gf (k := 3) hx hb hts inX2 hown hK hP_62 k_178 rfl (by decide) rfl 11 rfl (.ref (ad 22)) rfl dX2_refresh_117 ?_
      refine lv_aload_n hx hb dX2_refresh_120 rfl (lv_at hl 0 rfl) ?_
      refine gf (k := 1) hx hb hts inX2 hown hK hP_62 k_176 rfl (by decide) rfl 11 rfl (.ref (ad 12)) rfl dX2_refresh_121 ?_
      have hM := m071_X5_giveTo l dC dI cI cJ cII cJJ H_65.size 0 ad f3_unknowns f3_equations f2_roundSupports f2_stale f7_size f1_size v38 v39 f0_solved f4_blockCount f4_blockLength f4_lastIsFree f4_stale ai40 al (ad 16) (ad 17) w2 w3 (by omega) (by omega) (by omega) (by omega) (by omega) (by omega) (by omega) (by omega) (by omega) (by omega) (by omega) hI_62 (RWX_16 ad) (RWX_17 ad) hw_w2 hw_w3
      refine k2V_v (q0 := 22) ⟨hx, hb, hml, hown, hts⟩ hK hP_62 hD_64 hS_61 hA hX cv_RX2_74 hM ⟨by decide +kernel, by decide +kernel⟩ rfl rfl (Or.inl rfl) (rest := []) rfl rfl rfl hl.1 rfl (Nat.le_of_ble_eq_true rfl) dX2_refresh_124 ⟨Nat.le_of_ble_eq_true rfl, Nat.le_of_ble_eq_true rfl⟩ (fun t H1 locs_66 ht hB hS_66 hFc => ?_)
      obtain ⟨v42, al43, ⟨gpr41_0, hGr_r41⟩, hP_67, -, hD_67⟩ := hB
      have hG_68 := FL_tr hG hGr_r41 (by decide)
      rw [ht] at hP_67
      have hD_69 := hD_67.weaken (B := A) (fun k q _ h9 => hFc q.1 h9)
      clear ht
      generalize H1 = H_70 at hP_67 hS_66 ⊢
      refine lv_aload_n hx hb dX2_refresh_127 rfl (lv_at hl 0 rfl) ?_
      refine gf (k := 1) hx hb hts inX2 hown hK hP_67 k_176 rfl (by decide) rfl 11 rfl (.ref (ad 12)) rfl dX2_refresh_128 ?_
      have hM := m064_X7_sort l dC dI cI cJ cII cJJ H_70.size g ad f3_unknowns f3_equations f2_roundSupports f2_stale v42 f1_size v38 v39 f0_solved f4_blockCount f4_blockLength f4_lastIsFree f4_stale ai40 al43 (ad 16) (ad 17) w2 w3 (by omega) (by omega) (by omega) (by omega) (by omega) (by omega) (by omega) (by omega) (by omega) (by omega) (by omega) hI_62 (RWX_16 ad) (RWX_17 ad) hw_w2 hw_w3
      refine k2V_v (q0 := 12) ⟨hx, hb, hml, hown, hts⟩ hK hP_67 hD_69 hS_66 hA hX cv_RX2_78 hM ⟨by decide +kernel, by decide +kernel⟩ rfl rfl (Or.inr ⟨rfl, rfl, rfl⟩) (rest := []) rfl rfl rfl hl.1 rfl (Nat.le_of_ble_eq_true rfl) dX2_refresh_131 ⟨Nat.le_of_ble_eq_true rfl, Nat.le_of_ble_eq_true rfl⟩ (fun t H1 locs_71 ht hB hS_71 hFc => ?_)
      obtain ⟨al45, hGr_r44, hP_72, -, hD_72⟩ := hB
      have hG_73 := FL_tr hG_68 hGr_r44 (by decide)
      rw [ht] at hP_72
      have hD_74 := hD_72.weaken (B := A) (fun k q _ h9 => hFc q.1 h9)
      clear ht
      generalize H1 = H_75 at hP_72 hS_71 ⊢
      exact m163_X2_refresh_b134 C  f2_roundSupports f2_stale v42 f1_size v38 v39 f0_solved ai40 al45 (ad 16) (ad 17) w2 w3 _ _ _ (by omega) (by omega) (by omega) (by omega) (by omega) (by omega) (by omega) (by omega) (by omega) (by omega) (by omega) hI_62 hF_63 hG_73 (RWX_16 ad) (RWX_17 ad) hw_w2 hw_w3 hP_72 hD_74 hS_71 (lv_sub hl [0] rfl)
    · skip
      have hM := m152_X5_walk l dC dI cI cJ cII cJJ H.size 0 ad f3_unknowns f3_equations f2_roundSupports f2_stale f7_size f1_size f5_keptSize f5_aheadSize f0_solved f4_blockCount f4_blockLength f4_lastIsFree f4_stale ai al (ad 17) (ad 17) w2 w3 L1 (by omega) (by omega) (by omega) (by omega) (by omega) (by omega) (by omega) (by omega) (by omega) (by omega) (by omega) (by omega) hI (RWX_17 ad) (RWX_17 ad) hw_w2 hw_w3
      refine k2V_v (q0 := 22) ⟨hx, hb, hml, hown, hts⟩ hK hP hD hS hA hX cv_RX2_70 hM ⟨by decide +kernel, by decide +kernel⟩ rfl rfl (Or.inl rfl) (rest := []) rfl rfl rfl hl.1 rfl (Nat.le_of_ble_eq_true rfl) dX2_refresh_113 ⟨Nat.le_of_ble_eq_true rfl, Nat.le_of_ble_eq_true rfl⟩ (fun t H1 locs_76 ht hB hS_76 hFc => ?_)
      obtain ⟨v47, v48, ai49, ⟨gpr46_0, gpr46_1, hI_77, hFr_r46⟩, hP_77, -, hD_77⟩ := hB
      have hF_78 := FR_tr hF hFr_r46 (by decide)
      rw [ht] at hP_77
      have hD_79 := hD_77.weaken (B := A) (fun k q _ h9 => hFc q.1 h9)
      clear ht
      generalize H1 = H_80 at hP_77 hS_76 ⊢
      refine lv_aload_n hx hb dX2_refresh_116 rfl (lv_at hl 0 rfl) ?_
      refine gf (k := 3) hx hb hts inX2 hown hK hP_77 k_178 rfl (by decide) rfl 11 rfl (.ref (ad 22)) rfl dX2_refresh_117 ?_
      refine lv_aload_n hx hb dX2_refresh_120 rfl (lv_at hl 0 rfl) ?_
      refine gf (k := 1) hx hb hts inX2 hown hK hP_77 k_176 rfl (by decide) rfl 11 rfl (.ref (ad 12)) rfl dX2_refresh_121 ?_
      have hM := m071_X5_giveTo l dC dI cI cJ cII cJJ H_80.size 0 ad f3_unknowns f3_equations f2_roundSupports f2_stale f7_size f1_size v47 v48 f0_solved f4_blockCount f4_blockLength f4_lastIsFree f4_stale ai49 al (ad 17) (ad 17) w2 w3 (by omega) (by omega) (by omega) (by omega) (by omega) (by omega) (by omega) (by omega) (by omega) (by omega) (by omega) hI_77 (RWX_17 ad) (RWX_17 ad) hw_w2 hw_w3
      refine k2V_v (q0 := 22) ⟨hx, hb, hml, hown, hts⟩ hK hP_77 hD_79 hS_76 hA hX cv_RX2_74 hM ⟨by decide +kernel, by decide +kernel⟩ rfl rfl (Or.inl rfl) (rest := []) rfl rfl rfl hl.1 rfl (Nat.le_of_ble_eq_true rfl) dX2_refresh_124 ⟨Nat.le_of_ble_eq_true rfl, Nat.le_of_ble_eq_true rfl⟩ (fun t H1 locs_81 ht hB hS_81 hFc => ?_)
      obtain ⟨v51, al52, ⟨gpr50_0, hGr_r50⟩, hP_82, -, hD_82⟩ := hB
      have hG_83 := FL_tr hG hGr_r50 (by decide)
      rw [ht] at hP_82
      have hD_84 := hD_82.weaken (B := A) (fun k q _ h9 => hFc q.1 h9)
      clear ht
      generalize H1 = H_85 at hP_82 hS_81 ⊢
      refine lv_aload_n hx hb dX2_refresh_127 rfl (lv_at hl 0 rfl) ?_
      refine gf (k := 1) hx hb hts inX2 hown hK hP_82 k_176 rfl (by decide) rfl 11 rfl (.ref (ad 12)) rfl dX2_refresh_128 ?_
      have hM := m064_X7_sort l dC dI cI cJ cII cJJ H_85.size g ad f3_unknowns f3_equations f2_roundSupports f2_stale v51 f1_size v47 v48 f0_solved f4_blockCount f4_blockLength f4_lastIsFree f4_stale ai49 al52 (ad 17) (ad 17) w2 w3 (by omega) (by omega) (by omega) (by omega) (by omega) (by omega) (by omega) (by omega) (by omega) (by omega) (by omega) hI_77 (RWX_17 ad) (RWX_17 ad) hw_w2 hw_w3
      refine k2V_v (q0 := 12) ⟨hx, hb, hml, hown, hts⟩ hK hP_82 hD_84 hS_81 hA hX cv_RX2_78 hM ⟨by decide +kernel, by decide +kernel⟩ rfl rfl (Or.inr ⟨rfl, rfl, rfl⟩) (rest := []) rfl rfl rfl hl.1 rfl (Nat.le_of_ble_eq_true rfl) dX2_refresh_131 ⟨Nat.le_of_ble_eq_true rfl, Nat.le_of_ble_eq_true rfl⟩ (fun t H1 locs_86 ht hB hS_86 hFc => ?_)
      obtain ⟨al54, hGr_r53, hP_87, -, hD_87⟩ := hB
      have hG_88 := FL_tr hG_83 hGr_r53 (by decide)
      rw [ht] at hP_87
      have hD_89 := hD_87.weaken (B := A) (fun k q _ h9 => hFc q.1 h9)
      clear ht
      generalize H1 = H_90 at hP_87 hS_86 ⊢
      exact m163_X2_refresh_b134 C  f2_roundSupports f2_stale v51 f1_size v47 v48 f0_solved ai49 al54 (ad 17) (ad 17) w2 w3 _ _ _ (by omega) (by omega) (by omega) (by omega) (by omega) (by omega) (by omega) (by omega) (by omega) (by omega) (by omega) hI_77 hF_78 hG_88 (RWX_17 ad) (RWX_17 ad) hw_w2 hw_w3 hP_87 hD_89 hS_86 (lv_sub hl [0] rfl)
    · skip
      have hM := m153_X5_walk l dC dI cI cJ cII cJJ H.size 0 ad f3_unknowns f3_equations f2_roundSupports f2_stale f7_size f1_size f5_keptSize f5_aheadSize f0_solved f4_blockCount f4_blockLength f4_lastIsFree f4_stale ai al (ad 18) (ad 17) w2 w3 L1 (by omega) (by omega) (by omega) (by omega) (by omega) (by omega) (by omega) (by omega) (by omega) (by omega) (by omega) (by omega) hI (RWX_18 ad) (RWX_17 ad) hw_w2 hw_w3
      refine k2V_v (q0 := 22) ⟨hx, hb, hml, hown, hts⟩ hK hP hD hS hA hX cv_RX2_70 hM ⟨by decide +kernel, by decide +kernel⟩ rfl rfl (Or.inl rfl) (rest := []) rfl rfl rfl hl.1 rfl (Nat.le_of_ble_eq_true rfl) dX2_refresh_113 ⟨Nat.le_of_ble_eq_true rfl, Nat.le_of_ble_eq_true rfl⟩ (fun t H1 locs_91 ht hB hS_91 hFc => ?_)
      obtain ⟨v56, v57, ai58, ⟨gpr55_0, gpr55_1, hI_92, hFr_r55⟩, hP_92, -, hD_92⟩ := hB
      have hF_93 := FR_tr hF hFr_r55 (by decide)
      rw [ht] at hP_92
      have hD_94 := hD_92.weaken (B := A) (fun k q _ h9 => hFc q.1 h9)
      clear ht
      generalize H1 = H_95 at hP_92 hS_91 ⊢
      refine lv_aload_n hx hb dX2_refresh_116 rfl (lv_at hl 0 rfl) ?_
      refine gf (k := 3) hx hb hts inX2 hown hK hP_92 k_178 rfl (by decide) rfl 11 rfl (.ref (ad 22)) rfl dX2_refresh_117 ?_
      refine lv_aload_n hx hb dX2_refresh_120 rfl (lv_at hl 0 rfl) ?_
      refine gf (k := 1) hx hb hts inX2 hown hK hP_92 k_176 rfl (by decide) rfl 11 rfl (.ref (ad 12)) rfl dX2_refresh_121 ?_
      have hM := m071_X5_giveTo l dC dI cI cJ cII cJJ H_95.size 0 ad f3_unknowns f3_equations f2_roundSupports f2_stale f7_size f1_size v56 v57 f0_solved f4_blockCount f4_blockLength f4_lastIsFree f4_stale ai58 al (ad 18) (ad 17) w2 w3 (by omega) (by omega) (by omega) (by omega) (by omega) (by omega) (by omega) (by omega) (by omega) (by omega) (by omega) hI_92 (RWX_18 ad) (RWX_17 ad) hw_w2 hw_w3
      refine k2V_v (q0 := 22) ⟨hx, hb, hml, hown, hts⟩ hK hP_92 hD_94 hS_91 hA hX cv_RX2_74 hM ⟨by decide +kernel, by decide +kernel⟩ rfl rfl (Or.inl rfl) (rest := []) rfl rfl rfl hl.1 rfl (Nat.le_of_ble_eq_true rfl) dX2_refresh_124 ⟨Nat.le_of_ble_eq_true rfl, Nat.le_of_ble_eq_true rfl⟩ (fun t H1 locs_96 ht hB hS_96 hFc => ?_)
      obtain ⟨v60, al61, ⟨gpr59_0, hGr_r59⟩, hP_97, -, hD_97⟩ := hB
      have hG_98 := FL_tr hG hGr_r59 (by decide)
      rw [ht] at hP_97
      have hD_99 := hD_97.weaken (B := A) (fun k q _ h9 => hFc q.1 h9)
      clear ht
      generalize H1 = H_100 at hP_97 hS_96 ⊢
      refine lv_aload_n hx hb dX2_refresh_127 rfl (lv_at hl 0 rfl) ?_
      refine gf (k := 1) hx hb hts inX2 hown hK hP_97 k_176 rfl (by decide) rfl 11 rfl (.ref (ad 12)) rfl dX2_refresh_128 ?_
      have hM := m064_X7_sort l dC dI cI cJ cII cJJ H_100.size g ad f3_unknowns f3_equations f2_roundSupports f2_stale v60 f1_size v56 v57 f0_solved f4_blockCount f4_blockLength f4_lastIsFree f4_stale ai58 al61 (ad 18) (ad 17) w2 w3 (by omega) (by omega) (by omega) (by omega) (by omega) (by omega) (by omega) (by omega) (by omega) (by omega) (by omega) hI_92 (RWX_18 ad) (RWX_17 ad) hw_w2 hw_w3
      refine k2V_v (q0 := 12) ⟨hx, hb, hml, hown, hts⟩ hK hP_97 hD_99 hS_96 hA hX cv_RX2_78 hM ⟨by decide +kernel, by decide +kernel⟩ rfl rfl (Or.inr ⟨rfl, rfl, rfl⟩) (rest := []) rfl rfl rfl hl.1 rfl (Nat.le_of_ble_eq_true rfl) dX2_refresh_131 ⟨Nat.le_of_ble_eq_true rfl, Nat.le_of_ble_eq_true rfl⟩ (fun t H1 locs_101 ht hB hS_101 hFc => ?_)
      obtain ⟨al63, hGr_r62, hP_102, -, hD_102⟩ := hB
      have hG_103 := FL_tr hG_98 hGr_r62 (by decide)
      rw [ht] at hP_102
      have hD_104 := hD_102.weaken (B := A) (fun k q _ h9 => hFc q.1 h9)
      clear ht
      generalize H1 = H_105 at hP_102 hS_101 ⊢
      exact m163_X2_refresh_b134 C  f2_roundSupports f2_stale v60 f1_size v56 v57 f0_solved ai58 al63 (ad 18) (ad 17) w2 w3 _ _ _ (by omega) (by omega) (by omega) (by omega) (by omega) (by omega) (by omega) (by omega) (by omega) (by omega) (by omega) hI_92 hF_93 hG_103 (RWX_18 ad) (RWX_17 ad) hw_w2 hw_w3 hP_102 hD_104 hS_101 (lv_sub hl [0] rfl)
    · skip
      have hM := m154_X5_walk l dC dI cI cJ cII cJJ H.size 0 ad f3_unknowns f3_equations f2_roundSupports f2_stale f7_size f1_size f5_keptSize f5_aheadSize f0_solved f4_blockCount f4_blockLength f4_lastIsFree f4_stale ai al (ad 19) (ad 17) w2 w3 L1 (by omega) (by omega) (by omega) (by omega) (by omega) (by omega) (by omega) (by omega) (by omega) (by omega) (by omega) (by omega) hI (RWX_19 ad) (RWX_17 ad) hw_w2 hw_w3
      refine k2V_v (q0 := 22) ⟨hx, hb, hml, hown, hts⟩ hK hP hD hS hA hX cv_RX2_70 hM ⟨by decide +kernel, by decide +kernel⟩ rfl rfl (Or.inl rfl) (rest := []) rfl rfl rfl hl.1 rfl (Nat.le_of_ble_eq_true rfl) dX2_refresh_113 ⟨Nat.le_of_ble_eq_true rfl, Nat.le_of_ble_eq_true rfl⟩ (fun t H1 locs_106 ht hB hS_106 hFc => ?_)
      obtain ⟨v65, v66, ai67, ⟨gpr64_0, gpr64_1, hI_107, hFr_r64⟩, hP_107, -, hD_107⟩ := hB
      have hF_108 := FR_tr hF hFr_r64 (by decide)
      rw [ht] at hP_107
      have hD_109 := hD_107.weaken (B := A) (fun k q _ h9 => hFc q.1 h9)
      clear ht
      generalize H1 = H_110 at hP_107 hS_106 ⊢
      refine lv_aload_n hx hb dX2_refresh_116 rfl (lv_at hl 0 rfl) ?_
      refine gf (k := 3) hx hb hts inX2 hown hK hP_107 k_178 rfl (by decide) rfl 11 rfl (.ref (ad 22)) rfl dX2_refresh_117 ?_
      refine lv_aload_n hx hb dX2_refresh_120 rfl (lv_at hl 0 rfl) ?_
      refine gf (k := 1) hx hb hts inX2 hown hK hP_107 k_176 rfl (by decide) rfl 11 rfl (.ref (ad 12)) rfl dX2_refresh_121 ?_
      have hM := m071_X5_giveTo l dC dI cI cJ cII cJJ H_110.size 0 ad f3_unknowns f3_equations f2_roundSupports f2_stale f7_size f1_size v65 v66 f0_solved f4_blockCount f4_blockLength f4_lastIsFree f4_stale ai67 al (ad 19) (ad 17) w2 w3 (by omega) (by omega) (by omega) (by omega) (by omega) (by omega) (by omega) (by omega) (by omega) (by omega) (by omega) hI_107 (RWX_19 ad) (RWX_17 ad) hw_w2 hw_w3
      refine k2V_v (q0 := 22) ⟨hx, hb, hml, hown, hts⟩ hK hP_107 hD_109 hS_106 hA hX cv_RX2_74 hM ⟨by decide +kernel, by decide +kernel⟩ rfl rfl (Or.inl rfl) (rest := []) rfl rfl rfl hl.1 rfl (Nat.le_of_ble_eq_true rfl) dX2_refresh_124 ⟨Nat.le_of_ble_eq_true rfl, Nat.le_of_ble_eq_true rfl⟩ (fun t H1 locs_111 ht hB hS_111 hFc => ?_)
      obtain ⟨v69, al70, ⟨gpr68_0, hGr_r68⟩, hP_112, -, hD_112⟩ := hB
      have hG_113 := FL_tr hG hGr_r68 (by decide)
      rw [ht] at hP_112
      have hD_114 := hD_112.weaken (B := A) (fun k q _ h9 => hFc q.1 h9)
      clear ht
      generalize H1 = H_115 at hP_112 hS_111 ⊢
      refine lv_aload_n hx hb dX2_refresh_127 rfl (lv_at hl 0 rfl) ?_
      refine gf (k := 1) hx hb hts inX2 hown hK hP_112 k_176 rfl (by decide) rfl 11 rfl (.ref (ad 12)) rfl dX2_refresh_128 ?_
      have hM := m064_X7_sort l dC dI cI cJ cII cJJ H_115.size g ad f3_unknowns f3_equations f2_roundSupports f2_stale v69 f1_size v65 v66 f0_solved f4_blockCount f4_blockLength f4_lastIsFree f4_stale ai67 al70 (ad 19) (ad 17) w2 w3 (by omega) (by omega) (by omega) (by omega) (by omega) (by omega) (by omega) (by omega) (by omega) (by omega) (by omega) hI_107 (RWX_19 ad) (RWX_17 ad) hw_w2 hw_w3
      refine k2V_v (q0 := 12) ⟨hx, hb, hml, hown, hts⟩ hK hP_112 hD_114 hS_111 hA hX cv_RX2_78 hM ⟨by decide +kernel, by decide +kernel⟩ rfl rfl (Or.inr ⟨rfl, rfl, rfl⟩) (rest := []) rfl rfl rfl hl.1 rfl (Nat.le_of_ble_eq_true rfl) dX2_refresh_131 ⟨Nat.le_of_ble_eq_true rfl, Nat.le_of_ble_eq_true rfl⟩ (fun t H1 locs_116 ht hB hS_116 hFc => ?_)
      obtain ⟨al72, hGr_r71, hP_117, -, hD_117⟩ := hB
      have hG_118 := FL_tr hG_113 hGr_r71 (by decide)
      rw [ht] at hP_117
      have hD_119 := hD_117.weaken (B := A) (fun k q _ h9 => hFc q.1 h9)
      clear ht
      generalize H1 = H_120 at hP_117 hS_116 ⊢
      exact m163_X2_refresh_b134 C  f2_roundSupports f2_stale v69 f1_size v65 v66 f0_solved ai67 al72 (ad 19) (ad 17) w2 w3 _ _ _ (by omega) (by omega) (by omega) (by omega) (by omega) (by omega) (by omega) (by omega) (by omega) (by omega) (by omega) hI_107 hF_108 hG_118 (RWX_19 ad) (RWX_17 ad) hw_w2 hw_w3 hP_117 hD_119 hS_116 (lv_sub hl [0] rfl)
  · skip
    rcases hw_w0 with rfl | rfl | rfl | rfl
    · skip
      have hM := m155_X5_walk l dC dI cI cJ cII cJJ H.size 0 ad f3_unknowns f3_equations f2_roundSupports f2_stale f7_size f1_size f5_keptSize f5_aheadSize f0_solved f4_blockCount f4_blockLength f4_lastIsFree f4_stale ai al (ad 16) (ad 18) w2 w3 L1 (by omega) (by omega) (by omega) (by omega) (by omega) (by omega) (by omega) (by omega) (by omega) (by omega) (by omega) (by omega) hI (RWX_16 ad) (RWX_18 ad) hw_w2 hw_w3
      refine k2V_v (q0 := 22) ⟨hx, hb, hml, hown, hts⟩ hK hP hD hS hA hX cv_RX2_70 hM ⟨by decide +kernel, by decide +kernel⟩ rfl rfl (Or.inl rfl) (rest := []) rfl rfl rfl hl.1 rfl (Nat.le_of_ble_eq_true rfl) dX2_refresh_113 ⟨Nat.le_of_ble_eq_true rfl, Nat.le_of_ble_eq_true rfl⟩ (fun t H1 locs_121 ht hB hS_121 hFc => ?_)
      obtain ⟨v74, v75, ai76, ⟨gpr73_0, gpr73_1, hI_122, hFr_r73⟩, hP_122, -, hD_122⟩ := hB
      have hF_123 := FR_tr hF hFr_r73 (by decide)
      rw [ht] at hP_122
      have hD_124 := hD_122.weaken (B := A) (fun k q _ h9 => hFc q.1 h9)
      clear ht
      generalize H1 = H_125 at hP_122 hS_121 ⊢
      refine lv_aload_n hx hb dX2_refresh_116 rfl (lv_at hl 0 rfl) ?_
      refine gf (k := 3) hx hb hts inX2 hown hK hP_122 k_178 rfl (by decide) rfl 11 rfl (.ref (ad 22)) rfl dX2_refresh_117 ?_
      refine lv_aload_n hx hb dX2_refresh_120 rfl (lv_at hl 0 rfl) ?_
      refine gf (k := 1) hx hb hts inX2 hown hK hP_122 k_176 rfl (by decide) rfl 11 rfl (.ref (ad 12)) rfl dX2_refresh_121 ?_
      have hM := m071_X5_giveTo l dC dI cI cJ cII cJJ H_125.size 0 ad f3_unknowns f3_equations f2_roundSupports f2_stale f7_size f1_size v74 v75 f0_solved f4_blockCount f4_blockLength f4_lastIsFree f4_stale ai76 al (ad 16) (ad 18) w2 w3 (by omega) (by omega) (by omega) (by omega) (by omega) (by omega) (by omega) (by omega) (by omega) (by omega) (by omega) hI_122 (RWX_16 ad) (RWX_18 ad) hw_w2 hw_w3
      refine k2V_v (q0 := 22) ⟨hx, hb, hml, hown, hts⟩ hK hP_122 hD_124 hS_121 hA hX cv_RX2_74 hM ⟨by decide +kernel, by decide +kernel⟩ rfl rfl (Or.inl rfl) (rest := []) rfl rfl rfl hl.1 rfl (Nat.le_of_ble_eq_true rfl) dX2_refresh_124 ⟨Nat.le_of_ble_eq_true rfl, Nat.le_of_ble_eq_true rfl⟩ (fun t H1 locs_126 ht hB hS_126 hFc => ?_)
      obtain ⟨v78, al79, ⟨gpr77_0, hGr_r77⟩, hP_127, -, hD_127⟩ := hB
      have hG_128 := FL_tr hG hGr_r77 (by decide)
      rw [ht] at hP_127
      have hD_129 := hD_127.weaken (B := A) (fun k q _ h9 => hFc q.1 h9)
      clear ht
      generalize H1 = H_130 at hP_127 hS_126 ⊢
      refine lv_aload_n hx hb dX2_refresh_127 rfl (lv_at hl 0 rfl) ?_
      refine gf (k := 1) hx hb hts inX2 hown hK hP_127 k_176 rfl (by decide) rfl 11 rfl (.ref (ad 12)) rfl dX2_refresh_128 ?_
      have hM := m064_X7_sort l dC dI cI cJ cII cJJ H_130.size g ad f3_unknowns f3_equations f2_roundSupports f2_stale v78 f1_size v74 v75 f0_solved f4_blockCount f4_blockLength f4_lastIsFree f4_stale ai76 al79 (ad 16) (ad 18) w2 w3 (by omega) (by omega) (by omega) (by omega) (by omega) (by omega) (by omega) (by omega) (by omega) (by omega) (by omega) hI_122 (RWX_16 ad) (RWX_18 ad) hw_w2 hw_w3
      refine k2V_v (q0 := 12) ⟨hx, hb, hml, hown, hts⟩ hK hP_127 hD_129 hS_126 hA hX cv_RX2_78 hM ⟨by decide +kernel, by decide +kernel⟩ rfl rfl (Or.inr ⟨rfl, rfl, rfl⟩) (rest := []) rfl rfl rfl hl.1 rfl (Nat.le_of_ble_eq_true rfl) dX2_refresh_131 ⟨Nat.le_of_ble_eq_true rfl, Nat.le_of_ble_eq_true rfl⟩ (fun t H1 locs_131 ht hB hS_131 hFc => ?_)
      obtain ⟨al81, hGr_r80, hP_132, -, hD_132⟩ := hB
      have hG_133 := FL_tr hG_128 hGr_r80 (by decide)
      rw [ht] at hP_132
      have hD_134 := hD_132.weaken (B := A) (fun k q _ h9 => hFc q.1 h9)
      clear ht
      generalize H1 = H_135 at hP_132 hS_131 ⊢
      exact m163_X2_refresh_b134 C  f2_roundSupports f2_stale v78 f1_size v74 v75 f0_solved ai76 al81 (ad 16) (ad 18) w2 w3 _ _ _ (by omega) (by omega) (by omega) (by omega) (by omega) (by omega) (by omega) (by omega) (by omega) (by omega) (by omega) hI_122 hF_123 hG_133 (RWX_16 ad) (RWX_18 ad) hw_w2 hw_w3 hP_132 hD_134 hS_131 (lv_sub hl [0] rfl)
    · skip
      have hM := m156_X5_walk l dC dI cI cJ cII cJJ H.size 0 ad f3_unknowns f3_equations f2_roundSupports f2_stale f7_size f1_size f5_keptSize f5_aheadSize f0_solved f4_blockCount f4_blockLength f4_lastIsFree f4_stale ai al (ad 17) (ad 18) w2 w3 L1 (by omega) (by omega) (by omega) (by omega) (by omega) (by omega) (by omega) (by omega) (by omega) (by omega) (by omega) (by omega) hI (RWX_17 ad) (RWX_18 ad) hw_w2 hw_w3
      refine k2V_v (q0 := 22) ⟨hx, hb, hml, hown, hts⟩ hK hP hD hS hA hX cv_RX2_70 hM ⟨by decide +kernel, by decide +kernel⟩ rfl rfl (Or.inl rfl) (rest := []) rfl rfl rfl hl.1 rfl (Nat.le_of_ble_eq_true rfl) dX2_refresh_113 ⟨Nat.le_of_ble_eq_true rfl, Nat.le_of_ble_eq_true rfl⟩ (fun t H1 locs_136 ht hB hS_136 hFc => ?_)
      obtain ⟨v83, v84, ai85, ⟨gpr82_0, gpr82_1, hI_137, hFr_r82⟩, hP_137, -, hD_137⟩ := hB
      have hF_138 := FR_tr hF hFr_r82 (by decide)
      rw [ht] at hP_137
      have hD_139 := hD_137.weaken (B := A) (fun k q _ h9 => hFc q.1 h9)
      clear ht
      generalize H1 = H_140 at hP_137 hS_136 ⊢
      refine lv_aload_n hx hb dX2_refresh_116 rfl (lv_at hl 0 rfl) ?_
      refine gf (k := 3) hx hb hts inX2 hown hK hP_137 k_178 rfl (by decide) rfl 11 rfl (.ref (ad 22)) rfl dX2_refresh_117 ?_
      refine lv_aload_n hx hb dX2_refresh_120 rfl (lv_at hl 0 rfl) ?_
      refine gf (k := 1) hx hb hts inX2 hown hK hP_137 k_176 rfl (by decide) rfl 11 rfl (.ref (ad 12)) rfl dX2_refresh_121 ?_
      have hM := m071_X5_giveTo l dC dI cI cJ cII cJJ H_140.size 0 ad f3_unknowns f3_equations f2_roundSupports f2_stale f7_size f1_size v83 v84 f0_solved f4_blockCount f4_blockLength f4_lastIsFree f4_stale ai85 al (ad 17) (ad 18) w2 w3 (by omega) (by omega) (by omega) (by omega) (by omega) (by omega) (by omega) (by omega) (by omega) (by omega) (by omega) hI_137 (RWX_17 ad) (RWX_18 ad) hw_w2 hw_w3
      refine k2V_v (q0 := 22) ⟨hx, hb, hml, hown, hts⟩ hK hP_137 hD_139 hS_136 hA hX cv_RX2_74 hM ⟨by decide +kernel, by decide +kernel⟩ rfl rfl (Or.inl rfl) (rest := []) rfl rfl rfl hl.1 rfl (Nat.le_of_ble_eq_true rfl) dX2_refresh_124 ⟨Nat.le_of_ble_eq_true rfl, Nat.le_of_ble_eq_true rfl⟩ (fun t H1 locs_141 ht hB hS_141 hFc => ?_)
      obtain ⟨v87, al88, ⟨gpr86_0, hGr_r86⟩, hP_142, -, hD_142⟩ := hB
      have hG_143 := FL_tr hG hGr_r86 (by decide)
      rw [ht] at hP_142
      have hD_144 := hD_142.weaken (B := A) (fun k q _ h9 => hFc q.1 h9)
      clear ht
      generalize H1 = H_145 at hP_142 hS_141 ⊢
      refine lv_aload_n hx hb dX2_refresh_127 rfl (lv_at hl 0 rfl) ?_
      refine gf (k := 1) hx hb hts inX2 hown hK hP_142 k_176 rfl (by decide) rfl 11 rfl (.ref (ad 12)) rfl dX2_refresh_128 ?_
      have hM := m064_X7_sort l dC dI cI cJ cII cJJ H_145.size g ad f3_unknowns f3_equations f2_roundSupports f2_stale v87 f1_size v83 v84 f0_solved f4_blockCount f4_blockLength f4_lastIsFree f4_stale ai85 al88 (ad 17) (ad 18) w2 w3 (by omega) (by omega) (by omega) (by omega) (by omega) (by omega) (by omega) (by omega) (by omega) (by omega) (by omega) hI_137 (RWX_17 ad) (RWX_18 ad) hw_w2 hw_w3
      refine k2V_v (q0 := 12) ⟨hx, hb, hml, hown, hts⟩ hK hP_142 hD_144 hS_141 hA hX cv_RX2_78 hM ⟨by decide +kernel, by decide +kernel⟩ rfl rfl (Or.inr ⟨rfl, rfl, rfl⟩) (rest := []) rfl rfl rfl hl.1 rfl (Nat.le_of_ble_eq_true rfl) dX2_refresh_131 ⟨Nat.le_of_ble_eq_true rfl, Nat.le_of_ble_eq_true rfl⟩ (fun t H1 locs_146 ht hB hS_146 hFc => ?_)
      obtain ⟨al90, hGr_r89, hP_147, -, hD_147⟩ := hB
      have hG_148 := FL_tr hG_143 hGr_r89 (by decide)
      rw [ht] at hP_147
      have hD_149 := hD_147.weaken (B := A) (fun k q _ h9 => hFc q.1 h9)
      clear ht
      generalize H1 = H_150 at hP_147 hS_146 ⊢
      exact m163_X2_refresh_b134 C  f2_roundSupports f2_stale v87 f1_size v83 v84 f0_solved ai85 al90 (ad 17) (ad 18) w2 w3 _ _ _ (by omega) (by omega) (by omega) (by omega) (by omega) (by omega) (by omega) (by omega) (by omega) (by omega) (by omega) hI_137 hF_138 hG_148 (RWX_17 ad) (RWX_18 ad) hw_w2 hw_w3 hP_147 hD_149 hS_146 (lv_sub hl [0] rfl)
    · skip
      have hM := m157_X5_walk l dC dI cI cJ cII cJJ H.size 0 ad f3_unknowns f3_equations f2_roundSupports f2_stale f7_size f1_size f5_keptSize f5_aheadSize f0_solved f4_blockCount f4_blockLength f4_lastIsFree f4_stale ai al (ad 18) (ad 18) w2 w3 L1 (by omega) (by omega) (by omega) (by omega) (by omega) (by omega) (by omega) (by omega) (by omega) (by omega) (by omega) (by omega) hI (RWX_18 ad) (RWX_18 ad) hw_w2 hw_w3
      refine k2V_v (q0 := 22) ⟨hx, hb, hml, hown, hts⟩ hK hP hD hS hA hX cv_RX2_70 hM ⟨by decide +kernel, by decide +kernel⟩ rfl rfl (Or.inl rfl) (rest := []) rfl rfl rfl hl.1 rfl (Nat.le_of_ble_eq_true rfl) dX2_refresh_113 ⟨Nat.le_of_ble_eq_true rfl, Nat.le_of_ble_eq_true rfl⟩ (fun t H1 locs_151 ht hB hS_151 hFc => ?_)
      obtain ⟨v92, v93, ai94, ⟨gpr91_0, gpr91_1, hI_152, hFr_r91⟩, hP_152, -, hD_152⟩ := hB
      have hF_153 := FR_tr hF hFr_r91 (by decide)
      rw [ht] at hP_152
      have hD_154 := hD_152.weaken (B := A) (fun k q _ h9 => hFc q.1 h9)
      clear ht
      generalize H1 = H_155 at hP_152 hS_151 ⊢
      refine lv_aload_n hx hb dX2_refresh_116 rfl (lv_at hl 0 rfl) ?_
      refine gf (k := 3) hx hb hts inX2 hown hK hP_152 k_178 rfl (by decide) rfl 11 rfl (.ref (ad 22)) rfl dX2_refresh_117 ?_
      refine lv_aload_n hx hb dX2_refresh_120 rfl (lv_at hl 0 rfl) ?_
      refine gf (k := 1) hx hb hts inX2 hown hK hP_152 k_176 rfl (by decide) rfl 11 rfl (.ref (ad 12)) rfl dX2_refresh_121 ?_
      have hM := m071_X5_giveTo l dC dI cI cJ cII cJJ H_155.size 0 ad f3_unknowns f3_equations f2_roundSupports f2_stale f7_size f1_size v92 v93 f0_solved f4_blockCount f4_blockLength f4_lastIsFree f4_stale ai94 al (ad 18) (ad 18) w2 w3 (by omega) (by omega) (by omega) (by omega) (by omega) (by omega) (by omega) (by omega) (by omega) (by omega) (by omega) hI_152 (RWX_18 ad) (RWX_18 ad) hw_w2 hw_w3
      refine k2V_v (q0 := 22) ⟨hx, hb, hml, hown, hts⟩ hK hP_152 hD_154 hS_151 hA hX cv_RX2_74 hM ⟨by decide +kernel, by decide +kernel⟩ rfl rfl (Or.inl rfl) (rest := []) rfl rfl rfl hl.1 rfl (Nat.le_of_ble_eq_true rfl) dX2_refresh_124 ⟨Nat.le_of_ble_eq_true rfl, Nat.le_of_ble_eq_true rfl⟩ (fun t H1 locs_156 ht hB hS_156 hFc => ?_)
      obtain ⟨v96, al97, ⟨gpr95_0, hGr_r95⟩, hP_157, -, hD_157⟩ := hB
      have hG_158 := FL_tr hG hGr_r95 (by decide)
      rw [ht] at hP_157
      have hD_159 := hD_157.weaken (B := A) (fun k q _ h9 => hFc q.1 h9)
      clear ht
      generalize H1 = H_160 at hP_157 hS_156 ⊢
      refine lv_aload_n hx hb dX2_refresh_127 rfl (lv_at hl 0 rfl) ?_
      refine gf (k := 1) hx hb hts inX2 hown hK hP_157 k_176 rfl (by decide) rfl 11 rfl (.ref (ad 12)) rfl dX2_refresh_128 ?_
      have hM := m064_X7_sort l dC dI cI cJ cII cJJ H_160.size g ad f3_unknowns f3_equations f2_roundSupports f2_stale v96 f1_size v92 v93 f0_solved f4_blockCount f4_blockLength f4_lastIsFree f4_stale ai94 al97 (ad 18) (ad 18) w2 w3 (by omega) (by omega) (by omega) (by omega) (by omega) (by omega) (by omega) (by omega) (by omega) (by omega) (by omega) hI_152 (RWX_18 ad) (RWX_18 ad) hw_w2 hw_w3
      refine k2V_v (q0 := 12) ⟨hx, hb, hml, hown, hts⟩ hK hP_157 hD_159 hS_156 hA hX cv_RX2_78 hM ⟨by decide +kernel, by decide +kernel⟩ rfl rfl (Or.inr ⟨rfl, rfl, rfl⟩) (rest := []) rfl rfl rfl hl.1 rfl (Nat.le_of_ble_eq_true rfl) dX2_refresh_131 ⟨Nat.le_of_ble_eq_true rfl, Nat.le_of_ble_eq_true rfl⟩ (fun t H1 locs_161 ht hB hS_161 hFc => ?_)
      obtain ⟨al99, hGr_r98, hP_162, -, hD_162⟩ := hB
      have hG_163 := FL_tr hG_158 hGr_r98 (by decide)
      rw [ht] at hP_162
      have hD_164 := hD_162.weaken (B := A) (fun k q _ h9 => hFc q.1 h9)
      clear ht
      generalize H1 = H_165 at hP_162 hS_161 ⊢
      exact m163_X2_refresh_b134 C  f2_roundSupports f2_stale v96 f1_size v92 v93 f0_solved ai94 al99 (ad 18) (ad 18) w2 w3 _ _ _ (by omega) (by omega) (by omega) (by omega) (by omega) (by omega) (by omega) (by omega) (by omega) (by omega) (by omega) hI_152 hF_153 hG_163 (RWX_18 ad) (RWX_18 ad) hw_w2 hw_w3 hP_162 hD_164 hS_161 (lv_sub hl [0] rfl)
    · skip
      have hM := m158_X5_walk l dC dI cI cJ cII cJJ H.size 0 ad f3_unknowns f3_equations f2_roundSupports f2_stale f7_size f1_size f5_keptSize f5_aheadSize f0_solved f4_blockCount f4_blockLength f4_lastIsFree f4_stale ai al (ad 19) (ad 18) w2 w3 L1 (by omega) (by omega) (by omega) (by omega) (by omega) (by omega) (by omega) (by omega) (by omega) (by omega) (by omega) (by omega) hI (RWX_19 ad) (RWX_18 ad) hw_w2 hw_w3
      refine k2V_v (q0 := 22) ⟨hx, hb, hml, hown, hts⟩ hK hP hD hS hA hX cv_RX2_70 hM ⟨by decide +kernel, by decide +kernel⟩ rfl rfl (Or.inl rfl) (rest := []) rfl rfl rfl hl.1 rfl (Nat.le_of_ble_eq_true rfl) dX2_refresh_113 ⟨Nat.le_of_ble_eq_true rfl, Nat.le_of_ble_eq_true rfl⟩ (fun t H1 locs_166 ht hB hS_166 hFc => ?_)
      obtain ⟨v101, v102, ai103, ⟨gpr100_0, gpr100_1, hI_167, hFr_r100⟩, hP_167, -, hD_167⟩ := hB
      have hF_168 := FR_tr hF hFr_r100 (by decide)
      rw [ht] at hP_167
      have hD_169 := hD_167.weaken (B := A) (fun k q _ h9 => hFc q.1 h9)
      clear ht
      generalize H1 = H_170 at hP_167 hS_166 ⊢
      refine lv_aload_n hx hb dX2_refresh_116 rfl (lv_at hl 0 rfl) ?_
      refine gf (k := 3) hx hb hts inX2 hown hK hP_167 k_178 rfl (by decide) rfl 11 rfl (.ref (ad 22)) rfl dX2_refresh_117 ?_
      refine lv_aload_n hx hb dX2_refresh_120 rfl (lv_at hl 0 rfl) ?_
      refine gf (k := 1) hx hb hts inX2 hown hK hP_167 k_176 rfl (by decide) rfl 11 rfl (.ref (ad 12)) rfl dX2_refresh_121 ?_
      have hM := m071_X5_giveTo l dC dI cI cJ cII cJJ H_170.size 0 ad f3_unknowns f3_equations f2_roundSupports f2_stale f7_size f1_size v101 v102 f0_solved f4_blockCount f4_blockLength f4_lastIsFree f4_stale ai103 al (ad 19) (ad 18) w2 w3 (by omega) (by omega) (by omega) (by omega) (by omega) (by omega) (by omega) (by omega) (by omega) (by omega) (by omega) hI_167 (RWX_19 ad) (RWX_18 ad) hw_w2 hw_w3
      refine k2V_v (q0 := 22) ⟨hx, hb, hml, hown, hts⟩ hK hP_167 hD_169 hS_166 hA hX cv_RX2_74 hM ⟨by decide +kernel, by decide +kernel⟩ rfl rfl (Or.inl rfl) (rest := []) rfl rfl rfl hl.1 rfl (Nat.le_of_ble_eq_true rfl) dX2_refresh_124 ⟨Nat.le_of_ble_eq_true rfl, Nat.le_of_ble_eq_true rfl⟩ (fun t H1 locs_171 ht hB hS_171 hFc => ?_)
      obtain ⟨v105, al106, ⟨gpr104_0, hGr_r104⟩, hP_172, -, hD_172⟩ := hB
      have hG_173 := FL_tr hG hGr_r104 (by decide)
      rw [ht] at hP_172
      have hD_174 := hD_172.weaken (B := A) (fun k q _ h9 => hFc q.1 h9)
      clear ht
      generalize H1 = H_175 at hP_172 hS_171 ⊢
      refine lv_aload_n hx hb dX2_refresh_127 rfl (lv_at hl 0 rfl) ?_
      refine gf (k := 1) hx hb hts inX2 hown hK hP_172 k_176 rfl (by decide) rfl 11 rfl (.ref (ad 12)) rfl dX2_refresh_128 ?_
      have hM := m064_X7_sort l dC dI cI cJ cII cJJ H_175.size g ad f3_unknowns f3_equations f2_roundSupports f2_stale v105 f1_size v101 v102 f0_solved f4_blockCount f4_blockLength f4_lastIsFree f4_stale ai103 al106 (ad 19) (ad 18) w2 w3 (by omega) (by omega) (by omega) (by omega) (by omega) (by omega) (by omega) (by omega) (by omega) (by omega) (by omega) hI_167 (RWX_19 ad) (RWX_18 ad) hw_w2 hw_w3
      refine k2V_v (q0 := 12) ⟨hx, hb, hml, hown, hts⟩ hK hP_172 hD_174 hS_171 hA hX cv_RX2_78 hM ⟨by decide +kernel, by decide +kernel⟩ rfl rfl (Or.inr ⟨rfl, rfl, rfl⟩) (rest := []) rfl rfl rfl hl.1 rfl (Nat.le_of_ble_eq_true rfl) dX2_refresh_131 ⟨Nat.le_of_ble_eq_true rfl, Nat.le_of_ble_eq_true rfl⟩ (fun t H1 locs_176 ht hB hS_176 hFc => ?_)
      obtain ⟨al108, hGr_r107, hP_177, -, hD_177⟩ := hB
      have hG_178 := FL_tr hG_173 hGr_r107 (by decide)
      rw [ht] at hP_177
      have hD_179 := hD_177.weaken (B := A) (fun k q _ h9 => hFc q.1 h9)
      clear ht
      generalize H1 = H_180 at hP_177 hS_176 ⊢
      exact m163_X2_refresh_b134 C  f2_roundSupports f2_stale v105 f1_size v101 v102 f0_solved ai103 al108 (ad 19) (ad 18) w2 w3 _ _ _ (by omega) (by omega) (by omega) (by omega) (by omega) (by omega) (by omega) (by omega) (by omega) (by omega) (by omega) hI_167 hF_168 hG_178 (RWX_19 ad) (RWX_18 ad) hw_w2 hw_w3 hP_177 hD_179 hS_176 (lv_sub hl [0] rfl)
  · skip
    rcases hw_w0 with rfl | rfl | rfl | rfl
    · skip
      have hM := m159_X5_walk l dC dI cI cJ cII cJJ H.size 0 ad f3_unknowns f3_equations f2_roundSupports f2_stale f7_size f1_size f5_keptSize f5_aheadSize f0_solved f4_blockCount f4_blockLength f4_lastIsFree f4_stale ai al (ad 16) (ad 19) w2 w3 L1 (by omega) (by omega) (by omega) (by omega) (by omega) (by omega) (by omega) (by omega) (by omega) (by omega) (by omega) (by omega) hI (RWX_16 ad) (RWX_19 ad) hw_w2 hw_w3
      refine k2V_v (q0 := 22) ⟨hx, hb, hml, hown, hts⟩ hK hP hD hS hA hX cv_RX2_70 hM ⟨by decide +kernel, by decide +kernel⟩ rfl rfl (Or.inl rfl) (rest := []) rfl rfl rfl hl.1 rfl (Nat.le_of_ble_eq_true rfl) dX2_refresh_113 ⟨Nat.le_of_ble_eq_true rfl, Nat.le_of_ble_eq_true rfl⟩ (fun t H1 locs_181 ht hB hS_181 hFc => ?_)
      obtain ⟨v110, v111, ai112, ⟨gpr109_0, gpr109_1, hI_182, hFr_r109⟩, hP_182, -, hD_182⟩ := hB
      have hF_183 := FR_tr hF hFr_r109 (by decide)
      rw [ht] at hP_182
      have hD_184 := hD_182.weaken (B := A) (fun k q _ h9 => hFc q.1 h9)
      clear ht
      generalize H1 = H_185 at hP_182 hS_181 ⊢
      refine lv_aload_n hx hb dX2_refresh_116 rfl (lv_at hl 0 rfl) ?_
      refine gf (k := 3) hx hb hts inX2 hown hK hP_182 k_178 rfl (by decide) rfl 11 rfl (.ref (ad 22)) rfl dX2_refresh_117 ?_
      refine lv_aload_n hx hb dX2_refresh_120 rfl (lv_at hl 0 rfl) ?_
      refine gf (k := 1) hx hb hts inX2 hown hK hP_182 k_176 rfl (by decide) rfl 11 rfl (.ref (ad 12)) rfl dX2_refresh_121 ?_
      have hM := m071_X5_giveTo l dC dI cI cJ cII cJJ H_185.size 0 ad f3_unknowns f3_equations f2_roundSupports f2_stale f7_size f1_size v110 v111 f0_solved f4_blockCount f4_blockLength f4_lastIsFree f4_stale ai112 al (ad 16) (ad 19) w2 w3 (by omega) (by omega) (by omega) (by omega) (by omega) (by omega) (by omega) (by omega) (by omega) (by omega) (by omega) hI_182 (RWX_16 ad) (RWX_19 ad) hw_w2 hw_w3
      refine k2V_v (q0 := 22) ⟨hx, hb, hml, hown, hts⟩ hK hP_182 hD_184 hS_181 hA hX cv_RX2_74 hM ⟨by decide +kernel, by decide +kernel⟩ rfl rfl (Or.inl rfl) (rest := []) rfl rfl rfl hl.1 rfl (Nat.le_of_ble_eq_true rfl) dX2_refresh_124 ⟨Nat.le_of_ble_eq_true rfl, Nat.le_of_ble_eq_true rfl⟩ (fun t H1 locs_186 ht hB hS_186 hFc => ?_)
      obtain ⟨v114, al115, ⟨gpr113_0, hGr_r113⟩, hP_187, -, hD_187⟩ := hB
      have hG_188 := FL_tr hG hGr_r113 (by decide)
      rw [ht] at hP_187
      have hD_189 := hD_187.weaken (B := A) (fun k q _ h9 => hFc q.1 h9)
      clear ht
      generalize H1 = H_190 at hP_187 hS_186 ⊢
      refine lv_aload_n hx hb dX2_refresh_127 rfl (lv_at hl 0 rfl) ?_
      refine gf (k := 1) hx hb hts inX2 hown hK hP_187 k_176 rfl (by decide) rfl 11 rfl (.ref (ad 12)) rfl dX2_refresh_128 ?_
      have hM := m064_X7_sort l dC dI cI cJ cII cJJ H_190.size g ad f3_unknowns f3_equations f2_roundSupports f2_stale v114 f1_size v110 v111 f0_solved f4_blockCount f4_blockLength f4_lastIsFree f4_stale ai112 al115 (ad 16) (ad 19) w2 w3 (by omega) (by omega) (by omega) (by omega) (by omega) (by omega) (by omega) (by omega) (by omega) (by omega) (by omega) hI_182 (RWX_16 ad) (RWX_19 ad) hw_w2 hw_w3
      refine k2V_v (q0 := 12) ⟨hx, hb, hml, hown, hts⟩ hK hP_187 hD_189 hS_186 hA hX cv_RX2_78 hM ⟨by decide +kernel, by decide +kernel⟩ rfl rfl (Or.inr ⟨rfl, rfl, rfl⟩) (rest := []) rfl rfl rfl hl.1 rfl (Nat.le_of_ble_eq_true rfl) dX2_refresh_131 ⟨Nat.le_of_ble_eq_true rfl, Nat.le_of_ble_eq_true rfl⟩ (fun t H1 locs_191 ht hB hS_191 hFc => ?_)
      obtain ⟨al117, hGr_r116, hP_192, -, hD_192⟩ := hB
      have hG_193 := FL_tr hG_188 hGr_r116 (by decide)
      rw [ht] at hP_192
      have hD_194 := hD_192.weaken (B := A) (fun k q _ h9 => hFc q.1 h9)
      clear ht
      generalize H1 = H_195 at hP_192 hS_191 ⊢
      exact m163_X2_refresh_b134 C  f2_roundSupports f2_stale v114 f1_size v110 v111 f0_solved ai112 al117 (ad 16) (ad 19) w2 w3 _ _ _ (by omega) (by omega) (by omega) (by omega) (by omega) (by omega) (by omega) (by omega) (by omega) (by omega) (by omega) hI_182 hF_183 hG_193 (RWX_16 ad) (RWX_19 ad) hw_w2 hw_w3 hP_192 hD_194 hS_191 (lv_sub hl [0] rfl)
    · skip
      have hM := m160_X5_walk l dC dI cI cJ cII cJJ H.size 0 ad f3_unknowns f3_equations f2_roundSupports f2_stale f7_size f1_size f5_keptSize f5_aheadSize f0_solved f4_blockCount f4_blockLength f4_lastIsFree f4_stale ai al (ad 17) (ad 19) w2 w3 L1 (by omega) (by omega) (by omega) (by omega) (by omega) (by omega) (by omega) (by omega) (by omega) (by omega) (by omega) (by omega) hI (RWX_17 ad) (RWX_19 ad) hw_w2 hw_w3
      refine k2V_v (q0 := 22) ⟨hx, hb, hml, hown, hts⟩ hK hP hD hS hA hX cv_RX2_70 hM ⟨by decide +kernel, by decide +kernel⟩ rfl rfl (Or.inl rfl) (rest := []) rfl rfl rfl hl.1 rfl (Nat.le_of_ble_eq_true rfl) dX2_refresh_113 ⟨Nat.le_of_ble_eq_true rfl, Nat.le_of_ble_eq_true rfl⟩ (fun t H1 locs_196 ht hB hS_196 hFc => ?_)
      obtain ⟨v119, v120, ai121, ⟨gpr118_0, gpr118_1, hI_197, hFr_r118⟩, hP_197, -, hD_197⟩ := hB
      have hF_198 := FR_tr hF hFr_r118 (by decide)
      rw [ht] at hP_197
      have hD_199 := hD_197.weaken (B := A) (fun k q _ h9 => hFc q.1 h9)
      clear ht
      generalize H1 = H_200 at hP_197 hS_196 ⊢
      refine lv_aload_n hx hb dX2_refresh_116 rfl (lv_at hl 0 rfl) ?_
      refine gf (k := 3) hx hb hts inX2 hown hK hP_197 k_178 rfl (by decide) rfl 11 rfl (.ref (ad 22)) rfl dX2_refresh_117 ?_
      refine lv_aload_n hx hb dX2_refresh_120 rfl (lv_at hl 0 rfl) ?_
      refine gf (k := 1) hx hb hts inX2 hown hK hP_197 k_176 rfl (by decide) rfl 11 rfl (.ref (ad 12)) rfl dX2_refresh_121 ?_
      have hM := m071_X5_giveTo l dC dI cI cJ cII cJJ H_200.size 0 ad f3_unknowns f3_equations f2_roundSupports f2_stale f7_size f1_size v119 v120 f0_solved f4_blockCount f4_blockLength f4_lastIsFree f4_stale ai121 al (ad 17) (ad 19) w2 w3 (by omega) (by omega) (by omega) (by omega) (by omega) (by omega) (by omega) (by omega) (by omega) (by omega) (by omega) hI_197 (RWX_17 ad) (RWX_19 ad) hw_w2 hw_w3
      refine k2V_v (q0 := 22) ⟨hx, hb, hml, hown, hts⟩ hK hP_197 hD_199 hS_196 hA hX cv_RX2_74 hM ⟨by decide +kernel, by decide +kernel⟩ rfl rfl (Or.inl rfl) (rest := []) rfl rfl rfl hl.1 rfl (Nat.le_of_ble_eq_true rfl) dX2_refresh_124 ⟨Nat.le_of_ble_eq_true rfl, Nat.le_of_ble_eq_true rfl⟩ (fun t H1 locs_201 ht hB hS_201 hFc => ?_)
      obtain ⟨v123, al124, ⟨gpr122_0, hGr_r122⟩, hP_202, -, hD_202⟩ := hB
      have hG_203 := FL_tr hG hGr_r122 (by decide)
      rw [ht] at hP_202
      have hD_204 := hD_202.weaken (B := A) (fun k q _ h9 => hFc q.1 h9)
      clear ht
      generalize H1 = H_205 at hP_202 hS_201 ⊢
      refine lv_aload_n hx hb dX2_refresh_127 rfl (lv_at hl 0 rfl) ?_
      refine gf (k := 1) hx hb hts inX2 hown hK hP_202 k_176 rfl (by decide) rfl 11 rfl (.ref (ad 12)) rfl dX2_refresh_128 ?_
      have hM := m064_X7_sort l dC dI cI cJ cII cJJ H_205.size g ad f3_unknowns f3_equations f2_roundSupports f2_stale v123 f1_size v119 v120 f0_solved f4_blockCount f4_blockLength f4_lastIsFree f4_stale ai121 al124 (ad 17) (ad 19) w2 w3 (by omega) (by omega) (by omega) (by omega) (by omega) (by omega) (by omega) (by omega) (by omega) (by omega) (by omega) hI_197 (RWX_17 ad) (RWX_19 ad) hw_w2 hw_w3
      refine k2V_v (q0 := 12) ⟨hx, hb, hml, hown, hts⟩ hK hP_202 hD_204 hS_201 hA hX cv_RX2_78 hM ⟨by decide +kernel, by decide +kernel⟩ rfl rfl (Or.inr ⟨rfl, rfl, rfl⟩) (rest := []) rfl rfl rfl hl.1 rfl (Nat.le_of_ble_eq_true rfl) dX2_refresh_131 ⟨Nat.le_of_ble_eq_true rfl, Nat.le_of_ble_eq_true rfl⟩ (fun t H1 locs_206 ht hB hS_206 hFc => ?_)
      obtain ⟨al126, hGr_r125, hP_207, -, hD_207⟩ := hB
      have hG_208 := FL_tr hG_203 hGr_r125 (by decide)
      rw [ht] at hP_207
      have hD_209 := hD_207.weaken (B := A) (fun k q _ h9 => hFc q.1 h9)
      clear ht
      generalize H1 = H_210 at hP_207 hS_206 ⊢
      exact m163_X2_refresh_b134 C  f2_roundSupports f2_stale v123 f1_size v119 v120 f0_solved ai121 al126 (ad 17) (ad 19) w2 w3 _ _ _ (by omega) (by omega) (by omega) (by omega) (by omega) (by omega) (by omega) (by omega) (by omega) (by omega) (by omega) hI_197 hF_198 hG_208 (RWX_17 ad) (RWX_19 ad) hw_w2 hw_w3 hP_207 hD_209 hS_206 (lv_sub hl [0] rfl)
    · skip
      have hM := m161_X5_walk l dC dI cI cJ cII cJJ H.size 0 ad f3_unknowns f3_equations f2_roundSupports f2_stale f7_size f1_size f5_keptSize f5_aheadSize f0_solved f4_blockCount f4_blockLength f4_lastIsFree f4_stale ai al (ad 18) (ad 19) w2 w3 L1 (by omega) (by omega) (by omega) (by omega) (by omega) (by omega) (by omega) (by omega) (by omega) (by omega) (by omega) (by omega) hI (RWX_18 ad) (RWX_19 ad) hw_w2 hw_w3
      refine k2V_v (q0 := 22) ⟨hx, hb, hml, hown, hts⟩ hK hP hD hS hA hX cv_RX2_70 hM ⟨by decide +kernel, by decide +kernel⟩ rfl rfl (Or.inl rfl) (rest := []) rfl rfl rfl hl.1 rfl (Nat.le_of_ble_eq_true rfl) dX2_refresh_113 ⟨Nat.le_of_ble_eq_true rfl, Nat.le_of_ble_eq_true rfl⟩ (fun t H1 locs_211 ht hB hS_211 hFc => ?_)
      obtain ⟨v128, v129, ai130, ⟨gpr127_0, gpr127_1, hI_212, hFr_r127⟩, hP_212, -, hD_212⟩ := hB
      have hF_213 := FR_tr hF hFr_r127 (by decide)
      rw [ht] at hP_212
      have hD_214 := hD_212.weaken (B := A) (fun k q _ h9 => hFc q.1 h9)
      clear ht
      generalize H1 = H_215 at hP_212 hS_211 ⊢
      refine lv_aload_n hx hb dX2_refresh_116 rfl (lv_at hl 0 rfl) ?_
      refine gf (k := 3) hx hb hts inX2 hown hK hP_212 k_178 rfl (by decide) rfl 11 rfl (.ref (ad 22)) rfl dX2_refresh_117 ?_
      refine lv_aload_n hx hb dX2_refresh_120 rfl (lv_at hl 0 rfl) ?_
      refine gf (k := 1) hx hb hts inX2 hown hK hP_212 k_176 rfl (by decide) rfl 11 rfl (.ref (ad 12)) rfl dX2_refresh_121 ?_
      have hM := m071_X5_giveTo l dC dI cI cJ cII cJJ H_215.size 0 ad f3_unknowns f3_equations f2_roundSupports f2_stale f7_size f1_size v128 v129 f0_solved f4_blockCount f4_blockLength f4_lastIsFree f4_stale ai130 al (ad 18) (ad 19) w2 w3 (by omega) (by omega) (by omega) (by omega) (by omega) (by omega) (by omega) (by omega) (by omega) (by omega) (by omega) hI_212 (RWX_18 ad) (RWX_19 ad) hw_w2 hw_w3
      refine k2V_v (q0 := 22) ⟨hx, hb, hml, hown, hts⟩ hK hP_212 hD_214 hS_211 hA hX cv_RX2_74 hM ⟨by decide +kernel, by decide +kernel⟩ rfl rfl (Or.inl rfl) (rest := []) rfl rfl rfl hl.1 rfl (Nat.le_of_ble_eq_true rfl) dX2_refresh_124 ⟨Nat.le_of_ble_eq_true rfl, Nat.le_of_ble_eq_true rfl⟩ (fun t H1 locs_216 ht hB hS_216 hFc => ?_)
      obtain ⟨v132, al133, ⟨gpr131_0, hGr_r131⟩, hP_217, -, hD_217⟩ := hB
      have hG_218 := FL_tr hG hGr_r131 (by decide)
      rw [ht] at hP_217
      have hD_219 := hD_217.weaken (B := A) (fun k q _ h9 => hFc q.1 h9)
      clear ht
      generalize H1 = H_220 at hP_217 hS_216 ⊢
      refine lv_aload_n hx hb dX2_refresh_127 rfl (lv_at hl 0 rfl) ?_
      refine gf (k := 1) hx hb hts inX2 hown hK hP_217 k_176 rfl (by decide) rfl 11 rfl (.ref (ad 12)) rfl dX2_refresh_128 ?_
      have hM := m064_X7_sort l dC dI cI cJ cII cJJ H_220.size g ad f3_unknowns f3_equations f2_roundSupports f2_stale v132 f1_size v128 v129 f0_solved f4_blockCount f4_blockLength f4_lastIsFree f4_stale ai130 al133 (ad 18) (ad 19) w2 w3 (by omega) (by omega) (by omega) (by omega) (by omega) (by omega) (by omega) (by omega) (by omega) (by omega) (by omega) hI_212 (RWX_18 ad) (RWX_19 ad) hw_w2 hw_w3
      refine k2V_v (q0 := 12) ⟨hx, hb, hml, hown, hts⟩ hK hP_217 hD_219 hS_216 hA hX cv_RX2_78 hM ⟨by decide +kernel, by decide +kernel⟩ rfl rfl (Or.inr ⟨rfl, rfl, rfl⟩) (rest := []) rfl rfl rfl hl.1 rfl (Nat.le_of_ble_eq_true rfl) dX2_refresh_131 ⟨Nat.le_of_ble_eq_true rfl, Nat.le_of_ble_eq_true rfl⟩ (fun t H1 locs_221 ht hB hS_221 hFc => ?_)
      obtain ⟨al135, hGr_r134, hP_222, -, hD_222⟩ := hB
      have hG_223 := FL_tr hG_218 hGr_r134 (by decide)
      rw [ht] at hP_222
      have hD_224 := hD_222.weaken (B := A) (fun k q _ h9 => hFc q.1 h9)
      clear ht
      generalize H1 = H_225 at hP_222 hS_221 ⊢
      exact m163_X2_refresh_b134 C  f2_roundSupports f2_stale v132 f1_size v128 v129 f0_solved ai130 al135 (ad 18) (ad 19) w2 w3 _ _ _ (by omega) (by omega) (by omega) (by omega) (by omega) (by omega) (by omega) (by omega) (by omega) (by omega) (by omega) hI_212 hF_213 hG_223 (RWX_18 ad) (RWX_19 ad) hw_w2 hw_w3 hP_222 hD_224 hS_221 (lv_sub hl [0] rfl)
    · skip
      have hM := m162_X5_walk l dC dI cI cJ cII cJJ H.size 0 ad f3_unknowns f3_equations f2_roundSupports f2_stale f7_size f1_size f5_keptSize f5_aheadSize f0_solved f4_blockCount f4_blockLength f4_lastIsFree f4_stale ai al (ad 19) (ad 19) w2 w3 L1 (by omega) (by omega) (by omega) (by omega) (by omega) (by omega) (by omega) (by omega) (by omega) (by omega) (by omega) (by omega) hI (RWX_19 ad) (RWX_19 ad) hw_w2 hw_w3
      refine k2V_v (q0 := 22) ⟨hx, hb, hml, hown, hts⟩ hK hP hD hS hA hX cv_RX2_70 hM ⟨by decide +kernel, by decide +kernel⟩ rfl rfl (Or.inl rfl) (rest := []) rfl rfl rfl hl.1 rfl (Nat.le_of_ble_eq_true rfl) dX2_refresh_113 ⟨Nat.le_of_ble_eq_true rfl, Nat.le_of_ble_eq_true rfl⟩ (fun t H1 locs_226 ht hB hS_226 hFc => ?_)
      obtain ⟨v137, v138, ai139, ⟨gpr136_0, gpr136_1, hI_227, hFr_r136⟩, hP_227, -, hD_227⟩ := hB
      have hF_228 := FR_tr hF hFr_r136 (by decide)
      rw [ht] at hP_227
      have hD_229 := hD_227.weaken (B := A) (fun k q _ h9 => hFc q.1 h9)
      clear ht
      generalize H1 = H_230 at hP_227 hS_226 ⊢
      refine lv_aload_n hx hb dX2_refresh_116 rfl (lv_at hl 0 rfl) ?_
      refine gf (k := 3) hx hb hts inX2 hown hK hP_227 k_178 rfl (by decide) rfl 11 rfl (.ref (ad 22)) rfl dX2_refresh_117 ?_
      refine lv_aload_n hx hb dX2_refresh_120 rfl (lv_at hl 0 rfl) ?_
      refine gf (k := 1) hx hb hts inX2 hown hK hP_227 k_176 rfl (by decide) rfl 11 rfl (.ref (ad 12)) rfl dX2_refresh_121 ?_
      have hM := m071_X5_giveTo l dC dI cI cJ cII cJJ H_230.size 0 ad f3_unknowns f3_equations f2_roundSupports f2_stale f7_size f1_size v137 v138 f0_solved f4_blockCount f4_blockLength f4_lastIsFree f4_stale ai139 al (ad 19) (ad 19) w2 w3 (by omega) (by omega) (by omega) (by omega) (by omega) (by omega) (by omega) (by omega) (by omega) (by omega) (by omega) hI_227 (RWX_19 ad) (RWX_19 ad) hw_w2 hw_w3
      refine k2V_v (q0 := 22) ⟨hx, hb, hml, hown, hts⟩ hK hP_227 hD_229 hS_226 hA hX cv_RX2_74 hM ⟨by decide +kernel, by decide +kernel⟩ rfl rfl (Or.inl rfl) (rest := []) rfl rfl rfl hl.1 rfl (Nat.le_of_ble_eq_true rfl) dX2_refresh_124 ⟨Nat.le_of_ble_eq_true rfl, Nat.le_of_ble_eq_true rfl⟩ (fun t H1 locs_231 ht hB hS_231 hFc => ?_)
      obtain ⟨v141, al142, ⟨gpr140_0, hGr_r140⟩, hP_232, -, hD_232⟩ := hB
      have hG_233 := FL_tr hG hGr_r140 (by decide)
      rw [ht] at hP_232
      have hD_234 := hD_232.weaken (B := A) (fun k q _ h9 => hFc q.1 h9)
      clear ht
      generalize H1 = H_235 at hP_232 hS_231 ⊢
      refine lv_aload_n hx hb dX2_refresh_127 rfl (lv_at hl 0 rfl) ?_
      refine gf (k := 1) hx hb hts inX2 hown hK hP_232 k_176 rfl (by decide) rfl 11 rfl (.ref (ad 12)) rfl dX2_refresh_128 ?_
      have hM := m064_X7_sort l dC dI cI cJ cII cJJ H_235.size g ad f3_unknowns f3_equations f2_roundSupports f2_stale v141 f1_size v137 v138 f0_solved f4_blockCount f4_blockLength f4_lastIsFree f4_stale ai139 al142 (ad 19) (ad 19) w2 w3 (by omega) (by omega) (by omega) (by omega) (by omega) (by omega) (by omega) (by omega) (by omega) (by omega) (by omega) hI_227 (RWX_19 ad) (RWX_19 ad) hw_w2 hw_w3
      refine k2V_v (q0 := 12) ⟨hx, hb, hml, hown, hts⟩ hK hP_232 hD_234 hS_231 hA hX cv_RX2_78 hM ⟨by decide +kernel, by decide +kernel⟩ rfl rfl (Or.inr ⟨rfl, rfl, rfl⟩) (rest := []) rfl rfl rfl hl.1 rfl (Nat.le_of_ble_eq_true rfl) dX2_refresh_131 ⟨Nat.le_of_ble_eq_true rfl, Nat.le_of_ble_eq_true rfl⟩ (fun t H1 locs_236 ht hB hS_236 hFc => ?_)
      obtain ⟨al144, hGr_r143, hP_237, -, hD_237⟩ := hB
      have hG_238 := FL_tr hG_233 hGr_r143 (by decide)
      rw [ht] at hP_237
      have hD_239 := hD_237.weaken (B := A) (fun k q _ h9 => hFc q.1 h9)
      clear ht
      generalize H1 = H_240 at hP_237 hS_236 ⊢
      exact m163_X2_refresh_b134 C  f2_roundSupports f2_stale v141 f1_size v137 v138 f0_solved ai139 al144 (ad 19) (ad 19) w2 w3 _ _ _ (by omega) (by omega) (by omega) (by omega) (by omega) (by omega) (by omega) (by omega) (by omega) (by omega) (by omega) hI_227 hF_228 hG_238 (RWX_19 ad) (RWX_19 ad) hw_w2 hw_w3 hP_237 hD_239 hS_236 (lv_sub hl [0] rfl)
set_option maxRecDepth 100000 in
set_option maxHeartbeats 4000000 in
theorem m163_X2_refresh_b78 {p : Program} {l : Launch} {e : Env} {s : State} {m : MethodId} {args : Array Value} {below : List Frame} {meth : Method} {c : Code} {A : Nat → Prop} {dC : Nat → ClassId} {dI : Nat → Nat → Nat} {cI cJ cII cJJ : ClassId} {ad : Nat → Nat} {g : Nat} {f3_unknowns f3_equations f4_blockCount f4_blockLength f4_lastIsFree f4_stale : Int32} {ai0 : Nat → Nat → Int32} {al0 : Nat → Nat → Int64} (C : Cx p c s m meth args A dC dI (TY cI cJ cII cJJ) cX2_refresh none 2 RX2 1 g) : ∀ (S0 f2_roundSupports f2_stale f7_size f1_size f5_keptSize f5_aheadSize f0_solved : Int32) (ai : Nat → Nat → Int32) (al : Nat → Nat → Int64) (w0 w1 w2 w3 : Nat) (H : Heap) (locs : List Loc) (ls : Array Slot), (0 ≤ S0.toInt ∧ S0.toInt ≤ 1) → (1 ≤ f3_unknowns.toInt ∧ f3_unknowns.toInt ≤ 4) → (0 ≤ f3_equations.toInt ∧ f3_equations.toInt ≤ 3) → (0 ≤ f2_stale.toInt ∧ f2_stale.toInt ≤ 0) → (0 ≤ f7_size.toInt ∧ f7_size.toInt ≤ 0) → (1 ≤ f1_size.toInt ∧ f1_size.toInt ≤ 2) → (0 ≤ f5_keptSize.toInt ∧ f5_keptSize.toInt ≤ 128) → (0 ≤ f5_aheadSize.toInt ∧ f5_aheadSize.toInt ≤ 128) → (0 ≤ f4_blockCount.toInt ∧ f4_blockCount.toInt ≤ 9261) → (0 ≤ f4_blockLength.toInt ∧ f4_blockLength.toInt ≤ 21) → (0 ≤ f4_lastIsFree.toInt ∧ f4_lastIsFree.toInt ≤ 1) → (0 ≤ f4_stale.toInt ∧ f4_stale.toInt ≤ 1) → IAX ai → FR [21, 23, 24, 26, 27, 28] ai0 ai → FL [13, 16, 17, 18, 19, 20] al0 al → RWX ad w0 → RWX ad w1 → RWX ad w2 → RWX ad w3 → va_P (dC, dI) vwCl (WX cI cJ cII cJJ ad f3_unknowns f3_equations f2_roundSupports f2_stale f7_size f1_size f5_keptSize f5_aheadSize f0_solved f4_blockCount f4_blockLength f4_lastIsFree f4_stale ai al w0 w1 w2 w3) H → va_D A (WX cI cJ cII cJJ ad f3_unknowns f3_equations f2_roundSupports f2_stale f7_size f1_size f5_keptSize f5_aheadSize f0_solved f4_blockCount f4_blockLength f4_lastIsFree f4_stale ai al w0 w1 w2 w3) → va_S A s.heap H locs → lv_has ls 2 [(0, .ref (ad 11))] → W p l e ({ frames := 13, cells := 0, slots := 0, locals := 740 } : Room) s m args below meth c H locs 0 0 (MQ below (Q_m163_X2_refresh dC dI cI cJ cII cJJ ad f3_unknowns f3_equations f4_blockCount f4_blockLength f4_lastIsFree f4_stale ai0 al0 A) args s 0 0 A) (F0 m 78 ls [.int S0]) := by
  obtain ⟨hx, hb, hr, hml, hown, hts, hk, hA, hK, hX⟩ := id C
  intro S0 f2_roundSupports f2_stale f7_size f1_size f5_keptSize f5_aheadSize f0_solved ai al w0 w1 w2 w3 H locs ls h0 h1 h2 h3 h4 h5 h6 h7 h8 h9 h10 h11 hI hF hG hw_w0 hw_w1 hw_w2 hw_w3 hP hD hS hl
  refine lv_istore_n (lv' := [(1, .int S0), (0, .ref (ad 11))]) hx hb dX2_refresh_78 rfl hl (by decide) rfl (fun ls_1 hl_1 => ?_)
  refine lv_iload_n hx hb dX2_refresh_79 rfl (lv_at hl_1 0 rfl) ?_
  refine lv_if_eq (tgt := 90) hx hb dX2_refresh_80 (by decide) (fun c1 => ?_) (fun c1 => ?_)
  · have c1 := j_eq (a := S0.toInt) (b := 0) rfl (by decide +kernel) c1
    exact m163_X2_refresh_b90 C  S0 f2_roundSupports f2_stale f7_size f1_size f5_keptSize f5_aheadSize f0_solved ai al w0 w1 w2 w3 _ _ _ (by omega) (by omega) (by omega) (by omega) (by omega) (by omega) (by omega) (by omega) (by omega) (by omega) (by omega) (by omega) hI hF hG hw_w0 hw_w1 hw_w2 hw_w3 hP hD hS (lv_sub hl_1 [1, 0] rfl)
  · have c1 := j_ne (a := S0.toInt) (b := 0) rfl (by decide +kernel) c1
    refine lv_aload_n hx hb dX2_refresh_83 rfl (lv_at hl_1 1 rfl) ?_
    refine gf (k := 2) hx hb hts inX2 hown hK hP k_177 rfl (by decide) rfl 11 rfl (.ref (ad 14)) rfl dX2_refresh_84 ?_
    have hM := m137_X1_straighten l dC dI cI cJ cII cJJ H.size g ad f3_unknowns f3_equations f2_roundSupports f2_stale f7_size f1_size f5_keptSize f5_aheadSize f0_solved f4_blockCount f4_blockLength f4_lastIsFree f4_stale ai al w0 w1 w2 w3 (by omega) (by omega) (by omega) (by omega) (by omega) (by omega) (by omega) (by omega) (by omega) (by omega) (by omega) hI hw_w0 hw_w1 hw_w2 hw_w3
    refine k2V_v (q0 := 14) ⟨hx, hb, hml, hown, hts⟩ hK hP hD hS hA hX cv_RX2_63 hM ⟨by decide +kernel, by decide +kernel⟩ rfl rfl (Or.inr ⟨rfl, rfl, rfl⟩) (rest := []) rfl rfl rfl hl_1.1 rfl (Nat.le_of_ble_eq_true rfl) dX2_refresh_87 ⟨Nat.le_of_ble_eq_true rfl, Nat.le_of_ble_eq_true rfl⟩ (fun t H1 locs_2 ht hB hS_2 hFc => ?_)
    obtain ⟨v3, ai4, al5, w6, w7, w8, w9, ⟨gpr2_0, hI_3, hFr_r2, hGr_r2, hw_w6, hw_w7, hw_w8, hw_w9⟩, hP_3, -, hD_3⟩ := hB
    have hF_4 := FR_tr hF hFr_r2 (by decide)
    have hG_5 := FL_tr hG hGr_r2 (by decide)
    rw [ht] at hP_3
    have hD_6 := hD_3.weaken (B := A) (fun k q _ h9 => hFc q.1 h9)
    clear ht
    generalize H1 = H_7 at hP_3 hS_2 ⊢
    exact m163_X2_refresh_b90 C  S0 f2_roundSupports f2_stale f7_size v3 f5_keptSize f5_aheadSize f0_solved ai4 al5 w6 w7 w8 w9 _ _ _ (by omega) (by omega) (by omega) (by omega) (by omega) (by omega) (by omega) (by omega) (by omega) (by omega) (by omega) (by omega) hI_3 hF_4 hG_5 hw_w6 hw_w7 hw_w8 hw_w9 hP_3 hD_6 hS_2 (lv_sub hl_1 [1, 0] rfl)
set_option maxRecDepth 100000 in
set_option maxHeartbeats 4000000 in
theorem m163_X2_refresh (l : Launch) (dC : Nat → ClassId) (dI : Nat → Nat → Nat) (cI cJ cII cJJ : ClassId) (sz g : Nat) (ad : Nat → Nat) (f3_unknowns f3_equations f2_roundSupports f2_stale f7_size f1_size f5_keptSize f5_aheadSize f0_solved f4_blockCount f4_blockLength f4_lastIsFree f4_stale : Int32) (ai : Nat → Nat → Int32) (al : Nat → Nat → Int64) (w0 w1 w2 w3 : Nat) (h_f3_unknowns : (1 ≤ f3_unknowns.toInt ∧ f3_unknowns.toInt ≤ 4)) (h_f3_equations : (0 ≤ f3_equations.toInt ∧ f3_equations.toInt ≤ 3)) (h_f2_stale : (0 ≤ f2_stale.toInt ∧ f2_stale.toInt ≤ 1)) (h_f7_size : (0 ≤ f7_size.toInt ∧ f7_size.toInt ≤ 256)) (h_f1_size : (0 ≤ f1_size.toInt ∧ f1_size.toInt ≤ 4)) (h_f5_keptSize : (0 ≤ f5_keptSize.toInt ∧ f5_keptSize.toInt ≤ 128)) (h_f5_aheadSize : (0 ≤ f5_aheadSize.toInt ∧ f5_aheadSize.toInt ≤ 128)) (h_f4_blockCount : (0 ≤ f4_blockCount.toInt ∧ f4_blockCount.toInt ≤ 9261)) (h_f4_blockLength : (0 ≤ f4_blockLength.toInt ∧ f4_blockLength.toInt ≤ 21)) (h_f4_lastIsFree : (0 ≤ f4_lastIsFree.toInt ∧ f4_lastIsFree.toInt ≤ 1)) (h_f4_stale : (0 ≤ f4_stale.toInt ∧ f4_stale.toInt ≤ 1)) (hI : IAX ai) (hw_w0 : RWX ad w0) (hw_w1 : RWX ad w1) (hw_w2 : RWX ad w2) (hw_w3 : RWX ad w3) : Met l yX2_refresh (.code yX2_refresh cX2_refresh 2 none :: TT) ({ frames := 13, cells := 0, slots := 0, locals := 740 } : Room) (PcS dC dI (TY cI cJ cII cJJ) [.ref (ad 11)] (WX cI cJ cII cJJ ad f3_unknowns f3_equations f2_roundSupports f2_stale f7_size f1_size f5_keptSize f5_aheadSize f0_solved f4_blockCount f4_blockLength f4_lastIsFree f4_stale ai al w0 w1 w2 w3) sz 1 g) (Q_m163_X2_refresh dC dI cI cJ cII cJJ ad f3_unknowns f3_equations f4_blockCount f4_blockLength f4_lastIsFree f4_stale ai al (va_A (WX cI cJ cII cJJ ad f3_unknowns f3_equations f2_roundSupports f2_stale f7_size f1_size f5_keptSize f5_aheadSize f0_solved f4_blockCount f4_blockLength f4_lastIsFree f4_stale ai al w0 w1 w2 w3) sz)) 0 0 (va_A (WX cI cJ cII cJJ ad f3_unknowns f3_equations f2_roundSupports f2_stale f7_size f1_size f5_keptSize f5_aheadSize f0_solved f4_blockCount f4_blockLength f4_lastIsFree f4_stale ai al w0 w1 w2 w3) sz) := by
  refine SM.of (y := yX2_refresh) (maxL := 2) (av := [.ref (ad 11)]) (Q_m163_X2_refresh dC dI cI cJ cII cJJ ad f3_unknowns f3_equations f4_blockCount f4_blockLength f4_lastIsFree f4_stale ai al) (by decide +kernel) (Nat.le_of_ble_eq_true rfl) (fun p e s m below meth c A ls hx hb hr hml hown hts hk hnm hA hK hP hD hS hX hl => ?_)
  have C : Cx p c s m meth (([.ref (ad 11)] : List Value).toArray) A dC dI (TY cI cJ cII cJJ) cX2_refresh none 2 RX2 1 g := ⟨hx, hb, hr, hml, hown, hts, hk, hA, hK, hX⟩
  have hown : s.vm.findClass RX2 = some m.cls := hown
  have hl : lv_has ls 2 [(0, .ref (ad 11))] := hl
  obtain ⟨H, hH⟩ : ∃ q, q = s.heap := ⟨_, rfl⟩
  rw [← hH] at hP
  have hS : va_S A s.heap H [] := by rw [hH]; exact hS
  rw [← hH]
  have hF := FR_refl [21, 23, 24, 26, 27, 28] ai
  have hG := FL_refl [13, 16, 17, 18, 19, 20] al
  refine lv_aload_n hx hb dX2_refresh_0 rfl (lv_at hl 0 rfl) ?_
  refine gf (k := 6) hx hb hts inX2 hown hK hP k_181 rfl (by decide) rfl 11 rfl (.int f2_stale) rfl dX2_refresh_1 ?_
  refine lv_if_ne (tgt := 8) hx hb dX2_refresh_4 (by decide) (fun c1 => ?_) (fun c1 => ?_)
  · have c1 := j_ne (a := f2_stale.toInt) (b := 0) rfl (by decide +kernel) c1
    refine lv_aload_n hx hb dX2_refresh_8 rfl (lv_at hl 0 rfl) ?_
    refine lv_iconst (v := 0) hx hb dX2_refresh_9 (by decide) ?_
    refine pf (k := 6) hx hb hts inX2 tyX2_ok nmX2 hown hK hP hD hS k_181 rfl (by decide) rfl rfl 11 rfl rfl rfl (Nat.le_of_ble_eq_true rfl) dX2_refresh_10 (W' := (WX cI cJ cII cJJ ad f3_unknowns f3_equations f2_roundSupports 0 f7_size f1_size f5_keptSize f5_aheadSize f0_solved f4_blockCount f4_blockLength f4_lastIsFree f4_stale ai al w0 w1 w2 w3)) rfl (fun H_1 locs_1 hP_1 hD_1 hS_1 => ?_)
    refine lv_aload_n hx hb dX2_refresh_13 rfl (lv_at hl 0 rfl) ?_
    refine gf (k := 1) hx hb hts inX2 hown hK hP_1 k_176 rfl (by decide) rfl 11 rfl (.ref (ad 12)) rfl dX2_refresh_14 ?_
    have kc0 : (0 : Int32).toInt = 0 := by decide +kernel
    have hM := m022_X7_clear l dC dI cI cJ cII cJJ H_1.size 0 ad f3_unknowns f3_equations f2_roundSupports 0 f7_size f1_size f5_keptSize f5_aheadSize f0_solved f4_blockCount f4_blockLength f4_lastIsFree f4_stale ai al w0 w1 w2 w3 (by omega) (by omega) (by decide +kernel) (by omega) (by omega) (by omega) (by omega) (by omega) (by omega) (by omega) (by omega) hI hw_w0 hw_w1 hw_w2 hw_w3
    refine k2V_v (q0 := 12) ⟨hx, hb, hml, hown, hts⟩ hK hP_1 hD_1 hS_1 hA hX cv_RX2_49 hM ⟨by decide +kernel, by decide +kernel⟩ rfl rfl (Or.inl rfl) (rest := []) rfl rfl rfl hl.1 rfl (Nat.le_of_ble_eq_true rfl) dX2_refresh_17 ⟨Nat.le_of_ble_eq_true rfl, Nat.le_of_ble_eq_true rfl⟩ (fun t H1 locs_2 ht hB hS_2 hFc => ?_)
    obtain ⟨v3, gpr2_0, hP_3, -, hD_3⟩ := hB
    rw [ht] at hP_3
    have hD_4 := hD_3.weaken (B := A) (fun k q _ h9 => hFc q.1 h9)
    clear ht
    generalize H1 = H_5 at hP_3 hS_2 ⊢
    refine lv_aload_n hx hb dX2_refresh_20 rfl (lv_at hl 0 rfl) ?_
    refine gf (k := 2) hx hb hts inX2 hown hK hP_3 k_177 rfl (by decide) rfl 11 rfl (.ref (ad 14)) rfl dX2_refresh_21 ?_
    refine lv_aload_n hx hb dX2_refresh_24 rfl (lv_at hl 0 rfl) ?_
    refine gf (k := 0) hx hb hts inX2 hown hK hP_3 k_175 rfl (by decide) rfl 11 rfl (.ref (ad 6)) rfl dX2_refresh_25 ?_
    have kc0 : (0 : Int32).toInt = 0 := by decide +kernel
    have hM := m145_X1_solve l dC dI cI cJ cII cJJ H_5.size g ad f3_unknowns f3_equations f2_roundSupports 0 v3 f1_size f5_keptSize f5_aheadSize f0_solved f4_blockCount f4_blockLength f4_lastIsFree f4_stale ai al w0 w1 w2 w3 (by omega) (by omega) (by decide +kernel) (by omega) (by omega) (by omega) (by omega) (by omega) (by omega) (by omega) (by omega) hI hw_w0 hw_w1 hw_w2 hw_w3
    refine k2V_v (q0 := 14) ⟨hx, hb, hml, hown, hts⟩ hK hP_3 hD_4 hS_2 hA hX cv_RX2_52 hM ⟨by decide +kernel, by decide +kernel⟩ rfl rfl (Or.inr ⟨rfl, rfl, rfl⟩) (rest := []) rfl rfl rfl hl.1 rfl (Nat.le_of_ble_eq_true rfl) dX2_refresh_28 ⟨Nat.le_of_ble_eq_true rfl, Nat.le_of_ble_eq_true rfl⟩ (fun t H1 locs_6 ht hB hS_6 hFc => ?_)
    obtain ⟨v5, al6, w7, w8, w9, w10, ⟨gpr4_0, hGr_r4, hw_w7, hw_w8, hw_w9, hw_w10⟩, hP_7, -, hD_7⟩ := hB
    have hG_8 := FL_tr hG hGr_r4 (by decide)
    rw [ht] at hP_7
    have hD_9 := hD_7.weaken (B := A) (fun k q _ h9 => hFc q.1 h9)
    clear ht
    generalize H1 = H_10 at hP_7 hS_6 ⊢
    refine lv_aload_n hx hb dX2_refresh_31 rfl (lv_at hl 0 rfl) ?_
    refine gf (k := 2) hx hb hts inX2 hown hK hP_7 k_177 rfl (by decide) rfl 11 rfl (.ref (ad 14)) rfl dX2_refresh_32 ?_
    refine gf (k := 3) hx hb hts inX1 hown hK hP_7 k_121 rfl (by decide) rfl 14 rfl (.int v5) rfl dX2_refresh_35 ?_
    refine lv_iconst (v := 2) hx hb dX2_refresh_38 (by decide) ?_
    refine lv_icmp_le (tgt := 52) hx hb dX2_refresh_39 (by decide) (fun c11 => ?_) (fun c11 => ?_)
    · have c11 := j_le (a := v5.toInt) (b := 2) rfl (by decide +kernel) c11
      refine lv_aload_n hx hb dX2_refresh_52 rfl (lv_at hl 0 rfl) ?_
      refine gf (k := 2) hx hb hts inX2 hown hK hP_7 k_177 rfl (by decide) rfl 11 rfl (.ref (ad 14)) rfl dX2_refresh_53 ?_
      refine gf (k := 3) hx hb hts inX1 hown hK hP_7 k_121 rfl (by decide) rfl 14 rfl (.int v5) rfl dX2_refresh_56 ?_
      refine lv_if_le (tgt := 134) hx hb dX2_refresh_59 (by decide) (fun c12 => ?_) (fun c12 => ?_)
      · have c12 := j_le (a := v5.toInt) (b := 0) rfl (by decide +kernel) c12
        exact m163_X2_refresh_b134 C  f2_roundSupports 0 v3 v5 f5_keptSize f5_aheadSize f0_solved ai al6 w7 w8 w9 w10 _ _ _ (by first | omega | decide | (have ka0 := (by decide +kernel : (0 : Int32).toInt = 0); omega)) (by first | omega | decide | (have ka0 := (by decide +kernel : (0 : Int32).toInt = 0); omega)) (by first | omega | decide | (have ka0 := (by decide +kernel : (0 : Int32).toInt = 0); omega)) (by first | omega | decide | (have ka0 := (by decide +kernel : (0 : Int32).toInt = 0); omega)) (by first | omega | decide | (have ka0 := (by decide +kernel : (0 : Int32).toInt = 0); omega)) (by first | omega | decide | (have ka0 := (by decide +kernel : (0 : Int32).toInt = 0); omega)) (by first | omega | decide | (have ka0 := (by decide +kernel : (0 : Int32).toInt = 0); omega)) (by first | omega | decide | (have ka0 := (by decide +kernel : (0 : Int32).toInt = 0); omega)) (by first | omega | decide | (have ka0 := (by decide +kernel : (0 : Int32).toInt = 0); omega)) (by first | omega | decide | (have ka0 := (by decide +kernel : (0 : Int32).toInt = 0); omega)) (by first | omega | decide | (have ka0 := (by decide +kernel : (0 : Int32).toInt = 0); omega)) hI hF hG_8 hw_w7 hw_w8 hw_w9 hw_w10 hP_7 hD_9 hS_6 (lv_sub hl [0] rfl)
      · have c12 := j_nle (a := v5.toInt) (b := 0) rfl (by decide +kernel) c12
        refine lv_aload_n hx hb dX2_refresh_62 rfl (lv_at hl 0 rfl) ?_
        refine gf (k := 2) hx hb hts inX2 hown hK hP_7 k_177 rfl (by decide) rfl 11 rfl (.ref (ad 14)) rfl dX2_refresh_63 ?_
        refine gf (k := 3) hx hb hts inX1 hown hK hP_7 k_121 rfl (by decide) rfl 14 rfl (.int v5) rfl dX2_refresh_66 ?_
        refine lv_iconst (v := 2) hx hb dX2_refresh_69 (by decide) ?_
        refine lv_icmp_ne (tgt := 77) hx hb dX2_refresh_70 (by decide) (fun c13 => ?_) (fun c13 => ?_)
        · have c13 := j_ne (a := v5.toInt) (b := 2) rfl (by decide +kernel) c13
          refine lv_iconst (v := 0) hx hb dX2_refresh_77 (by decide) ?_
          exact m163_X2_refresh_b78 C  0 f2_roundSupports 0 v3 v5 f5_keptSize f5_aheadSize f0_solved ai al6 w7 w8 w9 w10 _ _ _ (by first | omega | decide | (have ka0 := (by decide +kernel : (0 : Int32).toInt = 0); omega)) (by first | omega | decide | (have ka0 := (by decide +kernel : (0 : Int32).toInt = 0); omega)) (by first | omega | decide | (have ka0 := (by decide +kernel : (0 : Int32).toInt = 0); omega)) (by first | omega | decide | (have ka0 := (by decide +kernel : (0 : Int32).toInt = 0); omega)) (by first | omega | decide | (have ka0 := (by decide +kernel : (0 : Int32).toInt = 0); omega)) (by first | omega | decide | (have ka0 := (by decide +kernel : (0 : Int32).toInt = 0); omega)) (by first | omega | decide | (have ka0 := (by decide +kernel : (0 : Int32).toInt = 0); omega)) (by first | omega | decide | (have ka0 := (by decide +kernel : (0 : Int32).toInt = 0); omega)) (by first | omega | decide | (have ka0 := (by decide +kernel : (0 : Int32).toInt = 0); omega)) (by first | omega | decide | (have ka0 := (by decide +kernel : (0 : Int32).toInt = 0); omega)) (by first | omega | decide | (have ka0 := (by decide +kernel : (0 : Int32).toInt = 0); omega)) (by first | omega | decide | (have ka0 := (by decide +kernel : (0 : Int32).toInt = 0); omega)) hI hF hG_8 hw_w7 hw_w8 hw_w9 hw_w10 hP_7 hD_9 hS_6 (lv_sub hl [0] rfl)
        · have c13 := j_eq (a := v5.toInt) (b := 2) rfl (by decide +kernel) c13
          refine lv_iconst (v := 1) hx hb dX2_refresh_73 (by decide) ?_
          refine lv_goto (tgt := 78) hx hb dX2_refresh_74 (by decide) ?_
          exact m163_X2_refresh_b78 C  1 f2_roundSupports 0 v3 v5 f5_keptSize f5_aheadSize f0_solved ai al6 w7 w8 w9 w10 _ _ _ (by first | omega | decide | (have ka0 := (by decide +kernel : (0 : Int32).toInt = 0); have ka1 := (by decide +kernel : (1 : Int32).toInt = 1); omega)) (by first | omega | decide | (have ka0 := (by decide +kernel : (0 : Int32).toInt = 0); have ka1 := (by decide +kernel : (1 : Int32).toInt = 1); omega)) (by first | omega | decide | (have ka0 := (by decide +kernel : (0 : Int32).toInt = 0); have ka1 := (by decide +kernel : (1 : Int32).toInt = 1); omega)) (by first | omega | decide | (have ka0 := (by decide +kernel : (0 : Int32).toInt = 0); have ka1 := (by decide +kernel : (1 : Int32).toInt = 1); omega)) (by first | omega | decide | (have ka0 := (by decide +kernel : (0 : Int32).toInt = 0); have ka1 := (by decide +kernel : (1 : Int32).toInt = 1); omega)) (by first | omega | decide | (have ka0 := (by decide +kernel : (0 : Int32).toInt = 0); have ka1 := (by decide +kernel : (1 : Int32).toInt = 1); omega)) (by first | omega | decide | (have ka0 := (by decide +kernel : (0 : Int32).toInt = 0); have ka1 := (by decide +kernel : (1 : Int32).toInt = 1); omega)) (by first | omega | decide | (have ka0 := (by decide +kernel : (0 : Int32).toInt = 0); have ka1 := (by decide +kernel : (1 : Int32).toInt = 1); omega)) (by first | omega | decide | (have ka0 := (by decide +kernel : (0 : Int32).toInt = 0); have ka1 := (by decide +kernel : (1 : Int32).toInt = 1); omega)) (by first | omega | decide | (have ka0 := (by decide +kernel : (0 : Int32).toInt = 0); have ka1 := (by decide +kernel : (1 : Int32).toInt = 1); omega)) (by first | omega | decide | (have ka0 := (by decide +kernel : (0 : Int32).toInt = 0); have ka1 := (by decide +kernel : (1 : Int32).toInt = 1); omega)) (by first | omega | decide | (have ka0 := (by decide +kernel : (0 : Int32).toInt = 0); have ka1 := (by decide +kernel : (1 : Int32).toInt = 1); omega)) hI hF hG_8 hw_w7 hw_w8 hw_w9 hw_w10 hP_7 hD_9 hS_6 (lv_sub hl [0] rfl)
    · have c11 := j_nle (a := v5.toInt) (b := 2) rfl (by decide +kernel) c11
      refine lv_aload_n hx hb dX2_refresh_42 rfl (lv_at hl 0 rfl) ?_
      refine gf (k := 4) hx hb hts inX2 hown hK hP_7 k_179 rfl (by decide) rfl 11 rfl (.ref (ad 25)) rfl dX2_refresh_43 ?_
      have kc0 : (0 : Int32).toInt = 0 := by decide +kernel
      have hM := m106_X0_search l dC dI cI cJ cII cJJ H_10.size 0 ad f3_unknowns f3_equations f2_roundSupports 0 v3 v5 f5_keptSize f5_aheadSize f0_solved f4_blockCount f4_blockLength f4_lastIsFree f4_stale ai al6 w7 w8 w9 w10 (by omega) (by omega) (by decide +kernel) (by omega) (by omega) (by omega) (by omega) (by omega) (by omega) (by omega) (by omega) hI hw_w7 hw_w8 hw_w9 hw_w10
      refine k2V_v (q0 := 25) ⟨hx, hb, hml, hown, hts⟩ hK hP_7 hD_9 hS_6 hA hX cv_RX2_60 hM ⟨by decide +kernel, by decide +kernel⟩ rfl rfl (Or.inl rfl) (rest := []) rfl rfl rfl hl.1 rfl (Nat.le_of_ble_eq_true rfl) dX2_refresh_46 ⟨Nat.le_of_ble_eq_true rfl, Nat.le_of_ble_eq_true rfl⟩ (fun t H1 locs_11 ht hB hS_11 hFc => ?_)
      obtain ⟨v15, v16, ai17, al18, ⟨gpr14_0, gpr14_1, hI_12, hFr_r14, hGr_r14⟩, hP_12, -, hD_12⟩ := hB
      have hF_13 := FR_tr hF hFr_r14 (by decide)
      have hG_14 := FL_tr hG_8 hGr_r14 (by decide)
      rw [ht] at hP_12
      have hD_15 := hD_12.weaken (B := A) (fun k q _ h9 => hFc q.1 h9)
      clear ht
      generalize H1 = H_16 at hP_12 hS_11 ⊢
      refine lv_goto (tgt := 134) hx hb dX2_refresh_49 (by decide) ?_
      exact m163_X2_refresh_b134 C  f2_roundSupports 0 v15 v5 f5_keptSize f5_aheadSize v16 ai17 al18 w7 w8 w9 w10 _ _ _ (by first | omega | decide | (have ka0 := (by decide +kernel : (0 : Int32).toInt = 0); omega)) (by first | omega | decide | (have ka0 := (by decide +kernel : (0 : Int32).toInt = 0); omega)) (by first | omega | decide | (have ka0 := (by decide +kernel : (0 : Int32).toInt = 0); omega)) (by first | omega | decide | (have ka0 := (by decide +kernel : (0 : Int32).toInt = 0); omega)) (by first | omega | decide | (have ka0 := (by decide +kernel : (0 : Int32).toInt = 0); omega)) (by first | omega | decide | (have ka0 := (by decide +kernel : (0 : Int32).toInt = 0); omega)) (by first | omega | decide | (have ka0 := (by decide +kernel : (0 : Int32).toInt = 0); omega)) (by first | omega | decide | (have ka0 := (by decide +kernel : (0 : Int32).toInt = 0); omega)) (by first | omega | decide | (have ka0 := (by decide +kernel : (0 : Int32).toInt = 0); omega)) (by first | omega | decide | (have ka0 := (by decide +kernel : (0 : Int32).toInt = 0); omega)) (by first | omega | decide | (have ka0 := (by decide +kernel : (0 : Int32).toInt = 0); omega)) hI_12 hF_13 hG_14 hw_w7 hw_w8 hw_w9 hw_w10 hP_12 hD_15 hS_11 (lv_sub hl [0] rfl)
  · have c1 := j_eq (a := f2_stale.toInt) (b := 0) rfl (by decide +kernel) c1
    exact r2_v hx hb hr hk hS dX2_refresh_7 (fun t ht hW => ⟨f2_roundSupports, f2_stale, f7_size, f1_size, f5_keptSize, f5_aheadSize, f0_solved, ai, al, w0, w1, w2, w3, ⟨(by first | omega | decide | exact Or.inl (by decide) | exact Or.inr (by decide) | exact Or.inr (by omega)), (by first | omega | decide | exact Or.inl (by decide) | exact Or.inr (by decide) | exact Or.inr (by omega)), (by first | omega | decide | exact Or.inl (by decide) | exact Or.inr (by decide) | exact Or.inr (by omega)), (by first | omega | decide | exact Or.inl (by decide) | exact Or.inr (by decide) | exact Or.inr (by omega)), (by first | omega | decide | exact Or.inl (by decide) | exact Or.inr (by decide) | exact Or.inr (by omega)), hI, hF, hG, hw_w0, hw_w1, hw_w2, hw_w3⟩, by rw [ht]; exact hP, va_K.moved hW.alike hK, hD⟩)
