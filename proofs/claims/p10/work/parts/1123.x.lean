def Q_m152_X5_walk (dC : Nat → ClassId) (dI : Nat → Nat → Nat) (cI cJ cII cJJ : ClassId) (ad : Nat → Nat) (f3_unknowns f3_equations f2_roundSupports f2_stale f7_size f1_size f0_solved f4_blockCount f4_blockLength f4_lastIsFree f4_stale : Int32) (ai0 : Nat → Nat → Int32) (al : Nat → Nat → Int64) (w0 w1 w2 w3 : Nat) : (Nat → Prop) → Array Value → State → Outcome → State → Prop := fun A => QV (fun t => ∃ (n_f5_keptSize n_f5_aheadSize : Int32), ∃ (n_ai : Nat → Nat → Int32), ((0 ≤ n_f5_keptSize.toInt ∧ n_f5_keptSize.toInt ≤ 127) ∧ (0 ≤ n_f5_aheadSize.toInt ∧ n_f5_aheadSize.toInt ≤ 128) ∧ IAX n_ai ∧ FR [23, 24] ai0 n_ai) ∧ WO dC dI (TY cI cJ cII cJJ) (WX cI cJ cII cJJ ad f3_unknowns f3_equations f2_roundSupports f2_stale f7_size f1_size n_f5_keptSize n_f5_aheadSize f0_solved f4_blockCount f4_blockLength f4_lastIsFree f4_stale n_ai al w0 w1 w2 w3) A t) A
set_option maxRecDepth 100000 in
set_option maxHeartbeats 4000000 in
theorem m152_X5_walk_b107 {p : Program} {l : Launch} {e : Env} {s : State} {m : MethodId} {args : Array Value} {below : List Frame} {meth : Method} {c : Code} {A : Nat → Prop} {dC : Nat → ClassId} {dI : Nat → Nat → Nat} {cI cJ cII cJJ : ClassId} {ad : Nat → Nat} {g : Nat} {f3_unknowns f3_equations f2_roundSupports f2_stale f7_size f1_size f0_solved f4_blockCount f4_blockLength f4_lastIsFree f4_stale : Int32} {ai0 : Nat → Nat → Int32} {al : Nat → Nat → Int64} {w0 w1 w2 w3 : Nat} (C : Cx p c s m meth args A dC dI (TY cI cJ cII cJJ) cX5_walk none 7 RX5 0 g) : ∀ (L3 L4 f5_keptSize f5_aheadSize : Int32) (ai : Nat → Nat → Int32) (H : Heap) (locs : List Loc) (ls : Array Slot), (1 ≤ L3.toInt ∧ L3.toInt ≤ 1) → (0 ≤ L4.toInt ∧ L4.toInt ≤ 100000) → (1 ≤ f3_unknowns.toInt ∧ f3_unknowns.toInt ≤ 4) → (0 ≤ f3_equations.toInt ∧ f3_equations.toInt ≤ 3) → (0 ≤ f2_stale.toInt ∧ f2_stale.toInt ≤ 1) → (0 ≤ f7_size.toInt ∧ f7_size.toInt ≤ 256) → (0 ≤ f1_size.toInt ∧ f1_size.toInt ≤ 4) → (1 ≤ f5_keptSize.toInt ∧ f5_keptSize.toInt ≤ 128) → (0 ≤ f5_aheadSize.toInt ∧ f5_aheadSize.toInt ≤ 128) → (0 ≤ f4_blockCount.toInt ∧ f4_blockCount.toInt ≤ 9261) → (0 ≤ f4_blockLength.toInt ∧ f4_blockLength.toInt ≤ 21) → (0 ≤ f4_lastIsFree.toInt ∧ f4_lastIsFree.toInt ≤ 1) → (0 ≤ f4_stale.toInt ∧ f4_stale.toInt ≤ 1) → IAX ai → FR [23, 24] ai0 ai → RWX ad w0 → RWX ad w1 → RWX ad w2 → RWX ad w3 → va_P (dC, dI) vwCl (WX cI cJ cII cJJ ad f3_unknowns f3_equations f2_roundSupports f2_stale f7_size f1_size f5_keptSize f5_aheadSize f0_solved f4_blockCount f4_blockLength f4_lastIsFree f4_stale ai al w0 w1 w2 w3) H → va_D A (WX cI cJ cII cJJ ad f3_unknowns f3_equations f2_roundSupports f2_stale f7_size f1_size f5_keptSize f5_aheadSize f0_solved f4_blockCount f4_blockLength f4_lastIsFree f4_stale ai al w0 w1 w2 w3) → va_S A s.heap H locs → lv_has ls 7 [(0, .ref (ad 22)), (1, .ref (ad 17)), (2, .ref (ad 17)), (3, .int L3), (4, .int L4)] → W p l e ({ frames := 3, cells := 0, slots := 0, locals := 140 } : Room) s m args below meth c H locs 0 0 (MQ below (Q_m152_X5_walk dC dI cI cJ cII cJJ ad f3_unknowns f3_equations f2_roundSupports f2_stale f7_size f1_size f0_solved f4_blockCount f4_blockLength f4_lastIsFree f4_stale ai0 al w0 w1 w2 w3 A) args s 0 0 A) (F0 m 107 ls []) := by
  obtain ⟨hx, hb, hr, hml, hown, hts, hk, hA, hK, hX⟩ := id C
  intro L3 L4 f5_keptSize f5_aheadSize ai H locs ls h0 h1 h2 h3 h4 h5 h6 h7 h8 h9 h10 h11 h12 hI hF hw_w0 hw_w1 hw_w2 hw_w3 hP hD hS hl
  refine lv_aload_n hx hb dX5_walk_107 rfl (lv_at hl 0 rfl) ?_
  refine lv_dup hx hb dX5_walk_108 rfl ?_
  refine gf (k := 2) hx hb hts inX5 hown hK hP k_139 rfl (by decide) rfl 22 rfl (.int f5_keptSize) rfl dX5_walk_109 ?_
  refine lv_iconst (v := 1) hx hb dX5_walk_112 (by decide) ?_
  refine v_isub hx hb dX5_walk_113 _ rfl ?_
  refine lv_topi (fun z1 e_z1 => ?_)
  have g_z1 : z1.toInt = f5_keptSize.toInt - 1 := by rw [e_z1]; exact n_sub (a := f5_keptSize.toInt) (b := 1) rfl (by decide +kernel) (by omega) (by omega)
  refine pf (k := 2) hx hb hts inX5 tyX5_ok nmX5 hown hK hP hD hS k_139 rfl (by decide) rfl rfl 22 rfl rfl rfl (Nat.le_of_ble_eq_true rfl) dX5_walk_114 (W' := (WX cI cJ cII cJJ ad f3_unknowns f3_equations f2_roundSupports f2_stale f7_size f1_size z1 f5_aheadSize f0_solved f4_blockCount f4_blockLength f4_lastIsFree f4_stale ai al w0 w1 w2 w3)) rfl (fun H_1 locs_1 hP_1 hD_1 hS_1 => ?_)
  exact r2_v hx hb hr hk hS_1 dX5_walk_117 (fun t ht hW => ⟨z1, f5_aheadSize, ai, ⟨(by first | omega | decide | exact Or.inl (by decide) | exact Or.inr (by decide) | exact Or.inr (by omega)), (by first | omega | decide | exact Or.inl (by decide) | exact Or.inr (by decide) | exact Or.inr (by omega)), hI, hF⟩, by rw [ht]; exact hP_1, va_K.moved hW.alike hK, hD_1⟩)
set_option maxRecDepth 100000 in
set_option maxHeartbeats 4000000 in
theorem m152_X5_walk_b101 {p : Program} {l : Launch} {e : Env} {s : State} {m : MethodId} {args : Array Value} {below : List Frame} {meth : Method} {c : Code} {A : Nat → Prop} {dC : Nat → ClassId} {dI : Nat → Nat → Nat} {cI cJ cII cJJ : ClassId} {ad : Nat → Nat} {g : Nat} {f3_unknowns f3_equations f2_roundSupports f2_stale f7_size f1_size f0_solved f4_blockCount f4_blockLength f4_lastIsFree f4_stale : Int32} {ai0 : Nat → Nat → Int32} {al : Nat → Nat → Int64} {w0 w1 w2 w3 : Nat} (C : Cx p c s m meth args A dC dI (TY cI cJ cII cJJ) cX5_walk none 7 RX5 0 g) (n40 : Nat) (K40 : ∀ (L3 L4 f5_keptSize f5_aheadSize : Int32) (ai : Nat → Nat → Int32) (H : Heap) (locs : List Loc) (ls : Array Slot), (1 ≤ L3.toInt ∧ L3.toInt ≤ 1) → (0 ≤ L4.toInt ∧ L4.toInt ≤ 100000) → (1 ≤ f3_unknowns.toInt ∧ f3_unknowns.toInt ≤ 4) → (0 ≤ f3_equations.toInt ∧ f3_equations.toInt ≤ 3) → (0 ≤ f2_stale.toInt ∧ f2_stale.toInt ≤ 1) → (0 ≤ f7_size.toInt ∧ f7_size.toInt ≤ 256) → (0 ≤ f1_size.toInt ∧ f1_size.toInt ≤ 4) → (1 ≤ f5_keptSize.toInt ∧ f5_keptSize.toInt ≤ 128) → (0 ≤ f5_aheadSize.toInt ∧ f5_aheadSize.toInt ≤ 128) → (0 ≤ f4_blockCount.toInt ∧ f4_blockCount.toInt ≤ 9261) → (0 ≤ f4_blockLength.toInt ∧ f4_blockLength.toInt ≤ 21) → (0 ≤ f4_lastIsFree.toInt ∧ f4_lastIsFree.toInt ≤ 1) → (0 ≤ f4_stale.toInt ∧ f4_stale.toInt ≤ 1) → 10000 - L4.toInt < (n40 : Int) → (0 : Int) < (n40 : Int) → IAX ai → FR [23, 24] ai0 ai → RWX ad w0 → RWX ad w1 → RWX ad w2 → RWX ad w3 → va_P (dC, dI) vwCl (WX cI cJ cII cJJ ad f3_unknowns f3_equations f2_roundSupports f2_stale f7_size f1_size f5_keptSize f5_aheadSize f0_solved f4_blockCount f4_blockLength f4_lastIsFree f4_stale ai al w0 w1 w2 w3) H → va_D A (WX cI cJ cII cJJ ad f3_unknowns f3_equations f2_roundSupports f2_stale f7_size f1_size f5_keptSize f5_aheadSize f0_solved f4_blockCount f4_blockLength f4_lastIsFree f4_stale ai al w0 w1 w2 w3) → va_S A s.heap H locs → lv_has ls 7 [(0, .ref (ad 22)), (1, .ref (ad 17)), (2, .ref (ad 17)), (3, .int L3), (4, .int L4)] → W p l e ({ frames := 3, cells := 0, slots := 0, locals := 140 } : Room) s m args below meth c H locs 0 0 (MQ below (Q_m152_X5_walk dC dI cI cJ cII cJJ ad f3_unknowns f3_equations f2_roundSupports f2_stale f7_size f1_size f0_solved f4_blockCount f4_blockLength f4_lastIsFree f4_stale ai0 al w0 w1 w2 w3 A) args s 0 0 A) (F0 m 40 ls [])) : ∀ (L3 L4 L5 L6 f5_keptSize f5_aheadSize : Int32) (ai : Nat → Nat → Int32) (H : Heap) (locs : List Loc) (ls : Array Slot), (1 ≤ L3.toInt ∧ L3.toInt ≤ 1) → (0 ≤ L4.toInt ∧ L4.toInt ≤ 99999) → (0 ≤ L5.toInt ∧ L5.toInt ≤ 5999) → (0 ≤ L6.toInt ∧ L6.toInt ≤ 5999) → (1 ≤ f3_unknowns.toInt ∧ f3_unknowns.toInt ≤ 4) → (0 ≤ f3_equations.toInt ∧ f3_equations.toInt ≤ 3) → (0 ≤ f2_stale.toInt ∧ f2_stale.toInt ≤ 1) → (0 ≤ f7_size.toInt ∧ f7_size.toInt ≤ 256) → (0 ≤ f1_size.toInt ∧ f1_size.toInt ≤ 4) → (1 ≤ f5_keptSize.toInt ∧ f5_keptSize.toInt ≤ 128) → (0 ≤ f5_aheadSize.toInt ∧ f5_aheadSize.toInt ≤ 128) → (0 ≤ f4_blockCount.toInt ∧ f4_blockCount.toInt ≤ 9261) → (0 ≤ f4_blockLength.toInt ∧ f4_blockLength.toInt ≤ 21) → (0 ≤ f4_lastIsFree.toInt ∧ f4_lastIsFree.toInt ≤ 1) → (0 ≤ f4_stale.toInt ∧ f4_stale.toInt ≤ 1) → L4.toInt < 10000 → 10000 - L4.toInt ≤ (n40 : Int) → IAX ai → FR [23, 24] ai0 ai → RWX ad w0 → RWX ad w1 → RWX ad w2 → RWX ad w3 → va_P (dC, dI) vwCl (WX cI cJ cII cJJ ad f3_unknowns f3_equations f2_roundSupports f2_stale f7_size f1_size f5_keptSize f5_aheadSize f0_solved f4_blockCount f4_blockLength f4_lastIsFree f4_stale ai al w0 w1 w2 w3) H → va_D A (WX cI cJ cII cJJ ad f3_unknowns f3_equations f2_roundSupports f2_stale f7_size f1_size f5_keptSize f5_aheadSize f0_solved f4_blockCount f4_blockLength f4_lastIsFree f4_stale ai al w0 w1 w2 w3) → va_S A s.heap H locs → lv_has ls 7 [(0, .ref (ad 22)), (1, .ref (ad 17)), (2, .ref (ad 17)), (3, .int L3), (4, .int L4), (5, .int L5), (6, .int L6)] → W p l e ({ frames := 3, cells := 0, slots := 0, locals := 140 } : Room) s m args below meth c H locs 0 0 (MQ below (Q_m152_X5_walk dC dI cI cJ cII cJJ ad f3_unknowns f3_equations f2_roundSupports f2_stale f7_size f1_size f0_solved f4_blockCount f4_blockLength f4_lastIsFree f4_stale ai0 al w0 w1 w2 w3 A) args s 0 0 A) (F0 m 101 ls []) := by
  obtain ⟨hx, hb, hr, hml, hown, hts, hk, hA, hK, hX⟩ := id C
  intro L3 L4 L5 L6 f5_keptSize f5_aheadSize ai H locs ls h0 h1 h2 h3 h4 h5 h6 h7 h8 h9 h10 h11 h12 h13 h14 h15 h16 hI hF hw_w0 hw_w1 hw_w2 hw_w3 hP hD hS hl
  obtain ⟨z1, e_z1⟩ : ∃ q : Int32, q = L4 + Int32.ofInt 1 := ⟨_, rfl⟩
  have g_z1 : z1.toInt = L4.toInt + 1 := by rw [e_z1]; exact n_add (a := L4.toInt) (b := 1) rfl (by decide +kernel) (by omega) (by omega)
  refine lv_iinc (v := z1) (lv' := [(4, .int z1), (0, .ref (ad 22)), (1, .ref (ad 17)), (2, .ref (ad 17)), (3, .int L3), (5, .int L5), (6, .int L6)]) hx hb dX5_walk_101 hl (k := 4) rfl e_z1.symm (by decide) rfl (fun ls_1 hl_1 => ?_)
  refine lv_goto (tgt := 40) hx hb dX5_walk_104 (by decide) ?_
  exact K40 L3 z1 f5_keptSize f5_aheadSize ai _ _ _ (by omega) (by omega) (by omega) (by omega) (by omega) (by omega) (by omega) (by omega) (by omega) (by omega) (by omega) (by omega) (by omega) (by omega) (by omega) hI hF hw_w0 hw_w1 hw_w2 hw_w3 hP hD hS (lv_sub hl_1 [1, 2, 3, 4, 0] rfl)
set_option maxRecDepth 100000 in
set_option maxHeartbeats 4000000 in
theorem m152_X5_walk_b40 {p : Program} {l : Launch} {e : Env} {s : State} {m : MethodId} {args : Array Value} {below : List Frame} {meth : Method} {c : Code} {A : Nat → Prop} {dC : Nat → ClassId} {dI : Nat → Nat → Nat} {cI cJ cII cJJ : ClassId} {ad : Nat → Nat} {g : Nat} {f3_unknowns f3_equations f2_roundSupports f2_stale f7_size f1_size f0_solved f4_blockCount f4_blockLength f4_lastIsFree f4_stale : Int32} {ai0 : Nat → Nat → Int32} {al : Nat → Nat → Int64} {w0 w1 w2 w3 : Nat} (C : Cx p c s m meth args A dC dI (TY cI cJ cII cJJ) cX5_walk none 7 RX5 0 g) : ∀ (n : Nat), ∀ (L3 L4 f5_keptSize f5_aheadSize : Int32) (ai : Nat → Nat → Int32) (H : Heap) (locs : List Loc) (ls : Array Slot), (1 ≤ L3.toInt ∧ L3.toInt ≤ 1) → (0 ≤ L4.toInt ∧ L4.toInt ≤ 100000) → (1 ≤ f3_unknowns.toInt ∧ f3_unknowns.toInt ≤ 4) → (0 ≤ f3_equations.toInt ∧ f3_equations.toInt ≤ 3) → (0 ≤ f2_stale.toInt ∧ f2_stale.toInt ≤ 1) → (0 ≤ f7_size.toInt ∧ f7_size.toInt ≤ 256) → (0 ≤ f1_size.toInt ∧ f1_size.toInt ≤ 4) → (1 ≤ f5_keptSize.toInt ∧ f5_keptSize.toInt ≤ 128) → (0 ≤ f5_aheadSize.toInt ∧ f5_aheadSize.toInt ≤ 128) → (0 ≤ f4_blockCount.toInt ∧ f4_blockCount.toInt ≤ 9261) → (0 ≤ f4_blockLength.toInt ∧ f4_blockLength.toInt ≤ 21) → (0 ≤ f4_lastIsFree.toInt ∧ f4_lastIsFree.toInt ≤ 1) → (0 ≤ f4_stale.toInt ∧ f4_stale.toInt ≤ 1) → 10000 - L4.toInt < (n : Int) → (0 : Int) < (n : Int) → IAX ai → FR [23, 24] ai0 ai → RWX ad w0 → RWX ad w1 → RWX ad w2 → RWX ad w3 → va_P (dC, dI) vwCl (WX cI cJ cII cJJ ad f3_unknowns f3_equations f2_roundSupports f2_stale f7_size f1_size f5_keptSize f5_aheadSize f0_solved f4_blockCount f4_blockLength f4_lastIsFree f4_stale ai al w0 w1 w2 w3) H → va_D A (WX cI cJ cII cJJ ad f3_unknowns f3_equations f2_roundSupports f2_stale f7_size f1_size f5_keptSize f5_aheadSize f0_solved f4_blockCount f4_blockLength f4_lastIsFree f4_stale ai al w0 w1 w2 w3) → va_S A s.heap H locs → lv_has ls 7 [(0, .ref (ad 22)), (1, .ref (ad 17)), (2, .ref (ad 17)), (3, .int L3), (4, .int L4)] → W p l e ({ frames := 3, cells := 0, slots := 0, locals := 140 } : Room) s m args below meth c H locs 0 0 (MQ below (Q_m152_X5_walk dC dI cI cJ cII cJJ ad f3_unknowns f3_equations f2_roundSupports f2_stale f7_size f1_size f0_solved f4_blockCount f4_blockLength f4_lastIsFree f4_stale ai0 al w0 w1 w2 w3 A) args s 0 0 A) (F0 m 40 ls []) := by
  obtain ⟨hx, hb, hr, hml, hown, hts, hk, hA, hK, hX⟩ := id C
  intro n
  induction n with
  | zero =>
    intro L3 L4 f5_keptSize f5_aheadSize ai H locs ls h0 h1 h2 h3 h4 h5 h6 h7 h8 h9 h10 h11 h12 h13 h14 hI hF hw_w0 hw_w1 hw_w2 hw_w3 hP hD hS hl
    exact absurd h14 (by omega)
  | succ n ih =>
    intro L3 L4 f5_keptSize f5_aheadSize ai H locs ls h0 h1 h2 h3 h4 h5 h6 h7 h8 h9 h10 h11 h12 h13 h14 hI hF hw_w0 hw_w1 hw_w2 hw_w3 hP hD hS hl
    refine lv_iload hx hb dX5_walk_40 (lv_at hl 4 rfl) ?_
    refine lv_sipush (v := 10000) hx hb dX5_walk_42 (by decide) ?_
    refine lv_icmp_ge (tgt := 107) hx hb dX5_walk_45 (by decide) (fun c1 => ?_) (fun c1 => ?_)
    · have c1 := j_le (a := 10000) (b := L4.toInt) (by decide +kernel) rfl c1
      exact m152_X5_walk_b107 C  L3 L4 f5_keptSize f5_aheadSize ai _ _ _ (by omega) (by omega) (by omega) (by omega) (by omega) (by omega) (by omega) (by omega) (by omega) (by omega) (by omega) (by omega) (by omega) hI hF hw_w0 hw_w1 hw_w2 hw_w3 hP hD hS (lv_sub hl [0, 1, 2, 3, 4] rfl)
    · have c1 := j_nle (a := 10000) (b := L4.toInt) (by decide +kernel) rfl c1
      refine lv_aload_n hx hb dX5_walk_48 rfl (lv_at hl 0 rfl) ?_
      refine gf (k := 3) hx hb hts inX5 hown hK hP k_140 rfl (by decide) rfl 22 rfl (.int f5_aheadSize) rfl dX5_walk_49 ?_
      refine lv_if_le (tgt := 107) hx hb dX5_walk_52 (by decide) (fun c2 => ?_) (fun c2 => ?_)
      · have c2 := j_le (a := f5_aheadSize.toInt) (b := 0) rfl (by decide +kernel) c2
        exact m152_X5_walk_b107 C  L3 L4 f5_keptSize f5_aheadSize ai _ _ _ (by omega) (by omega) (by omega) (by omega) (by omega) (by omega) (by omega) (by omega) (by omega) (by omega) (by omega) (by omega) (by omega) hI hF hw_w0 hw_w1 hw_w2 hw_w3 hP hD hS (lv_sub hl [0, 1, 2, 3, 4] rfl)
      · have c2 := j_nle (a := f5_aheadSize.toInt) (b := 0) rfl (by decide +kernel) c2
        refine lv_aload_n hx hb dX5_walk_55 rfl (lv_at hl 0 rfl) ?_
        refine gf (k := 2) hx hb hts inX5 hown hK hP k_139 rfl (by decide) rfl 22 rfl (.int f5_keptSize) rfl dX5_walk_56 ?_
        refine lv_iconst (v := 1) hx hb dX5_walk_59 (by decide) ?_
        refine v_isub hx hb dX5_walk_60 _ rfl ?_
        refine lv_topi (fun z3 e_z3 => ?_)
        have g_z3 : z3.toInt = f5_keptSize.toInt - 1 := by rw [e_z3]; exact n_sub (a := f5_keptSize.toInt) (b := 1) rfl (by decide +kernel) (by omega) (by omega)
        refine lv_iconst (v := 4) hx hb dX5_walk_61 (by decide) ?_
        refine v_imul hx hb dX5_walk_62 _ rfl ?_
        refine lv_topi (fun z4 e_z4 => ?_)
        have g_z4 : z4.toInt = z3.toInt * 4 := by rw [e_z4]; exact n_mul (a := z3.toInt) (b := 4) rfl (by decide +kernel) (by omega) (by omega)
        refine lv_istore (lv' := [(5, .int z4), (0, .ref (ad 22)), (1, .ref (ad 17)), (2, .ref (ad 17)), (3, .int L3), (4, .int L4)]) hx hb dX5_walk_63 hl (by decide) rfl (fun ls_1 hl_1 => ?_)
        refine lv_aload_n hx hb dX5_walk_65 rfl (lv_at hl_1 1 rfl) ?_
        refine gf (k := 3) hx hb hts inX5 hown hK hP k_140 rfl (by decide) rfl 22 rfl (.int f5_aheadSize) rfl dX5_walk_66 ?_
        refine lv_iconst (v := 1) hx hb dX5_walk_69 (by decide) ?_
        refine v_isub hx hb dX5_walk_70 _ rfl ?_
        refine lv_topi (fun z5 e_z5 => ?_)
        have g_z5 : z5.toInt = f5_aheadSize.toInt - 1 := by rw [e_z5]; exact n_sub (a := f5_aheadSize.toInt) (b := 1) rfl (by decide +kernel) (by omega) (by omega)
        refine lv_iconst (v := 4) hx hb dX5_walk_71 (by decide) ?_
        refine v_imul hx hb dX5_walk_72 _ rfl ?_
        refine lv_topi (fun z6 e_z6 => ?_)
        have g_z6 : z6.toInt = z5.toInt * 4 := by rw [e_z6]; exact n_mul (a := z5.toInt) (b := 4) rfl (by decide +kernel) (by omega) (by omega)
        refine lv_istore (lv' := [(6, .int z6), (5, .int z4), (0, .ref (ad 22)), (1, .ref (ad 17)), (2, .ref (ad 17)), (3, .int L3), (4, .int L4)]) hx hb dX5_walk_73 hl_1 (by decide) rfl (fun ls_2 hl_2 => ?_)
        refine lv_aload_n hx hb dX5_walk_75 rfl (lv_at hl_2 2 rfl) ?_
        refine lv_iload hx hb dX5_walk_76 (lv_at hl_2 1 rfl) ?_
        refine lv_iload hx hb dX5_walk_78 (lv_at hl_2 0 rfl) ?_
        have hM := m068_X5_haveOppositeSigns l dC dI cI cJ cII cJJ H.size 0 ad f3_unknowns f3_equations f2_roundSupports f2_stale f7_size f1_size f5_keptSize f5_aheadSize f0_solved f4_blockCount f4_blockLength f4_lastIsFree f4_stale ai al w0 w1 w2 w3 z4 z6 (by omega) (by omega) (by omega) (by omega) (by omega) (by omega) (by omega) (by omega) (by omega) (by omega) (by omega) (by omega) (by omega) hI hw_w0 hw_w1 hw_w2 hw_w3
        refine k2V_i (q0 := 22) ⟨hx, hb, hml, hown, hts⟩ hK hP hD hS hA hX cv_RX5_32 hM ⟨by decide +kernel, by decide +kernel⟩ rfl rfl (Or.inl rfl) (rest := []) rfl rfl rfl hl_2.1 rfl (Nat.le_of_ble_eq_true rfl) dX5_walk_80 ⟨Nat.le_of_ble_eq_true rfl, Nat.le_of_ble_eq_true rfl⟩ (fun r7 t H1 locs_3 ht hB hS_3 hFc => ?_)
        obtain ⟨gpr7_0, hP_4, -, hD_4⟩ := hB
        rw [ht] at hP_4
        have hD_5 := hD_4.weaken (B := A) (fun k q _ h9 => hFc q.1 h9)
        clear ht
        generalize H1 = H_6 at hP_4 hS_3 ⊢
        refine lv_if_eq (tgt := 97) hx hb dX5_walk_83 (by decide) (fun c8 => ?_) (fun c8 => ?_)
        · have c8 := j_eq (a := r7.toInt) (b := 0) rfl (by decide +kernel) c8
          refine lv_aload_n hx hb dX5_walk_97 rfl (lv_at hl_2 2 rfl) ?_
          have hM := m067_X5_keepNext l dC dI cI cJ cII cJJ H_6.size 0 ad f3_unknowns f3_equations f2_roundSupports f2_stale f7_size f1_size f5_keptSize f5_aheadSize f0_solved f4_blockCount f4_blockLength f4_lastIsFree f4_stale ai al w0 w1 w2 w3 (by omega) (by omega) (by omega) (by omega) (by omega) (by omega) (by omega) (by omega) (by omega) (by omega) (by omega) hI hw_w0 hw_w1 hw_w2 hw_w3
          refine k2V_v (q0 := 22) ⟨hx, hb, hml, hown, hts⟩ hK hP_4 hD_5 hS_3 hA hX cv_RX5_29 hM ⟨by decide +kernel, by decide +kernel⟩ rfl rfl (Or.inl rfl) (rest := []) rfl rfl rfl hl_2.1 rfl (Nat.le_of_ble_eq_true rfl) dX5_walk_98 ⟨Nat.le_of_ble_eq_true rfl, Nat.le_of_ble_eq_true rfl⟩ (fun t H1 locs_7 ht hB hS_7 hFc => ?_)
          obtain ⟨v10, v11, ai12, ⟨gpr9_0, gpr9_1, gpr9_2, hI_8, hFr_r9⟩, hP_8, -, hD_8⟩ := hB
          have hF_9 := FR_tr hF hFr_r9 (by decide)
          rw [ht] at hP_8
          have hD_10 := hD_8.weaken (B := A) (fun k q _ h9 => hFc q.1 h9)
          clear ht
          generalize H1 = H_11 at hP_8 hS_7 ⊢
          exact m152_X5_walk_b101 C n ih L3 L4 z4 z6 v10 v11 ai12 _ _ _ (by omega) (by omega) (by omega) (by omega) (by omega) (by omega) (by omega) (by omega) (by omega) (by omega) (by omega) (by omega) (by omega) (by omega) (by omega) (by omega) (by omega) hI_8 hF_9 hw_w0 hw_w1 hw_w2 hw_w3 hP_8 hD_10 hS_7 (lv_sub hl_2 [2, 3, 4, 5, 6, 1, 0] rfl)
        · have c8 := j_ne (a := r7.toInt) (b := 0) rfl (by decide +kernel) c8
          refine lv_aload_n hx hb dX5_walk_86 rfl (lv_at hl_2 2 rfl) ?_
          refine lv_iload hx hb dX5_walk_87 (lv_at hl_2 1 rfl) ?_
          refine lv_iload hx hb dX5_walk_89 (lv_at hl_2 0 rfl) ?_
          have hM := m066_X5_pushSum l dC dI cI cJ cII cJJ H_6.size 0 ad f3_unknowns f3_equations f2_roundSupports f2_stale f7_size f1_size f5_keptSize f5_aheadSize f0_solved f4_blockCount f4_blockLength f4_lastIsFree f4_stale ai al w0 w1 w2 w3 z4 z6 (by omega) (by omega) (by omega) (by omega) (by omega) (by omega) (by omega) (by omega) (by omega) (by omega) (by omega) (by omega) (by omega) hI hw_w0 hw_w1 hw_w2 hw_w3
          refine k2V_v (q0 := 22) ⟨hx, hb, hml, hown, hts⟩ hK hP_4 hD_5 hS_3 hA hX cv_RX5_36 hM ⟨by decide +kernel, by decide +kernel⟩ rfl rfl (Or.inl rfl) (rest := []) rfl rfl rfl hl_2.1 rfl (Nat.le_of_ble_eq_true rfl) dX5_walk_91 ⟨Nat.le_of_ble_eq_true rfl, Nat.le_of_ble_eq_true rfl⟩ (fun t H1 locs_12 ht hB hS_12 hFc => ?_)
          obtain ⟨v14, ai15, ⟨gpr13_0, gpr13_1, hI_13, hFr_r13⟩, hP_13, -, hD_13⟩ := hB
          have hF_14 := FR_tr hF hFr_r13 (by decide)
          rw [ht] at hP_13
          have hD_15 := hD_13.weaken (B := A) (fun k q _ h9 => hFc q.1 h9)
          clear ht
          generalize H1 = H_16 at hP_13 hS_12 ⊢
          refine lv_goto (tgt := 101) hx hb dX5_walk_94 (by decide) ?_
          exact m152_X5_walk_b101 C n ih L3 L4 z4 z6 f5_keptSize v14 ai15 _ _ _ (by omega) (by omega) (by omega) (by omega) (by omega) (by omega) (by omega) (by omega) (by omega) (by omega) (by omega) (by omega) (by omega) (by omega) (by omega) (by omega) (by omega) hI_13 hF_14 hw_w0 hw_w1 hw_w2 hw_w3 hP_13 hD_15 hS_12 (lv_sub hl_2 [2, 3, 4, 5, 6, 1, 0] rfl)
set_option maxRecDepth 100000 in
set_option maxHeartbeats 4000000 in
theorem m152_X5_walk (l : Launch) (dC : Nat → ClassId) (dI : Nat → Nat → Nat) (cI cJ cII cJJ : ClassId) (sz g : Nat) (ad : Nat → Nat) (f3_unknowns f3_equations f2_roundSupports f2_stale f7_size f1_size f5_keptSize f5_aheadSize f0_solved f4_blockCount f4_blockLength f4_lastIsFree f4_stale : Int32) (ai : Nat → Nat → Int32) (al : Nat → Nat → Int64) (w0 w1 w2 w3 : Nat) (x3 : Int32) (h_x3 : (0 ≤ x3.toInt ∧ x3.toInt ≤ 1)) (h_f3_unknowns : (1 ≤ f3_unknowns.toInt ∧ f3_unknowns.toInt ≤ 4)) (h_f3_equations : (0 ≤ f3_equations.toInt ∧ f3_equations.toInt ≤ 3)) (h_f2_stale : (0 ≤ f2_stale.toInt ∧ f2_stale.toInt ≤ 1)) (h_f7_size : (0 ≤ f7_size.toInt ∧ f7_size.toInt ≤ 256)) (h_f1_size : (0 ≤ f1_size.toInt ∧ f1_size.toInt ≤ 4)) (h_f5_keptSize : (0 ≤ f5_keptSize.toInt ∧ f5_keptSize.toInt ≤ 128)) (h_f5_aheadSize : (0 ≤ f5_aheadSize.toInt ∧ f5_aheadSize.toInt ≤ 128)) (h_f4_blockCount : (0 ≤ f4_blockCount.toInt ∧ f4_blockCount.toInt ≤ 9261)) (h_f4_blockLength : (0 ≤ f4_blockLength.toInt ∧ f4_blockLength.toInt ≤ 21)) (h_f4_lastIsFree : (0 ≤ f4_lastIsFree.toInt ∧ f4_lastIsFree.toInt ≤ 1)) (h_f4_stale : (0 ≤ f4_stale.toInt ∧ f4_stale.toInt ≤ 1)) (hI : IAX ai) (hw_w0 : RWX ad w0) (hw_w1 : RWX ad w1) (hw_w2 : RWX ad w2) (hw_w3 : RWX ad w3) : Met l yX5_walk (.code yX5_walk cX5_walk 7 none :: TT) ({ frames := 3, cells := 0, slots := 0, locals := 140 } : Room) (PcS dC dI (TY cI cJ cII cJJ) [.ref (ad 22), .ref (ad 17), .ref (ad 17), .int x3] (WX cI cJ cII cJJ ad f3_unknowns f3_equations f2_roundSupports f2_stale f7_size f1_size f5_keptSize f5_aheadSize f0_solved f4_blockCount f4_blockLength f4_lastIsFree f4_stale ai al w0 w1 w2 w3) sz 0 g) (Q_m152_X5_walk dC dI cI cJ cII cJJ ad f3_unknowns f3_equations f2_roundSupports f2_stale f7_size f1_size f0_solved f4_blockCount f4_blockLength f4_lastIsFree f4_stale ai al w0 w1 w2 w3 (va_A (WX cI cJ cII cJJ ad f3_unknowns f3_equations f2_roundSupports f2_stale f7_size f1_size f5_keptSize f5_aheadSize f0_solved f4_blockCount f4_blockLength f4_lastIsFree f4_stale ai al w0 w1 w2 w3) sz)) 0 0 (va_A (WX cI cJ cII cJJ ad f3_unknowns f3_equations f2_roundSupports f2_stale f7_size f1_size f5_keptSize f5_aheadSize f0_solved f4_blockCount f4_blockLength f4_lastIsFree f4_stale ai al w0 w1 w2 w3) sz) := by
  refine SM.of (y := yX5_walk) (maxL := 7) (av := [.ref (ad 22), .ref (ad 17), .ref (ad 17), .int x3]) (Q_m152_X5_walk dC dI cI cJ cII cJJ ad f3_unknowns f3_equations f2_roundSupports f2_stale f7_size f1_size f0_solved f4_blockCount f4_blockLength f4_lastIsFree f4_stale ai al w0 w1 w2 w3) (by decide +kernel) (Nat.le_of_ble_eq_true rfl) (fun p e s m below meth c A ls hx hb hr hml hown hts hk hnm hA hK hP hD hS hX hl => ?_)
  have C : Cx p c s m meth (([.ref (ad 22), .ref (ad 17), .ref (ad 17), .int x3] : List Value).toArray) A dC dI (TY cI cJ cII cJJ) cX5_walk none 7 RX5 0 g := ⟨hx, hb, hr, hml, hown, hts, hk, hA, hK, hX⟩
  have hown : s.vm.findClass RX5 = some m.cls := hown
  have hl : lv_has ls 7 [(0, .ref (ad 22)), (1, .ref (ad 17)), (2, .ref (ad 17)), (3, .int x3)] := hl
  obtain ⟨H, hH⟩ : ∃ q, q = s.heap := ⟨_, rfl⟩
  rw [← hH] at hP
  have hS : va_S A s.heap H [] := by rw [hH]; exact hS
  rw [← hH]
  have hF := FR_refl [23, 24] ai
  refine lv_aload_n hx hb dX5_walk_0 rfl (lv_at hl 0 rfl) ?_
  refine lv_iconst (v := 0) hx hb dX5_walk_1 (by decide) ?_
  refine pf (k := 2) hx hb hts inX5 tyX5_ok nmX5 hown hK hP hD hS k_139 rfl (by decide) rfl rfl 22 rfl rfl rfl (Nat.le_of_ble_eq_true rfl) dX5_walk_2 (W' := (WX cI cJ cII cJJ ad f3_unknowns f3_equations f2_roundSupports f2_stale f7_size f1_size 0 f5_aheadSize f0_solved f4_blockCount f4_blockLength f4_lastIsFree f4_stale ai al w0 w1 w2 w3)) rfl (fun H_1 locs_1 hP_1 hD_1 hS_1 => ?_)
  refine lv_aload_n hx hb dX5_walk_5 rfl (lv_at hl 0 rfl) ?_
  refine lv_iconst (v := 0) hx hb dX5_walk_6 (by decide) ?_
  refine pf (k := 3) hx hb hts inX5 tyX5_ok nmX5 hown hK hP_1 hD_1 hS_1 k_140 rfl (by decide) rfl rfl 22 rfl rfl rfl (Nat.le_of_ble_eq_true rfl) dX5_walk_7 (W' := (WX cI cJ cII cJJ ad f3_unknowns f3_equations f2_roundSupports f2_stale f7_size f1_size 0 0 f0_solved f4_blockCount f4_blockLength f4_lastIsFree f4_stale ai al w0 w1 w2 w3)) rfl (fun H_2 locs_2 hP_2 hD_2 hS_2 => ?_)
  refine lv_aload_n hx hb dX5_walk_10 rfl (lv_at hl 0 rfl) ?_
  refine lv_aload_n hx hb dX5_walk_11 rfl (lv_at hl 1 rfl) ?_
  refine lv_iconst (v := 1) hx hb dX5_walk_12 (by decide) ?_
  have kc0 : (0 : Int32).toInt = 0 := by decide +kernel
  have kc1 : (1 : Int32).toInt = 1 := by decide +kernel
  have hM := m069_X5_pushAhead l dC dI cI cJ cII cJJ H_2.size 0 ad f3_unknowns f3_equations f2_roundSupports f2_stale f7_size f1_size 0 0 f0_solved f4_blockCount f4_blockLength f4_lastIsFree f4_stale ai al w0 w1 w2 w3 1 (by omega) (by omega) (by omega) (by omega) (by omega) (by decide +kernel) (by decide +kernel) (by omega) (by omega) (by omega) (by omega) hI hw_w0 hw_w1 hw_w2 hw_w3
  refine k2V_v (q0 := 22) ⟨hx, hb, hml, hown, hts⟩ hK hP_2 hD_2 hS_2 hA hX cv_RX5_25 hM ⟨by decide +kernel, by decide +kernel⟩ rfl rfl (Or.inl rfl) (rest := []) rfl rfl rfl hl.1 rfl (Nat.le_of_ble_eq_true rfl) dX5_walk_13 ⟨Nat.le_of_ble_eq_true rfl, Nat.le_of_ble_eq_true rfl⟩ (fun t H1 locs_3 ht hB hS_3 hFc => ?_)
  obtain ⟨v2, ai3, ⟨gpr1_0, gpr1_1, hI_4, hFr_r1⟩, hP_4, -, hD_4⟩ := hB
  have hF_5 := FR_tr hF hFr_r1 (by decide)
  rw [ht] at hP_4
  have hD_6 := hD_4.weaken (B := A) (fun k q _ h9 => hFc q.1 h9)
  clear ht
  generalize H1 = H_7 at hP_4 hS_3 ⊢
  refine lv_aload_n hx hb dX5_walk_16 rfl (lv_at hl 0 rfl) ?_
  have kc0 : (0 : Int32).toInt = 0 := by decide +kernel
  have hM := m067_X5_keepNext l dC dI cI cJ cII cJJ H_7.size 0 ad f3_unknowns f3_equations f2_roundSupports f2_stale f7_size f1_size 0 v2 f0_solved f4_blockCount f4_blockLength f4_lastIsFree f4_stale ai3 al w0 w1 w2 w3 (by omega) (by omega) (by omega) (by omega) (by omega) (by decide +kernel) (by omega) (by omega) (by omega) (by omega) (by omega) hI_4 hw_w0 hw_w1 hw_w2 hw_w3
  refine k2V_v (q0 := 22) ⟨hx, hb, hml, hown, hts⟩ hK hP_4 hD_6 hS_3 hA hX cv_RX5_29 hM ⟨by decide +kernel, by decide +kernel⟩ rfl rfl (Or.inl rfl) (rest := []) rfl rfl rfl hl.1 rfl (Nat.le_of_ble_eq_true rfl) dX5_walk_17 ⟨Nat.le_of_ble_eq_true rfl, Nat.le_of_ble_eq_true rfl⟩ (fun t H1 locs_8 ht hB hS_8 hFc => ?_)
  obtain ⟨v5, v6, ai7, ⟨gpr4_0, gpr4_1, gpr4_2, hI_9, hFr_r4⟩, hP_9, -, hD_9⟩ := hB
  have hF_10 := FR_tr hF_5 hFr_r4 (by decide)
  rw [ht] at hP_9
  have hD_11 := hD_9.weaken (B := A) (fun k q _ h9 => hFc q.1 h9)
  clear ht
  generalize H1 = H_12 at hP_9 hS_8 ⊢
  refine lv_iload_n hx hb dX5_walk_20 rfl (lv_at hl 3 rfl) ?_
  refine lv_if_ne (tgt := 25) hx hb dX5_walk_21 (by decide) (fun c8 => ?_) (fun c8 => ?_)
  · have c8 := j_ne (a := x3.toInt) (b := 0) rfl (by decide +kernel) c8
    refine lv_aload_n hx hb dX5_walk_25 rfl (lv_at hl 0 rfl) ?_
    refine lv_aload_n hx hb dX5_walk_26 rfl (lv_at hl 1 rfl) ?_
    refine lv_iconst (v := (-1)) hx hb dX5_walk_27 (by decide) ?_
    have kcm1 : ((-1) : Int32).toInt = (-1) := by decide +kernel
    have hM := m069_X5_pushAhead l dC dI cI cJ cII cJJ H_12.size 0 ad f3_unknowns f3_equations f2_roundSupports f2_stale f7_size f1_size v5 v6 f0_solved f4_blockCount f4_blockLength f4_lastIsFree f4_stale ai7 al w0 w1 w2 w3 (-1) (by omega) (by omega) (by omega) (by omega) (by omega) (by omega) (by omega) (by omega) (by omega) (by omega) (by omega) hI_9 hw_w0 hw_w1 hw_w2 hw_w3
    refine k2V_v (q0 := 22) ⟨hx, hb, hml, hown, hts⟩ hK hP_9 hD_11 hS_8 hA hX cv_RX5_25 hM ⟨by decide +kernel, by decide +kernel⟩ rfl rfl (Or.inl rfl) (rest := []) rfl rfl rfl hl.1 rfl (Nat.le_of_ble_eq_true rfl) dX5_walk_28 ⟨Nat.le_of_ble_eq_true rfl, Nat.le_of_ble_eq_true rfl⟩ (fun t H1 locs_13 ht hB hS_13 hFc => ?_)
    obtain ⟨v10, ai11, ⟨gpr9_0, gpr9_1, hI_14, hFr_r9⟩, hP_14, -, hD_14⟩ := hB
    have hF_15 := FR_tr hF_10 hFr_r9 (by decide)
    rw [ht] at hP_14
    have hD_16 := hD_14.weaken (B := A) (fun k q _ h9 => hFc q.1 h9)
    clear ht
    generalize H1 = H_17 at hP_14 hS_13 ⊢
    refine lv_aload_n hx hb dX5_walk_31 rfl (lv_at hl 0 rfl) ?_
    refine lv_aload_n hx hb dX5_walk_32 rfl (lv_at hl 2 rfl) ?_
    refine lv_iconst (v := 1) hx hb dX5_walk_33 (by decide) ?_
    have kc1 : (1 : Int32).toInt = 1 := by decide +kernel
    have hM := m069_X5_pushAhead l dC dI cI cJ cII cJJ H_17.size 0 ad f3_unknowns f3_equations f2_roundSupports f2_stale f7_size f1_size v5 v10 f0_solved f4_blockCount f4_blockLength f4_lastIsFree f4_stale ai11 al w0 w1 w2 w3 1 (by omega) (by omega) (by omega) (by omega) (by omega) (by omega) (by omega) (by omega) (by omega) (by omega) (by omega) hI_14 hw_w0 hw_w1 hw_w2 hw_w3
    refine k2V_v (q0 := 22) ⟨hx, hb, hml, hown, hts⟩ hK hP_14 hD_16 hS_13 hA hX cv_RX5_25 hM ⟨by decide +kernel, by decide +kernel⟩ rfl rfl (Or.inl rfl) (rest := []) rfl rfl rfl hl.1 rfl (Nat.le_of_ble_eq_true rfl) dX5_walk_34 ⟨Nat.le_of_ble_eq_true rfl, Nat.le_of_ble_eq_true rfl⟩ (fun t H1 locs_18 ht hB hS_18 hFc => ?_)
    obtain ⟨v13, ai14, ⟨gpr12_0, gpr12_1, hI_19, hFr_r12⟩, hP_19, -, hD_19⟩ := hB
    have hF_20 := FR_tr hF_15 hFr_r12 (by decide)
    rw [ht] at hP_19
    have hD_21 := hD_19.weaken (B := A) (fun k q _ h9 => hFc q.1 h9)
    clear ht
    generalize H1 = H_22 at hP_19 hS_18 ⊢
    refine lv_iconst (v := 0) hx hb dX5_walk_37 (by decide) ?_
    refine lv_istore (lv' := [(4, .int 0), (0, .ref (ad 22)), (1, .ref (ad 17)), (2, .ref (ad 17)), (3, .int x3)]) hx hb dX5_walk_38 hl (by decide) rfl (fun ls_23 hl_23 => ?_)
    exact m152_X5_walk_b40 C  _ x3 0 v5 v13 ai14 _ _ _ (by first | omega | decide | (have ka0 := (by decide +kernel : (0 : Int32).toInt = 0); omega)) (by first | omega | decide | (have ka0 := (by decide +kernel : (0 : Int32).toInt = 0); omega)) (by first | omega | decide | (have ka0 := (by decide +kernel : (0 : Int32).toInt = 0); omega)) (by first | omega | decide | (have ka0 := (by decide +kernel : (0 : Int32).toInt = 0); omega)) (by first | omega | decide | (have ka0 := (by decide +kernel : (0 : Int32).toInt = 0); omega)) (by first | omega | decide | (have ka0 := (by decide +kernel : (0 : Int32).toInt = 0); omega)) (by first | omega | decide | (have ka0 := (by decide +kernel : (0 : Int32).toInt = 0); omega)) (by first | omega | decide | (have ka0 := (by decide +kernel : (0 : Int32).toInt = 0); omega)) (by first | omega | decide | (have ka0 := (by decide +kernel : (0 : Int32).toInt = 0); omega)) (by first | omega | decide | (have ka0 := (by decide +kernel : (0 : Int32).toInt = 0); omega)) (by first | omega | decide | (have ka0 := (by decide +kernel : (0 : Int32).toInt = 0); omega)) (by first | omega | decide | (have ka0 := (by decide +kernel : (0 : Int32).toInt = 0); omega)) (by first | omega | decide | (have ka0 := (by decide +kernel : (0 : Int32).toInt = 0); omega)) (j_fuel _) (by omega) hI_19 hF_20 hw_w0 hw_w1 hw_w2 hw_w3 hP_19 hD_21 hS_18 (lv_sub hl_23 [1, 2, 3, 4, 0] rfl)
  · have c8 := j_eq (a := x3.toInt) (b := 0) rfl (by decide +kernel) c8
    exact r2_v hx hb hr hk hS_8 dX5_walk_24 (fun t ht hW => ⟨v5, v6, ai7, ⟨(by first | omega | decide | exact Or.inl (by decide) | exact Or.inr (by decide) | exact Or.inr (by omega)), (by first | omega | decide | exact Or.inl (by decide) | exact Or.inr (by decide) | exact Or.inr (by omega)), hI_9, hF_10⟩, by rw [ht]; exact hP_9, va_K.moved hW.alike hK, hD_11⟩)
def Q_m153_X5_walk (dC : Nat → ClassId) (dI : Nat → Nat → Nat) (cI cJ cII cJJ : ClassId) (ad : Nat → Nat) (f3_unknowns f3_equations f2_roundSupports f2_stale f7_size f1_size f0_solved f4_blockCount f4_blockLength f4_lastIsFree f4_stale : Int32) (ai0 : Nat → Nat → Int32) (al : Nat → Nat → Int64) (w0 w1 w2 w3 : Nat) : (Nat → Prop) → Array Value → State → Outcome → State → Prop := fun A => QV (fun t => ∃ (n_f5_keptSize n_f5_aheadSize : Int32), ∃ (n_ai : Nat → Nat → Int32), ((0 ≤ n_f5_keptSize.toInt ∧ n_f5_keptSize.toInt ≤ 127) ∧ (0 ≤ n_f5_aheadSize.toInt ∧ n_f5_aheadSize.toInt ≤ 128) ∧ IAX n_ai ∧ FR [23, 24] ai0 n_ai) ∧ WO dC dI (TY cI cJ cII cJJ) (WX cI cJ cII cJJ ad f3_unknowns f3_equations f2_roundSupports f2_stale f7_size f1_size n_f5_keptSize n_f5_aheadSize f0_solved f4_blockCount f4_blockLength f4_lastIsFree f4_stale n_ai al w0 w1 w2 w3) A t) A
set_option maxRecDepth 100000 in
set_option maxHeartbeats 4000000 in
theorem m153_X5_walk_b107 {p : Program} {l : Launch} {e : Env} {s : State} {m : MethodId} {args : Array Value} {below : List Frame} {meth : Method} {c : Code} {A : Nat → Prop} {dC : Nat → ClassId} {dI : Nat → Nat → Nat} {cI cJ cII cJJ : ClassId} {ad : Nat → Nat} {g : Nat} {f3_unknowns f3_equations f2_roundSupports f2_stale f7_size f1_size f0_solved f4_blockCount f4_blockLength f4_lastIsFree f4_stale : Int32} {ai0 : Nat → Nat → Int32} {al : Nat → Nat → Int64} {w0 w1 w2 w3 : Nat} (C : Cx p c s m meth args A dC dI (TY cI cJ cII cJJ) cX5_walk none 7 RX5 0 g) : ∀ (L3 L4 f5_keptSize f5_aheadSize : Int32) (ai : Nat → Nat → Int32) (H : Heap) (locs : List Loc) (ls : Array Slot), (1 ≤ L3.toInt ∧ L3.toInt ≤ 1) → (0 ≤ L4.toInt ∧ L4.toInt ≤ 100000) → (1 ≤ f3_unknowns.toInt ∧ f3_unknowns.toInt ≤ 4) → (0 ≤ f3_equations.toInt ∧ f3_equations.toInt ≤ 3) → (0 ≤ f2_stale.toInt ∧ f2_stale.toInt ≤ 1) → (0 ≤ f7_size.toInt ∧ f7_size.toInt ≤ 256) → (0 ≤ f1_size.toInt ∧ f1_size.toInt ≤ 4) → (1 ≤ f5_keptSize.toInt ∧ f5_keptSize.toInt ≤ 128) → (0 ≤ f5_aheadSize.toInt ∧ f5_aheadSize.toInt ≤ 128) → (0 ≤ f4_blockCount.toInt ∧ f4_blockCount.toInt ≤ 9261) → (0 ≤ f4_blockLength.toInt ∧ f4_blockLength.toInt ≤ 21) → (0 ≤ f4_lastIsFree.toInt ∧ f4_lastIsFree.toInt ≤ 1) → (0 ≤ f4_stale.toInt ∧ f4_stale.toInt ≤ 1) → IAX ai → FR [23, 24] ai0 ai → RWX ad w0 → RWX ad w1 → RWX ad w2 → RWX ad w3 → va_P (dC, dI) vwCl (WX cI cJ cII cJJ ad f3_unknowns f3_equations f2_roundSupports f2_stale f7_size f1_size f5_keptSize f5_aheadSize f0_solved f4_blockCount f4_blockLength f4_lastIsFree f4_stale ai al w0 w1 w2 w3) H → va_D A (WX cI cJ cII cJJ ad f3_unknowns f3_equations f2_roundSupports f2_stale f7_size f1_size f5_keptSize f5_aheadSize f0_solved f4_blockCount f4_blockLength f4_lastIsFree f4_stale ai al w0 w1 w2 w3) → va_S A s.heap H locs → lv_has ls 7 [(0, .ref (ad 22)), (1, .ref (ad 18)), (2, .ref (ad 17)), (3, .int L3), (4, .int L4)] → W p l e ({ frames := 3, cells := 0, slots := 0, locals := 140 } : Room) s m args below meth c H locs 0 0 (MQ below (Q_m153_X5_walk dC dI cI cJ cII cJJ ad f3_unknowns f3_equations f2_roundSupports f2_stale f7_size f1_size f0_solved f4_blockCount f4_blockLength f4_lastIsFree f4_stale ai0 al w0 w1 w2 w3 A) args s 0 0 A) (F0 m 107 ls []) := by
  obtain ⟨hx, hb, hr, hml, hown, hts, hk, hA, hK, hX⟩ := id C
  intro L3 L4 f5_keptSize f5_aheadSize ai H locs ls h0 h1 h2 h3 h4 h5 h6 h7 h8 h9 h10 h11 h12 hI hF hw_w0 hw_w1 hw_w2 hw_w3 hP hD hS hl
  refine lv_aload_n hx hb dX5_walk_107 rfl (lv_at hl 0 rfl) ?_
  refine lv_dup hx hb dX5_walk_108 rfl ?_
  refine gf (k := 2) hx hb hts inX5 hown hK hP k_139 rfl (by decide) rfl 22 rfl (.int f5_keptSize) rfl dX5_walk_109 ?_
  refine lv_iconst (v := 1) hx hb dX5_walk_112 (by decide) ?_
  refine v_isub hx hb dX5_walk_113 _ rfl ?_
  refine lv_topi (fun z1 e_z1 => ?_)
  have g_z1 : z1.toInt = f5_keptSize.toInt - 1 := by rw [e_z1]; exact n_sub (a := f5_keptSize.toInt) (b := 1) rfl (by decide +kernel) (by omega) (by omega)
  refine pf (k := 2) hx hb hts inX5 tyX5_ok nmX5 hown hK hP hD hS k_139 rfl (by decide) rfl rfl 22 rfl rfl rfl (Nat.le_of_ble_eq_true rfl) dX5_walk_114 (W' := (WX cI cJ cII cJJ ad f3_unknowns f3_equations f2_roundSupports f2_stale f7_size f1_size z1 f5_aheadSize f0_solved f4_blockCount f4_blockLength f4_lastIsFree f4_stale ai al w0 w1 w2 w3)) rfl (fun H_1 locs_1 hP_1 hD_1 hS_1 => ?_)
  exact r2_v hx hb hr hk hS_1 dX5_walk_117 (fun t ht hW => ⟨z1, f5_aheadSize, ai, ⟨(by first | omega | decide | exact Or.inl (by decide) | exact Or.inr (by decide) | exact Or.inr (by omega)), (by first | omega | decide | exact Or.inl (by decide) | exact Or.inr (by decide) | exact Or.inr (by omega)), hI, hF⟩, by rw [ht]; exact hP_1, va_K.moved hW.alike hK, hD_1⟩)
set_option maxRecDepth 100000 in
set_option maxHeartbeats 4000000 in
theorem m153_X5_walk_b101 {p : Program} {l : Launch} {e : Env} {s : State} {m : MethodId} {args : Array Value} {below : List Frame} {meth : Method} {c : Code} {A : Nat → Prop} {dC : Nat → ClassId} {dI : Nat → Nat → Nat} {cI cJ cII cJJ : ClassId} {ad : Nat → Nat} {g : Nat} {f3_unknowns f3_equations f2_roundSupports f2_stale f7_size f1_size f0_solved f4_blockCount f4_blockLength f4_lastIsFree f4_stale : Int32} {ai0 : Nat → Nat → Int32} {al : Nat → Nat → Int64} {w0 w1 w2 w3 : Nat} (C : Cx p c s m meth args A dC dI (TY cI cJ cII cJJ) cX5_walk none 7 RX5 0 g) (n40 : Nat) (K40 : ∀ (L3 L4 f5_keptSize f5_aheadSize : Int32) (ai : Nat → Nat → Int32) (H : Heap) (locs : List Loc) (ls : Array Slot), (1 ≤ L3.toInt ∧ L3.toInt ≤ 1) → (0 ≤ L4.toInt ∧ L4.toInt ≤ 100000) → (1 ≤ f3_unknowns.toInt ∧ f3_unknowns.toInt ≤ 4) → (0 ≤ f3_equations.toInt ∧ f3_equations.toInt ≤ 3) → (0 ≤ f2_stale.toInt ∧ f2_stale.toInt ≤ 1) → (0 ≤ f7_size.toInt ∧ f7_size.toInt ≤ 256) → (0 ≤ f1_size.toInt ∧ f1_size.toInt ≤ 4) → (1 ≤ f5_keptSize.toInt ∧ f5_keptSize.toInt ≤ 128) → (0 ≤ f5_aheadSize.toInt ∧ f5_aheadSize.toInt ≤ 128) → (0 ≤ f4_blockCount.toInt ∧ f4_blockCount.toInt ≤ 9261) → (0 ≤ f4_blockLength.toInt ∧ f4_blockLength.toInt ≤ 21) → (0 ≤ f4_lastIsFree.toInt ∧ f4_lastIsFree.toInt ≤ 1) → (0 ≤ f4_stale.toInt ∧ f4_stale.toInt ≤ 1) → 10000 - L4.toInt < (n40 : Int) → (0 : Int) < (n40 : Int) → IAX ai → FR [23, 24] ai0 ai → RWX ad w0 → RWX ad w1 → RWX ad w2 → RWX ad w3 → va_P (dC, dI) vwCl (WX cI cJ cII cJJ ad f3_unknowns f3_equations f2_roundSupports f2_stale f7_size f1_size f5_keptSize f5_aheadSize f0_solved f4_blockCount f4_blockLength f4_lastIsFree f4_stale ai al w0 w1 w2 w3) H → va_D A (WX cI cJ cII cJJ ad f3_unknowns f3_equations f2_roundSupports f2_stale f7_size f1_size f5_keptSize f5_aheadSize f0_solved f4_blockCount f4_blockLength f4_lastIsFree f4_stale ai al w0 w1 w2 w3) → va_S A s.heap H locs → lv_has ls 7 [(0, .ref (ad 22)), (1, .ref (ad 18)), (2, .ref (ad 17)), (3, .int L3), (4, .int L4)] → W p l e ({ frames := 3, cells := 0, slots := 0, locals := 140 } : Room) s m args below meth c H locs 0 0 (MQ below (Q_m153_X5_walk dC dI cI cJ cII cJJ ad f3_unknowns f3_equations f2_roundSupports f2_stale f7_size f1_size f0_solved f4_blockCount f4_blockLength f4_lastIsFree f4_stale ai0 al w0 w1 w2 w3 A) args s 0 0 A) (F0 m 40 ls [])) : ∀ (L3 L4 L5 L6 f5_keptSize f5_aheadSize : Int32) (ai : Nat → Nat → Int32) (H : Heap) (locs : List Loc) (ls : Array Slot), (1 ≤ L3.toInt ∧ L3.toInt ≤ 1) → (0 ≤ L4.toInt ∧ L4.toInt ≤ 99999) → (0 ≤ L5.toInt ∧ L5.toInt ≤ 5999) → (0 ≤ L6.toInt ∧ L6.toInt ≤ 5999) → (1 ≤ f3_unknowns.toInt ∧ f3_unknowns.toInt ≤ 4) → (0 ≤ f3_equations.toInt ∧ f3_equations.toInt ≤ 3) → (0 ≤ f2_stale.toInt ∧ f2_stale.toInt ≤ 1) → (0 ≤ f7_size.toInt ∧ f7_size.toInt ≤ 256) → (0 ≤ f1_size.toInt ∧ f1_size.toInt ≤ 4) → (1 ≤ f5_keptSize.toInt ∧ f5_keptSize.toInt ≤ 128) → (0 ≤ f5_aheadSize.toInt ∧ f5_aheadSize.toInt ≤ 128) → (0 ≤ f4_blockCount.toInt ∧ f4_blockCount.toInt ≤ 9261) → (0 ≤ f4_blockLength.toInt ∧ f4_blockLength.toInt ≤ 21) → (0 ≤ f4_lastIsFree.toInt ∧ f4_lastIsFree.toInt ≤ 1) → (0 ≤ f4_stale.toInt ∧ f4_stale.toInt ≤ 1) → L4.toInt < 10000 → 10000 - L4.toInt ≤ (n40 : Int) → IAX ai → FR [23, 24] ai0 ai → RWX ad w0 → RWX ad w1 → RWX ad w2 → RWX ad w3 → va_P (dC, dI) vwCl (WX cI cJ cII cJJ ad f3_unknowns f3_equations f2_roundSupports f2_stale f7_size f1_size f5_keptSize f5_aheadSize f0_solved f4_blockCount f4_blockLength f4_lastIsFree f4_stale ai al w0 w1 w2 w3) H → va_D A (WX cI cJ cII cJJ ad f3_unknowns f3_equations f2_roundSupports f2_stale f7_size f1_size f5_keptSize f5_aheadSize f0_solved f4_blockCount f4_blockLength f4_lastIsFree f4_stale ai al w0 w1 w2 w3) → va_S A s.heap H locs → lv_has ls 7 [(0, .ref (ad 22)), (1, .ref (ad 18)), (2, .ref (ad 17)), (3, .int L3), (4, .int L4), (5, .int L5), (6, .int L6)] → W p l e ({ frames := 3, cells := 0, slots := 0, locals := 140 } : Room) s m args below meth c H locs 0 0 (MQ below (Q_m153_X5_walk dC dI cI cJ cII cJJ ad f3_unknowns f3_equations f2_roundSupports f2_stale f7_size f1_size f0_solved f4_blockCount f4_blockLength f4_lastIsFree f4_stale ai0 al w0 w1 w2 w3 A) args s 0 0 A) (F0 m 101 ls []) := by
  obtain ⟨hx, hb, hr, hml, hown, hts, hk, hA, hK, hX⟩ := id C
  intro L3 L4 L5 L6 f5_keptSize f5_aheadSize ai H locs ls h0 h1 h2 h3 h4 h5 h6 h7 h8 h9 h10 h11 h12 h13 h14 h15 h16 hI hF hw_w0 hw_w1 hw_w2 hw_w3 hP hD hS hl
  obtain ⟨z1, e_z1⟩ : ∃ q : Int32, q = L4 + Int32.ofInt 1 := ⟨_, rfl⟩
  have g_z1 : z1.toInt = L4.toInt + 1 := by rw [e_z1]; exact n_add (a := L4.toInt) (b := 1) rfl (by decide +kernel) (by omega) (by omega)
  refine lv_iinc (v := z1) (lv' := [(4, .int z1), (0, .ref (ad 22)), (1, .ref (ad 18)), (2, .ref (ad 17)), (3, .int L3), (5, .int L5), (6, .int L6)]) hx hb dX5_walk_101 hl (k := 4) rfl e_z1.symm (by decide) rfl (fun ls_1 hl_1 => ?_)
  refine lv_goto (tgt := 40) hx hb dX5_walk_104 (by decide) ?_
  exact K40 L3 z1 f5_keptSize f5_aheadSize ai _ _ _ (by omega) (by omega) (by omega) (by omega) (by omega) (by omega) (by omega) (by omega) (by omega) (by omega) (by omega) (by omega) (by omega) (by omega) (by omega) hI hF hw_w0 hw_w1 hw_w2 hw_w3 hP hD hS (lv_sub hl_1 [1, 2, 3, 4, 0] rfl)
set_option maxRecDepth 100000 in
set_option maxHeartbeats 4000000 in
theorem m153_X5_walk_b40 {p : Program} {l : Launch} {e : Env} {s : State} {m : MethodId} {args : Array Value} {below : List Frame} {meth : Method} {c : Code} {A : Nat → Prop} {dC : Nat → ClassId} {dI : Nat → Nat → Nat} {cI cJ cII cJJ : ClassId} {ad : Nat → Nat} {g : Nat} {f3_unknowns f3_equations f2_roundSupports f2_stale f7_size f1_size f0_solved f4_blockCount f4_blockLength f4_lastIsFree f4_stale : Int32} {ai0 : Nat → Nat → Int32} {al : Nat → Nat → Int64} {w0 w1 w2 w3 : Nat} (C : Cx p c s m meth args A dC dI (TY cI cJ cII cJJ) cX5_walk none 7 RX5 0 g) : ∀ (n : Nat), ∀ (L3 L4 f5_keptSize f5_aheadSize : Int32) (ai : Nat → Nat → Int32) (H : Heap) (locs : List Loc) (ls : Array Slot), (1 ≤ L3.toInt ∧ L3.toInt ≤ 1) → (0 ≤ L4.toInt ∧ L4.toInt ≤ 100000) → (1 ≤ f3_unknowns.toInt ∧ f3_unknowns.toInt ≤ 4) → (0 ≤ f3_equations.toInt ∧ f3_equations.toInt ≤ 3) → (0 ≤ f2_stale.toInt ∧ f2_stale.toInt ≤ 1) → (0 ≤ f7_size.toInt ∧ f7_size.toInt ≤ 256) → (0 ≤ f1_size.toInt ∧ f1_size.toInt ≤ 4) → (1 ≤ f5_keptSize.toInt ∧ f5_keptSize.toInt ≤ 128) → (0 ≤ f5_aheadSize.toInt ∧ f5_aheadSize.toInt ≤ 128) → (0 ≤ f4_blockCount.toInt ∧ f4_blockCount.toInt ≤ 9261) → (0 ≤ f4_blockLength.toInt ∧ f4_blockLength.toInt ≤ 21) → (0 ≤ f4_lastIsFree.toInt ∧ f4_lastIsFree.toInt ≤ 1) → (0 ≤ f4_stale.toInt ∧ f4_stale.toInt ≤ 1) → 10000 - L4.toInt < (n : Int) → (0 : Int) < (n : Int) → IAX ai → FR [23, 24] ai0 ai → RWX ad w0 → RWX ad w1 → RWX ad w2 → RWX ad w3 → va_P (dC, dI) vwCl (WX cI cJ cII cJJ ad f3_unknowns f3_equations f2_roundSupports f2_stale f7_size f1_size f5_keptSize f5_aheadSize f0_solved f4_blockCount f4_blockLength f4_lastIsFree f4_stale ai al w0 w1 w2 w3) H → va_D A (WX cI cJ cII cJJ ad f3_unknowns f3_equations f2_roundSupports f2_stale f7_size f1_size f5_keptSize f5_aheadSize f0_solved f4_blockCount f4_blockLength f4_lastIsFree f4_stale ai al w0 w1 w2 w3) → va_S A s.heap H locs → lv_has ls 7 [(0, .ref (ad 22)), (1, .ref (ad 18)), (2, .ref (ad 17)), (3, .int L3), (4, .int L4)] → W p l e ({ frames := 3, cells := 0, slots := 0, locals := 140 } : Room) s m args below meth c H locs 0 0 (MQ below (Q_m153_X5_walk dC dI cI cJ cII cJJ ad f3_unknowns f3_equations f2_roundSupports f2_stale f7_size f1_size f0_solved f4_blockCount f4_blockLength f4_lastIsFree f4_stale ai0 al w0 w1 w2 w3 A) args s 0 0 A) (F0 m 40 ls []) := by
  obtain ⟨hx, hb, hr, hml, hown, hts, hk, hA, hK, hX⟩ := id C
  intro n
  induction n with
  | zero =>
    intro L3 L4 f5_keptSize f5_aheadSize ai H locs ls h0 h1 h2 h3 h4 h5 h6 h7 h8 h9 h10 h11 h12 h13 h14 hI hF hw_w0 hw_w1 hw_w2 hw_w3 hP hD hS hl
    exact absurd h14 (by omega)
  | succ n ih =>
    intro L3 L4 f5_keptSize f5_aheadSize ai H locs ls h0 h1 h2 h3 h4 h5 h6 h7 h8 h9 h10 h11 h12 h13 h14 hI hF hw_w0 hw_w1 hw_w2 hw_w3 hP hD hS hl
    refine lv_iload hx hb dX5_walk_40 (lv_at hl 4 rfl) ?_
    refine lv_sipush (v := 10000) hx hb dX5_walk_42 (by decide) ?_
    refine lv_icmp_ge (tgt := 107) hx hb dX5_walk_45 (by decide) (fun c1 => ?_) (fun c1 => ?_)
    · have c1 := j_le (a := 10000) (b := L4.toInt) (by decide +kernel) rfl c1
      exact m153_X5_walk_b107 C  L3 L4 f5_keptSize f5_aheadSize ai _ _ _ (by omega) (by omega) (by omega) (by omega) (by omega) (by omega) (by omega) (by omega) (by omega) (by omega) (by omega) (by omega) (by omega) hI hF hw_w0 hw_w1 hw_w2 hw_w3 hP hD hS (lv_sub hl [0, 1, 2, 3, 4] rfl)
    · have c1 := j_nle (a := 10000) (b := L4.toInt) (by decide +kernel) rfl c1
      refine lv_aload_n hx hb dX5_walk_48 rfl (lv_at hl 0 rfl) ?_
      refine gf (k := 3) hx hb hts inX5 hown hK hP k_140 rfl (by decide) rfl 22 rfl (.int f5_aheadSize) rfl dX5_walk_49 ?_
      refine lv_if_le (tgt := 107) hx hb dX5_walk_52 (by decide) (fun c2 => ?_) (fun c2 => ?_)
      · have c2 := j_le (a := f5_aheadSize.toInt) (b := 0) rfl (by decide +kernel) c2
        exact m153_X5_walk_b107 C  L3 L4 f5_keptSize f5_aheadSize ai _ _ _ (by omega) (by omega) (by omega) (by omega) (by omega) (by omega) (by omega) (by omega) (by omega) (by omega) (by omega) (by omega) (by omega) hI hF hw_w0 hw_w1 hw_w2 hw_w3 hP hD hS (lv_sub hl [0, 1, 2, 3, 4] rfl)
      · have c2 := j_nle (a := f5_aheadSize.toInt) (b := 0) rfl (by decide +kernel) c2
        refine lv_aload_n hx hb dX5_walk_55 rfl (lv_at hl 0 rfl) ?_
        refine gf (k := 2) hx hb hts inX5 hown hK hP k_139 rfl (by decide) rfl 22 rfl (.int f5_keptSize) rfl dX5_walk_56 ?_
        refine lv_iconst (v := 1) hx hb dX5_walk_59 (by decide) ?_
        refine v_isub hx hb dX5_walk_60 _ rfl ?_
        refine lv_topi (fun z3 e_z3 => ?_)
        have g_z3 : z3.toInt = f5_keptSize.toInt - 1 := by rw [e_z3]; exact n_sub (a := f5_keptSize.toInt) (b := 1) rfl (by decide +kernel) (by omega) (by omega)
        refine lv_iconst (v := 4) hx hb dX5_walk_61 (by decide) ?_
        refine v_imul hx hb dX5_walk_62 _ rfl ?_
        refine lv_topi (fun z4 e_z4 => ?_)
        have g_z4 : z4.toInt = z3.toInt * 4 := by rw [e_z4]; exact n_mul (a := z3.toInt) (b := 4) rfl (by decide +kernel) (by omega) (by omega)
        refine lv_istore (lv' := [(5, .int z4), (0, .ref (ad 22)), (1, .ref (ad 18)), (2, .ref (ad 17)), (3, .int L3), (4, .int L4)]) hx hb dX5_walk_63 hl (by decide) rfl (fun ls_1 hl_1 => ?_)
        refine lv_aload_n hx hb dX5_walk_65 rfl (lv_at hl_1 1 rfl) ?_
        refine gf (k := 3) hx hb hts inX5 hown hK hP k_140 rfl (by decide) rfl 22 rfl (.int f5_aheadSize) rfl dX5_walk_66 ?_
        refine lv_iconst (v := 1) hx hb dX5_walk_69 (by decide) ?_
        refine v_isub hx hb dX5_walk_70 _ rfl ?_
        refine lv_topi (fun z5 e_z5 => ?_)
        have g_z5 : z5.toInt = f5_aheadSize.toInt - 1 := by rw [e_z5]; exact n_sub (a := f5_aheadSize.toInt) (b := 1) rfl (by decide +kernel) (by omega) (by omega)
        refine lv_iconst (v := 4) hx hb dX5_walk_71 (by decide) ?_
        refine v_imul hx hb dX5_walk_72 _ rfl ?_
        refine lv_topi (fun z6 e_z6 => ?_)
        have g_z6 : z6.toInt = z5.toInt * 4 := by rw [e_z6]; exact n_mul (a := z5.toInt) (b := 4) rfl (by decide +kernel) (by omega) (by omega)
        refine lv_istore (lv' := [(6, .int z6), (5, .int z4), (0, .ref (ad 22)), (1, .ref (ad 18)), (2, .ref (ad 17)), (3, .int L3), (4, .int L4)]) hx hb dX5_walk_73 hl_1 (by decide) rfl (fun ls_2 hl_2 => ?_)
        refine lv_aload_n hx hb dX5_walk_75 rfl (lv_at hl_2 2 rfl) ?_
        refine lv_iload hx hb dX5_walk_76 (lv_at hl_2 1 rfl) ?_
        refine lv_iload hx hb dX5_walk_78 (lv_at hl_2 0 rfl) ?_
        have hM := m068_X5_haveOppositeSigns l dC dI cI cJ cII cJJ H.size 0 ad f3_unknowns f3_equations f2_roundSupports f2_stale f7_size f1_size f5_keptSize f5_aheadSize f0_solved f4_blockCount f4_blockLength f4_lastIsFree f4_stale ai al w0 w1 w2 w3 z4 z6 (by omega) (by omega) (by omega) (by omega) (by omega) (by omega) (by omega) (by omega) (by omega) (by omega) (by omega) (by omega) (by omega) hI hw_w0 hw_w1 hw_w2 hw_w3
        refine k2V_i (q0 := 22) ⟨hx, hb, hml, hown, hts⟩ hK hP hD hS hA hX cv_RX5_32 hM ⟨by decide +kernel, by decide +kernel⟩ rfl rfl (Or.inl rfl) (rest := []) rfl rfl rfl hl_2.1 rfl (Nat.le_of_ble_eq_true rfl) dX5_walk_80 ⟨Nat.le_of_ble_eq_true rfl, Nat.le_of_ble_eq_true rfl⟩ (fun r7 t H1 locs_3 ht hB hS_3 hFc => ?_)
        obtain ⟨gpr7_0, hP_4, -, hD_4⟩ := hB
        rw [ht] at hP_4
        have hD_5 := hD_4.weaken (B := A) (fun k q _ h9 => hFc q.1 h9)
        clear ht
        generalize H1 = H_6 at hP_4 hS_3 ⊢
        refine lv_if_eq (tgt := 97) hx hb dX5_walk_83 (by decide) (fun c8 => ?_) (fun c8 => ?_)
        · have c8 := j_eq (a := r7.toInt) (b := 0) rfl (by decide +kernel) c8
          refine lv_aload_n hx hb dX5_walk_97 rfl (lv_at hl_2 2 rfl) ?_
          have hM := m067_X5_keepNext l dC dI cI cJ cII cJJ H_6.size 0 ad f3_unknowns f3_equations f2_roundSupports f2_stale f7_size f1_size f5_keptSize f5_aheadSize f0_solved f4_blockCount f4_blockLength f4_lastIsFree f4_stale ai al w0 w1 w2 w3 (by omega) (by omega) (by omega) (by omega) (by omega) (by omega) (by omega) (by omega) (by omega) (by omega) (by omega) hI hw_w0 hw_w1 hw_w2 hw_w3
          refine k2V_v (q0 := 22) ⟨hx, hb, hml, hown, hts⟩ hK hP_4 hD_5 hS_3 hA hX cv_RX5_29 hM ⟨by decide +kernel, by decide +kernel⟩ rfl rfl (Or.inl rfl) (rest := []) rfl rfl rfl hl_2.1 rfl (Nat.le_of_ble_eq_true rfl) dX5_walk_98 ⟨Nat.le_of_ble_eq_true rfl, Nat.le_of_ble_eq_true rfl⟩ (fun t H1 locs_7 ht hB hS_7 hFc => ?_)
          obtain ⟨v10, v11, ai12, ⟨gpr9_0, gpr9_1, gpr9_2, hI_8, hFr_r9⟩, hP_8, -, hD_8⟩ := hB
          have hF_9 := FR_tr hF hFr_r9 (by decide)
          rw [ht] at hP_8
          have hD_10 := hD_8.weaken (B := A) (fun k q _ h9 => hFc q.1 h9)
          clear ht
          generalize H1 = H_11 at hP_8 hS_7 ⊢
          exact m153_X5_walk_b101 C n ih L3 L4 z4 z6 v10 v11 ai12 _ _ _ (by omega) (by omega) (by omega) (by omega) (by omega) (by omega) (by omega) (by omega) (by omega) (by omega) (by omega) (by omega) (by omega) (by omega) (by omega) (by omega) (by omega) hI_8 hF_9 hw_w0 hw_w1 hw_w2 hw_w3 hP_8 hD_10 hS_7 (lv_sub hl_2 [2, 3, 4, 5, 6, 1, 0] rfl)
        · have c8 := j_ne (a := r7.toInt) (b := 0) rfl (by decide +kernel) c8
          refine lv_aload_n hx hb dX5_walk_86 rfl (lv_at hl_2 2 rfl) ?_
          refine lv_iload hx hb dX5_walk_87 (lv_at hl_2 1 rfl) ?_
          refine lv_iload hx hb dX5_walk_89 (lv_at hl_2 0 rfl) ?_
          have hM := m066_X5_pushSum l dC dI cI cJ cII cJJ H_6.size 0 ad f3_unknowns f3_equations f2_roundSupports f2_stale f7_size f1_size f5_keptSize f5_aheadSize f0_solved f4_blockCount f4_blockLength f4_lastIsFree f4_stale ai al w0 w1 w2 w3 z4 z6 (by omega) (by omega) (by omega) (by omega) (by omega) (by omega) (by omega) (by omega) (by omega) (by omega) (by omega) (by omega) (by omega) hI hw_w0 hw_w1 hw_w2 hw_w3
          refine k2V_v (q0 := 22) ⟨hx, hb, hml, hown, hts⟩ hK hP_4 hD_5 hS_3 hA hX cv_RX5_36 hM ⟨by decide +kernel, by decide +kernel⟩ rfl rfl (Or.inl rfl) (rest := []) rfl rfl rfl hl_2.1 rfl (Nat.le_of_ble_eq_true rfl) dX5_walk_91 ⟨Nat.le_of_ble_eq_true rfl, Nat.le_of_ble_eq_true rfl⟩ (fun t H1 locs_12 ht hB hS_12 hFc => ?_)
          obtain ⟨v14, ai15, ⟨gpr13_0, gpr13_1, hI_13, hFr_r13⟩, hP_13, -, hD_13⟩ := hB
          have hF_14 := FR_tr hF hFr_r13 (by decide)
          rw [ht] at hP_13
          have hD_15 := hD_13.weaken (B := A) (fun k q _ h9 => hFc q.1 h9)
          clear ht
          generalize H1 = H_16 at hP_13 hS_12 ⊢
          refine lv_goto (tgt := 101) hx hb dX5_walk_94 (by decide) ?_
          exact m153_X5_walk_b101 C n ih L3 L4 z4 z6 f5_keptSize v14 ai15 _ _ _ (by omega) (by omega) (by omega) (by omega) (by omega) (by omega) (by omega) (by omega) (by omega) (by omega) (by omega) (by omega) (by omega) (by omega) (by omega) (by omega) (by omega) hI_13 hF_14 hw_w0 hw_w1 hw_w2 hw_w3 hP_13 hD_15 hS_12 (lv_sub hl_2 [2, 3, 4, 5, 6, 1, 0] rfl)
set_option maxRecDepth 100000 in
set_option maxHeartbeats 4000000 in
theorem m153_X5_walk (l : Launch) (dC : Nat → ClassId) (dI : Nat → Nat → Nat) (cI cJ cII cJJ : ClassId) (sz g : Nat) (ad : Nat → Nat) (f3_unknowns f3_equations f2_roundSupports f2_stale f7_size f1_size f5_keptSize f5_aheadSize f0_solved f4_blockCount f4_blockLength f4_lastIsFree f4_stale : Int32) (ai : Nat → Nat → Int32) (al : Nat → Nat → Int64) (w0 w1 w2 w3 : Nat) (x3 : Int32) (h_x3 : (0 ≤ x3.toInt ∧ x3.toInt ≤ 1)) (h_f3_unknowns : (1 ≤ f3_unknowns.toInt ∧ f3_unknowns.toInt ≤ 4)) (h_f3_equations : (0 ≤ f3_equations.toInt ∧ f3_equations.toInt ≤ 3)) (h_f2_stale : (0 ≤ f2_stale.toInt ∧ f2_stale.toInt ≤ 1)) (h_f7_size : (0 ≤ f7_size.toInt ∧ f7_size.toInt ≤ 256)) (h_f1_size : (0 ≤ f1_size.toInt ∧ f1_size.toInt ≤ 4)) (h_f5_keptSize : (0 ≤ f5_keptSize.toInt ∧ f5_keptSize.toInt ≤ 128)) (h_f5_aheadSize : (0 ≤ f5_aheadSize.toInt ∧ f5_aheadSize.toInt ≤ 128)) (h_f4_blockCount : (0 ≤ f4_blockCount.toInt ∧ f4_blockCount.toInt ≤ 9261)) (h_f4_blockLength : (0 ≤ f4_blockLength.toInt ∧ f4_blockLength.toInt ≤ 21)) (h_f4_lastIsFree : (0 ≤ f4_lastIsFree.toInt ∧ f4_lastIsFree.toInt ≤ 1)) (h_f4_stale : (0 ≤ f4_stale.toInt ∧ f4_stale.toInt ≤ 1)) (hI : IAX ai) (hw_w0 : RWX ad w0) (hw_w1 : RWX ad w1) (hw_w2 : RWX ad w2) (hw_w3 : RWX ad w3) : Met l yX5_walk (.code yX5_walk cX5_walk 7 none :: TT) ({ frames := 3, cells := 0, slots := 0, locals := 140 } : Room) (PcS dC dI (TY cI cJ cII cJJ) [.ref (ad 22), .ref (ad 18), .ref (ad 17), .int x3] (WX cI cJ cII cJJ ad f3_unknowns f3_equations f2_roundSupports f2_stale f7_size f1_size f5_keptSize f5_aheadSize f0_solved f4_blockCount f4_blockLength f4_lastIsFree f4_stale ai al w0 w1 w2 w3) sz 0 g) (Q_m153_X5_walk dC dI cI cJ cII cJJ ad f3_unknowns f3_equations f2_roundSupports f2_stale f7_size f1_size f0_solved f4_blockCount f4_blockLength f4_lastIsFree f4_stale ai al w0 w1 w2 w3 (va_A (WX cI cJ cII cJJ ad f3_unknowns f3_equations f2_roundSupports f2_stale f7_size f1_size f5_keptSize f5_aheadSize f0_solved f4_blockCount f4_blockLength f4_lastIsFree f4_stale ai al w0 w1 w2 w3) sz)) 0 0 (va_A (WX cI cJ cII cJJ ad f3_unknowns f3_equations f2_roundSupports f2_stale f7_size f1_size f5_keptSize f5_aheadSize f0_solved f4_blockCount f4_blockLength f4_lastIsFree f4_stale ai al w0 w1 w2 w3) sz) := by
  refine SM.of (y := yX5_walk) (maxL := 7) (av := [.ref (ad 22), .ref (ad 18), .ref (ad 17), .int x3]) (Q_m153_X5_walk dC dI cI cJ cII cJJ ad f3_unknowns f3_equations f2_roundSupports f2_stale f7_size f1_size f0_solved f4_blockCount f4_blockLength f4_lastIsFree f4_stale ai al w0 w1 w2 w3) (by decide +kernel) (Nat.le_of_ble_eq_true rfl) (fun p e s m below meth c A ls hx hb hr hml hown hts hk hnm hA hK hP hD hS hX hl => ?_)
  have C : Cx p c s m meth (([.ref (ad 22), .ref (ad 18), .ref (ad 17), .int x3] : List Value).toArray) A dC dI (TY cI cJ cII cJJ) cX5_walk none 7 RX5 0 g := ⟨hx, hb, hr, hml, hown, hts, hk, hA, hK, hX⟩
  have hown : s.vm.findClass RX5 = some m.cls := hown
  have hl : lv_has ls 7 [(0, .ref (ad 22)), (1, .ref (ad 18)), (2, .ref (ad 17)), (3, .int x3)] := hl
  obtain ⟨H, hH⟩ : ∃ q, q = s.heap := ⟨_, rfl⟩
  rw [← hH] at hP
  have hS : va_S A s.heap H [] := by rw [hH]; exact hS
  rw [← hH]
  have hF := FR_refl [23, 24] ai
  refine lv_aload_n hx hb dX5_walk_0 rfl (lv_at hl 0 rfl) ?_
  refine lv_iconst (v := 0) hx hb dX5_walk_1 (by decide) ?_
  refine pf (k := 2) hx hb hts inX5 tyX5_ok nmX5 hown hK hP hD hS k_139 rfl (by decide) rfl rfl 22 rfl rfl rfl (Nat.le_of_ble_eq_true rfl) dX5_walk_2 (W' := (WX cI cJ cII cJJ ad f3_unknowns f3_equations f2_roundSupports f2_stale f7_size f1_size 0 f5_aheadSize f0_solved f4_blockCount f4_blockLength f4_lastIsFree f4_stale ai al w0 w1 w2 w3)) rfl (fun H_1 locs_1 hP_1 hD_1 hS_1 => ?_)
  refine lv_aload_n hx hb dX5_walk_5 rfl (lv_at hl 0 rfl) ?_
  refine lv_iconst (v := 0) hx hb dX5_walk_6 (by decide) ?_
  refine pf (k := 3) hx hb hts inX5 tyX5_ok nmX5 hown hK hP_1 hD_1 hS_1 k_140 rfl (by decide) rfl rfl 22 rfl rfl rfl (Nat.le_of_ble_eq_true rfl) dX5_walk_7 (W' := (WX cI cJ cII cJJ ad f3_unknowns f3_equations f2_roundSupports f2_stale f7_size f1_size 0 0 f0_solved f4_blockCount f4_blockLength f4_lastIsFree f4_stale ai al w0 w1 w2 w3)) rfl (fun H_2 locs_2 hP_2 hD_2 hS_2 => ?_)
  refine lv_aload_n hx hb dX5_walk_10 rfl (lv_at hl 0 rfl) ?_
  refine lv_aload_n hx hb dX5_walk_11 rfl (lv_at hl 1 rfl) ?_
  refine lv_iconst (v := 1) hx hb dX5_walk_12 (by decide) ?_
  have kc0 : (0 : Int32).toInt = 0 := by decide +kernel
  have kc1 : (1 : Int32).toInt = 1 := by decide +kernel
  have hM := m148_X5_pushAhead l dC dI cI cJ cII cJJ H_2.size 0 ad f3_unknowns f3_equations f2_roundSupports f2_stale f7_size f1_size 0 0 f0_solved f4_blockCount f4_blockLength f4_lastIsFree f4_stale ai al w0 w1 w2 w3 1 (by omega) (by omega) (by omega) (by omega) (by omega) (by decide +kernel) (by decide +kernel) (by omega) (by omega) (by omega) (by omega) hI hw_w0 hw_w1 hw_w2 hw_w3
  refine k2V_v (q0 := 22) ⟨hx, hb, hml, hown, hts⟩ hK hP_2 hD_2 hS_2 hA hX cv_RX5_25 hM ⟨by decide +kernel, by decide +kernel⟩ rfl rfl (Or.inl rfl) (rest := []) rfl rfl rfl hl.1 rfl (Nat.le_of_ble_eq_true rfl) dX5_walk_13 ⟨Nat.le_of_ble_eq_true rfl, Nat.le_of_ble_eq_true rfl⟩ (fun t H1 locs_3 ht hB hS_3 hFc => ?_)
  obtain ⟨v2, ai3, ⟨gpr1_0, gpr1_1, hI_4, hFr_r1⟩, hP_4, -, hD_4⟩ := hB
  have hF_5 := FR_tr hF hFr_r1 (by decide)
  rw [ht] at hP_4
  have hD_6 := hD_4.weaken (B := A) (fun k q _ h9 => hFc q.1 h9)
  clear ht
  generalize H1 = H_7 at hP_4 hS_3 ⊢
  refine lv_aload_n hx hb dX5_walk_16 rfl (lv_at hl 0 rfl) ?_
  have kc0 : (0 : Int32).toInt = 0 := by decide +kernel
  have hM := m067_X5_keepNext l dC dI cI cJ cII cJJ H_7.size 0 ad f3_unknowns f3_equations f2_roundSupports f2_stale f7_size f1_size 0 v2 f0_solved f4_blockCount f4_blockLength f4_lastIsFree f4_stale ai3 al w0 w1 w2 w3 (by omega) (by omega) (by omega) (by omega) (by omega) (by decide +kernel) (by omega) (by omega) (by omega) (by omega) (by omega) hI_4 hw_w0 hw_w1 hw_w2 hw_w3
  refine k2V_v (q0 := 22) ⟨hx, hb, hml, hown, hts⟩ hK hP_4 hD_6 hS_3 hA hX cv_RX5_29 hM ⟨by decide +kernel, by decide +kernel⟩ rfl rfl (Or.inl rfl) (rest := []) rfl rfl rfl hl.1 rfl (Nat.le_of_ble_eq_true rfl) dX5_walk_17 ⟨Nat.le_of_ble_eq_true rfl, Nat.le_of_ble_eq_true rfl⟩ (fun t H1 locs_8 ht hB hS_8 hFc => ?_)
  obtain ⟨v5, v6, ai7, ⟨gpr4_0, gpr4_1, gpr4_2, hI_9, hFr_r4⟩, hP_9, -, hD_9⟩ := hB
  have hF_10 := FR_tr hF_5 hFr_r4 (by decide)
  rw [ht] at hP_9
  have hD_11 := hD_9.weaken (B := A) (fun k q _ h9 => hFc q.1 h9)
  clear ht
  generalize H1 = H_12 at hP_9 hS_8 ⊢
  refine lv_iload_n hx hb dX5_walk_20 rfl (lv_at hl 3 rfl) ?_
  refine lv_if_ne (tgt := 25) hx hb dX5_walk_21 (by decide) (fun c8 => ?_) (fun c8 => ?_)
  · have c8 := j_ne (a := x3.toInt) (b := 0) rfl (by decide +kernel) c8
    refine lv_aload_n hx hb dX5_walk_25 rfl (lv_at hl 0 rfl) ?_
    refine lv_aload_n hx hb dX5_walk_26 rfl (lv_at hl 1 rfl) ?_
    refine lv_iconst (v := (-1)) hx hb dX5_walk_27 (by decide) ?_
    have kcm1 : ((-1) : Int32).toInt = (-1) := by decide +kernel
    have hM := m148_X5_pushAhead l dC dI cI cJ cII cJJ H_12.size 0 ad f3_unknowns f3_equations f2_roundSupports f2_stale f7_size f1_size v5 v6 f0_solved f4_blockCount f4_blockLength f4_lastIsFree f4_stale ai7 al w0 w1 w2 w3 (-1) (by omega) (by omega) (by omega) (by omega) (by omega) (by omega) (by omega) (by omega) (by omega) (by omega) (by omega) hI_9 hw_w0 hw_w1 hw_w2 hw_w3
    refine k2V_v (q0 := 22) ⟨hx, hb, hml, hown, hts⟩ hK hP_9 hD_11 hS_8 hA hX cv_RX5_25 hM ⟨by decide +kernel, by decide +kernel⟩ rfl rfl (Or.inl rfl) (rest := []) rfl rfl rfl hl.1 rfl (Nat.le_of_ble_eq_true rfl) dX5_walk_28 ⟨Nat.le_of_ble_eq_true rfl, Nat.le_of_ble_eq_true rfl⟩ (fun t H1 locs_13 ht hB hS_13 hFc => ?_)
    obtain ⟨v10, ai11, ⟨gpr9_0, gpr9_1, hI_14, hFr_r9⟩, hP_14, -, hD_14⟩ := hB
    have hF_15 := FR_tr hF_10 hFr_r9 (by decide)
    rw [ht] at hP_14
    have hD_16 := hD_14.weaken (B := A) (fun k q _ h9 => hFc q.1 h9)
    clear ht
    generalize H1 = H_17 at hP_14 hS_13 ⊢
    refine lv_aload_n hx hb dX5_walk_31 rfl (lv_at hl 0 rfl) ?_
    refine lv_aload_n hx hb dX5_walk_32 rfl (lv_at hl 2 rfl) ?_
    refine lv_iconst (v := 1) hx hb dX5_walk_33 (by decide) ?_
    have kc1 : (1 : Int32).toInt = 1 := by decide +kernel
    have hM := m069_X5_pushAhead l dC dI cI cJ cII cJJ H_17.size 0 ad f3_unknowns f3_equations f2_roundSupports f2_stale f7_size f1_size v5 v10 f0_solved f4_blockCount f4_blockLength f4_lastIsFree f4_stale ai11 al w0 w1 w2 w3 1 (by omega) (by omega) (by omega) (by omega) (by omega) (by omega) (by omega) (by omega) (by omega) (by omega) (by omega) hI_14 hw_w0 hw_w1 hw_w2 hw_w3
    refine k2V_v (q0 := 22) ⟨hx, hb, hml, hown, hts⟩ hK hP_14 hD_16 hS_13 hA hX cv_RX5_25 hM ⟨by decide +kernel, by decide +kernel⟩ rfl rfl (Or.inl rfl) (rest := []) rfl rfl rfl hl.1 rfl (Nat.le_of_ble_eq_true rfl) dX5_walk_34 ⟨Nat.le_of_ble_eq_true rfl, Nat.le_of_ble_eq_true rfl⟩ (fun t H1 locs_18 ht hB hS_18 hFc => ?_)
    obtain ⟨v13, ai14, ⟨gpr12_0, gpr12_1, hI_19, hFr_r12⟩, hP_19, -, hD_19⟩ := hB
    have hF_20 := FR_tr hF_15 hFr_r12 (by decide)
    rw [ht] at hP_19
    have hD_21 := hD_19.weaken (B := A) (fun k q _ h9 => hFc q.1 h9)
    clear ht
    generalize H1 = H_22 at hP_19 hS_18 ⊢
    refine lv_iconst (v := 0) hx hb dX5_walk_37 (by decide) ?_
    refine lv_istore (lv' := [(4, .int 0), (0, .ref (ad 22)), (1, .ref (ad 18)), (2, .ref (ad 17)), (3, .int x3)]) hx hb dX5_walk_38 hl (by decide) rfl (fun ls_23 hl_23 => ?_)
    exact m153_X5_walk_b40 C  _ x3 0 v5 v13 ai14 _ _ _ (by first | omega | decide | (have ka0 := (by decide +kernel : (0 : Int32).toInt = 0); omega)) (by first | omega | decide | (have ka0 := (by decide +kernel : (0 : Int32).toInt = 0); omega)) (by first | omega | decide | (have ka0 := (by decide +kernel : (0 : Int32).toInt = 0); omega)) (by first | omega | decide | (have ka0 := (by decide +kernel : (0 : Int32).toInt = 0); omega)) (by first | omega | decide | (have ka0 := (by decide +kernel : (0 : Int32).toInt = 0); omega)) (by first | omega | decide | (have ka0 := (by decide +kernel : (0 : Int32).toInt = 0); omega)) (by first | omega | decide | (have ka0 := (by decide +kernel : (0 : Int32).toInt = 0); omega)) (by first | omega | decide | (have ka0 := (by decide +kernel : (0 : Int32).toInt = 0); omega)) (by first | omega | decide | (have ka0 := (by decide +kernel : (0 : Int32).toInt = 0); omega)) (by first | omega | decide | (have ka0 := (by decide +kernel : (0 : Int32).toInt = 0); omega)) (by first | omega | decide | (have ka0 := (by decide +kernel : (0 : Int32).toInt = 0); omega)) (by first | omega | decide | (have ka0 := (by decide +kernel : (0 : Int32).toInt = 0); omega)) (by first | omega | decide | (have ka0 := (by decide +kernel : (0 : Int32).toInt = 0); omega)) (j_fuel _) (by omega) hI_19 hF_20 hw_w0 hw_w1 hw_w2 hw_w3 hP_19 hD_21 hS_18 (lv_sub hl_23 [1, 2, 3, 4, 0] rfl)
  · have c8 := j_eq (a := x3.toInt) (b := 0) rfl (by decide +kernel) c8
    exact r2_v hx hb hr hk hS_8 dX5_walk_24 (fun t ht hW => ⟨v5, v6, ai7, ⟨(by first | omega | decide | exact Or.inl (by decide) | exact Or.inr (by decide) | exact Or.inr (by omega)), (by first | omega | decide | exact Or.inl (by decide) | exact Or.inr (by decide) | exact Or.inr (by omega)), hI_9, hF_10⟩, by rw [ht]; exact hP_9, va_K.moved hW.alike hK, hD_11⟩)
def Q_m154_X5_walk (dC : Nat → ClassId) (dI : Nat → Nat → Nat) (cI cJ cII cJJ : ClassId) (ad : Nat → Nat) (f3_unknowns f3_equations f2_roundSupports f2_stale f7_size f1_size f0_solved f4_blockCount f4_blockLength f4_lastIsFree f4_stale : Int32) (ai0 : Nat → Nat → Int32) (al : Nat → Nat → Int64) (w0 w1 w2 w3 : Nat) : (Nat → Prop) → Array Value → State → Outcome → State → Prop := fun A => QV (fun t => ∃ (n_f5_keptSize n_f5_aheadSize : Int32), ∃ (n_ai : Nat → Nat → Int32), ((0 ≤ n_f5_keptSize.toInt ∧ n_f5_keptSize.toInt ≤ 127) ∧ (0 ≤ n_f5_aheadSize.toInt ∧ n_f5_aheadSize.toInt ≤ 128) ∧ IAX n_ai ∧ FR [23, 24] ai0 n_ai) ∧ WO dC dI (TY cI cJ cII cJJ) (WX cI cJ cII cJJ ad f3_unknowns f3_equations f2_roundSupports f2_stale f7_size f1_size n_f5_keptSize n_f5_aheadSize f0_solved f4_blockCount f4_blockLength f4_lastIsFree f4_stale n_ai al w0 w1 w2 w3) A t) A
set_option maxRecDepth 100000 in
set_option maxHeartbeats 4000000 in
theorem m154_X5_walk_b107 {p : Program} {l : Launch} {e : Env} {s : State} {m : MethodId} {args : Array Value} {below : List Frame} {meth : Method} {c : Code} {A : Nat → Prop} {dC : Nat → ClassId} {dI : Nat → Nat → Nat} {cI cJ cII cJJ : ClassId} {ad : Nat → Nat} {g : Nat} {f3_unknowns f3_equations f2_roundSupports f2_stale f7_size f1_size f0_solved f4_blockCount f4_blockLength f4_lastIsFree f4_stale : Int32} {ai0 : Nat → Nat → Int32} {al : Nat → Nat → Int64} {w0 w1 w2 w3 : Nat} (C : Cx p c s m meth args A dC dI (TY cI cJ cII cJJ) cX5_walk none 7 RX5 0 g) : ∀ (L3 L4 f5_keptSize f5_aheadSize : Int32) (ai : Nat → Nat → Int32) (H : Heap) (locs : List Loc) (ls : Array Slot), (1 ≤ L3.toInt ∧ L3.toInt ≤ 1) → (0 ≤ L4.toInt ∧ L4.toInt ≤ 100000) → (1 ≤ f3_unknowns.toInt ∧ f3_unknowns.toInt ≤ 4) → (0 ≤ f3_equations.toInt ∧ f3_equations.toInt ≤ 3) → (0 ≤ f2_stale.toInt ∧ f2_stale.toInt ≤ 1) → (0 ≤ f7_size.toInt ∧ f7_size.toInt ≤ 256) → (0 ≤ f1_size.toInt ∧ f1_size.toInt ≤ 4) → (1 ≤ f5_keptSize.toInt ∧ f5_keptSize.toInt ≤ 128) → (0 ≤ f5_aheadSize.toInt ∧ f5_aheadSize.toInt ≤ 128) → (0 ≤ f4_blockCount.toInt ∧ f4_blockCount.toInt ≤ 9261) → (0 ≤ f4_blockLength.toInt ∧ f4_blockLength.toInt ≤ 21) → (0 ≤ f4_lastIsFree.toInt ∧ f4_lastIsFree.toInt ≤ 1) → (0 ≤ f4_stale.toInt ∧ f4_stale.toInt ≤ 1) → IAX ai → FR [23, 24] ai0 ai → RWX ad w0 → RWX ad w1 → RWX ad w2 → RWX ad w3 → va_P (dC, dI) vwCl (WX cI cJ cII cJJ ad f3_unknowns f3_equations f2_roundSupports f2_stale f7_size f1_size f5_keptSize f5_aheadSize f0_solved f4_blockCount f4_blockLength f4_lastIsFree f4_stale ai al w0 w1 w2 w3) H → va_D A (WX cI cJ cII cJJ ad f3_unknowns f3_equations f2_roundSupports f2_stale f7_size f1_size f5_keptSize f5_aheadSize f0_solved f4_blockCount f4_blockLength f4_lastIsFree f4_stale ai al w0 w1 w2 w3) → va_S A s.heap H locs → lv_has ls 7 [(0, .ref (ad 22)), (1, .ref (ad 19)), (2, .ref (ad 17)), (3, .int L3), (4, .int L4)] → W p l e ({ frames := 3, cells := 0, slots := 0, locals := 140 } : Room) s m args below meth c H locs 0 0 (MQ below (Q_m154_X5_walk dC dI cI cJ cII cJJ ad f3_unknowns f3_equations f2_roundSupports f2_stale f7_size f1_size f0_solved f4_blockCount f4_blockLength f4_lastIsFree f4_stale ai0 al w0 w1 w2 w3 A) args s 0 0 A) (F0 m 107 ls []) := by
  obtain ⟨hx, hb, hr, hml, hown, hts, hk, hA, hK, hX⟩ := id C
  intro L3 L4 f5_keptSize f5_aheadSize ai H locs ls h0 h1 h2 h3 h4 h5 h6 h7 h8 h9 h10 h11 h12 hI hF hw_w0 hw_w1 hw_w2 hw_w3 hP hD hS hl
  refine lv_aload_n hx hb dX5_walk_107 rfl (lv_at hl 0 rfl) ?_
  refine lv_dup hx hb dX5_walk_108 rfl ?_
  refine gf (k := 2) hx hb hts inX5 hown hK hP k_139 rfl (by decide) rfl 22 rfl (.int f5_keptSize) rfl dX5_walk_109 ?_
  refine lv_iconst (v := 1) hx hb dX5_walk_112 (by decide) ?_
  refine v_isub hx hb dX5_walk_113 _ rfl ?_
  refine lv_topi (fun z1 e_z1 => ?_)
  have g_z1 : z1.toInt = f5_keptSize.toInt - 1 := by rw [e_z1]; exact n_sub (a := f5_keptSize.toInt) (b := 1) rfl (by decide +kernel) (by omega) (by omega)
  refine pf (k := 2) hx hb hts inX5 tyX5_ok nmX5 hown hK hP hD hS k_139 rfl (by decide) rfl rfl 22 rfl rfl rfl (Nat.le_of_ble_eq_true rfl) dX5_walk_114 (W' := (WX cI cJ cII cJJ ad f3_unknowns f3_equations f2_roundSupports f2_stale f7_size f1_size z1 f5_aheadSize f0_solved f4_blockCount f4_blockLength f4_lastIsFree f4_stale ai al w0 w1 w2 w3)) rfl (fun H_1 locs_1 hP_1 hD_1 hS_1 => ?_)
  exact r2_v hx hb hr hk hS_1 dX5_walk_117 (fun t ht hW => ⟨z1, f5_aheadSize, ai, ⟨(by first | omega | decide | exact Or.inl (by decide) | exact Or.inr (by decide) | exact Or.inr (by omega)), (by first | omega | decide | exact Or.inl (by decide) | exact Or.inr (by decide) | exact Or.inr (by omega)), hI, hF⟩, by rw [ht]; exact hP_1, va_K.moved hW.alike hK, hD_1⟩)
set_option maxRecDepth 100000 in
set_option maxHeartbeats 4000000 in
theorem m154_X5_walk_b101 {p : Program} {l : Launch} {e : Env} {s : State} {m : MethodId} {args : Array Value} {below : List Frame} {meth : Method} {c : Code} {A : Nat → Prop} {dC : Nat → ClassId} {dI : Nat → Nat → Nat} {cI cJ cII cJJ : ClassId} {ad : Nat → Nat} {g : Nat} {f3_unknowns f3_equations f2_roundSupports f2_stale f7_size f1_size f0_solved f4_blockCount f4_blockLength f4_lastIsFree f4_stale : Int32} {ai0 : Nat → Nat → Int32} {al : Nat → Nat → Int64} {w0 w1 w2 w3 : Nat} (C : Cx p c s m meth args A dC dI (TY cI cJ cII cJJ) cX5_walk none 7 RX5 0 g) (n40 : Nat) (K40 : ∀ (L3 L4 f5_keptSize f5_aheadSize : Int32) (ai : Nat → Nat → Int32) (H : Heap) (locs : List Loc) (ls : Array Slot), (1 ≤ L3.toInt ∧ L3.toInt ≤ 1) → (0 ≤ L4.toInt ∧ L4.toInt ≤ 100000) → (1 ≤ f3_unknowns.toInt ∧ f3_unknowns.toInt ≤ 4) → (0 ≤ f3_equations.toInt ∧ f3_equations.toInt ≤ 3) → (0 ≤ f2_stale.toInt ∧ f2_stale.toInt ≤ 1) → (0 ≤ f7_size.toInt ∧ f7_size.toInt ≤ 256) → (0 ≤ f1_size.toInt ∧ f1_size.toInt ≤ 4) → (1 ≤ f5_keptSize.toInt ∧ f5_keptSize.toInt ≤ 128) → (0 ≤ f5_aheadSize.toInt ∧ f5_aheadSize.toInt ≤ 128) → (0 ≤ f4_blockCount.toInt ∧ f4_blockCount.toInt ≤ 9261) → (0 ≤ f4_blockLength.toInt ∧ f4_blockLength.toInt ≤ 21) → (0 ≤ f4_lastIsFree.toInt ∧ f4_lastIsFree.toInt ≤ 1) → (0 ≤ f4_stale.toInt ∧ f4_stale.toInt ≤ 1) → 10000 - L4.toInt < (n40 : Int) → (0 : Int) < (n40 : Int) → IAX ai → FR [23, 24] ai0 ai → RWX ad w0 → RWX ad w1 → RWX ad w2 → RWX ad w3 → va_P (dC, dI) vwCl (WX cI cJ cII cJJ ad f3_unknowns f3_equations f2_roundSupports f2_stale f7_size f1_size f5_keptSize f5_aheadSize f0_solved f4_blockCount f4_blockLength f4_lastIsFree f4_stale ai al w0 w1 w2 w3) H → va_D A (WX cI cJ cII cJJ ad f3_unknowns f3_equations f2_roundSupports f2_stale f7_size f1_size f5_keptSize f5_aheadSize f0_solved f4_blockCount f4_blockLength f4_lastIsFree f4_stale ai al w0 w1 w2 w3) → va_S A s.heap H locs → lv_has ls 7 [(0, .ref (ad 22)), (1, .ref (ad 19)), (2, .ref (ad 17)), (3, .int L3), (4, .int L4)] → W p l e ({ frames := 3, cells := 0, slots := 0, locals := 140 } : Room) s m args below meth c H locs 0 0 (MQ below (Q_m154_X5_walk dC dI cI cJ cII cJJ ad f3_unknowns f3_equations f2_roundSupports f2_stale f7_size f1_size f0_solved f4_blockCount f4_blockLength f4_lastIsFree f4_stale ai0 al w0 w1 w2 w3 A) args s 0 0 A) (F0 m 40 ls [])) : ∀ (L3 L4 L5 L6 f5_keptSize f5_aheadSize : Int32) (ai : Nat → Nat → Int32) (H : Heap) (locs : List Loc) (ls : Array Slot), (1 ≤ L3.toInt ∧ L3.toInt ≤ 1) → (0 ≤ L4.toInt ∧ L4.toInt ≤ 99999) → (0 ≤ L5.toInt ∧ L5.toInt ≤ 5999) → (0 ≤ L6.toInt ∧ L6.toInt ≤ 5999) → (1 ≤ f3_unknowns.toInt ∧ f3_unknowns.toInt ≤ 4) → (0 ≤ f3_equations.toInt ∧ f3_equations.toInt ≤ 3) → (0 ≤ f2_stale.toInt ∧ f2_stale.toInt ≤ 1) → (0 ≤ f7_size.toInt ∧ f7_size.toInt ≤ 256) → (0 ≤ f1_size.toInt ∧ f1_size.toInt ≤ 4) → (1 ≤ f5_keptSize.toInt ∧ f5_keptSize.toInt ≤ 128) → (0 ≤ f5_aheadSize.toInt ∧ f5_aheadSize.toInt ≤ 128) → (0 ≤ f4_blockCount.toInt ∧ f4_blockCount.toInt ≤ 9261) → (0 ≤ f4_blockLength.toInt ∧ f4_blockLength.toInt ≤ 21) → (0 ≤ f4_lastIsFree.toInt ∧ f4_lastIsFree.toInt ≤ 1) → (0 ≤ f4_stale.toInt ∧ f4_stale.toInt ≤ 1) → L4.toInt < 10000 → 10000 - L4.toInt ≤ (n40 : Int) → IAX ai → FR [23, 24] ai0 ai → RWX ad w0 → RWX ad w1 → RWX ad w2 → RWX ad w3 → va_P (dC, dI) vwCl (WX cI cJ cII cJJ ad f3_unknowns f3_equations f2_roundSupports f2_stale f7_size f1_size f5_keptSize f5_aheadSize f0_solved f4_blockCount f4_blockLength f4_lastIsFree f4_stale ai al w0 w1 w2 w3) H → va_D A (WX cI cJ cII cJJ ad f3_unknowns f3_equations f2_roundSupports f2_stale f7_size f1_size f5_keptSize f5_aheadSize f0_solved f4_blockCount f4_blockLength f4_lastIsFree f4_stale ai al w0 w1 w2 w3) → va_S A s.heap H locs → lv_has ls 7 [(0, .ref (ad 22)), (1, .ref (ad 19)), (2, .ref (ad 17)), (3, .int L3), (4, .int L4), (5, .int L5), (6, .int L6)] → W p l e ({ frames := 3, cells := 0, slots := 0, locals := 140 } : Room) s m args below meth c H locs 0 0 (MQ below (Q_m154_X5_walk dC dI cI cJ cII cJJ ad f3_unknowns f3_equations f2_roundSupports f2_stale f7_size f1_size f0_solved f4_blockCount f4_blockLength f4_lastIsFree f4_stale ai0 al w0 w1 w2 w3 A) args s 0 0 A) (F0 m 101 ls []) := by
  obtain ⟨hx, hb, hr, hml, hown, hts, hk, hA, hK, hX⟩ := id C
  intro L3 L4 L5 L6 f5_keptSize f5_aheadSize ai H locs ls h0 h1 h2 h3 h4 h5 h6 h7 h8 h9 h10 h11 h12 h13 h14 h15 h16 hI hF hw_w0 hw_w1 hw_w2 hw_w3 hP hD hS hl
  obtain ⟨z1, e_z1⟩ : ∃ q : Int32, q = L4 + Int32.ofInt 1 := ⟨_, rfl⟩
  have g_z1 : z1.toInt = L4.toInt + 1 := by rw [e_z1]; exact n_add (a := L4.toInt) (b := 1) rfl (by decide +kernel) (by omega) (by omega)
  refine lv_iinc (v := z1) (lv' := [(4, .int z1), (0, .ref (ad 22)), (1, .ref (ad 19)), (2, .ref (ad 17)), (3, .int L3), (5, .int L5), (6, .int L6)]) hx hb dX5_walk_101 hl (k := 4) rfl e_z1.symm (by decide) rfl (fun ls_1 hl_1 => ?_)
  refine lv_goto (tgt := 40) hx hb dX5_walk_104 (by decide) ?_
  exact K40 L3 z1 f5_keptSize f5_aheadSize ai _ _ _ (by omega) (by omega) (by omega) (by omega) (by omega) (by omega) (by omega) (by omega) (by omega) (by omega) (by omega) (by omega) (by omega) (by omega) (by omega) hI hF hw_w0 hw_w1 hw_w2 hw_w3 hP hD hS (lv_sub hl_1 [1, 2, 3, 4, 0] rfl)
set_option maxRecDepth 100000 in
set_option maxHeartbeats 4000000 in
theorem m154_X5_walk_b40 {p : Program} {l : Launch} {e : Env} {s : State} {m : MethodId} {args : Array Value} {below : List Frame} {meth : Method} {c : Code} {A : Nat → Prop} {dC : Nat → ClassId} {dI : Nat → Nat → Nat} {cI cJ cII cJJ : ClassId} {ad : Nat → Nat} {g : Nat} {f3_unknowns f3_equations f2_roundSupports f2_stale f7_size f1_size f0_solved f4_blockCount f4_blockLength f4_lastIsFree f4_stale : Int32} {ai0 : Nat → Nat → Int32} {al : Nat → Nat → Int64} {w0 w1 w2 w3 : Nat} (C : Cx p c s m meth args A dC dI (TY cI cJ cII cJJ) cX5_walk none 7 RX5 0 g) : ∀ (n : Nat), ∀ (L3 L4 f5_keptSize f5_aheadSize : Int32) (ai : Nat → Nat → Int32) (H : Heap) (locs : List Loc) (ls : Array Slot), (1 ≤ L3.toInt ∧ L3.toInt ≤ 1) → (0 ≤ L4.toInt ∧ L4.toInt ≤ 100000) → (1 ≤ f3_unknowns.toInt ∧ f3_unknowns.toInt ≤ 4) → (0 ≤ f3_equations.toInt ∧ f3_equations.toInt ≤ 3) → (0 ≤ f2_stale.toInt ∧ f2_stale.toInt ≤ 1) → (0 ≤ f7_size.toInt ∧ f7_size.toInt ≤ 256) → (0 ≤ f1_size.toInt ∧ f1_size.toInt ≤ 4) → (1 ≤ f5_keptSize.toInt ∧ f5_keptSize.toInt ≤ 128) → (0 ≤ f5_aheadSize.toInt ∧ f5_aheadSize.toInt ≤ 128) → (0 ≤ f4_blockCount.toInt ∧ f4_blockCount.toInt ≤ 9261) → (0 ≤ f4_blockLength.toInt ∧ f4_blockLength.toInt ≤ 21) → (0 ≤ f4_lastIsFree.toInt ∧ f4_lastIsFree.toInt ≤ 1) → (0 ≤ f4_stale.toInt ∧ f4_stale.toInt ≤ 1) → 10000 - L4.toInt < (n : Int) → (0 : Int) < (n : Int) → IAX ai → FR [23, 24] ai0 ai → RWX ad w0 → RWX ad w1 → RWX ad w2 → RWX ad w3 → va_P (dC, dI) vwCl (WX cI cJ cII cJJ ad f3_unknowns f3_equations f2_roundSupports f2_stale f7_size f1_size f5_keptSize f5_aheadSize f0_solved f4_blockCount f4_blockLength f4_lastIsFree f4_stale ai al w0 w1 w2 w3) H → va_D A (WX cI cJ cII cJJ ad f3_unknowns f3_equations f2_roundSupports f2_stale f7_size f1_size f5_keptSize f5_aheadSize f0_solved f4_blockCount f4_blockLength f4_lastIsFree f4_stale ai al w0 w1 w2 w3) → va_S A s.heap H locs → lv_has ls 7 [(0, .ref (ad 22)), (1, .ref (ad 19)), (2, .ref (ad 17)), (3, .int L3), (4, .int L4)] → W p l e ({ frames := 3, cells := 0, slots := 0, locals := 140 } : Room) s m args below meth c H locs 0 0 (MQ below (Q_m154_X5_walk dC dI cI cJ cII cJJ ad f3_unknowns f3_equations f2_roundSupports f2_stale f7_size f1_size f0_solved f4_blockCount f4_blockLength f4_lastIsFree f4_stale ai0 al w0 w1 w2 w3 A) args s 0 0 A) (F0 m 40 ls []) := by
  obtain ⟨hx, hb, hr, hml, hown, hts, hk, hA, hK, hX⟩ := id C
  intro n
  induction n with
  | zero =>
    intro L3 L4 f5_keptSize f5_aheadSize ai H locs ls h0 h1 h2 h3 h4 h5 h6 h7 h8 h9 h10 h11 h12 h13 h14 hI hF hw_w0 hw_w1 hw_w2 hw_w3 hP hD hS hl
    exact absurd h14 (by omega)
  | succ n ih =>
    intro L3 L4 f5_keptSize f5_aheadSize ai H locs ls h0 h1 h2 h3 h4 h5 h6 h7 h8 h9 h10 h11 h12 h13 h14 hI hF hw_w0 hw_w1 hw_w2 hw_w3 hP hD hS hl
    refine lv_iload hx hb dX5_walk_40 (lv_at hl 4 rfl) ?_
    refine lv_sipush (v := 10000) hx hb dX5_walk_42 (by decide) ?_
    refine lv_icmp_ge (tgt := 107) hx hb dX5_walk_45 (by decide) (fun c1 => ?_) (fun c1 => ?_)
    · have c1 := j_le (a := 10000) (b := L4.toInt) (by decide +kernel) rfl c1
      exact m154_X5_walk_b107 C  L3 L4 f5_keptSize f5_aheadSize ai _ _ _ (by omega) (by omega) (by omega) (by omega) (by omega) (by omega) (by omega) (by omega) (by omega) (by omega) (by omega) (by omega) (by omega) hI hF hw_w0 hw_w1 hw_w2 hw_w3 hP hD hS (lv_sub hl [0, 1, 2, 3, 4] rfl)
    · have c1 := j_nle (a := 10000) (b := L4.toInt) (by decide +kernel) rfl c1
      refine lv_aload_n hx hb dX5_walk_48 rfl (lv_at hl 0 rfl) ?_
      refine gf (k := 3) hx hb hts inX5 hown hK hP k_140 rfl (by decide) rfl 22 rfl (.int f5_aheadSize) rfl dX5_walk_49 ?_
      refine lv_if_le (tgt := 107) hx hb dX5_walk_52 (by decide) (fun c2 => ?_) (fun c2 => ?_)
      · have c2 := j_le (a := f5_aheadSize.toInt) (b := 0) rfl (by decide +kernel) c2
        exact m154_X5_walk_b107 C  L3 L4 f5_keptSize f5_aheadSize ai _ _ _ (by omega) (by omega) (by omega) (by omega) (by omega) (by omega) (by omega) (by omega) (by omega) (by omega) (by omega) (by omega) (by omega) hI hF hw_w0 hw_w1 hw_w2 hw_w3 hP hD hS (lv_sub hl [0, 1, 2, 3, 4] rfl)
      · have c2 := j_nle (a := f5_aheadSize.toInt) (b := 0) rfl (by decide +kernel) c2
        refine lv_aload_n hx hb dX5_walk_55 rfl (lv_at hl 0 rfl) ?_
        refine gf (k := 2) hx hb hts inX5 hown hK hP k_139 rfl (by decide) rfl 22 rfl (.int f5_keptSize) rfl dX5_walk_56 ?_
        refine lv_iconst (v := 1) hx hb dX5_walk_59 (by decide) ?_
        refine v_isub hx hb dX5_walk_60 _ rfl ?_
        refine lv_topi (fun z3 e_z3 => ?_)
        have g_z3 : z3.toInt = f5_keptSize.toInt - 1 := by rw [e_z3]; exact n_sub (a := f5_keptSize.toInt) (b := 1) rfl (by decide +kernel) (by omega) (by omega)
        refine lv_iconst (v := 4) hx hb dX5_walk_61 (by decide) ?_
        refine v_imul hx hb dX5_walk_62 _ rfl ?_
        refine lv_topi (fun z4 e_z4 => ?_)
        have g_z4 : z4.toInt = z3.toInt * 4 := by rw [e_z4]; exact n_mul (a := z3.toInt) (b := 4) rfl (by decide +kernel) (by omega) (by omega)
        refine lv_istore (lv' := [(5, .int z4), (0, .ref (ad 22)), (1, .ref (ad 19)), (2, .ref (ad 17)), (3, .int L3), (4, .int L4)]) hx hb dX5_walk_63 hl (by decide) rfl (fun ls_1 hl_1 => ?_)
        refine lv_aload_n hx hb dX5_walk_65 rfl (lv_at hl_1 1 rfl) ?_
        refine gf (k := 3) hx hb hts inX5 hown hK hP k_140 rfl (by decide) rfl 22 rfl (.int f5_aheadSize) rfl dX5_walk_66 ?_
        refine lv_iconst (v := 1) hx hb dX5_walk_69 (by decide) ?_
        refine v_isub hx hb dX5_walk_70 _ rfl ?_
        refine lv_topi (fun z5 e_z5 => ?_)
        have g_z5 : z5.toInt = f5_aheadSize.toInt - 1 := by rw [e_z5]; exact n_sub (a := f5_aheadSize.toInt) (b := 1) rfl (by decide +kernel) (by omega) (by omega)
        refine lv_iconst (v := 4) hx hb dX5_walk_71 (by decide) ?_
        refine v_imul hx hb dX5_walk_72 _ rfl ?_
        refine lv_topi (fun z6 e_z6 => ?_)
        have g_z6 : z6.toInt = z5.toInt * 4 := by rw [e_z6]; exact n_mul (a := z5.toInt) (b := 4) rfl (by decide +kernel) (by omega) (by omega)
        refine lv_istore (lv' := [(6, .int z6), (5, .int z4), (0, .ref (ad 22)), (1, .ref (ad 19)), (2, .ref (ad 17)), (3, .int L3), (4, .int L4)]) hx hb dX5_walk_73 hl_1 (by decide) rfl (fun ls_2 hl_2 => ?_)
        refine lv_aload_n hx hb dX5_walk_75 rfl (lv_at hl_2 2 rfl) ?_
        refine lv_iload hx hb dX5_walk_76 (lv_at hl_2 1 rfl) ?_
        refine lv_iload hx hb dX5_walk_78 (lv_at hl_2 0 rfl) ?_
        have hM := m068_X5_haveOppositeSigns l dC dI cI cJ cII cJJ H.size 0 ad f3_unknowns f3_equations f2_roundSupports f2_stale f7_size f1_size f5_keptSize f5_aheadSize f0_solved f4_blockCount f4_blockLength f4_lastIsFree f4_stale ai al w0 w1 w2 w3 z4 z6 (by omega) (by omega) (by omega) (by omega) (by omega) (by omega) (by omega) (by omega) (by omega) (by omega) (by omega) (by omega) (by omega) hI hw_w0 hw_w1 hw_w2 hw_w3
        refine k2V_i (q0 := 22) ⟨hx, hb, hml, hown, hts⟩ hK hP hD hS hA hX cv_RX5_32 hM ⟨by decide +kernel, by decide +kernel⟩ rfl rfl (Or.inl rfl) (rest := []) rfl rfl rfl hl_2.1 rfl (Nat.le_of_ble_eq_true rfl) dX5_walk_80 ⟨Nat.le_of_ble_eq_true rfl, Nat.le_of_ble_eq_true rfl⟩ (fun r7 t H1 locs_3 ht hB hS_3 hFc => ?_)
        obtain ⟨gpr7_0, hP_4, -, hD_4⟩ := hB
        rw [ht] at hP_4
        have hD_5 := hD_4.weaken (B := A) (fun k q _ h9 => hFc q.1 h9)
        clear ht
        generalize H1 = H_6 at hP_4 hS_3 ⊢
        refine lv_if_eq (tgt := 97) hx hb dX5_walk_83 (by decide) (fun c8 => ?_) (fun c8 => ?_)
        · have c8 := j_eq (a := r7.toInt) (b := 0) rfl (by decide +kernel) c8
          refine lv_aload_n hx hb dX5_walk_97 rfl (lv_at hl_2 2 rfl) ?_
          have hM := m067_X5_keepNext l dC dI cI cJ cII cJJ H_6.size 0 ad f3_unknowns f3_equations f2_roundSupports f2_stale f7_size f1_size f5_keptSize f5_aheadSize f0_solved f4_blockCount f4_blockLength f4_lastIsFree f4_stale ai al w0 w1 w2 w3 (by omega) (by omega) (by omega) (by omega) (by omega) (by omega) (by omega) (by omega) (by omega) (by omega) (by omega) hI hw_w0 hw_w1 hw_w2 hw_w3
          refine k2V_v (q0 := 22) ⟨hx, hb, hml, hown, hts⟩ hK hP_4 hD_5 hS_3 hA hX cv_RX5_29 hM ⟨by decide +kernel, by decide +kernel⟩ rfl rfl (Or.inl rfl) (rest := []) rfl rfl rfl hl_2.1 rfl (Nat.le_of_ble_eq_true rfl) dX5_walk_98 ⟨Nat.le_of_ble_eq_true rfl, Nat.le_of_ble_eq_true rfl⟩ (fun t H1 locs_7 ht hB hS_7 hFc => ?_)
          obtain ⟨v10, v11, ai12, ⟨gpr9_0, gpr9_1, gpr9_2, hI_8, hFr_r9⟩, hP_8, -, hD_8⟩ := hB
          have hF_9 := FR_tr hF hFr_r9 (by decide)
          rw [ht] at hP_8
          have hD_10 := hD_8.weaken (B := A) (fun k q _ h9 => hFc q.1 h9)
          clear ht
          generalize H1 = H_11 at hP_8 hS_7 ⊢
          exact m154_X5_walk_b101 C n ih L3 L4 z4 z6 v10 v11 ai12 _ _ _ (by omega) (by omega) (by omega) (by omega) (by omega) (by omega) (by omega) (by omega) (by omega) (by omega) (by omega) (by omega) (by omega) (by omega) (by omega) (by omega) (by omega) hI_8 hF_9 hw_w0 hw_w1 hw_w2 hw_w3 hP_8 hD_10 hS_7 (lv_sub hl_2 [2, 3, 4, 5, 6, 1, 0] rfl)
        · have c8 := j_ne (a := r7.toInt) (b := 0) rfl (by decide +kernel) c8
          refine lv_aload_n hx hb dX5_walk_86 rfl (lv_at hl_2 2 rfl) ?_
          refine lv_iload hx hb dX5_walk_87 (lv_at hl_2 1 rfl) ?_
          refine lv_iload hx hb dX5_walk_89 (lv_at hl_2 0 rfl) ?_
          have hM := m066_X5_pushSum l dC dI cI cJ cII cJJ H_6.size 0 ad f3_unknowns f3_equations f2_roundSupports f2_stale f7_size f1_size f5_keptSize f5_aheadSize f0_solved f4_blockCount f4_blockLength f4_lastIsFree f4_stale ai al w0 w1 w2 w3 z4 z6 (by omega) (by omega) (by omega) (by omega) (by omega) (by omega) (by omega) (by omega) (by omega) (by omega) (by omega) (by omega) (by omega) hI hw_w0 hw_w1 hw_w2 hw_w3
          refine k2V_v (q0 := 22) ⟨hx, hb, hml, hown, hts⟩ hK hP_4 hD_5 hS_3 hA hX cv_RX5_36 hM ⟨by decide +kernel, by decide +kernel⟩ rfl rfl (Or.inl rfl) (rest := []) rfl rfl rfl hl_2.1 rfl (Nat.le_of_ble_eq_true rfl) dX5_walk_91 ⟨Nat.le_of_ble_eq_true rfl, Nat.le_of_ble_eq_true rfl⟩ (fun t H1 locs_12 ht hB hS_12 hFc => ?_)
          obtain ⟨v14, ai15, ⟨gpr13_0, gpr13_1, hI_13, hFr_r13⟩, hP_13, -, hD_13⟩ := hB
          have hF_14 := FR_tr hF hFr_r13 (by decide)
          rw [ht] at hP_13
          have hD_15 := hD_13.weaken (B := A) (fun k q _ h9 => hFc q.1 h9)
          clear ht
          generalize H1 = H_16 at hP_13 hS_12 ⊢
          refine lv_goto (tgt := 101) hx hb dX5_walk_94 (by decide) ?_
          exact m154_X5_walk_b101 C n ih L3 L4 z4 z6 f5_keptSize v14 ai15 _ _ _ (by omega) (by omega) (by omega) (by omega) (by omega) (by omega) (by omega) (by omega) (by omega) (by omega) (by omega) (by omega) (by omega) (by omega) (by omega) (by omega) (by omega) hI_13 hF_14 hw_w0 hw_w1 hw_w2 hw_w3 hP_13 hD_15 hS_12 (lv_sub hl_2 [2, 3, 4, 5, 6, 1, 0] rfl)
set_option maxRecDepth 100000 in
set_option maxHeartbeats 4000000 in
theorem m154_X5_walk (l : Launch) (dC : Nat → ClassId) (dI : Nat → Nat → Nat) (cI cJ cII cJJ : ClassId) (sz g : Nat) (ad : Nat → Nat) (f3_unknowns f3_equations f2_roundSupports f2_stale f7_size f1_size f5_keptSize f5_aheadSize f0_solved f4_blockCount f4_blockLength f4_lastIsFree f4_stale : Int32) (ai : Nat → Nat → Int32) (al : Nat → Nat → Int64) (w0 w1 w2 w3 : Nat) (x3 : Int32) (h_x3 : (0 ≤ x3.toInt ∧ x3.toInt ≤ 1)) (h_f3_unknowns : (1 ≤ f3_unknowns.toInt ∧ f3_unknowns.toInt ≤ 4)) (h_f3_equations : (0 ≤ f3_equations.toInt ∧ f3_equations.toInt ≤ 3)) (h_f2_stale : (0 ≤ f2_stale.toInt ∧ f2_stale.toInt ≤ 1)) (h_f7_size : (0 ≤ f7_size.toInt ∧ f7_size.toInt ≤ 256)) (h_f1_size : (0 ≤ f1_size.toInt ∧ f1_size.toInt ≤ 4)) (h_f5_keptSize : (0 ≤ f5_keptSize.toInt ∧ f5_keptSize.toInt ≤ 128)) (h_f5_aheadSize : (0 ≤ f5_aheadSize.toInt ∧ f5_aheadSize.toInt ≤ 128)) (h_f4_blockCount : (0 ≤ f4_blockCount.toInt ∧ f4_blockCount.toInt ≤ 9261)) (h_f4_blockLength : (0 ≤ f4_blockLength.toInt ∧ f4_blockLength.toInt ≤ 21)) (h_f4_lastIsFree : (0 ≤ f4_lastIsFree.toInt ∧ f4_lastIsFree.toInt ≤ 1)) (h_f4_stale : (0 ≤ f4_stale.toInt ∧ f4_stale.toInt ≤ 1)) (hI : IAX ai) (hw_w0 : RWX ad w0) (hw_w1 : RWX ad w1) (hw_w2 : RWX ad w2) (hw_w3 : RWX ad w3) : Met l yX5_walk (.code yX5_walk cX5_walk 7 none :: TT) ({ frames := 3, cells := 0, slots := 0, locals := 140 } : Room) (PcS dC dI (TY cI cJ cII cJJ) [.ref (ad 22), .ref (ad 19), .ref (ad 17), .int x3] (WX cI cJ cII cJJ ad f3_unknowns f3_equations f2_roundSupports f2_stale f7_size f1_size f5_keptSize f5_aheadSize f0_solved f4_blockCount f4_blockLength f4_lastIsFree f4_stale ai al w0 w1 w2 w3) sz 0 g) (Q_m154_X5_walk dC dI cI cJ cII cJJ ad f3_unknowns f3_equations f2_roundSupports f2_stale f7_size f1_size f0_solved f4_blockCount f4_blockLength f4_lastIsFree f4_stale ai al w0 w1 w2 w3 (va_A (WX cI cJ cII cJJ ad f3_unknowns f3_equations f2_roundSupports f2_stale f7_size f1_size f5_keptSize f5_aheadSize f0_solved f4_blockCount f4_blockLength f4_lastIsFree f4_stale ai al w0 w1 w2 w3) sz)) 0 0 (va_A (WX cI cJ cII cJJ ad f3_unknowns f3_equations f2_roundSupports f2_stale f7_size f1_size f5_keptSize f5_aheadSize f0_solved f4_blockCount f4_blockLength f4_lastIsFree f4_stale ai al w0 w1 w2 w3) sz) := by
  refine SM.of (y := yX5_walk) (maxL := 7) (av := [.ref (ad 22), .ref (ad 19), .ref (ad 17), .int x3]) (Q_m154_X5_walk dC dI cI cJ cII cJJ ad f3_unknowns f3_equations f2_roundSupports f2_stale f7_size f1_size f0_solved f4_blockCount f4_blockLength f4_lastIsFree f4_stale ai al w0 w1 w2 w3) (by decide +kernel) (Nat.le_of_ble_eq_true rfl) (fun p e s m below meth c A ls hx hb hr hml hown hts hk hnm hA hK hP hD hS hX hl => ?_)
  have C : Cx p c s m meth (([.ref (ad 22), .ref (ad 19), .ref (ad 17), .int x3] : List Value).toArray) A dC dI (TY cI cJ cII cJJ) cX5_walk none 7 RX5 0 g := ⟨hx, hb, hr, hml, hown, hts, hk, hA, hK, hX⟩
  have hown : s.vm.findClass RX5 = some m.cls := hown
  have hl : lv_has ls 7 [(0, .ref (ad 22)), (1, .ref (ad 19)), (2, .ref (ad 17)), (3, .int x3)] := hl
  obtain ⟨H, hH⟩ : ∃ q, q = s.heap := ⟨_, rfl⟩
  rw [← hH] at hP
  have hS : va_S A s.heap H [] := by rw [hH]; exact hS
  rw [← hH]
  have hF := FR_refl [23, 24] ai
  refine lv_aload_n hx hb dX5_walk_0 rfl (lv_at hl 0 rfl) ?_
  refine lv_iconst (v := 0) hx hb dX5_walk_1 (by decide) ?_
  refine pf (k := 2) hx hb hts inX5 tyX5_ok nmX5 hown hK hP hD hS k_139 rfl (by decide) rfl rfl 22 rfl rfl rfl (Nat.le_of_ble_eq_true rfl) dX5_walk_2 (W' := (WX cI cJ cII cJJ ad f3_unknowns f3_equations f2_roundSupports f2_stale f7_size f1_size 0 f5_aheadSize f0_solved f4_blockCount f4_blockLength f4_lastIsFree f4_stale ai al w0 w1 w2 w3)) rfl (fun H_1 locs_1 hP_1 hD_1 hS_1 => ?_)
  refine lv_aload_n hx hb dX5_walk_5 rfl (lv_at hl 0 rfl) ?_
  refine lv_iconst (v := 0) hx hb dX5_walk_6 (by decide) ?_
  refine pf (k := 3) hx hb hts inX5 tyX5_ok nmX5 hown hK hP_1 hD_1 hS_1 k_140 rfl (by decide) rfl rfl 22 rfl rfl rfl (Nat.le_of_ble_eq_true rfl) dX5_walk_7 (W' := (WX cI cJ cII cJJ ad f3_unknowns f3_equations f2_roundSupports f2_stale f7_size f1_size 0 0 f0_solved f4_blockCount f4_blockLength f4_lastIsFree f4_stale ai al w0 w1 w2 w3)) rfl (fun H_2 locs_2 hP_2 hD_2 hS_2 => ?_)
  refine lv_aload_n hx hb dX5_walk_10 rfl (lv_at hl 0 rfl) ?_
  refine lv_aload_n hx hb dX5_walk_11 rfl (lv_at hl 1 rfl) ?_
  refine lv_iconst (v := 1) hx hb dX5_walk_12 (by decide) ?_
  have kc0 : (0 : Int32).toInt = 0 := by decide +kernel
  have kc1 : (1 : Int32).toInt = 1 := by decide +kernel
  have hM := m150_X5_pushAhead l dC dI cI cJ cII cJJ H_2.size 0 ad f3_unknowns f3_equations f2_roundSupports f2_stale f7_size f1_size 0 0 f0_solved f4_blockCount f4_blockLength f4_lastIsFree f4_stale ai al w0 w1 w2 w3 1 (by omega) (by omega) (by omega) (by omega) (by omega) (by decide +kernel) (by decide +kernel) (by omega) (by omega) (by omega) (by omega) hI hw_w0 hw_w1 hw_w2 hw_w3
  refine k2V_v (q0 := 22) ⟨hx, hb, hml, hown, hts⟩ hK hP_2 hD_2 hS_2 hA hX cv_RX5_25 hM ⟨by decide +kernel, by decide +kernel⟩ rfl rfl (Or.inl rfl) (rest := []) rfl rfl rfl hl.1 rfl (Nat.le_of_ble_eq_true rfl) dX5_walk_13 ⟨Nat.le_of_ble_eq_true rfl, Nat.le_of_ble_eq_true rfl⟩ (fun t H1 locs_3 ht hB hS_3 hFc => ?_)
  obtain ⟨v2, ai3, ⟨gpr1_0, gpr1_1, hI_4, hFr_r1⟩, hP_4, -, hD_4⟩ := hB
  have hF_5 := FR_tr hF hFr_r1 (by decide)
  rw [ht] at hP_4
  have hD_6 := hD_4.weaken (B := A) (fun k q _ h9 => hFc q.1 h9)
  clear ht
  generalize H1 = H_7 at hP_4 hS_3 ⊢
  refine lv_aload_n hx hb dX5_walk_16 rfl (lv_at hl 0 rfl) ?_
  have kc0 : (0 : Int32).toInt = 0 := by decide +kernel
  have hM := m067_X5_keepNext l dC dI cI cJ cII cJJ H_7.size 0 ad f3_unknowns f3_equations f2_roundSupports f2_stale f7_size f1_size 0 v2 f0_solved f4_blockCount f4_blockLength f4_lastIsFree f4_stale ai3 al w0 w1 w2 w3 (by omega) (by omega) (by omega) (by omega) (by omega) (by decide +kernel) (by omega) (by omega) (by omega) (by omega) (by omega) hI_4 hw_w0 hw_w1 hw_w2 hw_w3
  refine k2V_v (q0 := 22) ⟨hx, hb, hml, hown, hts⟩ hK hP_4 hD_6 hS_3 hA hX cv_RX5_29 hM ⟨by decide +kernel, by decide +kernel⟩ rfl rfl (Or.inl rfl) (rest := []) rfl rfl rfl hl.1 rfl (Nat.le_of_ble_eq_true rfl) dX5_walk_17 ⟨Nat.le_of_ble_eq_true rfl, Nat.le_of_ble_eq_true rfl⟩ (fun t H1 locs_8 ht hB hS_8 hFc => ?_)
  obtain ⟨v5, v6, ai7, ⟨gpr4_0, gpr4_1, gpr4_2, hI_9, hFr_r4⟩, hP_9, -, hD_9⟩ := hB
  have hF_10 := FR_tr hF_5 hFr_r4 (by decide)
  rw [ht] at hP_9
  have hD_11 := hD_9.weaken (B := A) (fun k q _ h9 => hFc q.1 h9)
  clear ht
  generalize H1 = H_12 at hP_9 hS_8 ⊢
  refine lv_iload_n hx hb dX5_walk_20 rfl (lv_at hl 3 rfl) ?_
  refine lv_if_ne (tgt := 25) hx hb dX5_walk_21 (by decide) (fun c8 => ?_) (fun c8 => ?_)
  · have c8 := j_ne (a := x3.toInt) (b := 0) rfl (by decide +kernel) c8
    refine lv_aload_n hx hb dX5_walk_25 rfl (lv_at hl 0 rfl) ?_
    refine lv_aload_n hx hb dX5_walk_26 rfl (lv_at hl 1 rfl) ?_
    refine lv_iconst (v := (-1)) hx hb dX5_walk_27 (by decide) ?_
    have kcm1 : ((-1) : Int32).toInt = (-1) := by decide +kernel
    have hM := m150_X5_pushAhead l dC dI cI cJ cII cJJ H_12.size 0 ad f3_unknowns f3_equations f2_roundSupports f2_stale f7_size f1_size v5 v6 f0_solved f4_blockCount f4_blockLength f4_lastIsFree f4_stale ai7 al w0 w1 w2 w3 (-1) (by omega) (by omega) (by omega) (by omega) (by omega) (by omega) (by omega) (by omega) (by omega) (by omega) (by omega) hI_9 hw_w0 hw_w1 hw_w2 hw_w3
    refine k2V_v (q0 := 22) ⟨hx, hb, hml, hown, hts⟩ hK hP_9 hD_11 hS_8 hA hX cv_RX5_25 hM ⟨by decide +kernel, by decide +kernel⟩ rfl rfl (Or.inl rfl) (rest := []) rfl rfl rfl hl.1 rfl (Nat.le_of_ble_eq_true rfl) dX5_walk_28 ⟨Nat.le_of_ble_eq_true rfl, Nat.le_of_ble_eq_true rfl⟩ (fun t H1 locs_13 ht hB hS_13 hFc => ?_)
    obtain ⟨v10, ai11, ⟨gpr9_0, gpr9_1, hI_14, hFr_r9⟩, hP_14, -, hD_14⟩ := hB
    have hF_15 := FR_tr hF_10 hFr_r9 (by decide)
    rw [ht] at hP_14
    have hD_16 := hD_14.weaken (B := A) (fun k q _ h9 => hFc q.1 h9)
    clear ht
    generalize H1 = H_17 at hP_14 hS_13 ⊢
    refine lv_aload_n hx hb dX5_walk_31 rfl (lv_at hl 0 rfl) ?_
    refine lv_aload_n hx hb dX5_walk_32 rfl (lv_at hl 2 rfl) ?_
    refine lv_iconst (v := 1) hx hb dX5_walk_33 (by decide) ?_
    have kc1 : (1 : Int32).toInt = 1 := by decide +kernel
    have hM := m069_X5_pushAhead l dC dI cI cJ cII cJJ H_17.size 0 ad f3_unknowns f3_equations f2_roundSupports f2_stale f7_size f1_size v5 v10 f0_solved f4_blockCount f4_blockLength f4_lastIsFree f4_stale ai11 al w0 w1 w2 w3 1 (by omega) (by omega) (by omega) (by omega) (by omega) (by omega) (by omega) (by omega) (by omega) (by omega) (by omega) hI_14 hw_w0 hw_w1 hw_w2 hw_w3
    refine k2V_v (q0 := 22) ⟨hx, hb, hml, hown, hts⟩ hK hP_14 hD_16 hS_13 hA hX cv_RX5_25 hM ⟨by decide +kernel, by decide +kernel⟩ rfl rfl (Or.inl rfl) (rest := []) rfl rfl rfl hl.1 rfl (Nat.le_of_ble_eq_true rfl) dX5_walk_34 ⟨Nat.le_of_ble_eq_true rfl, Nat.le_of_ble_eq_true rfl⟩ (fun t H1 locs_18 ht hB hS_18 hFc => ?_)
    obtain ⟨v13, ai14, ⟨gpr12_0, gpr12_1, hI_19, hFr_r12⟩, hP_19, -, hD_19⟩ := hB
    have hF_20 := FR_tr hF_15 hFr_r12 (by decide)
    rw [ht] at hP_19
    have hD_21 := hD_19.weaken (B := A) (fun k q _ h9 => hFc q.1 h9)
    clear ht
    generalize H1 = H_22 at hP_19 hS_18 ⊢
    refine lv_iconst (v := 0) hx hb dX5_walk_37 (by decide) ?_
    refine lv_istore (lv' := [(4, .int 0), (0, .ref (ad 22)), (1, .ref (ad 19)), (2, .ref (ad 17)), (3, .int x3)]) hx hb dX5_walk_38 hl (by decide) rfl (fun ls_23 hl_23 => ?_)
    exact m154_X5_walk_b40 C  _ x3 0 v5 v13 ai14 _ _ _ (by first | omega | decide | (have ka0 := (by decide +kernel : (0 : Int32).toInt = 0); omega)) (by first | omega | decide | (have ka0 := (by decide +kernel : (0 : Int32).toInt = 0); omega)) (by first | omega | decide | (have ka0 := (by decide +kernel : (0 : Int32).toInt = 0); omega)) (by first | omega | decide | (have ka0 := (by decide +kernel : (0 : Int32).toInt = 0); omega)) (by first | omega | decide | (have ka0 := (by decide +kernel : (0 : Int32).toInt = 0); omega)) (by first | omega | decide | (have ka0 := (by decide +kernel : (0 : Int32).toInt = 0); omega)) (by first | omega | decide | (have ka0 := (by decide +kernel : (0 : Int32).toInt = 0); omega)) (by first | omega | decide | (have ka0 := (by decide +kernel : (0 : Int32).toInt = 0); omega)) (by first | omega | decide | (have ka0 := (by decide +kernel : (0 : Int32).toInt = 0); omega)) (by first | omega | decide | (have ka0 := (by decide +kernel : (0 : Int32).toInt = 0); omega)) (by first | omega | decide | (have ka0 := (by decide +kernel : (0 : Int32).toInt = 0); omega)) (by first | omega | decide | (have ka0 := (by decide +kernel : (0 : Int32).toInt = 0); omega)) (by first | omega | decide | (have ka0 := (by decide +kernel : (0 : Int32).toInt = 0); omega)) (j_fuel _) (by omega) hI_19 hF_20 hw_w0 hw_w1 hw_w2 hw_w3 hP_19 hD_21 hS_18 (lv_sub hl_23 [1, 2, 3, 4, 0] rfl)
  · have c8 := j_eq (a := x3.toInt) (b := 0) rfl (by decide +kernel) c8
    exact r2_v hx hb hr hk hS_8 dX5_walk_24 (fun t ht hW => ⟨v5, v6, ai7, ⟨(by first | omega | decide | exact Or.inl (by decide) | exact Or.inr (by decide) | exact Or.inr (by omega)), (by first | omega | decide | exact Or.inl (by decide) | exact Or.inr (by decide) | exact Or.inr (by omega)), hI_9, hF_10⟩, by rw [ht]; exact hP_9, va_K.moved hW.alike hK, hD_11⟩)
def Q_m155_X5_walk (dC : Nat → ClassId) (dI : Nat → Nat → Nat) (cI cJ cII cJJ : ClassId) (ad : Nat → Nat) (f3_unknowns f3_equations f2_roundSupports f2_stale f7_size f1_size f0_solved f4_blockCount f4_blockLength f4_lastIsFree f4_stale : Int32) (ai0 : Nat → Nat → Int32) (al : Nat → Nat → Int64) (w0 w1 w2 w3 : Nat) : (Nat → Prop) → Array Value → State → Outcome → State → Prop := fun A => QV (fun t => ∃ (n_f5_keptSize n_f5_aheadSize : Int32), ∃ (n_ai : Nat → Nat → Int32), ((0 ≤ n_f5_keptSize.toInt ∧ n_f5_keptSize.toInt ≤ 127) ∧ (0 ≤ n_f5_aheadSize.toInt ∧ n_f5_aheadSize.toInt ≤ 128) ∧ IAX n_ai ∧ FR [23, 24] ai0 n_ai) ∧ WO dC dI (TY cI cJ cII cJJ) (WX cI cJ cII cJJ ad f3_unknowns f3_equations f2_roundSupports f2_stale f7_size f1_size n_f5_keptSize n_f5_aheadSize f0_solved f4_blockCount f4_blockLength f4_lastIsFree f4_stale n_ai al w0 w1 w2 w3) A t) A
set_option maxRecDepth 100000 in
set_option maxHeartbeats 4000000 in
theorem m155_X5_walk_b107 {p : Program} {l : Launch} {e : Env} {s : State} {m : MethodId} {args : Array Value} {below : List Frame} {meth : Method} {c : Code} {A : Nat → Prop} {dC : Nat → ClassId} {dI : Nat → Nat → Nat} {cI cJ cII cJJ : ClassId} {ad : Nat → Nat} {g : Nat} {f3_unknowns f3_equations f2_roundSupports f2_stale f7_size f1_size f0_solved f4_blockCount f4_blockLength f4_lastIsFree f4_stale : Int32} {ai0 : Nat → Nat → Int32} {al : Nat → Nat → Int64} {w0 w1 w2 w3 : Nat} (C : Cx p c s m meth args A dC dI (TY cI cJ cII cJJ) cX5_walk none 7 RX5 0 g) : ∀ (L3 L4 f5_keptSize f5_aheadSize : Int32) (ai : Nat → Nat → Int32) (H : Heap) (locs : List Loc) (ls : Array Slot), (1 ≤ L3.toInt ∧ L3.toInt ≤ 1) → (0 ≤ L4.toInt ∧ L4.toInt ≤ 100000) → (1 ≤ f3_unknowns.toInt ∧ f3_unknowns.toInt ≤ 4) → (0 ≤ f3_equations.toInt ∧ f3_equations.toInt ≤ 3) → (0 ≤ f2_stale.toInt ∧ f2_stale.toInt ≤ 1) → (0 ≤ f7_size.toInt ∧ f7_size.toInt ≤ 256) → (0 ≤ f1_size.toInt ∧ f1_size.toInt ≤ 4) → (1 ≤ f5_keptSize.toInt ∧ f5_keptSize.toInt ≤ 128) → (0 ≤ f5_aheadSize.toInt ∧ f5_aheadSize.toInt ≤ 128) → (0 ≤ f4_blockCount.toInt ∧ f4_blockCount.toInt ≤ 9261) → (0 ≤ f4_blockLength.toInt ∧ f4_blockLength.toInt ≤ 21) → (0 ≤ f4_lastIsFree.toInt ∧ f4_lastIsFree.toInt ≤ 1) → (0 ≤ f4_stale.toInt ∧ f4_stale.toInt ≤ 1) → IAX ai → FR [23, 24] ai0 ai → RWX ad w0 → RWX ad w1 → RWX ad w2 → RWX ad w3 → va_P (dC, dI) vwCl (WX cI cJ cII cJJ ad f3_unknowns f3_equations f2_roundSupports f2_stale f7_size f1_size f5_keptSize f5_aheadSize f0_solved f4_blockCount f4_blockLength f4_lastIsFree f4_stale ai al w0 w1 w2 w3) H → va_D A (WX cI cJ cII cJJ ad f3_unknowns f3_equations f2_roundSupports f2_stale f7_size f1_size f5_keptSize f5_aheadSize f0_solved f4_blockCount f4_blockLength f4_lastIsFree f4_stale ai al w0 w1 w2 w3) → va_S A s.heap H locs → lv_has ls 7 [(0, .ref (ad 22)), (1, .ref (ad 16)), (2, .ref (ad 18)), (3, .int L3), (4, .int L4)] → W p l e ({ frames := 3, cells := 0, slots := 0, locals := 140 } : Room) s m args below meth c H locs 0 0 (MQ below (Q_m155_X5_walk dC dI cI cJ cII cJJ ad f3_unknowns f3_equations f2_roundSupports f2_stale f7_size f1_size f0_solved f4_blockCount f4_blockLength f4_lastIsFree f4_stale ai0 al w0 w1 w2 w3 A) args s 0 0 A) (F0 m 107 ls []) := by
  obtain ⟨hx, hb, hr, hml, hown, hts, hk, hA, hK, hX⟩ := id C
  intro L3 L4 f5_keptSize f5_aheadSize ai H locs ls h0 h1 h2 h3 h4 h5 h6 h7 h8 h9 h10 h11 h12 hI hF hw_w0 hw_w1 hw_w2 hw_w3 hP hD hS hl
  refine lv_aload_n hx hb dX5_walk_107 rfl (lv_at hl 0 rfl) ?_
  refine lv_dup hx hb dX5_walk_108 rfl ?_
  refine gf (k := 2) hx hb hts inX5 hown hK hP k_139 rfl (by decide) rfl 22 rfl (.int f5_keptSize) rfl dX5_walk_109 ?_
  refine lv_iconst (v := 1) hx hb dX5_walk_112 (by decide) ?_
  refine v_isub hx hb dX5_walk_113 _ rfl ?_
  refine lv_topi (fun z1 e_z1 => ?_)
  have g_z1 : z1.toInt = f5_keptSize.toInt - 1 := by rw [e_z1]; exact n_sub (a := f5_keptSize.toInt) (b := 1) rfl (by decide +kernel) (by omega) (by omega)
  refine pf (k := 2) hx hb hts inX5 tyX5_ok nmX5 hown hK hP hD hS k_139 rfl (by decide) rfl rfl 22 rfl rfl rfl (Nat.le_of_ble_eq_true rfl) dX5_walk_114 (W' := (WX cI cJ cII cJJ ad f3_unknowns f3_equations f2_roundSupports f2_stale f7_size f1_size z1 f5_aheadSize f0_solved f4_blockCount f4_blockLength f4_lastIsFree f4_stale ai al w0 w1 w2 w3)) rfl (fun H_1 locs_1 hP_1 hD_1 hS_1 => ?_)
  exact r2_v hx hb hr hk hS_1 dX5_walk_117 (fun t ht hW => ⟨z1, f5_aheadSize, ai, ⟨(by first | omega | decide | exact Or.inl (by decide) | exact Or.inr (by decide) | exact Or.inr (by omega)), (by first | omega | decide | exact Or.inl (by decide) | exact Or.inr (by decide) | exact Or.inr (by omega)), hI, hF⟩, by rw [ht]; exact hP_1, va_K.moved hW.alike hK, hD_1⟩)
set_option maxRecDepth 100000 in
set_option maxHeartbeats 4000000 in
theorem m155_X5_walk_b101 {p : Program} {l : Launch} {e : Env} {s : State} {m : MethodId} {args : Array Value} {below : List Frame} {meth : Method} {c : Code} {A : Nat → Prop} {dC : Nat → ClassId} {dI : Nat → Nat → Nat} {cI cJ cII cJJ : ClassId} {ad : Nat → Nat} {g : Nat} {f3_unknowns f3_equations f2_roundSupports f2_stale f7_size f1_size f0_solved f4_blockCount f4_blockLength f4_lastIsFree f4_stale : Int32} {ai0 : Nat → Nat → Int32} {al : Nat → Nat → Int64} {w0 w1 w2 w3 : Nat} (C : Cx p c s m meth args A dC dI (TY cI cJ cII cJJ) cX5_walk none 7 RX5 0 g) (n40 : Nat) (K40 : ∀ (L3 L4 f5_keptSize f5_aheadSize : Int32) (ai : Nat → Nat → Int32) (H : Heap) (locs : List Loc) (ls : Array Slot), (1 ≤ L3.toInt ∧ L3.toInt ≤ 1) → (0 ≤ L4.toInt ∧ L4.toInt ≤ 100000) → (1 ≤ f3_unknowns.toInt ∧ f3_unknowns.toInt ≤ 4) → (0 ≤ f3_equations.toInt ∧ f3_equations.toInt ≤ 3) → (0 ≤ f2_stale.toInt ∧ f2_stale.toInt ≤ 1) → (0 ≤ f7_size.toInt ∧ f7_size.toInt ≤ 256) → (0 ≤ f1_size.toInt ∧ f1_size.toInt ≤ 4) → (1 ≤ f5_keptSize.toInt ∧ f5_keptSize.toInt ≤ 128) → (0 ≤ f5_aheadSize.toInt ∧ f5_aheadSize.toInt ≤ 128) → (0 ≤ f4_blockCount.toInt ∧ f4_blockCount.toInt ≤ 9261) → (0 ≤ f4_blockLength.toInt ∧ f4_blockLength.toInt ≤ 21) → (0 ≤ f4_lastIsFree.toInt ∧ f4_lastIsFree.toInt ≤ 1) → (0 ≤ f4_stale.toInt ∧ f4_stale.toInt ≤ 1) → 10000 - L4.toInt < (n40 : Int) → (0 : Int) < (n40 : Int) → IAX ai → FR [23, 24] ai0 ai → RWX ad w0 → RWX ad w1 → RWX ad w2 → RWX ad w3 → va_P (dC, dI) vwCl (WX cI cJ cII cJJ ad f3_unknowns f3_equations f2_roundSupports f2_stale f7_size f1_size f5_keptSize f5_aheadSize f0_solved f4_blockCount f4_blockLength f4_lastIsFree f4_stale ai al w0 w1 w2 w3) H → va_D A (WX cI cJ cII cJJ ad f3_unknowns f3_equations f2_roundSupports f2_stale f7_size f1_size f5_keptSize f5_aheadSize f0_solved f4_blockCount f4_blockLength f4_lastIsFree f4_stale ai al w0 w1 w2 w3) → va_S A s.heap H locs → lv_has ls 7 [(0, .ref (ad 22)), (1, .ref (ad 16)), (2, .ref (ad 18)), (3, .int L3), (4, .int L4)] → W p l e ({ frames := 3, cells := 0, slots := 0, locals := 140 } : Room) s m args below meth c H locs 0 0 (MQ below (Q_m155_X5_walk dC dI cI cJ cII cJJ ad f3_unknowns f3_equations f2_roundSupports f2_stale f7_size f1_size f0_solved f4_blockCount f4_blockLength f4_lastIsFree f4_stale ai0 al w0 w1 w2 w3 A) args s 0 0 A) (F0 m 40 ls [])) : ∀ (L3 L4 L5 L6 f5_keptSize f5_aheadSize : Int32) (ai : Nat → Nat → Int32) (H : Heap) (locs : List Loc) (ls : Array Slot), (1 ≤ L3.toInt ∧ L3.toInt ≤ 1) → (0 ≤ L4.toInt ∧ L4.toInt ≤ 99999) → (0 ≤ L5.toInt ∧ L5.toInt ≤ 5999) → (0 ≤ L6.toInt ∧ L6.toInt ≤ 5999) → (1 ≤ f3_unknowns.toInt ∧ f3_unknowns.toInt ≤ 4) → (0 ≤ f3_equations.toInt ∧ f3_equations.toInt ≤ 3) → (0 ≤ f2_stale.toInt ∧ f2_stale.toInt ≤ 1) → (0 ≤ f7_size.toInt ∧ f7_size.toInt ≤ 256) → (0 ≤ f1_size.toInt ∧ f1_size.toInt ≤ 4) → (1 ≤ f5_keptSize.toInt ∧ f5_keptSize.toInt ≤ 128) → (0 ≤ f5_aheadSize.toInt ∧ f5_aheadSize.toInt ≤ 128) → (0 ≤ f4_blockCount.toInt ∧ f4_blockCount.toInt ≤ 9261) → (0 ≤ f4_blockLength.toInt ∧ f4_blockLength.toInt ≤ 21) → (0 ≤ f4_lastIsFree.toInt ∧ f4_lastIsFree.toInt ≤ 1) → (0 ≤ f4_stale.toInt ∧ f4_stale.toInt ≤ 1) → L4.toInt < 10000 → 10000 - L4.toInt ≤ (n40 : Int) → IAX ai → FR [23, 24] ai0 ai → RWX ad w0 → RWX ad w1 → RWX ad w2 → RWX ad w3 → va_P (dC, dI) vwCl (WX cI cJ cII cJJ ad f3_unknowns f3_equations f2_roundSupports f2_stale f7_size f1_size f5_keptSize f5_aheadSize f0_solved f4_blockCount f4_blockLength f4_lastIsFree f4_stale ai al w0 w1 w2 w3) H → va_D A (WX cI cJ cII cJJ ad f3_unknowns f3_equations f2_roundSupports f2_stale f7_size f1_size f5_keptSize f5_aheadSize f0_solved f4_blockCount f4_blockLength f4_lastIsFree f4_stale ai al w0 w1 w2 w3) → va_S A s.heap H locs → lv_has ls 7 [(0, .ref (ad 22)), (1, .ref (ad 16)), (2, .ref (ad 18)), (3, .int L3), (4, .int L4), (5, .int L5), (6, .int L6)] → W p l e ({ frames := 3, cells := 0, slots := 0, locals := 140 } : Room) s m args below meth c H locs 0 0 (MQ below (Q_m155_X5_walk dC dI cI cJ cII cJJ ad f3_unknowns f3_equations f2_roundSupports f2_stale f7_size f1_size f0_solved f4_blockCount f4_blockLength f4_lastIsFree f4_stale ai0 al w0 w1 w2 w3 A) args s 0 0 A) (F0 m 101 ls []) := by
  obtain ⟨hx, hb, hr, hml, hown, hts, hk, hA, hK, hX⟩ := id C
  intro L3 L4 L5 L6 f5_keptSize f5_aheadSize ai H locs ls h0 h1 h2 h3 h4 h5 h6 h7 h8 h9 h10 h11 h12 h13 h14 h15 h16 hI hF hw_w0 hw_w1 hw_w2 hw_w3 hP hD hS hl
  obtain ⟨z1, e_z1⟩ : ∃ q : Int32, q = L4 + Int32.ofInt 1 := ⟨_, rfl⟩
  have g_z1 : z1.toInt = L4.toInt + 1 := by rw [e_z1]; exact n_add (a := L4.toInt) (b := 1) rfl (by decide +kernel) (by omega) (by omega)
  refine lv_iinc (v := z1) (lv' := [(4, .int z1), (0, .ref (ad 22)), (1, .ref (ad 16)), (2, .ref (ad 18)), (3, .int L3), (5, .int L5), (6, .int L6)]) hx hb dX5_walk_101 hl (k := 4) rfl e_z1.symm (by decide) rfl (fun ls_1 hl_1 => ?_)
  refine lv_goto (tgt := 40) hx hb dX5_walk_104 (by decide) ?_
  exact K40 L3 z1 f5_keptSize f5_aheadSize ai _ _ _ (by omega) (by omega) (by omega) (by omega) (by omega) (by omega) (by omega) (by omega) (by omega) (by omega) (by omega) (by omega) (by omega) (by omega) (by omega) hI hF hw_w0 hw_w1 hw_w2 hw_w3 hP hD hS (lv_sub hl_1 [1, 2, 3, 4, 0] rfl)
set_option maxRecDepth 100000 in
set_option maxHeartbeats 4000000 in
theorem m155_X5_walk_b40 {p : Program} {l : Launch} {e : Env} {s : State} {m : MethodId} {args : Array Value} {below : List Frame} {meth : Method} {c : Code} {A : Nat → Prop} {dC : Nat → ClassId} {dI : Nat → Nat → Nat} {cI cJ cII cJJ : ClassId} {ad : Nat → Nat} {g : Nat} {f3_unknowns f3_equations f2_roundSupports f2_stale f7_size f1_size f0_solved f4_blockCount f4_blockLength f4_lastIsFree f4_stale : Int32} {ai0 : Nat → Nat → Int32} {al : Nat → Nat → Int64} {w0 w1 w2 w3 : Nat} (C : Cx p c s m meth args A dC dI (TY cI cJ cII cJJ) cX5_walk none 7 RX5 0 g) : ∀ (n : Nat), ∀ (L3 L4 f5_keptSize f5_aheadSize : Int32) (ai : Nat → Nat → Int32) (H : Heap) (locs : List Loc) (ls : Array Slot), (1 ≤ L3.toInt ∧ L3.toInt ≤ 1) → (0 ≤ L4.toInt ∧ L4.toInt ≤ 100000) → (1 ≤ f3_unknowns.toInt ∧ f3_unknowns.toInt ≤ 4) → (0 ≤ f3_equations.toInt ∧ f3_equations.toInt ≤ 3) → (0 ≤ f2_stale.toInt ∧ f2_stale.toInt ≤ 1) → (0 ≤ f7_size.toInt ∧ f7_size.toInt ≤ 256) → (0 ≤ f1_size.toInt ∧ f1_size.toInt ≤ 4) → (1 ≤ f5_keptSize.toInt ∧ f5_keptSize.toInt ≤ 128) → (0 ≤ f5_aheadSize.toInt ∧ f5_aheadSize.toInt ≤ 128) → (0 ≤ f4_blockCount.toInt ∧ f4_blockCount.toInt ≤ 9261) → (0 ≤ f4_blockLength.toInt ∧ f4_blockLength.toInt ≤ 21) → (0 ≤ f4_lastIsFree.toInt ∧ f4_lastIsFree.toInt ≤ 1) → (0 ≤ f4_stale.toInt ∧ f4_stale.toInt ≤ 1) → 10000 - L4.toInt < (n : Int) → (0 : Int) < (n : Int) → IAX ai → FR [23, 24] ai0 ai → RWX ad w0 → RWX ad w1 → RWX ad w2 → RWX ad w3 → va_P (dC, dI) vwCl (WX cI cJ cII cJJ ad f3_unknowns f3_equations f2_roundSupports f2_stale f7_size f1_size f5_keptSize f5_aheadSize f0_solved f4_blockCount f4_blockLength f4_lastIsFree f4_stale ai al w0 w1 w2 w3) H → va_D A (WX cI cJ cII cJJ ad f3_unknowns f3_equations f2_roundSupports f2_stale f7_size f1_size f5_keptSize f5_aheadSize f0_solved f4_blockCount f4_blockLength f4_lastIsFree f4_stale ai al w0 w1 w2 w3) → va_S A s.heap H locs → lv_has ls 7 [(0, .ref (ad 22)), (1, .ref (ad 16)), (2, .ref (ad 18)), (3, .int L3), (4, .int L4)] → W p l e ({ frames := 3, cells := 0, slots := 0, locals := 140 } : Room) s m args below meth c H locs 0 0 (MQ below (Q_m155_X5_walk dC dI cI cJ cII cJJ ad f3_unknowns f3_equations f2_roundSupports f2_stale f7_size f1_size f0_solved f4_blockCount f4_blockLength f4_lastIsFree f4_stale ai0 al w0 w1 w2 w3 A) args s 0 0 A) (F0 m 40 ls []) := by
  obtain ⟨hx, hb, hr, hml, hown, hts, hk, hA, hK, hX⟩ := id C
  intro n
  induction n with
  | zero =>
    intro L3 L4 f5_keptSize f5_aheadSize ai H locs ls h0 h1 h2 h3 h4 h5 h6 h7 h8 h9 h10 h11 h12 h13 h14 hI hF hw_w0 hw_w1 hw_w2 hw_w3 hP hD hS hl
    exact absurd h14 (by omega)
  | succ n ih =>
    intro L3 L4 f5_keptSize f5_aheadSize ai H locs ls h0 h1 h2 h3 h4 h5 h6 h7 h8 h9 h10 h11 h12 h13 h14 hI hF hw_w0 hw_w1 hw_w2 hw_w3 hP hD hS hl
    refine lv_iload hx hb dX5_walk_40 (lv_at hl 4 rfl) ?_
    refine lv_sipush (v := 10000) hx hb dX5_walk_42 (by decide) ?_
    refine lv_icmp_ge (tgt := 107) hx hb dX5_walk_45 (by decide) (fun c1 => ?_) (fun c1 => ?_)
    · have c1 := j_le (a := 10000) (b := L4.toInt) (by decide +kernel) rfl c1
      exact m155_X5_walk_b107 C  L3 L4 f5_keptSize f5_aheadSize ai _ _ _ (by omega) (by omega) (by omega) (by omega) (by omega) (by omega) (by omega) (by omega) (by omega) (by omega) (by omega) (by omega) (by omega) hI hF hw_w0 hw_w1 hw_w2 hw_w3 hP hD hS (lv_sub hl [0, 1, 2, 3, 4] rfl)
    · have c1 := j_nle (a := 10000) (b := L4.toInt) (by decide +kernel) rfl c1
      refine lv_aload_n hx hb dX5_walk_48 rfl (lv_at hl 0 rfl) ?_
      refine gf (k := 3) hx hb hts inX5 hown hK hP k_140 rfl (by decide) rfl 22 rfl (.int f5_aheadSize) rfl dX5_walk_49 ?_
      refine lv_if_le (tgt := 107) hx hb dX5_walk_52 (by decide) (fun c2 => ?_) (fun c2 => ?_)
      · have c2 := j_le (a := f5_aheadSize.toInt) (b := 0) rfl (by decide +kernel) c2
        exact m155_X5_walk_b107 C  L3 L4 f5_keptSize f5_aheadSize ai _ _ _ (by omega) (by omega) (by omega) (by omega) (by omega) (by omega) (by omega) (by omega) (by omega) (by omega) (by omega) (by omega) (by omega) hI hF hw_w0 hw_w1 hw_w2 hw_w3 hP hD hS (lv_sub hl [0, 1, 2, 3, 4] rfl)
      · have c2 := j_nle (a := f5_aheadSize.toInt) (b := 0) rfl (by decide +kernel) c2
        refine lv_aload_n hx hb dX5_walk_55 rfl (lv_at hl 0 rfl) ?_
        refine gf (k := 2) hx hb hts inX5 hown hK hP k_139 rfl (by decide) rfl 22 rfl (.int f5_keptSize) rfl dX5_walk_56 ?_
        refine lv_iconst (v := 1) hx hb dX5_walk_59 (by decide) ?_
        refine v_isub hx hb dX5_walk_60 _ rfl ?_
        refine lv_topi (fun z3 e_z3 => ?_)
        have g_z3 : z3.toInt = f5_keptSize.toInt - 1 := by rw [e_z3]; exact n_sub (a := f5_keptSize.toInt) (b := 1) rfl (by decide +kernel) (by omega) (by omega)
        refine lv_iconst (v := 4) hx hb dX5_walk_61 (by decide) ?_
        refine v_imul hx hb dX5_walk_62 _ rfl ?_
        refine lv_topi (fun z4 e_z4 => ?_)
        have g_z4 : z4.toInt = z3.toInt * 4 := by rw [e_z4]; exact n_mul (a := z3.toInt) (b := 4) rfl (by decide +kernel) (by omega) (by omega)
        refine lv_istore (lv' := [(5, .int z4), (0, .ref (ad 22)), (1, .ref (ad 16)), (2, .ref (ad 18)), (3, .int L3), (4, .int L4)]) hx hb dX5_walk_63 hl (by decide) rfl (fun ls_1 hl_1 => ?_)
        refine lv_aload_n hx hb dX5_walk_65 rfl (lv_at hl_1 1 rfl) ?_
        refine gf (k := 3) hx hb hts inX5 hown hK hP k_140 rfl (by decide) rfl 22 rfl (.int f5_aheadSize) rfl dX5_walk_66 ?_
        refine lv_iconst (v := 1) hx hb dX5_walk_69 (by decide) ?_
        refine v_isub hx hb dX5_walk_70 _ rfl ?_
        refine lv_topi (fun z5 e_z5 => ?_)
        have g_z5 : z5.toInt = f5_aheadSize.toInt - 1 := by rw [e_z5]; exact n_sub (a := f5_aheadSize.toInt) (b := 1) rfl (by decide +kernel) (by omega) (by omega)
        refine lv_iconst (v := 4) hx hb dX5_walk_71 (by decide) ?_
        refine v_imul hx hb dX5_walk_72 _ rfl ?_
        refine lv_topi (fun z6 e_z6 => ?_)
        have g_z6 : z6.toInt = z5.toInt * 4 := by rw [e_z6]; exact n_mul (a := z5.toInt) (b := 4) rfl (by decide +kernel) (by omega) (by omega)
        refine lv_istore (lv' := [(6, .int z6), (5, .int z4), (0, .ref (ad 22)), (1, .ref (ad 16)), (2, .ref (ad 18)), (3, .int L3), (4, .int L4)]) hx hb dX5_walk_73 hl_1 (by decide) rfl (fun ls_2 hl_2 => ?_)
        refine lv_aload_n hx hb dX5_walk_75 rfl (lv_at hl_2 2 rfl) ?_
        refine lv_iload hx hb dX5_walk_76 (lv_at hl_2 1 rfl) ?_
        refine lv_iload hx hb dX5_walk_78 (lv_at hl_2 0 rfl) ?_
        have hM := m068_X5_haveOppositeSigns l dC dI cI cJ cII cJJ H.size 0 ad f3_unknowns f3_equations f2_roundSupports f2_stale f7_size f1_size f5_keptSize f5_aheadSize f0_solved f4_blockCount f4_blockLength f4_lastIsFree f4_stale ai al w0 w1 w2 w3 z4 z6 (by omega) (by omega) (by omega) (by omega) (by omega) (by omega) (by omega) (by omega) (by omega) (by omega) (by omega) (by omega) (by omega) hI hw_w0 hw_w1 hw_w2 hw_w3
        refine k2V_i (q0 := 22) ⟨hx, hb, hml, hown, hts⟩ hK hP hD hS hA hX cv_RX5_32 hM ⟨by decide +kernel, by decide +kernel⟩ rfl rfl (Or.inl rfl) (rest := []) rfl rfl rfl hl_2.1 rfl (Nat.le_of_ble_eq_true rfl) dX5_walk_80 ⟨Nat.le_of_ble_eq_true rfl, Nat.le_of_ble_eq_true rfl⟩ (fun r7 t H1 locs_3 ht hB hS_3 hFc => ?_)
        obtain ⟨gpr7_0, hP_4, -, hD_4⟩ := hB
        rw [ht] at hP_4
        have hD_5 := hD_4.weaken (B := A) (fun k q _ h9 => hFc q.1 h9)
        clear ht
        generalize H1 = H_6 at hP_4 hS_3 ⊢
        refine lv_if_eq (tgt := 97) hx hb dX5_walk_83 (by decide) (fun c8 => ?_) (fun c8 => ?_)
        · have c8 := j_eq (a := r7.toInt) (b := 0) rfl (by decide +kernel) c8
          refine lv_aload_n hx hb dX5_walk_97 rfl (lv_at hl_2 2 rfl) ?_
          have hM := m067_X5_keepNext l dC dI cI cJ cII cJJ H_6.size 0 ad f3_unknowns f3_equations f2_roundSupports f2_stale f7_size f1_size f5_keptSize f5_aheadSize f0_solved f4_blockCount f4_blockLength f4_lastIsFree f4_stale ai al w0 w1 w2 w3 (by omega) (by omega) (by omega) (by omega) (by omega) (by omega) (by omega) (by omega) (by omega) (by omega) (by omega) hI hw_w0 hw_w1 hw_w2 hw_w3
          refine k2V_v (q0 := 22) ⟨hx, hb, hml, hown, hts⟩ hK hP_4 hD_5 hS_3 hA hX cv_RX5_29 hM ⟨by decide +kernel, by decide +kernel⟩ rfl rfl (Or.inl rfl) (rest := []) rfl rfl rfl hl_2.1 rfl (Nat.le_of_ble_eq_true rfl) dX5_walk_98 ⟨Nat.le_of_ble_eq_true rfl, Nat.le_of_ble_eq_true rfl⟩ (fun t H1 locs_7 ht hB hS_7 hFc => ?_)
          obtain ⟨v10, v11, ai12, ⟨gpr9_0, gpr9_1, gpr9_2, hI_8, hFr_r9⟩, hP_8, -, hD_8⟩ := hB
          have hF_9 := FR_tr hF hFr_r9 (by decide)
          rw [ht] at hP_8
          have hD_10 := hD_8.weaken (B := A) (fun k q _ h9 => hFc q.1 h9)
          clear ht
          generalize H1 = H_11 at hP_8 hS_7 ⊢
          exact m155_X5_walk_b101 C n ih L3 L4 z4 z6 v10 v11 ai12 _ _ _ (by omega) (by omega) (by omega) (by omega) (by omega) (by omega) (by omega) (by omega) (by omega) (by omega) (by omega) (by omega) (by omega) (by omega) (by omega) (by omega) (by omega) hI_8 hF_9 hw_w0 hw_w1 hw_w2 hw_w3 hP_8 hD_10 hS_7 (lv_sub hl_2 [2, 3, 4, 5, 6, 1, 0] rfl)
        · have c8 := j_ne (a := r7.toInt) (b := 0) rfl (by decide +kernel) c8
          refine lv_aload_n hx hb dX5_walk_86 rfl (lv_at hl_2 2 rfl) ?_
          refine lv_iload hx hb dX5_walk_87 (lv_at hl_2 1 rfl) ?_
          refine lv_iload hx hb dX5_walk_89 (lv_at hl_2 0 rfl) ?_
          have hM := m066_X5_pushSum l dC dI cI cJ cII cJJ H_6.size 0 ad f3_unknowns f3_equations f2_roundSupports f2_stale f7_size f1_size f5_keptSize f5_aheadSize f0_solved f4_blockCount f4_blockLength f4_lastIsFree f4_stale ai al w0 w1 w2 w3 z4 z6 (by omega) (by omega) (by omega) (by omega) (by omega) (by omega) (by omega) (by omega) (by omega) (by omega) (by omega) (by omega) (by omega) hI hw_w0 hw_w1 hw_w2 hw_w3
          refine k2V_v (q0 := 22) ⟨hx, hb, hml, hown, hts⟩ hK hP_4 hD_5 hS_3 hA hX cv_RX5_36 hM ⟨by decide +kernel, by decide +kernel⟩ rfl rfl (Or.inl rfl) (rest := []) rfl rfl rfl hl_2.1 rfl (Nat.le_of_ble_eq_true rfl) dX5_walk_91 ⟨Nat.le_of_ble_eq_true rfl, Nat.le_of_ble_eq_true rfl⟩ (fun t H1 locs_12 ht hB hS_12 hFc => ?_)
          obtain ⟨v14, ai15, ⟨gpr13_0, gpr13_1, hI_13, hFr_r13⟩, hP_13, -, hD_13⟩ := hB
          have hF_14 := FR_tr hF hFr_r13 (by decide)
          rw [ht] at hP_13
          have hD_15 := hD_13.weaken (B := A) (fun k q _ h9 => hFc q.1 h9)
          clear ht
          generalize H1 = H_16 at hP_13 hS_12 ⊢
          refine lv_goto (tgt := 101) hx hb dX5_walk_94 (by decide) ?_
          exact m155_X5_walk_b101 C n ih L3 L4 z4 z6 f5_keptSize v14 ai15 _ _ _ (by omega) (by omega) (by omega) (by omega) (by omega) (by omega) (by omega) (by omega) (by omega) (by omega) (by omega) (by omega) (by omega) (by omega) (by omega) (by omega) (by omega) hI_13 hF_14 hw_w0 hw_w1 hw_w2 hw_w3 hP_13 hD_15 hS_12 (lv_sub hl_2 [2, 3, 4, 5, 6, 1, 0] rfl)
set_option maxRecDepth 100000 in
set_option maxHeartbeats 4000000 in
theorem m155_X5_walk (l : Launch) (dC : Nat → ClassId) (dI : Nat → Nat → Nat) (cI cJ cII cJJ : ClassId) (sz g : Nat) (ad : Nat → Nat) (f3_unknowns f3_equations f2_roundSupports f2_stale f7_size f1_size f5_keptSize f5_aheadSize f0_solved f4_blockCount f4_blockLength f4_lastIsFree f4_stale : Int32) (ai : Nat → Nat → Int32) (al : Nat → Nat → Int64) (w0 w1 w2 w3 : Nat) (x3 : Int32) (h_x3 : (0 ≤ x3.toInt ∧ x3.toInt ≤ 1)) (h_f3_unknowns : (1 ≤ f3_unknowns.toInt ∧ f3_unknowns.toInt ≤ 4)) (h_f3_equations : (0 ≤ f3_equations.toInt ∧ f3_equations.toInt ≤ 3)) (h_f2_stale : (0 ≤ f2_stale.toInt ∧ f2_stale.toInt ≤ 1)) (h_f7_size : (0 ≤ f7_size.toInt ∧ f7_size.toInt ≤ 256)) (h_f1_size : (0 ≤ f1_size.toInt ∧ f1_size.toInt ≤ 4)) (h_f5_keptSize : (0 ≤ f5_keptSize.toInt ∧ f5_keptSize.toInt ≤ 128)) (h_f5_aheadSize : (0 ≤ f5_aheadSize.toInt ∧ f5_aheadSize.toInt ≤ 128)) (h_f4_blockCount : (0 ≤ f4_blockCount.toInt ∧ f4_blockCount.toInt ≤ 9261)) (h_f4_blockLength : (0 ≤ f4_blockLength.toInt ∧ f4_blockLength.toInt ≤ 21)) (h_f4_lastIsFree : (0 ≤ f4_lastIsFree.toInt ∧ f4_lastIsFree.toInt ≤ 1)) (h_f4_stale : (0 ≤ f4_stale.toInt ∧ f4_stale.toInt ≤ 1)) (hI : IAX ai) (hw_w0 : RWX ad w0) (hw_w1 : RWX ad w1) (hw_w2 : RWX ad w2) (hw_w3 : RWX ad w3) : Met l yX5_walk (.code yX5_walk cX5_walk 7 none :: TT) ({ frames := 3, cells := 0, slots := 0, locals := 140 } : Room) (PcS dC dI (TY cI cJ cII cJJ) [.ref (ad 22), .ref (ad 16), .ref (ad 18), .int x3] (WX cI cJ cII cJJ ad f3_unknowns f3_equations f2_roundSupports f2_stale f7_size f1_size f5_keptSize f5_aheadSize f0_solved f4_blockCount f4_blockLength f4_lastIsFree f4_stale ai al w0 w1 w2 w3) sz 0 g) (Q_m155_X5_walk dC dI cI cJ cII cJJ ad f3_unknowns f3_equations f2_roundSupports f2_stale f7_size f1_size f0_solved f4_blockCount f4_blockLength f4_lastIsFree f4_stale ai al w0 w1 w2 w3 (va_A (WX cI cJ cII cJJ ad f3_unknowns f3_equations f2_roundSupports f2_stale f7_size f1_size f5_keptSize f5_aheadSize f0_solved f4_blockCount f4_blockLength f4_lastIsFree f4_stale ai al w0 w1 w2 w3) sz)) 0 0 (va_A (WX cI cJ cII cJJ ad f3_unknowns f3_equations f2_roundSupports f2_stale f7_size f1_size f5_keptSize f5_aheadSize f0_solved f4_blockCount f4_blockLength f4_lastIsFree f4_stale ai al w0 w1 w2 w3) sz) := by
  refine SM.of (y := yX5_walk) (maxL := 7) (av := [.ref (ad 22), .ref (ad 16), .ref (ad 18), .int x3]) (Q_m155_X5_walk dC dI cI cJ cII cJJ ad f3_unknowns f3_equations f2_roundSupports f2_stale f7_size f1_size f0_solved f4_blockCount f4_blockLength f4_lastIsFree f4_stale ai al w0 w1 w2 w3) (by decide +kernel) (Nat.le_of_ble_eq_true rfl) (fun p e s m below meth c A ls hx hb hr hml hown hts hk hnm hA hK hP hD hS hX hl => ?_)
  have C : Cx p c s m meth (([.ref (ad 22), .ref (ad 16), .ref (ad 18), .int x3] : List Value).toArray) A dC dI (TY cI cJ cII cJJ) cX5_walk none 7 RX5 0 g := ⟨hx, hb, hr, hml, hown, hts, hk, hA, hK, hX⟩
  have hown : s.vm.findClass RX5 = some m.cls := hown
  have hl : lv_has ls 7 [(0, .ref (ad 22)), (1, .ref (ad 16)), (2, .ref (ad 18)), (3, .int x3)] := hl
  obtain ⟨H, hH⟩ : ∃ q, q = s.heap := ⟨_, rfl⟩
  rw [← hH] at hP
  have hS : va_S A s.heap H [] := by rw [hH]; exact hS
  rw [← hH]
  have hF := FR_refl [23, 24] ai
  refine lv_aload_n hx hb dX5_walk_0 rfl (lv_at hl 0 rfl) ?_
  refine lv_iconst (v := 0) hx hb dX5_walk_1 (by decide) ?_
  refine pf (k := 2) hx hb hts inX5 tyX5_ok nmX5 hown hK hP hD hS k_139 rfl (by decide) rfl rfl 22 rfl rfl rfl (Nat.le_of_ble_eq_true rfl) dX5_walk_2 (W' := (WX cI cJ cII cJJ ad f3_unknowns f3_equations f2_roundSupports f2_stale f7_size f1_size 0 f5_aheadSize f0_solved f4_blockCount f4_blockLength f4_lastIsFree f4_stale ai al w0 w1 w2 w3)) rfl (fun H_1 locs_1 hP_1 hD_1 hS_1 => ?_)
  refine lv_aload_n hx hb dX5_walk_5 rfl (lv_at hl 0 rfl) ?_
  refine lv_iconst (v := 0) hx hb dX5_walk_6 (by decide) ?_
  refine pf (k := 3) hx hb hts inX5 tyX5_ok nmX5 hown hK hP_1 hD_1 hS_1 k_140 rfl (by decide) rfl rfl 22 rfl rfl rfl (Nat.le_of_ble_eq_true rfl) dX5_walk_7 (W' := (WX cI cJ cII cJJ ad f3_unknowns f3_equations f2_roundSupports f2_stale f7_size f1_size 0 0 f0_solved f4_blockCount f4_blockLength f4_lastIsFree f4_stale ai al w0 w1 w2 w3)) rfl (fun H_2 locs_2 hP_2 hD_2 hS_2 => ?_)
  refine lv_aload_n hx hb dX5_walk_10 rfl (lv_at hl 0 rfl) ?_
  refine lv_aload_n hx hb dX5_walk_11 rfl (lv_at hl 1 rfl) ?_
  refine lv_iconst (v := 1) hx hb dX5_walk_12 (by decide) ?_
  have kc0 : (0 : Int32).toInt = 0 := by decide +kernel
  have kc1 : (1 : Int32).toInt = 1 := by decide +kernel
  have hM := m065_X5_pushAhead l dC dI cI cJ cII cJJ H_2.size 0 ad f3_unknowns f3_equations f2_roundSupports f2_stale f7_size f1_size 0 0 f0_solved f4_blockCount f4_blockLength f4_lastIsFree f4_stale ai al w0 w1 w2 w3 1 (by omega) (by omega) (by omega) (by omega) (by omega) (by decide +kernel) (by decide +kernel) (by omega) (by omega) (by omega) (by omega) hI hw_w0 hw_w1 hw_w2 hw_w3
  refine k2V_v (q0 := 22) ⟨hx, hb, hml, hown, hts⟩ hK hP_2 hD_2 hS_2 hA hX cv_RX5_25 hM ⟨by decide +kernel, by decide +kernel⟩ rfl rfl (Or.inl rfl) (rest := []) rfl rfl rfl hl.1 rfl (Nat.le_of_ble_eq_true rfl) dX5_walk_13 ⟨Nat.le_of_ble_eq_true rfl, Nat.le_of_ble_eq_true rfl⟩ (fun t H1 locs_3 ht hB hS_3 hFc => ?_)
  obtain ⟨v2, ai3, ⟨gpr1_0, gpr1_1, hI_4, hFr_r1⟩, hP_4, -, hD_4⟩ := hB
  have hF_5 := FR_tr hF hFr_r1 (by decide)
  rw [ht] at hP_4
  have hD_6 := hD_4.weaken (B := A) (fun k q _ h9 => hFc q.1 h9)
  clear ht
  generalize H1 = H_7 at hP_4 hS_3 ⊢
  refine lv_aload_n hx hb dX5_walk_16 rfl (lv_at hl 0 rfl) ?_
  have kc0 : (0 : Int32).toInt = 0 := by decide +kernel
  have hM := m067_X5_keepNext l dC dI cI cJ cII cJJ H_7.size 0 ad f3_unknowns f3_equations f2_roundSupports f2_stale f7_size f1_size 0 v2 f0_solved f4_blockCount f4_blockLength f4_lastIsFree f4_stale ai3 al w0 w1 w2 w3 (by omega) (by omega) (by omega) (by omega) (by omega) (by decide +kernel) (by omega) (by omega) (by omega) (by omega) (by omega) hI_4 hw_w0 hw_w1 hw_w2 hw_w3
  refine k2V_v (q0 := 22) ⟨hx, hb, hml, hown, hts⟩ hK hP_4 hD_6 hS_3 hA hX cv_RX5_29 hM ⟨by decide +kernel, by decide +kernel⟩ rfl rfl (Or.inl rfl) (rest := []) rfl rfl rfl hl.1 rfl (Nat.le_of_ble_eq_true rfl) dX5_walk_17 ⟨Nat.le_of_ble_eq_true rfl, Nat.le_of_ble_eq_true rfl⟩ (fun t H1 locs_8 ht hB hS_8 hFc => ?_)
  obtain ⟨v5, v6, ai7, ⟨gpr4_0, gpr4_1, gpr4_2, hI_9, hFr_r4⟩, hP_9, -, hD_9⟩ := hB
  have hF_10 := FR_tr hF_5 hFr_r4 (by decide)
  rw [ht] at hP_9
  have hD_11 := hD_9.weaken (B := A) (fun k q _ h9 => hFc q.1 h9)
  clear ht
  generalize H1 = H_12 at hP_9 hS_8 ⊢
  refine lv_iload_n hx hb dX5_walk_20 rfl (lv_at hl 3 rfl) ?_
  refine lv_if_ne (tgt := 25) hx hb dX5_walk_21 (by decide) (fun c8 => ?_) (fun c8 => ?_)
  · have c8 := j_ne (a := x3.toInt) (b := 0) rfl (by decide +kernel) c8
    refine lv_aload_n hx hb dX5_walk_25 rfl (lv_at hl 0 rfl) ?_
    refine lv_aload_n hx hb dX5_walk_26 rfl (lv_at hl 1 rfl) ?_
    refine lv_iconst (v := (-1)) hx hb dX5_walk_27 (by decide) ?_
    have kcm1 : ((-1) : Int32).toInt = (-1) := by decide +kernel
    have hM := m065_X5_pushAhead l dC dI cI cJ cII cJJ H_12.size 0 ad f3_unknowns f3_equations f2_roundSupports f2_stale f7_size f1_size v5 v6 f0_solved f4_blockCount f4_blockLength f4_lastIsFree f4_stale ai7 al w0 w1 w2 w3 (-1) (by omega) (by omega) (by omega) (by omega) (by omega) (by omega) (by omega) (by omega) (by omega) (by omega) (by omega) hI_9 hw_w0 hw_w1 hw_w2 hw_w3
    refine k2V_v (q0 := 22) ⟨hx, hb, hml, hown, hts⟩ hK hP_9 hD_11 hS_8 hA hX cv_RX5_25 hM ⟨by decide +kernel, by decide +kernel⟩ rfl rfl (Or.inl rfl) (rest := []) rfl rfl rfl hl.1 rfl (Nat.le_of_ble_eq_true rfl) dX5_walk_28 ⟨Nat.le_of_ble_eq_true rfl, Nat.le_of_ble_eq_true rfl⟩ (fun t H1 locs_13 ht hB hS_13 hFc => ?_)
    obtain ⟨v10, ai11, ⟨gpr9_0, gpr9_1, hI_14, hFr_r9⟩, hP_14, -, hD_14⟩ := hB
    have hF_15 := FR_tr hF_10 hFr_r9 (by decide)
    rw [ht] at hP_14
    have hD_16 := hD_14.weaken (B := A) (fun k q _ h9 => hFc q.1 h9)
    clear ht
    generalize H1 = H_17 at hP_14 hS_13 ⊢
    refine lv_aload_n hx hb dX5_walk_31 rfl (lv_at hl 0 rfl) ?_
    refine lv_aload_n hx hb dX5_walk_32 rfl (lv_at hl 2 rfl) ?_
    refine lv_iconst (v := 1) hx hb dX5_walk_33 (by decide) ?_
    have kc1 : (1 : Int32).toInt = 1 := by decide +kernel
    have hM := m148_X5_pushAhead l dC dI cI cJ cII cJJ H_17.size 0 ad f3_unknowns f3_equations f2_roundSupports f2_stale f7_size f1_size v5 v10 f0_solved f4_blockCount f4_blockLength f4_lastIsFree f4_stale ai11 al w0 w1 w2 w3 1 (by omega) (by omega) (by omega) (by omega) (by omega) (by omega) (by omega) (by omega) (by omega) (by omega) (by omega) hI_14 hw_w0 hw_w1 hw_w2 hw_w3
    refine k2V_v (q0 := 22) ⟨hx, hb, hml, hown, hts⟩ hK hP_14 hD_16 hS_13 hA hX cv_RX5_25 hM ⟨by decide +kernel, by decide +kernel⟩ rfl rfl (Or.inl rfl) (rest := []) rfl rfl rfl hl.1 rfl (Nat.le_of_ble_eq_true rfl) dX5_walk_34 ⟨Nat.le_of_ble_eq_true rfl, Nat.le_of_ble_eq_true rfl⟩ (fun t H1 locs_18 ht hB hS_18 hFc => ?_)
    obtain ⟨v13, ai14, ⟨gpr12_0, gpr12_1, hI_19, hFr_r12⟩, hP_19, -, hD_19⟩ := hB
    have hF_20 := FR_tr hF_15 hFr_r12 (by decide)
    rw [ht] at hP_19
    have hD_21 := hD_19.weaken (B := A) (fun k q _ h9 => hFc q.1 h9)
    clear ht
    generalize H1 = H_22 at hP_19 hS_18 ⊢
    refine lv_iconst (v := 0) hx hb dX5_walk_37 (by decide) ?_
    refine lv_istore (lv' := [(4, .int 0), (0, .ref (ad 22)), (1, .ref (ad 16)), (2, .ref (ad 18)), (3, .int x3)]) hx hb dX5_walk_38 hl (by decide) rfl (fun ls_23 hl_23 => ?_)
    exact m155_X5_walk_b40 C  _ x3 0 v5 v13 ai14 _ _ _ (by first | omega | decide | (have ka0 := (by decide +kernel : (0 : Int32).toInt = 0); omega)) (by first | omega | decide | (have ka0 := (by decide +kernel : (0 : Int32).toInt = 0); omega)) (by first | omega | decide | (have ka0 := (by decide +kernel : (0 : Int32).toInt = 0); omega)) (by first | omega | decide | (have ka0 := (by decide +kernel : (0 : Int32).toInt = 0); omega)) (by first | omega | decide | (have ka0 := (by decide +kernel : (0 : Int32).toInt = 0); omega)) (by first | omega | decide | (have ka0 := (by decide +kernel : (0 : Int32).toInt = 0); omega)) (by first | omega | decide | (have ka0 := (by decide +kernel : (0 : Int32).toInt = 0); omega)) (by first | omega | decide | (have ka0 := (by decide +kernel : (0 : Int32).toInt = 0); omega)) (by first | omega | decide | (have ka0 := (by decide +kernel : (0 : Int32).toInt = 0); omega)) (by first | omega | decide | (have ka0 := (by decide +kernel : (0 : Int32).toInt = 0); omega)) (by first | omega | decide | (have ka0 := (by decide +kernel : (0 : Int32).toInt = 0); omega)) (by first | omega | decide | (have ka0 := (by decide +kernel : (0 : Int32).toInt = 0); omega)) (by first | omega | decide | (have ka0 := (by decide +kernel : (0 : Int32).toInt = 0); omega)) (j_fuel _) (by omega) hI_19 hF_20 hw_w0 hw_w1 hw_w2 hw_w3 hP_19 hD_21 hS_18 (lv_sub hl_23 [1, 2, 3, 4, 0] rfl)
  · have c8 := j_eq (a := x3.toInt) (b := 0) rfl (by decide +kernel) c8
    exact r2_v hx hb hr hk hS_8 dX5_walk_24 (fun t ht hW => ⟨v5, v6, ai7, ⟨(by first | omega | decide | exact Or.inl (by decide) | exact Or.inr (by decide) | exact Or.inr (by omega)), (by first | omega | decide | exact Or.inl (by decide) | exact Or.inr (by decide) | exact Or.inr (by omega)), hI_9, hF_10⟩, by rw [ht]; exact hP_9, va_K.moved hW.alike hK, hD_11⟩)
