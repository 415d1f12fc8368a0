def Q_m160_X5_walk (dC : Nat → ClassId) (dI : Nat → Nat → Nat) (cI cJ cII cJJ : ClassId) (ad : Nat → Nat) (f3_unknowns f3_equations f2_roundSupports f2_stale f7_size f1_size f0_solved f4_blockCount f4_blockLength f4_lastIsFree f4_stale : Int32) (al : Nat → Nat → Int64) (w0 w1 w2 w3 : Nat) : (Nat → Prop) → Array Value → State → Outcome → State → Prop := fun A => QV (fun t => ∃ (n_f5_keptSize n_f5_aheadSize : Int32), ∃ (n_ai : Nat → Nat → Int32), ((0 ≤ n_f5_keptSize.toInt ∧ n_f5_keptSize.toInt ≤ 127) ∧ (0 ≤ n_f5_aheadSize.toInt ∧ n_f5_aheadSize.toInt ≤ 128) ∧ IAX n_ai) ∧ WO dC dI (TY cI cJ cII cJJ) (WX cI cJ cII cJJ ad f3_unknowns f3_equations f2_roundSupports f2_stale f7_size f1_size n_f5_keptSize n_f5_aheadSize f0_solved f4_blockCount f4_blockLength f4_lastIsFree f4_stale n_ai al w0 w1 w2 w3) A t) A
set_option maxRecDepth 100000 in
set_option maxHeartbeats 4000000 in
theorem m160_X5_walk_b107 {p : Program} {l : Launch} {e : Env} {s : State} {m : MethodId} {args : Array Value} {below : List Frame} {meth : Method} {c : Code} {A : Nat → Prop} {dC : Nat → ClassId} {dI : Nat → Nat → Nat} {cI cJ cII cJJ : ClassId} {ad : Nat → Nat} {g : Nat} {f3_unknowns f3_equations f2_roundSupports f2_stale f7_size f1_size f0_solved f4_blockCount f4_blockLength f4_lastIsFree f4_stale : Int32} {al : Nat → Nat → Int64} {w0 w1 w2 w3 : Nat} (C : Cx p c s m meth args A dC dI (TY cI cJ cII cJJ) cX5_walk none 7 RX5 0 g) : ∀ (L3 L4 f5_keptSize f5_aheadSize : Int32) (ai : Nat → Nat → Int32) (H : Heap) (locs : List Loc) (ls : Array Slot), (1 ≤ L3.toInt ∧ L3.toInt ≤ 1) → (0 ≤ L4.toInt ∧ L4.toInt ≤ 100000) → (1 ≤ f3_unknowns.toInt ∧ f3_unknowns.toInt ≤ 4) → (0 ≤ f3_equations.toInt ∧ f3_equations.toInt ≤ 3) → (0 ≤ f2_stale.toInt ∧ f2_stale.toInt ≤ 1) → (0 ≤ f7_size.toInt ∧ f7_size.toInt ≤ 256) → (0 ≤ f1_size.toInt ∧ f1_size.toInt ≤ 4) → (1 ≤ f5_keptSize.toInt ∧ f5_keptSize.toInt ≤ 128) → (0 ≤ f5_aheadSize.toInt ∧ f5_aheadSize.toInt ≤ 128) → (0 ≤ f4_blockCount.toInt ∧ f4_blockCount.toInt ≤ 9261) → (0 ≤ f4_blockLength.toInt ∧ f4_blockLength.toInt ≤ 21) → (0 ≤ f4_lastIsFree.toInt ∧ f4_lastIsFree.toInt ≤ 1) → (0 ≤ f4_stale.toInt ∧ f4_stale.toInt ≤ 1) → IAX ai → RWX ad w0 → RWX ad w1 → RWX ad w2 → RWX ad w3 → va_P (dC, dI) vwCl (WX cI cJ cII cJJ ad f3_unknowns f3_equations f2_roundSupports f2_stale f7_size f1_size f5_keptSize f5_aheadSize f0_solved f4_blockCount f4_blockLength f4_lastIsFree f4_stale ai al w0 w1 w2 w3) H → va_D A (WX cI cJ cII cJJ ad f3_unknowns f3_equations f2_roundSupports f2_stale f7_size f1_size f5_keptSize f5_aheadSize f0_solved f4_blockCount f4_blockLength f4_lastIsFree f4_stale ai al w0 w1 w2 w3) → va_S A s.heap H locs → lv_has ls 7 [(0, .ref (ad 22)), (1, .ref (ad 18)), (2, .ref (ad 19)), (3, .int L3), (4, .int L4)] → W p l e ({ frames := 3, cells := 0, slots := 0, locals := 140 } : Room) s m args below meth c H locs 0 0 (MQ below (Q_m160_X5_walk dC dI cI cJ cII cJJ ad f3_unknowns f3_equations f2_roundSupports f2_stale f7_size f1_size f0_solved f4_blockCount f4_blockLength f4_lastIsFree f4_stale al w0 w1 w2 w3 A) args s 0 0 A) (F0 m 107 ls []) := by
  obtain ⟨hx, hb, hr, hml, hown, hts, hk, hA, hK, hX⟩ := id C
  intro L3 L4 f5_keptSize f5_aheadSize ai H locs ls h0 h1 h2 h3 h4 h5 h6 h7 h8 h9 h10 h11 h12 hI hw_w0 hw_w1 hw_w2 hw_w3 hP hD hS hl
  refine lv_aload_n hx hb dX5_walk_107 rfl (lv_at hl 0 rfl) ?_
  refine lv_dup hx hb dX5_walk_108 rfl ?_
  refine gf (k := 2) hx hb hts inX5 hown hK hP k_139 rfl (by decide) rfl 22 rfl (.int f5_keptSize) rfl dX5_walk_109 ?_
  refine lv_iconst (v := 1) hx hb dX5_walk_112 (by decide) ?_
  refine v_isub hx hb dX5_walk_113 _ rfl ?_
  refine lv_topi (fun z1 e_z1 => ?_)
  have g_z1 : z1.toInt = f5_keptSize.toInt - 1 := by rw [e_z1]; exact n_sub (a := f5_keptSize.toInt) (b := 1) rfl (by decide +kernel) (by omega) (by omega)
  refine pf (k := 2) hx hb hts inX5 tyX5_ok nmX5 hown hK hP hD hS k_139 rfl (by decide) rfl rfl 22 rfl rfl rfl (Nat.le_of_ble_eq_true rfl) dX5_walk_114 (W' := (WX cI cJ cII cJJ ad f3_unknowns f3_equations f2_roundSupports f2_stale f7_size f1_size z1 f5_aheadSize f0_solved f4_blockCount f4_blockLength f4_lastIsFree f4_stale ai al w0 w1 w2 w3)) rfl (fun H locs hP hD hS => ?_)
  exact r2_v hx hb hr hk hS dX5_walk_117 (fun t ht hW => ⟨z1, f5_aheadSize, ai, ⟨(by first | omega | decide | exact Or.inl (by decide) | exact Or.inr (by omega)), (by first | omega | decide | exact Or.inl (by decide) | exact Or.inr (by omega)), hI⟩, by rw [ht]; exact hP, va_K.moved hW.alike hK, hD⟩)
set_option maxRecDepth 100000 in
set_option maxHeartbeats 4000000 in
theorem m160_X5_walk_b101 {p : Program} {l : Launch} {e : Env} {s : State} {m : MethodId} {args : Array Value} {below : List Frame} {meth : Method} {c : Code} {A : Nat → Prop} {dC : Nat → ClassId} {dI : Nat → Nat → Nat} {cI cJ cII cJJ : ClassId} {ad : Nat → Nat} {g : Nat} {f3_unknowns f3_equations f2_roundSupports f2_stale f7_size f1_size f0_solved f4_blockCount f4_blockLength f4_lastIsFree f4_stale : Int32} {al : Nat → Nat → Int64} {w0 w1 w2 w3 : Nat} (C : Cx p c s m meth args A dC dI (TY cI cJ cII cJJ) cX5_walk none 7 RX5 0 g) (n40 : Nat) (K40 : ∀ (L3 L4 f5_keptSize f5_aheadSize : Int32) (ai : Nat → Nat → Int32) (H : Heap) (locs : List Loc) (ls : Array Slot), (1 ≤ L3.toInt ∧ L3.toInt ≤ 1) → (0 ≤ L4.toInt ∧ L4.toInt ≤ 100000) → (1 ≤ f3_unknowns.toInt ∧ f3_unknowns.toInt ≤ 4) → (0 ≤ f3_equations.toInt ∧ f3_equations.toInt ≤ 3) → (0 ≤ f2_stale.toInt ∧ f2_stale.toInt ≤ 1) → (0 ≤ f7_size.toInt ∧ f7_size.toInt ≤ 256) → (0 ≤ f1_size.toInt ∧ f1_size.toInt ≤ 4) → (1 ≤ f5_keptSize.toInt ∧ f5_keptSize.toInt ≤ 128) → (0 ≤ f5_aheadSize.toInt ∧ f5_aheadSize.toInt ≤ 128) → (0 ≤ f4_blockCount.toInt ∧ f4_blockCount.toInt ≤ 9261) → (0 ≤ f4_blockLength.toInt ∧ f4_blockLength.toInt ≤ 21) → (0 ≤ f4_lastIsFree.toInt ∧ f4_lastIsFree.toInt ≤ 1) → (0 ≤ f4_stale.toInt ∧ f4_stale.toInt ≤ 1) → 10000 - L4.toInt < (n40 : Int) → (0 : Int) < (n40 : Int) → IAX ai → RWX ad w0 → RWX ad w1 → RWX ad w2 → RWX ad w3 → va_P (dC, dI) vwCl (WX cI cJ cII cJJ ad f3_unknowns f3_equations f2_roundSupports f2_stale f7_size f1_size f5_keptSize f5_aheadSize f0_solved f4_blockCount f4_blockLength f4_lastIsFree f4_stale ai al w0 w1 w2 w3) H → va_D A (WX cI cJ cII cJJ ad f3_unknowns f3_equations f2_roundSupports f2_stale f7_size f1_size f5_keptSize f5_aheadSize f0_solved f4_blockCount f4_blockLength f4_lastIsFree f4_stale ai al w0 w1 w2 w3) → va_S A s.heap H locs → lv_has ls 7 [(0, .ref (ad 22)), (1, .ref (ad 18)), (2, .ref (ad 19)), (3, .int L3), (4, .int L4)] → W p l e ({ frames := 3, cells := 0, slots := 0, locals := 140 } : Room) s m args below meth c H locs 0 0 (MQ below (Q_m160_X5_walk dC dI cI cJ cII cJJ ad f3_unknowns f3_equations f2_roundSupports f2_stale f7_size f1_size f0_solved f4_blockCount f4_blockLength f4_lastIsFree f4_stale al w0 w1 w2 w3 A) args s 0 0 A) (F0 m 40 ls [])) : ∀ (L3 L4 L5 L6 f5_keptSize f5_aheadSize : Int32) (ai : Nat → Nat → Int32) (H : Heap) (locs : List Loc) (ls : Array Slot), (1 ≤ L3.toInt ∧ L3.toInt ≤ 1) → (0 ≤ L4.toInt ∧ L4.toInt ≤ 99999) → (0 ≤ L5.toInt ∧ L5.toInt ≤ 5999) → (0 ≤ L6.toInt ∧ L6.toInt ≤ 5999) → (1 ≤ f3_unknowns.toInt ∧ f3_unknowns.toInt ≤ 4) → (0 ≤ f3_equations.toInt ∧ f3_equations.toInt ≤ 3) → (0 ≤ f2_stale.toInt ∧ f2_stale.toInt ≤ 1) → (0 ≤ f7_size.toInt ∧ f7_size.toInt ≤ 256) → (0 ≤ f1_size.toInt ∧ f1_size.toInt ≤ 4) → (1 ≤ f5_keptSize.toInt ∧ f5_keptSize.toInt ≤ 128) → (0 ≤ f5_aheadSize.toInt ∧ f5_aheadSize.toInt ≤ 128) → (0 ≤ f4_blockCount.toInt ∧ f4_blockCount.toInt ≤ 9261) → (0 ≤ f4_blockLength.toInt ∧ f4_blockLength.toInt ≤ 21) → (0 ≤ f4_lastIsFree.toInt ∧ f4_lastIsFree.toInt ≤ 1) → (0 ≤ f4_stale.toInt ∧ f4_stale.toInt ≤ 1) → L4.toInt < 10000 → 10000 - L4.toInt ≤ (n40 : Int) → IAX ai → RWX ad w0 → RWX ad w1 → RWX ad w2 → RWX ad w3 → va_P (dC, dI) vwCl (WX cI cJ cII cJJ ad f3_unknowns f3_equations f2_roundSupports f2_stale f7_size f1_size f5_keptSize f5_aheadSize f0_solved f4_blockCount f4_blockLength f4_lastIsFree f4_stale ai al w0 w1 w2 w3) H → va_D A (WX cI cJ cII cJJ ad f3_unknowns f3_equations f2_roundSupports f2_stale f7_size f1_size f5_keptSize f5_aheadSize f0_solved f4_blockCount f4_blockLength f4_lastIsFree f4_stale ai al w0 w1 w2 w3) → va_S A s.heap H locs → lv_has ls 7 [(0, .ref (ad 22)), (1, .ref (ad 18)), (2, .ref (ad 19)), (3, .int L3), (4, .int L4), (5, .int L5), (6, .int L6)] → W p l e ({ frames := 3, cells := 0, slots := 0, locals := 140 } : Room) s m args below meth c H locs 0 0 (MQ below (Q_m160_X5_walk dC dI cI cJ cII cJJ ad f3_unknowns f3_equations f2_roundSupports f2_stale f7_size f1_size f0_solved f4_blockCount f4_blockLength f4_lastIsFree f4_stale al w0 w1 w2 w3 A) args s 0 0 A) (F0 m 101 ls []) := by
  obtain ⟨hx, hb, hr, hml, hown, hts, hk, hA, hK, hX⟩ := id C
  intro L3 L4 L5 L6 f5_keptSize f5_aheadSize ai H locs ls h0 h1 h2 h3 h4 h5 h6 h7 h8 h9 h10 h11 h12 h13 h14 h15 h16 hI hw_w0 hw_w1 hw_w2 hw_w3 hP hD hS hl
  obtain ⟨z1, e_z1⟩ : ∃ q : Int32, q = L4 + Int32.ofInt 1 := ⟨_, rfl⟩
  have g_z1 : z1.toInt = L4.toInt + 1 := by rw [e_z1]; exact n_add (a := L4.toInt) (b := 1) rfl (by decide +kernel) (by omega) (by omega)
  refine lv_iinc (v := z1) (lv' := [(4, .int z1), (0, .ref (ad 22)), (1, .ref (ad 18)), (2, .ref (ad 19)), (3, .int L3), (5, .int L5), (6, .int L6)]) hx hb dX5_walk_101 hl (k := 4) rfl e_z1.symm (by decide) rfl (fun ls hl => ?_)
  refine lv_goto (tgt := 40) hx hb dX5_walk_104 (by decide) ?_
  exact K40 L3 z1 f5_keptSize f5_aheadSize ai _ _ _ (by omega) (by omega) (by omega) (by omega) (by omega) (by omega) (by omega) (by omega) (by omega) (by omega) (by omega) (by omega) (by omega) (by omega) (by omega) hI hw_w0 hw_w1 hw_w2 hw_w3 hP hD hS (lv_sub hl [1, 2, 3, 4, 0] rfl)
set_option maxRecDepth 100000 in
set_option maxHeartbeats 4000000 in
theorem m160_X5_walk_b40 {p : Program} {l : Launch} {e : Env} {s : State} {m : MethodId} {args : Array Value} {below : List Frame} {meth : Method} {c : Code} {A : Nat → Prop} {dC : Nat → ClassId} {dI : Nat → Nat → Nat} {cI cJ cII cJJ : ClassId} {ad : Nat → Nat} {g : Nat} {f3_unknowns f3_equations f2_roundSupports f2_stale f7_size f1_size f0_solved f4_blockCount f4_blockLength f4_lastIsFree f4_stale : Int32} {al : Nat → Nat → Int64} {w0 w1 w2 w3 : Nat} (C : Cx p c s m meth args A dC dI (TY cI cJ cII cJJ) cX5_walk none 7 RX5 0 g) : ∀ (n : Nat), ∀ (L3 L4 f5_keptSize f5_aheadSize : Int32) (ai : Nat → Nat → Int32) (H : Heap) (locs : List Loc) (ls : Array Slot), (1 ≤ L3.toInt ∧ L3.toInt ≤ 1) → (0 ≤ L4.toInt ∧ L4.toInt ≤ 100000) → (1 ≤ f3_unknowns.toInt ∧ f3_unknowns.toInt ≤ 4) → (0 ≤ f3_equations.toInt ∧ f3_equations.toInt ≤ 3) → (0 ≤ f2_stale.toInt ∧ f2_stale.toInt ≤ 1) → (0 ≤ f7_size.toInt ∧ f7_size.toInt ≤ 256) → (0 ≤ f1_size.toInt ∧ f1_size.toInt ≤ 4) → (1 ≤ f5_keptSize.toInt ∧ f5_keptSize.toInt ≤ 128) → (0 ≤ f5_aheadSize.toInt ∧ f5_aheadSize.toInt ≤ 128) → (0 ≤ f4_blockCount.toInt ∧ f4_blockCount.toInt ≤ 9261) → (0 ≤ f4_blockLength.toInt ∧ f4_blockLength.toInt ≤ 21) → (0 ≤ f4_lastIsFree.toInt ∧ f4_lastIsFree.toInt ≤ 1) → (0 ≤ f4_stale.toInt ∧ f4_stale.toInt ≤ 1) → 10000 - L4.toInt < (n : Int) → (0 : Int) < (n : Int) → IAX ai → RWX ad w0 → RWX ad w1 → RWX ad w2 → RWX ad w3 → va_P (dC, dI) vwCl (WX cI cJ cII cJJ ad f3_unknowns f3_equations f2_roundSupports f2_stale f7_size f1_size f5_keptSize f5_aheadSize f0_solved f4_blockCount f4_blockLength f4_lastIsFree f4_stale ai al w0 w1 w2 w3) H → va_D A (WX cI cJ cII cJJ ad f3_unknowns f3_equations f2_roundSupports f2_stale f7_size f1_size f5_keptSize f5_aheadSize f0_solved f4_blockCount f4_blockLength f4_lastIsFree f4_stale ai al w0 w1 w2 w3) → va_S A s.heap H locs → lv_has ls 7 [(0, .ref (ad 22)), (1, .ref (ad 18)), (2, .ref (ad 19)), (3, .int L3), (4, .int L4)] → W p l e ({ frames := 3, cells := 0, slots := 0, locals := 140 } : Room) s m args below meth c H locs 0 0 (MQ below (Q_m160_X5_walk dC dI cI cJ cII cJJ ad f3_unknowns f3_equations f2_roundSupports f2_stale f7_size f1_size f0_solved f4_blockCount f4_blockLength f4_lastIsFree f4_stale al w0 w1 w2 w3 A) args s 0 0 A) (F0 m 40 ls []) := by
  obtain ⟨hx, hb, hr, hml, hown, hts, hk, hA, hK, hX⟩ := id C
  intro n
  induction n with
  | zero =>
    intro L3 L4 f5_keptSize f5_aheadSize ai H locs ls h0 h1 h2 h3 h4 h5 h6 h7 h8 h9 h10 h11 h12 h13 h14 hI hw_w0 hw_w1 hw_w2 hw_w3 hP hD hS hl
    exact absurd h14 (by omega)
  | succ n ih =>
    intro L3 L4 f5_keptSize f5_aheadSize ai H locs ls h0 h1 h2 h3 h4 h5 h6 h7 h8 h9 h10 h11 h12 h13 h14 hI hw_w0 hw_w1 hw_w2 hw_w3 hP hD hS hl
    refine lv_iload hx hb dX5_walk_40 (lv_at hl 4 rfl) ?_
    refine lv_sipush (v := 10000) hx hb dX5_walk_42 (by decide) ?_
    refine lv_icmp_ge (tgt := 107) hx hb dX5_walk_45 (by decide) (fun c1 => ?_) (fun c1 => ?_)
    · have c1 := j_le (a := 10000) (b := L4.toInt) (by decide +kernel) rfl c1
      exact m160_X5_walk_b107 C  L3 L4 f5_keptSize f5_aheadSize ai _ _ _ (by omega) (by omega) (by omega) (by omega) (by omega) (by omega) (by omega) (by omega) (by omega) (by omega) (by omega) (by omega) (by omega) hI hw_w0 hw_w1 hw_w2 hw_w3 hP hD hS (lv_sub hl [0, 1, 2, 3, 4] rfl)
    · have c1 := j_nle (a := 10000) (b := L4.toInt) (by decide +kernel) rfl c1
      refine lv_aload_n hx hb dX5_walk_48 rfl (lv_at hl 0 rfl) ?_
      refine gf (k := 3) hx hb hts inX5 hown hK hP k_140 rfl (by decide) rfl 22 rfl (.int f5_aheadSize) rfl dX5_walk_49 ?_
      refine lv_if_le (tgt := 107) hx hb dX5_walk_52 (by decide) (fun c2 => ?_) (fun c2 => ?_)
      · have c2 := j_le (a := f5_aheadSize.toInt) (b := 0) rfl (by decide +kernel) c2
        exact m160_X5_walk_b107 C  L3 L4 f5_keptSize f5_aheadSize ai _ _ _ (by omega) (by omega) (by omega) (by omega) (by omega) (by omega) (by omega) (by omega) (by omega) (by omega) (by omega) (by omega) (by omega) hI hw_w0 hw_w1 hw_w2 hw_w3 hP hD hS (lv_sub hl [0, 1, 2, 3, 4] rfl)
      · have c2 := j_nle (a := f5_aheadSize.toInt) (b := 0) rfl (by decide +kernel) c2
        refine lv_aload_n hx hb dX5_walk_55 rfl (lv_at hl 0 rfl) ?_
        refine gf (k := 2) hx hb hts inX5 hown hK hP k_139 rfl (by decide) rfl 22 rfl (.int f5_keptSize) rfl dX5_walk_56 ?_
        refine lv_iconst (v := 1) hx hb dX5_walk_59 (by decide) ?_
        refine v_isub hx hb dX5_walk_60 _ rfl ?_
        refine lv_topi (fun z3 e_z3 => ?_)
        have g_z3 : z3.toInt = f5_keptSize.toInt - 1 := by rw [e_z3]; exact n_sub (a := f5_keptSize.toInt) (b := 1) rfl (by decide +kernel) (by omega) (by omega)
        refine lv_iconst (v := 4) hx hb dX5_walk_61 (by decide) ?_
        refine v_imul hx hb dX5_walk_62 _ rfl ?_
        refine lv_topi (fun z4 e_z4 => ?_)
        have g_z4 : z4.toInt = z3.toInt * 4 := by rw [e_z4]; exact n_mul (a := z3.toInt) (b := 4) rfl (by decide +kernel) (by omega) (by omega)
        refine lv_istore (lv' := [(5, .int z4), (0, .ref (ad 22)), (1, .ref (ad 18)), (2, .ref (ad 19)), (3, .int L3), (4, .int L4)]) hx hb dX5_walk_63 hl (by decide) rfl (fun ls hl => ?_)
        refine lv_aload_n hx hb dX5_walk_65 rfl (lv_at hl 1 rfl) ?_
        refine gf (k := 3) hx hb hts inX5 hown hK hP k_140 rfl (by decide) rfl 22 rfl (.int f5_aheadSize) rfl dX5_walk_66 ?_
        refine lv_iconst (v := 1) hx hb dX5_walk_69 (by decide) ?_
        refine v_isub hx hb dX5_walk_70 _ rfl ?_
        refine lv_topi (fun z5 e_z5 => ?_)
        have g_z5 : z5.toInt = f5_aheadSize.toInt - 1 := by rw [e_z5]; exact n_sub (a := f5_aheadSize.toInt) (b := 1) rfl (by decide +kernel) (by omega) (by omega)
        refine lv_iconst (v := 4) hx hb dX5_walk_71 (by decide) ?_
        refine v_imul hx hb dX5_walk_72 _ rfl ?_
        refine lv_topi (fun z6 e_z6 => ?_)
        have g_z6 : z6.toInt = z5.toInt * 4 := by rw [e_z6]; exact n_mul (a := z5.toInt) (b := 4) rfl (by decide +kernel) (by omega) (by omega)
        refine lv_istore (lv' := [(6, .int z6), (5, .int z4), (0, .ref (ad 22)), (1, .ref (ad 18)), (2, .ref (ad 19)), (3, .int L3), (4, .int L4)]) hx hb dX5_walk_73 hl (by decide) rfl (fun ls hl => ?_)
        refine lv_aload_n hx hb dX5_walk_75 rfl (lv_at hl 2 rfl) ?_
        refine lv_iload hx hb dX5_walk_76 (lv_at hl 1 rfl) ?_
        refine lv_iload hx hb dX5_walk_78 (lv_at hl 0 rfl) ?_
        refine k2V_i (q0 := 22) ⟨hx, hb, hml, hown, hts⟩ hK hP hD hS hA hX cv_RX5_32 (m067_X5_haveOppositeSigns l dC dI cI cJ cII cJJ H.size 0 ad f3_unknowns f3_equations f2_roundSupports f2_stale f7_size f1_size f5_keptSize f5_aheadSize f0_solved f4_blockCount f4_blockLength f4_lastIsFree f4_stale ai al w0 w1 w2 w3 z4 z6 (by omega) (by omega) (by omega) (by omega) (by omega) (by omega) (by omega) (by omega) (by omega) (by omega) (by omega) (by omega) (by omega) hI hw_w0 hw_w1 hw_w2 hw_w3) ⟨by decide +kernel, by decide +kernel⟩ rfl rfl (Or.inl rfl) (rest := []) rfl rfl rfl hl.1 rfl (Nat.le_of_ble_eq_true rfl) dX5_walk_80 ⟨Nat.le_of_ble_eq_true rfl, Nat.le_of_ble_eq_true rfl⟩ (fun r7 t H1 locs ht hB hS hFc => ?_)
        obtain ⟨gpr7_0, hP, -, hD⟩ := hB
        rw [ht] at hP
        have hD := hD.weaken (B := A) (fun k q _ h9 => hFc q.1 h9)
        clear ht
        generalize H1 = H at hP hS ⊢
        refine lv_if_eq (tgt := 97) hx hb dX5_walk_83 (by decide) (fun c8 => ?_) (fun c8 => ?_)
        · have c8 := j_eq (a := r7.toInt) (b := 0) rfl (by decide +kernel) c8
          refine lv_aload_n hx hb dX5_walk_97 rfl (lv_at hl 2 rfl) ?_
          refine k2V_v (q0 := 22) ⟨hx, hb, hml, hown, hts⟩ hK hP hD hS hA hX cv_RX5_29 (m066_X5_keepNext l dC dI cI cJ cII cJJ H.size 0 ad f3_unknowns f3_equations f2_roundSupports f2_stale f7_size f1_size f5_keptSize f5_aheadSize f0_solved f4_blockCount f4_blockLength f4_lastIsFree f4_stale ai al w0 w1 w2 w3 (by omega) (by omega) (by omega) (by omega) (by omega) (by omega) (by omega) (by omega) (by omega) (by omega) (by omega) hI hw_w0 hw_w1 hw_w2 hw_w3) ⟨by decide +kernel, by decide +kernel⟩ rfl rfl (Or.inl rfl) (rest := []) rfl rfl rfl hl.1 rfl (Nat.le_of_ble_eq_true rfl) dX5_walk_98 ⟨Nat.le_of_ble_eq_true rfl, Nat.le_of_ble_eq_true rfl⟩ (fun t H1 locs ht hB hS hFc => ?_)
          obtain ⟨v10, v11, ai12, ⟨gpr9_0, gpr9_1, gpr9_2, hI⟩, hP, -, hD⟩ := hB
          rw [ht] at hP
          have hD := hD.weaken (B := A) (fun k q _ h9 => hFc q.1 h9)
          clear ht
          generalize H1 = H at hP hS ⊢
          exact m160_X5_walk_b101 C n ih L3 L4 z4 z6 v10 v11 ai12 _ _ _ (by omega) (by omega) (by omega) (by omega) (by omega) (by omega) (by omega) (by omega) (by omega) (by omega) (by omega) (by omega) (by omega) (by omega) (by omega) (by omega) (by omega) hI hw_w0 hw_w1 hw_w2 hw_w3 hP hD hS (lv_sub hl [2, 3, 4, 5, 6, 1, 0] rfl)
        · have c8 := j_ne (a := r7.toInt) (b := 0) rfl (by decide +kernel) c8
          refine lv_aload_n hx hb dX5_walk_86 rfl (lv_at hl 2 rfl) ?_
          refine lv_iload hx hb dX5_walk_87 (lv_at hl 1 rfl) ?_
          refine lv_iload hx hb dX5_walk_89 (lv_at hl 0 rfl) ?_
          refine k2V_v (q0 := 22) ⟨hx, hb, hml, hown, hts⟩ hK hP hD hS hA hX cv_RX5_36 (m065_X5_pushSum l dC dI cI cJ cII cJJ H.size 0 ad f3_unknowns f3_equations f2_roundSupports f2_stale f7_size f1_size f5_keptSize f5_aheadSize f0_solved f4_blockCount f4_blockLength f4_lastIsFree f4_stale ai al w0 w1 w2 w3 z4 z6 (by omega) (by omega) (by omega) (by omega) (by omega) (by omega) (by omega) (by omega) (by omega) (by omega) (by omega) (by omega) (by omega) hI hw_w0 hw_w1 hw_w2 hw_w3) ⟨by decide +kernel, by decide +kernel⟩ rfl rfl (Or.inl rfl) (rest := []) rfl rfl rfl hl.1 rfl (Nat.le_of_ble_eq_true rfl) dX5_walk_91 ⟨Nat.le_of_ble_eq_true rfl, Nat.le_of_ble_eq_true rfl⟩ (fun t H1 locs ht hB hS hFc => ?_)
          obtain ⟨v14, ai15, ⟨gpr13_0, gpr13_1, hI⟩, hP, -, hD⟩ := hB
          rw [ht] at hP
          have hD := hD.weaken (B := A) (fun k q _ h9 => hFc q.1 h9)
          clear ht
          generalize H1 = H at hP hS ⊢
          refine lv_goto (tgt := 101) hx hb dX5_walk_94 (by decide) ?_
          exact m160_X5_walk_b101 C n ih L3 L4 z4 z6 f5_keptSize v14 ai15 _ _ _ (by omega) (by omega) (by omega) (by omega) (by omega) (by omega) (by omega) (by omega) (by omega) (by omega) (by omega) (by omega) (by omega) (by omega) (by omega) (by omega) (by omega) hI hw_w0 hw_w1 hw_w2 hw_w3 hP hD hS (lv_sub hl [2, 3, 4, 5, 6, 1, 0] rfl)
set_option maxRecDepth 100000 in
set_option maxHeartbeats 4000000 in
theorem m160_X5_walk (l : Launch) (dC : Nat → ClassId) (dI : Nat → Nat → Nat) (cI cJ cII cJJ : ClassId) (sz g : Nat) (ad : Nat → Nat) (f3_unknowns f3_equations f2_roundSupports f2_stale f7_size f1_size f5_keptSize f5_aheadSize f0_solved f4_blockCount f4_blockLength f4_lastIsFree f4_stale : Int32) (ai : Nat → Nat → Int32) (al : Nat → Nat → Int64) (w0 w1 w2 w3 : Nat) (x3 : Int32) (h_x3 : (0 ≤ x3.toInt ∧ x3.toInt ≤ 1)) (h_f3_unknowns : (1 ≤ f3_unknowns.toInt ∧ f3_unknowns.toInt ≤ 4)) (h_f3_equations : (0 ≤ f3_equations.toInt ∧ f3_equations.toInt ≤ 3)) (h_f2_stale : (0 ≤ f2_stale.toInt ∧ f2_stale.toInt ≤ 1)) (h_f7_size : (0 ≤ f7_size.toInt ∧ f7_size.toInt ≤ 256)) (h_f1_size : (0 ≤ f1_size.toInt ∧ f1_size.toInt ≤ 4)) (h_f5_keptSize : (0 ≤ f5_keptSize.toInt ∧ f5_keptSize.toInt ≤ 128)) (h_f5_aheadSize : (0 ≤ f5_aheadSize.toInt ∧ f5_aheadSize.toInt ≤ 128)) (h_f4_blockCount : (0 ≤ f4_blockCount.toInt ∧ f4_blockCount.toInt ≤ 9261)) (h_f4_blockLength : (0 ≤ f4_blockLength.toInt ∧ f4_blockLength.toInt ≤ 21)) (h_f4_lastIsFree : (0 ≤ f4_lastIsFree.toInt ∧ f4_lastIsFree.toInt ≤ 1)) (h_f4_stale : (0 ≤ f4_stale.toInt ∧ f4_stale.toInt ≤ 1)) (hI : IAX ai) (hw_w0 : RWX ad w0) (hw_w1 : RWX ad w1) (hw_w2 : RWX ad w2) (hw_w3 : RWX ad w3) : Met l yX5_walk (.code yX5_walk cX5_walk 7 none :: TT) ({ frames := 3, cells := 0, slots := 0, locals := 140 } : Room) (PcS dC dI (TY cI cJ cII cJJ) [.ref (ad 22), .ref (ad 18), .ref (ad 19), .int x3] (WX cI cJ cII cJJ ad f3_unknowns f3_equations f2_roundSupports f2_stale f7_size f1_size f5_keptSize f5_aheadSize f0_solved f4_blockCount f4_blockLength f4_lastIsFree f4_stale ai al w0 w1 w2 w3) sz 0 g) (Q_m160_X5_walk dC dI cI cJ cII cJJ ad f3_unknowns f3_equations f2_roundSupports f2_stale f7_size f1_size f0_solved f4_blockCount f4_blockLength f4_lastIsFree f4_stale al w0 w1 w2 w3 (va_A (WX cI cJ cII cJJ ad f3_unknowns f3_equations f2_roundSupports f2_stale f7_size f1_size f5_keptSize f5_aheadSize f0_solved f4_blockCount f4_blockLength f4_lastIsFree f4_stale ai al w0 w1 w2 w3) sz)) 0 0 (va_A (WX cI cJ cII cJJ ad f3_unknowns f3_equations f2_roundSupports f2_stale f7_size f1_size f5_keptSize f5_aheadSize f0_solved f4_blockCount f4_blockLength f4_lastIsFree f4_stale ai al w0 w1 w2 w3) sz) := by
  refine SM.of (y := yX5_walk) (maxL := 7) (av := [.ref (ad 22), .ref (ad 18), .ref (ad 19), .int x3]) (Q_m160_X5_walk dC dI cI cJ cII cJJ ad f3_unknowns f3_equations f2_roundSupports f2_stale f7_size f1_size f0_solved f4_blockCount f4_blockLength f4_lastIsFree f4_stale al w0 w1 w2 w3) (by decide +kernel) (Nat.le_of_ble_eq_true rfl) (fun p e s m below meth c A ls hx hb hr hml hown hts hk hnm hA hK hP hD hS hX hl => ?_)
  have C : Cx p c s m meth (([.ref (ad 22), .ref (ad 18), .ref (ad 19), .int x3] : List Value).toArray) A dC dI (TY cI cJ cII cJJ) cX5_walk none 7 RX5 0 g := ⟨hx, hb, hr, hml, hown, hts, hk, hA, hK, hX⟩
  have hown : s.vm.findClass RX5 = some m.cls := hown
  have hl : lv_has ls 7 [(0, .ref (ad 22)), (1, .ref (ad 18)), (2, .ref (ad 19)), (3, .int x3)] := hl
  obtain ⟨H, hH⟩ : ∃ q, q = s.heap := ⟨_, rfl⟩
  rw [← hH] at hP
  have hS : va_S A s.heap H [] := by rw [hH]; exact hS
  rw [← hH]
  refine lv_aload_n hx hb dX5_walk_0 rfl (lv_at hl 0 rfl) ?_
  refine lv_iconst (v := 0) hx hb dX5_walk_1 (by decide) ?_
  refine pf (k := 2) hx hb hts inX5 tyX5_ok nmX5 hown hK hP hD hS k_139 rfl (by decide) rfl rfl 22 rfl rfl rfl (Nat.le_of_ble_eq_true rfl) dX5_walk_2 (W' := (WX cI cJ cII cJJ ad f3_unknowns f3_equations f2_roundSupports f2_stale f7_size f1_size 0 f5_aheadSize f0_solved f4_blockCount f4_blockLength f4_lastIsFree f4_stale ai al w0 w1 w2 w3)) rfl (fun H locs hP hD hS => ?_)
  refine lv_aload_n hx hb dX5_walk_5 rfl (lv_at hl 0 rfl) ?_
  refine lv_iconst (v := 0) hx hb dX5_walk_6 (by decide) ?_
  refine pf (k := 3) hx hb hts inX5 tyX5_ok nmX5 hown hK hP hD hS k_140 rfl (by decide) rfl rfl 22 rfl rfl rfl (Nat.le_of_ble_eq_true rfl) dX5_walk_7 (W' := (WX cI cJ cII cJJ ad f3_unknowns f3_equations f2_roundSupports f2_stale f7_size f1_size 0 0 f0_solved f4_blockCount f4_blockLength f4_lastIsFree f4_stale ai al w0 w1 w2 w3)) rfl (fun H locs hP hD hS => ?_)
  refine lv_aload_n hx hb dX5_walk_10 rfl (lv_at hl 0 rfl) ?_
  refine lv_aload_n hx hb dX5_walk_11 rfl (lv_at hl 1 rfl) ?_
  refine lv_iconst (v := 1) hx hb dX5_walk_12 (by decide) ?_
  refine k2V_v (q0 := 22) ⟨hx, hb, hml, hown, hts⟩ hK hP hD hS hA hX cv_RX5_25 (m147_X5_pushAhead l dC dI cI cJ cII cJJ H.size 0 ad f3_unknowns f3_equations f2_roundSupports f2_stale f7_size f1_size 0 0 f0_solved f4_blockCount f4_blockLength f4_lastIsFree f4_stale ai al w0 w1 w2 w3 1 (by omega) (by omega) (by omega) (by omega) (by omega) (by decide +kernel) (by decide +kernel) (by omega) (by omega) (by omega) (by omega) hI hw_w0 hw_w1 hw_w2 hw_w3) ⟨by decide +kernel, by decide +kernel⟩ rfl rfl (Or.inl rfl) (rest := []) rfl rfl rfl hl.1 rfl (Nat.le_of_ble_eq_true rfl) dX5_walk_13 ⟨Nat.le_of_ble_eq_true rfl, Nat.le_of_ble_eq_true rfl⟩ (fun t H1 locs ht hB hS hFc => ?_)
  obtain ⟨v2, ai3, ⟨gpr1_0, gpr1_1, hI⟩, hP, -, hD⟩ := hB
  rw [ht] at hP
  have hD := hD.weaken (B := A) (fun k q _ h9 => hFc q.1 h9)
  clear ht
  generalize H1 = H at hP hS ⊢
  refine lv_aload_n hx hb dX5_walk_16 rfl (lv_at hl 0 rfl) ?_
  refine k2V_v (q0 := 22) ⟨hx, hb, hml, hown, hts⟩ hK hP hD hS hA hX cv_RX5_29 (m066_X5_keepNext l dC dI cI cJ cII cJJ H.size 0 ad f3_unknowns f3_equations f2_roundSupports f2_stale f7_size f1_size 0 v2 f0_solved f4_blockCount f4_blockLength f4_lastIsFree f4_stale ai3 al w0 w1 w2 w3 (by omega) (by omega) (by omega) (by omega) (by omega) (by decide +kernel) (by omega) (by omega) (by omega) (by omega) (by omega) hI hw_w0 hw_w1 hw_w2 hw_w3) ⟨by decide +kernel, by decide +kernel⟩ rfl rfl (Or.inl rfl) (rest := []) rfl rfl rfl hl.1 rfl (Nat.le_of_ble_eq_true rfl) dX5_walk_17 ⟨Nat.le_of_ble_eq_true rfl, Nat.le_of_ble_eq_true rfl⟩ (fun t H1 locs ht hB hS hFc => ?_)
  obtain ⟨v5, v6, ai7, ⟨gpr4_0, gpr4_1, gpr4_2, hI⟩, hP, -, hD⟩ := hB
  rw [ht] at hP
  have hD := hD.weaken (B := A) (fun k q _ h9 => hFc q.1 h9)
  clear ht
  generalize H1 = H at hP hS ⊢
  refine lv_iload_n hx hb dX5_walk_20 rfl (lv_at hl 3 rfl) ?_
  refine lv_if_ne (tgt := 25) hx hb dX5_walk_21 (by decide) (fun c8 => ?_) (fun c8 => ?_)
  · have c8 := j_ne (a := x3.toInt) (b := 0) rfl (by decide +kernel) c8
    refine lv_aload_n hx hb dX5_walk_25 rfl (lv_at hl 0 rfl) ?_
    refine lv_aload_n hx hb dX5_walk_26 rfl (lv_at hl 1 rfl) ?_
    refine lv_iconst (v := (-1)) hx hb dX5_walk_27 (by decide) ?_
    refine k2V_v (q0 := 22) ⟨hx, hb, hml, hown, hts⟩ hK hP hD hS hA hX cv_RX5_25 (m147_X5_pushAhead l dC dI cI cJ cII cJJ H.size 0 ad f3_unknowns f3_equations f2_roundSupports f2_stale f7_size f1_size v5 v6 f0_solved f4_blockCount f4_blockLength f4_lastIsFree f4_stale ai7 al w0 w1 w2 w3 (-1) (by omega) (by omega) (by omega) (by omega) (by omega) (by omega) (by omega) (by omega) (by omega) (by omega) (by omega) hI hw_w0 hw_w1 hw_w2 hw_w3) ⟨by decide +kernel, by decide +kernel⟩ rfl rfl (Or.inl rfl) (rest := []) rfl rfl rfl hl.1 rfl (Nat.le_of_ble_eq_true rfl) dX5_walk_28 ⟨Nat.le_of_ble_eq_true rfl, Nat.le_of_ble_eq_true rfl⟩ (fun t H1 locs ht hB hS hFc => ?_)
    obtain ⟨v10, ai11, ⟨gpr9_0, gpr9_1, hI⟩, hP, -, hD⟩ := hB
    rw [ht] at hP
    have hD := hD.weaken (B := A) (fun k q _ h9 => hFc q.1 h9)
    clear ht
    generalize H1 = H at hP hS ⊢
    refine lv_aload_n hx hb dX5_walk_31 rfl (lv_at hl 0 rfl) ?_
    refine lv_aload_n hx hb dX5_walk_32 rfl (lv_at hl 2 rfl) ?_
    refine lv_iconst (v := 1) hx hb dX5_walk_33 (by decide) ?_
    refine k2V_v (q0 := 22) ⟨hx, hb, hml, hown, hts⟩ hK hP hD hS hA hX cv_RX5_25 (m149_X5_pushAhead l dC dI cI cJ cII cJJ H.size 0 ad f3_unknowns f3_equations f2_roundSupports f2_stale f7_size f1_size v5 v10 f0_solved f4_blockCount f4_blockLength f4_lastIsFree f4_stale ai11 al w0 w1 w2 w3 1 (by omega) (by omega) (by omega) (by omega) (by omega) (by omega) (by omega) (by omega) (by omega) (by omega) (by omega) hI hw_w0 hw_w1 hw_w2 hw_w3) ⟨by decide +kernel, by decide +kernel⟩ rfl rfl (Or.inl rfl) (rest := []) rfl rfl rfl hl.1 rfl (Nat.le_of_ble_eq_true rfl) dX5_walk_34 ⟨Nat.le_of_ble_eq_true rfl, Nat.le_of_ble_eq_true rfl⟩ (fun t H1 locs ht hB hS hFc => ?_)
    obtain ⟨v13, ai14, ⟨gpr12_0, gpr12_1, hI⟩, hP, -, hD⟩ := hB
    rw [ht] at hP
    have hD := hD.weaken (B := A) (fun k q _ h9 => hFc q.1 h9)
    clear ht
    generalize H1 = H at hP hS ⊢
    refine lv_iconst (v := 0) hx hb dX5_walk_37 (by decide) ?_
    refine lv_istore (lv' := [(4, .int 0), (0, .ref (ad 22)), (1, .ref (ad 18)), (2, .ref (ad 19)), (3, .int x3)]) hx hb dX5_walk_38 hl (by decide) rfl (fun ls hl => ?_)
    exact m160_X5_walk_b40 C  _ x3 0 v5 v13 ai14 _ _ _ (by first | omega | decide | (simp only [show (0 : Int32).toInt = 0 from by decide +kernel]; omega)) (by first | omega | decide | (simp only [show (0 : Int32).toInt = 0 from by decide +kernel]; omega)) (by first | omega | decide | (simp only [show (0 : Int32).toInt = 0 from by decide +kernel]; omega)) (by first | omega | decide | (simp only [show (0 : Int32).toInt = 0 from by decide +kernel]; omega)) (by first | omega | decide | (simp only [show (0 : Int32).toInt = 0 from by decide +kernel]; omega)) (by first | omega | decide | (simp only [show (0 : Int32).toInt = 0 from by decide +kernel]; omega)) (by first | omega | decide | (simp only [show (0 : Int32).toInt = 0 from by decide +kernel]; omega)) (by first | omega | decide | (simp only [show (0 : Int32).toInt = 0 from by decide +kernel]; omega)) (by first | omega | decide | (simp only [show (0 : Int32).toInt = 0 from by decide +kernel]; omega)) (by first | omega | decide | (simp only [show (0 : Int32).toInt = 0 from by decide +kernel]; omega)) (by first | omega | decide | (simp only [show (0 : Int32).toInt = 0 from by decide +kernel]; omega)) (by first | omega | decide | (simp only [show (0 : Int32).toInt = 0 from by decide +kernel]; omega)) (by first | omega | decide | (simp only [show (0 : Int32).toInt = 0 from by decide +kernel]; omega)) (j_fuel _) (by omega) hI hw_w0 hw_w1 hw_w2 hw_w3 hP hD hS (lv_sub hl [1, 2, 3, 4, 0] rfl)
  · have c8 := j_eq (a := x3.toInt) (b := 0) rfl (by decide +kernel) c8
    exact r2_v hx hb hr hk hS dX5_walk_24 (fun t ht hW => ⟨v5, v6, ai7, ⟨(by first | omega | decide | exact Or.inl (by decide) | exact Or.inr (by omega)), (by first | omega | decide | exact Or.inl (by decide) | exact Or.inr (by omega)), hI⟩, by rw [ht]; exact hP, va_K.moved hW.alike hK, hD⟩)
def Q_m161_X5_walk (dC : Nat → ClassId) (dI : Nat → Nat → Nat) (cI cJ cII cJJ : ClassId) (ad : Nat → Nat) (f3_unknowns f3_equations f2_roundSupports f2_stale f7_size f1_size f0_solved f4_blockCount f4_blockLength f4_lastIsFree f4_stale : Int32) (al : Nat → Nat → Int64) (w0 w1 w2 w3 : Nat) : (Nat → Prop) → Array Value → State → Outcome → State → Prop := fun A => QV (fun t => ∃ (n_f5_keptSize n_f5_aheadSize : Int32), ∃ (n_ai : Nat → Nat → Int32), ((0 ≤ n_f5_keptSize.toInt ∧ n_f5_keptSize.toInt ≤ 127) ∧ (0 ≤ n_f5_aheadSize.toInt ∧ n_f5_aheadSize.toInt ≤ 128) ∧ IAX n_ai) ∧ WO dC dI (TY cI cJ cII cJJ) (WX cI cJ cII cJJ ad f3_unknowns f3_equations f2_roundSupports f2_stale f7_size f1_size n_f5_keptSize n_f5_aheadSize f0_solved f4_blockCount f4_blockLength f4_lastIsFree f4_stale n_ai al w0 w1 w2 w3) A t) A
set_option maxRecDepth 100000 in
set_option maxHeartbeats 4000000 in
theorem m161_X5_walk_b107 {p : Program} {l : Launch} {e : Env} {s : State} {m : MethodId} {args : Array Value} {below : List Frame} {meth : Method} {c : Code} {A : Nat → Prop} {dC : Nat → ClassId} {dI : Nat → Nat → Nat} {cI cJ cII cJJ : ClassId} {ad : Nat → Nat} {g : Nat} {f3_unknowns f3_equations f2_roundSupports f2_stale f7_size f1_size f0_solved f4_blockCount f4_blockLength f4_lastIsFree f4_stale : Int32} {al : Nat → Nat → Int64} {w0 w1 w2 w3 : Nat} (C : Cx p c s m meth args A dC dI (TY cI cJ cII cJJ) cX5_walk none 7 RX5 0 g) : ∀ (L3 L4 f5_keptSize f5_aheadSize : Int32) (ai : Nat → Nat → Int32) (H : Heap) (locs : List Loc) (ls : Array Slot), (1 ≤ L3.toInt ∧ L3.toInt ≤ 1) → (0 ≤ L4.toInt ∧ L4.toInt ≤ 100000) → (1 ≤ f3_unknowns.toInt ∧ f3_unknowns.toInt ≤ 4) → (0 ≤ f3_equations.toInt ∧ f3_equations.toInt ≤ 3) → (0 ≤ f2_stale.toInt ∧ f2_stale.toInt ≤ 1) → (0 ≤ f7_size.toInt ∧ f7_size.toInt ≤ 256) → (0 ≤ f1_size.toInt ∧ f1_size.toInt ≤ 4) → (1 ≤ f5_keptSize.toInt ∧ f5_keptSize.toInt ≤ 128) → (0 ≤ f5_aheadSize.toInt ∧ f5_aheadSize.toInt ≤ 128) → (0 ≤ f4_blockCount.toInt ∧ f4_blockCount.toInt ≤ 9261) → (0 ≤ f4_blockLength.toInt ∧ f4_blockLength.toInt ≤ 21) → (0 ≤ f4_lastIsFree.toInt ∧ f4_lastIsFree.toInt ≤ 1) → (0 ≤ f4_stale.toInt ∧ f4_stale.toInt ≤ 1) → IAX ai → RWX ad w0 → RWX ad w1 → RWX ad w2 → RWX ad w3 → va_P (dC, dI) vwCl (WX cI cJ cII cJJ ad f3_unknowns f3_equations f2_roundSupports f2_stale f7_size f1_size f5_keptSize f5_aheadSize f0_solved f4_blockCount f4_blockLength f4_lastIsFree f4_stale ai al w0 w1 w2 w3) H → va_D A (WX cI cJ cII cJJ ad f3_unknowns f3_equations f2_roundSupports f2_stale f7_size f1_size f5_keptSize f5_aheadSize f0_solved f4_blockCount f4_blockLength f4_lastIsFree f4_stale ai al w0 w1 w2 w3) → va_S A s.heap H locs → lv_has ls 7 [(0, .ref (ad 22)), (1, .ref (ad 19)), (2, .ref (ad 19)), (3, .int L3), (4, .int L4)] → W p l e ({ frames := 3, cells := 0, slots := 0, locals := 140 } : Room) s m args below meth c H locs 0 0 (MQ below (Q_m161_X5_walk dC dI cI cJ cII cJJ ad f3_unknowns f3_equations f2_roundSupports f2_stale f7_size f1_size f0_solved f4_blockCount f4_blockLength f4_lastIsFree f4_stale al w0 w1 w2 w3 A) args s 0 0 A) (F0 m 107 ls []) := by
  obtain ⟨hx, hb, hr, hml, hown, hts, hk, hA, hK, hX⟩ := id C
  intro L3 L4 f5_keptSize f5_aheadSize ai H locs ls h0 h1 h2 h3 h4 h5 h6 h7 h8 h9 h10 h11 h12 hI hw_w0 hw_w1 hw_w2 hw_w3 hP hD hS hl
  refine lv_aload_n hx hb dX5_walk_107 rfl (lv_at hl 0 rfl) ?_
  refine lv_dup hx hb dX5_walk_108 rfl ?_
  refine gf (k := 2) hx hb hts inX5 hown hK hP k_139 rfl (by decide) rfl 22 rfl (.int f5_keptSize) rfl dX5_walk_109 ?_
  refine lv_iconst (v := 1) hx hb dX5_walk_112 (by decide) ?_
  refine v_isub hx hb dX5_walk_113 _ rfl ?_
  refine lv_topi (fun z1 e_z1 => ?_)
  have g_z1 : z1.toInt = f5_keptSize.toInt - 1 := by rw [e_z1]; exact n_sub (a := f5_keptSize.toInt) (b := 1) rfl (by decide +kernel) (by omega) (by omega)
  refine pf (k := 2) hx hb hts inX5 tyX5_ok nmX5 hown hK hP hD hS k_139 rfl (by decide) rfl rfl 22 rfl rfl rfl (Nat.le_of_ble_eq_true rfl) dX5_walk_114 (W' := (WX cI cJ cII cJJ ad f3_unknowns f3_equations f2_roundSupports f2_stale f7_size f1_size z1 f5_aheadSize f0_solved f4_blockCount f4_blockLength f4_lastIsFree f4_stale ai al w0 w1 w2 w3)) rfl (fun H locs hP hD hS => ?_)
  exact r2_v hx hb hr hk hS dX5_walk_117 (fun t ht hW => ⟨z1, f5_aheadSize, ai, ⟨(by first | omega | decide | exact Or.inl (by decide) | exact Or.inr (by omega)), (by first | omega | decide | exact Or.inl (by decide) | exact Or.inr (by omega)), hI⟩, by rw [ht]; exact hP, va_K.moved hW.alike hK, hD⟩)
set_option maxRecDepth 100000 in
set_option maxHeartbeats 4000000 in
theorem m161_X5_walk_b101 {p : Program} {l : Launch} {e : Env} {s : State} {m : MethodId} {args : Array Value} {below : List Frame} {meth : Method} {c : Code} {A : Nat → Prop} {dC : Nat → ClassId} {dI : Nat → Nat → Nat} {cI cJ cII cJJ : ClassId} {ad : Nat → Nat} {g : Nat} {f3_unknowns f3_equations f2_roundSupports f2_stale f7_size f1_size f0_solved f4_blockCount f4_blockLength f4_lastIsFree f4_stale : Int32} {al : Nat → Nat → Int64} {w0 w1 w2 w3 : Nat} (C : Cx p c s m meth args A dC dI (TY cI cJ cII cJJ) cX5_walk none 7 RX5 0 g) (n40 : Nat) (K40 : ∀ (L3 L4 f5_keptSize f5_aheadSize : Int32) (ai : Nat → Nat → Int32) (H : Heap) (locs : List Loc) (ls : Array Slot), (1 ≤ L3.toInt ∧ L3.toInt ≤ 1) → (0 ≤ L4.toInt ∧ L4.toInt ≤ 100000) → (1 ≤ f3_unknowns.toInt ∧ f3_unknowns.toInt ≤ 4) → (0 ≤ f3_equations.toInt ∧ f3_equations.toInt ≤ 3) → (0 ≤ f2_stale.toInt ∧ f2_stale.toInt ≤ 1) → (0 ≤ f7_size.toInt ∧ f7_size.toInt ≤ 256) → (0 ≤ f1_size.toInt ∧ f1_size.toInt ≤ 4) → (1 ≤ f5_keptSize.toInt ∧ f5_keptSize.toInt ≤ 128) → (0 ≤ f5_aheadSize.toInt ∧ f5_aheadSize.toInt ≤ 128) → (0 ≤ f4_blockCount.toInt ∧ f4_blockCount.toInt ≤ 9261) → (0 ≤ f4_blockLength.toInt ∧ f4_blockLength.toInt ≤ 21) → (0 ≤ f4_lastIsFree.toInt ∧ f4_lastIsFree.toInt ≤ 1) → (0 ≤ f4_stale.toInt ∧ f4_stale.toInt ≤ 1) → 10000 - L4.toInt < (n40 : Int) → (0 : Int) < (n40 : Int) → IAX ai → RWX ad w0 → RWX ad w1 → RWX ad w2 → RWX ad w3 → va_P (dC, dI) vwCl (WX cI cJ cII cJJ ad f3_unknowns f3_equations f2_roundSupports f2_stale f7_size f1_size f5_keptSize f5_aheadSize f0_solved f4_blockCount f4_blockLength f4_lastIsFree f4_stale ai al w0 w1 w2 w3) H → va_D A (WX cI cJ cII cJJ ad f3_unknowns f3_equations f2_roundSupports f2_stale f7_size f1_size f5_keptSize f5_aheadSize f0_solved f4_blockCount f4_blockLength f4_lastIsFree f4_stale ai al w0 w1 w2 w3) → va_S A s.heap H locs → lv_has ls 7 [(0, .ref (ad 22)), (1, .ref (ad 19)), (2, .ref (ad 19)), (3, .int L3), (4, .int L4)] → W p l e ({ frames := 3, cells := 0, slots := 0, locals := 140 } : Room) s m args below meth c H locs 0 0 (MQ below (Q_m161_X5_walk dC dI cI cJ cII cJJ ad f3_unknowns f3_equations f2_roundSupports f2_stale f7_size f1_size f0_solved f4_blockCount f4_blockLength f4_lastIsFree f4_stale al w0 w1 w2 w3 A) args s 0 0 A) (F0 m 40 ls [])) : ∀ (L3 L4 L5 L6 f5_keptSize f5_aheadSize : Int32) (ai : Nat → Nat → Int32) (H : Heap) (locs : List Loc) (ls : Array Slot), (1 ≤ L3.toInt ∧ L3.toInt ≤ 1) → (0 ≤ L4.toInt ∧ L4.toInt ≤ 99999) → (0 ≤ L5.toInt ∧ L5.toInt ≤ 5999) → (0 ≤ L6.toInt ∧ L6.toInt ≤ 5999) → (1 ≤ f3_unknowns.toInt ∧ f3_unknowns.toInt ≤ 4) → (0 ≤ f3_equations.toInt ∧ f3_equations.toInt ≤ 3) → (0 ≤ f2_stale.toInt ∧ f2_stale.toInt ≤ 1) → (0 ≤ f7_size.toInt ∧ f7_size.toInt ≤ 256) → (0 ≤ f1_size.toInt ∧ f1_size.toInt ≤ 4) → (1 ≤ f5_keptSize.toInt ∧ f5_keptSize.toInt ≤ 128) → (0 ≤ f5_aheadSize.toInt ∧ f5_aheadSize.toInt ≤ 128) → (0 ≤ f4_blockCount.toInt ∧ f4_blockCount.toInt ≤ 9261) → (0 ≤ f4_blockLength.toInt ∧ f4_blockLength.toInt ≤ 21) → (0 ≤ f4_lastIsFree.toInt ∧ f4_lastIsFree.toInt ≤ 1) → (0 ≤ f4_stale.toInt ∧ f4_stale.toInt ≤ 1) → L4.toInt < 10000 → 10000 - L4.toInt ≤ (n40 : Int) → IAX ai → RWX ad w0 → RWX ad w1 → RWX ad w2 → RWX ad w3 → va_P (dC, dI) vwCl (WX cI cJ cII cJJ ad f3_unknowns f3_equations f2_roundSupports f2_stale f7_size f1_size f5_keptSize f5_aheadSize f0_solved f4_blockCount f4_blockLength f4_lastIsFree f4_stale ai al w0 w1 w2 w3) H → va_D A (WX cI cJ cII cJJ ad f3_unknowns f3_equations f2_roundSupports f2_stale f7_size f1_size f5_keptSize f5_aheadSize f0_solved f4_blockCount f4_blockLength f4_lastIsFree f4_stale ai al w0 w1 w2 w3) → va_S A s.heap H locs → lv_has ls 7 [(0, .ref (ad 22)), (1, .ref (ad 19)), (2, .ref (ad 19)), (3, .int L3), (4, .int L4), (5, .int L5), (6, .int L6)] → W p l e ({ frames := 3, cells := 0, slots := 0, locals := 140 } : Room) s m args below meth c H locs 0 0 (MQ below (Q_m161_X5_walk dC dI cI cJ cII cJJ ad f3_unknowns f3_equations f2_roundSupports f2_stale f7_size f1_size f0_solved f4_blockCount f4_blockLength f4_lastIsFree f4_stale al w0 w1 w2 w3 A) args s 0 0 A) (F0 m 101 ls []) := by
  obtain ⟨hx, hb, hr, hml, hown, hts, hk, hA, hK, hX⟩ := id C
  intro L3 L4 L5 L6 f5_keptSize f5_aheadSize ai H locs ls h0 h1 h2 h3 h4 h5 h6 h7 h8 h9 h10 h11 h12 h13 h14 h15 h16 hI hw_w0 hw_w1 hw_w2 hw_w3 hP hD hS hl
  obtain ⟨z1, e_z1⟩ : ∃ q : Int32, q = L4 + Int32.ofInt 1 := ⟨_, rfl⟩
  have g_z1 : z1.toInt = L4.toInt + 1 := by rw [e_z1]; exact n_add (a := L4.toInt) (b := 1) rfl (by decide +kernel) (by omega) (by omega)
  refine lv_iinc (v := z1) (lv' := [(4, .int z1), (0, .ref (ad 22)), (1, .ref (ad 19)), (2, .ref (ad 19)), (3, .int L3), (5, .int L5), (6, .int L6)]) hx hb dX5_walk_101 hl (k := 4) rfl e_z1.symm (by decide) rfl (fun ls hl => ?_)
  refine lv_goto (tgt := 40) hx hb dX5_walk_104 (by decide) ?_
  exact K40 L3 z1 f5_keptSize f5_aheadSize ai _ _ _ (by omega) (by omega) (by omega) (by omega) (by omega) (by omega) (by omega) (by omega) (by omega) (by omega) (by omega) (by omega) (by omega) (by omega) (by omega) hI hw_w0 hw_w1 hw_w2 hw_w3 hP hD hS (lv_sub hl [1, 2, 3, 4, 0] rfl)
set_option maxRecDepth 100000 in
set_option maxHeartbeats 4000000 in
theorem m161_X5_walk_b40 {p : Program} {l : Launch} {e : Env} {s : State} {m : MethodId} {args : Array Value} {below : List Frame} {meth : Method} {c : Code} {A : Nat → Prop} {dC : Nat → ClassId} {dI : Nat → Nat → Nat} {cI cJ cII cJJ : ClassId} {ad : Nat → Nat} {g : Nat} {f3_unknowns f3_equations f2_roundSupports f2_stale f7_size f1_size f0_solved f4_blockCount f4_blockLength f4_lastIsFree f4_stale : Int32} {al : Nat → Nat → Int64} {w0 w1 w2 w3 : Nat} (C : Cx p c s m meth args A dC dI (TY cI cJ cII cJJ) cX5_walk none 7 RX5 0 g) : ∀ (n : Nat), ∀ (L3 L4 f5_keptSize f5_aheadSize : Int32) (ai : Nat → Nat → Int32) (H : Heap) (locs : List Loc) (ls : Array Slot), (1 ≤ L3.toInt ∧ L3.toInt ≤ 1) → (0 ≤ L4.toInt ∧ L4.toInt ≤ 100000) → (1 ≤ f3_unknowns.toInt ∧ f3_unknowns.toInt ≤ 4) → (0 ≤ f3_equations.toInt ∧ f3_equations.toInt ≤ 3) → (0 ≤ f2_stale.toInt ∧ f2_stale.toInt ≤ 1) → (0 ≤ f7_size.toInt ∧ f7_size.toInt ≤ 256) → (0 ≤ f1_size.toInt ∧ f1_size.toInt ≤ 4) → (1 ≤ f5_keptSize.toInt ∧ f5_keptSize.toInt ≤ 128) → (0 ≤ f5_aheadSize.toInt ∧ f5_aheadSize.toInt ≤ 128) → (0 ≤ f4_blockCount.toInt ∧ f4_blockCount.toInt ≤ 9261) → (0 ≤ f4_blockLength.toInt ∧ f4_blockLength.toInt ≤ 21) → (0 ≤ f4_lastIsFree.toInt ∧ f4_lastIsFree.toInt ≤ 1) → (0 ≤ f4_stale.toInt ∧ f4_stale.toInt ≤ 1) → 10000 - L4.toInt < (n : Int) → (0 : Int) < (n : Int) → IAX ai → RWX ad w0 → RWX ad w1 → RWX ad w2 → RWX ad w3 → va_P (dC, dI) vwCl (WX cI cJ cII cJJ ad f3_unknowns f3_equations f2_roundSupports f2_stale f7_size f1_size f5_keptSize f5_aheadSize f0_solved f4_blockCount f4_blockLength f4_lastIsFree f4_stale ai al w0 w1 w2 w3) H → va_D A (WX cI cJ cII cJJ ad f3_unknowns f3_equations f2_roundSupports f2_stale f7_size f1_size f5_keptSize f5_aheadSize f0_solved f4_blockCount f4_blockLength f4_lastIsFree f4_stale ai al w0 w1 w2 w3) → va_S A s.heap H locs → lv_has ls 7 [(0, .ref (ad 22)), (1, .ref (ad 19)), (2, .ref (ad 19)), (3, .int L3), (4, .int L4)] → W p l e ({ frames := 3, cells := 0, slots := 0, locals := 140 } : Room) s m args below meth c H locs 0 0 (MQ below (Q_m161_X5_walk dC dI cI cJ cII cJJ ad f3_unknowns f3_equations f2_roundSupports f2_stale f7_size f1_size f0_solved f4_blockCount f4_blockLength f4_lastIsFree f4_stale al w0 w1 w2 w3 A) args s 0 0 A) (F0 m 40 ls []) := by
  obtain ⟨hx, hb, hr, hml, hown, hts, hk, hA, hK, hX⟩ := id C
  intro n
  induction n with
  | zero =>
    intro L3 L4 f5_keptSize f5_aheadSize ai H locs ls h0 h1 h2 h3 h4 h5 h6 h7 h8 h9 h10 h11 h12 h13 h14 hI hw_w0 hw_w1 hw_w2 hw_w3 hP hD hS hl
    exact absurd h14 (by omega)
  | succ n ih =>
    intro L3 L4 f5_keptSize f5_aheadSize ai H locs ls h0 h1 h2 h3 h4 h5 h6 h7 h8 h9 h10 h11 h12 h13 h14 hI hw_w0 hw_w1 hw_w2 hw_w3 hP hD hS hl
    refine lv_iload hx hb dX5_walk_40 (lv_at hl 4 rfl) ?_
    refine lv_sipush (v := 10000) hx hb dX5_walk_42 (by decide) ?_
    refine lv_icmp_ge (tgt := 107) hx hb dX5_walk_45 (by decide) (fun c1 => ?_) (fun c1 => ?_)
    · have c1 := j_le (a := 10000) (b := L4.toInt) (by decide +kernel) rfl c1
      exact m161_X5_walk_b107 C  L3 L4 f5_keptSize f5_aheadSize ai _ _ _ (by omega) (by omega) (by omega) (by omega) (by omega) (by omega) (by omega) (by omega) (by omega) (by omega) (by omega) (by omega) (by omega) hI hw_w0 hw_w1 hw_w2 hw_w3 hP hD hS (lv_sub hl [0, 1, 2, 3, 4] rfl)
    · have c1 := j_nle (a := 10000) (b := L4.toInt) (by decide +kernel) rfl c1
      refine lv_aload_n hx hb dX5_walk_48 rfl (lv_at hl 0 rfl) ?_
      refine gf (k := 3) hx hb hts inX5 hown hK hP k_140 rfl (by decide) rfl 22 rfl (.int f5_aheadSize) rfl dX5_walk_49 ?_
      refine lv_if_le (tgt := 107) hx hb dX5_walk_52 (by decide) (fun c2 => ?_) (fun c2 => ?_)
      · have c2 := j_le (a := f5_aheadSize.toInt) (b := 0) rfl (by decide +kernel) c2
        exact m161_X5_walk_b107 C  L3 L4 f5_keptSize f5_aheadSize ai _ _ _ (by omega) (by omega) (by omega) (by omega) (by omega) (by omega) (by omega) (by omega) (by omega) (by omega) (by omega) (by omega) (by omega) hI hw_w0 hw_w1 hw_w2 hw_w3 hP hD hS (lv_sub hl [0, 1, 2, 3, 4] rfl)
      · have c2 := j_nle (a := f5_aheadSize.toInt) (b := 0) rfl (by decide +kernel) c2
        refine lv_aload_n hx hb dX5_walk_55 rfl (lv_at hl 0 rfl) ?_
        refine gf (k := 2) hx hb hts inX5 hown hK hP k_139 rfl (by decide) rfl 22 rfl (.int f5_keptSize) rfl dX5_walk_56 ?_
        refine lv_iconst (v := 1) hx hb dX5_walk_59 (by decide) ?_
        refine v_isub hx hb dX5_walk_60 _ rfl ?_
        refine lv_topi (fun z3 e_z3 => ?_)
        have g_z3 : z3.toInt = f5_keptSize.toInt - 1 := by rw [e_z3]; exact n_sub (a := f5_keptSize.toInt) (b := 1) rfl (by decide +kernel) (by omega) (by omega)
        refine lv_iconst (v := 4) hx hb dX5_walk_61 (by decide) ?_
        refine v_imul hx hb dX5_walk_62 _ rfl ?_
        refine lv_topi (fun z4 e_z4 => ?_)
        have g_z4 : z4.toInt = z3.toInt * 4 := by rw [e_z4]; exact n_mul (a := z3.toInt) (b := 4) rfl (by decide +kernel) (by omega) (by omega)
        refine lv_istore (lv' := [(5, .int z4), (0, .ref (ad 22)), (1, .ref (ad 19)), (2, .ref (ad 19)), (3, .int L3), (4, .int L4)]) hx hb dX5_walk_63 hl (by decide) rfl (fun ls hl => ?_)
        refine lv_aload_n hx hb dX5_walk_65 rfl (lv_at hl 1 rfl) ?_
        refine gf (k := 3) hx hb hts inX5 hown hK hP k_140 rfl (by decide) rfl 22 rfl (.int f5_aheadSize) rfl dX5_walk_66 ?_
        refine lv_iconst (v := 1) hx hb dX5_walk_69 (by decide) ?_
        refine v_isub hx hb dX5_walk_70 _ rfl ?_
        refine lv_topi (fun z5 e_z5 => ?_)
        have g_z5 : z5.toInt = f5_aheadSize.toInt - 1 := by rw [e_z5]; exact n_sub (a := f5_aheadSize.toInt) (b := 1) rfl (by decide +kernel) (by omega) (by omega)
        refine lv_iconst (v := 4) hx hb dX5_walk_71 (by decide) ?_
        refine v_imul hx hb dX5_walk_72 _ rfl ?_
        refine lv_topi (fun z6 e_z6 => ?_)
        have g_z6 : z6.toInt = z5.toInt * 4 := by rw [e_z6]; exact n_mul (a := z5.toInt) (b := 4) rfl (by decide +kernel) (by omega) (by omega)
        refine lv_istore (lv' := [(6, .int z6), (5, .int z4), (0, .ref (ad 22)), (1, .ref (ad 19)), (2, .ref (ad 19)), (3, .int L3), (4, .int L4)]) hx hb dX5_walk_73 hl (by decide) rfl (fun ls hl => ?_)
        refine lv_aload_n hx hb dX5_walk_75 rfl (lv_at hl 2 rfl) ?_
        refine lv_iload hx hb dX5_walk_76 (lv_at hl 1 rfl) ?_
        refine lv_iload hx hb dX5_walk_78 (lv_at hl 0 rfl) ?_
        refine k2V_i (q0 := 22) ⟨hx, hb, hml, hown, hts⟩ hK hP hD hS hA hX cv_RX5_32 (m067_X5_haveOppositeSigns l dC dI cI cJ cII cJJ H.size 0 ad f3_unknowns f3_equations f2_roundSupports f2_stale f7_size f1_size f5_keptSize f5_aheadSize f0_solved f4_blockCount f4_blockLength f4_lastIsFree f4_stale ai al w0 w1 w2 w3 z4 z6 (by omega) (by omega) (by omega) (by omega) (by omega) (by omega) (by omega) (by omega) (by omega) (by omega) (by omega) (by omega) (by omega) hI hw_w0 hw_w1 hw_w2 hw_w3) ⟨by decide +kernel, by decide +kernel⟩ rfl rfl (Or.inl rfl) (rest := []) rfl rfl rfl hl.1 rfl (Nat.le_of_ble_eq_true rfl) dX5_walk_80 ⟨Nat.le_of_ble_eq_true rfl, Nat.le_of_ble_eq_true rfl⟩ (fun r7 t H1 locs ht hB hS hFc => ?_)
        obtain ⟨gpr7_0, hP, -, hD⟩ := hB
        rw [ht] at hP
        have hD := hD.weaken (B := A) (fun k q _ h9 => hFc q.1 h9)
        clear ht
        generalize H1 = H at hP hS ⊢
        refine lv_if_eq (tgt := 97) hx hb dX5_walk_83 (by decide) (fun c8 => ?_) (fun c8 => ?_)
        · have c8 := j_eq (a := r7.toInt) (b := 0) rfl (by decide +kernel) c8
          refine lv_aload_n hx hb dX5_walk_97 rfl (lv_at hl 2 rfl) ?_
          refine k2V_v (q0 := 22) ⟨hx, hb, hml, hown, hts⟩ hK hP hD hS hA hX cv_RX5_29 (m066_X5_keepNext l dC dI cI cJ cII cJJ H.size 0 ad f3_unknowns f3_equations f2_roundSupports f2_stale f7_size f1_size f5_keptSize f5_aheadSize f0_solved f4_blockCount f4_blockLength f4_lastIsFree f4_stale ai al w0 w1 w2 w3 (by omega) (by omega) (by omega) (by omega) (by omega) (by omega) (by omega) (by omega) (by omega) (by omega) (by omega) hI hw_w0 hw_w1 hw_w2 hw_w3) ⟨by decide +kernel, by decide +kernel⟩ rfl rfl (Or.inl rfl) (rest := []) rfl rfl rfl hl.1 rfl (Nat.le_of_ble_eq_true rfl) dX5_walk_98 ⟨Nat.le_of_ble_eq_true rfl, Nat.le_of_ble_eq_true rfl⟩ (fun t H1 locs ht hB hS hFc => ?_)
          obtain ⟨v10, v11, ai12, ⟨gpr9_0, gpr9_1, gpr9_2, hI⟩, hP, -, hD⟩ := hB
          rw [ht] at hP
          have hD := hD.weaken (B := A) (fun k q _ h9 => hFc q.1 h9)
          clear ht
          generalize H1 = H at hP hS ⊢
          exact m161_X5_walk_b101 C n ih L3 L4 z4 z6 v10 v11 ai12 _ _ _ (by omega) (by omega) (by omega) (by omega) (by omega) (by omega) (by omega) (by omega) (by omega) (by omega) (by omega) (by omega) (by omega) (by omega) (by omega) (by omega) (by omega) hI hw_w0 hw_w1 hw_w2 hw_w3 hP hD hS (lv_sub hl [2, 3, 4, 5, 6, 1, 0] rfl)
        · have c8 := j_ne (a := r7.toInt) (b := 0) rfl (by decide +kernel) c8
          refine lv_aload_n hx hb dX5_walk_86 rfl (lv_at hl 2 rfl) ?_
          refine lv_iload hx hb dX5_walk_87 (lv_at hl 1 rfl) ?_
          refine lv_iload hx hb dX5_walk_89 (lv_at hl 0 rfl) ?_
          refine k2V_v (q0 := 22) ⟨hx, hb, hml, hown, hts⟩ hK hP hD hS hA hX cv_RX5_36 (m065_X5_pushSum l dC dI cI cJ cII cJJ H.size 0 ad f3_unknowns f3_equations f2_roundSupports f2_stale f7_size f1_size f5_keptSize f5_aheadSize f0_solved f4_blockCount f4_blockLength f4_lastIsFree f4_stale ai al w0 w1 w2 w3 z4 z6 (by omega) (by omega) (by omega) (by omega) (by omega) (by omega) (by omega) (by omega) (by omega) (by omega) (by omega) (by omega) (by omega) hI hw_w0 hw_w1 hw_w2 hw_w3) ⟨by decide +kernel, by decide +kernel⟩ rfl rfl (Or.inl rfl) (rest := []) rfl rfl rfl hl.1 rfl (Nat.le_of_ble_eq_true rfl) dX5_walk_91 ⟨Nat.le_of_ble_eq_true rfl, Nat.le_of_ble_eq_true rfl⟩ (fun t H1 locs ht hB hS hFc => ?_)
          obtain ⟨v14, ai15, ⟨gpr13_0, gpr13_1, hI⟩, hP, -, hD⟩ := hB
          rw [ht] at hP
          have hD := hD.weaken (B := A) (fun k q _ h9 => hFc q.1 h9)
          clear ht
          generalize H1 = H at hP hS ⊢
          refine lv_goto (tgt := 101) hx hb dX5_walk_94 (by decide) ?_
          exact m161_X5_walk_b101 C n ih L3 L4 z4 z6 f5_keptSize v14 ai15 _ _ _ (by omega) (by omega) (by omega) (by omega) (by omega) (by omega) (by omega) (by omega) (by omega) (by omega) (by omega) (by omega) (by omega) (by omega) (by omega) (by omega) (by omega) hI hw_w0 hw_w1 hw_w2 hw_w3 hP hD hS (lv_sub hl [2, 3, 4, 5, 6, 1, 0] rfl)
set_option maxRecDepth 100000 in
set_option maxHeartbeats 4000000 in
theorem m161_X5_walk (l : Launch) (dC : Nat → ClassId) (dI : Nat → Nat → Nat) (cI cJ cII cJJ : ClassId) (sz g : Nat) (ad : Nat → Nat) (f3_unknowns f3_equations f2_roundSupports f2_stale f7_size f1_size f5_keptSize f5_aheadSize f0_solved f4_blockCount f4_blockLength f4_lastIsFree f4_stale : Int32) (ai : Nat → Nat → Int32) (al : Nat → Nat → Int64) (w0 w1 w2 w3 : Nat) (x3 : Int32) (h_x3 : (0 ≤ x3.toInt ∧ x3.toInt ≤ 1)) (h_f3_unknowns : (1 ≤ f3_unknowns.toInt ∧ f3_unknowns.toInt ≤ 4)) (h_f3_equations : (0 ≤ f3_equations.toInt ∧ f3_equations.toInt ≤ 3)) (h_f2_stale : (0 ≤ f2_stale.toInt ∧ f2_stale.toInt ≤ 1)) (h_f7_size : (0 ≤ f7_size.toInt ∧ f7_size.toInt ≤ 256)) (h_f1_size : (0 ≤ f1_size.toInt ∧ f1_size.toInt ≤ 4)) (h_f5_keptSize : (0 ≤ f5_keptSize.toInt ∧ f5_keptSize.toInt ≤ 128)) (h_f5_aheadSize : (0 ≤ f5_aheadSize.toInt ∧ f5_aheadSize.toInt ≤ 128)) (h_f4_blockCount : (0 ≤ f4_blockCount.toInt ∧ f4_blockCount.toInt ≤ 9261)) (h_f4_blockLength : (0 ≤ f4_blockLength.toInt ∧ f4_blockLength.toInt ≤ 21)) (h_f4_lastIsFree : (0 ≤ f4_lastIsFree.toInt ∧ f4_lastIsFree.toInt ≤ 1)) (h_f4_stale : (0 ≤ f4_stale.toInt ∧ f4_stale.toInt ≤ 1)) (hI : IAX ai) (hw_w0 : RWX ad w0) (hw_w1 : RWX ad w1) (hw_w2 : RWX ad w2) (hw_w3 : RWX ad w3) : Met l yX5_walk (.code yX5_walk cX5_walk 7 none :: TT) ({ frames := 3, cells := 0, slots := 0, locals := 140 } : Room) (PcS dC dI (TY cI cJ cII cJJ) [.ref (ad 22), .ref (ad 19), .ref (ad 19), .int x3] (WX cI cJ cII cJJ ad f3_unknowns f3_equations f2_roundSupports f2_stale f7_size f1_size f5_keptSize f5_aheadSize f0_solved f4_blockCount f4_blockLength f4_lastIsFree f4_stale ai al w0 w1 w2 w3) sz 0 g) (Q_m161_X5_walk dC dI cI cJ cII cJJ ad f3_unknowns f3_equations f2_roundSupports f2_stale f7_size f1_size f0_solved f4_blockCount f4_blockLength f4_lastIsFree f4_stale al w0 w1 w2 w3 (va_A (WX cI cJ cII cJJ ad f3_unknowns f3_equations f2_roundSupports f2_stale f7_size f1_size f5_keptSize f5_aheadSize f0_solved f4_blockCount f4_blockLength f4_lastIsFree f4_stale ai al w0 w1 w2 w3) sz)) 0 0 (va_A (WX cI cJ cII cJJ ad f3_unknowns f3_equations f2_roundSupports f2_stale f7_size f1_size f5_keptSize f5_aheadSize f0_solved f4_blockCount f4_blockLength f4_lastIsFree f4_stale ai al w0 w1 w2 w3) sz) := by
  refine SM.of (y := yX5_walk) (maxL := 7) (av := [.ref (ad 22), .ref (ad 19), .ref (ad 19), .int x3]) (Q_m161_X5_walk dC dI cI cJ cII cJJ ad f3_unknowns f3_equations f2_roundSupports f2_stale f7_size f1_size f0_solved f4_blockCount f4_blockLength f4_lastIsFree f4_stale al w0 w1 w2 w3) (by decide +kernel) (Nat.le_of_ble_eq_true rfl) (fun p e s m below meth c A ls hx hb hr hml hown hts hk hnm hA hK hP hD hS hX hl => ?_)
  have C : Cx p c s m meth (([.ref (ad 22), .ref (ad 19), .ref (ad 19), .int x3] : List Value).toArray) A dC dI (TY cI cJ cII cJJ) cX5_walk none 7 RX5 0 g := ⟨hx, hb, hr, hml, hown, hts, hk, hA, hK, hX⟩
  have hown : s.vm.findClass RX5 = some m.cls := hown
  have hl : lv_has ls 7 [(0, .ref (ad 22)), (1, .ref (ad 19)), (2, .ref (ad 19)), (3, .int x3)] := hl
  obtain ⟨H, hH⟩ : ∃ q, q = s.heap := ⟨_, rfl⟩
  rw [← hH] at hP
  have hS : va_S A s.heap H [] := by rw [hH]; exact hS
  rw [← hH]
  refine lv_aload_n hx hb dX5_walk_0 rfl (lv_at hl 0 rfl) ?_
  refine lv_iconst (v := 0) hx hb dX5_walk_1 (by decide) ?_
  refine pf (k := 2) hx hb hts inX5 tyX5_ok nmX5 hown hK hP hD hS k_139 rfl (by decide) rfl rfl 22 rfl rfl rfl (Nat.le_of_ble_eq_true rfl) dX5_walk_2 (W' := (WX cI cJ cII cJJ ad f3_unknowns f3_equations f2_roundSupports f2_stale f7_size f1_size 0 f5_aheadSize f0_solved f4_blockCount f4_blockLength f4_lastIsFree f4_stale ai al w0 w1 w2 w3)) rfl (fun H locs hP hD hS => ?_)
  refine lv_aload_n hx hb dX5_walk_5 rfl (lv_at hl 0 rfl) ?_
  refine lv_iconst (v := 0) hx hb dX5_walk_6 (by decide) ?_
  refine pf (k := 3) hx hb hts inX5 tyX5_ok nmX5 hown hK hP hD hS k_140 rfl (by decide) rfl rfl 22 rfl rfl rfl (Nat.le_of_ble_eq_true rfl) dX5_walk_7 (W' := (WX cI cJ cII cJJ ad f3_unknowns f3_equations f2_roundSupports f2_stale f7_size f1_size 0 0 f0_solved f4_blockCount f4_blockLength f4_lastIsFree f4_stale ai al w0 w1 w2 w3)) rfl (fun H locs hP hD hS => ?_)
  refine lv_aload_n hx hb dX5_walk_10 rfl (lv_at hl 0 rfl) ?_
  refine lv_aload_n hx hb dX5_walk_11 rfl (lv_at hl 1 rfl) ?_
  refine lv_iconst (v := 1) hx hb dX5_walk_12 (by decide) ?_
  refine k2V_v (q0 := 22) ⟨hx, hb, hml, hown, hts⟩ hK hP hD hS hA hX cv_RX5_25 (m149_X5_pushAhead l dC dI cI cJ cII cJJ H.size 0 ad f3_unknowns f3_equations f2_roundSupports f2_stale f7_size f1_size 0 0 f0_solved f4_blockCount f4_blockLength f4_lastIsFree f4_stale ai al w0 w1 w2 w3 1 (by omega) (by omega) (by omega) (by omega) (by omega) (by decide +kernel) (by decide +kernel) (by omega) (by omega) (by omega) (by omega) hI hw_w0 hw_w1 hw_w2 hw_w3) ⟨by decide +kernel, by decide +kernel⟩ rfl rfl (Or.inl rfl) (rest := []) rfl rfl rfl hl.1 rfl (Nat.le_of_ble_eq_true rfl) dX5_walk_13 ⟨Nat.le_of_ble_eq_true rfl, Nat.le_of_ble_eq_true rfl⟩ (fun t H1 locs ht hB hS hFc => ?_)
  obtain ⟨v2, ai3, ⟨gpr1_0, gpr1_1, hI⟩, hP, -, hD⟩ := hB
  rw [ht] at hP
  have hD := hD.weaken (B := A) (fun k q _ h9 => hFc q.1 h9)
  clear ht
  generalize H1 = H at hP hS ⊢
  refine lv_aload_n hx hb dX5_walk_16 rfl (lv_at hl 0 rfl) ?_
  refine k2V_v (q0 := 22) ⟨hx, hb, hml, hown, hts⟩ hK hP hD hS hA hX cv_RX5_29 (m066_X5_keepNext l dC dI cI cJ cII cJJ H.size 0 ad f3_unknowns f3_equations f2_roundSupports f2_stale f7_size f1_size 0 v2 f0_solved f4_blockCount f4_blockLength f4_lastIsFree f4_stale ai3 al w0 w1 w2 w3 (by omega) (by omega) (by omega) (by omega) (by omega) (by decide +kernel) (by omega) (by omega) (by omega) (by omega) (by omega) hI hw_w0 hw_w1 hw_w2 hw_w3) ⟨by decide +kernel, by decide +kernel⟩ rfl rfl (Or.inl rfl) (rest := []) rfl rfl rfl hl.1 rfl (Nat.le_of_ble_eq_true rfl) dX5_walk_17 ⟨Nat.le_of_ble_eq_true rfl, Nat.le_of_ble_eq_true rfl⟩ (fun t H1 locs ht hB hS hFc => ?_)
  obtain ⟨v5, v6, ai7, ⟨gpr4_0, gpr4_1, gpr4_2, hI⟩, hP, -, hD⟩ := hB
  rw [ht] at hP
  have hD := hD.weaken (B := A) (fun k q _ h9 => hFc q.1 h9)
  clear ht
  generalize H1 = H at hP hS ⊢
  refine lv_iload_n hx hb dX5_walk_20 rfl (lv_at hl 3 rfl) ?_
  refine lv_if_ne (tgt := 25) hx hb dX5_walk_21 (by decide) (fun c8 => ?_) (fun c8 => ?_)
  · have c8 := j_ne (a := x3.toInt) (b := 0) rfl (by decide +kernel) c8
    refine lv_aload_n hx hb dX5_walk_25 rfl (lv_at hl 0 rfl) ?_
    refine lv_aload_n hx hb dX5_walk_26 rfl (lv_at hl 1 rfl) ?_
    refine lv_iconst (v := (-1)) hx hb dX5_walk_27 (by decide) ?_
    refine k2V_v (q0 := 22) ⟨hx, hb, hml, hown, hts⟩ hK hP hD hS hA hX cv_RX5_25 (m149_X5_pushAhead l dC dI cI cJ cII cJJ H.size 0 ad f3_unknowns f3_equations f2_roundSupports f2_stale f7_size f1_size v5 v6 f0_solved f4_blockCount f4_blockLength f4_lastIsFree f4_stale ai7 al w0 w1 w2 w3 (-1) (by omega) (by omega) (by omega) (by omega) (by omega) (by omega) (by omega) (by omega) (by omega) (by omega) (by omega) hI hw_w0 hw_w1 hw_w2 hw_w3) ⟨by decide +kernel, by decide +kernel⟩ rfl rfl (Or.inl rfl) (rest := []) rfl rfl rfl hl.1 rfl (Nat.le_of_ble_eq_true rfl) dX5_walk_28 ⟨Nat.le_of_ble_eq_true rfl, Nat.le_of_ble_eq_true rfl⟩ (fun t H1 locs ht hB hS hFc => ?_)
    obtain ⟨v10, ai11, ⟨gpr9_0, gpr9_1, hI⟩, hP, -, hD⟩ := hB
    rw [ht] at hP
    have hD := hD.weaken (B := A) (fun k q _ h9 => hFc q.1 h9)
    clear ht
    generalize H1 = H at hP hS ⊢
    refine lv_aload_n hx hb dX5_walk_31 rfl (lv_at hl 0 rfl) ?_
    refine lv_aload_n hx hb dX5_walk_32 rfl (lv_at hl 2 rfl) ?_
    refine lv_iconst (v := 1) hx hb dX5_walk_33 (by decide) ?_
    refine k2V_v (q0 := 22) ⟨hx, hb, hml, hown, hts⟩ hK hP hD hS hA hX cv_RX5_25 (m149_X5_pushAhead l dC dI cI cJ cII cJJ H.size 0 ad f3_unknowns f3_equations f2_roundSupports f2_stale f7_size f1_size v5 v10 f0_solved f4_blockCount f4_blockLength f4_lastIsFree f4_stale ai11 al w0 w1 w2 w3 1 (by omega) (by omega) (by omega) (by omega) (by omega) (by omega) (by omega) (by omega) (by omega) (by omega) (by omega) hI hw_w0 hw_w1 hw_w2 hw_w3) ⟨by decide +kernel, by decide +kernel⟩ rfl rfl (Or.inl rfl) (rest := []) rfl rfl rfl hl.1 rfl (Nat.le_of_ble_eq_true rfl) dX5_walk_34 ⟨Nat.le_of_ble_eq_true rfl, Nat.le_of_ble_eq_true rfl⟩ (fun t H1 locs ht hB hS hFc => ?_)
    obtain ⟨v13, ai14, ⟨gpr12_0, gpr12_1, hI⟩, hP, -, hD⟩ := hB
    rw [ht] at hP
    have hD := hD.weaken (B := A) (fun k q _ h9 => hFc q.1 h9)
    clear ht
    generalize H1 = H at hP hS ⊢
    refine lv_iconst (v := 0) hx hb dX5_walk_37 (by decide) ?_
    refine lv_istore (lv' := [(4, .int 0), (0, .ref (ad 22)), (1, .ref (ad 19)), (2, .ref (ad 19)), (3, .int x3)]) hx hb dX5_walk_38 hl (by decide) rfl (fun ls hl => ?_)
    exact m161_X5_walk_b40 C  _ x3 0 v5 v13 ai14 _ _ _ (by first | omega | decide | (simp only [show (0 : Int32).toInt = 0 from by decide +kernel]; omega)) (by first | omega | decide | (simp only [show (0 : Int32).toInt = 0 from by decide +kernel]; omega)) (by first | omega | decide | (simp only [show (0 : Int32).toInt = 0 from by decide +kernel]; omega)) (by first | omega | decide | (simp only [show (0 : Int32).toInt = 0 from by decide +kernel]; omega)) (by first | omega | decide | (simp only [show (0 : Int32).toInt = 0 from by decide +kernel]; omega)) (by first | omega | decide | (simp only [show (0 : Int32).toInt = 0 from by decide +kernel]; omega)) (by first | omega | decide | (simp only [show (0 : Int32).toInt = 0 from by decide +kernel]; omega)) (by first | omega | decide | (simp only [show (0 : Int32).toInt = 0 from by decide +kernel]; omega)) (by first | omega | decide | (simp only [show (0 : Int32).toInt = 0 from by decide +kernel]; omega)) (by first | omega | decide | (simp only [show (0 : Int32).toInt = 0 from by decide +kernel]; omega)) (by first | omega | decide | (simp only [show (0 : Int32).toInt = 0 from by decide +kernel]; omega)) (by first | omega | decide | (simp only [show (0 : Int32).toInt = 0 from by decide +kernel]; omega)) (by first | omega | decide | (simp only [show (0 : Int32).toInt = 0 from by decide +kernel]; omega)) (j_fuel _) (by omega) hI hw_w0 hw_w1 hw_w2 hw_w3 hP hD hS (lv_sub hl [1, 2, 3, 4, 0] rfl)
  · have c8 := j_eq (a := x3.toInt) (b := 0) rfl (by decide +kernel) c8
    exact r2_v hx hb hr hk hS dX5_walk_24 (fun t ht hW => ⟨v5, v6, ai7, ⟨(by first | omega | decide | exact Or.inl (by decide) | exact Or.inr (by omega)), (by first | omega | decide | exact Or.inl (by decide) | exact Or.inr (by omega)), hI⟩, by rw [ht]; exact hP, va_K.moved hW.alike hK, hD⟩)
def Q_m162_X2_refresh (dC : Nat → ClassId) (dI : Nat → Nat → Nat) (cI cJ cII cJJ : ClassId) (ad : Nat → Nat) (f3_unknowns f3_equations f4_blockCount f4_blockLength f4_lastIsFree f4_stale : Int32) : (Nat → Prop) → Array Value → State → Outcome → State → Prop := fun A => QV (fun t => ∃ (n_f2_roundSupports n_f2_stale n_f7_size n_f1_size n_f5_keptSize n_f5_aheadSize n_f0_solved : Int32), ∃ (n_ai : Nat → Nat → Int32), ∃ (n_al : Nat → Nat → Int64), ∃ (n_w0 n_w1 n_w2 n_w3 : Nat), ((0 ≤ n_f2_stale.toInt ∧ n_f2_stale.toInt ≤ 0) ∧ (0 ≤ n_f7_size.toInt ∧ n_f7_size.toInt ≤ 256) ∧ (0 ≤ n_f1_size.toInt ∧ n_f1_size.toInt ≤ 4) ∧ (0 ≤ n_f5_keptSize.toInt ∧ n_f5_keptSize.toInt ≤ 128) ∧ (0 ≤ n_f5_aheadSize.toInt ∧ n_f5_aheadSize.toInt ≤ 128) ∧ IAX n_ai ∧ RWX ad n_w0 ∧ RWX ad n_w1 ∧ RWX ad n_w2 ∧ RWX ad n_w3) ∧ WO dC dI (TY cI cJ cII cJJ) (WX cI cJ cII cJJ ad f3_unknowns f3_equations n_f2_roundSupports n_f2_stale n_f7_size n_f1_size n_f5_keptSize n_f5_aheadSize n_f0_solved f4_blockCount f4_blockLength f4_lastIsFree f4_stale n_ai n_al n_w0 n_w1 n_w2 n_w3) A t) A
set_option maxRecDepth 100000 in
set_option maxHeartbeats 4000000 in
theorem m162_X2_refresh_b134 {p : Program} {l : Launch} {e : Env} {s : State} {m : MethodId} {args : Array Value} {below : List Frame} {meth : Method} {c : Code} {A : Nat → Prop} {dC : Nat → ClassId} {dI : Nat → Nat → Nat} {cI cJ cII cJJ : ClassId} {ad : Nat → Nat} {g : Nat} {f3_unknowns f3_equations f4_blockCount f4_blockLength f4_lastIsFree f4_stale : Int32} (C : Cx p c s m meth args A dC dI (TY cI cJ cII cJJ) cX2_refresh none 2 RX2 1 g) : ∀ (f2_roundSupports f2_stale f7_size f1_size f5_keptSize f5_aheadSize f0_solved : Int32) (ai : Nat → Nat → Int32) (al : Nat → Nat → Int64) (w0 w1 w2 w3 : Nat) (H : Heap) (locs : List Loc) (ls : Array Slot), (1 ≤ f3_unknowns.toInt ∧ f3_unknowns.toInt ≤ 4) → (0 ≤ f3_equations.toInt ∧ f3_equations.toInt ≤ 3) → (0 ≤ f2_stale.toInt ∧ f2_stale.toInt ≤ 0) → (0 ≤ f7_size.toInt ∧ f7_size.toInt ≤ 256) → (0 ≤ f1_size.toInt ∧ f1_size.toInt ≤ 4) → (0 ≤ f5_keptSize.toInt ∧ f5_keptSize.toInt ≤ 128) → (0 ≤ f5_aheadSize.toInt ∧ f5_aheadSize.toInt ≤ 128) → (0 ≤ f4_blockCount.toInt ∧ f4_blockCount.toInt ≤ 9261) → (0 ≤ f4_blockLength.toInt ∧ f4_blockLength.toInt ≤ 21) → (0 ≤ f4_lastIsFree.toInt ∧ f4_lastIsFree.toInt ≤ 1) → (0 ≤ f4_stale.toInt ∧ f4_stale.toInt ≤ 1) → IAX ai → RWX ad w0 → RWX ad w1 → RWX ad w2 → RWX ad w3 → va_P (dC, dI) vwCl (WX cI cJ cII cJJ ad f3_unknowns f3_equations f2_roundSupports f2_stale f7_size f1_size f5_keptSize f5_aheadSize f0_solved f4_blockCount f4_blockLength f4_lastIsFree f4_stale ai al w0 w1 w2 w3) H → va_D A (WX cI cJ cII cJJ ad f3_unknowns f3_equations f2_roundSupports f2_stale f7_size f1_size f5_keptSize f5_aheadSize f0_solved f4_blockCount f4_blockLength f4_lastIsFree f4_stale ai al w0 w1 w2 w3) → va_S A s.heap H locs → lv_has ls 2 [(0, .ref (ad 11))] → W p l e ({ frames := 13, cells := 0, slots := 0, locals := 740 } : Room) s m args below meth c H locs 0 0 (MQ below (Q_m162_X2_refresh dC dI cI cJ cII cJJ ad f3_unknowns f3_equations f4_blockCount f4_blockLength f4_lastIsFree f4_stale A) args s 0 0 A) (F0 m 134 ls []) := by
  obtain ⟨hx, hb, hr, hml, hown, hts, hk, hA, hK, hX⟩ := id C
  intro f2_roundSupports f2_stale f7_size f1_size f5_keptSize f5_aheadSize f0_solved ai al w0 w1 w2 w3 H locs ls h0 h1 h2 h3 h4 h5 h6 h7 h8 h9 h10 hI hw_w0 hw_w1 hw_w2 hw_w3 hP hD hS hl
  refine lv_aload_n hx hb dX2_refresh_134 rfl (lv_at hl 0 rfl) ?_
  refine k2V_v (q0 := 11) ⟨hx, hb, hml, hown, hts⟩ hK hP hD hS hA hX cv_RX2_81 (m046_X2_findRoundSupports l dC dI cI cJ cII cJJ H.size 0 ad f3_unknowns f3_equations f2_roundSupports f2_stale f7_size f1_size f5_keptSize f5_aheadSize f0_solved f4_blockCount f4_blockLength f4_lastIsFree f4_stale ai al w0 w1 w2 w3 (by omega) (by omega) (by omega) (by omega) (by omega) (by omega) (by omega) (by omega) (by omega) (by omega) (by omega) hI hw_w0 hw_w1 hw_w2 hw_w3) ⟨by decide +kernel, by decide +kernel⟩ rfl rfl (Or.inl rfl) (rest := []) rfl rfl rfl hl.1 rfl (Nat.le_of_ble_eq_true rfl) dX2_refresh_135 ⟨Nat.le_of_ble_eq_true rfl, Nat.le_of_ble_eq_true rfl⟩ (fun t H1 locs ht hB hS hFc => ?_)
  obtain ⟨v2, -, hP, -, hD⟩ := hB
  rw [ht] at hP
  have hD := hD.weaken (B := A) (fun k q _ h9 => hFc q.1 h9)
  clear ht
  generalize H1 = H at hP hS ⊢
  exact r2_v hx hb hr hk hS dX2_refresh_138 (fun t ht hW => ⟨v2, f2_stale, f7_size, f1_size, f5_keptSize, f5_aheadSize, f0_solved, ai, al, w0, w1, w2, w3, ⟨(by first | omega | decide | exact Or.inl (by decide) | exact Or.inr (by omega)), (by first | omega | decide | exact Or.inl (by decide) | exact Or.inr (by omega)), (by first | omega | decide | exact Or.inl (by decide) | exact Or.inr (by omega)), (by first | omega | decide | exact Or.inl (by decide) | exact Or.inr (by omega)), (by first | omega | decide | exact Or.inl (by decide) | exact Or.inr (by omega)), hI, hw_w0, hw_w1, hw_w2, hw_w3⟩, by rw [ht]; exact hP, va_K.moved hW.alike hK, hD⟩)
set_option maxRecDepth 100000 in
set_option maxHeartbeats 4000000 in
theorem m162_X2_refresh_b90 {p : Program} {l : Launch} {e : Env} {s : State} {m : MethodId} {args : Array Value} {below : List Frame} {meth : Method} {c : Code} {A : Nat → Prop} {dC : Nat → ClassId} {dI : Nat → Nat → Nat} {cI cJ cII cJJ : ClassId} {ad : Nat → Nat} {g : Nat} {f3_unknowns f3_equations f4_blockCount f4_blockLength f4_lastIsFree f4_stale : Int32} (C : Cx p c s m meth args A dC dI (TY cI cJ cII cJJ) cX2_refresh none 2 RX2 1 g) : ∀ (L1 f2_roundSupports f2_stale f7_size f1_size f5_keptSize f5_aheadSize f0_solved : Int32) (ai : Nat → Nat → Int32) (al : Nat → Nat → Int64) (w0 w1 w2 w3 : Nat) (H : Heap) (locs : List Loc) (ls : Array Slot), (0 ≤ L1.toInt ∧ L1.toInt ≤ 1) → (1 ≤ f3_unknowns.toInt ∧ f3_unknowns.toInt ≤ 4) → (0 ≤ f3_equations.toInt ∧ f3_equations.toInt ≤ 3) → (0 ≤ f2_stale.toInt ∧ f2_stale.toInt ≤ 0) → (0 ≤ f7_size.toInt ∧ f7_size.toInt ≤ 0) → (0 ≤ f1_size.toInt ∧ f1_size.toInt ≤ 4) → (0 ≤ f5_keptSize.toInt ∧ f5_keptSize.toInt ≤ 128) → (0 ≤ f5_aheadSize.toInt ∧ f5_aheadSize.toInt ≤ 128) → (0 ≤ f4_blockCount.toInt ∧ f4_blockCount.toInt ≤ 9261) → (0 ≤ f4_blockLength.toInt ∧ f4_blockLength.toInt ≤ 21) → (0 ≤ f4_lastIsFree.toInt ∧ f4_lastIsFree.toInt ≤ 1) → (0 ≤ f4_stale.toInt ∧ f4_stale.toInt ≤ 1) → IAX ai → RWX ad w0 → RWX ad w1 → RWX ad w2 → RWX ad w3 → va_P (dC, dI) vwCl (WX cI cJ cII cJJ ad f3_unknowns f3_equations f2_roundSupports f2_stale f7_size f1_size f5_keptSize f5_aheadSize f0_solved f4_blockCount f4_blockLength f4_lastIsFree f4_stale ai al w0 w1 w2 w3) H → va_D A (WX cI cJ cII cJJ ad f3_unknowns f3_equations f2_roundSupports f2_stale f7_size f1_size f5_keptSize f5_aheadSize f0_solved f4_blockCount f4_blockLength f4_lastIsFree f4_stale ai al w0 w1 w2 w3) → va_S A s.heap H locs → lv_has ls 2 [(0, .ref (ad 11)), (1, .int L1)] → W p l e ({ frames := 13, cells := 0, slots := 0, locals := 740 } : Room) s m args below meth c H locs 0 0 (MQ below (Q_m162_X2_refresh dC dI cI cJ cII cJJ ad f3_unknowns f3_equations f4_blockCount f4_blockLength f4_lastIsFree f4_stale A) args s 0 0 A) (F0 m 90 ls []) := by
  obtain ⟨hx, hb, hr, hml, hown, hts, hk, hA, hK, hX⟩ := id C
  intro L1 f2_roundSupports f2_stale f7_size f1_size f5_keptSize f5_aheadSize f0_solved ai al w0 w1 w2 w3 H locs ls h0 h1 h2 h3 h4 h5 h6 h7 h8 h9 h10 h11 hI hw_w0 hw_w1 hw_w2 hw_w3 hP hD hS hl
  refine lv_aload_n hx hb dX2_refresh_90 rfl (lv_at hl 0 rfl) ?_
  refine gf (k := 3) hx hb hts inX2 hown hK hP k_178 rfl (by decide) rfl 11 rfl (.ref (ad 22)) rfl dX2_refresh_91 ?_
  refine lv_aload_n hx hb dX2_refresh_94 rfl (lv_at hl 0 rfl) ?_
  refine gf (k := 2) hx hb hts inX2 hown hK hP k_177 rfl (by decide) rfl 11 rfl (.ref (ad 14)) rfl dX2_refresh_95 ?_
  refine gf (k := 0) hx hb hts inX1 hown hK hP k_117 rfl (by decide) rfl 14 rfl (.ref (ad 15)) rfl dX2_refresh_98 ?_
  refine lv_iconst (v := 0) hx hb dX2_refresh_101 (by decide) ?_
  refine ld_a hx hb hK hP 15 3 rfl rfl (vin (by decide +kernel)) dX2_refresh_102 w0 rfl ?_
  refine lv_aload_n hx hb dX2_refresh_103 rfl (lv_at hl 0 rfl) ?_
  refine gf (k := 2) hx hb hts inX2 hown hK hP k_177 rfl (by decide) rfl 11 rfl (.ref (ad 14)) rfl dX2_refresh_104 ?_
  refine gf (k := 0) hx hb hts inX1 hown hK hP k_117 rfl (by decide) rfl 14 rfl (.ref (ad 15)) rfl dX2_refresh_107 ?_
  refine lv_iconst (v := 1) hx hb dX2_refresh_110 (by decide) ?_
  refine ld_a hx hb hK hP 15 3 rfl rfl (vin (by decide +kernel)) dX2_refresh_111 w1 rfl ?_
  refine lv_iload_n hx hb dX2_refresh_112 rfl (lv_at hl 1 rfl) ?_
  rcases hw_w1 with rfl | rfl | rfl | rfl
  · skip
    rcases hw_w0 with rfl | rfl | rfl | rfl
    · skip
      refine k2V_v (q0 := 22) ⟨hx, hb, hml, hown, hts⟩ hK hP hD hS hA hX cv_RX2_70 (m145_X5_walk l dC dI cI cJ cII cJJ H.size 0 ad f3_unknowns f3_equations f2_roundSupports f2_stale f7_size f1_size f5_keptSize f5_aheadSize f0_solved f4_blockCount f4_blockLength f4_lastIsFree f4_stale ai al (ad 16) (ad 16) w2 w3 L1 (by omega) (by omega) (by omega) (by omega) (by omega) (by omega) (by omega) (by omega) (by omega) (by omega) (by omega) (by omega) hI (RWX_16 ad) (RWX_16 ad) hw_w2 hw_w3) ⟨by decide +kernel, by decide +kernel⟩ rfl rfl (Or.inl rfl) (rest := []) rfl rfl rfl hl.1 rfl (Nat.le_of_ble_eq_true rfl) dX2_refresh_113 ⟨Nat.le_of_ble_eq_true rfl, Nat.le_of_ble_eq_true rfl⟩ (fun t H1 locs ht hB hS hFc => ?_)
      obtain ⟨v2, v3, ai4, ⟨gpr1_0, gpr1_1, hI⟩, hP, -, hD⟩ := hB
      rw [ht] at hP
      have hD := hD.weaken (B := A) (fun k q _ h9 => hFc q.1 h9)
      clear ht
      generalize H1 = H at hP hS ⊢
      refine lv_aload_n hx hb dX2_refresh_116 rfl (lv_at hl 0 rfl) ?_
      refine gf (k := 3) hx hb hts inX2 hown hK hP k_178 rfl (by decide) rfl 11 rfl (.ref (ad 22)) rfl dX2_refresh_117 ?_
      refine lv_aload_n hx hb dX2_refresh_120 rfl (lv_at hl 0 rfl) ?_
      refine gf (k := 1) hx hb hts inX2 hown hK hP k_176 rfl (by decide) rfl 11 rfl (.ref (ad 12)) rfl dX2_refresh_121 ?_
      refine k2V_v (q0 := 22) ⟨hx, hb, hml, hown, hts⟩ hK hP hD hS hA hX cv_RX2_74 (m070_X5_giveTo l dC dI cI cJ cII cJJ H.size 0 ad f3_unknowns f3_equations f2_roundSupports f2_stale f7_size f1_size v2 v3 f0_solved f4_blockCount f4_blockLength f4_lastIsFree f4_stale ai4 al (ad 16) (ad 16) w2 w3 (by omega) (by omega) (by omega) (by omega) (by omega) (by omega) (by omega) (by omega) (by omega) (by omega) (by omega) hI (RWX_16 ad) (RWX_16 ad) hw_w2 hw_w3) ⟨by decide +kernel, by decide +kernel⟩ rfl rfl (Or.inl rfl) (rest := []) rfl rfl rfl hl.1 rfl (Nat.le_of_ble_eq_true rfl) dX2_refresh_124 ⟨Nat.le_of_ble_eq_true rfl, Nat.le_of_ble_eq_true rfl⟩ (fun t H1 locs ht hB hS hFc => ?_)
      obtain ⟨v6, al7, gpr5_0, hP, -, hD⟩ := hB
      rw [ht] at hP
      have hD := hD.weaken (B := A) (fun k q _ h9 => hFc q.1 h9)
      clear ht
      generalize H1 = H at hP hS ⊢
      refine lv_aload_n hx hb dX2_refresh_127 rfl (lv_at hl 0 rfl) ?_
      refine gf (k := 1) hx hb hts inX2 hown hK hP k_176 rfl (by decide) rfl 11 rfl (.ref (ad 12)) rfl dX2_refresh_128 ?_
      refine k2V_v (q0 := 12) ⟨hx, hb, hml, hown, hts⟩ hK hP hD hS hA hX cv_RX2_78 (m063_X7_sort l dC dI cI cJ cII cJJ H.size g ad f3_unknowns f3_equations f2_roundSupports f2_stale v6 f1_size v2 v3 f0_solved f4_blockCount f4_blockLength f4_lastIsFree f4_stale ai4 al7 (ad 16) (ad 16) w2 w3 (by omega) (by omega) (by omega) (by omega) (by omega) (by omega) (by omega) (by omega) (by omega) (by omega) (by omega) hI (RWX_16 ad) (RWX_16 ad) hw_w2 hw_w3) ⟨by decide +kernel, by decide +kernel⟩ rfl rfl (Or.inr ⟨rfl, rfl, rfl⟩) (rest := []) rfl rfl rfl hl.1 rfl (Nat.le_of_ble_eq_true rfl) dX2_refresh_131 ⟨Nat.le_of_ble_eq_true rfl, Nat.le_of_ble_eq_true rfl⟩ (fun t H1 locs ht hB hS hFc => ?_)
      obtain ⟨al9, -, hP, -, hD⟩ := hB
      rw [ht] at hP
      have hD := hD.weaken (B := A) (fun k q _ h9 => hFc q.1 h9)
      clear ht
      generalize H1 = H at hP hS ⊢
      exact m162_X2_refresh_b134 C  f2_roundSupports f2_stale v6 f1_size v2 v3 f0_solved ai4 al9 (ad 16) (ad 16) w2 w3 _ _ _ (by omega) (by omega) (by omega) (by omega) (by omega) (by omega) (by omega) (by omega) (by omega) (by omega) (by omega) hI (RWX_16 ad) (RWX_16 ad) hw_w2 hw_w3 hP hD hS (lv_sub hl [0] rfl)
    · skip
      refine k2V_v (q0 := 22) ⟨hx, hb, hml, hown, hts⟩ hK hP hD hS hA hX cv_RX2_70 (m146_X5_walk l dC dI cI cJ cII cJJ H.size 0 ad f3_unknowns f3_equations f2_roundSupports f2_stale f7_size f1_size f5_keptSize f5_aheadSize f0_solved f4_blockCount f4_blockLength f4_lastIsFree f4_stale ai al (ad 17) (ad 16) w2 w3 L1 (by omega) (by omega) (by omega) (by omega) (by omega) (by omega) (by omega) (by omega) (by omega) (by omega) (by omega) (by omega) hI (RWX_17 ad) (RWX_16 ad) hw_w2 hw_w3) ⟨by decide +kernel, by decide +kernel⟩ rfl rfl (Or.inl rfl) (rest := []) rfl rfl rfl hl.1 rfl (Nat.le_of_ble_eq_true rfl) dX2_refresh_113 ⟨Nat.le_of_ble_eq_true rfl, Nat.le_of_ble_eq_true rfl⟩ (fun t H1 locs ht hB hS hFc => ?_)
      obtain ⟨v11, v12, ai13, ⟨gpr10_0, gpr10_1, hI⟩, hP, -, hD⟩ := hB
      rw [ht] at hP
      have hD := hD.weaken (B := A) (fun k q _ h9 => hFc q.1 h9)
      clear ht
      generalize H1 = H at hP hS ⊢
      refine lv_aload_n hx hb dX2_refresh_116 rfl (lv_at hl 0 rfl) ?_
      refine gf (k := 3) hx hb hts inX2 hown hK hP k_178 rfl (by decide) rfl 11 rfl (.ref (ad 22)) rfl dX2_refresh_117 ?_
      refine lv_aload_n hx hb dX2_refresh_120 rfl (lv_at hl 0 rfl) ?_
      refine gf (k := 1) hx hb hts inX2 hown hK hP k_176 rfl (by decide) rfl 11 rfl (.ref (ad 12)) rfl dX2_refresh_121 ?_
      refine k2V_v (q0 := 22) ⟨hx, hb, hml, hown, hts⟩ hK hP hD hS hA hX cv_RX2_74 (m070_X5_giveTo l dC dI cI cJ cII cJJ H.size 0 ad f3_unknowns f3_equations f2_roundSupports f2_stale f7_size f1_size v11 v12 f0_solved f4_blockCount f4_blockLength f4_lastIsFree f4_stale ai13 al (ad 17) (ad 16) w2 w3 (by omega) (by omega) (by omega) (by omega) (by omega) (by omega) (by omega) (by omega) (by omega) (by omega) (by omega) hI (RWX_17 ad) (RWX_16 ad) hw_w2 hw_w3) ⟨by decide +kernel, by decide +kernel⟩ rfl rfl (Or.inl rfl) (rest := []) rfl rfl rfl hl.1 rfl (Nat.le_of_ble_eq_true rfl) dX2_refresh_124 ⟨Nat.le_of_ble_eq_true rfl, Nat.le_of_ble_eq_true rfl⟩ (fun t H1 locs ht hB hS hFc => ?_)
      obtain ⟨v15, al16, gpr14_0, hP, -, hD⟩ := hB
      rw [ht] at hP
      have hD := hD.weaken (B := A) (fun k q _ h9 => hFc q.1 h9)
      clear ht
      generalize H1 = H at hP hS ⊢
      refine lv_aload_n hx hb dX2_refresh_127 rfl (lv_at hl 0 rfl) ?_
      refine gf (k := 1) hx hb hts inX2 hown hK hP k_176 rfl (by decide) rfl 11 rfl (.ref (ad 12)) rfl dX2_refresh_128 ?_
      refine k2V_v (q0 := 12) ⟨hx, hb, hml, hown, hts⟩ hK hP hD hS hA hX cv_RX2_78 (m063_X7_sort l dC dI cI cJ cII cJJ H.size g ad f3_unknowns f3_equations f2_roundSupports f2_stale v15 f1_size v11 v12 f0_solved f4_blockCount f4_blockLength f4_lastIsFree f4_stale ai13 al16 (ad 17) (ad 16) w2 w3 (by omega) (by omega) (by omega) (by omega) (by omega) (by omega) (by omega) (by omega) (by omega) (by omega) (by omega) hI (RWX_17 ad) (RWX_16 ad) hw_w2 hw_w3) ⟨by decide +kernel, by decide +kernel⟩ rfl rfl (Or.inr ⟨rfl, rfl, rfl⟩) (rest := []) rfl rfl rfl hl.1 rfl (Nat.le_of_ble_eq_true rfl) dX2_refresh_131 ⟨Nat.le_of_ble_eq_true rfl, Nat.le_of_ble_eq_true rfl⟩ (fun t H1 locs ht hB hS hFc => ?_)
      obtain ⟨al18, -, hP, -, hD⟩ := hB
      rw [ht] at hP
      have hD := hD.weaken (B := A) (fun k q _ h9 => hFc q.1 h9)
      clear ht
      generalize H1 = H at hP hS ⊢
      exact m162_X2_refresh_b134 C  f2_roundSupports f2_stale v15 f1_size v11 v12 f0_solved ai13 al18 (ad 17) (ad 16) w2 w3 _ _ _ (by omega) (by omega) (by omega) (by omega) (by omega) (by omega) (by omega) (by omega) (by omega) (by omega) (by omega) hI (RWX_17 ad) (RWX_16 ad) hw_w2 hw_w3 hP hD hS (lv_sub hl [0] rfl)
    · skip
      refine k2V_v (q0 := 22) ⟨hx, hb, hml, hown, hts⟩ hK hP hD hS hA hX cv_RX2_70 (m148_X5_walk l dC dI cI cJ cII cJJ H.size 0 ad f3_unknowns f3_equations f2_roundSupports f2_stale f7_size f1_size f5_keptSize f5_aheadSize f0_solved f4_blockCount f4_blockLength f4_lastIsFree f4_stale ai al (ad 18) (ad 16) w2 w3 L1 (by omega) (by omega) (by omega) (by omega) (by omega) (by omega) (by omega) (by omega) (by omega) (by omega) (by omega) (by omega) hI (RWX_18 ad) (RWX_16 ad) hw_w2 hw_w3) ⟨by decide +kernel, by decide +kernel⟩ rfl rfl (Or.inl rfl) (rest := []) rfl rfl rfl hl.1 rfl (Nat.le_of_ble_eq_true rfl) dX2_refresh_113 ⟨Nat.le_of_ble_eq_true rfl, Nat.le_of_ble_eq_true rfl⟩ (fun t H1 locs ht hB hS hFc => ?_)
      obtain ⟨v20, v21, ai22, ⟨gpr19_0, gpr19_1, hI⟩, hP, -, hD⟩ := hB
      rw [ht] at hP
      have hD := hD.weaken (B := A) (fun k q _ h9 => hFc q.1 h9)
      clear ht
      generalize H1 = H at hP hS ⊢
      refine lv_aload_n hx hb dX2_refresh_116 rfl (lv_at hl 0 rfl) ?_
      refine gf (k := 3) hx hb hts inX2 hown hK hP k_178 rfl (by decide) rfl 11 rfl (.ref (ad 22)) rfl dX2_refresh_117 ?_
      refine lv_aload_n hx hb dX2_refresh_120 rfl (lv_at hl 0 rfl) ?_
      refine gf (k := 1) hx hb hts inX2 hown hK hP k_176 rfl (by decide) rfl 11 rfl (.ref (ad 12)) rfl dX2_refresh_121 ?_
      refine k2V_v (q0 := 22) ⟨hx, hb, hml, hown, hts⟩ hK hP hD hS hA hX cv_RX2_74 (m070_X5_giveTo l dC dI cI cJ cII cJJ H.size 0 ad f3_unknowns f3_equations f2_roundSupports f2_stale f7_size f1_size v20 v21 f0_solved f4_blockCount f4_blockLength f4_lastIsFree f4_stale ai22 al (ad 18) (ad 16) w2 w3 (by omega) (by omega) (by omega) (by omega) (by omega) (by omega) (by omega) (by omega) (by omega) (by omega) (by omega) hI (RWX_18 ad) (RWX_16 ad) hw_w2 hw_w3) ⟨by decide +kernel, by decide +kernel⟩ rfl rfl (Or.inl rfl) (rest := []) rfl rfl rfl hl.1 rfl (Nat.le_of_ble_eq_true rfl) dX2_refresh_124 ⟨Nat.le_of_ble_eq_true rfl, Nat.le_of_ble_eq_true rfl⟩ (fun t H1 locs ht hB hS hFc => ?_)
      obtain ⟨v24, al25, gpr23_0, hP, -, hD⟩ := hB
      rw [ht] at hP
      have hD := hD.weaken (B := A) (fun k q _ h9 => hFc q.1 h9)
      clear ht
      generalize H1 = H at hP hS ⊢
      refine lv_aload_n hx hb dX2_refresh_127 rfl (lv_at hl 0 rfl) ?_
      refine gf (k := 1) hx hb hts inX2 hown hK hP k_176 rfl (by decide) rfl 11 rfl (.ref (ad 12)) rfl dX2_refresh_128 ?_
      refine k2V_v (q0 := 12) ⟨hx, hb, hml, hown, hts⟩ hK hP hD hS hA hX cv_RX2_78 (m063_X7_sort l dC dI cI cJ cII cJJ H.size g ad f3_unknowns f3_equations f2_roundSupports f2_stale v24 f1_size v20 v21 f0_solved f4_blockCount f4_blockLength f4_lastIsFree f4_stale ai22 al25 (ad 18) (ad 16) w2 w3 (by omega) (by omega) (by omega) (by omega) (by omega) (by omega) (by omega) (by omega) (by omega) (by omega) (by omega) hI (RWX_18 ad) (RWX_16 ad) hw_w2 hw_w3) ⟨by decide +kernel, by decide +kernel⟩ rfl rfl (Or.inr ⟨rfl, rfl, rfl⟩) (rest := []) rfl rfl rfl hl.1 rfl (Nat.le_of_ble_eq_true rfl) dX2_refresh_131 ⟨Nat.le_of_ble_eq_true rfl, Nat.le_of_ble_eq_true rfl⟩ (fun t H1 locs ht hB hS hFc => ?_)
      obtain ⟨al27, -, hP, -, hD⟩ := hB
      rw [ht] at hP
      have hD := hD.weaken (B := A) (fun k q _ h9 => hFc q.1 h9)
      clear ht
      generalize H1 = H at hP hS ⊢
      exact m162_X2_refresh_b134 C  f2_roundSupports f2_stale v24 f1_size v20 v21 f0_solved ai22 al27 (ad 18) (ad 16) w2 w3 _ _ _ (by omega) (by omega) (by omega) (by omega) (by omega) (by omega) (by omega) (by omega) (by omega) (by omega) (by omega) hI (RWX_18 ad) (RWX_16 ad) hw_w2 hw_w3 hP hD hS (lv_sub hl [0] rfl)
    · skip
      refine k2V_v (q0 := 22) ⟨hx, hb, hml, hown, hts⟩ hK hP hD hS hA hX cv_RX2_70 (m150_X5_walk l dC dI cI cJ cII cJJ H.size 0 ad f3_unknowns f3_equations f2_roundSupports f2_stale f7_size f1_size f5_keptSize f5_aheadSize f0_solved f4_blockCount f4_blockLength f4_lastIsFree f4_stale ai al (ad 19) (ad 16) w2 w3 L1 (by omega) (by omega) (by omega) (by omega) (by omega) (by omega) (by omega) (by omega) (by omega) (by omega) (by omega) (by omega) hI (RWX_19 ad) (RWX_16 ad) hw_w2 hw_w3) ⟨by decide +kernel, by decide +kernel⟩ rfl rfl (Or.inl rfl) (rest := []) rfl rfl rfl hl.1 rfl (Nat.le_of_ble_eq_true rfl) dX2_refresh_113 ⟨Nat.le_of_ble_eq_true rfl, Nat.le_of_ble_eq_true rfl⟩ (fun t H1 locs ht hB hS hFc => ?_)
      obtain ⟨v29, v30, ai31, ⟨gpr28_0, gpr28_1, hI⟩, hP, -, hD⟩ := hB
      rw [ht] at hP
      have hD := hD.weaken (B := A) (fun k q _ h9 => hFc q.1 h9)
      clear ht
      generalize H1 = H at hP hS ⊢
      refine lv_aload_n hx hb dX2_refresh_116 rfl (lv_at hl 0 rfl) ?_
      refine gf (k := 3) hx hb hts inX2 hown hK hP k_178 rfl (by decide) rfl 11 rfl (.ref (ad 22)) rfl dX2_refresh_117 ?_
      refine lv_aload_n hx hb dX2_refresh_120 rfl (lv_at hl 0 rfl) ?_
      refine gf (k := 1) hx hb hts inX2 hown hK hP k_176 rfl (by decide) rfl 11 rfl (.ref (ad 12)) rfl dX2_refresh_121 ?_
      refine k2V_v (q0 := 22) ⟨hx, hb, hml, hown, hts⟩ hK hP hD hS hA hX cv_RX2_74 (m070_X5_giveTo l dC dI cI cJ cII cJJ H.size 0 ad f3_unknowns f3_equations f2_roundSupports f2_stale f7_size f1_size v29 v30 f0_solved f4_blockCount f4_blockLength f4_lastIsFree f4_stale ai31 al (ad 19) (ad 16) w2 w3 (by omega) (by omega) (by omega) (by omega) (by omega) (by omega) (by omega) (by omega) (by omega) (by omega) (by omega) hI (RWX_19 ad) (RWX_16 ad) hw_w2 hw_w3) ⟨by decide +kernel, by decide +kernel⟩ rfl rfl (Or.inl rfl) (rest := []) rfl rfl rfl hl.1 rfl (Nat.le_of_ble_eq_true rfl) dX2_refresh_124 ⟨Nat.le_of_ble_eq_true rfl, Nat.le_of_ble_eq_true rfl⟩ (fun t H1 locs ht hB hS hFc => ?_)
      obtain ⟨v33, al34, gpr32_0, hP, -, hD⟩ := hB
      rw [ht] at hP
      have hD := hD.weaken (B := A) (fun k q _ h9 => hFc q.1 h9)
      clear ht
      generalize H1 = H at hP hS ⊢
      refine lv_aload_n hx hb dX2_refresh_127 rfl (lv_at hl 0 rfl) ?_
      refine gf (k := 1) hx hb hts inX2 hown hK hP k_176 rfl (by decide) rfl 11 rfl (.ref (ad 12)) rfl dX2_refresh_128 ?_
      refine k2V_v (q0 := 12) ⟨hx, hb, hml, hown, hts⟩ hK hP hD hS hA hX cv_RX2_78 (m063_X7_sort l dC dI cI cJ cII cJJ H.size g ad f3_unknowns f3_equations f2_roundSupports f2_stale v33 f1_size v29 v30 f0_solved f4_blockCount f4_blockLength f4_lastIsFree f4_stale ai31 al34 (ad 19) (ad 16) w2 w3 (by omega) (by omega) (by omega) (by omega) (by omega) (by omega) (by omega) (by omega) (by omega) (by omega) (by omega) hI (RWX_19 ad) (RWX_16 ad) hw_w2 hw_w3) ⟨by decide +kernel, by decide +kernel⟩ rfl rfl (Or.inr ⟨rfl, rfl, rfl⟩) (rest := []) rfl rfl rfl hl.1 rfl (Nat.le_of_ble_eq_true rfl) dX2_refresh_131 ⟨Nat.le_of_ble_eq_true rfl, Nat.le_of_ble_eq_true rfl⟩ (fun t H1 locs ht hB hS hFc => ?_)
      obtain ⟨al36, -, hP, -, hD⟩ := hB
      rw [ht] at hP
      have hD := hD.weaken (B := A) (fun k q _ h9 => hFc q.1 h9)
      clear ht
      generalize H1 = H at hP hS ⊢
      exact m162_X2_refresh_b134 C  f2_roundSupports f2_stale v33 f1_size v29 v30 f0_solved ai31 al36 (ad 19) (ad 16) w2 w3 _ _ _ (by omega) (by omega) (by omega) (by omega) (by omega) (by omega) (by omega) (by omega) (by omega) (by omega) (by omega) hI (RWX_19 ad) (RWX_16 ad) hw_w2 hw_w3 hP hD hS (lv_sub hl [0] rfl)
  · skip
    rcases hw_w0 with rfl | rfl | rfl | rfl
    · skip
      refine k2V_v (q0 := 22) ⟨hx, hb, hml, hown, hts⟩ hK hP hD hS hA hX cv_RX2_70 (m069_X5_walk l dC dI cI cJ cII cJJ H.size 0 ad f3_unknowns f3_equations f2_roundSupports f2_stale f7_size f1_size f5_keptSize f5_aheadSize f0_solved f4_blockCount f4_blockLength f4_lastIsFree f4_stale ai al (ad 16) (ad 17) w2 w3 L1 (by omega) (by omega) (by omega) (by omega) (by omega) (by omega) (by omega) (by omega) (by omega) (by omega) (by omega) (by omega) hI (RWX_16 ad) (RWX_17 ad) hw_w2 hw_w3) ⟨by decide +kernel, by decide +kernel⟩ rfl rfl (Or.inl rfl) (rest := []) rfl rfl rfl hl.1 rfl (Nat.le_of_ble_eq_true rfl) dX2_refresh_113 ⟨Nat.le_of_ble_eq_true rfl, Nat.le_of_ble_eq_true rfl⟩ (fun t H1 locs ht hB hS hFc => ?_)
      obtain ⟨v38, v39, ai40, ⟨gpr37_0, gpr37_1, hI⟩, hP, -, hD⟩ := hB
      rw [ht] at hP
      have hD := hD.weaken (B := A) (fun k q _ h9 => hFc q.1 h9)
      clear ht
      generalize H1 = H at hP hS ⊢
      refine lv_aload_n hx hb dX2_refresh_116 rfl (lv_at hl 0 rfl) ?_
      refine gf (k := 3) hx hb hts inX2 hown hK hP k_178 rfl (by decide) rfl 11 rfl (.ref (ad 22)) rfl dX2_refresh_117 ?_
      refine lv_aload_n hx hb dX2_refresh_120 rfl (lv_at hl 0 rfl) ?_
      refine gf (k := 1) hx hb hts inX2 hown hK hP k_176 rfl (by decide) rfl 11 rfl (.ref (ad 12)) rfl dX2_refresh_121 ?_
      refine k2V_v (q0 := 22) ⟨hx, hb, hml, hown, hts⟩ hK hP hD hS hA hX cv_RX2_74 (m070_X5_giveTo l dC dI cI cJ cII cJJ H.size 0 ad f3_unknowns f3_equations f2_roundSupports f2_stale f7_size f1_size v38 v39 f0_solved f4_blockCount f4_blockLength f4_lastIsFree f4_stale ai40 al (ad 16) (ad 17) w2 w3 (by omega) (by omega) (by omega) (by omega) (by omega) (by omega) (by omega) (by omega) (by omega) (by omega) (by omega) hI (RWX_16 ad) (RWX_17 ad) hw_w2 hw_w3) ⟨by decide +kernel, by decide +kernel⟩ rfl rfl (Or.inl rfl) (rest := []) rfl rfl rfl hl.1 rfl (Nat.le_of_ble_eq_true rfl) dX2_refresh_124 ⟨Nat.le_of_ble_eq_true rfl, Nat.le_of_ble_eq_true rfl⟩ (fun t H1 locs ht hB hS hFc => ?_)
      obtain ⟨v42, al43, gpr41_0, hP, -, hD⟩ := hB
      rw [ht] at hP
      have hD := hD.weaken (B := A) (fun k q _ h9 => hFc q.1 h9)
      clear ht
      generalize H1 = H at hP hS ⊢
      refine lv_aload_n hx hb dX2_refresh_127 rfl (lv_at hl 0 rfl) ?_
      refine gf (k := 1) hx hb hts inX2 hown hK hP k_176 rfl (by decide) rfl 11 rfl (.ref (ad 12)) rfl dX2_refresh_128 ?_
      refine k2V_v (q0 := 12) ⟨hx, hb, hml, hown, hts⟩ hK hP hD hS hA hX cv_RX2_78 (m063_X7_sort l dC dI cI cJ cII cJJ H.size g ad f3_unknowns f3_equations f2_roundSupports f2_stale v42 f1_size v38 v39 f0_solved f4_blockCount f4_blockLength f4_lastIsFree f4_stale ai40 al43 (ad 16) (ad 17) w2 w3 (by omega) (by omega) (by omega) (by omega) (by omega) (by omega) (by omega) (by omega) (by omega) (by omega) (by omega) hI (RWX_16 ad) (RWX_17 ad) hw_w2 hw_w3) ⟨by decide +kernel, by decide +kernel⟩ rfl rfl (Or.inr ⟨rfl, rfl, rfl⟩) (rest := []) rfl rfl rfl hl.1 rfl (Nat.le_of_ble_eq_true rfl) dX2_refresh_131 ⟨Nat.le_of_ble_eq_true rfl, Nat.le_of_ble_eq_true rfl⟩ (fun t H1 locs ht hB hS hFc => ?_)
      obtain ⟨al45, -, hP, -, hD⟩ := hB
      rw [ht] at hP
      have hD := hD.weaken (B := A) (fun k q _ h9 => hFc q.1 h9)
      clear ht
      generalize H1 = H at hP hS ⊢
      exact m162_X2_refresh_b134 C  f2_roundSupports f2_stale v42 f1_size v38 v39 f0_solved ai40 al45 (ad 16) (ad 17) w2 w3 _ _ _ (by omega) (by omega) (by omega) (by omega) (by omega) (by omega) (by omega) (by omega) (by omega) (by omega) (by omega) hI (RWX_16 ad) (RWX_17 ad) hw_w2 hw_w3 hP hD hS (lv_sub hl [0] rfl)
    · skip
      refine k2V_v (q0 := 22) ⟨hx, hb, hml, hown, hts⟩ hK hP hD hS hA hX cv_RX2_70 (m151_X5_walk l dC dI cI cJ cII cJJ H.size 0 ad f3_unknowns f3_equations f2_roundSupports f2_stale f7_size f1_size f5_keptSize f5_aheadSize f0_solved f4_blockCount f4_blockLength f4_lastIsFree f4_stale ai al (ad 17) (ad 17) w2 w3 L1 (by omega) (by omega) (by omega) (by omega) (by omega) (by omega) (by omega) (by omega) (by omega) (by omega) (by omega) (by omega) hI (RWX_17 ad) (RWX_17 ad) hw_w2 hw_w3) ⟨by decide +kernel, by decide +kernel⟩ rfl rfl (Or.inl rfl) (rest := []) rfl rfl rfl hl.1 rfl (Nat.le_of_ble_eq_true rfl) dX2_refresh_113 ⟨Nat.le_of_ble_eq_true rfl, Nat.le_of_ble_eq_true rfl⟩ (fun t H1 locs ht hB hS hFc => ?_)
      obtain ⟨v47, v48, ai49, ⟨gpr46_0, gpr46_1, hI⟩, hP, -, hD⟩ := hB
      rw [ht] at hP
      have hD := hD.weaken (B := A) (fun k q _ h9 => hFc q.1 h9)
      clear ht
      generalize H1 = H at hP hS ⊢
      refine lv_aload_n hx hb dX2_refresh_116 rfl (lv_at hl 0 rfl) ?_
      refine gf (k := 3) hx hb hts inX2 hown hK hP k_178 rfl (by decide) rfl 11 rfl (.ref (ad 22)) rfl dX2_refresh_117 ?_
      refine lv_aload_n hx hb dX2_refresh_120 rfl (lv_at hl 0 rfl) ?_
      refine gf (k := 1) hx hb hts inX2 hown hK hP k_176 rfl (by decide) rfl 11 rfl (.ref (ad 12)) rfl dX2_refresh_121 ?_
      refine k2V_v (q0 := 22) ⟨hx, hb, hml, hown, hts⟩ hK hP hD hS hA hX cv_RX2_74 (m070_X5_giveTo l dC dI cI cJ cII cJJ H.size 0 ad f3_unknowns f3_equations f2_roundSupports f2_stale f7_size f1_size v47 v48 f0_solved f4_blockCount f4_blockLength f4_lastIsFree f4_stale ai49 al (ad 17) (ad 17) w2 w3 (by omega) (by omega) (by omega) (by omega) (by omega) (by omega) (by omega) (by omega) (by omega) (by omega) (by omega) hI (RWX_17 ad) (RWX_17 ad) hw_w2 hw_w3) ⟨by decide +kernel, by decide +kernel⟩ rfl rfl (Or.inl rfl) (rest := []) rfl rfl rfl hl.1 rfl (Nat.le_of_ble_eq_true rfl) dX2_refresh_124 ⟨Nat.le_of_ble_eq_true rfl, Nat.le_of_ble_eq_true rfl⟩ (fun t H1 locs ht hB hS hFc => ?_)
      obtain ⟨v51, al52, gpr50_0, hP, -, hD⟩ := hB
      rw [ht] at hP
      have hD := hD.weaken (B := A) (fun k q _ h9 => hFc q.1 h9)
      clear ht
      generalize H1 = H at hP hS ⊢
      refine lv_aload_n hx hb dX2_refresh_127 rfl (lv_at hl 0 rfl) ?_
      refine gf (k := 1) hx hb hts inX2 hown hK hP k_176 rfl (by decide) rfl 11 rfl (.ref (ad 12)) rfl dX2_refresh_128 ?_
      refine k2V_v (q0 := 12) ⟨hx, hb, hml, hown, hts⟩ hK hP hD hS hA hX cv_RX2_78 (m063_X7_sort l dC dI cI cJ cII cJJ H.size g ad f3_unknowns f3_equations f2_roundSupports f2_stale v51 f1_size v47 v48 f0_solved f4_blockCount f4_blockLength f4_lastIsFree f4_stale ai49 al52 (ad 17) (ad 17) w2 w3 (by omega) (by omega) (by omega) (by omega) (by omega) (by omega) (by omega) (by omega) (by omega) (by omega) (by omega) hI (RWX_17 ad) (RWX_17 ad) hw_w2 hw_w3) ⟨by decide +kernel, by decide +kernel⟩ rfl rfl (Or.inr ⟨rfl, rfl, rfl⟩) (rest := []) rfl rfl rfl hl.1 rfl (Nat.le_of_ble_eq_true rfl) dX2_refresh_131 ⟨Nat.le_of_ble_eq_true rfl, Nat.le_of_ble_eq_true rfl⟩ (fun t H1 locs ht hB hS hFc => ?_)
      obtain ⟨al54, -, hP, -, hD⟩ := hB
      rw [ht] at hP
      have hD := hD.weaken (B := A) (fun k q _ h9 => hFc q.1 h9)
      clear ht
      generalize H1 = H at hP hS ⊢
      exact m162_X2_refresh_b134 C  f2_roundSupports f2_stale v51 f1_size v47 v48 f0_solved ai49 al54 (ad 17) (ad 17) w2 w3 _ _ _ (by omega) (by omega) (by omega) (by omega) (by omega) (by omega) (by omega) (by omega) (by omega) (by omega) (by omega) hI (RWX_17 ad) (RWX_17 ad) hw_w2 hw_w3 hP hD hS (lv_sub hl [0] rfl)
    · skip
      refine k2V_v (q0 := 22) ⟨hx, hb, hml, hown, hts⟩ hK hP hD hS hA hX cv_RX2_70 (m152_X5_walk l dC dI cI cJ cII cJJ H.size 0 ad f3_unknowns f3_equations f2_roundSupports f2_stale f7_size f1_size f5_keptSize f5_aheadSize f0_solved f4_blockCount f4_blockLength f4_lastIsFree f4_stale ai al (ad 18) (ad 17) w2 w3 L1 (by omega) (by omega) (by omega) (by omega) (by omega) (by omega) (by omega) (by omega) (by omega) (by omega) (by omega) (by omega) hI (RWX_18 ad) (RWX_17 ad) hw_w2 hw_w3) ⟨by decide +kernel, by decide +kernel⟩ rfl rfl (Or.inl rfl) (rest := []) rfl rfl rfl hl.1 rfl (Nat.le_of_ble_eq_true rfl) dX2_refresh_113 ⟨Nat.le_of_ble_eq_true rfl, Nat.le_of_ble_eq_true rfl⟩ (fun t H1 locs ht hB hS hFc => ?_)
      obtain ⟨v56, v57, ai58, ⟨gpr55_0, gpr55_1, hI⟩, hP, -, hD⟩ := hB
      rw [ht] at hP
      have hD := hD.weaken (B := A) (fun k q _ h9 => hFc q.1 h9)
      clear ht
      generalize H1 = H at hP hS ⊢
      refine lv_aload_n hx hb dX2_refresh_116 rfl (lv_at hl 0 rfl) ?_
      refine gf (k := 3) hx hb hts inX2 hown hK hP k_178 rfl (by decide) rfl 11 rfl (.ref (ad 22)) rfl dX2_refresh_117 ?_
      refine lv_aload_n hx hb dX2_refresh_120 rfl (lv_at hl 0 rfl) ?_
      refine gf (k := 1) hx hb hts inX2 hown hK hP k_176 rfl (by decide) rfl 11 rfl (.ref (ad 12)) rfl dX2_refresh_121 ?_
      refine k2V_v (q0 := 22) ⟨hx, hb, hml, hown, hts⟩ hK hP hD hS hA hX cv_RX2_74 (m070_X5_giveTo l dC dI cI cJ cII cJJ H.size 0 ad f3_unknowns f3_equations f2_roundSupports f2_stale f7_size f1_size v56 v57 f0_solved f4_blockCount f4_blockLength f4_lastIsFree f4_stale ai58 al (ad 18) (ad 17) w2 w3 (by omega) (by omega) (by omega) (by omega) (by omega) (by omega) (by omega) (by omega) (by omega) (by omega) (by omega) hI (RWX_18 ad) (RWX_17 ad) hw_w2 hw_w3) ⟨by decide +kernel, by decide +kernel⟩ rfl rfl (Or.inl rfl) (rest := []) rfl rfl rfl hl.1 rfl (Nat.le_of_ble_eq_true rfl) dX2_refresh_124 ⟨Nat.le_of_ble_eq_true rfl, Nat.le_of_ble_eq_true rfl⟩ (fun t H1 locs ht hB hS hFc => ?_)
      obtain ⟨v60, al61, gpr59_0, hP, -, hD⟩ := hB
      rw [ht] at hP
      have hD := hD.weaken (B := A) (fun k q _ h9 => hFc q.1 h9)
      clear ht
      generalize H1 = H at hP hS ⊢
      refine lv_aload_n hx hb dX2_refresh_127 rfl (lv_at hl 0 rfl) ?_
      refine gf (k := 1) hx hb hts inX2 hown hK hP k_176 rfl (by decide) rfl 11 rfl (.ref (ad 12)) rfl dX2_refresh_128 ?_
      refine k2V_v (q0 := 12) ⟨hx, hb, hml, hown, hts⟩ hK hP hD hS hA hX cv_RX2_78 (m063_X7_sort l dC dI cI cJ cII cJJ H.size g ad f3_unknowns f3_equations f2_roundSupports f2_stale v60 f1_size v56 v57 f0_solved f4_blockCount f4_blockLength f4_lastIsFree f4_stale ai58 al61 (ad 18) (ad 17) w2 w3 (by omega) (by omega) (by omega) (by omega) (by omega) (by omega) (by omega) (by omega) (by omega) (by omega) (by omega) hI (RWX_18 ad) (RWX_17 ad) hw_w2 hw_w3) ⟨by decide +kernel, by decide +kernel⟩ rfl rfl (Or.inr ⟨rfl, rfl, rfl⟩) (rest := []) rfl rfl rfl hl.1 rfl (Nat.le_of_ble_eq_true rfl) dX2_refresh_131 ⟨Nat.le_of_ble_eq_true rfl, Nat.le_of_ble_eq_true rfl⟩ (fun t H1 locs ht hB hS hFc => ?_)
      obtain ⟨al63, -, hP, -, hD⟩ := hB
      rw [ht] at hP
      have hD := hD.weaken (B := A) (fun k q _ h9 => hFc q.1 h9)
      clear ht
      generalize H1 = H at hP hS ⊢
      exact m162_X2_refresh_b134 C  f2_roundSupports f2_stale v60 f1_size v56 v57 f0_solved ai58 al63 (ad 18) (ad 17) w2 w3 _ _ _ (by omega) (by omega) (by omega) (by omega) (by omega) (by omega) (by omega) (by omega) (by omega) (by omega) (by omega) hI (RWX_18 ad) (RWX_17 ad) hw_w2 hw_w3 hP hD hS (lv_sub hl [0] rfl)
    · skip
      refine k2V_v (q0 := 22) ⟨hx, hb, hml, hown, hts⟩ hK hP hD hS hA hX cv_RX2_70 (m153_X5_walk l dC dI cI cJ cII cJJ H.size 0 ad f3_unknowns f3_equations f2_roundSupports f2_stale f7_size f1_size f5_keptSize f5_aheadSize f0_solved f4_blockCount f4_blockLength f4_lastIsFree f4_stale ai al (ad 19) (ad 17) w2 w3 L1 (by omega) (by omega) (by omega) (by omega) (by omega) (by omega) (by omega) (by omega) (by omega) (by omega) (by omega) (by omega) hI (RWX_19 ad) (RWX_17 ad) hw_w2 hw_w3) ⟨by decide +kernel, by decide +kernel⟩ rfl rfl (Or.inl rfl) (rest := []) rfl rfl rfl hl.1 rfl (Nat.le_of_ble_eq_true rfl) dX2_refresh_113 ⟨Nat.le_of_ble_eq_true rfl, Nat.le_of_ble_eq_true rfl⟩ (fun t H1 locs ht hB hS hFc => ?_)
      obtain ⟨v65, v66, ai67, ⟨gpr64_0, gpr64_1, hI⟩, hP, -, hD⟩ := hB
      rw [ht] at hP
      have hD := hD.weaken (B := A) (fun k q _ h9 => hFc q.1 h9)
      clear ht
      generalize H1 = H at hP hS ⊢
      refine lv_aload_n hx hb dX2_refresh_116 rfl (lv_at hl 0 rfl) ?_
      refine gf (k := 3) hx hb hts inX2 hown hK hP k_178 rfl (by decide) rfl 11 rfl (.ref (ad 22)) rfl dX2_refresh_117 ?_
      refine lv_aload_n hx hb dX2_refresh_120 rfl (lv_at hl 0 rfl) ?_
      refine gf (k := 1) hx hb hts inX2 hown hK hP k_176 rfl (by decide) rfl 11 rfl (.ref (ad 12)) rfl dX2_refresh_121 ?_
      refine k2V_v (q0 := 22) ⟨hx, hb, hml, hown, hts⟩ hK hP hD hS hA hX cv_RX2_74 (m070_X5_giveTo l dC dI cI cJ cII cJJ H.size 0 ad f3_unknowns f3_equations f2_roundSupports f2_stale f7_size f1_size v65 v66 f0_solved f4_blockCount f4_blockLength f4_lastIsFree f4_stale ai67 al (ad 19) (ad 17) w2 w3 (by omega) (by omega) (by omega) (by omega) (by omega) (by omega) (by omega) (by omega) (by omega) (by omega) (by omega) hI (RWX_19 ad) (RWX_17 ad) hw_w2 hw_w3) ⟨by decide +kernel, by decide +kernel⟩ rfl rfl (Or.inl rfl) (rest := []) rfl rfl rfl hl.1 rfl (Nat.le_of_ble_eq_true rfl) dX2_refresh_124 ⟨Nat.le_of_ble_eq_true rfl, Nat.le_of_ble_eq_true rfl⟩ (fun t H1 locs ht hB hS hFc => ?_)
      obtain ⟨v69, al70, gpr68_0, hP, -, hD⟩ := hB
      rw [ht] at hP
      have hD := hD.weaken (B := A) (fun k q _ h9 => hFc q.1 h9)
      clear ht
      generalize H1 = H at hP hS ⊢
      refine lv_aload_n hx hb dX2_refresh_127 rfl (lv_at hl 0 rfl) ?_
      refine gf (k := 1) hx hb hts inX2 hown hK hP k_176 rfl (by decide) rfl 11 rfl (.ref (ad 12)) rfl dX2_refresh_128 ?_
      refine k2V_v (q0 := 12) ⟨hx, hb, hml, hown, hts⟩ hK hP hD hS hA hX cv_RX2_78 (m063_X7_sort l dC dI cI cJ cII cJJ H.size g ad f3_unknowns f3_equations f2_roundSupports f2_stale v69 f1_size v65 v66 f0_solved f4_blockCount f4_blockLength f4_lastIsFree f4_stale ai67 al70 (ad 19) (ad 17) w2 w3 (by omega) (by omega) (by omega) (by omega) (by omega) (by omega) (by omega) (by omega) (by omega) (by omega) (by omega) hI (RWX_19 ad) (RWX_17 ad) hw_w2 hw_w3) ⟨by decide +kernel, by decide +kernel⟩ rfl rfl (Or.inr ⟨rfl, rfl, rfl⟩) (rest := []) rfl rfl rfl hl.1 rfl (Nat.le_of_ble_eq_true rfl) dX2_refresh_131 ⟨Nat.le_of_ble_eq_true rfl, Nat.le_of_ble_eq_true rfl⟩ (fun t H1 locs ht hB hS hFc => ?_)
      obtain ⟨al72, -, hP, -, hD⟩ := hB
      rw [ht] at hP
      have hD := hD.weaken (B := A) (fun k q _ h9 => hFc q.1 h9)
      clear ht
      generalize H1 = H at hP hS ⊢
      exact m162_X2_refresh_b134 C  f2_roundSupports f2_stale v69 f1_size v65 v66 f0_solved ai67 al72 (ad 19) (ad 17) w2 w3 _ _ _ (by omega) (by omega) (by omega) (by omega) (by omega) (by omega) (by omega) (by omega) (by omega) (by omega) (by omega) hI (RWX_19 ad) (RWX_17 ad) hw_w2 hw_w3 hP hD hS (lv_sub hl [0] rfl)
  · skip
    rcases hw_w0 with rfl | rfl | rfl | rfl
    · skip
      refine k2V_v (q0 := 22) ⟨hx, hb, hml, hown, hts⟩ hK hP hD hS hA hX cv_RX2_70 (m154_X5_walk l dC dI cI cJ cII cJJ H.size 0 ad f3_unknowns f3_equations f2_roundSupports f2_stale f7_size f1_size f5_keptSize f5_aheadSize f0_solved f4_blockCount f4_blockLength f4_lastIsFree f4_stale ai al (ad 16) (ad 18) w2 w3 L1 (by omega) (by omega) (by omega) (by omega) (by omega) (by omega) (by omega) (by omega) (by omega) (by omega) (by omega) (by omega) hI (RWX_16 ad) (RWX_18 ad) hw_w2 hw_w3) ⟨by decide +kernel, by decide +kernel⟩ rfl rfl (Or.inl rfl) (rest := []) rfl rfl rfl hl.1 rfl (Nat.le_of_ble_eq_true rfl) dX2_refresh_113 ⟨Nat.le_of_ble_eq_true rfl, Nat.le_of_ble_eq_true rfl⟩ (fun t H1 locs ht hB hS hFc => ?_)
      obtain ⟨v74, v75, ai76, ⟨gpr73_0, gpr73_1, hI⟩, hP, -, hD⟩ := hB
      rw [ht] at hP
      have hD := hD.weaken (B := A) (fun k q _ h9 => hFc q.1 h9)
      clear ht
      generalize H1 = H at hP hS ⊢
      refine lv_aload_n hx hb dX2_refresh_116 rfl (lv_at hl 0 rfl) ?_
      refine gf (k := 3) hx hb hts inX2 hown hK hP k_178 rfl (by decide) rfl 11 rfl (.ref (ad 22)) rfl dX2_refresh_117 ?_
      refine lv_aload_n hx hb dX2_refresh_120 rfl (lv_at hl 0 rfl) ?_
      refine gf (k := 1) hx hb hts inX2 hown hK hP k_176 rfl (by decide) rfl 11 rfl (.ref (ad 12)) rfl dX2_refresh_121 ?_
      refine k2V_v (q0 := 22) ⟨hx, hb, hml, hown, hts⟩ hK hP hD hS hA hX cv_RX2_74 (m070_X5_giveTo l dC dI cI cJ cII cJJ H.size 0 ad f3_unknowns f3_equations f2_roundSupports f2_stale f7_size f1_size v74 v75 f0_solved f4_blockCount f4_blockLength f4_lastIsFree f4_stale ai76 al (ad 16) (ad 18) w2 w3 (by omega) (by omega) (by omega) (by omega) (by omega) (by omega) (by omega) (by omega) (by omega) (by omega) (by omega) hI (RWX_16 ad) (RWX_18 ad) hw_w2 hw_w3) ⟨by decide +kernel, by decide +kernel⟩ rfl rfl (Or.inl rfl) (rest := []) rfl rfl rfl hl.1 rfl (Nat.le_of_ble_eq_true rfl) dX2_refresh_124 ⟨Nat.le_of_ble_eq_true rfl, Nat.le_of_ble_eq_true rfl⟩ (fun t H1 locs ht hB hS hFc => ?_)
      obtain ⟨v78, al79, gpr77_0, hP, -, hD⟩ := hB
      rw [ht] at hP
      have hD := hD.weaken (B := A) (fun k q _ h9 => hFc q.1 h9)
      clear ht
      generalize H1 = H at hP hS ⊢
      refine lv_aload_n hx hb dX2_refresh_127 rfl (lv_at hl 0 rfl) ?_
      refine gf (k := 1) hx hb hts inX2 hown hK hP k_176 rfl (by decide) rfl 11 rfl (.ref (ad 12)) rfl dX2_refresh_128 ?_
      refine k2V_v (q0 := 12) ⟨hx, hb, hml, hown, hts⟩ hK hP hD hS hA hX cv_RX2_78 (m063_X7_sort l dC dI cI cJ cII cJJ H.size g ad f3_unknowns f3_equations f2_roundSupports f2_stale v78 f1_size v74 v75 f0_solved f4_blockCount f4_blockLength f4_lastIsFree f4_stale ai76 al79 (ad 16) (ad 18) w2 w3 (by omega) (by omega) (by omega) (by omega) (by omega) (by omega) (by omega) (by omega) (by omega) (by omega) (by omega) hI (RWX_16 ad) (RWX_18 ad) hw_w2 hw_w3) ⟨by decide +kernel, by decide +kernel⟩ rfl rfl (Or.inr ⟨rfl, rfl, rfl⟩) (rest := []) rfl rfl rfl hl.1 rfl (Nat.le_of_ble_eq_true rfl) dX2_refresh_131 ⟨Nat.le_of_ble_eq_true rfl, Nat.le_of_ble_eq_true rfl⟩ (fun t H1 locs ht hB hS hFc => ?_)
      obtain ⟨al81, -, hP, -, hD⟩ := hB
      rw [ht] at hP
      have hD := hD.weaken (B := A) (fun k q _ h9 => hFc q.1 h9)
      clear ht
      generalize H1 = H at hP hS ⊢
      exact m162_X2_refresh_b134 C  f2_roundSupports f2_stale v78 f1_size v74 v75 f0_solved ai76 al81 (ad 16) (ad 18) w2 w3 _ _ _ (by omega) (by omega) (by omega) (by omega) (by omega) (by omega) (by omega) (by omega) (by omega) (by omega) (by omega) hI (RWX_16 ad) (RWX_18 ad) hw_w2 hw_w3 hP hD hS (lv_sub hl [0] rfl)
    · skip
      refine k2V_v (q0 := 22) ⟨hx, hb, hml, hown, hts⟩ hK hP hD hS hA hX cv_RX2_70 (m155_X5_walk l dC dI cI cJ cII cJJ H.size 0 ad f3_unknowns f3_equations f2_roundSupports f2_stale f7_size f1_size f5_keptSize f5_aheadSize f0_solved f4_blockCount f4_blockLength f4_lastIsFree f4_stale ai al (ad 17) (ad 18) w2 w3 L1 (by omega) (by omega) (by omega) (by omega) (by omega) (by omega) (by omega) (by omega) (by omega) (by omega) (by omega) (by omega) hI (RWX_17 ad) (RWX_18 ad) hw_w2 hw_w3) ⟨by decide +kernel, by decide +kernel⟩ rfl rfl (Or.inl rfl) (rest := []) rfl rfl rfl hl.1 rfl (Nat.le_of_ble_eq_true rfl) dX2_refresh_113 ⟨Nat.le_of_ble_eq_true rfl, Nat.le_of_ble_eq_true rfl⟩ (fun t H1 locs ht hB hS hFc => ?_)
      obtain ⟨v83, v84, ai85, ⟨gpr82_0, gpr82_1, hI⟩, hP, -, hD⟩ := hB
      rw [ht] at hP
      have hD := hD.weaken (B := A) (fun k q _ h9 => hFc q.1 h9)
      clear ht
      generalize H1 = H at hP hS ⊢
      refine lv_aload_n hx hb dX2_refresh_116 rfl (lv_at hl 0 rfl) ?_
      refine gf (k := 3) hx hb hts inX2 hown hK hP k_178 rfl (by decide) rfl 11 rfl (.ref (ad 22)) rfl dX2_refresh_117 ?_
      refine lv_aload_n hx hb dX2_refresh_120 rfl (lv_at hl 0 rfl) ?_
      refine gf (k := 1) hx hb hts inX2 hown hK hP k_176 rfl (by decide) rfl 11 rfl (.ref (ad 12)) rfl dX2_refresh_121 ?_
      refine k2V_v (q0 := 22) ⟨hx, hb, hml, hown, hts⟩ hK hP hD hS hA hX cv_RX2_74 (m070_X5_giveTo l dC dI cI cJ cII cJJ H.size 0 ad f3_unknowns f3_equations f2_roundSupports f2_stale f7_size f1_size v83 v84 f0_solved f4_blockCount f4_blockLength f4_lastIsFree f4_stale ai85 al (ad 17) (ad 18) w2 w3 (by omega) (by omega) (by omega) (by omega) (by omega) (by omega) (by omega) (by omega) (by omega) (by omega) (by omega) hI (RWX_17 ad) (RWX_18 ad) hw_w2 hw_w3) ⟨by decide +kernel, by decide +kernel⟩ rfl rfl (Or.inl rfl) (rest := []) rfl rfl rfl hl.1 rfl (Nat.le_of_ble_eq_true rfl) dX2_refresh_124 ⟨Nat.le_of_ble_eq_true rfl, Nat.le_of_ble_eq_true rfl⟩ (fun t H1 locs ht hB hS hFc => ?_)
      obtain ⟨v87, al88, gpr86_0, hP, -, hD⟩ := hB
      rw [ht] at hP
      have hD := hD.weaken (B := A) (fun k q _ h9 => hFc q.1 h9)
      clear ht
      generalize H1 = H at hP hS ⊢
      refine lv_aload_n hx hb dX2_refresh_127 rfl (lv_at hl 0 rfl) ?_
      refine gf (k := 1) hx hb hts inX2 hown hK hP k_176 rfl (by decide) rfl 11 rfl (.ref (ad 12)) rfl dX2_refresh_128 ?_
      refine k2V_v (q0 := 12) ⟨hx, hb, hml, hown, hts⟩ hK hP hD hS hA hX cv_RX2_78 (m063_X7_sort l dC dI cI cJ cII cJJ H.size g ad f3_unknowns f3_equations f2_roundSupports f2_stale v87 f1_size v83 v84 f0_solved f4_blockCount f4_blockLength f4_lastIsFree f4_stale ai85 al88 (ad 17) (ad 18) w2 w3 (by omega) (by omega) (by omega) (by omega) (by omega) (by omega) (by omega) (by omega) (by omega) (by omega) (by omega) hI (RWX_17 ad) (RWX_18 ad) hw_w2 hw_w3) ⟨by decide +kernel, by decide +kernel⟩ rfl rfl (Or.inr ⟨rfl, rfl, rfl⟩) (rest := []) rfl rfl rfl hl.1 rfl (Nat.le_of_ble_eq_true rfl) dX2_refresh_131 ⟨Nat.le_of_ble_eq_true rfl, Nat.le_of_ble_eq_true rfl⟩ (fun t H1 locs ht hB hS hFc => ?_)
      obtain ⟨al90, -, hP, -, hD⟩ := hB
      rw [ht] at hP
      have hD := hD.weaken (B := A) (fun k q _ h9 => hFc q.1 h9)
      clear ht
      generalize H1 = H at hP hS ⊢
      exact m162_X2_refresh_b134 C  f2_roundSupports f2_stale v87 f1_size v83 v84 f0_solved ai85 al90 (ad 17) (ad 18) w2 w3 _ _ _ (by omega) (by omega) (by omega) (by omega) (by omega) (by omega) (by omega) (by omega) (by omega) (by omega) (by omega) hI (RWX_17 ad) (RWX_18 ad) hw_w2 hw_w3 hP hD hS (lv_sub hl [0] rfl)
    · skip
      refine k2V_v (q0 := 22) ⟨hx, hb, hml, hown, hts⟩ hK hP hD hS hA hX cv_RX2_70 (m156_X5_walk l dC dI cI cJ cII cJJ H.size 0 ad f3_unknowns f3_equations f2_roundSupports f2_stale f7_size f1_size f5_keptSize f5_aheadSize f0_solved f4_blockCount f4_blockLength f4_lastIsFree f4_stale ai al (ad 18) (ad 18) w2 w3 L1 (by omega) (by omega) (by omega) (by omega) (by omega) (by omega) (by omega) (by omega) (by omega) (by omega) (by omega) (by omega) hI (RWX_18 ad) (RWX_18 ad) hw_w2 hw_w3) ⟨by decide +kernel, by decide +kernel⟩ rfl rfl (Or.inl rfl) (rest := []) rfl rfl rfl hl.1 rfl (Nat.le_of_ble_eq_true rfl) dX2_refresh_113 ⟨Nat.le_of_ble_eq_true rfl, Nat.le_of_ble_eq_true rfl⟩ (fun t H1 locs ht hB hS hFc => ?_)
      obtain ⟨v92, v93, ai94, ⟨gpr91_0, gpr91_1, hI⟩, hP, -, hD⟩ := hB
      rw [ht] at hP
      have hD := hD.weaken (B := A) (fun k q _ h9 => hFc q.1 h9)
      clear ht
      generalize H1 = H at hP hS ⊢
      refine lv_aload_n hx hb dX2_refresh_116 rfl (lv_at hl 0 rfl) ?_
      refine gf (k := 3) hx hb hts inX2 hown hK hP k_178 rfl (by decide) rfl 11 rfl (.ref (ad 22)) rfl dX2_refresh_117 ?_
      refine lv_aload_n hx hb dX2_refresh_120 rfl (lv_at hl 0 rfl) ?_
      refine gf (k := 1) hx hb hts inX2 hown hK hP k_176 rfl (by decide) rfl 11 rfl (.ref (ad 12)) rfl dX2_refresh_121 ?_
      refine k2V_v (q0 := 22) ⟨hx, hb, hml, hown, hts⟩ hK hP hD hS hA hX cv_RX2_74 (m070_X5_giveTo l dC dI cI cJ cII cJJ H.size 0 ad f3_unknowns f3_equations f2_roundSupports f2_stale f7_size f1_size v92 v93 f0_solved f4_blockCount f4_blockLength f4_lastIsFree f4_stale ai94 al (ad 18) (ad 18) w2 w3 (by omega) (by omega) (by omega) (by omega) (by omega) (by omega) (by omega) (by omega) (by omega) (by omega) (by omega) hI (RWX_18 ad) (RWX_18 ad) hw_w2 hw_w3) ⟨by decide +kernel, by decide +kernel⟩ rfl rfl (Or.inl rfl) (rest := []) rfl rfl rfl hl.1 rfl (Nat.le_of_ble_eq_true rfl) dX2_refresh_124 ⟨Nat.le_of_ble_eq_true rfl, Nat.le_of_ble_eq_true rfl⟩ (fun t H1 locs ht hB hS hFc => ?_)
      obtain ⟨v96, al97, gpr95_0, hP, -, hD⟩ := hB
      rw [ht] at hP
      have hD := hD.weaken (B := A) (fun k q _ h9 => hFc q.1 h9)
      clear ht
      generalize H1 = H at hP hS ⊢
      refine lv_aload_n hx hb dX2_refresh_127 rfl (lv_at hl 0 rfl) ?_
      refine gf (k := 1) hx hb hts inX2 hown hK hP k_176 rfl (by decide) rfl 11 rfl (.ref (ad 12)) rfl dX2_refresh_128 ?_
      refine k2V_v (q0 := 12) ⟨hx, hb, hml, hown, hts⟩ hK hP hD hS hA hX cv_RX2_78 (m063_X7_sort l dC dI cI cJ cII cJJ H.size g ad f3_unknowns f3_equations f2_roundSupports f2_stale v96 f1_size v92 v93 f0_solved f4_blockCount f4_blockLength f4_lastIsFree f4_stale ai94 al97 (ad 18) (ad 18) w2 w3 (by omega) (by omega) (by omega) (by omega) (by omega) (by omega) (by omega) (by omega) (by omega) (by omega) (by omega) hI (RWX_18 ad) (RWX_18 ad) hw_w2 hw_w3) ⟨by decide +kernel, by decide +kernel⟩ rfl rfl (Or.inr ⟨rfl, rfl, rfl⟩) (rest := []) rfl rfl rfl hl.1 rfl (Nat.le_of_ble_eq_true rfl) dX2_refresh_131 ⟨Nat.le_of_ble_eq_true rfl, Nat.le_of_ble_eq_true rfl⟩ (fun t H1 locs ht hB hS hFc => ?_)
      obtain ⟨al99, -, hP, -, hD⟩ := hB
      rw [ht] at hP
      have hD := hD.weaken (B := A) (fun k q _ h9 => hFc q.1 h9)
      clear ht
      generalize H1 = H at hP hS ⊢
      exact m162_X2_refresh_b134 C  f2_roundSupports f2_stale v96 f1_size v92 v93 f0_solved ai94 al99 (ad 18) (ad 18) w2 w3 _ _ _ (by omega) (by omega) (by omega) (by omega) (by omega) (by omega) (by omega) (by omega) (by omega) (by omega) (by omega) hI (RWX_18 ad) (RWX_18 ad) hw_w2 hw_w3 hP hD hS (lv_sub hl [0] rfl)
    · skip
      refine k2V_v (q0 := 22) ⟨hx, hb, hml, hown, hts⟩ hK hP hD hS hA hX cv_RX2_70 (m157_X5_walk l dC dI cI cJ cII cJJ H.size 0 ad f3_unknowns f3_equations f2_roundSupports f2_stale f7_size f1_size f5_keptSize f5_aheadSize f0_solved f4_blockCount f4_blockLength f4_lastIsFree f4_stale ai al (ad 19) (ad 18) w2 w3 L1 (by omega) (by omega) (by omega) (by omega) (by omega) (by omega) (by omega) (by omega) (by omega) (by omega) (by omega) (by omega) hI (RWX_19 ad) (RWX_18 ad) hw_w2 hw_w3) ⟨by decide +kernel, by decide +kernel⟩ rfl rfl (Or.inl rfl) (rest := []) rfl rfl rfl hl.1 rfl (Nat.le_of_ble_eq_true rfl) dX2_refresh_113 ⟨Nat.le_of_ble_eq_true rfl, Nat.le_of_ble_eq_true rfl⟩ (fun t H1 locs ht hB hS hFc => ?_)
      obtain ⟨v101, v102, ai103, ⟨gpr100_0, gpr100_1, hI⟩, hP, -, hD⟩ := hB
      rw [ht] at hP
      have hD := hD.weaken (B := A) (fun k q _ h9 => hFc q.1 h9)
      clear ht
      generalize H1 = H at hP hS ⊢
      refine lv_aload_n hx hb dX2_refresh_116 rfl (lv_at hl 0 rfl) ?_
      refine gf (k := 3) hx hb hts inX2 hown hK hP k_178 rfl (by decide) rfl 11 rfl (.ref (ad 22)) rfl dX2_refresh_117 ?_
      refine lv_aload_n hx hb dX2_refresh_120 rfl (lv_at hl 0 rfl) ?_
      refine gf (k := 1) hx hb hts inX2 hown hK hP k_176 rfl (by decide) rfl 11 rfl (.ref (ad 12)) rfl dX2_refresh_121 ?_
      refine k2V_v (q0 := 22) ⟨hx, hb, hml, hown, hts⟩ hK hP hD hS hA hX cv_RX2_74 (m070_X5_giveTo l dC dI cI cJ cII cJJ H.size 0 ad f3_unknowns f3_equations f2_roundSupports f2_stale f7_size f1_size v101 v102 f0_solved f4_blockCount f4_blockLength f4_lastIsFree f4_stale ai103 al (ad 19) (ad 18) w2 w3 (by omega) (by omega) (by omega) (by omega) (by omega) (by omega) (by omega) (by omega) (by omega) (by omega) (by omega) hI (RWX_19 ad) (RWX_18 ad) hw_w2 hw_w3) ⟨by decide +kernel, by decide +kernel⟩ rfl rfl (Or.inl rfl) (rest := []) rfl rfl rfl hl.1 rfl (Nat.le_of_ble_eq_true rfl) dX2_refresh_124 ⟨Nat.le_of_ble_eq_true rfl, Nat.le_of_ble_eq_true rfl⟩ (fun t H1 locs ht hB hS hFc => ?_)
      obtain ⟨v105, al106, gpr104_0, hP, -, hD⟩ := hB
      rw [ht] at hP
      have hD := hD.weaken (B := A) (fun k q _ h9 => hFc q.1 h9)
      clear ht
      generalize H1 = H at hP hS ⊢
      refine lv_aload_n hx hb dX2_refresh_127 rfl (lv_at hl 0 rfl) ?_
      refine gf (k := 1) hx hb hts inX2 hown hK hP k_176 rfl (by decide) rfl 11 rfl (.ref (ad 12)) rfl dX2_refresh_128 ?_
      refine k2V_v (q0 := 12) ⟨hx, hb, hml, hown, hts⟩ hK hP hD hS hA hX cv_RX2_78 (m063_X7_sort l dC dI cI cJ cII cJJ H.size g ad f3_unknowns f3_equations f2_roundSupports f2_stale v105 f1_size v101 v102 f0_solved f4_blockCount f4_blockLength f4_lastIsFree f4_stale ai103 al106 (ad 19) (ad 18) w2 w3 (by omega) (by omega) (by omega) (by omega) (by omega) (by omega) (by omega) (by omega) (by omega) (by omega) (by omega) hI (RWX_19 ad) (RWX_18 ad) hw_w2 hw_w3) ⟨by decide +kernel, by decide +kernel⟩ rfl rfl (Or.inr ⟨rfl, rfl, rfl⟩) (rest := []) rfl rfl rfl hl.1 rfl (Nat.le_of_ble_eq_true rfl) dX2_refresh_131 ⟨Nat.le_of_ble_eq_true rfl, Nat.le_of_ble_eq_true rfl⟩ (fun t H1 locs ht hB hS hFc => ?_)
      obtain ⟨al108, -, hP, -, hD⟩ := hB
      rw [ht] at hP
      have hD := hD.weaken (B := A) (fun k q _ h9 => hFc q.1 h9)
      clear ht
      generalize H1 = H at hP hS ⊢
      exact m162_X2_refresh_b134 C  f2_roundSupports f2_stale v105 f1_size v101 v102 f0_solved ai103 al108 (ad 19) (ad 18) w2 w3 _ _ _ (by omega) (by omega) (by omega) (by omega) (by omega) (by omega) (by omega) (by omega) (by omega) (by omega) (by omega) hI (RWX_19 ad) (RWX_18 ad) hw_w2 hw_w3 hP hD hS (lv_sub hl [0] rfl)
  · skip
    rcases hw_w0 with rfl | rfl | rfl | rfl
    · skip
      refine k2V_v (q0 := 22) ⟨hx, hb, hml, hown, hts⟩ hK hP hD hS hA hX cv_RX2_70 (m158_X5_walk l dC dI cI cJ cII cJJ H.size 0 ad f3_unknowns f3_equations f2_roundSupports f2_stale f7_size f1_size f5_keptSize f5_aheadSize f0_solved f4_blockCount f4_blockLength f4_lastIsFree f4_stale ai al (ad 16) (ad 19) w2 w3 L1 (by omega) (by omega) (by omega) (by omega) (by omega) (by omega) (by omega) (by omega) (by omega) (by omega) (by omega) (by omega) hI (RWX_16 ad) (RWX_19 ad) hw_w2 hw_w3) ⟨by decide +kernel, by decide +kernel⟩ rfl rfl (Or.inl rfl) (rest := []) rfl rfl rfl hl.1 rfl (Nat.le_of_ble_eq_true rfl) dX2_refresh_113 ⟨Nat.le_of_ble_eq_true rfl, Nat.le_of_ble_eq_true rfl⟩ (fun t H1 locs ht hB hS hFc => ?_)
      obtain ⟨v110, v111, ai112, ⟨gpr109_0, gpr109_1, hI⟩, hP, -, hD⟩ := hB
      rw [ht] at hP
      have hD := hD.weaken (B := A) (fun k q _ h9 => hFc q.1 h9)
      clear ht
      generalize H1 = H at hP hS ⊢
      refine lv_aload_n hx hb dX2_refresh_116 rfl (lv_at hl 0 rfl) ?_
      refine gf (k := 3) hx hb hts inX2 hown hK hP k_178 rfl (by decide) rfl 11 rfl (.ref (ad 22)) rfl dX2_refresh_117 ?_
      refine lv_aload_n hx hb dX2_refresh_120 rfl (lv_at hl 0 rfl) ?_
      refine gf (k := 1) hx hb hts inX2 hown hK hP k_176 rfl (by decide) rfl 11 rfl (.ref (ad 12)) rfl dX2_refresh_121 ?_
      refine k2V_v (q0 := 22) ⟨hx, hb, hml, hown, hts⟩ hK hP hD hS hA hX cv_RX2_74 (m070_X5_giveTo l dC dI cI cJ cII cJJ H.size 0 ad f3_unknowns f3_equations f2_roundSupports f2_stale f7_size f1_size v110 v111 f0_solved f4_blockCount f4_blockLength f4_lastIsFree f4_stale ai112 al (ad 16) (ad 19) w2 w3 (by omega) (by omega) (by omega) (by omega) (by omega) (by omega) (by omega) (by omega) (by omega) (by omega) (by omega) hI (RWX_16 ad) (RWX_19 ad) hw_w2 hw_w3) ⟨by decide +kernel, by decide +kernel⟩ rfl rfl (Or.inl rfl) (rest := []) rfl rfl rfl hl.1 rfl (Nat.le_of_ble_eq_true rfl) dX2_refresh_124 ⟨Nat.le_of_ble_eq_true rfl, Nat.le_of_ble_eq_true rfl⟩ (fun t H1 locs ht hB hS hFc => ?_)
      obtain ⟨v114, al115, gpr113_0, hP, -, hD⟩ := hB
      rw [ht] at hP
      have hD := hD.weaken (B := A) (fun k q _ h9 => hFc q.1 h9)
      clear ht
      generalize H1 = H at hP hS ⊢
      refine lv_aload_n hx hb dX2_refresh_127 rfl (lv_at hl 0 rfl) ?_
      refine gf (k := 1) hx hb hts inX2 hown hK hP k_176 rfl (by decide) rfl 11 rfl (.ref (ad 12)) rfl dX2_refresh_128 ?_
      refine k2V_v (q0 := 12) ⟨hx, hb, hml, hown, hts⟩ hK hP hD hS hA hX cv_RX2_78 (m063_X7_sort l dC dI cI cJ cII cJJ H.size g ad f3_unknowns f3_equations f2_roundSupports f2_stale v114 f1_size v110 v111 f0_solved f4_blockCount f4_blockLength f4_lastIsFree f4_stale ai112 al115 (ad 16) (ad 19) w2 w3 (by omega) (by omega) (by omega) (by omega) (by omega) (by omega) (by omega) (by omega) (by omega) (by omega) (by omega) hI (RWX_16 ad) (RWX_19 ad) hw_w2 hw_w3) ⟨by decide +kernel, by decide +kernel⟩ rfl rfl (Or.inr ⟨rfl, rfl, rfl⟩) (rest := []) rfl rfl rfl hl.1 rfl (Nat.le_of_ble_eq_true rfl) dX2_refresh_131 ⟨Nat.le_of_ble_eq_true rfl, Nat.le_of_ble_eq_true rfl⟩ (fun t H1 locs ht hB hS hFc => ?_)
      obtain ⟨al117, -, hP, -, hD⟩ := hB
      rw [ht] at hP
      have hD := hD.weaken (B := A) (fun k q _ h9 => hFc q.1 h9)
      clear ht
      generalize H1 = H at hP hS ⊢
      exact m162_X2_refresh_b134 C  f2_roundSupports f2_stale v114 f1_size v110 v111 f0_solved ai112 al117 (ad 16) (ad 19) w2 w3 _ _ _ (by omega) (by omega) (by omega) (by omega) (by omega) (by omega) (by omega) (by omega) (by omega) (by omega) (by omega) hI (RWX_16 ad) (RWX_19 ad) hw_w2 hw_w3 hP hD hS (lv_sub hl [0] rfl)
    · skip
      refine k2V_v (q0 := 22) ⟨hx, hb, hml, hown, hts⟩ hK hP hD hS hA hX cv_RX2_70 (m159_X5_walk l dC dI cI cJ cII cJJ H.size 0 ad f3_unknowns f3_equations f2_roundSupports f2_stale f7_size f1_size f5_keptSize f5_aheadSize f0_solved f4_blockCount f4_blockLength f4_lastIsFree f4_stale ai al (ad 17) (ad 19) w2 w3 L1 (by omega) (by omega) (by omega) (by omega) (by omega) (by omega) (by omega) (by omega) (by omega) (by omega) (by omega) (by omega) hI (RWX_17 ad) (RWX_19 ad) hw_w2 hw_w3) ⟨by decide +kernel, by decide +kernel⟩ rfl rfl (Or.inl rfl) (rest := []) rfl rfl rfl hl.1 rfl (Nat.le_of_ble_eq_true rfl) dX2_refresh_113 ⟨Nat.le_of_ble_eq_true rfl, Nat.le_of_ble_eq_true rfl⟩ (fun t H1 locs ht hB hS hFc => ?_)
      obtain ⟨v119, v120, ai121, ⟨gpr118_0, gpr118_1, hI⟩, hP, -, hD⟩ := hB
      rw [ht] at hP
      have hD := hD.weaken (B := A) (fun k q _ h9 => hFc q.1 h9)
      clear ht
      generalize H1 = H at hP hS ⊢
      refine lv_aload_n hx hb dX2_refresh_116 rfl (lv_at hl 0 rfl) ?_
      refine gf (k := 3) hx hb hts inX2 hown hK hP k_178 rfl (by decide) rfl 11 rfl (.ref (ad 22)) rfl dX2_refresh_117 ?_
      refine lv_aload_n hx hb dX2_refresh_120 rfl (lv_at hl 0 rfl) ?_
      refine gf (k := 1) hx hb hts inX2 hown hK hP k_176 rfl (by decide) rfl 11 rfl (.ref (ad 12)) rfl dX2_refresh_121 ?_
      refine k2V_v (q0 := 22) ⟨hx, hb, hml, hown, hts⟩ hK hP hD hS hA hX cv_RX2_74 (m070_X5_giveTo l dC dI cI cJ cII cJJ H.size 0 ad f3_unknowns f3_equations f2_roundSupports f2_stale f7_size f1_size v119 v120 f0_solved f4_blockCount f4_blockLength f4_lastIsFree f4_stale ai121 al (ad 17) (ad 19) w2 w3 (by omega) (by omega) (by omega) (by omega) (by omega) (by omega) (by omega) (by omega) (by omega) (by omega) (by omega) hI (RWX_17 ad) (RWX_19 ad) hw_w2 hw_w3) ⟨by decide +kernel, by decide +kernel⟩ rfl rfl (Or.inl rfl) (rest := []) rfl rfl rfl hl.1 rfl (Nat.le_of_ble_eq_true rfl) dX2_refresh_124 ⟨Nat.le_of_ble_eq_true rfl, Nat.le_of_ble_eq_true rfl⟩ (fun t H1 locs ht hB hS hFc => ?_)
      obtain ⟨v123, al124, gpr122_0, hP, -, hD⟩ := hB
      rw [ht] at hP
      have hD := hD.weaken (B := A) (fun k q _ h9 => hFc q.1 h9)
      clear ht
      generalize H1 = H at hP hS ⊢
      refine lv_aload_n hx hb dX2_refresh_127 rfl (lv_at hl 0 rfl) ?_
      refine gf (k := 1) hx hb hts inX2 hown hK hP k_176 rfl (by decide) rfl 11 rfl (.ref (ad 12)) rfl dX2_refresh_128 ?_
      refine k2V_v (q0 := 12) ⟨hx, hb, hml, hown, hts⟩ hK hP hD hS hA hX cv_RX2_78 (m063_X7_sort l dC dI cI cJ cII cJJ H.size g ad f3_unknowns f3_equations f2_roundSupports f2_stale v123 f1_size v119 v120 f0_solved f4_blockCount f4_blockLength f4_lastIsFree f4_stale ai121 al124 (ad 17) (ad 19) w2 w3 (by omega) (by omega) (by omega) (by omega) (by omega) (by omega) (by omega) (by omega) (by omega) (by omega) (by omega) hI (RWX_17 ad) (RWX_19 ad) hw_w2 hw_w3) ⟨by decide +kernel, by decide +kernel⟩ rfl rfl (Or.inr ⟨rfl, rfl, rfl⟩) (rest := []) rfl rfl rfl hl.1 rfl (Nat.le_of_ble_eq_true rfl) dX2_refresh_131 ⟨Nat.le_of_ble_eq_true rfl, Nat.le_of_ble_eq_true rfl⟩ (fun t H1 locs ht hB hS hFc => ?_)
      obtain ⟨al126, -, hP, -, hD⟩ := hB
      rw [ht] at hP
      have hD := hD.weaken (B := A) (fun k q _ h9 => hFc q.1 h9)
      clear ht
      generalize H1 = H at hP hS ⊢
      exact m162_X2_refresh_b134 C  f2_roundSupports f2_stale v123 f1_size v119 v120 f0_solved ai121 al126 (ad 17) (ad 19) w2 w3 _ _ _ (by omega) (by omega) (by omega) (by omega) (by omega) (by omega) (by omega) (by omega) (by omega) (by omega) (by omega) hI (RWX_17 ad) (RWX_19 ad) hw_w2 hw_w3 hP hD hS (lv_sub hl [0] rfl)
    · skip
      refine k2V_v (q0 := 22) ⟨hx, hb, hml, hown, hts⟩ hK hP hD hS hA hX cv_RX2_70 (m160_X5_walk l dC dI cI cJ cII cJJ H.size 0 ad f3_unknowns f3_equations f2_roundSupports f2_stale f7_size f1_size f5_keptSize f5_aheadSize f0_solved f4_blockCount f4_blockLength f4_lastIsFree f4_stale ai al (ad 18) (ad 19) w2 w3 L1 (by omega) (by omega) (by omega) (by omega) (by omega) (by omega) (by omega) (by omega) (by omega) (by omega) (by omega) (by omega) hI (RWX_18 ad) (RWX_19 ad) hw_w2 hw_w3) ⟨by decide +kernel, by decide +kernel⟩ rfl rfl (Or.inl rfl) (rest := []) rfl rfl rfl hl.1 rfl (Nat.le_of_ble_eq_true rfl) dX2_refresh_113 ⟨Nat.le_of_ble_eq_true rfl, Nat.le_of_ble_eq_true rfl⟩ (fun t H1 locs ht hB hS hFc => ?_)
      obtain ⟨v128, v129, ai130, ⟨gpr127_0, gpr127_1, hI⟩, hP, -, hD⟩ := hB
      rw [ht] at hP
      have hD := hD.weaken (B := A) (fun k q _ h9 => hFc q.1 h9)
      clear ht
      generalize H1 = H at hP hS ⊢
      refine lv_aload_n hx hb dX2_refresh_116 rfl (lv_at hl 0 rfl) ?_
      refine gf (k := 3) hx hb hts inX2 hown hK hP k_178 rfl (by decide) rfl 11 rfl (.ref (ad 22)) rfl dX2_refresh_117 ?_
      refine lv_aload_n hx hb dX2_refresh_120 rfl (lv_at hl 0 rfl) ?_
      refine gf (k := 1) hx hb hts inX2 hown hK hP k_176 rfl (by decide) rfl 11 rfl (.ref (ad 12)) rfl dX2_refresh_121 ?_
      refine k2V_v (q0 := 22) ⟨hx, hb, hml, hown, hts⟩ hK hP hD hS hA hX cv_RX2_74 (m070_X5_giveTo l dC dI cI cJ cII cJJ H.size 0 ad f3_unknowns f3_equations f2_roundSupports f2_stale f7_size f1_size v128 v129 f0_solved f4_blockCount f4_blockLength f4_lastIsFree f4_stale ai130 al (ad 18) (ad 19) w2 w3 (by omega) (by omega) (by omega) (by omega) (by omega) (by omega) (by omega) (by omega) (by omega) (by omega) (by omega) hI (RWX_18 ad) (RWX_19 ad) hw_w2 hw_w3) ⟨by decide +kernel, by decide +kernel⟩ rfl rfl (Or.inl rfl) (rest := []) rfl rfl rfl hl.1 rfl (Nat.le_of_ble_eq_true rfl) dX2_refresh_124 ⟨Nat.le_of_ble_eq_true rfl, Nat.le_of_ble_eq_true rfl⟩ (fun t H1 locs ht hB hS hFc => ?_)
      obtain ⟨v132, al133, gpr131_0, hP, -, hD⟩ := hB
      rw [ht] at hP
      have hD := hD.weaken (B := A) (fun k q _ h9 => hFc q.1 h9)
      clear ht
      generalize H1 = H at hP hS ⊢
      refine lv_aload_n hx hb dX2_refresh_127 rfl (lv_at hl 0 rfl) ?_
      refine gf (k := 1) hx hb hts inX2 hown hK hP k_176 rfl (by decide) rfl 11 rfl (.ref (ad 12)) rfl dX2_refresh_128 ?_
      refine k2V_v (q0 := 12) ⟨hx, hb, hml, hown, hts⟩ hK hP hD hS hA hX cv_RX2_78 (m063_X7_sort l dC dI cI cJ cII cJJ H.size g ad f3_unknowns f3_equations f2_roundSupports f2_stale v132 f1_size v128 v129 f0_solved f4_blockCount f4_blockLength f4_lastIsFree f4_stale ai130 al133 (ad 18) (ad 19) w2 w3 (by omega) (by omega) (by omega) (by omega) (by omega) (by omega) (by omega) (by omega) (by omega) (by omega) (by omega) hI (RWX_18 ad) (RWX_19 ad) hw_w2 hw_w3) ⟨by decide +kernel, by decide +kernel⟩ rfl rfl (Or.inr ⟨rfl, rfl, rfl⟩) (rest := []) rfl rfl rfl hl.1 rfl (Nat.le_of_ble_eq_true rfl) dX2_refresh_131 ⟨Nat.le_of_ble_eq_true rfl, Nat.le_of_ble_eq_true rfl⟩ (fun t H1 locs ht hB hS hFc => ?_)
      obtain ⟨al135, -, hP, -, hD⟩ := hB
      rw [ht] at hP
      have hD := hD.weaken (B := A) (fun k q _ h9 => hFc q.1 h9)
      clear ht
      generalize H1 = H at hP hS ⊢
      exact m162_X2_refresh_b134 C  f2_roundSupports f2_stale v132 f1_size v128 v129 f0_solved ai130 al135 (ad 18) (ad 19) w2 w3 _ _ _ (by omega) (by omega) (by omega) (by omega) (by omega) (by omega) (by omega) (by omega) (by omega) (by omega) (by omega) hI (RWX_18 ad) (RWX_19 ad) hw_w2 hw_w3 hP hD hS (lv_sub hl [0] rfl)
    · skip
      refine k2V_v (q0 := 22) ⟨hx, hb, hml, hown, hts⟩ hK hP hD hS hA hX cv_RX2_70 (m161_X5_walk l dC dI cI cJ cII cJJ H.size 0 ad f3_unknowns f3_equations f2_roundSupports f2_stale f7_size f1_size f5_keptSize f5_aheadSize f0_solved f4_blockCount f4_blockLength f4_lastIsFree f4_stale ai al (ad 19) (ad 19) w2 w3 L1 (by omega) (by omega) (by omega) (by omega) (by omega) (by omega) (by omega) (by omega) (by omega) (by omega) (by omega) (by omega) hI (RWX_19 ad) (RWX_19 ad) hw_w2 hw_w3) ⟨by decide +kernel, by decide +kernel⟩ rfl rfl (Or.inl rfl) (rest := []) rfl rfl rfl hl.1 rfl (Nat.le_of_ble_eq_true rfl) dX2_refresh_113 ⟨Nat.le_of_ble_eq_true rfl, Nat.le_of_ble_eq_true rfl⟩ (fun t H1 locs ht hB hS hFc => ?_)
      obtain ⟨v137, v138, ai139, ⟨gpr136_0, gpr136_1, hI⟩, hP, -, hD⟩ := hB
      rw [ht] at hP
      have hD := hD.weaken (B := A) (fun k q _ h9 => hFc q.1 h9)
      clear ht
      generalize H1 = H at hP hS ⊢
      refine lv_aload_n hx hb dX2_refresh_116 rfl (lv_at hl 0 rfl) ?_
      refine gf (k := 3) hx hb hts inX2 hown hK hP k_178 rfl (by decide) rfl 11 rfl (.ref (ad 22)) rfl dX2_refresh_117 ?_
      refine lv_aload_n hx hb dX2_refresh_120 rfl (lv_at hl 0 rfl) ?_
      refine gf (k := 1) hx hb hts inX2 hown hK hP k_176 rfl (by decide) rfl 11 rfl (.ref (ad 12)) rfl dX2_refresh_121 ?_
      refine k2V_v (q0 := 22) ⟨hx, hb, hml, hown, hts⟩ hK hP hD hS hA hX cv_RX2_74 (m070_X5_giveTo l dC dI cI cJ cII cJJ H.size 0 ad f3_unknowns f3_equations f2_roundSupports f2_stale f7_size f1_size v137 v138 f0_solved f4_blockCount f4_blockLength f4_lastIsFree f4_stale ai139 al (ad 19) (ad 19) w2 w3 (by omega) (by omega) (by omega) (by omega) (by omega) (by omega) (by omega) (by omega) (by omega) (by omega) (by omega) hI (RWX_19 ad) (RWX_19 ad) hw_w2 hw_w3) ⟨by decide +kernel, by decide +kernel⟩ rfl rfl (Or.inl rfl) (rest := []) rfl rfl rfl hl.1 rfl (Nat.le_of_ble_eq_true rfl) dX2_refresh_124 ⟨Nat.le_of_ble_eq_true rfl, Nat.le_of_ble_eq_true rfl⟩ (fun t H1 locs ht hB hS hFc => ?_)
      obtain ⟨v141, al142, gpr140_0, hP, -, hD⟩ := hB
      rw [ht] at hP
      have hD := hD.weaken (B := A) (fun k q _ h9 => hFc q.1 h9)
      clear ht
      generalize H1 = H at hP hS ⊢
      refine lv_aload_n hx hb dX2_refresh_127 rfl (lv_at hl 0 rfl) ?_
      refine gf (k := 1) hx hb hts inX2 hown hK hP k_176 rfl (by decide) rfl 11 rfl (.ref (ad 12)) rfl dX2_refresh_128 ?_
      refine k2V_v (q0 := 12) ⟨hx, hb, hml, hown, hts⟩ hK hP hD hS hA hX cv_RX2_78 (m063_X7_sort l dC dI cI cJ cII cJJ H.size g ad f3_unknowns f3_equations f2_roundSupports f2_stale v141 f1_size v137 v138 f0_solved f4_blockCount f4_blockLength f4_lastIsFree f4_stale ai139 al142 (ad 19) (ad 19) w2 w3 (by omega) (by omega) (by omega) (by omega) (by omega) (by omega) (by omega) (by omega) (by omega) (by omega) (by omega) hI (RWX_19 ad) (RWX_19 ad) hw_w2 hw_w3) ⟨by decide +kernel, by decide +kernel⟩ rfl rfl (Or.inr ⟨rfl, rfl, rfl⟩) (rest := []) rfl rfl rfl hl.1 rfl (Nat.le_of_ble_eq_true rfl) dX2_refresh_131 ⟨Nat.le_of_ble_eq_true rfl, Nat.le_of_ble_eq_true rfl⟩ (fun t H1 locs ht hB hS hFc => ?_)
      obtain ⟨al144, -, hP, -, hD⟩ := hB
      rw [ht] at hP
      have hD := hD.weaken (B := A) (fun k q _ h9 => hFc q.1 h9)
      clear ht
      generalize H1 = H at hP hS ⊢
      exact m162_X2_refresh_b134 C  f2_roundSupports f2_stale v141 f1_size v137 v138 f0_solved ai139 al144 (ad 19) (ad 19) w2 w3 _ _ _ (by omega) (by omega) (by omega) (by omega) (by omega) (by omega) (by omega) (by omega) (by omega) (by omega) (by omega) hI (RWX_19 ad) (RWX_19 ad) hw_w2 hw_w3 hP hD hS (lv_sub hl [0] rfl)
set_option maxRecDepth 100000 in
set_option maxHeartbeats 4000000 in
theorem m162_X2_refresh_b78 {p : Program} {l : Launch} {e : Env} {s : State} {m : MethodId} {args : Array Value} {below : List Frame} {meth : Method} {c : Code} {A : Nat → Prop} {dC : Nat → ClassId} {dI : Nat → Nat → Nat} {cI cJ cII cJJ : ClassId} {ad : Nat → Nat} {g : Nat} {f3_unknowns f3_equations f4_blockCount f4_blockLength f4_lastIsFree f4_stale : Int32} (C : Cx p c s m meth args A dC dI (TY cI cJ cII cJJ) cX2_refresh none 2 RX2 1 g) : ∀ (S0 f2_roundSupports f2_stale f7_size f1_size f5_keptSize f5_aheadSize f0_solved : Int32) (ai : Nat → Nat → Int32) (al : Nat → Nat → Int64) (w0 w1 w2 w3 : Nat) (H : Heap) (locs : List Loc) (ls : Array Slot), (0 ≤ S0.toInt ∧ S0.toInt ≤ 1) → (1 ≤ f3_unknowns.toInt ∧ f3_unknowns.toInt ≤ 4) → (0 ≤ f3_equations.toInt ∧ f3_equations.toInt ≤ 3) → (0 ≤ f2_stale.toInt ∧ f2_stale.toInt ≤ 0) → (0 ≤ f7_size.toInt ∧ f7_size.toInt ≤ 0) → (1 ≤ f1_size.toInt ∧ f1_size.toInt ≤ 2) → (0 ≤ f5_keptSize.toInt ∧ f5_keptSize.toInt ≤ 128) → (0 ≤ f5_aheadSize.toInt ∧ f5_aheadSize.toInt ≤ 128) → (0 ≤ f4_blockCount.toInt ∧ f4_blockCount.toInt ≤ 9261) → (0 ≤ f4_blockLength.toInt ∧ f4_blockLength.toInt ≤ 21) → (0 ≤ f4_lastIsFree.toInt ∧ f4_lastIsFree.toInt ≤ 1) → (0 ≤ f4_stale.toInt ∧ f4_stale.toInt ≤ 1) → IAX ai → RWX ad w0 → RWX ad w1 → RWX ad w2 → RWX ad w3 → va_P (dC, dI) vwCl (WX cI cJ cII cJJ ad f3_unknowns f3_equations f2_roundSupports f2_stale f7_size f1_size f5_keptSize f5_aheadSize f0_solved f4_blockCount f4_blockLength f4_lastIsFree f4_stale ai al w0 w1 w2 w3) H → va_D A (WX cI cJ cII cJJ ad f3_unknowns f3_equations f2_roundSupports f2_stale f7_size f1_size f5_keptSize f5_aheadSize f0_solved f4_blockCount f4_blockLength f4_lastIsFree f4_stale ai al w0 w1 w2 w3) → va_S A s.heap H locs → lv_has ls 2 [(0, .ref (ad 11))] → W p l e ({ frames := 13, cells := 0, slots := 0, locals := 740 } : Room) s m args below meth c H locs 0 0 (MQ below (Q_m162_X2_refresh dC dI cI cJ cII cJJ ad f3_unknowns f3_equations f4_blockCount f4_blockLength f4_lastIsFree f4_stale A) args s 0 0 A) (F0 m 78 ls [.int S0]) := by
  obtain ⟨hx, hb, hr, hml, hown, hts, hk, hA, hK, hX⟩ := id C
  intro S0 f2_roundSupports f2_stale f7_size f1_size f5_keptSize f5_aheadSize f0_solved ai al w0 w1 w2 w3 H locs ls h0 h1 h2 h3 h4 h5 h6 h7 h8 h9 h10 h11 hI hw_w0 hw_w1 hw_w2 hw_w3 hP hD hS hl
  refine lv_istore_n (lv' := [(1, .int S0), (0, .ref (ad 11))]) hx hb dX2_refresh_78 rfl hl (by decide) rfl (fun ls hl => ?_)
  refine lv_iload_n hx hb dX2_refresh_79 rfl (lv_at hl 0 rfl) ?_
  refine lv_if_eq (tgt := 90) hx hb dX2_refresh_80 (by decide) (fun c1 => ?_) (fun c1 => ?_)
  · have c1 := j_eq (a := S0.toInt) (b := 0) rfl (by decide +kernel) c1
    exact m162_X2_refresh_b90 C  S0 f2_roundSupports f2_stale f7_size f1_size f5_keptSize f5_aheadSize f0_solved ai al w0 w1 w2 w3 _ _ _ (by omega) (by omega) (by omega) (by omega) (by omega) (by omega) (by omega) (by omega) (by omega) (by omega) (by omega) (by omega) hI hw_w0 hw_w1 hw_w2 hw_w3 hP hD hS (lv_sub hl [1, 0] rfl)
  · have c1 := j_ne (a := S0.toInt) (b := 0) rfl (by decide +kernel) c1
    refine lv_aload_n hx hb dX2_refresh_83 rfl (lv_at hl 1 rfl) ?_
    refine gf (k := 2) hx hb hts inX2 hown hK hP k_177 rfl (by decide) rfl 11 rfl (.ref (ad 14)) rfl dX2_refresh_84 ?_
    refine k2V_v (q0 := 14) ⟨hx, hb, hml, hown, hts⟩ hK hP hD hS hA hX cv_RX2_63 (m136_X1_straighten l dC dI cI cJ cII cJJ H.size g ad f3_unknowns f3_equations f2_roundSupports f2_stale f7_size f1_size f5_keptSize f5_aheadSize f0_solved f4_blockCount f4_blockLength f4_lastIsFree f4_stale ai al w0 w1 w2 w3 (by omega) (by omega) (by omega) (by omega) (by omega) (by omega) (by omega) (by omega) (by omega) (by omega) (by omega) hI hw_w0 hw_w1 hw_w2 hw_w3) ⟨by decide +kernel, by decide +kernel⟩ rfl rfl (Or.inr ⟨rfl, rfl, rfl⟩) (rest := []) rfl rfl rfl hl.1 rfl (Nat.le_of_ble_eq_true rfl) dX2_refresh_87 ⟨Nat.le_of_ble_eq_true rfl, Nat.le_of_ble_eq_true rfl⟩ (fun t H1 locs ht hB hS hFc => ?_)
    obtain ⟨v3, ai4, al5, w6, w7, w8, w9, ⟨gpr2_0, hI, hw_w6, hw_w7, hw_w8, hw_w9⟩, hP, -, hD⟩ := hB
    rw [ht] at hP
    have hD := hD.weaken (B := A) (fun k q _ h9 => hFc q.1 h9)
    clear ht
    generalize H1 = H at hP hS ⊢
    exact m162_X2_refresh_b90 C  S0 f2_roundSupports f2_stale f7_size v3 f5_keptSize f5_aheadSize f0_solved ai4 al5 w6 w7 w8 w9 _ _ _ (by omega) (by omega) (by omega) (by omega) (by omega) (by omega) (by omega) (by omega) (by omega) (by omega) (by omega) (by omega) hI hw_w6 hw_w7 hw_w8 hw_w9 hP hD hS (lv_sub hl [1, 0] rfl)
set_option maxRecDepth 100000 in
set_option maxHeartbeats 4000000 in
theorem m162_X2_refresh (l : Launch) (dC : Nat → ClassId) (dI : Nat → Nat → Nat) (cI cJ cII cJJ : ClassId) (sz g : Nat) (ad : Nat → Nat) (f3_unknowns f3_equations f2_roundSupports f2_stale f7_size f1_size f5_keptSize f5_aheadSize f0_solved f4_blockCount f4_blockLength f4_lastIsFree f4_stale : Int32) (ai : Nat → Nat → Int32) (al : Nat → Nat → Int64) (w0 w1 w2 w3 : Nat) (h_f3_unknowns : (1 ≤ f3_unknowns.toInt ∧ f3_unknowns.toInt ≤ 4)) (h_f3_equations : (0 ≤ f3_equations.toInt ∧ f3_equations.toInt ≤ 3)) (h_f2_stale : (0 ≤ f2_stale.toInt ∧ f2_stale.toInt ≤ 1)) (h_f7_size : (0 ≤ f7_size.toInt ∧ f7_size.toInt ≤ 256)) (h_f1_size : (0 ≤ f1_size.toInt ∧ f1_size.toInt ≤ 4)) (h_f5_keptSize : (0 ≤ f5_keptSize.toInt ∧ f5_keptSize.toInt ≤ 128)) (h_f5_aheadSize : (0 ≤ f5_aheadSize.toInt ∧ f5_aheadSize.toInt ≤ 128)) (h_f4_blockCount : (0 ≤ f4_blockCount.toInt ∧ f4_blockCount.toInt ≤ 9261)) (h_f4_blockLength : (0 ≤ f4_blockLength.toInt ∧ f4_blockLength.toInt ≤ 21)) (h_f4_lastIsFree : (0 ≤ f4_lastIsFree.toInt ∧ f4_lastIsFree.toInt ≤ 1)) (h_f4_stale : (0 ≤ f4_stale.toInt ∧ f4_stale.toInt ≤ 1)) (hI : IAX ai) (hw_w0 : RWX ad w0) (hw_w1 : RWX ad w1) (hw_w2 : RWX ad w2) (hw_w3 : RWX ad w3) : Met l yX2_refresh (.code yX2_refresh cX2_refresh 2 none :: TT) ({ frames := 13, cells := 0, slots := 0, locals := 740 } : Room) (PcS dC dI (TY cI cJ cII cJJ) [.ref (ad 11)] (WX cI cJ cII cJJ ad f3_unknowns f3_equations f2_roundSupports f2_stale f7_size f1_size f5_keptSize f5_aheadSize f0_solved f4_blockCount f4_blockLength f4_lastIsFree f4_stale ai al w0 w1 w2 w3) sz 1 g) (Q_m162_X2_refresh dC dI cI cJ cII cJJ ad f3_unknowns f3_equations f4_blockCount f4_blockLength f4_lastIsFree f4_stale (va_A (WX cI cJ cII cJJ ad f3_unknowns f3_equations f2_roundSupports f2_stale f7_size f1_size f5_keptSize f5_aheadSize f0_solved f4_blockCount f4_blockLength f4_lastIsFree f4_stale ai al w0 w1 w2 w3) sz)) 0 0 (va_A (WX cI cJ cII cJJ ad f3_unknowns f3_equations f2_roundSupports f2_stale f7_size f1_size f5_keptSize f5_aheadSize f0_solved f4_blockCount f4_blockLength f4_lastIsFree f4_stale ai al w0 w1 w2 w3) sz) := by
  refine SM.of (y := yX2_refresh) (maxL := 2) (av := [.ref (ad 11)]) (Q_m162_X2_refresh dC dI cI cJ cII cJJ ad f3_unknowns f3_equations f4_blockCount f4_blockLength f4_lastIsFree f4_stale) (by decide +kernel) (Nat.le_of_ble_eq_true rfl) (fun p e s m below meth c A ls hx hb hr hml hown hts hk hnm hA hK hP hD hS hX hl => ?_)
  have C : Cx p c s m meth (([.ref (ad 11)] : List Value).toArray) A dC dI (TY cI cJ cII cJJ) cX2_refresh none 2 RX2 1 g := ⟨hx, hb, hr, hml, hown, hts, hk, hA, hK, hX⟩
  have hown : s.vm.findClass RX2 = some m.cls := hown
  have hl : lv_has ls 2 [(0, .ref (ad 11))] := hl
  obtain ⟨H, hH⟩ : ∃ q, q = s.heap := ⟨_, rfl⟩
  rw [← hH] at hP
  have hS : va_S A s.heap H [] := by rw [hH]; exact hS
  rw [← hH]
  refine lv_aload_n hx hb dX2_refresh_0 rfl (lv_at hl 0 rfl) ?_
  refine gf (k := 6) hx hb hts inX2 hown hK hP k_181 rfl (by decide) rfl 11 rfl (.int f2_stale) rfl dX2_refresh_1 ?_
  refine lv_if_ne (tgt := 8) hx hb dX2_refresh_4 (by decide) (fun c1 => ?_) (fun c1 => ?_)
  · have c1 := j_ne (a := f2_stale.toInt) (b := 0) rfl (by decide +kernel) c1
    refine lv_aload_n hx hb dX2_refresh_8 rfl (lv_at hl 0 rfl) ?_
    refine lv_iconst (v := 0) hx hb dX2_refresh_9 (by decide) ?_
    refine pf (k := 6) hx hb hts inX2 tyX2_ok nmX2 hown hK hP hD hS k_181 rfl (by decide) rfl rfl 11 rfl rfl rfl (Nat.le_of_ble_eq_true rfl) dX2_refresh_10 (W' := (WX cI cJ cII cJJ ad f3_unknowns f3_equations f2_roundSupports 0 f7_size f1_size f5_keptSize f5_aheadSize f0_solved f4_blockCount f4_blockLength f4_lastIsFree f4_stale ai al w0 w1 w2 w3)) rfl (fun H locs hP hD hS => ?_)
    refine lv_aload_n hx hb dX2_refresh_13 rfl (lv_at hl 0 rfl) ?_
    refine gf (k := 1) hx hb hts inX2 hown hK hP k_176 rfl (by decide) rfl 11 rfl (.ref (ad 12)) rfl dX2_refresh_14 ?_
    refine k2V_v (q0 := 12) ⟨hx, hb, hml, hown, hts⟩ hK hP hD hS hA hX cv_RX2_49 (m022_X7_clear l dC dI cI cJ cII cJJ H.size 0 ad f3_unknowns f3_equations f2_roundSupports 0 f7_size f1_size f5_keptSize f5_aheadSize f0_solved f4_blockCount f4_blockLength f4_lastIsFree f4_stale ai al w0 w1 w2 w3 (by omega) (by omega) (by decide +kernel) (by omega) (by omega) (by omega) (by omega) (by omega) (by omega) (by omega) (by omega) hI hw_w0 hw_w1 hw_w2 hw_w3) ⟨by decide +kernel, by decide +kernel⟩ rfl rfl (Or.inl rfl) (rest := []) rfl rfl rfl hl.1 rfl (Nat.le_of_ble_eq_true rfl) dX2_refresh_17 ⟨Nat.le_of_ble_eq_true rfl, Nat.le_of_ble_eq_true rfl⟩ (fun t H1 locs ht hB hS hFc => ?_)
    obtain ⟨v3, gpr2_0, hP, -, hD⟩ := hB
    rw [ht] at hP
    have hD := hD.weaken (B := A) (fun k q _ h9 => hFc q.1 h9)
    clear ht
    generalize H1 = H at hP hS ⊢
    refine lv_aload_n hx hb dX2_refresh_20 rfl (lv_at hl 0 rfl) ?_
    refine gf (k := 2) hx hb hts inX2 hown hK hP k_177 rfl (by decide) rfl 11 rfl (.ref (ad 14)) rfl dX2_refresh_21 ?_
    refine lv_aload_n hx hb dX2_refresh_24 rfl (lv_at hl 0 rfl) ?_
    refine gf (k := 0) hx hb hts inX2 hown hK hP k_175 rfl (by decide) rfl 11 rfl (.ref (ad 6)) rfl dX2_refresh_25 ?_
    refine k2V_v (q0 := 14) ⟨hx, hb, hml, hown, hts⟩ hK hP hD hS hA hX cv_RX2_52 (m144_X1_solve l dC dI cI cJ cII cJJ H.size g ad f3_unknowns f3_equations f2_roundSupports 0 v3 f1_size f5_keptSize f5_aheadSize f0_solved f4_blockCount f4_blockLength f4_lastIsFree f4_stale ai al w0 w1 w2 w3 (by omega) (by omega) (by decide +kernel) (by omega) (by omega) (by omega) (by omega) (by omega) (by omega) (by omega) (by omega) hI hw_w0 hw_w1 hw_w2 hw_w3) ⟨by decide +kernel, by decide +kernel⟩ rfl rfl (Or.inr ⟨rfl, rfl, rfl⟩) (rest := []) rfl rfl rfl hl.1 rfl (Nat.le_of_ble_eq_true rfl) dX2_refresh_28 ⟨Nat.le_of_ble_eq_true rfl, Nat.le_of_ble_eq_true rfl⟩ (fun t H1 locs ht hB hS hFc => ?_)
    obtain ⟨v5, al6, w7, w8, w9, w10, ⟨gpr4_0, hw_w7, hw_w8, hw_w9, hw_w10⟩, hP, -, hD⟩ := hB
    rw [ht] at hP
    have hD := hD.weaken (B := A) (fun k q _ h9 => hFc q.1 h9)
    clear ht
    generalize H1 = H at hP hS ⊢
    refine lv_aload_n hx hb dX2_refresh_31 rfl (lv_at hl 0 rfl) ?_
    refine gf (k := 2) hx hb hts inX2 hown hK hP k_177 rfl (by decide) rfl 11 rfl (.ref (ad 14)) rfl dX2_refresh_32 ?_
    refine gf (k := 3) hx hb hts inX1 hown hK hP k_121 rfl (by decide) rfl 14 rfl (.int v5) rfl dX2_refresh_35 ?_
    refine lv_iconst (v := 2) hx hb dX2_refresh_38 (by decide) ?_
    refine lv_icmp_le (tgt := 52) hx hb dX2_refresh_39 (by decide) (fun c11 => ?_) (fun c11 => ?_)
    · have c11 := j_le (a := v5.toInt) (b := 2) rfl (by decide +kernel) c11
      refine lv_aload_n hx hb dX2_refresh_52 rfl (lv_at hl 0 rfl) ?_
      refine gf (k := 2) hx hb hts inX2 hown hK hP k_177 rfl (by decide) rfl 11 rfl (.ref (ad 14)) rfl dX2_refresh_53 ?_
      refine gf (k := 3) hx hb hts inX1 hown hK hP k_121 rfl (by decide) rfl 14 rfl (.int v5) rfl dX2_refresh_56 ?_
      refine lv_if_le (tgt := 134) hx hb dX2_refresh_59 (by decide) (fun c12 => ?_) (fun c12 => ?_)
      · have c12 := j_le (a := v5.toInt) (b := 0) rfl (by decide +kernel) c12
        exact m162_X2_refresh_b134 C  f2_roundSupports 0 v3 v5 f5_keptSize f5_aheadSize f0_solved ai al6 w7 w8 w9 w10 _ _ _ (by first | omega | decide | (simp only [show (0 : Int32).toInt = 0 from by decide +kernel]; omega)) (by first | omega | decide | (simp only [show (0 : Int32).toInt = 0 from by decide +kernel]; omega)) (by first | omega | decide | (simp only [show (0 : Int32).toInt = 0 from by decide +kernel]; omega)) (by first | omega | decide | (simp only [show (0 : Int32).toInt = 0 from by decide +kernel]; omega)) (by first | omega | decide | (simp only [show (0 : Int32).toInt = 0 from by decide +kernel]; omega)) (by first | omega | decide | (simp only [show (0 : Int32).toInt = 0 from by decide +kernel]; omega)) (by first | omega | decide | (simp only [show (0 : Int32).toInt = 0 from by decide +kernel]; omega)) (by first | omega | decide | (simp only [show (0 : Int32).toInt = 0 from by decide +kernel]; omega)) (by first | omega | decide | (simp only [show (0 : Int32).toInt = 0 from by decide +kernel]; omega)) (by first | omega | decide | (simp only [show (0 : Int32).toInt = 0 from by decide +kernel]; omega)) (by first | omega | decide | (simp only [show (0 : Int32).toInt = 0 from by decide +kernel]; omega)) hI hw_w7 hw_w8 hw_w9 hw_w10 hP hD hS (lv_sub hl [0] rfl)
      · have c12 := j_nle (a := v5.toInt) (b := 0) rfl (by decide +kernel) c12
        refine lv_aload_n hx hb dX2_refresh_62 rfl (lv_at hl 0 rfl) ?_
        refine gf (k := 2) hx hb hts inX2 hown hK hP k_177 rfl (by decide) rfl 11 rfl (.ref (ad 14)) rfl dX2_refresh_63 ?_
        refine gf (k := 3) hx hb hts inX1 hown hK hP k_121 rfl (by decide) rfl 14 rfl (.int v5) rfl dX2_refresh_66 ?_
        refine lv_iconst (v := 2) hx hb dX2_refresh_69 (by decide) ?_
        refine lv_icmp_ne (tgt := 77) hx hb dX2_refresh_70 (by decide) (fun c13 => ?_) (fun c13 => ?_)
        · have c13 := j_ne (a := v5.toInt) (b := 2) rfl (by decide +kernel) c13
          refine lv_iconst (v := 0) hx hb dX2_refresh_77 (by decide) ?_
          exact m162_X2_refresh_b78 C  0 f2_roundSupports 0 v3 v5 f5_keptSize f5_aheadSize f0_solved ai al6 w7 w8 w9 w10 _ _ _ (by first | omega | decide | (simp only [show (0 : Int32).toInt = 0 from by decide +kernel]; omega)) (by first | omega | decide | (simp only [show (0 : Int32).toInt = 0 from by decide +kernel]; omega)) (by first | omega | decide | (simp only [show (0 : Int32).toInt = 0 from by decide +kernel]; omega)) (by first | omega | decide | (simp only [show (0 : Int32).toInt = 0 from by decide +kernel]; omega)) (by first | omega | decide | (simp only [show (0 : Int32).toInt = 0 from by decide +kernel]; omega)) (by first | omega | decide | (simp only [show (0 : Int32).toInt = 0 from by decide +kernel]; omega)) (by first | omega | decide | (simp only [show (0 : Int32).toInt = 0 from by decide +kernel]; omega)) (by first | omega | decide | (simp only [show (0 : Int32).toInt = 0 from by decide +kernel]; omega)) (by first | omega | decide | (simp only [show (0 : Int32).toInt = 0 from by decide +kernel]; omega)) (by first | omega | decide | (simp only [show (0 : Int32).toInt = 0 from by decide +kernel]; omega)) (by first | omega | decide | (simp only [show (0 : Int32).toInt = 0 from by decide +kernel]; omega)) (by first | omega | decide | (simp only [show (0 : Int32).toInt = 0 from by decide +kernel]; omega)) hI hw_w7 hw_w8 hw_w9 hw_w10 hP hD hS (lv_sub hl [0] rfl)
        · have c13 := j_eq (a := v5.toInt) (b := 2) rfl (by decide +kernel) c13
          refine lv_iconst (v := 1) hx hb dX2_refresh_73 (by decide) ?_
          refine lv_goto (tgt := 78) hx hb dX2_refresh_74 (by decide) ?_
          exact m162_X2_refresh_b78 C  1 f2_roundSupports 0 v3 v5 f5_keptSize f5_aheadSize f0_solved ai al6 w7 w8 w9 w10 _ _ _ (by first | omega | decide | (simp only [show (0 : Int32).toInt = 0 from by decide +kernel, show (1 : Int32).toInt = 1 from by decide +kernel]; omega)) (by first | omega | decide | (simp only [show (0 : Int32).toInt = 0 from by decide +kernel, show (1 : Int32).toInt = 1 from by decide +kernel]; omega)) (by first | omega | decide | (simp only [show (0 : Int32).toInt = 0 from by decide +kernel, show (1 : Int32).toInt = 1 from by decide +kernel]; omega)) (by first | omega | decide | (simp only [show (0 : Int32).toInt = 0 from by decide +kernel, show (1 : Int32).toInt = 1 from by decide +kernel]; omega)) (by first | omega | decide | (simp only [show (0 : Int32).toInt = 0 from by decide +kernel, show (1 : Int32).toInt = 1 from by decide +kernel]; omega)) (by first | omega | decide | (simp only [show (0 : Int32).toInt = 0 from by decide +kernel, show (1 : Int32).toInt = 1 from by decide +kernel]; omega)) (by first | omega | decide | (simp only [show (0 : Int32).toInt = 0 from by decide +kernel, show (1 : Int32).toInt = 1 from by decide +kernel]; omega)) (by first | omega | decide | (simp only [show (0 : Int32).toInt = 0 from by decide +kernel, show (1 : Int32).toInt = 1 from by decide +kernel]; omega)) (by first | omega | decide | (simp only [show (0 : Int32).toInt = 0 from by decide +kernel, show (1 : Int32).toInt = 1 from by decide +kernel]; omega)) (by first | omega | decide | (simp only [show (0 : Int32).toInt = 0 from by decide +kernel, show (1 : Int32).toInt = 1 from by decide +kernel]; omega)) (by first | omega | decide | (simp only [show (0 : Int32).toInt = 0 from by decide +kernel, show (1 : Int32).toInt = 1 from by decide +kernel]; omega)) (by first | omega | decide | (simp only [show (0 : Int32).toInt = 0 from by decide +kernel, show (1 : Int32).toInt = 1 from by decide +kernel]; omega)) hI hw_w7 hw_w8 hw_w9 hw_w10 hP hD hS (lv_sub hl [0] rfl)
    · have c11 := j_nle (a := v5.toInt) (b := 2) rfl (by decide +kernel) c11
      refine lv_aload_n hx hb dX2_refresh_42 rfl (lv_at hl 0 rfl) ?_
      refine gf (k := 4) hx hb hts inX2 hown hK hP k_179 rfl (by decide) rfl 11 rfl (.ref (ad 25)) rfl dX2_refresh_43 ?_
      refine k2V_v (q0 := 25) ⟨hx, hb, hml, hown, hts⟩ hK hP hD hS hA hX cv_RX2_60 (m105_X0_search l dC dI cI cJ cII cJJ H.size 0 ad f3_unknowns f3_equations f2_roundSupports 0 v3 v5 f5_keptSize f5_aheadSize f0_solved f4_blockCount f4_blockLength f4_lastIsFree f4_stale ai al6 w7 w8 w9 w10 (by omega) (by omega) (by decide +kernel) (by omega) (by omega) (by omega) (by omega) (by omega) (by omega) (by omega) (by omega) hI hw_w7 hw_w8 hw_w9 hw_w10) ⟨by decide +kernel, by decide +kernel⟩ rfl rfl (Or.inl rfl) (rest := []) rfl rfl rfl hl.1 rfl (Nat.le_of_ble_eq_true rfl) dX2_refresh_46 ⟨Nat.le_of_ble_eq_true rfl, Nat.le_of_ble_eq_true rfl⟩ (fun t H1 locs ht hB hS hFc => ?_)
      obtain ⟨v15, v16, ai17, al18, ⟨gpr14_0, gpr14_1, hI⟩, hP, -, hD⟩ := hB
      rw [ht] at hP
      have hD := hD.weaken (B := A) (fun k q _ h9 => hFc q.1 h9)
      clear ht
      generalize H1 = H at hP hS ⊢
      refine lv_goto (tgt := 134) hx hb dX2_refresh_49 (by decide) ?_
      exact m162_X2_refresh_b134 C  f2_roundSupports 0 v15 v5 f5_keptSize f5_aheadSize v16 ai17 al18 w7 w8 w9 w10 _ _ _ (by first | omega | decide | (simp only [show (0 : Int32).toInt = 0 from by decide +kernel]; omega)) (by first | omega | decide | (simp only [show (0 : Int32).toInt = 0 from by decide +kernel]; omega)) (by first | omega | decide | (simp only [show (0 : Int32).toInt = 0 from by decide +kernel]; omega)) (by first | omega | decide | (simp only [show (0 : Int32).toInt = 0 from by decide +kernel]; omega)) (by first | omega | decide | (simp only [show (0 : Int32).toInt = 0 from by decide +kernel]; omega)) (by first | omega | decide | (simp only [show (0 : Int32).toInt = 0 from by decide +kernel]; omega)) (by first | omega | decide | (simp only [show (0 : Int32).toInt = 0 from by decide +kernel]; omega)) (by first | omega | decide | (simp only [show (0 : Int32).toInt = 0 from by decide +kernel]; omega)) (by first | omega | decide | (simp only [show (0 : Int32).toInt = 0 from by decide +kernel]; omega)) (by first | omega | decide | (simp only [show (0 : Int32).toInt = 0 from by decide +kernel]; omega)) (by first | omega | decide | (simp only [show (0 : Int32).toInt = 0 from by decide +kernel]; omega)) hI hw_w7 hw_w8 hw_w9 hw_w10 hP hD hS (lv_sub hl [0] rfl)
  · have c1 := j_eq (a := f2_stale.toInt) (b := 0) rfl (by decide +kernel) c1
    exact r2_v hx hb hr hk hS dX2_refresh_7 (fun t ht hW => ⟨f2_roundSupports, f2_stale, f7_size, f1_size, f5_keptSize, f5_aheadSize, f0_solved, ai, al, w0, w1, w2, w3, ⟨(by first | omega | decide | exact Or.inl (by decide) | exact Or.inr (by omega)), (by first | omega | decide | exact Or.inl (by decide) | exact Or.inr (by omega)), (by first | omega | decide | exact Or.inl (by decide) | exact Or.inr (by omega)), (by first | omega | decide | exact Or.inl (by decide) | exact Or.inr (by omega)), (by first | omega | decide | exact Or.inl (by decide) | exact Or.inr (by omega)), hI, hw_w0, hw_w1, hw_w2, hw_w3⟩, by rw [ht]; exact hP, va_K.moved hW.alike hK, hD⟩)
