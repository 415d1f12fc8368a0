def Q_r007_X9_putIn (dC : Nat → ClassId) (dI : Nat → Nat → Nat) (cI cJ cII cJJ : ClassId) (ad : Nat → Nat) (f9_size f9_equations f9_areSteps f9_foundMany f9_many f9_rank f9_freeMany f9_arePlans f9_planMany : Int32) (ai : Nat → Nat → Int32) (al0 : Nat → Nat → Int64) (x1 : Int32) : (Nat → Prop) → Array Value → State → Outcome → State → Prop := fun A => QL (fun r t => ∃ (n_al : Nat → Nat → Int64), (r.toInt = dt f9_rank.toInt.toNat (cM ai al0 x1.toInt.toNat) ∧ (-1000000000000000 ≤ r.toInt ∧ r.toInt ≤ 1000000000000000) ∧ FL [17] al0 n_al) ∧ WO dC dI (TY cI cJ cII cJJ) (WM cI cJ cII cJJ ad f9_size f9_equations f9_areSteps f9_foundMany f9_many f9_rank f9_freeMany f9_arePlans f9_planMany ai n_al) A t) A
set_option maxRecDepth 100000 in
set_option maxHeartbeats 4000000 in
theorem r007_X9_putIn_b68 {p : Program} {l : Launch} {e : Env} {s : State} {m : MethodId} {args : Array Value} {below : List Frame} {meth : Method} {c : Code} {A : Nat → Prop} {dC : Nat → ClassId} {dI : Nat → Nat → Nat} {cI cJ cII cJJ : ClassId} {ad : Nat → Nat} {g : Nat} {f9_size f9_equations f9_areSteps f9_foundMany f9_many f9_rank f9_freeMany f9_arePlans f9_planMany : Int32} {ai : Nat → Nat → Int32} {al0 : Nat → Nat → Int64} {x1 : Int32} (C : Cx p c s m meth args A dC dI (TY cI cJ cII cJJ) cX9_putIn (some .long) 6 RX9 0 g) (h_x1 : (0 ≤ x1.toInt ∧ x1.toInt ≤ 2)) (hp0 : (∀ j : Nat, (j : Int) < f9_rank.toInt → -31104 ≤ (al0 18 j).toInt ∧ (al0 18 j).toInt ≤ 31104)) (n8 : Nat) (K8 : ∀ (L4 : Int32) (al : Nat → Nat → Int64) (H : Heap) (locs : List Loc) (ls : Array Slot), (0 ≤ L4.toInt ∧ L4.toInt ≤ 3) → (1 ≤ f9_size.toInt ∧ f9_size.toInt ≤ 4) → (0 ≤ f9_equations.toInt ∧ f9_equations.toInt ≤ 3) → (0 ≤ f9_areSteps.toInt ∧ f9_areSteps.toInt ≤ 1) → (0 ≤ f9_foundMany.toInt ∧ f9_foundMany.toInt ≤ 99999) → (0 ≤ f9_many.toInt ∧ f9_many.toInt ≤ 6000) → (1 ≤ f9_rank.toInt ∧ f9_rank.toInt ≤ 3) → (0 ≤ f9_freeMany.toInt ∧ f9_freeMany.toInt ≤ 4) → (0 ≤ f9_arePlans.toInt ∧ f9_arePlans.toInt ≤ 1) → (0 ≤ f9_planMany.toInt ∧ f9_planMany.toInt ≤ 194481) → SQ ai al0 al x1.toInt f9_rank.toInt L4.toInt 0 → f9_rank.toInt - L4.toInt < (n8 : Int) → (0 : Int) < (n8 : Int) → IAM ai → FL [17] al0 al → va_P (dC, dI) vwCl (WM cI cJ cII cJJ ad f9_size f9_equations f9_areSteps f9_foundMany f9_many f9_rank f9_freeMany f9_arePlans f9_planMany ai al) H → va_D A (WM cI cJ cII cJJ ad f9_size f9_equations f9_areSteps f9_foundMany f9_many f9_rank f9_freeMany f9_arePlans f9_planMany ai al) → va_S A s.heap H locs → lv_has ls 6 [(0, .ref (ad 22)), (1, .int x1), (2, .ref (ad 18)), (3, .ref (ad 17)), (4, .int L4)] → W p l e ({ frames := 3, cells := 0, slots := 0, locals := 140 } : Room) s m args below meth c H locs 0 0 (MQ below (Q_r007_X9_putIn dC dI cI cJ cII cJJ ad f9_size f9_equations f9_areSteps f9_foundMany f9_many f9_rank f9_freeMany f9_arePlans f9_planMany ai al0 x1 A) args s 0 0 A) (F0 m 8 ls [])) (n20 : Nat) (K20 : ∀ (L4 L5 : Int32) (al : Nat → Nat → Int64) (H : Heap) (locs : List Loc) (ls : Array Slot), (0 ≤ L4.toInt ∧ L4.toInt ≤ 2) → (0 ≤ L5.toInt ∧ L5.toInt ≤ 3) → (1 ≤ f9_size.toInt ∧ f9_size.toInt ≤ 4) → (0 ≤ f9_equations.toInt ∧ f9_equations.toInt ≤ 3) → (0 ≤ f9_areSteps.toInt ∧ f9_areSteps.toInt ≤ 1) → (0 ≤ f9_foundMany.toInt ∧ f9_foundMany.toInt ≤ 99999) → (0 ≤ f9_many.toInt ∧ f9_many.toInt ≤ 6000) → (1 ≤ f9_rank.toInt ∧ f9_rank.toInt ≤ 3) → (0 ≤ f9_freeMany.toInt ∧ f9_freeMany.toInt ≤ 4) → (0 ≤ f9_arePlans.toInt ∧ f9_arePlans.toInt ≤ 1) → (0 ≤ f9_planMany.toInt ∧ f9_planMany.toInt ≤ 194481) → SQ ai al0 al x1.toInt f9_rank.toInt L4.toInt L5.toInt → L4.toInt < f9_rank.toInt → f9_rank.toInt - L4.toInt ≤ (n8 : Int) → f9_rank.toInt - L5.toInt < (n20 : Int) → (0 : Int) < (n20 : Int) → IAM ai → FL [17] al0 al → va_P (dC, dI) vwCl (WM cI cJ cII cJJ ad f9_size f9_equations f9_areSteps f9_foundMany f9_many f9_rank f9_freeMany f9_arePlans f9_planMany ai al) H → va_D A (WM cI cJ cII cJJ ad f9_size f9_equations f9_areSteps f9_foundMany f9_many f9_rank f9_freeMany f9_arePlans f9_planMany ai al) → va_S A s.heap H locs → lv_has ls 6 [(0, .ref (ad 22)), (1, .int x1), (2, .ref (ad 18)), (3, .ref (ad 17)), (4, .int L4), (5, .int L5)] → W p l e ({ frames := 3, cells := 0, slots := 0, locals := 140 } : Room) s m args below meth c H locs 0 0 (MQ below (Q_r007_X9_putIn dC dI cI cJ cII cJJ ad f9_size f9_equations f9_areSteps f9_foundMany f9_many f9_rank f9_freeMany f9_arePlans f9_planMany ai al0 x1 A) args s 0 0 A) (F0 m 20 ls [])) : ∀ (L4 L5 S1 : Int32) (SJ0 : Int64) (al : Nat → Nat → Int64) (H : Heap) (locs : List Loc) (ls : Array Slot), (0 ≤ L4.toInt ∧ L4.toInt ≤ 2) → (0 ≤ L5.toInt ∧ L5.toInt ≤ 2) → (0 ≤ S1.toInt ∧ S1.toInt ≤ 8) → (-31104 ≤ SJ0.toInt ∧ SJ0.toInt ≤ 31104) → (1 ≤ f9_size.toInt ∧ f9_size.toInt ≤ 4) → (0 ≤ f9_equations.toInt ∧ f9_equations.toInt ≤ 3) → (0 ≤ f9_areSteps.toInt ∧ f9_areSteps.toInt ≤ 1) → (0 ≤ f9_foundMany.toInt ∧ f9_foundMany.toInt ≤ 99999) → (0 ≤ f9_many.toInt ∧ f9_many.toInt ≤ 6000) → (1 ≤ f9_rank.toInt ∧ f9_rank.toInt ≤ 3) → (0 ≤ f9_freeMany.toInt ∧ f9_freeMany.toInt ≤ 4) → (0 ≤ f9_arePlans.toInt ∧ f9_arePlans.toInt ≤ 1) → (0 ≤ f9_planMany.toInt ∧ f9_planMany.toInt ≤ 194481) → SQ ai al0 al x1.toInt f9_rank.toInt L4.toInt L5.toInt → SJ0.toInt = cM ai al0 x1.toInt.toNat L4.toInt.toNat L5.toInt.toNat → S1.toInt = 3 * L4.toInt + L5.toInt → L4.toInt < f9_rank.toInt → f9_rank.toInt - L4.toInt ≤ (n8 : Int) → L5.toInt < f9_rank.toInt → f9_rank.toInt - L5.toInt ≤ (n20 : Int) → IAM ai → FL [17] al0 al → va_P (dC, dI) vwCl (WM cI cJ cII cJJ ad f9_size f9_equations f9_areSteps f9_foundMany f9_many f9_rank f9_freeMany f9_arePlans f9_planMany ai al) H → va_D A (WM cI cJ cII cJJ ad f9_size f9_equations f9_areSteps f9_foundMany f9_many f9_rank f9_freeMany f9_arePlans f9_planMany ai al) → va_S A s.heap H locs → lv_has ls 6 [(0, .ref (ad 22)), (1, .int x1), (2, .ref (ad 18)), (3, .ref (ad 17)), (4, .int L4), (5, .int L5)] → W p l e ({ frames := 3, cells := 0, slots := 0, locals := 140 } : Room) s m args below meth c H locs 0 0 (MQ below (Q_r007_X9_putIn dC dI cI cJ cII cJJ ad f9_size f9_equations f9_areSteps f9_foundMany f9_many f9_rank f9_freeMany f9_arePlans f9_planMany ai al0 x1 A) args s 0 0 A) (F0 m 68 ls [.long SJ0, .int S1, .ref (ad 17)]) := by
  obtain ⟨hx, hb, hr, hml, hown, hts, hk, hA, hK, hX⟩ := id C
  intro L4 L5 S1 SJ0 al H locs ls h0 h1 h2 h3 h4 h5 h6 h7 h8 h9 h10 h11 h12 h13 h14 h15 h16 h17 h18 h19 hI hG hP hD hS hl
  refine va_last hx hb hK hP hD hS 17 1 rfl rfl (j_in (a := S1.toInt) rfl (by omega) (by omega)) dX9_putIn_68 (fun H_1 locs_1 hP_1 hD_1 hS_1 => ?_)
  obtain ⟨al1, e_al1⟩ : ∃ q : Nat → Nat → Int64, q = va_up al 17 (vp_updL (al 17) S1.toNatClampNeg SJ0) := ⟨_, rfl⟩
  have hG_2 := FL_st hG e_al1 (by decide)
  have hP_3 : va_P (dC, dI) vwCl (WM cI cJ cII cJJ ad f9_size f9_equations f9_areSteps f9_foundMany f9_many f9_rank f9_freeMany f9_arePlans f9_planMany ai al1) H_1 := by rw [e_al1]; exact hP_1
  have hD_4 : va_D A (WM cI cJ cII cJJ ad f9_size f9_equations f9_areSteps f9_foundMany f9_many f9_rank f9_freeMany f9_arePlans f9_planMany ai al1) := by rw [e_al1]; exact hD_1
  obtain ⟨z2, e_z2⟩ : ∃ q : Int32, q = L5 + Int32.ofInt 1 := ⟨_, rfl⟩
  have g_z2 : z2.toInt = L5.toInt + 1 := by rw [e_z2]; exact n_add (a := L5.toInt) (b := 1) rfl (by decide +kernel) (by omega) (by omega)
  refine lv_iinc (v := z2) (lv' := [(5, .int z2), (0, .ref (ad 22)), (1, .int x1), (2, .ref (ad 18)), (3, .ref (ad 17)), (4, .int L4)]) hx hb dX9_putIn_69 hl (k := 5) rfl e_z2.symm (by decide) rfl (fun ls_5 hl_5 => ?_)
  refine lv_goto (tgt := 20) hx hb dX9_putIn_72 (by decide) ?_
  exact K20 L4 z2 al1 _ _ _ (by omega) (by omega) (by omega) (by omega) (by omega) (by omega) (by omega) (by omega) (by omega) (by omega) (by omega) (SQ_st h13 (by omega) e_al1 (by omega) (by omega) (by omega) (by omega) h14 (by omega)) (by omega) (by omega) (by omega) (by omega) hI hG_2 hP_3 hD_4 hS_1 (lv_sub hl_5 [1, 2, 3, 4, 5, 0] rfl)
set_option maxRecDepth 100000 in
set_option maxHeartbeats 4000000 in
theorem r007_X9_putIn_b20 {p : Program} {l : Launch} {e : Env} {s : State} {m : MethodId} {args : Array Value} {below : List Frame} {meth : Method} {c : Code} {A : Nat → Prop} {dC : Nat → ClassId} {dI : Nat → Nat → Nat} {cI cJ cII cJJ : ClassId} {ad : Nat → Nat} {g : Nat} {f9_size f9_equations f9_areSteps f9_foundMany f9_many f9_rank f9_freeMany f9_arePlans f9_planMany : Int32} {ai : Nat → Nat → Int32} {al0 : Nat → Nat → Int64} {x1 : Int32} (C : Cx p c s m meth args A dC dI (TY cI cJ cII cJJ) cX9_putIn (some .long) 6 RX9 0 g) (h_x1 : (0 ≤ x1.toInt ∧ x1.toInt ≤ 2)) (hp0 : (∀ j : Nat, (j : Int) < f9_rank.toInt → -31104 ≤ (al0 18 j).toInt ∧ (al0 18 j).toInt ≤ 31104)) (n8 : Nat) (K8 : ∀ (L4 : Int32) (al : Nat → Nat → Int64) (H : Heap) (locs : List Loc) (ls : Array Slot), (0 ≤ L4.toInt ∧ L4.toInt ≤ 3) → (1 ≤ f9_size.toInt ∧ f9_size.toInt ≤ 4) → (0 ≤ f9_equations.toInt ∧ f9_equations.toInt ≤ 3) → (0 ≤ f9_areSteps.toInt ∧ f9_areSteps.toInt ≤ 1) → (0 ≤ f9_foundMany.toInt ∧ f9_foundMany.toInt ≤ 99999) → (0 ≤ f9_many.toInt ∧ f9_many.toInt ≤ 6000) → (1 ≤ f9_rank.toInt ∧ f9_rank.toInt ≤ 3) → (0 ≤ f9_freeMany.toInt ∧ f9_freeMany.toInt ≤ 4) → (0 ≤ f9_arePlans.toInt ∧ f9_arePlans.toInt ≤ 1) → (0 ≤ f9_planMany.toInt ∧ f9_planMany.toInt ≤ 194481) → SQ ai al0 al x1.toInt f9_rank.toInt L4.toInt 0 → f9_rank.toInt - L4.toInt < (n8 : Int) → (0 : Int) < (n8 : Int) → IAM ai → FL [17] al0 al → va_P (dC, dI) vwCl (WM cI cJ cII cJJ ad f9_size f9_equations f9_areSteps f9_foundMany f9_many f9_rank f9_freeMany f9_arePlans f9_planMany ai al) H → va_D A (WM cI cJ cII cJJ ad f9_size f9_equations f9_areSteps f9_foundMany f9_many f9_rank f9_freeMany f9_arePlans f9_planMany ai al) → va_S A s.heap H locs → lv_has ls 6 [(0, .ref (ad 22)), (1, .int x1), (2, .ref (ad 18)), (3, .ref (ad 17)), (4, .int L4)] → W p l e ({ frames := 3, cells := 0, slots := 0, locals := 140 } : Room) s m args below meth c H locs 0 0 (MQ below (Q_r007_X9_putIn dC dI cI cJ cII cJJ ad f9_size f9_equations f9_areSteps f9_foundMany f9_many f9_rank f9_freeMany f9_arePlans f9_planMany ai al0 x1 A) args s 0 0 A) (F0 m 8 ls [])) : ∀ (n : Nat), ∀ (L4 L5 : Int32) (al : Nat → Nat → Int64) (H : Heap) (locs : List Loc) (ls : Array Slot), (0 ≤ L4.toInt ∧ L4.toInt ≤ 2) → (0 ≤ L5.toInt ∧ L5.toInt ≤ 3) → (1 ≤ f9_size.toInt ∧ f9_size.toInt ≤ 4) → (0 ≤ f9_equations.toInt ∧ f9_equations.toInt ≤ 3) → (0 ≤ f9_areSteps.toInt ∧ f9_areSteps.toInt ≤ 1) → (0 ≤ f9_foundMany.toInt ∧ f9_foundMany.toInt ≤ 99999) → (0 ≤ f9_many.toInt ∧ f9_many.toInt ≤ 6000) → (1 ≤ f9_rank.toInt ∧ f9_rank.toInt ≤ 3) → (0 ≤ f9_freeMany.toInt ∧ f9_freeMany.toInt ≤ 4) → (0 ≤ f9_arePlans.toInt ∧ f9_arePlans.toInt ≤ 1) → (0 ≤ f9_planMany.toInt ∧ f9_planMany.toInt ≤ 194481) → SQ ai al0 al x1.toInt f9_rank.toInt L4.toInt L5.toInt → L4.toInt < f9_rank.toInt → f9_rank.toInt - L4.toInt ≤ (n8 : Int) → f9_rank.toInt - L5.toInt < (n : Int) → (0 : Int) < (n : Int) → IAM ai → FL [17] al0 al → va_P (dC, dI) vwCl (WM cI cJ cII cJJ ad f9_size f9_equations f9_areSteps f9_foundMany f9_many f9_rank f9_freeMany f9_arePlans f9_planMany ai al) H → va_D A (WM cI cJ cII cJJ ad f9_size f9_equations f9_areSteps f9_foundMany f9_many f9_rank f9_freeMany f9_arePlans f9_planMany ai al) → va_S A s.heap H locs → lv_has ls 6 [(0, .ref (ad 22)), (1, .int x1), (2, .ref (ad 18)), (3, .ref (ad 17)), (4, .int L4), (5, .int L5)] → W p l e ({ frames := 3, cells := 0, slots := 0, locals := 140 } : Room) s m args below meth c H locs 0 0 (MQ below (Q_r007_X9_putIn dC dI cI cJ cII cJJ ad f9_size f9_equations f9_areSteps f9_foundMany f9_many f9_rank f9_freeMany f9_arePlans f9_planMany ai al0 x1 A) args s 0 0 A) (F0 m 20 ls []) := by
  obtain ⟨hx, hb, hr, hml, hown, hts, hk, hA, hK, hX⟩ := id C
  intro n
  induction n with
  | zero =>
    intro L4 L5 al H locs ls h0 h1 h2 h3 h4 h5 h6 h7 h8 h9 h10 h11 h12 h13 h14 h15 hI hG hP hD hS hl
    exact absurd h15 (by omega)
  | succ n ih =>
    intro L4 L5 al H locs ls h0 h1 h2 h3 h4 h5 h6 h7 h8 h9 h10 h11 h12 h13 h14 h15 hI hG hP hD hS hl
    refine lv_iload hx hb dX9_putIn_20 (lv_at hl 5 rfl) ?_
    refine lv_aload_n hx hb dX9_putIn_22 rfl (lv_at hl 0 rfl) ?_
    refine gf (k := 27) hx hb hts inX9 hown hK hP k_822 rfl (by decide) rfl 22 rfl (.int f9_rank) rfl dX9_putIn_23 ?_
    refine lv_icmp_ge (tgt := 75) hx hb dX9_putIn_26 (by decide) (fun c1 => ?_) (fun c1 => ?_)
    · have c1 := j_le (a := f9_rank.toInt) (b := L5.toInt) rfl rfl c1
      obtain ⟨z2, e_z2⟩ : ∃ q : Int32, q = L4 + Int32.ofInt 1 := ⟨_, rfl⟩
      have g_z2 : z2.toInt = L4.toInt + 1 := by rw [e_z2]; exact n_add (a := L4.toInt) (b := 1) rfl (by decide +kernel) (by omega) (by omega)
      refine lv_iinc (v := z2) (lv' := [(4, .int z2), (0, .ref (ad 22)), (1, .int x1), (2, .ref (ad 18)), (3, .ref (ad 17)), (5, .int L5)]) hx hb dX9_putIn_75 hl (k := 4) rfl e_z2.symm (by decide) rfl (fun ls_1 hl_1 => ?_)
      refine lv_goto (tgt := 8) hx hb dX9_putIn_78 (by decide) ?_
      exact K8 z2 al _ _ _ (by omega) (by omega) (by omega) (by omega) (by omega) (by omega) (by omega) (by omega) (by omega) (by omega) (SQ_row h11 (by omega) (by omega) rfl) (by omega) (by omega) hI hG hP hD hS (lv_sub hl_1 [1, 2, 3, 4, 0] rfl)
    · have c1 := j_nle (a := f9_rank.toInt) (b := L5.toInt) rfl rfl c1
      refine lv_aload_n hx hb dX9_putIn_29 rfl (lv_at hl 3 rfl) ?_
      refine lv_iconst (v := 3) hx hb dX9_putIn_30 (by decide) ?_
      refine lv_iload hx hb dX9_putIn_31 (lv_at hl 4 rfl) ?_
      refine v_imul hx hb dX9_putIn_33 _ rfl ?_
      refine lv_topi (fun z3 e_z3 => ?_)
      have g_z3 : z3.toInt = 3 * L4.toInt := by rw [e_z3]; exact n_mul (a := 3) (b := L4.toInt) (by decide +kernel) rfl (by omega) (by omega)
      refine lv_iload hx hb dX9_putIn_34 (lv_at hl 5 rfl) ?_
      refine v_iadd hx hb dX9_putIn_36 _ rfl ?_
      refine lv_topi (fun z4 e_z4 => ?_)
      have g_z4 : z4.toInt = z3.toInt + L5.toInt := by rw [e_z4]; exact n_add (a := z3.toInt) (b := L5.toInt) rfl rfl (by omega) (by omega)
      refine lv_iload hx hb dX9_putIn_37 (lv_at hl 5 rfl) ?_
      refine lv_iload_n hx hb dX9_putIn_39 rfl (lv_at hl 1 rfl) ?_
      refine lv_icmp_ne (tgt := 50) hx hb dX9_putIn_40 (by decide) (fun c5 => ?_) (fun c5 => ?_)
      · have c5 := j_ne (a := L5.toInt) (b := x1.toInt) rfl rfl c5
        refine lv_aload_n hx hb dX9_putIn_50 rfl (lv_at hl 0 rfl) ?_
        refine lv_aload_n hx hb dX9_putIn_51 rfl (lv_at hl 0 rfl) ?_
        refine gf (k := 24) hx hb hts inX9 hown hK hP k_819 rfl (by decide) rfl 22 rfl (.ref (ad 14)) rfl dX9_putIn_52 ?_
        refine lv_iload hx hb dX9_putIn_55 (lv_at hl 4 rfl) ?_
        refine va_iald hx hb hK hP 14 0 rfl rfl (j_in (a := L4.toInt) rfl (by omega) (by omega)) dX9_putIn_57 ?_
        refine lv_topi (fun z6 e_z6 => ?_)
        have g_z6 : 0 ≤ z6.toInt ∧ z6.toInt ≤ 2 := by rw [e_z6]; exact IAM_at14 hI _
        refine lv_aload_n hx hb dX9_putIn_58 rfl (lv_at hl 0 rfl) ?_
        refine gf (k := 23) hx hb hts inX9 hown hK hP k_818 rfl (by decide) rfl 22 rfl (.ref (ad 13)) rfl dX9_putIn_59 ?_
        refine lv_iload hx hb dX9_putIn_62 (lv_at hl 5 rfl) ?_
        refine va_iald hx hb hK hP 13 0 rfl rfl (j_in (a := L5.toInt) rfl (by omega) (by omega)) dX9_putIn_64 ?_
        refine lv_topi (fun z7 e_z7 => ?_)
        have g_z7 : 0 ≤ z7.toInt ∧ z7.toInt ≤ 3 := by rw [e_z7]; exact IAM_at13 hI _
        have hM := r002_X9_a l dC dI cI cJ cII cJJ H.size 0 ad f9_size f9_equations f9_areSteps f9_foundMany f9_many f9_rank f9_freeMany f9_arePlans f9_planMany ai al z6 z7 (by omega) (by omega) (by omega) (by omega) (by omega) (by omega) (by omega) (by omega) (by omega) (by omega) (by omega) hI
        refine k2V_l (q0 := 22) ⟨hx, hb, hml, hown, hts⟩ hK hP hD hS hA hX cv_RX9_124 hM ⟨by decide +kernel, by decide +kernel⟩ rfl rfl (Or.inl rfl) (rest := [.int z4, .ref (ad 17)]) rfl rfl rfl hl.1 rfl (Nat.le_of_ble_eq_true rfl) dX9_putIn_65 ⟨Nat.le_of_ble_eq_true rfl, Nat.le_of_ble_eq_true rfl⟩ (fun r8 t H1 locs_2 ht hB hS_2 hFc => ?_)
        obtain ⟨⟨gpr8_0, gpr8_1, gpr8_2⟩, hP_3, -, hD_3⟩ := hB
        rw [ht] at hP_3
        have hD_4 := hD_3.weaken (B := A) (fun k q _ h9 => hFc q.1 h9)
        clear ht
        generalize H1 = H_5 at hP_3 hS_2 ⊢
        exact r007_X9_putIn_b68 C h_x1 hp0 n8 K8 n ih L4 L5 z4 r8 al _ _ _ (by omega) (by omega) (by omega) (by omega) (by omega) (by omega) (by omega) (by omega) (by omega) (by omega) (by omega) (by omega) (by omega) h11 (by rw [cM_ne (by omega), gpr8_2, e_z6, e_z7]; rfl) (by omega) (by omega) (by omega) (by omega) (by omega) hI hG hP_3 hD_4 hS_2 (lv_sub hl [0, 1, 2, 3, 4, 5] rfl)
      · have c5 := j_eq (a := L5.toInt) (b := x1.toInt) rfl rfl c5
        refine lv_aload_n hx hb dX9_putIn_43 rfl (lv_at hl 2 rfl) ?_
        refine lv_iload hx hb dX9_putIn_44 (lv_at hl 4 rfl) ?_
        refine va_lald hx hb hK hP 18 1 rfl rfl (j_in (a := L4.toInt) rfl (by omega) (by omega)) dX9_putIn_46 ?_
        refine lv_topl (fun yy9 e_yy9 => ?_)
        have g_yy9 : yy9.toInt = (al0 18 L4.toInt.toNat).toInt ∧ -31104 ≤ yy9.toInt ∧ yy9.toInt ≤ 31104 := by rw [e_yy9, hG 18 (by decide)]; exact ⟨rfl, hp0 L4.toInt.toNat (by omega)⟩
        refine lv_goto (tgt := 68) hx hb dX9_putIn_47 (by decide) ?_
        exact r007_X9_putIn_b68 C h_x1 hp0 n8 K8 n ih L4 L5 z4 yy9 al _ _ _ (by omega) (by omega) (by omega) (by omega) (by omega) (by omega) (by omega) (by omega) (by omega) (by omega) (by omega) (by omega) (by omega) h11 (by rw [cM_eq (by omega)]; exact g_yy9.1) (by omega) (by omega) (by omega) (by omega) (by omega) hI hG hP hD hS (lv_sub hl [0, 1, 2, 3, 4, 5] rfl)
set_option maxRecDepth 100000 in
set_option maxHeartbeats 4000000 in
theorem r007_X9_putIn_b8 {p : Program} {l : Launch} {e : Env} {s : State} {m : MethodId} {args : Array Value} {below : List Frame} {meth : Method} {c : Code} {A : Nat → Prop} {dC : Nat → ClassId} {dI : Nat → Nat → Nat} {cI cJ cII cJJ : ClassId} {ad : Nat → Nat} {g : Nat} {f9_size f9_equations f9_areSteps f9_foundMany f9_many f9_rank f9_freeMany f9_arePlans f9_planMany : Int32} {ai : Nat → Nat → Int32} {al0 : Nat → Nat → Int64} {x1 : Int32} (C : Cx p c s m meth args A dC dI (TY cI cJ cII cJJ) cX9_putIn (some .long) 6 RX9 0 g) (h_x1 : (0 ≤ x1.toInt ∧ x1.toInt ≤ 2)) (hp0 : (∀ j : Nat, (j : Int) < f9_rank.toInt → -31104 ≤ (al0 18 j).toInt ∧ (al0 18 j).toInt ≤ 31104)) : ∀ (n : Nat), ∀ (L4 : Int32) (al : Nat → Nat → Int64) (H : Heap) (locs : List Loc) (ls : Array Slot), (0 ≤ L4.toInt ∧ L4.toInt ≤ 3) → (1 ≤ f9_size.toInt ∧ f9_size.toInt ≤ 4) → (0 ≤ f9_equations.toInt ∧ f9_equations.toInt ≤ 3) → (0 ≤ f9_areSteps.toInt ∧ f9_areSteps.toInt ≤ 1) → (0 ≤ f9_foundMany.toInt ∧ f9_foundMany.toInt ≤ 99999) → (0 ≤ f9_many.toInt ∧ f9_many.toInt ≤ 6000) → (1 ≤ f9_rank.toInt ∧ f9_rank.toInt ≤ 3) → (0 ≤ f9_freeMany.toInt ∧ f9_freeMany.toInt ≤ 4) → (0 ≤ f9_arePlans.toInt ∧ f9_arePlans.toInt ≤ 1) → (0 ≤ f9_planMany.toInt ∧ f9_planMany.toInt ≤ 194481) → SQ ai al0 al x1.toInt f9_rank.toInt L4.toInt 0 → f9_rank.toInt - L4.toInt < (n : Int) → (0 : Int) < (n : Int) → IAM ai → FL [17] al0 al → va_P (dC, dI) vwCl (WM cI cJ cII cJJ ad f9_size f9_equations f9_areSteps f9_foundMany f9_many f9_rank f9_freeMany f9_arePlans f9_planMany ai al) H → va_D A (WM cI cJ cII cJJ ad f9_size f9_equations f9_areSteps f9_foundMany f9_many f9_rank f9_freeMany f9_arePlans f9_planMany ai al) → va_S A s.heap H locs → lv_has ls 6 [(0, .ref (ad 22)), (1, .int x1), (2, .ref (ad 18)), (3, .ref (ad 17)), (4, .int L4)] → W p l e ({ frames := 3, cells := 0, slots := 0, locals := 140 } : Room) s m args below meth c H locs 0 0 (MQ below (Q_r007_X9_putIn dC dI cI cJ cII cJJ ad f9_size f9_equations f9_areSteps f9_foundMany f9_many f9_rank f9_freeMany f9_arePlans f9_planMany ai al0 x1 A) args s 0 0 A) (F0 m 8 ls []) := by
  obtain ⟨hx, hb, hr, hml, hown, hts, hk, hA, hK, hX⟩ := id C
  intro n
  induction n with
  | zero =>
    intro L4 al H locs ls h0 h1 h2 h3 h4 h5 h6 h7 h8 h9 h10 h11 h12 hI hG hP hD hS hl
    exact absurd h12 (by omega)
  | succ n ih =>
    intro L4 al H locs ls h0 h1 h2 h3 h4 h5 h6 h7 h8 h9 h10 h11 h12 hI hG hP hD hS hl
    refine lv_iload hx hb dX9_putIn_8 (lv_at hl 4 rfl) ?_
    refine lv_aload_n hx hb dX9_putIn_10 rfl (lv_at hl 0 rfl) ?_
    refine gf (k := 27) hx hb hts inX9 hown hK hP k_822 rfl (by decide) rfl 22 rfl (.int f9_rank) rfl dX9_putIn_11 ?_
    refine lv_icmp_ge (tgt := 81) hx hb dX9_putIn_14 (by decide) (fun c1 => ?_) (fun c1 => ?_)
    · have c1 := j_le (a := f9_rank.toInt) (b := L4.toInt) rfl rfl c1
      refine lv_aload_n hx hb dX9_putIn_81 rfl (lv_at hl 0 rfl) ?_
      refine gf (k := 27) hx hb hts inX9 hown hK hP k_822 rfl (by decide) rfl 22 rfl (.int f9_rank) rfl dX9_putIn_82 ?_
      refine lv_iconst (v := 1) hx hb dX9_putIn_85 (by decide) ?_
      refine lv_icmp_ne (tgt := 93) hx hb dX9_putIn_86 (by decide) (fun c2 => ?_) (fun c2 => ?_)
      · have c2 := j_ne (a := f9_rank.toInt) (b := 1) rfl (by decide +kernel) c2
        refine lv_aload_n hx hb dX9_putIn_93 rfl (lv_at hl 0 rfl) ?_
        refine gf (k := 27) hx hb hts inX9 hown hK hP k_822 rfl (by decide) rfl 22 rfl (.int f9_rank) rfl dX9_putIn_94 ?_
        refine lv_iconst (v := 2) hx hb dX9_putIn_97 (by decide) ?_
        refine lv_icmp_ne (tgt := 117) hx hb dX9_putIn_98 (by decide) (fun c3 => ?_) (fun c3 => ?_)
        · have c3 := j_ne (a := f9_rank.toInt) (b := 2) rfl (by decide +kernel) c3
          refine lv_aload_n hx hb dX9_putIn_117 rfl (lv_at hl 3 rfl) ?_
          refine lv_iconst (v := 0) hx hb dX9_putIn_118 (by decide) ?_
          refine va_lald hx hb hK hP 17 1 rfl rfl (vin (by decide +kernel)) dX9_putIn_119 ?_
          refine lv_topl (fun yy4 e_yy4 => ?_)
          have g_yy4 := sq_at (i := 0) (j := 0) h10 (by omega) hp0 hI (by omega) (by omega) (show yy4 = al 17 (3 * 0 + 0) by rw [e_yy4]; rfl)
          refine lv_aload_n hx hb dX9_putIn_120 rfl (lv_at hl 3 rfl) ?_
          refine lv_iconst (v := 4) hx hb dX9_putIn_121 (by decide) ?_
          refine va_lald hx hb hK hP 17 1 rfl rfl (vin (by decide +kernel)) dX9_putIn_122 ?_
          refine lv_topl (fun yy5 e_yy5 => ?_)
          have g_yy5 := sq_at (i := 1) (j := 1) h10 (by omega) hp0 hI (by omega) (by omega) (show yy5 = al 17 (3 * 1 + 1) by rw [e_yy5]; rfl)
          refine lv_aload_n hx hb dX9_putIn_123 rfl (lv_at hl 3 rfl) ?_
          refine lv_bipush (v := 8) hx hb dX9_putIn_124 (by decide) ?_
          refine va_lald hx hb hK hP 17 1 rfl rfl (vin (by decide +kernel)) dX9_putIn_126 ?_
          refine lv_topl (fun yy6 e_yy6 => ?_)
          have g_yy6 := sq_at (i := 2) (j := 2) h10 (by omega) hp0 hI (by omega) (by omega) (show yy6 = al 17 (3 * 2 + 2) by rw [e_yy6]; rfl)
          refine v_lmul hx hb dX9_putIn_127 _ rfl ?_
          refine lv_topl (fun yy7 e_yy7 => ?_)
          have g_yy7 : yy7.toInt = yy5.toInt * yy6.toInt ∧ -967458816 ≤ yy7.toInt ∧ yy7.toInt ≤ 967458816 := by rw [e_yy7]; exact ln_mul (a := yy5.toInt) (b := yy6.toInt) (al := -31104) (ah := 31104) (bl := -31104) (bh := 31104) (lo := -967458816) (hi := 967458816) rfl rfl (by omega) (by omega) (by omega) (by omega) (by decide) (by decide) (by decide) (by decide) (by decide)
          refine lv_aload_n hx hb dX9_putIn_128 rfl (lv_at hl 3 rfl) ?_
          refine lv_iconst (v := 5) hx hb dX9_putIn_129 (by decide) ?_
          refine va_lald hx hb hK hP 17 1 rfl rfl (vin (by decide +kernel)) dX9_putIn_130 ?_
          refine lv_topl (fun yy8 e_yy8 => ?_)
          have g_yy8 := sq_at (i := 1) (j := 2) h10 (by omega) hp0 hI (by omega) (by omega) (show yy8 = al 17 (3 * 1 + 2) by rw [e_yy8]; rfl)
          refine lv_aload_n hx hb dX9_putIn_131 rfl (lv_at hl 3 rfl) ?_
          refine lv_bipush (v := 7) hx hb dX9_putIn_132 (by decide) ?_
          refine va_lald hx hb hK hP 17 1 rfl rfl (vin (by decide +kernel)) dX9_putIn_134 ?_
          refine lv_topl (fun yy9 e_yy9 => ?_)
          have g_yy9 := sq_at (i := 2) (j := 1) h10 (by omega) hp0 hI (by omega) (by omega) (show yy9 = al 17 (3 * 2 + 1) by rw [e_yy9]; rfl)
          refine v_lmul hx hb dX9_putIn_135 _ rfl ?_
          refine lv_topl (fun yy10 e_yy10 => ?_)
          have g_yy10 : yy10.toInt = yy8.toInt * yy9.toInt ∧ -967458816 ≤ yy10.toInt ∧ yy10.toInt ≤ 967458816 := by rw [e_yy10]; exact ln_mul (a := yy8.toInt) (b := yy9.toInt) (al := -31104) (ah := 31104) (bl := -31104) (bh := 31104) (lo := -967458816) (hi := 967458816) rfl rfl (by omega) (by omega) (by omega) (by omega) (by decide) (by decide) (by decide) (by decide) (by decide)
          refine v_lsub hx hb dX9_putIn_136 _ rfl ?_
          refine lv_topl (fun yy11 e_yy11 => ?_)
          have g_yy11 : yy11.toInt = yy7.toInt - yy10.toInt := by rw [e_yy11]; exact ln_sub (a := yy7.toInt) (b := yy10.toInt) rfl rfl (by omega) (by omega)
          refine v_lmul hx hb dX9_putIn_137 _ rfl ?_
          refine lv_topl (fun yy12 e_yy12 => ?_)
          have g_yy12 : yy12.toInt = yy4.toInt * yy11.toInt ∧ -60183678025728 ≤ yy12.toInt ∧ yy12.toInt ≤ 60183678025728 := by rw [e_yy12]; exact ln_mul (a := yy4.toInt) (b := yy11.toInt) (al := -31104) (ah := 31104) (bl := -1934917632) (bh := 1934917632) (lo := -60183678025728) (hi := 60183678025728) rfl rfl (by omega) (by omega) (by omega) (by omega) (by decide) (by decide) (by decide) (by decide) (by decide)
          refine lv_aload_n hx hb dX9_putIn_138 rfl (lv_at hl 3 rfl) ?_
          refine lv_iconst (v := 1) hx hb dX9_putIn_139 (by decide) ?_
          refine va_lald hx hb hK hP 17 1 rfl rfl (vin (by decide +kernel)) dX9_putIn_140 ?_
          refine lv_topl (fun yy13 e_yy13 => ?_)
          have g_yy13 := sq_at (i := 0) (j := 1) h10 (by omega) hp0 hI (by omega) (by omega) (show yy13 = al 17 (3 * 0 + 1) by rw [e_yy13]; rfl)
          refine lv_aload_n hx hb dX9_putIn_141 rfl (lv_at hl 3 rfl) ?_
          refine lv_iconst (v := 3) hx hb dX9_putIn_142 (by decide) ?_
          refine va_lald hx hb hK hP 17 1 rfl rfl (vin (by decide +kernel)) dX9_putIn_143 ?_
          refine lv_topl (fun yy14 e_yy14 => ?_)
          have g_yy14 := sq_at (i := 1) (j := 0) h10 (by omega) hp0 hI (by omega) (by omega) (show yy14 = al 17 (3 * 1 + 0) by rw [e_yy14]; rfl)
          refine lv_aload_n hx hb dX9_putIn_144 rfl (lv_at hl 3 rfl) ?_
          refine lv_bipush (v := 8) hx hb dX9_putIn_145 (by decide) ?_
          refine va_lald hx hb hK hP 17 1 rfl rfl (vin (by decide +kernel)) dX9_putIn_147 ?_
          refine lv_topl (fun yy15 e_yy15 => ?_)
          have g_yy15 := sq_at (i := 2) (j := 2) h10 (by omega) hp0 hI (by omega) (by omega) (show yy15 = al 17 (3 * 2 + 2) by rw [e_yy15]; rfl)
          refine v_lmul hx hb dX9_putIn_148 _ rfl ?_
          refine lv_topl (fun yy16 e_yy16 => ?_)
          have g_yy16 : yy16.toInt = yy14.toInt * yy15.toInt ∧ -967458816 ≤ yy16.toInt ∧ yy16.toInt ≤ 967458816 := by rw [e_yy16]; exact ln_mul (a := yy14.toInt) (b := yy15.toInt) (al := -31104) (ah := 31104) (bl := -31104) (bh := 31104) (lo := -967458816) (hi := 967458816) rfl rfl (by omega) (by omega) (by omega) (by omega) (by decide) (by decide) (by decide) (by decide) (by decide)
          refine lv_aload_n hx hb dX9_putIn_149 rfl (lv_at hl 3 rfl) ?_
          refine lv_iconst (v := 5) hx hb dX9_putIn_150 (by decide) ?_
          refine va_lald hx hb hK hP 17 1 rfl rfl (vin (by decide +kernel)) dX9_putIn_151 ?_
          refine lv_topl (fun yy17 e_yy17 => ?_)
          have g_yy17 := sq_at (i := 1) (j := 2) h10 (by omega) hp0 hI (by omega) (by omega) (show yy17 = al 17 (3 * 1 + 2) by rw [e_yy17]; rfl)
          refine lv_aload_n hx hb dX9_putIn_152 rfl (lv_at hl 3 rfl) ?_
          refine lv_bipush (v := 6) hx hb dX9_putIn_153 (by decide) ?_
          refine va_lald hx hb hK hP 17 1 rfl rfl (vin (by decide +kernel)) dX9_putIn_155 ?_
          refine lv_topl (fun yy18 e_yy18 => ?_)
          have g_yy18 := sq_at (i := 2) (j := 0) h10 (by omega) hp0 hI (by omega) (by omega) (show yy18 = al 17 (3 * 2 + 0) by rw [e_yy18]; rfl)
          refine v_lmul hx hb dX9_putIn_156 _ rfl ?_
          refine lv_topl (fun yy19 e_yy19 => ?_)
          have g_yy19 : yy19.toInt = yy17.toInt * yy18.toInt ∧ -967458816 ≤ yy19.toInt ∧ yy19.toInt ≤ 967458816 := by rw [e_yy19]; exact ln_mul (a := yy17.toInt) (b := yy18.toInt) (al := -31104) (ah := 31104) (bl := -31104) (bh := 31104) (lo := -967458816) (hi := 967458816) rfl rfl (by omega) (by omega) (by omega) (by omega) (by decide) (by decide) (by decide) (by decide) (by decide)
          refine v_lsub hx hb dX9_putIn_157 _ rfl ?_
          refine lv_topl (fun yy20 e_yy20 => ?_)
          have g_yy20 : yy20.toInt = yy16.toInt - yy19.toInt := by rw [e_yy20]; exact ln_sub (a := yy16.toInt) (b := yy19.toInt) rfl rfl (by omega) (by omega)
          refine v_lmul hx hb dX9_putIn_158 _ rfl ?_
          refine lv_topl (fun yy21 e_yy21 => ?_)
          have g_yy21 : yy21.toInt = yy13.toInt * yy20.toInt ∧ -60183678025728 ≤ yy21.toInt ∧ yy21.toInt ≤ 60183678025728 := by rw [e_yy21]; exact ln_mul (a := yy13.toInt) (b := yy20.toInt) (al := -31104) (ah := 31104) (bl := -1934917632) (bh := 1934917632) (lo := -60183678025728) (hi := 60183678025728) rfl rfl (by omega) (by omega) (by omega) (by omega) (by decide) (by decide) (by decide) (by decide) (by decide)
          refine v_lsub hx hb dX9_putIn_159 _ rfl ?_
          refine lv_topl (fun yy22 e_yy22 => ?_)
          have g_yy22 : yy22.toInt = yy12.toInt - yy21.toInt := by rw [e_yy22]; exact ln_sub (a := yy12.toInt) (b := yy21.toInt) rfl rfl (by omega) (by omega)
          refine lv_aload_n hx hb dX9_putIn_160 rfl (lv_at hl 3 rfl) ?_
          refine lv_iconst (v := 2) hx hb dX9_putIn_161 (by decide) ?_
          refine va_lald hx hb hK hP 17 1 rfl rfl (vin (by decide +kernel)) dX9_putIn_162 ?_
          refine lv_topl (fun yy23 e_yy23 => ?_)
          have g_yy23 := sq_at (i := 0) (j := 2) h10 (by omega) hp0 hI (by omega) (by omega) (show yy23 = al 17 (3 * 0 + 2) by rw [e_yy23]; rfl)
          refine lv_aload_n hx hb dX9_putIn_163 rfl (lv_at hl 3 rfl) ?_
          refine lv_iconst (v := 3) hx hb dX9_putIn_164 (by decide) ?_
          refine va_lald hx hb hK hP 17 1 rfl rfl (vin (by decide +kernel)) dX9_putIn_165 ?_
          refine lv_topl (fun yy24 e_yy24 => ?_)
          have g_yy24 := sq_at (i := 1) (j := 0) h10 (by omega) hp0 hI (by omega) (by omega) (show yy24 = al 17 (3 * 1 + 0) by rw [e_yy24]; rfl)
          refine lv_aload_n hx hb dX9_putIn_166 rfl (lv_at hl 3 rfl) ?_
          refine lv_bipush (v := 7) hx hb dX9_putIn_167 (by decide) ?_
          refine va_lald hx hb hK hP 17 1 rfl rfl (vin (by decide +kernel)) dX9_putIn_169 ?_
          refine lv_topl (fun yy25 e_yy25 => ?_)
          have g_yy25 := sq_at (i := 2) (j := 1) h10 (by omega) hp0 hI (by omega) (by omega) (show yy25 = al 17 (3 * 2 + 1) by rw [e_yy25]; rfl)
          refine v_lmul hx hb dX9_putIn_170 _ rfl ?_
          refine lv_topl (fun yy26 e_yy26 => ?_)
          have g_yy26 : yy26.toInt = yy24.toInt * yy25.toInt ∧ -967458816 ≤ yy26.toInt ∧ yy26.toInt ≤ 967458816 := by rw [e_yy26]; exact ln_mul (a := yy24.toInt) (b := yy25.toInt) (al := -31104) (ah := 31104) (bl := -31104) (bh := 31104) (lo := -967458816) (hi := 967458816) rfl rfl (by omega) (by omega) (by omega) (by omega) (by decide) (by decide) (by decide) (by decide) (by decide)
          refine lv_aload_n hx hb dX9_putIn_171 rfl (lv_at hl 3 rfl) ?_
          refine lv_iconst (v := 4) hx hb dX9_putIn_172 (by decide) ?_
          refine va_lald hx hb hK hP 17 1 rfl rfl (vin (by decide +kernel)) dX9_putIn_173 ?_
          refine lv_topl (fun yy27 e_yy27 => ?_)
          have g_yy27 := sq_at (i := 1) (j := 1) h10 (by omega) hp0 hI (by omega) (by omega) (show yy27 = al 17 (3 * 1 + 1) by rw [e_yy27]; rfl)
          refine lv_aload_n hx hb dX9_putIn_174 rfl (lv_at hl 3 rfl) ?_
          refine lv_bipush (v := 6) hx hb dX9_putIn_175 (by decide) ?_
          refine va_lald hx hb hK hP 17 1 rfl rfl (vin (by decide +kernel)) dX9_putIn_177 ?_
          refine lv_topl (fun yy28 e_yy28 => ?_)
          have g_yy28 := sq_at (i := 2) (j := 0) h10 (by omega) hp0 hI (by omega) (by omega) (show yy28 = al 17 (3 * 2 + 0) by rw [e_yy28]; rfl)
          refine v_lmul hx hb dX9_putIn_178 _ rfl ?_
          refine lv_topl (fun yy29 e_yy29 => ?_)
          have g_yy29 : yy29.toInt = yy27.toInt * yy28.toInt ∧ -967458816 ≤ yy29.toInt ∧ yy29.toInt ≤ 967458816 := by rw [e_yy29]; exact ln_mul (a := yy27.toInt) (b := yy28.toInt) (al := -31104) (ah := 31104) (bl := -31104) (bh := 31104) (lo := -967458816) (hi := 967458816) rfl rfl (by omega) (by omega) (by omega) (by omega) (by decide) (by decide) (by decide) (by decide) (by decide)
          refine v_lsub hx hb dX9_putIn_179 _ rfl ?_
          refine lv_topl (fun yy30 e_yy30 => ?_)
          have g_yy30 : yy30.toInt = yy26.toInt - yy29.toInt := by rw [e_yy30]; exact ln_sub (a := yy26.toInt) (b := yy29.toInt) rfl rfl (by omega) (by omega)
          refine v_lmul hx hb dX9_putIn_180 _ rfl ?_
          refine lv_topl (fun yy31 e_yy31 => ?_)
          have g_yy31 : yy31.toInt = yy23.toInt * yy30.toInt ∧ -60183678025728 ≤ yy31.toInt ∧ yy31.toInt ≤ 60183678025728 := by rw [e_yy31]; exact ln_mul (a := yy23.toInt) (b := yy30.toInt) (al := -31104) (ah := 31104) (bl := -1934917632) (bh := 1934917632) (lo := -60183678025728) (hi := 60183678025728) rfl rfl (by omega) (by omega) (by omega) (by omega) (by decide) (by decide) (by decide) (by decide) (by decide)
          refine v_ladd hx hb dX9_putIn_181 _ rfl ?_
          refine lv_topl (fun yy32 e_yy32 => ?_)
          have g_yy32 : yy32.toInt = yy22.toInt + yy31.toInt := by rw [e_yy32]; exact ln_add (a := yy22.toInt) (b := yy31.toInt) rfl rfl (by omega) (by omega)
          exact r2_l hx hb hr hk hS dX9_putIn_182 (fun t ht hW => ⟨al, ⟨(by rw [show f9_rank.toInt.toNat = 3 by omega, dt_3, g_yy32, g_yy31.1, g_yy30, g_yy29.1, g_yy28.1, g_yy27.1, g_yy26.1, g_yy25.1, g_yy24.1, g_yy23.1, g_yy22, g_yy21.1, g_yy20, g_yy19.1, g_yy18.1, g_yy17.1, g_yy16.1, g_yy15.1, g_yy14.1, g_yy13.1, g_yy12.1, g_yy11, g_yy10.1, g_yy9.1, g_yy8.1, g_yy7.1, g_yy6.1, g_yy5.1, g_yy4.1]), (by omega), hG⟩, by rw [ht]; exact hP, va_K.moved hW.alike hK, hD⟩)
        · have c3 := j_eq (a := f9_rank.toInt) (b := 2) rfl (by decide +kernel) c3
          refine lv_aload_n hx hb dX9_putIn_101 rfl (lv_at hl 3 rfl) ?_
          refine lv_iconst (v := 0) hx hb dX9_putIn_102 (by decide) ?_
          refine va_lald hx hb hK hP 17 1 rfl rfl (vin (by decide +kernel)) dX9_putIn_103 ?_
          refine lv_topl (fun yy33 e_yy33 => ?_)
          have g_yy33 := sq_at (i := 0) (j := 0) h10 (by omega) hp0 hI (by omega) (by omega) (show yy33 = al 17 (3 * 0 + 0) by rw [e_yy33]; rfl)
          refine lv_aload_n hx hb dX9_putIn_104 rfl (lv_at hl 3 rfl) ?_
          refine lv_iconst (v := 4) hx hb dX9_putIn_105 (by decide) ?_
          refine va_lald hx hb hK hP 17 1 rfl rfl (vin (by decide +kernel)) dX9_putIn_106 ?_
          refine lv_topl (fun yy34 e_yy34 => ?_)
          have g_yy34 := sq_at (i := 1) (j := 1) h10 (by omega) hp0 hI (by omega) (by omega) (show yy34 = al 17 (3 * 1 + 1) by rw [e_yy34]; rfl)
          refine v_lmul hx hb dX9_putIn_107 _ rfl ?_
          refine lv_topl (fun yy35 e_yy35 => ?_)
          have g_yy35 : yy35.toInt = yy33.toInt * yy34.toInt ∧ -967458816 ≤ yy35.toInt ∧ yy35.toInt ≤ 967458816 := by rw [e_yy35]; exact ln_mul (a := yy33.toInt) (b := yy34.toInt) (al := -31104) (ah := 31104) (bl := -31104) (bh := 31104) (lo := -967458816) (hi := 967458816) rfl rfl (by omega) (by omega) (by omega) (by omega) (by decide) (by decide) (by decide) (by decide) (by decide)
          refine lv_aload_n hx hb dX9_putIn_108 rfl (lv_at hl 3 rfl) ?_
          refine lv_iconst (v := 1) hx hb dX9_putIn_109 (by decide) ?_
          refine va_lald hx hb hK hP 17 1 rfl rfl (vin (by decide +kernel)) dX9_putIn_110 ?_
          refine lv_topl (fun yy36 e_yy36 => ?_)
          have g_yy36 := sq_at (i := 0) (j := 1) h10 (by omega) hp0 hI (by omega) (by omega) (show yy36 = al 17 (3 * 0 + 1) by rw [e_yy36]; rfl)
          refine lv_aload_n hx hb dX9_putIn_111 rfl (lv_at hl 3 rfl) ?_
          refine lv_iconst (v := 3) hx hb dX9_putIn_112 (by decide) ?_
          refine va_lald hx hb hK hP 17 1 rfl rfl (vin (by decide +kernel)) dX9_putIn_113 ?_
          refine lv_topl (fun yy37 e_yy37 => ?_)
          have g_yy37 := sq_at (i := 1) (j := 0) h10 (by omega) hp0 hI (by omega) (by omega) (show yy37 = al 17 (3 * 1 + 0) by rw [e_yy37]; rfl)
          refine v_lmul hx hb dX9_putIn_114 _ rfl ?_
          refine lv_topl (fun yy38 e_yy38 => ?_)
          have g_yy38 : yy38.toInt = yy36.toInt * yy37.toInt ∧ -967458816 ≤ yy38.toInt ∧ yy38.toInt ≤ 967458816 := by rw [e_yy38]; exact ln_mul (a := yy36.toInt) (b := yy37.toInt) (al := -31104) (ah := 31104) (bl := -31104) (bh := 31104) (lo := -967458816) (hi := 967458816) rfl rfl (by omega) (by omega) (by omega) (by omega) (by decide) (by decide) (by decide) (by decide) (by decide)
          refine v_lsub hx hb dX9_putIn_115 _ rfl ?_
          refine lv_topl (fun yy39 e_yy39 => ?_)
          have g_yy39 : yy39.toInt = yy35.toInt - yy38.toInt := by rw [e_yy39]; exact ln_sub (a := yy35.toInt) (b := yy38.toInt) rfl rfl (by omega) (by omega)
          exact r2_l hx hb hr hk hS dX9_putIn_116 (fun t ht hW => ⟨al, ⟨(by rw [show f9_rank.toInt.toNat = 2 by omega, dt_2, g_yy39, g_yy38.1, g_yy37.1, g_yy36.1, g_yy35.1, g_yy34.1, g_yy33.1]), (by omega), hG⟩, by rw [ht]; exact hP, va_K.moved hW.alike hK, hD⟩)
      · have c2 := j_eq (a := f9_rank.toInt) (b := 1) rfl (by decide +kernel) c2
        refine lv_aload_n hx hb dX9_putIn_89 rfl (lv_at hl 3 rfl) ?_
        refine lv_iconst (v := 0) hx hb dX9_putIn_90 (by decide) ?_
        refine va_lald hx hb hK hP 17 1 rfl rfl (vin (by decide +kernel)) dX9_putIn_91 ?_
        refine lv_topl (fun yy40 e_yy40 => ?_)
        have g_yy40 := sq_at (i := 0) (j := 0) h10 (by omega) hp0 hI (by omega) (by omega) (show yy40 = al 17 (3 * 0 + 0) by rw [e_yy40]; rfl)
        exact r2_l hx hb hr hk hS dX9_putIn_92 (fun t ht hW => ⟨al, ⟨(by rw [show f9_rank.toInt.toNat = 1 by omega, dt_1, g_yy40.1]), (by omega), hG⟩, by rw [ht]; exact hP, va_K.moved hW.alike hK, hD⟩)
    · have c1 := j_nle (a := f9_rank.toInt) (b := L4.toInt) rfl rfl c1
      refine lv_iconst (v := 0) hx hb dX9_putIn_17 (by decide) ?_
      refine lv_istore (lv' := [(5, .int 0), (0, .ref (ad 22)), (1, .int x1), (2, .ref (ad 18)), (3, .ref (ad 17)), (4, .int L4)]) hx hb dX9_putIn_18 hl (by decide) rfl (fun ls_1 hl_1 => ?_)
      exact r007_X9_putIn_b20 C h_x1 hp0 n ih _ L4 0 al _ _ _ (by first | omega | decide | (have ka0 := (by decide +kernel : (0 : Int32).toInt = 0); omega)) (by first | omega | decide | (have ka0 := (by decide +kernel : (0 : Int32).toInt = 0); omega)) (by first | omega | decide | (have ka0 := (by decide +kernel : (0 : Int32).toInt = 0); omega)) (by first | omega | decide | (have ka0 := (by decide +kernel : (0 : Int32).toInt = 0); omega)) (by first | omega | decide | (have ka0 := (by decide +kernel : (0 : Int32).toInt = 0); omega)) (by first | omega | decide | (have ka0 := (by decide +kernel : (0 : Int32).toInt = 0); omega)) (by first | omega | decide | (have ka0 := (by decide +kernel : (0 : Int32).toInt = 0); omega)) (by first | omega | decide | (have ka0 := (by decide +kernel : (0 : Int32).toInt = 0); omega)) (by first | omega | decide | (have ka0 := (by decide +kernel : (0 : Int32).toInt = 0); omega)) (by first | omega | decide | (have ka0 := (by decide +kernel : (0 : Int32).toInt = 0); omega)) (by first | omega | decide | (have ka0 := (by decide +kernel : (0 : Int32).toInt = 0); omega)) (SQ_row0 h10 rfl (by decide +kernel)) (by first | omega | decide | (have ka0 := (by decide +kernel : (0 : Int32).toInt = 0); omega)) (by first | omega | decide | (have ka0 := (by decide +kernel : (0 : Int32).toInt = 0); omega)) (j_fuel _) (by omega) hI hG hP hD hS (lv_sub hl_1 [1, 2, 3, 4, 5, 0] rfl)
set_option maxRecDepth 100000 in
set_option maxHeartbeats 4000000 in
theorem r007_X9_putIn (l : Launch) (dC : Nat → ClassId) (dI : Nat → Nat → Nat) (cI cJ cII cJJ : ClassId) (sz g : Nat) (ad : Nat → Nat) (f9_size f9_equations f9_areSteps f9_foundMany f9_many f9_rank f9_freeMany f9_arePlans f9_planMany : Int32) (ai : Nat → Nat → Int32) (al : Nat → Nat → Int64) (x1 : Int32) (h_x1 : (0 ≤ x1.toInt ∧ x1.toInt ≤ 2)) (h_f9_size : (1 ≤ f9_size.toInt ∧ f9_size.toInt ≤ 4)) (h_f9_equations : (0 ≤ f9_equations.toInt ∧ f9_equations.toInt ≤ 3)) (h_f9_areSteps : (0 ≤ f9_areSteps.toInt ∧ f9_areSteps.toInt ≤ 1)) (h_f9_foundMany : (0 ≤ f9_foundMany.toInt ∧ f9_foundMany.toInt ≤ 99999)) (h_f9_many : (0 ≤ f9_many.toInt ∧ f9_many.toInt ≤ 6000)) (h_f9_rank : (1 ≤ f9_rank.toInt ∧ f9_rank.toInt ≤ 3)) (h_f9_freeMany : (0 ≤ f9_freeMany.toInt ∧ f9_freeMany.toInt ≤ 4)) (h_f9_arePlans : (0 ≤ f9_arePlans.toInt ∧ f9_arePlans.toInt ≤ 1)) (h_f9_planMany : (0 ≤ f9_planMany.toInt ∧ f9_planMany.toInt ≤ 194481)) (hp0 : (∀ j : Nat, (j : Int) < f9_rank.toInt → -31104 ≤ (al 18 j).toInt ∧ (al 18 j).toInt ≤ 31104)) (hI : IAM ai) : Met l yX9_putIn (.code yX9_putIn cX9_putIn 6 (some .long) :: TT) ({ frames := 3, cells := 0, slots := 0, locals := 140 } : Room) (PcS dC dI (TY cI cJ cII cJJ) [.ref (ad 22), .int x1, .ref (ad 18)] (WM cI cJ cII cJJ ad f9_size f9_equations f9_areSteps f9_foundMany f9_many f9_rank f9_freeMany f9_arePlans f9_planMany ai al) sz 0 g) (Q_r007_X9_putIn dC dI cI cJ cII cJJ ad f9_size f9_equations f9_areSteps f9_foundMany f9_many f9_rank f9_freeMany f9_arePlans f9_planMany ai al x1 (va_A (WM cI cJ cII cJJ ad f9_size f9_equations f9_areSteps f9_foundMany f9_many f9_rank f9_freeMany f9_arePlans f9_planMany ai al) sz)) 0 0 (va_A (WM cI cJ cII cJJ ad f9_size f9_equations f9_areSteps f9_foundMany f9_many f9_rank f9_freeMany f9_arePlans f9_planMany ai al) sz) := by
  refine SM.of (y := yX9_putIn) (maxL := 6) (av := [.ref (ad 22), .int x1, .ref (ad 18)]) (Q_r007_X9_putIn dC dI cI cJ cII cJJ ad f9_size f9_equations f9_areSteps f9_foundMany f9_many f9_rank f9_freeMany f9_arePlans f9_planMany ai al x1) (by decide +kernel) (Nat.le_of_ble_eq_true rfl) (fun p e s m below meth c A ls hx hb hr hml hown hts hk hnm hA hK hP hD hS hX hl => ?_)
  have C : Cx p c s m meth (([.ref (ad 22), .int x1, .ref (ad 18)] : List Value).toArray) A dC dI (TY cI cJ cII cJJ) cX9_putIn (some .long) 6 RX9 0 g := ⟨hx, hb, hr, hml, hown, hts, hk, hA, hK, hX⟩
  have hown : s.vm.findClass RX9 = some m.cls := hown
  have hl : lv_has ls 6 [(0, .ref (ad 22)), (1, .int x1), (2, .ref (ad 18))] := hl
  obtain ⟨H, hH⟩ : ∃ q, q = s.heap := ⟨_, rfl⟩
  rw [← hH] at hP
  have hS : va_S A s.heap H [] := by rw [hH]; exact hS
  rw [← hH]
  have hG := FL_refl [17] al
  refine lv_aload_n hx hb dX9_putIn_0 rfl (lv_at hl 0 rfl) ?_
  refine gf (k := 29) hx hb hts inX9 hown hK hP k_824 rfl (by decide) rfl 22 rfl (.ref (ad 17)) rfl dX9_putIn_1 ?_
  refine lv_astore_n (lv' := [(3, .ref (ad 17)), (0, .ref (ad 22)), (1, .int x1), (2, .ref (ad 18))]) hx hb dX9_putIn_4 rfl hl (by decide) rfl (fun ls_1 hl_1 => ?_)
  refine lv_iconst (v := 0) hx hb dX9_putIn_5 (by decide) ?_
  refine lv_istore (lv' := [(4, .int 0), (3, .ref (ad 17)), (0, .ref (ad 22)), (1, .int x1), (2, .ref (ad 18))]) hx hb dX9_putIn_6 hl_1 (by decide) rfl (fun ls_2 hl_2 => ?_)
  exact r007_X9_putIn_b8 C h_x1 hp0  _ 0 al _ _ _ (by first | omega | decide | (have ka0 := (by decide +kernel : (0 : Int32).toInt = 0); omega)) (by first | omega | decide | (have ka0 := (by decide +kernel : (0 : Int32).toInt = 0); omega)) (by first | omega | decide | (have ka0 := (by decide +kernel : (0 : Int32).toInt = 0); omega)) (by first | omega | decide | (have ka0 := (by decide +kernel : (0 : Int32).toInt = 0); omega)) (by first | omega | decide | (have ka0 := (by decide +kernel : (0 : Int32).toInt = 0); omega)) (by first | omega | decide | (have ka0 := (by decide +kernel : (0 : Int32).toInt = 0); omega)) (by first | omega | decide | (have ka0 := (by decide +kernel : (0 : Int32).toInt = 0); omega)) (by first | omega | decide | (have ka0 := (by decide +kernel : (0 : Int32).toInt = 0); omega)) (by first | omega | decide | (have ka0 := (by decide +kernel : (0 : Int32).toInt = 0); omega)) (by first | omega | decide | (have ka0 := (by decide +kernel : (0 : Int32).toInt = 0); omega)) (SQ_0 (by decide +kernel) rfl) (j_fuel _) (by omega) hI hG hP hD hS (lv_sub hl_2 [2, 3, 4, 1, 0] rfl)
def Q_r008_X9_makes (dC : Nat → ClassId) (dI : Nat → Nat → Nat) (cI cJ cII cJJ : ClassId) (ad : Nat → Nat) (f9_size f9_equations f9_areSteps f9_foundMany f9_many f9_rank f9_freeMany f9_arePlans f9_planMany : Int32) (ai0 : Nat → Nat → Int32) (al0 : Nat → Nat → Int64) (x1 : Int32) : (Nat → Prop) → Array Value → State → Outcome → State → Prop := fun A => QI (fun r t => ∃ (n_ai : Nat → Nat → Int32), ∃ (n_al : Nat → Nat → Int64), ((0 ≤ r.toInt ∧ r.toInt ≤ 1) ∧ (r.toInt = 0 ∨ FVa ai0 f9_size f9_rank f9_freeMany x1 (vn n_ai f9_size)) ∧ Fu ai0 n_ai f9_freeMany ∧ (r.toInt = 1 ∨ NoV ai0 f9_size f9_rank f9_freeMany x1) ∧ IAM n_ai ∧ FR [16] ai0 n_ai ∧ FL [17, 18] al0 n_al) ∧ WO dC dI (TY cI cJ cII cJJ) (WM cI cJ cII cJJ ad f9_size f9_equations f9_areSteps f9_foundMany f9_many f9_rank f9_freeMany f9_arePlans f9_planMany n_ai n_al) A t) A
set_option maxRecDepth 100000 in
set_option maxHeartbeats 4000000 in
theorem r008_X9_makes_b245 {p : Program} {l : Launch} {e : Env} {s : State} {m : MethodId} {args : Array Value} {below : List Frame} {meth : Method} {c : Code} {A : Nat → Prop} {dC : Nat → ClassId} {dI : Nat → Nat → Nat} {cI cJ cII cJJ : ClassId} {ad : Nat → Nat} {g : Nat} {f9_size f9_equations f9_areSteps f9_foundMany f9_many f9_rank f9_freeMany f9_arePlans f9_planMany : Int32} {ai0 : Nat → Nat → Int32} {al0 : Nat → Nat → Int64} {x1 : Int32} (C : Cx p c s m meth args A dC dI (TY cI cJ cII cJJ) cX9_makes (some .boolean) 7 RX9 0 g) (h_x1 : (0 ≤ x1.toInt ∧ x1.toInt ≤ 1296)) (hp0 : RKa ai0 f9_size f9_rank f9_freeMany) (hp1 : NWb ai0 f9_freeMany x1) (n216 : Nat) (K216 : ∀ (L4 L5 : Int32) (J2 : Int64) (ai : Nat → Nat → Int32) (al : Nat → Nat → Int64) (H : Heap) (locs : List Loc) (ls : Array Slot), (0 ≤ L4.toInt ∧ L4.toInt ≤ 1) → (0 ≤ L5.toInt ∧ L5.toInt ≤ 4) → (1 ≤ f9_size.toInt ∧ f9_size.toInt ≤ 4) → (0 ≤ f9_equations.toInt ∧ f9_equations.toInt ≤ 3) → (0 ≤ f9_areSteps.toInt ∧ f9_areSteps.toInt ≤ 1) → (0 ≤ f9_foundMany.toInt ∧ f9_foundMany.toInt ≤ 99999) → (0 ≤ f9_many.toInt ∧ f9_many.toInt ≤ 6000) → (0 ≤ f9_rank.toInt ∧ f9_rank.toInt ≤ 3) → (0 ≤ f9_freeMany.toInt ∧ f9_freeMany.toInt ≤ 4) → (0 ≤ f9_arePlans.toInt ∧ f9_arePlans.toInt ≤ 1) → (0 ≤ f9_planMany.toInt ∧ f9_planMany.toInt ≤ 194481) → WKa ai0 ai f9_rank f9_freeMany x1 f9_rank.toInt → Fu ai0 ai f9_freeMany → (L4.toInt = 0 ∨ ∃ u : Nat, (u : Int) < L5.toInt ∧ (ai 16 u).toInt ≠ 0) → (L4.toInt = 1 ∨ ∀ u : Nat, (u : Int) < L5.toInt → (ai 16 u).toInt = 0) → L5.toInt ≤ f9_size.toInt → f9_size.toInt - L5.toInt < (n216 : Int) → (0 : Int) < (n216 : Int) → IAM ai → FR [16] ai0 ai → FL [17, 18] al0 al → va_P (dC, dI) vwCl (WM cI cJ cII cJJ ad f9_size f9_equations f9_areSteps f9_foundMany f9_many f9_rank f9_freeMany f9_arePlans f9_planMany ai al) H → va_D A (WM cI cJ cII cJJ ad f9_size f9_equations f9_areSteps f9_foundMany f9_many f9_rank f9_freeMany f9_arePlans f9_planMany ai al) → va_S A s.heap H locs → lv_has ls 7 [(0, .ref (ad 22)), (1, .int x1), (2, .long J2), (4, .int L4), (5, .int L5)] → W p l e ({ frames := 4, cells := 0, slots := 0, locals := 200 } : Room) s m args below meth c H locs 0 0 (MQ below (Q_r008_X9_makes dC dI cI cJ cII cJJ ad f9_size f9_equations f9_areSteps f9_foundMany f9_many f9_rank f9_freeMany f9_arePlans f9_planMany ai0 al0 x1 A) args s 0 0 A) (F0 m 216 ls [])) : ∀ (L4 L5 S0 : Int32) (J2 : Int64) (ai : Nat → Nat → Int32) (al : Nat → Nat → Int64) (H : Heap) (locs : List Loc) (ls : Array Slot), (0 ≤ L4.toInt ∧ L4.toInt ≤ 1) → (0 ≤ L5.toInt ∧ L5.toInt ≤ 3) → (0 ≤ S0.toInt ∧ S0.toInt ≤ 1) → (1 ≤ f9_size.toInt ∧ f9_size.toInt ≤ 4) → (0 ≤ f9_equations.toInt ∧ f9_equations.toInt ≤ 3) → (0 ≤ f9_areSteps.toInt ∧ f9_areSteps.toInt ≤ 1) → (0 ≤ f9_foundMany.toInt ∧ f9_foundMany.toInt ≤ 99999) → (0 ≤ f9_many.toInt ∧ f9_many.toInt ≤ 6000) → (0 ≤ f9_rank.toInt ∧ f9_rank.toInt ≤ 3) → (0 ≤ f9_freeMany.toInt ∧ f9_freeMany.toInt ≤ 4) → (0 ≤ f9_arePlans.toInt ∧ f9_arePlans.toInt ≤ 1) → (0 ≤ f9_planMany.toInt ∧ f9_planMany.toInt ≤ 194481) → WKa ai0 ai f9_rank f9_freeMany x1 f9_rank.toInt → Fu ai0 ai f9_freeMany → (S0.toInt = 0 ∨ ∃ u : Nat, (u : Int) < L5.toInt + 1 ∧ (ai 16 u).toInt ≠ 0) → (S0.toInt = 1 ∨ ∀ u : Nat, (u : Int) < L5.toInt + 1 → (ai 16 u).toInt = 0) → L5.toInt < f9_size.toInt → L5.toInt < f9_size.toInt → f9_size.toInt - L5.toInt ≤ (n216 : Int) → IAM ai → FR [16] ai0 ai → FL [17, 18] al0 al → va_P (dC, dI) vwCl (WM cI cJ cII cJJ ad f9_size f9_equations f9_areSteps f9_foundMany f9_many f9_rank f9_freeMany f9_arePlans f9_planMany ai al) H → va_D A (WM cI cJ cII cJJ ad f9_size f9_equations f9_areSteps f9_foundMany f9_many f9_rank f9_freeMany f9_arePlans f9_planMany ai al) → va_S A s.heap H locs → lv_has ls 7 [(0, .ref (ad 22)), (1, .int x1), (2, .long J2), (4, .int L4), (5, .int L5)] → W p l e ({ frames := 4, cells := 0, slots := 0, locals := 200 } : Room) s m args below meth c H locs 0 0 (MQ below (Q_r008_X9_makes dC dI cI cJ cII cJJ ad f9_size f9_equations f9_areSteps f9_foundMany f9_many f9_rank f9_freeMany f9_arePlans f9_planMany ai0 al0 x1 A) args s 0 0 A) (F0 m 245 ls [.int S0]) := by
  obtain ⟨hx, hb, hr, hml, hown, hts, hk, hA, hK, hX⟩ := id C
  intro L4 L5 S0 J2 ai al H locs ls h0 h1 h2 h3 h4 h5 h6 h7 h8 h9 h10 h11 h12 h13 h14 h15 h16 h17 h18 hI hF hG hP hD hS hl
  refine lv_istore (lv' := [(4, .int S0), (0, .ref (ad 22)), (1, .int x1), (2, .long J2), (5, .int L5)]) hx hb dX9_makes_245 hl (by decide) rfl (fun ls_1 hl_1 => ?_)
  obtain ⟨z1, e_z1⟩ : ∃ q : Int32, q = L5 + Int32.ofInt 1 := ⟨_, rfl⟩
  have g_z1 : z1.toInt = L5.toInt + 1 := by rw [e_z1]; exact n_add (a := L5.toInt) (b := 1) rfl (by decide +kernel) (by omega) (by omega)
  refine lv_iinc (v := z1) (lv' := [(5, .int z1), (4, .int S0), (0, .ref (ad 22)), (1, .int x1), (2, .long J2)]) hx hb dX9_makes_247 hl_1 (k := 4) rfl e_z1.symm (by decide) rfl (fun ls_2 hl_2 => ?_)
  refine lv_goto (tgt := 216) hx hb dX9_makes_250 (by decide) ?_
  exact K216 S0 z1 J2 ai al _ _ _ (by omega) (by omega) (by omega) (by omega) (by omega) (by omega) (by omega) (by omega) (by omega) (by omega) (by omega) h12 h13 (by rw [show z1.toInt = L5.toInt + 1 by omega]; exact h14) (by rw [show z1.toInt = L5.toInt + 1 by omega]; exact h15) (by omega) (by omega) (by omega) hI hF hG hP hD hS (lv_sub hl_2 [2, 3, 4, 1, 0] rfl)
set_option maxRecDepth 100000 in
set_option maxHeartbeats 4000000 in
theorem r008_X9_makes_b240 {p : Program} {l : Launch} {e : Env} {s : State} {m : MethodId} {args : Array Value} {below : List Frame} {meth : Method} {c : Code} {A : Nat → Prop} {dC : Nat → ClassId} {dI : Nat → Nat → Nat} {cI cJ cII cJJ : ClassId} {ad : Nat → Nat} {g : Nat} {f9_size f9_equations f9_areSteps f9_foundMany f9_many f9_rank f9_freeMany f9_arePlans f9_planMany : Int32} {ai0 : Nat → Nat → Int32} {al0 : Nat → Nat → Int64} {x1 : Int32} (C : Cx p c s m meth args A dC dI (TY cI cJ cII cJJ) cX9_makes (some .boolean) 7 RX9 0 g) (h_x1 : (0 ≤ x1.toInt ∧ x1.toInt ≤ 1296)) (hp0 : RKa ai0 f9_size f9_rank f9_freeMany) (hp1 : NWb ai0 f9_freeMany x1) (n216 : Nat) (K216 : ∀ (L4 L5 : Int32) (J2 : Int64) (ai : Nat → Nat → Int32) (al : Nat → Nat → Int64) (H : Heap) (locs : List Loc) (ls : Array Slot), (0 ≤ L4.toInt ∧ L4.toInt ≤ 1) → (0 ≤ L5.toInt ∧ L5.toInt ≤ 4) → (1 ≤ f9_size.toInt ∧ f9_size.toInt ≤ 4) → (0 ≤ f9_equations.toInt ∧ f9_equations.toInt ≤ 3) → (0 ≤ f9_areSteps.toInt ∧ f9_areSteps.toInt ≤ 1) → (0 ≤ f9_foundMany.toInt ∧ f9_foundMany.toInt ≤ 99999) → (0 ≤ f9_many.toInt ∧ f9_many.toInt ≤ 6000) → (0 ≤ f9_rank.toInt ∧ f9_rank.toInt ≤ 3) → (0 ≤ f9_freeMany.toInt ∧ f9_freeMany.toInt ≤ 4) → (0 ≤ f9_arePlans.toInt ∧ f9_arePlans.toInt ≤ 1) → (0 ≤ f9_planMany.toInt ∧ f9_planMany.toInt ≤ 194481) → WKa ai0 ai f9_rank f9_freeMany x1 f9_rank.toInt → Fu ai0 ai f9_freeMany → (L4.toInt = 0 ∨ ∃ u : Nat, (u : Int) < L5.toInt ∧ (ai 16 u).toInt ≠ 0) → (L4.toInt = 1 ∨ ∀ u : Nat, (u : Int) < L5.toInt → (ai 16 u).toInt = 0) → L5.toInt ≤ f9_size.toInt → f9_size.toInt - L5.toInt < (n216 : Int) → (0 : Int) < (n216 : Int) → IAM ai → FR [16] ai0 ai → FL [17, 18] al0 al → va_P (dC, dI) vwCl (WM cI cJ cII cJJ ad f9_size f9_equations f9_areSteps f9_foundMany f9_many f9_rank f9_freeMany f9_arePlans f9_planMany ai al) H → va_D A (WM cI cJ cII cJJ ad f9_size f9_equations f9_areSteps f9_foundMany f9_many f9_rank f9_freeMany f9_arePlans f9_planMany ai al) → va_S A s.heap H locs → lv_has ls 7 [(0, .ref (ad 22)), (1, .int x1), (2, .long J2), (4, .int L4), (5, .int L5)] → W p l e ({ frames := 4, cells := 0, slots := 0, locals := 200 } : Room) s m args below meth c H locs 0 0 (MQ below (Q_r008_X9_makes dC dI cI cJ cII cJJ ad f9_size f9_equations f9_areSteps f9_foundMany f9_many f9_rank f9_freeMany f9_arePlans f9_planMany ai0 al0 x1 A) args s 0 0 A) (F0 m 216 ls [])) : ∀ (L4 L5 : Int32) (J2 : Int64) (ai : Nat → Nat → Int32) (al : Nat → Nat → Int64) (H : Heap) (locs : List Loc) (ls : Array Slot), (0 ≤ L4.toInt ∧ L4.toInt ≤ 1) → (0 ≤ L5.toInt ∧ L5.toInt ≤ 3) → (1 ≤ f9_size.toInt ∧ f9_size.toInt ≤ 4) → (0 ≤ f9_equations.toInt ∧ f9_equations.toInt ≤ 3) → (0 ≤ f9_areSteps.toInt ∧ f9_areSteps.toInt ≤ 1) → (0 ≤ f9_foundMany.toInt ∧ f9_foundMany.toInt ≤ 99999) → (0 ≤ f9_many.toInt ∧ f9_many.toInt ≤ 6000) → (0 ≤ f9_rank.toInt ∧ f9_rank.toInt ≤ 3) → (0 ≤ f9_freeMany.toInt ∧ f9_freeMany.toInt ≤ 4) → (0 ≤ f9_arePlans.toInt ∧ f9_arePlans.toInt ≤ 1) → (0 ≤ f9_planMany.toInt ∧ f9_planMany.toInt ≤ 194481) → WKa ai0 ai f9_rank f9_freeMany x1 f9_rank.toInt → Fu ai0 ai f9_freeMany → (∃ u : Nat, (u : Int) < L5.toInt + 1 ∧ (ai 16 u).toInt ≠ 0) → L5.toInt < f9_size.toInt → L5.toInt < f9_size.toInt → f9_size.toInt - L5.toInt ≤ (n216 : Int) → IAM ai → FR [16] ai0 ai → FL [17, 18] al0 al → va_P (dC, dI) vwCl (WM cI cJ cII cJJ ad f9_size f9_equations f9_areSteps f9_foundMany f9_many f9_rank f9_freeMany f9_arePlans f9_planMany ai al) H → va_D A (WM cI cJ cII cJJ ad f9_size f9_equations f9_areSteps f9_foundMany f9_many f9_rank f9_freeMany f9_arePlans f9_planMany ai al) → va_S A s.heap H locs → lv_has ls 7 [(0, .ref (ad 22)), (1, .int x1), (2, .long J2), (4, .int L4), (5, .int L5)] → W p l e ({ frames := 4, cells := 0, slots := 0, locals := 200 } : Room) s m args below meth c H locs 0 0 (MQ below (Q_r008_X9_makes dC dI cI cJ cII cJJ ad f9_size f9_equations f9_areSteps f9_foundMany f9_many f9_rank f9_freeMany f9_arePlans f9_planMany ai0 al0 x1 A) args s 0 0 A) (F0 m 240 ls []) := by
  obtain ⟨hx, hb, hr, hml, hown, hts, hk, hA, hK, hX⟩ := id C
  intro L4 L5 J2 ai al H locs ls h0 h1 h2 h3 h4 h5 h6 h7 h8 h9 h10 h11 h12 h13 h14 h15 h16 hI hF hG hP hD hS hl
  refine lv_iconst (v := 1) hx hb dX9_makes_240 (by decide) ?_
  refine lv_goto (tgt := 245) hx hb dX9_makes_241 (by decide) ?_
  exact r008_X9_makes_b245 C h_x1 hp0 hp1 n216 K216 L4 L5 1 J2 ai al _ _ _ (by first | omega | decide | (have ka0 := (by decide +kernel : (1 : Int32).toInt = 1); omega)) (by first | omega | decide | (have ka0 := (by decide +kernel : (1 : Int32).toInt = 1); omega)) (by first | omega | decide | (have ka0 := (by decide +kernel : (1 : Int32).toInt = 1); omega)) (by first | omega | decide | (have ka0 := (by decide +kernel : (1 : Int32).toInt = 1); omega)) (by first | omega | decide | (have ka0 := (by decide +kernel : (1 : Int32).toInt = 1); omega)) (by first | omega | decide | (have ka0 := (by decide +kernel : (1 : Int32).toInt = 1); omega)) (by first | omega | decide | (have ka0 := (by decide +kernel : (1 : Int32).toInt = 1); omega)) (by first | omega | decide | (have ka0 := (by decide +kernel : (1 : Int32).toInt = 1); omega)) (by first | omega | decide | (have ka0 := (by decide +kernel : (1 : Int32).toInt = 1); omega)) (by first | omega | decide | (have ka0 := (by decide +kernel : (1 : Int32).toInt = 1); omega)) (by first | omega | decide | (have ka0 := (by decide +kernel : (1 : Int32).toInt = 1); omega)) (by first | omega | decide | (have ka0 := (by decide +kernel : (1 : Int32).toInt = 1); omega)) h11 h12 (Or.inr h13) (Or.inl (by decide +kernel)) (by first | omega | decide | (have ka0 := (by decide +kernel : (1 : Int32).toInt = 1); omega)) (by first | omega | decide | (have ka0 := (by decide +kernel : (1 : Int32).toInt = 1); omega)) (by first | omega | decide | (have ka0 := (by decide +kernel : (1 : Int32).toInt = 1); omega)) hI hF hG hP hD hS (lv_sub hl [0, 1, 2, 3, 4] rfl)
set_option maxRecDepth 100000 in
set_option maxHeartbeats 4000000 in
theorem r008_X9_makes_b216 {p : Program} {l : Launch} {e : Env} {s : State} {m : MethodId} {args : Array Value} {below : List Frame} {meth : Method} {c : Code} {A : Nat → Prop} {dC : Nat → ClassId} {dI : Nat → Nat → Nat} {cI cJ cII cJJ : ClassId} {ad : Nat → Nat} {g : Nat} {f9_size f9_equations f9_areSteps f9_foundMany f9_many f9_rank f9_freeMany f9_arePlans f9_planMany : Int32} {ai0 : Nat → Nat → Int32} {al0 : Nat → Nat → Int64} {x1 : Int32} (C : Cx p c s m meth args A dC dI (TY cI cJ cII cJJ) cX9_makes (some .boolean) 7 RX9 0 g) (h_x1 : (0 ≤ x1.toInt ∧ x1.toInt ≤ 1296)) (hp0 : RKa ai0 f9_size f9_rank f9_freeMany) (hp1 : NWb ai0 f9_freeMany x1) : ∀ (n : Nat), ∀ (L4 L5 : Int32) (J2 : Int64) (ai : Nat → Nat → Int32) (al : Nat → Nat → Int64) (H : Heap) (locs : List Loc) (ls : Array Slot), (0 ≤ L4.toInt ∧ L4.toInt ≤ 1) → (0 ≤ L5.toInt ∧ L5.toInt ≤ 4) → (1 ≤ f9_size.toInt ∧ f9_size.toInt ≤ 4) → (0 ≤ f9_equations.toInt ∧ f9_equations.toInt ≤ 3) → (0 ≤ f9_areSteps.toInt ∧ f9_areSteps.toInt ≤ 1) → (0 ≤ f9_foundMany.toInt ∧ f9_foundMany.toInt ≤ 99999) → (0 ≤ f9_many.toInt ∧ f9_many.toInt ≤ 6000) → (0 ≤ f9_rank.toInt ∧ f9_rank.toInt ≤ 3) → (0 ≤ f9_freeMany.toInt ∧ f9_freeMany.toInt ≤ 4) → (0 ≤ f9_arePlans.toInt ∧ f9_arePlans.toInt ≤ 1) → (0 ≤ f9_planMany.toInt ∧ f9_planMany.toInt ≤ 194481) → WKa ai0 ai f9_rank f9_freeMany x1 f9_rank.toInt → Fu ai0 ai f9_freeMany → (L4.toInt = 0 ∨ ∃ u : Nat, (u : Int) < L5.toInt ∧ (ai 16 u).toInt ≠ 0) → (L4.toInt = 1 ∨ ∀ u : Nat, (u : Int) < L5.toInt → (ai 16 u).toInt = 0) → L5.toInt ≤ f9_size.toInt → f9_size.toInt - L5.toInt < (n : Int) → (0 : Int) < (n : Int) → IAM ai → FR [16] ai0 ai → FL [17, 18] al0 al → va_P (dC, dI) vwCl (WM cI cJ cII cJJ ad f9_size f9_equations f9_areSteps f9_foundMany f9_many f9_rank f9_freeMany f9_arePlans f9_planMany ai al) H → va_D A (WM cI cJ cII cJJ ad f9_size f9_equations f9_areSteps f9_foundMany f9_many f9_rank f9_freeMany f9_arePlans f9_planMany ai al) → va_S A s.heap H locs → lv_has ls 7 [(0, .ref (ad 22)), (1, .int x1), (2, .long J2), (4, .int L4), (5, .int L5)] → W p l e ({ frames := 4, cells := 0, slots := 0, locals := 200 } : Room) s m args below meth c H locs 0 0 (MQ below (Q_r008_X9_makes dC dI cI cJ cII cJJ ad f9_size f9_equations f9_areSteps f9_foundMany f9_many f9_rank f9_freeMany f9_arePlans f9_planMany ai0 al0 x1 A) args s 0 0 A) (F0 m 216 ls []) := by
  obtain ⟨hx, hb, hr, hml, hown, hts, hk, hA, hK, hX⟩ := id C
  intro n
  induction n with
  | zero =>
    intro L4 L5 J2 ai al H locs ls h0 h1 h2 h3 h4 h5 h6 h7 h8 h9 h10 h11 h12 h13 h14 h15 h16 h17 hI hF hG hP hD hS hl
    exact absurd h17 (by omega)
  | succ n ih =>
    intro L4 L5 J2 ai al H locs ls h0 h1 h2 h3 h4 h5 h6 h7 h8 h9 h10 h11 h12 h13 h14 h15 h16 h17 hI hF hG hP hD hS hl
    refine lv_iload hx hb dX9_makes_216 (lv_at hl 4 rfl) ?_
    refine lv_aload_n hx hb dX9_makes_218 rfl (lv_at hl 0 rfl) ?_
    refine gf (k := 12) hx hb hts inX9 hown hK hP k_807 rfl (by decide) rfl 22 rfl (.int f9_size) rfl dX9_makes_219 ?_
    refine lv_icmp_ge (tgt := 253) hx hb dX9_makes_222 (by decide) (fun c1 => ?_) (fun c1 => ?_)
    · have c1 := j_le (a := f9_size.toInt) (b := L5.toInt) rfl rfl c1
      refine lv_iload hx hb dX9_makes_253 (lv_at hl 3 rfl) ?_
      exact r2_z hx hb hr hk hS dX9_makes_255 (nb_n (a := L4.toInt) rfl (by omega) (by omega)) (fun t ht hW => ⟨ai, al, ⟨(by first | omega | decide | exact Or.inl (by decide) | exact Or.inr (by decide) | exact Or.inr (by omega)), (h13.imp (fun q => q) (fun q => FVa_mk hp0 (by omega) (by omega) (by omega) (by omega) hp1 h11 h12 (ex_le q (by omega)))), h12, (h14.imp (fun q => q) (fun q => mk_ret hp0 (by omega) (by omega) (by omega) h11 h12 (fun u hu => q u (by omega)))), hI, hF, hG⟩, by rw [ht]; exact hP, va_K.moved hW.alike hK, hD⟩)
    · have c1 := j_nle (a := f9_size.toInt) (b := L5.toInt) rfl rfl c1
      refine lv_iload hx hb dX9_makes_225 (lv_at hl 3 rfl) ?_
      refine lv_if_ne (tgt := 240) hx hb dX9_makes_227 (by decide) (fun c2 => ?_) (fun c2 => ?_)
      · have c2 := j_ne (a := L4.toInt) (b := 0) rfl (by decide +kernel) c2
        exact r008_X9_makes_b240 C h_x1 hp0 hp1 n ih L4 L5 J2 ai al _ _ _ (by omega) (by omega) (by omega) (by omega) (by omega) (by omega) (by omega) (by omega) (by omega) (by omega) (by omega) h11 h12 (ex_up (h13.resolve_left (by omega))) (by omega) (by omega) (by omega) hI hF hG hP hD hS (lv_sub hl [0, 1, 2, 3, 4] rfl)
      · have c2 := j_eq (a := L4.toInt) (b := 0) rfl (by decide +kernel) c2
        refine lv_aload_n hx hb dX9_makes_230 rfl (lv_at hl 0 rfl) ?_
        refine gf (k := 26) hx hb hts inX9 hown hK hP k_821 rfl (by decide) rfl 22 rfl (.ref (ad 16)) rfl dX9_makes_231 ?_
        refine lv_iload hx hb dX9_makes_234 (lv_at hl 4 rfl) ?_
        refine va_iald hx hb hK hP 16 0 rfl rfl (j_in (a := L5.toInt) rfl (by omega) (by omega)) dX9_makes_236 ?_
        refine lv_topi (fun z3 e_z3 => ?_)
        refine lv_if_eq (tgt := 244) hx hb dX9_makes_237 (by decide) (fun c4 => ?_) (fun c4 => ?_)
        · have c4 := j_eq (a := z3.toInt) (b := 0) rfl (by decide +kernel) c4
          refine lv_iconst (v := 0) hx hb dX9_makes_244 (by decide) ?_
          exact r008_X9_makes_b245 C h_x1 hp0 hp1 n ih L4 L5 0 J2 ai al _ _ _ (by first | omega | decide | (have ka0 := (by decide +kernel : (0 : Int32).toInt = 0); omega)) (by first | omega | decide | (have ka0 := (by decide +kernel : (0 : Int32).toInt = 0); omega)) (by first | omega | decide | (have ka0 := (by decide +kernel : (0 : Int32).toInt = 0); omega)) (by first | omega | decide | (have ka0 := (by decide +kernel : (0 : Int32).toInt = 0); omega)) (by first | omega | decide | (have ka0 := (by decide +kernel : (0 : Int32).toInt = 0); omega)) (by first | omega | decide | (have ka0 := (by decide +kernel : (0 : Int32).toInt = 0); omega)) (by first | omega | decide | (have ka0 := (by decide +kernel : (0 : Int32).toInt = 0); omega)) (by first | omega | decide | (have ka0 := (by decide +kernel : (0 : Int32).toInt = 0); omega)) (by first | omega | decide | (have ka0 := (by decide +kernel : (0 : Int32).toInt = 0); omega)) (by first | omega | decide | (have ka0 := (by decide +kernel : (0 : Int32).toInt = 0); omega)) (by first | omega | decide | (have ka0 := (by decide +kernel : (0 : Int32).toInt = 0); omega)) (by first | omega | decide | (have ka0 := (by decide +kernel : (0 : Int32).toInt = 0); omega)) h11 h12 (Or.inl (by decide +kernel)) (Or.inr (al_up (n := L5) (by omega) (h14.resolve_left (by omega)) (by rw [show ai 16 L5.toInt.toNat = z3 from e_z3.symm]; omega))) (by first | omega | decide | (have ka0 := (by decide +kernel : (0 : Int32).toInt = 0); omega)) (by first | omega | decide | (have ka0 := (by decide +kernel : (0 : Int32).toInt = 0); omega)) (by first | omega | decide | (have ka0 := (by decide +kernel : (0 : Int32).toInt = 0); omega)) hI hF hG hP hD hS (lv_sub hl [0, 1, 2, 3, 4] rfl)
        · have c4 := j_ne (a := z3.toInt) (b := 0) rfl (by decide +kernel) c4
          exact r008_X9_makes_b240 C h_x1 hp0 hp1 n ih L4 L5 J2 ai al _ _ _ (by omega) (by omega) (by omega) (by omega) (by omega) (by omega) (by omega) (by omega) (by omega) (by omega) (by omega) h11 h12 (ex_at (n := L5) (by omega) (by rw [show ai 16 L5.toInt.toNat = z3 from e_z3.symm]; omega)) (by omega) (by omega) (by omega) hI hF hG hP hD hS (lv_sub hl [0, 1, 2, 3, 4] rfl)
set_option maxRecDepth 100000 in
set_option maxHeartbeats 4000000 in
theorem r008_X9_makes_b185 {p : Program} {l : Launch} {e : Env} {s : State} {m : MethodId} {args : Array Value} {below : List Frame} {meth : Method} {c : Code} {A : Nat → Prop} {dC : Nat → ClassId} {dI : Nat → Nat → Nat} {cI cJ cII cJJ : ClassId} {ad : Nat → Nat} {g : Nat} {f9_size f9_equations f9_areSteps f9_foundMany f9_many f9_rank f9_freeMany f9_arePlans f9_planMany : Int32} {ai0 : Nat → Nat → Int32} {al0 : Nat → Nat → Int64} {x1 : Int32} (C : Cx p c s m meth args A dC dI (TY cI cJ cII cJJ) cX9_makes (some .boolean) 7 RX9 0 g) (h_x1 : (0 ≤ x1.toInt ∧ x1.toInt ≤ 1296)) (hp0 : RKa ai0 f9_size f9_rank f9_freeMany) (hp1 : NWb ai0 f9_freeMany x1) (n134 : Nat) (K134 : ∀ (L4 : Int32) (J2 : Int64) (ai : Nat → Nat → Int32) (al : Nat → Nat → Int64) (H : Heap) (locs : List Loc) (ls : Array Slot), (0 ≤ L4.toInt ∧ L4.toInt ≤ 3) → (1 ≤ f9_size.toInt ∧ f9_size.toInt ≤ 4) → (0 ≤ f9_equations.toInt ∧ f9_equations.toInt ≤ 3) → (0 ≤ f9_areSteps.toInt ∧ f9_areSteps.toInt ≤ 1) → (0 ≤ f9_foundMany.toInt ∧ f9_foundMany.toInt ≤ 99999) → (0 ≤ f9_many.toInt ∧ f9_many.toInt ≤ 6000) → (0 ≤ f9_rank.toInt ∧ f9_rank.toInt ≤ 3) → (0 ≤ f9_freeMany.toInt ∧ f9_freeMany.toInt ≤ 4) → (0 ≤ f9_arePlans.toInt ∧ f9_arePlans.toInt ≤ 1) → (0 ≤ f9_planMany.toInt ∧ f9_planMany.toInt ≤ 194481) → CLa ai0 al f9_freeMany f9_rank.toInt → J2 = mnv ai0 f9_rank → WKa ai0 ai f9_rank f9_freeMany x1 L4.toInt → Fu ai0 ai f9_freeMany → L4.toInt ≤ f9_rank.toInt → f9_rank.toInt - L4.toInt < (n134 : Int) → (0 : Int) < (n134 : Int) → IAM ai → FR [16] ai0 ai → FL [17, 18] al0 al → va_P (dC, dI) vwCl (WM cI cJ cII cJJ ad f9_size f9_equations f9_areSteps f9_foundMany f9_many f9_rank f9_freeMany f9_arePlans f9_planMany ai al) H → va_D A (WM cI cJ cII cJJ ad f9_size f9_equations f9_areSteps f9_foundMany f9_many f9_rank f9_freeMany f9_arePlans f9_planMany ai al) → va_S A s.heap H locs → lv_has ls 7 [(0, .ref (ad 22)), (1, .int x1), (2, .long J2), (4, .int L4)] → W p l e ({ frames := 4, cells := 0, slots := 0, locals := 200 } : Room) s m args below meth c H locs 0 0 (MQ below (Q_r008_X9_makes dC dI cI cJ cII cJJ ad f9_size f9_equations f9_areSteps f9_foundMany f9_many f9_rank f9_freeMany f9_arePlans f9_planMany ai0 al0 x1 A) args s 0 0 A) (F0 m 134 ls [])) : ∀ (L4 : Int32) (J2 J5 : Int64) (ai : Nat → Nat → Int32) (al : Nat → Nat → Int64) (H : Heap) (locs : List Loc) (ls : Array Slot), (0 ≤ L4.toInt ∧ L4.toInt ≤ 2) → (-1000000000000000 ≤ J5.toInt ∧ J5.toInt ≤ 1000000000000000) → (1 ≤ f9_size.toInt ∧ f9_size.toInt ≤ 4) → (0 ≤ f9_equations.toInt ∧ f9_equations.toInt ≤ 3) → (0 ≤ f9_areSteps.toInt ∧ f9_areSteps.toInt ≤ 1) → (0 ≤ f9_foundMany.toInt ∧ f9_foundMany.toInt ≤ 99999) → (0 ≤ f9_many.toInt ∧ f9_many.toInt ≤ 6000) → (1 ≤ f9_rank.toInt ∧ f9_rank.toInt ≤ 3) → (0 ≤ f9_freeMany.toInt ∧ f9_freeMany.toInt ≤ 4) → (0 ≤ f9_arePlans.toInt ∧ f9_arePlans.toInt ≤ 1) → (0 ≤ f9_planMany.toInt ∧ f9_planMany.toInt ≤ 194481) → Fu ai0 ai f9_freeMany → NoV ai0 f9_size f9_rank f9_freeMany x1 → L4.toInt < f9_rank.toInt → f9_rank.toInt - L4.toInt ≤ (n134 : Int) → IAM ai → FR [16] ai0 ai → FL [17, 18] al0 al → va_P (dC, dI) vwCl (WM cI cJ cII cJJ ad f9_size f9_equations f9_areSteps f9_foundMany f9_many f9_rank f9_freeMany f9_arePlans f9_planMany ai al) H → va_D A (WM cI cJ cII cJJ ad f9_size f9_equations f9_areSteps f9_foundMany f9_many f9_rank f9_freeMany f9_arePlans f9_planMany ai al) → va_S A s.heap H locs → lv_has ls 7 [(0, .ref (ad 22)), (1, .int x1), (2, .long J2), (4, .int L4), (5, .long J5)] → W p l e ({ frames := 4, cells := 0, slots := 0, locals := 200 } : Room) s m args below meth c H locs 0 0 (MQ below (Q_r008_X9_makes dC dI cI cJ cII cJJ ad f9_size f9_equations f9_areSteps f9_foundMany f9_many f9_rank f9_freeMany f9_arePlans f9_planMany ai0 al0 x1 A) args s 0 0 A) (F0 m 185 ls []) := by
  obtain ⟨hx, hb, hr, hml, hown, hts, hk, hA, hK, hX⟩ := id C
  intro L4 J2 J5 ai al H locs ls h0 h1 h2 h3 h4 h5 h6 h7 h8 h9 h10 h11 h12 h13 h14 hI hF hG hP hD hS hl
  refine lv_iconst (v := 0) hx hb dX9_makes_185 (by decide) ?_
  exact r2_z hx hb hr hk hS dX9_makes_186 rfl (fun t ht hW => ⟨ai, al, ⟨(by first | omega | decide | exact Or.inl (by decide) | exact Or.inr (by decide) | exact Or.inr (by omega)), (Or.inl (by decide +kernel)), h11, (Or.inr h12), hI, hF, hG⟩, by rw [ht]; exact hP, va_K.moved hW.alike hK, hD⟩)
set_option maxRecDepth 100000 in
set_option maxHeartbeats 4000000 in
theorem r008_X9_makes_b134 {p : Program} {l : Launch} {e : Env} {s : State} {m : MethodId} {args : Array Value} {below : List Frame} {meth : Method} {c : Code} {A : Nat → Prop} {dC : Nat → ClassId} {dI : Nat → Nat → Nat} {cI cJ cII cJJ : ClassId} {ad : Nat → Nat} {g : Nat} {f9_size f9_equations f9_areSteps f9_foundMany f9_many f9_rank f9_freeMany f9_arePlans f9_planMany : Int32} {ai0 : Nat → Nat → Int32} {al0 : Nat → Nat → Int64} {x1 : Int32} (C : Cx p c s m meth args A dC dI (TY cI cJ cII cJJ) cX9_makes (some .boolean) 7 RX9 0 g) (h_x1 : (0 ≤ x1.toInt ∧ x1.toInt ≤ 1296)) (hp0 : RKa ai0 f9_size f9_rank f9_freeMany) (hp1 : NWb ai0 f9_freeMany x1) : ∀ (n : Nat), ∀ (L4 : Int32) (J2 : Int64) (ai : Nat → Nat → Int32) (al : Nat → Nat → Int64) (H : Heap) (locs : List Loc) (ls : Array Slot), (0 ≤ L4.toInt ∧ L4.toInt ≤ 3) → (1 ≤ f9_size.toInt ∧ f9_size.toInt ≤ 4) → (0 ≤ f9_equations.toInt ∧ f9_equations.toInt ≤ 3) → (0 ≤ f9_areSteps.toInt ∧ f9_areSteps.toInt ≤ 1) → (0 ≤ f9_foundMany.toInt ∧ f9_foundMany.toInt ≤ 99999) → (0 ≤ f9_many.toInt ∧ f9_many.toInt ≤ 6000) → (0 ≤ f9_rank.toInt ∧ f9_rank.toInt ≤ 3) → (0 ≤ f9_freeMany.toInt ∧ f9_freeMany.toInt ≤ 4) → (0 ≤ f9_arePlans.toInt ∧ f9_arePlans.toInt ≤ 1) → (0 ≤ f9_planMany.toInt ∧ f9_planMany.toInt ≤ 194481) → CLa ai0 al f9_freeMany f9_rank.toInt → J2 = mnv ai0 f9_rank → WKa ai0 ai f9_rank f9_freeMany x1 L4.toInt → Fu ai0 ai f9_freeMany → L4.toInt ≤ f9_rank.toInt → f9_rank.toInt - L4.toInt < (n : Int) → (0 : Int) < (n : Int) → IAM ai → FR [16] ai0 ai → FL [17, 18] al0 al → va_P (dC, dI) vwCl (WM cI cJ cII cJJ ad f9_size f9_equations f9_areSteps f9_foundMany f9_many f9_rank f9_freeMany f9_arePlans f9_planMany ai al) H → va_D A (WM cI cJ cII cJJ ad f9_size f9_equations f9_areSteps f9_foundMany f9_many f9_rank f9_freeMany f9_arePlans f9_planMany ai al) → va_S A s.heap H locs → lv_has ls 7 [(0, .ref (ad 22)), (1, .int x1), (2, .long J2), (4, .int L4)] → W p l e ({ frames := 4, cells := 0, slots := 0, locals := 200 } : Room) s m args below meth c H locs 0 0 (MQ below (Q_r008_X9_makes dC dI cI cJ cII cJJ ad f9_size f9_equations f9_areSteps f9_foundMany f9_many f9_rank f9_freeMany f9_arePlans f9_planMany ai0 al0 x1 A) args s 0 0 A) (F0 m 134 ls []) := by
  obtain ⟨hx, hb, hr, hml, hown, hts, hk, hA, hK, hX⟩ := id C
  intro n
  induction n with
  | zero =>
    intro L4 J2 ai al H locs ls h0 h1 h2 h3 h4 h5 h6 h7 h8 h9 h10 h11 h12 h13 h14 h15 h16 hI hF hG hP hD hS hl
    exact absurd h16 (by omega)
  | succ n ih =>
    intro L4 J2 ai al H locs ls h0 h1 h2 h3 h4 h5 h6 h7 h8 h9 h10 h11 h12 h13 h14 h15 h16 hI hF hG hP hD hS hl
    refine lv_iload hx hb dX9_makes_134 (lv_at hl 3 rfl) ?_
    refine lv_aload_n hx hb dX9_makes_136 rfl (lv_at hl 0 rfl) ?_
    refine gf (k := 27) hx hb hts inX9 hown hK hP k_822 rfl (by decide) rfl 22 rfl (.int f9_rank) rfl dX9_makes_137 ?_
    refine lv_icmp_ge (tgt := 210) hx hb dX9_makes_140 (by decide) (fun c1 => ?_) (fun c1 => ?_)
    · have c1 := j_le (a := f9_rank.toInt) (b := L4.toInt) rfl rfl c1
      refine lv_iconst (v := 0) hx hb dX9_makes_210 (by decide) ?_
      refine lv_istore (lv' := [(4, .int 0), (0, .ref (ad 22)), (1, .int x1), (2, .long J2)]) hx hb dX9_makes_211 hl (by decide) rfl (fun ls_1 hl_1 => ?_)
      refine lv_iconst (v := 0) hx hb dX9_makes_213 (by decide) ?_
      refine lv_istore (lv' := [(5, .int 0), (4, .int 0), (0, .ref (ad 22)), (1, .int x1), (2, .long J2)]) hx hb dX9_makes_214 hl_1 (by decide) rfl (fun ls_2 hl_2 => ?_)
      exact r008_X9_makes_b216 C h_x1 hp0 hp1  _ 0 0 J2 ai al _ _ _ (by first | omega | decide | (have ka0 := (by decide +kernel : (0 : Int32).toInt = 0); omega)) (by first | omega | decide | (have ka0 := (by decide +kernel : (0 : Int32).toInt = 0); omega)) (by first | omega | decide | (have ka0 := (by decide +kernel : (0 : Int32).toInt = 0); omega)) (by first | omega | decide | (have ka0 := (by decide +kernel : (0 : Int32).toInt = 0); omega)) (by first | omega | decide | (have ka0 := (by decide +kernel : (0 : Int32).toInt = 0); omega)) (by first | omega | decide | (have ka0 := (by decide +kernel : (0 : Int32).toInt = 0); omega)) (by first | omega | decide | (have ka0 := (by decide +kernel : (0 : Int32).toInt = 0); omega)) (by first | omega | decide | (have ka0 := (by decide +kernel : (0 : Int32).toInt = 0); omega)) (by first | omega | decide | (have ka0 := (by decide +kernel : (0 : Int32).toInt = 0); omega)) (by first | omega | decide | (have ka0 := (by decide +kernel : (0 : Int32).toInt = 0); omega)) (by first | omega | decide | (have ka0 := (by decide +kernel : (0 : Int32).toInt = 0); omega)) (fun q h9 => h12 q (by omega)) h13 (Or.inl (by decide +kernel)) (Or.inr (fun q h9 => (zlt h9).elim)) (by have q3 := (by decide : (0 : Int32).toInt = 0); omega) (j_fuel _) (by omega) hI hF hG hP hD hS (lv_sub hl_2 [2, 3, 4, 1, 0] rfl)
    · have c1 := j_nle (a := f9_rank.toInt) (b := L4.toInt) rfl rfl c1
      refine lv_aload_n hx hb dX9_makes_143 rfl (lv_at hl 0 rfl) ?_
      refine lv_iload hx hb dX9_makes_144 (lv_at hl 3 rfl) ?_
      refine lv_aload_n hx hb dX9_makes_146 rfl (lv_at hl 0 rfl) ?_
      refine gf (k := 30) hx hb hts inX9 hown hK hP k_825 rfl (by decide) rfl 22 rfl (.ref (ad 18)) rfl dX9_makes_147 ?_
      have hM := r007_X9_putIn l dC dI cI cJ cII cJJ H.size 0 ad f9_size f9_equations f9_areSteps f9_foundMany f9_many f9_rank f9_freeMany f9_arePlans f9_planMany ai al L4 (by omega) (by omega) (by omega) (by omega) (by omega) (by omega) (by omega) (by omega) (by omega) (by omega) (cl_b (IAM_fr hI hF (by decide)) hp1 (by omega) (by omega) (by omega) h10) hI
      refine k2V_l (q0 := 22) ⟨hx, hb, hml, hown, hts⟩ hK hP hD hS hA hX cv_RX9_145 hM ⟨by decide +kernel, by decide +kernel⟩ rfl rfl (Or.inl rfl) (rest := []) rfl rfl rfl hl.1 rfl (Nat.le_of_ble_eq_true rfl) dX9_makes_150 ⟨Nat.le_of_ble_eq_true rfl, Nat.le_of_ble_eq_true rfl⟩ (fun r2 t H1 locs_3 ht hB hS_3 hFc => ?_)
      obtain ⟨al3, ⟨gpr2_0, gpr2_1, hGr_r2⟩, hP_4, -, hD_4⟩ := hB
      have hG_5 := FL_tr hG hGr_r2 (by decide)
      rw [ht] at hP_4
      have hD_6 := hD_4.weaken (B := A) (fun k q _ h9 => hFc q.1 h9)
      clear ht
      generalize H1 = H_7 at hP_4 hS_3 ⊢
      refine lv_lstore (lv' := [(5, .long r2), (0, .ref (ad 22)), (1, .int x1), (2, .long J2), (4, .int L4)]) hx hb dX9_makes_153 hl (by decide) rfl (fun ls_8 hl_8 => ?_)
      refine lv_lload hx hb dX9_makes_155 (lv_at hl_8 0 rfl) ?_
      refine lv_lload_n hx hb dX9_makes_157 rfl (lv_at hl_8 3 rfl) ?_
      refine v_lrem hx hb dX9_makes_158 (by rw [h11]; exact hp0.2) _ rfl ?_
      refine lv_topl (fun yy4 e_yy4 => ?_)
      have g_yy4 : yy4.toInt = r2.toInt.tmod (mnv ai0 f9_rank).toInt := by rw [e_yy4, ln_rem (a := r2.toInt) (b := J2.toInt) rfl rfl (by omega) (by omega), h11]
      have q_V := cM_pk hF (by omega) (by omega) h10 gpr2_0
      have q_F : FR [16] ai0 ai := hF
      refine lv_lconst (v := 0) hx hb dX9_makes_159 (by decide) ?_
      refine v_lcmp hx hb dX9_makes_160 _ rfl ?_
      refine lv_topi (fun z5 e_z5 => ?_)
      have g_z5 := lc_cases (a := yy4.toInt) (b := 0) e_z5 rfl (by decide +kernel)
      refine lv_if_ne (tgt := 185) hx hb dX9_makes_161 (by decide) (fun c6 => ?_) (fun c6 => ?_)
      · have c6 := j_ne (a := z5.toInt) (b := 0) rfl (by decide +kernel) c6
        exact r008_X9_makes_b185 C h_x1 hp0 hp1 n ih L4 J2 r2 ai al3 _ _ _ (by omega) (by omega) (by omega) (by omega) (by omega) (by omega) (by omega) (by omega) (by omega) (by omega) (by omega) h13 (mk_no hp0 (by omega) (by omega) (by omega) (by omega) (by omega) q_V (by omega)) (by omega) (by omega) hI hF hG_5 hP_4 hD_6 hS_3 (lv_sub hl_8 [1, 2, 3, 4, 0] rfl)
      · have c6 := j_eq (a := z5.toInt) (b := 0) rfl (by decide +kernel) c6
        refine lv_lload hx hb dX9_makes_164 (lv_at hl_8 0 rfl) ?_
        refine lv_lload_n hx hb dX9_makes_166 rfl (lv_at hl_8 3 rfl) ?_
        refine v_ldiv hx hb dX9_makes_167 (by rw [h11]; exact hp0.2) _ rfl ?_
        refine lv_topl (fun yy7 e_yy7 => ?_)
        have g_yy7 : yy7.toInt = r2.toInt.tdiv (mnv ai0 f9_rank).toInt := by rw [e_yy7, ln_div (a := r2.toInt) (b := J2.toInt) rfl rfl (by omega) (by omega), h11]
        refine lv_iload_n hx hb dX9_makes_168 rfl (lv_at hl_8 2 rfl) ?_
        refine lv_i2l hx hb dX9_makes_169 rfl ?_
        refine lv_topl (fun yy8 e_yy8 => ?_)
        have g_yy8 : yy8.toInt = x1.toInt := by rw [e_yy8]; exact ln_i2l (a := x1.toInt) rfl
        refine v_lcmp hx hb dX9_makes_170 _ rfl ?_
        refine lv_topi (fun z9 e_z9 => ?_)
        have g_z9 := lc_cases (a := yy7.toInt) (b := yy8.toInt) e_z9 rfl rfl
        refine lv_if_gt (tgt := 185) hx hb dX9_makes_171 (by decide) (fun c10 => ?_) (fun c10 => ?_)
        · have c10 := j_lt (a := 0) (b := z9.toInt) (by decide +kernel) rfl c10
          exact r008_X9_makes_b185 C h_x1 hp0 hp1 n ih L4 J2 r2 ai al3 _ _ _ (by omega) (by omega) (by omega) (by omega) (by omega) (by omega) (by omega) (by omega) (by omega) (by omega) (by omega) h13 (mk_no hp0 (by omega) (by omega) (by omega) (by omega) (by omega) q_V (by omega)) (by omega) (by omega) hI hF hG_5 hP_4 hD_6 hS_3 (lv_sub hl_8 [1, 2, 3, 4, 0] rfl)
        · have c10 := j_nlt (a := 0) (b := z9.toInt) (by decide +kernel) rfl c10
          refine lv_lload hx hb dX9_makes_174 (lv_at hl_8 0 rfl) ?_
          refine lv_lload_n hx hb dX9_makes_176 rfl (lv_at hl_8 3 rfl) ?_
          refine v_ldiv hx hb dX9_makes_177 (by rw [h11]; exact hp0.2) _ rfl ?_
          refine lv_topl (fun yy11 e_yy11 => ?_)
          have g_yy11 : yy11.toInt = r2.toInt.tdiv (mnv ai0 f9_rank).toInt := by rw [e_yy11, ln_div (a := r2.toInt) (b := J2.toInt) rfl rfl (by omega) (by omega), h11]
          refine lv_iload_n hx hb dX9_makes_178 rfl (lv_at hl_8 2 rfl) ?_
          refine v_ineg hx hb dX9_makes_179 _ rfl ?_
          refine lv_topi (fun z12 e_z12 => ?_)
          have g_z12 : z12.toInt = -x1.toInt := by rw [e_z12]; exact n_neg (a := x1.toInt) rfl (by omega)
          refine lv_i2l hx hb dX9_makes_180 rfl ?_
          refine lv_topl (fun yy13 e_yy13 => ?_)
          have g_yy13 : yy13.toInt = z12.toInt := by rw [e_yy13]; exact ln_i2l (a := z12.toInt) rfl
          refine v_lcmp hx hb dX9_makes_181 _ rfl ?_
          refine lv_topi (fun z14 e_z14 => ?_)
          have g_z14 := lc_cases (a := yy11.toInt) (b := yy13.toInt) e_z14 rfl rfl
          refine lv_if_ge (tgt := 187) hx hb dX9_makes_182 (by decide) (fun c15 => ?_) (fun c15 => ?_)
          · have c15 := j_le (a := 0) (b := z14.toInt) (by decide +kernel) rfl c15
            refine lv_aload_n hx hb dX9_makes_187 rfl (lv_at hl_8 1 rfl) ?_
            refine gf (k := 26) hx hb hts inX9 hown hK hP_4 k_821 rfl (by decide) rfl 22 rfl (.ref (ad 16)) rfl dX9_makes_188 ?_
            refine lv_aload_n hx hb dX9_makes_191 rfl (lv_at hl_8 1 rfl) ?_
            refine gf (k := 23) hx hb hts inX9 hown hK hP_4 k_818 rfl (by decide) rfl 22 rfl (.ref (ad 13)) rfl dX9_makes_192 ?_
            refine lv_iload hx hb dX9_makes_195 (lv_at hl_8 4 rfl) ?_
            refine va_iald hx hb hK hP_4 13 0 rfl rfl (j_in (a := L4.toInt) rfl (by omega) (by omega)) dX9_makes_197 ?_
            refine lv_topi (fun z16 e_z16 => ?_)
            have g_z16 : 0 ≤ z16.toInt ∧ z16.toInt ≤ 3 := by rw [e_z16]; exact IAM_at13 hI _
            refine lv_lload hx hb dX9_makes_198 (lv_at hl_8 0 rfl) ?_
            refine lv_lload_n hx hb dX9_makes_200 rfl (lv_at hl_8 3 rfl) ?_
            refine v_ldiv hx hb dX9_makes_201 (by rw [h11]; exact hp0.2) _ rfl ?_
            refine lv_topl (fun yy17 e_yy17 => ?_)
            have g_yy17 : yy17.toInt = r2.toInt.tdiv (mnv ai0 f9_rank).toInt := by rw [e_yy17, ln_div (a := r2.toInt) (b := J2.toInt) rfl rfl (by omega) (by omega), h11]
            have q_r : -x1.toInt ≤ yy17.toInt ∧ yy17.toInt ≤ x1.toInt := by omega
            refine lv_l2i hx hb dX9_makes_202 rfl ?_
            refine lv_topi (fun z18 e_z18 => ?_)
            have g_z18 : z18.toInt = yy17.toInt := by rw [e_z18]; exact ln_l2i (a := yy17.toInt) rfl (by omega) (by omega)
            have q_m : r2.toInt.tmod (mnv ai0 f9_rank).toInt = 0 := by omega
            have q_w : z18.toInt = r2.toInt.tdiv (mnv ai0 f9_rank).toInt := by omega
            have q_b : -x1.toInt ≤ z18.toInt ∧ z18.toInt ≤ x1.toInt := by omega
            refine va_iast hx hb hK hP_4 hD_6 hS_3 16 0 rfl rfl (j_in (a := z16.toInt) rfl (by omega) (by omega)) dX9_makes_203 (fun H_9 locs_9 hP_9 hD_9 hS_9 => ?_)
            obtain ⟨ai19, e_ai19⟩ : ∃ q : Nat → Nat → Int32, q = va_up ai 16 (upd (ai 16) z16.toNatClampNeg z18) := ⟨_, rfl⟩
            have hF_10 := FR_st hF e_ai19 (by decide)
            have hI_11 : IAM ai19 := by rw [e_ai19]; exact hI
            have hP_12 : va_P (dC, dI) vwCl (WM cI cJ cII cJJ ad f9_size f9_equations f9_areSteps f9_foundMany f9_many f9_rank f9_freeMany f9_arePlans f9_planMany ai19 al3) H_9 := by rw [e_ai19]; exact hP_9
            have hD_13 : va_D A (WM cI cJ cII cJJ ad f9_size f9_equations f9_areSteps f9_foundMany f9_many f9_rank f9_freeMany f9_arePlans f9_planMany ai19 al3) := by rw [e_ai19]; exact hD_9
            obtain ⟨z20, e_z20⟩ : ∃ q : Int32, q = L4 + Int32.ofInt 1 := ⟨_, rfl⟩
            have g_z20 : z20.toInt = L4.toInt + 1 := by rw [e_z20]; exact n_add (a := L4.toInt) (b := 1) rfl (by decide +kernel) (by omega) (by omega)
            refine lv_iinc (v := z20) (lv' := [(4, .int z20), (5, .long r2), (0, .ref (ad 22)), (1, .int x1), (2, .long J2)]) hx hb dX9_makes_204 hl_8 (k := 4) rfl e_z20.symm (by decide) rfl (fun ls_14 hl_14 => ?_)
            refine lv_goto (tgt := 134) hx hb dX9_makes_207 (by decide) ?_
            exact ih z20 J2 ai19 al3 _ _ _ (by omega) (by omega) (by omega) (by omega) (by omega) (by omega) (by omega) (by omega) (by omega) (by omega) (fun i hi => by rw [hGr_r2 18 (by decide)]; exact h10 i hi) h11 (WKa_st hp0 h12 e_ai19 (by rw [e_z16, q_F 13 (by decide)]; rfl) (by omega) (by omega) q_V q_m q_w q_b (by omega)) (Fu_st (k := L4) hp0 h13 e_ai19 (by rw [e_z16, q_F 13 (by decide)]; rfl) (by omega) (by omega)) (by omega) (by omega) (by omega) hI_11 hF_10 hG_5 hP_12 hD_13 hS_9 (lv_sub hl_14 [2, 3, 4, 0] rfl)
          · have c15 := j_nle (a := 0) (b := z14.toInt) (by decide +kernel) rfl c15
            exact r008_X9_makes_b185 C h_x1 hp0 hp1 n ih L4 J2 r2 ai al3 _ _ _ (by omega) (by omega) (by omega) (by omega) (by omega) (by omega) (by omega) (by omega) (by omega) (by omega) (by omega) h13 (mk_no hp0 (by omega) (by omega) (by omega) (by omega) (by omega) q_V (by omega)) (by omega) (by omega) hI hF hG_5 hP_4 hD_6 hS_3 (lv_sub hl_8 [1, 2, 3, 4, 0] rfl)
set_option maxRecDepth 100000 in
set_option maxHeartbeats 4000000 in
theorem r008_X9_makes_b68 {p : Program} {l : Launch} {e : Env} {s : State} {m : MethodId} {args : Array Value} {below : List Frame} {meth : Method} {c : Code} {A : Nat → Prop} {dC : Nat → ClassId} {dI : Nat → Nat → Nat} {cI cJ cII cJJ : ClassId} {ad : Nat → Nat} {g : Nat} {f9_size f9_equations f9_areSteps f9_foundMany f9_many f9_rank f9_freeMany f9_arePlans f9_planMany : Int32} {ai0 : Nat → Nat → Int32} {al0 : Nat → Nat → Int64} {x1 : Int32} (C : Cx p c s m meth args A dC dI (TY cI cJ cII cJJ) cX9_makes (some .boolean) 7 RX9 0 g) (h_x1 : (0 ≤ x1.toInt ∧ x1.toInt ≤ 1296)) (hp0 : RKa ai0 f9_size f9_rank f9_freeMany) (hp1 : NWb ai0 f9_freeMany x1) (n48 : Nat) (K48 : ∀ (L4 : Int32) (J2 : Int64) (ai : Nat → Nat → Int32) (al : Nat → Nat → Int64) (H : Heap) (locs : List Loc) (ls : Array Slot), (0 ≤ L4.toInt ∧ L4.toInt ≤ 3) → (1 ≤ f9_size.toInt ∧ f9_size.toInt ≤ 4) → (0 ≤ f9_equations.toInt ∧ f9_equations.toInt ≤ 3) → (0 ≤ f9_areSteps.toInt ∧ f9_areSteps.toInt ≤ 1) → (0 ≤ f9_foundMany.toInt ∧ f9_foundMany.toInt ≤ 99999) → (0 ≤ f9_many.toInt ∧ f9_many.toInt ≤ 6000) → (0 ≤ f9_rank.toInt ∧ f9_rank.toInt ≤ 3) → (0 ≤ f9_freeMany.toInt ∧ f9_freeMany.toInt ≤ 4) → (0 ≤ f9_arePlans.toInt ∧ f9_arePlans.toInt ≤ 1) → (0 ≤ f9_planMany.toInt ∧ f9_planMany.toInt ≤ 194481) → CLa ai0 al f9_freeMany L4.toInt → ai = ai0 → J2 = mnv ai0 f9_rank → L4.toInt ≤ f9_rank.toInt → f9_rank.toInt - L4.toInt < (n48 : Int) → (0 : Int) < (n48 : Int) → IAM ai → FR [16] ai0 ai → FL [17, 18] al0 al → va_P (dC, dI) vwCl (WM cI cJ cII cJJ ad f9_size f9_equations f9_areSteps f9_foundMany f9_many f9_rank f9_freeMany f9_arePlans f9_planMany ai al) H → va_D A (WM cI cJ cII cJJ ad f9_size f9_equations f9_areSteps f9_foundMany f9_many f9_rank f9_freeMany f9_arePlans f9_planMany ai al) → va_S A s.heap H locs → lv_has ls 7 [(0, .ref (ad 22)), (1, .int x1), (2, .long J2), (4, .int L4)] → W p l e ({ frames := 4, cells := 0, slots := 0, locals := 200 } : Room) s m args below meth c H locs 0 0 (MQ below (Q_r008_X9_makes dC dI cI cJ cII cJJ ad f9_size f9_equations f9_areSteps f9_foundMany f9_many f9_rank f9_freeMany f9_arePlans f9_planMany ai0 al0 x1 A) args s 0 0 A) (F0 m 48 ls [])) : ∀ (n : Nat), ∀ (L4 L5 : Int32) (J2 : Int64) (ai : Nat → Nat → Int32) (al : Nat → Nat → Int64) (H : Heap) (locs : List Loc) (ls : Array Slot), (0 ≤ L4.toInt ∧ L4.toInt ≤ 2) → (0 ≤ L5.toInt ∧ L5.toInt ≤ 4) → (1 ≤ f9_size.toInt ∧ f9_size.toInt ≤ 4) → (0 ≤ f9_equations.toInt ∧ f9_equations.toInt ≤ 3) → (0 ≤ f9_areSteps.toInt ∧ f9_areSteps.toInt ≤ 1) → (0 ≤ f9_foundMany.toInt ∧ f9_foundMany.toInt ≤ 99999) → (0 ≤ f9_many.toInt ∧ f9_many.toInt ≤ 6000) → (1 ≤ f9_rank.toInt ∧ f9_rank.toInt ≤ 3) → (0 ≤ f9_freeMany.toInt ∧ f9_freeMany.toInt ≤ 4) → (0 ≤ f9_arePlans.toInt ∧ f9_arePlans.toInt ≤ 1) → (0 ≤ f9_planMany.toInt ∧ f9_planMany.toInt ≤ 194481) → CLa ai0 al f9_freeMany L4.toInt → ai = ai0 → J2 = mnv ai0 f9_rank → (al 18 L4.toInt.toNat).toInt = -sm L5.toInt.toNat (gz ai0 L4.toInt.toNat) → L5.toInt ≤ f9_freeMany.toInt → L4.toInt < f9_rank.toInt → f9_rank.toInt - L4.toInt ≤ (n48 : Int) → f9_freeMany.toInt - L5.toInt < (n : Int) → (0 : Int) < (n : Int) → IAM ai → FR [16] ai0 ai → FL [17, 18] al0 al → va_P (dC, dI) vwCl (WM cI cJ cII cJJ ad f9_size f9_equations f9_areSteps f9_foundMany f9_many f9_rank f9_freeMany f9_arePlans f9_planMany ai al) H → va_D A (WM cI cJ cII cJJ ad f9_size f9_equations f9_areSteps f9_foundMany f9_many f9_rank f9_freeMany f9_arePlans f9_planMany ai al) → va_S A s.heap H locs → lv_has ls 7 [(0, .ref (ad 22)), (1, .int x1), (2, .long J2), (4, .int L4), (5, .int L5)] → W p l e ({ frames := 4, cells := 0, slots := 0, locals := 200 } : Room) s m args below meth c H locs 0 0 (MQ below (Q_r008_X9_makes dC dI cI cJ cII cJJ ad f9_size f9_equations f9_areSteps f9_foundMany f9_many f9_rank f9_freeMany f9_arePlans f9_planMany ai0 al0 x1 A) args s 0 0 A) (F0 m 68 ls []) := by
  obtain ⟨hx, hb, hr, hml, hown, hts, hk, hA, hK, hX⟩ := id C
  intro n
  induction n with
  | zero =>
    intro L4 L5 J2 ai al H locs ls h0 h1 h2 h3 h4 h5 h6 h7 h8 h9 h10 h11 h12 h13 h14 h15 h16 h17 h18 h19 hI hF hG hP hD hS hl
    exact absurd h19 (by omega)
  | succ n ih =>
    intro L4 L5 J2 ai al H locs ls h0 h1 h2 h3 h4 h5 h6 h7 h8 h9 h10 h11 h12 h13 h14 h15 h16 h17 h18 h19 hI hF hG hP hD hS hl
    refine lv_iload hx hb dX9_makes_68 (lv_at hl 4 rfl) ?_
    refine lv_aload_n hx hb dX9_makes_70 rfl (lv_at hl 0 rfl) ?_
    refine gf (k := 28) hx hb hts inX9 hown hK hP k_823 rfl (by decide) rfl 22 rfl (.int f9_freeMany) rfl dX9_makes_71 ?_
    refine lv_icmp_ge (tgt := 125) hx hb dX9_makes_74 (by decide) (fun c1 => ?_) (fun c1 => ?_)
    · have c1 := j_le (a := f9_freeMany.toInt) (b := L5.toInt) rfl rfl c1
      obtain ⟨z2, e_z2⟩ : ∃ q : Int32, q = L4 + Int32.ofInt 1 := ⟨_, rfl⟩
      have g_z2 : z2.toInt = L4.toInt + 1 := by rw [e_z2]; exact n_add (a := L4.toInt) (b := 1) rfl (by decide +kernel) (by omega) (by omega)
      refine lv_iinc (v := z2) (lv' := [(4, .int z2), (0, .ref (ad 22)), (1, .int x1), (2, .long J2), (5, .int L5)]) hx hb dX9_makes_125 hl (k := 3) rfl e_z2.symm (by decide) rfl (fun ls_1 hl_1 => ?_)
      refine lv_goto (tgt := 48) hx hb dX9_makes_128 (by decide) ?_
      exact K48 z2 J2 ai al _ _ _ (by omega) (by omega) (by omega) (by omega) (by omega) (by omega) (by omega) (by omega) (by omega) (by omega) (CLa_up (n := L4) (k := L5) h11 (by omega) (by omega) h14 (by omega)) h12 h13 (by omega) (by omega) (by omega) hI hF hG hP hD hS (lv_sub hl_1 [1, 2, 3, 0] rfl)
    · have c1 := j_nle (a := f9_freeMany.toInt) (b := L5.toInt) rfl rfl c1
      refine lv_aload_n hx hb dX9_makes_77 rfl (lv_at hl 0 rfl) ?_
      refine gf (k := 30) hx hb hts inX9 hown hK hP k_825 rfl (by decide) rfl 22 rfl (.ref (ad 18)) rfl dX9_makes_78 ?_
      refine lv_iload hx hb dX9_makes_81 (lv_at hl 3 rfl) ?_
      refine lv_dup2_11 hx hb dX9_makes_83 rfl rfl ?_
      refine va_lald hx hb hK hP 18 1 rfl rfl (j_in (a := L4.toInt) rfl (by omega) (by omega)) dX9_makes_84 ?_
      refine lv_topl (fun yy3 e_yy3 => ?_)
      have g_yy3 : yy3.toInt = -sm L5.toInt.toNat (gz ai0 L4.toInt.toNat) ∧ -31104 ≤ yy3.toInt ∧ yy3.toInt ≤ 31104 := by rw [e_yy3]; have q1 := smz_b (h12 ▸ hI) hp1 (by omega) L4.toInt.toNat (n := L5.toInt.toNat) (by omega) (by omega); have q2 := h14; exact ⟨q2, by show -31104 ≤ (al 18 L4.toInt.toNat).toInt; omega, by show (al 18 L4.toInt.toNat).toInt ≤ 31104; omega⟩
      refine lv_aload_n hx hb dX9_makes_85 rfl (lv_at hl 0 rfl) ?_
      refine lv_aload_n hx hb dX9_makes_86 rfl (lv_at hl 0 rfl) ?_
      refine gf (k := 24) hx hb hts inX9 hown hK hP k_819 rfl (by decide) rfl 22 rfl (.ref (ad 14)) rfl dX9_makes_87 ?_
      refine lv_iload hx hb dX9_makes_90 (lv_at hl 3 rfl) ?_
      refine va_iald hx hb hK hP 14 0 rfl rfl (j_in (a := L4.toInt) rfl (by omega) (by omega)) dX9_makes_92 ?_
      refine lv_topi (fun z4 e_z4 => ?_)
      have g_z4 : 0 ≤ z4.toInt ∧ z4.toInt ≤ 2 := by rw [e_z4]; exact IAM_at14 hI _
      refine lv_aload_n hx hb dX9_makes_93 rfl (lv_at hl 0 rfl) ?_
      refine gf (k := 25) hx hb hts inX9 hown hK hP k_820 rfl (by decide) rfl 22 rfl (.ref (ad 15)) rfl dX9_makes_94 ?_
      refine lv_iload hx hb dX9_makes_97 (lv_at hl 4 rfl) ?_
      refine va_iald hx hb hK hP 15 0 rfl rfl (j_in (a := L5.toInt) rfl (by omega) (by omega)) dX9_makes_99 ?_
      refine lv_topi (fun z5 e_z5 => ?_)
      have g_z5 : 0 ≤ z5.toInt ∧ z5.toInt ≤ 3 := by rw [e_z5]; exact IAM_at15 hI _
      have hM := r002_X9_a l dC dI cI cJ cII cJJ H.size 0 ad f9_size f9_equations f9_areSteps f9_foundMany f9_many f9_rank f9_freeMany f9_arePlans f9_planMany ai al z4 z5 (by omega) (by omega) (by omega) (by omega) (by omega) (by omega) (by omega) (by omega) (by omega) (by omega) (by omega) hI
      refine k2V_l (q0 := 22) ⟨hx, hb, hml, hown, hts⟩ hK hP hD hS hA hX cv_RX9_124 hM ⟨by decide +kernel, by decide +kernel⟩ rfl rfl (Or.inl rfl) (rest := [.long yy3, .int L4, .ref (ad 18)]) rfl rfl rfl hl.1 rfl (Nat.le_of_ble_eq_true rfl) dX9_makes_100 ⟨Nat.le_of_ble_eq_true rfl, Nat.le_of_ble_eq_true rfl⟩ (fun r6 t H1 locs_2 ht hB hS_2 hFc => ?_)
      obtain ⟨⟨gpr6_0, gpr6_1, gpr6_2⟩, hP_3, -, hD_3⟩ := hB
      rw [ht] at hP_3
      have hD_4 := hD_3.weaken (B := A) (fun k q _ h9 => hFc q.1 h9)
      clear ht
      generalize H1 = H_5 at hP_3 hS_2 ⊢
      refine lv_aload_n hx hb dX9_makes_103 rfl (lv_at hl 0 rfl) ?_
      refine gf (k := 26) hx hb hts inX9 hown hK hP_3 k_821 rfl (by decide) rfl 22 rfl (.ref (ad 16)) rfl dX9_makes_104 ?_
      refine lv_aload_n hx hb dX9_makes_107 rfl (lv_at hl 0 rfl) ?_
      refine gf (k := 25) hx hb hts inX9 hown hK hP_3 k_820 rfl (by decide) rfl 22 rfl (.ref (ad 15)) rfl dX9_makes_108 ?_
      refine lv_iload hx hb dX9_makes_111 (lv_at hl 4 rfl) ?_
      refine va_iald hx hb hK hP_3 15 0 rfl rfl (j_in (a := L5.toInt) rfl (by omega) (by omega)) dX9_makes_113 ?_
      refine lv_topi (fun z7 e_z7 => ?_)
      have g_z7 : 0 ≤ z7.toInt ∧ z7.toInt ≤ 3 := by rw [e_z7]; exact IAM_at15 hI _
      refine va_iald hx hb hK hP_3 16 0 rfl rfl (j_in (a := z7.toInt) rfl (by omega) (by omega)) dX9_makes_114 ?_
      refine lv_topi (fun z8 e_z8 => ?_)
      have g_z8 : z8.toInt = (ai0 16 (frv ai0 L5.toInt.toNat)).toInt ∧ -1296 ≤ z8.toInt ∧ z8.toInt ≤ 1296 := by rw [e_z8, e_z7, h12]; have q1 := hp1 L5.toInt.toNat (by omega); exact ⟨rfl, by show -1296 ≤ (ai0 16 (frv ai0 L5.toInt.toNat)).toInt; omega, by show (ai0 16 (frv ai0 L5.toInt.toNat)).toInt ≤ 1296; omega⟩
      refine lv_i2l hx hb dX9_makes_115 rfl ?_
      refine lv_topl (fun yy9 e_yy9 => ?_)
      have g_yy9 : yy9.toInt = z8.toInt := by rw [e_yy9]; exact ln_i2l (a := z8.toInt) rfl
      refine v_lmul hx hb dX9_makes_116 _ rfl ?_
      refine lv_topl (fun yy10 e_yy10 => ?_)
      have g_yy10 : yy10.toInt = r6.toInt * yy9.toInt ∧ -7776 ≤ yy10.toInt ∧ yy10.toInt ≤ 7776 := by rw [e_yy10]; exact ln_mul (a := r6.toInt) (b := yy9.toInt) (al := -6) (ah := 6) (bl := -1296) (bh := 1296) (lo := -7776) (hi := 7776) rfl rfl (by omega) (by omega) (by omega) (by omega) (by decide) (by decide) (by decide) (by decide) (by decide)
      refine v_lsub hx hb dX9_makes_117 _ rfl ?_
      refine lv_topl (fun yy11 e_yy11 => ?_)
      have g_yy11 : yy11.toInt = yy3.toInt - yy10.toInt := by rw [e_yy11]; exact ln_sub (a := yy3.toInt) (b := yy10.toInt) rfl rfl (by omega) (by omega)
      refine va_last hx hb hK hP_3 hD_4 hS_2 18 1 rfl rfl (j_in (a := L4.toInt) rfl (by omega) (by omega)) dX9_makes_118 (fun H_6 locs_6 hP_6 hD_6 hS_6 => ?_)
      obtain ⟨al12, e_al12⟩ : ∃ q : Nat → Nat → Int64, q = va_up al 18 (vp_updL (al 18) L4.toNatClampNeg yy11) := ⟨_, rfl⟩
      have hG_7 := FL_st hG e_al12 (by decide)
      have hP_8 : va_P (dC, dI) vwCl (WM cI cJ cII cJJ ad f9_size f9_equations f9_areSteps f9_foundMany f9_many f9_rank f9_freeMany f9_arePlans f9_planMany ai al12) H_6 := by rw [e_al12]; exact hP_6
      have hD_9 : va_D A (WM cI cJ cII cJJ ad f9_size f9_equations f9_areSteps f9_foundMany f9_many f9_rank f9_freeMany f9_arePlans f9_planMany ai al12) := by rw [e_al12]; exact hD_6
      obtain ⟨z13, e_z13⟩ : ∃ q : Int32, q = L5 + Int32.ofInt 1 := ⟨_, rfl⟩
      have g_z13 : z13.toInt = L5.toInt + 1 := by rw [e_z13]; exact n_add (a := L5.toInt) (b := 1) rfl (by decide +kernel) (by omega) (by omega)
      refine lv_iinc (v := z13) (lv' := [(5, .int z13), (0, .ref (ad 22)), (1, .int x1), (2, .long J2), (4, .int L4)]) hx hb dX9_makes_119 hl (k := 4) rfl e_z13.symm (by decide) rfl (fun ls_10 hl_10 => ?_)
      refine lv_goto (tgt := 68) hx hb dX9_makes_122 (by decide) ?_
      exact ih L4 z13 J2 ai al12 _ _ _ (by omega) (by omega) (by omega) (by omega) (by omega) (by omega) (by omega) (by omega) (by omega) (by omega) (by omega) (CLa_st h11 (by omega) e_al12) h12 h13 (sm_st (n := L4) (k := L5) e_al12 (by omega) (by omega) (by rw [g_yy11, g_yy3.1, g_yy10.1, g_yy9, g_z8.1, gpr6_2, e_z4, e_z5, h12]; rfl)) (by omega) (by omega) (by omega) (by omega) (by omega) hI hF hG_7 hP_8 hD_9 hS_6 (lv_sub hl_10 [1, 2, 3, 4, 0] rfl)
set_option maxRecDepth 100000 in
set_option maxHeartbeats 4000000 in
theorem r008_X9_makes_b48 {p : Program} {l : Launch} {e : Env} {s : State} {m : MethodId} {args : Array Value} {below : List Frame} {meth : Method} {c : Code} {A : Nat → Prop} {dC : Nat → ClassId} {dI : Nat → Nat → Nat} {cI cJ cII cJJ : ClassId} {ad : Nat → Nat} {g : Nat} {f9_size f9_equations f9_areSteps f9_foundMany f9_many f9_rank f9_freeMany f9_arePlans f9_planMany : Int32} {ai0 : Nat → Nat → Int32} {al0 : Nat → Nat → Int64} {x1 : Int32} (C : Cx p c s m meth args A dC dI (TY cI cJ cII cJJ) cX9_makes (some .boolean) 7 RX9 0 g) (h_x1 : (0 ≤ x1.toInt ∧ x1.toInt ≤ 1296)) (hp0 : RKa ai0 f9_size f9_rank f9_freeMany) (hp1 : NWb ai0 f9_freeMany x1) : ∀ (n : Nat), ∀ (L4 : Int32) (J2 : Int64) (ai : Nat → Nat → Int32) (al : Nat → Nat → Int64) (H : Heap) (locs : List Loc) (ls : Array Slot), (0 ≤ L4.toInt ∧ L4.toInt ≤ 3) → (1 ≤ f9_size.toInt ∧ f9_size.toInt ≤ 4) → (0 ≤ f9_equations.toInt ∧ f9_equations.toInt ≤ 3) → (0 ≤ f9_areSteps.toInt ∧ f9_areSteps.toInt ≤ 1) → (0 ≤ f9_foundMany.toInt ∧ f9_foundMany.toInt ≤ 99999) → (0 ≤ f9_many.toInt ∧ f9_many.toInt ≤ 6000) → (0 ≤ f9_rank.toInt ∧ f9_rank.toInt ≤ 3) → (0 ≤ f9_freeMany.toInt ∧ f9_freeMany.toInt ≤ 4) → (0 ≤ f9_arePlans.toInt ∧ f9_arePlans.toInt ≤ 1) → (0 ≤ f9_planMany.toInt ∧ f9_planMany.toInt ≤ 194481) → CLa ai0 al f9_freeMany L4.toInt → ai = ai0 → J2 = mnv ai0 f9_rank → L4.toInt ≤ f9_rank.toInt → f9_rank.toInt - L4.toInt < (n : Int) → (0 : Int) < (n : Int) → IAM ai → FR [16] ai0 ai → FL [17, 18] al0 al → va_P (dC, dI) vwCl (WM cI cJ cII cJJ ad f9_size f9_equations f9_areSteps f9_foundMany f9_many f9_rank f9_freeMany f9_arePlans f9_planMany ai al) H → va_D A (WM cI cJ cII cJJ ad f9_size f9_equations f9_areSteps f9_foundMany f9_many f9_rank f9_freeMany f9_arePlans f9_planMany ai al) → va_S A s.heap H locs → lv_has ls 7 [(0, .ref (ad 22)), (1, .int x1), (2, .long J2), (4, .int L4)] → W p l e ({ frames := 4, cells := 0, slots := 0, locals := 200 } : Room) s m args below meth c H locs 0 0 (MQ below (Q_r008_X9_makes dC dI cI cJ cII cJJ ad f9_size f9_equations f9_areSteps f9_foundMany f9_many f9_rank f9_freeMany f9_arePlans f9_planMany ai0 al0 x1 A) args s 0 0 A) (F0 m 48 ls []) := by
  obtain ⟨hx, hb, hr, hml, hown, hts, hk, hA, hK, hX⟩ := id C
  intro n
  induction n with
  | zero =>
    intro L4 J2 ai al H locs ls h0 h1 h2 h3 h4 h5 h6 h7 h8 h9 h10 h11 h12 h13 h14 h15 hI hF hG hP hD hS hl
    exact absurd h15 (by omega)
  | succ n ih =>
    intro L4 J2 ai al H locs ls h0 h1 h2 h3 h4 h5 h6 h7 h8 h9 h10 h11 h12 h13 h14 h15 hI hF hG hP hD hS hl
    refine lv_iload hx hb dX9_makes_48 (lv_at hl 3 rfl) ?_
    refine lv_aload_n hx hb dX9_makes_50 rfl (lv_at hl 0 rfl) ?_
    refine gf (k := 27) hx hb hts inX9 hown hK hP k_822 rfl (by decide) rfl 22 rfl (.int f9_rank) rfl dX9_makes_51 ?_
    refine lv_icmp_ge (tgt := 131) hx hb dX9_makes_54 (by decide) (fun c1 => ?_) (fun c1 => ?_)
    · have c1 := j_le (a := f9_rank.toInt) (b := L4.toInt) rfl rfl c1
      refine lv_iconst (v := 0) hx hb dX9_makes_131 (by decide) ?_
      refine lv_istore (lv' := [(4, .int 0), (0, .ref (ad 22)), (1, .int x1), (2, .long J2)]) hx hb dX9_makes_132 hl (by decide) rfl (fun ls_1 hl_1 => ?_)
      exact r008_X9_makes_b134 C h_x1 hp0 hp1  _ 0 J2 ai al _ _ _ (by first | omega | decide | (have ka0 := (by decide +kernel : (0 : Int32).toInt = 0); omega)) (by first | omega | decide | (have ka0 := (by decide +kernel : (0 : Int32).toInt = 0); omega)) (by first | omega | decide | (have ka0 := (by decide +kernel : (0 : Int32).toInt = 0); omega)) (by first | omega | decide | (have ka0 := (by decide +kernel : (0 : Int32).toInt = 0); omega)) (by first | omega | decide | (have ka0 := (by decide +kernel : (0 : Int32).toInt = 0); omega)) (by first | omega | decide | (have ka0 := (by decide +kernel : (0 : Int32).toInt = 0); omega)) (by first | omega | decide | (have ka0 := (by decide +kernel : (0 : Int32).toInt = 0); omega)) (by first | omega | decide | (have ka0 := (by decide +kernel : (0 : Int32).toInt = 0); omega)) (by first | omega | decide | (have ka0 := (by decide +kernel : (0 : Int32).toInt = 0); omega)) (by first | omega | decide | (have ka0 := (by decide +kernel : (0 : Int32).toInt = 0); omega)) (CLa_le h10 (by omega)) h12 (fun q h9 => (zlt h9).elim) (by rw [h11]; exact fun j _ => rfl) (by have q3 := (by decide : (0 : Int32).toInt = 0); omega) (j_fuel _) (by omega) hI hF hG hP hD hS (lv_sub hl_1 [1, 2, 3, 0] rfl)
    · have c1 := j_nle (a := f9_rank.toInt) (b := L4.toInt) rfl rfl c1
      refine lv_aload_n hx hb dX9_makes_57 rfl (lv_at hl 0 rfl) ?_
      refine gf (k := 30) hx hb hts inX9 hown hK hP k_825 rfl (by decide) rfl 22 rfl (.ref (ad 18)) rfl dX9_makes_58 ?_
      refine lv_iload hx hb dX9_makes_61 (lv_at hl 3 rfl) ?_
      refine lv_lconst (v := 0) hx hb dX9_makes_63 (by decide) ?_
      refine va_last hx hb hK hP hD hS 18 1 rfl rfl (j_in (a := L4.toInt) rfl (by omega) (by omega)) dX9_makes_64 (fun H_2 locs_2 hP_2 hD_2 hS_2 => ?_)
      obtain ⟨al2, e_al2⟩ : ∃ q : Nat → Nat → Int64, q = va_up al 18 (vp_updL (al 18) L4.toNatClampNeg 0) := ⟨_, rfl⟩
      have hG_3 := FL_st hG e_al2 (by decide)
      have hP_4 : va_P (dC, dI) vwCl (WM cI cJ cII cJJ ad f9_size f9_equations f9_areSteps f9_foundMany f9_many f9_rank f9_freeMany f9_arePlans f9_planMany ai al2) H_2 := by rw [e_al2]; exact hP_2
      have hD_5 : va_D A (WM cI cJ cII cJJ ad f9_size f9_equations f9_areSteps f9_foundMany f9_many f9_rank f9_freeMany f9_arePlans f9_planMany ai al2) := by rw [e_al2]; exact hD_2
      refine lv_iconst (v := 0) hx hb dX9_makes_65 (by decide) ?_
      refine lv_istore (lv' := [(5, .int 0), (0, .ref (ad 22)), (1, .int x1), (2, .long J2), (4, .int L4)]) hx hb dX9_makes_66 hl (by decide) rfl (fun ls_6 hl_6 => ?_)
      exact r008_X9_makes_b68 C h_x1 hp0 hp1 n ih _ L4 0 J2 ai al2 _ _ _ (by first | omega | decide | (have ka0 := (by decide +kernel : (0 : Int32).toInt = 0); omega)) (by first | omega | decide | (have ka0 := (by decide +kernel : (0 : Int32).toInt = 0); omega)) (by first | omega | decide | (have ka0 := (by decide +kernel : (0 : Int32).toInt = 0); omega)) (by first | omega | decide | (have ka0 := (by decide +kernel : (0 : Int32).toInt = 0); omega)) (by first | omega | decide | (have ka0 := (by decide +kernel : (0 : Int32).toInt = 0); omega)) (by first | omega | decide | (have ka0 := (by decide +kernel : (0 : Int32).toInt = 0); omega)) (by first | omega | decide | (have ka0 := (by decide +kernel : (0 : Int32).toInt = 0); omega)) (by first | omega | decide | (have ka0 := (by decide +kernel : (0 : Int32).toInt = 0); omega)) (by first | omega | decide | (have ka0 := (by decide +kernel : (0 : Int32).toInt = 0); omega)) (by first | omega | decide | (have ka0 := (by decide +kernel : (0 : Int32).toInt = 0); omega)) (by first | omega | decide | (have ka0 := (by decide +kernel : (0 : Int32).toInt = 0); omega)) (CLa_st h10 (by omega) e_al2) h11 h12 (sm_s0 e_al2 (by decide +kernel) (by decide +kernel)) (by have q3 := (by decide : (0 : Int32).toInt = 0); omega) (by first | omega | decide | (have ka0 := (by decide +kernel : (0 : Int32).toInt = 0); omega)) (by first | omega | decide | (have ka0 := (by decide +kernel : (0 : Int32).toInt = 0); omega)) (j_fuel _) (by omega) hI hF hG_3 hP_4 hD_5 hS_2 (lv_sub hl_6 [1, 2, 3, 4, 0] rfl)
set_option maxRecDepth 100000 in
set_option maxHeartbeats 4000000 in
theorem r008_X9_makes (l : Launch) (dC : Nat → ClassId) (dI : Nat → Nat → Nat) (cI cJ cII cJJ : ClassId) (sz g : Nat) (ad : Nat → Nat) (f9_size f9_equations f9_areSteps f9_foundMany f9_many f9_rank f9_freeMany f9_arePlans f9_planMany : Int32) (ai : Nat → Nat → Int32) (al : Nat → Nat → Int64) (x1 : Int32) (h_x1 : (0 ≤ x1.toInt ∧ x1.toInt ≤ 1296)) (h_f9_size : (1 ≤ f9_size.toInt ∧ f9_size.toInt ≤ 4)) (h_f9_equations : (0 ≤ f9_equations.toInt ∧ f9_equations.toInt ≤ 3)) (h_f9_areSteps : (0 ≤ f9_areSteps.toInt ∧ f9_areSteps.toInt ≤ 1)) (h_f9_foundMany : (0 ≤ f9_foundMany.toInt ∧ f9_foundMany.toInt ≤ 99999)) (h_f9_many : (0 ≤ f9_many.toInt ∧ f9_many.toInt ≤ 6000)) (h_f9_rank : (0 ≤ f9_rank.toInt ∧ f9_rank.toInt ≤ 3)) (h_f9_freeMany : (0 ≤ f9_freeMany.toInt ∧ f9_freeMany.toInt ≤ 4)) (h_f9_arePlans : (0 ≤ f9_arePlans.toInt ∧ f9_arePlans.toInt ≤ 1)) (h_f9_planMany : (0 ≤ f9_planMany.toInt ∧ f9_planMany.toInt ≤ 194481)) (hp0 : RKa ai f9_size f9_rank f9_freeMany) (hp1 : NWb ai f9_freeMany x1) (hI : IAM ai) : Met l yX9_makes (.code yX9_makes cX9_makes 7 (some .boolean) :: TT) ({ frames := 4, cells := 0, slots := 0, locals := 200 } : Room) (PcS dC dI (TY cI cJ cII cJJ) [.ref (ad 22), .int x1] (WM cI cJ cII cJJ ad f9_size f9_equations f9_areSteps f9_foundMany f9_many f9_rank f9_freeMany f9_arePlans f9_planMany ai al) sz 0 g) (Q_r008_X9_makes dC dI cI cJ cII cJJ ad f9_size f9_equations f9_areSteps f9_foundMany f9_many f9_rank f9_freeMany f9_arePlans f9_planMany ai al x1 (va_A (WM cI cJ cII cJJ ad f9_size f9_equations f9_areSteps f9_foundMany f9_many f9_rank f9_freeMany f9_arePlans f9_planMany ai al) sz)) 0 0 (va_A (WM cI cJ cII cJJ ad f9_size f9_equations f9_areSteps f9_foundMany f9_many f9_rank f9_freeMany f9_arePlans f9_planMany ai al) sz) := by
  refine SM.of (y := yX9_makes) (maxL := 7) (av := [.ref (ad 22), .int x1]) (Q_r008_X9_makes dC dI cI cJ cII cJJ ad f9_size f9_equations f9_areSteps f9_foundMany f9_many f9_rank f9_freeMany f9_arePlans f9_planMany ai al x1) (by decide +kernel) (Nat.le_of_ble_eq_true rfl) (fun p e s m below meth c A ls hx hb hr hml hown hts hk hnm hA hK hP hD hS hX hl => ?_)
  have C : Cx p c s m meth (([.ref (ad 22), .int x1] : List Value).toArray) A dC dI (TY cI cJ cII cJJ) cX9_makes (some .boolean) 7 RX9 0 g := ⟨hx, hb, hr, hml, hown, hts, hk, hA, hK, hX⟩
  have hown : s.vm.findClass RX9 = some m.cls := hown
  have hl : lv_has ls 7 [(0, .ref (ad 22)), (1, .int x1)] := hl
  obtain ⟨H, hH⟩ : ∃ q, q = s.heap := ⟨_, rfl⟩
  rw [← hH] at hP
  have hS : va_S A s.heap H [] := by rw [hH]; exact hS
  rw [← hH]
  have hF := FR_refl [16] ai
  have hG := FL_refl [17, 18] al
  refine lv_aload_n hx hb dX9_makes_0 rfl (lv_at hl 0 rfl) ?_
  refine lv_aload_n hx hb dX9_makes_1 rfl (lv_at hl 0 rfl) ?_
  refine gf (k := 27) hx hb hts inX9 hown hK hP k_822 rfl (by decide) rfl 22 rfl (.int f9_rank) rfl dX9_makes_2 ?_
  refine lv_aload_n hx hb dX9_makes_5 rfl (lv_at hl 0 rfl) ?_
  refine gf (k := 24) hx hb hts inX9 hown hK hP k_819 rfl (by decide) rfl 22 rfl (.ref (ad 14)) rfl dX9_makes_6 ?_
  refine lv_iconst (v := 0) hx hb dX9_makes_9 (by decide) ?_
  refine va_iald hx hb hK hP 14 0 rfl rfl (vin (by decide +kernel)) dX9_makes_10 ?_
  refine lv_topi (fun z1 e_z1 => ?_)
  have k_z1 : z1.toInt = (ai 14 0).toInt := by rw [e_z1]; rfl
  have g_z1 : 0 ≤ z1.toInt ∧ z1.toInt ≤ 2 := by rw [e_z1]; exact IAM_at14 hI _
  refine lv_aload_n hx hb dX9_makes_11 rfl (lv_at hl 0 rfl) ?_
  refine gf (k := 24) hx hb hts inX9 hown hK hP k_819 rfl (by decide) rfl 22 rfl (.ref (ad 14)) rfl dX9_makes_12 ?_
  refine lv_iconst (v := 1) hx hb dX9_makes_15 (by decide) ?_
  refine va_iald hx hb hK hP 14 0 rfl rfl (vin (by decide +kernel)) dX9_makes_16 ?_
  refine lv_topi (fun z2 e_z2 => ?_)
  have k_z2 : z2.toInt = (ai 14 1).toInt := by rw [e_z2]; rfl
  have g_z2 : 0 ≤ z2.toInt ∧ z2.toInt ≤ 2 := by rw [e_z2]; exact IAM_at14 hI _
  refine lv_aload_n hx hb dX9_makes_17 rfl (lv_at hl 0 rfl) ?_
  refine gf (k := 24) hx hb hts inX9 hown hK hP k_819 rfl (by decide) rfl 22 rfl (.ref (ad 14)) rfl dX9_makes_18 ?_
  refine lv_iconst (v := 2) hx hb dX9_makes_21 (by decide) ?_
  refine va_iald hx hb hK hP 14 0 rfl rfl (vin (by decide +kernel)) dX9_makes_22 ?_
  refine lv_topi (fun z3 e_z3 => ?_)
  have k_z3 : z3.toInt = (ai 14 2).toInt := by rw [e_z3]; rfl
  have g_z3 : 0 ≤ z3.toInt ∧ z3.toInt ≤ 2 := by rw [e_z3]; exact IAM_at14 hI _
  refine lv_aload_n hx hb dX9_makes_23 rfl (lv_at hl 0 rfl) ?_
  refine gf (k := 23) hx hb hts inX9 hown hK hP k_818 rfl (by decide) rfl 22 rfl (.ref (ad 13)) rfl dX9_makes_24 ?_
  refine lv_iconst (v := 0) hx hb dX9_makes_27 (by decide) ?_
  refine va_iald hx hb hK hP 13 0 rfl rfl (vin (by decide +kernel)) dX9_makes_28 ?_
  refine lv_topi (fun z4 e_z4 => ?_)
  have k_z4 : z4.toInt = (ai 13 0).toInt := by rw [e_z4]; rfl
  have g_z4 : 0 ≤ z4.toInt ∧ z4.toInt ≤ 3 := by rw [e_z4]; exact IAM_at13 hI _
  refine lv_aload_n hx hb dX9_makes_29 rfl (lv_at hl 0 rfl) ?_
  refine gf (k := 23) hx hb hts inX9 hown hK hP k_818 rfl (by decide) rfl 22 rfl (.ref (ad 13)) rfl dX9_makes_30 ?_
  refine lv_iconst (v := 1) hx hb dX9_makes_33 (by decide) ?_
  refine va_iald hx hb hK hP 13 0 rfl rfl (vin (by decide +kernel)) dX9_makes_34 ?_
  refine lv_topi (fun z5 e_z5 => ?_)
  have k_z5 : z5.toInt = (ai 13 1).toInt := by rw [e_z5]; rfl
  have g_z5 : 0 ≤ z5.toInt ∧ z5.toInt ≤ 3 := by rw [e_z5]; exact IAM_at13 hI _
  refine lv_aload_n hx hb dX9_makes_35 rfl (lv_at hl 0 rfl) ?_
  refine gf (k := 23) hx hb hts inX9 hown hK hP k_818 rfl (by decide) rfl 22 rfl (.ref (ad 13)) rfl dX9_makes_36 ?_
  refine lv_iconst (v := 2) hx hb dX9_makes_39 (by decide) ?_
  refine va_iald hx hb hK hP 13 0 rfl rfl (vin (by decide +kernel)) dX9_makes_40 ?_
  refine lv_topi (fun z6 e_z6 => ?_)
  have k_z6 : z6.toInt = (ai 13 2).toInt := by rw [e_z6]; rfl
  have g_z6 : 0 ≤ z6.toInt ∧ z6.toInt ≤ 3 := by rw [e_z6]; exact IAM_at13 hI _
  have hM := r003_X9_minor l dC dI cI cJ cII cJJ H.size 0 ad f9_size f9_equations f9_areSteps f9_foundMany f9_many f9_rank f9_freeMany f9_arePlans f9_planMany ai al f9_rank z1 z2 z3 z4 z5 z6 (by omega) (by omega) (by omega) (by omega) (by omega) (by omega) (by omega) (by omega) (by omega) (by omega) (by omega) (by omega) (by omega) (by omega) (by omega) (by omega) hI
  refine k2V_l (q0 := 22) ⟨hx, hb, hml, hown, hts⟩ hK hP hD hS hA hX cv_RX9_135 hM ⟨by decide +kernel, by decide +kernel⟩ rfl rfl (Or.inl rfl) (rest := []) rfl rfl rfl hl.1 rfl (Nat.le_of_ble_eq_true rfl) dX9_makes_41 ⟨Nat.le_of_ble_eq_true rfl, Nat.le_of_ble_eq_true rfl⟩ (fun r7 t H1 locs_1 ht hB hS_1 hFc => ?_)
  obtain ⟨gpr7_0, hP_2, -, hD_2⟩ := hB
  rw [ht] at hP_2
  have hD_3 := hD_2.weaken (B := A) (fun k q _ h9 => hFc q.1 h9)
  clear ht
  generalize H1 = H_4 at hP_2 hS_1 ⊢
  refine lv_lstore_n (lv' := [(2, .long r7), (0, .ref (ad 22)), (1, .int x1)]) hx hb dX9_makes_44 rfl hl (by decide) rfl (fun ls_5 hl_5 => ?_)
  refine lv_iconst (v := 0) hx hb dX9_makes_45 (by decide) ?_
  refine lv_istore (lv' := [(4, .int 0), (2, .long r7), (0, .ref (ad 22)), (1, .int x1)]) hx hb dX9_makes_46 hl_5 (by decide) rfl (fun ls_6 hl_6 => ?_)
  exact r008_X9_makes_b48 C h_x1 hp0 hp1  _ 0 r7 ai al _ _ _ (by first | omega | decide | (have ka0 := (by decide +kernel : (0 : Int32).toInt = 0); omega)) (by first | omega | decide | (have ka0 := (by decide +kernel : (0 : Int32).toInt = 0); omega)) (by first | omega | decide | (have ka0 := (by decide +kernel : (0 : Int32).toInt = 0); omega)) (by first | omega | decide | (have ka0 := (by decide +kernel : (0 : Int32).toInt = 0); omega)) (by first | omega | decide | (have ka0 := (by decide +kernel : (0 : Int32).toInt = 0); omega)) (by first | omega | decide | (have ka0 := (by decide +kernel : (0 : Int32).toInt = 0); omega)) (by first | omega | decide | (have ka0 := (by decide +kernel : (0 : Int32).toInt = 0); omega)) (by first | omega | decide | (have ka0 := (by decide +kernel : (0 : Int32).toInt = 0); omega)) (by first | omega | decide | (have ka0 := (by decide +kernel : (0 : Int32).toInt = 0); omega)) (by first | omega | decide | (have ka0 := (by decide +kernel : (0 : Int32).toInt = 0); omega)) (CLa_0 (by decide +kernel)) rfl (by rw [gpr7_0, e_z1, e_z2, e_z3, e_z4, e_z5, e_z6]; rfl) (by have q3 := (by decide : (0 : Int32).toInt = 0); omega) (j_fuel _) (by omega) hI hF hG hP_2 hD_3 hS_1 (lv_sub hl_6 [2, 3, 1, 0] rfl)
def Q_r009_X9_goes (dC : Nat → ClassId) (dI : Nat → Nat → Nat) (cI cJ cII cJJ : ClassId) (ad : Nat → Nat) (f9_size f9_equations f9_areSteps f9_many f9_rank f9_freeMany f9_arePlans f9_planMany : Int32) (ai0 : Nat → Nat → Int32) (al0 : Nat → Nat → Int64) (x2 : Int32) (o_f9_foundMany : Int32) : (Nat → Prop) → Array Value → State → Outcome → State → Prop := fun A => QV (fun t => ∃ (n_f9_foundMany : Int32), ∃ (n_ai : Nat → Nat → Int32), ∃ (n_al : Nat → Nat → Int64), ((0 ≤ n_f9_foundMany.toInt ∧ n_f9_foundMany.toInt ≤ 99999) ∧ (o_f9_foundMany.toInt ≤ n_f9_foundMany.toInt ∧ n_f9_foundMany.toInt ≤ o_f9_foundMany.toInt + pwb x2.toInt (f9_freeMany.toInt.toNat - 4)) ∧ GS ai0 n_ai f9_size f9_rank f9_freeMany x2 o_f9_foundMany.toInt n_f9_foundMany.toInt ∧ GCo ai0 n_ai f9_size f9_rank f9_freeMany x2 ((4 : Nat) : Int) o_f9_foundMany.toInt n_f9_foundMany.toInt ∧ Fk ai0 n_ai ((4 : Nat) : Int) ∧ IAM n_ai ∧ FR [7, 8, 16] ai0 n_ai ∧ FL [17, 18] al0 n_al) ∧ WO dC dI (TY cI cJ cII cJJ) (WM cI cJ cII cJJ ad f9_size f9_equations f9_areSteps n_f9_foundMany f9_many f9_rank f9_freeMany f9_arePlans f9_planMany n_ai n_al) A t) A
set_option maxRecDepth 100000 in
set_option maxHeartbeats 4000000 in
theorem r009_X9_goes_b80 {p : Program} {l : Launch} {e : Env} {s : State} {m : MethodId} {args : Array Value} {below : List Frame} {meth : Method} {c : Code} {A : Nat → Prop} {dC : Nat → ClassId} {dI : Nat → Nat → Nat} {cI cJ cII cJJ : ClassId} {ad : Nat → Nat} {g : Nat} {f9_size f9_equations f9_areSteps f9_many f9_rank f9_freeMany f9_arePlans f9_planMany : Int32} {ai0 : Nat → Nat → Int32} {al0 : Nat → Nat → Int64} {x2 : Int32} {o_f9_foundMany : Int32} (C : Cx p c s m meth args A dC dI (TY cI cJ cII cJJ) cX9_goes none 6 RX9 0 g) (h_x2 : (0 ≤ x2.toInt ∧ x2.toInt ≤ 1296)) (hp0 : RKa ai0 f9_size f9_rank f9_freeMany) (hp1 : NWk ai0 ((4 : Nat) : Int) x2) (hp2 : o_f9_foundMany.toInt + pwb x2.toInt (f9_freeMany.toInt.toNat - 4) ≤ 99999) (n22 : Nat) (K22 : ∀ (L3 L4 f9_foundMany : Int32) (ai : Nat → Nat → Int32) (al : Nat → Nat → Int64) (H : Heap) (locs : List Loc) (ls : Array Slot), (0 ≤ L3.toInt ∧ L3.toInt ≤ 5184) → (0 ≤ L4.toInt ∧ L4.toInt ≤ 4) → (1 ≤ f9_size.toInt ∧ f9_size.toInt ≤ 4) → (0 ≤ f9_equations.toInt ∧ f9_equations.toInt ≤ 3) → (0 ≤ f9_areSteps.toInt ∧ f9_areSteps.toInt ≤ 1) → (0 ≤ f9_foundMany.toInt ∧ f9_foundMany.toInt ≤ 99999) → (0 ≤ f9_many.toInt ∧ f9_many.toInt ≤ 6000) → (0 ≤ f9_rank.toInt ∧ f9_rank.toInt ≤ 3) → (4 ≤ f9_freeMany.toInt ∧ f9_freeMany.toInt ≤ 4) → (0 ≤ f9_arePlans.toInt ∧ f9_arePlans.toInt ≤ 1) → (0 ≤ f9_planMany.toInt ∧ f9_planMany.toInt ≤ 194481) → FVa ai0 f9_size f9_rank f9_freeMany x2 (vn ai f9_size) → Fk ai0 ai ((4 : Nat) : Int) → RW7 ai f9_size f9_foundMany.toInt L4.toInt → L3.toInt = nmp (vn ai f9_size) L4.toInt.toNat → GS ai0 ai f9_size f9_rank f9_freeMany x2 o_f9_foundMany.toInt o_f9_foundMany.toInt → f9_foundMany.toInt = o_f9_foundMany.toInt → f9_freeMany.toInt = 4 → L3.toInt ≤ 1296 * L4.toInt → 4 - L4.toInt < (n22 : Int) → (0 : Int) < (n22 : Int) → IAM ai → FR [7, 8, 16] ai0 ai → FL [17, 18] al0 al → va_P (dC, dI) vwCl (WM cI cJ cII cJJ ad f9_size f9_equations f9_areSteps f9_foundMany f9_many f9_rank f9_freeMany f9_arePlans f9_planMany ai al) H → va_D A (WM cI cJ cII cJJ ad f9_size f9_equations f9_areSteps f9_foundMany f9_many f9_rank f9_freeMany f9_arePlans f9_planMany ai al) → va_S A s.heap H locs → lv_has ls 6 [(0, .ref (ad 22)), (1, .int 4), (2, .int x2), (3, .int L3), (4, .int L4)] → W p l e ({ frames := 5, cells := 0, slots := 0, locals := 260 } : Room) s m args below meth c H locs 0 0 (MQ below (Q_r009_X9_goes dC dI cI cJ cII cJJ ad f9_size f9_equations f9_areSteps f9_many f9_rank f9_freeMany f9_arePlans f9_planMany ai0 al0 x2 o_f9_foundMany A) args s 0 0 A) (F0 m 22 ls [])) : ∀ (L3 L4 L5 S0 S1 f9_foundMany : Int32) (ai : Nat → Nat → Int32) (al : Nat → Nat → Int64) (H : Heap) (locs : List Loc) (ls : Array Slot), (0 ≤ L3.toInt ∧ L3.toInt ≤ 5184) → (0 ≤ L4.toInt ∧ L4.toInt ≤ 3) → (-1296 ≤ L5.toInt ∧ L5.toInt ≤ 1296) → (0 ≤ S0.toInt ∧ S0.toInt ≤ 1296) → (0 ≤ S1.toInt ∧ S1.toInt ≤ 5184) → (1 ≤ f9_size.toInt ∧ f9_size.toInt ≤ 4) → (0 ≤ f9_equations.toInt ∧ f9_equations.toInt ≤ 3) → (0 ≤ f9_areSteps.toInt ∧ f9_areSteps.toInt ≤ 1) → (0 ≤ f9_foundMany.toInt ∧ f9_foundMany.toInt ≤ 99999) → (0 ≤ f9_many.toInt ∧ f9_many.toInt ≤ 6000) → (0 ≤ f9_rank.toInt ∧ f9_rank.toInt ≤ 3) → (4 ≤ f9_freeMany.toInt ∧ f9_freeMany.toInt ≤ 4) → (0 ≤ f9_arePlans.toInt ∧ f9_arePlans.toInt ≤ 1) → (0 ≤ f9_planMany.toInt ∧ f9_planMany.toInt ≤ 194481) → FVa ai0 f9_size f9_rank f9_freeMany x2 (vn ai f9_size) → Fk ai0 ai ((4 : Nat) : Int) → RW7 ai f9_size f9_foundMany.toInt (L4.toInt + 1) → S1.toInt = nmp (vn ai f9_size) L4.toInt.toNat → GS ai0 ai f9_size f9_rank f9_freeMany x2 o_f9_foundMany.toInt o_f9_foundMany.toInt → f9_foundMany.toInt = o_f9_foundMany.toInt → f9_freeMany.toInt = 4 → S1.toInt ≤ 1296 * L4.toInt → S0.toInt = ((vn ai f9_size L4.toInt.toNat).natAbs : Int) → L4.toInt < 4 → 4 - L4.toInt ≤ (n22 : Int) → IAM ai → FR [7, 8, 16] ai0 ai → FL [17, 18] al0 al → va_P (dC, dI) vwCl (WM cI cJ cII cJJ ad f9_size f9_equations f9_areSteps f9_foundMany f9_many f9_rank f9_freeMany f9_arePlans f9_planMany ai al) H → va_D A (WM cI cJ cII cJJ ad f9_size f9_equations f9_areSteps f9_foundMany f9_many f9_rank f9_freeMany f9_arePlans f9_planMany ai al) → va_S A s.heap H locs → lv_has ls 6 [(0, .ref (ad 22)), (1, .int 4), (2, .int x2), (3, .int L3), (4, .int L4), (5, .int L5)] → W p l e ({ frames := 5, cells := 0, slots := 0, locals := 260 } : Room) s m args below meth c H locs 0 0 (MQ below (Q_r009_X9_goes dC dI cI cJ cII cJJ ad f9_size f9_equations f9_areSteps f9_many f9_rank f9_freeMany f9_arePlans f9_planMany ai0 al0 x2 o_f9_foundMany A) args s 0 0 A) (F0 m 80 ls [.int S0, .int S1]) := by
  obtain ⟨hx, hb, hr, hml, hown, hts, hk, hA, hK, hX⟩ := id C
  intro L3 L4 L5 S0 S1 f9_foundMany ai al H locs ls h0 h1 h2 h3 h4 h5 h6 h7 h8 h9 h10 h11 h12 h13 h14 h15 h16 h17 h18 h19 h20 h21 h22 h23 h24 hI hF hG hP hD hS hl
  refine v_iadd hx hb dX9_goes_80 _ rfl ?_
  refine lv_topi (fun z1 e_z1 => ?_)
  have g_z1 : z1.toInt = S1.toInt + S0.toInt := by rw [e_z1]; exact n_add (a := S1.toInt) (b := S0.toInt) rfl rfl (by omega) (by omega)
  refine lv_istore_n (lv' := [(3, .int z1), (0, .ref (ad 22)), (1, .int 4), (2, .int x2), (4, .int L4), (5, .int L5)]) hx hb dX9_goes_81 rfl hl (by decide) rfl (fun ls_1 hl_1 => ?_)
  obtain ⟨z2, e_z2⟩ : ∃ q : Int32, q = L4 + Int32.ofInt 1 := ⟨_, rfl⟩
  have g_z2 : z2.toInt = L4.toInt + 1 := by rw [e_z2]; exact n_add (a := L4.toInt) (b := 1) rfl (by decide +kernel) (by omega) (by omega)
  refine lv_iinc (v := z2) (lv' := [(4, .int z2), (3, .int z1), (0, .ref (ad 22)), (1, .int 4), (2, .int x2), (5, .int L5)]) hx hb dX9_goes_82 hl_1 (k := 4) rfl e_z2.symm (by decide) rfl (fun ls_2 hl_2 => ?_)
  refine lv_goto (tgt := 22) hx hb dX9_goes_85 (by decide) ?_
  exact K22 z1 z2 f9_foundMany ai al _ _ _ (by omega) (by omega) (by omega) (by omega) (by omega) (by omega) (by omega) (by omega) (by omega) (by omega) (by omega) h14 h15 (by rw [show z2.toInt = L4.toInt + 1 by omega]; exact h16) (by rw [show z2.toInt.toNat = L4.toInt.toNat + 1 by omega]; show _ = nmp (vn ai f9_size) L4.toInt.toNat + ((vn ai f9_size L4.toInt.toNat).natAbs : Int); omega) h18 (by omega) (by omega) (by omega) (by omega) (by omega) hI hF hG hP hD hS (lv_sub hl_2 [2, 3, 4, 1, 0] rfl)
set_option maxRecDepth 100000 in
set_option maxHeartbeats 4000000 in
theorem r009_X9_goes_b48 {p : Program} {l : Launch} {e : Env} {s : State} {m : MethodId} {args : Array Value} {below : List Frame} {meth : Method} {c : Code} {A : Nat → Prop} {dC : Nat → ClassId} {dI : Nat → Nat → Nat} {cI cJ cII cJJ : ClassId} {ad : Nat → Nat} {g : Nat} {f9_size f9_equations f9_areSteps f9_many f9_rank f9_freeMany f9_arePlans f9_planMany : Int32} {ai0 : Nat → Nat → Int32} {al0 : Nat → Nat → Int64} {x2 : Int32} {o_f9_foundMany : Int32} (C : Cx p c s m meth args A dC dI (TY cI cJ cII cJJ) cX9_goes none 6 RX9 0 g) (h_x2 : (0 ≤ x2.toInt ∧ x2.toInt ≤ 1296)) (hp0 : RKa ai0 f9_size f9_rank f9_freeMany) (hp1 : NWk ai0 ((4 : Nat) : Int) x2) (hp2 : o_f9_foundMany.toInt + pwb x2.toInt (f9_freeMany.toInt.toNat - 4) ≤ 99999) (n22 : Nat) (K22 : ∀ (L3 L4 f9_foundMany : Int32) (ai : Nat → Nat → Int32) (al : Nat → Nat → Int64) (H : Heap) (locs : List Loc) (ls : Array Slot), (0 ≤ L3.toInt ∧ L3.toInt ≤ 5184) → (0 ≤ L4.toInt ∧ L4.toInt ≤ 4) → (1 ≤ f9_size.toInt ∧ f9_size.toInt ≤ 4) → (0 ≤ f9_equations.toInt ∧ f9_equations.toInt ≤ 3) → (0 ≤ f9_areSteps.toInt ∧ f9_areSteps.toInt ≤ 1) → (0 ≤ f9_foundMany.toInt ∧ f9_foundMany.toInt ≤ 99999) → (0 ≤ f9_many.toInt ∧ f9_many.toInt ≤ 6000) → (0 ≤ f9_rank.toInt ∧ f9_rank.toInt ≤ 3) → (4 ≤ f9_freeMany.toInt ∧ f9_freeMany.toInt ≤ 4) → (0 ≤ f9_arePlans.toInt ∧ f9_arePlans.toInt ≤ 1) → (0 ≤ f9_planMany.toInt ∧ f9_planMany.toInt ≤ 194481) → FVa ai0 f9_size f9_rank f9_freeMany x2 (vn ai f9_size) → Fk ai0 ai ((4 : Nat) : Int) → RW7 ai f9_size f9_foundMany.toInt L4.toInt → L3.toInt = nmp (vn ai f9_size) L4.toInt.toNat → GS ai0 ai f9_size f9_rank f9_freeMany x2 o_f9_foundMany.toInt o_f9_foundMany.toInt → f9_foundMany.toInt = o_f9_foundMany.toInt → f9_freeMany.toInt = 4 → L3.toInt ≤ 1296 * L4.toInt → 4 - L4.toInt < (n22 : Int) → (0 : Int) < (n22 : Int) → IAM ai → FR [7, 8, 16] ai0 ai → FL [17, 18] al0 al → va_P (dC, dI) vwCl (WM cI cJ cII cJJ ad f9_size f9_equations f9_areSteps f9_foundMany f9_many f9_rank f9_freeMany f9_arePlans f9_planMany ai al) H → va_D A (WM cI cJ cII cJJ ad f9_size f9_equations f9_areSteps f9_foundMany f9_many f9_rank f9_freeMany f9_arePlans f9_planMany ai al) → va_S A s.heap H locs → lv_has ls 6 [(0, .ref (ad 22)), (1, .int 4), (2, .int x2), (3, .int L3), (4, .int L4)] → W p l e ({ frames := 5, cells := 0, slots := 0, locals := 260 } : Room) s m args below meth c H locs 0 0 (MQ below (Q_r009_X9_goes dC dI cI cJ cII cJJ ad f9_size f9_equations f9_areSteps f9_many f9_rank f9_freeMany f9_arePlans f9_planMany ai0 al0 x2 o_f9_foundMany A) args s 0 0 A) (F0 m 22 ls [])) : ∀ (L3 L4 S0 f9_foundMany : Int32) (ai : Nat → Nat → Int32) (al : Nat → Nat → Int64) (H : Heap) (locs : List Loc) (ls : Array Slot), (0 ≤ L3.toInt ∧ L3.toInt ≤ 5184) → (0 ≤ L4.toInt ∧ L4.toInt ≤ 3) → (-1296 ≤ S0.toInt ∧ S0.toInt ≤ 1296) → (1 ≤ f9_size.toInt ∧ f9_size.toInt ≤ 4) → (0 ≤ f9_equations.toInt ∧ f9_equations.toInt ≤ 3) → (0 ≤ f9_areSteps.toInt ∧ f9_areSteps.toInt ≤ 1) → (0 ≤ f9_foundMany.toInt ∧ f9_foundMany.toInt ≤ 99999) → (0 ≤ f9_many.toInt ∧ f9_many.toInt ≤ 6000) → (0 ≤ f9_rank.toInt ∧ f9_rank.toInt ≤ 3) → (4 ≤ f9_freeMany.toInt ∧ f9_freeMany.toInt ≤ 4) → (0 ≤ f9_arePlans.toInt ∧ f9_arePlans.toInt ≤ 1) → (0 ≤ f9_planMany.toInt ∧ f9_planMany.toInt ≤ 194481) → FVa ai0 f9_size f9_rank f9_freeMany x2 (vn ai f9_size) → Fk ai0 ai ((4 : Nat) : Int) → RW7 ai f9_size f9_foundMany.toInt L4.toInt → L3.toInt = nmp (vn ai f9_size) L4.toInt.toNat → GS ai0 ai f9_size f9_rank f9_freeMany x2 o_f9_foundMany.toInt o_f9_foundMany.toInt → f9_foundMany.toInt = o_f9_foundMany.toInt → f9_freeMany.toInt = 4 → L3.toInt ≤ 1296 * L4.toInt → S0.toInt = vn ai f9_size L4.toInt.toNat → L4.toInt < 4 → 4 - L4.toInt ≤ (n22 : Int) → IAM ai → FR [7, 8, 16] ai0 ai → FL [17, 18] al0 al → va_P (dC, dI) vwCl (WM cI cJ cII cJJ ad f9_size f9_equations f9_areSteps f9_foundMany f9_many f9_rank f9_freeMany f9_arePlans f9_planMany ai al) H → va_D A (WM cI cJ cII cJJ ad f9_size f9_equations f9_areSteps f9_foundMany f9_many f9_rank f9_freeMany f9_arePlans f9_planMany ai al) → va_S A s.heap H locs → lv_has ls 6 [(0, .ref (ad 22)), (1, .int 4), (2, .int x2), (3, .int L3), (4, .int L4)] → W p l e ({ frames := 5, cells := 0, slots := 0, locals := 260 } : Room) s m args below meth c H locs 0 0 (MQ below (Q_r009_X9_goes dC dI cI cJ cII cJJ ad f9_size f9_equations f9_areSteps f9_many f9_rank f9_freeMany f9_arePlans f9_planMany ai0 al0 x2 o_f9_foundMany A) args s 0 0 A) (F0 m 48 ls [.int S0]) := by
  obtain ⟨hx, hb, hr, hml, hown, hts, hk, hA, hK, hX⟩ := id C
  intro L3 L4 S0 f9_foundMany ai al H locs ls h0 h1 h2 h3 h4 h5 h6 h7 h8 h9 h10 h11 h12 h13 h14 h15 h16 h17 h18 h19 h20 h21 h22 hI hF hG hP hD hS hl
  refine lv_istore (lv' := [(5, .int S0), (0, .ref (ad 22)), (1, .int 4), (2, .int x2), (3, .int L3), (4, .int L4)]) hx hb dX9_goes_48 hl (by decide) rfl (fun ls_1 hl_1 => ?_)
  refine lv_aload_n hx hb dX9_goes_50 rfl (lv_at hl_1 1 rfl) ?_
  refine gf (k := 15) hx hb hts inX9 hown hK hP k_810 rfl (by decide) rfl 22 rfl (.ref (ad 7)) rfl dX9_goes_51 ?_
  refine lv_iconst (v := 4) hx hb dX9_goes_54 (by decide) ?_
  refine lv_aload_n hx hb dX9_goes_55 rfl (lv_at hl_1 1 rfl) ?_
  refine gf (k := 21) hx hb hts inX9 hown hK hP k_816 rfl (by decide) rfl 22 rfl (.int f9_foundMany) rfl dX9_goes_56 ?_
  refine v_imul hx hb dX9_goes_59 _ rfl ?_
  refine lv_topi (fun z1 e_z1 => ?_)
  have g_z1 : z1.toInt = 4 * f9_foundMany.toInt := by rw [e_z1]; exact n_mul (a := 4) (b := f9_foundMany.toInt) (by decide +kernel) rfl (by omega) (by omega)
  refine lv_iload hx hb dX9_goes_60 (lv_at hl_1 5 rfl) ?_
  refine v_iadd hx hb dX9_goes_62 _ rfl ?_
  refine lv_topi (fun z2 e_z2 => ?_)
  have g_z2 : z2.toInt = z1.toInt + L4.toInt := by rw [e_z2]; exact n_add (a := z1.toInt) (b := L4.toInt) rfl rfl (by omega) (by omega)
  refine lv_iload hx hb dX9_goes_63 (lv_at hl_1 0 rfl) ?_
  refine va_iast hx hb hK hP hD hS 7 0 rfl rfl (j_in (a := z2.toInt) rfl (by omega) (by omega)) dX9_goes_65 (fun H_2 locs_2 hP_2 hD_2 hS_2 => ?_)
  obtain ⟨ai3, e_ai3⟩ : ∃ q : Nat → Nat → Int32, q = va_up ai 7 (upd (ai 7) z2.toNatClampNeg S0) := ⟨_, rfl⟩
  have hF_3 := FR_st hF e_ai3 (by decide)
  have hI_4 : IAM ai3 := by rw [e_ai3]; exact hI
  have hP_5 : va_P (dC, dI) vwCl (WM cI cJ cII cJJ ad f9_size f9_equations f9_areSteps f9_foundMany f9_many f9_rank f9_freeMany f9_arePlans f9_planMany ai3 al) H_2 := by rw [e_ai3]; exact hP_2
  have hD_6 : va_D A (WM cI cJ cII cJJ ad f9_size f9_equations f9_areSteps f9_foundMany f9_many f9_rank f9_freeMany f9_arePlans f9_planMany ai3 al) := by rw [e_ai3]; exact hD_2
  refine lv_iload_n hx hb dX9_goes_66 rfl (lv_at hl_1 4 rfl) ?_
  refine lv_iload hx hb dX9_goes_67 (lv_at hl_1 0 rfl) ?_
  refine lv_if_ge (tgt := 78) hx hb dX9_goes_69 (by decide) (fun c4 => ?_) (fun c4 => ?_)
  · have c4 := j_le (a := 0) (b := S0.toInt) (by decide +kernel) rfl c4
    refine lv_iload hx hb dX9_goes_78 (lv_at hl_1 0 rfl) ?_
    exact r009_X9_goes_b80 C h_x2 hp0 hp1 hp2 n22 K22 L3 L4 S0 S0 L3 f9_foundMany ai3 al _ _ _ (by omega) (by omega) (by omega) (by omega) (by omega) (by omega) (by omega) (by omega) (by omega) (by omega) (by omega) (by omega) (by omega) (by omega) (FVa_st7 h12 e_ai3) (Fk_st h13 e_ai3 (by decide)) (RW7_st h14 e_ai3 (by omega) (by omega) (by omega) h20 rfl) (by rw [vn_st (up_ne e_ai3 (by decide))]; exact h15) (GS_st7 (F := f9_foundMany.toInt) h16 e_ai3 (by omega) (by omega) (by omega)) (by omega) (by omega) (by omega) (by rw [vn_st (up_ne e_ai3 (by decide))]; omega) (by omega) (by omega) hI_4 hF_3 hG hP_5 hD_6 hS_2 (lv_sub hl_1 [1, 2, 3, 4, 5, 0] rfl)
  · have c4 := j_nle (a := 0) (b := S0.toInt) (by decide +kernel) rfl c4
    refine lv_iload hx hb dX9_goes_72 (lv_at hl_1 0 rfl) ?_
    refine v_ineg hx hb dX9_goes_74 _ rfl ?_
    refine lv_topi (fun z5 e_z5 => ?_)
    have g_z5 : z5.toInt = -S0.toInt := by rw [e_z5]; exact n_neg (a := S0.toInt) rfl (by omega)
    refine lv_goto (tgt := 80) hx hb dX9_goes_75 (by decide) ?_
    exact r009_X9_goes_b80 C h_x2 hp0 hp1 hp2 n22 K22 L3 L4 S0 z5 L3 f9_foundMany ai3 al _ _ _ (by omega) (by omega) (by omega) (by omega) (by omega) (by omega) (by omega) (by omega) (by omega) (by omega) (by omega) (by omega) (by omega) (by omega) (FVa_st7 h12 e_ai3) (Fk_st h13 e_ai3 (by decide)) (RW7_st h14 e_ai3 (by omega) (by omega) (by omega) h20 rfl) (by rw [vn_st (up_ne e_ai3 (by decide))]; exact h15) (GS_st7 (F := f9_foundMany.toInt) h16 e_ai3 (by omega) (by omega) (by omega)) (by omega) (by omega) (by omega) (by rw [vn_st (up_ne e_ai3 (by decide))]; omega) (by omega) (by omega) hI_4 hF_3 hG hP_5 hD_6 hS_2 (lv_sub hl_1 [1, 2, 3, 4, 5, 0] rfl)
set_option maxRecDepth 100000 in
set_option maxHeartbeats 4000000 in
theorem r009_X9_goes_b22 {p : Program} {l : Launch} {e : Env} {s : State} {m : MethodId} {args : Array Value} {below : List Frame} {meth : Method} {c : Code} {A : Nat → Prop} {dC : Nat → ClassId} {dI : Nat → Nat → Nat} {cI cJ cII cJJ : ClassId} {ad : Nat → Nat} {g : Nat} {f9_size f9_equations f9_areSteps f9_many f9_rank f9_freeMany f9_arePlans f9_planMany : Int32} {ai0 : Nat → Nat → Int32} {al0 : Nat → Nat → Int64} {x2 : Int32} {o_f9_foundMany : Int32} (C : Cx p c s m meth args A dC dI (TY cI cJ cII cJJ) cX9_goes none 6 RX9 0 g) (h_x2 : (0 ≤ x2.toInt ∧ x2.toInt ≤ 1296)) (hp0 : RKa ai0 f9_size f9_rank f9_freeMany) (hp1 : NWk ai0 ((4 : Nat) : Int) x2) (hp2 : o_f9_foundMany.toInt + pwb x2.toInt (f9_freeMany.toInt.toNat - 4) ≤ 99999) : ∀ (n : Nat), ∀ (L3 L4 f9_foundMany : Int32) (ai : Nat → Nat → Int32) (al : Nat → Nat → Int64) (H : Heap) (locs : List Loc) (ls : Array Slot), (0 ≤ L3.toInt ∧ L3.toInt ≤ 5184) → (0 ≤ L4.toInt ∧ L4.toInt ≤ 4) → (1 ≤ f9_size.toInt ∧ f9_size.toInt ≤ 4) → (0 ≤ f9_equations.toInt ∧ f9_equations.toInt ≤ 3) → (0 ≤ f9_areSteps.toInt ∧ f9_areSteps.toInt ≤ 1) → (0 ≤ f9_foundMany.toInt ∧ f9_foundMany.toInt ≤ 99999) → (0 ≤ f9_many.toInt ∧ f9_many.toInt ≤ 6000) → (0 ≤ f9_rank.toInt ∧ f9_rank.toInt ≤ 3) → (4 ≤ f9_freeMany.toInt ∧ f9_freeMany.toInt ≤ 4) → (0 ≤ f9_arePlans.toInt ∧ f9_arePlans.toInt ≤ 1) → (0 ≤ f9_planMany.toInt ∧ f9_planMany.toInt ≤ 194481) → FVa ai0 f9_size f9_rank f9_freeMany x2 (vn ai f9_size) → Fk ai0 ai ((4 : Nat) : Int) → RW7 ai f9_size f9_foundMany.toInt L4.toInt → L3.toInt = nmp (vn ai f9_size) L4.toInt.toNat → GS ai0 ai f9_size f9_rank f9_freeMany x2 o_f9_foundMany.toInt o_f9_foundMany.toInt → f9_foundMany.toInt = o_f9_foundMany.toInt → f9_freeMany.toInt = 4 → L3.toInt ≤ 1296 * L4.toInt → 4 - L4.toInt < (n : Int) → (0 : Int) < (n : Int) → IAM ai → FR [7, 8, 16] ai0 ai → FL [17, 18] al0 al → va_P (dC, dI) vwCl (WM cI cJ cII cJJ ad f9_size f9_equations f9_areSteps f9_foundMany f9_many f9_rank f9_freeMany f9_arePlans f9_planMany ai al) H → va_D A (WM cI cJ cII cJJ ad f9_size f9_equations f9_areSteps f9_foundMany f9_many f9_rank f9_freeMany f9_arePlans f9_planMany ai al) → va_S A s.heap H locs → lv_has ls 6 [(0, .ref (ad 22)), (1, .int 4), (2, .int x2), (3, .int L3), (4, .int L4)] → W p l e ({ frames := 5, cells := 0, slots := 0, locals := 260 } : Room) s m args below meth c H locs 0 0 (MQ below (Q_r009_X9_goes dC dI cI cJ cII cJJ ad f9_size f9_equations f9_areSteps f9_many f9_rank f9_freeMany f9_arePlans f9_planMany ai0 al0 x2 o_f9_foundMany A) args s 0 0 A) (F0 m 22 ls []) := by
  obtain ⟨hx, hb, hr, hml, hown, hts, hk, hA, hK, hX⟩ := id C
  intro n
  induction n with
  | zero =>
    intro L3 L4 f9_foundMany ai al H locs ls h0 h1 h2 h3 h4 h5 h6 h7 h8 h9 h10 h11 h12 h13 h14 h15 h16 h17 h18 h19 h20 hI hF hG hP hD hS hl
    exact absurd h20 (by omega)
  | succ n ih =>
    intro L3 L4 f9_foundMany ai al H locs ls h0 h1 h2 h3 h4 h5 h6 h7 h8 h9 h10 h11 h12 h13 h14 h15 h16 h17 h18 h19 h20 hI hF hG hP hD hS hl
    refine lv_iload hx hb dX9_goes_22 (lv_at hl 4 rfl) ?_
    refine lv_iconst (v := 4) hx hb dX9_goes_24 (by decide) ?_
    refine lv_icmp_ge (tgt := 88) hx hb dX9_goes_25 (by decide) (fun c1 => ?_) (fun c1 => ?_)
    · have c1 := j_le (a := 4) (b := L4.toInt) (by decide +kernel) rfl c1
      refine lv_aload_n hx hb dX9_goes_88 rfl (lv_at hl 0 rfl) ?_
      refine gf (k := 16) hx hb hts inX9 hown hK hP k_811 rfl (by decide) rfl 22 rfl (.ref (ad 8)) rfl dX9_goes_89 ?_
      refine lv_aload_n hx hb dX9_goes_92 rfl (lv_at hl 0 rfl) ?_
      refine gf (k := 21) hx hb hts inX9 hown hK hP k_816 rfl (by decide) rfl 22 rfl (.int f9_foundMany) rfl dX9_goes_93 ?_
      refine lv_iload_n hx hb dX9_goes_96 rfl (lv_at hl 3 rfl) ?_
      refine va_iast hx hb hK hP hD hS 8 0 rfl rfl (j_in (a := f9_foundMany.toInt) rfl (by omega) (by omega)) dX9_goes_97 (fun H_1 locs_1 hP_1 hD_1 hS_1 => ?_)
      obtain ⟨ai2, e_ai2⟩ : ∃ q : Nat → Nat → Int32, q = va_up ai 8 (upd (ai 8) f9_foundMany.toNatClampNeg L3) := ⟨_, rfl⟩
      have hF_2 := FR_st hF e_ai2 (by decide)
      have hI_3 : IAM ai2 := by rw [e_ai2]; exact IAM_st8 hI (a := L3.toInt) rfl (by omega) (by omega)
      have hP_4 : va_P (dC, dI) vwCl (WM cI cJ cII cJJ ad f9_size f9_equations f9_areSteps f9_foundMany f9_many f9_rank f9_freeMany f9_arePlans f9_planMany ai2 al) H_1 := by rw [e_ai2]; exact hP_1
      have hD_5 : va_D A (WM cI cJ cII cJJ ad f9_size f9_equations f9_areSteps f9_foundMany f9_many f9_rank f9_freeMany f9_arePlans f9_planMany ai2 al) := by rw [e_ai2]; exact hD_1
      refine lv_aload_n hx hb dX9_goes_98 rfl (lv_at hl 0 rfl) ?_
      refine lv_dup hx hb dX9_goes_99 rfl ?_
      refine gf (k := 21) hx hb hts inX9 hown hK hP_4 k_816 rfl (by decide) rfl 22 rfl (.int f9_foundMany) rfl dX9_goes_100 ?_
      refine lv_iconst (v := 1) hx hb dX9_goes_103 (by decide) ?_
      refine v_iadd hx hb dX9_goes_104 _ rfl ?_
      refine lv_topi (fun z3 e_z3 => ?_)
      have g_z3 : z3.toInt = f9_foundMany.toInt + 1 ∧ z3.toInt ≤ 99999 := by rw [e_z3, n_add (a := f9_foundMany.toInt) (b := 1) rfl (by decide +kernel) (by omega) (by omega)]; have q9 := pwb_pos (b := x2.toInt) (by omega) (f9_freeMany.toInt.toNat - 4); omega
      refine pf (k := 21) hx hb hts inX9 tyX9_ok nmX9 hown hK hP_4 hD_5 hS_1 k_816 rfl (by decide) rfl rfl 22 rfl rfl rfl (Nat.le_of_ble_eq_true rfl) dX9_goes_105 (W' := (WM cI cJ cII cJJ ad f9_size f9_equations f9_areSteps z3 f9_many f9_rank f9_freeMany f9_arePlans f9_planMany ai2 al)) rfl (fun H_6 locs_6 hP_6 hD_6 hS_6 => ?_)
      exact r2_v hx hb hr hk hS_6 dX9_goes_108 (fun t ht hW => ⟨z3, ai2, al, ⟨(by first | omega | decide | exact Or.inl (by decide) | exact Or.inr (by decide) | exact Or.inr (by omega)), (by rw [show f9_freeMany.toInt.toNat - 4 = 0 by omega]; show _ ∧ _ ≤ _ + (1 : Int); omega), (GS_end hp0 (by omega) (by omega) h15 (by omega) h11 (by have q := h13; rw [show f9_foundMany.toInt = o_f9_foundMany.toInt by omega, show L4.toInt = 4 by omega] at q; exact q) e_ai2 (by omega) (by rw [h14, show L4.toInt.toNat = 4 by omega]) (by omega)), (GCo_end hp0 (by omega) (by omega) h11 h12 (by omega) (by have q := h13; rw [show f9_foundMany.toInt = o_f9_foundMany.toInt by omega, show L4.toInt = 4 by omega] at q; exact q) e_ai2 (by omega)), (Fk_st h12 e_ai2 (by decide)), hI_3, hF_2, hG⟩, by rw [ht]; exact hP_6, va_K.moved hW.alike hK, hD_6⟩)
    · have c1 := j_nle (a := 4) (b := L4.toInt) (by decide +kernel) rfl c1
      refine lv_iload hx hb dX9_goes_28 (lv_at hl 4 rfl) ?_
      refine lv_aload_n hx hb dX9_goes_30 rfl (lv_at hl 0 rfl) ?_
      refine gf (k := 12) hx hb hts inX9 hown hK hP k_807 rfl (by decide) rfl 22 rfl (.int f9_size) rfl dX9_goes_31 ?_
      refine lv_icmp_ge (tgt := 47) hx hb dX9_goes_34 (by decide) (fun c4 => ?_) (fun c4 => ?_)
      · have c4 := j_le (a := f9_size.toInt) (b := L4.toInt) rfl rfl c4
        refine lv_iconst (v := 0) hx hb dX9_goes_47 (by decide) ?_
        exact r009_X9_goes_b48 C h_x2 hp0 hp1 hp2 n ih L3 L4 0 f9_foundMany ai al _ _ _ (by first | omega | decide | (have ka0 := (by decide +kernel : (0 : Int32).toInt = 0); omega)) (by first | omega | decide | (have ka0 := (by decide +kernel : (0 : Int32).toInt = 0); omega)) (by first | omega | decide | (have ka0 := (by decide +kernel : (0 : Int32).toInt = 0); omega)) (by first | omega | decide | (have ka0 := (by decide +kernel : (0 : Int32).toInt = 0); omega)) (by first | omega | decide | (have ka0 := (by decide +kernel : (0 : Int32).toInt = 0); omega)) (by first | omega | decide | (have ka0 := (by decide +kernel : (0 : Int32).toInt = 0); omega)) (by first | omega | decide | (have ka0 := (by decide +kernel : (0 : Int32).toInt = 0); omega)) (by first | omega | decide | (have ka0 := (by decide +kernel : (0 : Int32).toInt = 0); omega)) (by first | omega | decide | (have ka0 := (by decide +kernel : (0 : Int32).toInt = 0); omega)) (by first | omega | decide | (have ka0 := (by decide +kernel : (0 : Int32).toInt = 0); omega)) (by first | omega | decide | (have ka0 := (by decide +kernel : (0 : Int32).toInt = 0); omega)) (by first | omega | decide | (have ka0 := (by decide +kernel : (0 : Int32).toInt = 0); omega)) h11 h12 h13 h14 h15 (by first | omega | decide | (have ka0 := (by decide +kernel : (0 : Int32).toInt = 0); omega)) (by first | omega | decide | (have ka0 := (by decide +kernel : (0 : Int32).toInt = 0); omega)) (by first | omega | decide | (have ka0 := (by decide +kernel : (0 : Int32).toInt = 0); omega)) (by rw [vn_out (by omega)]; decide) (by first | omega | decide | (have ka0 := (by decide +kernel : (0 : Int32).toInt = 0); omega)) (by first | omega | decide | (have ka0 := (by decide +kernel : (0 : Int32).toInt = 0); omega)) hI hF hG hP hD hS (lv_sub hl [0, 1, 2, 3, 4] rfl)
      · have c4 := j_nle (a := f9_size.toInt) (b := L4.toInt) rfl rfl c4
        refine lv_aload_n hx hb dX9_goes_37 rfl (lv_at hl 0 rfl) ?_
        refine gf (k := 26) hx hb hts inX9 hown hK hP k_821 rfl (by decide) rfl 22 rfl (.ref (ad 16)) rfl dX9_goes_38 ?_
        refine lv_iload hx hb dX9_goes_41 (lv_at hl 4 rfl) ?_
        refine va_iald hx hb hK hP 16 0 rfl rfl (j_in (a := L4.toInt) rfl (by omega) (by omega)) dX9_goes_43 ?_
        refine lv_topi (fun z5 e_z5 => ?_)
        have g_z5 : -1296 ≤ z5.toInt ∧ z5.toInt ≤ 1296 := by have q := vn_b h11 (by omega) (u := L4.toInt.toNat) (by omega); rw [vn_in (by omega)] at q; rw [e_z5]; exact q
        refine lv_goto (tgt := 48) hx hb dX9_goes_44 (by decide) ?_
        exact r009_X9_goes_b48 C h_x2 hp0 hp1 hp2 n ih L3 L4 z5 f9_foundMany ai al _ _ _ (by omega) (by omega) (by omega) (by omega) (by omega) (by omega) (by omega) (by omega) (by omega) (by omega) (by omega) (by omega) h11 h12 h13 h14 h15 (by omega) (by omega) (by omega) (by rw [e_z5]; exact (vn_in (u := L4.toInt.toNat) (by omega)).symm) (by omega) (by omega) hI hF hG hP hD hS (lv_sub hl [0, 1, 2, 3, 4] rfl)
set_option maxRecDepth 100000 in
set_option maxHeartbeats 4000000 in
theorem r009_X9_goes (l : Launch) (dC : Nat → ClassId) (dI : Nat → Nat → Nat) (cI cJ cII cJJ : ClassId) (sz g : Nat) (ad : Nat → Nat) (f9_size f9_equations f9_areSteps f9_foundMany f9_many f9_rank f9_freeMany f9_arePlans f9_planMany : Int32) (ai : Nat → Nat → Int32) (al : Nat → Nat → Int64) (x2 : Int32) (h_x2 : (0 ≤ x2.toInt ∧ x2.toInt ≤ 1296)) (h_f9_size : (1 ≤ f9_size.toInt ∧ f9_size.toInt ≤ 4)) (h_f9_equations : (0 ≤ f9_equations.toInt ∧ f9_equations.toInt ≤ 3)) (h_f9_areSteps : (0 ≤ f9_areSteps.toInt ∧ f9_areSteps.toInt ≤ 1)) (h_f9_foundMany : (0 ≤ f9_foundMany.toInt ∧ f9_foundMany.toInt ≤ 99999)) (h_f9_many : (0 ≤ f9_many.toInt ∧ f9_many.toInt ≤ 6000)) (h_f9_rank : (0 ≤ f9_rank.toInt ∧ f9_rank.toInt ≤ 3)) (h_f9_freeMany : (4 ≤ f9_freeMany.toInt ∧ f9_freeMany.toInt ≤ 4)) (h_f9_arePlans : (0 ≤ f9_arePlans.toInt ∧ f9_arePlans.toInt ≤ 1)) (h_f9_planMany : (0 ≤ f9_planMany.toInt ∧ f9_planMany.toInt ≤ 194481)) (hp0 : RKa ai f9_size f9_rank f9_freeMany) (hp1 : NWk ai ((4 : Nat) : Int) x2) (hp2 : f9_foundMany.toInt + pwb x2.toInt (f9_freeMany.toInt.toNat - 4) ≤ 99999) (hI : IAM ai) : Met l yX9_goes (.code yX9_goes cX9_goes 6 none :: TT) ({ frames := 5, cells := 0, slots := 0, locals := 260 } : Room) (PcS dC dI (TY cI cJ cII cJJ) [.ref (ad 22), .int 4, .int x2] (WM cI cJ cII cJJ ad f9_size f9_equations f9_areSteps f9_foundMany f9_many f9_rank f9_freeMany f9_arePlans f9_planMany ai al) sz 0 g) (Q_r009_X9_goes dC dI cI cJ cII cJJ ad f9_size f9_equations f9_areSteps f9_many f9_rank f9_freeMany f9_arePlans f9_planMany ai al x2 f9_foundMany (va_A (WM cI cJ cII cJJ ad f9_size f9_equations f9_areSteps f9_foundMany f9_many f9_rank f9_freeMany f9_arePlans f9_planMany ai al) sz)) 0 0 (va_A (WM cI cJ cII cJJ ad f9_size f9_equations f9_areSteps f9_foundMany f9_many f9_rank f9_freeMany f9_arePlans f9_planMany ai al) sz) := by
  refine SM.of (y := yX9_goes) (maxL := 6) (av := [.ref (ad 22), .int 4, .int x2]) (Q_r009_X9_goes dC dI cI cJ cII cJJ ad f9_size f9_equations f9_areSteps f9_many f9_rank f9_freeMany f9_arePlans f9_planMany ai al x2 f9_foundMany) (by decide +kernel) (Nat.le_of_ble_eq_true rfl) (fun p e s m below meth c A ls hx hb hr hml hown hts hk hnm hA hK hP hD hS hX hl => ?_)
  have C : Cx p c s m meth (([.ref (ad 22), .int 4, .int x2] : List Value).toArray) A dC dI (TY cI cJ cII cJJ) cX9_goes none 6 RX9 0 g := ⟨hx, hb, hr, hml, hown, hts, hk, hA, hK, hX⟩
  have hown : s.vm.findClass RX9 = some m.cls := hown
  have hl : lv_has ls 6 [(0, .ref (ad 22)), (1, .int 4), (2, .int x2)] := hl
  obtain ⟨H, hH⟩ : ∃ q, q = s.heap := ⟨_, rfl⟩
  rw [← hH] at hP
  have hS : va_S A s.heap H [] := by rw [hH]; exact hS
  rw [← hH]
  have hF := FR_refl [7, 8, 16] ai
  have hG := FL_refl [17, 18] al
  refine lv_iload_n hx hb dX9_goes_0 rfl (lv_at hl 1 rfl) ?_
  refine lv_aload_n hx hb dX9_goes_1 rfl (lv_at hl 0 rfl) ?_
  refine gf (k := 28) hx hb hts inX9 hown hK hP k_823 rfl (by decide) rfl 22 rfl (.int f9_freeMany) rfl dX9_goes_2 ?_
  refine f_icmp_ne hx hb dX9_goes_5 109 (by decide) (q_nne (a := 4) (b := f9_freeMany.toInt) (by decide +kernel) rfl (by omega)) ?_
  refine lv_aload_n hx hb dX9_goes_8 rfl (lv_at hl 0 rfl) ?_
  refine lv_iload_n hx hb dX9_goes_9 rfl (lv_at hl 2 rfl) ?_
  have hM := r008_X9_makes l dC dI cI cJ cII cJJ H.size 0 ad f9_size f9_equations f9_areSteps f9_foundMany f9_many f9_rank f9_freeMany f9_arePlans f9_planMany ai al x2 (by omega) (by omega) (by omega) (by omega) (by omega) (by omega) (by omega) (by omega) (by omega) (by omega) hp0 (NWb_of hp1 (by omega)) hI
  refine k2V_i (q0 := 22) ⟨hx, hb, hml, hown, hts⟩ hK hP hD hS hA hX cv_RX9_149 hM ⟨by decide +kernel, by decide +kernel⟩ rfl rfl (Or.inl rfl) (rest := []) rfl rfl rfl hl.1 rfl (Nat.le_of_ble_eq_true rfl) dX9_goes_10 ⟨Nat.le_of_ble_eq_true rfl, Nat.le_of_ble_eq_true rfl⟩ (fun r1 t H1 locs_1 ht hB hS_1 hFc => ?_)
  obtain ⟨ai2, al3, ⟨gpr1_0, gpr1_1, gpr1_2, gpr1_3, hI_2, hFr_r1, hGr_r1⟩, hP_2, -, hD_2⟩ := hB
  have hF_3 := FR_tr hF hFr_r1 (by decide)
  have hG_4 := FL_tr hG hGr_r1 (by decide)
  rw [ht] at hP_2
  have hD_5 := hD_2.weaken (B := A) (fun k q _ h9 => hFc q.1 h9)
  clear ht
  generalize H1 = H_6 at hP_2 hS_1 ⊢
  refine lv_if_ne (tgt := 17) hx hb dX9_goes_13 (by decide) (fun c4 => ?_) (fun c4 => ?_)
  · have c4 := j_ne (a := r1.toInt) (b := 0) rfl (by decide +kernel) c4
    refine lv_iconst (v := 0) hx hb dX9_goes_17 (by decide) ?_
    refine lv_istore_n (lv' := [(3, .int 0), (0, .ref (ad 22)), (1, .int 4), (2, .int x2)]) hx hb dX9_goes_18 rfl hl (by decide) rfl (fun ls_7 hl_7 => ?_)
    refine lv_iconst (v := 0) hx hb dX9_goes_19 (by decide) ?_
    refine lv_istore (lv' := [(4, .int 0), (3, .int 0), (0, .ref (ad 22)), (1, .int 4), (2, .int x2)]) hx hb dX9_goes_20 hl_7 (by decide) rfl (fun ls_8 hl_8 => ?_)
    exact r009_X9_goes_b22 C h_x2 hp0 hp1 hp2  _ 0 0 f9_foundMany ai2 al3 _ _ _ (by first | omega | decide | (have ka0 := (by decide +kernel : (0 : Int32).toInt = 0); omega)) (by first | omega | decide | (have ka0 := (by decide +kernel : (0 : Int32).toInt = 0); omega)) (by first | omega | decide | (have ka0 := (by decide +kernel : (0 : Int32).toInt = 0); omega)) (by first | omega | decide | (have ka0 := (by decide +kernel : (0 : Int32).toInt = 0); omega)) (by first | omega | decide | (have ka0 := (by decide +kernel : (0 : Int32).toInt = 0); omega)) (by first | omega | decide | (have ka0 := (by decide +kernel : (0 : Int32).toInt = 0); omega)) (by first | omega | decide | (have ka0 := (by decide +kernel : (0 : Int32).toInt = 0); omega)) (by first | omega | decide | (have ka0 := (by decide +kernel : (0 : Int32).toInt = 0); omega)) (by first | omega | decide | (have ka0 := (by decide +kernel : (0 : Int32).toInt = 0); omega)) (by first | omega | decide | (have ka0 := (by decide +kernel : (0 : Int32).toInt = 0); omega)) (by first | omega | decide | (have ka0 := (by decide +kernel : (0 : Int32).toInt = 0); omega)) (gpr1_1.resolve_left (by omega)) (Fk_of gpr1_2 (by omega)) (fun u hu => (zlt hu).elim) (nmp_0 _) (GS_0 hFr_r1 (by decide) (by decide) (Int.le_refl _)) rfl (by omega) (by decide) (j_fuel _) (by omega) hI_2 hF_3 hG_4 hP_2 hD_5 hS_1 (lv_sub hl_8 [2, 3, 4, 1, 0] rfl)
  · have c4 := j_eq (a := r1.toInt) (b := 0) rfl (by decide +kernel) c4
    exact r2_v hx hb hr hk hS_1 dX9_goes_16 (fun t ht hW => ⟨f9_foundMany, ai2, al3, ⟨(by first | omega | decide | exact Or.inl (by decide) | exact Or.inr (by decide) | exact Or.inr (by omega)), (by have q := pwb_pos (b := x2.toInt) (by omega) (f9_freeMany.toInt.toNat - 4); omega), (GS_0 hFr_r1 (by decide) (by decide) (Int.le_refl _)), (GCo_no (gpr1_3.resolve_left (by omega)) (by omega)), (Fk_of gpr1_2 (by omega)), hI_2, hF_3, hG_4⟩, by rw [ht]; exact hP_2, va_K.moved hW.alike hK, hD_5⟩)
