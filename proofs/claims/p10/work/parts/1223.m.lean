def Q_r071_X9_span (dC : Nat → ClassId) (dI : Nat → Nat → Nat) (cI cJ cII cJJ : ClassId) (ad : Nat → Nat) (f9_size f9_equations f9_areSteps f9_foundMany f9_many f9_rank f9_freeMany : Int32) (ai0 : Nat → Nat → Int32) (al : Nat → Nat → Int64) : (Nat → Prop) → Array Value → State → Outcome → State → Prop := fun A => QI (fun r t => ∃ (n_f9_arePlans n_f9_planMany : Int32), ∃ (n_ai : Nat → Nat → Int32), ((1 ≤ n_f9_arePlans.toInt ∧ n_f9_arePlans.toInt ≤ 1) ∧ (0 ≤ n_f9_planMany.toInt ∧ n_f9_planMany.toInt ≤ 194481) ∧ (f9_areSteps.toInt = 0 ∨ CIa n_ai f9_size f9_many.toInt) ∧ IAM n_ai ∧ FR [20, 21] ai0 n_ai) ∧ WO dC dI (TY cI cJ cII cJJ) (WM cI cJ cII cJJ ad f9_size f9_equations f9_areSteps f9_foundMany f9_many f9_rank f9_freeMany n_f9_arePlans n_f9_planMany n_ai al) A t) A
set_option maxRecDepth 100000 in
set_option maxHeartbeats 4000000 in
theorem r071_X9_span_b96 {p : Program} {l : Launch} {e : Env} {s : State} {m : MethodId} {args : Array Value} {below : List Frame} {meth : Method} {c : Code} {A : Nat → Prop} {dC : Nat → ClassId} {dI : Nat → Nat → Nat} {cI cJ cII cJJ : ClassId} {ad : Nat → Nat} {g : Nat} {f9_size f9_equations f9_areSteps f9_foundMany f9_many f9_rank f9_freeMany : Int32} {ai0 : Nat → Nat → Int32} {al : Nat → Nat → Int64} (C : Cx p c s m meth args A dC dI (TY cI cJ cII cJJ) cX9_span (some .int) 6 RX9 0 g) (hp0 : (f9_areSteps.toInt = 0 ∨ CIa ai0 f9_size f9_many.toInt)) (n43 : Nat) (K43 : ∀ (L1 L2 L3 L4 f9_arePlans f9_planMany : Int32) (ai : Nat → Nat → Int32) (H : Heap) (locs : List Loc) (ls : Array Slot), (0 ≤ L1.toInt ∧ L1.toInt ≤ 3) → (0 ≤ L2.toInt ∧ L2.toInt ≤ 1) → (1 ≤ L4.toInt ∧ L4.toInt ≤ 194481) → (1 ≤ f9_size.toInt ∧ f9_size.toInt ≤ 4) → (0 ≤ f9_equations.toInt ∧ f9_equations.toInt ≤ 3) → (0 ≤ f9_areSteps.toInt ∧ f9_areSteps.toInt ≤ 1) → (0 ≤ f9_foundMany.toInt ∧ f9_foundMany.toInt ≤ 99999) → (0 ≤ f9_many.toInt ∧ f9_many.toInt ≤ 6000) → (0 ≤ f9_rank.toInt ∧ f9_rank.toInt ≤ 3) → (0 ≤ f9_freeMany.toInt ∧ f9_freeMany.toInt ≤ 4) → (1 ≤ f9_arePlans.toInt ∧ f9_arePlans.toInt ≤ 1) → (1 ≤ f9_planMany.toInt ∧ f9_planMany.toInt ≤ 194481) → (f9_areSteps.toInt = 0 ∨ CIa ai f9_size f9_many.toInt) → f9_planMany.toInt - L4.toInt < (n43 : Int) → (0 : Int) < (n43 : Int) → IAM ai → FR [20, 21] ai0 ai → va_P (dC, dI) vwCl (WM cI cJ cII cJJ ad f9_size f9_equations f9_areSteps f9_foundMany f9_many f9_rank f9_freeMany f9_arePlans f9_planMany ai al) H → va_D A (WM cI cJ cII cJJ ad f9_size f9_equations f9_areSteps f9_foundMany f9_many f9_rank f9_freeMany f9_arePlans f9_planMany ai al) → va_S A s.heap H locs → lv_has ls 6 [(0, .ref (ad 22)), (1, .int L1), (2, .int L2), (3, .int L3), (4, .int L4)] → W p l e ({ frames := 10, cells := 0, slots := 0, locals := 560 } : Room) s m args below meth c H locs 0 0 (MQ below (Q_r071_X9_span dC dI cI cJ cII cJJ ad f9_size f9_equations f9_areSteps f9_foundMany f9_many f9_rank f9_freeMany ai0 al A) args s 0 0 A) (F0 m 43 ls [])) : ∀ (L1 L2 L3 L4 L5 S0 f9_arePlans f9_planMany : Int32) (ai : Nat → Nat → Int32) (H : Heap) (locs : List Loc) (ls : Array Slot), (0 ≤ L1.toInt ∧ L1.toInt ≤ 3) → (0 ≤ L2.toInt ∧ L2.toInt ≤ 1) → (1 ≤ L4.toInt ∧ L4.toInt ≤ 194480) → (1 ≤ f9_size.toInt ∧ f9_size.toInt ≤ 4) → (0 ≤ f9_equations.toInt ∧ f9_equations.toInt ≤ 3) → (0 ≤ f9_areSteps.toInt ∧ f9_areSteps.toInt ≤ 1) → (0 ≤ f9_foundMany.toInt ∧ f9_foundMany.toInt ≤ 99999) → (0 ≤ f9_many.toInt ∧ f9_many.toInt ≤ 6000) → (0 ≤ f9_rank.toInt ∧ f9_rank.toInt ≤ 3) → (0 ≤ f9_freeMany.toInt ∧ f9_freeMany.toInt ≤ 4) → (1 ≤ f9_arePlans.toInt ∧ f9_arePlans.toInt ≤ 1) → (2 ≤ f9_planMany.toInt ∧ f9_planMany.toInt ≤ 194481) → (f9_areSteps.toInt = 0 ∨ CIa ai f9_size f9_many.toInt) → L4.toInt < f9_planMany.toInt → f9_planMany.toInt - L4.toInt ≤ (n43 : Int) → IAM ai → FR [20, 21] ai0 ai → va_P (dC, dI) vwCl (WM cI cJ cII cJJ ad f9_size f9_equations f9_areSteps f9_foundMany f9_many f9_rank f9_freeMany f9_arePlans f9_planMany ai al) H → va_D A (WM cI cJ cII cJJ ad f9_size f9_equations f9_areSteps f9_foundMany f9_many f9_rank f9_freeMany f9_arePlans f9_planMany ai al) → va_S A s.heap H locs → lv_has ls 6 [(0, .ref (ad 22)), (1, .int L1), (2, .int L2), (3, .int L3), (4, .int L4), (5, .int L5)] → W p l e ({ frames := 10, cells := 0, slots := 0, locals := 560 } : Room) s m args below meth c H locs 0 0 (MQ below (Q_r071_X9_span dC dI cI cJ cII cJJ ad f9_size f9_equations f9_areSteps f9_foundMany f9_many f9_rank f9_freeMany ai0 al A) args s 0 0 A) (F0 m 96 ls [.int S0]) := by
  obtain ⟨hx, hb, hr, hml, hown, hts, hk, hA, hK, hX⟩ := id C
  intro L1 L2 L3 L4 L5 S0 f9_arePlans f9_planMany ai H locs ls h0 h1 h2 h3 h4 h5 h6 h7 h8 h9 h10 h11 h12 h13 h14 hI hF hP hD hS hl
  have ra_L3 := s_any L3
  have ra_L5 := s_any L5
  have ra_S0 := s_any S0
  refine lv_istore_n (lv' := [(3, .int S0), (0, .ref (ad 22)), (1, .int L1), (2, .int L2), (4, .int L4), (5, .int L5)]) hx hb dX9_span_96 rfl hl (by decide) rfl (fun ls_1 hl_1 => ?_)
  obtain ⟨z1, e_z1⟩ : ∃ q : Int32, q = L4 + Int32.ofInt 1 := ⟨_, rfl⟩
  have g_z1 : z1.toInt = L4.toInt + 1 := by rw [e_z1]; exact n_add (a := L4.toInt) (b := 1) rfl (by decide +kernel) (by omega) (by omega)
  refine lv_iinc (v := z1) (lv' := [(4, .int z1), (3, .int S0), (0, .ref (ad 22)), (1, .int L1), (2, .int L2), (5, .int L5)]) hx hb dX9_span_97 hl_1 (k := 4) rfl e_z1.symm (by decide) rfl (fun ls_2 hl_2 => ?_)
  refine lv_goto (tgt := 43) hx hb dX9_span_100 (by decide) ?_
  exact K43 L1 L2 S0 z1 f9_arePlans f9_planMany ai _ _ _ (by omega) (by omega) (by omega) (by omega) (by omega) (by omega) (by omega) (by omega) (by omega) (by omega) (by omega) (by omega) (by first | exact h12 | exact Or.inl (by omega) | exact Or.inl (by decide +kernel)) (by omega) (by omega) hI hF hP hD hS (lv_sub hl_2 [2, 3, 4, 1, 0] rfl)
set_option maxRecDepth 100000 in
set_option maxHeartbeats 4000000 in
theorem r071_X9_span_b43 {p : Program} {l : Launch} {e : Env} {s : State} {m : MethodId} {args : Array Value} {below : List Frame} {meth : Method} {c : Code} {A : Nat → Prop} {dC : Nat → ClassId} {dI : Nat → Nat → Nat} {cI cJ cII cJJ : ClassId} {ad : Nat → Nat} {g : Nat} {f9_size f9_equations f9_areSteps f9_foundMany f9_many f9_rank f9_freeMany : Int32} {ai0 : Nat → Nat → Int32} {al : Nat → Nat → Int64} (C : Cx p c s m meth args A dC dI (TY cI cJ cII cJJ) cX9_span (some .int) 6 RX9 0 g) (hp0 : (f9_areSteps.toInt = 0 ∨ CIa ai0 f9_size f9_many.toInt)) : ∀ (n : Nat), ∀ (L1 L2 L3 L4 f9_arePlans f9_planMany : Int32) (ai : Nat → Nat → Int32) (H : Heap) (locs : List Loc) (ls : Array Slot), (0 ≤ L1.toInt ∧ L1.toInt ≤ 3) → (0 ≤ L2.toInt ∧ L2.toInt ≤ 1) → (1 ≤ L4.toInt ∧ L4.toInt ≤ 194481) → (1 ≤ f9_size.toInt ∧ f9_size.toInt ≤ 4) → (0 ≤ f9_equations.toInt ∧ f9_equations.toInt ≤ 3) → (0 ≤ f9_areSteps.toInt ∧ f9_areSteps.toInt ≤ 1) → (0 ≤ f9_foundMany.toInt ∧ f9_foundMany.toInt ≤ 99999) → (0 ≤ f9_many.toInt ∧ f9_many.toInt ≤ 6000) → (0 ≤ f9_rank.toInt ∧ f9_rank.toInt ≤ 3) → (0 ≤ f9_freeMany.toInt ∧ f9_freeMany.toInt ≤ 4) → (1 ≤ f9_arePlans.toInt ∧ f9_arePlans.toInt ≤ 1) → (1 ≤ f9_planMany.toInt ∧ f9_planMany.toInt ≤ 194481) → (f9_areSteps.toInt = 0 ∨ CIa ai f9_size f9_many.toInt) → f9_planMany.toInt - L4.toInt < (n : Int) → (0 : Int) < (n : Int) → IAM ai → FR [20, 21] ai0 ai → va_P (dC, dI) vwCl (WM cI cJ cII cJJ ad f9_size f9_equations f9_areSteps f9_foundMany f9_many f9_rank f9_freeMany f9_arePlans f9_planMany ai al) H → va_D A (WM cI cJ cII cJJ ad f9_size f9_equations f9_areSteps f9_foundMany f9_many f9_rank f9_freeMany f9_arePlans f9_planMany ai al) → va_S A s.heap H locs → lv_has ls 6 [(0, .ref (ad 22)), (1, .int L1), (2, .int L2), (3, .int L3), (4, .int L4)] → W p l e ({ frames := 10, cells := 0, slots := 0, locals := 560 } : Room) s m args below meth c H locs 0 0 (MQ below (Q_r071_X9_span dC dI cI cJ cII cJJ ad f9_size f9_equations f9_areSteps f9_foundMany f9_many f9_rank f9_freeMany ai0 al A) args s 0 0 A) (F0 m 43 ls []) := by
  obtain ⟨hx, hb, hr, hml, hown, hts, hk, hA, hK, hX⟩ := id C
  intro n
  induction n with
  | zero =>
    intro L1 L2 L3 L4 f9_arePlans f9_planMany ai H locs ls h0 h1 h2 h3 h4 h5 h6 h7 h8 h9 h10 h11 h12 h13 h14 hI hF hP hD hS hl
    exact absurd h14 (by omega)
  | succ n ih =>
    intro L1 L2 L3 L4 f9_arePlans f9_planMany ai H locs ls h0 h1 h2 h3 h4 h5 h6 h7 h8 h9 h10 h11 h12 h13 h14 hI hF hP hD hS hl
    have ra_L3 := s_any L3
    refine lv_iload hx hb dX9_span_43 (lv_at hl 4 rfl) ?_
    refine lv_aload_n hx hb dX9_span_45 rfl (lv_at hl 0 rfl) ?_
    refine gf (k := 35) hx hb hts inX9 hown hK hP k_830 rfl (by decide) rfl 22 rfl (.int f9_planMany) rfl dX9_span_46 ?_
    refine lv_icmp_ge (tgt := 103) hx hb dX9_span_49 (by decide) (fun c1 => ?_) (fun c1 => ?_)
    · have c1 := j_le (a := f9_planMany.toInt) (b := L4.toInt) rfl rfl c1
      refine lv_iload_n hx hb dX9_span_103 rfl (lv_at hl 3 rfl) ?_
      exact r2_i hx hb hr hk hS dX9_span_104 (fun t ht hW => ⟨f9_arePlans, f9_planMany, ai, ⟨(by first | omega | decide | exact Or.inl (by decide) | exact Or.inr (by decide) | exact Or.inr (by omega)), (by first | omega | decide | exact Or.inl (by decide) | exact Or.inr (by decide) | exact Or.inr (by omega)), (by first | exact h12 | exact Or.inl (by omega) | exact Or.inl (by decide +kernel)), hI, hF⟩, by rw [ht]; exact hP, va_K.moved hW.alike hK, hD⟩)
    · have c1 := j_nle (a := f9_planMany.toInt) (b := L4.toInt) rfl rfl c1
      refine lv_aload_n hx hb dX9_span_52 rfl (lv_at hl 0 rfl) ?_
      refine gf (k := 34) hx hb hts inX9 hown hK hP k_829 rfl (by decide) rfl 22 rfl (.ref (ad 21)) rfl dX9_span_53 ?_
      refine lv_iconst (v := 4) hx hb dX9_span_56 (by decide) ?_
      refine lv_iload hx hb dX9_span_57 (lv_at hl 4 rfl) ?_
      refine v_imul hx hb dX9_span_59 _ rfl ?_
      refine lv_topi (fun z2 e_z2 => ?_)
      have g_z2 : z2.toInt = 4 * L4.toInt := by rw [e_z2]; exact n_mul (a := 4) (b := L4.toInt) (by decide +kernel) rfl (by omega) (by omega)
      refine lv_iload_n hx hb dX9_span_60 rfl (lv_at hl 1 rfl) ?_
      refine v_iadd hx hb dX9_span_61 _ rfl ?_
      refine lv_topi (fun z3 e_z3 => ?_)
      have g_z3 : z3.toInt = z2.toInt + L1.toInt := by rw [e_z3]; exact n_add (a := z2.toInt) (b := L1.toInt) rfl rfl (by omega) (by omega)
      refine va_iald hx hb hK hP 21 0 rfl rfl (j_in (a := z3.toInt) rfl (by omega) (by omega)) dX9_span_62 ?_
      refine lv_topi (fun z4 e_z4 => ?_)
      refine lv_istore (lv' := [(5, .int z4), (0, .ref (ad 22)), (1, .int L1), (2, .int L2), (3, .int L3), (4, .int L4)]) hx hb dX9_span_63 hl (by decide) rfl (fun ls_1 hl_1 => ?_)
      refine lv_iload_n hx hb dX9_span_65 rfl (lv_at hl_1 3 rfl) ?_
      refine lv_if_ne (tgt := 84) hx hb dX9_span_66 (by decide) (fun c5 => ?_) (fun c5 => ?_)
      · have c5 := j_ne (a := L2.toInt) (b := 0) rfl (by decide +kernel) c5
        refine lv_iload hx hb dX9_span_84 (lv_at hl_1 0 rfl) ?_
        refine lv_iload_n hx hb dX9_span_86 rfl (lv_at hl_1 4 rfl) ?_
        refine lv_icmp_le (tgt := 95) hx hb dX9_span_87 (by decide) (fun c6 => ?_) (fun c6 => ?_)
        · have c6 := j_le (a := z4.toInt) (b := L3.toInt) rfl rfl c6
          refine lv_iload_n hx hb dX9_span_95 rfl (lv_at hl_1 4 rfl) ?_
          exact r071_X9_span_b96 C hp0 n ih L1 L2 L3 L4 z4 L3 f9_arePlans f9_planMany ai _ _ _ (by omega) (by omega) (by omega) (by omega) (by omega) (by omega) (by omega) (by omega) (by omega) (by omega) (by omega) (by omega) (by first | exact h12 | exact Or.inl (by omega) | exact Or.inl (by decide +kernel)) (by omega) (by omega) hI hF hP hD hS (lv_sub hl_1 [1, 2, 3, 4, 5, 0] rfl)
        · have c6 := j_nle (a := z4.toInt) (b := L3.toInt) rfl rfl c6
          refine lv_iload hx hb dX9_span_90 (lv_at hl_1 0 rfl) ?_
          refine lv_goto (tgt := 96) hx hb dX9_span_92 (by decide) ?_
          exact r071_X9_span_b96 C hp0 n ih L1 L2 L3 L4 z4 z4 f9_arePlans f9_planMany ai _ _ _ (by omega) (by omega) (by omega) (by omega) (by omega) (by omega) (by omega) (by omega) (by omega) (by omega) (by omega) (by omega) (by first | exact h12 | exact Or.inl (by omega) | exact Or.inl (by decide +kernel)) (by omega) (by omega) hI hF hP hD hS (lv_sub hl_1 [1, 2, 3, 4, 5, 0] rfl)
      · have c5 := j_eq (a := L2.toInt) (b := 0) rfl (by decide +kernel) c5
        refine lv_iload hx hb dX9_span_69 (lv_at hl_1 0 rfl) ?_
        refine lv_iload_n hx hb dX9_span_71 rfl (lv_at hl_1 4 rfl) ?_
        refine lv_icmp_ge (tgt := 80) hx hb dX9_span_72 (by decide) (fun c7 => ?_) (fun c7 => ?_)
        · have c7 := j_le (a := L3.toInt) (b := z4.toInt) rfl rfl c7
          refine lv_iload_n hx hb dX9_span_80 rfl (lv_at hl_1 4 rfl) ?_
          refine lv_goto (tgt := 96) hx hb dX9_span_81 (by decide) ?_
          exact r071_X9_span_b96 C hp0 n ih L1 L2 L3 L4 z4 L3 f9_arePlans f9_planMany ai _ _ _ (by omega) (by omega) (by omega) (by omega) (by omega) (by omega) (by omega) (by omega) (by omega) (by omega) (by omega) (by omega) (by first | exact h12 | exact Or.inl (by omega) | exact Or.inl (by decide +kernel)) (by omega) (by omega) hI hF hP hD hS (lv_sub hl_1 [1, 2, 3, 4, 5, 0] rfl)
        · have c7 := j_nle (a := L3.toInt) (b := z4.toInt) rfl rfl c7
          refine lv_iload hx hb dX9_span_75 (lv_at hl_1 0 rfl) ?_
          refine lv_goto (tgt := 96) hx hb dX9_span_77 (by decide) ?_
          exact r071_X9_span_b96 C hp0 n ih L1 L2 L3 L4 z4 z4 f9_arePlans f9_planMany ai _ _ _ (by omega) (by omega) (by omega) (by omega) (by omega) (by omega) (by omega) (by omega) (by omega) (by omega) (by omega) (by omega) (by first | exact h12 | exact Or.inl (by omega) | exact Or.inl (by decide +kernel)) (by omega) (by omega) hI hF hP hD hS (lv_sub hl_1 [1, 2, 3, 4, 5, 0] rfl)
set_option maxRecDepth 100000 in
set_option maxHeartbeats 4000000 in
theorem r071_X9_span_b30 {p : Program} {l : Launch} {e : Env} {s : State} {m : MethodId} {args : Array Value} {below : List Frame} {meth : Method} {c : Code} {A : Nat → Prop} {dC : Nat → ClassId} {dI : Nat → Nat → Nat} {cI cJ cII cJJ : ClassId} {ad : Nat → Nat} {g : Nat} {f9_size f9_equations f9_areSteps f9_foundMany f9_many f9_rank f9_freeMany : Int32} {ai0 : Nat → Nat → Int32} {al : Nat → Nat → Int64} (C : Cx p c s m meth args A dC dI (TY cI cJ cII cJJ) cX9_span (some .int) 6 RX9 0 g) (hp0 : (f9_areSteps.toInt = 0 ∨ CIa ai0 f9_size f9_many.toInt)) : ∀ (L1 L2 f9_arePlans f9_planMany : Int32) (ai : Nat → Nat → Int32) (H : Heap) (locs : List Loc) (ls : Array Slot), (1 ≤ f9_size.toInt ∧ f9_size.toInt ≤ 4) → (0 ≤ f9_equations.toInt ∧ f9_equations.toInt ≤ 3) → (0 ≤ f9_areSteps.toInt ∧ f9_areSteps.toInt ≤ 1) → (0 ≤ f9_foundMany.toInt ∧ f9_foundMany.toInt ≤ 99999) → (0 ≤ f9_many.toInt ∧ f9_many.toInt ≤ 6000) → (0 ≤ f9_rank.toInt ∧ f9_rank.toInt ≤ 3) → (0 ≤ f9_freeMany.toInt ∧ f9_freeMany.toInt ≤ 4) → (1 ≤ f9_arePlans.toInt ∧ f9_arePlans.toInt ≤ 1) → (0 ≤ f9_planMany.toInt ∧ f9_planMany.toInt ≤ 194481) → (f9_areSteps.toInt = 0 ∨ CIa ai f9_size f9_many.toInt) → IAM ai → FR [20, 21] ai0 ai → va_P (dC, dI) vwCl (WM cI cJ cII cJJ ad f9_size f9_equations f9_areSteps f9_foundMany f9_many f9_rank f9_freeMany f9_arePlans f9_planMany ai al) H → va_D A (WM cI cJ cII cJJ ad f9_size f9_equations f9_areSteps f9_foundMany f9_many f9_rank f9_freeMany f9_arePlans f9_planMany ai al) → va_S A s.heap H locs → lv_has ls 6 [(0, .ref (ad 22)), (1, .int L1), (2, .int L2)] → W p l e ({ frames := 10, cells := 0, slots := 0, locals := 560 } : Room) s m args below meth c H locs 0 0 (MQ below (Q_r071_X9_span dC dI cI cJ cII cJJ ad f9_size f9_equations f9_areSteps f9_foundMany f9_many f9_rank f9_freeMany ai0 al A) args s 0 0 A) (F0 m 30 ls []) := by
  obtain ⟨hx, hb, hr, hml, hown, hts, hk, hA, hK, hX⟩ := id C
  intro L1 L2 f9_arePlans f9_planMany ai H locs ls h0 h1 h2 h3 h4 h5 h6 h7 h8 h9 hI hF hP hD hS hl
  have ra_L1 := s_any L1
  have ra_L2 := s_any L2
  refine lv_ldc (v := (-99999)) hx hb hown (hts _ k_1014) dX9_span_30 ?_
  exact r2_i hx hb hr hk hS dX9_span_32 (fun t ht hW => ⟨f9_arePlans, f9_planMany, ai, ⟨(by first | omega | decide | exact Or.inl (by decide) | exact Or.inr (by decide) | exact Or.inr (by omega)), (by first | omega | decide | exact Or.inl (by decide) | exact Or.inr (by decide) | exact Or.inr (by omega)), (by first | exact h9 | exact Or.inl (by omega) | exact Or.inl (by decide +kernel)), hI, hF⟩, by rw [ht]; exact hP, va_K.moved hW.alike hK, hD⟩)
set_option maxRecDepth 100000 in
set_option maxHeartbeats 4000000 in
theorem r071_X9_span (l : Launch) (dC : Nat → ClassId) (dI : Nat → Nat → Nat) (cI cJ cII cJJ : ClassId) (sz g : Nat) (ad : Nat → Nat) (f9_size f9_equations f9_areSteps f9_foundMany f9_many f9_rank f9_freeMany f9_arePlans f9_planMany : Int32) (ai : Nat → Nat → Int32) (al : Nat → Nat → Int64) (x1 : Int32) (x2 : Int32) (h_f9_size : (1 ≤ f9_size.toInt ∧ f9_size.toInt ≤ 4)) (h_f9_equations : (0 ≤ f9_equations.toInt ∧ f9_equations.toInt ≤ 3)) (h_f9_areSteps : (0 ≤ f9_areSteps.toInt ∧ f9_areSteps.toInt ≤ 1)) (h_f9_foundMany : (0 ≤ f9_foundMany.toInt ∧ f9_foundMany.toInt ≤ 99999)) (h_f9_many : (0 ≤ f9_many.toInt ∧ f9_many.toInt ≤ 6000)) (h_f9_rank : (0 ≤ f9_rank.toInt ∧ f9_rank.toInt ≤ 3)) (h_f9_freeMany : (0 ≤ f9_freeMany.toInt ∧ f9_freeMany.toInt ≤ 4)) (h_f9_arePlans : (0 ≤ f9_arePlans.toInt ∧ f9_arePlans.toInt ≤ 1)) (h_f9_planMany : (0 ≤ f9_planMany.toInt ∧ f9_planMany.toInt ≤ 194481)) (hp0 : (f9_areSteps.toInt = 0 ∨ CIa ai f9_size f9_many.toInt)) (hI : IAM ai) : Met l yX9_span (.code yX9_span cX9_span 6 (some .int) :: TT) ({ frames := 10, cells := 0, slots := 0, locals := 560 } : Room) (PcS dC dI (TY cI cJ cII cJJ) [.ref (ad 22), .int x1, .int x2] (WM cI cJ cII cJJ ad f9_size f9_equations f9_areSteps f9_foundMany f9_many f9_rank f9_freeMany f9_arePlans f9_planMany ai al) sz 0 g) (Q_r071_X9_span dC dI cI cJ cII cJJ ad f9_size f9_equations f9_areSteps f9_foundMany f9_many f9_rank f9_freeMany ai al (va_A (WM cI cJ cII cJJ ad f9_size f9_equations f9_areSteps f9_foundMany f9_many f9_rank f9_freeMany f9_arePlans f9_planMany ai al) sz)) 0 0 (va_A (WM cI cJ cII cJJ ad f9_size f9_equations f9_areSteps f9_foundMany f9_many f9_rank f9_freeMany f9_arePlans f9_planMany ai al) sz) := by
  refine SM.of (y := yX9_span) (maxL := 6) (av := [.ref (ad 22), .int x1, .int x2]) (Q_r071_X9_span dC dI cI cJ cII cJJ ad f9_size f9_equations f9_areSteps f9_foundMany f9_many f9_rank f9_freeMany ai al) (by decide +kernel) (Nat.le_of_ble_eq_true rfl) (fun p e s m below meth c A ls hx hb hr hml hown hts hk hnm hA hK hP hD hS hX hl => ?_)
  have C : Cx p c s m meth (([.ref (ad 22), .int x1, .int x2] : List Value).toArray) A dC dI (TY cI cJ cII cJJ) cX9_span (some .int) 6 RX9 0 g := ⟨hx, hb, hr, hml, hown, hts, hk, hA, hK, hX⟩
  have hown : s.vm.findClass RX9 = some m.cls := hown
  have hl : lv_has ls 6 [(0, .ref (ad 22)), (1, .int x1), (2, .int x2)] := hl
  obtain ⟨H, hH⟩ : ∃ q, q = s.heap := ⟨_, rfl⟩
  rw [← hH] at hP
  have hS : va_S A s.heap H [] := by rw [hH]; exact hS
  rw [← hH]
  have hF := FR_refl [20, 21] ai
  have ra_x1 := s_any x1
  have ra_x2 := s_any x2
  refine lv_aload_n hx hb dX9_span_0 rfl (lv_at hl 0 rfl) ?_
  have hM := r037_X9_gather l dC dI cI cJ cII cJJ H.size 0 ad f9_size f9_equations f9_areSteps f9_foundMany f9_many f9_rank f9_freeMany f9_arePlans f9_planMany ai al (by omega) (by omega) (by omega) (by omega) (by omega) (by omega) (by omega) (by omega) (by omega) hI
  refine k2V_v (q0 := 22) ⟨hx, hb, hml, hown, hts⟩ hK hP hD hS hA hX cv_RX9_238 hM ⟨by decide +kernel, by decide +kernel⟩ rfl rfl (Or.inl rfl) (rest := []) rfl rfl rfl hl.1 rfl (Nat.le_of_ble_eq_true rfl) dX9_span_1 ⟨Nat.le_of_ble_eq_true rfl, Nat.le_of_ble_eq_true rfl⟩ (fun t H1 locs_1 ht hB hS_1 hFc => ?_)
  obtain ⟨v2, v3, ai4, ⟨gpr1_0, gpr1_1, hI_2, hFr_r1⟩, hP_2, -, hD_2⟩ := hB
  have hF_3 := FR_tr hF hFr_r1 (by decide)
  rw [ht] at hP_2
  have hD_4 := hD_2.weaken (B := A) (fun k q _ h9 => hFc q.1 h9)
  clear ht
  generalize H1 = H_5 at hP_2 hS_1 ⊢
  refine lv_aload_n hx hb dX9_span_4 rfl (lv_at hl 0 rfl) ?_
  refine gf (k := 35) hx hb hts inX9 hown hK hP_2 k_830 rfl (by decide) rfl 22 rfl (.int v3) rfl dX9_span_5 ?_
  refine lv_if_eq (tgt := 30) hx hb dX9_span_8 (by decide) (fun c5 => ?_) (fun c5 => ?_)
  · have c5 := j_eq (a := v3.toInt) (b := 0) rfl (by decide +kernel) c5
    exact r071_X9_span_b30 C hp0  x1 x2 v2 v3 ai4 _ _ _ (by omega) (by omega) (by omega) (by omega) (by omega) (by omega) (by omega) (by omega) (by omega) (by first | exact (hp0.imp (fun q => q) (fun q => CIa_t q hFr_r1 (by decide))) | exact Or.inl (by omega) | exact Or.inl (by decide +kernel)) hI_2 hF_3 hP_2 hD_4 hS_1 (lv_sub hl [0, 1, 2] rfl)
  · have c5 := j_ne (a := v3.toInt) (b := 0) rfl (by decide +kernel) c5
    refine lv_iload_n hx hb dX9_span_11 rfl (lv_at hl 1 rfl) ?_
    refine lv_aload_n hx hb dX9_span_12 rfl (lv_at hl 0 rfl) ?_
    refine gf (k := 12) hx hb hts inX9 hown hK hP_2 k_807 rfl (by decide) rfl 22 rfl (.int f9_size) rfl dX9_span_13 ?_
    have hM := r020_X9_isIn l dC dI cI cJ cII cJJ H_5.size 0 ad f9_size f9_equations f9_areSteps f9_foundMany f9_many f9_rank f9_freeMany v2 v3 ai4 al x1 f9_size (by omega) (by omega) (by omega) (by omega) (by omega) (by omega) (by omega) (by omega) (by omega) hI_2
    refine k2S_i ⟨hx, hb, hml, hown, hts⟩ hK hP_2 hD_4 hS_1 hA hX cs_RX9_116 hM ⟨by decide +kernel, by decide +kernel⟩ rfl rfl (Or.inl rfl) (rest := []) rfl hl.1 rfl (Nat.le_of_ble_eq_true rfl) dX9_span_16 ⟨Nat.le_of_ble_eq_true rfl, Nat.le_of_ble_eq_true rfl⟩ (fun r6 t H1 locs_6 ht hB hS_6 hFc => ?_)
    obtain ⟨⟨gpr6_0, gpr6_1⟩, hP_7, -, hD_7⟩ := hB
    rw [ht] at hP_7
    have hD_8 := hD_7.weaken (B := A) (fun k q _ h9 => hFc q.1 h9)
    clear ht
    generalize H1 = H_9 at hP_7 hS_6 ⊢
    refine lv_if_eq (tgt := 30) hx hb dX9_span_19 (by decide) (fun c7 => ?_) (fun c7 => ?_)
    · have c7 := j_eq (a := r6.toInt) (b := 0) rfl (by decide +kernel) c7
      exact r071_X9_span_b30 C hp0  x1 x2 v2 v3 ai4 _ _ _ (by omega) (by omega) (by omega) (by omega) (by omega) (by omega) (by omega) (by omega) (by omega) (by first | exact (hp0.imp (fun q => q) (fun q => CIa_t q hFr_r1 (by decide))) | exact Or.inl (by omega) | exact Or.inl (by decide +kernel)) hI_2 hF_3 hP_7 hD_8 hS_6 (lv_sub hl [0, 1, 2] rfl)
    · have c7 := j_ne (a := r6.toInt) (b := 0) rfl (by decide +kernel) c7
      refine lv_iload_n hx hb dX9_span_22 rfl (lv_at hl 2 rfl) ?_
      refine lv_iconst (v := 2) hx hb dX9_span_23 (by decide) ?_
      have kc2 : (2 : Int32).toInt = 2 := by decide +kernel
      have hM := r020_X9_isIn l dC dI cI cJ cII cJJ H_9.size 0 ad f9_size f9_equations f9_areSteps f9_foundMany f9_many f9_rank f9_freeMany v2 v3 ai4 al x2 2 (by omega) (by omega) (by omega) (by omega) (by omega) (by omega) (by omega) (by omega) (by omega) hI_2
      refine k2S_i ⟨hx, hb, hml, hown, hts⟩ hK hP_7 hD_8 hS_6 hA hX cs_RX9_116 hM ⟨by decide +kernel, by decide +kernel⟩ rfl rfl (Or.inl rfl) (rest := []) rfl hl.1 rfl (Nat.le_of_ble_eq_true rfl) dX9_span_24 ⟨Nat.le_of_ble_eq_true rfl, Nat.le_of_ble_eq_true rfl⟩ (fun r8 t H1 locs_10 ht hB hS_10 hFc => ?_)
      obtain ⟨⟨gpr8_0, gpr8_1⟩, hP_11, -, hD_11⟩ := hB
      rw [ht] at hP_11
      have hD_12 := hD_11.weaken (B := A) (fun k q _ h9 => hFc q.1 h9)
      clear ht
      generalize H1 = H_13 at hP_11 hS_10 ⊢
      refine lv_if_ne (tgt := 33) hx hb dX9_span_27 (by decide) (fun c9 => ?_) (fun c9 => ?_)
      · have c9 := j_ne (a := r8.toInt) (b := 0) rfl (by decide +kernel) c9
        refine lv_aload_n hx hb dX9_span_33 rfl (lv_at hl 0 rfl) ?_
        refine gf (k := 34) hx hb hts inX9 hown hK hP_11 k_829 rfl (by decide) rfl 22 rfl (.ref (ad 21)) rfl dX9_span_34 ?_
        refine lv_iload_n hx hb dX9_span_37 rfl (lv_at hl 1 rfl) ?_
        refine va_iald hx hb hK hP_11 21 0 rfl rfl (j_in (a := x1.toInt) rfl (by omega) (by omega)) dX9_span_38 ?_
        refine lv_topi (fun z10 e_z10 => ?_)
        refine lv_istore_n (lv' := [(3, .int z10), (0, .ref (ad 22)), (1, .int x1), (2, .int x2)]) hx hb dX9_span_39 rfl hl (by decide) rfl (fun ls_14 hl_14 => ?_)
        refine lv_iconst (v := 1) hx hb dX9_span_40 (by decide) ?_
        refine lv_istore (lv' := [(4, .int 1), (3, .int z10), (0, .ref (ad 22)), (1, .int x1), (2, .int x2)]) hx hb dX9_span_41 hl_14 (by decide) rfl (fun ls_15 hl_15 => ?_)
        exact r071_X9_span_b43 C hp0  _ x1 x2 z10 1 v2 v3 ai4 _ _ _ (by first | omega | decide | (have ka0 := (by decide +kernel : (1 : Int32).toInt = 1); omega)) (by first | omega | decide | (have ka0 := (by decide +kernel : (1 : Int32).toInt = 1); omega)) (by first | omega | decide | (have ka0 := (by decide +kernel : (1 : Int32).toInt = 1); omega)) (by first | omega | decide | (have ka0 := (by decide +kernel : (1 : Int32).toInt = 1); omega)) (by first | omega | decide | (have ka0 := (by decide +kernel : (1 : Int32).toInt = 1); omega)) (by first | omega | decide | (have ka0 := (by decide +kernel : (1 : Int32).toInt = 1); omega)) (by first | omega | decide | (have ka0 := (by decide +kernel : (1 : Int32).toInt = 1); omega)) (by first | omega | decide | (have ka0 := (by decide +kernel : (1 : Int32).toInt = 1); omega)) (by first | omega | decide | (have ka0 := (by decide +kernel : (1 : Int32).toInt = 1); omega)) (by first | omega | decide | (have ka0 := (by decide +kernel : (1 : Int32).toInt = 1); omega)) (by first | omega | decide | (have ka0 := (by decide +kernel : (1 : Int32).toInt = 1); omega)) (by first | omega | decide | (have ka0 := (by decide +kernel : (1 : Int32).toInt = 1); omega)) (by first | exact (hp0.imp (fun q => q) (fun q => CIa_t q hFr_r1 (by decide))) | exact Or.inl (by omega) | exact Or.inl (by decide +kernel)) (j_fuel _) (by omega) hI_2 hF_3 hP_11 hD_12 hS_10 (lv_sub hl_15 [2, 3, 4, 1, 0] rfl)
      · have c9 := j_eq (a := r8.toInt) (b := 0) rfl (by decide +kernel) c9
        exact r071_X9_span_b30 C hp0  x1 x2 v2 v3 ai4 _ _ _ (by omega) (by omega) (by omega) (by omega) (by omega) (by omega) (by omega) (by omega) (by omega) (by first | exact (hp0.imp (fun q => q) (fun q => CIa_t q hFr_r1 (by decide))) | exact Or.inl (by omega) | exact Or.inl (by decide +kernel)) hI_2 hF_3 hP_11 hD_12 hS_10 (lv_sub hl [0, 1, 2] rfl)
def Q_r072_X9_costOf (dC : Nat → ClassId) (dI : Nat → Nat → Nat) (cI cJ cII cJJ : ClassId) (ad : Nat → Nat) (f9_size f9_equations f9_areSteps f9_foundMany f9_many f9_rank f9_freeMany f9_arePlans f9_planMany : Int32) (ai : Nat → Nat → Int32) (al : Nat → Nat → Int64) : (Nat → Prop) → Array Value → State → Outcome → State → Prop := fun A => QL (fun r t => (r = csF ai (ai 21) f9_size.toInt.toNat) ∧ WO dC dI (TY cI cJ cII cJJ) (WM cI cJ cII cJJ ad f9_size f9_equations f9_areSteps f9_foundMany f9_many f9_rank f9_freeMany f9_arePlans f9_planMany ai al) A t) A
set_option maxRecDepth 100000 in
set_option maxHeartbeats 4000000 in
theorem r072_X9_costOf_b5 {p : Program} {l : Launch} {e : Env} {s : State} {m : MethodId} {args : Array Value} {below : List Frame} {meth : Method} {c : Code} {A : Nat → Prop} {dC : Nat → ClassId} {dI : Nat → Nat → Nat} {cI cJ cII cJJ : ClassId} {ad : Nat → Nat} {g : Nat} {f9_size f9_equations f9_areSteps f9_foundMany f9_many f9_rank f9_freeMany f9_arePlans f9_planMany : Int32} {ai : Nat → Nat → Int32} {al : Nat → Nat → Int64} (C : Cx p c s m meth args A dC dI (TY cI cJ cII cJJ) cX9_costOf (some .long) 6 RX9 0 g) : ∀ (n : Nat), ∀ (L5 : Int32) (J3 : Int64) (H : Heap) (locs : List Loc) (ls : Array Slot), (0 ≤ L5.toInt ∧ L5.toInt ≤ 4) → (1 ≤ f9_size.toInt ∧ f9_size.toInt ≤ 4) → (0 ≤ f9_equations.toInt ∧ f9_equations.toInt ≤ 3) → (0 ≤ f9_areSteps.toInt ∧ f9_areSteps.toInt ≤ 1) → (0 ≤ f9_foundMany.toInt ∧ f9_foundMany.toInt ≤ 99999) → (0 ≤ f9_many.toInt ∧ f9_many.toInt ≤ 6000) → (0 ≤ f9_rank.toInt ∧ f9_rank.toInt ≤ 3) → (0 ≤ f9_freeMany.toInt ∧ f9_freeMany.toInt ≤ 4) → (0 ≤ f9_arePlans.toInt ∧ f9_arePlans.toInt ≤ 1) → (0 ≤ f9_planMany.toInt ∧ f9_planMany.toInt ≤ 194481) → J3 = csF ai (ai 21) L5.toInt.toNat → L5.toInt ≤ f9_size.toInt → f9_size.toInt - L5.toInt < (n : Int) → (0 : Int) < (n : Int) → IAM ai → va_P (dC, dI) vwCl (WM cI cJ cII cJJ ad f9_size f9_equations f9_areSteps f9_foundMany f9_many f9_rank f9_freeMany f9_arePlans f9_planMany ai al) H → va_D A (WM cI cJ cII cJJ ad f9_size f9_equations f9_areSteps f9_foundMany f9_many f9_rank f9_freeMany f9_arePlans f9_planMany ai al) → va_S A s.heap H locs → lv_has ls 6 [(0, .ref (ad 22)), (1, .ref (ad 21)), (2, .int 0), (3, .long J3), (5, .int L5)] → W p l e ({ frames := 2, cells := 0, slots := 0, locals := 80 } : Room) s m args below meth c H locs 0 0 (MQ below (Q_r072_X9_costOf dC dI cI cJ cII cJJ ad f9_size f9_equations f9_areSteps f9_foundMany f9_many f9_rank f9_freeMany f9_arePlans f9_planMany ai al A) args s 0 0 A) (F0 m 5 ls []) := by
  obtain ⟨hx, hb, hr, hml, hown, hts, hk, hA, hK, hX⟩ := id C
  intro n
  induction n with
  | zero =>
    intro L5 J3 H locs ls h0 h1 h2 h3 h4 h5 h6 h7 h8 h9 h10 h11 h12 h13 hI hP hD hS hl
    exact absurd h13 (by omega)
  | succ n ih =>
    intro L5 J3 H locs ls h0 h1 h2 h3 h4 h5 h6 h7 h8 h9 h10 h11 h12 h13 hI hP hD hS hl
    refine lv_iload hx hb dX9_costOf_5 (lv_at hl 4 rfl) ?_
    refine lv_aload_n hx hb dX9_costOf_7 rfl (lv_at hl 0 rfl) ?_
    refine gf (k := 12) hx hb hts inX9 hown hK hP k_807 rfl (by decide) rfl 22 rfl (.int f9_size) rfl dX9_costOf_8 ?_
    refine lv_icmp_ge (tgt := 64) hx hb dX9_costOf_11 (by decide) (fun c1 => ?_) (fun c1 => ?_)
    · have c1 := j_le (a := f9_size.toInt) (b := L5.toInt) rfl rfl c1
      refine lv_lload_n hx hb dX9_costOf_64 rfl (lv_at hl 3 rfl) ?_
      exact r2_l hx hb hr hk hS dX9_costOf_65 (fun t ht hW => ⟨(by rw [show f9_size.toInt.toNat = L5.toInt.toNat by omega]; exact h10), by rw [ht]; exact hP, va_K.moved hW.alike hK, hD⟩)
    · have c1 := j_nle (a := f9_size.toInt) (b := L5.toInt) rfl rfl c1
      refine lv_lload_n hx hb dX9_costOf_14 rfl (lv_at hl 3 rfl) ?_
      refine lv_aload_n hx hb dX9_costOf_15 rfl (lv_at hl 0 rfl) ?_
      refine gf (k := 4) hx hb hts inX9 hown hK hP k_799 rfl (by decide) rfl 22 rfl (.ref (ad 25)) rfl dX9_costOf_16 ?_
      refine lv_iload hx hb dX9_costOf_19 (lv_at hl 4 rfl) ?_
      refine va_iald hx hb hK hP 25 0 rfl rfl (j_in (a := L5.toInt) rfl (by omega) (by omega)) dX9_costOf_21 ?_
      refine lv_topi (fun z2 e_z2 => ?_)
      refine lv_i2l hx hb dX9_costOf_22 rfl ?_
      refine lv_topl (fun yy3 e_yy3 => ?_)
      refine lv_aload_n hx hb dX9_costOf_23 rfl (lv_at hl 1 rfl) ?_
      refine lv_iload_n hx hb dX9_costOf_24 rfl (lv_at hl 2 rfl) ?_
      refine lv_iload hx hb dX9_costOf_25 (lv_at hl 4 rfl) ?_
      refine v_iadd hx hb dX9_costOf_27 _ rfl ?_
      refine lv_topi (fun z4 e_z4 => ?_)
      have g_z4 : z4.toInt = 0 + L5.toInt := by rw [e_z4]; exact n_add (a := 0) (b := L5.toInt) (by decide +kernel) rfl (by omega) (by omega)
      refine va_iald hx hb hK hP 21 0 rfl rfl (j_in (a := z4.toInt) rfl (by omega) (by omega)) dX9_costOf_28 ?_
      refine lv_topi (fun z5 e_z5 => ?_)
      refine lv_i2l hx hb dX9_costOf_29 rfl ?_
      refine lv_topl (fun yy6 e_yy6 => ?_)
      refine v_lmul hx hb dX9_costOf_30 _ rfl ?_
      refine lv_topl (fun yy7 e_yy7 => ?_)
      refine lv_aload_n hx hb dX9_costOf_31 rfl (lv_at hl 0 rfl) ?_
      refine gf (k := 5) hx hb hts inX9 hown hK hP k_800 rfl (by decide) rfl 22 rfl (.ref (ad 26)) rfl dX9_costOf_32 ?_
      refine lv_iload hx hb dX9_costOf_35 (lv_at hl 4 rfl) ?_
      refine va_iald hx hb hK hP 26 0 rfl rfl (j_in (a := L5.toInt) rfl (by omega) (by omega)) dX9_costOf_37 ?_
      refine lv_topi (fun z8 e_z8 => ?_)
      refine lv_i2l hx hb dX9_costOf_38 rfl ?_
      refine lv_topl (fun yy9 e_yy9 => ?_)
      refine lv_aload_n hx hb dX9_costOf_39 rfl (lv_at hl 1 rfl) ?_
      refine lv_iload_n hx hb dX9_costOf_40 rfl (lv_at hl 2 rfl) ?_
      refine lv_iload hx hb dX9_costOf_41 (lv_at hl 4 rfl) ?_
      refine v_iadd hx hb dX9_costOf_43 _ rfl ?_
      refine lv_topi (fun z10 e_z10 => ?_)
      have g_z10 : z10.toInt = 0 + L5.toInt := by rw [e_z10]; exact n_add (a := 0) (b := L5.toInt) (by decide +kernel) rfl (by omega) (by omega)
      refine va_iald hx hb hK hP 21 0 rfl rfl (j_in (a := z10.toInt) rfl (by omega) (by omega)) dX9_costOf_44 ?_
      refine lv_topi (fun z11 e_z11 => ?_)
      refine lv_i2l hx hb dX9_costOf_45 rfl ?_
      refine lv_topl (fun yy12 e_yy12 => ?_)
      refine v_lmul hx hb dX9_costOf_46 _ rfl ?_
      refine lv_topl (fun yy13 e_yy13 => ?_)
      refine lv_aload_n hx hb dX9_costOf_47 rfl (lv_at hl 1 rfl) ?_
      refine lv_iload_n hx hb dX9_costOf_48 rfl (lv_at hl 2 rfl) ?_
      refine lv_iload hx hb dX9_costOf_49 (lv_at hl 4 rfl) ?_
      refine v_iadd hx hb dX9_costOf_51 _ rfl ?_
      refine lv_topi (fun z14 e_z14 => ?_)
      have g_z14 : z14.toInt = 0 + L5.toInt := by rw [e_z14]; exact n_add (a := 0) (b := L5.toInt) (by decide +kernel) rfl (by omega) (by omega)
      refine va_iald hx hb hK hP 21 0 rfl rfl (j_in (a := z14.toInt) rfl (by omega) (by omega)) dX9_costOf_52 ?_
      refine lv_topi (fun z15 e_z15 => ?_)
      refine lv_i2l hx hb dX9_costOf_53 rfl ?_
      refine lv_topl (fun yy16 e_yy16 => ?_)
      refine v_lmul hx hb dX9_costOf_54 _ rfl ?_
      refine lv_topl (fun yy17 e_yy17 => ?_)
      refine v_ladd hx hb dX9_costOf_55 _ rfl ?_
      refine lv_topl (fun yy18 e_yy18 => ?_)
      refine v_ladd hx hb dX9_costOf_56 _ rfl ?_
      refine lv_topl (fun yy19 e_yy19 => ?_)
      refine lv_lstore_n (lv' := [(3, .long yy19), (0, .ref (ad 22)), (1, .ref (ad 21)), (2, .int 0), (5, .int L5)]) hx hb dX9_costOf_57 rfl hl (by decide) rfl (fun ls_1 hl_1 => ?_)
      obtain ⟨z20, e_z20⟩ : ∃ q : Int32, q = L5 + Int32.ofInt 1 := ⟨_, rfl⟩
      have g_z20 : z20.toInt = L5.toInt + 1 := by rw [e_z20]; exact n_add (a := L5.toInt) (b := 1) rfl (by decide +kernel) (by omega) (by omega)
      refine lv_iinc (v := z20) (lv' := [(5, .int z20), (3, .long yy19), (0, .ref (ad 22)), (1, .ref (ad 21)), (2, .int 0)]) hx hb dX9_costOf_58 hl_1 (k := 4) rfl e_z20.symm (by decide) rfl (fun ls_2 hl_2 => ?_)
      refine lv_goto (tgt := 5) hx hb dX9_costOf_61 (by decide) ?_
      exact ih z20 yy19 _ _ _ (by omega) (by omega) (by omega) (by omega) (by omega) (by omega) (by omega) (by omega) (by omega) (by omega) (co_stp (z := z20) h10 (by omega) (by omega) e_z2 (show z5 = ai 21 L5.toInt.toNat by rw [e_z5]; exact congrArg (ai 21) (show z4.toInt.toNat = L5.toInt.toNat by omega)) (show z11 = ai 21 L5.toInt.toNat by rw [e_z11]; exact congrArg (ai 21) (show z10.toInt.toNat = L5.toInt.toNat by omega)) (show z15 = ai 21 L5.toInt.toNat by rw [e_z15]; exact congrArg (ai 21) (show z14.toInt.toNat = L5.toInt.toNat by omega)) e_z8 (by rw [e_yy19, e_yy18, e_yy17, e_yy16, e_yy13, e_yy12, e_yy9, e_yy7, e_yy6, e_yy3])) (by omega) (by omega) (by omega) hI hP hD hS (lv_sub hl_2 [2, 3, 4, 1, 0] rfl)
set_option maxRecDepth 100000 in
set_option maxHeartbeats 4000000 in
theorem r072_X9_costOf (l : Launch) (dC : Nat → ClassId) (dI : Nat → Nat → Nat) (cI cJ cII cJJ : ClassId) (sz g : Nat) (ad : Nat → Nat) (f9_size f9_equations f9_areSteps f9_foundMany f9_many f9_rank f9_freeMany f9_arePlans f9_planMany : Int32) (ai : Nat → Nat → Int32) (al : Nat → Nat → Int64) (h_f9_size : (1 ≤ f9_size.toInt ∧ f9_size.toInt ≤ 4)) (h_f9_equations : (0 ≤ f9_equations.toInt ∧ f9_equations.toInt ≤ 3)) (h_f9_areSteps : (0 ≤ f9_areSteps.toInt ∧ f9_areSteps.toInt ≤ 1)) (h_f9_foundMany : (0 ≤ f9_foundMany.toInt ∧ f9_foundMany.toInt ≤ 99999)) (h_f9_many : (0 ≤ f9_many.toInt ∧ f9_many.toInt ≤ 6000)) (h_f9_rank : (0 ≤ f9_rank.toInt ∧ f9_rank.toInt ≤ 3)) (h_f9_freeMany : (0 ≤ f9_freeMany.toInt ∧ f9_freeMany.toInt ≤ 4)) (h_f9_arePlans : (0 ≤ f9_arePlans.toInt ∧ f9_arePlans.toInt ≤ 1)) (h_f9_planMany : (0 ≤ f9_planMany.toInt ∧ f9_planMany.toInt ≤ 194481)) (hI : IAM ai) : Met l yX9_costOf (.code yX9_costOf cX9_costOf 6 (some .long) :: TT) ({ frames := 2, cells := 0, slots := 0, locals := 80 } : Room) (PcS dC dI (TY cI cJ cII cJJ) [.ref (ad 22), .ref (ad 21), .int 0] (WM cI cJ cII cJJ ad f9_size f9_equations f9_areSteps f9_foundMany f9_many f9_rank f9_freeMany f9_arePlans f9_planMany ai al) sz 0 g) (Q_r072_X9_costOf dC dI cI cJ cII cJJ ad f9_size f9_equations f9_areSteps f9_foundMany f9_many f9_rank f9_freeMany f9_arePlans f9_planMany ai al (va_A (WM cI cJ cII cJJ ad f9_size f9_equations f9_areSteps f9_foundMany f9_many f9_rank f9_freeMany f9_arePlans f9_planMany ai al) sz)) 0 0 (va_A (WM cI cJ cII cJJ ad f9_size f9_equations f9_areSteps f9_foundMany f9_many f9_rank f9_freeMany f9_arePlans f9_planMany ai al) sz) := by
  refine SM.of (y := yX9_costOf) (maxL := 6) (av := [.ref (ad 22), .ref (ad 21), .int 0]) (Q_r072_X9_costOf dC dI cI cJ cII cJJ ad f9_size f9_equations f9_areSteps f9_foundMany f9_many f9_rank f9_freeMany f9_arePlans f9_planMany ai al) (by decide +kernel) (Nat.le_of_ble_eq_true rfl) (fun p e s m below meth c A ls hx hb hr hml hown hts hk hnm hA hK hP hD hS hX hl => ?_)
  have C : Cx p c s m meth (([.ref (ad 22), .ref (ad 21), .int 0] : List Value).toArray) A dC dI (TY cI cJ cII cJJ) cX9_costOf (some .long) 6 RX9 0 g := ⟨hx, hb, hr, hml, hown, hts, hk, hA, hK, hX⟩
  have hown : s.vm.findClass RX9 = some m.cls := hown
  have hl : lv_has ls 6 [(0, .ref (ad 22)), (1, .ref (ad 21)), (2, .int 0)] := hl
  obtain ⟨H, hH⟩ : ∃ q, q = s.heap := ⟨_, rfl⟩
  rw [← hH] at hP
  have hS : va_S A s.heap H [] := by rw [hH]; exact hS
  rw [← hH]
  refine lv_lconst (v := 0) hx hb dX9_costOf_0 (by decide) ?_
  refine lv_lstore_n (lv' := [(3, .long 0), (0, .ref (ad 22)), (1, .ref (ad 21)), (2, .int 0)]) hx hb dX9_costOf_1 rfl hl (by decide) rfl (fun ls_1 hl_1 => ?_)
  refine lv_iconst (v := 0) hx hb dX9_costOf_2 (by decide) ?_
  refine lv_istore (lv' := [(5, .int 0), (3, .long 0), (0, .ref (ad 22)), (1, .ref (ad 21)), (2, .int 0)]) hx hb dX9_costOf_3 hl_1 (by decide) rfl (fun ls_2 hl_2 => ?_)
  exact r072_X9_costOf_b5 C  _ 0 0 _ _ _ (by first | omega | decide | (have ka0 := (by decide +kernel : (0 : Int32).toInt = 0); omega)) (by first | omega | decide | (have ka0 := (by decide +kernel : (0 : Int32).toInt = 0); omega)) (by first | omega | decide | (have ka0 := (by decide +kernel : (0 : Int32).toInt = 0); omega)) (by first | omega | decide | (have ka0 := (by decide +kernel : (0 : Int32).toInt = 0); omega)) (by first | omega | decide | (have ka0 := (by decide +kernel : (0 : Int32).toInt = 0); omega)) (by first | omega | decide | (have ka0 := (by decide +kernel : (0 : Int32).toInt = 0); omega)) (by first | omega | decide | (have ka0 := (by decide +kernel : (0 : Int32).toInt = 0); omega)) (by first | omega | decide | (have ka0 := (by decide +kernel : (0 : Int32).toInt = 0); omega)) (by first | omega | decide | (have ka0 := (by decide +kernel : (0 : Int32).toInt = 0); omega)) (by first | omega | decide | (have ka0 := (by decide +kernel : (0 : Int32).toInt = 0); omega)) rfl (by have q3 := (by decide : (0 : Int32).toInt = 0); omega) (j_fuel _) (by omega) hI hP hD hS (lv_sub hl_2 [2, 3, 4, 1, 0] rfl)
def Q_r073_X9_costOf (dC : Nat → ClassId) (dI : Nat → Nat → Nat) (cI cJ cII cJJ : ClassId) (ad : Nat → Nat) (f9_size f9_equations f9_areSteps f9_foundMany f9_many f9_rank f9_freeMany f9_arePlans f9_planMany : Int32) (ai : Nat → Nat → Int32) (al : Nat → Nat → Int64) : (Nat → Prop) → Array Value → State → Outcome → State → Prop := fun A => QL (fun r t => (True) ∧ WO dC dI (TY cI cJ cII cJJ) (WM cI cJ cII cJJ ad f9_size f9_equations f9_areSteps f9_foundMany f9_many f9_rank f9_freeMany f9_arePlans f9_planMany ai al) A t) A
set_option maxRecDepth 100000 in
set_option maxHeartbeats 4000000 in
theorem r073_X9_costOf_b5 {p : Program} {l : Launch} {e : Env} {s : State} {m : MethodId} {args : Array Value} {below : List Frame} {meth : Method} {c : Code} {A : Nat → Prop} {dC : Nat → ClassId} {dI : Nat → Nat → Nat} {cI cJ cII cJJ : ClassId} {ad : Nat → Nat} {g : Nat} {f9_size f9_equations f9_areSteps f9_foundMany f9_many f9_rank f9_freeMany f9_arePlans f9_planMany : Int32} {ai : Nat → Nat → Int32} {al : Nat → Nat → Int64} (C : Cx p c s m meth args A dC dI (TY cI cJ cII cJJ) cX9_costOf (some .long) 6 RX9 0 g) : ∀ (n : Nat), ∀ (L5 : Int32) (J3 : Int64) (H : Heap) (locs : List Loc) (ls : Array Slot), (0 ≤ L5.toInt ∧ L5.toInt ≤ 4) → (1 ≤ f9_size.toInt ∧ f9_size.toInt ≤ 4) → (0 ≤ f9_equations.toInt ∧ f9_equations.toInt ≤ 3) → (0 ≤ f9_areSteps.toInt ∧ f9_areSteps.toInt ≤ 1) → (0 ≤ f9_foundMany.toInt ∧ f9_foundMany.toInt ≤ 99999) → (0 ≤ f9_many.toInt ∧ f9_many.toInt ≤ 6000) → (0 ≤ f9_rank.toInt ∧ f9_rank.toInt ≤ 3) → (0 ≤ f9_freeMany.toInt ∧ f9_freeMany.toInt ≤ 4) → (0 ≤ f9_arePlans.toInt ∧ f9_arePlans.toInt ≤ 1) → (0 ≤ f9_planMany.toInt ∧ f9_planMany.toInt ≤ 194481) → f9_size.toInt - L5.toInt < (n : Int) → (0 : Int) < (n : Int) → IAM ai → va_P (dC, dI) vwCl (WM cI cJ cII cJJ ad f9_size f9_equations f9_areSteps f9_foundMany f9_many f9_rank f9_freeMany f9_arePlans f9_planMany ai al) H → va_D A (WM cI cJ cII cJJ ad f9_size f9_equations f9_areSteps f9_foundMany f9_many f9_rank f9_freeMany f9_arePlans f9_planMany ai al) → va_S A s.heap H locs → lv_has ls 6 [(0, .ref (ad 22)), (1, .ref (ad 21)), (2, .int 4), (3, .long J3), (5, .int L5)] → W p l e ({ frames := 2, cells := 0, slots := 0, locals := 80 } : Room) s m args below meth c H locs 0 0 (MQ below (Q_r073_X9_costOf dC dI cI cJ cII cJJ ad f9_size f9_equations f9_areSteps f9_foundMany f9_many f9_rank f9_freeMany f9_arePlans f9_planMany ai al A) args s 0 0 A) (F0 m 5 ls []) := by
  obtain ⟨hx, hb, hr, hml, hown, hts, hk, hA, hK, hX⟩ := id C
  intro n
  induction n with
  | zero =>
    intro L5 J3 H locs ls h0 h1 h2 h3 h4 h5 h6 h7 h8 h9 h10 h11 hI hP hD hS hl
    exact absurd h11 (by omega)
  | succ n ih =>
    intro L5 J3 H locs ls h0 h1 h2 h3 h4 h5 h6 h7 h8 h9 h10 h11 hI hP hD hS hl
    refine lv_iload hx hb dX9_costOf_5 (lv_at hl 4 rfl) ?_
    refine lv_aload_n hx hb dX9_costOf_7 rfl (lv_at hl 0 rfl) ?_
    refine gf (k := 12) hx hb hts inX9 hown hK hP k_807 rfl (by decide) rfl 22 rfl (.int f9_size) rfl dX9_costOf_8 ?_
    refine lv_icmp_ge (tgt := 64) hx hb dX9_costOf_11 (by decide) (fun c1 => ?_) (fun c1 => ?_)
    · have c1 := j_le (a := f9_size.toInt) (b := L5.toInt) rfl rfl c1
      refine lv_lload_n hx hb dX9_costOf_64 rfl (lv_at hl 3 rfl) ?_
      exact r2_l hx hb hr hk hS dX9_costOf_65 (fun t ht hW => ⟨trivial, by rw [ht]; exact hP, va_K.moved hW.alike hK, hD⟩)
    · have c1 := j_nle (a := f9_size.toInt) (b := L5.toInt) rfl rfl c1
      refine lv_lload_n hx hb dX9_costOf_14 rfl (lv_at hl 3 rfl) ?_
      refine lv_aload_n hx hb dX9_costOf_15 rfl (lv_at hl 0 rfl) ?_
      refine gf (k := 4) hx hb hts inX9 hown hK hP k_799 rfl (by decide) rfl 22 rfl (.ref (ad 25)) rfl dX9_costOf_16 ?_
      refine lv_iload hx hb dX9_costOf_19 (lv_at hl 4 rfl) ?_
      refine va_iald hx hb hK hP 25 0 rfl rfl (j_in (a := L5.toInt) rfl (by omega) (by omega)) dX9_costOf_21 ?_
      refine lv_topi (fun z2 e_z2 => ?_)
      refine lv_i2l hx hb dX9_costOf_22 rfl ?_
      refine lv_topl (fun yy3 e_yy3 => ?_)
      refine lv_aload_n hx hb dX9_costOf_23 rfl (lv_at hl 1 rfl) ?_
      refine lv_iload_n hx hb dX9_costOf_24 rfl (lv_at hl 2 rfl) ?_
      refine lv_iload hx hb dX9_costOf_25 (lv_at hl 4 rfl) ?_
      refine v_iadd hx hb dX9_costOf_27 _ rfl ?_
      refine lv_topi (fun z4 e_z4 => ?_)
      have g_z4 : z4.toInt = 4 + L5.toInt := by rw [e_z4]; exact n_add (a := 4) (b := L5.toInt) (by decide +kernel) rfl (by omega) (by omega)
      refine va_iald hx hb hK hP 21 0 rfl rfl (j_in (a := z4.toInt) rfl (by omega) (by omega)) dX9_costOf_28 ?_
      refine lv_topi (fun z5 e_z5 => ?_)
      refine lv_i2l hx hb dX9_costOf_29 rfl ?_
      refine lv_topl (fun yy6 e_yy6 => ?_)
      refine v_lmul hx hb dX9_costOf_30 _ rfl ?_
      refine lv_topl (fun yy7 e_yy7 => ?_)
      refine lv_aload_n hx hb dX9_costOf_31 rfl (lv_at hl 0 rfl) ?_
      refine gf (k := 5) hx hb hts inX9 hown hK hP k_800 rfl (by decide) rfl 22 rfl (.ref (ad 26)) rfl dX9_costOf_32 ?_
      refine lv_iload hx hb dX9_costOf_35 (lv_at hl 4 rfl) ?_
      refine va_iald hx hb hK hP 26 0 rfl rfl (j_in (a := L5.toInt) rfl (by omega) (by omega)) dX9_costOf_37 ?_
      refine lv_topi (fun z8 e_z8 => ?_)
      refine lv_i2l hx hb dX9_costOf_38 rfl ?_
      refine lv_topl (fun yy9 e_yy9 => ?_)
      refine lv_aload_n hx hb dX9_costOf_39 rfl (lv_at hl 1 rfl) ?_
      refine lv_iload_n hx hb dX9_costOf_40 rfl (lv_at hl 2 rfl) ?_
      refine lv_iload hx hb dX9_costOf_41 (lv_at hl 4 rfl) ?_
      refine v_iadd hx hb dX9_costOf_43 _ rfl ?_
      refine lv_topi (fun z10 e_z10 => ?_)
      have g_z10 : z10.toInt = 4 + L5.toInt := by rw [e_z10]; exact n_add (a := 4) (b := L5.toInt) (by decide +kernel) rfl (by omega) (by omega)
      refine va_iald hx hb hK hP 21 0 rfl rfl (j_in (a := z10.toInt) rfl (by omega) (by omega)) dX9_costOf_44 ?_
      refine lv_topi (fun z11 e_z11 => ?_)
      refine lv_i2l hx hb dX9_costOf_45 rfl ?_
      refine lv_topl (fun yy12 e_yy12 => ?_)
      refine v_lmul hx hb dX9_costOf_46 _ rfl ?_
      refine lv_topl (fun yy13 e_yy13 => ?_)
      refine lv_aload_n hx hb dX9_costOf_47 rfl (lv_at hl 1 rfl) ?_
      refine lv_iload_n hx hb dX9_costOf_48 rfl (lv_at hl 2 rfl) ?_
      refine lv_iload hx hb dX9_costOf_49 (lv_at hl 4 rfl) ?_
      refine v_iadd hx hb dX9_costOf_51 _ rfl ?_
      refine lv_topi (fun z14 e_z14 => ?_)
      have g_z14 : z14.toInt = 4 + L5.toInt := by rw [e_z14]; exact n_add (a := 4) (b := L5.toInt) (by decide +kernel) rfl (by omega) (by omega)
      refine va_iald hx hb hK hP 21 0 rfl rfl (j_in (a := z14.toInt) rfl (by omega) (by omega)) dX9_costOf_52 ?_
      refine lv_topi (fun z15 e_z15 => ?_)
      refine lv_i2l hx hb dX9_costOf_53 rfl ?_
      refine lv_topl (fun yy16 e_yy16 => ?_)
      refine v_lmul hx hb dX9_costOf_54 _ rfl ?_
      refine lv_topl (fun yy17 e_yy17 => ?_)
      refine v_ladd hx hb dX9_costOf_55 _ rfl ?_
      refine lv_topl (fun yy18 e_yy18 => ?_)
      refine v_ladd hx hb dX9_costOf_56 _ rfl ?_
      refine lv_topl (fun yy19 e_yy19 => ?_)
      refine lv_lstore_n (lv' := [(3, .long yy19), (0, .ref (ad 22)), (1, .ref (ad 21)), (2, .int 4), (5, .int L5)]) hx hb dX9_costOf_57 rfl hl (by decide) rfl (fun ls_1 hl_1 => ?_)
      obtain ⟨z20, e_z20⟩ : ∃ q : Int32, q = L5 + Int32.ofInt 1 := ⟨_, rfl⟩
      have g_z20 : z20.toInt = L5.toInt + 1 := by rw [e_z20]; exact n_add (a := L5.toInt) (b := 1) rfl (by decide +kernel) (by omega) (by omega)
      refine lv_iinc (v := z20) (lv' := [(5, .int z20), (3, .long yy19), (0, .ref (ad 22)), (1, .ref (ad 21)), (2, .int 4)]) hx hb dX9_costOf_58 hl_1 (k := 4) rfl e_z20.symm (by decide) rfl (fun ls_2 hl_2 => ?_)
      refine lv_goto (tgt := 5) hx hb dX9_costOf_61 (by decide) ?_
      exact ih z20 yy19 _ _ _ (by omega) (by omega) (by omega) (by omega) (by omega) (by omega) (by omega) (by omega) (by omega) (by omega) (by omega) (by omega) hI hP hD hS (lv_sub hl_2 [2, 3, 4, 1, 0] rfl)
set_option maxRecDepth 100000 in
set_option maxHeartbeats 4000000 in
theorem r073_X9_costOf (l : Launch) (dC : Nat → ClassId) (dI : Nat → Nat → Nat) (cI cJ cII cJJ : ClassId) (sz g : Nat) (ad : Nat → Nat) (f9_size f9_equations f9_areSteps f9_foundMany f9_many f9_rank f9_freeMany f9_arePlans f9_planMany : Int32) (ai : Nat → Nat → Int32) (al : Nat → Nat → Int64) (h_f9_size : (1 ≤ f9_size.toInt ∧ f9_size.toInt ≤ 4)) (h_f9_equations : (0 ≤ f9_equations.toInt ∧ f9_equations.toInt ≤ 3)) (h_f9_areSteps : (0 ≤ f9_areSteps.toInt ∧ f9_areSteps.toInt ≤ 1)) (h_f9_foundMany : (0 ≤ f9_foundMany.toInt ∧ f9_foundMany.toInt ≤ 99999)) (h_f9_many : (0 ≤ f9_many.toInt ∧ f9_many.toInt ≤ 6000)) (h_f9_rank : (0 ≤ f9_rank.toInt ∧ f9_rank.toInt ≤ 3)) (h_f9_freeMany : (0 ≤ f9_freeMany.toInt ∧ f9_freeMany.toInt ≤ 4)) (h_f9_arePlans : (0 ≤ f9_arePlans.toInt ∧ f9_arePlans.toInt ≤ 1)) (h_f9_planMany : (0 ≤ f9_planMany.toInt ∧ f9_planMany.toInt ≤ 194481)) (hI : IAM ai) : Met l yX9_costOf (.code yX9_costOf cX9_costOf 6 (some .long) :: TT) ({ frames := 2, cells := 0, slots := 0, locals := 80 } : Room) (PcS dC dI (TY cI cJ cII cJJ) [.ref (ad 22), .ref (ad 21), .int 4] (WM cI cJ cII cJJ ad f9_size f9_equations f9_areSteps f9_foundMany f9_many f9_rank f9_freeMany f9_arePlans f9_planMany ai al) sz 0 g) (Q_r073_X9_costOf dC dI cI cJ cII cJJ ad f9_size f9_equations f9_areSteps f9_foundMany f9_many f9_rank f9_freeMany f9_arePlans f9_planMany ai al (va_A (WM cI cJ cII cJJ ad f9_size f9_equations f9_areSteps f9_foundMany f9_many f9_rank f9_freeMany f9_arePlans f9_planMany ai al) sz)) 0 0 (va_A (WM cI cJ cII cJJ ad f9_size f9_equations f9_areSteps f9_foundMany f9_many f9_rank f9_freeMany f9_arePlans f9_planMany ai al) sz) := by
  refine SM.of (y := yX9_costOf) (maxL := 6) (av := [.ref (ad 22), .ref (ad 21), .int 4]) (Q_r073_X9_costOf dC dI cI cJ cII cJJ ad f9_size f9_equations f9_areSteps f9_foundMany f9_many f9_rank f9_freeMany f9_arePlans f9_planMany ai al) (by decide +kernel) (Nat.le_of_ble_eq_true rfl) (fun p e s m below meth c A ls hx hb hr hml hown hts hk hnm hA hK hP hD hS hX hl => ?_)
  have C : Cx p c s m meth (([.ref (ad 22), .ref (ad 21), .int 4] : List Value).toArray) A dC dI (TY cI cJ cII cJJ) cX9_costOf (some .long) 6 RX9 0 g := ⟨hx, hb, hr, hml, hown, hts, hk, hA, hK, hX⟩
  have hown : s.vm.findClass RX9 = some m.cls := hown
  have hl : lv_has ls 6 [(0, .ref (ad 22)), (1, .ref (ad 21)), (2, .int 4)] := hl
  obtain ⟨H, hH⟩ : ∃ q, q = s.heap := ⟨_, rfl⟩
  rw [← hH] at hP
  have hS : va_S A s.heap H [] := by rw [hH]; exact hS
  rw [← hH]
  refine lv_lconst (v := 0) hx hb dX9_costOf_0 (by decide) ?_
  refine lv_lstore_n (lv' := [(3, .long 0), (0, .ref (ad 22)), (1, .ref (ad 21)), (2, .int 4)]) hx hb dX9_costOf_1 rfl hl (by decide) rfl (fun ls_1 hl_1 => ?_)
  refine lv_iconst (v := 0) hx hb dX9_costOf_2 (by decide) ?_
  refine lv_istore (lv' := [(5, .int 0), (3, .long 0), (0, .ref (ad 22)), (1, .ref (ad 21)), (2, .int 4)]) hx hb dX9_costOf_3 hl_1 (by decide) rfl (fun ls_2 hl_2 => ?_)
  exact r073_X9_costOf_b5 C  _ 0 0 _ _ _ (by first | omega | decide | (have ka0 := (by decide +kernel : (0 : Int32).toInt = 0); omega)) (by first | omega | decide | (have ka0 := (by decide +kernel : (0 : Int32).toInt = 0); omega)) (by first | omega | decide | (have ka0 := (by decide +kernel : (0 : Int32).toInt = 0); omega)) (by first | omega | decide | (have ka0 := (by decide +kernel : (0 : Int32).toInt = 0); omega)) (by first | omega | decide | (have ka0 := (by decide +kernel : (0 : Int32).toInt = 0); omega)) (by first | omega | decide | (have ka0 := (by decide +kernel : (0 : Int32).toInt = 0); omega)) (by first | omega | decide | (have ka0 := (by decide +kernel : (0 : Int32).toInt = 0); omega)) (by first | omega | decide | (have ka0 := (by decide +kernel : (0 : Int32).toInt = 0); omega)) (by first | omega | decide | (have ka0 := (by decide +kernel : (0 : Int32).toInt = 0); omega)) (by first | omega | decide | (have ka0 := (by decide +kernel : (0 : Int32).toInt = 0); omega)) (j_fuel _) (by omega) hI hP hD hS (lv_sub hl_2 [2, 3, 4, 1, 0] rfl)
def Q_r074_X9_costOf (dC : Nat → ClassId) (dI : Nat → Nat → Nat) (cI cJ cII cJJ : ClassId) (ad : Nat → Nat) (f9_size f9_equations f9_areSteps f9_foundMany f9_many f9_rank f9_freeMany f9_arePlans f9_planMany : Int32) (ai : Nat → Nat → Int32) (al : Nat → Nat → Int64) : (Nat → Prop) → Array Value → State → Outcome → State → Prop := fun A => QL (fun r t => (True) ∧ WO dC dI (TY cI cJ cII cJJ) (WM cI cJ cII cJJ ad f9_size f9_equations f9_areSteps f9_foundMany f9_many f9_rank f9_freeMany f9_arePlans f9_planMany ai al) A t) A
set_option maxRecDepth 100000 in
set_option maxHeartbeats 4000000 in
theorem r074_X9_costOf_b5 {p : Program} {l : Launch} {e : Env} {s : State} {m : MethodId} {args : Array Value} {below : List Frame} {meth : Method} {c : Code} {A : Nat → Prop} {dC : Nat → ClassId} {dI : Nat → Nat → Nat} {cI cJ cII cJJ : ClassId} {ad : Nat → Nat} {g : Nat} {f9_size f9_equations f9_areSteps f9_foundMany f9_many f9_rank f9_freeMany f9_arePlans f9_planMany : Int32} {ai : Nat → Nat → Int32} {al : Nat → Nat → Int64} (C : Cx p c s m meth args A dC dI (TY cI cJ cII cJJ) cX9_costOf (some .long) 6 RX9 0 g) : ∀ (n : Nat), ∀ (L2 L5 : Int32) (J3 : Int64) (H : Heap) (locs : List Loc) (ls : Array Slot), (0 ≤ L2.toInt ∧ L2.toInt ≤ 777920) → (0 ≤ L5.toInt ∧ L5.toInt ≤ 4) → (1 ≤ f9_size.toInt ∧ f9_size.toInt ≤ 4) → (0 ≤ f9_equations.toInt ∧ f9_equations.toInt ≤ 3) → (0 ≤ f9_areSteps.toInt ∧ f9_areSteps.toInt ≤ 1) → (0 ≤ f9_foundMany.toInt ∧ f9_foundMany.toInt ≤ 99999) → (0 ≤ f9_many.toInt ∧ f9_many.toInt ≤ 6000) → (0 ≤ f9_rank.toInt ∧ f9_rank.toInt ≤ 3) → (0 ≤ f9_freeMany.toInt ∧ f9_freeMany.toInt ≤ 4) → (0 ≤ f9_arePlans.toInt ∧ f9_arePlans.toInt ≤ 1) → (0 ≤ f9_planMany.toInt ∧ f9_planMany.toInt ≤ 194481) → f9_size.toInt - L5.toInt < (n : Int) → (0 : Int) < (n : Int) → IAM ai → va_P (dC, dI) vwCl (WM cI cJ cII cJJ ad f9_size f9_equations f9_areSteps f9_foundMany f9_many f9_rank f9_freeMany f9_arePlans f9_planMany ai al) H → va_D A (WM cI cJ cII cJJ ad f9_size f9_equations f9_areSteps f9_foundMany f9_many f9_rank f9_freeMany f9_arePlans f9_planMany ai al) → va_S A s.heap H locs → lv_has ls 6 [(0, .ref (ad 22)), (1, .ref (ad 21)), (2, .int L2), (3, .long J3), (5, .int L5)] → W p l e ({ frames := 2, cells := 0, slots := 0, locals := 80 } : Room) s m args below meth c H locs 0 0 (MQ below (Q_r074_X9_costOf dC dI cI cJ cII cJJ ad f9_size f9_equations f9_areSteps f9_foundMany f9_many f9_rank f9_freeMany f9_arePlans f9_planMany ai al A) args s 0 0 A) (F0 m 5 ls []) := by
  obtain ⟨hx, hb, hr, hml, hown, hts, hk, hA, hK, hX⟩ := id C
  intro n
  induction n with
  | zero =>
    intro L2 L5 J3 H locs ls h0 h1 h2 h3 h4 h5 h6 h7 h8 h9 h10 h11 h12 hI hP hD hS hl
    exact absurd h12 (by omega)
  | succ n ih =>
    intro L2 L5 J3 H locs ls h0 h1 h2 h3 h4 h5 h6 h7 h8 h9 h10 h11 h12 hI hP hD hS hl
    refine lv_iload hx hb dX9_costOf_5 (lv_at hl 4 rfl) ?_
    refine lv_aload_n hx hb dX9_costOf_7 rfl (lv_at hl 0 rfl) ?_
    refine gf (k := 12) hx hb hts inX9 hown hK hP k_807 rfl (by decide) rfl 22 rfl (.int f9_size) rfl dX9_costOf_8 ?_
    refine lv_icmp_ge (tgt := 64) hx hb dX9_costOf_11 (by decide) (fun c1 => ?_) (fun c1 => ?_)
    · have c1 := j_le (a := f9_size.toInt) (b := L5.toInt) rfl rfl c1
      refine lv_lload_n hx hb dX9_costOf_64 rfl (lv_at hl 3 rfl) ?_
      exact r2_l hx hb hr hk hS dX9_costOf_65 (fun t ht hW => ⟨trivial, by rw [ht]; exact hP, va_K.moved hW.alike hK, hD⟩)
    · have c1 := j_nle (a := f9_size.toInt) (b := L5.toInt) rfl rfl c1
      refine lv_lload_n hx hb dX9_costOf_14 rfl (lv_at hl 3 rfl) ?_
      refine lv_aload_n hx hb dX9_costOf_15 rfl (lv_at hl 0 rfl) ?_
      refine gf (k := 4) hx hb hts inX9 hown hK hP k_799 rfl (by decide) rfl 22 rfl (.ref (ad 25)) rfl dX9_costOf_16 ?_
      refine lv_iload hx hb dX9_costOf_19 (lv_at hl 4 rfl) ?_
      refine va_iald hx hb hK hP 25 0 rfl rfl (j_in (a := L5.toInt) rfl (by omega) (by omega)) dX9_costOf_21 ?_
      refine lv_topi (fun z2 e_z2 => ?_)
      refine lv_i2l hx hb dX9_costOf_22 rfl ?_
      refine lv_topl (fun yy3 e_yy3 => ?_)
      refine lv_aload_n hx hb dX9_costOf_23 rfl (lv_at hl 1 rfl) ?_
      refine lv_iload_n hx hb dX9_costOf_24 rfl (lv_at hl 2 rfl) ?_
      refine lv_iload hx hb dX9_costOf_25 (lv_at hl 4 rfl) ?_
      refine v_iadd hx hb dX9_costOf_27 _ rfl ?_
      refine lv_topi (fun z4 e_z4 => ?_)
      have g_z4 : z4.toInt = L2.toInt + L5.toInt := by rw [e_z4]; exact n_add (a := L2.toInt) (b := L5.toInt) rfl rfl (by omega) (by omega)
      refine va_iald hx hb hK hP 21 0 rfl rfl (j_in (a := z4.toInt) rfl (by omega) (by omega)) dX9_costOf_28 ?_
      refine lv_topi (fun z5 e_z5 => ?_)
      refine lv_i2l hx hb dX9_costOf_29 rfl ?_
      refine lv_topl (fun yy6 e_yy6 => ?_)
      refine v_lmul hx hb dX9_costOf_30 _ rfl ?_
      refine lv_topl (fun yy7 e_yy7 => ?_)
      refine lv_aload_n hx hb dX9_costOf_31 rfl (lv_at hl 0 rfl) ?_
      refine gf (k := 5) hx hb hts inX9 hown hK hP k_800 rfl (by decide) rfl 22 rfl (.ref (ad 26)) rfl dX9_costOf_32 ?_
      refine lv_iload hx hb dX9_costOf_35 (lv_at hl 4 rfl) ?_
      refine va_iald hx hb hK hP 26 0 rfl rfl (j_in (a := L5.toInt) rfl (by omega) (by omega)) dX9_costOf_37 ?_
      refine lv_topi (fun z8 e_z8 => ?_)
      refine lv_i2l hx hb dX9_costOf_38 rfl ?_
      refine lv_topl (fun yy9 e_yy9 => ?_)
      refine lv_aload_n hx hb dX9_costOf_39 rfl (lv_at hl 1 rfl) ?_
      refine lv_iload_n hx hb dX9_costOf_40 rfl (lv_at hl 2 rfl) ?_
      refine lv_iload hx hb dX9_costOf_41 (lv_at hl 4 rfl) ?_
      refine v_iadd hx hb dX9_costOf_43 _ rfl ?_
      refine lv_topi (fun z10 e_z10 => ?_)
      have g_z10 : z10.toInt = L2.toInt + L5.toInt := by rw [e_z10]; exact n_add (a := L2.toInt) (b := L5.toInt) rfl rfl (by omega) (by omega)
      refine va_iald hx hb hK hP 21 0 rfl rfl (j_in (a := z10.toInt) rfl (by omega) (by omega)) dX9_costOf_44 ?_
      refine lv_topi (fun z11 e_z11 => ?_)
      refine lv_i2l hx hb dX9_costOf_45 rfl ?_
      refine lv_topl (fun yy12 e_yy12 => ?_)
      refine v_lmul hx hb dX9_costOf_46 _ rfl ?_
      refine lv_topl (fun yy13 e_yy13 => ?_)
      refine lv_aload_n hx hb dX9_costOf_47 rfl (lv_at hl 1 rfl) ?_
      refine lv_iload_n hx hb dX9_costOf_48 rfl (lv_at hl 2 rfl) ?_
      refine lv_iload hx hb dX9_costOf_49 (lv_at hl 4 rfl) ?_
      refine v_iadd hx hb dX9_costOf_51 _ rfl ?_
      refine lv_topi (fun z14 e_z14 => ?_)
      have g_z14 : z14.toInt = L2.toInt + L5.toInt := by rw [e_z14]; exact n_add (a := L2.toInt) (b := L5.toInt) rfl rfl (by omega) (by omega)
      refine va_iald hx hb hK hP 21 0 rfl rfl (j_in (a := z14.toInt) rfl (by omega) (by omega)) dX9_costOf_52 ?_
      refine lv_topi (fun z15 e_z15 => ?_)
      refine lv_i2l hx hb dX9_costOf_53 rfl ?_
      refine lv_topl (fun yy16 e_yy16 => ?_)
      refine v_lmul hx hb dX9_costOf_54 _ rfl ?_
      refine lv_topl (fun yy17 e_yy17 => ?_)
      refine v_ladd hx hb dX9_costOf_55 _ rfl ?_
      refine lv_topl (fun yy18 e_yy18 => ?_)
      refine v_ladd hx hb dX9_costOf_56 _ rfl ?_
      refine lv_topl (fun yy19 e_yy19 => ?_)
      refine lv_lstore_n (lv' := [(3, .long yy19), (0, .ref (ad 22)), (1, .ref (ad 21)), (2, .int L2), (5, .int L5)]) hx hb dX9_costOf_57 rfl hl (by decide) rfl (fun ls_1 hl_1 => ?_)
      obtain ⟨z20, e_z20⟩ : ∃ q : Int32, q = L5 + Int32.ofInt 1 := ⟨_, rfl⟩
      have g_z20 : z20.toInt = L5.toInt + 1 := by rw [e_z20]; exact n_add (a := L5.toInt) (b := 1) rfl (by decide +kernel) (by omega) (by omega)
      refine lv_iinc (v := z20) (lv' := [(5, .int z20), (3, .long yy19), (0, .ref (ad 22)), (1, .ref (ad 21)), (2, .int L2)]) hx hb dX9_costOf_58 hl_1 (k := 4) rfl e_z20.symm (by decide) rfl (fun ls_2 hl_2 => ?_)
      refine lv_goto (tgt := 5) hx hb dX9_costOf_61 (by decide) ?_
      exact ih L2 z20 yy19 _ _ _ (by omega) (by omega) (by omega) (by omega) (by omega) (by omega) (by omega) (by omega) (by omega) (by omega) (by omega) (by omega) (by omega) hI hP hD hS (lv_sub hl_2 [2, 3, 4, 1, 0] rfl)
set_option maxRecDepth 100000 in
set_option maxHeartbeats 4000000 in
theorem r074_X9_costOf (l : Launch) (dC : Nat → ClassId) (dI : Nat → Nat → Nat) (cI cJ cII cJJ : ClassId) (sz g : Nat) (ad : Nat → Nat) (f9_size f9_equations f9_areSteps f9_foundMany f9_many f9_rank f9_freeMany f9_arePlans f9_planMany : Int32) (ai : Nat → Nat → Int32) (al : Nat → Nat → Int64) (x2 : Int32) (h_x2 : (0 ≤ x2.toInt ∧ x2.toInt ≤ 777920)) (h_f9_size : (1 ≤ f9_size.toInt ∧ f9_size.toInt ≤ 4)) (h_f9_equations : (0 ≤ f9_equations.toInt ∧ f9_equations.toInt ≤ 3)) (h_f9_areSteps : (0 ≤ f9_areSteps.toInt ∧ f9_areSteps.toInt ≤ 1)) (h_f9_foundMany : (0 ≤ f9_foundMany.toInt ∧ f9_foundMany.toInt ≤ 99999)) (h_f9_many : (0 ≤ f9_many.toInt ∧ f9_many.toInt ≤ 6000)) (h_f9_rank : (0 ≤ f9_rank.toInt ∧ f9_rank.toInt ≤ 3)) (h_f9_freeMany : (0 ≤ f9_freeMany.toInt ∧ f9_freeMany.toInt ≤ 4)) (h_f9_arePlans : (0 ≤ f9_arePlans.toInt ∧ f9_arePlans.toInt ≤ 1)) (h_f9_planMany : (0 ≤ f9_planMany.toInt ∧ f9_planMany.toInt ≤ 194481)) (hI : IAM ai) : Met l yX9_costOf (.code yX9_costOf cX9_costOf 6 (some .long) :: TT) ({ frames := 2, cells := 0, slots := 0, locals := 80 } : Room) (PcS dC dI (TY cI cJ cII cJJ) [.ref (ad 22), .ref (ad 21), .int x2] (WM cI cJ cII cJJ ad f9_size f9_equations f9_areSteps f9_foundMany f9_many f9_rank f9_freeMany f9_arePlans f9_planMany ai al) sz 0 g) (Q_r074_X9_costOf dC dI cI cJ cII cJJ ad f9_size f9_equations f9_areSteps f9_foundMany f9_many f9_rank f9_freeMany f9_arePlans f9_planMany ai al (va_A (WM cI cJ cII cJJ ad f9_size f9_equations f9_areSteps f9_foundMany f9_many f9_rank f9_freeMany f9_arePlans f9_planMany ai al) sz)) 0 0 (va_A (WM cI cJ cII cJJ ad f9_size f9_equations f9_areSteps f9_foundMany f9_many f9_rank f9_freeMany f9_arePlans f9_planMany ai al) sz) := by
  refine SM.of (y := yX9_costOf) (maxL := 6) (av := [.ref (ad 22), .ref (ad 21), .int x2]) (Q_r074_X9_costOf dC dI cI cJ cII cJJ ad f9_size f9_equations f9_areSteps f9_foundMany f9_many f9_rank f9_freeMany f9_arePlans f9_planMany ai al) (by decide +kernel) (Nat.le_of_ble_eq_true rfl) (fun p e s m below meth c A ls hx hb hr hml hown hts hk hnm hA hK hP hD hS hX hl => ?_)
  have C : Cx p c s m meth (([.ref (ad 22), .ref (ad 21), .int x2] : List Value).toArray) A dC dI (TY cI cJ cII cJJ) cX9_costOf (some .long) 6 RX9 0 g := ⟨hx, hb, hr, hml, hown, hts, hk, hA, hK, hX⟩
  have hown : s.vm.findClass RX9 = some m.cls := hown
  have hl : lv_has ls 6 [(0, .ref (ad 22)), (1, .ref (ad 21)), (2, .int x2)] := hl
  obtain ⟨H, hH⟩ : ∃ q, q = s.heap := ⟨_, rfl⟩
  rw [← hH] at hP
  have hS : va_S A s.heap H [] := by rw [hH]; exact hS
  rw [← hH]
  refine lv_lconst (v := 0) hx hb dX9_costOf_0 (by decide) ?_
  refine lv_lstore_n (lv' := [(3, .long 0), (0, .ref (ad 22)), (1, .ref (ad 21)), (2, .int x2)]) hx hb dX9_costOf_1 rfl hl (by decide) rfl (fun ls_1 hl_1 => ?_)
  refine lv_iconst (v := 0) hx hb dX9_costOf_2 (by decide) ?_
  refine lv_istore (lv' := [(5, .int 0), (3, .long 0), (0, .ref (ad 22)), (1, .ref (ad 21)), (2, .int x2)]) hx hb dX9_costOf_3 hl_1 (by decide) rfl (fun ls_2 hl_2 => ?_)
  exact r074_X9_costOf_b5 C  _ x2 0 0 _ _ _ (by first | omega | decide | (have ka0 := (by decide +kernel : (0 : Int32).toInt = 0); omega)) (by first | omega | decide | (have ka0 := (by decide +kernel : (0 : Int32).toInt = 0); omega)) (by first | omega | decide | (have ka0 := (by decide +kernel : (0 : Int32).toInt = 0); omega)) (by first | omega | decide | (have ka0 := (by decide +kernel : (0 : Int32).toInt = 0); omega)) (by first | omega | decide | (have ka0 := (by decide +kernel : (0 : Int32).toInt = 0); omega)) (by first | omega | decide | (have ka0 := (by decide +kernel : (0 : Int32).toInt = 0); omega)) (by first | omega | decide | (have ka0 := (by decide +kernel : (0 : Int32).toInt = 0); omega)) (by first | omega | decide | (have ka0 := (by decide +kernel : (0 : Int32).toInt = 0); omega)) (by first | omega | decide | (have ka0 := (by decide +kernel : (0 : Int32).toInt = 0); omega)) (by first | omega | decide | (have ka0 := (by decide +kernel : (0 : Int32).toInt = 0); omega)) (by first | omega | decide | (have ka0 := (by decide +kernel : (0 : Int32).toInt = 0); omega)) (j_fuel _) (by omega) hI hP hD hS (lv_sub hl_2 [2, 3, 4, 1, 0] rfl)
def Q_r075_X9_extreme (dC : Nat → ClassId) (dI : Nat → Nat → Nat) (cI cJ cII cJJ : ClassId) (ad : Nat → Nat) (f9_size f9_equations f9_areSteps f9_foundMany f9_many f9_rank f9_freeMany : Int32) (ai0 : Nat → Nat → Int32) (al : Nat → Nat → Int64) : (Nat → Prop) → Array Value → State → Outcome → State → Prop := fun A => QI (fun r t => ∃ (n_f9_arePlans n_f9_planMany : Int32), ∃ (n_ai : Nat → Nat → Int32), ((-2 ≤ r.toInt ∧ r.toInt ≤ 194480) ∧ (1 ≤ n_f9_arePlans.toInt ∧ n_f9_arePlans.toInt ≤ 1) ∧ (0 ≤ n_f9_planMany.toInt ∧ n_f9_planMany.toInt ≤ 194481) ∧ (f9_areSteps.toInt = 0 ∨ CIa n_ai f9_size f9_many.toInt) ∧ IAM n_ai ∧ FR [20, 21] ai0 n_ai) ∧ WO dC dI (TY cI cJ cII cJJ) (WM cI cJ cII cJJ ad f9_size f9_equations f9_areSteps f9_foundMany f9_many f9_rank f9_freeMany n_f9_arePlans n_f9_planMany n_ai al) A t) A
set_option maxRecDepth 100000 in
set_option maxHeartbeats 4000000 in
theorem r075_X9_extreme_b92 {p : Program} {l : Launch} {e : Env} {s : State} {m : MethodId} {args : Array Value} {below : List Frame} {meth : Method} {c : Code} {A : Nat → Prop} {dC : Nat → ClassId} {dI : Nat → Nat → Nat} {cI cJ cII cJJ : ClassId} {ad : Nat → Nat} {g : Nat} {f9_size f9_equations f9_areSteps f9_foundMany f9_many f9_rank f9_freeMany : Int32} {ai0 : Nat → Nat → Int32} {al : Nat → Nat → Int64} (C : Cx p c s m meth args A dC dI (TY cI cJ cII cJJ) cX9_extreme (some .int) 8 RX9 0 g) (hp0 : (f9_areSteps.toInt = 0 ∨ CIa ai0 f9_size f9_many.toInt)) (n39 : Nat) (K39 : ∀ (L1 L2 L5 f9_arePlans f9_planMany : Int32) (J3 : Int64) (ai : Nat → Nat → Int32) (H : Heap) (locs : List Loc) (ls : Array Slot), (0 ≤ L1.toInt ∧ L1.toInt ≤ 1) → (0 ≤ L2.toInt ∧ L2.toInt ≤ 194480) → (1 ≤ L5.toInt ∧ L5.toInt ≤ 194481) → (1 ≤ f9_size.toInt ∧ f9_size.toInt ≤ 4) → (0 ≤ f9_equations.toInt ∧ f9_equations.toInt ≤ 3) → (0 ≤ f9_areSteps.toInt ∧ f9_areSteps.toInt ≤ 1) → (0 ≤ f9_foundMany.toInt ∧ f9_foundMany.toInt ≤ 99999) → (0 ≤ f9_many.toInt ∧ f9_many.toInt ≤ 6000) → (0 ≤ f9_rank.toInt ∧ f9_rank.toInt ≤ 3) → (0 ≤ f9_freeMany.toInt ∧ f9_freeMany.toInt ≤ 4) → (1 ≤ f9_arePlans.toInt ∧ f9_arePlans.toInt ≤ 1) → (1 ≤ f9_planMany.toInt ∧ f9_planMany.toInt ≤ 194481) → (f9_areSteps.toInt = 0 ∨ CIa ai f9_size f9_many.toInt) → f9_planMany.toInt - L5.toInt < (n39 : Int) → (0 : Int) < (n39 : Int) → IAM ai → FR [20, 21] ai0 ai → va_P (dC, dI) vwCl (WM cI cJ cII cJJ ad f9_size f9_equations f9_areSteps f9_foundMany f9_many f9_rank f9_freeMany f9_arePlans f9_planMany ai al) H → va_D A (WM cI cJ cII cJJ ad f9_size f9_equations f9_areSteps f9_foundMany f9_many f9_rank f9_freeMany f9_arePlans f9_planMany ai al) → va_S A s.heap H locs → lv_has ls 8 [(0, .ref (ad 22)), (1, .int L1), (2, .int L2), (3, .long J3), (5, .int L5)] → W p l e ({ frames := 10, cells := 0, slots := 0, locals := 560 } : Room) s m args below meth c H locs 0 0 (MQ below (Q_r075_X9_extreme dC dI cI cJ cII cJJ ad f9_size f9_equations f9_areSteps f9_foundMany f9_many f9_rank f9_freeMany ai0 al A) args s 0 0 A) (F0 m 39 ls [])) : ∀ (L1 L2 L5 f9_arePlans f9_planMany : Int32) (J3 J6 : Int64) (ai : Nat → Nat → Int32) (H : Heap) (locs : List Loc) (ls : Array Slot), (0 ≤ L1.toInt ∧ L1.toInt ≤ 1) → (0 ≤ L2.toInt ∧ L2.toInt ≤ 194480) → (1 ≤ L5.toInt ∧ L5.toInt ≤ 194480) → (1 ≤ f9_size.toInt ∧ f9_size.toInt ≤ 4) → (0 ≤ f9_equations.toInt ∧ f9_equations.toInt ≤ 3) → (0 ≤ f9_areSteps.toInt ∧ f9_areSteps.toInt ≤ 1) → (0 ≤ f9_foundMany.toInt ∧ f9_foundMany.toInt ≤ 99999) → (0 ≤ f9_many.toInt ∧ f9_many.toInt ≤ 6000) → (0 ≤ f9_rank.toInt ∧ f9_rank.toInt ≤ 3) → (0 ≤ f9_freeMany.toInt ∧ f9_freeMany.toInt ≤ 4) → (1 ≤ f9_arePlans.toInt ∧ f9_arePlans.toInt ≤ 1) → (2 ≤ f9_planMany.toInt ∧ f9_planMany.toInt ≤ 194481) → (f9_areSteps.toInt = 0 ∨ CIa ai f9_size f9_many.toInt) → L5.toInt < f9_planMany.toInt → f9_planMany.toInt - L5.toInt ≤ (n39 : Int) → IAM ai → FR [20, 21] ai0 ai → va_P (dC, dI) vwCl (WM cI cJ cII cJJ ad f9_size f9_equations f9_areSteps f9_foundMany f9_many f9_rank f9_freeMany f9_arePlans f9_planMany ai al) H → va_D A (WM cI cJ cII cJJ ad f9_size f9_equations f9_areSteps f9_foundMany f9_many f9_rank f9_freeMany f9_arePlans f9_planMany ai al) → va_S A s.heap H locs → lv_has ls 8 [(0, .ref (ad 22)), (1, .int L1), (2, .int L2), (3, .long J3), (5, .int L5), (6, .long J6)] → W p l e ({ frames := 10, cells := 0, slots := 0, locals := 560 } : Room) s m args below meth c H locs 0 0 (MQ below (Q_r075_X9_extreme dC dI cI cJ cII cJJ ad f9_size f9_equations f9_areSteps f9_foundMany f9_many f9_rank f9_freeMany ai0 al A) args s 0 0 A) (F0 m 92 ls []) := by
  obtain ⟨hx, hb, hr, hml, hown, hts, hk, hA, hK, hX⟩ := id C
  intro L1 L2 L5 f9_arePlans f9_planMany J3 J6 ai H locs ls h0 h1 h2 h3 h4 h5 h6 h7 h8 h9 h10 h11 h12 h13 h14 hI hF hP hD hS hl
  obtain ⟨z1, e_z1⟩ : ∃ q : Int32, q = L5 + Int32.ofInt 1 := ⟨_, rfl⟩
  have g_z1 : z1.toInt = L5.toInt + 1 := by rw [e_z1]; exact n_add (a := L5.toInt) (b := 1) rfl (by decide +kernel) (by omega) (by omega)
  refine lv_iinc (v := z1) (lv' := [(5, .int z1), (0, .ref (ad 22)), (1, .int L1), (2, .int L2), (3, .long J3), (6, .long J6)]) hx hb dX9_extreme_92 hl (k := 4) rfl e_z1.symm (by decide) rfl (fun ls_1 hl_1 => ?_)
  refine lv_goto (tgt := 39) hx hb dX9_extreme_95 (by decide) ?_
  exact K39 L1 L2 z1 f9_arePlans f9_planMany J3 ai _ _ _ (by omega) (by omega) (by omega) (by omega) (by omega) (by omega) (by omega) (by omega) (by omega) (by omega) (by omega) (by omega) (by first | exact h12 | exact Or.inl (by omega) | exact Or.inl (by decide +kernel)) (by omega) (by omega) hI hF hP hD hS (lv_sub hl_1 [1, 2, 3, 4, 0] rfl)
set_option maxRecDepth 100000 in
set_option maxHeartbeats 4000000 in
theorem r075_X9_extreme_b86 {p : Program} {l : Launch} {e : Env} {s : State} {m : MethodId} {args : Array Value} {below : List Frame} {meth : Method} {c : Code} {A : Nat → Prop} {dC : Nat → ClassId} {dI : Nat → Nat → Nat} {cI cJ cII cJJ : ClassId} {ad : Nat → Nat} {g : Nat} {f9_size f9_equations f9_areSteps f9_foundMany f9_many f9_rank f9_freeMany : Int32} {ai0 : Nat → Nat → Int32} {al : Nat → Nat → Int64} (C : Cx p c s m meth args A dC dI (TY cI cJ cII cJJ) cX9_extreme (some .int) 8 RX9 0 g) (hp0 : (f9_areSteps.toInt = 0 ∨ CIa ai0 f9_size f9_many.toInt)) (n39 : Nat) (K39 : ∀ (L1 L2 L5 f9_arePlans f9_planMany : Int32) (J3 : Int64) (ai : Nat → Nat → Int32) (H : Heap) (locs : List Loc) (ls : Array Slot), (0 ≤ L1.toInt ∧ L1.toInt ≤ 1) → (0 ≤ L2.toInt ∧ L2.toInt ≤ 194480) → (1 ≤ L5.toInt ∧ L5.toInt ≤ 194481) → (1 ≤ f9_size.toInt ∧ f9_size.toInt ≤ 4) → (0 ≤ f9_equations.toInt ∧ f9_equations.toInt ≤ 3) → (0 ≤ f9_areSteps.toInt ∧ f9_areSteps.toInt ≤ 1) → (0 ≤ f9_foundMany.toInt ∧ f9_foundMany.toInt ≤ 99999) → (0 ≤ f9_many.toInt ∧ f9_many.toInt ≤ 6000) → (0 ≤ f9_rank.toInt ∧ f9_rank.toInt ≤ 3) → (0 ≤ f9_freeMany.toInt ∧ f9_freeMany.toInt ≤ 4) → (1 ≤ f9_arePlans.toInt ∧ f9_arePlans.toInt ≤ 1) → (1 ≤ f9_planMany.toInt ∧ f9_planMany.toInt ≤ 194481) → (f9_areSteps.toInt = 0 ∨ CIa ai f9_size f9_many.toInt) → f9_planMany.toInt - L5.toInt < (n39 : Int) → (0 : Int) < (n39 : Int) → IAM ai → FR [20, 21] ai0 ai → va_P (dC, dI) vwCl (WM cI cJ cII cJJ ad f9_size f9_equations f9_areSteps f9_foundMany f9_many f9_rank f9_freeMany f9_arePlans f9_planMany ai al) H → va_D A (WM cI cJ cII cJJ ad f9_size f9_equations f9_areSteps f9_foundMany f9_many f9_rank f9_freeMany f9_arePlans f9_planMany ai al) → va_S A s.heap H locs → lv_has ls 8 [(0, .ref (ad 22)), (1, .int L1), (2, .int L2), (3, .long J3), (5, .int L5)] → W p l e ({ frames := 10, cells := 0, slots := 0, locals := 560 } : Room) s m args below meth c H locs 0 0 (MQ below (Q_r075_X9_extreme dC dI cI cJ cII cJJ ad f9_size f9_equations f9_areSteps f9_foundMany f9_many f9_rank f9_freeMany ai0 al A) args s 0 0 A) (F0 m 39 ls [])) : ∀ (L1 L2 L5 f9_arePlans f9_planMany : Int32) (J3 J6 : Int64) (ai : Nat → Nat → Int32) (H : Heap) (locs : List Loc) (ls : Array Slot), (0 ≤ L1.toInt ∧ L1.toInt ≤ 1) → (0 ≤ L2.toInt ∧ L2.toInt ≤ 194480) → (1 ≤ L5.toInt ∧ L5.toInt ≤ 194480) → (1 ≤ f9_size.toInt ∧ f9_size.toInt ≤ 4) → (0 ≤ f9_equations.toInt ∧ f9_equations.toInt ≤ 3) → (0 ≤ f9_areSteps.toInt ∧ f9_areSteps.toInt ≤ 1) → (0 ≤ f9_foundMany.toInt ∧ f9_foundMany.toInt ≤ 99999) → (0 ≤ f9_many.toInt ∧ f9_many.toInt ≤ 6000) → (0 ≤ f9_rank.toInt ∧ f9_rank.toInt ≤ 3) → (0 ≤ f9_freeMany.toInt ∧ f9_freeMany.toInt ≤ 4) → (1 ≤ f9_arePlans.toInt ∧ f9_arePlans.toInt ≤ 1) → (2 ≤ f9_planMany.toInt ∧ f9_planMany.toInt ≤ 194481) → (f9_areSteps.toInt = 0 ∨ CIa ai f9_size f9_many.toInt) → L5.toInt < f9_planMany.toInt → f9_planMany.toInt - L5.toInt ≤ (n39 : Int) → IAM ai → FR [20, 21] ai0 ai → va_P (dC, dI) vwCl (WM cI cJ cII cJJ ad f9_size f9_equations f9_areSteps f9_foundMany f9_many f9_rank f9_freeMany f9_arePlans f9_planMany ai al) H → va_D A (WM cI cJ cII cJJ ad f9_size f9_equations f9_areSteps f9_foundMany f9_many f9_rank f9_freeMany f9_arePlans f9_planMany ai al) → va_S A s.heap H locs → lv_has ls 8 [(0, .ref (ad 22)), (1, .int L1), (2, .int L2), (3, .long J3), (5, .int L5), (6, .long J6)] → W p l e ({ frames := 10, cells := 0, slots := 0, locals := 560 } : Room) s m args below meth c H locs 0 0 (MQ below (Q_r075_X9_extreme dC dI cI cJ cII cJJ ad f9_size f9_equations f9_areSteps f9_foundMany f9_many f9_rank f9_freeMany ai0 al A) args s 0 0 A) (F0 m 86 ls []) := by
  obtain ⟨hx, hb, hr, hml, hown, hts, hk, hA, hK, hX⟩ := id C
  intro L1 L2 L5 f9_arePlans f9_planMany J3 J6 ai H locs ls h0 h1 h2 h3 h4 h5 h6 h7 h8 h9 h10 h11 h12 h13 h14 hI hF hP hD hS hl
  refine lv_iload hx hb dX9_extreme_86 (lv_at hl 4 rfl) ?_
  refine lv_istore_n (lv' := [(2, .int L5), (0, .ref (ad 22)), (1, .int L1), (3, .long J3), (5, .int L5), (6, .long J6)]) hx hb dX9_extreme_88 rfl hl (by decide) rfl (fun ls_1 hl_1 => ?_)
  refine lv_lload hx hb dX9_extreme_89 (lv_at hl_1 5 rfl) ?_
  refine lv_lstore_n (lv' := [(3, .long J6), (2, .int L5), (0, .ref (ad 22)), (1, .int L1), (5, .int L5), (6, .long J6)]) hx hb dX9_extreme_91 rfl hl_1 (by decide) rfl (fun ls_2 hl_2 => ?_)
  exact r075_X9_extreme_b92 C hp0 n39 K39 L1 L5 L5 f9_arePlans f9_planMany J6 J6 ai _ _ _ (by omega) (by omega) (by omega) (by omega) (by omega) (by omega) (by omega) (by omega) (by omega) (by omega) (by omega) (by omega) (by first | exact h12 | exact Or.inl (by omega) | exact Or.inl (by decide +kernel)) (by omega) (by omega) hI hF hP hD hS (lv_sub hl_2 [2, 3, 1, 0, 4, 5] rfl)
set_option maxRecDepth 100000 in
set_option maxHeartbeats 4000000 in
theorem r075_X9_extreme_b39 {p : Program} {l : Launch} {e : Env} {s : State} {m : MethodId} {args : Array Value} {below : List Frame} {meth : Method} {c : Code} {A : Nat → Prop} {dC : Nat → ClassId} {dI : Nat → Nat → Nat} {cI cJ cII cJJ : ClassId} {ad : Nat → Nat} {g : Nat} {f9_size f9_equations f9_areSteps f9_foundMany f9_many f9_rank f9_freeMany : Int32} {ai0 : Nat → Nat → Int32} {al : Nat → Nat → Int64} (C : Cx p c s m meth args A dC dI (TY cI cJ cII cJJ) cX9_extreme (some .int) 8 RX9 0 g) (hp0 : (f9_areSteps.toInt = 0 ∨ CIa ai0 f9_size f9_many.toInt)) : ∀ (n : Nat), ∀ (L1 L2 L5 f9_arePlans f9_planMany : Int32) (J3 : Int64) (ai : Nat → Nat → Int32) (H : Heap) (locs : List Loc) (ls : Array Slot), (0 ≤ L1.toInt ∧ L1.toInt ≤ 1) → (0 ≤ L2.toInt ∧ L2.toInt ≤ 194480) → (1 ≤ L5.toInt ∧ L5.toInt ≤ 194481) → (1 ≤ f9_size.toInt ∧ f9_size.toInt ≤ 4) → (0 ≤ f9_equations.toInt ∧ f9_equations.toInt ≤ 3) → (0 ≤ f9_areSteps.toInt ∧ f9_areSteps.toInt ≤ 1) → (0 ≤ f9_foundMany.toInt ∧ f9_foundMany.toInt ≤ 99999) → (0 ≤ f9_many.toInt ∧ f9_many.toInt ≤ 6000) → (0 ≤ f9_rank.toInt ∧ f9_rank.toInt ≤ 3) → (0 ≤ f9_freeMany.toInt ∧ f9_freeMany.toInt ≤ 4) → (1 ≤ f9_arePlans.toInt ∧ f9_arePlans.toInt ≤ 1) → (1 ≤ f9_planMany.toInt ∧ f9_planMany.toInt ≤ 194481) → (f9_areSteps.toInt = 0 ∨ CIa ai f9_size f9_many.toInt) → f9_planMany.toInt - L5.toInt < (n : Int) → (0 : Int) < (n : Int) → IAM ai → FR [20, 21] ai0 ai → va_P (dC, dI) vwCl (WM cI cJ cII cJJ ad f9_size f9_equations f9_areSteps f9_foundMany f9_many f9_rank f9_freeMany f9_arePlans f9_planMany ai al) H → va_D A (WM cI cJ cII cJJ ad f9_size f9_equations f9_areSteps f9_foundMany f9_many f9_rank f9_freeMany f9_arePlans f9_planMany ai al) → va_S A s.heap H locs → lv_has ls 8 [(0, .ref (ad 22)), (1, .int L1), (2, .int L2), (3, .long J3), (5, .int L5)] → W p l e ({ frames := 10, cells := 0, slots := 0, locals := 560 } : Room) s m args below meth c H locs 0 0 (MQ below (Q_r075_X9_extreme dC dI cI cJ cII cJJ ad f9_size f9_equations f9_areSteps f9_foundMany f9_many f9_rank f9_freeMany ai0 al A) args s 0 0 A) (F0 m 39 ls []) := by
  obtain ⟨hx, hb, hr, hml, hown, hts, hk, hA, hK, hX⟩ := id C
  intro n
  induction n with
  | zero =>
    intro L1 L2 L5 f9_arePlans f9_planMany J3 ai H locs ls h0 h1 h2 h3 h4 h5 h6 h7 h8 h9 h10 h11 h12 h13 h14 hI hF hP hD hS hl
    exact absurd h14 (by omega)
  | succ n ih =>
    intro L1 L2 L5 f9_arePlans f9_planMany J3 ai H locs ls h0 h1 h2 h3 h4 h5 h6 h7 h8 h9 h10 h11 h12 h13 h14 hI hF hP hD hS hl
    refine lv_iload hx hb dX9_extreme_39 (lv_at hl 4 rfl) ?_
    refine lv_aload_n hx hb dX9_extreme_41 rfl (lv_at hl 0 rfl) ?_
    refine gf (k := 35) hx hb hts inX9 hown hK hP k_830 rfl (by decide) rfl 22 rfl (.int f9_planMany) rfl dX9_extreme_42 ?_
    refine lv_icmp_ge (tgt := 98) hx hb dX9_extreme_45 (by decide) (fun c1 => ?_) (fun c1 => ?_)
    · have c1 := j_le (a := f9_planMany.toInt) (b := L5.toInt) rfl rfl c1
      refine lv_iload_n hx hb dX9_extreme_98 rfl (lv_at hl 2 rfl) ?_
      exact r2_i hx hb hr hk hS dX9_extreme_99 (fun t ht hW => ⟨f9_arePlans, f9_planMany, ai, ⟨(by first | omega | decide | exact Or.inl (by decide) | exact Or.inr (by decide) | exact Or.inr (by omega)), (by first | omega | decide | exact Or.inl (by decide) | exact Or.inr (by decide) | exact Or.inr (by omega)), (by first | omega | decide | exact Or.inl (by decide) | exact Or.inr (by decide) | exact Or.inr (by omega)), (by first | exact h12 | exact Or.inl (by omega) | exact Or.inl (by decide +kernel)), hI, hF⟩, by rw [ht]; exact hP, va_K.moved hW.alike hK, hD⟩)
    · have c1 := j_nle (a := f9_planMany.toInt) (b := L5.toInt) rfl rfl c1
      refine lv_aload_n hx hb dX9_extreme_48 rfl (lv_at hl 0 rfl) ?_
      refine lv_aload_n hx hb dX9_extreme_49 rfl (lv_at hl 0 rfl) ?_
      refine gf (k := 34) hx hb hts inX9 hown hK hP k_829 rfl (by decide) rfl 22 rfl (.ref (ad 21)) rfl dX9_extreme_50 ?_
      refine lv_iconst (v := 4) hx hb dX9_extreme_53 (by decide) ?_
      refine lv_iload hx hb dX9_extreme_54 (lv_at hl 4 rfl) ?_
      refine v_imul hx hb dX9_extreme_56 _ rfl ?_
      refine lv_topi (fun z2 e_z2 => ?_)
      have g_z2 : z2.toInt = 4 * L5.toInt := by rw [e_z2]; exact n_mul (a := 4) (b := L5.toInt) (by decide +kernel) rfl (by omega) (by omega)
      have hM := r074_X9_costOf l dC dI cI cJ cII cJJ H.size 0 ad f9_size f9_equations f9_areSteps f9_foundMany f9_many f9_rank f9_freeMany f9_arePlans f9_planMany ai al z2 (by omega) (by omega) (by omega) (by omega) (by omega) (by omega) (by omega) (by omega) (by omega) (by omega) hI
      refine k2V_l (q0 := 22) ⟨hx, hb, hml, hown, hts⟩ hK hP hD hS hA hX cv_RX9_220 hM ⟨by decide +kernel, by decide +kernel⟩ rfl rfl (Or.inl rfl) (rest := []) rfl rfl rfl hl.1 rfl (Nat.le_of_ble_eq_true rfl) dX9_extreme_57 ⟨Nat.le_of_ble_eq_true rfl, Nat.le_of_ble_eq_true rfl⟩ (fun r3 t H1 locs_1 ht hB hS_1 hFc => ?_)
      obtain ⟨-, hP_2, -, hD_2⟩ := hB
      rw [ht] at hP_2
      have hD_3 := hD_2.weaken (B := A) (fun k q _ h9 => hFc q.1 h9)
      clear ht
      generalize H1 = H_4 at hP_2 hS_1 ⊢
      refine lv_lstore (lv' := [(6, .long r3), (0, .ref (ad 22)), (1, .int L1), (2, .int L2), (3, .long J3), (5, .int L5)]) hx hb dX9_extreme_60 hl (by decide) rfl (fun ls_5 hl_5 => ?_)
      refine lv_iload_n hx hb dX9_extreme_62 rfl (lv_at hl_5 2 rfl) ?_
      refine lv_if_ne (tgt := 76) hx hb dX9_extreme_63 (by decide) (fun c4 => ?_) (fun c4 => ?_)
      · have c4 := j_ne (a := L1.toInt) (b := 0) rfl (by decide +kernel) c4
        refine lv_lload hx hb dX9_extreme_76 (lv_at hl_5 0 rfl) ?_
        refine lv_lload_n hx hb dX9_extreme_78 rfl (lv_at hl_5 4 rfl) ?_
        refine v_lcmp hx hb dX9_extreme_79 _ rfl ?_
        refine lv_topi (fun z5 e_z5 => ?_)
        refine lv_if_gt (tgt := 86) hx hb dX9_extreme_80 (by decide) (fun c6 => ?_) (fun c6 => ?_)
        · have c6 := j_lt (a := 0) (b := z5.toInt) (by decide +kernel) rfl c6
          exact r075_X9_extreme_b86 C hp0 n ih L1 L2 L5 f9_arePlans f9_planMany J3 r3 ai _ _ _ (by omega) (by omega) (by omega) (by omega) (by omega) (by omega) (by omega) (by omega) (by omega) (by omega) (by omega) (by omega) (by first | exact h12 | exact Or.inl (by omega) | exact Or.inl (by decide +kernel)) (by omega) (by omega) hI hF hP_2 hD_3 hS_1 (lv_sub hl_5 [1, 2, 3, 4, 5, 0] rfl)
        · have c6 := j_nlt (a := 0) (b := z5.toInt) (by decide +kernel) rfl c6
          refine lv_goto (tgt := 92) hx hb dX9_extreme_83 (by decide) ?_
          exact r075_X9_extreme_b92 C hp0 n ih L1 L2 L5 f9_arePlans f9_planMany J3 r3 ai _ _ _ (by omega) (by omega) (by omega) (by omega) (by omega) (by omega) (by omega) (by omega) (by omega) (by omega) (by omega) (by omega) (by first | exact h12 | exact Or.inl (by omega) | exact Or.inl (by decide +kernel)) (by omega) (by omega) hI hF hP_2 hD_3 hS_1 (lv_sub hl_5 [1, 2, 3, 4, 5, 0] rfl)
      · have c4 := j_eq (a := L1.toInt) (b := 0) rfl (by decide +kernel) c4
        refine lv_lload hx hb dX9_extreme_66 (lv_at hl_5 0 rfl) ?_
        refine lv_lload_n hx hb dX9_extreme_68 rfl (lv_at hl_5 4 rfl) ?_
        refine v_lcmp hx hb dX9_extreme_69 _ rfl ?_
        refine lv_topi (fun z7 e_z7 => ?_)
        refine lv_if_lt (tgt := 86) hx hb dX9_extreme_70 (by decide) (fun c8 => ?_) (fun c8 => ?_)
        · have c8 := j_lt (a := z7.toInt) (b := 0) rfl (by decide +kernel) c8
          exact r075_X9_extreme_b86 C hp0 n ih L1 L2 L5 f9_arePlans f9_planMany J3 r3 ai _ _ _ (by omega) (by omega) (by omega) (by omega) (by omega) (by omega) (by omega) (by omega) (by omega) (by omega) (by omega) (by omega) (by first | exact h12 | exact Or.inl (by omega) | exact Or.inl (by decide +kernel)) (by omega) (by omega) hI hF hP_2 hD_3 hS_1 (lv_sub hl_5 [1, 2, 3, 4, 5, 0] rfl)
        · have c8 := j_nlt (a := z7.toInt) (b := 0) rfl (by decide +kernel) c8
          refine lv_goto (tgt := 92) hx hb dX9_extreme_73 (by decide) ?_
          exact r075_X9_extreme_b92 C hp0 n ih L1 L2 L5 f9_arePlans f9_planMany J3 r3 ai _ _ _ (by omega) (by omega) (by omega) (by omega) (by omega) (by omega) (by omega) (by omega) (by omega) (by omega) (by omega) (by omega) (by first | exact h12 | exact Or.inl (by omega) | exact Or.inl (by decide +kernel)) (by omega) (by omega) hI hF hP_2 hD_3 hS_1 (lv_sub hl_5 [1, 2, 3, 4, 5, 0] rfl)
set_option maxRecDepth 100000 in
set_option maxHeartbeats 4000000 in
theorem r075_X9_extreme (l : Launch) (dC : Nat → ClassId) (dI : Nat → Nat → Nat) (cI cJ cII cJJ : ClassId) (sz g : Nat) (ad : Nat → Nat) (f9_size f9_equations f9_areSteps f9_foundMany f9_many f9_rank f9_freeMany f9_arePlans f9_planMany : Int32) (ai : Nat → Nat → Int32) (al : Nat → Nat → Int64) (x1 : Int32) (h_f9_size : (1 ≤ f9_size.toInt ∧ f9_size.toInt ≤ 4)) (h_f9_equations : (0 ≤ f9_equations.toInt ∧ f9_equations.toInt ≤ 3)) (h_f9_areSteps : (0 ≤ f9_areSteps.toInt ∧ f9_areSteps.toInt ≤ 1)) (h_f9_foundMany : (0 ≤ f9_foundMany.toInt ∧ f9_foundMany.toInt ≤ 99999)) (h_f9_many : (0 ≤ f9_many.toInt ∧ f9_many.toInt ≤ 6000)) (h_f9_rank : (0 ≤ f9_rank.toInt ∧ f9_rank.toInt ≤ 3)) (h_f9_freeMany : (0 ≤ f9_freeMany.toInt ∧ f9_freeMany.toInt ≤ 4)) (h_f9_arePlans : (0 ≤ f9_arePlans.toInt ∧ f9_arePlans.toInt ≤ 1)) (h_f9_planMany : (0 ≤ f9_planMany.toInt ∧ f9_planMany.toInt ≤ 194481)) (hp0 : (f9_areSteps.toInt = 0 ∨ CIa ai f9_size f9_many.toInt)) (hI : IAM ai) : Met l yX9_extreme (.code yX9_extreme cX9_extreme 8 (some .int) :: TT) ({ frames := 10, cells := 0, slots := 0, locals := 560 } : Room) (PcS dC dI (TY cI cJ cII cJJ) [.ref (ad 22), .int x1] (WM cI cJ cII cJJ ad f9_size f9_equations f9_areSteps f9_foundMany f9_many f9_rank f9_freeMany f9_arePlans f9_planMany ai al) sz 0 g) (Q_r075_X9_extreme dC dI cI cJ cII cJJ ad f9_size f9_equations f9_areSteps f9_foundMany f9_many f9_rank f9_freeMany ai al (va_A (WM cI cJ cII cJJ ad f9_size f9_equations f9_areSteps f9_foundMany f9_many f9_rank f9_freeMany f9_arePlans f9_planMany ai al) sz)) 0 0 (va_A (WM cI cJ cII cJJ ad f9_size f9_equations f9_areSteps f9_foundMany f9_many f9_rank f9_freeMany f9_arePlans f9_planMany ai al) sz) := by
  refine SM.of (y := yX9_extreme) (maxL := 8) (av := [.ref (ad 22), .int x1]) (Q_r075_X9_extreme dC dI cI cJ cII cJJ ad f9_size f9_equations f9_areSteps f9_foundMany f9_many f9_rank f9_freeMany ai al) (by decide +kernel) (Nat.le_of_ble_eq_true rfl) (fun p e s m below meth c A ls hx hb hr hml hown hts hk hnm hA hK hP hD hS hX hl => ?_)
  have C : Cx p c s m meth (([.ref (ad 22), .int x1] : List Value).toArray) A dC dI (TY cI cJ cII cJJ) cX9_extreme (some .int) 8 RX9 0 g := ⟨hx, hb, hr, hml, hown, hts, hk, hA, hK, hX⟩
  have hown : s.vm.findClass RX9 = some m.cls := hown
  have hl : lv_has ls 8 [(0, .ref (ad 22)), (1, .int x1)] := hl
  obtain ⟨H, hH⟩ : ∃ q, q = s.heap := ⟨_, rfl⟩
  rw [← hH] at hP
  have hS : va_S A s.heap H [] := by rw [hH]; exact hS
  rw [← hH]
  have hF := FR_refl [20, 21] ai
  have ra_x1 := s_any x1
  refine lv_aload_n hx hb dX9_extreme_0 rfl (lv_at hl 0 rfl) ?_
  have hM := r037_X9_gather l dC dI cI cJ cII cJJ H.size 0 ad f9_size f9_equations f9_areSteps f9_foundMany f9_many f9_rank f9_freeMany f9_arePlans f9_planMany ai al (by omega) (by omega) (by omega) (by omega) (by omega) (by omega) (by omega) (by omega) (by omega) hI
  refine k2V_v (q0 := 22) ⟨hx, hb, hml, hown, hts⟩ hK hP hD hS hA hX cv_RX9_238 hM ⟨by decide +kernel, by decide +kernel⟩ rfl rfl (Or.inl rfl) (rest := []) rfl rfl rfl hl.1 rfl (Nat.le_of_ble_eq_true rfl) dX9_extreme_1 ⟨Nat.le_of_ble_eq_true rfl, Nat.le_of_ble_eq_true rfl⟩ (fun t H1 locs_1 ht hB hS_1 hFc => ?_)
  obtain ⟨v2, v3, ai4, ⟨gpr1_0, gpr1_1, hI_2, hFr_r1⟩, hP_2, -, hD_2⟩ := hB
  have hF_3 := FR_tr hF hFr_r1 (by decide)
  rw [ht] at hP_2
  have hD_4 := hD_2.weaken (B := A) (fun k q _ h9 => hFc q.1 h9)
  clear ht
  generalize H1 = H_5 at hP_2 hS_1 ⊢
  refine lv_aload_n hx hb dX9_extreme_4 rfl (lv_at hl 0 rfl) ?_
  refine gf (k := 35) hx hb hts inX9 hown hK hP_2 k_830 rfl (by decide) rfl 22 rfl (.int v3) rfl dX9_extreme_5 ?_
  refine lv_if_ne (tgt := 13) hx hb dX9_extreme_8 (by decide) (fun c5 => ?_) (fun c5 => ?_)
  · have c5 := j_ne (a := v3.toInt) (b := 0) rfl (by decide +kernel) c5
    refine lv_iload_n hx hb dX9_extreme_13 rfl (lv_at hl 1 rfl) ?_
    refine lv_iconst (v := 2) hx hb dX9_extreme_14 (by decide) ?_
    have kc2 : (2 : Int32).toInt = 2 := by decide +kernel
    have hM := r020_X9_isIn l dC dI cI cJ cII cJJ H_5.size 0 ad f9_size f9_equations f9_areSteps f9_foundMany f9_many f9_rank f9_freeMany v2 v3 ai4 al x1 2 (by omega) (by omega) (by omega) (by omega) (by omega) (by omega) (by omega) (by omega) (by omega) hI_2
    refine k2S_i ⟨hx, hb, hml, hown, hts⟩ hK hP_2 hD_4 hS_1 hA hX cs_RX9_116 hM ⟨by decide +kernel, by decide +kernel⟩ rfl rfl (Or.inl rfl) (rest := []) rfl hl.1 rfl (Nat.le_of_ble_eq_true rfl) dX9_extreme_15 ⟨Nat.le_of_ble_eq_true rfl, Nat.le_of_ble_eq_true rfl⟩ (fun r6 t H1 locs_6 ht hB hS_6 hFc => ?_)
    obtain ⟨⟨gpr6_0, gpr6_1⟩, hP_7, -, hD_7⟩ := hB
    rw [ht] at hP_7
    have hD_8 := hD_7.weaken (B := A) (fun k q _ h9 => hFc q.1 h9)
    clear ht
    generalize H1 = H_9 at hP_7 hS_6 ⊢
    refine lv_if_ne (tgt := 24) hx hb dX9_extreme_18 (by decide) (fun c7 => ?_) (fun c7 => ?_)
    · have c7 := j_ne (a := r6.toInt) (b := 0) rfl (by decide +kernel) c7
      refine lv_iconst (v := 0) hx hb dX9_extreme_24 (by decide) ?_
      refine lv_istore_n (lv' := [(2, .int 0), (0, .ref (ad 22)), (1, .int x1)]) hx hb dX9_extreme_25 rfl hl (by decide) rfl (fun ls_10 hl_10 => ?_)
      refine lv_aload_n hx hb dX9_extreme_26 rfl (lv_at hl_10 1 rfl) ?_
      refine lv_aload_n hx hb dX9_extreme_27 rfl (lv_at hl_10 1 rfl) ?_
      refine gf (k := 34) hx hb hts inX9 hown hK hP_7 k_829 rfl (by decide) rfl 22 rfl (.ref (ad 21)) rfl dX9_extreme_28 ?_
      refine lv_iconst (v := 0) hx hb dX9_extreme_31 (by decide) ?_
      have kc0 : (0 : Int32).toInt = 0 := by decide +kernel
      have hM := r072_X9_costOf l dC dI cI cJ cII cJJ H_9.size 0 ad f9_size f9_equations f9_areSteps f9_foundMany f9_many f9_rank f9_freeMany v2 v3 ai4 al (by omega) (by omega) (by omega) (by omega) (by omega) (by omega) (by omega) (by omega) (by omega) hI_2
      refine k2V_l (q0 := 22) ⟨hx, hb, hml, hown, hts⟩ hK hP_7 hD_8 hS_6 hA hX cv_RX9_220 hM ⟨by decide +kernel, by decide +kernel⟩ rfl rfl (Or.inl rfl) (rest := []) rfl rfl rfl hl_10.1 rfl (Nat.le_of_ble_eq_true rfl) dX9_extreme_32 ⟨Nat.le_of_ble_eq_true rfl, Nat.le_of_ble_eq_true rfl⟩ (fun r8 t H1 locs_11 ht hB hS_11 hFc => ?_)
      obtain ⟨gpr8_0, hP_12, -, hD_12⟩ := hB
      rw [ht] at hP_12
      have hD_13 := hD_12.weaken (B := A) (fun k q _ h9 => hFc q.1 h9)
      clear ht
      generalize H1 = H_14 at hP_12 hS_11 ⊢
      refine lv_lstore_n (lv' := [(3, .long r8), (2, .int 0), (0, .ref (ad 22)), (1, .int x1)]) hx hb dX9_extreme_35 rfl hl_10 (by decide) rfl (fun ls_15 hl_15 => ?_)
      refine lv_iconst (v := 1) hx hb dX9_extreme_36 (by decide) ?_
      refine lv_istore (lv' := [(5, .int 1), (3, .long r8), (2, .int 0), (0, .ref (ad 22)), (1, .int x1)]) hx hb dX9_extreme_37 hl_15 (by decide) rfl (fun ls_16 hl_16 => ?_)
      exact r075_X9_extreme_b39 C hp0  _ x1 0 1 v2 v3 r8 ai4 _ _ _ (by first | omega | decide | (have ka0 := (by decide +kernel : (0 : Int32).toInt = 0); have ka1 := (by decide +kernel : (1 : Int32).toInt = 1); omega)) (by first | omega | decide | (have ka0 := (by decide +kernel : (0 : Int32).toInt = 0); have ka1 := (by decide +kernel : (1 : Int32).toInt = 1); omega)) (by first | omega | decide | (have ka0 := (by decide +kernel : (0 : Int32).toInt = 0); have ka1 := (by decide +kernel : (1 : Int32).toInt = 1); omega)) (by first | omega | decide | (have ka0 := (by decide +kernel : (0 : Int32).toInt = 0); have ka1 := (by decide +kernel : (1 : Int32).toInt = 1); omega)) (by first | omega | decide | (have ka0 := (by decide +kernel : (0 : Int32).toInt = 0); have ka1 := (by decide +kernel : (1 : Int32).toInt = 1); omega)) (by first | omega | decide | (have ka0 := (by decide +kernel : (0 : Int32).toInt = 0); have ka1 := (by decide +kernel : (1 : Int32).toInt = 1); omega)) (by first | omega | decide | (have ka0 := (by decide +kernel : (0 : Int32).toInt = 0); have ka1 := (by decide +kernel : (1 : Int32).toInt = 1); omega)) (by first | omega | decide | (have ka0 := (by decide +kernel : (0 : Int32).toInt = 0); have ka1 := (by decide +kernel : (1 : Int32).toInt = 1); omega)) (by first | omega | decide | (have ka0 := (by decide +kernel : (0 : Int32).toInt = 0); have ka1 := (by decide +kernel : (1 : Int32).toInt = 1); omega)) (by first | omega | decide | (have ka0 := (by decide +kernel : (0 : Int32).toInt = 0); have ka1 := (by decide +kernel : (1 : Int32).toInt = 1); omega)) (by first | omega | decide | (have ka0 := (by decide +kernel : (0 : Int32).toInt = 0); have ka1 := (by decide +kernel : (1 : Int32).toInt = 1); omega)) (by first | omega | decide | (have ka0 := (by decide +kernel : (0 : Int32).toInt = 0); have ka1 := (by decide +kernel : (1 : Int32).toInt = 1); omega)) (by first | exact (hp0.imp (fun q => q) (fun q => CIa_t q hFr_r1 (by decide))) | exact Or.inl (by omega) | exact Or.inl (by decide +kernel)) (j_fuel _) (by omega) hI_2 hF_3 hP_12 hD_13 hS_11 (lv_sub hl_16 [3, 4, 2, 1, 0] rfl)
    · have c7 := j_eq (a := r6.toInt) (b := 0) rfl (by decide +kernel) c7
      refine lv_bipush (v := (-2)) hx hb dX9_extreme_21 (by decide) ?_
      exact r2_i hx hb hr hk hS_6 dX9_extreme_23 (fun t ht hW => ⟨v2, v3, ai4, ⟨(by first | omega | decide | exact Or.inl (by decide) | exact Or.inr (by decide) | exact Or.inr (by omega)), (by first | omega | decide | exact Or.inl (by decide) | exact Or.inr (by decide) | exact Or.inr (by omega)), (by first | omega | decide | exact Or.inl (by decide) | exact Or.inr (by decide) | exact Or.inr (by omega)), (by first | exact (hp0.imp (fun q => q) (fun q => CIa_t q hFr_r1 (by decide))) | exact Or.inl (by omega) | exact Or.inl (by decide +kernel)), hI_2, hF_3⟩, by rw [ht]; exact hP_7, va_K.moved hW.alike hK, hD_8⟩)
  · have c5 := j_eq (a := v3.toInt) (b := 0) rfl (by decide +kernel) c5
    refine lv_iconst (v := (-1)) hx hb dX9_extreme_11 (by decide) ?_
    exact r2_i hx hb hr hk hS_1 dX9_extreme_12 (fun t ht hW => ⟨v2, v3, ai4, ⟨(by first | omega | decide | exact Or.inl (by decide) | exact Or.inr (by decide) | exact Or.inr (by omega)), (by first | omega | decide | exact Or.inl (by decide) | exact Or.inr (by decide) | exact Or.inr (by omega)), (by first | omega | decide | exact Or.inl (by decide) | exact Or.inr (by decide) | exact Or.inr (by omega)), (by first | exact (hp0.imp (fun q => q) (fun q => CIa_t q hFr_r1 (by decide))) | exact Or.inl (by omega) | exact Or.inl (by decide +kernel)), hI_2, hF_3⟩, by rw [ht]; exact hP_2, va_K.moved hW.alike hK, hD_4⟩)
def Q_r076_X9_near (dC : Nat → ClassId) (dI : Nat → Nat → Nat) (cI cJ cII cJJ : ClassId) (ad : Nat → Nat) (f9_size f9_equations : Int32) (ai0 : Nat → Nat → Int32) (al0 : Nat → Nat → Int64) (o_f9_areSteps : Int32) (o_f9_many : Int32) : (Nat → Prop) → Array Value → State → Outcome → State → Prop := fun A => QI (fun r t => ∃ (n_f9_areSteps n_f9_foundMany n_f9_many n_f9_rank n_f9_freeMany n_f9_arePlans n_f9_planMany : Int32), ∃ (n_ai : Nat → Nat → Int32), ∃ (n_al : Nat → Nat → Int64), ((0 ≤ n_f9_areSteps.toInt ∧ n_f9_areSteps.toInt ≤ 1) ∧ (0 ≤ n_f9_foundMany.toInt ∧ n_f9_foundMany.toInt ≤ 99999) ∧ (0 ≤ n_f9_many.toInt ∧ n_f9_many.toInt ≤ 6000) ∧ (0 ≤ n_f9_rank.toInt ∧ n_f9_rank.toInt ≤ 3) ∧ (0 ≤ n_f9_freeMany.toInt ∧ n_f9_freeMany.toInt ≤ 4) ∧ (1 ≤ n_f9_arePlans.toInt ∧ n_f9_arePlans.toInt ≤ 1) ∧ (0 ≤ n_f9_planMany.toInt ∧ n_f9_planMany.toInt ≤ 194481) ∧ (n_f9_areSteps.toInt = 0 ∨ CIa n_ai f9_size n_f9_many.toInt) ∧ IAM n_ai ∧ FR [2, 7, 8, 9, 10, 11, 12, 13, 14, 15, 16, 20, 21] ai0 n_ai ∧ FL [17, 18] al0 n_al) ∧ WO dC dI (TY cI cJ cII cJJ) (WM cI cJ cII cJJ ad f9_size f9_equations n_f9_areSteps n_f9_foundMany n_f9_many n_f9_rank n_f9_freeMany n_f9_arePlans n_f9_planMany n_ai n_al) A t) A
set_option maxRecDepth 100000 in
set_option maxHeartbeats 4000000 in
theorem r076_X9_near_b99 {p : Program} {l : Launch} {e : Env} {s : State} {m : MethodId} {args : Array Value} {below : List Frame} {meth : Method} {c : Code} {A : Nat → Prop} {dC : Nat → ClassId} {dI : Nat → Nat → Nat} {cI cJ cII cJJ : ClassId} {ad : Nat → Nat} {g : Nat} {f9_size f9_equations : Int32} {ai0 : Nat → Nat → Int32} {al0 : Nat → Nat → Int64} {o_f9_areSteps : Int32} {o_f9_many : Int32} (C : Cx p c s m meth args A dC dI (TY cI cJ cII cJJ) cX9_near (some .int) 5 RX9 0 g) (hp0 : (o_f9_areSteps.toInt = 0 ∨ CIa ai0 f9_size o_f9_many.toInt)) (n29 : Nat) (K29 : ∀ (L1 L2 L3 f9_areSteps f9_foundMany f9_many f9_rank f9_freeMany f9_arePlans f9_planMany : Int32) (ai : Nat → Nat → Int32) (al : Nat → Nat → Int64) (H : Heap) (locs : List Loc) (ls : Array Slot), (0 ≤ L1.toInt ∧ L1.toInt ≤ 194480) → (0 ≤ L3.toInt ∧ L3.toInt ≤ 6000) → (1 ≤ f9_size.toInt ∧ f9_size.toInt ≤ 4) → (0 ≤ f9_equations.toInt ∧ f9_equations.toInt ≤ 3) → (1 ≤ f9_areSteps.toInt ∧ f9_areSteps.toInt ≤ 1) → (0 ≤ f9_foundMany.toInt ∧ f9_foundMany.toInt ≤ 99999) → (0 ≤ f9_many.toInt ∧ f9_many.toInt ≤ 6000) → (0 ≤ f9_rank.toInt ∧ f9_rank.toInt ≤ 3) → (0 ≤ f9_freeMany.toInt ∧ f9_freeMany.toInt ≤ 4) → (1 ≤ f9_arePlans.toInt ∧ f9_arePlans.toInt ≤ 1) → (0 ≤ f9_planMany.toInt ∧ f9_planMany.toInt ≤ 194481) → (f9_areSteps.toInt = 0 ∨ CIa ai f9_size f9_many.toInt) → f9_many.toInt - L3.toInt < (n29 : Int) → (0 : Int) < (n29 : Int) → IAM ai → FR [2, 7, 8, 9, 10, 11, 12, 13, 14, 15, 16, 20, 21] ai0 ai → FL [17, 18] al0 al → va_P (dC, dI) vwCl (WM cI cJ cII cJJ ad f9_size f9_equations f9_areSteps f9_foundMany f9_many f9_rank f9_freeMany f9_arePlans f9_planMany ai al) H → va_D A (WM cI cJ cII cJJ ad f9_size f9_equations f9_areSteps f9_foundMany f9_many f9_rank f9_freeMany f9_arePlans f9_planMany ai al) → va_S A s.heap H locs → lv_has ls 5 [(0, .ref (ad 22)), (1, .int L1), (2, .int L2), (3, .int L3)] → W p l e ({ frames := 11, cells := 0, slots := 0, locals := 620 } : Room) s m args below meth c H locs 0 0 (MQ below (Q_r076_X9_near dC dI cI cJ cII cJJ ad f9_size f9_equations ai0 al0 o_f9_areSteps o_f9_many A) args s 0 0 A) (F0 m 29 ls [])) : ∀ (L1 L2 L3 L4 S0 S1 f9_areSteps f9_foundMany f9_many f9_rank f9_freeMany f9_arePlans f9_planMany : Int32) (ai : Nat → Nat → Int32) (al : Nat → Nat → Int64) (H : Heap) (locs : List Loc) (ls : Array Slot), (0 ≤ L1.toInt ∧ L1.toInt ≤ 194480) → (0 ≤ L3.toInt ∧ L3.toInt ≤ 5999) → (1 ≤ L4.toInt ∧ L4.toInt ≤ 4) → (0 ≤ S0.toInt ∧ S0.toInt ≤ 1) → (1 ≤ f9_size.toInt ∧ f9_size.toInt ≤ 4) → (0 ≤ f9_equations.toInt ∧ f9_equations.toInt ≤ 3) → (1 ≤ f9_areSteps.toInt ∧ f9_areSteps.toInt ≤ 1) → (0 ≤ f9_foundMany.toInt ∧ f9_foundMany.toInt ≤ 99999) → (1 ≤ f9_many.toInt ∧ f9_many.toInt ≤ 6000) → (0 ≤ f9_rank.toInt ∧ f9_rank.toInt ≤ 3) → (0 ≤ f9_freeMany.toInt ∧ f9_freeMany.toInt ≤ 4) → (1 ≤ f9_arePlans.toInt ∧ f9_arePlans.toInt ≤ 1) → (0 ≤ f9_planMany.toInt ∧ f9_planMany.toInt ≤ 194481) → (f9_areSteps.toInt = 0 ∨ CIa ai f9_size f9_many.toInt) → L3.toInt < f9_many.toInt → f9_many.toInt - L3.toInt ≤ (n29 : Int) → IAM ai → FR [2, 7, 8, 9, 10, 11, 12, 13, 14, 15, 16, 20, 21] ai0 ai → FL [17, 18] al0 al → va_P (dC, dI) vwCl (WM cI cJ cII cJJ ad f9_size f9_equations f9_areSteps f9_foundMany f9_many f9_rank f9_freeMany f9_arePlans f9_planMany ai al) H → va_D A (WM cI cJ cII cJJ ad f9_size f9_equations f9_areSteps f9_foundMany f9_many f9_rank f9_freeMany f9_arePlans f9_planMany ai al) → va_S A s.heap H locs → lv_has ls 5 [(0, .ref (ad 22)), (1, .int L1), (2, .int L2), (3, .int L3), (4, .int L4)] → W p l e ({ frames := 11, cells := 0, slots := 0, locals := 620 } : Room) s m args below meth c H locs 0 0 (MQ below (Q_r076_X9_near dC dI cI cJ cII cJJ ad f9_size f9_equations ai0 al0 o_f9_areSteps o_f9_many A) args s 0 0 A) (F0 m 99 ls [.int S0, .int S1]) := by
  obtain ⟨hx, hb, hr, hml, hown, hts, hk, hA, hK, hX⟩ := id C
  intro L1 L2 L3 L4 S0 S1 f9_areSteps f9_foundMany f9_many f9_rank f9_freeMany f9_arePlans f9_planMany ai al H locs ls h0 h1 h2 h3 h4 h5 h6 h7 h8 h9 h10 h11 h12 h13 h14 h15 hI hF hG hP hD hS hl
  have ra_L2 := s_any L2
  have ra_S1 := s_any S1
  refine v_iadd hx hb dX9_near_99 _ rfl ?_
  refine lv_topi (fun z1 e_z1 => ?_)
  refine lv_istore_n (lv' := [(2, .int z1), (0, .ref (ad 22)), (1, .int L1), (3, .int L3), (4, .int L4)]) hx hb dX9_near_100 rfl hl (by decide) rfl (fun ls_1 hl_1 => ?_)
  obtain ⟨z2, e_z2⟩ : ∃ q : Int32, q = L3 + Int32.ofInt 1 := ⟨_, rfl⟩
  have g_z2 : z2.toInt = L3.toInt + 1 := by rw [e_z2]; exact n_add (a := L3.toInt) (b := 1) rfl (by decide +kernel) (by omega) (by omega)
  refine lv_iinc (v := z2) (lv' := [(3, .int z2), (2, .int z1), (0, .ref (ad 22)), (1, .int L1), (4, .int L4)]) hx hb dX9_near_101 hl_1 (k := 3) rfl e_z2.symm (by decide) rfl (fun ls_2 hl_2 => ?_)
  refine lv_goto (tgt := 29) hx hb dX9_near_104 (by decide) ?_
  exact K29 L1 z1 z2 f9_areSteps f9_foundMany f9_many f9_rank f9_freeMany f9_arePlans f9_planMany ai al _ _ _ (by omega) (by omega) (by omega) (by omega) (by omega) (by omega) (by omega) (by omega) (by omega) (by omega) (by omega) (by first | exact h13 | exact Or.inl (by omega) | exact Or.inl (by decide +kernel)) (by omega) (by omega) hI hF hG hP hD hS (lv_sub hl_2 [2, 3, 1, 0] rfl)
set_option maxRecDepth 100000 in
set_option maxHeartbeats 4000000 in
theorem r076_X9_near_b40 {p : Program} {l : Launch} {e : Env} {s : State} {m : MethodId} {args : Array Value} {below : List Frame} {meth : Method} {c : Code} {A : Nat → Prop} {dC : Nat → ClassId} {dI : Nat → Nat → Nat} {cI cJ cII cJJ : ClassId} {ad : Nat → Nat} {g : Nat} {f9_size f9_equations : Int32} {ai0 : Nat → Nat → Int32} {al0 : Nat → Nat → Int64} {o_f9_areSteps : Int32} {o_f9_many : Int32} (C : Cx p c s m meth args A dC dI (TY cI cJ cII cJJ) cX9_near (some .int) 5 RX9 0 g) (hp0 : (o_f9_areSteps.toInt = 0 ∨ CIa ai0 f9_size o_f9_many.toInt)) (n29 : Nat) (K29 : ∀ (L1 L2 L3 f9_areSteps f9_foundMany f9_many f9_rank f9_freeMany f9_arePlans f9_planMany : Int32) (ai : Nat → Nat → Int32) (al : Nat → Nat → Int64) (H : Heap) (locs : List Loc) (ls : Array Slot), (0 ≤ L1.toInt ∧ L1.toInt ≤ 194480) → (0 ≤ L3.toInt ∧ L3.toInt ≤ 6000) → (1 ≤ f9_size.toInt ∧ f9_size.toInt ≤ 4) → (0 ≤ f9_equations.toInt ∧ f9_equations.toInt ≤ 3) → (1 ≤ f9_areSteps.toInt ∧ f9_areSteps.toInt ≤ 1) → (0 ≤ f9_foundMany.toInt ∧ f9_foundMany.toInt ≤ 99999) → (0 ≤ f9_many.toInt ∧ f9_many.toInt ≤ 6000) → (0 ≤ f9_rank.toInt ∧ f9_rank.toInt ≤ 3) → (0 ≤ f9_freeMany.toInt ∧ f9_freeMany.toInt ≤ 4) → (1 ≤ f9_arePlans.toInt ∧ f9_arePlans.toInt ≤ 1) → (0 ≤ f9_planMany.toInt ∧ f9_planMany.toInt ≤ 194481) → (f9_areSteps.toInt = 0 ∨ CIa ai f9_size f9_many.toInt) → f9_many.toInt - L3.toInt < (n29 : Int) → (0 : Int) < (n29 : Int) → IAM ai → FR [2, 7, 8, 9, 10, 11, 12, 13, 14, 15, 16, 20, 21] ai0 ai → FL [17, 18] al0 al → va_P (dC, dI) vwCl (WM cI cJ cII cJJ ad f9_size f9_equations f9_areSteps f9_foundMany f9_many f9_rank f9_freeMany f9_arePlans f9_planMany ai al) H → va_D A (WM cI cJ cII cJJ ad f9_size f9_equations f9_areSteps f9_foundMany f9_many f9_rank f9_freeMany f9_arePlans f9_planMany ai al) → va_S A s.heap H locs → lv_has ls 5 [(0, .ref (ad 22)), (1, .int L1), (2, .int L2), (3, .int L3)] → W p l e ({ frames := 11, cells := 0, slots := 0, locals := 620 } : Room) s m args below meth c H locs 0 0 (MQ below (Q_r076_X9_near dC dI cI cJ cII cJJ ad f9_size f9_equations ai0 al0 o_f9_areSteps o_f9_many A) args s 0 0 A) (F0 m 29 ls [])) : ∀ (n : Nat), ∀ (L1 L2 L3 L4 f9_areSteps f9_foundMany f9_many f9_rank f9_freeMany f9_arePlans f9_planMany : Int32) (ai : Nat → Nat → Int32) (al : Nat → Nat → Int64) (H : Heap) (locs : List Loc) (ls : Array Slot), (0 ≤ L1.toInt ∧ L1.toInt ≤ 194480) → (0 ≤ L3.toInt ∧ L3.toInt ≤ 5999) → (0 ≤ L4.toInt ∧ L4.toInt ≤ 4) → (1 ≤ f9_size.toInt ∧ f9_size.toInt ≤ 4) → (0 ≤ f9_equations.toInt ∧ f9_equations.toInt ≤ 3) → (1 ≤ f9_areSteps.toInt ∧ f9_areSteps.toInt ≤ 1) → (0 ≤ f9_foundMany.toInt ∧ f9_foundMany.toInt ≤ 99999) → (1 ≤ f9_many.toInt ∧ f9_many.toInt ≤ 6000) → (0 ≤ f9_rank.toInt ∧ f9_rank.toInt ≤ 3) → (0 ≤ f9_freeMany.toInt ∧ f9_freeMany.toInt ≤ 4) → (1 ≤ f9_arePlans.toInt ∧ f9_arePlans.toInt ≤ 1) → (0 ≤ f9_planMany.toInt ∧ f9_planMany.toInt ≤ 194481) → (f9_areSteps.toInt = 0 ∨ CIa ai f9_size f9_many.toInt) → L3.toInt < f9_many.toInt → f9_many.toInt - L3.toInt ≤ (n29 : Int) → f9_size.toInt - L4.toInt < (n : Int) → (0 : Int) < (n : Int) → IAM ai → FR [2, 7, 8, 9, 10, 11, 12, 13, 14, 15, 16, 20, 21] ai0 ai → FL [17, 18] al0 al → va_P (dC, dI) vwCl (WM cI cJ cII cJJ ad f9_size f9_equations f9_areSteps f9_foundMany f9_many f9_rank f9_freeMany f9_arePlans f9_planMany ai al) H → va_D A (WM cI cJ cII cJJ ad f9_size f9_equations f9_areSteps f9_foundMany f9_many f9_rank f9_freeMany f9_arePlans f9_planMany ai al) → va_S A s.heap H locs → lv_has ls 5 [(0, .ref (ad 22)), (1, .int L1), (2, .int L2), (3, .int L3), (4, .int L4)] → W p l e ({ frames := 11, cells := 0, slots := 0, locals := 620 } : Room) s m args below meth c H locs 0 0 (MQ below (Q_r076_X9_near dC dI cI cJ cII cJJ ad f9_size f9_equations ai0 al0 o_f9_areSteps o_f9_many A) args s 0 0 A) (F0 m 40 ls []) := by
  obtain ⟨hx, hb, hr, hml, hown, hts, hk, hA, hK, hX⟩ := id C
  intro n
  induction n with
  | zero =>
    intro L1 L2 L3 L4 f9_areSteps f9_foundMany f9_many f9_rank f9_freeMany f9_arePlans f9_planMany ai al H locs ls h0 h1 h2 h3 h4 h5 h6 h7 h8 h9 h10 h11 h12 h13 h14 h15 h16 hI hF hG hP hD hS hl
    exact absurd h16 (by omega)
  | succ n ih =>
    intro L1 L2 L3 L4 f9_areSteps f9_foundMany f9_many f9_rank f9_freeMany f9_arePlans f9_planMany ai al H locs ls h0 h1 h2 h3 h4 h5 h6 h7 h8 h9 h10 h11 h12 h13 h14 h15 h16 hI hF hG hP hD hS hl
    have ra_L2 := s_any L2
    refine lv_iload hx hb dX9_near_40 (lv_at hl 4 rfl) ?_
    refine lv_aload_n hx hb dX9_near_42 rfl (lv_at hl 0 rfl) ?_
    refine gf (k := 12) hx hb hts inX9 hown hK hP k_807 rfl (by decide) rfl 22 rfl (.int f9_size) rfl dX9_near_43 ?_
    refine lv_icmp_ge (tgt := 81) hx hb dX9_near_46 (by decide) (fun c1 => ?_) (fun c1 => ?_)
    · have c1 := j_le (a := f9_size.toInt) (b := L4.toInt) rfl rfl c1
      refine lv_iload_n hx hb dX9_near_81 rfl (lv_at hl 2 rfl) ?_
      refine lv_aload_n hx hb dX9_near_82 rfl (lv_at hl 0 rfl) ?_
      refine lv_aload_n hx hb dX9_near_83 rfl (lv_at hl 0 rfl) ?_
      refine gf (k := 32) hx hb hts inX9 hown hK hP k_827 rfl (by decide) rfl 22 rfl (.ref (ad 20)) rfl dX9_near_84 ?_
      refine lv_iconst (v := 0) hx hb dX9_near_87 (by decide) ?_
      have kc0 : (0 : Int32).toInt = 0 := by decide +kernel
      have hM := r031_X9_isPlan l dC dI cI cJ cII cJJ H.size 0 ad f9_size f9_equations f9_areSteps f9_foundMany f9_many f9_rank f9_freeMany f9_arePlans f9_planMany ai al (by omega) (by omega) (by omega) (by omega) (by omega) (by omega) (by omega) (by omega) (by omega) hI
      refine k2V_i (q0 := 22) ⟨hx, hb, hml, hown, hts⟩ hK hP hD hS hA hX cv_RX9_199 hM ⟨by decide +kernel, by decide +kernel⟩ rfl rfl (Or.inl rfl) (rest := [.int L2]) rfl rfl rfl hl.1 rfl (Nat.le_of_ble_eq_true rfl) dX9_near_88 ⟨Nat.le_of_ble_eq_true rfl, Nat.le_of_ble_eq_true rfl⟩ (fun r2 t H1 locs_1 ht hB hS_1 hFc => ?_)
      obtain ⟨gpr2_0, hP_2, -, hD_2⟩ := hB
      rw [ht] at hP_2
      have hD_3 := hD_2.weaken (B := A) (fun k q _ h9 => hFc q.1 h9)
      clear ht
      generalize H1 = H_4 at hP_2 hS_1 ⊢
      refine lv_if_eq (tgt := 98) hx hb dX9_near_91 (by decide) (fun c3 => ?_) (fun c3 => ?_)
      · have c3 := j_eq (a := r2.toInt) (b := 0) rfl (by decide +kernel) c3
        refine lv_iconst (v := 0) hx hb dX9_near_98 (by decide) ?_
        exact r076_X9_near_b99 C hp0 n29 K29 L1 L2 L3 L4 0 L2 f9_areSteps f9_foundMany f9_many f9_rank f9_freeMany f9_arePlans f9_planMany ai al _ _ _ (by first | omega | decide | (have ka0 := (by decide +kernel : (0 : Int32).toInt = 0); omega)) (by first | omega | decide | (have ka0 := (by decide +kernel : (0 : Int32).toInt = 0); omega)) (by first | omega | decide | (have ka0 := (by decide +kernel : (0 : Int32).toInt = 0); omega)) (by first | omega | decide | (have ka0 := (by decide +kernel : (0 : Int32).toInt = 0); omega)) (by first | omega | decide | (have ka0 := (by decide +kernel : (0 : Int32).toInt = 0); omega)) (by first | omega | decide | (have ka0 := (by decide +kernel : (0 : Int32).toInt = 0); omega)) (by first | omega | decide | (have ka0 := (by decide +kernel : (0 : Int32).toInt = 0); omega)) (by first | omega | decide | (have ka0 := (by decide +kernel : (0 : Int32).toInt = 0); omega)) (by first | omega | decide | (have ka0 := (by decide +kernel : (0 : Int32).toInt = 0); omega)) (by first | omega | decide | (have ka0 := (by decide +kernel : (0 : Int32).toInt = 0); omega)) (by first | omega | decide | (have ka0 := (by decide +kernel : (0 : Int32).toInt = 0); omega)) (by first | omega | decide | (have ka0 := (by decide +kernel : (0 : Int32).toInt = 0); omega)) (by first | omega | decide | (have ka0 := (by decide +kernel : (0 : Int32).toInt = 0); omega)) (by first | exact h12 | exact Or.inl (by omega) | exact Or.inl (by decide +kernel)) (by first | omega | decide | (have ka0 := (by decide +kernel : (0 : Int32).toInt = 0); omega)) (by first | omega | decide | (have ka0 := (by decide +kernel : (0 : Int32).toInt = 0); omega)) hI hF hG hP_2 hD_3 hS_1 (lv_sub hl [0, 1, 2, 3, 4] rfl)
      · have c3 := j_ne (a := r2.toInt) (b := 0) rfl (by decide +kernel) c3
        refine lv_iconst (v := 1) hx hb dX9_near_94 (by decide) ?_
        refine lv_goto (tgt := 99) hx hb dX9_near_95 (by decide) ?_
        exact r076_X9_near_b99 C hp0 n29 K29 L1 L2 L3 L4 1 L2 f9_areSteps f9_foundMany f9_many f9_rank f9_freeMany f9_arePlans f9_planMany ai al _ _ _ (by first | omega | decide | (have ka0 := (by decide +kernel : (1 : Int32).toInt = 1); omega)) (by first | omega | decide | (have ka0 := (by decide +kernel : (1 : Int32).toInt = 1); omega)) (by first | omega | decide | (have ka0 := (by decide +kernel : (1 : Int32).toInt = 1); omega)) (by first | omega | decide | (have ka0 := (by decide +kernel : (1 : Int32).toInt = 1); omega)) (by first | omega | decide | (have ka0 := (by decide +kernel : (1 : Int32).toInt = 1); omega)) (by first | omega | decide | (have ka0 := (by decide +kernel : (1 : Int32).toInt = 1); omega)) (by first | omega | decide | (have ka0 := (by decide +kernel : (1 : Int32).toInt = 1); omega)) (by first | omega | decide | (have ka0 := (by decide +kernel : (1 : Int32).toInt = 1); omega)) (by first | omega | decide | (have ka0 := (by decide +kernel : (1 : Int32).toInt = 1); omega)) (by first | omega | decide | (have ka0 := (by decide +kernel : (1 : Int32).toInt = 1); omega)) (by first | omega | decide | (have ka0 := (by decide +kernel : (1 : Int32).toInt = 1); omega)) (by first | omega | decide | (have ka0 := (by decide +kernel : (1 : Int32).toInt = 1); omega)) (by first | omega | decide | (have ka0 := (by decide +kernel : (1 : Int32).toInt = 1); omega)) (by first | exact h12 | exact Or.inl (by omega) | exact Or.inl (by decide +kernel)) (by first | omega | decide | (have ka0 := (by decide +kernel : (1 : Int32).toInt = 1); omega)) (by first | omega | decide | (have ka0 := (by decide +kernel : (1 : Int32).toInt = 1); omega)) hI hF hG hP_2 hD_3 hS_1 (lv_sub hl [0, 1, 2, 3, 4] rfl)
    · have c1 := j_nle (a := f9_size.toInt) (b := L4.toInt) rfl rfl c1
      refine lv_aload_n hx hb dX9_near_49 rfl (lv_at hl 0 rfl) ?_
      refine gf (k := 32) hx hb hts inX9 hown hK hP k_827 rfl (by decide) rfl 22 rfl (.ref (ad 20)) rfl dX9_near_50 ?_
      refine lv_iload hx hb dX9_near_53 (lv_at hl 4 rfl) ?_
      refine lv_aload_n hx hb dX9_near_55 rfl (lv_at hl 0 rfl) ?_
      refine gf (k := 34) hx hb hts inX9 hown hK hP k_829 rfl (by decide) rfl 22 rfl (.ref (ad 21)) rfl dX9_near_56 ?_
      refine lv_iconst (v := 4) hx hb dX9_near_59 (by decide) ?_
      refine lv_iload_n hx hb dX9_near_60 rfl (lv_at hl 1 rfl) ?_
      refine v_imul hx hb dX9_near_61 _ rfl ?_
      refine lv_topi (fun z4 e_z4 => ?_)
      have g_z4 : z4.toInt = 4 * L1.toInt := by rw [e_z4]; exact n_mul (a := 4) (b := L1.toInt) (by decide +kernel) rfl (by omega) (by omega)
      refine lv_iload hx hb dX9_near_62 (lv_at hl 4 rfl) ?_
      refine v_iadd hx hb dX9_near_64 _ rfl ?_
      refine lv_topi (fun z5 e_z5 => ?_)
      have g_z5 : z5.toInt = z4.toInt + L4.toInt := by rw [e_z5]; exact n_add (a := z4.toInt) (b := L4.toInt) rfl rfl (by omega) (by omega)
      refine va_iald hx hb hK hP 21 0 rfl rfl (j_in (a := z5.toInt) rfl (by omega) (by omega)) dX9_near_65 ?_
      refine lv_topi (fun z6 e_z6 => ?_)
      refine lv_aload_n hx hb dX9_near_66 rfl (lv_at hl 0 rfl) ?_
      refine lv_iload_n hx hb dX9_near_67 rfl (lv_at hl 3 rfl) ?_
      refine lv_iload hx hb dX9_near_68 (lv_at hl 4 rfl) ?_
      have hM := r019_X9_at l dC dI cI cJ cII cJJ H.size 0 ad f9_size f9_equations f9_areSteps f9_foundMany f9_many f9_rank f9_freeMany f9_arePlans f9_planMany ai al L3 L4 (by omega) (by omega) (by omega) (by omega) (by omega) (by omega) (by omega) (by omega) (by omega) (by omega) (by omega) hI
      refine k2V_i (q0 := 22) ⟨hx, hb, hml, hown, hts⟩ hK hP hD hS hA hX cv_RX9_183 hM ⟨by decide +kernel, by decide +kernel⟩ rfl rfl (Or.inl rfl) (rest := [.int z6, .int L4, .ref (ad 20)]) rfl rfl rfl hl.1 rfl (Nat.le_of_ble_eq_true rfl) dX9_near_70 ⟨Nat.le_of_ble_eq_true rfl, Nat.le_of_ble_eq_true rfl⟩ (fun r7 t H1 locs_5 ht hB hS_5 hFc => ?_)
      obtain ⟨gpr7_0, hP_6, -, hD_6⟩ := hB
      rw [ht] at hP_6
      have hD_7 := hD_6.weaken (B := A) (fun k q _ h9 => hFc q.1 h9)
      clear ht
      generalize H1 = H_8 at hP_6 hS_5 ⊢
      refine v_iadd hx hb dX9_near_73 _ rfl ?_
      refine lv_topi (fun z8 e_z8 => ?_)
      refine va_iast hx hb hK hP_6 hD_7 hS_5 20 0 rfl rfl (j_in (a := L4.toInt) rfl (by omega) (by omega)) dX9_near_74 (fun H_9 locs_9 hP_9 hD_9 hS_9 => ?_)
      obtain ⟨ai9, e_ai9⟩ : ∃ q : Nat → Nat → Int32, q = va_up ai 20 (upd (ai 20) L4.toNatClampNeg z8) := ⟨_, rfl⟩
      have hF_10 := FR_st hF e_ai9 (by decide)
      have hI_11 : IAM ai9 := by rw [e_ai9]; exact hI
      have hP_12 : va_P (dC, dI) vwCl (WM cI cJ cII cJJ ad f9_size f9_equations f9_areSteps f9_foundMany f9_many f9_rank f9_freeMany f9_arePlans f9_planMany ai9 al) H_9 := by rw [e_ai9]; exact hP_9
      have hD_13 : va_D A (WM cI cJ cII cJJ ad f9_size f9_equations f9_areSteps f9_foundMany f9_many f9_rank f9_freeMany f9_arePlans f9_planMany ai9 al) := by rw [e_ai9]; exact hD_9
      obtain ⟨z10, e_z10⟩ : ∃ q : Int32, q = L4 + Int32.ofInt 1 := ⟨_, rfl⟩
      have g_z10 : z10.toInt = L4.toInt + 1 := by rw [e_z10]; exact n_add (a := L4.toInt) (b := 1) rfl (by decide +kernel) (by omega) (by omega)
      refine lv_iinc (v := z10) (lv' := [(4, .int z10), (0, .ref (ad 22)), (1, .int L1), (2, .int L2), (3, .int L3)]) hx hb dX9_near_75 hl (k := 4) rfl e_z10.symm (by decide) rfl (fun ls_14 hl_14 => ?_)
      refine lv_goto (tgt := 40) hx hb dX9_near_78 (by decide) ?_
      exact ih L1 L2 L3 z10 f9_areSteps f9_foundMany f9_many f9_rank f9_freeMany f9_arePlans f9_planMany ai9 al _ _ _ (by omega) (by omega) (by omega) (by omega) (by omega) (by omega) (by omega) (by omega) (by omega) (by omega) (by omega) (by omega) (by first | exact (h12.imp (fun q => q) (fun q => CIa_t q (FRu e_ai9) (by decide))) | exact Or.inl (by omega) | exact Or.inl (by decide +kernel)) (by omega) (by omega) (by omega) (by omega) hI_11 hF_10 hG hP_12 hD_13 hS_9 (lv_sub hl_14 [1, 2, 3, 4, 0] rfl)
set_option maxRecDepth 100000 in
set_option maxHeartbeats 4000000 in
theorem r076_X9_near_b29 {p : Program} {l : Launch} {e : Env} {s : State} {m : MethodId} {args : Array Value} {below : List Frame} {meth : Method} {c : Code} {A : Nat → Prop} {dC : Nat → ClassId} {dI : Nat → Nat → Nat} {cI cJ cII cJJ : ClassId} {ad : Nat → Nat} {g : Nat} {f9_size f9_equations : Int32} {ai0 : Nat → Nat → Int32} {al0 : Nat → Nat → Int64} {o_f9_areSteps : Int32} {o_f9_many : Int32} (C : Cx p c s m meth args A dC dI (TY cI cJ cII cJJ) cX9_near (some .int) 5 RX9 0 g) (hp0 : (o_f9_areSteps.toInt = 0 ∨ CIa ai0 f9_size o_f9_many.toInt)) : ∀ (n : Nat), ∀ (L1 L2 L3 f9_areSteps f9_foundMany f9_many f9_rank f9_freeMany f9_arePlans f9_planMany : Int32) (ai : Nat → Nat → Int32) (al : Nat → Nat → Int64) (H : Heap) (locs : List Loc) (ls : Array Slot), (0 ≤ L1.toInt ∧ L1.toInt ≤ 194480) → (0 ≤ L3.toInt ∧ L3.toInt ≤ 6000) → (1 ≤ f9_size.toInt ∧ f9_size.toInt ≤ 4) → (0 ≤ f9_equations.toInt ∧ f9_equations.toInt ≤ 3) → (1 ≤ f9_areSteps.toInt ∧ f9_areSteps.toInt ≤ 1) → (0 ≤ f9_foundMany.toInt ∧ f9_foundMany.toInt ≤ 99999) → (0 ≤ f9_many.toInt ∧ f9_many.toInt ≤ 6000) → (0 ≤ f9_rank.toInt ∧ f9_rank.toInt ≤ 3) → (0 ≤ f9_freeMany.toInt ∧ f9_freeMany.toInt ≤ 4) → (1 ≤ f9_arePlans.toInt ∧ f9_arePlans.toInt ≤ 1) → (0 ≤ f9_planMany.toInt ∧ f9_planMany.toInt ≤ 194481) → (f9_areSteps.toInt = 0 ∨ CIa ai f9_size f9_many.toInt) → f9_many.toInt - L3.toInt < (n : Int) → (0 : Int) < (n : Int) → IAM ai → FR [2, 7, 8, 9, 10, 11, 12, 13, 14, 15, 16, 20, 21] ai0 ai → FL [17, 18] al0 al → va_P (dC, dI) vwCl (WM cI cJ cII cJJ ad f9_size f9_equations f9_areSteps f9_foundMany f9_many f9_rank f9_freeMany f9_arePlans f9_planMany ai al) H → va_D A (WM cI cJ cII cJJ ad f9_size f9_equations f9_areSteps f9_foundMany f9_many f9_rank f9_freeMany f9_arePlans f9_planMany ai al) → va_S A s.heap H locs → lv_has ls 5 [(0, .ref (ad 22)), (1, .int L1), (2, .int L2), (3, .int L3)] → W p l e ({ frames := 11, cells := 0, slots := 0, locals := 620 } : Room) s m args below meth c H locs 0 0 (MQ below (Q_r076_X9_near dC dI cI cJ cII cJJ ad f9_size f9_equations ai0 al0 o_f9_areSteps o_f9_many A) args s 0 0 A) (F0 m 29 ls []) := by
  obtain ⟨hx, hb, hr, hml, hown, hts, hk, hA, hK, hX⟩ := id C
  intro n
  induction n with
  | zero =>
    intro L1 L2 L3 f9_areSteps f9_foundMany f9_many f9_rank f9_freeMany f9_arePlans f9_planMany ai al H locs ls h0 h1 h2 h3 h4 h5 h6 h7 h8 h9 h10 h11 h12 h13 hI hF hG hP hD hS hl
    exact absurd h13 (by omega)
  | succ n ih =>
    intro L1 L2 L3 f9_areSteps f9_foundMany f9_many f9_rank f9_freeMany f9_arePlans f9_planMany ai al H locs ls h0 h1 h2 h3 h4 h5 h6 h7 h8 h9 h10 h11 h12 h13 hI hF hG hP hD hS hl
    have ra_L2 := s_any L2
    refine lv_iload_n hx hb dX9_near_29 rfl (lv_at hl 3 rfl) ?_
    refine lv_aload_n hx hb dX9_near_30 rfl (lv_at hl 0 rfl) ?_
    refine gf (k := 22) hx hb hts inX9 hown hK hP k_817 rfl (by decide) rfl 22 rfl (.int f9_many) rfl dX9_near_31 ?_
    refine lv_icmp_ge (tgt := 107) hx hb dX9_near_34 (by decide) (fun c1 => ?_) (fun c1 => ?_)
    · have c1 := j_le (a := f9_many.toInt) (b := L3.toInt) rfl rfl c1
      refine lv_iload_n hx hb dX9_near_107 rfl (lv_at hl 2 rfl) ?_
      exact r2_i hx hb hr hk hS dX9_near_108 (fun t ht hW => ⟨f9_areSteps, f9_foundMany, f9_many, f9_rank, f9_freeMany, f9_arePlans, f9_planMany, ai, al, ⟨(by first | omega | decide | exact Or.inl (by decide) | exact Or.inr (by decide) | exact Or.inr (by omega)), (by first | omega | decide | exact Or.inl (by decide) | exact Or.inr (by decide) | exact Or.inr (by omega)), (by first | omega | decide | exact Or.inl (by decide) | exact Or.inr (by decide) | exact Or.inr (by omega)), (by first | omega | decide | exact Or.inl (by decide) | exact Or.inr (by decide) | exact Or.inr (by omega)), (by first | omega | decide | exact Or.inl (by decide) | exact Or.inr (by decide) | exact Or.inr (by omega)), (by first | omega | decide | exact Or.inl (by decide) | exact Or.inr (by decide) | exact Or.inr (by omega)), (by first | omega | decide | exact Or.inl (by decide) | exact Or.inr (by decide) | exact Or.inr (by omega)), (by first | exact h11 | exact Or.inl (by omega) | exact Or.inl (by decide +kernel)), hI, hF, hG⟩, by rw [ht]; exact hP, va_K.moved hW.alike hK, hD⟩)
    · have c1 := j_nle (a := f9_many.toInt) (b := L3.toInt) rfl rfl c1
      refine lv_iconst (v := 0) hx hb dX9_near_37 (by decide) ?_
      refine lv_istore (lv' := [(4, .int 0), (0, .ref (ad 22)), (1, .int L1), (2, .int L2), (3, .int L3)]) hx hb dX9_near_38 hl (by decide) rfl (fun ls_1 hl_1 => ?_)
      exact r076_X9_near_b40 C hp0 n ih _ L1 L2 L3 0 f9_areSteps f9_foundMany f9_many f9_rank f9_freeMany f9_arePlans f9_planMany ai al _ _ _ (by first | omega | decide | (have ka0 := (by decide +kernel : (0 : Int32).toInt = 0); omega)) (by first | omega | decide | (have ka0 := (by decide +kernel : (0 : Int32).toInt = 0); omega)) (by first | omega | decide | (have ka0 := (by decide +kernel : (0 : Int32).toInt = 0); omega)) (by first | omega | decide | (have ka0 := (by decide +kernel : (0 : Int32).toInt = 0); omega)) (by first | omega | decide | (have ka0 := (by decide +kernel : (0 : Int32).toInt = 0); omega)) (by first | omega | decide | (have ka0 := (by decide +kernel : (0 : Int32).toInt = 0); omega)) (by first | omega | decide | (have ka0 := (by decide +kernel : (0 : Int32).toInt = 0); omega)) (by first | omega | decide | (have ka0 := (by decide +kernel : (0 : Int32).toInt = 0); omega)) (by first | omega | decide | (have ka0 := (by decide +kernel : (0 : Int32).toInt = 0); omega)) (by first | omega | decide | (have ka0 := (by decide +kernel : (0 : Int32).toInt = 0); omega)) (by first | omega | decide | (have ka0 := (by decide +kernel : (0 : Int32).toInt = 0); omega)) (by first | omega | decide | (have ka0 := (by decide +kernel : (0 : Int32).toInt = 0); omega)) (by first | exact h11 | exact Or.inl (by omega) | exact Or.inl (by decide +kernel)) (by first | omega | decide | (have ka0 := (by decide +kernel : (0 : Int32).toInt = 0); omega)) (by first | omega | decide | (have ka0 := (by decide +kernel : (0 : Int32).toInt = 0); omega)) (j_fuel _) (by omega) hI hF hG hP hD hS (lv_sub hl_1 [1, 2, 3, 4, 0] rfl)
set_option maxRecDepth 100000 in
set_option maxHeartbeats 4000000 in
theorem r076_X9_near (l : Launch) (dC : Nat → ClassId) (dI : Nat → Nat → Nat) (cI cJ cII cJJ : ClassId) (sz g : Nat) (ad : Nat → Nat) (f9_size f9_equations f9_areSteps f9_foundMany f9_many f9_rank f9_freeMany f9_arePlans f9_planMany : Int32) (ai : Nat → Nat → Int32) (al : Nat → Nat → Int64) (x1 : Int32) (h_f9_size : (1 ≤ f9_size.toInt ∧ f9_size.toInt ≤ 4)) (h_f9_equations : (0 ≤ f9_equations.toInt ∧ f9_equations.toInt ≤ 3)) (h_f9_areSteps : (0 ≤ f9_areSteps.toInt ∧ f9_areSteps.toInt ≤ 1)) (h_f9_foundMany : (0 ≤ f9_foundMany.toInt ∧ f9_foundMany.toInt ≤ 99999)) (h_f9_many : (0 ≤ f9_many.toInt ∧ f9_many.toInt ≤ 6000)) (h_f9_rank : (0 ≤ f9_rank.toInt ∧ f9_rank.toInt ≤ 3)) (h_f9_freeMany : (0 ≤ f9_freeMany.toInt ∧ f9_freeMany.toInt ≤ 4)) (h_f9_arePlans : (0 ≤ f9_arePlans.toInt ∧ f9_arePlans.toInt ≤ 1)) (h_f9_planMany : (0 ≤ f9_planMany.toInt ∧ f9_planMany.toInt ≤ 194481)) (hp0 : (f9_areSteps.toInt = 0 ∨ CIa ai f9_size f9_many.toInt)) (hI : IAM ai) : Met l yX9_near (.code yX9_near cX9_near 5 (some .int) :: TT) ({ frames := 11, cells := 0, slots := 0, locals := 620 } : Room) (PcS dC dI (TY cI cJ cII cJJ) [.ref (ad 22), .int x1] (WM cI cJ cII cJJ ad f9_size f9_equations f9_areSteps f9_foundMany f9_many f9_rank f9_freeMany f9_arePlans f9_planMany ai al) sz 0 g) (Q_r076_X9_near dC dI cI cJ cII cJJ ad f9_size f9_equations ai al f9_areSteps f9_many (va_A (WM cI cJ cII cJJ ad f9_size f9_equations f9_areSteps f9_foundMany f9_many f9_rank f9_freeMany f9_arePlans f9_planMany ai al) sz)) 0 0 (va_A (WM cI cJ cII cJJ ad f9_size f9_equations f9_areSteps f9_foundMany f9_many f9_rank f9_freeMany f9_arePlans f9_planMany ai al) sz) := by
  refine SM.of (y := yX9_near) (maxL := 5) (av := [.ref (ad 22), .int x1]) (Q_r076_X9_near dC dI cI cJ cII cJJ ad f9_size f9_equations ai al f9_areSteps f9_many) (by decide +kernel) (Nat.le_of_ble_eq_true rfl) (fun p e s m below meth c A ls hx hb hr hml hown hts hk hnm hA hK hP hD hS hX hl => ?_)
  have C : Cx p c s m meth (([.ref (ad 22), .int x1] : List Value).toArray) A dC dI (TY cI cJ cII cJJ) cX9_near (some .int) 5 RX9 0 g := ⟨hx, hb, hr, hml, hown, hts, hk, hA, hK, hX⟩
  have hown : s.vm.findClass RX9 = some m.cls := hown
  have hl : lv_has ls 5 [(0, .ref (ad 22)), (1, .int x1)] := hl
  obtain ⟨H, hH⟩ : ∃ q, q = s.heap := ⟨_, rfl⟩
  rw [← hH] at hP
  have hS : va_S A s.heap H [] := by rw [hH]; exact hS
  rw [← hH]
  have hF := FR_refl [2, 7, 8, 9, 10, 11, 12, 13, 14, 15, 16, 20, 21] ai
  have hG := FL_refl [17, 18] al
  have ra_x1 := s_any x1
  refine lv_aload_n hx hb dX9_near_0 rfl (lv_at hl 0 rfl) ?_
  have hM := r037_X9_gather l dC dI cI cJ cII cJJ H.size 0 ad f9_size f9_equations f9_areSteps f9_foundMany f9_many f9_rank f9_freeMany f9_arePlans f9_planMany ai al (by omega) (by omega) (by omega) (by omega) (by omega) (by omega) (by omega) (by omega) (by omega) hI
  refine k2V_v (q0 := 22) ⟨hx, hb, hml, hown, hts⟩ hK hP hD hS hA hX cv_RX9_238 hM ⟨by decide +kernel, by decide +kernel⟩ rfl rfl (Or.inl rfl) (rest := []) rfl rfl rfl hl.1 rfl (Nat.le_of_ble_eq_true rfl) dX9_near_1 ⟨Nat.le_of_ble_eq_true rfl, Nat.le_of_ble_eq_true rfl⟩ (fun t H1 locs_1 ht hB hS_1 hFc => ?_)
  obtain ⟨v2, v3, ai4, ⟨gpr1_0, gpr1_1, hI_2, hFr_r1⟩, hP_2, -, hD_2⟩ := hB
  have hF_3 := FR_tr hF hFr_r1 (by decide)
  rw [ht] at hP_2
  have hD_4 := hD_2.weaken (B := A) (fun k q _ h9 => hFc q.1 h9)
  clear ht
  generalize H1 = H_5 at hP_2 hS_1 ⊢
  refine lv_iload_n hx hb dX9_near_4 rfl (lv_at hl 1 rfl) ?_
  refine lv_aload_n hx hb dX9_near_5 rfl (lv_at hl 0 rfl) ?_
  refine gf (k := 35) hx hb hts inX9 hown hK hP_2 k_830 rfl (by decide) rfl 22 rfl (.int v3) rfl dX9_near_6 ?_
  have hM := r020_X9_isIn l dC dI cI cJ cII cJJ H_5.size 0 ad f9_size f9_equations f9_areSteps f9_foundMany f9_many f9_rank f9_freeMany v2 v3 ai4 al x1 v3 (by omega) (by omega) (by omega) (by omega) (by omega) (by omega) (by omega) (by omega) (by omega) hI_2
  refine k2S_i ⟨hx, hb, hml, hown, hts⟩ hK hP_2 hD_4 hS_1 hA hX cs_RX9_116 hM ⟨by decide +kernel, by decide +kernel⟩ rfl rfl (Or.inl rfl) (rest := []) rfl hl.1 rfl (Nat.le_of_ble_eq_true rfl) dX9_near_9 ⟨Nat.le_of_ble_eq_true rfl, Nat.le_of_ble_eq_true rfl⟩ (fun r5 t H1 locs_6 ht hB hS_6 hFc => ?_)
  obtain ⟨⟨gpr5_0, gpr5_1⟩, hP_7, -, hD_7⟩ := hB
  rw [ht] at hP_7
  have hD_8 := hD_7.weaken (B := A) (fun k q _ h9 => hFc q.1 h9)
  clear ht
  generalize H1 = H_9 at hP_7 hS_6 ⊢
  refine lv_if_ne (tgt := 21) hx hb dX9_near_12 (by decide) (fun c6 => ?_) (fun c6 => ?_)
  · have c6 := j_ne (a := r5.toInt) (b := 0) rfl (by decide +kernel) c6
    refine lv_aload_n hx hb dX9_near_21 rfl (lv_at hl 0 rfl) ?_
    have hM := r018_X9_findSteps l dC dI cI cJ cII cJJ H_9.size 0 ad f9_size f9_equations f9_areSteps f9_foundMany f9_many f9_rank f9_freeMany v2 v3 ai4 al (by omega) (by omega) (by omega) (by omega) (by omega) (by omega) (by omega) (by omega) (by omega) (by first | exact (hp0.imp (fun q => q) (fun q => CIa_t q hFr_r1 (by decide))) | exact Or.inl (by omega) | exact Or.inl (by decide +kernel)) hI_2
    refine k2V_v (q0 := 22) ⟨hx, hb, hml, hown, hts⟩ hK hP_7 hD_8 hS_6 hA hX cv_RX9_180 hM ⟨by decide +kernel, by decide +kernel⟩ rfl rfl (Or.inl rfl) (rest := []) rfl rfl rfl hl.1 rfl (Nat.le_of_ble_eq_true rfl) dX9_near_22 ⟨Nat.le_of_ble_eq_true rfl, Nat.le_of_ble_eq_true rfl⟩ (fun t H1 locs_10 ht hB hS_10 hFc => ?_)
    obtain ⟨v8, v9, v10, v11, v12, ai13, al14, ⟨gpr7_0, gpr7_1, gpr7_2, gpr7_3, gpr7_4, gpr7_5, gpr7_6, hI_11, hFr_r7, hGr_r7⟩, hP_11, -, hD_11⟩ := hB
    have hF_12 := FR_tr hF_3 hFr_r7 (by decide)
    have hG_13 := FL_tr hG hGr_r7 (by decide)
    rw [ht] at hP_11
    have hD_14 := hD_11.weaken (B := A) (fun k q _ h9 => hFc q.1 h9)
    clear ht
    generalize H1 = H_15 at hP_11 hS_10 ⊢
    refine lv_iconst (v := 0) hx hb dX9_near_25 (by decide) ?_
    refine lv_istore_n (lv' := [(2, .int 0), (0, .ref (ad 22)), (1, .int x1)]) hx hb dX9_near_26 rfl hl (by decide) rfl (fun ls_16 hl_16 => ?_)
    refine lv_iconst (v := 0) hx hb dX9_near_27 (by decide) ?_
    refine lv_istore_n (lv' := [(3, .int 0), (2, .int 0), (0, .ref (ad 22)), (1, .int x1)]) hx hb dX9_near_28 rfl hl_16 (by decide) rfl (fun ls_17 hl_17 => ?_)
    exact r076_X9_near_b29 C hp0  _ x1 0 0 v8 v9 v10 v11 v12 v2 v3 ai13 al14 _ _ _ (by first | omega | decide | (have ka0 := (by decide +kernel : (0 : Int32).toInt = 0); omega)) (by first | omega | decide | (have ka0 := (by decide +kernel : (0 : Int32).toInt = 0); omega)) (by first | omega | decide | (have ka0 := (by decide +kernel : (0 : Int32).toInt = 0); omega)) (by first | omega | decide | (have ka0 := (by decide +kernel : (0 : Int32).toInt = 0); omega)) (by first | omega | decide | (have ka0 := (by decide +kernel : (0 : Int32).toInt = 0); omega)) (by first | omega | decide | (have ka0 := (by decide +kernel : (0 : Int32).toInt = 0); omega)) (by first | omega | decide | (have ka0 := (by decide +kernel : (0 : Int32).toInt = 0); omega)) (by first | omega | decide | (have ka0 := (by decide +kernel : (0 : Int32).toInt = 0); omega)) (by first | omega | decide | (have ka0 := (by decide +kernel : (0 : Int32).toInt = 0); omega)) (by first | omega | decide | (have ka0 := (by decide +kernel : (0 : Int32).toInt = 0); omega)) (by first | omega | decide | (have ka0 := (by decide +kernel : (0 : Int32).toInt = 0); omega)) (by first | exact (Or.inr gpr7_5) | exact Or.inl (by omega) | exact Or.inl (by decide +kernel)) (j_fuel _) (by omega) hI_11 hF_12 hG_13 hP_11 hD_14 hS_10 (lv_sub hl_17 [2, 3, 1, 0] rfl)
  · have c6 := j_eq (a := r5.toInt) (b := 0) rfl (by decide +kernel) c6
    refine lv_aload_n hx hb dX9_near_15 rfl (lv_at hl 0 rfl) ?_
    refine lv_iconst (v := (-1)) hx hb dX9_near_16 (by decide) ?_
    have kcm1 : ((-1) : Int32).toInt = (-1) := by decide +kernel
    have hM := r021_X9_refuse l dC dI cI cJ cII cJJ H_9.size 0 ad f9_size f9_equations f9_areSteps f9_foundMany f9_many f9_rank f9_freeMany v2 v3 ai4 al (-1) (by decide +kernel) (by omega) (by omega) (by omega) (by omega) (by omega) (by omega) (by omega) (by omega) (by omega) hI_2
    refine k2V_i (q0 := 22) ⟨hx, hb, hml, hown, hts⟩ hK hP_7 hD_8 hS_6 hA hX cv_RX9_112 hM ⟨by decide +kernel, by decide +kernel⟩ rfl rfl (Or.inl rfl) (rest := []) rfl rfl rfl hl.1 rfl (Nat.le_of_ble_eq_true rfl) dX9_near_17 ⟨Nat.le_of_ble_eq_true rfl, Nat.le_of_ble_eq_true rfl⟩ (fun r15 t H1 locs_18 ht hB hS_18 hFc => ?_)
    obtain ⟨ai16, ⟨gpr15_0, gpr15_1, hI_19, hFr_r15⟩, hP_19, -, hD_19⟩ := hB
    have hF_20 := FR_tr hF_3 hFr_r15 (by decide)
    rw [ht] at hP_19
    have hD_21 := hD_19.weaken (B := A) (fun k q _ h9 => hFc q.1 h9)
    clear ht
    generalize H1 = H_22 at hP_19 hS_18 ⊢
    exact r2_i hx hb hr hk hS_18 dX9_near_20 (fun t ht hW => ⟨f9_areSteps, f9_foundMany, f9_many, f9_rank, f9_freeMany, v2, v3, ai16, al, ⟨(by first | omega | decide | exact Or.inl (by decide) | exact Or.inr (by decide) | exact Or.inr (by omega)), (by first | omega | decide | exact Or.inl (by decide) | exact Or.inr (by decide) | exact Or.inr (by omega)), (by first | omega | decide | exact Or.inl (by decide) | exact Or.inr (by decide) | exact Or.inr (by omega)), (by first | omega | decide | exact Or.inl (by decide) | exact Or.inr (by decide) | exact Or.inr (by omega)), (by first | omega | decide | exact Or.inl (by decide) | exact Or.inr (by decide) | exact Or.inr (by omega)), (by first | omega | decide | exact Or.inl (by decide) | exact Or.inr (by decide) | exact Or.inr (by omega)), (by first | omega | decide | exact Or.inl (by decide) | exact Or.inr (by decide) | exact Or.inr (by omega)), (by first | exact ((hp0.imp (fun q => q) (fun q => CIa_t q hFr_r1 (by decide))).imp (fun q => q) (fun q => CIa_t q hFr_r15 (by decide))) | exact Or.inl (by omega) | exact Or.inl (by decide +kernel)), hI_19, hF_20, hG⟩, by rw [ht]; exact hP_19, va_K.moved hW.alike hK, hD_21⟩)
