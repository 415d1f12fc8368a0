def Q_r030_X9_sum (dC : Nat → ClassId) (dI : Nat → Nat → Nat) (cI cJ cII cJJ : ClassId) (ad : Nat → Nat) (f9_size f9_equations f9_areSteps f9_foundMany f9_many f9_rank f9_freeMany f9_arePlans f9_planMany : Int32) (ai : Nat → Nat → Int32) (al : Nat → Nat → Int64) : (Nat → Prop) → Array Value → State → Outcome → State → Prop := fun A => QI (fun r t => (True) ∧ WO dC dI (TY cI cJ cII cJJ) (WM cI cJ cII cJJ ad f9_size f9_equations f9_areSteps f9_foundMany f9_many f9_rank f9_freeMany f9_arePlans f9_planMany ai al) A t) A
set_option maxRecDepth 100000 in
set_option maxHeartbeats 4000000 in
theorem r030_X9_sum_b6 {p : Program} {l : Launch} {e : Env} {s : State} {m : MethodId} {args : Array Value} {below : List Frame} {meth : Method} {c : Code} {A : Nat → Prop} {dC : Nat → ClassId} {dI : Nat → Nat → Nat} {cI cJ cII cJJ : ClassId} {ad : Nat → Nat} {g : Nat} {f9_size f9_equations f9_areSteps f9_foundMany f9_many f9_rank f9_freeMany f9_arePlans f9_planMany : Int32} {ai : Nat → Nat → Int32} {al : Nat → Nat → Int64} (C : Cx p c s m meth args A dC dI (TY cI cJ cII cJJ) cX9_sum (some .int) 6 RX9 0 g) : ∀ (n : Nat), ∀ (L1 L4 L5 : Int32) (H : Heap) (locs : List Loc) (ls : Array Slot), (0 ≤ L1.toInt ∧ L1.toInt ≤ 2) → (0 ≤ L5.toInt ∧ L5.toInt ≤ 4) → (1 ≤ f9_size.toInt ∧ f9_size.toInt ≤ 4) → (0 ≤ f9_equations.toInt ∧ f9_equations.toInt ≤ 3) → (0 ≤ f9_areSteps.toInt ∧ f9_areSteps.toInt ≤ 1) → (0 ≤ f9_foundMany.toInt ∧ f9_foundMany.toInt ≤ 99999) → (0 ≤ f9_many.toInt ∧ f9_many.toInt ≤ 6000) → (0 ≤ f9_rank.toInt ∧ f9_rank.toInt ≤ 3) → (0 ≤ f9_freeMany.toInt ∧ f9_freeMany.toInt ≤ 4) → (0 ≤ f9_arePlans.toInt ∧ f9_arePlans.toInt ≤ 1) → (0 ≤ f9_planMany.toInt ∧ f9_planMany.toInt ≤ 194481) → f9_size.toInt - L5.toInt < (n : Int) → (0 : Int) < (n : Int) → IAM ai → va_P (dC, dI) vwCl (WM cI cJ cII cJJ ad f9_size f9_equations f9_areSteps f9_foundMany f9_many f9_rank f9_freeMany f9_arePlans f9_planMany ai al) H → va_D A (WM cI cJ cII cJJ ad f9_size f9_equations f9_areSteps f9_foundMany f9_many f9_rank f9_freeMany f9_arePlans f9_planMany ai al) → va_S A s.heap H locs → lv_has ls 6 [(0, .ref (ad 22)), (1, .int L1), (2, .ref (ad 20)), (3, .int 0), (4, .int L4), (5, .int L5)] → W p l e ({ frames := 2, cells := 0, slots := 0, locals := 80 } : Room) s m args below meth c H locs 0 0 (MQ below (Q_r030_X9_sum dC dI cI cJ cII cJJ ad f9_size f9_equations f9_areSteps f9_foundMany f9_many f9_rank f9_freeMany f9_arePlans f9_planMany ai al A) args s 0 0 A) (F0 m 6 ls []) := by
  obtain ⟨hx, hb, hr, hml, hown, hts, hk, hA, hK, hX⟩ := id C
  intro n
  induction n with
  | zero =>
    intro L1 L4 L5 H locs ls h0 h1 h2 h3 h4 h5 h6 h7 h8 h9 h10 h11 h12 hI hP hD hS hl
    exact absurd h12 (by omega)
  | succ n ih =>
    intro L1 L4 L5 H locs ls h0 h1 h2 h3 h4 h5 h6 h7 h8 h9 h10 h11 h12 hI hP hD hS hl
    have ra_L4 := s_any L4
    refine lv_iload hx hb dX9_sum_6 (lv_at hl 5 rfl) ?_
    refine lv_aload_n hx hb dX9_sum_8 rfl (lv_at hl 0 rfl) ?_
    refine gf (k := 12) hx hb hts inX9 hown hK hP k_807 rfl (by decide) rfl 22 rfl (.int f9_size) rfl dX9_sum_9 ?_
    refine lv_icmp_ge (tgt := 44) hx hb dX9_sum_12 (by decide) (fun c1 => ?_) (fun c1 => ?_)
    · have c1 := j_le (a := f9_size.toInt) (b := L5.toInt) rfl rfl c1
      refine lv_iload hx hb dX9_sum_44 (lv_at hl 4 rfl) ?_
      exact r2_i hx hb hr hk hS dX9_sum_46 (fun t ht hW => ⟨trivial, by rw [ht]; exact hP, va_K.moved hW.alike hK, hD⟩)
    · have c1 := j_nle (a := f9_size.toInt) (b := L5.toInt) rfl rfl c1
      refine lv_iload hx hb dX9_sum_15 (lv_at hl 4 rfl) ?_
      refine lv_aload_n hx hb dX9_sum_17 rfl (lv_at hl 0 rfl) ?_
      refine gf (k := 0) hx hb hts inX9 hown hK hP k_795 rfl (by decide) rfl 22 rfl (.ref (ad 0)) rfl dX9_sum_18 ?_
      refine lv_iconst (v := 4) hx hb dX9_sum_21 (by decide) ?_
      refine lv_iload_n hx hb dX9_sum_22 rfl (lv_at hl 1 rfl) ?_
      refine v_imul hx hb dX9_sum_23 _ rfl ?_
      refine lv_topi (fun z2 e_z2 => ?_)
      have g_z2 : z2.toInt = 4 * L1.toInt := by rw [e_z2]; exact n_mul (a := 4) (b := L1.toInt) (by decide +kernel) rfl (by omega) (by omega)
      refine lv_iload hx hb dX9_sum_24 (lv_at hl 5 rfl) ?_
      refine v_iadd hx hb dX9_sum_26 _ rfl ?_
      refine lv_topi (fun z3 e_z3 => ?_)
      have g_z3 : z3.toInt = z2.toInt + L5.toInt := by rw [e_z3]; exact n_add (a := z2.toInt) (b := L5.toInt) rfl rfl (by omega) (by omega)
      refine va_iald hx hb hK hP 0 0 rfl rfl (j_in (a := z3.toInt) rfl (by omega) (by omega)) dX9_sum_27 ?_
      refine lv_topi (fun z4 e_z4 => ?_)
      have g_z4 : -6 ≤ z4.toInt ∧ z4.toInt ≤ 6 := by rw [e_z4]; exact IAM_at0 hI _
      refine lv_aload_n hx hb dX9_sum_28 rfl (lv_at hl 2 rfl) ?_
      refine lv_iload_n hx hb dX9_sum_29 rfl (lv_at hl 3 rfl) ?_
      refine lv_iload hx hb dX9_sum_30 (lv_at hl 5 rfl) ?_
      refine v_iadd hx hb dX9_sum_32 _ rfl ?_
      refine lv_topi (fun z5 e_z5 => ?_)
      have g_z5 : z5.toInt = 0 + L5.toInt := by rw [e_z5]; exact n_add (a := 0) (b := L5.toInt) (by decide +kernel) rfl (by omega) (by omega)
      refine va_iald hx hb hK hP 20 0 rfl rfl (j_in (a := z5.toInt) rfl (by omega) (by omega)) dX9_sum_33 ?_
      refine lv_topi (fun z6 e_z6 => ?_)
      refine v_imul hx hb dX9_sum_34 _ rfl ?_
      refine lv_topi (fun z7 e_z7 => ?_)
      refine v_iadd hx hb dX9_sum_35 _ rfl ?_
      refine lv_topi (fun z8 e_z8 => ?_)
      refine lv_istore (lv' := [(4, .int z8), (0, .ref (ad 22)), (1, .int L1), (2, .ref (ad 20)), (3, .int 0), (5, .int L5)]) hx hb dX9_sum_36 hl (by decide) rfl (fun ls_1 hl_1 => ?_)
      obtain ⟨z9, e_z9⟩ : ∃ q : Int32, q = L5 + Int32.ofInt 1 := ⟨_, rfl⟩
      have g_z9 : z9.toInt = L5.toInt + 1 := by rw [e_z9]; exact n_add (a := L5.toInt) (b := 1) rfl (by decide +kernel) (by omega) (by omega)
      refine lv_iinc (v := z9) (lv' := [(5, .int z9), (4, .int z8), (0, .ref (ad 22)), (1, .int L1), (2, .ref (ad 20)), (3, .int 0)]) hx hb dX9_sum_38 hl_1 (k := 5) rfl e_z9.symm (by decide) rfl (fun ls_2 hl_2 => ?_)
      refine lv_goto (tgt := 6) hx hb dX9_sum_41 (by decide) ?_
      exact ih L1 z8 z9 _ _ _ (by omega) (by omega) (by omega) (by omega) (by omega) (by omega) (by omega) (by omega) (by omega) (by omega) (by omega) (by omega) (by omega) hI hP hD hS (lv_sub hl_2 [2, 3, 4, 5, 1, 0] rfl)
set_option maxRecDepth 100000 in
set_option maxHeartbeats 4000000 in
theorem r030_X9_sum (l : Launch) (dC : Nat → ClassId) (dI : Nat → Nat → Nat) (cI cJ cII cJJ : ClassId) (sz g : Nat) (ad : Nat → Nat) (f9_size f9_equations f9_areSteps f9_foundMany f9_many f9_rank f9_freeMany f9_arePlans f9_planMany : Int32) (ai : Nat → Nat → Int32) (al : Nat → Nat → Int64) (x1 : Int32) (h_x1 : (0 ≤ x1.toInt ∧ x1.toInt ≤ 2)) (h_f9_size : (1 ≤ f9_size.toInt ∧ f9_size.toInt ≤ 4)) (h_f9_equations : (0 ≤ f9_equations.toInt ∧ f9_equations.toInt ≤ 3)) (h_f9_areSteps : (0 ≤ f9_areSteps.toInt ∧ f9_areSteps.toInt ≤ 1)) (h_f9_foundMany : (0 ≤ f9_foundMany.toInt ∧ f9_foundMany.toInt ≤ 99999)) (h_f9_many : (0 ≤ f9_many.toInt ∧ f9_many.toInt ≤ 6000)) (h_f9_rank : (0 ≤ f9_rank.toInt ∧ f9_rank.toInt ≤ 3)) (h_f9_freeMany : (0 ≤ f9_freeMany.toInt ∧ f9_freeMany.toInt ≤ 4)) (h_f9_arePlans : (0 ≤ f9_arePlans.toInt ∧ f9_arePlans.toInt ≤ 1)) (h_f9_planMany : (0 ≤ f9_planMany.toInt ∧ f9_planMany.toInt ≤ 194481)) (hI : IAM ai) : Met l yX9_sum (.code yX9_sum cX9_sum 6 (some .int) :: TT) ({ frames := 2, cells := 0, slots := 0, locals := 80 } : Room) (PcS dC dI (TY cI cJ cII cJJ) [.ref (ad 22), .int x1, .ref (ad 20), .int 0] (WM cI cJ cII cJJ ad f9_size f9_equations f9_areSteps f9_foundMany f9_many f9_rank f9_freeMany f9_arePlans f9_planMany ai al) sz 0 g) (Q_r030_X9_sum dC dI cI cJ cII cJJ ad f9_size f9_equations f9_areSteps f9_foundMany f9_many f9_rank f9_freeMany f9_arePlans f9_planMany ai al (va_A (WM cI cJ cII cJJ ad f9_size f9_equations f9_areSteps f9_foundMany f9_many f9_rank f9_freeMany f9_arePlans f9_planMany ai al) sz)) 0 0 (va_A (WM cI cJ cII cJJ ad f9_size f9_equations f9_areSteps f9_foundMany f9_many f9_rank f9_freeMany f9_arePlans f9_planMany ai al) sz) := by
  refine SM.of (y := yX9_sum) (maxL := 6) (av := [.ref (ad 22), .int x1, .ref (ad 20), .int 0]) (Q_r030_X9_sum dC dI cI cJ cII cJJ ad f9_size f9_equations f9_areSteps f9_foundMany f9_many f9_rank f9_freeMany f9_arePlans f9_planMany ai al) (by decide +kernel) (Nat.le_of_ble_eq_true rfl) (fun p e s m below meth c A ls hx hb hr hml hown hts hk hnm hA hK hP hD hS hX hl => ?_)
  have C : Cx p c s m meth (([.ref (ad 22), .int x1, .ref (ad 20), .int 0] : List Value).toArray) A dC dI (TY cI cJ cII cJJ) cX9_sum (some .int) 6 RX9 0 g := ⟨hx, hb, hr, hml, hown, hts, hk, hA, hK, hX⟩
  have hown : s.vm.findClass RX9 = some m.cls := hown
  have hl : lv_has ls 6 [(0, .ref (ad 22)), (1, .int x1), (2, .ref (ad 20)), (3, .int 0)] := hl
  obtain ⟨H, hH⟩ : ∃ q, q = s.heap := ⟨_, rfl⟩
  rw [← hH] at hP
  have hS : va_S A s.heap H [] := by rw [hH]; exact hS
  rw [← hH]
  refine lv_iconst (v := 0) hx hb dX9_sum_0 (by decide) ?_
  refine lv_istore (lv' := [(4, .int 0), (0, .ref (ad 22)), (1, .int x1), (2, .ref (ad 20)), (3, .int 0)]) hx hb dX9_sum_1 hl (by decide) rfl (fun ls_1 hl_1 => ?_)
  refine lv_iconst (v := 0) hx hb dX9_sum_3 (by decide) ?_
  refine lv_istore (lv' := [(5, .int 0), (4, .int 0), (0, .ref (ad 22)), (1, .int x1), (2, .ref (ad 20)), (3, .int 0)]) hx hb dX9_sum_4 hl_1 (by decide) rfl (fun ls_2 hl_2 => ?_)
  exact r030_X9_sum_b6 C  _ x1 0 0 _ _ _ (by first | omega | decide | (have ka0 := (by decide +kernel : (0 : Int32).toInt = 0); omega)) (by first | omega | decide | (have ka0 := (by decide +kernel : (0 : Int32).toInt = 0); omega)) (by first | omega | decide | (have ka0 := (by decide +kernel : (0 : Int32).toInt = 0); omega)) (by first | omega | decide | (have ka0 := (by decide +kernel : (0 : Int32).toInt = 0); omega)) (by first | omega | decide | (have ka0 := (by decide +kernel : (0 : Int32).toInt = 0); omega)) (by first | omega | decide | (have ka0 := (by decide +kernel : (0 : Int32).toInt = 0); omega)) (by first | omega | decide | (have ka0 := (by decide +kernel : (0 : Int32).toInt = 0); omega)) (by first | omega | decide | (have ka0 := (by decide +kernel : (0 : Int32).toInt = 0); omega)) (by first | omega | decide | (have ka0 := (by decide +kernel : (0 : Int32).toInt = 0); omega)) (by first | omega | decide | (have ka0 := (by decide +kernel : (0 : Int32).toInt = 0); omega)) (by first | omega | decide | (have ka0 := (by decide +kernel : (0 : Int32).toInt = 0); omega)) (j_fuel _) (by omega) hI hP hD hS (lv_sub hl_2 [2, 3, 4, 5, 1, 0] rfl)
def Q_r031_X9_isPlan (dC : Nat → ClassId) (dI : Nat → Nat → Nat) (cI cJ cII cJJ : ClassId) (ad : Nat → Nat) (f9_size f9_equations f9_areSteps f9_foundMany f9_many f9_rank f9_freeMany f9_arePlans f9_planMany : Int32) (ai : Nat → Nat → Int32) (al : Nat → Nat → Int64) : (Nat → Prop) → Array Value → State → Outcome → State → Prop := fun A => QI (fun r t => ((0 ≤ r.toInt ∧ r.toInt ≤ 1)) ∧ WO dC dI (TY cI cJ cII cJJ) (WM cI cJ cII cJJ ad f9_size f9_equations f9_areSteps f9_foundMany f9_many f9_rank f9_freeMany f9_arePlans f9_planMany ai al) A t) A
set_option maxRecDepth 100000 in
set_option maxHeartbeats 4000000 in
theorem r031_X9_isPlan_b108 {p : Program} {l : Launch} {e : Env} {s : State} {m : MethodId} {args : Array Value} {below : List Frame} {meth : Method} {c : Code} {A : Nat → Prop} {dC : Nat → ClassId} {dI : Nat → Nat → Nat} {cI cJ cII cJJ : ClassId} {ad : Nat → Nat} {g : Nat} {f9_size f9_equations f9_areSteps f9_foundMany f9_many f9_rank f9_freeMany f9_arePlans f9_planMany : Int32} {ai : Nat → Nat → Int32} {al : Nat → Nat → Int64} (C : Cx p c s m meth args A dC dI (TY cI cJ cII cJJ) cX9_isPlan (some .boolean) 5 RX9 0 g) : ∀ (L3 L4 : Int32) (H : Heap) (locs : List Loc) (ls : Array Slot), (0 ≤ L3.toInt ∧ L3.toInt ≤ 1) → (0 ≤ L4.toInt ∧ L4.toInt ≤ 3) → (1 ≤ f9_size.toInt ∧ f9_size.toInt ≤ 4) → (0 ≤ f9_equations.toInt ∧ f9_equations.toInt ≤ 3) → (0 ≤ f9_areSteps.toInt ∧ f9_areSteps.toInt ≤ 1) → (0 ≤ f9_foundMany.toInt ∧ f9_foundMany.toInt ≤ 99999) → (0 ≤ f9_many.toInt ∧ f9_many.toInt ≤ 6000) → (0 ≤ f9_rank.toInt ∧ f9_rank.toInt ≤ 3) → (0 ≤ f9_freeMany.toInt ∧ f9_freeMany.toInt ≤ 4) → (0 ≤ f9_arePlans.toInt ∧ f9_arePlans.toInt ≤ 1) → (0 ≤ f9_planMany.toInt ∧ f9_planMany.toInt ≤ 194481) → IAM ai → va_P (dC, dI) vwCl (WM cI cJ cII cJJ ad f9_size f9_equations f9_areSteps f9_foundMany f9_many f9_rank f9_freeMany f9_arePlans f9_planMany ai al) H → va_D A (WM cI cJ cII cJJ ad f9_size f9_equations f9_areSteps f9_foundMany f9_many f9_rank f9_freeMany f9_arePlans f9_planMany ai al) → va_S A s.heap H locs → lv_has ls 5 [(0, .ref (ad 22)), (1, .ref (ad 20)), (2, .int 0), (3, .int L3), (4, .int L4)] → W p l e ({ frames := 3, cells := 0, slots := 0, locals := 140 } : Room) s m args below meth c H locs 0 0 (MQ below (Q_r031_X9_isPlan dC dI cI cJ cII cJJ ad f9_size f9_equations f9_areSteps f9_foundMany f9_many f9_rank f9_freeMany f9_arePlans f9_planMany ai al A) args s 0 0 A) (F0 m 108 ls []) := by
  obtain ⟨hx, hb, hr, hml, hown, hts, hk, hA, hK, hX⟩ := id C
  intro L3 L4 H locs ls h0 h1 h2 h3 h4 h5 h6 h7 h8 h9 h10 hI hP hD hS hl
  refine lv_iload_n hx hb dX9_isPlan_108 rfl (lv_at hl 3 rfl) ?_
  exact r2_z hx hb hr hk hS dX9_isPlan_109 (nb_n (a := L3.toInt) rfl (by omega) (by omega)) (fun t ht hW => ⟨(by first | omega | decide | exact Or.inl (by decide) | exact Or.inr (by decide) | exact Or.inr (by omega)), by rw [ht]; exact hP, va_K.moved hW.alike hK, hD⟩)
set_option maxRecDepth 100000 in
set_option maxHeartbeats 4000000 in
theorem r031_X9_isPlan_b101 {p : Program} {l : Launch} {e : Env} {s : State} {m : MethodId} {args : Array Value} {below : List Frame} {meth : Method} {c : Code} {A : Nat → Prop} {dC : Nat → ClassId} {dI : Nat → Nat → Nat} {cI cJ cII cJJ : ClassId} {ad : Nat → Nat} {g : Nat} {f9_size f9_equations f9_areSteps f9_foundMany f9_many f9_rank f9_freeMany f9_arePlans f9_planMany : Int32} {ai : Nat → Nat → Int32} {al : Nat → Nat → Int64} (C : Cx p c s m meth args A dC dI (TY cI cJ cII cJJ) cX9_isPlan (some .boolean) 5 RX9 0 g) (n65 : Nat) (K65 : ∀ (L3 L4 : Int32) (H : Heap) (locs : List Loc) (ls : Array Slot), (0 ≤ L3.toInt ∧ L3.toInt ≤ 1) → (0 ≤ L4.toInt ∧ L4.toInt ≤ 3) → (1 ≤ f9_size.toInt ∧ f9_size.toInt ≤ 4) → (0 ≤ f9_equations.toInt ∧ f9_equations.toInt ≤ 3) → (0 ≤ f9_areSteps.toInt ∧ f9_areSteps.toInt ≤ 1) → (0 ≤ f9_foundMany.toInt ∧ f9_foundMany.toInt ≤ 99999) → (0 ≤ f9_many.toInt ∧ f9_many.toInt ≤ 6000) → (0 ≤ f9_rank.toInt ∧ f9_rank.toInt ≤ 3) → (0 ≤ f9_freeMany.toInt ∧ f9_freeMany.toInt ≤ 4) → (0 ≤ f9_arePlans.toInt ∧ f9_arePlans.toInt ≤ 1) → (0 ≤ f9_planMany.toInt ∧ f9_planMany.toInt ≤ 194481) → f9_equations.toInt - L4.toInt < (n65 : Int) → (0 : Int) < (n65 : Int) → IAM ai → va_P (dC, dI) vwCl (WM cI cJ cII cJJ ad f9_size f9_equations f9_areSteps f9_foundMany f9_many f9_rank f9_freeMany f9_arePlans f9_planMany ai al) H → va_D A (WM cI cJ cII cJJ ad f9_size f9_equations f9_areSteps f9_foundMany f9_many f9_rank f9_freeMany f9_arePlans f9_planMany ai al) → va_S A s.heap H locs → lv_has ls 5 [(0, .ref (ad 22)), (1, .ref (ad 20)), (2, .int 0), (3, .int L3), (4, .int L4)] → W p l e ({ frames := 3, cells := 0, slots := 0, locals := 140 } : Room) s m args below meth c H locs 0 0 (MQ below (Q_r031_X9_isPlan dC dI cI cJ cII cJJ ad f9_size f9_equations f9_areSteps f9_foundMany f9_many f9_rank f9_freeMany f9_arePlans f9_planMany ai al A) args s 0 0 A) (F0 m 65 ls [])) : ∀ (L3 L4 S0 : Int32) (H : Heap) (locs : List Loc) (ls : Array Slot), (1 ≤ L3.toInt ∧ L3.toInt ≤ 1) → (0 ≤ L4.toInt ∧ L4.toInt ≤ 2) → (0 ≤ S0.toInt ∧ S0.toInt ≤ 1) → (1 ≤ f9_size.toInt ∧ f9_size.toInt ≤ 4) → (1 ≤ f9_equations.toInt ∧ f9_equations.toInt ≤ 3) → (0 ≤ f9_areSteps.toInt ∧ f9_areSteps.toInt ≤ 1) → (0 ≤ f9_foundMany.toInt ∧ f9_foundMany.toInt ≤ 99999) → (0 ≤ f9_many.toInt ∧ f9_many.toInt ≤ 6000) → (0 ≤ f9_rank.toInt ∧ f9_rank.toInt ≤ 3) → (0 ≤ f9_freeMany.toInt ∧ f9_freeMany.toInt ≤ 4) → (0 ≤ f9_arePlans.toInt ∧ f9_arePlans.toInt ≤ 1) → (0 ≤ f9_planMany.toInt ∧ f9_planMany.toInt ≤ 194481) → L4.toInt < f9_equations.toInt → f9_equations.toInt - L4.toInt ≤ (n65 : Int) → IAM ai → va_P (dC, dI) vwCl (WM cI cJ cII cJJ ad f9_size f9_equations f9_areSteps f9_foundMany f9_many f9_rank f9_freeMany f9_arePlans f9_planMany ai al) H → va_D A (WM cI cJ cII cJJ ad f9_size f9_equations f9_areSteps f9_foundMany f9_many f9_rank f9_freeMany f9_arePlans f9_planMany ai al) → va_S A s.heap H locs → lv_has ls 5 [(0, .ref (ad 22)), (1, .ref (ad 20)), (2, .int 0), (3, .int L3), (4, .int L4)] → W p l e ({ frames := 3, cells := 0, slots := 0, locals := 140 } : Room) s m args below meth c H locs 0 0 (MQ below (Q_r031_X9_isPlan dC dI cI cJ cII cJJ ad f9_size f9_equations f9_areSteps f9_foundMany f9_many f9_rank f9_freeMany f9_arePlans f9_planMany ai al A) args s 0 0 A) (F0 m 101 ls [.int S0]) := by
  obtain ⟨hx, hb, hr, hml, hown, hts, hk, hA, hK, hX⟩ := id C
  intro L3 L4 S0 H locs ls h0 h1 h2 h3 h4 h5 h6 h7 h8 h9 h10 h11 h12 h13 hI hP hD hS hl
  refine lv_istore_n (lv' := [(3, .int S0), (0, .ref (ad 22)), (1, .ref (ad 20)), (2, .int 0), (4, .int L4)]) hx hb dX9_isPlan_101 rfl hl (by decide) rfl (fun ls_1 hl_1 => ?_)
  obtain ⟨z1, e_z1⟩ : ∃ q : Int32, q = L4 + Int32.ofInt 1 := ⟨_, rfl⟩
  have g_z1 : z1.toInt = L4.toInt + 1 := by rw [e_z1]; exact n_add (a := L4.toInt) (b := 1) rfl (by decide +kernel) (by omega) (by omega)
  refine lv_iinc (v := z1) (lv' := [(4, .int z1), (3, .int S0), (0, .ref (ad 22)), (1, .ref (ad 20)), (2, .int 0)]) hx hb dX9_isPlan_102 hl_1 (k := 4) rfl e_z1.symm (by decide) rfl (fun ls_2 hl_2 => ?_)
  refine lv_goto (tgt := 65) hx hb dX9_isPlan_105 (by decide) ?_
  exact K65 S0 z1 _ _ _ (by omega) (by omega) (by omega) (by omega) (by omega) (by omega) (by omega) (by omega) (by omega) (by omega) (by omega) (by omega) (by omega) hI hP hD hS (lv_sub hl_2 [2, 3, 4, 1, 0] rfl)
set_option maxRecDepth 100000 in
set_option maxHeartbeats 4000000 in
theorem r031_X9_isPlan_b65 {p : Program} {l : Launch} {e : Env} {s : State} {m : MethodId} {args : Array Value} {below : List Frame} {meth : Method} {c : Code} {A : Nat → Prop} {dC : Nat → ClassId} {dI : Nat → Nat → Nat} {cI cJ cII cJJ : ClassId} {ad : Nat → Nat} {g : Nat} {f9_size f9_equations f9_areSteps f9_foundMany f9_many f9_rank f9_freeMany f9_arePlans f9_planMany : Int32} {ai : Nat → Nat → Int32} {al : Nat → Nat → Int64} (C : Cx p c s m meth args A dC dI (TY cI cJ cII cJJ) cX9_isPlan (some .boolean) 5 RX9 0 g) : ∀ (n : Nat), ∀ (L3 L4 : Int32) (H : Heap) (locs : List Loc) (ls : Array Slot), (0 ≤ L3.toInt ∧ L3.toInt ≤ 1) → (0 ≤ L4.toInt ∧ L4.toInt ≤ 3) → (1 ≤ f9_size.toInt ∧ f9_size.toInt ≤ 4) → (0 ≤ f9_equations.toInt ∧ f9_equations.toInt ≤ 3) → (0 ≤ f9_areSteps.toInt ∧ f9_areSteps.toInt ≤ 1) → (0 ≤ f9_foundMany.toInt ∧ f9_foundMany.toInt ≤ 99999) → (0 ≤ f9_many.toInt ∧ f9_many.toInt ≤ 6000) → (0 ≤ f9_rank.toInt ∧ f9_rank.toInt ≤ 3) → (0 ≤ f9_freeMany.toInt ∧ f9_freeMany.toInt ≤ 4) → (0 ≤ f9_arePlans.toInt ∧ f9_arePlans.toInt ≤ 1) → (0 ≤ f9_planMany.toInt ∧ f9_planMany.toInt ≤ 194481) → f9_equations.toInt - L4.toInt < (n : Int) → (0 : Int) < (n : Int) → IAM ai → va_P (dC, dI) vwCl (WM cI cJ cII cJJ ad f9_size f9_equations f9_areSteps f9_foundMany f9_many f9_rank f9_freeMany f9_arePlans f9_planMany ai al) H → va_D A (WM cI cJ cII cJJ ad f9_size f9_equations f9_areSteps f9_foundMany f9_many f9_rank f9_freeMany f9_arePlans f9_planMany ai al) → va_S A s.heap H locs → lv_has ls 5 [(0, .ref (ad 22)), (1, .ref (ad 20)), (2, .int 0), (3, .int L3), (4, .int L4)] → W p l e ({ frames := 3, cells := 0, slots := 0, locals := 140 } : Room) s m args below meth c H locs 0 0 (MQ below (Q_r031_X9_isPlan dC dI cI cJ cII cJJ ad f9_size f9_equations f9_areSteps f9_foundMany f9_many f9_rank f9_freeMany f9_arePlans f9_planMany ai al A) args s 0 0 A) (F0 m 65 ls []) := by
  obtain ⟨hx, hb, hr, hml, hown, hts, hk, hA, hK, hX⟩ := id C
  intro n
  induction n with
  | zero =>
    intro L3 L4 H locs ls h0 h1 h2 h3 h4 h5 h6 h7 h8 h9 h10 h11 h12 hI hP hD hS hl
    exact absurd h12 (by omega)
  | succ n ih =>
    intro L3 L4 H locs ls h0 h1 h2 h3 h4 h5 h6 h7 h8 h9 h10 h11 h12 hI hP hD hS hl
    refine lv_iload hx hb dX9_isPlan_65 (lv_at hl 4 rfl) ?_
    refine lv_aload_n hx hb dX9_isPlan_67 rfl (lv_at hl 0 rfl) ?_
    refine gf (k := 13) hx hb hts inX9 hown hK hP k_808 rfl (by decide) rfl 22 rfl (.int f9_equations) rfl dX9_isPlan_68 ?_
    refine lv_icmp_ge (tgt := 108) hx hb dX9_isPlan_71 (by decide) (fun c1 => ?_) (fun c1 => ?_)
    · have c1 := j_le (a := f9_equations.toInt) (b := L4.toInt) rfl rfl c1
      exact r031_X9_isPlan_b108 C  L3 L4 _ _ _ (by omega) (by omega) (by omega) (by omega) (by omega) (by omega) (by omega) (by omega) (by omega) (by omega) (by omega) hI hP hD hS (lv_sub hl [0, 1, 2, 3, 4] rfl)
    · have c1 := j_nle (a := f9_equations.toInt) (b := L4.toInt) rfl rfl c1
      refine lv_iload_n hx hb dX9_isPlan_74 rfl (lv_at hl 3 rfl) ?_
      refine lv_if_eq (tgt := 108) hx hb dX9_isPlan_75 (by decide) (fun c2 => ?_) (fun c2 => ?_)
      · have c2 := j_eq (a := L3.toInt) (b := 0) rfl (by decide +kernel) c2
        exact r031_X9_isPlan_b108 C  L3 L4 _ _ _ (by omega) (by omega) (by omega) (by omega) (by omega) (by omega) (by omega) (by omega) (by omega) (by omega) (by omega) hI hP hD hS (lv_sub hl [0, 1, 2, 3, 4] rfl)
      · have c2 := j_ne (a := L3.toInt) (b := 0) rfl (by decide +kernel) c2
        refine lv_aload_n hx hb dX9_isPlan_78 rfl (lv_at hl 0 rfl) ?_
        refine lv_iload hx hb dX9_isPlan_79 (lv_at hl 4 rfl) ?_
        refine lv_aload_n hx hb dX9_isPlan_81 rfl (lv_at hl 1 rfl) ?_
        refine lv_iload_n hx hb dX9_isPlan_82 rfl (lv_at hl 2 rfl) ?_
        have kc0 : (0 : Int32).toInt = 0 := by decide +kernel
        have hM := r030_X9_sum l dC dI cI cJ cII cJJ H.size 0 ad f9_size f9_equations f9_areSteps f9_foundMany f9_many f9_rank f9_freeMany f9_arePlans f9_planMany ai al L4 (by omega) (by omega) (by omega) (by omega) (by omega) (by omega) (by omega) (by omega) (by omega) (by omega) hI
        refine k2V_i (q0 := 22) ⟨hx, hb, hml, hown, hts⟩ hK hP hD hS hA hX cv_RX9_191 hM ⟨by decide +kernel, by decide +kernel⟩ rfl rfl (Or.inl rfl) (rest := []) rfl rfl rfl hl.1 rfl (Nat.le_of_ble_eq_true rfl) dX9_isPlan_83 ⟨Nat.le_of_ble_eq_true rfl, Nat.le_of_ble_eq_true rfl⟩ (fun r3 t H1 locs_1 ht hB hS_1 hFc => ?_)
        obtain ⟨-, hP_2, -, hD_2⟩ := hB
        rw [ht] at hP_2
        have hD_3 := hD_2.weaken (B := A) (fun k q _ h9 => hFc q.1 h9)
        clear ht
        generalize H1 = H_4 at hP_2 hS_1 ⊢
        refine lv_aload_n hx hb dX9_isPlan_86 rfl (lv_at hl 0 rfl) ?_
        refine gf (k := 1) hx hb hts inX9 hown hK hP_2 k_796 rfl (by decide) rfl 22 rfl (.ref (ad 1)) rfl dX9_isPlan_87 ?_
        refine lv_iload hx hb dX9_isPlan_90 (lv_at hl 4 rfl) ?_
        refine va_iald hx hb hK hP_2 1 0 rfl rfl (j_in (a := L4.toInt) rfl (by omega) (by omega)) dX9_isPlan_92 ?_
        refine lv_topi (fun z4 e_z4 => ?_)
        refine lv_icmp_ne (tgt := 100) hx hb dX9_isPlan_93 (by decide) (fun c5 => ?_) (fun c5 => ?_)
        · have c5 := j_ne (a := r3.toInt) (b := z4.toInt) rfl rfl c5
          refine lv_iconst (v := 0) hx hb dX9_isPlan_100 (by decide) ?_
          exact r031_X9_isPlan_b101 C n ih L3 L4 0 _ _ _ (by first | omega | decide | (have ka0 := (by decide +kernel : (0 : Int32).toInt = 0); omega)) (by first | omega | decide | (have ka0 := (by decide +kernel : (0 : Int32).toInt = 0); omega)) (by first | omega | decide | (have ka0 := (by decide +kernel : (0 : Int32).toInt = 0); omega)) (by first | omega | decide | (have ka0 := (by decide +kernel : (0 : Int32).toInt = 0); omega)) (by first | omega | decide | (have ka0 := (by decide +kernel : (0 : Int32).toInt = 0); omega)) (by first | omega | decide | (have ka0 := (by decide +kernel : (0 : Int32).toInt = 0); omega)) (by first | omega | decide | (have ka0 := (by decide +kernel : (0 : Int32).toInt = 0); omega)) (by first | omega | decide | (have ka0 := (by decide +kernel : (0 : Int32).toInt = 0); omega)) (by first | omega | decide | (have ka0 := (by decide +kernel : (0 : Int32).toInt = 0); omega)) (by first | omega | decide | (have ka0 := (by decide +kernel : (0 : Int32).toInt = 0); omega)) (by first | omega | decide | (have ka0 := (by decide +kernel : (0 : Int32).toInt = 0); omega)) (by first | omega | decide | (have ka0 := (by decide +kernel : (0 : Int32).toInt = 0); omega)) (by first | omega | decide | (have ka0 := (by decide +kernel : (0 : Int32).toInt = 0); omega)) (by first | omega | decide | (have ka0 := (by decide +kernel : (0 : Int32).toInt = 0); omega)) hI hP_2 hD_3 hS_1 (lv_sub hl [0, 1, 2, 3, 4] rfl)
        · have c5 := j_eq (a := r3.toInt) (b := z4.toInt) rfl rfl c5
          refine lv_iconst (v := 1) hx hb dX9_isPlan_96 (by decide) ?_
          refine lv_goto (tgt := 101) hx hb dX9_isPlan_97 (by decide) ?_
          exact r031_X9_isPlan_b101 C n ih L3 L4 1 _ _ _ (by first | omega | decide | (have ka0 := (by decide +kernel : (1 : Int32).toInt = 1); omega)) (by first | omega | decide | (have ka0 := (by decide +kernel : (1 : Int32).toInt = 1); omega)) (by first | omega | decide | (have ka0 := (by decide +kernel : (1 : Int32).toInt = 1); omega)) (by first | omega | decide | (have ka0 := (by decide +kernel : (1 : Int32).toInt = 1); omega)) (by first | omega | decide | (have ka0 := (by decide +kernel : (1 : Int32).toInt = 1); omega)) (by first | omega | decide | (have ka0 := (by decide +kernel : (1 : Int32).toInt = 1); omega)) (by first | omega | decide | (have ka0 := (by decide +kernel : (1 : Int32).toInt = 1); omega)) (by first | omega | decide | (have ka0 := (by decide +kernel : (1 : Int32).toInt = 1); omega)) (by first | omega | decide | (have ka0 := (by decide +kernel : (1 : Int32).toInt = 1); omega)) (by first | omega | decide | (have ka0 := (by decide +kernel : (1 : Int32).toInt = 1); omega)) (by first | omega | decide | (have ka0 := (by decide +kernel : (1 : Int32).toInt = 1); omega)) (by first | omega | decide | (have ka0 := (by decide +kernel : (1 : Int32).toInt = 1); omega)) (by first | omega | decide | (have ka0 := (by decide +kernel : (1 : Int32).toInt = 1); omega)) (by first | omega | decide | (have ka0 := (by decide +kernel : (1 : Int32).toInt = 1); omega)) hI hP_2 hD_3 hS_1 (lv_sub hl [0, 1, 2, 3, 4] rfl)
set_option maxRecDepth 100000 in
set_option maxHeartbeats 4000000 in
theorem r031_X9_isPlan_b62 {p : Program} {l : Launch} {e : Env} {s : State} {m : MethodId} {args : Array Value} {below : List Frame} {meth : Method} {c : Code} {A : Nat → Prop} {dC : Nat → ClassId} {dI : Nat → Nat → Nat} {cI cJ cII cJJ : ClassId} {ad : Nat → Nat} {g : Nat} {f9_size f9_equations f9_areSteps f9_foundMany f9_many f9_rank f9_freeMany f9_arePlans f9_planMany : Int32} {ai : Nat → Nat → Int32} {al : Nat → Nat → Int64} (C : Cx p c s m meth args A dC dI (TY cI cJ cII cJJ) cX9_isPlan (some .boolean) 5 RX9 0 g) : ∀ (L3 L4 : Int32) (H : Heap) (locs : List Loc) (ls : Array Slot), (0 ≤ L3.toInt ∧ L3.toInt ≤ 1) → (0 ≤ L4.toInt ∧ L4.toInt ≤ 4) → (1 ≤ f9_size.toInt ∧ f9_size.toInt ≤ 4) → (0 ≤ f9_equations.toInt ∧ f9_equations.toInt ≤ 3) → (0 ≤ f9_areSteps.toInt ∧ f9_areSteps.toInt ≤ 1) → (0 ≤ f9_foundMany.toInt ∧ f9_foundMany.toInt ≤ 99999) → (0 ≤ f9_many.toInt ∧ f9_many.toInt ≤ 6000) → (0 ≤ f9_rank.toInt ∧ f9_rank.toInt ≤ 3) → (0 ≤ f9_freeMany.toInt ∧ f9_freeMany.toInt ≤ 4) → (0 ≤ f9_arePlans.toInt ∧ f9_arePlans.toInt ≤ 1) → (0 ≤ f9_planMany.toInt ∧ f9_planMany.toInt ≤ 194481) → IAM ai → va_P (dC, dI) vwCl (WM cI cJ cII cJJ ad f9_size f9_equations f9_areSteps f9_foundMany f9_many f9_rank f9_freeMany f9_arePlans f9_planMany ai al) H → va_D A (WM cI cJ cII cJJ ad f9_size f9_equations f9_areSteps f9_foundMany f9_many f9_rank f9_freeMany f9_arePlans f9_planMany ai al) → va_S A s.heap H locs → lv_has ls 5 [(0, .ref (ad 22)), (1, .ref (ad 20)), (2, .int 0), (3, .int L3), (4, .int L4)] → W p l e ({ frames := 3, cells := 0, slots := 0, locals := 140 } : Room) s m args below meth c H locs 0 0 (MQ below (Q_r031_X9_isPlan dC dI cI cJ cII cJJ ad f9_size f9_equations f9_areSteps f9_foundMany f9_many f9_rank f9_freeMany f9_arePlans f9_planMany ai al A) args s 0 0 A) (F0 m 62 ls []) := by
  obtain ⟨hx, hb, hr, hml, hown, hts, hk, hA, hK, hX⟩ := id C
  intro L3 L4 H locs ls h0 h1 h2 h3 h4 h5 h6 h7 h8 h9 h10 hI hP hD hS hl
  refine lv_iconst (v := 0) hx hb dX9_isPlan_62 (by decide) ?_
  refine lv_istore (lv' := [(4, .int 0), (0, .ref (ad 22)), (1, .ref (ad 20)), (2, .int 0), (3, .int L3)]) hx hb dX9_isPlan_63 hl (by decide) rfl (fun ls_1 hl_1 => ?_)
  exact r031_X9_isPlan_b65 C  _ L3 0 _ _ _ (by first | omega | decide | (have ka0 := (by decide +kernel : (0 : Int32).toInt = 0); omega)) (by first | omega | decide | (have ka0 := (by decide +kernel : (0 : Int32).toInt = 0); omega)) (by first | omega | decide | (have ka0 := (by decide +kernel : (0 : Int32).toInt = 0); omega)) (by first | omega | decide | (have ka0 := (by decide +kernel : (0 : Int32).toInt = 0); omega)) (by first | omega | decide | (have ka0 := (by decide +kernel : (0 : Int32).toInt = 0); omega)) (by first | omega | decide | (have ka0 := (by decide +kernel : (0 : Int32).toInt = 0); omega)) (by first | omega | decide | (have ka0 := (by decide +kernel : (0 : Int32).toInt = 0); omega)) (by first | omega | decide | (have ka0 := (by decide +kernel : (0 : Int32).toInt = 0); omega)) (by first | omega | decide | (have ka0 := (by decide +kernel : (0 : Int32).toInt = 0); omega)) (by first | omega | decide | (have ka0 := (by decide +kernel : (0 : Int32).toInt = 0); omega)) (by first | omega | decide | (have ka0 := (by decide +kernel : (0 : Int32).toInt = 0); omega)) (j_fuel _) (by omega) hI hP hD hS (lv_sub hl_1 [1, 2, 3, 4, 0] rfl)
set_option maxRecDepth 100000 in
set_option maxHeartbeats 4000000 in
theorem r031_X9_isPlan_b55 {p : Program} {l : Launch} {e : Env} {s : State} {m : MethodId} {args : Array Value} {below : List Frame} {meth : Method} {c : Code} {A : Nat → Prop} {dC : Nat → ClassId} {dI : Nat → Nat → Nat} {cI cJ cII cJJ : ClassId} {ad : Nat → Nat} {g : Nat} {f9_size f9_equations f9_areSteps f9_foundMany f9_many f9_rank f9_freeMany f9_arePlans f9_planMany : Int32} {ai : Nat → Nat → Int32} {al : Nat → Nat → Int64} (C : Cx p c s m meth args A dC dI (TY cI cJ cII cJJ) cX9_isPlan (some .boolean) 5 RX9 0 g) (n5 : Nat) (K5 : ∀ (L3 L4 : Int32) (H : Heap) (locs : List Loc) (ls : Array Slot), (0 ≤ L3.toInt ∧ L3.toInt ≤ 1) → (0 ≤ L4.toInt ∧ L4.toInt ≤ 4) → (1 ≤ f9_size.toInt ∧ f9_size.toInt ≤ 4) → (0 ≤ f9_equations.toInt ∧ f9_equations.toInt ≤ 3) → (0 ≤ f9_areSteps.toInt ∧ f9_areSteps.toInt ≤ 1) → (0 ≤ f9_foundMany.toInt ∧ f9_foundMany.toInt ≤ 99999) → (0 ≤ f9_many.toInt ∧ f9_many.toInt ≤ 6000) → (0 ≤ f9_rank.toInt ∧ f9_rank.toInt ≤ 3) → (0 ≤ f9_freeMany.toInt ∧ f9_freeMany.toInt ≤ 4) → (0 ≤ f9_arePlans.toInt ∧ f9_arePlans.toInt ≤ 1) → (0 ≤ f9_planMany.toInt ∧ f9_planMany.toInt ≤ 194481) → f9_size.toInt - L4.toInt < (n5 : Int) → (0 : Int) < (n5 : Int) → IAM ai → va_P (dC, dI) vwCl (WM cI cJ cII cJJ ad f9_size f9_equations f9_areSteps f9_foundMany f9_many f9_rank f9_freeMany f9_arePlans f9_planMany ai al) H → va_D A (WM cI cJ cII cJJ ad f9_size f9_equations f9_areSteps f9_foundMany f9_many f9_rank f9_freeMany f9_arePlans f9_planMany ai al) → va_S A s.heap H locs → lv_has ls 5 [(0, .ref (ad 22)), (1, .ref (ad 20)), (2, .int 0), (3, .int L3), (4, .int L4)] → W p l e ({ frames := 3, cells := 0, slots := 0, locals := 140 } : Room) s m args below meth c H locs 0 0 (MQ below (Q_r031_X9_isPlan dC dI cI cJ cII cJJ ad f9_size f9_equations f9_areSteps f9_foundMany f9_many f9_rank f9_freeMany f9_arePlans f9_planMany ai al A) args s 0 0 A) (F0 m 5 ls [])) : ∀ (L3 L4 S0 : Int32) (H : Heap) (locs : List Loc) (ls : Array Slot), (1 ≤ L3.toInt ∧ L3.toInt ≤ 1) → (0 ≤ L4.toInt ∧ L4.toInt ≤ 3) → (0 ≤ S0.toInt ∧ S0.toInt ≤ 1) → (1 ≤ f9_size.toInt ∧ f9_size.toInt ≤ 4) → (0 ≤ f9_equations.toInt ∧ f9_equations.toInt ≤ 3) → (0 ≤ f9_areSteps.toInt ∧ f9_areSteps.toInt ≤ 1) → (0 ≤ f9_foundMany.toInt ∧ f9_foundMany.toInt ≤ 99999) → (0 ≤ f9_many.toInt ∧ f9_many.toInt ≤ 6000) → (0 ≤ f9_rank.toInt ∧ f9_rank.toInt ≤ 3) → (0 ≤ f9_freeMany.toInt ∧ f9_freeMany.toInt ≤ 4) → (0 ≤ f9_arePlans.toInt ∧ f9_arePlans.toInt ≤ 1) → (0 ≤ f9_planMany.toInt ∧ f9_planMany.toInt ≤ 194481) → L4.toInt < f9_size.toInt → f9_size.toInt - L4.toInt ≤ (n5 : Int) → IAM ai → va_P (dC, dI) vwCl (WM cI cJ cII cJJ ad f9_size f9_equations f9_areSteps f9_foundMany f9_many f9_rank f9_freeMany f9_arePlans f9_planMany ai al) H → va_D A (WM cI cJ cII cJJ ad f9_size f9_equations f9_areSteps f9_foundMany f9_many f9_rank f9_freeMany f9_arePlans f9_planMany ai al) → va_S A s.heap H locs → lv_has ls 5 [(0, .ref (ad 22)), (1, .ref (ad 20)), (2, .int 0), (3, .int L3), (4, .int L4)] → W p l e ({ frames := 3, cells := 0, slots := 0, locals := 140 } : Room) s m args below meth c H locs 0 0 (MQ below (Q_r031_X9_isPlan dC dI cI cJ cII cJJ ad f9_size f9_equations f9_areSteps f9_foundMany f9_many f9_rank f9_freeMany f9_arePlans f9_planMany ai al A) args s 0 0 A) (F0 m 55 ls [.int S0]) := by
  obtain ⟨hx, hb, hr, hml, hown, hts, hk, hA, hK, hX⟩ := id C
  intro L3 L4 S0 H locs ls h0 h1 h2 h3 h4 h5 h6 h7 h8 h9 h10 h11 h12 h13 hI hP hD hS hl
  refine lv_istore_n (lv' := [(3, .int S0), (0, .ref (ad 22)), (1, .ref (ad 20)), (2, .int 0), (4, .int L4)]) hx hb dX9_isPlan_55 rfl hl (by decide) rfl (fun ls_1 hl_1 => ?_)
  obtain ⟨z1, e_z1⟩ : ∃ q : Int32, q = L4 + Int32.ofInt 1 := ⟨_, rfl⟩
  have g_z1 : z1.toInt = L4.toInt + 1 := by rw [e_z1]; exact n_add (a := L4.toInt) (b := 1) rfl (by decide +kernel) (by omega) (by omega)
  refine lv_iinc (v := z1) (lv' := [(4, .int z1), (3, .int S0), (0, .ref (ad 22)), (1, .ref (ad 20)), (2, .int 0)]) hx hb dX9_isPlan_56 hl_1 (k := 4) rfl e_z1.symm (by decide) rfl (fun ls_2 hl_2 => ?_)
  refine lv_goto (tgt := 5) hx hb dX9_isPlan_59 (by decide) ?_
  exact K5 S0 z1 _ _ _ (by omega) (by omega) (by omega) (by omega) (by omega) (by omega) (by omega) (by omega) (by omega) (by omega) (by omega) (by omega) (by omega) hI hP hD hS (lv_sub hl_2 [2, 3, 4, 1, 0] rfl)
set_option maxRecDepth 100000 in
set_option maxHeartbeats 4000000 in
theorem r031_X9_isPlan_b54 {p : Program} {l : Launch} {e : Env} {s : State} {m : MethodId} {args : Array Value} {below : List Frame} {meth : Method} {c : Code} {A : Nat → Prop} {dC : Nat → ClassId} {dI : Nat → Nat → Nat} {cI cJ cII cJJ : ClassId} {ad : Nat → Nat} {g : Nat} {f9_size f9_equations f9_areSteps f9_foundMany f9_many f9_rank f9_freeMany f9_arePlans f9_planMany : Int32} {ai : Nat → Nat → Int32} {al : Nat → Nat → Int64} (C : Cx p c s m meth args A dC dI (TY cI cJ cII cJJ) cX9_isPlan (some .boolean) 5 RX9 0 g) (n5 : Nat) (K5 : ∀ (L3 L4 : Int32) (H : Heap) (locs : List Loc) (ls : Array Slot), (0 ≤ L3.toInt ∧ L3.toInt ≤ 1) → (0 ≤ L4.toInt ∧ L4.toInt ≤ 4) → (1 ≤ f9_size.toInt ∧ f9_size.toInt ≤ 4) → (0 ≤ f9_equations.toInt ∧ f9_equations.toInt ≤ 3) → (0 ≤ f9_areSteps.toInt ∧ f9_areSteps.toInt ≤ 1) → (0 ≤ f9_foundMany.toInt ∧ f9_foundMany.toInt ≤ 99999) → (0 ≤ f9_many.toInt ∧ f9_many.toInt ≤ 6000) → (0 ≤ f9_rank.toInt ∧ f9_rank.toInt ≤ 3) → (0 ≤ f9_freeMany.toInt ∧ f9_freeMany.toInt ≤ 4) → (0 ≤ f9_arePlans.toInt ∧ f9_arePlans.toInt ≤ 1) → (0 ≤ f9_planMany.toInt ∧ f9_planMany.toInt ≤ 194481) → f9_size.toInt - L4.toInt < (n5 : Int) → (0 : Int) < (n5 : Int) → IAM ai → va_P (dC, dI) vwCl (WM cI cJ cII cJJ ad f9_size f9_equations f9_areSteps f9_foundMany f9_many f9_rank f9_freeMany f9_arePlans f9_planMany ai al) H → va_D A (WM cI cJ cII cJJ ad f9_size f9_equations f9_areSteps f9_foundMany f9_many f9_rank f9_freeMany f9_arePlans f9_planMany ai al) → va_S A s.heap H locs → lv_has ls 5 [(0, .ref (ad 22)), (1, .ref (ad 20)), (2, .int 0), (3, .int L3), (4, .int L4)] → W p l e ({ frames := 3, cells := 0, slots := 0, locals := 140 } : Room) s m args below meth c H locs 0 0 (MQ below (Q_r031_X9_isPlan dC dI cI cJ cII cJJ ad f9_size f9_equations f9_areSteps f9_foundMany f9_many f9_rank f9_freeMany f9_arePlans f9_planMany ai al A) args s 0 0 A) (F0 m 5 ls [])) : ∀ (L3 L4 : Int32) (H : Heap) (locs : List Loc) (ls : Array Slot), (1 ≤ L3.toInt ∧ L3.toInt ≤ 1) → (0 ≤ L4.toInt ∧ L4.toInt ≤ 3) → (1 ≤ f9_size.toInt ∧ f9_size.toInt ≤ 4) → (0 ≤ f9_equations.toInt ∧ f9_equations.toInt ≤ 3) → (0 ≤ f9_areSteps.toInt ∧ f9_areSteps.toInt ≤ 1) → (0 ≤ f9_foundMany.toInt ∧ f9_foundMany.toInt ≤ 99999) → (0 ≤ f9_many.toInt ∧ f9_many.toInt ≤ 6000) → (0 ≤ f9_rank.toInt ∧ f9_rank.toInt ≤ 3) → (0 ≤ f9_freeMany.toInt ∧ f9_freeMany.toInt ≤ 4) → (0 ≤ f9_arePlans.toInt ∧ f9_arePlans.toInt ≤ 1) → (0 ≤ f9_planMany.toInt ∧ f9_planMany.toInt ≤ 194481) → L4.toInt < f9_size.toInt → f9_size.toInt - L4.toInt ≤ (n5 : Int) → IAM ai → va_P (dC, dI) vwCl (WM cI cJ cII cJJ ad f9_size f9_equations f9_areSteps f9_foundMany f9_many f9_rank f9_freeMany f9_arePlans f9_planMany ai al) H → va_D A (WM cI cJ cII cJJ ad f9_size f9_equations f9_areSteps f9_foundMany f9_many f9_rank f9_freeMany f9_arePlans f9_planMany ai al) → va_S A s.heap H locs → lv_has ls 5 [(0, .ref (ad 22)), (1, .ref (ad 20)), (2, .int 0), (3, .int L3), (4, .int L4)] → W p l e ({ frames := 3, cells := 0, slots := 0, locals := 140 } : Room) s m args below meth c H locs 0 0 (MQ below (Q_r031_X9_isPlan dC dI cI cJ cII cJJ ad f9_size f9_equations f9_areSteps f9_foundMany f9_many f9_rank f9_freeMany f9_arePlans f9_planMany ai al A) args s 0 0 A) (F0 m 54 ls []) := by
  obtain ⟨hx, hb, hr, hml, hown, hts, hk, hA, hK, hX⟩ := id C
  intro L3 L4 H locs ls h0 h1 h2 h3 h4 h5 h6 h7 h8 h9 h10 h11 h12 hI hP hD hS hl
  refine lv_iconst (v := 0) hx hb dX9_isPlan_54 (by decide) ?_
  exact r031_X9_isPlan_b55 C n5 K5 L3 L4 0 _ _ _ (by first | omega | decide | (have ka0 := (by decide +kernel : (0 : Int32).toInt = 0); omega)) (by first | omega | decide | (have ka0 := (by decide +kernel : (0 : Int32).toInt = 0); omega)) (by first | omega | decide | (have ka0 := (by decide +kernel : (0 : Int32).toInt = 0); omega)) (by first | omega | decide | (have ka0 := (by decide +kernel : (0 : Int32).toInt = 0); omega)) (by first | omega | decide | (have ka0 := (by decide +kernel : (0 : Int32).toInt = 0); omega)) (by first | omega | decide | (have ka0 := (by decide +kernel : (0 : Int32).toInt = 0); omega)) (by first | omega | decide | (have ka0 := (by decide +kernel : (0 : Int32).toInt = 0); omega)) (by first | omega | decide | (have ka0 := (by decide +kernel : (0 : Int32).toInt = 0); omega)) (by first | omega | decide | (have ka0 := (by decide +kernel : (0 : Int32).toInt = 0); omega)) (by first | omega | decide | (have ka0 := (by decide +kernel : (0 : Int32).toInt = 0); omega)) (by first | omega | decide | (have ka0 := (by decide +kernel : (0 : Int32).toInt = 0); omega)) (by first | omega | decide | (have ka0 := (by decide +kernel : (0 : Int32).toInt = 0); omega)) (by first | omega | decide | (have ka0 := (by decide +kernel : (0 : Int32).toInt = 0); omega)) (by first | omega | decide | (have ka0 := (by decide +kernel : (0 : Int32).toInt = 0); omega)) hI hP hD hS (lv_sub hl [0, 1, 2, 3, 4] rfl)
set_option maxRecDepth 100000 in
set_option maxHeartbeats 4000000 in
theorem r031_X9_isPlan_b5 {p : Program} {l : Launch} {e : Env} {s : State} {m : MethodId} {args : Array Value} {below : List Frame} {meth : Method} {c : Code} {A : Nat → Prop} {dC : Nat → ClassId} {dI : Nat → Nat → Nat} {cI cJ cII cJJ : ClassId} {ad : Nat → Nat} {g : Nat} {f9_size f9_equations f9_areSteps f9_foundMany f9_many f9_rank f9_freeMany f9_arePlans f9_planMany : Int32} {ai : Nat → Nat → Int32} {al : Nat → Nat → Int64} (C : Cx p c s m meth args A dC dI (TY cI cJ cII cJJ) cX9_isPlan (some .boolean) 5 RX9 0 g) : ∀ (n : Nat), ∀ (L3 L4 : Int32) (H : Heap) (locs : List Loc) (ls : Array Slot), (0 ≤ L3.toInt ∧ L3.toInt ≤ 1) → (0 ≤ L4.toInt ∧ L4.toInt ≤ 4) → (1 ≤ f9_size.toInt ∧ f9_size.toInt ≤ 4) → (0 ≤ f9_equations.toInt ∧ f9_equations.toInt ≤ 3) → (0 ≤ f9_areSteps.toInt ∧ f9_areSteps.toInt ≤ 1) → (0 ≤ f9_foundMany.toInt ∧ f9_foundMany.toInt ≤ 99999) → (0 ≤ f9_many.toInt ∧ f9_many.toInt ≤ 6000) → (0 ≤ f9_rank.toInt ∧ f9_rank.toInt ≤ 3) → (0 ≤ f9_freeMany.toInt ∧ f9_freeMany.toInt ≤ 4) → (0 ≤ f9_arePlans.toInt ∧ f9_arePlans.toInt ≤ 1) → (0 ≤ f9_planMany.toInt ∧ f9_planMany.toInt ≤ 194481) → f9_size.toInt - L4.toInt < (n : Int) → (0 : Int) < (n : Int) → IAM ai → va_P (dC, dI) vwCl (WM cI cJ cII cJJ ad f9_size f9_equations f9_areSteps f9_foundMany f9_many f9_rank f9_freeMany f9_arePlans f9_planMany ai al) H → va_D A (WM cI cJ cII cJJ ad f9_size f9_equations f9_areSteps f9_foundMany f9_many f9_rank f9_freeMany f9_arePlans f9_planMany ai al) → va_S A s.heap H locs → lv_has ls 5 [(0, .ref (ad 22)), (1, .ref (ad 20)), (2, .int 0), (3, .int L3), (4, .int L4)] → W p l e ({ frames := 3, cells := 0, slots := 0, locals := 140 } : Room) s m args below meth c H locs 0 0 (MQ below (Q_r031_X9_isPlan dC dI cI cJ cII cJJ ad f9_size f9_equations f9_areSteps f9_foundMany f9_many f9_rank f9_freeMany f9_arePlans f9_planMany ai al A) args s 0 0 A) (F0 m 5 ls []) := by
  obtain ⟨hx, hb, hr, hml, hown, hts, hk, hA, hK, hX⟩ := id C
  intro n
  induction n with
  | zero =>
    intro L3 L4 H locs ls h0 h1 h2 h3 h4 h5 h6 h7 h8 h9 h10 h11 h12 hI hP hD hS hl
    exact absurd h12 (by omega)
  | succ n ih =>
    intro L3 L4 H locs ls h0 h1 h2 h3 h4 h5 h6 h7 h8 h9 h10 h11 h12 hI hP hD hS hl
    refine lv_iload hx hb dX9_isPlan_5 (lv_at hl 4 rfl) ?_
    refine lv_aload_n hx hb dX9_isPlan_7 rfl (lv_at hl 0 rfl) ?_
    refine gf (k := 12) hx hb hts inX9 hown hK hP k_807 rfl (by decide) rfl 22 rfl (.int f9_size) rfl dX9_isPlan_8 ?_
    refine lv_icmp_ge (tgt := 62) hx hb dX9_isPlan_11 (by decide) (fun c1 => ?_) (fun c1 => ?_)
    · have c1 := j_le (a := f9_size.toInt) (b := L4.toInt) rfl rfl c1
      exact r031_X9_isPlan_b62 C  L3 L4 _ _ _ (by omega) (by omega) (by omega) (by omega) (by omega) (by omega) (by omega) (by omega) (by omega) (by omega) (by omega) hI hP hD hS (lv_sub hl [0, 1, 2, 3, 4] rfl)
    · have c1 := j_nle (a := f9_size.toInt) (b := L4.toInt) rfl rfl c1
      refine lv_iload_n hx hb dX9_isPlan_14 rfl (lv_at hl 3 rfl) ?_
      refine lv_if_eq (tgt := 62) hx hb dX9_isPlan_15 (by decide) (fun c2 => ?_) (fun c2 => ?_)
      · have c2 := j_eq (a := L3.toInt) (b := 0) rfl (by decide +kernel) c2
        exact r031_X9_isPlan_b62 C  L3 L4 _ _ _ (by omega) (by omega) (by omega) (by omega) (by omega) (by omega) (by omega) (by omega) (by omega) (by omega) (by omega) hI hP hD hS (lv_sub hl [0, 1, 2, 3, 4] rfl)
      · have c2 := j_ne (a := L3.toInt) (b := 0) rfl (by decide +kernel) c2
        refine lv_aload_n hx hb dX9_isPlan_18 rfl (lv_at hl 0 rfl) ?_
        refine gf (k := 2) hx hb hts inX9 hown hK hP k_797 rfl (by decide) rfl 22 rfl (.ref (ad 23)) rfl dX9_isPlan_19 ?_
        refine lv_iload hx hb dX9_isPlan_22 (lv_at hl 4 rfl) ?_
        refine va_iald hx hb hK hP 23 0 rfl rfl (j_in (a := L4.toInt) rfl (by omega) (by omega)) dX9_isPlan_24 ?_
        refine lv_topi (fun z3 e_z3 => ?_)
        have g_z3 : -10 ≤ z3.toInt ∧ z3.toInt ≤ 10 := by rw [e_z3]; exact IAM_at23 hI _
        refine lv_aload_n hx hb dX9_isPlan_25 rfl (lv_at hl 1 rfl) ?_
        refine lv_iload_n hx hb dX9_isPlan_26 rfl (lv_at hl 2 rfl) ?_
        refine lv_iload hx hb dX9_isPlan_27 (lv_at hl 4 rfl) ?_
        refine v_iadd hx hb dX9_isPlan_29 _ rfl ?_
        refine lv_topi (fun z4 e_z4 => ?_)
        have g_z4 : z4.toInt = 0 + L4.toInt := by rw [e_z4]; exact n_add (a := 0) (b := L4.toInt) (by decide +kernel) rfl (by omega) (by omega)
        refine va_iald hx hb hK hP 20 0 rfl rfl (j_in (a := z4.toInt) rfl (by omega) (by omega)) dX9_isPlan_30 ?_
        refine lv_topi (fun z5 e_z5 => ?_)
        refine lv_icmp_gt (tgt := 54) hx hb dX9_isPlan_31 (by decide) (fun c6 => ?_) (fun c6 => ?_)
        · have c6 := j_lt (a := z5.toInt) (b := z3.toInt) rfl rfl c6
          exact r031_X9_isPlan_b54 C n ih L3 L4 _ _ _ (by omega) (by omega) (by omega) (by omega) (by omega) (by omega) (by omega) (by omega) (by omega) (by omega) (by omega) (by omega) (by omega) hI hP hD hS (lv_sub hl [0, 1, 2, 3, 4] rfl)
        · have c6 := j_nlt (a := z5.toInt) (b := z3.toInt) rfl rfl c6
          refine lv_aload_n hx hb dX9_isPlan_34 rfl (lv_at hl 1 rfl) ?_
          refine lv_iload_n hx hb dX9_isPlan_35 rfl (lv_at hl 2 rfl) ?_
          refine lv_iload hx hb dX9_isPlan_36 (lv_at hl 4 rfl) ?_
          refine v_iadd hx hb dX9_isPlan_38 _ rfl ?_
          refine lv_topi (fun z7 e_z7 => ?_)
          have g_z7 : z7.toInt = 0 + L4.toInt := by rw [e_z7]; exact n_add (a := 0) (b := L4.toInt) (by decide +kernel) rfl (by omega) (by omega)
          refine va_iald hx hb hK hP 20 0 rfl rfl (j_in (a := z7.toInt) rfl (by omega) (by omega)) dX9_isPlan_39 ?_
          refine lv_topi (fun z8 e_z8 => ?_)
          refine lv_aload_n hx hb dX9_isPlan_40 rfl (lv_at hl 0 rfl) ?_
          refine gf (k := 3) hx hb hts inX9 hown hK hP k_798 rfl (by decide) rfl 22 rfl (.ref (ad 24)) rfl dX9_isPlan_41 ?_
          refine lv_iload hx hb dX9_isPlan_44 (lv_at hl 4 rfl) ?_
          refine va_iald hx hb hK hP 24 0 rfl rfl (j_in (a := L4.toInt) rfl (by omega) (by omega)) dX9_isPlan_46 ?_
          refine lv_topi (fun z9 e_z9 => ?_)
          have g_z9 : -10 ≤ z9.toInt ∧ z9.toInt ≤ 10 := by rw [e_z9]; exact IAM_at24 hI _
          refine lv_icmp_gt (tgt := 54) hx hb dX9_isPlan_47 (by decide) (fun c10 => ?_) (fun c10 => ?_)
          · have c10 := j_lt (a := z9.toInt) (b := z8.toInt) rfl rfl c10
            exact r031_X9_isPlan_b54 C n ih L3 L4 _ _ _ (by omega) (by omega) (by omega) (by omega) (by omega) (by omega) (by omega) (by omega) (by omega) (by omega) (by omega) (by omega) (by omega) hI hP hD hS (lv_sub hl [0, 1, 2, 3, 4] rfl)
          · have c10 := j_nlt (a := z9.toInt) (b := z8.toInt) rfl rfl c10
            refine lv_iconst (v := 1) hx hb dX9_isPlan_50 (by decide) ?_
            refine lv_goto (tgt := 55) hx hb dX9_isPlan_51 (by decide) ?_
            exact r031_X9_isPlan_b55 C n ih L3 L4 1 _ _ _ (by first | omega | decide | (have ka0 := (by decide +kernel : (1 : Int32).toInt = 1); omega)) (by first | omega | decide | (have ka0 := (by decide +kernel : (1 : Int32).toInt = 1); omega)) (by first | omega | decide | (have ka0 := (by decide +kernel : (1 : Int32).toInt = 1); omega)) (by first | omega | decide | (have ka0 := (by decide +kernel : (1 : Int32).toInt = 1); omega)) (by first | omega | decide | (have ka0 := (by decide +kernel : (1 : Int32).toInt = 1); omega)) (by first | omega | decide | (have ka0 := (by decide +kernel : (1 : Int32).toInt = 1); omega)) (by first | omega | decide | (have ka0 := (by decide +kernel : (1 : Int32).toInt = 1); omega)) (by first | omega | decide | (have ka0 := (by decide +kernel : (1 : Int32).toInt = 1); omega)) (by first | omega | decide | (have ka0 := (by decide +kernel : (1 : Int32).toInt = 1); omega)) (by first | omega | decide | (have ka0 := (by decide +kernel : (1 : Int32).toInt = 1); omega)) (by first | omega | decide | (have ka0 := (by decide +kernel : (1 : Int32).toInt = 1); omega)) (by first | omega | decide | (have ka0 := (by decide +kernel : (1 : Int32).toInt = 1); omega)) (by first | omega | decide | (have ka0 := (by decide +kernel : (1 : Int32).toInt = 1); omega)) (by first | omega | decide | (have ka0 := (by decide +kernel : (1 : Int32).toInt = 1); omega)) hI hP hD hS (lv_sub hl [0, 1, 2, 3, 4] rfl)
set_option maxRecDepth 100000 in
set_option maxHeartbeats 4000000 in
theorem r031_X9_isPlan (l : Launch) (dC : Nat → ClassId) (dI : Nat → Nat → Nat) (cI cJ cII cJJ : ClassId) (sz g : Nat) (ad : Nat → Nat) (f9_size f9_equations f9_areSteps f9_foundMany f9_many f9_rank f9_freeMany f9_arePlans f9_planMany : Int32) (ai : Nat → Nat → Int32) (al : Nat → Nat → Int64) (h_f9_size : (1 ≤ f9_size.toInt ∧ f9_size.toInt ≤ 4)) (h_f9_equations : (0 ≤ f9_equations.toInt ∧ f9_equations.toInt ≤ 3)) (h_f9_areSteps : (0 ≤ f9_areSteps.toInt ∧ f9_areSteps.toInt ≤ 1)) (h_f9_foundMany : (0 ≤ f9_foundMany.toInt ∧ f9_foundMany.toInt ≤ 99999)) (h_f9_many : (0 ≤ f9_many.toInt ∧ f9_many.toInt ≤ 6000)) (h_f9_rank : (0 ≤ f9_rank.toInt ∧ f9_rank.toInt ≤ 3)) (h_f9_freeMany : (0 ≤ f9_freeMany.toInt ∧ f9_freeMany.toInt ≤ 4)) (h_f9_arePlans : (0 ≤ f9_arePlans.toInt ∧ f9_arePlans.toInt ≤ 1)) (h_f9_planMany : (0 ≤ f9_planMany.toInt ∧ f9_planMany.toInt ≤ 194481)) (hI : IAM ai) : Met l yX9_isPlan (.code yX9_isPlan cX9_isPlan 5 (some .boolean) :: TT) ({ frames := 3, cells := 0, slots := 0, locals := 140 } : Room) (PcS dC dI (TY cI cJ cII cJJ) [.ref (ad 22), .ref (ad 20), .int 0] (WM cI cJ cII cJJ ad f9_size f9_equations f9_areSteps f9_foundMany f9_many f9_rank f9_freeMany f9_arePlans f9_planMany ai al) sz 0 g) (Q_r031_X9_isPlan dC dI cI cJ cII cJJ ad f9_size f9_equations f9_areSteps f9_foundMany f9_many f9_rank f9_freeMany f9_arePlans f9_planMany ai al (va_A (WM cI cJ cII cJJ ad f9_size f9_equations f9_areSteps f9_foundMany f9_many f9_rank f9_freeMany f9_arePlans f9_planMany ai al) sz)) 0 0 (va_A (WM cI cJ cII cJJ ad f9_size f9_equations f9_areSteps f9_foundMany f9_many f9_rank f9_freeMany f9_arePlans f9_planMany ai al) sz) := by
  refine SM.of (y := yX9_isPlan) (maxL := 5) (av := [.ref (ad 22), .ref (ad 20), .int 0]) (Q_r031_X9_isPlan dC dI cI cJ cII cJJ ad f9_size f9_equations f9_areSteps f9_foundMany f9_many f9_rank f9_freeMany f9_arePlans f9_planMany ai al) (by decide +kernel) (Nat.le_of_ble_eq_true rfl) (fun p e s m below meth c A ls hx hb hr hml hown hts hk hnm hA hK hP hD hS hX hl => ?_)
  have C : Cx p c s m meth (([.ref (ad 22), .ref (ad 20), .int 0] : List Value).toArray) A dC dI (TY cI cJ cII cJJ) cX9_isPlan (some .boolean) 5 RX9 0 g := ⟨hx, hb, hr, hml, hown, hts, hk, hA, hK, hX⟩
  have hown : s.vm.findClass RX9 = some m.cls := hown
  have hl : lv_has ls 5 [(0, .ref (ad 22)), (1, .ref (ad 20)), (2, .int 0)] := hl
  obtain ⟨H, hH⟩ : ∃ q, q = s.heap := ⟨_, rfl⟩
  rw [← hH] at hP
  have hS : va_S A s.heap H [] := by rw [hH]; exact hS
  rw [← hH]
  refine lv_iconst (v := 1) hx hb dX9_isPlan_0 (by decide) ?_
  refine lv_istore_n (lv' := [(3, .int 1), (0, .ref (ad 22)), (1, .ref (ad 20)), (2, .int 0)]) hx hb dX9_isPlan_1 rfl hl (by decide) rfl (fun ls_1 hl_1 => ?_)
  refine lv_iconst (v := 0) hx hb dX9_isPlan_2 (by decide) ?_
  refine lv_istore (lv' := [(4, .int 0), (3, .int 1), (0, .ref (ad 22)), (1, .ref (ad 20)), (2, .int 0)]) hx hb dX9_isPlan_3 hl_1 (by decide) rfl (fun ls_2 hl_2 => ?_)
  exact r031_X9_isPlan_b5 C  _ 1 0 _ _ _ (by first | omega | decide | (have ka0 := (by decide +kernel : (0 : Int32).toInt = 0); have ka1 := (by decide +kernel : (1 : Int32).toInt = 1); omega)) (by first | omega | decide | (have ka0 := (by decide +kernel : (0 : Int32).toInt = 0); have ka1 := (by decide +kernel : (1 : Int32).toInt = 1); omega)) (by first | omega | decide | (have ka0 := (by decide +kernel : (0 : Int32).toInt = 0); have ka1 := (by decide +kernel : (1 : Int32).toInt = 1); omega)) (by first | omega | decide | (have ka0 := (by decide +kernel : (0 : Int32).toInt = 0); have ka1 := (by decide +kernel : (1 : Int32).toInt = 1); omega)) (by first | omega | decide | (have ka0 := (by decide +kernel : (0 : Int32).toInt = 0); have ka1 := (by decide +kernel : (1 : Int32).toInt = 1); omega)) (by first | omega | decide | (have ka0 := (by decide +kernel : (0 : Int32).toInt = 0); have ka1 := (by decide +kernel : (1 : Int32).toInt = 1); omega)) (by first | omega | decide | (have ka0 := (by decide +kernel : (0 : Int32).toInt = 0); have ka1 := (by decide +kernel : (1 : Int32).toInt = 1); omega)) (by first | omega | decide | (have ka0 := (by decide +kernel : (0 : Int32).toInt = 0); have ka1 := (by decide +kernel : (1 : Int32).toInt = 1); omega)) (by first | omega | decide | (have ka0 := (by decide +kernel : (0 : Int32).toInt = 0); have ka1 := (by decide +kernel : (1 : Int32).toInt = 1); omega)) (by first | omega | decide | (have ka0 := (by decide +kernel : (0 : Int32).toInt = 0); have ka1 := (by decide +kernel : (1 : Int32).toInt = 1); omega)) (by first | omega | decide | (have ka0 := (by decide +kernel : (0 : Int32).toInt = 0); have ka1 := (by decide +kernel : (1 : Int32).toInt = 1); omega)) (j_fuel _) (by omega) hI hP hD hS (lv_sub hl_2 [2, 3, 4, 1, 0] rfl)
def Q_r032_X9_gathers (dC : Nat → ClassId) (dI : Nat → Nat → Nat) (cI cJ cII cJJ : ClassId) (ad : Nat → Nat) (f9_size f9_equations f9_areSteps f9_foundMany f9_many f9_rank f9_freeMany f9_arePlans : Int32) (ai0 : Nat → Nat → Int32) (al : Nat → Nat → Int64) (o_f9_planMany : Int32) : (Nat → Prop) → Array Value → State → Outcome → State → Prop := fun A => QV (fun t => ∃ (n_f9_planMany : Int32), ∃ (n_ai : Nat → Nat → Int32), ((0 ≤ n_f9_planMany.toInt ∧ n_f9_planMany.toInt ≤ 194481) ∧ (o_f9_planMany.toInt ≤ n_f9_planMany.toInt ∧ n_f9_planMany.toInt ≤ o_f9_planMany.toInt + pw21 (f9_size.toInt.toNat - 4)) ∧ (n_ai 24 0).toInt = (ai0 24 0).toInt ∧ (n_ai 24 1).toInt = (ai0 24 1).toInt ∧ (n_ai 24 2).toInt = (ai0 24 2).toInt ∧ (n_ai 24 3).toInt = (ai0 24 3).toInt ∧ IAM n_ai ∧ FR [21] ai0 n_ai) ∧ WO dC dI (TY cI cJ cII cJJ) (WM cI cJ cII cJJ ad f9_size f9_equations f9_areSteps f9_foundMany f9_many f9_rank f9_freeMany f9_arePlans n_f9_planMany n_ai al) A t) A
set_option maxRecDepth 100000 in
set_option maxHeartbeats 4000000 in
theorem r032_X9_gathers_b61 {p : Program} {l : Launch} {e : Env} {s : State} {m : MethodId} {args : Array Value} {below : List Frame} {meth : Method} {c : Code} {A : Nat → Prop} {dC : Nat → ClassId} {dI : Nat → Nat → Nat} {cI cJ cII cJJ : ClassId} {ad : Nat → Nat} {g : Nat} {f9_size f9_equations f9_areSteps f9_foundMany f9_many f9_rank f9_freeMany f9_arePlans : Int32} {ai0 : Nat → Nat → Int32} {al : Nat → Nat → Int64} {o_f9_planMany : Int32} (C : Cx p c s m meth args A dC dI (TY cI cJ cII cJJ) cX9_gathers none 3 RX9 0 g) (hp0 : o_f9_planMany.toInt + pw21 (f9_size.toInt.toNat - 4) ≤ 194481) : ∀ (n : Nat), ∀ (L2 f9_planMany : Int32) (ai : Nat → Nat → Int32) (H : Heap) (locs : List Loc) (ls : Array Slot), (0 ≤ L2.toInt ∧ L2.toInt ≤ 4) → (1 ≤ f9_size.toInt ∧ f9_size.toInt ≤ 4) → (0 ≤ f9_equations.toInt ∧ f9_equations.toInt ≤ 3) → (0 ≤ f9_areSteps.toInt ∧ f9_areSteps.toInt ≤ 1) → (0 ≤ f9_foundMany.toInt ∧ f9_foundMany.toInt ≤ 99999) → (0 ≤ f9_many.toInt ∧ f9_many.toInt ≤ 6000) → (0 ≤ f9_rank.toInt ∧ f9_rank.toInt ≤ 3) → (0 ≤ f9_freeMany.toInt ∧ f9_freeMany.toInt ≤ 4) → (0 ≤ f9_arePlans.toInt ∧ f9_arePlans.toInt ≤ 1) → (0 ≤ f9_planMany.toInt ∧ f9_planMany.toInt ≤ 194480) → f9_planMany.toInt = o_f9_planMany.toInt → (ai 24 0).toInt = (ai0 24 0).toInt → (ai 24 1).toInt = (ai0 24 1).toInt → (ai 24 2).toInt = (ai0 24 2).toInt → (ai 24 3).toInt = (ai0 24 3).toInt → f9_size.toInt - L2.toInt < (n : Int) → (0 : Int) < (n : Int) → IAM ai → FR [21] ai0 ai → va_P (dC, dI) vwCl (WM cI cJ cII cJJ ad f9_size f9_equations f9_areSteps f9_foundMany f9_many f9_rank f9_freeMany f9_arePlans f9_planMany ai al) H → va_D A (WM cI cJ cII cJJ ad f9_size f9_equations f9_areSteps f9_foundMany f9_many f9_rank f9_freeMany f9_arePlans f9_planMany ai al) → va_S A s.heap H locs → lv_has ls 3 [(0, .ref (ad 22)), (1, .int 4), (2, .int L2)] → W p l e ({ frames := 4, cells := 0, slots := 0, locals := 200 } : Room) s m args below meth c H locs 0 0 (MQ below (Q_r032_X9_gathers dC dI cI cJ cII cJJ ad f9_size f9_equations f9_areSteps f9_foundMany f9_many f9_rank f9_freeMany f9_arePlans ai0 al o_f9_planMany A) args s 0 0 A) (F0 m 61 ls []) := by
  obtain ⟨hx, hb, hr, hml, hown, hts, hk, hA, hK, hX⟩ := id C
  intro n
  induction n with
  | zero =>
    intro L2 f9_planMany ai H locs ls h0 h1 h2 h3 h4 h5 h6 h7 h8 h9 h10 h11 h12 h13 h14 h15 h16 hI hF hP hD hS hl
    exact absurd h16 (by omega)
  | succ n ih =>
    intro L2 f9_planMany ai H locs ls h0 h1 h2 h3 h4 h5 h6 h7 h8 h9 h10 h11 h12 h13 h14 h15 h16 hI hF hP hD hS hl
    refine lv_iload_n hx hb dX9_gathers_61 rfl (lv_at hl 2 rfl) ?_
    refine lv_aload_n hx hb dX9_gathers_62 rfl (lv_at hl 0 rfl) ?_
    refine gf (k := 12) hx hb hts inX9 hown hK hP k_807 rfl (by decide) rfl 22 rfl (.int f9_size) rfl dX9_gathers_63 ?_
    refine lv_icmp_ge (tgt := 94) hx hb dX9_gathers_66 (by decide) (fun c1 => ?_) (fun c1 => ?_)
    · have c1 := j_le (a := f9_size.toInt) (b := L2.toInt) rfl rfl c1
      refine lv_aload_n hx hb dX9_gathers_94 rfl (lv_at hl 0 rfl) ?_
      refine lv_dup hx hb dX9_gathers_95 rfl ?_
      refine gf (k := 35) hx hb hts inX9 hown hK hP k_830 rfl (by decide) rfl 22 rfl (.int f9_planMany) rfl dX9_gathers_96 ?_
      refine lv_iconst (v := 1) hx hb dX9_gathers_99 (by decide) ?_
      refine v_iadd hx hb dX9_gathers_100 _ rfl ?_
      refine lv_topi (fun z2 e_z2 => ?_)
      have g_z2 : z2.toInt = f9_planMany.toInt + 1 ∧ z2.toInt ≤ 194481 := by rw [e_z2, n_add (a := f9_planMany.toInt) (b := 1) rfl (by decide +kernel) (by omega) (by omega)]; omega
      refine pf (k := 35) hx hb hts inX9 tyX9_ok nmX9 hown hK hP hD hS k_830 rfl (by decide) rfl rfl 22 rfl rfl rfl (Nat.le_of_ble_eq_true rfl) dX9_gathers_101 (W' := (WM cI cJ cII cJJ ad f9_size f9_equations f9_areSteps f9_foundMany f9_many f9_rank f9_freeMany f9_arePlans z2 ai al)) rfl (fun H_1 locs_1 hP_1 hD_1 hS_1 => ?_)
      exact r2_v hx hb hr hk hS_1 dX9_gathers_104 (fun t ht hW => ⟨z2, ai, ⟨(by first | omega | decide | exact Or.inl (by decide) | exact Or.inr (by decide) | exact Or.inr (by omega)), (by have q := pw21_pos (f9_size.toInt.toNat - 4); omega), (by first | omega | decide | exact Or.inl (by decide) | exact Or.inr (by decide) | exact Or.inr (by omega)), (by first | omega | decide | exact Or.inl (by decide) | exact Or.inr (by decide) | exact Or.inr (by omega)), (by first | omega | decide | exact Or.inl (by decide) | exact Or.inr (by decide) | exact Or.inr (by omega)), (by first | omega | decide | exact Or.inl (by decide) | exact Or.inr (by decide) | exact Or.inr (by omega)), hI, hF⟩, by rw [ht]; exact hP_1, va_K.moved hW.alike hK, hD_1⟩)
    · have c1 := j_nle (a := f9_size.toInt) (b := L2.toInt) rfl rfl c1
      refine lv_aload_n hx hb dX9_gathers_69 rfl (lv_at hl 0 rfl) ?_
      refine gf (k := 34) hx hb hts inX9 hown hK hP k_829 rfl (by decide) rfl 22 rfl (.ref (ad 21)) rfl dX9_gathers_70 ?_
      refine lv_iconst (v := 4) hx hb dX9_gathers_73 (by decide) ?_
      refine lv_aload_n hx hb dX9_gathers_74 rfl (lv_at hl 0 rfl) ?_
      refine gf (k := 35) hx hb hts inX9 hown hK hP k_830 rfl (by decide) rfl 22 rfl (.int f9_planMany) rfl dX9_gathers_75 ?_
      refine v_imul hx hb dX9_gathers_78 _ rfl ?_
      refine lv_topi (fun z3 e_z3 => ?_)
      have g_z3 : z3.toInt = 4 * f9_planMany.toInt := by rw [e_z3]; exact n_mul (a := 4) (b := f9_planMany.toInt) (by decide +kernel) rfl (by omega) (by omega)
      refine lv_iload_n hx hb dX9_gathers_79 rfl (lv_at hl 2 rfl) ?_
      refine v_iadd hx hb dX9_gathers_80 _ rfl ?_
      refine lv_topi (fun z4 e_z4 => ?_)
      have g_z4 : z4.toInt = z3.toInt + L2.toInt := by rw [e_z4]; exact n_add (a := z3.toInt) (b := L2.toInt) rfl rfl (by omega) (by omega)
      refine lv_aload_n hx hb dX9_gathers_81 rfl (lv_at hl 0 rfl) ?_
      refine gf (k := 32) hx hb hts inX9 hown hK hP k_827 rfl (by decide) rfl 22 rfl (.ref (ad 20)) rfl dX9_gathers_82 ?_
      refine lv_iload_n hx hb dX9_gathers_85 rfl (lv_at hl 2 rfl) ?_
      refine va_iald hx hb hK hP 20 0 rfl rfl (j_in (a := L2.toInt) rfl (by omega) (by omega)) dX9_gathers_86 ?_
      refine lv_topi (fun z5 e_z5 => ?_)
      refine va_iast hx hb hK hP hD hS 21 0 rfl rfl (j_in (a := z4.toInt) rfl (by omega) (by omega)) dX9_gathers_87 (fun H_2 locs_2 hP_2 hD_2 hS_2 => ?_)
      obtain ⟨ai6, e_ai6⟩ : ∃ q : Nat → Nat → Int32, q = va_up ai 21 (upd (ai 21) z4.toNatClampNeg z5) := ⟨_, rfl⟩
      have hF_3 := FR_st hF e_ai6 (by decide)
      have hI_4 : IAM ai6 := by rw [e_ai6]; exact hI
      have hP_5 : va_P (dC, dI) vwCl (WM cI cJ cII cJJ ad f9_size f9_equations f9_areSteps f9_foundMany f9_many f9_rank f9_freeMany f9_arePlans f9_planMany ai6 al) H_2 := by rw [e_ai6]; exact hP_2
      have hD_6 : va_D A (WM cI cJ cII cJJ ad f9_size f9_equations f9_areSteps f9_foundMany f9_many f9_rank f9_freeMany f9_arePlans f9_planMany ai6 al) := by rw [e_ai6]; exact hD_2
      have tk_ai6_24_0 : (ai6 24 0).toInt = (ai 24 0).toInt := by rw [e_ai6]; rfl
      have tk_ai6_24_1 : (ai6 24 1).toInt = (ai 24 1).toInt := by rw [e_ai6]; rfl
      have tk_ai6_24_2 : (ai6 24 2).toInt = (ai 24 2).toInt := by rw [e_ai6]; rfl
      have tk_ai6_24_3 : (ai6 24 3).toInt = (ai 24 3).toInt := by rw [e_ai6]; rfl
      obtain ⟨z7, e_z7⟩ : ∃ q : Int32, q = L2 + Int32.ofInt 1 := ⟨_, rfl⟩
      have g_z7 : z7.toInt = L2.toInt + 1 := by rw [e_z7]; exact n_add (a := L2.toInt) (b := 1) rfl (by decide +kernel) (by omega) (by omega)
      refine lv_iinc (v := z7) (lv' := [(2, .int z7), (0, .ref (ad 22)), (1, .int 4)]) hx hb dX9_gathers_88 hl (k := 2) rfl e_z7.symm (by decide) rfl (fun ls_7 hl_7 => ?_)
      refine lv_goto (tgt := 61) hx hb dX9_gathers_91 (by decide) ?_
      exact ih z7 f9_planMany ai6 _ _ _ (by omega) (by omega) (by omega) (by omega) (by omega) (by omega) (by omega) (by omega) (by omega) (by omega) (by omega) (by omega) (by omega) (by omega) (by omega) (by omega) (by omega) hI_4 hF_3 hP_5 hD_6 hS_2 (lv_sub hl_7 [1, 2, 0] rfl)
set_option maxRecDepth 100000 in
set_option maxHeartbeats 4000000 in
theorem r032_X9_gathers (l : Launch) (dC : Nat → ClassId) (dI : Nat → Nat → Nat) (cI cJ cII cJJ : ClassId) (sz g : Nat) (ad : Nat → Nat) (f9_size f9_equations f9_areSteps f9_foundMany f9_many f9_rank f9_freeMany f9_arePlans f9_planMany : Int32) (ai : Nat → Nat → Int32) (al : Nat → Nat → Int64) (h_f9_size : (1 ≤ f9_size.toInt ∧ f9_size.toInt ≤ 4)) (h_f9_equations : (0 ≤ f9_equations.toInt ∧ f9_equations.toInt ≤ 3)) (h_f9_areSteps : (0 ≤ f9_areSteps.toInt ∧ f9_areSteps.toInt ≤ 1)) (h_f9_foundMany : (0 ≤ f9_foundMany.toInt ∧ f9_foundMany.toInt ≤ 99999)) (h_f9_many : (0 ≤ f9_many.toInt ∧ f9_many.toInt ≤ 6000)) (h_f9_rank : (0 ≤ f9_rank.toInt ∧ f9_rank.toInt ≤ 3)) (h_f9_freeMany : (0 ≤ f9_freeMany.toInt ∧ f9_freeMany.toInt ≤ 4)) (h_f9_arePlans : (0 ≤ f9_arePlans.toInt ∧ f9_arePlans.toInt ≤ 1)) (h_f9_planMany : (0 ≤ f9_planMany.toInt ∧ f9_planMany.toInt ≤ 194481)) (hp0 : f9_planMany.toInt + pw21 (f9_size.toInt.toNat - 4) ≤ 194481) (hI : IAM ai) : Met l yX9_gathers (.code yX9_gathers cX9_gathers 3 none :: TT) ({ frames := 4, cells := 0, slots := 0, locals := 200 } : Room) (PcS dC dI (TY cI cJ cII cJJ) [.ref (ad 22), .int 4] (WM cI cJ cII cJJ ad f9_size f9_equations f9_areSteps f9_foundMany f9_many f9_rank f9_freeMany f9_arePlans f9_planMany ai al) sz 0 g) (Q_r032_X9_gathers dC dI cI cJ cII cJJ ad f9_size f9_equations f9_areSteps f9_foundMany f9_many f9_rank f9_freeMany f9_arePlans ai al f9_planMany (va_A (WM cI cJ cII cJJ ad f9_size f9_equations f9_areSteps f9_foundMany f9_many f9_rank f9_freeMany f9_arePlans f9_planMany ai al) sz)) 0 0 (va_A (WM cI cJ cII cJJ ad f9_size f9_equations f9_areSteps f9_foundMany f9_many f9_rank f9_freeMany f9_arePlans f9_planMany ai al) sz) := by
  refine SM.of (y := yX9_gathers) (maxL := 3) (av := [.ref (ad 22), .int 4]) (Q_r032_X9_gathers dC dI cI cJ cII cJJ ad f9_size f9_equations f9_areSteps f9_foundMany f9_many f9_rank f9_freeMany f9_arePlans ai al f9_planMany) (by decide +kernel) (Nat.le_of_ble_eq_true rfl) (fun p e s m below meth c A ls hx hb hr hml hown hts hk hnm hA hK hP hD hS hX hl => ?_)
  have C : Cx p c s m meth (([.ref (ad 22), .int 4] : List Value).toArray) A dC dI (TY cI cJ cII cJJ) cX9_gathers none 3 RX9 0 g := ⟨hx, hb, hr, hml, hown, hts, hk, hA, hK, hX⟩
  have hown : s.vm.findClass RX9 = some m.cls := hown
  have hl : lv_has ls 3 [(0, .ref (ad 22)), (1, .int 4)] := hl
  obtain ⟨H, hH⟩ : ∃ q, q = s.heap := ⟨_, rfl⟩
  rw [← hH] at hP
  have hS : va_S A s.heap H [] := by rw [hH]; exact hS
  rw [← hH]
  have hF := FR_refl [21] ai
  refine lv_iload_n hx hb dX9_gathers_0 rfl (lv_at hl 1 rfl) ?_
  refine lv_aload_n hx hb dX9_gathers_1 rfl (lv_at hl 0 rfl) ?_
  refine gf (k := 12) hx hb hts inX9 hown hK hP k_807 rfl (by decide) rfl 22 rfl (.int f9_size) rfl dX9_gathers_2 ?_
  refine t_icmp_ge hx hb dX9_gathers_5 46 (by decide) (q_le (a := f9_size.toInt) (b := 4) rfl (by decide +kernel) (by omega)) ?_
  refine lv_aload_n hx hb dX9_gathers_46 rfl (lv_at hl 0 rfl) ?_
  refine lv_aload_n hx hb dX9_gathers_47 rfl (lv_at hl 0 rfl) ?_
  refine gf (k := 32) hx hb hts inX9 hown hK hP k_827 rfl (by decide) rfl 22 rfl (.ref (ad 20)) rfl dX9_gathers_48 ?_
  refine lv_iconst (v := 0) hx hb dX9_gathers_51 (by decide) ?_
  have kc0 : (0 : Int32).toInt = 0 := by decide +kernel
  have hM := r031_X9_isPlan l dC dI cI cJ cII cJJ H.size 0 ad f9_size f9_equations f9_areSteps f9_foundMany f9_many f9_rank f9_freeMany f9_arePlans f9_planMany ai al (by omega) (by omega) (by omega) (by omega) (by omega) (by omega) (by omega) (by omega) (by omega) hI
  refine k2V_i (q0 := 22) ⟨hx, hb, hml, hown, hts⟩ hK hP hD hS hA hX cv_RX9_199 hM ⟨by decide +kernel, by decide +kernel⟩ rfl rfl (Or.inl rfl) (rest := []) rfl rfl rfl hl.1 rfl (Nat.le_of_ble_eq_true rfl) dX9_gathers_52 ⟨Nat.le_of_ble_eq_true rfl, Nat.le_of_ble_eq_true rfl⟩ (fun r1 t H1 locs_1 ht hB hS_1 hFc => ?_)
  obtain ⟨gpr1_0, hP_2, -, hD_2⟩ := hB
  rw [ht] at hP_2
  have hD_3 := hD_2.weaken (B := A) (fun k q _ h9 => hFc q.1 h9)
  clear ht
  generalize H1 = H_4 at hP_2 hS_1 ⊢
  refine lv_if_ne (tgt := 59) hx hb dX9_gathers_55 (by decide) (fun c2 => ?_) (fun c2 => ?_)
  · have c2 := j_ne (a := r1.toInt) (b := 0) rfl (by decide +kernel) c2
    have q_p := pw21_pos (f9_size.toInt.toNat - 4)
    refine lv_iconst (v := 0) hx hb dX9_gathers_59 (by decide) ?_
    refine lv_istore_n (lv' := [(2, .int 0), (0, .ref (ad 22)), (1, .int 4)]) hx hb dX9_gathers_60 rfl hl (by decide) rfl (fun ls_5 hl_5 => ?_)
    exact r032_X9_gathers_b61 C hp0  _ 0 f9_planMany ai _ _ _ (by first | omega | decide | (have ka0 := (by decide +kernel : (0 : Int32).toInt = 0); omega)) (by first | omega | decide | (have ka0 := (by decide +kernel : (0 : Int32).toInt = 0); omega)) (by first | omega | decide | (have ka0 := (by decide +kernel : (0 : Int32).toInt = 0); omega)) (by first | omega | decide | (have ka0 := (by decide +kernel : (0 : Int32).toInt = 0); omega)) (by first | omega | decide | (have ka0 := (by decide +kernel : (0 : Int32).toInt = 0); omega)) (by first | omega | decide | (have ka0 := (by decide +kernel : (0 : Int32).toInt = 0); omega)) (by first | omega | decide | (have ka0 := (by decide +kernel : (0 : Int32).toInt = 0); omega)) (by first | omega | decide | (have ka0 := (by decide +kernel : (0 : Int32).toInt = 0); omega)) (by first | omega | decide | (have ka0 := (by decide +kernel : (0 : Int32).toInt = 0); omega)) (by first | omega | decide | (have ka0 := (by decide +kernel : (0 : Int32).toInt = 0); omega)) (by first | omega | decide | (have ka0 := (by decide +kernel : (0 : Int32).toInt = 0); omega)) (by first | omega | decide | (have ka0 := (by decide +kernel : (0 : Int32).toInt = 0); omega)) (by first | omega | decide | (have ka0 := (by decide +kernel : (0 : Int32).toInt = 0); omega)) (by first | omega | decide | (have ka0 := (by decide +kernel : (0 : Int32).toInt = 0); omega)) (by first | omega | decide | (have ka0 := (by decide +kernel : (0 : Int32).toInt = 0); omega)) (j_fuel _) (by omega) hI hF hP_2 hD_3 hS_1 (lv_sub hl_5 [1, 2, 0] rfl)
  · have c2 := j_eq (a := r1.toInt) (b := 0) rfl (by decide +kernel) c2
    exact r2_v hx hb hr hk hS_1 dX9_gathers_58 (fun t ht hW => ⟨f9_planMany, ai, ⟨(by first | omega | decide | exact Or.inl (by decide) | exact Or.inr (by decide) | exact Or.inr (by omega)), (by have q := pw21_pos (f9_size.toInt.toNat - 4); omega), (by first | omega | decide | exact Or.inl (by decide) | exact Or.inr (by decide) | exact Or.inr (by omega)), (by first | omega | decide | exact Or.inl (by decide) | exact Or.inr (by decide) | exact Or.inr (by omega)), (by first | omega | decide | exact Or.inl (by decide) | exact Or.inr (by decide) | exact Or.inr (by omega)), (by first | omega | decide | exact Or.inl (by decide) | exact Or.inr (by decide) | exact Or.inr (by omega)), hI, hF⟩, by rw [ht]; exact hP_2, va_K.moved hW.alike hK, hD_3⟩)
def Q_r033_X9_gathers (dC : Nat → ClassId) (dI : Nat → Nat → Nat) (cI cJ cII cJJ : ClassId) (ad : Nat → Nat) (f9_size f9_equations f9_areSteps f9_foundMany f9_many f9_rank f9_freeMany f9_arePlans : Int32) (ai0 : Nat → Nat → Int32) (al : Nat → Nat → Int64) (o_f9_planMany : Int32) : (Nat → Prop) → Array Value → State → Outcome → State → Prop := fun A => QV (fun t => ∃ (n_f9_planMany : Int32), ∃ (n_ai : Nat → Nat → Int32), ((0 ≤ n_f9_planMany.toInt ∧ n_f9_planMany.toInt ≤ 194481) ∧ (o_f9_planMany.toInt ≤ n_f9_planMany.toInt ∧ n_f9_planMany.toInt ≤ o_f9_planMany.toInt + pw21 (f9_size.toInt.toNat - 3)) ∧ (n_ai 24 0).toInt = (ai0 24 0).toInt ∧ (n_ai 24 1).toInt = (ai0 24 1).toInt ∧ (n_ai 24 2).toInt = (ai0 24 2).toInt ∧ (n_ai 24 3).toInt = (ai0 24 3).toInt ∧ IAM n_ai ∧ FR [20, 21] ai0 n_ai) ∧ WO dC dI (TY cI cJ cII cJJ) (WM cI cJ cII cJJ ad f9_size f9_equations f9_areSteps f9_foundMany f9_many f9_rank f9_freeMany f9_arePlans n_f9_planMany n_ai al) A t) A
set_option maxRecDepth 100000 in
set_option maxHeartbeats 4000000 in
theorem r033_X9_gathers_b61 {p : Program} {l : Launch} {e : Env} {s : State} {m : MethodId} {args : Array Value} {below : List Frame} {meth : Method} {c : Code} {A : Nat → Prop} {dC : Nat → ClassId} {dI : Nat → Nat → Nat} {cI cJ cII cJJ : ClassId} {ad : Nat → Nat} {g : Nat} {f9_size f9_equations f9_areSteps f9_foundMany f9_many f9_rank f9_freeMany f9_arePlans : Int32} {ai0 : Nat → Nat → Int32} {al : Nat → Nat → Int64} {o_f9_planMany : Int32} (C : Cx p c s m meth args A dC dI (TY cI cJ cII cJJ) cX9_gathers none 3 RX9 0 g) (hp0 : o_f9_planMany.toInt + pw21 (f9_size.toInt.toNat - 3) ≤ 194481) : ∀ (n : Nat), ∀ (L2 f9_planMany : Int32) (ai : Nat → Nat → Int32) (H : Heap) (locs : List Loc) (ls : Array Slot), (0 ≤ L2.toInt ∧ L2.toInt ≤ 3) → (1 ≤ f9_size.toInt ∧ f9_size.toInt ≤ 3) → (0 ≤ f9_equations.toInt ∧ f9_equations.toInt ≤ 3) → (0 ≤ f9_areSteps.toInt ∧ f9_areSteps.toInt ≤ 1) → (0 ≤ f9_foundMany.toInt ∧ f9_foundMany.toInt ≤ 99999) → (0 ≤ f9_many.toInt ∧ f9_many.toInt ≤ 6000) → (0 ≤ f9_rank.toInt ∧ f9_rank.toInt ≤ 3) → (0 ≤ f9_freeMany.toInt ∧ f9_freeMany.toInt ≤ 4) → (0 ≤ f9_arePlans.toInt ∧ f9_arePlans.toInt ≤ 1) → (0 ≤ f9_planMany.toInt ∧ f9_planMany.toInt ≤ 194480) → f9_planMany.toInt = o_f9_planMany.toInt → (ai 24 0).toInt = (ai0 24 0).toInt → (ai 24 1).toInt = (ai0 24 1).toInt → (ai 24 2).toInt = (ai0 24 2).toInt → (ai 24 3).toInt = (ai0 24 3).toInt → f9_size.toInt - L2.toInt < (n : Int) → (0 : Int) < (n : Int) → IAM ai → FR [20, 21] ai0 ai → va_P (dC, dI) vwCl (WM cI cJ cII cJJ ad f9_size f9_equations f9_areSteps f9_foundMany f9_many f9_rank f9_freeMany f9_arePlans f9_planMany ai al) H → va_D A (WM cI cJ cII cJJ ad f9_size f9_equations f9_areSteps f9_foundMany f9_many f9_rank f9_freeMany f9_arePlans f9_planMany ai al) → va_S A s.heap H locs → lv_has ls 3 [(0, .ref (ad 22)), (1, .int 3), (2, .int L2)] → W p l e ({ frames := 5, cells := 0, slots := 0, locals := 260 } : Room) s m args below meth c H locs 0 0 (MQ below (Q_r033_X9_gathers dC dI cI cJ cII cJJ ad f9_size f9_equations f9_areSteps f9_foundMany f9_many f9_rank f9_freeMany f9_arePlans ai0 al o_f9_planMany A) args s 0 0 A) (F0 m 61 ls []) := by
  obtain ⟨hx, hb, hr, hml, hown, hts, hk, hA, hK, hX⟩ := id C
  intro n
  induction n with
  | zero =>
    intro L2 f9_planMany ai H locs ls h0 h1 h2 h3 h4 h5 h6 h7 h8 h9 h10 h11 h12 h13 h14 h15 h16 hI hF hP hD hS hl
    exact absurd h16 (by omega)
  | succ n ih =>
    intro L2 f9_planMany ai H locs ls h0 h1 h2 h3 h4 h5 h6 h7 h8 h9 h10 h11 h12 h13 h14 h15 h16 hI hF hP hD hS hl
    refine lv_iload_n hx hb dX9_gathers_61 rfl (lv_at hl 2 rfl) ?_
    refine lv_aload_n hx hb dX9_gathers_62 rfl (lv_at hl 0 rfl) ?_
    refine gf (k := 12) hx hb hts inX9 hown hK hP k_807 rfl (by decide) rfl 22 rfl (.int f9_size) rfl dX9_gathers_63 ?_
    refine lv_icmp_ge (tgt := 94) hx hb dX9_gathers_66 (by decide) (fun c1 => ?_) (fun c1 => ?_)
    · have c1 := j_le (a := f9_size.toInt) (b := L2.toInt) rfl rfl c1
      refine lv_aload_n hx hb dX9_gathers_94 rfl (lv_at hl 0 rfl) ?_
      refine lv_dup hx hb dX9_gathers_95 rfl ?_
      refine gf (k := 35) hx hb hts inX9 hown hK hP k_830 rfl (by decide) rfl 22 rfl (.int f9_planMany) rfl dX9_gathers_96 ?_
      refine lv_iconst (v := 1) hx hb dX9_gathers_99 (by decide) ?_
      refine v_iadd hx hb dX9_gathers_100 _ rfl ?_
      refine lv_topi (fun z2 e_z2 => ?_)
      have g_z2 : z2.toInt = f9_planMany.toInt + 1 ∧ z2.toInt ≤ 194481 := by rw [e_z2, n_add (a := f9_planMany.toInt) (b := 1) rfl (by decide +kernel) (by omega) (by omega)]; omega
      refine pf (k := 35) hx hb hts inX9 tyX9_ok nmX9 hown hK hP hD hS k_830 rfl (by decide) rfl rfl 22 rfl rfl rfl (Nat.le_of_ble_eq_true rfl) dX9_gathers_101 (W' := (WM cI cJ cII cJJ ad f9_size f9_equations f9_areSteps f9_foundMany f9_many f9_rank f9_freeMany f9_arePlans z2 ai al)) rfl (fun H_1 locs_1 hP_1 hD_1 hS_1 => ?_)
      exact r2_v hx hb hr hk hS_1 dX9_gathers_104 (fun t ht hW => ⟨z2, ai, ⟨(by first | omega | decide | exact Or.inl (by decide) | exact Or.inr (by decide) | exact Or.inr (by omega)), (by have q := pw21_pos (f9_size.toInt.toNat - 3); omega), (by first | omega | decide | exact Or.inl (by decide) | exact Or.inr (by decide) | exact Or.inr (by omega)), (by first | omega | decide | exact Or.inl (by decide) | exact Or.inr (by decide) | exact Or.inr (by omega)), (by first | omega | decide | exact Or.inl (by decide) | exact Or.inr (by decide) | exact Or.inr (by omega)), (by first | omega | decide | exact Or.inl (by decide) | exact Or.inr (by decide) | exact Or.inr (by omega)), hI, hF⟩, by rw [ht]; exact hP_1, va_K.moved hW.alike hK, hD_1⟩)
    · have c1 := j_nle (a := f9_size.toInt) (b := L2.toInt) rfl rfl c1
      refine lv_aload_n hx hb dX9_gathers_69 rfl (lv_at hl 0 rfl) ?_
      refine gf (k := 34) hx hb hts inX9 hown hK hP k_829 rfl (by decide) rfl 22 rfl (.ref (ad 21)) rfl dX9_gathers_70 ?_
      refine lv_iconst (v := 4) hx hb dX9_gathers_73 (by decide) ?_
      refine lv_aload_n hx hb dX9_gathers_74 rfl (lv_at hl 0 rfl) ?_
      refine gf (k := 35) hx hb hts inX9 hown hK hP k_830 rfl (by decide) rfl 22 rfl (.int f9_planMany) rfl dX9_gathers_75 ?_
      refine v_imul hx hb dX9_gathers_78 _ rfl ?_
      refine lv_topi (fun z3 e_z3 => ?_)
      have g_z3 : z3.toInt = 4 * f9_planMany.toInt := by rw [e_z3]; exact n_mul (a := 4) (b := f9_planMany.toInt) (by decide +kernel) rfl (by omega) (by omega)
      refine lv_iload_n hx hb dX9_gathers_79 rfl (lv_at hl 2 rfl) ?_
      refine v_iadd hx hb dX9_gathers_80 _ rfl ?_
      refine lv_topi (fun z4 e_z4 => ?_)
      have g_z4 : z4.toInt = z3.toInt + L2.toInt := by rw [e_z4]; exact n_add (a := z3.toInt) (b := L2.toInt) rfl rfl (by omega) (by omega)
      refine lv_aload_n hx hb dX9_gathers_81 rfl (lv_at hl 0 rfl) ?_
      refine gf (k := 32) hx hb hts inX9 hown hK hP k_827 rfl (by decide) rfl 22 rfl (.ref (ad 20)) rfl dX9_gathers_82 ?_
      refine lv_iload_n hx hb dX9_gathers_85 rfl (lv_at hl 2 rfl) ?_
      refine va_iald hx hb hK hP 20 0 rfl rfl (j_in (a := L2.toInt) rfl (by omega) (by omega)) dX9_gathers_86 ?_
      refine lv_topi (fun z5 e_z5 => ?_)
      refine va_iast hx hb hK hP hD hS 21 0 rfl rfl (j_in (a := z4.toInt) rfl (by omega) (by omega)) dX9_gathers_87 (fun H_2 locs_2 hP_2 hD_2 hS_2 => ?_)
      obtain ⟨ai6, e_ai6⟩ : ∃ q : Nat → Nat → Int32, q = va_up ai 21 (upd (ai 21) z4.toNatClampNeg z5) := ⟨_, rfl⟩
      have hF_3 := FR_st hF e_ai6 (by decide)
      have hI_4 : IAM ai6 := by rw [e_ai6]; exact hI
      have hP_5 : va_P (dC, dI) vwCl (WM cI cJ cII cJJ ad f9_size f9_equations f9_areSteps f9_foundMany f9_many f9_rank f9_freeMany f9_arePlans f9_planMany ai6 al) H_2 := by rw [e_ai6]; exact hP_2
      have hD_6 : va_D A (WM cI cJ cII cJJ ad f9_size f9_equations f9_areSteps f9_foundMany f9_many f9_rank f9_freeMany f9_arePlans f9_planMany ai6 al) := by rw [e_ai6]; exact hD_2
      have tk_ai6_24_0 : (ai6 24 0).toInt = (ai 24 0).toInt := by rw [e_ai6]; rfl
      have tk_ai6_24_1 : (ai6 24 1).toInt = (ai 24 1).toInt := by rw [e_ai6]; rfl
      have tk_ai6_24_2 : (ai6 24 2).toInt = (ai 24 2).toInt := by rw [e_ai6]; rfl
      have tk_ai6_24_3 : (ai6 24 3).toInt = (ai 24 3).toInt := by rw [e_ai6]; rfl
      obtain ⟨z7, e_z7⟩ : ∃ q : Int32, q = L2 + Int32.ofInt 1 := ⟨_, rfl⟩
      have g_z7 : z7.toInt = L2.toInt + 1 := by rw [e_z7]; exact n_add (a := L2.toInt) (b := 1) rfl (by decide +kernel) (by omega) (by omega)
      refine lv_iinc (v := z7) (lv' := [(2, .int z7), (0, .ref (ad 22)), (1, .int 3)]) hx hb dX9_gathers_88 hl (k := 2) rfl e_z7.symm (by decide) rfl (fun ls_7 hl_7 => ?_)
      refine lv_goto (tgt := 61) hx hb dX9_gathers_91 (by decide) ?_
      exact ih z7 f9_planMany ai6 _ _ _ (by omega) (by omega) (by omega) (by omega) (by omega) (by omega) (by omega) (by omega) (by omega) (by omega) (by omega) (by omega) (by omega) (by omega) (by omega) (by omega) (by omega) hI_4 hF_3 hP_5 hD_6 hS_2 (lv_sub hl_7 [1, 2, 0] rfl)
set_option maxRecDepth 100000 in
set_option maxHeartbeats 4000000 in
theorem r033_X9_gathers_b15 {p : Program} {l : Launch} {e : Env} {s : State} {m : MethodId} {args : Array Value} {below : List Frame} {meth : Method} {c : Code} {A : Nat → Prop} {dC : Nat → ClassId} {dI : Nat → Nat → Nat} {cI cJ cII cJJ : ClassId} {ad : Nat → Nat} {g : Nat} {f9_size f9_equations f9_areSteps f9_foundMany f9_many f9_rank f9_freeMany f9_arePlans : Int32} {ai0 : Nat → Nat → Int32} {al : Nat → Nat → Int64} {o_f9_planMany : Int32} (C : Cx p c s m meth args A dC dI (TY cI cJ cII cJJ) cX9_gathers none 3 RX9 0 g) (hp0 : o_f9_planMany.toInt + pw21 (f9_size.toInt.toNat - 3) ≤ 194481) : ∀ (n : Nat), ∀ (L2 f9_planMany : Int32) (ai : Nat → Nat → Int32) (H : Heap) (locs : List Loc) (ls : Array Slot), (-10 ≤ L2.toInt ∧ L2.toInt ≤ 11) → (4 ≤ f9_size.toInt ∧ f9_size.toInt ≤ 4) → (0 ≤ f9_equations.toInt ∧ f9_equations.toInt ≤ 3) → (0 ≤ f9_areSteps.toInt ∧ f9_areSteps.toInt ≤ 1) → (0 ≤ f9_foundMany.toInt ∧ f9_foundMany.toInt ≤ 99999) → (0 ≤ f9_many.toInt ∧ f9_many.toInt ≤ 6000) → (0 ≤ f9_rank.toInt ∧ f9_rank.toInt ≤ 3) → (0 ≤ f9_freeMany.toInt ∧ f9_freeMany.toInt ≤ 4) → (0 ≤ f9_arePlans.toInt ∧ f9_arePlans.toInt ≤ 1) → (0 ≤ f9_planMany.toInt ∧ f9_planMany.toInt ≤ 194481) → (o_f9_planMany.toInt ≤ f9_planMany.toInt ∧ f9_planMany.toInt ≤ o_f9_planMany.toInt + (L2.toInt + 10) * pw21 (f9_size.toInt.toNat - (3 + 1))) → L2.toInt ≤ 11 → (ai 24 0).toInt = (ai0 24 0).toInt → (ai 24 1).toInt = (ai0 24 1).toInt → (ai 24 2).toInt = (ai0 24 2).toInt → (ai 24 3).toInt = (ai0 24 3).toInt → (ai 24 3).toInt + 1 - L2.toInt < (n : Int) → (0 : Int) < (n : Int) → IAM ai → FR [20, 21] ai0 ai → va_P (dC, dI) vwCl (WM cI cJ cII cJJ ad f9_size f9_equations f9_areSteps f9_foundMany f9_many f9_rank f9_freeMany f9_arePlans f9_planMany ai al) H → va_D A (WM cI cJ cII cJJ ad f9_size f9_equations f9_areSteps f9_foundMany f9_many f9_rank f9_freeMany f9_arePlans f9_planMany ai al) → va_S A s.heap H locs → lv_has ls 3 [(0, .ref (ad 22)), (1, .int 3), (2, .int L2)] → W p l e ({ frames := 5, cells := 0, slots := 0, locals := 260 } : Room) s m args below meth c H locs 0 0 (MQ below (Q_r033_X9_gathers dC dI cI cJ cII cJJ ad f9_size f9_equations f9_areSteps f9_foundMany f9_many f9_rank f9_freeMany f9_arePlans ai0 al o_f9_planMany A) args s 0 0 A) (F0 m 15 ls []) := by
  obtain ⟨hx, hb, hr, hml, hown, hts, hk, hA, hK, hX⟩ := id C
  intro n
  induction n with
  | zero =>
    intro L2 f9_planMany ai H locs ls h0 h1 h2 h3 h4 h5 h6 h7 h8 h9 h10 h11 h12 h13 h14 h15 h16 h17 hI hF hP hD hS hl
    exact absurd h17 (by omega)
  | succ n ih =>
    intro L2 f9_planMany ai H locs ls h0 h1 h2 h3 h4 h5 h6 h7 h8 h9 h10 h11 h12 h13 h14 h15 h16 h17 hI hF hP hD hS hl
    refine lv_iload_n hx hb dX9_gathers_15 rfl (lv_at hl 2 rfl) ?_
    refine lv_aload_n hx hb dX9_gathers_16 rfl (lv_at hl 0 rfl) ?_
    refine gf (k := 3) hx hb hts inX9 hown hK hP k_798 rfl (by decide) rfl 22 rfl (.ref (ad 24)) rfl dX9_gathers_17 ?_
    refine lv_iload_n hx hb dX9_gathers_20 rfl (lv_at hl 1 rfl) ?_
    refine va_iald hx hb hK hP 24 0 rfl rfl (vin (by decide +kernel)) dX9_gathers_21 ?_
    refine lv_topi (fun z1 e_z1 => ?_)
    have k_z1 : z1.toInt = (ai 24 3).toInt := by rw [e_z1]; rfl
    have g_z1 : -10 ≤ z1.toInt ∧ z1.toInt ≤ 10 := by rw [e_z1]; exact IAM_at24 hI _
    refine lv_icmp_gt (tgt := 45) hx hb dX9_gathers_22 (by decide) (fun c2 => ?_) (fun c2 => ?_)
    · have c2 := j_lt (a := z1.toInt) (b := L2.toInt) rfl rfl c2
      exact r2_v hx hb hr hk hS dX9_gathers_45 (fun t ht hW => ⟨f9_planMany, ai, ⟨(by first | omega | decide | exact Or.inl (by decide) | exact Or.inr (by decide) | exact Or.inr (by omega)), (by rw [pw21_s (by omega)]; exact pw_e2 (b := 10) h10 (by omega) (by have q := pw21_pos (f9_size.toInt.toNat - (3 + 1)); omega)), (by first | omega | decide | exact Or.inl (by decide) | exact Or.inr (by decide) | exact Or.inr (by omega)), (by first | omega | decide | exact Or.inl (by decide) | exact Or.inr (by decide) | exact Or.inr (by omega)), (by first | omega | decide | exact Or.inl (by decide) | exact Or.inr (by decide) | exact Or.inr (by omega)), (by first | omega | decide | exact Or.inl (by decide) | exact Or.inr (by decide) | exact Or.inr (by omega)), hI, hF⟩, by rw [ht]; exact hP, va_K.moved hW.alike hK, hD⟩)
    · have c2 := j_nlt (a := z1.toInt) (b := L2.toInt) rfl rfl c2
      refine lv_aload_n hx hb dX9_gathers_25 rfl (lv_at hl 0 rfl) ?_
      refine gf (k := 32) hx hb hts inX9 hown hK hP k_827 rfl (by decide) rfl 22 rfl (.ref (ad 20)) rfl dX9_gathers_26 ?_
      refine lv_iload_n hx hb dX9_gathers_29 rfl (lv_at hl 1 rfl) ?_
      refine lv_iload_n hx hb dX9_gathers_30 rfl (lv_at hl 2 rfl) ?_
      refine va_iast hx hb hK hP hD hS 20 0 rfl rfl (vin (by decide +kernel)) dX9_gathers_31 (fun H_1 locs_1 hP_1 hD_1 hS_1 => ?_)
      obtain ⟨ai3, e_ai3⟩ : ∃ q : Nat → Nat → Int32, q = va_up ai 20 (upd (ai 20) (3 : Int32).toNatClampNeg L2) := ⟨_, rfl⟩
      have hF_2 := FR_st hF e_ai3 (by decide)
      have hI_3 : IAM ai3 := by rw [e_ai3]; exact hI
      have hP_4 : va_P (dC, dI) vwCl (WM cI cJ cII cJJ ad f9_size f9_equations f9_areSteps f9_foundMany f9_many f9_rank f9_freeMany f9_arePlans f9_planMany ai3 al) H_1 := by rw [e_ai3]; exact hP_1
      have hD_5 : va_D A (WM cI cJ cII cJJ ad f9_size f9_equations f9_areSteps f9_foundMany f9_many f9_rank f9_freeMany f9_arePlans f9_planMany ai3 al) := by rw [e_ai3]; exact hD_1
      have tk_ai3_24_0 : (ai3 24 0).toInt = (ai 24 0).toInt := by rw [e_ai3]; rfl
      have tk_ai3_24_1 : (ai3 24 1).toInt = (ai 24 1).toInt := by rw [e_ai3]; rfl
      have tk_ai3_24_2 : (ai3 24 2).toInt = (ai 24 2).toInt := by rw [e_ai3]; rfl
      have tk_ai3_24_3 : (ai3 24 3).toInt = (ai 24 3).toInt := by rw [e_ai3]; rfl
      refine lv_aload_n hx hb dX9_gathers_32 rfl (lv_at hl 0 rfl) ?_
      refine lv_iload_n hx hb dX9_gathers_33 rfl (lv_at hl 1 rfl) ?_
      refine lv_iconst (v := 1) hx hb dX9_gathers_34 (by decide) ?_
      refine v_iadd hx hb dX9_gathers_35 4 (by decide +kernel) ?_
      have kc4 : (4 : Int32).toInt = 4 := by decide +kernel
      have hM := r032_X9_gathers l dC dI cI cJ cII cJJ H_1.size 0 ad f9_size f9_equations f9_areSteps f9_foundMany f9_many f9_rank f9_freeMany f9_arePlans f9_planMany ai3 al (by omega) (by omega) (by omega) (by omega) (by omega) (by omega) (by omega) (by omega) (by omega) (pw_pre (b := 10) h10.2 (by omega) (pw21_pos _) (by have q := hp0; rw [pw21_s (by omega)] at q; exact q)) hI_3
      refine k2V_v (q0 := 22) ⟨hx, hb, hml, hown, hts⟩ hK hP_4 hD_5 hS_1 hA hX cv_RX9_235 hM ⟨by decide +kernel, by decide +kernel⟩ rfl rfl (Or.inl rfl) (rest := []) rfl rfl rfl hl.1 rfl (Nat.le_of_ble_eq_true rfl) dX9_gathers_36 ⟨Nat.le_of_ble_eq_true rfl, Nat.le_of_ble_eq_true rfl⟩ (fun t H1 locs_6 ht hB hS_6 hFc => ?_)
      obtain ⟨v5, ai6, ⟨gpr4_0, gpr4_1, gpr4_2, gpr4_3, gpr4_4, gpr4_5, hI_7, hFr_r4⟩, hP_7, -, hD_7⟩ := hB
      have hF_8 := FR_tr hF_2 hFr_r4 (by decide)
      rw [ht] at hP_7
      have hD_9 := hD_7.weaken (B := A) (fun k q _ h9 => hFc q.1 h9)
      clear ht
      generalize H1 = H_10 at hP_7 hS_6 ⊢
      obtain ⟨z7, e_z7⟩ : ∃ q : Int32, q = L2 + Int32.ofInt 1 := ⟨_, rfl⟩
      have g_z7 : z7.toInt = L2.toInt + 1 := by rw [e_z7]; exact n_add (a := L2.toInt) (b := 1) rfl (by decide +kernel) (by omega) (by omega)
      refine lv_iinc (v := z7) (lv' := [(2, .int z7), (0, .ref (ad 22)), (1, .int 3)]) hx hb dX9_gathers_39 hl (k := 2) rfl e_z7.symm (by decide) rfl (fun ls_11 hl_11 => ?_)
      refine lv_goto (tgt := 15) hx hb dX9_gathers_42 (by decide) ?_
      exact ih z7 v5 ai6 _ _ _ (by omega) (by omega) (by omega) (by omega) (by omega) (by omega) (by omega) (by omega) (by omega) (by omega) (pw_stp h10 gpr4_1 (by omega)) (by omega) (by omega) (by omega) (by omega) (by omega) (by omega) (by omega) hI_7 hF_8 hP_7 hD_9 hS_6 (lv_sub hl_11 [1, 2, 0] rfl)
set_option maxRecDepth 100000 in
set_option maxHeartbeats 4000000 in
theorem r033_X9_gathers (l : Launch) (dC : Nat → ClassId) (dI : Nat → Nat → Nat) (cI cJ cII cJJ : ClassId) (sz g : Nat) (ad : Nat → Nat) (f9_size f9_equations f9_areSteps f9_foundMany f9_many f9_rank f9_freeMany f9_arePlans f9_planMany : Int32) (ai : Nat → Nat → Int32) (al : Nat → Nat → Int64) (h_f9_size : (1 ≤ f9_size.toInt ∧ f9_size.toInt ≤ 4)) (h_f9_equations : (0 ≤ f9_equations.toInt ∧ f9_equations.toInt ≤ 3)) (h_f9_areSteps : (0 ≤ f9_areSteps.toInt ∧ f9_areSteps.toInt ≤ 1)) (h_f9_foundMany : (0 ≤ f9_foundMany.toInt ∧ f9_foundMany.toInt ≤ 99999)) (h_f9_many : (0 ≤ f9_many.toInt ∧ f9_many.toInt ≤ 6000)) (h_f9_rank : (0 ≤ f9_rank.toInt ∧ f9_rank.toInt ≤ 3)) (h_f9_freeMany : (0 ≤ f9_freeMany.toInt ∧ f9_freeMany.toInt ≤ 4)) (h_f9_arePlans : (0 ≤ f9_arePlans.toInt ∧ f9_arePlans.toInt ≤ 1)) (h_f9_planMany : (0 ≤ f9_planMany.toInt ∧ f9_planMany.toInt ≤ 194481)) (hp0 : f9_planMany.toInt + pw21 (f9_size.toInt.toNat - 3) ≤ 194481) (hI : IAM ai) : Met l yX9_gathers (.code yX9_gathers cX9_gathers 3 none :: TT) ({ frames := 5, cells := 0, slots := 0, locals := 260 } : Room) (PcS dC dI (TY cI cJ cII cJJ) [.ref (ad 22), .int 3] (WM cI cJ cII cJJ ad f9_size f9_equations f9_areSteps f9_foundMany f9_many f9_rank f9_freeMany f9_arePlans f9_planMany ai al) sz 0 g) (Q_r033_X9_gathers dC dI cI cJ cII cJJ ad f9_size f9_equations f9_areSteps f9_foundMany f9_many f9_rank f9_freeMany f9_arePlans ai al f9_planMany (va_A (WM cI cJ cII cJJ ad f9_size f9_equations f9_areSteps f9_foundMany f9_many f9_rank f9_freeMany f9_arePlans f9_planMany ai al) sz)) 0 0 (va_A (WM cI cJ cII cJJ ad f9_size f9_equations f9_areSteps f9_foundMany f9_many f9_rank f9_freeMany f9_arePlans f9_planMany ai al) sz) := by
  refine SM.of (y := yX9_gathers) (maxL := 3) (av := [.ref (ad 22), .int 3]) (Q_r033_X9_gathers dC dI cI cJ cII cJJ ad f9_size f9_equations f9_areSteps f9_foundMany f9_many f9_rank f9_freeMany f9_arePlans ai al f9_planMany) (by decide +kernel) (Nat.le_of_ble_eq_true rfl) (fun p e s m below meth c A ls hx hb hr hml hown hts hk hnm hA hK hP hD hS hX hl => ?_)
  have C : Cx p c s m meth (([.ref (ad 22), .int 3] : List Value).toArray) A dC dI (TY cI cJ cII cJJ) cX9_gathers none 3 RX9 0 g := ⟨hx, hb, hr, hml, hown, hts, hk, hA, hK, hX⟩
  have hown : s.vm.findClass RX9 = some m.cls := hown
  have hl : lv_has ls 3 [(0, .ref (ad 22)), (1, .int 3)] := hl
  obtain ⟨H, hH⟩ : ∃ q, q = s.heap := ⟨_, rfl⟩
  rw [← hH] at hP
  have hS : va_S A s.heap H [] := by rw [hH]; exact hS
  rw [← hH]
  have hF := FR_refl [20, 21] ai
  refine lv_iload_n hx hb dX9_gathers_0 rfl (lv_at hl 1 rfl) ?_
  refine lv_aload_n hx hb dX9_gathers_1 rfl (lv_at hl 0 rfl) ?_
  refine gf (k := 12) hx hb hts inX9 hown hK hP k_807 rfl (by decide) rfl 22 rfl (.int f9_size) rfl dX9_gathers_2 ?_
  refine lv_icmp_ge (tgt := 46) hx hb dX9_gathers_5 (by decide) (fun c1 => ?_) (fun c1 => ?_)
  · have c1 := j_le (a := f9_size.toInt) (b := 3) rfl (by decide +kernel) c1
    refine lv_aload_n hx hb dX9_gathers_46 rfl (lv_at hl 0 rfl) ?_
    refine lv_aload_n hx hb dX9_gathers_47 rfl (lv_at hl 0 rfl) ?_
    refine gf (k := 32) hx hb hts inX9 hown hK hP k_827 rfl (by decide) rfl 22 rfl (.ref (ad 20)) rfl dX9_gathers_48 ?_
    refine lv_iconst (v := 0) hx hb dX9_gathers_51 (by decide) ?_
    have kc0 : (0 : Int32).toInt = 0 := by decide +kernel
    have hM := r031_X9_isPlan l dC dI cI cJ cII cJJ H.size 0 ad f9_size f9_equations f9_areSteps f9_foundMany f9_many f9_rank f9_freeMany f9_arePlans f9_planMany ai al (by omega) (by omega) (by omega) (by omega) (by omega) (by omega) (by omega) (by omega) (by omega) hI
    refine k2V_i (q0 := 22) ⟨hx, hb, hml, hown, hts⟩ hK hP hD hS hA hX cv_RX9_199 hM ⟨by decide +kernel, by decide +kernel⟩ rfl rfl (Or.inl rfl) (rest := []) rfl rfl rfl hl.1 rfl (Nat.le_of_ble_eq_true rfl) dX9_gathers_52 ⟨Nat.le_of_ble_eq_true rfl, Nat.le_of_ble_eq_true rfl⟩ (fun r2 t H1 locs_1 ht hB hS_1 hFc => ?_)
    obtain ⟨gpr2_0, hP_2, -, hD_2⟩ := hB
    rw [ht] at hP_2
    have hD_3 := hD_2.weaken (B := A) (fun k q _ h9 => hFc q.1 h9)
    clear ht
    generalize H1 = H_4 at hP_2 hS_1 ⊢
    refine lv_if_ne (tgt := 59) hx hb dX9_gathers_55 (by decide) (fun c3 => ?_) (fun c3 => ?_)
    · have c3 := j_ne (a := r2.toInt) (b := 0) rfl (by decide +kernel) c3
      have q_p := pw21_pos (f9_size.toInt.toNat - 3)
      refine lv_iconst (v := 0) hx hb dX9_gathers_59 (by decide) ?_
      refine lv_istore_n (lv' := [(2, .int 0), (0, .ref (ad 22)), (1, .int 3)]) hx hb dX9_gathers_60 rfl hl (by decide) rfl (fun ls_5 hl_5 => ?_)
      exact r033_X9_gathers_b61 C hp0  _ 0 f9_planMany ai _ _ _ (by first | omega | decide | (have ka0 := (by decide +kernel : (0 : Int32).toInt = 0); omega)) (by first | omega | decide | (have ka0 := (by decide +kernel : (0 : Int32).toInt = 0); omega)) (by first | omega | decide | (have ka0 := (by decide +kernel : (0 : Int32).toInt = 0); omega)) (by first | omega | decide | (have ka0 := (by decide +kernel : (0 : Int32).toInt = 0); omega)) (by first | omega | decide | (have ka0 := (by decide +kernel : (0 : Int32).toInt = 0); omega)) (by first | omega | decide | (have ka0 := (by decide +kernel : (0 : Int32).toInt = 0); omega)) (by first | omega | decide | (have ka0 := (by decide +kernel : (0 : Int32).toInt = 0); omega)) (by first | omega | decide | (have ka0 := (by decide +kernel : (0 : Int32).toInt = 0); omega)) (by first | omega | decide | (have ka0 := (by decide +kernel : (0 : Int32).toInt = 0); omega)) (by first | omega | decide | (have ka0 := (by decide +kernel : (0 : Int32).toInt = 0); omega)) (by first | omega | decide | (have ka0 := (by decide +kernel : (0 : Int32).toInt = 0); omega)) (by first | omega | decide | (have ka0 := (by decide +kernel : (0 : Int32).toInt = 0); omega)) (by first | omega | decide | (have ka0 := (by decide +kernel : (0 : Int32).toInt = 0); omega)) (by first | omega | decide | (have ka0 := (by decide +kernel : (0 : Int32).toInt = 0); omega)) (by first | omega | decide | (have ka0 := (by decide +kernel : (0 : Int32).toInt = 0); omega)) (j_fuel _) (by omega) hI hF hP_2 hD_3 hS_1 (lv_sub hl_5 [1, 2, 0] rfl)
    · have c3 := j_eq (a := r2.toInt) (b := 0) rfl (by decide +kernel) c3
      exact r2_v hx hb hr hk hS_1 dX9_gathers_58 (fun t ht hW => ⟨f9_planMany, ai, ⟨(by first | omega | decide | exact Or.inl (by decide) | exact Or.inr (by decide) | exact Or.inr (by omega)), (by have q := pw21_pos (f9_size.toInt.toNat - 3); omega), (by first | omega | decide | exact Or.inl (by decide) | exact Or.inr (by decide) | exact Or.inr (by omega)), (by first | omega | decide | exact Or.inl (by decide) | exact Or.inr (by decide) | exact Or.inr (by omega)), (by first | omega | decide | exact Or.inl (by decide) | exact Or.inr (by decide) | exact Or.inr (by omega)), (by first | omega | decide | exact Or.inl (by decide) | exact Or.inr (by decide) | exact Or.inr (by omega)), hI, hF⟩, by rw [ht]; exact hP_2, va_K.moved hW.alike hK, hD_3⟩)
  · have c1 := j_nle (a := f9_size.toInt) (b := 3) rfl (by decide +kernel) c1
    refine lv_aload_n hx hb dX9_gathers_8 rfl (lv_at hl 0 rfl) ?_
    refine gf (k := 2) hx hb hts inX9 hown hK hP k_797 rfl (by decide) rfl 22 rfl (.ref (ad 23)) rfl dX9_gathers_9 ?_
    refine lv_iload_n hx hb dX9_gathers_12 rfl (lv_at hl 1 rfl) ?_
    refine va_iald hx hb hK hP 23 0 rfl rfl (vin (by decide +kernel)) dX9_gathers_13 ?_
    refine lv_topi (fun z4 e_z4 => ?_)
    have k_z4 : z4.toInt = (ai 23 3).toInt := by rw [e_z4]; rfl
    have g_z4 : -10 ≤ z4.toInt ∧ z4.toInt ≤ 10 := by rw [e_z4]; exact IAM_at23 hI _
    refine lv_istore_n (lv' := [(2, .int z4), (0, .ref (ad 22)), (1, .int 3)]) hx hb dX9_gathers_14 rfl hl (by decide) rfl (fun ls_6 hl_6 => ?_)
    exact r033_X9_gathers_b15 C hp0  _ z4 f9_planMany ai _ _ _ (by omega) (by omega) (by omega) (by omega) (by omega) (by omega) (by omega) (by omega) (by omega) (by omega) (pw_00 (by omega) (by have q := pw21_pos (f9_size.toInt.toNat - (3 + 1)); omega)) (by omega) (by omega) (by omega) (by omega) (by omega) (j_fuel _) (by omega) hI hF hP hD hS (lv_sub hl_6 [1, 2, 0] rfl)
def Q_r034_X9_gathers (dC : Nat → ClassId) (dI : Nat → Nat → Nat) (cI cJ cII cJJ : ClassId) (ad : Nat → Nat) (f9_size f9_equations f9_areSteps f9_foundMany f9_many f9_rank f9_freeMany f9_arePlans : Int32) (ai0 : Nat → Nat → Int32) (al : Nat → Nat → Int64) (o_f9_planMany : Int32) : (Nat → Prop) → Array Value → State → Outcome → State → Prop := fun A => QV (fun t => ∃ (n_f9_planMany : Int32), ∃ (n_ai : Nat → Nat → Int32), ((0 ≤ n_f9_planMany.toInt ∧ n_f9_planMany.toInt ≤ 194481) ∧ (o_f9_planMany.toInt ≤ n_f9_planMany.toInt ∧ n_f9_planMany.toInt ≤ o_f9_planMany.toInt + pw21 (f9_size.toInt.toNat - 2)) ∧ (n_ai 24 0).toInt = (ai0 24 0).toInt ∧ (n_ai 24 1).toInt = (ai0 24 1).toInt ∧ (n_ai 24 2).toInt = (ai0 24 2).toInt ∧ (n_ai 24 3).toInt = (ai0 24 3).toInt ∧ IAM n_ai ∧ FR [20, 21] ai0 n_ai) ∧ WO dC dI (TY cI cJ cII cJJ) (WM cI cJ cII cJJ ad f9_size f9_equations f9_areSteps f9_foundMany f9_many f9_rank f9_freeMany f9_arePlans n_f9_planMany n_ai al) A t) A
set_option maxRecDepth 100000 in
set_option maxHeartbeats 4000000 in
theorem r034_X9_gathers_b61 {p : Program} {l : Launch} {e : Env} {s : State} {m : MethodId} {args : Array Value} {below : List Frame} {meth : Method} {c : Code} {A : Nat → Prop} {dC : Nat → ClassId} {dI : Nat → Nat → Nat} {cI cJ cII cJJ : ClassId} {ad : Nat → Nat} {g : Nat} {f9_size f9_equations f9_areSteps f9_foundMany f9_many f9_rank f9_freeMany f9_arePlans : Int32} {ai0 : Nat → Nat → Int32} {al : Nat → Nat → Int64} {o_f9_planMany : Int32} (C : Cx p c s m meth args A dC dI (TY cI cJ cII cJJ) cX9_gathers none 3 RX9 0 g) (hp0 : o_f9_planMany.toInt + pw21 (f9_size.toInt.toNat - 2) ≤ 194481) : ∀ (n : Nat), ∀ (L2 f9_planMany : Int32) (ai : Nat → Nat → Int32) (H : Heap) (locs : List Loc) (ls : Array Slot), (0 ≤ L2.toInt ∧ L2.toInt ≤ 2) → (1 ≤ f9_size.toInt ∧ f9_size.toInt ≤ 2) → (0 ≤ f9_equations.toInt ∧ f9_equations.toInt ≤ 3) → (0 ≤ f9_areSteps.toInt ∧ f9_areSteps.toInt ≤ 1) → (0 ≤ f9_foundMany.toInt ∧ f9_foundMany.toInt ≤ 99999) → (0 ≤ f9_many.toInt ∧ f9_many.toInt ≤ 6000) → (0 ≤ f9_rank.toInt ∧ f9_rank.toInt ≤ 3) → (0 ≤ f9_freeMany.toInt ∧ f9_freeMany.toInt ≤ 4) → (0 ≤ f9_arePlans.toInt ∧ f9_arePlans.toInt ≤ 1) → (0 ≤ f9_planMany.toInt ∧ f9_planMany.toInt ≤ 194480) → f9_planMany.toInt = o_f9_planMany.toInt → (ai 24 0).toInt = (ai0 24 0).toInt → (ai 24 1).toInt = (ai0 24 1).toInt → (ai 24 2).toInt = (ai0 24 2).toInt → (ai 24 3).toInt = (ai0 24 3).toInt → f9_size.toInt - L2.toInt < (n : Int) → (0 : Int) < (n : Int) → IAM ai → FR [20, 21] ai0 ai → va_P (dC, dI) vwCl (WM cI cJ cII cJJ ad f9_size f9_equations f9_areSteps f9_foundMany f9_many f9_rank f9_freeMany f9_arePlans f9_planMany ai al) H → va_D A (WM cI cJ cII cJJ ad f9_size f9_equations f9_areSteps f9_foundMany f9_many f9_rank f9_freeMany f9_arePlans f9_planMany ai al) → va_S A s.heap H locs → lv_has ls 3 [(0, .ref (ad 22)), (1, .int 2), (2, .int L2)] → W p l e ({ frames := 6, cells := 0, slots := 0, locals := 320 } : Room) s m args below meth c H locs 0 0 (MQ below (Q_r034_X9_gathers dC dI cI cJ cII cJJ ad f9_size f9_equations f9_areSteps f9_foundMany f9_many f9_rank f9_freeMany f9_arePlans ai0 al o_f9_planMany A) args s 0 0 A) (F0 m 61 ls []) := by
  obtain ⟨hx, hb, hr, hml, hown, hts, hk, hA, hK, hX⟩ := id C
  intro n
  induction n with
  | zero =>
    intro L2 f9_planMany ai H locs ls h0 h1 h2 h3 h4 h5 h6 h7 h8 h9 h10 h11 h12 h13 h14 h15 h16 hI hF hP hD hS hl
    exact absurd h16 (by omega)
  | succ n ih =>
    intro L2 f9_planMany ai H locs ls h0 h1 h2 h3 h4 h5 h6 h7 h8 h9 h10 h11 h12 h13 h14 h15 h16 hI hF hP hD hS hl
    refine lv_iload_n hx hb dX9_gathers_61 rfl (lv_at hl 2 rfl) ?_
    refine lv_aload_n hx hb dX9_gathers_62 rfl (lv_at hl 0 rfl) ?_
    refine gf (k := 12) hx hb hts inX9 hown hK hP k_807 rfl (by decide) rfl 22 rfl (.int f9_size) rfl dX9_gathers_63 ?_
    refine lv_icmp_ge (tgt := 94) hx hb dX9_gathers_66 (by decide) (fun c1 => ?_) (fun c1 => ?_)
    · have c1 := j_le (a := f9_size.toInt) (b := L2.toInt) rfl rfl c1
      refine lv_aload_n hx hb dX9_gathers_94 rfl (lv_at hl 0 rfl) ?_
      refine lv_dup hx hb dX9_gathers_95 rfl ?_
      refine gf (k := 35) hx hb hts inX9 hown hK hP k_830 rfl (by decide) rfl 22 rfl (.int f9_planMany) rfl dX9_gathers_96 ?_
      refine lv_iconst (v := 1) hx hb dX9_gathers_99 (by decide) ?_
      refine v_iadd hx hb dX9_gathers_100 _ rfl ?_
      refine lv_topi (fun z2 e_z2 => ?_)
      have g_z2 : z2.toInt = f9_planMany.toInt + 1 ∧ z2.toInt ≤ 194481 := by rw [e_z2, n_add (a := f9_planMany.toInt) (b := 1) rfl (by decide +kernel) (by omega) (by omega)]; omega
      refine pf (k := 35) hx hb hts inX9 tyX9_ok nmX9 hown hK hP hD hS k_830 rfl (by decide) rfl rfl 22 rfl rfl rfl (Nat.le_of_ble_eq_true rfl) dX9_gathers_101 (W' := (WM cI cJ cII cJJ ad f9_size f9_equations f9_areSteps f9_foundMany f9_many f9_rank f9_freeMany f9_arePlans z2 ai al)) rfl (fun H_1 locs_1 hP_1 hD_1 hS_1 => ?_)
      exact r2_v hx hb hr hk hS_1 dX9_gathers_104 (fun t ht hW => ⟨z2, ai, ⟨(by first | omega | decide | exact Or.inl (by decide) | exact Or.inr (by decide) | exact Or.inr (by omega)), (by have q := pw21_pos (f9_size.toInt.toNat - 2); omega), (by first | omega | decide | exact Or.inl (by decide) | exact Or.inr (by decide) | exact Or.inr (by omega)), (by first | omega | decide | exact Or.inl (by decide) | exact Or.inr (by decide) | exact Or.inr (by omega)), (by first | omega | decide | exact Or.inl (by decide) | exact Or.inr (by decide) | exact Or.inr (by omega)), (by first | omega | decide | exact Or.inl (by decide) | exact Or.inr (by decide) | exact Or.inr (by omega)), hI, hF⟩, by rw [ht]; exact hP_1, va_K.moved hW.alike hK, hD_1⟩)
    · have c1 := j_nle (a := f9_size.toInt) (b := L2.toInt) rfl rfl c1
      refine lv_aload_n hx hb dX9_gathers_69 rfl (lv_at hl 0 rfl) ?_
      refine gf (k := 34) hx hb hts inX9 hown hK hP k_829 rfl (by decide) rfl 22 rfl (.ref (ad 21)) rfl dX9_gathers_70 ?_
      refine lv_iconst (v := 4) hx hb dX9_gathers_73 (by decide) ?_
      refine lv_aload_n hx hb dX9_gathers_74 rfl (lv_at hl 0 rfl) ?_
      refine gf (k := 35) hx hb hts inX9 hown hK hP k_830 rfl (by decide) rfl 22 rfl (.int f9_planMany) rfl dX9_gathers_75 ?_
      refine v_imul hx hb dX9_gathers_78 _ rfl ?_
      refine lv_topi (fun z3 e_z3 => ?_)
      have g_z3 : z3.toInt = 4 * f9_planMany.toInt := by rw [e_z3]; exact n_mul (a := 4) (b := f9_planMany.toInt) (by decide +kernel) rfl (by omega) (by omega)
      refine lv_iload_n hx hb dX9_gathers_79 rfl (lv_at hl 2 rfl) ?_
      refine v_iadd hx hb dX9_gathers_80 _ rfl ?_
      refine lv_topi (fun z4 e_z4 => ?_)
      have g_z4 : z4.toInt = z3.toInt + L2.toInt := by rw [e_z4]; exact n_add (a := z3.toInt) (b := L2.toInt) rfl rfl (by omega) (by omega)
      refine lv_aload_n hx hb dX9_gathers_81 rfl (lv_at hl 0 rfl) ?_
      refine gf (k := 32) hx hb hts inX9 hown hK hP k_827 rfl (by decide) rfl 22 rfl (.ref (ad 20)) rfl dX9_gathers_82 ?_
      refine lv_iload_n hx hb dX9_gathers_85 rfl (lv_at hl 2 rfl) ?_
      refine va_iald hx hb hK hP 20 0 rfl rfl (j_in (a := L2.toInt) rfl (by omega) (by omega)) dX9_gathers_86 ?_
      refine lv_topi (fun z5 e_z5 => ?_)
      refine va_iast hx hb hK hP hD hS 21 0 rfl rfl (j_in (a := z4.toInt) rfl (by omega) (by omega)) dX9_gathers_87 (fun H_2 locs_2 hP_2 hD_2 hS_2 => ?_)
      obtain ⟨ai6, e_ai6⟩ : ∃ q : Nat → Nat → Int32, q = va_up ai 21 (upd (ai 21) z4.toNatClampNeg z5) := ⟨_, rfl⟩
      have hF_3 := FR_st hF e_ai6 (by decide)
      have hI_4 : IAM ai6 := by rw [e_ai6]; exact hI
      have hP_5 : va_P (dC, dI) vwCl (WM cI cJ cII cJJ ad f9_size f9_equations f9_areSteps f9_foundMany f9_many f9_rank f9_freeMany f9_arePlans f9_planMany ai6 al) H_2 := by rw [e_ai6]; exact hP_2
      have hD_6 : va_D A (WM cI cJ cII cJJ ad f9_size f9_equations f9_areSteps f9_foundMany f9_many f9_rank f9_freeMany f9_arePlans f9_planMany ai6 al) := by rw [e_ai6]; exact hD_2
      have tk_ai6_24_0 : (ai6 24 0).toInt = (ai 24 0).toInt := by rw [e_ai6]; rfl
      have tk_ai6_24_1 : (ai6 24 1).toInt = (ai 24 1).toInt := by rw [e_ai6]; rfl
      have tk_ai6_24_2 : (ai6 24 2).toInt = (ai 24 2).toInt := by rw [e_ai6]; rfl
      have tk_ai6_24_3 : (ai6 24 3).toInt = (ai 24 3).toInt := by rw [e_ai6]; rfl
      obtain ⟨z7, e_z7⟩ : ∃ q : Int32, q = L2 + Int32.ofInt 1 := ⟨_, rfl⟩
      have g_z7 : z7.toInt = L2.toInt + 1 := by rw [e_z7]; exact n_add (a := L2.toInt) (b := 1) rfl (by decide +kernel) (by omega) (by omega)
      refine lv_iinc (v := z7) (lv' := [(2, .int z7), (0, .ref (ad 22)), (1, .int 2)]) hx hb dX9_gathers_88 hl (k := 2) rfl e_z7.symm (by decide) rfl (fun ls_7 hl_7 => ?_)
      refine lv_goto (tgt := 61) hx hb dX9_gathers_91 (by decide) ?_
      exact ih z7 f9_planMany ai6 _ _ _ (by omega) (by omega) (by omega) (by omega) (by omega) (by omega) (by omega) (by omega) (by omega) (by omega) (by omega) (by omega) (by omega) (by omega) (by omega) (by omega) (by omega) hI_4 hF_3 hP_5 hD_6 hS_2 (lv_sub hl_7 [1, 2, 0] rfl)
set_option maxRecDepth 100000 in
set_option maxHeartbeats 4000000 in
theorem r034_X9_gathers_b15 {p : Program} {l : Launch} {e : Env} {s : State} {m : MethodId} {args : Array Value} {below : List Frame} {meth : Method} {c : Code} {A : Nat → Prop} {dC : Nat → ClassId} {dI : Nat → Nat → Nat} {cI cJ cII cJJ : ClassId} {ad : Nat → Nat} {g : Nat} {f9_size f9_equations f9_areSteps f9_foundMany f9_many f9_rank f9_freeMany f9_arePlans : Int32} {ai0 : Nat → Nat → Int32} {al : Nat → Nat → Int64} {o_f9_planMany : Int32} (C : Cx p c s m meth args A dC dI (TY cI cJ cII cJJ) cX9_gathers none 3 RX9 0 g) (hp0 : o_f9_planMany.toInt + pw21 (f9_size.toInt.toNat - 2) ≤ 194481) : ∀ (n : Nat), ∀ (L2 f9_planMany : Int32) (ai : Nat → Nat → Int32) (H : Heap) (locs : List Loc) (ls : Array Slot), (-10 ≤ L2.toInt ∧ L2.toInt ≤ 11) → (3 ≤ f9_size.toInt ∧ f9_size.toInt ≤ 4) → (0 ≤ f9_equations.toInt ∧ f9_equations.toInt ≤ 3) → (0 ≤ f9_areSteps.toInt ∧ f9_areSteps.toInt ≤ 1) → (0 ≤ f9_foundMany.toInt ∧ f9_foundMany.toInt ≤ 99999) → (0 ≤ f9_many.toInt ∧ f9_many.toInt ≤ 6000) → (0 ≤ f9_rank.toInt ∧ f9_rank.toInt ≤ 3) → (0 ≤ f9_freeMany.toInt ∧ f9_freeMany.toInt ≤ 4) → (0 ≤ f9_arePlans.toInt ∧ f9_arePlans.toInt ≤ 1) → (0 ≤ f9_planMany.toInt ∧ f9_planMany.toInt ≤ 194481) → (o_f9_planMany.toInt ≤ f9_planMany.toInt ∧ f9_planMany.toInt ≤ o_f9_planMany.toInt + (L2.toInt + 10) * pw21 (f9_size.toInt.toNat - (2 + 1))) → L2.toInt ≤ 11 → (ai 24 0).toInt = (ai0 24 0).toInt → (ai 24 1).toInt = (ai0 24 1).toInt → (ai 24 2).toInt = (ai0 24 2).toInt → (ai 24 3).toInt = (ai0 24 3).toInt → (ai 24 2).toInt + 1 - L2.toInt < (n : Int) → (0 : Int) < (n : Int) → IAM ai → FR [20, 21] ai0 ai → va_P (dC, dI) vwCl (WM cI cJ cII cJJ ad f9_size f9_equations f9_areSteps f9_foundMany f9_many f9_rank f9_freeMany f9_arePlans f9_planMany ai al) H → va_D A (WM cI cJ cII cJJ ad f9_size f9_equations f9_areSteps f9_foundMany f9_many f9_rank f9_freeMany f9_arePlans f9_planMany ai al) → va_S A s.heap H locs → lv_has ls 3 [(0, .ref (ad 22)), (1, .int 2), (2, .int L2)] → W p l e ({ frames := 6, cells := 0, slots := 0, locals := 320 } : Room) s m args below meth c H locs 0 0 (MQ below (Q_r034_X9_gathers dC dI cI cJ cII cJJ ad f9_size f9_equations f9_areSteps f9_foundMany f9_many f9_rank f9_freeMany f9_arePlans ai0 al o_f9_planMany A) args s 0 0 A) (F0 m 15 ls []) := by
  obtain ⟨hx, hb, hr, hml, hown, hts, hk, hA, hK, hX⟩ := id C
  intro n
  induction n with
  | zero =>
    intro L2 f9_planMany ai H locs ls h0 h1 h2 h3 h4 h5 h6 h7 h8 h9 h10 h11 h12 h13 h14 h15 h16 h17 hI hF hP hD hS hl
    exact absurd h17 (by omega)
  | succ n ih =>
    intro L2 f9_planMany ai H locs ls h0 h1 h2 h3 h4 h5 h6 h7 h8 h9 h10 h11 h12 h13 h14 h15 h16 h17 hI hF hP hD hS hl
    refine lv_iload_n hx hb dX9_gathers_15 rfl (lv_at hl 2 rfl) ?_
    refine lv_aload_n hx hb dX9_gathers_16 rfl (lv_at hl 0 rfl) ?_
    refine gf (k := 3) hx hb hts inX9 hown hK hP k_798 rfl (by decide) rfl 22 rfl (.ref (ad 24)) rfl dX9_gathers_17 ?_
    refine lv_iload_n hx hb dX9_gathers_20 rfl (lv_at hl 1 rfl) ?_
    refine va_iald hx hb hK hP 24 0 rfl rfl (vin (by decide +kernel)) dX9_gathers_21 ?_
    refine lv_topi (fun z1 e_z1 => ?_)
    have k_z1 : z1.toInt = (ai 24 2).toInt := by rw [e_z1]; rfl
    have g_z1 : -10 ≤ z1.toInt ∧ z1.toInt ≤ 10 := by rw [e_z1]; exact IAM_at24 hI _
    refine lv_icmp_gt (tgt := 45) hx hb dX9_gathers_22 (by decide) (fun c2 => ?_) (fun c2 => ?_)
    · have c2 := j_lt (a := z1.toInt) (b := L2.toInt) rfl rfl c2
      exact r2_v hx hb hr hk hS dX9_gathers_45 (fun t ht hW => ⟨f9_planMany, ai, ⟨(by first | omega | decide | exact Or.inl (by decide) | exact Or.inr (by decide) | exact Or.inr (by omega)), (by rw [pw21_s (by omega)]; exact pw_e2 (b := 10) h10 (by omega) (by have q := pw21_pos (f9_size.toInt.toNat - (2 + 1)); omega)), (by first | omega | decide | exact Or.inl (by decide) | exact Or.inr (by decide) | exact Or.inr (by omega)), (by first | omega | decide | exact Or.inl (by decide) | exact Or.inr (by decide) | exact Or.inr (by omega)), (by first | omega | decide | exact Or.inl (by decide) | exact Or.inr (by decide) | exact Or.inr (by omega)), (by first | omega | decide | exact Or.inl (by decide) | exact Or.inr (by decide) | exact Or.inr (by omega)), hI, hF⟩, by rw [ht]; exact hP, va_K.moved hW.alike hK, hD⟩)
    · have c2 := j_nlt (a := z1.toInt) (b := L2.toInt) rfl rfl c2
      refine lv_aload_n hx hb dX9_gathers_25 rfl (lv_at hl 0 rfl) ?_
      refine gf (k := 32) hx hb hts inX9 hown hK hP k_827 rfl (by decide) rfl 22 rfl (.ref (ad 20)) rfl dX9_gathers_26 ?_
      refine lv_iload_n hx hb dX9_gathers_29 rfl (lv_at hl 1 rfl) ?_
      refine lv_iload_n hx hb dX9_gathers_30 rfl (lv_at hl 2 rfl) ?_
      refine va_iast hx hb hK hP hD hS 20 0 rfl rfl (vin (by decide +kernel)) dX9_gathers_31 (fun H_1 locs_1 hP_1 hD_1 hS_1 => ?_)
      obtain ⟨ai3, e_ai3⟩ : ∃ q : Nat → Nat → Int32, q = va_up ai 20 (upd (ai 20) (2 : Int32).toNatClampNeg L2) := ⟨_, rfl⟩
      have hF_2 := FR_st hF e_ai3 (by decide)
      have hI_3 : IAM ai3 := by rw [e_ai3]; exact hI
      have hP_4 : va_P (dC, dI) vwCl (WM cI cJ cII cJJ ad f9_size f9_equations f9_areSteps f9_foundMany f9_many f9_rank f9_freeMany f9_arePlans f9_planMany ai3 al) H_1 := by rw [e_ai3]; exact hP_1
      have hD_5 : va_D A (WM cI cJ cII cJJ ad f9_size f9_equations f9_areSteps f9_foundMany f9_many f9_rank f9_freeMany f9_arePlans f9_planMany ai3 al) := by rw [e_ai3]; exact hD_1
      have tk_ai3_24_0 : (ai3 24 0).toInt = (ai 24 0).toInt := by rw [e_ai3]; rfl
      have tk_ai3_24_1 : (ai3 24 1).toInt = (ai 24 1).toInt := by rw [e_ai3]; rfl
      have tk_ai3_24_2 : (ai3 24 2).toInt = (ai 24 2).toInt := by rw [e_ai3]; rfl
      have tk_ai3_24_3 : (ai3 24 3).toInt = (ai 24 3).toInt := by rw [e_ai3]; rfl
      refine lv_aload_n hx hb dX9_gathers_32 rfl (lv_at hl 0 rfl) ?_
      refine lv_iload_n hx hb dX9_gathers_33 rfl (lv_at hl 1 rfl) ?_
      refine lv_iconst (v := 1) hx hb dX9_gathers_34 (by decide) ?_
      refine v_iadd hx hb dX9_gathers_35 3 (by decide +kernel) ?_
      have kc3 : (3 : Int32).toInt = 3 := by decide +kernel
      have hM := r033_X9_gathers l dC dI cI cJ cII cJJ H_1.size 0 ad f9_size f9_equations f9_areSteps f9_foundMany f9_many f9_rank f9_freeMany f9_arePlans f9_planMany ai3 al (by omega) (by omega) (by omega) (by omega) (by omega) (by omega) (by omega) (by omega) (by omega) (pw_pre (b := 10) h10.2 (by omega) (pw21_pos _) (by have q := hp0; rw [pw21_s (by omega)] at q; exact q)) hI_3
      refine k2V_v (q0 := 22) ⟨hx, hb, hml, hown, hts⟩ hK hP_4 hD_5 hS_1 hA hX cv_RX9_235 hM ⟨by decide +kernel, by decide +kernel⟩ rfl rfl (Or.inl rfl) (rest := []) rfl rfl rfl hl.1 rfl (Nat.le_of_ble_eq_true rfl) dX9_gathers_36 ⟨Nat.le_of_ble_eq_true rfl, Nat.le_of_ble_eq_true rfl⟩ (fun t H1 locs_6 ht hB hS_6 hFc => ?_)
      obtain ⟨v5, ai6, ⟨gpr4_0, gpr4_1, gpr4_2, gpr4_3, gpr4_4, gpr4_5, hI_7, hFr_r4⟩, hP_7, -, hD_7⟩ := hB
      have hF_8 := FR_tr hF_2 hFr_r4 (by decide)
      rw [ht] at hP_7
      have hD_9 := hD_7.weaken (B := A) (fun k q _ h9 => hFc q.1 h9)
      clear ht
      generalize H1 = H_10 at hP_7 hS_6 ⊢
      obtain ⟨z7, e_z7⟩ : ∃ q : Int32, q = L2 + Int32.ofInt 1 := ⟨_, rfl⟩
      have g_z7 : z7.toInt = L2.toInt + 1 := by rw [e_z7]; exact n_add (a := L2.toInt) (b := 1) rfl (by decide +kernel) (by omega) (by omega)
      refine lv_iinc (v := z7) (lv' := [(2, .int z7), (0, .ref (ad 22)), (1, .int 2)]) hx hb dX9_gathers_39 hl (k := 2) rfl e_z7.symm (by decide) rfl (fun ls_11 hl_11 => ?_)
      refine lv_goto (tgt := 15) hx hb dX9_gathers_42 (by decide) ?_
      exact ih z7 v5 ai6 _ _ _ (by omega) (by omega) (by omega) (by omega) (by omega) (by omega) (by omega) (by omega) (by omega) (by omega) (pw_stp h10 gpr4_1 (by omega)) (by omega) (by omega) (by omega) (by omega) (by omega) (by omega) (by omega) hI_7 hF_8 hP_7 hD_9 hS_6 (lv_sub hl_11 [1, 2, 0] rfl)
set_option maxRecDepth 100000 in
set_option maxHeartbeats 4000000 in
theorem r034_X9_gathers (l : Launch) (dC : Nat → ClassId) (dI : Nat → Nat → Nat) (cI cJ cII cJJ : ClassId) (sz g : Nat) (ad : Nat → Nat) (f9_size f9_equations f9_areSteps f9_foundMany f9_many f9_rank f9_freeMany f9_arePlans f9_planMany : Int32) (ai : Nat → Nat → Int32) (al : Nat → Nat → Int64) (h_f9_size : (1 ≤ f9_size.toInt ∧ f9_size.toInt ≤ 4)) (h_f9_equations : (0 ≤ f9_equations.toInt ∧ f9_equations.toInt ≤ 3)) (h_f9_areSteps : (0 ≤ f9_areSteps.toInt ∧ f9_areSteps.toInt ≤ 1)) (h_f9_foundMany : (0 ≤ f9_foundMany.toInt ∧ f9_foundMany.toInt ≤ 99999)) (h_f9_many : (0 ≤ f9_many.toInt ∧ f9_many.toInt ≤ 6000)) (h_f9_rank : (0 ≤ f9_rank.toInt ∧ f9_rank.toInt ≤ 3)) (h_f9_freeMany : (0 ≤ f9_freeMany.toInt ∧ f9_freeMany.toInt ≤ 4)) (h_f9_arePlans : (0 ≤ f9_arePlans.toInt ∧ f9_arePlans.toInt ≤ 1)) (h_f9_planMany : (0 ≤ f9_planMany.toInt ∧ f9_planMany.toInt ≤ 194481)) (hp0 : f9_planMany.toInt + pw21 (f9_size.toInt.toNat - 2) ≤ 194481) (hI : IAM ai) : Met l yX9_gathers (.code yX9_gathers cX9_gathers 3 none :: TT) ({ frames := 6, cells := 0, slots := 0, locals := 320 } : Room) (PcS dC dI (TY cI cJ cII cJJ) [.ref (ad 22), .int 2] (WM cI cJ cII cJJ ad f9_size f9_equations f9_areSteps f9_foundMany f9_many f9_rank f9_freeMany f9_arePlans f9_planMany ai al) sz 0 g) (Q_r034_X9_gathers dC dI cI cJ cII cJJ ad f9_size f9_equations f9_areSteps f9_foundMany f9_many f9_rank f9_freeMany f9_arePlans ai al f9_planMany (va_A (WM cI cJ cII cJJ ad f9_size f9_equations f9_areSteps f9_foundMany f9_many f9_rank f9_freeMany f9_arePlans f9_planMany ai al) sz)) 0 0 (va_A (WM cI cJ cII cJJ ad f9_size f9_equations f9_areSteps f9_foundMany f9_many f9_rank f9_freeMany f9_arePlans f9_planMany ai al) sz) := by
  refine SM.of (y := yX9_gathers) (maxL := 3) (av := [.ref (ad 22), .int 2]) (Q_r034_X9_gathers dC dI cI cJ cII cJJ ad f9_size f9_equations f9_areSteps f9_foundMany f9_many f9_rank f9_freeMany f9_arePlans ai al f9_planMany) (by decide +kernel) (Nat.le_of_ble_eq_true rfl) (fun p e s m below meth c A ls hx hb hr hml hown hts hk hnm hA hK hP hD hS hX hl => ?_)
  have C : Cx p c s m meth (([.ref (ad 22), .int 2] : List Value).toArray) A dC dI (TY cI cJ cII cJJ) cX9_gathers none 3 RX9 0 g := ⟨hx, hb, hr, hml, hown, hts, hk, hA, hK, hX⟩
  have hown : s.vm.findClass RX9 = some m.cls := hown
  have hl : lv_has ls 3 [(0, .ref (ad 22)), (1, .int 2)] := hl
  obtain ⟨H, hH⟩ : ∃ q, q = s.heap := ⟨_, rfl⟩
  rw [← hH] at hP
  have hS : va_S A s.heap H [] := by rw [hH]; exact hS
  rw [← hH]
  have hF := FR_refl [20, 21] ai
  refine lv_iload_n hx hb dX9_gathers_0 rfl (lv_at hl 1 rfl) ?_
  refine lv_aload_n hx hb dX9_gathers_1 rfl (lv_at hl 0 rfl) ?_
  refine gf (k := 12) hx hb hts inX9 hown hK hP k_807 rfl (by decide) rfl 22 rfl (.int f9_size) rfl dX9_gathers_2 ?_
  refine lv_icmp_ge (tgt := 46) hx hb dX9_gathers_5 (by decide) (fun c1 => ?_) (fun c1 => ?_)
  · have c1 := j_le (a := f9_size.toInt) (b := 2) rfl (by decide +kernel) c1
    refine lv_aload_n hx hb dX9_gathers_46 rfl (lv_at hl 0 rfl) ?_
    refine lv_aload_n hx hb dX9_gathers_47 rfl (lv_at hl 0 rfl) ?_
    refine gf (k := 32) hx hb hts inX9 hown hK hP k_827 rfl (by decide) rfl 22 rfl (.ref (ad 20)) rfl dX9_gathers_48 ?_
    refine lv_iconst (v := 0) hx hb dX9_gathers_51 (by decide) ?_
    have kc0 : (0 : Int32).toInt = 0 := by decide +kernel
    have hM := r031_X9_isPlan l dC dI cI cJ cII cJJ H.size 0 ad f9_size f9_equations f9_areSteps f9_foundMany f9_many f9_rank f9_freeMany f9_arePlans f9_planMany ai al (by omega) (by omega) (by omega) (by omega) (by omega) (by omega) (by omega) (by omega) (by omega) hI
    refine k2V_i (q0 := 22) ⟨hx, hb, hml, hown, hts⟩ hK hP hD hS hA hX cv_RX9_199 hM ⟨by decide +kernel, by decide +kernel⟩ rfl rfl (Or.inl rfl) (rest := []) rfl rfl rfl hl.1 rfl (Nat.le_of_ble_eq_true rfl) dX9_gathers_52 ⟨Nat.le_of_ble_eq_true rfl, Nat.le_of_ble_eq_true rfl⟩ (fun r2 t H1 locs_1 ht hB hS_1 hFc => ?_)
    obtain ⟨gpr2_0, hP_2, -, hD_2⟩ := hB
    rw [ht] at hP_2
    have hD_3 := hD_2.weaken (B := A) (fun k q _ h9 => hFc q.1 h9)
    clear ht
    generalize H1 = H_4 at hP_2 hS_1 ⊢
    refine lv_if_ne (tgt := 59) hx hb dX9_gathers_55 (by decide) (fun c3 => ?_) (fun c3 => ?_)
    · have c3 := j_ne (a := r2.toInt) (b := 0) rfl (by decide +kernel) c3
      have q_p := pw21_pos (f9_size.toInt.toNat - 2)
      refine lv_iconst (v := 0) hx hb dX9_gathers_59 (by decide) ?_
      refine lv_istore_n (lv' := [(2, .int 0), (0, .ref (ad 22)), (1, .int 2)]) hx hb dX9_gathers_60 rfl hl (by decide) rfl (fun ls_5 hl_5 => ?_)
      exact r034_X9_gathers_b61 C hp0  _ 0 f9_planMany ai _ _ _ (by first | omega | decide | (have ka0 := (by decide +kernel : (0 : Int32).toInt = 0); omega)) (by first | omega | decide | (have ka0 := (by decide +kernel : (0 : Int32).toInt = 0); omega)) (by first | omega | decide | (have ka0 := (by decide +kernel : (0 : Int32).toInt = 0); omega)) (by first | omega | decide | (have ka0 := (by decide +kernel : (0 : Int32).toInt = 0); omega)) (by first | omega | decide | (have ka0 := (by decide +kernel : (0 : Int32).toInt = 0); omega)) (by first | omega | decide | (have ka0 := (by decide +kernel : (0 : Int32).toInt = 0); omega)) (by first | omega | decide | (have ka0 := (by decide +kernel : (0 : Int32).toInt = 0); omega)) (by first | omega | decide | (have ka0 := (by decide +kernel : (0 : Int32).toInt = 0); omega)) (by first | omega | decide | (have ka0 := (by decide +kernel : (0 : Int32).toInt = 0); omega)) (by first | omega | decide | (have ka0 := (by decide +kernel : (0 : Int32).toInt = 0); omega)) (by first | omega | decide | (have ka0 := (by decide +kernel : (0 : Int32).toInt = 0); omega)) (by first | omega | decide | (have ka0 := (by decide +kernel : (0 : Int32).toInt = 0); omega)) (by first | omega | decide | (have ka0 := (by decide +kernel : (0 : Int32).toInt = 0); omega)) (by first | omega | decide | (have ka0 := (by decide +kernel : (0 : Int32).toInt = 0); omega)) (by first | omega | decide | (have ka0 := (by decide +kernel : (0 : Int32).toInt = 0); omega)) (j_fuel _) (by omega) hI hF hP_2 hD_3 hS_1 (lv_sub hl_5 [1, 2, 0] rfl)
    · have c3 := j_eq (a := r2.toInt) (b := 0) rfl (by decide +kernel) c3
      exact r2_v hx hb hr hk hS_1 dX9_gathers_58 (fun t ht hW => ⟨f9_planMany, ai, ⟨(by first | omega | decide | exact Or.inl (by decide) | exact Or.inr (by decide) | exact Or.inr (by omega)), (by have q := pw21_pos (f9_size.toInt.toNat - 2); omega), (by first | omega | decide | exact Or.inl (by decide) | exact Or.inr (by decide) | exact Or.inr (by omega)), (by first | omega | decide | exact Or.inl (by decide) | exact Or.inr (by decide) | exact Or.inr (by omega)), (by first | omega | decide | exact Or.inl (by decide) | exact Or.inr (by decide) | exact Or.inr (by omega)), (by first | omega | decide | exact Or.inl (by decide) | exact Or.inr (by decide) | exact Or.inr (by omega)), hI, hF⟩, by rw [ht]; exact hP_2, va_K.moved hW.alike hK, hD_3⟩)
  · have c1 := j_nle (a := f9_size.toInt) (b := 2) rfl (by decide +kernel) c1
    refine lv_aload_n hx hb dX9_gathers_8 rfl (lv_at hl 0 rfl) ?_
    refine gf (k := 2) hx hb hts inX9 hown hK hP k_797 rfl (by decide) rfl 22 rfl (.ref (ad 23)) rfl dX9_gathers_9 ?_
    refine lv_iload_n hx hb dX9_gathers_12 rfl (lv_at hl 1 rfl) ?_
    refine va_iald hx hb hK hP 23 0 rfl rfl (vin (by decide +kernel)) dX9_gathers_13 ?_
    refine lv_topi (fun z4 e_z4 => ?_)
    have k_z4 : z4.toInt = (ai 23 2).toInt := by rw [e_z4]; rfl
    have g_z4 : -10 ≤ z4.toInt ∧ z4.toInt ≤ 10 := by rw [e_z4]; exact IAM_at23 hI _
    refine lv_istore_n (lv' := [(2, .int z4), (0, .ref (ad 22)), (1, .int 2)]) hx hb dX9_gathers_14 rfl hl (by decide) rfl (fun ls_6 hl_6 => ?_)
    exact r034_X9_gathers_b15 C hp0  _ z4 f9_planMany ai _ _ _ (by omega) (by omega) (by omega) (by omega) (by omega) (by omega) (by omega) (by omega) (by omega) (by omega) (pw_00 (by omega) (by have q := pw21_pos (f9_size.toInt.toNat - (2 + 1)); omega)) (by omega) (by omega) (by omega) (by omega) (by omega) (j_fuel _) (by omega) hI hF hP hD hS (lv_sub hl_6 [1, 2, 0] rfl)
def Q_r035_X9_gathers (dC : Nat → ClassId) (dI : Nat → Nat → Nat) (cI cJ cII cJJ : ClassId) (ad : Nat → Nat) (f9_size f9_equations f9_areSteps f9_foundMany f9_many f9_rank f9_freeMany f9_arePlans : Int32) (ai0 : Nat → Nat → Int32) (al : Nat → Nat → Int64) (o_f9_planMany : Int32) : (Nat → Prop) → Array Value → State → Outcome → State → Prop := fun A => QV (fun t => ∃ (n_f9_planMany : Int32), ∃ (n_ai : Nat → Nat → Int32), ((0 ≤ n_f9_planMany.toInt ∧ n_f9_planMany.toInt ≤ 194481) ∧ (o_f9_planMany.toInt ≤ n_f9_planMany.toInt ∧ n_f9_planMany.toInt ≤ o_f9_planMany.toInt + pw21 (f9_size.toInt.toNat - 1)) ∧ (n_ai 24 0).toInt = (ai0 24 0).toInt ∧ (n_ai 24 1).toInt = (ai0 24 1).toInt ∧ (n_ai 24 2).toInt = (ai0 24 2).toInt ∧ (n_ai 24 3).toInt = (ai0 24 3).toInt ∧ IAM n_ai ∧ FR [20, 21] ai0 n_ai) ∧ WO dC dI (TY cI cJ cII cJJ) (WM cI cJ cII cJJ ad f9_size f9_equations f9_areSteps f9_foundMany f9_many f9_rank f9_freeMany f9_arePlans n_f9_planMany n_ai al) A t) A
set_option maxRecDepth 100000 in
set_option maxHeartbeats 4000000 in
theorem r035_X9_gathers_b61 {p : Program} {l : Launch} {e : Env} {s : State} {m : MethodId} {args : Array Value} {below : List Frame} {meth : Method} {c : Code} {A : Nat → Prop} {dC : Nat → ClassId} {dI : Nat → Nat → Nat} {cI cJ cII cJJ : ClassId} {ad : Nat → Nat} {g : Nat} {f9_size f9_equations f9_areSteps f9_foundMany f9_many f9_rank f9_freeMany f9_arePlans : Int32} {ai0 : Nat → Nat → Int32} {al : Nat → Nat → Int64} {o_f9_planMany : Int32} (C : Cx p c s m meth args A dC dI (TY cI cJ cII cJJ) cX9_gathers none 3 RX9 0 g) (hp0 : o_f9_planMany.toInt + pw21 (f9_size.toInt.toNat - 1) ≤ 194481) : ∀ (n : Nat), ∀ (L2 f9_planMany : Int32) (ai : Nat → Nat → Int32) (H : Heap) (locs : List Loc) (ls : Array Slot), (0 ≤ L2.toInt ∧ L2.toInt ≤ 1) → (1 ≤ f9_size.toInt ∧ f9_size.toInt ≤ 1) → (0 ≤ f9_equations.toInt ∧ f9_equations.toInt ≤ 3) → (0 ≤ f9_areSteps.toInt ∧ f9_areSteps.toInt ≤ 1) → (0 ≤ f9_foundMany.toInt ∧ f9_foundMany.toInt ≤ 99999) → (0 ≤ f9_many.toInt ∧ f9_many.toInt ≤ 6000) → (0 ≤ f9_rank.toInt ∧ f9_rank.toInt ≤ 3) → (0 ≤ f9_freeMany.toInt ∧ f9_freeMany.toInt ≤ 4) → (0 ≤ f9_arePlans.toInt ∧ f9_arePlans.toInt ≤ 1) → (0 ≤ f9_planMany.toInt ∧ f9_planMany.toInt ≤ 194480) → f9_planMany.toInt = o_f9_planMany.toInt → (ai 24 0).toInt = (ai0 24 0).toInt → (ai 24 1).toInt = (ai0 24 1).toInt → (ai 24 2).toInt = (ai0 24 2).toInt → (ai 24 3).toInt = (ai0 24 3).toInt → f9_size.toInt - L2.toInt < (n : Int) → (0 : Int) < (n : Int) → IAM ai → FR [20, 21] ai0 ai → va_P (dC, dI) vwCl (WM cI cJ cII cJJ ad f9_size f9_equations f9_areSteps f9_foundMany f9_many f9_rank f9_freeMany f9_arePlans f9_planMany ai al) H → va_D A (WM cI cJ cII cJJ ad f9_size f9_equations f9_areSteps f9_foundMany f9_many f9_rank f9_freeMany f9_arePlans f9_planMany ai al) → va_S A s.heap H locs → lv_has ls 3 [(0, .ref (ad 22)), (1, .int 1), (2, .int L2)] → W p l e ({ frames := 7, cells := 0, slots := 0, locals := 380 } : Room) s m args below meth c H locs 0 0 (MQ below (Q_r035_X9_gathers dC dI cI cJ cII cJJ ad f9_size f9_equations f9_areSteps f9_foundMany f9_many f9_rank f9_freeMany f9_arePlans ai0 al o_f9_planMany A) args s 0 0 A) (F0 m 61 ls []) := by
  obtain ⟨hx, hb, hr, hml, hown, hts, hk, hA, hK, hX⟩ := id C
  intro n
  induction n with
  | zero =>
    intro L2 f9_planMany ai H locs ls h0 h1 h2 h3 h4 h5 h6 h7 h8 h9 h10 h11 h12 h13 h14 h15 h16 hI hF hP hD hS hl
    exact absurd h16 (by omega)
  | succ n ih =>
    intro L2 f9_planMany ai H locs ls h0 h1 h2 h3 h4 h5 h6 h7 h8 h9 h10 h11 h12 h13 h14 h15 h16 hI hF hP hD hS hl
    refine lv_iload_n hx hb dX9_gathers_61 rfl (lv_at hl 2 rfl) ?_
    refine lv_aload_n hx hb dX9_gathers_62 rfl (lv_at hl 0 rfl) ?_
    refine gf (k := 12) hx hb hts inX9 hown hK hP k_807 rfl (by decide) rfl 22 rfl (.int f9_size) rfl dX9_gathers_63 ?_
    refine lv_icmp_ge (tgt := 94) hx hb dX9_gathers_66 (by decide) (fun c1 => ?_) (fun c1 => ?_)
    · have c1 := j_le (a := f9_size.toInt) (b := L2.toInt) rfl rfl c1
      refine lv_aload_n hx hb dX9_gathers_94 rfl (lv_at hl 0 rfl) ?_
      refine lv_dup hx hb dX9_gathers_95 rfl ?_
      refine gf (k := 35) hx hb hts inX9 hown hK hP k_830 rfl (by decide) rfl 22 rfl (.int f9_planMany) rfl dX9_gathers_96 ?_
      refine lv_iconst (v := 1) hx hb dX9_gathers_99 (by decide) ?_
      refine v_iadd hx hb dX9_gathers_100 _ rfl ?_
      refine lv_topi (fun z2 e_z2 => ?_)
      have g_z2 : z2.toInt = f9_planMany.toInt + 1 ∧ z2.toInt ≤ 194481 := by rw [e_z2, n_add (a := f9_planMany.toInt) (b := 1) rfl (by decide +kernel) (by omega) (by omega)]; omega
      refine pf (k := 35) hx hb hts inX9 tyX9_ok nmX9 hown hK hP hD hS k_830 rfl (by decide) rfl rfl 22 rfl rfl rfl (Nat.le_of_ble_eq_true rfl) dX9_gathers_101 (W' := (WM cI cJ cII cJJ ad f9_size f9_equations f9_areSteps f9_foundMany f9_many f9_rank f9_freeMany f9_arePlans z2 ai al)) rfl (fun H_1 locs_1 hP_1 hD_1 hS_1 => ?_)
      exact r2_v hx hb hr hk hS_1 dX9_gathers_104 (fun t ht hW => ⟨z2, ai, ⟨(by first | omega | decide | exact Or.inl (by decide) | exact Or.inr (by decide) | exact Or.inr (by omega)), (by have q := pw21_pos (f9_size.toInt.toNat - 1); omega), (by first | omega | decide | exact Or.inl (by decide) | exact Or.inr (by decide) | exact Or.inr (by omega)), (by first | omega | decide | exact Or.inl (by decide) | exact Or.inr (by decide) | exact Or.inr (by omega)), (by first | omega | decide | exact Or.inl (by decide) | exact Or.inr (by decide) | exact Or.inr (by omega)), (by first | omega | decide | exact Or.inl (by decide) | exact Or.inr (by decide) | exact Or.inr (by omega)), hI, hF⟩, by rw [ht]; exact hP_1, va_K.moved hW.alike hK, hD_1⟩)
    · have c1 := j_nle (a := f9_size.toInt) (b := L2.toInt) rfl rfl c1
      refine lv_aload_n hx hb dX9_gathers_69 rfl (lv_at hl 0 rfl) ?_
      refine gf (k := 34) hx hb hts inX9 hown hK hP k_829 rfl (by decide) rfl 22 rfl (.ref (ad 21)) rfl dX9_gathers_70 ?_
      refine lv_iconst (v := 4) hx hb dX9_gathers_73 (by decide) ?_
      refine lv_aload_n hx hb dX9_gathers_74 rfl (lv_at hl 0 rfl) ?_
      refine gf (k := 35) hx hb hts inX9 hown hK hP k_830 rfl (by decide) rfl 22 rfl (.int f9_planMany) rfl dX9_gathers_75 ?_
      refine v_imul hx hb dX9_gathers_78 _ rfl ?_
      refine lv_topi (fun z3 e_z3 => ?_)
      have g_z3 : z3.toInt = 4 * f9_planMany.toInt := by rw [e_z3]; exact n_mul (a := 4) (b := f9_planMany.toInt) (by decide +kernel) rfl (by omega) (by omega)
      refine lv_iload_n hx hb dX9_gathers_79 rfl (lv_at hl 2 rfl) ?_
      refine v_iadd hx hb dX9_gathers_80 _ rfl ?_
      refine lv_topi (fun z4 e_z4 => ?_)
      have g_z4 : z4.toInt = z3.toInt + L2.toInt := by rw [e_z4]; exact n_add (a := z3.toInt) (b := L2.toInt) rfl rfl (by omega) (by omega)
      refine lv_aload_n hx hb dX9_gathers_81 rfl (lv_at hl 0 rfl) ?_
      refine gf (k := 32) hx hb hts inX9 hown hK hP k_827 rfl (by decide) rfl 22 rfl (.ref (ad 20)) rfl dX9_gathers_82 ?_
      refine lv_iload_n hx hb dX9_gathers_85 rfl (lv_at hl 2 rfl) ?_
      refine va_iald hx hb hK hP 20 0 rfl rfl (j_in (a := L2.toInt) rfl (by omega) (by omega)) dX9_gathers_86 ?_
      refine lv_topi (fun z5 e_z5 => ?_)
      refine va_iast hx hb hK hP hD hS 21 0 rfl rfl (j_in (a := z4.toInt) rfl (by omega) (by omega)) dX9_gathers_87 (fun H_2 locs_2 hP_2 hD_2 hS_2 => ?_)
      obtain ⟨ai6, e_ai6⟩ : ∃ q : Nat → Nat → Int32, q = va_up ai 21 (upd (ai 21) z4.toNatClampNeg z5) := ⟨_, rfl⟩
      have hF_3 := FR_st hF e_ai6 (by decide)
      have hI_4 : IAM ai6 := by rw [e_ai6]; exact hI
      have hP_5 : va_P (dC, dI) vwCl (WM cI cJ cII cJJ ad f9_size f9_equations f9_areSteps f9_foundMany f9_many f9_rank f9_freeMany f9_arePlans f9_planMany ai6 al) H_2 := by rw [e_ai6]; exact hP_2
      have hD_6 : va_D A (WM cI cJ cII cJJ ad f9_size f9_equations f9_areSteps f9_foundMany f9_many f9_rank f9_freeMany f9_arePlans f9_planMany ai6 al) := by rw [e_ai6]; exact hD_2
      have tk_ai6_24_0 : (ai6 24 0).toInt = (ai 24 0).toInt := by rw [e_ai6]; rfl
      have tk_ai6_24_1 : (ai6 24 1).toInt = (ai 24 1).toInt := by rw [e_ai6]; rfl
      have tk_ai6_24_2 : (ai6 24 2).toInt = (ai 24 2).toInt := by rw [e_ai6]; rfl
      have tk_ai6_24_3 : (ai6 24 3).toInt = (ai 24 3).toInt := by rw [e_ai6]; rfl
      obtain ⟨z7, e_z7⟩ : ∃ q : Int32, q = L2 + Int32.ofInt 1 := ⟨_, rfl⟩
      have g_z7 : z7.toInt = L2.toInt + 1 := by rw [e_z7]; exact n_add (a := L2.toInt) (b := 1) rfl (by decide +kernel) (by omega) (by omega)
      refine lv_iinc (v := z7) (lv' := [(2, .int z7), (0, .ref (ad 22)), (1, .int 1)]) hx hb dX9_gathers_88 hl (k := 2) rfl e_z7.symm (by decide) rfl (fun ls_7 hl_7 => ?_)
      refine lv_goto (tgt := 61) hx hb dX9_gathers_91 (by decide) ?_
      exact ih z7 f9_planMany ai6 _ _ _ (by omega) (by omega) (by omega) (by omega) (by omega) (by omega) (by omega) (by omega) (by omega) (by omega) (by omega) (by omega) (by omega) (by omega) (by omega) (by omega) (by omega) hI_4 hF_3 hP_5 hD_6 hS_2 (lv_sub hl_7 [1, 2, 0] rfl)
set_option maxRecDepth 100000 in
set_option maxHeartbeats 4000000 in
theorem r035_X9_gathers_b15 {p : Program} {l : Launch} {e : Env} {s : State} {m : MethodId} {args : Array Value} {below : List Frame} {meth : Method} {c : Code} {A : Nat → Prop} {dC : Nat → ClassId} {dI : Nat → Nat → Nat} {cI cJ cII cJJ : ClassId} {ad : Nat → Nat} {g : Nat} {f9_size f9_equations f9_areSteps f9_foundMany f9_many f9_rank f9_freeMany f9_arePlans : Int32} {ai0 : Nat → Nat → Int32} {al : Nat → Nat → Int64} {o_f9_planMany : Int32} (C : Cx p c s m meth args A dC dI (TY cI cJ cII cJJ) cX9_gathers none 3 RX9 0 g) (hp0 : o_f9_planMany.toInt + pw21 (f9_size.toInt.toNat - 1) ≤ 194481) : ∀ (n : Nat), ∀ (L2 f9_planMany : Int32) (ai : Nat → Nat → Int32) (H : Heap) (locs : List Loc) (ls : Array Slot), (-10 ≤ L2.toInt ∧ L2.toInt ≤ 11) → (2 ≤ f9_size.toInt ∧ f9_size.toInt ≤ 4) → (0 ≤ f9_equations.toInt ∧ f9_equations.toInt ≤ 3) → (0 ≤ f9_areSteps.toInt ∧ f9_areSteps.toInt ≤ 1) → (0 ≤ f9_foundMany.toInt ∧ f9_foundMany.toInt ≤ 99999) → (0 ≤ f9_many.toInt ∧ f9_many.toInt ≤ 6000) → (0 ≤ f9_rank.toInt ∧ f9_rank.toInt ≤ 3) → (0 ≤ f9_freeMany.toInt ∧ f9_freeMany.toInt ≤ 4) → (0 ≤ f9_arePlans.toInt ∧ f9_arePlans.toInt ≤ 1) → (0 ≤ f9_planMany.toInt ∧ f9_planMany.toInt ≤ 194481) → (o_f9_planMany.toInt ≤ f9_planMany.toInt ∧ f9_planMany.toInt ≤ o_f9_planMany.toInt + (L2.toInt + 10) * pw21 (f9_size.toInt.toNat - (1 + 1))) → L2.toInt ≤ 11 → (ai 24 0).toInt = (ai0 24 0).toInt → (ai 24 1).toInt = (ai0 24 1).toInt → (ai 24 2).toInt = (ai0 24 2).toInt → (ai 24 3).toInt = (ai0 24 3).toInt → (ai 24 1).toInt + 1 - L2.toInt < (n : Int) → (0 : Int) < (n : Int) → IAM ai → FR [20, 21] ai0 ai → va_P (dC, dI) vwCl (WM cI cJ cII cJJ ad f9_size f9_equations f9_areSteps f9_foundMany f9_many f9_rank f9_freeMany f9_arePlans f9_planMany ai al) H → va_D A (WM cI cJ cII cJJ ad f9_size f9_equations f9_areSteps f9_foundMany f9_many f9_rank f9_freeMany f9_arePlans f9_planMany ai al) → va_S A s.heap H locs → lv_has ls 3 [(0, .ref (ad 22)), (1, .int 1), (2, .int L2)] → W p l e ({ frames := 7, cells := 0, slots := 0, locals := 380 } : Room) s m args below meth c H locs 0 0 (MQ below (Q_r035_X9_gathers dC dI cI cJ cII cJJ ad f9_size f9_equations f9_areSteps f9_foundMany f9_many f9_rank f9_freeMany f9_arePlans ai0 al o_f9_planMany A) args s 0 0 A) (F0 m 15 ls []) := by
  obtain ⟨hx, hb, hr, hml, hown, hts, hk, hA, hK, hX⟩ := id C
  intro n
  induction n with
  | zero =>
    intro L2 f9_planMany ai H locs ls h0 h1 h2 h3 h4 h5 h6 h7 h8 h9 h10 h11 h12 h13 h14 h15 h16 h17 hI hF hP hD hS hl
    exact absurd h17 (by omega)
  | succ n ih =>
    intro L2 f9_planMany ai H locs ls h0 h1 h2 h3 h4 h5 h6 h7 h8 h9 h10 h11 h12 h13 h14 h15 h16 h17 hI hF hP hD hS hl
    refine lv_iload_n hx hb dX9_gathers_15 rfl (lv_at hl 2 rfl) ?_
    refine lv_aload_n hx hb dX9_gathers_16 rfl (lv_at hl 0 rfl) ?_
    refine gf (k := 3) hx hb hts inX9 hown hK hP k_798 rfl (by decide) rfl 22 rfl (.ref (ad 24)) rfl dX9_gathers_17 ?_
    refine lv_iload_n hx hb dX9_gathers_20 rfl (lv_at hl 1 rfl) ?_
    refine va_iald hx hb hK hP 24 0 rfl rfl (vin (by decide +kernel)) dX9_gathers_21 ?_
    refine lv_topi (fun z1 e_z1 => ?_)
    have k_z1 : z1.toInt = (ai 24 1).toInt := by rw [e_z1]; rfl
    have g_z1 : -10 ≤ z1.toInt ∧ z1.toInt ≤ 10 := by rw [e_z1]; exact IAM_at24 hI _
    refine lv_icmp_gt (tgt := 45) hx hb dX9_gathers_22 (by decide) (fun c2 => ?_) (fun c2 => ?_)
    · have c2 := j_lt (a := z1.toInt) (b := L2.toInt) rfl rfl c2
      exact r2_v hx hb hr hk hS dX9_gathers_45 (fun t ht hW => ⟨f9_planMany, ai, ⟨(by first | omega | decide | exact Or.inl (by decide) | exact Or.inr (by decide) | exact Or.inr (by omega)), (by rw [pw21_s (by omega)]; exact pw_e2 (b := 10) h10 (by omega) (by have q := pw21_pos (f9_size.toInt.toNat - (1 + 1)); omega)), (by first | omega | decide | exact Or.inl (by decide) | exact Or.inr (by decide) | exact Or.inr (by omega)), (by first | omega | decide | exact Or.inl (by decide) | exact Or.inr (by decide) | exact Or.inr (by omega)), (by first | omega | decide | exact Or.inl (by decide) | exact Or.inr (by decide) | exact Or.inr (by omega)), (by first | omega | decide | exact Or.inl (by decide) | exact Or.inr (by decide) | exact Or.inr (by omega)), hI, hF⟩, by rw [ht]; exact hP, va_K.moved hW.alike hK, hD⟩)
    · have c2 := j_nlt (a := z1.toInt) (b := L2.toInt) rfl rfl c2
      refine lv_aload_n hx hb dX9_gathers_25 rfl (lv_at hl 0 rfl) ?_
      refine gf (k := 32) hx hb hts inX9 hown hK hP k_827 rfl (by decide) rfl 22 rfl (.ref (ad 20)) rfl dX9_gathers_26 ?_
      refine lv_iload_n hx hb dX9_gathers_29 rfl (lv_at hl 1 rfl) ?_
      refine lv_iload_n hx hb dX9_gathers_30 rfl (lv_at hl 2 rfl) ?_
      refine va_iast hx hb hK hP hD hS 20 0 rfl rfl (vin (by decide +kernel)) dX9_gathers_31 (fun H_1 locs_1 hP_1 hD_1 hS_1 => ?_)
      obtain ⟨ai3, e_ai3⟩ : ∃ q : Nat → Nat → Int32, q = va_up ai 20 (upd (ai 20) (1 : Int32).toNatClampNeg L2) := ⟨_, rfl⟩
      have hF_2 := FR_st hF e_ai3 (by decide)
      have hI_3 : IAM ai3 := by rw [e_ai3]; exact hI
      have hP_4 : va_P (dC, dI) vwCl (WM cI cJ cII cJJ ad f9_size f9_equations f9_areSteps f9_foundMany f9_many f9_rank f9_freeMany f9_arePlans f9_planMany ai3 al) H_1 := by rw [e_ai3]; exact hP_1
      have hD_5 : va_D A (WM cI cJ cII cJJ ad f9_size f9_equations f9_areSteps f9_foundMany f9_many f9_rank f9_freeMany f9_arePlans f9_planMany ai3 al) := by rw [e_ai3]; exact hD_1
      have tk_ai3_24_0 : (ai3 24 0).toInt = (ai 24 0).toInt := by rw [e_ai3]; rfl
      have tk_ai3_24_1 : (ai3 24 1).toInt = (ai 24 1).toInt := by rw [e_ai3]; rfl
      have tk_ai3_24_2 : (ai3 24 2).toInt = (ai 24 2).toInt := by rw [e_ai3]; rfl
      have tk_ai3_24_3 : (ai3 24 3).toInt = (ai 24 3).toInt := by rw [e_ai3]; rfl
      refine lv_aload_n hx hb dX9_gathers_32 rfl (lv_at hl 0 rfl) ?_
      refine lv_iload_n hx hb dX9_gathers_33 rfl (lv_at hl 1 rfl) ?_
      refine lv_iconst (v := 1) hx hb dX9_gathers_34 (by decide) ?_
      refine v_iadd hx hb dX9_gathers_35 2 (by decide +kernel) ?_
      have kc2 : (2 : Int32).toInt = 2 := by decide +kernel
      have hM := r034_X9_gathers l dC dI cI cJ cII cJJ H_1.size 0 ad f9_size f9_equations f9_areSteps f9_foundMany f9_many f9_rank f9_freeMany f9_arePlans f9_planMany ai3 al (by omega) (by omega) (by omega) (by omega) (by omega) (by omega) (by omega) (by omega) (by omega) (pw_pre (b := 10) h10.2 (by omega) (pw21_pos _) (by have q := hp0; rw [pw21_s (by omega)] at q; exact q)) hI_3
      refine k2V_v (q0 := 22) ⟨hx, hb, hml, hown, hts⟩ hK hP_4 hD_5 hS_1 hA hX cv_RX9_235 hM ⟨by decide +kernel, by decide +kernel⟩ rfl rfl (Or.inl rfl) (rest := []) rfl rfl rfl hl.1 rfl (Nat.le_of_ble_eq_true rfl) dX9_gathers_36 ⟨Nat.le_of_ble_eq_true rfl, Nat.le_of_ble_eq_true rfl⟩ (fun t H1 locs_6 ht hB hS_6 hFc => ?_)
      obtain ⟨v5, ai6, ⟨gpr4_0, gpr4_1, gpr4_2, gpr4_3, gpr4_4, gpr4_5, hI_7, hFr_r4⟩, hP_7, -, hD_7⟩ := hB
      have hF_8 := FR_tr hF_2 hFr_r4 (by decide)
      rw [ht] at hP_7
      have hD_9 := hD_7.weaken (B := A) (fun k q _ h9 => hFc q.1 h9)
      clear ht
      generalize H1 = H_10 at hP_7 hS_6 ⊢
      obtain ⟨z7, e_z7⟩ : ∃ q : Int32, q = L2 + Int32.ofInt 1 := ⟨_, rfl⟩
      have g_z7 : z7.toInt = L2.toInt + 1 := by rw [e_z7]; exact n_add (a := L2.toInt) (b := 1) rfl (by decide +kernel) (by omega) (by omega)
      refine lv_iinc (v := z7) (lv' := [(2, .int z7), (0, .ref (ad 22)), (1, .int 1)]) hx hb dX9_gathers_39 hl (k := 2) rfl e_z7.symm (by decide) rfl (fun ls_11 hl_11 => ?_)
      refine lv_goto (tgt := 15) hx hb dX9_gathers_42 (by decide) ?_
      exact ih z7 v5 ai6 _ _ _ (by omega) (by omega) (by omega) (by omega) (by omega) (by omega) (by omega) (by omega) (by omega) (by omega) (pw_stp h10 gpr4_1 (by omega)) (by omega) (by omega) (by omega) (by omega) (by omega) (by omega) (by omega) hI_7 hF_8 hP_7 hD_9 hS_6 (lv_sub hl_11 [1, 2, 0] rfl)
set_option maxRecDepth 100000 in
set_option maxHeartbeats 4000000 in
theorem r035_X9_gathers (l : Launch) (dC : Nat → ClassId) (dI : Nat → Nat → Nat) (cI cJ cII cJJ : ClassId) (sz g : Nat) (ad : Nat → Nat) (f9_size f9_equations f9_areSteps f9_foundMany f9_many f9_rank f9_freeMany f9_arePlans f9_planMany : Int32) (ai : Nat → Nat → Int32) (al : Nat → Nat → Int64) (h_f9_size : (1 ≤ f9_size.toInt ∧ f9_size.toInt ≤ 4)) (h_f9_equations : (0 ≤ f9_equations.toInt ∧ f9_equations.toInt ≤ 3)) (h_f9_areSteps : (0 ≤ f9_areSteps.toInt ∧ f9_areSteps.toInt ≤ 1)) (h_f9_foundMany : (0 ≤ f9_foundMany.toInt ∧ f9_foundMany.toInt ≤ 99999)) (h_f9_many : (0 ≤ f9_many.toInt ∧ f9_many.toInt ≤ 6000)) (h_f9_rank : (0 ≤ f9_rank.toInt ∧ f9_rank.toInt ≤ 3)) (h_f9_freeMany : (0 ≤ f9_freeMany.toInt ∧ f9_freeMany.toInt ≤ 4)) (h_f9_arePlans : (0 ≤ f9_arePlans.toInt ∧ f9_arePlans.toInt ≤ 1)) (h_f9_planMany : (0 ≤ f9_planMany.toInt ∧ f9_planMany.toInt ≤ 194481)) (hp0 : f9_planMany.toInt + pw21 (f9_size.toInt.toNat - 1) ≤ 194481) (hI : IAM ai) : Met l yX9_gathers (.code yX9_gathers cX9_gathers 3 none :: TT) ({ frames := 7, cells := 0, slots := 0, locals := 380 } : Room) (PcS dC dI (TY cI cJ cII cJJ) [.ref (ad 22), .int 1] (WM cI cJ cII cJJ ad f9_size f9_equations f9_areSteps f9_foundMany f9_many f9_rank f9_freeMany f9_arePlans f9_planMany ai al) sz 0 g) (Q_r035_X9_gathers dC dI cI cJ cII cJJ ad f9_size f9_equations f9_areSteps f9_foundMany f9_many f9_rank f9_freeMany f9_arePlans ai al f9_planMany (va_A (WM cI cJ cII cJJ ad f9_size f9_equations f9_areSteps f9_foundMany f9_many f9_rank f9_freeMany f9_arePlans f9_planMany ai al) sz)) 0 0 (va_A (WM cI cJ cII cJJ ad f9_size f9_equations f9_areSteps f9_foundMany f9_many f9_rank f9_freeMany f9_arePlans f9_planMany ai al) sz) := by
  refine SM.of (y := yX9_gathers) (maxL := 3) (av := [.ref (ad 22), .int 1]) (Q_r035_X9_gathers dC dI cI cJ cII cJJ ad f9_size f9_equations f9_areSteps f9_foundMany f9_many f9_rank f9_freeMany f9_arePlans ai al f9_planMany) (by decide +kernel) (Nat.le_of_ble_eq_true rfl) (fun p e s m below meth c A ls hx hb hr hml hown hts hk hnm hA hK hP hD hS hX hl => ?_)
  have C : Cx p c s m meth (([.ref (ad 22), .int 1] : List Value).toArray) A dC dI (TY cI cJ cII cJJ) cX9_gathers none 3 RX9 0 g := ⟨hx, hb, hr, hml, hown, hts, hk, hA, hK, hX⟩
  have hown : s.vm.findClass RX9 = some m.cls := hown
  have hl : lv_has ls 3 [(0, .ref (ad 22)), (1, .int 1)] := hl
  obtain ⟨H, hH⟩ : ∃ q, q = s.heap := ⟨_, rfl⟩
  rw [← hH] at hP
  have hS : va_S A s.heap H [] := by rw [hH]; exact hS
  rw [← hH]
  have hF := FR_refl [20, 21] ai
  refine lv_iload_n hx hb dX9_gathers_0 rfl (lv_at hl 1 rfl) ?_
  refine lv_aload_n hx hb dX9_gathers_1 rfl (lv_at hl 0 rfl) ?_
  refine gf (k := 12) hx hb hts inX9 hown hK hP k_807 rfl (by decide) rfl 22 rfl (.int f9_size) rfl dX9_gathers_2 ?_
  refine lv_icmp_ge (tgt := 46) hx hb dX9_gathers_5 (by decide) (fun c1 => ?_) (fun c1 => ?_)
  · have c1 := j_le (a := f9_size.toInt) (b := 1) rfl (by decide +kernel) c1
    refine lv_aload_n hx hb dX9_gathers_46 rfl (lv_at hl 0 rfl) ?_
    refine lv_aload_n hx hb dX9_gathers_47 rfl (lv_at hl 0 rfl) ?_
    refine gf (k := 32) hx hb hts inX9 hown hK hP k_827 rfl (by decide) rfl 22 rfl (.ref (ad 20)) rfl dX9_gathers_48 ?_
    refine lv_iconst (v := 0) hx hb dX9_gathers_51 (by decide) ?_
    have kc0 : (0 : Int32).toInt = 0 := by decide +kernel
    have hM := r031_X9_isPlan l dC dI cI cJ cII cJJ H.size 0 ad f9_size f9_equations f9_areSteps f9_foundMany f9_many f9_rank f9_freeMany f9_arePlans f9_planMany ai al (by omega) (by omega) (by omega) (by omega) (by omega) (by omega) (by omega) (by omega) (by omega) hI
    refine k2V_i (q0 := 22) ⟨hx, hb, hml, hown, hts⟩ hK hP hD hS hA hX cv_RX9_199 hM ⟨by decide +kernel, by decide +kernel⟩ rfl rfl (Or.inl rfl) (rest := []) rfl rfl rfl hl.1 rfl (Nat.le_of_ble_eq_true rfl) dX9_gathers_52 ⟨Nat.le_of_ble_eq_true rfl, Nat.le_of_ble_eq_true rfl⟩ (fun r2 t H1 locs_1 ht hB hS_1 hFc => ?_)
    obtain ⟨gpr2_0, hP_2, -, hD_2⟩ := hB
    rw [ht] at hP_2
    have hD_3 := hD_2.weaken (B := A) (fun k q _ h9 => hFc q.1 h9)
    clear ht
    generalize H1 = H_4 at hP_2 hS_1 ⊢
    refine lv_if_ne (tgt := 59) hx hb dX9_gathers_55 (by decide) (fun c3 => ?_) (fun c3 => ?_)
    · have c3 := j_ne (a := r2.toInt) (b := 0) rfl (by decide +kernel) c3
      have q_p := pw21_pos (f9_size.toInt.toNat - 1)
      refine lv_iconst (v := 0) hx hb dX9_gathers_59 (by decide) ?_
      refine lv_istore_n (lv' := [(2, .int 0), (0, .ref (ad 22)), (1, .int 1)]) hx hb dX9_gathers_60 rfl hl (by decide) rfl (fun ls_5 hl_5 => ?_)
      exact r035_X9_gathers_b61 C hp0  _ 0 f9_planMany ai _ _ _ (by first | omega | decide | (have ka0 := (by decide +kernel : (0 : Int32).toInt = 0); omega)) (by first | omega | decide | (have ka0 := (by decide +kernel : (0 : Int32).toInt = 0); omega)) (by first | omega | decide | (have ka0 := (by decide +kernel : (0 : Int32).toInt = 0); omega)) (by first | omega | decide | (have ka0 := (by decide +kernel : (0 : Int32).toInt = 0); omega)) (by first | omega | decide | (have ka0 := (by decide +kernel : (0 : Int32).toInt = 0); omega)) (by first | omega | decide | (have ka0 := (by decide +kernel : (0 : Int32).toInt = 0); omega)) (by first | omega | decide | (have ka0 := (by decide +kernel : (0 : Int32).toInt = 0); omega)) (by first | omega | decide | (have ka0 := (by decide +kernel : (0 : Int32).toInt = 0); omega)) (by first | omega | decide | (have ka0 := (by decide +kernel : (0 : Int32).toInt = 0); omega)) (by first | omega | decide | (have ka0 := (by decide +kernel : (0 : Int32).toInt = 0); omega)) (by first | omega | decide | (have ka0 := (by decide +kernel : (0 : Int32).toInt = 0); omega)) (by first | omega | decide | (have ka0 := (by decide +kernel : (0 : Int32).toInt = 0); omega)) (by first | omega | decide | (have ka0 := (by decide +kernel : (0 : Int32).toInt = 0); omega)) (by first | omega | decide | (have ka0 := (by decide +kernel : (0 : Int32).toInt = 0); omega)) (by first | omega | decide | (have ka0 := (by decide +kernel : (0 : Int32).toInt = 0); omega)) (j_fuel _) (by omega) hI hF hP_2 hD_3 hS_1 (lv_sub hl_5 [1, 2, 0] rfl)
    · have c3 := j_eq (a := r2.toInt) (b := 0) rfl (by decide +kernel) c3
      exact r2_v hx hb hr hk hS_1 dX9_gathers_58 (fun t ht hW => ⟨f9_planMany, ai, ⟨(by first | omega | decide | exact Or.inl (by decide) | exact Or.inr (by decide) | exact Or.inr (by omega)), (by have q := pw21_pos (f9_size.toInt.toNat - 1); omega), (by first | omega | decide | exact Or.inl (by decide) | exact Or.inr (by decide) | exact Or.inr (by omega)), (by first | omega | decide | exact Or.inl (by decide) | exact Or.inr (by decide) | exact Or.inr (by omega)), (by first | omega | decide | exact Or.inl (by decide) | exact Or.inr (by decide) | exact Or.inr (by omega)), (by first | omega | decide | exact Or.inl (by decide) | exact Or.inr (by decide) | exact Or.inr (by omega)), hI, hF⟩, by rw [ht]; exact hP_2, va_K.moved hW.alike hK, hD_3⟩)
  · have c1 := j_nle (a := f9_size.toInt) (b := 1) rfl (by decide +kernel) c1
    refine lv_aload_n hx hb dX9_gathers_8 rfl (lv_at hl 0 rfl) ?_
    refine gf (k := 2) hx hb hts inX9 hown hK hP k_797 rfl (by decide) rfl 22 rfl (.ref (ad 23)) rfl dX9_gathers_9 ?_
    refine lv_iload_n hx hb dX9_gathers_12 rfl (lv_at hl 1 rfl) ?_
    refine va_iald hx hb hK hP 23 0 rfl rfl (vin (by decide +kernel)) dX9_gathers_13 ?_
    refine lv_topi (fun z4 e_z4 => ?_)
    have k_z4 : z4.toInt = (ai 23 1).toInt := by rw [e_z4]; rfl
    have g_z4 : -10 ≤ z4.toInt ∧ z4.toInt ≤ 10 := by rw [e_z4]; exact IAM_at23 hI _
    refine lv_istore_n (lv' := [(2, .int z4), (0, .ref (ad 22)), (1, .int 1)]) hx hb dX9_gathers_14 rfl hl (by decide) rfl (fun ls_6 hl_6 => ?_)
    exact r035_X9_gathers_b15 C hp0  _ z4 f9_planMany ai _ _ _ (by omega) (by omega) (by omega) (by omega) (by omega) (by omega) (by omega) (by omega) (by omega) (by omega) (pw_00 (by omega) (by have q := pw21_pos (f9_size.toInt.toNat - (1 + 1)); omega)) (by omega) (by omega) (by omega) (by omega) (by omega) (j_fuel _) (by omega) hI hF hP hD hS (lv_sub hl_6 [1, 2, 0] rfl)
