def Q_r001_X9_bits (dC : Nat → ClassId) (dI : Nat → Nat → Nat) (cI cJ cII cJJ : ClassId) (ad : Nat → Nat) (f9_size f9_equations f9_areSteps f9_foundMany f9_many f9_rank f9_freeMany f9_arePlans f9_planMany : Int32) (ai : Nat → Nat → Int32) (al : Nat → Nat → Int64) (x0 : Int32) : (Nat → Prop) → Array Value → State → Outcome → State → Prop := fun A => QI (fun r t => (r.toInt = (bc x0.toInt.toNat : Int)) ∧ WO dC dI (TY cI cJ cII cJJ) (WM cI cJ cII cJJ ad f9_size f9_equations f9_areSteps f9_foundMany f9_many f9_rank f9_freeMany f9_arePlans f9_planMany ai al) A t) A
set_option maxRecDepth 100000 in
set_option maxHeartbeats 4000000 in
theorem r001_X9_bits (l : Launch) (dC : Nat → ClassId) (dI : Nat → Nat → Nat) (cI cJ cII cJJ : ClassId) (sz g : Nat) (ad : Nat → Nat) (f9_size f9_equations f9_areSteps f9_foundMany f9_many f9_rank f9_freeMany f9_arePlans f9_planMany : Int32) (ai : Nat → Nat → Int32) (al : Nat → Nat → Int64) (x0 : Int32) (h_x0 : (0 ≤ x0.toInt ∧ x0.toInt ≤ 15)) (h_f9_size : (1 ≤ f9_size.toInt ∧ f9_size.toInt ≤ 4)) (h_f9_equations : (0 ≤ f9_equations.toInt ∧ f9_equations.toInt ≤ 3)) (h_f9_areSteps : (0 ≤ f9_areSteps.toInt ∧ f9_areSteps.toInt ≤ 1)) (h_f9_foundMany : (0 ≤ f9_foundMany.toInt ∧ f9_foundMany.toInt ≤ 99999)) (h_f9_many : (0 ≤ f9_many.toInt ∧ f9_many.toInt ≤ 6000)) (h_f9_rank : (0 ≤ f9_rank.toInt ∧ f9_rank.toInt ≤ 3)) (h_f9_freeMany : (0 ≤ f9_freeMany.toInt ∧ f9_freeMany.toInt ≤ 4)) (h_f9_arePlans : (0 ≤ f9_arePlans.toInt ∧ f9_arePlans.toInt ≤ 1)) (h_f9_planMany : (0 ≤ f9_planMany.toInt ∧ f9_planMany.toInt ≤ 194481)) (hI : IAM ai) : Met l yX9_bits (.code yX9_bits cX9_bits 1 (some .int) :: TT) ({ frames := 2, cells := 0, slots := 0, locals := 80 } : Room) (PcS dC dI (TY cI cJ cII cJJ) [.int x0] (WM cI cJ cII cJJ ad f9_size f9_equations f9_areSteps f9_foundMany f9_many f9_rank f9_freeMany f9_arePlans f9_planMany ai al) sz 0 g) (Q_r001_X9_bits dC dI cI cJ cII cJJ ad f9_size f9_equations f9_areSteps f9_foundMany f9_many f9_rank f9_freeMany f9_arePlans f9_planMany ai al x0 (va_A (WM cI cJ cII cJJ ad f9_size f9_equations f9_areSteps f9_foundMany f9_many f9_rank f9_freeMany f9_arePlans f9_planMany ai al) sz)) 0 0 (va_A (WM cI cJ cII cJJ ad f9_size f9_equations f9_areSteps f9_foundMany f9_many f9_rank f9_freeMany f9_arePlans f9_planMany ai al) sz) := by
  refine SM.of (y := yX9_bits) (maxL := 1) (av := [.int x0]) (Q_r001_X9_bits dC dI cI cJ cII cJJ ad f9_size f9_equations f9_areSteps f9_foundMany f9_many f9_rank f9_freeMany f9_arePlans f9_planMany ai al x0) (by decide +kernel) (Nat.le_of_ble_eq_true rfl) (fun p e s m below meth c A ls hx hb hr hml hown hts hk hnm hA hK hP hD hS hX hl => ?_)
  have C : Cx p c s m meth (([.int x0] : List Value).toArray) A dC dI (TY cI cJ cII cJJ) cX9_bits (some .int) 1 RX9 0 g := ⟨hx, hb, hr, hml, hown, hts, hk, hA, hK, hX⟩
  have hown : s.vm.findClass RX9 = some m.cls := hown
  have hl : lv_has ls 1 [(0, .int x0)] := hl
  obtain ⟨H, hH⟩ : ∃ q, q = s.heap := ⟨_, rfl⟩
  rw [← hH] at hP
  have hS : va_S A s.heap H [] := by rw [hH]; exact hS
  rw [← hH]
  refine lv_iload_n hx hb dX9_bits_0 rfl (lv_at hl 0 rfl) ?_
  refine lv_iconst (v := 1) hx hb dX9_bits_1 (by decide) ?_
  refine v_iand hx hb dX9_bits_2 _ rfl ?_
  refine lv_topi (fun z1 e_z1 => ?_)
  refine lv_iload_n hx hb dX9_bits_3 rfl (lv_at hl 0 rfl) ?_
  refine lv_iconst (v := 1) hx hb dX9_bits_4 (by decide) ?_
  refine v_ishr hx hb dX9_bits_5 _ rfl ?_
  refine lv_topi (fun z2 e_z2 => ?_)
  refine lv_iconst (v := 1) hx hb dX9_bits_6 (by decide) ?_
  refine v_iand hx hb dX9_bits_7 _ rfl ?_
  refine lv_topi (fun z3 e_z3 => ?_)
  refine v_iadd hx hb dX9_bits_8 _ rfl ?_
  refine lv_topi (fun z4 e_z4 => ?_)
  refine lv_iload_n hx hb dX9_bits_9 rfl (lv_at hl 0 rfl) ?_
  refine lv_iconst (v := 2) hx hb dX9_bits_10 (by decide) ?_
  refine v_ishr hx hb dX9_bits_11 _ rfl ?_
  refine lv_topi (fun z5 e_z5 => ?_)
  refine lv_iconst (v := 1) hx hb dX9_bits_12 (by decide) ?_
  refine v_iand hx hb dX9_bits_13 _ rfl ?_
  refine lv_topi (fun z6 e_z6 => ?_)
  refine v_iadd hx hb dX9_bits_14 _ rfl ?_
  refine lv_topi (fun z7 e_z7 => ?_)
  refine lv_iload_n hx hb dX9_bits_15 rfl (lv_at hl 0 rfl) ?_
  refine lv_iconst (v := 3) hx hb dX9_bits_16 (by decide) ?_
  refine v_ishr hx hb dX9_bits_17 _ rfl ?_
  refine lv_topi (fun z8 e_z8 => ?_)
  refine lv_iconst (v := 1) hx hb dX9_bits_18 (by decide) ?_
  refine v_iand hx hb dX9_bits_19 _ rfl ?_
  refine lv_topi (fun z9 e_z9 => ?_)
  refine v_iadd hx hb dX9_bits_20 _ rfl ?_
  refine lv_topi (fun z10 e_z10 => ?_)
  exact r2_i hx hb hr hk hS dX9_bits_21 (fun t ht hW => ⟨(by subst e_z10 e_z9 e_z8 e_z7 e_z6 e_z5 e_z4 e_z3 e_z2 e_z1; exact bits_ok (by omega) (by omega)), by rw [ht]; exact hP, va_K.moved hW.alike hK, hD⟩)
def Q_r002_X9_a (dC : Nat → ClassId) (dI : Nat → Nat → Nat) (cI cJ cII cJJ : ClassId) (ad : Nat → Nat) (f9_size f9_equations f9_areSteps f9_foundMany f9_many f9_rank f9_freeMany f9_arePlans f9_planMany : Int32) (ai : Nat → Nat → Int32) (al : Nat → Nat → Int64) (x1 : Int32) (x2 : Int32) : (Nat → Prop) → Array Value → State → Outcome → State → Prop := fun A => QL (fun r t => (r = aa ai x1 x2 ∧ (-6 ≤ r.toInt ∧ r.toInt ≤ 6) ∧ r.toInt = ev ai x1.toInt.toNat x2.toInt.toNat) ∧ WO dC dI (TY cI cJ cII cJJ) (WM cI cJ cII cJJ ad f9_size f9_equations f9_areSteps f9_foundMany f9_many f9_rank f9_freeMany f9_arePlans f9_planMany ai al) A t) A
set_option maxRecDepth 100000 in
set_option maxHeartbeats 4000000 in
theorem r002_X9_a (l : Launch) (dC : Nat → ClassId) (dI : Nat → Nat → Nat) (cI cJ cII cJJ : ClassId) (sz g : Nat) (ad : Nat → Nat) (f9_size f9_equations f9_areSteps f9_foundMany f9_many f9_rank f9_freeMany f9_arePlans f9_planMany : Int32) (ai : Nat → Nat → Int32) (al : Nat → Nat → Int64) (x1 : Int32) (x2 : Int32) (h_x1 : (0 ≤ x1.toInt ∧ x1.toInt ≤ 2)) (h_x2 : (0 ≤ x2.toInt ∧ x2.toInt ≤ 3)) (h_f9_size : (1 ≤ f9_size.toInt ∧ f9_size.toInt ≤ 4)) (h_f9_equations : (0 ≤ f9_equations.toInt ∧ f9_equations.toInt ≤ 3)) (h_f9_areSteps : (0 ≤ f9_areSteps.toInt ∧ f9_areSteps.toInt ≤ 1)) (h_f9_foundMany : (0 ≤ f9_foundMany.toInt ∧ f9_foundMany.toInt ≤ 99999)) (h_f9_many : (0 ≤ f9_many.toInt ∧ f9_many.toInt ≤ 6000)) (h_f9_rank : (0 ≤ f9_rank.toInt ∧ f9_rank.toInt ≤ 3)) (h_f9_freeMany : (0 ≤ f9_freeMany.toInt ∧ f9_freeMany.toInt ≤ 4)) (h_f9_arePlans : (0 ≤ f9_arePlans.toInt ∧ f9_arePlans.toInt ≤ 1)) (h_f9_planMany : (0 ≤ f9_planMany.toInt ∧ f9_planMany.toInt ≤ 194481)) (hI : IAM ai) : Met l yX9_a (.code yX9_a cX9_a 3 (some .long) :: TT) ({ frames := 2, cells := 0, slots := 0, locals := 80 } : Room) (PcS dC dI (TY cI cJ cII cJJ) [.ref (ad 22), .int x1, .int x2] (WM cI cJ cII cJJ ad f9_size f9_equations f9_areSteps f9_foundMany f9_many f9_rank f9_freeMany f9_arePlans f9_planMany ai al) sz 0 g) (Q_r002_X9_a dC dI cI cJ cII cJJ ad f9_size f9_equations f9_areSteps f9_foundMany f9_many f9_rank f9_freeMany f9_arePlans f9_planMany ai al x1 x2 (va_A (WM cI cJ cII cJJ ad f9_size f9_equations f9_areSteps f9_foundMany f9_many f9_rank f9_freeMany f9_arePlans f9_planMany ai al) sz)) 0 0 (va_A (WM cI cJ cII cJJ ad f9_size f9_equations f9_areSteps f9_foundMany f9_many f9_rank f9_freeMany f9_arePlans f9_planMany ai al) sz) := by
  refine SM.of (y := yX9_a) (maxL := 3) (av := [.ref (ad 22), .int x1, .int x2]) (Q_r002_X9_a dC dI cI cJ cII cJJ ad f9_size f9_equations f9_areSteps f9_foundMany f9_many f9_rank f9_freeMany f9_arePlans f9_planMany ai al x1 x2) (by decide +kernel) (Nat.le_of_ble_eq_true rfl) (fun p e s m below meth c A ls hx hb hr hml hown hts hk hnm hA hK hP hD hS hX hl => ?_)
  have C : Cx p c s m meth (([.ref (ad 22), .int x1, .int x2] : List Value).toArray) A dC dI (TY cI cJ cII cJJ) cX9_a (some .long) 3 RX9 0 g := ⟨hx, hb, hr, hml, hown, hts, hk, hA, hK, hX⟩
  have hown : s.vm.findClass RX9 = some m.cls := hown
  have hl : lv_has ls 3 [(0, .ref (ad 22)), (1, .int x1), (2, .int x2)] := hl
  obtain ⟨H, hH⟩ : ∃ q, q = s.heap := ⟨_, rfl⟩
  rw [← hH] at hP
  have hS : va_S A s.heap H [] := by rw [hH]; exact hS
  rw [← hH]
  refine lv_aload_n hx hb dX9_a_0 rfl (lv_at hl 0 rfl) ?_
  refine gf (k := 0) hx hb hts inX9 hown hK hP k_795 rfl (by decide) rfl 22 rfl (.ref (ad 0)) rfl dX9_a_1 ?_
  refine lv_iconst (v := 4) hx hb dX9_a_4 (by decide) ?_
  refine lv_iload_n hx hb dX9_a_5 rfl (lv_at hl 1 rfl) ?_
  refine v_imul hx hb dX9_a_6 _ rfl ?_
  refine lv_topi (fun z1 e_z1 => ?_)
  have g_z1 : z1.toInt = 4 * x1.toInt := by rw [e_z1]; exact n_mul (a := 4) (b := x1.toInt) (by decide +kernel) rfl (by omega) (by omega)
  refine lv_iload_n hx hb dX9_a_7 rfl (lv_at hl 2 rfl) ?_
  refine v_iadd hx hb dX9_a_8 _ rfl ?_
  refine lv_topi (fun z2 e_z2 => ?_)
  have g_z2 : z2.toInt = z1.toInt + x2.toInt := by rw [e_z2]; exact n_add (a := z1.toInt) (b := x2.toInt) rfl rfl (by omega) (by omega)
  refine va_iald hx hb hK hP 0 0 rfl rfl (j_in (a := z2.toInt) rfl (by omega) (by omega)) dX9_a_9 ?_
  refine lv_topi (fun z3 e_z3 => ?_)
  have g_z3 : -6 ≤ z3.toInt ∧ z3.toInt ≤ 6 := by rw [e_z3]; exact IAM_at0 hI _
  refine lv_i2l hx hb dX9_a_10 rfl ?_
  refine lv_topl (fun yy4 e_yy4 => ?_)
  have g_yy4 : yy4.toInt = z3.toInt := by rw [e_yy4]; exact ln_i2l (a := z3.toInt) rfl
  exact r2_l hx hb hr hk hS dX9_a_11 (fun t ht hW => ⟨⟨(by rw [e_yy4, show z3 = (ai 0 (4 * x1.toInt.toNat + x2.toInt.toNat)) by rw [e_z3]; show ai 0 z2.toInt.toNat = _; rw [show z2.toInt.toNat = 4 * x1.toInt.toNat + x2.toInt.toNat by omega]]; rfl), (by first | omega | decide | exact Or.inl (by decide) | exact Or.inr (by decide) | exact Or.inr (by omega)), (by rw [g_yy4, show z3 = (ai 0 (4 * x1.toInt.toNat + x2.toInt.toNat)) by rw [e_z3]; show ai 0 z2.toInt.toNat = _; rw [show z2.toInt.toNat = 4 * x1.toInt.toNat + x2.toInt.toNat by omega]]; rfl)⟩, by rw [ht]; exact hP, va_K.moved hW.alike hK, hD⟩)
def Q_r003_X9_minor (dC : Nat → ClassId) (dI : Nat → Nat → Nat) (cI cJ cII cJJ : ClassId) (ad : Nat → Nat) (f9_size f9_equations f9_areSteps f9_foundMany f9_many f9_rank f9_freeMany f9_arePlans f9_planMany : Int32) (ai : Nat → Nat → Int32) (al : Nat → Nat → Int64) (x1 : Int32) (x2 : Int32) (x3 : Int32) (x4 : Int32) (x5 : Int32) (x6 : Int32) (x7 : Int32) : (Nat → Prop) → Array Value → State → Outcome → State → Prop := fun A => QL (fun r t => (r = mn ai x1 x2 x3 x4 x5 x6 x7) ∧ WO dC dI (TY cI cJ cII cJJ) (WM cI cJ cII cJJ ad f9_size f9_equations f9_areSteps f9_foundMany f9_many f9_rank f9_freeMany f9_arePlans f9_planMany ai al) A t) A
set_option maxRecDepth 100000 in
set_option maxHeartbeats 4000000 in
theorem r003_X9_minor (l : Launch) (dC : Nat → ClassId) (dI : Nat → Nat → Nat) (cI cJ cII cJJ : ClassId) (sz g : Nat) (ad : Nat → Nat) (f9_size f9_equations f9_areSteps f9_foundMany f9_many f9_rank f9_freeMany f9_arePlans f9_planMany : Int32) (ai : Nat → Nat → Int32) (al : Nat → Nat → Int64) (x1 : Int32) (x2 : Int32) (x3 : Int32) (x4 : Int32) (x5 : Int32) (x6 : Int32) (x7 : Int32) (h_x1 : (0 ≤ x1.toInt ∧ x1.toInt ≤ 3)) (h_x2 : (0 ≤ x2.toInt ∧ x2.toInt ≤ 2)) (h_x3 : (0 ≤ x3.toInt ∧ x3.toInt ≤ 2)) (h_x4 : (0 ≤ x4.toInt ∧ x4.toInt ≤ 2)) (h_x5 : (0 ≤ x5.toInt ∧ x5.toInt ≤ 3)) (h_x6 : (0 ≤ x6.toInt ∧ x6.toInt ≤ 3)) (h_x7 : (0 ≤ x7.toInt ∧ x7.toInt ≤ 3)) (h_f9_size : (1 ≤ f9_size.toInt ∧ f9_size.toInt ≤ 4)) (h_f9_equations : (0 ≤ f9_equations.toInt ∧ f9_equations.toInt ≤ 3)) (h_f9_areSteps : (0 ≤ f9_areSteps.toInt ∧ f9_areSteps.toInt ≤ 1)) (h_f9_foundMany : (0 ≤ f9_foundMany.toInt ∧ f9_foundMany.toInt ≤ 99999)) (h_f9_many : (0 ≤ f9_many.toInt ∧ f9_many.toInt ≤ 6000)) (h_f9_rank : (0 ≤ f9_rank.toInt ∧ f9_rank.toInt ≤ 3)) (h_f9_freeMany : (0 ≤ f9_freeMany.toInt ∧ f9_freeMany.toInt ≤ 4)) (h_f9_arePlans : (0 ≤ f9_arePlans.toInt ∧ f9_arePlans.toInt ≤ 1)) (h_f9_planMany : (0 ≤ f9_planMany.toInt ∧ f9_planMany.toInt ≤ 194481)) (hI : IAM ai) : Met l yX9_minor (.code yX9_minor cX9_minor 8 (some .long) :: TT) ({ frames := 3, cells := 0, slots := 0, locals := 140 } : Room) (PcS dC dI (TY cI cJ cII cJJ) [.ref (ad 22), .int x1, .int x2, .int x3, .int x4, .int x5, .int x6, .int x7] (WM cI cJ cII cJJ ad f9_size f9_equations f9_areSteps f9_foundMany f9_many f9_rank f9_freeMany f9_arePlans f9_planMany ai al) sz 0 g) (Q_r003_X9_minor dC dI cI cJ cII cJJ ad f9_size f9_equations f9_areSteps f9_foundMany f9_many f9_rank f9_freeMany f9_arePlans f9_planMany ai al x1 x2 x3 x4 x5 x6 x7 (va_A (WM cI cJ cII cJJ ad f9_size f9_equations f9_areSteps f9_foundMany f9_many f9_rank f9_freeMany f9_arePlans f9_planMany ai al) sz)) 0 0 (va_A (WM cI cJ cII cJJ ad f9_size f9_equations f9_areSteps f9_foundMany f9_many f9_rank f9_freeMany f9_arePlans f9_planMany ai al) sz) := by
  refine SM.of (y := yX9_minor) (maxL := 8) (av := [.ref (ad 22), .int x1, .int x2, .int x3, .int x4, .int x5, .int x6, .int x7]) (Q_r003_X9_minor dC dI cI cJ cII cJJ ad f9_size f9_equations f9_areSteps f9_foundMany f9_many f9_rank f9_freeMany f9_arePlans f9_planMany ai al x1 x2 x3 x4 x5 x6 x7) (by decide +kernel) (Nat.le_of_ble_eq_true rfl) (fun p e s m below meth c A ls hx hb hr hml hown hts hk hnm hA hK hP hD hS hX hl => ?_)
  have C : Cx p c s m meth (([.ref (ad 22), .int x1, .int x2, .int x3, .int x4, .int x5, .int x6, .int x7] : List Value).toArray) A dC dI (TY cI cJ cII cJJ) cX9_minor (some .long) 8 RX9 0 g := ⟨hx, hb, hr, hml, hown, hts, hk, hA, hK, hX⟩
  have hown : s.vm.findClass RX9 = some m.cls := hown
  have hl : lv_has ls 8 [(0, .ref (ad 22)), (1, .int x1), (2, .int x2), (3, .int x3), (4, .int x4), (5, .int x5), (6, .int x6), (7, .int x7)] := hl
  obtain ⟨H, hH⟩ : ∃ q, q = s.heap := ⟨_, rfl⟩
  rw [← hH] at hP
  have hS : va_S A s.heap H [] := by rw [hH]; exact hS
  rw [← hH]
  refine lv_iload_n hx hb dX9_minor_0 rfl (lv_at hl 1 rfl) ?_
  refine lv_if_ne (tgt := 6) hx hb dX9_minor_1 (by decide) (fun c1 => ?_) (fun c1 => ?_)
  · have c1 := j_ne (a := x1.toInt) (b := 0) rfl (by decide +kernel) c1
    refine lv_iload_n hx hb dX9_minor_6 rfl (lv_at hl 1 rfl) ?_
    refine lv_iconst (v := 1) hx hb dX9_minor_7 (by decide) ?_
    refine lv_icmp_ne (tgt := 19) hx hb dX9_minor_8 (by decide) (fun c2 => ?_) (fun c2 => ?_)
    · have c2 := j_ne (a := x1.toInt) (b := 1) rfl (by decide +kernel) c2
      refine lv_iload_n hx hb dX9_minor_19 rfl (lv_at hl 1 rfl) ?_
      refine lv_iconst (v := 2) hx hb dX9_minor_20 (by decide) ?_
      refine lv_icmp_ne (tgt := 56) hx hb dX9_minor_21 (by decide) (fun c3 => ?_) (fun c3 => ?_)
      · have c3 := j_ne (a := x1.toInt) (b := 2) rfl (by decide +kernel) c3
        refine lv_aload_n hx hb dX9_minor_56 rfl (lv_at hl 0 rfl) ?_
        refine lv_iload_n hx hb dX9_minor_57 rfl (lv_at hl 2 rfl) ?_
        refine lv_iload hx hb dX9_minor_58 (lv_at hl 5 rfl) ?_
        have hM := r002_X9_a l dC dI cI cJ cII cJJ H.size 0 ad f9_size f9_equations f9_areSteps f9_foundMany f9_many f9_rank f9_freeMany f9_arePlans f9_planMany ai al x2 x5 (by omega) (by omega) (by omega) (by omega) (by omega) (by omega) (by omega) (by omega) (by omega) (by omega) (by omega) hI
        refine k2V_l (q0 := 22) ⟨hx, hb, hml, hown, hts⟩ hK hP hD hS hA hX cv_RX9_124 hM ⟨by decide +kernel, by decide +kernel⟩ rfl rfl (Or.inl rfl) (rest := []) rfl rfl rfl hl.1 rfl (Nat.le_of_ble_eq_true rfl) dX9_minor_60 ⟨Nat.le_of_ble_eq_true rfl, Nat.le_of_ble_eq_true rfl⟩ (fun r4 t H1 locs_1 ht hB hS_1 hFc => ?_)
        obtain ⟨⟨gpr4_0, gpr4_1, gpr4_2⟩, hP_2, -, hD_2⟩ := hB
        rw [ht] at hP_2
        have hD_3 := hD_2.weaken (B := A) (fun k q _ h9 => hFc q.1 h9)
        clear ht
        generalize H1 = H_4 at hP_2 hS_1 ⊢
        refine lv_aload_n hx hb dX9_minor_63 rfl (lv_at hl 0 rfl) ?_
        refine lv_iload_n hx hb dX9_minor_64 rfl (lv_at hl 3 rfl) ?_
        refine lv_iload hx hb dX9_minor_65 (lv_at hl 6 rfl) ?_
        have hM := r002_X9_a l dC dI cI cJ cII cJJ H_4.size 0 ad f9_size f9_equations f9_areSteps f9_foundMany f9_many f9_rank f9_freeMany f9_arePlans f9_planMany ai al x3 x6 (by omega) (by omega) (by omega) (by omega) (by omega) (by omega) (by omega) (by omega) (by omega) (by omega) (by omega) hI
        refine k2V_l (q0 := 22) ⟨hx, hb, hml, hown, hts⟩ hK hP_2 hD_3 hS_1 hA hX cv_RX9_124 hM ⟨by decide +kernel, by decide +kernel⟩ rfl rfl (Or.inl rfl) (rest := [.long r4]) rfl rfl rfl hl.1 rfl (Nat.le_of_ble_eq_true rfl) dX9_minor_67 ⟨Nat.le_of_ble_eq_true rfl, Nat.le_of_ble_eq_true rfl⟩ (fun r5 t H1 locs_5 ht hB hS_5 hFc => ?_)
        obtain ⟨⟨gpr5_0, gpr5_1, gpr5_2⟩, hP_6, -, hD_6⟩ := hB
        rw [ht] at hP_6
        have hD_7 := hD_6.weaken (B := A) (fun k q _ h9 => hFc q.1 h9)
        clear ht
        generalize H1 = H_8 at hP_6 hS_5 ⊢
        refine lv_aload_n hx hb dX9_minor_70 rfl (lv_at hl 0 rfl) ?_
        refine lv_iload hx hb dX9_minor_71 (lv_at hl 4 rfl) ?_
        refine lv_iload hx hb dX9_minor_73 (lv_at hl 7 rfl) ?_
        have hM := r002_X9_a l dC dI cI cJ cII cJJ H_8.size 0 ad f9_size f9_equations f9_areSteps f9_foundMany f9_many f9_rank f9_freeMany f9_arePlans f9_planMany ai al x4 x7 (by omega) (by omega) (by omega) (by omega) (by omega) (by omega) (by omega) (by omega) (by omega) (by omega) (by omega) hI
        refine k2V_l (q0 := 22) ⟨hx, hb, hml, hown, hts⟩ hK hP_6 hD_7 hS_5 hA hX cv_RX9_124 hM ⟨by decide +kernel, by decide +kernel⟩ rfl rfl (Or.inl rfl) (rest := [.long r5, .long r4]) rfl rfl rfl hl.1 rfl (Nat.le_of_ble_eq_true rfl) dX9_minor_75 ⟨Nat.le_of_ble_eq_true rfl, Nat.le_of_ble_eq_true rfl⟩ (fun r6 t H1 locs_9 ht hB hS_9 hFc => ?_)
        obtain ⟨⟨gpr6_0, gpr6_1, gpr6_2⟩, hP_10, -, hD_10⟩ := hB
        rw [ht] at hP_10
        have hD_11 := hD_10.weaken (B := A) (fun k q _ h9 => hFc q.1 h9)
        clear ht
        generalize H1 = H_12 at hP_10 hS_9 ⊢
        refine v_lmul hx hb dX9_minor_78 _ rfl ?_
        refine lv_topl (fun yy7 e_yy7 => ?_)
        refine lv_aload_n hx hb dX9_minor_79 rfl (lv_at hl 0 rfl) ?_
        refine lv_iload_n hx hb dX9_minor_80 rfl (lv_at hl 3 rfl) ?_
        refine lv_iload hx hb dX9_minor_81 (lv_at hl 7 rfl) ?_
        have hM := r002_X9_a l dC dI cI cJ cII cJJ H_12.size 0 ad f9_size f9_equations f9_areSteps f9_foundMany f9_many f9_rank f9_freeMany f9_arePlans f9_planMany ai al x3 x7 (by omega) (by omega) (by omega) (by omega) (by omega) (by omega) (by omega) (by omega) (by omega) (by omega) (by omega) hI
        refine k2V_l (q0 := 22) ⟨hx, hb, hml, hown, hts⟩ hK hP_10 hD_11 hS_9 hA hX cv_RX9_124 hM ⟨by decide +kernel, by decide +kernel⟩ rfl rfl (Or.inl rfl) (rest := [.long yy7, .long r4]) rfl rfl rfl hl.1 rfl (Nat.le_of_ble_eq_true rfl) dX9_minor_83 ⟨Nat.le_of_ble_eq_true rfl, Nat.le_of_ble_eq_true rfl⟩ (fun r8 t H1 locs_13 ht hB hS_13 hFc => ?_)
        obtain ⟨⟨gpr8_0, gpr8_1, gpr8_2⟩, hP_14, -, hD_14⟩ := hB
        rw [ht] at hP_14
        have hD_15 := hD_14.weaken (B := A) (fun k q _ h9 => hFc q.1 h9)
        clear ht
        generalize H1 = H_16 at hP_14 hS_13 ⊢
        refine lv_aload_n hx hb dX9_minor_86 rfl (lv_at hl 0 rfl) ?_
        refine lv_iload hx hb dX9_minor_87 (lv_at hl 4 rfl) ?_
        refine lv_iload hx hb dX9_minor_89 (lv_at hl 6 rfl) ?_
        have hM := r002_X9_a l dC dI cI cJ cII cJJ H_16.size 0 ad f9_size f9_equations f9_areSteps f9_foundMany f9_many f9_rank f9_freeMany f9_arePlans f9_planMany ai al x4 x6 (by omega) (by omega) (by omega) (by omega) (by omega) (by omega) (by omega) (by omega) (by omega) (by omega) (by omega) hI
        refine k2V_l (q0 := 22) ⟨hx, hb, hml, hown, hts⟩ hK hP_14 hD_15 hS_13 hA hX cv_RX9_124 hM ⟨by decide +kernel, by decide +kernel⟩ rfl rfl (Or.inl rfl) (rest := [.long r8, .long yy7, .long r4]) rfl rfl rfl hl.1 rfl (Nat.le_of_ble_eq_true rfl) dX9_minor_91 ⟨Nat.le_of_ble_eq_true rfl, Nat.le_of_ble_eq_true rfl⟩ (fun r9 t H1 locs_17 ht hB hS_17 hFc => ?_)
        obtain ⟨⟨gpr9_0, gpr9_1, gpr9_2⟩, hP_18, -, hD_18⟩ := hB
        rw [ht] at hP_18
        have hD_19 := hD_18.weaken (B := A) (fun k q _ h9 => hFc q.1 h9)
        clear ht
        generalize H1 = H_20 at hP_18 hS_17 ⊢
        refine v_lmul hx hb dX9_minor_94 _ rfl ?_
        refine lv_topl (fun yy10 e_yy10 => ?_)
        refine v_lsub hx hb dX9_minor_95 _ rfl ?_
        refine lv_topl (fun yy11 e_yy11 => ?_)
        refine v_lmul hx hb dX9_minor_96 _ rfl ?_
        refine lv_topl (fun yy12 e_yy12 => ?_)
        refine lv_aload_n hx hb dX9_minor_97 rfl (lv_at hl 0 rfl) ?_
        refine lv_iload_n hx hb dX9_minor_98 rfl (lv_at hl 2 rfl) ?_
        refine lv_iload hx hb dX9_minor_99 (lv_at hl 6 rfl) ?_
        have hM := r002_X9_a l dC dI cI cJ cII cJJ H_20.size 0 ad f9_size f9_equations f9_areSteps f9_foundMany f9_many f9_rank f9_freeMany f9_arePlans f9_planMany ai al x2 x6 (by omega) (by omega) (by omega) (by omega) (by omega) (by omega) (by omega) (by omega) (by omega) (by omega) (by omega) hI
        refine k2V_l (q0 := 22) ⟨hx, hb, hml, hown, hts⟩ hK hP_18 hD_19 hS_17 hA hX cv_RX9_124 hM ⟨by decide +kernel, by decide +kernel⟩ rfl rfl (Or.inl rfl) (rest := [.long yy12]) rfl rfl rfl hl.1 rfl (Nat.le_of_ble_eq_true rfl) dX9_minor_101 ⟨Nat.le_of_ble_eq_true rfl, Nat.le_of_ble_eq_true rfl⟩ (fun r13 t H1 locs_21 ht hB hS_21 hFc => ?_)
        obtain ⟨⟨gpr13_0, gpr13_1, gpr13_2⟩, hP_22, -, hD_22⟩ := hB
        rw [ht] at hP_22
        have hD_23 := hD_22.weaken (B := A) (fun k q _ h9 => hFc q.1 h9)
        clear ht
        generalize H1 = H_24 at hP_22 hS_21 ⊢
        refine lv_aload_n hx hb dX9_minor_104 rfl (lv_at hl 0 rfl) ?_
        refine lv_iload_n hx hb dX9_minor_105 rfl (lv_at hl 3 rfl) ?_
        refine lv_iload hx hb dX9_minor_106 (lv_at hl 5 rfl) ?_
        have hM := r002_X9_a l dC dI cI cJ cII cJJ H_24.size 0 ad f9_size f9_equations f9_areSteps f9_foundMany f9_many f9_rank f9_freeMany f9_arePlans f9_planMany ai al x3 x5 (by omega) (by omega) (by omega) (by omega) (by omega) (by omega) (by omega) (by omega) (by omega) (by omega) (by omega) hI
        refine k2V_l (q0 := 22) ⟨hx, hb, hml, hown, hts⟩ hK hP_22 hD_23 hS_21 hA hX cv_RX9_124 hM ⟨by decide +kernel, by decide +kernel⟩ rfl rfl (Or.inl rfl) (rest := [.long r13, .long yy12]) rfl rfl rfl hl.1 rfl (Nat.le_of_ble_eq_true rfl) dX9_minor_108 ⟨Nat.le_of_ble_eq_true rfl, Nat.le_of_ble_eq_true rfl⟩ (fun r14 t H1 locs_25 ht hB hS_25 hFc => ?_)
        obtain ⟨⟨gpr14_0, gpr14_1, gpr14_2⟩, hP_26, -, hD_26⟩ := hB
        rw [ht] at hP_26
        have hD_27 := hD_26.weaken (B := A) (fun k q _ h9 => hFc q.1 h9)
        clear ht
        generalize H1 = H_28 at hP_26 hS_25 ⊢
        refine lv_aload_n hx hb dX9_minor_111 rfl (lv_at hl 0 rfl) ?_
        refine lv_iload hx hb dX9_minor_112 (lv_at hl 4 rfl) ?_
        refine lv_iload hx hb dX9_minor_114 (lv_at hl 7 rfl) ?_
        have hM := r002_X9_a l dC dI cI cJ cII cJJ H_28.size 0 ad f9_size f9_equations f9_areSteps f9_foundMany f9_many f9_rank f9_freeMany f9_arePlans f9_planMany ai al x4 x7 (by omega) (by omega) (by omega) (by omega) (by omega) (by omega) (by omega) (by omega) (by omega) (by omega) (by omega) hI
        refine k2V_l (q0 := 22) ⟨hx, hb, hml, hown, hts⟩ hK hP_26 hD_27 hS_25 hA hX cv_RX9_124 hM ⟨by decide +kernel, by decide +kernel⟩ rfl rfl (Or.inl rfl) (rest := [.long r14, .long r13, .long yy12]) rfl rfl rfl hl.1 rfl (Nat.le_of_ble_eq_true rfl) dX9_minor_116 ⟨Nat.le_of_ble_eq_true rfl, Nat.le_of_ble_eq_true rfl⟩ (fun r15 t H1 locs_29 ht hB hS_29 hFc => ?_)
        obtain ⟨⟨gpr15_0, gpr15_1, gpr15_2⟩, hP_30, -, hD_30⟩ := hB
        rw [ht] at hP_30
        have hD_31 := hD_30.weaken (B := A) (fun k q _ h9 => hFc q.1 h9)
        clear ht
        generalize H1 = H_32 at hP_30 hS_29 ⊢
        refine v_lmul hx hb dX9_minor_119 _ rfl ?_
        refine lv_topl (fun yy16 e_yy16 => ?_)
        refine lv_aload_n hx hb dX9_minor_120 rfl (lv_at hl 0 rfl) ?_
        refine lv_iload_n hx hb dX9_minor_121 rfl (lv_at hl 3 rfl) ?_
        refine lv_iload hx hb dX9_minor_122 (lv_at hl 7 rfl) ?_
        have hM := r002_X9_a l dC dI cI cJ cII cJJ H_32.size 0 ad f9_size f9_equations f9_areSteps f9_foundMany f9_many f9_rank f9_freeMany f9_arePlans f9_planMany ai al x3 x7 (by omega) (by omega) (by omega) (by omega) (by omega) (by omega) (by omega) (by omega) (by omega) (by omega) (by omega) hI
        refine k2V_l (q0 := 22) ⟨hx, hb, hml, hown, hts⟩ hK hP_30 hD_31 hS_29 hA hX cv_RX9_124 hM ⟨by decide +kernel, by decide +kernel⟩ rfl rfl (Or.inl rfl) (rest := [.long yy16, .long r13, .long yy12]) rfl rfl rfl hl.1 rfl (Nat.le_of_ble_eq_true rfl) dX9_minor_124 ⟨Nat.le_of_ble_eq_true rfl, Nat.le_of_ble_eq_true rfl⟩ (fun r17 t H1 locs_33 ht hB hS_33 hFc => ?_)
        obtain ⟨⟨gpr17_0, gpr17_1, gpr17_2⟩, hP_34, -, hD_34⟩ := hB
        rw [ht] at hP_34
        have hD_35 := hD_34.weaken (B := A) (fun k q _ h9 => hFc q.1 h9)
        clear ht
        generalize H1 = H_36 at hP_34 hS_33 ⊢
        refine lv_aload_n hx hb dX9_minor_127 rfl (lv_at hl 0 rfl) ?_
        refine lv_iload hx hb dX9_minor_128 (lv_at hl 4 rfl) ?_
        refine lv_iload hx hb dX9_minor_130 (lv_at hl 5 rfl) ?_
        have hM := r002_X9_a l dC dI cI cJ cII cJJ H_36.size 0 ad f9_size f9_equations f9_areSteps f9_foundMany f9_many f9_rank f9_freeMany f9_arePlans f9_planMany ai al x4 x5 (by omega) (by omega) (by omega) (by omega) (by omega) (by omega) (by omega) (by omega) (by omega) (by omega) (by omega) hI
        refine k2V_l (q0 := 22) ⟨hx, hb, hml, hown, hts⟩ hK hP_34 hD_35 hS_33 hA hX cv_RX9_124 hM ⟨by decide +kernel, by decide +kernel⟩ rfl rfl (Or.inl rfl) (rest := [.long r17, .long yy16, .long r13, .long yy12]) rfl rfl rfl hl.1 rfl (Nat.le_of_ble_eq_true rfl) dX9_minor_132 ⟨Nat.le_of_ble_eq_true rfl, Nat.le_of_ble_eq_true rfl⟩ (fun r18 t H1 locs_37 ht hB hS_37 hFc => ?_)
        obtain ⟨⟨gpr18_0, gpr18_1, gpr18_2⟩, hP_38, -, hD_38⟩ := hB
        rw [ht] at hP_38
        have hD_39 := hD_38.weaken (B := A) (fun k q _ h9 => hFc q.1 h9)
        clear ht
        generalize H1 = H_40 at hP_38 hS_37 ⊢
        refine v_lmul hx hb dX9_minor_135 _ rfl ?_
        refine lv_topl (fun yy19 e_yy19 => ?_)
        refine v_lsub hx hb dX9_minor_136 _ rfl ?_
        refine lv_topl (fun yy20 e_yy20 => ?_)
        refine v_lmul hx hb dX9_minor_137 _ rfl ?_
        refine lv_topl (fun yy21 e_yy21 => ?_)
        refine v_lsub hx hb dX9_minor_138 _ rfl ?_
        refine lv_topl (fun yy22 e_yy22 => ?_)
        refine lv_aload_n hx hb dX9_minor_139 rfl (lv_at hl 0 rfl) ?_
        refine lv_iload_n hx hb dX9_minor_140 rfl (lv_at hl 2 rfl) ?_
        refine lv_iload hx hb dX9_minor_141 (lv_at hl 7 rfl) ?_
        have hM := r002_X9_a l dC dI cI cJ cII cJJ H_40.size 0 ad f9_size f9_equations f9_areSteps f9_foundMany f9_many f9_rank f9_freeMany f9_arePlans f9_planMany ai al x2 x7 (by omega) (by omega) (by omega) (by omega) (by omega) (by omega) (by omega) (by omega) (by omega) (by omega) (by omega) hI
        refine k2V_l (q0 := 22) ⟨hx, hb, hml, hown, hts⟩ hK hP_38 hD_39 hS_37 hA hX cv_RX9_124 hM ⟨by decide +kernel, by decide +kernel⟩ rfl rfl (Or.inl rfl) (rest := [.long yy22]) rfl rfl rfl hl.1 rfl (Nat.le_of_ble_eq_true rfl) dX9_minor_143 ⟨Nat.le_of_ble_eq_true rfl, Nat.le_of_ble_eq_true rfl⟩ (fun r23 t H1 locs_41 ht hB hS_41 hFc => ?_)
        obtain ⟨⟨gpr23_0, gpr23_1, gpr23_2⟩, hP_42, -, hD_42⟩ := hB
        rw [ht] at hP_42
        have hD_43 := hD_42.weaken (B := A) (fun k q _ h9 => hFc q.1 h9)
        clear ht
        generalize H1 = H_44 at hP_42 hS_41 ⊢
        refine lv_aload_n hx hb dX9_minor_146 rfl (lv_at hl 0 rfl) ?_
        refine lv_iload_n hx hb dX9_minor_147 rfl (lv_at hl 3 rfl) ?_
        refine lv_iload hx hb dX9_minor_148 (lv_at hl 5 rfl) ?_
        have hM := r002_X9_a l dC dI cI cJ cII cJJ H_44.size 0 ad f9_size f9_equations f9_areSteps f9_foundMany f9_many f9_rank f9_freeMany f9_arePlans f9_planMany ai al x3 x5 (by omega) (by omega) (by omega) (by omega) (by omega) (by omega) (by omega) (by omega) (by omega) (by omega) (by omega) hI
        refine k2V_l (q0 := 22) ⟨hx, hb, hml, hown, hts⟩ hK hP_42 hD_43 hS_41 hA hX cv_RX9_124 hM ⟨by decide +kernel, by decide +kernel⟩ rfl rfl (Or.inl rfl) (rest := [.long r23, .long yy22]) rfl rfl rfl hl.1 rfl (Nat.le_of_ble_eq_true rfl) dX9_minor_150 ⟨Nat.le_of_ble_eq_true rfl, Nat.le_of_ble_eq_true rfl⟩ (fun r24 t H1 locs_45 ht hB hS_45 hFc => ?_)
        obtain ⟨⟨gpr24_0, gpr24_1, gpr24_2⟩, hP_46, -, hD_46⟩ := hB
        rw [ht] at hP_46
        have hD_47 := hD_46.weaken (B := A) (fun k q _ h9 => hFc q.1 h9)
        clear ht
        generalize H1 = H_48 at hP_46 hS_45 ⊢
        refine lv_aload_n hx hb dX9_minor_153 rfl (lv_at hl 0 rfl) ?_
        refine lv_iload hx hb dX9_minor_154 (lv_at hl 4 rfl) ?_
        refine lv_iload hx hb dX9_minor_156 (lv_at hl 6 rfl) ?_
        have hM := r002_X9_a l dC dI cI cJ cII cJJ H_48.size 0 ad f9_size f9_equations f9_areSteps f9_foundMany f9_many f9_rank f9_freeMany f9_arePlans f9_planMany ai al x4 x6 (by omega) (by omega) (by omega) (by omega) (by omega) (by omega) (by omega) (by omega) (by omega) (by omega) (by omega) hI
        refine k2V_l (q0 := 22) ⟨hx, hb, hml, hown, hts⟩ hK hP_46 hD_47 hS_45 hA hX cv_RX9_124 hM ⟨by decide +kernel, by decide +kernel⟩ rfl rfl (Or.inl rfl) (rest := [.long r24, .long r23, .long yy22]) rfl rfl rfl hl.1 rfl (Nat.le_of_ble_eq_true rfl) dX9_minor_158 ⟨Nat.le_of_ble_eq_true rfl, Nat.le_of_ble_eq_true rfl⟩ (fun r25 t H1 locs_49 ht hB hS_49 hFc => ?_)
        obtain ⟨⟨gpr25_0, gpr25_1, gpr25_2⟩, hP_50, -, hD_50⟩ := hB
        rw [ht] at hP_50
        have hD_51 := hD_50.weaken (B := A) (fun k q _ h9 => hFc q.1 h9)
        clear ht
        generalize H1 = H_52 at hP_50 hS_49 ⊢
        refine v_lmul hx hb dX9_minor_161 _ rfl ?_
        refine lv_topl (fun yy26 e_yy26 => ?_)
        refine lv_aload_n hx hb dX9_minor_162 rfl (lv_at hl 0 rfl) ?_
        refine lv_iload_n hx hb dX9_minor_163 rfl (lv_at hl 3 rfl) ?_
        refine lv_iload hx hb dX9_minor_164 (lv_at hl 6 rfl) ?_
        have hM := r002_X9_a l dC dI cI cJ cII cJJ H_52.size 0 ad f9_size f9_equations f9_areSteps f9_foundMany f9_many f9_rank f9_freeMany f9_arePlans f9_planMany ai al x3 x6 (by omega) (by omega) (by omega) (by omega) (by omega) (by omega) (by omega) (by omega) (by omega) (by omega) (by omega) hI
        refine k2V_l (q0 := 22) ⟨hx, hb, hml, hown, hts⟩ hK hP_50 hD_51 hS_49 hA hX cv_RX9_124 hM ⟨by decide +kernel, by decide +kernel⟩ rfl rfl (Or.inl rfl) (rest := [.long yy26, .long r23, .long yy22]) rfl rfl rfl hl.1 rfl (Nat.le_of_ble_eq_true rfl) dX9_minor_166 ⟨Nat.le_of_ble_eq_true rfl, Nat.le_of_ble_eq_true rfl⟩ (fun r27 t H1 locs_53 ht hB hS_53 hFc => ?_)
        obtain ⟨⟨gpr27_0, gpr27_1, gpr27_2⟩, hP_54, -, hD_54⟩ := hB
        rw [ht] at hP_54
        have hD_55 := hD_54.weaken (B := A) (fun k q _ h9 => hFc q.1 h9)
        clear ht
        generalize H1 = H_56 at hP_54 hS_53 ⊢
        refine lv_aload_n hx hb dX9_minor_169 rfl (lv_at hl 0 rfl) ?_
        refine lv_iload hx hb dX9_minor_170 (lv_at hl 4 rfl) ?_
        refine lv_iload hx hb dX9_minor_172 (lv_at hl 5 rfl) ?_
        have hM := r002_X9_a l dC dI cI cJ cII cJJ H_56.size 0 ad f9_size f9_equations f9_areSteps f9_foundMany f9_many f9_rank f9_freeMany f9_arePlans f9_planMany ai al x4 x5 (by omega) (by omega) (by omega) (by omega) (by omega) (by omega) (by omega) (by omega) (by omega) (by omega) (by omega) hI
        refine k2V_l (q0 := 22) ⟨hx, hb, hml, hown, hts⟩ hK hP_54 hD_55 hS_53 hA hX cv_RX9_124 hM ⟨by decide +kernel, by decide +kernel⟩ rfl rfl (Or.inl rfl) (rest := [.long r27, .long yy26, .long r23, .long yy22]) rfl rfl rfl hl.1 rfl (Nat.le_of_ble_eq_true rfl) dX9_minor_174 ⟨Nat.le_of_ble_eq_true rfl, Nat.le_of_ble_eq_true rfl⟩ (fun r28 t H1 locs_57 ht hB hS_57 hFc => ?_)
        obtain ⟨⟨gpr28_0, gpr28_1, gpr28_2⟩, hP_58, -, hD_58⟩ := hB
        rw [ht] at hP_58
        have hD_59 := hD_58.weaken (B := A) (fun k q _ h9 => hFc q.1 h9)
        clear ht
        generalize H1 = H_60 at hP_58 hS_57 ⊢
        refine v_lmul hx hb dX9_minor_177 _ rfl ?_
        refine lv_topl (fun yy29 e_yy29 => ?_)
        refine v_lsub hx hb dX9_minor_178 _ rfl ?_
        refine lv_topl (fun yy30 e_yy30 => ?_)
        refine v_lmul hx hb dX9_minor_179 _ rfl ?_
        refine lv_topl (fun yy31 e_yy31 => ?_)
        refine v_ladd hx hb dX9_minor_180 _ rfl ?_
        refine lv_topl (fun yy32 e_yy32 => ?_)
        exact r2_l hx hb hr hk hS_57 dX9_minor_181 (fun t ht hW => ⟨(by unfold mn; rw [if_neg (q_ne (b := 0) rfl (by decide +kernel) (by omega)), if_neg (q_ne (b := 1) rfl (by decide +kernel) (by omega)), if_neg (q_ne (b := 2) rfl (by decide +kernel) (by omega))]; subst e_yy32 e_yy31 e_yy30 e_yy29 e_yy26 e_yy22 e_yy21 e_yy20 e_yy19 e_yy16 e_yy12 e_yy11 e_yy10 e_yy7 gpr28_0 gpr27_0 gpr25_0 gpr24_0 gpr23_0 gpr18_0 gpr17_0 gpr15_0 gpr14_0 gpr13_0 gpr9_0 gpr8_0 gpr6_0 gpr5_0 gpr4_0; rfl), by rw [ht]; exact hP_58, va_K.moved hW.alike hK, hD_59⟩)
      · have c3 := j_eq (a := x1.toInt) (b := 2) rfl (by decide +kernel) c3
        refine lv_aload_n hx hb dX9_minor_24 rfl (lv_at hl 0 rfl) ?_
        refine lv_iload_n hx hb dX9_minor_25 rfl (lv_at hl 2 rfl) ?_
        refine lv_iload hx hb dX9_minor_26 (lv_at hl 5 rfl) ?_
        have hM := r002_X9_a l dC dI cI cJ cII cJJ H.size 0 ad f9_size f9_equations f9_areSteps f9_foundMany f9_many f9_rank f9_freeMany f9_arePlans f9_planMany ai al x2 x5 (by omega) (by omega) (by omega) (by omega) (by omega) (by omega) (by omega) (by omega) (by omega) (by omega) (by omega) hI
        refine k2V_l (q0 := 22) ⟨hx, hb, hml, hown, hts⟩ hK hP hD hS hA hX cv_RX9_124 hM ⟨by decide +kernel, by decide +kernel⟩ rfl rfl (Or.inl rfl) (rest := []) rfl rfl rfl hl.1 rfl (Nat.le_of_ble_eq_true rfl) dX9_minor_28 ⟨Nat.le_of_ble_eq_true rfl, Nat.le_of_ble_eq_true rfl⟩ (fun r33 t H1 locs_61 ht hB hS_61 hFc => ?_)
        obtain ⟨⟨gpr33_0, gpr33_1, gpr33_2⟩, hP_62, -, hD_62⟩ := hB
        rw [ht] at hP_62
        have hD_63 := hD_62.weaken (B := A) (fun k q _ h9 => hFc q.1 h9)
        clear ht
        generalize H1 = H_64 at hP_62 hS_61 ⊢
        refine lv_aload_n hx hb dX9_minor_31 rfl (lv_at hl 0 rfl) ?_
        refine lv_iload_n hx hb dX9_minor_32 rfl (lv_at hl 3 rfl) ?_
        refine lv_iload hx hb dX9_minor_33 (lv_at hl 6 rfl) ?_
        have hM := r002_X9_a l dC dI cI cJ cII cJJ H_64.size 0 ad f9_size f9_equations f9_areSteps f9_foundMany f9_many f9_rank f9_freeMany f9_arePlans f9_planMany ai al x3 x6 (by omega) (by omega) (by omega) (by omega) (by omega) (by omega) (by omega) (by omega) (by omega) (by omega) (by omega) hI
        refine k2V_l (q0 := 22) ⟨hx, hb, hml, hown, hts⟩ hK hP_62 hD_63 hS_61 hA hX cv_RX9_124 hM ⟨by decide +kernel, by decide +kernel⟩ rfl rfl (Or.inl rfl) (rest := [.long r33]) rfl rfl rfl hl.1 rfl (Nat.le_of_ble_eq_true rfl) dX9_minor_35 ⟨Nat.le_of_ble_eq_true rfl, Nat.le_of_ble_eq_true rfl⟩ (fun r34 t H1 locs_65 ht hB hS_65 hFc => ?_)
        obtain ⟨⟨gpr34_0, gpr34_1, gpr34_2⟩, hP_66, -, hD_66⟩ := hB
        rw [ht] at hP_66
        have hD_67 := hD_66.weaken (B := A) (fun k q _ h9 => hFc q.1 h9)
        clear ht
        generalize H1 = H_68 at hP_66 hS_65 ⊢
        refine v_lmul hx hb dX9_minor_38 _ rfl ?_
        refine lv_topl (fun yy35 e_yy35 => ?_)
        refine lv_aload_n hx hb dX9_minor_39 rfl (lv_at hl 0 rfl) ?_
        refine lv_iload_n hx hb dX9_minor_40 rfl (lv_at hl 2 rfl) ?_
        refine lv_iload hx hb dX9_minor_41 (lv_at hl 6 rfl) ?_
        have hM := r002_X9_a l dC dI cI cJ cII cJJ H_68.size 0 ad f9_size f9_equations f9_areSteps f9_foundMany f9_many f9_rank f9_freeMany f9_arePlans f9_planMany ai al x2 x6 (by omega) (by omega) (by omega) (by omega) (by omega) (by omega) (by omega) (by omega) (by omega) (by omega) (by omega) hI
        refine k2V_l (q0 := 22) ⟨hx, hb, hml, hown, hts⟩ hK hP_66 hD_67 hS_65 hA hX cv_RX9_124 hM ⟨by decide +kernel, by decide +kernel⟩ rfl rfl (Or.inl rfl) (rest := [.long yy35]) rfl rfl rfl hl.1 rfl (Nat.le_of_ble_eq_true rfl) dX9_minor_43 ⟨Nat.le_of_ble_eq_true rfl, Nat.le_of_ble_eq_true rfl⟩ (fun r36 t H1 locs_69 ht hB hS_69 hFc => ?_)
        obtain ⟨⟨gpr36_0, gpr36_1, gpr36_2⟩, hP_70, -, hD_70⟩ := hB
        rw [ht] at hP_70
        have hD_71 := hD_70.weaken (B := A) (fun k q _ h9 => hFc q.1 h9)
        clear ht
        generalize H1 = H_72 at hP_70 hS_69 ⊢
        refine lv_aload_n hx hb dX9_minor_46 rfl (lv_at hl 0 rfl) ?_
        refine lv_iload_n hx hb dX9_minor_47 rfl (lv_at hl 3 rfl) ?_
        refine lv_iload hx hb dX9_minor_48 (lv_at hl 5 rfl) ?_
        have hM := r002_X9_a l dC dI cI cJ cII cJJ H_72.size 0 ad f9_size f9_equations f9_areSteps f9_foundMany f9_many f9_rank f9_freeMany f9_arePlans f9_planMany ai al x3 x5 (by omega) (by omega) (by omega) (by omega) (by omega) (by omega) (by omega) (by omega) (by omega) (by omega) (by omega) hI
        refine k2V_l (q0 := 22) ⟨hx, hb, hml, hown, hts⟩ hK hP_70 hD_71 hS_69 hA hX cv_RX9_124 hM ⟨by decide +kernel, by decide +kernel⟩ rfl rfl (Or.inl rfl) (rest := [.long r36, .long yy35]) rfl rfl rfl hl.1 rfl (Nat.le_of_ble_eq_true rfl) dX9_minor_50 ⟨Nat.le_of_ble_eq_true rfl, Nat.le_of_ble_eq_true rfl⟩ (fun r37 t H1 locs_73 ht hB hS_73 hFc => ?_)
        obtain ⟨⟨gpr37_0, gpr37_1, gpr37_2⟩, hP_74, -, hD_74⟩ := hB
        rw [ht] at hP_74
        have hD_75 := hD_74.weaken (B := A) (fun k q _ h9 => hFc q.1 h9)
        clear ht
        generalize H1 = H_76 at hP_74 hS_73 ⊢
        refine v_lmul hx hb dX9_minor_53 _ rfl ?_
        refine lv_topl (fun yy38 e_yy38 => ?_)
        refine v_lsub hx hb dX9_minor_54 _ rfl ?_
        refine lv_topl (fun yy39 e_yy39 => ?_)
        exact r2_l hx hb hr hk hS_73 dX9_minor_55 (fun t ht hW => ⟨(by unfold mn; rw [if_neg (q_ne (b := 0) rfl (by decide +kernel) (by omega)), if_neg (q_ne (b := 1) rfl (by decide +kernel) (by omega)), if_pos (q_eq (b := 2) rfl (by decide +kernel) (by omega))]; subst e_yy39 e_yy38 e_yy35 gpr37_0 gpr36_0 gpr34_0 gpr33_0; rfl), by rw [ht]; exact hP_74, va_K.moved hW.alike hK, hD_75⟩)
    · have c2 := j_eq (a := x1.toInt) (b := 1) rfl (by decide +kernel) c2
      refine lv_aload_n hx hb dX9_minor_11 rfl (lv_at hl 0 rfl) ?_
      refine lv_iload_n hx hb dX9_minor_12 rfl (lv_at hl 2 rfl) ?_
      refine lv_iload hx hb dX9_minor_13 (lv_at hl 5 rfl) ?_
      have hM := r002_X9_a l dC dI cI cJ cII cJJ H.size 0 ad f9_size f9_equations f9_areSteps f9_foundMany f9_many f9_rank f9_freeMany f9_arePlans f9_planMany ai al x2 x5 (by omega) (by omega) (by omega) (by omega) (by omega) (by omega) (by omega) (by omega) (by omega) (by omega) (by omega) hI
      refine k2V_l (q0 := 22) ⟨hx, hb, hml, hown, hts⟩ hK hP hD hS hA hX cv_RX9_124 hM ⟨by decide +kernel, by decide +kernel⟩ rfl rfl (Or.inl rfl) (rest := []) rfl rfl rfl hl.1 rfl (Nat.le_of_ble_eq_true rfl) dX9_minor_15 ⟨Nat.le_of_ble_eq_true rfl, Nat.le_of_ble_eq_true rfl⟩ (fun r40 t H1 locs_77 ht hB hS_77 hFc => ?_)
      obtain ⟨⟨gpr40_0, gpr40_1, gpr40_2⟩, hP_78, -, hD_78⟩ := hB
      rw [ht] at hP_78
      have hD_79 := hD_78.weaken (B := A) (fun k q _ h9 => hFc q.1 h9)
      clear ht
      generalize H1 = H_80 at hP_78 hS_77 ⊢
      exact r2_l hx hb hr hk hS_77 dX9_minor_18 (fun t ht hW => ⟨(by unfold mn; rw [if_neg (q_ne (b := 0) rfl (by decide +kernel) (by omega)), if_pos (q_eq (b := 1) rfl (by decide +kernel) (by omega))]; subst gpr40_0; rfl), by rw [ht]; exact hP_78, va_K.moved hW.alike hK, hD_79⟩)
  · have c1 := j_eq (a := x1.toInt) (b := 0) rfl (by decide +kernel) c1
    refine lv_lconst (v := 1) hx hb dX9_minor_4 (by decide) ?_
    exact r2_l hx hb hr hk hS dX9_minor_5 (fun t ht hW => ⟨(by unfold mn; rw [if_pos (q_eq (b := 0) rfl (by decide +kernel) (by omega))]), by rw [ht]; exact hP, va_K.moved hW.alike hK, hD⟩)
def Q_r004_X9_takes (dC : Nat → ClassId) (dI : Nat → Nat → Nat) (cI cJ cII cJJ : ClassId) (ad : Nat → Nat) (f9_size f9_equations f9_areSteps f9_foundMany f9_many f9_rank f9_freeMany f9_arePlans f9_planMany : Int32) (ai0 : Nat → Nat → Int32) (al : Nat → Nat → Int64) (x0 : Int32) : (Nat → Prop) → Array Value → State → Outcome → State → Prop := fun A => QV (fun t => ∃ (n_ai : Nat → Nat → Int32), ((∀ j : Nat, j < 3 → (n_ai 13 j).toInt = (tk x0.toInt.toNat j : Int)) ∧ IAM n_ai ∧ FR [13] ai0 n_ai) ∧ WO dC dI (TY cI cJ cII cJJ) (WM cI cJ cII cJJ ad f9_size f9_equations f9_areSteps f9_foundMany f9_many f9_rank f9_freeMany f9_arePlans f9_planMany n_ai al) A t) A
set_option maxRecDepth 100000 in
set_option maxHeartbeats 4000000 in
theorem r004_X9_takes_b38 {p : Program} {l : Launch} {e : Env} {s : State} {m : MethodId} {args : Array Value} {below : List Frame} {meth : Method} {c : Code} {A : Nat → Prop} {dC : Nat → ClassId} {dI : Nat → Nat → Nat} {cI cJ cII cJJ : ClassId} {ad : Nat → Nat} {g : Nat} {f9_size f9_equations f9_areSteps f9_foundMany f9_many f9_rank f9_freeMany f9_arePlans f9_planMany : Int32} {ai0 : Nat → Nat → Int32} {al : Nat → Nat → Int64} {x0 : Int32} (C : Cx p c s m meth args A dC dI (TY cI cJ cII cJJ) cX9_takes none 4 RX9 0 g) (h_x0 : (0 ≤ x0.toInt ∧ x0.toInt ≤ 15)) : ∀ (n : Nat), ∀ (L2 L3 : Int32) (ai : Nat → Nat → Int32) (H : Heap) (locs : List Loc) (ls : Array Slot), (0 ≤ L2.toInt ∧ L2.toInt ≤ 3) → (0 ≤ L3.toInt ∧ L3.toInt ≤ 4) → (1 ≤ f9_size.toInt ∧ f9_size.toInt ≤ 4) → (0 ≤ f9_equations.toInt ∧ f9_equations.toInt ≤ 3) → (0 ≤ f9_areSteps.toInt ∧ f9_areSteps.toInt ≤ 1) → (0 ≤ f9_foundMany.toInt ∧ f9_foundMany.toInt ≤ 99999) → (0 ≤ f9_many.toInt ∧ f9_many.toInt ≤ 6000) → (0 ≤ f9_rank.toInt ∧ f9_rank.toInt ≤ 3) → (0 ≤ f9_freeMany.toInt ∧ f9_freeMany.toInt ≤ 4) → (0 ≤ f9_arePlans.toInt ∧ f9_arePlans.toInt ≤ 1) → (0 ≤ f9_planMany.toInt ∧ f9_planMany.toInt ≤ 194481) → (∀ j : Nat, (j : Int) < L2.toInt → (ai 13 j).toInt = (tk x0.toInt.toNat j : Int)) → ((bc x0.toInt.toNat : Int) ≤ L2.toInt ∨ 3 ≤ L2.toInt) → 3 - L2.toInt < (n : Int) → (0 : Int) < (n : Int) → IAM ai → FR [13] ai0 ai → va_P (dC, dI) vwCl (WM cI cJ cII cJJ ad f9_size f9_equations f9_areSteps f9_foundMany f9_many f9_rank f9_freeMany f9_arePlans f9_planMany ai al) H → va_D A (WM cI cJ cII cJJ ad f9_size f9_equations f9_areSteps f9_foundMany f9_many f9_rank f9_freeMany f9_arePlans f9_planMany ai al) → va_S A s.heap H locs → lv_has ls 4 [(0, .int x0), (1, .ref (ad 13)), (2, .int L2), (3, .int L3)] → W p l e ({ frames := 2, cells := 0, slots := 0, locals := 80 } : Room) s m args below meth c H locs 0 0 (MQ below (Q_r004_X9_takes dC dI cI cJ cII cJJ ad f9_size f9_equations f9_areSteps f9_foundMany f9_many f9_rank f9_freeMany f9_arePlans f9_planMany ai0 al x0 A) args s 0 0 A) (F0 m 38 ls []) := by
  obtain ⟨hx, hb, hr, hml, hown, hts, hk, hA, hK, hX⟩ := id C
  intro n
  induction n with
  | zero =>
    intro L2 L3 ai H locs ls h0 h1 h2 h3 h4 h5 h6 h7 h8 h9 h10 h11 h12 h13 h14 hI hF hP hD hS hl
    exact absurd h14 (by omega)
  | succ n ih =>
    intro L2 L3 ai H locs ls h0 h1 h2 h3 h4 h5 h6 h7 h8 h9 h10 h11 h12 h13 h14 hI hF hP hD hS hl
    refine lv_iload_n hx hb dX9_takes_38 rfl (lv_at hl 2 rfl) ?_
    refine lv_iconst (v := 3) hx hb dX9_takes_39 (by decide) ?_
    refine lv_icmp_ge (tgt := 53) hx hb dX9_takes_40 (by decide) (fun c1 => ?_) (fun c1 => ?_)
    · have c1 := j_le (a := 3) (b := L2.toInt) (by decide +kernel) rfl c1
      exact r2_v hx hb hr hk hS dX9_takes_53 (fun t ht hW => ⟨ai, ⟨(fun j hj => h11 j (by omega)), hI, hF⟩, by rw [ht]; exact hP, va_K.moved hW.alike hK, hD⟩)
    · have c1 := j_nle (a := 3) (b := L2.toInt) (by decide +kernel) rfl c1
      refine lv_aload_n hx hb dX9_takes_43 rfl (lv_at hl 1 rfl) ?_
      refine lv_iload_n hx hb dX9_takes_44 rfl (lv_at hl 2 rfl) ?_
      refine lv_iconst (v := 0) hx hb dX9_takes_45 (by decide) ?_
      refine va_iast hx hb hK hP hD hS 13 0 rfl rfl (j_in (a := L2.toInt) rfl (by omega) (by omega)) dX9_takes_46 (fun H_1 locs_1 hP_1 hD_1 hS_1 => ?_)
      obtain ⟨ai2, e_ai2⟩ : ∃ q : Nat → Nat → Int32, q = va_up ai 13 (upd (ai 13) L2.toNatClampNeg 0) := ⟨_, rfl⟩
      have hF_2 := FR_st hF e_ai2 (by decide)
      have hI_3 : IAM ai2 := by rw [e_ai2]; exact IAM_st13 hI (a := 0) (by decide +kernel) (by omega) (by omega)
      have hP_4 : va_P (dC, dI) vwCl (WM cI cJ cII cJJ ad f9_size f9_equations f9_areSteps f9_foundMany f9_many f9_rank f9_freeMany f9_arePlans f9_planMany ai2 al) H_1 := by rw [e_ai2]; exact hP_1
      have hD_5 : va_D A (WM cI cJ cII cJJ ad f9_size f9_equations f9_areSteps f9_foundMany f9_many f9_rank f9_freeMany f9_arePlans f9_planMany ai2 al) := by rw [e_ai2]; exact hD_1
      obtain ⟨z3, e_z3⟩ : ∃ q : Int32, q = L2 + Int32.ofInt 1 := ⟨_, rfl⟩
      have g_z3 : z3.toInt = L2.toInt + 1 := by rw [e_z3]; exact n_add (a := L2.toInt) (b := 1) rfl (by decide +kernel) (by omega) (by omega)
      refine lv_iinc (v := z3) (lv' := [(2, .int z3), (0, .int x0), (1, .ref (ad 13)), (3, .int L3)]) hx hb dX9_takes_47 hl (k := 2) rfl e_z3.symm (by decide) rfl (fun ls_6 hl_6 => ?_)
      refine lv_goto (tgt := 38) hx hb dX9_takes_50 (by decide) ?_
      exact ih z3 L3 ai2 _ _ _ (by omega) (by omega) (by omega) (by omega) (by omega) (by omega) (by omega) (by omega) (by omega) (by omega) (by omega) (up_all h11 e_ai2 (by omega) (by rw [(tk_fin x0.toInt.toNat (by omega)).2 L2.toInt.toNat (by omega) (by omega)]; decide) (by omega)) (by omega) (by omega) (by omega) hI_3 hF_2 hP_4 hD_5 hS_1 (lv_sub hl_6 [1, 2, 0, 3] rfl)
set_option maxRecDepth 100000 in
set_option maxHeartbeats 4000000 in
theorem r004_X9_takes_b32 {p : Program} {l : Launch} {e : Env} {s : State} {m : MethodId} {args : Array Value} {below : List Frame} {meth : Method} {c : Code} {A : Nat → Prop} {dC : Nat → ClassId} {dI : Nat → Nat → Nat} {cI cJ cII cJJ : ClassId} {ad : Nat → Nat} {g : Nat} {f9_size f9_equations f9_areSteps f9_foundMany f9_many f9_rank f9_freeMany f9_arePlans f9_planMany : Int32} {ai0 : Nat → Nat → Int32} {al : Nat → Nat → Int64} {x0 : Int32} (C : Cx p c s m meth args A dC dI (TY cI cJ cII cJJ) cX9_takes none 4 RX9 0 g) (h_x0 : (0 ≤ x0.toInt ∧ x0.toInt ≤ 15)) (n4 : Nat) (K4 : ∀ (L2 L3 : Int32) (ai : Nat → Nat → Int32) (H : Heap) (locs : List Loc) (ls : Array Slot), (0 ≤ L2.toInt ∧ L2.toInt ≤ 3) → (0 ≤ L3.toInt ∧ L3.toInt ≤ 4) → (1 ≤ f9_size.toInt ∧ f9_size.toInt ≤ 4) → (0 ≤ f9_equations.toInt ∧ f9_equations.toInt ≤ 3) → (0 ≤ f9_areSteps.toInt ∧ f9_areSteps.toInt ≤ 1) → (0 ≤ f9_foundMany.toInt ∧ f9_foundMany.toInt ≤ 99999) → (0 ≤ f9_many.toInt ∧ f9_many.toInt ≤ 6000) → (0 ≤ f9_rank.toInt ∧ f9_rank.toInt ≤ 3) → (0 ≤ f9_freeMany.toInt ∧ f9_freeMany.toInt ≤ 4) → (0 ≤ f9_arePlans.toInt ∧ f9_arePlans.toInt ≤ 1) → (0 ≤ f9_planMany.toInt ∧ f9_planMany.toInt ≤ 194481) → L2.toInt = (nb x0.toInt.toNat L3.toInt.toNat : Int) → (∀ j : Nat, (j : Int) < L2.toInt → (ai 13 j).toInt = (tk x0.toInt.toNat j : Int)) → 4 - L3.toInt < (n4 : Int) → (0 : Int) < (n4 : Int) → IAM ai → FR [13] ai0 ai → va_P (dC, dI) vwCl (WM cI cJ cII cJJ ad f9_size f9_equations f9_areSteps f9_foundMany f9_many f9_rank f9_freeMany f9_arePlans f9_planMany ai al) H → va_D A (WM cI cJ cII cJJ ad f9_size f9_equations f9_areSteps f9_foundMany f9_many f9_rank f9_freeMany f9_arePlans f9_planMany ai al) → va_S A s.heap H locs → lv_has ls 4 [(0, .int x0), (1, .ref (ad 13)), (2, .int L2), (3, .int L3)] → W p l e ({ frames := 2, cells := 0, slots := 0, locals := 80 } : Room) s m args below meth c H locs 0 0 (MQ below (Q_r004_X9_takes dC dI cI cJ cII cJJ ad f9_size f9_equations f9_areSteps f9_foundMany f9_many f9_rank f9_freeMany f9_arePlans f9_planMany ai0 al x0 A) args s 0 0 A) (F0 m 4 ls [])) : ∀ (L2 L3 : Int32) (ai : Nat → Nat → Int32) (H : Heap) (locs : List Loc) (ls : Array Slot), (0 ≤ L2.toInt ∧ L2.toInt ≤ 3) → (0 ≤ L3.toInt ∧ L3.toInt ≤ 3) → (1 ≤ f9_size.toInt ∧ f9_size.toInt ≤ 4) → (0 ≤ f9_equations.toInt ∧ f9_equations.toInt ≤ 3) → (0 ≤ f9_areSteps.toInt ∧ f9_areSteps.toInt ≤ 1) → (0 ≤ f9_foundMany.toInt ∧ f9_foundMany.toInt ≤ 99999) → (0 ≤ f9_many.toInt ∧ f9_many.toInt ≤ 6000) → (0 ≤ f9_rank.toInt ∧ f9_rank.toInt ≤ 3) → (0 ≤ f9_freeMany.toInt ∧ f9_freeMany.toInt ≤ 4) → (0 ≤ f9_arePlans.toInt ∧ f9_arePlans.toInt ≤ 1) → (0 ≤ f9_planMany.toInt ∧ f9_planMany.toInt ≤ 194481) → L2.toInt = (nb x0.toInt.toNat (L3.toInt.toNat + 1) : Int) → (∀ j : Nat, (j : Int) < L2.toInt → (ai 13 j).toInt = (tk x0.toInt.toNat j : Int)) → L3.toInt < 4 → 4 - L3.toInt ≤ (n4 : Int) → IAM ai → FR [13] ai0 ai → va_P (dC, dI) vwCl (WM cI cJ cII cJJ ad f9_size f9_equations f9_areSteps f9_foundMany f9_many f9_rank f9_freeMany f9_arePlans f9_planMany ai al) H → va_D A (WM cI cJ cII cJJ ad f9_size f9_equations f9_areSteps f9_foundMany f9_many f9_rank f9_freeMany f9_arePlans f9_planMany ai al) → va_S A s.heap H locs → lv_has ls 4 [(0, .int x0), (1, .ref (ad 13)), (2, .int L2), (3, .int L3)] → W p l e ({ frames := 2, cells := 0, slots := 0, locals := 80 } : Room) s m args below meth c H locs 0 0 (MQ below (Q_r004_X9_takes dC dI cI cJ cII cJJ ad f9_size f9_equations f9_areSteps f9_foundMany f9_many f9_rank f9_freeMany f9_arePlans f9_planMany ai0 al x0 A) args s 0 0 A) (F0 m 32 ls []) := by
  obtain ⟨hx, hb, hr, hml, hown, hts, hk, hA, hK, hX⟩ := id C
  intro L2 L3 ai H locs ls h0 h1 h2 h3 h4 h5 h6 h7 h8 h9 h10 h11 h12 h13 h14 hI hF hP hD hS hl
  obtain ⟨z1, e_z1⟩ : ∃ q : Int32, q = L3 + Int32.ofInt 1 := ⟨_, rfl⟩
  have g_z1 : z1.toInt = L3.toInt + 1 := by rw [e_z1]; exact n_add (a := L3.toInt) (b := 1) rfl (by decide +kernel) (by omega) (by omega)
  refine lv_iinc (v := z1) (lv' := [(3, .int z1), (0, .int x0), (1, .ref (ad 13)), (2, .int L2)]) hx hb dX9_takes_32 hl (k := 3) rfl e_z1.symm (by decide) rfl (fun ls_1 hl_1 => ?_)
  refine lv_goto (tgt := 4) hx hb dX9_takes_35 (by decide) ?_
  exact K4 L2 z1 ai _ _ _ (by omega) (by omega) (by omega) (by omega) (by omega) (by omega) (by omega) (by omega) (by omega) (by omega) (by omega) (by rw [show z1.toInt.toNat = L3.toInt.toNat + 1 by omega]; exact h11) h12 (by omega) (by omega) hI hF hP hD hS (lv_sub hl_1 [1, 2, 3, 0] rfl)
set_option maxRecDepth 100000 in
set_option maxHeartbeats 4000000 in
theorem r004_X9_takes_b4 {p : Program} {l : Launch} {e : Env} {s : State} {m : MethodId} {args : Array Value} {below : List Frame} {meth : Method} {c : Code} {A : Nat → Prop} {dC : Nat → ClassId} {dI : Nat → Nat → Nat} {cI cJ cII cJJ : ClassId} {ad : Nat → Nat} {g : Nat} {f9_size f9_equations f9_areSteps f9_foundMany f9_many f9_rank f9_freeMany f9_arePlans f9_planMany : Int32} {ai0 : Nat → Nat → Int32} {al : Nat → Nat → Int64} {x0 : Int32} (C : Cx p c s m meth args A dC dI (TY cI cJ cII cJJ) cX9_takes none 4 RX9 0 g) (h_x0 : (0 ≤ x0.toInt ∧ x0.toInt ≤ 15)) : ∀ (n : Nat), ∀ (L2 L3 : Int32) (ai : Nat → Nat → Int32) (H : Heap) (locs : List Loc) (ls : Array Slot), (0 ≤ L2.toInt ∧ L2.toInt ≤ 3) → (0 ≤ L3.toInt ∧ L3.toInt ≤ 4) → (1 ≤ f9_size.toInt ∧ f9_size.toInt ≤ 4) → (0 ≤ f9_equations.toInt ∧ f9_equations.toInt ≤ 3) → (0 ≤ f9_areSteps.toInt ∧ f9_areSteps.toInt ≤ 1) → (0 ≤ f9_foundMany.toInt ∧ f9_foundMany.toInt ≤ 99999) → (0 ≤ f9_many.toInt ∧ f9_many.toInt ≤ 6000) → (0 ≤ f9_rank.toInt ∧ f9_rank.toInt ≤ 3) → (0 ≤ f9_freeMany.toInt ∧ f9_freeMany.toInt ≤ 4) → (0 ≤ f9_arePlans.toInt ∧ f9_arePlans.toInt ≤ 1) → (0 ≤ f9_planMany.toInt ∧ f9_planMany.toInt ≤ 194481) → L2.toInt = (nb x0.toInt.toNat L3.toInt.toNat : Int) → (∀ j : Nat, (j : Int) < L2.toInt → (ai 13 j).toInt = (tk x0.toInt.toNat j : Int)) → 4 - L3.toInt < (n : Int) → (0 : Int) < (n : Int) → IAM ai → FR [13] ai0 ai → va_P (dC, dI) vwCl (WM cI cJ cII cJJ ad f9_size f9_equations f9_areSteps f9_foundMany f9_many f9_rank f9_freeMany f9_arePlans f9_planMany ai al) H → va_D A (WM cI cJ cII cJJ ad f9_size f9_equations f9_areSteps f9_foundMany f9_many f9_rank f9_freeMany f9_arePlans f9_planMany ai al) → va_S A s.heap H locs → lv_has ls 4 [(0, .int x0), (1, .ref (ad 13)), (2, .int L2), (3, .int L3)] → W p l e ({ frames := 2, cells := 0, slots := 0, locals := 80 } : Room) s m args below meth c H locs 0 0 (MQ below (Q_r004_X9_takes dC dI cI cJ cII cJJ ad f9_size f9_equations f9_areSteps f9_foundMany f9_many f9_rank f9_freeMany f9_arePlans f9_planMany ai0 al x0 A) args s 0 0 A) (F0 m 4 ls []) := by
  obtain ⟨hx, hb, hr, hml, hown, hts, hk, hA, hK, hX⟩ := id C
  intro n
  induction n with
  | zero =>
    intro L2 L3 ai H locs ls h0 h1 h2 h3 h4 h5 h6 h7 h8 h9 h10 h11 h12 h13 h14 hI hF hP hD hS hl
    exact absurd h14 (by omega)
  | succ n ih =>
    intro L2 L3 ai H locs ls h0 h1 h2 h3 h4 h5 h6 h7 h8 h9 h10 h11 h12 h13 h14 hI hF hP hD hS hl
    refine lv_iload_n hx hb dX9_takes_4 rfl (lv_at hl 3 rfl) ?_
    refine lv_iconst (v := 4) hx hb dX9_takes_5 (by decide) ?_
    refine lv_icmp_ge (tgt := 38) hx hb dX9_takes_6 (by decide) (fun c1 => ?_) (fun c1 => ?_)
    · have c1 := j_le (a := 4) (b := L3.toInt) (by decide +kernel) rfl c1
      exact r004_X9_takes_b38 C h_x0  _ L2 L3 ai _ _ _ (by omega) (by omega) (by omega) (by omega) (by omega) (by omega) (by omega) (by omega) (by omega) (by omega) (by omega) h12 (Or.inl (by have q := (tk_fin x0.toInt.toNat (by omega)).1; have q2 := h11; rw [show L3.toInt.toNat = 4 by omega, q] at q2; omega)) (j_fuel _) (by omega) hI hF hP hD hS (lv_sub hl [0, 1, 2, 3] rfl)
    · have c1 := j_nle (a := 4) (b := L3.toInt) (by decide +kernel) rfl c1
      refine lv_iload_n hx hb dX9_takes_9 rfl (lv_at hl 2 rfl) ?_
      refine lv_iconst (v := 3) hx hb dX9_takes_10 (by decide) ?_
      refine lv_icmp_ge (tgt := 38) hx hb dX9_takes_11 (by decide) (fun c2 => ?_) (fun c2 => ?_)
      · have c2 := j_le (a := 3) (b := L2.toInt) (by decide +kernel) rfl c2
        exact r004_X9_takes_b38 C h_x0  _ L2 L3 ai _ _ _ (by omega) (by omega) (by omega) (by omega) (by omega) (by omega) (by omega) (by omega) (by omega) (by omega) (by omega) h12 (Or.inr (by omega)) (j_fuel _) (by omega) hI hF hP hD hS (lv_sub hl [0, 1, 2, 3] rfl)
      · have c2 := j_nle (a := 3) (b := L2.toInt) (by decide +kernel) rfl c2
        refine lv_iload_n hx hb dX9_takes_14 rfl (lv_at hl 0 rfl) ?_
        refine lv_iload_n hx hb dX9_takes_15 rfl (lv_at hl 3 rfl) ?_
        refine v_ishr hx hb dX9_takes_16 _ rfl ?_
        refine lv_topi (fun z3 e_z3 => ?_)
        refine lv_iconst (v := 1) hx hb dX9_takes_17 (by decide) ?_
        refine v_iand hx hb dX9_takes_18 _ rfl ?_
        refine lv_topi (fun z4 e_z4 => ?_)
        refine lv_if_ne (tgt := 25) hx hb dX9_takes_19 (by decide) (fun c5 => ?_) (fun c5 => ?_)
        · have c5 := j_ne (a := z4.toInt) (b := 0) rfl (by decide +kernel) c5
          refine lv_aload_n hx hb dX9_takes_25 rfl (lv_at hl 1 rfl) ?_
          refine lv_iload_n hx hb dX9_takes_26 rfl (lv_at hl 2 rfl) ?_
          refine lv_iload_n hx hb dX9_takes_27 rfl (lv_at hl 3 rfl) ?_
          refine va_iast hx hb hK hP hD hS 13 0 rfl rfl (j_in (a := L2.toInt) rfl (by omega) (by omega)) dX9_takes_28 (fun H_1 locs_1 hP_1 hD_1 hS_1 => ?_)
          obtain ⟨ai6, e_ai6⟩ : ∃ q : Nat → Nat → Int32, q = va_up ai 13 (upd (ai 13) L2.toNatClampNeg L3) := ⟨_, rfl⟩
          have hF_2 := FR_st hF e_ai6 (by decide)
          have hI_3 : IAM ai6 := by rw [e_ai6]; exact IAM_st13 hI (a := L3.toInt) rfl (by omega) (by omega)
          have hP_4 : va_P (dC, dI) vwCl (WM cI cJ cII cJJ ad f9_size f9_equations f9_areSteps f9_foundMany f9_many f9_rank f9_freeMany f9_arePlans f9_planMany ai6 al) H_1 := by rw [e_ai6]; exact hP_1
          have hD_5 : va_D A (WM cI cJ cII cJJ ad f9_size f9_equations f9_areSteps f9_foundMany f9_many f9_rank f9_freeMany f9_arePlans f9_planMany ai6 al) := by rw [e_ai6]; exact hD_1
          obtain ⟨z7, e_z7⟩ : ∃ q : Int32, q = L2 + Int32.ofInt 1 := ⟨_, rfl⟩
          have g_z7 : z7.toInt = L2.toInt + 1 := by rw [e_z7]; exact n_add (a := L2.toInt) (b := 1) rfl (by decide +kernel) (by omega) (by omega)
          refine lv_iinc (v := z7) (lv' := [(2, .int z7), (0, .int x0), (1, .ref (ad 13)), (3, .int L3)]) hx hb dX9_takes_29 hl (k := 2) rfl e_z7.symm (by decide) rfl (fun ls_6 hl_6 => ?_)
          exact r004_X9_takes_b32 C h_x0 n ih z7 L3 ai6 _ _ _ (by omega) (by omega) (by omega) (by omega) (by omega) (by omega) (by omega) (by omega) (by omega) (by omega) (by omega) (by rw [(nb_s1 (by omega) (by omega) (by omega) (by omega) (show z4 = (x0 >>> (L3 &&& 31)) &&& 1 by rw [e_z4, e_z3]) c5).1]; omega) (up_all h12 e_ai6 (by omega) (by rw [show L2.toInt.toNat = nb x0.toInt.toNat L3.toInt.toNat by omega, (nb_s1 (by omega) (by omega) (by omega) (by omega) (show z4 = (x0 >>> (L3 &&& 31)) &&& 1 by rw [e_z4, e_z3]) c5).2.1 (by omega)]; omega) (by omega)) (by omega) (by omega) hI_3 hF_2 hP_4 hD_5 hS_1 (lv_sub hl_6 [1, 2, 0, 3] rfl)
        · have c5 := j_eq (a := z4.toInt) (b := 0) rfl (by decide +kernel) c5
          refine lv_goto (tgt := 32) hx hb dX9_takes_22 (by decide) ?_
          exact r004_X9_takes_b32 C h_x0 n ih L2 L3 ai _ _ _ (by omega) (by omega) (by omega) (by omega) (by omega) (by omega) (by omega) (by omega) (by omega) (by omega) (by omega) (by rw [nb_s0 (by omega) (by omega) (by omega) (by omega) (show z4 = (x0 >>> (L3 &&& 31)) &&& 1 by rw [e_z4, e_z3]) c5]; exact h11) h12 (by omega) (by omega) hI hF hP hD hS (lv_sub hl [0, 1, 2, 3] rfl)
set_option maxRecDepth 100000 in
set_option maxHeartbeats 4000000 in
theorem r004_X9_takes (l : Launch) (dC : Nat → ClassId) (dI : Nat → Nat → Nat) (cI cJ cII cJJ : ClassId) (sz g : Nat) (ad : Nat → Nat) (f9_size f9_equations f9_areSteps f9_foundMany f9_many f9_rank f9_freeMany f9_arePlans f9_planMany : Int32) (ai : Nat → Nat → Int32) (al : Nat → Nat → Int64) (x0 : Int32) (h_x0 : (0 ≤ x0.toInt ∧ x0.toInt ≤ 15)) (h_f9_size : (1 ≤ f9_size.toInt ∧ f9_size.toInt ≤ 4)) (h_f9_equations : (0 ≤ f9_equations.toInt ∧ f9_equations.toInt ≤ 3)) (h_f9_areSteps : (0 ≤ f9_areSteps.toInt ∧ f9_areSteps.toInt ≤ 1)) (h_f9_foundMany : (0 ≤ f9_foundMany.toInt ∧ f9_foundMany.toInt ≤ 99999)) (h_f9_many : (0 ≤ f9_many.toInt ∧ f9_many.toInt ≤ 6000)) (h_f9_rank : (0 ≤ f9_rank.toInt ∧ f9_rank.toInt ≤ 3)) (h_f9_freeMany : (0 ≤ f9_freeMany.toInt ∧ f9_freeMany.toInt ≤ 4)) (h_f9_arePlans : (0 ≤ f9_arePlans.toInt ∧ f9_arePlans.toInt ≤ 1)) (h_f9_planMany : (0 ≤ f9_planMany.toInt ∧ f9_planMany.toInt ≤ 194481)) (hI : IAM ai) : Met l yX9_takes (.code yX9_takes cX9_takes 4 none :: TT) ({ frames := 2, cells := 0, slots := 0, locals := 80 } : Room) (PcS dC dI (TY cI cJ cII cJJ) [.int x0, .ref (ad 13)] (WM cI cJ cII cJJ ad f9_size f9_equations f9_areSteps f9_foundMany f9_many f9_rank f9_freeMany f9_arePlans f9_planMany ai al) sz 0 g) (Q_r004_X9_takes dC dI cI cJ cII cJJ ad f9_size f9_equations f9_areSteps f9_foundMany f9_many f9_rank f9_freeMany f9_arePlans f9_planMany ai al x0 (va_A (WM cI cJ cII cJJ ad f9_size f9_equations f9_areSteps f9_foundMany f9_many f9_rank f9_freeMany f9_arePlans f9_planMany ai al) sz)) 0 0 (va_A (WM cI cJ cII cJJ ad f9_size f9_equations f9_areSteps f9_foundMany f9_many f9_rank f9_freeMany f9_arePlans f9_planMany ai al) sz) := by
  refine SM.of (y := yX9_takes) (maxL := 4) (av := [.int x0, .ref (ad 13)]) (Q_r004_X9_takes dC dI cI cJ cII cJJ ad f9_size f9_equations f9_areSteps f9_foundMany f9_many f9_rank f9_freeMany f9_arePlans f9_planMany ai al x0) (by decide +kernel) (Nat.le_of_ble_eq_true rfl) (fun p e s m below meth c A ls hx hb hr hml hown hts hk hnm hA hK hP hD hS hX hl => ?_)
  have C : Cx p c s m meth (([.int x0, .ref (ad 13)] : List Value).toArray) A dC dI (TY cI cJ cII cJJ) cX9_takes none 4 RX9 0 g := ⟨hx, hb, hr, hml, hown, hts, hk, hA, hK, hX⟩
  have hown : s.vm.findClass RX9 = some m.cls := hown
  have hl : lv_has ls 4 [(0, .int x0), (1, .ref (ad 13))] := hl
  obtain ⟨H, hH⟩ : ∃ q, q = s.heap := ⟨_, rfl⟩
  rw [← hH] at hP
  have hS : va_S A s.heap H [] := by rw [hH]; exact hS
  rw [← hH]
  have hF := FR_refl [13] ai
  refine lv_iconst (v := 0) hx hb dX9_takes_0 (by decide) ?_
  refine lv_istore_n (lv' := [(2, .int 0), (0, .int x0), (1, .ref (ad 13))]) hx hb dX9_takes_1 rfl hl (by decide) rfl (fun ls_1 hl_1 => ?_)
  refine lv_iconst (v := 0) hx hb dX9_takes_2 (by decide) ?_
  refine lv_istore_n (lv' := [(3, .int 0), (2, .int 0), (0, .int x0), (1, .ref (ad 13))]) hx hb dX9_takes_3 rfl hl_1 (by decide) rfl (fun ls_2 hl_2 => ?_)
  exact r004_X9_takes_b4 C h_x0  _ 0 0 ai _ _ _ (by first | omega | decide | (have ka0 := (by decide +kernel : (0 : Int32).toInt = 0); omega)) (by first | omega | decide | (have ka0 := (by decide +kernel : (0 : Int32).toInt = 0); omega)) (by first | omega | decide | (have ka0 := (by decide +kernel : (0 : Int32).toInt = 0); omega)) (by first | omega | decide | (have ka0 := (by decide +kernel : (0 : Int32).toInt = 0); omega)) (by first | omega | decide | (have ka0 := (by decide +kernel : (0 : Int32).toInt = 0); omega)) (by first | omega | decide | (have ka0 := (by decide +kernel : (0 : Int32).toInt = 0); omega)) (by first | omega | decide | (have ka0 := (by decide +kernel : (0 : Int32).toInt = 0); omega)) (by first | omega | decide | (have ka0 := (by decide +kernel : (0 : Int32).toInt = 0); omega)) (by first | omega | decide | (have ka0 := (by decide +kernel : (0 : Int32).toInt = 0); omega)) (by first | omega | decide | (have ka0 := (by decide +kernel : (0 : Int32).toInt = 0); omega)) (by first | omega | decide | (have ka0 := (by decide +kernel : (0 : Int32).toInt = 0); omega)) (nb_0 _) (fun j hj => (zlt hj).elim) (j_fuel _) (by omega) hI hF hP hD hS (lv_sub hl_2 [2, 3, 1, 0] rfl)
def Q_r005_X9_takes (dC : Nat → ClassId) (dI : Nat → Nat → Nat) (cI cJ cII cJJ : ClassId) (ad : Nat → Nat) (f9_size f9_equations f9_areSteps f9_foundMany f9_many f9_rank f9_freeMany f9_arePlans f9_planMany : Int32) (ai0 : Nat → Nat → Int32) (al : Nat → Nat → Int64) (x0 : Int32) : (Nat → Prop) → Array Value → State → Outcome → State → Prop := fun A => QV (fun t => ∃ (n_ai : Nat → Nat → Int32), ((∀ j : Nat, j < 3 → (n_ai 14 j).toInt = (tk x0.toInt.toNat j : Int)) ∧ IAM n_ai ∧ FR [14] ai0 n_ai) ∧ WO dC dI (TY cI cJ cII cJJ) (WM cI cJ cII cJJ ad f9_size f9_equations f9_areSteps f9_foundMany f9_many f9_rank f9_freeMany f9_arePlans f9_planMany n_ai al) A t) A
set_option maxRecDepth 100000 in
set_option maxHeartbeats 4000000 in
theorem r005_X9_takes_b38 {p : Program} {l : Launch} {e : Env} {s : State} {m : MethodId} {args : Array Value} {below : List Frame} {meth : Method} {c : Code} {A : Nat → Prop} {dC : Nat → ClassId} {dI : Nat → Nat → Nat} {cI cJ cII cJJ : ClassId} {ad : Nat → Nat} {g : Nat} {f9_size f9_equations f9_areSteps f9_foundMany f9_many f9_rank f9_freeMany f9_arePlans f9_planMany : Int32} {ai0 : Nat → Nat → Int32} {al : Nat → Nat → Int64} {x0 : Int32} (C : Cx p c s m meth args A dC dI (TY cI cJ cII cJJ) cX9_takes none 4 RX9 0 g) (h_x0 : (0 ≤ x0.toInt ∧ x0.toInt ≤ 7)) : ∀ (n : Nat), ∀ (L2 L3 : Int32) (ai : Nat → Nat → Int32) (H : Heap) (locs : List Loc) (ls : Array Slot), (0 ≤ L2.toInt ∧ L2.toInt ≤ 3) → (0 ≤ L3.toInt ∧ L3.toInt ≤ 4) → (1 ≤ f9_size.toInt ∧ f9_size.toInt ≤ 4) → (0 ≤ f9_equations.toInt ∧ f9_equations.toInt ≤ 3) → (0 ≤ f9_areSteps.toInt ∧ f9_areSteps.toInt ≤ 1) → (0 ≤ f9_foundMany.toInt ∧ f9_foundMany.toInt ≤ 99999) → (0 ≤ f9_many.toInt ∧ f9_many.toInt ≤ 6000) → (0 ≤ f9_rank.toInt ∧ f9_rank.toInt ≤ 3) → (0 ≤ f9_freeMany.toInt ∧ f9_freeMany.toInt ≤ 4) → (0 ≤ f9_arePlans.toInt ∧ f9_arePlans.toInt ≤ 1) → (0 ≤ f9_planMany.toInt ∧ f9_planMany.toInt ≤ 194481) → (∀ j : Nat, (j : Int) < L2.toInt → (ai 14 j).toInt = (tk x0.toInt.toNat j : Int)) → ((bc x0.toInt.toNat : Int) ≤ L2.toInt ∨ 3 ≤ L2.toInt) → 3 - L2.toInt < (n : Int) → (0 : Int) < (n : Int) → IAM ai → FR [14] ai0 ai → va_P (dC, dI) vwCl (WM cI cJ cII cJJ ad f9_size f9_equations f9_areSteps f9_foundMany f9_many f9_rank f9_freeMany f9_arePlans f9_planMany ai al) H → va_D A (WM cI cJ cII cJJ ad f9_size f9_equations f9_areSteps f9_foundMany f9_many f9_rank f9_freeMany f9_arePlans f9_planMany ai al) → va_S A s.heap H locs → lv_has ls 4 [(0, .int x0), (1, .ref (ad 14)), (2, .int L2), (3, .int L3)] → W p l e ({ frames := 2, cells := 0, slots := 0, locals := 80 } : Room) s m args below meth c H locs 0 0 (MQ below (Q_r005_X9_takes dC dI cI cJ cII cJJ ad f9_size f9_equations f9_areSteps f9_foundMany f9_many f9_rank f9_freeMany f9_arePlans f9_planMany ai0 al x0 A) args s 0 0 A) (F0 m 38 ls []) := by
  obtain ⟨hx, hb, hr, hml, hown, hts, hk, hA, hK, hX⟩ := id C
  intro n
  induction n with
  | zero =>
    intro L2 L3 ai H locs ls h0 h1 h2 h3 h4 h5 h6 h7 h8 h9 h10 h11 h12 h13 h14 hI hF hP hD hS hl
    exact absurd h14 (by omega)
  | succ n ih =>
    intro L2 L3 ai H locs ls h0 h1 h2 h3 h4 h5 h6 h7 h8 h9 h10 h11 h12 h13 h14 hI hF hP hD hS hl
    refine lv_iload_n hx hb dX9_takes_38 rfl (lv_at hl 2 rfl) ?_
    refine lv_iconst (v := 3) hx hb dX9_takes_39 (by decide) ?_
    refine lv_icmp_ge (tgt := 53) hx hb dX9_takes_40 (by decide) (fun c1 => ?_) (fun c1 => ?_)
    · have c1 := j_le (a := 3) (b := L2.toInt) (by decide +kernel) rfl c1
      exact r2_v hx hb hr hk hS dX9_takes_53 (fun t ht hW => ⟨ai, ⟨(fun j hj => h11 j (by omega)), hI, hF⟩, by rw [ht]; exact hP, va_K.moved hW.alike hK, hD⟩)
    · have c1 := j_nle (a := 3) (b := L2.toInt) (by decide +kernel) rfl c1
      refine lv_aload_n hx hb dX9_takes_43 rfl (lv_at hl 1 rfl) ?_
      refine lv_iload_n hx hb dX9_takes_44 rfl (lv_at hl 2 rfl) ?_
      refine lv_iconst (v := 0) hx hb dX9_takes_45 (by decide) ?_
      refine va_iast hx hb hK hP hD hS 14 0 rfl rfl (j_in (a := L2.toInt) rfl (by omega) (by omega)) dX9_takes_46 (fun H_1 locs_1 hP_1 hD_1 hS_1 => ?_)
      obtain ⟨ai2, e_ai2⟩ : ∃ q : Nat → Nat → Int32, q = va_up ai 14 (upd (ai 14) L2.toNatClampNeg 0) := ⟨_, rfl⟩
      have hF_2 := FR_st hF e_ai2 (by decide)
      have hI_3 : IAM ai2 := by rw [e_ai2]; exact IAM_st14 hI (a := 0) (by decide +kernel) (by omega) (by omega)
      have hP_4 : va_P (dC, dI) vwCl (WM cI cJ cII cJJ ad f9_size f9_equations f9_areSteps f9_foundMany f9_many f9_rank f9_freeMany f9_arePlans f9_planMany ai2 al) H_1 := by rw [e_ai2]; exact hP_1
      have hD_5 : va_D A (WM cI cJ cII cJJ ad f9_size f9_equations f9_areSteps f9_foundMany f9_many f9_rank f9_freeMany f9_arePlans f9_planMany ai2 al) := by rw [e_ai2]; exact hD_1
      obtain ⟨z3, e_z3⟩ : ∃ q : Int32, q = L2 + Int32.ofInt 1 := ⟨_, rfl⟩
      have g_z3 : z3.toInt = L2.toInt + 1 := by rw [e_z3]; exact n_add (a := L2.toInt) (b := 1) rfl (by decide +kernel) (by omega) (by omega)
      refine lv_iinc (v := z3) (lv' := [(2, .int z3), (0, .int x0), (1, .ref (ad 14)), (3, .int L3)]) hx hb dX9_takes_47 hl (k := 2) rfl e_z3.symm (by decide) rfl (fun ls_6 hl_6 => ?_)
      refine lv_goto (tgt := 38) hx hb dX9_takes_50 (by decide) ?_
      exact ih z3 L3 ai2 _ _ _ (by omega) (by omega) (by omega) (by omega) (by omega) (by omega) (by omega) (by omega) (by omega) (by omega) (by omega) (up_all h11 e_ai2 (by omega) (by rw [(tk_fin x0.toInt.toNat (by omega)).2 L2.toInt.toNat (by omega) (by omega)]; decide) (by omega)) (by omega) (by omega) (by omega) hI_3 hF_2 hP_4 hD_5 hS_1 (lv_sub hl_6 [1, 2, 0, 3] rfl)
set_option maxRecDepth 100000 in
set_option maxHeartbeats 4000000 in
theorem r005_X9_takes_b32 {p : Program} {l : Launch} {e : Env} {s : State} {m : MethodId} {args : Array Value} {below : List Frame} {meth : Method} {c : Code} {A : Nat → Prop} {dC : Nat → ClassId} {dI : Nat → Nat → Nat} {cI cJ cII cJJ : ClassId} {ad : Nat → Nat} {g : Nat} {f9_size f9_equations f9_areSteps f9_foundMany f9_many f9_rank f9_freeMany f9_arePlans f9_planMany : Int32} {ai0 : Nat → Nat → Int32} {al : Nat → Nat → Int64} {x0 : Int32} (C : Cx p c s m meth args A dC dI (TY cI cJ cII cJJ) cX9_takes none 4 RX9 0 g) (h_x0 : (0 ≤ x0.toInt ∧ x0.toInt ≤ 7)) (n4 : Nat) (K4 : ∀ (L2 L3 : Int32) (ai : Nat → Nat → Int32) (H : Heap) (locs : List Loc) (ls : Array Slot), (0 ≤ L2.toInt ∧ L2.toInt ≤ 3) → (0 ≤ L3.toInt ∧ L3.toInt ≤ 4) → (1 ≤ f9_size.toInt ∧ f9_size.toInt ≤ 4) → (0 ≤ f9_equations.toInt ∧ f9_equations.toInt ≤ 3) → (0 ≤ f9_areSteps.toInt ∧ f9_areSteps.toInt ≤ 1) → (0 ≤ f9_foundMany.toInt ∧ f9_foundMany.toInt ≤ 99999) → (0 ≤ f9_many.toInt ∧ f9_many.toInt ≤ 6000) → (0 ≤ f9_rank.toInt ∧ f9_rank.toInt ≤ 3) → (0 ≤ f9_freeMany.toInt ∧ f9_freeMany.toInt ≤ 4) → (0 ≤ f9_arePlans.toInt ∧ f9_arePlans.toInt ≤ 1) → (0 ≤ f9_planMany.toInt ∧ f9_planMany.toInt ≤ 194481) → L2.toInt = (nb x0.toInt.toNat L3.toInt.toNat : Int) → (∀ j : Nat, (j : Int) < L2.toInt → (ai 14 j).toInt = (tk x0.toInt.toNat j : Int)) → 4 - L3.toInt < (n4 : Int) → (0 : Int) < (n4 : Int) → IAM ai → FR [14] ai0 ai → va_P (dC, dI) vwCl (WM cI cJ cII cJJ ad f9_size f9_equations f9_areSteps f9_foundMany f9_many f9_rank f9_freeMany f9_arePlans f9_planMany ai al) H → va_D A (WM cI cJ cII cJJ ad f9_size f9_equations f9_areSteps f9_foundMany f9_many f9_rank f9_freeMany f9_arePlans f9_planMany ai al) → va_S A s.heap H locs → lv_has ls 4 [(0, .int x0), (1, .ref (ad 14)), (2, .int L2), (3, .int L3)] → W p l e ({ frames := 2, cells := 0, slots := 0, locals := 80 } : Room) s m args below meth c H locs 0 0 (MQ below (Q_r005_X9_takes dC dI cI cJ cII cJJ ad f9_size f9_equations f9_areSteps f9_foundMany f9_many f9_rank f9_freeMany f9_arePlans f9_planMany ai0 al x0 A) args s 0 0 A) (F0 m 4 ls [])) : ∀ (L2 L3 : Int32) (ai : Nat → Nat → Int32) (H : Heap) (locs : List Loc) (ls : Array Slot), (0 ≤ L2.toInt ∧ L2.toInt ≤ 3) → (0 ≤ L3.toInt ∧ L3.toInt ≤ 3) → (1 ≤ f9_size.toInt ∧ f9_size.toInt ≤ 4) → (0 ≤ f9_equations.toInt ∧ f9_equations.toInt ≤ 3) → (0 ≤ f9_areSteps.toInt ∧ f9_areSteps.toInt ≤ 1) → (0 ≤ f9_foundMany.toInt ∧ f9_foundMany.toInt ≤ 99999) → (0 ≤ f9_many.toInt ∧ f9_many.toInt ≤ 6000) → (0 ≤ f9_rank.toInt ∧ f9_rank.toInt ≤ 3) → (0 ≤ f9_freeMany.toInt ∧ f9_freeMany.toInt ≤ 4) → (0 ≤ f9_arePlans.toInt ∧ f9_arePlans.toInt ≤ 1) → (0 ≤ f9_planMany.toInt ∧ f9_planMany.toInt ≤ 194481) → L2.toInt = (nb x0.toInt.toNat (L3.toInt.toNat + 1) : Int) → (∀ j : Nat, (j : Int) < L2.toInt → (ai 14 j).toInt = (tk x0.toInt.toNat j : Int)) → L3.toInt < 4 → 4 - L3.toInt ≤ (n4 : Int) → IAM ai → FR [14] ai0 ai → va_P (dC, dI) vwCl (WM cI cJ cII cJJ ad f9_size f9_equations f9_areSteps f9_foundMany f9_many f9_rank f9_freeMany f9_arePlans f9_planMany ai al) H → va_D A (WM cI cJ cII cJJ ad f9_size f9_equations f9_areSteps f9_foundMany f9_many f9_rank f9_freeMany f9_arePlans f9_planMany ai al) → va_S A s.heap H locs → lv_has ls 4 [(0, .int x0), (1, .ref (ad 14)), (2, .int L2), (3, .int L3)] → W p l e ({ frames := 2, cells := 0, slots := 0, locals := 80 } : Room) s m args below meth c H locs 0 0 (MQ below (Q_r005_X9_takes dC dI cI cJ cII cJJ ad f9_size f9_equations f9_areSteps f9_foundMany f9_many f9_rank f9_freeMany f9_arePlans f9_planMany ai0 al x0 A) args s 0 0 A) (F0 m 32 ls []) := by
  obtain ⟨hx, hb, hr, hml, hown, hts, hk, hA, hK, hX⟩ := id C
  intro L2 L3 ai H locs ls h0 h1 h2 h3 h4 h5 h6 h7 h8 h9 h10 h11 h12 h13 h14 hI hF hP hD hS hl
  obtain ⟨z1, e_z1⟩ : ∃ q : Int32, q = L3 + Int32.ofInt 1 := ⟨_, rfl⟩
  have g_z1 : z1.toInt = L3.toInt + 1 := by rw [e_z1]; exact n_add (a := L3.toInt) (b := 1) rfl (by decide +kernel) (by omega) (by omega)
  refine lv_iinc (v := z1) (lv' := [(3, .int z1), (0, .int x0), (1, .ref (ad 14)), (2, .int L2)]) hx hb dX9_takes_32 hl (k := 3) rfl e_z1.symm (by decide) rfl (fun ls_1 hl_1 => ?_)
  refine lv_goto (tgt := 4) hx hb dX9_takes_35 (by decide) ?_
  exact K4 L2 z1 ai _ _ _ (by omega) (by omega) (by omega) (by omega) (by omega) (by omega) (by omega) (by omega) (by omega) (by omega) (by omega) (by rw [show z1.toInt.toNat = L3.toInt.toNat + 1 by omega]; exact h11) h12 (by omega) (by omega) hI hF hP hD hS (lv_sub hl_1 [1, 2, 3, 0] rfl)
set_option maxRecDepth 100000 in
set_option maxHeartbeats 4000000 in
theorem r005_X9_takes_b4 {p : Program} {l : Launch} {e : Env} {s : State} {m : MethodId} {args : Array Value} {below : List Frame} {meth : Method} {c : Code} {A : Nat → Prop} {dC : Nat → ClassId} {dI : Nat → Nat → Nat} {cI cJ cII cJJ : ClassId} {ad : Nat → Nat} {g : Nat} {f9_size f9_equations f9_areSteps f9_foundMany f9_many f9_rank f9_freeMany f9_arePlans f9_planMany : Int32} {ai0 : Nat → Nat → Int32} {al : Nat → Nat → Int64} {x0 : Int32} (C : Cx p c s m meth args A dC dI (TY cI cJ cII cJJ) cX9_takes none 4 RX9 0 g) (h_x0 : (0 ≤ x0.toInt ∧ x0.toInt ≤ 7)) : ∀ (n : Nat), ∀ (L2 L3 : Int32) (ai : Nat → Nat → Int32) (H : Heap) (locs : List Loc) (ls : Array Slot), (0 ≤ L2.toInt ∧ L2.toInt ≤ 3) → (0 ≤ L3.toInt ∧ L3.toInt ≤ 4) → (1 ≤ f9_size.toInt ∧ f9_size.toInt ≤ 4) → (0 ≤ f9_equations.toInt ∧ f9_equations.toInt ≤ 3) → (0 ≤ f9_areSteps.toInt ∧ f9_areSteps.toInt ≤ 1) → (0 ≤ f9_foundMany.toInt ∧ f9_foundMany.toInt ≤ 99999) → (0 ≤ f9_many.toInt ∧ f9_many.toInt ≤ 6000) → (0 ≤ f9_rank.toInt ∧ f9_rank.toInt ≤ 3) → (0 ≤ f9_freeMany.toInt ∧ f9_freeMany.toInt ≤ 4) → (0 ≤ f9_arePlans.toInt ∧ f9_arePlans.toInt ≤ 1) → (0 ≤ f9_planMany.toInt ∧ f9_planMany.toInt ≤ 194481) → L2.toInt = (nb x0.toInt.toNat L3.toInt.toNat : Int) → (∀ j : Nat, (j : Int) < L2.toInt → (ai 14 j).toInt = (tk x0.toInt.toNat j : Int)) → 4 - L3.toInt < (n : Int) → (0 : Int) < (n : Int) → IAM ai → FR [14] ai0 ai → va_P (dC, dI) vwCl (WM cI cJ cII cJJ ad f9_size f9_equations f9_areSteps f9_foundMany f9_many f9_rank f9_freeMany f9_arePlans f9_planMany ai al) H → va_D A (WM cI cJ cII cJJ ad f9_size f9_equations f9_areSteps f9_foundMany f9_many f9_rank f9_freeMany f9_arePlans f9_planMany ai al) → va_S A s.heap H locs → lv_has ls 4 [(0, .int x0), (1, .ref (ad 14)), (2, .int L2), (3, .int L3)] → W p l e ({ frames := 2, cells := 0, slots := 0, locals := 80 } : Room) s m args below meth c H locs 0 0 (MQ below (Q_r005_X9_takes dC dI cI cJ cII cJJ ad f9_size f9_equations f9_areSteps f9_foundMany f9_many f9_rank f9_freeMany f9_arePlans f9_planMany ai0 al x0 A) args s 0 0 A) (F0 m 4 ls []) := by
  obtain ⟨hx, hb, hr, hml, hown, hts, hk, hA, hK, hX⟩ := id C
  intro n
  induction n with
  | zero =>
    intro L2 L3 ai H locs ls h0 h1 h2 h3 h4 h5 h6 h7 h8 h9 h10 h11 h12 h13 h14 hI hF hP hD hS hl
    exact absurd h14 (by omega)
  | succ n ih =>
    intro L2 L3 ai H locs ls h0 h1 h2 h3 h4 h5 h6 h7 h8 h9 h10 h11 h12 h13 h14 hI hF hP hD hS hl
    refine lv_iload_n hx hb dX9_takes_4 rfl (lv_at hl 3 rfl) ?_
    refine lv_iconst (v := 4) hx hb dX9_takes_5 (by decide) ?_
    refine lv_icmp_ge (tgt := 38) hx hb dX9_takes_6 (by decide) (fun c1 => ?_) (fun c1 => ?_)
    · have c1 := j_le (a := 4) (b := L3.toInt) (by decide +kernel) rfl c1
      exact r005_X9_takes_b38 C h_x0  _ L2 L3 ai _ _ _ (by omega) (by omega) (by omega) (by omega) (by omega) (by omega) (by omega) (by omega) (by omega) (by omega) (by omega) h12 (Or.inl (by have q := (tk_fin x0.toInt.toNat (by omega)).1; have q2 := h11; rw [show L3.toInt.toNat = 4 by omega, q] at q2; omega)) (j_fuel _) (by omega) hI hF hP hD hS (lv_sub hl [0, 1, 2, 3] rfl)
    · have c1 := j_nle (a := 4) (b := L3.toInt) (by decide +kernel) rfl c1
      refine lv_iload_n hx hb dX9_takes_9 rfl (lv_at hl 2 rfl) ?_
      refine lv_iconst (v := 3) hx hb dX9_takes_10 (by decide) ?_
      refine lv_icmp_ge (tgt := 38) hx hb dX9_takes_11 (by decide) (fun c2 => ?_) (fun c2 => ?_)
      · have c2 := j_le (a := 3) (b := L2.toInt) (by decide +kernel) rfl c2
        exact r005_X9_takes_b38 C h_x0  _ L2 L3 ai _ _ _ (by omega) (by omega) (by omega) (by omega) (by omega) (by omega) (by omega) (by omega) (by omega) (by omega) (by omega) h12 (Or.inr (by omega)) (j_fuel _) (by omega) hI hF hP hD hS (lv_sub hl [0, 1, 2, 3] rfl)
      · have c2 := j_nle (a := 3) (b := L2.toInt) (by decide +kernel) rfl c2
        refine lv_iload_n hx hb dX9_takes_14 rfl (lv_at hl 0 rfl) ?_
        refine lv_iload_n hx hb dX9_takes_15 rfl (lv_at hl 3 rfl) ?_
        refine v_ishr hx hb dX9_takes_16 _ rfl ?_
        refine lv_topi (fun z3 e_z3 => ?_)
        refine lv_iconst (v := 1) hx hb dX9_takes_17 (by decide) ?_
        refine v_iand hx hb dX9_takes_18 _ rfl ?_
        refine lv_topi (fun z4 e_z4 => ?_)
        refine lv_if_ne (tgt := 25) hx hb dX9_takes_19 (by decide) (fun c5 => ?_) (fun c5 => ?_)
        · have c5 := j_ne (a := z4.toInt) (b := 0) rfl (by decide +kernel) c5
          refine lv_aload_n hx hb dX9_takes_25 rfl (lv_at hl 1 rfl) ?_
          refine lv_iload_n hx hb dX9_takes_26 rfl (lv_at hl 2 rfl) ?_
          refine lv_iload_n hx hb dX9_takes_27 rfl (lv_at hl 3 rfl) ?_
          have kq := (nb_s1 (by omega) (by omega) (by omega) (by omega) (show z4 = (x0 >>> (L3 &&& 31)) &&& 1 by rw [e_z4, e_z3]) c5).2.2 (by omega)
          refine va_iast hx hb hK hP hD hS 14 0 rfl rfl (j_in (a := L2.toInt) rfl (by omega) (by omega)) dX9_takes_28 (fun H_1 locs_1 hP_1 hD_1 hS_1 => ?_)
          obtain ⟨ai6, e_ai6⟩ : ∃ q : Nat → Nat → Int32, q = va_up ai 14 (upd (ai 14) L2.toNatClampNeg L3) := ⟨_, rfl⟩
          have hF_2 := FR_st hF e_ai6 (by decide)
          have hI_3 : IAM ai6 := by rw [e_ai6]; exact IAM_st14 hI (a := L3.toInt) rfl (by omega) (by omega)
          have hP_4 : va_P (dC, dI) vwCl (WM cI cJ cII cJJ ad f9_size f9_equations f9_areSteps f9_foundMany f9_many f9_rank f9_freeMany f9_arePlans f9_planMany ai6 al) H_1 := by rw [e_ai6]; exact hP_1
          have hD_5 : va_D A (WM cI cJ cII cJJ ad f9_size f9_equations f9_areSteps f9_foundMany f9_many f9_rank f9_freeMany f9_arePlans f9_planMany ai6 al) := by rw [e_ai6]; exact hD_1
          obtain ⟨z7, e_z7⟩ : ∃ q : Int32, q = L2 + Int32.ofInt 1 := ⟨_, rfl⟩
          have g_z7 : z7.toInt = L2.toInt + 1 := by rw [e_z7]; exact n_add (a := L2.toInt) (b := 1) rfl (by decide +kernel) (by omega) (by omega)
          refine lv_iinc (v := z7) (lv' := [(2, .int z7), (0, .int x0), (1, .ref (ad 14)), (3, .int L3)]) hx hb dX9_takes_29 hl (k := 2) rfl e_z7.symm (by decide) rfl (fun ls_6 hl_6 => ?_)
          exact r005_X9_takes_b32 C h_x0 n ih z7 L3 ai6 _ _ _ (by omega) (by omega) (by omega) (by omega) (by omega) (by omega) (by omega) (by omega) (by omega) (by omega) (by omega) (by rw [(nb_s1 (by omega) (by omega) (by omega) (by omega) (show z4 = (x0 >>> (L3 &&& 31)) &&& 1 by rw [e_z4, e_z3]) c5).1]; omega) (up_all h12 e_ai6 (by omega) (by rw [show L2.toInt.toNat = nb x0.toInt.toNat L3.toInt.toNat by omega, (nb_s1 (by omega) (by omega) (by omega) (by omega) (show z4 = (x0 >>> (L3 &&& 31)) &&& 1 by rw [e_z4, e_z3]) c5).2.1 (by omega)]; omega) (by omega)) (by omega) (by omega) hI_3 hF_2 hP_4 hD_5 hS_1 (lv_sub hl_6 [1, 2, 0, 3] rfl)
        · have c5 := j_eq (a := z4.toInt) (b := 0) rfl (by decide +kernel) c5
          refine lv_goto (tgt := 32) hx hb dX9_takes_22 (by decide) ?_
          exact r005_X9_takes_b32 C h_x0 n ih L2 L3 ai _ _ _ (by omega) (by omega) (by omega) (by omega) (by omega) (by omega) (by omega) (by omega) (by omega) (by omega) (by omega) (by rw [nb_s0 (by omega) (by omega) (by omega) (by omega) (show z4 = (x0 >>> (L3 &&& 31)) &&& 1 by rw [e_z4, e_z3]) c5]; exact h11) h12 (by omega) (by omega) hI hF hP hD hS (lv_sub hl [0, 1, 2, 3] rfl)
set_option maxRecDepth 100000 in
set_option maxHeartbeats 4000000 in
theorem r005_X9_takes (l : Launch) (dC : Nat → ClassId) (dI : Nat → Nat → Nat) (cI cJ cII cJJ : ClassId) (sz g : Nat) (ad : Nat → Nat) (f9_size f9_equations f9_areSteps f9_foundMany f9_many f9_rank f9_freeMany f9_arePlans f9_planMany : Int32) (ai : Nat → Nat → Int32) (al : Nat → Nat → Int64) (x0 : Int32) (h_x0 : (0 ≤ x0.toInt ∧ x0.toInt ≤ 7)) (h_f9_size : (1 ≤ f9_size.toInt ∧ f9_size.toInt ≤ 4)) (h_f9_equations : (0 ≤ f9_equations.toInt ∧ f9_equations.toInt ≤ 3)) (h_f9_areSteps : (0 ≤ f9_areSteps.toInt ∧ f9_areSteps.toInt ≤ 1)) (h_f9_foundMany : (0 ≤ f9_foundMany.toInt ∧ f9_foundMany.toInt ≤ 99999)) (h_f9_many : (0 ≤ f9_many.toInt ∧ f9_many.toInt ≤ 6000)) (h_f9_rank : (0 ≤ f9_rank.toInt ∧ f9_rank.toInt ≤ 3)) (h_f9_freeMany : (0 ≤ f9_freeMany.toInt ∧ f9_freeMany.toInt ≤ 4)) (h_f9_arePlans : (0 ≤ f9_arePlans.toInt ∧ f9_arePlans.toInt ≤ 1)) (h_f9_planMany : (0 ≤ f9_planMany.toInt ∧ f9_planMany.toInt ≤ 194481)) (hI : IAM ai) : Met l yX9_takes (.code yX9_takes cX9_takes 4 none :: TT) ({ frames := 2, cells := 0, slots := 0, locals := 80 } : Room) (PcS dC dI (TY cI cJ cII cJJ) [.int x0, .ref (ad 14)] (WM cI cJ cII cJJ ad f9_size f9_equations f9_areSteps f9_foundMany f9_many f9_rank f9_freeMany f9_arePlans f9_planMany ai al) sz 0 g) (Q_r005_X9_takes dC dI cI cJ cII cJJ ad f9_size f9_equations f9_areSteps f9_foundMany f9_many f9_rank f9_freeMany f9_arePlans f9_planMany ai al x0 (va_A (WM cI cJ cII cJJ ad f9_size f9_equations f9_areSteps f9_foundMany f9_many f9_rank f9_freeMany f9_arePlans f9_planMany ai al) sz)) 0 0 (va_A (WM cI cJ cII cJJ ad f9_size f9_equations f9_areSteps f9_foundMany f9_many f9_rank f9_freeMany f9_arePlans f9_planMany ai al) sz) := by
  refine SM.of (y := yX9_takes) (maxL := 4) (av := [.int x0, .ref (ad 14)]) (Q_r005_X9_takes dC dI cI cJ cII cJJ ad f9_size f9_equations f9_areSteps f9_foundMany f9_many f9_rank f9_freeMany f9_arePlans f9_planMany ai al x0) (by decide +kernel) (Nat.le_of_ble_eq_true rfl) (fun p e s m below meth c A ls hx hb hr hml hown hts hk hnm hA hK hP hD hS hX hl => ?_)
  have C : Cx p c s m meth (([.int x0, .ref (ad 14)] : List Value).toArray) A dC dI (TY cI cJ cII cJJ) cX9_takes none 4 RX9 0 g := ⟨hx, hb, hr, hml, hown, hts, hk, hA, hK, hX⟩
  have hown : s.vm.findClass RX9 = some m.cls := hown
  have hl : lv_has ls 4 [(0, .int x0), (1, .ref (ad 14))] := hl
  obtain ⟨H, hH⟩ : ∃ q, q = s.heap := ⟨_, rfl⟩
  rw [← hH] at hP
  have hS : va_S A s.heap H [] := by rw [hH]; exact hS
  rw [← hH]
  have hF := FR_refl [14] ai
  refine lv_iconst (v := 0) hx hb dX9_takes_0 (by decide) ?_
  refine lv_istore_n (lv' := [(2, .int 0), (0, .int x0), (1, .ref (ad 14))]) hx hb dX9_takes_1 rfl hl (by decide) rfl (fun ls_1 hl_1 => ?_)
  refine lv_iconst (v := 0) hx hb dX9_takes_2 (by decide) ?_
  refine lv_istore_n (lv' := [(3, .int 0), (2, .int 0), (0, .int x0), (1, .ref (ad 14))]) hx hb dX9_takes_3 rfl hl_1 (by decide) rfl (fun ls_2 hl_2 => ?_)
  exact r005_X9_takes_b4 C h_x0  _ 0 0 ai _ _ _ (by first | omega | decide | (have ka0 := (by decide +kernel : (0 : Int32).toInt = 0); omega)) (by first | omega | decide | (have ka0 := (by decide +kernel : (0 : Int32).toInt = 0); omega)) (by first | omega | decide | (have ka0 := (by decide +kernel : (0 : Int32).toInt = 0); omega)) (by first | omega | decide | (have ka0 := (by decide +kernel : (0 : Int32).toInt = 0); omega)) (by first | omega | decide | (have ka0 := (by decide +kernel : (0 : Int32).toInt = 0); omega)) (by first | omega | decide | (have ka0 := (by decide +kernel : (0 : Int32).toInt = 0); omega)) (by first | omega | decide | (have ka0 := (by decide +kernel : (0 : Int32).toInt = 0); omega)) (by first | omega | decide | (have ka0 := (by decide +kernel : (0 : Int32).toInt = 0); omega)) (by first | omega | decide | (have ka0 := (by decide +kernel : (0 : Int32).toInt = 0); omega)) (by first | omega | decide | (have ka0 := (by decide +kernel : (0 : Int32).toInt = 0); omega)) (by first | omega | decide | (have ka0 := (by decide +kernel : (0 : Int32).toInt = 0); omega)) (nb_0 _) (fun j hj => (zlt hj).elim) (j_fuel _) (by omega) hI hF hP hD hS (lv_sub hl_2 [2, 3, 1, 0] rfl)
def Q_r006_X9_ranks (dC : Nat → ClassId) (dI : Nat → Nat → Nat) (cI cJ cII cJJ : ClassId) (ad : Nat → Nat) (f9_size f9_equations f9_areSteps f9_foundMany f9_many f9_rank f9_arePlans f9_planMany : Int32) (ai0 : Nat → Nat → Int32) (al : Nat → Nat → Int64) (x1 : Int32) : (Nat → Prop) → Array Value → State → Outcome → State → Prop := fun A => QI (fun r t => ∃ (n_f9_freeMany : Int32), ∃ (n_ai : Nat → Nat → Int32), ((0 ≤ r.toInt ∧ r.toInt ≤ 1) ∧ (0 ≤ n_f9_freeMany.toInt ∧ n_f9_freeMany.toInt ≤ 4) ∧ (r.toInt = 0 ∨ RKa n_ai f9_size x1 n_f9_freeMany) ∧ (x1.toInt ≠ 0 ∨ r.toInt = 1) ∧ IAM n_ai ∧ FR [13, 14, 15] ai0 n_ai) ∧ WO dC dI (TY cI cJ cII cJJ) (WM cI cJ cII cJJ ad f9_size f9_equations f9_areSteps f9_foundMany f9_many f9_rank n_f9_freeMany f9_arePlans f9_planMany n_ai al) A t) A
set_option maxRecDepth 100000 in
set_option maxHeartbeats 4000000 in
theorem r006_X9_ranks_b176 {p : Program} {l : Launch} {e : Env} {s : State} {m : MethodId} {args : Array Value} {below : List Frame} {meth : Method} {c : Code} {A : Nat → Prop} {dC : Nat → ClassId} {dI : Nat → Nat → Nat} {cI cJ cII cJJ : ClassId} {ad : Nat → Nat} {g : Nat} {f9_size f9_equations f9_areSteps f9_foundMany f9_many f9_rank f9_arePlans f9_planMany : Int32} {ai0 : Nat → Nat → Int32} {al : Nat → Nat → Int64} {x1 : Int32} (C : Cx p c s m meth args A dC dI (TY cI cJ cII cJJ) cX9_ranks (some .boolean) 5 RX9 0 g) (h_x1 : (0 ≤ x1.toInt ∧ x1.toInt ≤ 3)) (n2 : Nat) (K2 : ∀ (L2 f9_freeMany : Int32) (ai : Nat → Nat → Int32) (H : Heap) (locs : List Loc) (ls : Array Slot), (0 ≤ L2.toInt ∧ L2.toInt ≤ 8) → (1 ≤ f9_size.toInt ∧ f9_size.toInt ≤ 4) → (0 ≤ f9_equations.toInt ∧ f9_equations.toInt ≤ 3) → (0 ≤ f9_areSteps.toInt ∧ f9_areSteps.toInt ≤ 1) → (0 ≤ f9_foundMany.toInt ∧ f9_foundMany.toInt ≤ 99999) → (0 ≤ f9_many.toInt ∧ f9_many.toInt ≤ 6000) → (0 ≤ f9_rank.toInt ∧ f9_rank.toInt ≤ 3) → (0 ≤ f9_freeMany.toInt ∧ f9_freeMany.toInt ≤ 4) → (0 ≤ f9_arePlans.toInt ∧ f9_arePlans.toInt ≤ 1) → (0 ≤ f9_planMany.toInt ∧ f9_planMany.toInt ≤ 194481) → (x1.toInt ≠ 0 ∨ L2.toInt = 0) → 8 - L2.toInt < (n2 : Int) → (0 : Int) < (n2 : Int) → IAM ai → FR [13, 14, 15] ai0 ai → va_P (dC, dI) vwCl (WM cI cJ cII cJJ ad f9_size f9_equations f9_areSteps f9_foundMany f9_many f9_rank f9_freeMany f9_arePlans f9_planMany ai al) H → va_D A (WM cI cJ cII cJJ ad f9_size f9_equations f9_areSteps f9_foundMany f9_many f9_rank f9_freeMany f9_arePlans f9_planMany ai al) → va_S A s.heap H locs → lv_has ls 5 [(0, .ref (ad 22)), (1, .int x1), (2, .int L2)] → W p l e ({ frames := 4, cells := 0, slots := 0, locals := 200 } : Room) s m args below meth c H locs 0 0 (MQ below (Q_r006_X9_ranks dC dI cI cJ cII cJJ ad f9_size f9_equations f9_areSteps f9_foundMany f9_many f9_rank f9_arePlans f9_planMany ai0 al x1 A) args s 0 0 A) (F0 m 2 ls [])) : ∀ (L2 f9_freeMany : Int32) (ai : Nat → Nat → Int32) (H : Heap) (locs : List Loc) (ls : Array Slot), (0 ≤ L2.toInt ∧ L2.toInt ≤ 7) → (1 ≤ f9_size.toInt ∧ f9_size.toInt ≤ 4) → (0 ≤ f9_equations.toInt ∧ f9_equations.toInt ≤ 3) → (0 ≤ f9_areSteps.toInt ∧ f9_areSteps.toInt ≤ 1) → (0 ≤ f9_foundMany.toInt ∧ f9_foundMany.toInt ≤ 99999) → (0 ≤ f9_many.toInt ∧ f9_many.toInt ≤ 6000) → (0 ≤ f9_rank.toInt ∧ f9_rank.toInt ≤ 3) → (0 ≤ f9_freeMany.toInt ∧ f9_freeMany.toInt ≤ 4) → (0 ≤ f9_arePlans.toInt ∧ f9_arePlans.toInt ≤ 1) → (0 ≤ f9_planMany.toInt ∧ f9_planMany.toInt ≤ 194481) → x1.toInt ≠ 0 → L2.toInt < 8 → 8 - L2.toInt ≤ (n2 : Int) → IAM ai → FR [13, 14, 15] ai0 ai → va_P (dC, dI) vwCl (WM cI cJ cII cJJ ad f9_size f9_equations f9_areSteps f9_foundMany f9_many f9_rank f9_freeMany f9_arePlans f9_planMany ai al) H → va_D A (WM cI cJ cII cJJ ad f9_size f9_equations f9_areSteps f9_foundMany f9_many f9_rank f9_freeMany f9_arePlans f9_planMany ai al) → va_S A s.heap H locs → lv_has ls 5 [(0, .ref (ad 22)), (1, .int x1), (2, .int L2)] → W p l e ({ frames := 4, cells := 0, slots := 0, locals := 200 } : Room) s m args below meth c H locs 0 0 (MQ below (Q_r006_X9_ranks dC dI cI cJ cII cJJ ad f9_size f9_equations f9_areSteps f9_foundMany f9_many f9_rank f9_arePlans f9_planMany ai0 al x1 A) args s 0 0 A) (F0 m 176 ls []) := by
  obtain ⟨hx, hb, hr, hml, hown, hts, hk, hA, hK, hX⟩ := id C
  intro L2 f9_freeMany ai H locs ls h0 h1 h2 h3 h4 h5 h6 h7 h8 h9 h10 h11 h12 hI hF hP hD hS hl
  obtain ⟨z1, e_z1⟩ : ∃ q : Int32, q = L2 + Int32.ofInt 1 := ⟨_, rfl⟩
  have g_z1 : z1.toInt = L2.toInt + 1 := by rw [e_z1]; exact n_add (a := L2.toInt) (b := 1) rfl (by decide +kernel) (by omega) (by omega)
  refine lv_iinc (v := z1) (lv' := [(2, .int z1), (0, .ref (ad 22)), (1, .int x1)]) hx hb dX9_ranks_176 hl (k := 2) rfl e_z1.symm (by decide) rfl (fun ls_1 hl_1 => ?_)
  refine lv_goto (tgt := 2) hx hb dX9_ranks_179 (by decide) ?_
  exact K2 z1 f9_freeMany ai _ _ _ (by omega) (by omega) (by omega) (by omega) (by omega) (by omega) (by omega) (by omega) (by omega) (by omega) (by omega) (by omega) (by omega) hI hF hP hD hS (lv_sub hl_1 [1, 2, 0] rfl)
set_option maxRecDepth 100000 in
set_option maxHeartbeats 4000000 in
theorem r006_X9_ranks_b170 {p : Program} {l : Launch} {e : Env} {s : State} {m : MethodId} {args : Array Value} {below : List Frame} {meth : Method} {c : Code} {A : Nat → Prop} {dC : Nat → ClassId} {dI : Nat → Nat → Nat} {cI cJ cII cJJ : ClassId} {ad : Nat → Nat} {g : Nat} {f9_size f9_equations f9_areSteps f9_foundMany f9_many f9_rank f9_arePlans f9_planMany : Int32} {ai0 : Nat → Nat → Int32} {al : Nat → Nat → Int64} {x1 : Int32} (C : Cx p c s m meth args A dC dI (TY cI cJ cII cJJ) cX9_ranks (some .boolean) 5 RX9 0 g) (h_x1 : (0 ≤ x1.toInt ∧ x1.toInt ≤ 3)) (n2 : Nat) (K2 : ∀ (L2 f9_freeMany : Int32) (ai : Nat → Nat → Int32) (H : Heap) (locs : List Loc) (ls : Array Slot), (0 ≤ L2.toInt ∧ L2.toInt ≤ 8) → (1 ≤ f9_size.toInt ∧ f9_size.toInt ≤ 4) → (0 ≤ f9_equations.toInt ∧ f9_equations.toInt ≤ 3) → (0 ≤ f9_areSteps.toInt ∧ f9_areSteps.toInt ≤ 1) → (0 ≤ f9_foundMany.toInt ∧ f9_foundMany.toInt ≤ 99999) → (0 ≤ f9_many.toInt ∧ f9_many.toInt ≤ 6000) → (0 ≤ f9_rank.toInt ∧ f9_rank.toInt ≤ 3) → (0 ≤ f9_freeMany.toInt ∧ f9_freeMany.toInt ≤ 4) → (0 ≤ f9_arePlans.toInt ∧ f9_arePlans.toInt ≤ 1) → (0 ≤ f9_planMany.toInt ∧ f9_planMany.toInt ≤ 194481) → (x1.toInt ≠ 0 ∨ L2.toInt = 0) → 8 - L2.toInt < (n2 : Int) → (0 : Int) < (n2 : Int) → IAM ai → FR [13, 14, 15] ai0 ai → va_P (dC, dI) vwCl (WM cI cJ cII cJJ ad f9_size f9_equations f9_areSteps f9_foundMany f9_many f9_rank f9_freeMany f9_arePlans f9_planMany ai al) H → va_D A (WM cI cJ cII cJJ ad f9_size f9_equations f9_areSteps f9_foundMany f9_many f9_rank f9_freeMany f9_arePlans f9_planMany ai al) → va_S A s.heap H locs → lv_has ls 5 [(0, .ref (ad 22)), (1, .int x1), (2, .int L2)] → W p l e ({ frames := 4, cells := 0, slots := 0, locals := 200 } : Room) s m args below meth c H locs 0 0 (MQ below (Q_r006_X9_ranks dC dI cI cJ cII cJJ ad f9_size f9_equations f9_areSteps f9_foundMany f9_many f9_rank f9_arePlans f9_planMany ai0 al x1 A) args s 0 0 A) (F0 m 2 ls [])) (n25 : Nat) (K25 : ∀ (L2 L3 f9_freeMany : Int32) (ai : Nat → Nat → Int32) (H : Heap) (locs : List Loc) (ls : Array Slot), (0 ≤ L2.toInt ∧ L2.toInt ≤ 7) → (0 ≤ L3.toInt ∧ L3.toInt ≤ 16) → (1 ≤ f9_size.toInt ∧ f9_size.toInt ≤ 4) → (0 ≤ f9_equations.toInt ∧ f9_equations.toInt ≤ 3) → (0 ≤ f9_areSteps.toInt ∧ f9_areSteps.toInt ≤ 1) → (0 ≤ f9_foundMany.toInt ∧ f9_foundMany.toInt ≤ 99999) → (0 ≤ f9_many.toInt ∧ f9_many.toInt ≤ 6000) → (0 ≤ f9_rank.toInt ∧ f9_rank.toInt ≤ 3) → (0 ≤ f9_freeMany.toInt ∧ f9_freeMany.toInt ≤ 4) → (0 ≤ f9_arePlans.toInt ∧ f9_arePlans.toInt ≤ 1) → (0 ≤ f9_planMany.toInt ∧ f9_planMany.toInt ≤ 194481) → (x1.toInt ≠ 0 ∨ (L2.toInt = 0 ∧ L3.toInt = 0)) → L2.toInt < 8 → 8 - L2.toInt ≤ (n2 : Int) → 16 - L3.toInt < (n25 : Int) → (0 : Int) < (n25 : Int) → IAM ai → FR [13, 14, 15] ai0 ai → va_P (dC, dI) vwCl (WM cI cJ cII cJJ ad f9_size f9_equations f9_areSteps f9_foundMany f9_many f9_rank f9_freeMany f9_arePlans f9_planMany ai al) H → va_D A (WM cI cJ cII cJJ ad f9_size f9_equations f9_areSteps f9_foundMany f9_many f9_rank f9_freeMany f9_arePlans f9_planMany ai al) → va_S A s.heap H locs → lv_has ls 5 [(0, .ref (ad 22)), (1, .int x1), (2, .int L2), (3, .int L3)] → W p l e ({ frames := 4, cells := 0, slots := 0, locals := 200 } : Room) s m args below meth c H locs 0 0 (MQ below (Q_r006_X9_ranks dC dI cI cJ cII cJJ ad f9_size f9_equations f9_areSteps f9_foundMany f9_many f9_rank f9_arePlans f9_planMany ai0 al x1 A) args s 0 0 A) (F0 m 25 ls [])) : ∀ (L2 L3 f9_freeMany : Int32) (ai : Nat → Nat → Int32) (H : Heap) (locs : List Loc) (ls : Array Slot), (0 ≤ L2.toInt ∧ L2.toInt ≤ 7) → (0 ≤ L3.toInt ∧ L3.toInt ≤ 15) → (1 ≤ f9_size.toInt ∧ f9_size.toInt ≤ 4) → (0 ≤ f9_equations.toInt ∧ f9_equations.toInt ≤ 3) → (0 ≤ f9_areSteps.toInt ∧ f9_areSteps.toInt ≤ 1) → (0 ≤ f9_foundMany.toInt ∧ f9_foundMany.toInt ≤ 99999) → (0 ≤ f9_many.toInt ∧ f9_many.toInt ≤ 6000) → (0 ≤ f9_rank.toInt ∧ f9_rank.toInt ≤ 3) → (0 ≤ f9_freeMany.toInt ∧ f9_freeMany.toInt ≤ 4) → (0 ≤ f9_arePlans.toInt ∧ f9_arePlans.toInt ≤ 1) → (0 ≤ f9_planMany.toInt ∧ f9_planMany.toInt ≤ 194481) → x1.toInt ≠ 0 → L2.toInt < 8 → 8 - L2.toInt ≤ (n2 : Int) → L3.toInt < 16 → 16 - L3.toInt ≤ (n25 : Int) → IAM ai → FR [13, 14, 15] ai0 ai → va_P (dC, dI) vwCl (WM cI cJ cII cJJ ad f9_size f9_equations f9_areSteps f9_foundMany f9_many f9_rank f9_freeMany f9_arePlans f9_planMany ai al) H → va_D A (WM cI cJ cII cJJ ad f9_size f9_equations f9_areSteps f9_foundMany f9_many f9_rank f9_freeMany f9_arePlans f9_planMany ai al) → va_S A s.heap H locs → lv_has ls 5 [(0, .ref (ad 22)), (1, .int x1), (2, .int L2), (3, .int L3)] → W p l e ({ frames := 4, cells := 0, slots := 0, locals := 200 } : Room) s m args below meth c H locs 0 0 (MQ below (Q_r006_X9_ranks dC dI cI cJ cII cJJ ad f9_size f9_equations f9_areSteps f9_foundMany f9_many f9_rank f9_arePlans f9_planMany ai0 al x1 A) args s 0 0 A) (F0 m 170 ls []) := by
  obtain ⟨hx, hb, hr, hml, hown, hts, hk, hA, hK, hX⟩ := id C
  intro L2 L3 f9_freeMany ai H locs ls h0 h1 h2 h3 h4 h5 h6 h7 h8 h9 h10 h11 h12 h13 h14 h15 hI hF hP hD hS hl
  obtain ⟨z1, e_z1⟩ : ∃ q : Int32, q = L3 + Int32.ofInt 1 := ⟨_, rfl⟩
  have g_z1 : z1.toInt = L3.toInt + 1 := by rw [e_z1]; exact n_add (a := L3.toInt) (b := 1) rfl (by decide +kernel) (by omega) (by omega)
  refine lv_iinc (v := z1) (lv' := [(3, .int z1), (0, .ref (ad 22)), (1, .int x1), (2, .int L2)]) hx hb dX9_ranks_170 hl (k := 3) rfl e_z1.symm (by decide) rfl (fun ls_1 hl_1 => ?_)
  refine lv_goto (tgt := 25) hx hb dX9_ranks_173 (by decide) ?_
  exact K25 L2 z1 f9_freeMany ai _ _ _ (by omega) (by omega) (by omega) (by omega) (by omega) (by omega) (by omega) (by omega) (by omega) (by omega) (by omega) (by omega) (by omega) (by omega) (by omega) (by omega) hI hF hP hD hS (lv_sub hl_1 [1, 2, 3, 0] rfl)
set_option maxRecDepth 100000 in
set_option maxHeartbeats 4000000 in
theorem r006_X9_ranks_b162 {p : Program} {l : Launch} {e : Env} {s : State} {m : MethodId} {args : Array Value} {below : List Frame} {meth : Method} {c : Code} {A : Nat → Prop} {dC : Nat → ClassId} {dI : Nat → Nat → Nat} {cI cJ cII cJJ : ClassId} {ad : Nat → Nat} {g : Nat} {f9_size f9_equations f9_areSteps f9_foundMany f9_many f9_rank f9_arePlans f9_planMany : Int32} {ai0 : Nat → Nat → Int32} {al : Nat → Nat → Int64} {x1 : Int32} (C : Cx p c s m meth args A dC dI (TY cI cJ cII cJJ) cX9_ranks (some .boolean) 5 RX9 0 g) (h_x1 : (0 ≤ x1.toInt ∧ x1.toInt ≤ 3)) (n2 : Nat) (K2 : ∀ (L2 f9_freeMany : Int32) (ai : Nat → Nat → Int32) (H : Heap) (locs : List Loc) (ls : Array Slot), (0 ≤ L2.toInt ∧ L2.toInt ≤ 8) → (1 ≤ f9_size.toInt ∧ f9_size.toInt ≤ 4) → (0 ≤ f9_equations.toInt ∧ f9_equations.toInt ≤ 3) → (0 ≤ f9_areSteps.toInt ∧ f9_areSteps.toInt ≤ 1) → (0 ≤ f9_foundMany.toInt ∧ f9_foundMany.toInt ≤ 99999) → (0 ≤ f9_many.toInt ∧ f9_many.toInt ≤ 6000) → (0 ≤ f9_rank.toInt ∧ f9_rank.toInt ≤ 3) → (0 ≤ f9_freeMany.toInt ∧ f9_freeMany.toInt ≤ 4) → (0 ≤ f9_arePlans.toInt ∧ f9_arePlans.toInt ≤ 1) → (0 ≤ f9_planMany.toInt ∧ f9_planMany.toInt ≤ 194481) → (x1.toInt ≠ 0 ∨ L2.toInt = 0) → 8 - L2.toInt < (n2 : Int) → (0 : Int) < (n2 : Int) → IAM ai → FR [13, 14, 15] ai0 ai → va_P (dC, dI) vwCl (WM cI cJ cII cJJ ad f9_size f9_equations f9_areSteps f9_foundMany f9_many f9_rank f9_freeMany f9_arePlans f9_planMany ai al) H → va_D A (WM cI cJ cII cJJ ad f9_size f9_equations f9_areSteps f9_foundMany f9_many f9_rank f9_freeMany f9_arePlans f9_planMany ai al) → va_S A s.heap H locs → lv_has ls 5 [(0, .ref (ad 22)), (1, .int x1), (2, .int L2)] → W p l e ({ frames := 4, cells := 0, slots := 0, locals := 200 } : Room) s m args below meth c H locs 0 0 (MQ below (Q_r006_X9_ranks dC dI cI cJ cII cJJ ad f9_size f9_equations f9_areSteps f9_foundMany f9_many f9_rank f9_arePlans f9_planMany ai0 al x1 A) args s 0 0 A) (F0 m 2 ls [])) (n25 : Nat) (K25 : ∀ (L2 L3 f9_freeMany : Int32) (ai : Nat → Nat → Int32) (H : Heap) (locs : List Loc) (ls : Array Slot), (0 ≤ L2.toInt ∧ L2.toInt ≤ 7) → (0 ≤ L3.toInt ∧ L3.toInt ≤ 16) → (1 ≤ f9_size.toInt ∧ f9_size.toInt ≤ 4) → (0 ≤ f9_equations.toInt ∧ f9_equations.toInt ≤ 3) → (0 ≤ f9_areSteps.toInt ∧ f9_areSteps.toInt ≤ 1) → (0 ≤ f9_foundMany.toInt ∧ f9_foundMany.toInt ≤ 99999) → (0 ≤ f9_many.toInt ∧ f9_many.toInt ≤ 6000) → (0 ≤ f9_rank.toInt ∧ f9_rank.toInt ≤ 3) → (0 ≤ f9_freeMany.toInt ∧ f9_freeMany.toInt ≤ 4) → (0 ≤ f9_arePlans.toInt ∧ f9_arePlans.toInt ≤ 1) → (0 ≤ f9_planMany.toInt ∧ f9_planMany.toInt ≤ 194481) → (x1.toInt ≠ 0 ∨ (L2.toInt = 0 ∧ L3.toInt = 0)) → L2.toInt < 8 → 8 - L2.toInt ≤ (n2 : Int) → 16 - L3.toInt < (n25 : Int) → (0 : Int) < (n25 : Int) → IAM ai → FR [13, 14, 15] ai0 ai → va_P (dC, dI) vwCl (WM cI cJ cII cJJ ad f9_size f9_equations f9_areSteps f9_foundMany f9_many f9_rank f9_freeMany f9_arePlans f9_planMany ai al) H → va_D A (WM cI cJ cII cJJ ad f9_size f9_equations f9_areSteps f9_foundMany f9_many f9_rank f9_freeMany f9_arePlans f9_planMany ai al) → va_S A s.heap H locs → lv_has ls 5 [(0, .ref (ad 22)), (1, .int x1), (2, .int L2), (3, .int L3)] → W p l e ({ frames := 4, cells := 0, slots := 0, locals := 200 } : Room) s m args below meth c H locs 0 0 (MQ below (Q_r006_X9_ranks dC dI cI cJ cII cJJ ad f9_size f9_equations f9_areSteps f9_foundMany f9_many f9_rank f9_arePlans f9_planMany ai0 al x1 A) args s 0 0 A) (F0 m 25 ls [])) (n119 : Nat) (K119 : ∀ (L2 L3 L4 f9_freeMany : Int32) (ai : Nat → Nat → Int32) (H : Heap) (locs : List Loc) (ls : Array Slot), (0 ≤ L2.toInt ∧ L2.toInt ≤ 7) → (0 ≤ L3.toInt ∧ L3.toInt ≤ 15) → (0 ≤ L4.toInt ∧ L4.toInt ≤ 4) → (1 ≤ f9_size.toInt ∧ f9_size.toInt ≤ 4) → (0 ≤ f9_equations.toInt ∧ f9_equations.toInt ≤ 3) → (0 ≤ f9_areSteps.toInt ∧ f9_areSteps.toInt ≤ 1) → (0 ≤ f9_foundMany.toInt ∧ f9_foundMany.toInt ≤ 99999) → (0 ≤ f9_many.toInt ∧ f9_many.toInt ≤ 6000) → (0 ≤ f9_rank.toInt ∧ f9_rank.toInt ≤ 3) → (0 ≤ f9_freeMany.toInt ∧ f9_freeMany.toInt ≤ 4) → (0 ≤ f9_arePlans.toInt ∧ f9_arePlans.toInt ≤ 1) → (0 ≤ f9_planMany.toInt ∧ f9_planMany.toInt ≤ 194481) → (∀ j : Nat, j < 3 → (ai 13 j).toInt = (tk L3.toInt.toNat j : Int)) → mnv ai x1 ≠ 0 → (bc L3.toInt.toNat : Int) = x1.toInt → L3.toInt < pw2 f9_size.toInt.toNat → f9_freeMany.toInt = (nz L3.toInt.toNat L4.toInt.toNat : Int) → (∀ j : Nat, (j : Int) < f9_freeMany.toInt → (ai 15 j).toInt = (fz L3.toInt.toNat j : Int)) → L4.toInt ≤ f9_size.toInt → L2.toInt < 8 → 8 - L2.toInt ≤ (n2 : Int) → L3.toInt < 16 → 16 - L3.toInt ≤ (n25 : Int) → f9_size.toInt - L4.toInt < (n119 : Int) → (0 : Int) < (n119 : Int) → IAM ai → FR [13, 14, 15] ai0 ai → va_P (dC, dI) vwCl (WM cI cJ cII cJJ ad f9_size f9_equations f9_areSteps f9_foundMany f9_many f9_rank f9_freeMany f9_arePlans f9_planMany ai al) H → va_D A (WM cI cJ cII cJJ ad f9_size f9_equations f9_areSteps f9_foundMany f9_many f9_rank f9_freeMany f9_arePlans f9_planMany ai al) → va_S A s.heap H locs → lv_has ls 5 [(0, .ref (ad 22)), (1, .int x1), (2, .int L2), (3, .int L3), (4, .int L4)] → W p l e ({ frames := 4, cells := 0, slots := 0, locals := 200 } : Room) s m args below meth c H locs 0 0 (MQ below (Q_r006_X9_ranks dC dI cI cJ cII cJJ ad f9_size f9_equations f9_areSteps f9_foundMany f9_many f9_rank f9_arePlans f9_planMany ai0 al x1 A) args s 0 0 A) (F0 m 119 ls [])) : ∀ (L2 L3 L4 f9_freeMany : Int32) (ai : Nat → Nat → Int32) (H : Heap) (locs : List Loc) (ls : Array Slot), (0 ≤ L2.toInt ∧ L2.toInt ≤ 7) → (0 ≤ L3.toInt ∧ L3.toInt ≤ 15) → (0 ≤ L4.toInt ∧ L4.toInt ≤ 3) → (1 ≤ f9_size.toInt ∧ f9_size.toInt ≤ 4) → (0 ≤ f9_equations.toInt ∧ f9_equations.toInt ≤ 3) → (0 ≤ f9_areSteps.toInt ∧ f9_areSteps.toInt ≤ 1) → (0 ≤ f9_foundMany.toInt ∧ f9_foundMany.toInt ≤ 99999) → (0 ≤ f9_many.toInt ∧ f9_many.toInt ≤ 6000) → (0 ≤ f9_rank.toInt ∧ f9_rank.toInt ≤ 3) → (0 ≤ f9_freeMany.toInt ∧ f9_freeMany.toInt ≤ 4) → (0 ≤ f9_arePlans.toInt ∧ f9_arePlans.toInt ≤ 1) → (0 ≤ f9_planMany.toInt ∧ f9_planMany.toInt ≤ 194481) → (∀ j : Nat, j < 3 → (ai 13 j).toInt = (tk L3.toInt.toNat j : Int)) → mnv ai x1 ≠ 0 → (bc L3.toInt.toNat : Int) = x1.toInt → L3.toInt < pw2 f9_size.toInt.toNat → f9_freeMany.toInt = (nz L3.toInt.toNat (L4.toInt.toNat + 1) : Int) → (∀ j : Nat, (j : Int) < f9_freeMany.toInt → (ai 15 j).toInt = (fz L3.toInt.toNat j : Int)) → L4.toInt < f9_size.toInt → L2.toInt < 8 → 8 - L2.toInt ≤ (n2 : Int) → L3.toInt < 16 → 16 - L3.toInt ≤ (n25 : Int) → L4.toInt < f9_size.toInt → f9_size.toInt - L4.toInt ≤ (n119 : Int) → IAM ai → FR [13, 14, 15] ai0 ai → va_P (dC, dI) vwCl (WM cI cJ cII cJJ ad f9_size f9_equations f9_areSteps f9_foundMany f9_many f9_rank f9_freeMany f9_arePlans f9_planMany ai al) H → va_D A (WM cI cJ cII cJJ ad f9_size f9_equations f9_areSteps f9_foundMany f9_many f9_rank f9_freeMany f9_arePlans f9_planMany ai al) → va_S A s.heap H locs → lv_has ls 5 [(0, .ref (ad 22)), (1, .int x1), (2, .int L2), (3, .int L3), (4, .int L4)] → W p l e ({ frames := 4, cells := 0, slots := 0, locals := 200 } : Room) s m args below meth c H locs 0 0 (MQ below (Q_r006_X9_ranks dC dI cI cJ cII cJJ ad f9_size f9_equations f9_areSteps f9_foundMany f9_many f9_rank f9_arePlans f9_planMany ai0 al x1 A) args s 0 0 A) (F0 m 162 ls []) := by
  obtain ⟨hx, hb, hr, hml, hown, hts, hk, hA, hK, hX⟩ := id C
  intro L2 L3 L4 f9_freeMany ai H locs ls h0 h1 h2 h3 h4 h5 h6 h7 h8 h9 h10 h11 h12 h13 h14 h15 h16 h17 h18 h19 h20 h21 h22 h23 h24 hI hF hP hD hS hl
  obtain ⟨z1, e_z1⟩ : ∃ q : Int32, q = L4 + Int32.ofInt 1 := ⟨_, rfl⟩
  have g_z1 : z1.toInt = L4.toInt + 1 := by rw [e_z1]; exact n_add (a := L4.toInt) (b := 1) rfl (by decide +kernel) (by omega) (by omega)
  refine lv_iinc (v := z1) (lv' := [(4, .int z1), (0, .ref (ad 22)), (1, .int x1), (2, .int L2), (3, .int L3)]) hx hb dX9_ranks_162 hl (k := 4) rfl e_z1.symm (by decide) rfl (fun ls_1 hl_1 => ?_)
  refine lv_goto (tgt := 119) hx hb dX9_ranks_165 (by decide) ?_
  exact K119 L2 L3 z1 f9_freeMany ai _ _ _ (by omega) (by omega) (by omega) (by omega) (by omega) (by omega) (by omega) (by omega) (by omega) (by omega) (by omega) (by omega) h12 h13 h14 h15 (by rw [show z1.toInt.toNat = L4.toInt.toNat + 1 by omega]; exact h16) h17 (by omega) (by omega) (by omega) (by omega) (by omega) (by omega) (by omega) hI hF hP hD hS (lv_sub hl_1 [1, 2, 3, 4, 0] rfl)
set_option maxRecDepth 100000 in
set_option maxHeartbeats 4000000 in
theorem r006_X9_ranks_b119 {p : Program} {l : Launch} {e : Env} {s : State} {m : MethodId} {args : Array Value} {below : List Frame} {meth : Method} {c : Code} {A : Nat → Prop} {dC : Nat → ClassId} {dI : Nat → Nat → Nat} {cI cJ cII cJJ : ClassId} {ad : Nat → Nat} {g : Nat} {f9_size f9_equations f9_areSteps f9_foundMany f9_many f9_rank f9_arePlans f9_planMany : Int32} {ai0 : Nat → Nat → Int32} {al : Nat → Nat → Int64} {x1 : Int32} (C : Cx p c s m meth args A dC dI (TY cI cJ cII cJJ) cX9_ranks (some .boolean) 5 RX9 0 g) (h_x1 : (0 ≤ x1.toInt ∧ x1.toInt ≤ 3)) (n2 : Nat) (K2 : ∀ (L2 f9_freeMany : Int32) (ai : Nat → Nat → Int32) (H : Heap) (locs : List Loc) (ls : Array Slot), (0 ≤ L2.toInt ∧ L2.toInt ≤ 8) → (1 ≤ f9_size.toInt ∧ f9_size.toInt ≤ 4) → (0 ≤ f9_equations.toInt ∧ f9_equations.toInt ≤ 3) → (0 ≤ f9_areSteps.toInt ∧ f9_areSteps.toInt ≤ 1) → (0 ≤ f9_foundMany.toInt ∧ f9_foundMany.toInt ≤ 99999) → (0 ≤ f9_many.toInt ∧ f9_many.toInt ≤ 6000) → (0 ≤ f9_rank.toInt ∧ f9_rank.toInt ≤ 3) → (0 ≤ f9_freeMany.toInt ∧ f9_freeMany.toInt ≤ 4) → (0 ≤ f9_arePlans.toInt ∧ f9_arePlans.toInt ≤ 1) → (0 ≤ f9_planMany.toInt ∧ f9_planMany.toInt ≤ 194481) → (x1.toInt ≠ 0 ∨ L2.toInt = 0) → 8 - L2.toInt < (n2 : Int) → (0 : Int) < (n2 : Int) → IAM ai → FR [13, 14, 15] ai0 ai → va_P (dC, dI) vwCl (WM cI cJ cII cJJ ad f9_size f9_equations f9_areSteps f9_foundMany f9_many f9_rank f9_freeMany f9_arePlans f9_planMany ai al) H → va_D A (WM cI cJ cII cJJ ad f9_size f9_equations f9_areSteps f9_foundMany f9_many f9_rank f9_freeMany f9_arePlans f9_planMany ai al) → va_S A s.heap H locs → lv_has ls 5 [(0, .ref (ad 22)), (1, .int x1), (2, .int L2)] → W p l e ({ frames := 4, cells := 0, slots := 0, locals := 200 } : Room) s m args below meth c H locs 0 0 (MQ below (Q_r006_X9_ranks dC dI cI cJ cII cJJ ad f9_size f9_equations f9_areSteps f9_foundMany f9_many f9_rank f9_arePlans f9_planMany ai0 al x1 A) args s 0 0 A) (F0 m 2 ls [])) (n25 : Nat) (K25 : ∀ (L2 L3 f9_freeMany : Int32) (ai : Nat → Nat → Int32) (H : Heap) (locs : List Loc) (ls : Array Slot), (0 ≤ L2.toInt ∧ L2.toInt ≤ 7) → (0 ≤ L3.toInt ∧ L3.toInt ≤ 16) → (1 ≤ f9_size.toInt ∧ f9_size.toInt ≤ 4) → (0 ≤ f9_equations.toInt ∧ f9_equations.toInt ≤ 3) → (0 ≤ f9_areSteps.toInt ∧ f9_areSteps.toInt ≤ 1) → (0 ≤ f9_foundMany.toInt ∧ f9_foundMany.toInt ≤ 99999) → (0 ≤ f9_many.toInt ∧ f9_many.toInt ≤ 6000) → (0 ≤ f9_rank.toInt ∧ f9_rank.toInt ≤ 3) → (0 ≤ f9_freeMany.toInt ∧ f9_freeMany.toInt ≤ 4) → (0 ≤ f9_arePlans.toInt ∧ f9_arePlans.toInt ≤ 1) → (0 ≤ f9_planMany.toInt ∧ f9_planMany.toInt ≤ 194481) → (x1.toInt ≠ 0 ∨ (L2.toInt = 0 ∧ L3.toInt = 0)) → L2.toInt < 8 → 8 - L2.toInt ≤ (n2 : Int) → 16 - L3.toInt < (n25 : Int) → (0 : Int) < (n25 : Int) → IAM ai → FR [13, 14, 15] ai0 ai → va_P (dC, dI) vwCl (WM cI cJ cII cJJ ad f9_size f9_equations f9_areSteps f9_foundMany f9_many f9_rank f9_freeMany f9_arePlans f9_planMany ai al) H → va_D A (WM cI cJ cII cJJ ad f9_size f9_equations f9_areSteps f9_foundMany f9_many f9_rank f9_freeMany f9_arePlans f9_planMany ai al) → va_S A s.heap H locs → lv_has ls 5 [(0, .ref (ad 22)), (1, .int x1), (2, .int L2), (3, .int L3)] → W p l e ({ frames := 4, cells := 0, slots := 0, locals := 200 } : Room) s m args below meth c H locs 0 0 (MQ below (Q_r006_X9_ranks dC dI cI cJ cII cJJ ad f9_size f9_equations f9_areSteps f9_foundMany f9_many f9_rank f9_arePlans f9_planMany ai0 al x1 A) args s 0 0 A) (F0 m 25 ls [])) : ∀ (n : Nat), ∀ (L2 L3 L4 f9_freeMany : Int32) (ai : Nat → Nat → Int32) (H : Heap) (locs : List Loc) (ls : Array Slot), (0 ≤ L2.toInt ∧ L2.toInt ≤ 7) → (0 ≤ L3.toInt ∧ L3.toInt ≤ 15) → (0 ≤ L4.toInt ∧ L4.toInt ≤ 4) → (1 ≤ f9_size.toInt ∧ f9_size.toInt ≤ 4) → (0 ≤ f9_equations.toInt ∧ f9_equations.toInt ≤ 3) → (0 ≤ f9_areSteps.toInt ∧ f9_areSteps.toInt ≤ 1) → (0 ≤ f9_foundMany.toInt ∧ f9_foundMany.toInt ≤ 99999) → (0 ≤ f9_many.toInt ∧ f9_many.toInt ≤ 6000) → (0 ≤ f9_rank.toInt ∧ f9_rank.toInt ≤ 3) → (0 ≤ f9_freeMany.toInt ∧ f9_freeMany.toInt ≤ 4) → (0 ≤ f9_arePlans.toInt ∧ f9_arePlans.toInt ≤ 1) → (0 ≤ f9_planMany.toInt ∧ f9_planMany.toInt ≤ 194481) → (∀ j : Nat, j < 3 → (ai 13 j).toInt = (tk L3.toInt.toNat j : Int)) → mnv ai x1 ≠ 0 → (bc L3.toInt.toNat : Int) = x1.toInt → L3.toInt < pw2 f9_size.toInt.toNat → f9_freeMany.toInt = (nz L3.toInt.toNat L4.toInt.toNat : Int) → (∀ j : Nat, (j : Int) < f9_freeMany.toInt → (ai 15 j).toInt = (fz L3.toInt.toNat j : Int)) → L4.toInt ≤ f9_size.toInt → L2.toInt < 8 → 8 - L2.toInt ≤ (n2 : Int) → L3.toInt < 16 → 16 - L3.toInt ≤ (n25 : Int) → f9_size.toInt - L4.toInt < (n : Int) → (0 : Int) < (n : Int) → IAM ai → FR [13, 14, 15] ai0 ai → va_P (dC, dI) vwCl (WM cI cJ cII cJJ ad f9_size f9_equations f9_areSteps f9_foundMany f9_many f9_rank f9_freeMany f9_arePlans f9_planMany ai al) H → va_D A (WM cI cJ cII cJJ ad f9_size f9_equations f9_areSteps f9_foundMany f9_many f9_rank f9_freeMany f9_arePlans f9_planMany ai al) → va_S A s.heap H locs → lv_has ls 5 [(0, .ref (ad 22)), (1, .int x1), (2, .int L2), (3, .int L3), (4, .int L4)] → W p l e ({ frames := 4, cells := 0, slots := 0, locals := 200 } : Room) s m args below meth c H locs 0 0 (MQ below (Q_r006_X9_ranks dC dI cI cJ cII cJJ ad f9_size f9_equations f9_areSteps f9_foundMany f9_many f9_rank f9_arePlans f9_planMany ai0 al x1 A) args s 0 0 A) (F0 m 119 ls []) := by
  obtain ⟨hx, hb, hr, hml, hown, hts, hk, hA, hK, hX⟩ := id C
  intro n
  induction n with
  | zero =>
    intro L2 L3 L4 f9_freeMany ai H locs ls h0 h1 h2 h3 h4 h5 h6 h7 h8 h9 h10 h11 h12 h13 h14 h15 h16 h17 h18 h19 h20 h21 h22 h23 h24 hI hF hP hD hS hl
    exact absurd h24 (by omega)
  | succ n ih =>
    intro L2 L3 L4 f9_freeMany ai H locs ls h0 h1 h2 h3 h4 h5 h6 h7 h8 h9 h10 h11 h12 h13 h14 h15 h16 h17 h18 h19 h20 h21 h22 h23 h24 hI hF hP hD hS hl
    refine lv_iload hx hb dX9_ranks_119 (lv_at hl 4 rfl) ?_
    refine lv_aload_n hx hb dX9_ranks_121 rfl (lv_at hl 0 rfl) ?_
    refine gf (k := 12) hx hb hts inX9 hown hK hP k_807 rfl (by decide) rfl 22 rfl (.int f9_size) rfl dX9_ranks_122 ?_
    refine lv_icmp_ge (tgt := 168) hx hb dX9_ranks_125 (by decide) (fun c1 => ?_) (fun c1 => ?_)
    · have c1 := j_le (a := f9_size.toInt) (b := L4.toInt) rfl rfl c1
      refine lv_iconst (v := 1) hx hb dX9_ranks_168 (by decide) ?_
      exact r2_z hx hb hr hk hS dX9_ranks_169 rfl (fun t ht hW => ⟨f9_freeMany, ai, ⟨(by first | omega | decide | exact Or.inl (by decide) | exact Or.inr (by decide) | exact Or.inr (by omega)), (by first | omega | decide | exact Or.inl (by decide) | exact Or.inr (by decide) | exact Or.inr (by omega)), (Or.inr (rk_ok (c := L3) (u := L4) (by omega) (by omega) (by omega) (by omega) h12 h13 h14 (by omega) h15 (by omega) h16 h17)), (by have kr1 : (1 : Int32).toInt = 1 := (by decide); first | omega | decide | exact Or.inl (by decide) | exact Or.inr (by decide) | exact Or.inr (by omega)), hI, hF⟩, by rw [ht]; exact hP, va_K.moved hW.alike hK, hD⟩)
    · have c1 := j_nle (a := f9_size.toInt) (b := L4.toInt) rfl rfl c1
      refine lv_iload_n hx hb dX9_ranks_128 rfl (lv_at hl 3 rfl) ?_
      refine lv_iload hx hb dX9_ranks_129 (lv_at hl 4 rfl) ?_
      refine v_ishr hx hb dX9_ranks_131 _ rfl ?_
      refine lv_topi (fun z2 e_z2 => ?_)
      refine lv_iconst (v := 1) hx hb dX9_ranks_132 (by decide) ?_
      refine v_iand hx hb dX9_ranks_133 _ rfl ?_
      refine lv_topi (fun z3 e_z3 => ?_)
      refine lv_iconst (v := 1) hx hb dX9_ranks_134 (by decide) ?_
      refine lv_icmp_ne (tgt := 141) hx hb dX9_ranks_135 (by decide) (fun c4 => ?_) (fun c4 => ?_)
      · have c4 := j_ne (a := z3.toInt) (b := 1) rfl (by decide +kernel) c4
        refine lv_aload_n hx hb dX9_ranks_141 rfl (lv_at hl 0 rfl) ?_
        refine gf (k := 25) hx hb hts inX9 hown hK hP k_820 rfl (by decide) rfl 22 rfl (.ref (ad 15)) rfl dX9_ranks_142 ?_
        refine lv_aload_n hx hb dX9_ranks_145 rfl (lv_at hl 0 rfl) ?_
        refine gf (k := 28) hx hb hts inX9 hown hK hP k_823 rfl (by decide) rfl 22 rfl (.int f9_freeMany) rfl dX9_ranks_146 ?_
        refine lv_iload hx hb dX9_ranks_149 (lv_at hl 4 rfl) ?_
        have kq := (nb_le L3.toInt.toNat (by omega) L4.toInt.toNat (by omega)).2
        refine va_iast hx hb hK hP hD hS 15 0 rfl rfl (j_in (a := f9_freeMany.toInt) rfl (by omega) (by omega)) dX9_ranks_151 (fun H_1 locs_1 hP_1 hD_1 hS_1 => ?_)
        obtain ⟨ai5, e_ai5⟩ : ∃ q : Nat → Nat → Int32, q = va_up ai 15 (upd (ai 15) f9_freeMany.toNatClampNeg L4) := ⟨_, rfl⟩
        have hF_2 := FR_st hF e_ai5 (by decide)
        have hI_3 : IAM ai5 := by rw [e_ai5]; exact IAM_st15 hI (a := L4.toInt) rfl (by omega) (by omega)
        have hP_4 : va_P (dC, dI) vwCl (WM cI cJ cII cJJ ad f9_size f9_equations f9_areSteps f9_foundMany f9_many f9_rank f9_freeMany f9_arePlans f9_planMany ai5 al) H_1 := by rw [e_ai5]; exact hP_1
        have hD_5 : va_D A (WM cI cJ cII cJJ ad f9_size f9_equations f9_areSteps f9_foundMany f9_many f9_rank f9_freeMany f9_arePlans f9_planMany ai5 al) := by rw [e_ai5]; exact hD_1
        refine lv_aload_n hx hb dX9_ranks_152 rfl (lv_at hl 0 rfl) ?_
        refine lv_dup hx hb dX9_ranks_153 rfl ?_
        refine gf (k := 28) hx hb hts inX9 hown hK hP_4 k_823 rfl (by decide) rfl 22 rfl (.int f9_freeMany) rfl dX9_ranks_154 ?_
        refine lv_iconst (v := 1) hx hb dX9_ranks_157 (by decide) ?_
        refine v_iadd hx hb dX9_ranks_158 _ rfl ?_
        refine lv_topi (fun z6 e_z6 => ?_)
        have g_z6 : z6.toInt = f9_freeMany.toInt + 1 := by rw [e_z6]; exact n_add (a := f9_freeMany.toInt) (b := 1) rfl (by decide +kernel) (by omega) (by omega)
        refine pf (k := 28) hx hb hts inX9 tyX9_ok nmX9 hown hK hP_4 hD_5 hS_1 k_823 rfl (by decide) rfl rfl 22 rfl rfl rfl (Nat.le_of_ble_eq_true rfl) dX9_ranks_159 (W' := (WM cI cJ cII cJJ ad f9_size f9_equations f9_areSteps f9_foundMany f9_many f9_rank z6 f9_arePlans f9_planMany ai5 al)) rfl (fun H_6 locs_6 hP_6 hD_6 hS_6 => ?_)
        exact r006_X9_ranks_b162 C h_x1 n2 K2 n25 K25 n ih L2 L3 L4 z6 ai5 _ _ _ (by omega) (by omega) (by omega) (by omega) (by omega) (by omega) (by omega) (by omega) (by omega) (by omega) (by omega) (by omega) (by rw [up_ne e_ai5 (by decide)]; exact h12) (by rw [show mnv ai5 x1 = mnv ai x1 by rw [e_ai5]; rfl]; exact h13) h14 h15 (by rw [(nz_s0 (by omega) (by omega) (by omega) (by omega) (show z3 = (L3 >>> (L4 &&& 31)) &&& 1 by rw [e_z3, e_z2]) c4).1]; omega) (up_all h17 e_ai5 (by omega) (by rw [show f9_freeMany.toInt.toNat = nz L3.toInt.toNat L4.toInt.toNat by omega, (nz_s0 (by omega) (by omega) (by omega) (by omega) (show z3 = (L3 >>> (L4 &&& 31)) &&& 1 by rw [e_z3, e_z2]) c4).2]; omega) (by omega)) (by omega) (by omega) (by omega) (by omega) (by omega) (by omega) (by omega) hI_3 hF_2 hP_6 hD_6 hS_6 (lv_sub hl [0, 1, 2, 3, 4] rfl)
      · have c4 := j_eq (a := z3.toInt) (b := 1) rfl (by decide +kernel) c4
        refine lv_goto (tgt := 162) hx hb dX9_ranks_138 (by decide) ?_
        exact r006_X9_ranks_b162 C h_x1 n2 K2 n25 K25 n ih L2 L3 L4 f9_freeMany ai _ _ _ (by omega) (by omega) (by omega) (by omega) (by omega) (by omega) (by omega) (by omega) (by omega) (by omega) (by omega) (by omega) h12 h13 h14 h15 (by rw [nz_s1 (by omega) (by omega) (by omega) (by omega) (show z3 = (L3 >>> (L4 &&& 31)) &&& 1 by rw [e_z3, e_z2]) c4]; exact h16) h17 (by omega) (by omega) (by omega) (by omega) (by omega) (by omega) (by omega) hI hF hP hD hS (lv_sub hl [0, 1, 2, 3, 4] rfl)
set_option maxRecDepth 100000 in
set_option maxHeartbeats 4000000 in
theorem r006_X9_ranks_b25 {p : Program} {l : Launch} {e : Env} {s : State} {m : MethodId} {args : Array Value} {below : List Frame} {meth : Method} {c : Code} {A : Nat → Prop} {dC : Nat → ClassId} {dI : Nat → Nat → Nat} {cI cJ cII cJJ : ClassId} {ad : Nat → Nat} {g : Nat} {f9_size f9_equations f9_areSteps f9_foundMany f9_many f9_rank f9_arePlans f9_planMany : Int32} {ai0 : Nat → Nat → Int32} {al : Nat → Nat → Int64} {x1 : Int32} (C : Cx p c s m meth args A dC dI (TY cI cJ cII cJJ) cX9_ranks (some .boolean) 5 RX9 0 g) (h_x1 : (0 ≤ x1.toInt ∧ x1.toInt ≤ 3)) (n2 : Nat) (K2 : ∀ (L2 f9_freeMany : Int32) (ai : Nat → Nat → Int32) (H : Heap) (locs : List Loc) (ls : Array Slot), (0 ≤ L2.toInt ∧ L2.toInt ≤ 8) → (1 ≤ f9_size.toInt ∧ f9_size.toInt ≤ 4) → (0 ≤ f9_equations.toInt ∧ f9_equations.toInt ≤ 3) → (0 ≤ f9_areSteps.toInt ∧ f9_areSteps.toInt ≤ 1) → (0 ≤ f9_foundMany.toInt ∧ f9_foundMany.toInt ≤ 99999) → (0 ≤ f9_many.toInt ∧ f9_many.toInt ≤ 6000) → (0 ≤ f9_rank.toInt ∧ f9_rank.toInt ≤ 3) → (0 ≤ f9_freeMany.toInt ∧ f9_freeMany.toInt ≤ 4) → (0 ≤ f9_arePlans.toInt ∧ f9_arePlans.toInt ≤ 1) → (0 ≤ f9_planMany.toInt ∧ f9_planMany.toInt ≤ 194481) → (x1.toInt ≠ 0 ∨ L2.toInt = 0) → 8 - L2.toInt < (n2 : Int) → (0 : Int) < (n2 : Int) → IAM ai → FR [13, 14, 15] ai0 ai → va_P (dC, dI) vwCl (WM cI cJ cII cJJ ad f9_size f9_equations f9_areSteps f9_foundMany f9_many f9_rank f9_freeMany f9_arePlans f9_planMany ai al) H → va_D A (WM cI cJ cII cJJ ad f9_size f9_equations f9_areSteps f9_foundMany f9_many f9_rank f9_freeMany f9_arePlans f9_planMany ai al) → va_S A s.heap H locs → lv_has ls 5 [(0, .ref (ad 22)), (1, .int x1), (2, .int L2)] → W p l e ({ frames := 4, cells := 0, slots := 0, locals := 200 } : Room) s m args below meth c H locs 0 0 (MQ below (Q_r006_X9_ranks dC dI cI cJ cII cJJ ad f9_size f9_equations f9_areSteps f9_foundMany f9_many f9_rank f9_arePlans f9_planMany ai0 al x1 A) args s 0 0 A) (F0 m 2 ls [])) : ∀ (n : Nat), ∀ (L2 L3 f9_freeMany : Int32) (ai : Nat → Nat → Int32) (H : Heap) (locs : List Loc) (ls : Array Slot), (0 ≤ L2.toInt ∧ L2.toInt ≤ 7) → (0 ≤ L3.toInt ∧ L3.toInt ≤ 16) → (1 ≤ f9_size.toInt ∧ f9_size.toInt ≤ 4) → (0 ≤ f9_equations.toInt ∧ f9_equations.toInt ≤ 3) → (0 ≤ f9_areSteps.toInt ∧ f9_areSteps.toInt ≤ 1) → (0 ≤ f9_foundMany.toInt ∧ f9_foundMany.toInt ≤ 99999) → (0 ≤ f9_many.toInt ∧ f9_many.toInt ≤ 6000) → (0 ≤ f9_rank.toInt ∧ f9_rank.toInt ≤ 3) → (0 ≤ f9_freeMany.toInt ∧ f9_freeMany.toInt ≤ 4) → (0 ≤ f9_arePlans.toInt ∧ f9_arePlans.toInt ≤ 1) → (0 ≤ f9_planMany.toInt ∧ f9_planMany.toInt ≤ 194481) → (x1.toInt ≠ 0 ∨ (L2.toInt = 0 ∧ L3.toInt = 0)) → L2.toInt < 8 → 8 - L2.toInt ≤ (n2 : Int) → 16 - L3.toInt < (n : Int) → (0 : Int) < (n : Int) → IAM ai → FR [13, 14, 15] ai0 ai → va_P (dC, dI) vwCl (WM cI cJ cII cJJ ad f9_size f9_equations f9_areSteps f9_foundMany f9_many f9_rank f9_freeMany f9_arePlans f9_planMany ai al) H → va_D A (WM cI cJ cII cJJ ad f9_size f9_equations f9_areSteps f9_foundMany f9_many f9_rank f9_freeMany f9_arePlans f9_planMany ai al) → va_S A s.heap H locs → lv_has ls 5 [(0, .ref (ad 22)), (1, .int x1), (2, .int L2), (3, .int L3)] → W p l e ({ frames := 4, cells := 0, slots := 0, locals := 200 } : Room) s m args below meth c H locs 0 0 (MQ below (Q_r006_X9_ranks dC dI cI cJ cII cJJ ad f9_size f9_equations f9_areSteps f9_foundMany f9_many f9_rank f9_arePlans f9_planMany ai0 al x1 A) args s 0 0 A) (F0 m 25 ls []) := by
  obtain ⟨hx, hb, hr, hml, hown, hts, hk, hA, hK, hX⟩ := id C
  intro n
  induction n with
  | zero =>
    intro L2 L3 f9_freeMany ai H locs ls h0 h1 h2 h3 h4 h5 h6 h7 h8 h9 h10 h11 h12 h13 h14 h15 hI hF hP hD hS hl
    exact absurd h15 (by omega)
  | succ n ih =>
    intro L2 L3 f9_freeMany ai H locs ls h0 h1 h2 h3 h4 h5 h6 h7 h8 h9 h10 h11 h12 h13 h14 h15 hI hF hP hD hS hl
    refine lv_iload_n hx hb dX9_ranks_25 rfl (lv_at hl 3 rfl) ?_
    refine lv_iconst (v := 1) hx hb dX9_ranks_26 (by decide) ?_
    refine lv_aload_n hx hb dX9_ranks_27 rfl (lv_at hl 0 rfl) ?_
    refine gf (k := 12) hx hb hts inX9 hown hK hP k_807 rfl (by decide) rfl 22 rfl (.int f9_size) rfl dX9_ranks_28 ?_
    refine v_ishl hx hb dX9_ranks_31 _ rfl ?_
    refine lv_topi (fun z1 e_z1 => ?_)
    have g_z1 : z1.toInt = pw2 f9_size.toInt.toNat ∧ 1 ≤ z1.toInt ∧ z1.toInt ≤ 16 := by rw [e_z1]; have q9 := shl_ok (x := f9_size) (by omega) (by omega); omega
    refine lv_icmp_ge (tgt := 176) hx hb dX9_ranks_32 (by decide) (fun c2 => ?_) (fun c2 => ?_)
    · have c2 := j_le (a := z1.toInt) (b := L3.toInt) rfl rfl c2
      exact r006_X9_ranks_b176 C h_x1 n2 K2 L2 f9_freeMany ai _ _ _ (by omega) (by omega) (by omega) (by omega) (by omega) (by omega) (by omega) (by omega) (by omega) (by omega) (by omega) (by omega) (by omega) hI hF hP hD hS (lv_sub hl [0, 1, 2] rfl)
    · have c2 := j_nle (a := z1.toInt) (b := L3.toInt) rfl rfl c2
      refine lv_iload_n hx hb dX9_ranks_35 rfl (lv_at hl 3 rfl) ?_
      have hM := r001_X9_bits l dC dI cI cJ cII cJJ H.size 0 ad f9_size f9_equations f9_areSteps f9_foundMany f9_many f9_rank f9_freeMany f9_arePlans f9_planMany ai al L3 (by omega) (by omega) (by omega) (by omega) (by omega) (by omega) (by omega) (by omega) (by omega) (by omega) hI
      refine k2S_i ⟨hx, hb, hml, hown, hts⟩ hK hP hD hS hA hX cs_RX9_128 hM ⟨by decide +kernel, by decide +kernel⟩ rfl rfl (Or.inl rfl) (rest := []) rfl hl.1 rfl (Nat.le_of_ble_eq_true rfl) dX9_ranks_36 ⟨Nat.le_of_ble_eq_true rfl, Nat.le_of_ble_eq_true rfl⟩ (fun r3 t H1 locs_1 ht hB hS_1 hFc => ?_)
      obtain ⟨gpr3_0, hP_2, -, hD_2⟩ := hB
      rw [ht] at hP_2
      have hD_3 := hD_2.weaken (B := A) (fun k q _ h9 => hFc q.1 h9)
      clear ht
      generalize H1 = H_4 at hP_2 hS_1 ⊢
      refine lv_iload_n hx hb dX9_ranks_39 rfl (lv_at hl 1 rfl) ?_
      refine lv_icmp_eq (tgt := 46) hx hb dX9_ranks_40 (by decide) (fun c4 => ?_) (fun c4 => ?_)
      · have c4 := j_eq (a := r3.toInt) (b := x1.toInt) rfl rfl c4
        refine lv_iload_n hx hb dX9_ranks_46 rfl (lv_at hl 2 rfl) ?_
        refine lv_aload_n hx hb dX9_ranks_47 rfl (lv_at hl 0 rfl) ?_
        refine gf (k := 24) hx hb hts inX9 hown hK hP_2 k_819 rfl (by decide) rfl 22 rfl (.ref (ad 14)) rfl dX9_ranks_48 ?_
        have hM := r005_X9_takes l dC dI cI cJ cII cJJ H_4.size 0 ad f9_size f9_equations f9_areSteps f9_foundMany f9_many f9_rank f9_freeMany f9_arePlans f9_planMany ai al L2 (by omega) (by omega) (by omega) (by omega) (by omega) (by omega) (by omega) (by omega) (by omega) (by omega) hI
        refine k2S_v ⟨hx, hb, hml, hown, hts⟩ hK hP_2 hD_3 hS_1 hA hX cs_RX9_131 hM ⟨by decide +kernel, by decide +kernel⟩ rfl rfl (Or.inl rfl) (rest := []) rfl hl.1 rfl (Nat.le_of_ble_eq_true rfl) dX9_ranks_51 ⟨Nat.le_of_ble_eq_true rfl, Nat.le_of_ble_eq_true rfl⟩ (fun t H1 locs_5 ht hB hS_5 hFc => ?_)
        obtain ⟨ai6, ⟨gpr5_0, hI_6, hFr_r5⟩, hP_6, -, hD_6⟩ := hB
        have hF_7 := FR_tr hF hFr_r5 (by decide)
        rw [ht] at hP_6
        have hD_8 := hD_6.weaken (B := A) (fun k q _ h9 => hFc q.1 h9)
        clear ht
        generalize H1 = H_9 at hP_6 hS_5 ⊢
        refine lv_iload_n hx hb dX9_ranks_54 rfl (lv_at hl 3 rfl) ?_
        refine lv_aload_n hx hb dX9_ranks_55 rfl (lv_at hl 0 rfl) ?_
        refine gf (k := 23) hx hb hts inX9 hown hK hP_6 k_818 rfl (by decide) rfl 22 rfl (.ref (ad 13)) rfl dX9_ranks_56 ?_
        have hM := r004_X9_takes l dC dI cI cJ cII cJJ H_9.size 0 ad f9_size f9_equations f9_areSteps f9_foundMany f9_many f9_rank f9_freeMany f9_arePlans f9_planMany ai6 al L3 (by omega) (by omega) (by omega) (by omega) (by omega) (by omega) (by omega) (by omega) (by omega) (by omega) hI_6
        refine k2S_v ⟨hx, hb, hml, hown, hts⟩ hK hP_6 hD_8 hS_5 hA hX cs_RX9_131 hM ⟨by decide +kernel, by decide +kernel⟩ rfl rfl (Or.inl rfl) (rest := []) rfl hl.1 rfl (Nat.le_of_ble_eq_true rfl) dX9_ranks_59 ⟨Nat.le_of_ble_eq_true rfl, Nat.le_of_ble_eq_true rfl⟩ (fun t H1 locs_10 ht hB hS_10 hFc => ?_)
        obtain ⟨ai8, ⟨gpr7_0, hI_11, hFr_r7⟩, hP_11, -, hD_11⟩ := hB
        have hF_12 := FR_tr hF_7 hFr_r7 (by decide)
        rw [ht] at hP_11
        have hD_13 := hD_11.weaken (B := A) (fun k q _ h9 => hFc q.1 h9)
        clear ht
        generalize H1 = H_14 at hP_11 hS_10 ⊢
        refine lv_aload_n hx hb dX9_ranks_62 rfl (lv_at hl 0 rfl) ?_
        refine lv_iload_n hx hb dX9_ranks_63 rfl (lv_at hl 1 rfl) ?_
        refine lv_aload_n hx hb dX9_ranks_64 rfl (lv_at hl 0 rfl) ?_
        refine gf (k := 24) hx hb hts inX9 hown hK hP_11 k_819 rfl (by decide) rfl 22 rfl (.ref (ad 14)) rfl dX9_ranks_65 ?_
        refine lv_iconst (v := 0) hx hb dX9_ranks_68 (by decide) ?_
        refine va_iald hx hb hK hP_11 14 0 rfl rfl (vin (by decide +kernel)) dX9_ranks_69 ?_
        refine lv_topi (fun z9 e_z9 => ?_)
        have k_z9 : z9.toInt = (ai8 14 0).toInt := by rw [e_z9]; rfl
        have g_z9 : 0 ≤ z9.toInt ∧ z9.toInt ≤ 2 := by rw [e_z9]; exact IAM_at14 hI_11 _
        refine lv_aload_n hx hb dX9_ranks_70 rfl (lv_at hl 0 rfl) ?_
        refine gf (k := 24) hx hb hts inX9 hown hK hP_11 k_819 rfl (by decide) rfl 22 rfl (.ref (ad 14)) rfl dX9_ranks_71 ?_
        refine lv_iconst (v := 1) hx hb dX9_ranks_74 (by decide) ?_
        refine va_iald hx hb hK hP_11 14 0 rfl rfl (vin (by decide +kernel)) dX9_ranks_75 ?_
        refine lv_topi (fun z10 e_z10 => ?_)
        have k_z10 : z10.toInt = (ai8 14 1).toInt := by rw [e_z10]; rfl
        have g_z10 : 0 ≤ z10.toInt ∧ z10.toInt ≤ 2 := by rw [e_z10]; exact IAM_at14 hI_11 _
        refine lv_aload_n hx hb dX9_ranks_76 rfl (lv_at hl 0 rfl) ?_
        refine gf (k := 24) hx hb hts inX9 hown hK hP_11 k_819 rfl (by decide) rfl 22 rfl (.ref (ad 14)) rfl dX9_ranks_77 ?_
        refine lv_iconst (v := 2) hx hb dX9_ranks_80 (by decide) ?_
        refine va_iald hx hb hK hP_11 14 0 rfl rfl (vin (by decide +kernel)) dX9_ranks_81 ?_
        refine lv_topi (fun z11 e_z11 => ?_)
        have k_z11 : z11.toInt = (ai8 14 2).toInt := by rw [e_z11]; rfl
        have g_z11 : 0 ≤ z11.toInt ∧ z11.toInt ≤ 2 := by rw [e_z11]; exact IAM_at14 hI_11 _
        refine lv_aload_n hx hb dX9_ranks_82 rfl (lv_at hl 0 rfl) ?_
        refine gf (k := 23) hx hb hts inX9 hown hK hP_11 k_818 rfl (by decide) rfl 22 rfl (.ref (ad 13)) rfl dX9_ranks_83 ?_
        refine lv_iconst (v := 0) hx hb dX9_ranks_86 (by decide) ?_
        refine va_iald hx hb hK hP_11 13 0 rfl rfl (vin (by decide +kernel)) dX9_ranks_87 ?_
        refine lv_topi (fun z12 e_z12 => ?_)
        have k_z12 : z12.toInt = (ai8 13 0).toInt := by rw [e_z12]; rfl
        have g_z12 : 0 ≤ z12.toInt ∧ z12.toInt ≤ 3 := by rw [e_z12]; exact IAM_at13 hI_11 _
        refine lv_aload_n hx hb dX9_ranks_88 rfl (lv_at hl 0 rfl) ?_
        refine gf (k := 23) hx hb hts inX9 hown hK hP_11 k_818 rfl (by decide) rfl 22 rfl (.ref (ad 13)) rfl dX9_ranks_89 ?_
        refine lv_iconst (v := 1) hx hb dX9_ranks_92 (by decide) ?_
        refine va_iald hx hb hK hP_11 13 0 rfl rfl (vin (by decide +kernel)) dX9_ranks_93 ?_
        refine lv_topi (fun z13 e_z13 => ?_)
        have k_z13 : z13.toInt = (ai8 13 1).toInt := by rw [e_z13]; rfl
        have g_z13 : 0 ≤ z13.toInt ∧ z13.toInt ≤ 3 := by rw [e_z13]; exact IAM_at13 hI_11 _
        refine lv_aload_n hx hb dX9_ranks_94 rfl (lv_at hl 0 rfl) ?_
        refine gf (k := 23) hx hb hts inX9 hown hK hP_11 k_818 rfl (by decide) rfl 22 rfl (.ref (ad 13)) rfl dX9_ranks_95 ?_
        refine lv_iconst (v := 2) hx hb dX9_ranks_98 (by decide) ?_
        refine va_iald hx hb hK hP_11 13 0 rfl rfl (vin (by decide +kernel)) dX9_ranks_99 ?_
        refine lv_topi (fun z14 e_z14 => ?_)
        have k_z14 : z14.toInt = (ai8 13 2).toInt := by rw [e_z14]; rfl
        have g_z14 : 0 ≤ z14.toInt ∧ z14.toInt ≤ 3 := by rw [e_z14]; exact IAM_at13 hI_11 _
        have hM := r003_X9_minor l dC dI cI cJ cII cJJ H_14.size 0 ad f9_size f9_equations f9_areSteps f9_foundMany f9_many f9_rank f9_freeMany f9_arePlans f9_planMany ai8 al x1 z9 z10 z11 z12 z13 z14 (by omega) (by omega) (by omega) (by omega) (by omega) (by omega) (by omega) (by omega) (by omega) (by omega) (by omega) (by omega) (by omega) (by omega) (by omega) (by omega) hI_11
        refine k2V_l (q0 := 22) ⟨hx, hb, hml, hown, hts⟩ hK hP_11 hD_13 hS_10 hA hX cv_RX9_135 hM ⟨by decide +kernel, by decide +kernel⟩ rfl rfl (Or.inl rfl) (rest := []) rfl rfl rfl hl.1 rfl (Nat.le_of_ble_eq_true rfl) dX9_ranks_100 ⟨Nat.le_of_ble_eq_true rfl, Nat.le_of_ble_eq_true rfl⟩ (fun r15 t H1 locs_15 ht hB hS_15 hFc => ?_)
        obtain ⟨gpr15_0, hP_16, -, hD_16⟩ := hB
        rw [ht] at hP_16
        have hD_17 := hD_16.weaken (B := A) (fun k q _ h9 => hFc q.1 h9)
        clear ht
        generalize H1 = H_18 at hP_16 hS_15 ⊢
        refine lv_lconst (v := 0) hx hb dX9_ranks_103 (by decide) ?_
        refine v_lcmp hx hb dX9_ranks_104 _ rfl ?_
        refine lv_topi (fun z16 e_z16 => ?_)
        have g_z16 := lc_cases (a := r15.toInt) (b := 0) e_z16 rfl (by decide +kernel)
        refine lv_if_ne (tgt := 111) hx hb dX9_ranks_105 (by decide) (fun c17 => ?_) (fun c17 => ?_)
        · have c17 := j_ne (a := z16.toInt) (b := 0) rfl (by decide +kernel) c17
          refine lv_aload_n hx hb dX9_ranks_111 rfl (lv_at hl 0 rfl) ?_
          refine lv_iconst (v := 0) hx hb dX9_ranks_112 (by decide) ?_
          refine pf (k := 28) hx hb hts inX9 tyX9_ok nmX9 hown hK hP_16 hD_17 hS_15 k_823 rfl (by decide) rfl rfl 22 rfl rfl rfl (Nat.le_of_ble_eq_true rfl) dX9_ranks_113 (W' := (WM cI cJ cII cJJ ad f9_size f9_equations f9_areSteps f9_foundMany f9_many f9_rank 0 f9_arePlans f9_planMany ai8 al)) rfl (fun H_19 locs_19 hP_19 hD_19 hS_19 => ?_)
          refine lv_iconst (v := 0) hx hb dX9_ranks_116 (by decide) ?_
          refine lv_istore (lv' := [(4, .int 0), (0, .ref (ad 22)), (1, .int x1), (2, .int L2), (3, .int L3)]) hx hb dX9_ranks_117 hl (by decide) rfl (fun ls_20 hl_20 => ?_)
          exact r006_X9_ranks_b119 C h_x1 n2 K2 n ih _ L2 L3 0 0 ai8 _ _ _ (by first | omega | decide | (have ka0 := (by decide +kernel : (0 : Int32).toInt = 0); omega)) (by first | omega | decide | (have ka0 := (by decide +kernel : (0 : Int32).toInt = 0); omega)) (by first | omega | decide | (have ka0 := (by decide +kernel : (0 : Int32).toInt = 0); omega)) (by first | omega | decide | (have ka0 := (by decide +kernel : (0 : Int32).toInt = 0); omega)) (by first | omega | decide | (have ka0 := (by decide +kernel : (0 : Int32).toInt = 0); omega)) (by first | omega | decide | (have ka0 := (by decide +kernel : (0 : Int32).toInt = 0); omega)) (by first | omega | decide | (have ka0 := (by decide +kernel : (0 : Int32).toInt = 0); omega)) (by first | omega | decide | (have ka0 := (by decide +kernel : (0 : Int32).toInt = 0); omega)) (by first | omega | decide | (have ka0 := (by decide +kernel : (0 : Int32).toInt = 0); omega)) (by first | omega | decide | (have ka0 := (by decide +kernel : (0 : Int32).toInt = 0); omega)) (by first | omega | decide | (have ka0 := (by decide +kernel : (0 : Int32).toInt = 0); omega)) (by first | omega | decide | (have ka0 := (by decide +kernel : (0 : Int32).toInt = 0); omega)) gpr7_0 (mn_nz (y := r15) (by rw [gpr15_0, e_z9, e_z10, e_z11, e_z12, e_z13, e_z14]; rfl) (by omega)) (by have q3 := gpr3_0; omega) (by omega) (nz_0 _) (fun j hj => (zlt hj).elim) (by have q3 := (by decide : (0 : Int32).toInt = 0); omega) (by first | omega | decide | (have ka0 := (by decide +kernel : (0 : Int32).toInt = 0); omega)) (by first | omega | decide | (have ka0 := (by decide +kernel : (0 : Int32).toInt = 0); omega)) (by first | omega | decide | (have ka0 := (by decide +kernel : (0 : Int32).toInt = 0); omega)) (by first | omega | decide | (have ka0 := (by decide +kernel : (0 : Int32).toInt = 0); omega)) (j_fuel _) (by omega) hI_11 hF_12 hP_19 hD_19 hS_19 (lv_sub hl_20 [1, 2, 3, 4, 0] rfl)
        · have c17 := j_eq (a := z16.toInt) (b := 0) rfl (by decide +kernel) c17
          refine lv_goto (tgt := 170) hx hb dX9_ranks_108 (by decide) ?_
          exact r006_X9_ranks_b170 C h_x1 n2 K2 n ih L2 L3 f9_freeMany ai8 _ _ _ (by omega) (by omega) (by omega) (by omega) (by omega) (by omega) (by omega) (by omega) (by omega) (by omega) (by omega) (by have q2 := mn_z gpr15_0; omega) (by omega) (by omega) (by omega) (by omega) hI_11 hF_12 hP_16 hD_17 hS_15 (lv_sub hl [0, 1, 2, 3] rfl)
      · have c4 := j_ne (a := r3.toInt) (b := x1.toInt) rfl rfl c4
        refine lv_goto (tgt := 170) hx hb dX9_ranks_43 (by decide) ?_
        exact r006_X9_ranks_b170 C h_x1 n2 K2 n ih L2 L3 f9_freeMany ai _ _ _ (by omega) (by omega) (by omega) (by omega) (by omega) (by omega) (by omega) (by omega) (by omega) (by omega) (by omega) (by have q2 := @bc_z L3; have q3 := gpr3_0; omega) (by omega) (by omega) (by omega) (by omega) hI hF hP_2 hD_3 hS_1 (lv_sub hl [0, 1, 2, 3] rfl)
set_option maxRecDepth 100000 in
set_option maxHeartbeats 4000000 in
theorem r006_X9_ranks_b2 {p : Program} {l : Launch} {e : Env} {s : State} {m : MethodId} {args : Array Value} {below : List Frame} {meth : Method} {c : Code} {A : Nat → Prop} {dC : Nat → ClassId} {dI : Nat → Nat → Nat} {cI cJ cII cJJ : ClassId} {ad : Nat → Nat} {g : Nat} {f9_size f9_equations f9_areSteps f9_foundMany f9_many f9_rank f9_arePlans f9_planMany : Int32} {ai0 : Nat → Nat → Int32} {al : Nat → Nat → Int64} {x1 : Int32} (C : Cx p c s m meth args A dC dI (TY cI cJ cII cJJ) cX9_ranks (some .boolean) 5 RX9 0 g) (h_x1 : (0 ≤ x1.toInt ∧ x1.toInt ≤ 3)) : ∀ (n : Nat), ∀ (L2 f9_freeMany : Int32) (ai : Nat → Nat → Int32) (H : Heap) (locs : List Loc) (ls : Array Slot), (0 ≤ L2.toInt ∧ L2.toInt ≤ 8) → (1 ≤ f9_size.toInt ∧ f9_size.toInt ≤ 4) → (0 ≤ f9_equations.toInt ∧ f9_equations.toInt ≤ 3) → (0 ≤ f9_areSteps.toInt ∧ f9_areSteps.toInt ≤ 1) → (0 ≤ f9_foundMany.toInt ∧ f9_foundMany.toInt ≤ 99999) → (0 ≤ f9_many.toInt ∧ f9_many.toInt ≤ 6000) → (0 ≤ f9_rank.toInt ∧ f9_rank.toInt ≤ 3) → (0 ≤ f9_freeMany.toInt ∧ f9_freeMany.toInt ≤ 4) → (0 ≤ f9_arePlans.toInt ∧ f9_arePlans.toInt ≤ 1) → (0 ≤ f9_planMany.toInt ∧ f9_planMany.toInt ≤ 194481) → (x1.toInt ≠ 0 ∨ L2.toInt = 0) → 8 - L2.toInt < (n : Int) → (0 : Int) < (n : Int) → IAM ai → FR [13, 14, 15] ai0 ai → va_P (dC, dI) vwCl (WM cI cJ cII cJJ ad f9_size f9_equations f9_areSteps f9_foundMany f9_many f9_rank f9_freeMany f9_arePlans f9_planMany ai al) H → va_D A (WM cI cJ cII cJJ ad f9_size f9_equations f9_areSteps f9_foundMany f9_many f9_rank f9_freeMany f9_arePlans f9_planMany ai al) → va_S A s.heap H locs → lv_has ls 5 [(0, .ref (ad 22)), (1, .int x1), (2, .int L2)] → W p l e ({ frames := 4, cells := 0, slots := 0, locals := 200 } : Room) s m args below meth c H locs 0 0 (MQ below (Q_r006_X9_ranks dC dI cI cJ cII cJJ ad f9_size f9_equations f9_areSteps f9_foundMany f9_many f9_rank f9_arePlans f9_planMany ai0 al x1 A) args s 0 0 A) (F0 m 2 ls []) := by
  obtain ⟨hx, hb, hr, hml, hown, hts, hk, hA, hK, hX⟩ := id C
  intro n
  induction n with
  | zero =>
    intro L2 f9_freeMany ai H locs ls h0 h1 h2 h3 h4 h5 h6 h7 h8 h9 h10 h11 h12 hI hF hP hD hS hl
    exact absurd h12 (by omega)
  | succ n ih =>
    intro L2 f9_freeMany ai H locs ls h0 h1 h2 h3 h4 h5 h6 h7 h8 h9 h10 h11 h12 hI hF hP hD hS hl
    refine lv_iload_n hx hb dX9_ranks_2 rfl (lv_at hl 2 rfl) ?_
    refine lv_iconst (v := 1) hx hb dX9_ranks_3 (by decide) ?_
    refine lv_aload_n hx hb dX9_ranks_4 rfl (lv_at hl 0 rfl) ?_
    refine gf (k := 13) hx hb hts inX9 hown hK hP k_808 rfl (by decide) rfl 22 rfl (.int f9_equations) rfl dX9_ranks_5 ?_
    refine v_ishl hx hb dX9_ranks_8 _ rfl ?_
    refine lv_topi (fun z1 e_z1 => ?_)
    have g_z1 : z1.toInt = pw2 f9_equations.toInt.toNat ∧ 1 ≤ z1.toInt ∧ z1.toInt ≤ 8 := by rw [e_z1]; have q9 := shl_ok (x := f9_equations) (by omega) (by omega); omega
    refine lv_icmp_ge (tgt := 182) hx hb dX9_ranks_9 (by decide) (fun c2 => ?_) (fun c2 => ?_)
    · have c2 := j_le (a := z1.toInt) (b := L2.toInt) rfl rfl c2
      refine lv_iconst (v := 0) hx hb dX9_ranks_182 (by decide) ?_
      exact r2_z hx hb hr hk hS dX9_ranks_183 rfl (fun t ht hW => ⟨f9_freeMany, ai, ⟨(by first | omega | decide | exact Or.inl (by decide) | exact Or.inr (by decide) | exact Or.inr (by omega)), (by first | omega | decide | exact Or.inl (by decide) | exact Or.inr (by decide) | exact Or.inr (by omega)), (by have kr0 : (0 : Int32).toInt = 0 := (by decide); first | omega | decide | exact Or.inl (by decide) | exact Or.inr (by decide) | exact Or.inr (by omega)), (by have kr0 : (0 : Int32).toInt = 0 := (by decide); first | omega | decide | exact Or.inl (by decide) | exact Or.inr (by decide) | exact Or.inr (by omega)), hI, hF⟩, by rw [ht]; exact hP, va_K.moved hW.alike hK, hD⟩)
    · have c2 := j_nle (a := z1.toInt) (b := L2.toInt) rfl rfl c2
      refine lv_iload_n hx hb dX9_ranks_12 rfl (lv_at hl 2 rfl) ?_
      have hM := r001_X9_bits l dC dI cI cJ cII cJJ H.size 0 ad f9_size f9_equations f9_areSteps f9_foundMany f9_many f9_rank f9_freeMany f9_arePlans f9_planMany ai al L2 (by omega) (by omega) (by omega) (by omega) (by omega) (by omega) (by omega) (by omega) (by omega) (by omega) hI
      refine k2S_i ⟨hx, hb, hml, hown, hts⟩ hK hP hD hS hA hX cs_RX9_128 hM ⟨by decide +kernel, by decide +kernel⟩ rfl rfl (Or.inl rfl) (rest := []) rfl hl.1 rfl (Nat.le_of_ble_eq_true rfl) dX9_ranks_13 ⟨Nat.le_of_ble_eq_true rfl, Nat.le_of_ble_eq_true rfl⟩ (fun r3 t H1 locs_1 ht hB hS_1 hFc => ?_)
      obtain ⟨gpr3_0, hP_2, -, hD_2⟩ := hB
      rw [ht] at hP_2
      have hD_3 := hD_2.weaken (B := A) (fun k q _ h9 => hFc q.1 h9)
      clear ht
      generalize H1 = H_4 at hP_2 hS_1 ⊢
      refine lv_iload_n hx hb dX9_ranks_16 rfl (lv_at hl 1 rfl) ?_
      refine lv_icmp_eq (tgt := 23) hx hb dX9_ranks_17 (by decide) (fun c4 => ?_) (fun c4 => ?_)
      · have c4 := j_eq (a := r3.toInt) (b := x1.toInt) rfl rfl c4
        refine lv_iconst (v := 0) hx hb dX9_ranks_23 (by decide) ?_
        refine lv_istore_n (lv' := [(3, .int 0), (0, .ref (ad 22)), (1, .int x1), (2, .int L2)]) hx hb dX9_ranks_24 rfl hl (by decide) rfl (fun ls_5 hl_5 => ?_)
        exact r006_X9_ranks_b25 C h_x1 n ih _ L2 0 f9_freeMany ai _ _ _ (by first | omega | decide | (have ka0 := (by decide +kernel : (0 : Int32).toInt = 0); omega)) (by first | omega | decide | (have ka0 := (by decide +kernel : (0 : Int32).toInt = 0); omega)) (by first | omega | decide | (have ka0 := (by decide +kernel : (0 : Int32).toInt = 0); omega)) (by first | omega | decide | (have ka0 := (by decide +kernel : (0 : Int32).toInt = 0); omega)) (by first | omega | decide | (have ka0 := (by decide +kernel : (0 : Int32).toInt = 0); omega)) (by first | omega | decide | (have ka0 := (by decide +kernel : (0 : Int32).toInt = 0); omega)) (by first | omega | decide | (have ka0 := (by decide +kernel : (0 : Int32).toInt = 0); omega)) (by first | omega | decide | (have ka0 := (by decide +kernel : (0 : Int32).toInt = 0); omega)) (by first | omega | decide | (have ka0 := (by decide +kernel : (0 : Int32).toInt = 0); omega)) (by first | omega | decide | (have ka0 := (by decide +kernel : (0 : Int32).toInt = 0); omega)) (by first | omega | decide | (have ka0 := (by decide +kernel : (0 : Int32).toInt = 0); omega)) (by first | omega | decide | (have ka0 := (by decide +kernel : (0 : Int32).toInt = 0); omega)) (by first | omega | decide | (have ka0 := (by decide +kernel : (0 : Int32).toInt = 0); omega)) (by first | omega | decide | (have ka0 := (by decide +kernel : (0 : Int32).toInt = 0); omega)) (j_fuel _) (by omega) hI hF hP_2 hD_3 hS_1 (lv_sub hl_5 [1, 2, 3, 0] rfl)
      · have c4 := j_ne (a := r3.toInt) (b := x1.toInt) rfl rfl c4
        refine lv_goto (tgt := 176) hx hb dX9_ranks_20 (by decide) ?_
        exact r006_X9_ranks_b176 C h_x1 n ih L2 f9_freeMany ai _ _ _ (by omega) (by omega) (by omega) (by omega) (by omega) (by omega) (by omega) (by omega) (by omega) (by omega) (by have q2 := @bc_z L2; have q3 := gpr3_0; omega) (by omega) (by omega) hI hF hP_2 hD_3 hS_1 (lv_sub hl [0, 1, 2] rfl)
set_option maxRecDepth 100000 in
set_option maxHeartbeats 4000000 in
theorem r006_X9_ranks (l : Launch) (dC : Nat → ClassId) (dI : Nat → Nat → Nat) (cI cJ cII cJJ : ClassId) (sz g : Nat) (ad : Nat → Nat) (f9_size f9_equations f9_areSteps f9_foundMany f9_many f9_rank f9_freeMany f9_arePlans f9_planMany : Int32) (ai : Nat → Nat → Int32) (al : Nat → Nat → Int64) (x1 : Int32) (h_x1 : (0 ≤ x1.toInt ∧ x1.toInt ≤ 3)) (h_f9_size : (1 ≤ f9_size.toInt ∧ f9_size.toInt ≤ 4)) (h_f9_equations : (0 ≤ f9_equations.toInt ∧ f9_equations.toInt ≤ 3)) (h_f9_areSteps : (0 ≤ f9_areSteps.toInt ∧ f9_areSteps.toInt ≤ 1)) (h_f9_foundMany : (0 ≤ f9_foundMany.toInt ∧ f9_foundMany.toInt ≤ 99999)) (h_f9_many : (0 ≤ f9_many.toInt ∧ f9_many.toInt ≤ 6000)) (h_f9_rank : (0 ≤ f9_rank.toInt ∧ f9_rank.toInt ≤ 3)) (h_f9_freeMany : (0 ≤ f9_freeMany.toInt ∧ f9_freeMany.toInt ≤ 4)) (h_f9_arePlans : (0 ≤ f9_arePlans.toInt ∧ f9_arePlans.toInt ≤ 1)) (h_f9_planMany : (0 ≤ f9_planMany.toInt ∧ f9_planMany.toInt ≤ 194481)) (hI : IAM ai) : Met l yX9_ranks (.code yX9_ranks cX9_ranks 5 (some .boolean) :: TT) ({ frames := 4, cells := 0, slots := 0, locals := 200 } : Room) (PcS dC dI (TY cI cJ cII cJJ) [.ref (ad 22), .int x1] (WM cI cJ cII cJJ ad f9_size f9_equations f9_areSteps f9_foundMany f9_many f9_rank f9_freeMany f9_arePlans f9_planMany ai al) sz 0 g) (Q_r006_X9_ranks dC dI cI cJ cII cJJ ad f9_size f9_equations f9_areSteps f9_foundMany f9_many f9_rank f9_arePlans f9_planMany ai al x1 (va_A (WM cI cJ cII cJJ ad f9_size f9_equations f9_areSteps f9_foundMany f9_many f9_rank f9_freeMany f9_arePlans f9_planMany ai al) sz)) 0 0 (va_A (WM cI cJ cII cJJ ad f9_size f9_equations f9_areSteps f9_foundMany f9_many f9_rank f9_freeMany f9_arePlans f9_planMany ai al) sz) := by
  refine SM.of (y := yX9_ranks) (maxL := 5) (av := [.ref (ad 22), .int x1]) (Q_r006_X9_ranks dC dI cI cJ cII cJJ ad f9_size f9_equations f9_areSteps f9_foundMany f9_many f9_rank f9_arePlans f9_planMany ai al x1) (by decide +kernel) (Nat.le_of_ble_eq_true rfl) (fun p e s m below meth c A ls hx hb hr hml hown hts hk hnm hA hK hP hD hS hX hl => ?_)
  have C : Cx p c s m meth (([.ref (ad 22), .int x1] : List Value).toArray) A dC dI (TY cI cJ cII cJJ) cX9_ranks (some .boolean) 5 RX9 0 g := ⟨hx, hb, hr, hml, hown, hts, hk, hA, hK, hX⟩
  have hown : s.vm.findClass RX9 = some m.cls := hown
  have hl : lv_has ls 5 [(0, .ref (ad 22)), (1, .int x1)] := hl
  obtain ⟨H, hH⟩ : ∃ q, q = s.heap := ⟨_, rfl⟩
  rw [← hH] at hP
  have hS : va_S A s.heap H [] := by rw [hH]; exact hS
  rw [← hH]
  have hF := FR_refl [13, 14, 15] ai
  refine lv_iconst (v := 0) hx hb dX9_ranks_0 (by decide) ?_
  refine lv_istore_n (lv' := [(2, .int 0), (0, .ref (ad 22)), (1, .int x1)]) hx hb dX9_ranks_1 rfl hl (by decide) rfl (fun ls_1 hl_1 => ?_)
  exact r006_X9_ranks_b2 C h_x1  _ 0 f9_freeMany ai _ _ _ (by first | omega | decide | (have ka0 := (by decide +kernel : (0 : Int32).toInt = 0); omega)) (by first | omega | decide | (have ka0 := (by decide +kernel : (0 : Int32).toInt = 0); omega)) (by first | omega | decide | (have ka0 := (by decide +kernel : (0 : Int32).toInt = 0); omega)) (by first | omega | decide | (have ka0 := (by decide +kernel : (0 : Int32).toInt = 0); omega)) (by first | omega | decide | (have ka0 := (by decide +kernel : (0 : Int32).toInt = 0); omega)) (by first | omega | decide | (have ka0 := (by decide +kernel : (0 : Int32).toInt = 0); omega)) (by first | omega | decide | (have ka0 := (by decide +kernel : (0 : Int32).toInt = 0); omega)) (by first | omega | decide | (have ka0 := (by decide +kernel : (0 : Int32).toInt = 0); omega)) (by first | omega | decide | (have ka0 := (by decide +kernel : (0 : Int32).toInt = 0); omega)) (by first | omega | decide | (have ka0 := (by decide +kernel : (0 : Int32).toInt = 0); omega)) (by first | omega | decide | (have ka0 := (by decide +kernel : (0 : Int32).toInt = 0); omega)) (j_fuel _) (by omega) hI hF hP hD hS (lv_sub hl_1 [1, 2, 0] rfl)
