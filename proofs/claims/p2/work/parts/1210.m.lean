def Q_r001_X9_isIn (dC : Nat → ClassId) (dI : Nat → Nat → Nat) (cI cJ cII cJJ : ClassId) (ad : Nat → Nat) (f9_size f9_equations f9_areSteps f9_foundMany f9_many f9_rank f9_freeMany f9_arePlans f9_planMany : Int32) (ai : Nat → Nat → Int32) (al : Nat → Nat → Int64) (x0 : Int32) (x1 : Int32) : (Nat → Prop) → Array Value → State → Outcome → State → Prop := fun A => QI (fun r t => ((0 ≤ r.toInt ∧ r.toInt ≤ 1) ∧ (r.toInt = 0 ∨ (0 ≤ x0.toInt ∧ x0.toInt < x1.toInt))) ∧ WO dC dI (TY cI cJ cII cJJ) (WM cI cJ cII cJJ ad f9_size f9_equations f9_areSteps f9_foundMany f9_many f9_rank f9_freeMany f9_arePlans f9_planMany ai al) A t) A
set_option maxRecDepth 100000 in
set_option maxHeartbeats 4000000 in
theorem r001_X9_isIn_b13 {p : Program} {l : Launch} {e : Env} {s : State} {m : MethodId} {args : Array Value} {below : List Frame} {meth : Method} {c : Code} {A : Nat → Prop} {dC : Nat → ClassId} {dI : Nat → Nat → Nat} {cI cJ cII cJJ : ClassId} {ad : Nat → Nat} {g : Nat} {f9_size f9_equations f9_areSteps f9_foundMany f9_many f9_rank f9_freeMany f9_arePlans f9_planMany : Int32} {ai : Nat → Nat → Int32} {al : Nat → Nat → Int64} {x0 : Int32} {x1 : Int32} (C : Cx p c s m meth args A dC dI (TY cI cJ cII cJJ) cX9_isIn (some .boolean) 2 RX9 0 g) : ∀ (L0 L1 : Int32) (H : Heap) (locs : List Loc) (ls : Array Slot), (1 ≤ f9_size.toInt ∧ f9_size.toInt ≤ 4) → (0 ≤ f9_equations.toInt ∧ f9_equations.toInt ≤ 3) → (0 ≤ f9_areSteps.toInt ∧ f9_areSteps.toInt ≤ 1) → (0 ≤ f9_foundMany.toInt ∧ f9_foundMany.toInt ≤ 99999) → (0 ≤ f9_many.toInt ∧ f9_many.toInt ≤ 6000) → (0 ≤ f9_rank.toInt ∧ f9_rank.toInt ≤ 3) → (0 ≤ f9_freeMany.toInt ∧ f9_freeMany.toInt ≤ 4) → (0 ≤ f9_arePlans.toInt ∧ f9_arePlans.toInt ≤ 1) → (0 ≤ f9_planMany.toInt ∧ f9_planMany.toInt ≤ 194481) → IAM ai → va_P (dC, dI) vwCl (WM cI cJ cII cJJ ad f9_size f9_equations f9_areSteps f9_foundMany f9_many f9_rank f9_freeMany f9_arePlans f9_planMany ai al) H → va_D A (WM cI cJ cII cJJ ad f9_size f9_equations f9_areSteps f9_foundMany f9_many f9_rank f9_freeMany f9_arePlans f9_planMany ai al) → va_S A s.heap H locs → lv_has ls 2 [(0, .int L0), (1, .int L1)] → W p l e ({ frames := 2, cells := 0, slots := 0, locals := 80 } : Room) s m args below meth c H locs 0 0 (MQ below (Q_r001_X9_isIn dC dI cI cJ cII cJJ ad f9_size f9_equations f9_areSteps f9_foundMany f9_many f9_rank f9_freeMany f9_arePlans f9_planMany ai al x0 x1 A) args s 0 0 A) (F0 m 13 ls []) := by
  obtain ⟨hx, hb, hr, hml, hown, hts, hk, hA, hK, hX⟩ := id C
  intro L0 L1 H locs ls h0 h1 h2 h3 h4 h5 h6 h7 h8 hI hP hD hS hl
  have ra_L0 := s_any L0
  have ra_L1 := s_any L1
  refine lv_iconst (v := 0) hx hb dX9_isIn_13 (by decide) ?_
  exact r2_z hx hb hr hk hS dX9_isIn_14 rfl (fun t ht hW => ⟨⟨(by first | omega | decide | exact Or.inl (by decide) | exact Or.inr (by omega)), (by first | omega | decide | exact Or.inl (by decide) | exact Or.inr (by omega))⟩, by rw [ht]; exact hP, va_K.moved hW.alike hK, hD⟩)
set_option maxRecDepth 100000 in
set_option maxHeartbeats 4000000 in
theorem r001_X9_isIn (l : Launch) (dC : Nat → ClassId) (dI : Nat → Nat → Nat) (cI cJ cII cJJ : ClassId) (sz g : Nat) (ad : Nat → Nat) (f9_size f9_equations f9_areSteps f9_foundMany f9_many f9_rank f9_freeMany f9_arePlans f9_planMany : Int32) (ai : Nat → Nat → Int32) (al : Nat → Nat → Int64) (x0 : Int32) (x1 : Int32) (h_f9_size : (1 ≤ f9_size.toInt ∧ f9_size.toInt ≤ 4)) (h_f9_equations : (0 ≤ f9_equations.toInt ∧ f9_equations.toInt ≤ 3)) (h_f9_areSteps : (0 ≤ f9_areSteps.toInt ∧ f9_areSteps.toInt ≤ 1)) (h_f9_foundMany : (0 ≤ f9_foundMany.toInt ∧ f9_foundMany.toInt ≤ 99999)) (h_f9_many : (0 ≤ f9_many.toInt ∧ f9_many.toInt ≤ 6000)) (h_f9_rank : (0 ≤ f9_rank.toInt ∧ f9_rank.toInt ≤ 3)) (h_f9_freeMany : (0 ≤ f9_freeMany.toInt ∧ f9_freeMany.toInt ≤ 4)) (h_f9_arePlans : (0 ≤ f9_arePlans.toInt ∧ f9_arePlans.toInt ≤ 1)) (h_f9_planMany : (0 ≤ f9_planMany.toInt ∧ f9_planMany.toInt ≤ 194481)) (hI : IAM ai) : Met l yX9_isIn (.code yX9_isIn cX9_isIn 2 (some .boolean) :: TT) ({ frames := 2, cells := 0, slots := 0, locals := 80 } : Room) (PcS dC dI (TY cI cJ cII cJJ) [.int x0, .int x1] (WM cI cJ cII cJJ ad f9_size f9_equations f9_areSteps f9_foundMany f9_many f9_rank f9_freeMany f9_arePlans f9_planMany ai al) sz 0 g) (Q_r001_X9_isIn dC dI cI cJ cII cJJ ad f9_size f9_equations f9_areSteps f9_foundMany f9_many f9_rank f9_freeMany f9_arePlans f9_planMany ai al x0 x1 (va_A (WM cI cJ cII cJJ ad f9_size f9_equations f9_areSteps f9_foundMany f9_many f9_rank f9_freeMany f9_arePlans f9_planMany ai al) sz)) 0 0 (va_A (WM cI cJ cII cJJ ad f9_size f9_equations f9_areSteps f9_foundMany f9_many f9_rank f9_freeMany f9_arePlans f9_planMany ai al) sz) := by
  refine SM.of (y := yX9_isIn) (maxL := 2) (av := [.int x0, .int x1]) (Q_r001_X9_isIn dC dI cI cJ cII cJJ ad f9_size f9_equations f9_areSteps f9_foundMany f9_many f9_rank f9_freeMany f9_arePlans f9_planMany ai al x0 x1) (by decide +kernel) (Nat.le_of_ble_eq_true rfl) (fun p e s m below meth c A ls hx hb hr hml hown hts hk hnm hA hK hP hD hS hX hl => ?_)
  have C : Cx p c s m meth (([.int x0, .int x1] : List Value).toArray) A dC dI (TY cI cJ cII cJJ) cX9_isIn (some .boolean) 2 RX9 0 g := ⟨hx, hb, hr, hml, hown, hts, hk, hA, hK, hX⟩
  have hown : s.vm.findClass RX9 = some m.cls := hown
  have hl : lv_has ls 2 [(0, .int x0), (1, .int x1)] := hl
  obtain ⟨H, hH⟩ : ∃ q, q = s.heap := ⟨_, rfl⟩
  rw [← hH] at hP
  have hS : va_S A s.heap H [] := by rw [hH]; exact hS
  rw [← hH]
  have ra_x0 := s_any x0
  have ra_x1 := s_any x1
  refine lv_iload_n hx hb dX9_isIn_0 rfl (lv_at hl 0 rfl) ?_
  refine lv_if_lt (tgt := 13) hx hb dX9_isIn_1 (by decide) (fun c1 => ?_) (fun c1 => ?_)
  · have c1 := j_lt (a := x0.toInt) (b := 0) rfl (by decide +kernel) c1
    exact r001_X9_isIn_b13 C  x0 x1 _ _ _ (by omega) (by omega) (by omega) (by omega) (by omega) (by omega) (by omega) (by omega) (by omega) hI hP hD hS (lv_sub hl [0, 1] rfl)
  · have c1 := j_nlt (a := x0.toInt) (b := 0) rfl (by decide +kernel) c1
    refine lv_iload_n hx hb dX9_isIn_4 rfl (lv_at hl 0 rfl) ?_
    refine lv_iload_n hx hb dX9_isIn_5 rfl (lv_at hl 1 rfl) ?_
    refine lv_icmp_ge (tgt := 13) hx hb dX9_isIn_6 (by decide) (fun c2 => ?_) (fun c2 => ?_)
    · have c2 := j_le (a := x1.toInt) (b := x0.toInt) rfl rfl c2
      exact r001_X9_isIn_b13 C  x0 x1 _ _ _ (by omega) (by omega) (by omega) (by omega) (by omega) (by omega) (by omega) (by omega) (by omega) hI hP hD hS (lv_sub hl [0, 1] rfl)
    · have c2 := j_nle (a := x1.toInt) (b := x0.toInt) rfl rfl c2
      refine lv_iconst (v := 1) hx hb dX9_isIn_9 (by decide) ?_
      refine lv_goto (tgt := 14) hx hb dX9_isIn_10 (by decide) ?_
      exact r2_z hx hb hr hk hS dX9_isIn_14 rfl (fun t ht hW => ⟨⟨(by first | omega | decide | exact Or.inl (by decide) | exact Or.inr (by omega)), (by first | omega | decide | exact Or.inl (by decide) | exact Or.inr (by omega))⟩, by rw [ht]; exact hP, va_K.moved hW.alike hK, hD⟩)
def Q_r002_X9_refuse (dC : Nat → ClassId) (dI : Nat → Nat → Nat) (cI cJ cII cJJ : ClassId) (ad : Nat → Nat) (f9_size f9_equations f9_areSteps f9_foundMany f9_many f9_rank f9_freeMany f9_arePlans f9_planMany : Int32) (al : Nat → Nat → Int64) : (Nat → Prop) → Array Value → State → Outcome → State → Prop := fun A => QI (fun r t => ∃ (n_ai : Nat → Nat → Int32), ((-7 ≤ r.toInt ∧ r.toInt ≤ -1) ∧ IAM n_ai) ∧ WO dC dI (TY cI cJ cII cJJ) (WM cI cJ cII cJJ ad f9_size f9_equations f9_areSteps f9_foundMany f9_many f9_rank f9_freeMany f9_arePlans f9_planMany n_ai al) A t) A
set_option maxRecDepth 100000 in
set_option maxHeartbeats 4000000 in
theorem r002_X9_refuse (l : Launch) (dC : Nat → ClassId) (dI : Nat → Nat → Nat) (cI cJ cII cJJ : ClassId) (sz g : Nat) (ad : Nat → Nat) (f9_size f9_equations f9_areSteps f9_foundMany f9_many f9_rank f9_freeMany f9_arePlans f9_planMany : Int32) (ai : Nat → Nat → Int32) (al : Nat → Nat → Int64) (x1 : Int32) (h_x1 : (-7 ≤ x1.toInt ∧ x1.toInt ≤ -1)) (h_f9_size : (1 ≤ f9_size.toInt ∧ f9_size.toInt ≤ 4)) (h_f9_equations : (0 ≤ f9_equations.toInt ∧ f9_equations.toInt ≤ 3)) (h_f9_areSteps : (0 ≤ f9_areSteps.toInt ∧ f9_areSteps.toInt ≤ 1)) (h_f9_foundMany : (0 ≤ f9_foundMany.toInt ∧ f9_foundMany.toInt ≤ 99999)) (h_f9_many : (0 ≤ f9_many.toInt ∧ f9_many.toInt ≤ 6000)) (h_f9_rank : (0 ≤ f9_rank.toInt ∧ f9_rank.toInt ≤ 3)) (h_f9_freeMany : (0 ≤ f9_freeMany.toInt ∧ f9_freeMany.toInt ≤ 4)) (h_f9_arePlans : (0 ≤ f9_arePlans.toInt ∧ f9_arePlans.toInt ≤ 1)) (h_f9_planMany : (0 ≤ f9_planMany.toInt ∧ f9_planMany.toInt ≤ 194481)) (hI : IAM ai) : Met l yX9_refuse (.code yX9_refuse cX9_refuse 2 (some .int) :: TT) ({ frames := 2, cells := 0, slots := 0, locals := 80 } : Room) (PcS dC dI (TY cI cJ cII cJJ) [.ref (ad 22), .int x1] (WM cI cJ cII cJJ ad f9_size f9_equations f9_areSteps f9_foundMany f9_many f9_rank f9_freeMany f9_arePlans f9_planMany ai al) sz 0 g) (Q_r002_X9_refuse dC dI cI cJ cII cJJ ad f9_size f9_equations f9_areSteps f9_foundMany f9_many f9_rank f9_freeMany f9_arePlans f9_planMany al (va_A (WM cI cJ cII cJJ ad f9_size f9_equations f9_areSteps f9_foundMany f9_many f9_rank f9_freeMany f9_arePlans f9_planMany ai al) sz)) 0 0 (va_A (WM cI cJ cII cJJ ad f9_size f9_equations f9_areSteps f9_foundMany f9_many f9_rank f9_freeMany f9_arePlans f9_planMany ai al) sz) := by
  refine SM.of (y := yX9_refuse) (maxL := 2) (av := [.ref (ad 22), .int x1]) (Q_r002_X9_refuse dC dI cI cJ cII cJJ ad f9_size f9_equations f9_areSteps f9_foundMany f9_many f9_rank f9_freeMany f9_arePlans f9_planMany al) (by decide +kernel) (Nat.le_of_ble_eq_true rfl) (fun p e s m below meth c A ls hx hb hr hml hown hts hk hnm hA hK hP hD hS hX hl => ?_)
  have C : Cx p c s m meth (([.ref (ad 22), .int x1] : List Value).toArray) A dC dI (TY cI cJ cII cJJ) cX9_refuse (some .int) 2 RX9 0 g := ⟨hx, hb, hr, hml, hown, hts, hk, hA, hK, hX⟩
  have hown : s.vm.findClass RX9 = some m.cls := hown
  have hl : lv_has ls 2 [(0, .ref (ad 22)), (1, .int x1)] := hl
  obtain ⟨H, hH⟩ : ∃ q, q = s.heap := ⟨_, rfl⟩
  rw [← hH] at hP
  have hS : va_S A s.heap H [] := by rw [hH]; exact hS
  rw [← hH]
  refine lv_aload_n hx hb dX9_refuse_0 rfl (lv_at hl 0 rfl) ?_
  refine gf (k := 7) hx hb hts inX9 hown hK hP k_802 rfl (by decide) rfl 22 rfl (.ref (ad 2)) rfl dX9_refuse_1 ?_
  refine lv_iload_n hx hb dX9_refuse_4 rfl (lv_at hl 1 rfl) ?_
  refine v_ineg hx hb dX9_refuse_5 _ rfl ?_
  refine lv_topi (fun z1 e_z1 => ?_)
  have g_z1 : z1.toInt = -x1.toInt := by rw [e_z1]; exact n_neg (a := x1.toInt) rfl (by omega)
  refine lv_dup2_11 hx hb dX9_refuse_6 rfl rfl ?_
  refine va_iald hx hb hK hP 2 0 rfl rfl (j_in (a := z1.toInt) rfl (by omega) (by omega)) dX9_refuse_7 ?_
  refine lv_topi (fun z2 e_z2 => ?_)
  refine lv_iconst (v := 1) hx hb dX9_refuse_8 (by decide) ?_
  refine v_iadd hx hb dX9_refuse_9 _ rfl ?_
  refine lv_topi (fun z3 e_z3 => ?_)
  refine va_iast hx hb hK hP hD hS 2 0 rfl rfl (j_in (a := z1.toInt) rfl (by omega) (by omega)) dX9_refuse_10 (fun H_1 locs_1 hP_1 hD_1 hS_1 => ?_)
  obtain ⟨ai4, e_ai4⟩ : ∃ q : Nat → Nat → Int32, q = va_up ai 2 (upd (ai 2) z1.toNatClampNeg z3) := ⟨_, rfl⟩
  have hI_2 : IAM ai4 := by rw [e_ai4]; exact hI
  have hP_3 : va_P (dC, dI) vwCl (WM cI cJ cII cJJ ad f9_size f9_equations f9_areSteps f9_foundMany f9_many f9_rank f9_freeMany f9_arePlans f9_planMany ai4 al) H_1 := by rw [e_ai4]; exact hP_1
  have hD_4 : va_D A (WM cI cJ cII cJJ ad f9_size f9_equations f9_areSteps f9_foundMany f9_many f9_rank f9_freeMany f9_arePlans f9_planMany ai4 al) := by rw [e_ai4]; exact hD_1
  refine lv_iload_n hx hb dX9_refuse_11 rfl (lv_at hl 1 rfl) ?_
  exact r2_i hx hb hr hk hS_1 dX9_refuse_12 (fun t ht hW => ⟨ai4, ⟨(by first | omega | decide | exact Or.inl (by decide) | exact Or.inr (by omega)), hI_2⟩, by rw [ht]; exact hP_3, va_K.moved hW.alike hK, hD_4⟩)
def Q_r003_X9_begins (dC : Nat → ClassId) (dI : Nat → Nat → Nat) (cI cJ cII cJJ : ClassId) (ad : Nat → Nat) (f9_size f9_foundMany f9_many f9_rank f9_freeMany f9_planMany : Int32) (al : Nat → Nat → Int64) : (Nat → Prop) → Array Value → State → Outcome → State → Prop := fun A => QV (fun t => ∃ (n_f9_equations n_f9_areSteps n_f9_arePlans : Int32), ∃ (n_ai : Nat → Nat → Int32), ((0 ≤ n_f9_equations.toInt ∧ n_f9_equations.toInt ≤ 0) ∧ (0 ≤ n_f9_areSteps.toInt ∧ n_f9_areSteps.toInt ≤ 0) ∧ (0 ≤ n_f9_arePlans.toInt ∧ n_f9_arePlans.toInt ≤ 0) ∧ IAM n_ai) ∧ WO dC dI (TY cI cJ cII cJJ) (WM cI cJ cII cJJ ad f9_size n_f9_equations n_f9_areSteps f9_foundMany f9_many f9_rank f9_freeMany n_f9_arePlans f9_planMany n_ai al) A t) A
set_option maxRecDepth 100000 in
set_option maxHeartbeats 4000000 in
theorem r003_X9_begins_b7 {p : Program} {l : Launch} {e : Env} {s : State} {m : MethodId} {args : Array Value} {below : List Frame} {meth : Method} {c : Code} {A : Nat → Prop} {dC : Nat → ClassId} {dI : Nat → Nat → Nat} {cI cJ cII cJJ : ClassId} {ad : Nat → Nat} {g : Nat} {f9_size f9_foundMany f9_many f9_rank f9_freeMany f9_planMany : Int32} {al : Nat → Nat → Int64} (C : Cx p c s m meth args A dC dI (TY cI cJ cII cJJ) cX9_begins none 2 RX9 0 g) : ∀ (n : Nat), ∀ (L1 f9_equations f9_areSteps f9_arePlans : Int32) (ai : Nat → Nat → Int32) (H : Heap) (locs : List Loc) (ls : Array Slot), (0 ≤ L1.toInt ∧ L1.toInt ≤ 4) → (1 ≤ f9_size.toInt ∧ f9_size.toInt ≤ 4) → (0 ≤ f9_equations.toInt ∧ f9_equations.toInt ≤ 0) → (0 ≤ f9_areSteps.toInt ∧ f9_areSteps.toInt ≤ 1) → (0 ≤ f9_foundMany.toInt ∧ f9_foundMany.toInt ≤ 99999) → (0 ≤ f9_many.toInt ∧ f9_many.toInt ≤ 6000) → (0 ≤ f9_rank.toInt ∧ f9_rank.toInt ≤ 3) → (0 ≤ f9_freeMany.toInt ∧ f9_freeMany.toInt ≤ 4) → (0 ≤ f9_arePlans.toInt ∧ f9_arePlans.toInt ≤ 1) → (0 ≤ f9_planMany.toInt ∧ f9_planMany.toInt ≤ 194481) → 4 - L1.toInt < (n : Int) → (0 : Int) < (n : Int) → IAM ai → va_P (dC, dI) vwCl (WM cI cJ cII cJJ ad f9_size f9_equations f9_areSteps f9_foundMany f9_many f9_rank f9_freeMany f9_arePlans f9_planMany ai al) H → va_D A (WM cI cJ cII cJJ ad f9_size f9_equations f9_areSteps f9_foundMany f9_many f9_rank f9_freeMany f9_arePlans f9_planMany ai al) → va_S A s.heap H locs → lv_has ls 2 [(0, .ref (ad 22)), (1, .int L1)] → W p l e ({ frames := 2, cells := 0, slots := 0, locals := 80 } : Room) s m args below meth c H locs 0 0 (MQ below (Q_r003_X9_begins dC dI cI cJ cII cJJ ad f9_size f9_foundMany f9_many f9_rank f9_freeMany f9_planMany al A) args s 0 0 A) (F0 m 7 ls []) := by
  obtain ⟨hx, hb, hr, hml, hown, hts, hk, hA, hK, hX⟩ := id C
  intro n
  induction n with
  | zero =>
    intro L1 f9_equations f9_areSteps f9_arePlans ai H locs ls h0 h1 h2 h3 h4 h5 h6 h7 h8 h9 h10 h11 hI hP hD hS hl
    exact absurd h11 (by omega)
  | succ n ih =>
    intro L1 f9_equations f9_areSteps f9_arePlans ai H locs ls h0 h1 h2 h3 h4 h5 h6 h7 h8 h9 h10 h11 hI hP hD hS hl
    refine lv_iload_n hx hb dX9_begins_7 rfl (lv_at hl 1 rfl) ?_
    refine lv_iconst (v := 4) hx hb dX9_begins_8 (by decide) ?_
    refine lv_icmp_ge (tgt := 54) hx hb dX9_begins_9 (by decide) (fun c1 => ?_) (fun c1 => ?_)
    · have c1 := j_le (a := 4) (b := L1.toInt) (by decide +kernel) rfl c1
      refine lv_aload_n hx hb dX9_begins_54 rfl (lv_at hl 0 rfl) ?_
      refine lv_iconst (v := 0) hx hb dX9_begins_55 (by decide) ?_
      refine pf (k := 14) hx hb hts inX9 tyX9_ok nmX9 hown hK hP hD hS k_809 rfl (by decide) rfl rfl 22 rfl rfl rfl (Nat.le_of_ble_eq_true rfl) dX9_begins_56 (W' := (WM cI cJ cII cJJ ad f9_size f9_equations 0 f9_foundMany f9_many f9_rank f9_freeMany f9_arePlans f9_planMany ai al)) rfl (fun H_1 locs_1 hP_1 hD_1 hS_1 => ?_)
      refine lv_aload_n hx hb dX9_begins_59 rfl (lv_at hl 0 rfl) ?_
      refine lv_iconst (v := 0) hx hb dX9_begins_60 (by decide) ?_
      refine pf (k := 33) hx hb hts inX9 tyX9_ok nmX9 hown hK hP_1 hD_1 hS_1 k_828 rfl (by decide) rfl rfl 22 rfl rfl rfl (Nat.le_of_ble_eq_true rfl) dX9_begins_61 (W' := (WM cI cJ cII cJJ ad f9_size f9_equations 0 f9_foundMany f9_many f9_rank f9_freeMany 0 f9_planMany ai al)) rfl (fun H_2 locs_2 hP_2 hD_2 hS_2 => ?_)
      exact r2_v hx hb hr hk hS_2 dX9_begins_64 (fun t ht hW => ⟨f9_equations, 0, 0, ai, ⟨(by first | omega | decide | exact Or.inl (by decide) | exact Or.inr (by omega)), (by first | omega | decide | exact Or.inl (by decide) | exact Or.inr (by omega)), (by first | omega | decide | exact Or.inl (by decide) | exact Or.inr (by omega)), hI⟩, by rw [ht]; exact hP_2, va_K.moved hW.alike hK, hD_2⟩)
    · have c1 := j_nle (a := 4) (b := L1.toInt) (by decide +kernel) rfl c1
      refine lv_aload_n hx hb dX9_begins_12 rfl (lv_at hl 0 rfl) ?_
      refine gf (k := 2) hx hb hts inX9 hown hK hP k_797 rfl (by decide) rfl 22 rfl (.ref (ad 23)) rfl dX9_begins_13 ?_
      refine lv_iload_n hx hb dX9_begins_16 rfl (lv_at hl 1 rfl) ?_
      refine lv_iconst (v := 0) hx hb dX9_begins_17 (by decide) ?_
      refine va_iast hx hb hK hP hD hS 23 0 rfl rfl (j_in (a := L1.toInt) rfl (by omega) (by omega)) dX9_begins_18 (fun H_3 locs_3 hP_3 hD_3 hS_3 => ?_)
      obtain ⟨ai2, e_ai2⟩ : ∃ q : Nat → Nat → Int32, q = va_up ai 23 (upd (ai 23) L1.toNatClampNeg 0) := ⟨_, rfl⟩
      have hI_4 : IAM ai2 := by rw [e_ai2]; exact IAM_st23 hI (a := 0) (by decide +kernel) (by omega) (by omega)
      have hP_5 : va_P (dC, dI) vwCl (WM cI cJ cII cJJ ad f9_size f9_equations f9_areSteps f9_foundMany f9_many f9_rank f9_freeMany f9_arePlans f9_planMany ai2 al) H_3 := by rw [e_ai2]; exact hP_3
      have hD_6 : va_D A (WM cI cJ cII cJJ ad f9_size f9_equations f9_areSteps f9_foundMany f9_many f9_rank f9_freeMany f9_arePlans f9_planMany ai2 al) := by rw [e_ai2]; exact hD_3
      refine lv_aload_n hx hb dX9_begins_19 rfl (lv_at hl 0 rfl) ?_
      refine gf (k := 3) hx hb hts inX9 hown hK hP_5 k_798 rfl (by decide) rfl 22 rfl (.ref (ad 24)) rfl dX9_begins_20 ?_
      refine lv_iload_n hx hb dX9_begins_23 rfl (lv_at hl 1 rfl) ?_
      refine lv_bipush (v := 10) hx hb dX9_begins_24 (by decide) ?_
      refine va_iast hx hb hK hP_5 hD_6 hS_3 24 0 rfl rfl (j_in (a := L1.toInt) rfl (by omega) (by omega)) dX9_begins_26 (fun H_7 locs_7 hP_7 hD_7 hS_7 => ?_)
      obtain ⟨ai3, e_ai3⟩ : ∃ q : Nat → Nat → Int32, q = va_up ai2 24 (upd (ai2 24) L1.toNatClampNeg 10) := ⟨_, rfl⟩
      have hI_8 : IAM ai3 := by rw [e_ai3]; exact IAM_st24 hI_4 (a := 10) (by decide +kernel) (by omega) (by omega)
      have hP_9 : va_P (dC, dI) vwCl (WM cI cJ cII cJJ ad f9_size f9_equations f9_areSteps f9_foundMany f9_many f9_rank f9_freeMany f9_arePlans f9_planMany ai3 al) H_7 := by rw [e_ai3]; exact hP_7
      have hD_10 : va_D A (WM cI cJ cII cJJ ad f9_size f9_equations f9_areSteps f9_foundMany f9_many f9_rank f9_freeMany f9_arePlans f9_planMany ai3 al) := by rw [e_ai3]; exact hD_7
      refine lv_aload_n hx hb dX9_begins_27 rfl (lv_at hl 0 rfl) ?_
      refine gf (k := 4) hx hb hts inX9 hown hK hP_9 k_799 rfl (by decide) rfl 22 rfl (.ref (ad 25)) rfl dX9_begins_28 ?_
      refine lv_iload_n hx hb dX9_begins_31 rfl (lv_at hl 1 rfl) ?_
      refine lv_iconst (v := 0) hx hb dX9_begins_32 (by decide) ?_
      refine va_iast hx hb hK hP_9 hD_10 hS_7 25 0 rfl rfl (j_in (a := L1.toInt) rfl (by omega) (by omega)) dX9_begins_33 (fun H_11 locs_11 hP_11 hD_11 hS_11 => ?_)
      obtain ⟨ai4, e_ai4⟩ : ∃ q : Nat → Nat → Int32, q = va_up ai3 25 (upd (ai3 25) L1.toNatClampNeg 0) := ⟨_, rfl⟩
      have hI_12 : IAM ai4 := by rw [e_ai4]; exact hI_8
      have hP_13 : va_P (dC, dI) vwCl (WM cI cJ cII cJJ ad f9_size f9_equations f9_areSteps f9_foundMany f9_many f9_rank f9_freeMany f9_arePlans f9_planMany ai4 al) H_11 := by rw [e_ai4]; exact hP_11
      have hD_14 : va_D A (WM cI cJ cII cJJ ad f9_size f9_equations f9_areSteps f9_foundMany f9_many f9_rank f9_freeMany f9_arePlans f9_planMany ai4 al) := by rw [e_ai4]; exact hD_11
      refine lv_aload_n hx hb dX9_begins_34 rfl (lv_at hl 0 rfl) ?_
      refine gf (k := 5) hx hb hts inX9 hown hK hP_13 k_800 rfl (by decide) rfl 22 rfl (.ref (ad 26)) rfl dX9_begins_35 ?_
      refine lv_iload_n hx hb dX9_begins_38 rfl (lv_at hl 1 rfl) ?_
      refine lv_iconst (v := 0) hx hb dX9_begins_39 (by decide) ?_
      refine va_iast hx hb hK hP_13 hD_14 hS_11 26 0 rfl rfl (j_in (a := L1.toInt) rfl (by omega) (by omega)) dX9_begins_40 (fun H_15 locs_15 hP_15 hD_15 hS_15 => ?_)
      obtain ⟨ai5, e_ai5⟩ : ∃ q : Nat → Nat → Int32, q = va_up ai4 26 (upd (ai4 26) L1.toNatClampNeg 0) := ⟨_, rfl⟩
      have hI_16 : IAM ai5 := by rw [e_ai5]; exact hI_12
      have hP_17 : va_P (dC, dI) vwCl (WM cI cJ cII cJJ ad f9_size f9_equations f9_areSteps f9_foundMany f9_many f9_rank f9_freeMany f9_arePlans f9_planMany ai5 al) H_15 := by rw [e_ai5]; exact hP_15
      have hD_18 : va_D A (WM cI cJ cII cJJ ad f9_size f9_equations f9_areSteps f9_foundMany f9_many f9_rank f9_freeMany f9_arePlans f9_planMany ai5 al) := by rw [e_ai5]; exact hD_15
      refine lv_aload_n hx hb dX9_begins_41 rfl (lv_at hl 0 rfl) ?_
      refine gf (k := 6) hx hb hts inX9 hown hK hP_17 k_801 rfl (by decide) rfl 22 rfl (.ref (ad 27)) rfl dX9_begins_42 ?_
      refine lv_iload_n hx hb dX9_begins_45 rfl (lv_at hl 1 rfl) ?_
      refine lv_iconst (v := 0) hx hb dX9_begins_46 (by decide) ?_
      refine va_iast hx hb hK hP_17 hD_18 hS_15 27 0 rfl rfl (j_in (a := L1.toInt) rfl (by omega) (by omega)) dX9_begins_47 (fun H_19 locs_19 hP_19 hD_19 hS_19 => ?_)
      obtain ⟨ai6, e_ai6⟩ : ∃ q : Nat → Nat → Int32, q = va_up ai5 27 (upd (ai5 27) L1.toNatClampNeg 0) := ⟨_, rfl⟩
      have hI_20 : IAM ai6 := by rw [e_ai6]; exact hI_16
      have hP_21 : va_P (dC, dI) vwCl (WM cI cJ cII cJJ ad f9_size f9_equations f9_areSteps f9_foundMany f9_many f9_rank f9_freeMany f9_arePlans f9_planMany ai6 al) H_19 := by rw [e_ai6]; exact hP_19
      have hD_22 : va_D A (WM cI cJ cII cJJ ad f9_size f9_equations f9_areSteps f9_foundMany f9_many f9_rank f9_freeMany f9_arePlans f9_planMany ai6 al) := by rw [e_ai6]; exact hD_19
      obtain ⟨z7, e_z7⟩ : ∃ q : Int32, q = L1 + Int32.ofInt 1 := ⟨_, rfl⟩
      have g_z7 : z7.toInt = L1.toInt + 1 := by rw [e_z7]; exact n_add (a := L1.toInt) (b := 1) rfl (by decide +kernel) (by omega) (by omega)
      refine lv_iinc (v := z7) (lv' := [(1, .int z7), (0, .ref (ad 22))]) hx hb dX9_begins_48 hl (k := 1) rfl e_z7.symm (by decide) rfl (fun ls_23 hl_23 => ?_)
      refine lv_goto (tgt := 7) hx hb dX9_begins_51 (by decide) ?_
      exact ih z7 f9_equations f9_areSteps f9_arePlans ai6 _ _ _ (by omega) (by omega) (by omega) (by omega) (by omega) (by omega) (by omega) (by omega) (by omega) (by omega) (by omega) (by omega) hI_20 hP_21 hD_22 hS_19 (lv_sub hl_23 [1, 0] rfl)
set_option maxRecDepth 100000 in
set_option maxHeartbeats 4000000 in
theorem r003_X9_begins (l : Launch) (dC : Nat → ClassId) (dI : Nat → Nat → Nat) (cI cJ cII cJJ : ClassId) (sz g : Nat) (ad : Nat → Nat) (f9_size f9_equations f9_areSteps f9_foundMany f9_many f9_rank f9_freeMany f9_arePlans f9_planMany : Int32) (ai : Nat → Nat → Int32) (al : Nat → Nat → Int64) (h_f9_size : (1 ≤ f9_size.toInt ∧ f9_size.toInt ≤ 4)) (h_f9_equations : (0 ≤ f9_equations.toInt ∧ f9_equations.toInt ≤ 3)) (h_f9_areSteps : (0 ≤ f9_areSteps.toInt ∧ f9_areSteps.toInt ≤ 1)) (h_f9_foundMany : (0 ≤ f9_foundMany.toInt ∧ f9_foundMany.toInt ≤ 99999)) (h_f9_many : (0 ≤ f9_many.toInt ∧ f9_many.toInt ≤ 6000)) (h_f9_rank : (0 ≤ f9_rank.toInt ∧ f9_rank.toInt ≤ 3)) (h_f9_freeMany : (0 ≤ f9_freeMany.toInt ∧ f9_freeMany.toInt ≤ 4)) (h_f9_arePlans : (0 ≤ f9_arePlans.toInt ∧ f9_arePlans.toInt ≤ 1)) (h_f9_planMany : (0 ≤ f9_planMany.toInt ∧ f9_planMany.toInt ≤ 194481)) (hI : IAM ai) : Met l yX9_begins (.code yX9_begins cX9_begins 2 none :: TT) ({ frames := 2, cells := 0, slots := 0, locals := 80 } : Room) (PcS dC dI (TY cI cJ cII cJJ) [.ref (ad 22)] (WM cI cJ cII cJJ ad f9_size f9_equations f9_areSteps f9_foundMany f9_many f9_rank f9_freeMany f9_arePlans f9_planMany ai al) sz 0 g) (Q_r003_X9_begins dC dI cI cJ cII cJJ ad f9_size f9_foundMany f9_many f9_rank f9_freeMany f9_planMany al (va_A (WM cI cJ cII cJJ ad f9_size f9_equations f9_areSteps f9_foundMany f9_many f9_rank f9_freeMany f9_arePlans f9_planMany ai al) sz)) 0 0 (va_A (WM cI cJ cII cJJ ad f9_size f9_equations f9_areSteps f9_foundMany f9_many f9_rank f9_freeMany f9_arePlans f9_planMany ai al) sz) := by
  refine SM.of (y := yX9_begins) (maxL := 2) (av := [.ref (ad 22)]) (Q_r003_X9_begins dC dI cI cJ cII cJJ ad f9_size f9_foundMany f9_many f9_rank f9_freeMany f9_planMany al) (by decide +kernel) (Nat.le_of_ble_eq_true rfl) (fun p e s m below meth c A ls hx hb hr hml hown hts hk hnm hA hK hP hD hS hX hl => ?_)
  have C : Cx p c s m meth (([.ref (ad 22)] : List Value).toArray) A dC dI (TY cI cJ cII cJJ) cX9_begins none 2 RX9 0 g := ⟨hx, hb, hr, hml, hown, hts, hk, hA, hK, hX⟩
  have hown : s.vm.findClass RX9 = some m.cls := hown
  have hl : lv_has ls 2 [(0, .ref (ad 22))] := hl
  obtain ⟨H, hH⟩ : ∃ q, q = s.heap := ⟨_, rfl⟩
  rw [← hH] at hP
  have hS : va_S A s.heap H [] := by rw [hH]; exact hS
  rw [← hH]
  refine lv_aload_n hx hb dX9_begins_0 rfl (lv_at hl 0 rfl) ?_
  refine lv_iconst (v := 0) hx hb dX9_begins_1 (by decide) ?_
  refine pf (k := 13) hx hb hts inX9 tyX9_ok nmX9 hown hK hP hD hS k_808 rfl (by decide) rfl rfl 22 rfl rfl rfl (Nat.le_of_ble_eq_true rfl) dX9_begins_2 (W' := (WM cI cJ cII cJJ ad f9_size 0 f9_areSteps f9_foundMany f9_many f9_rank f9_freeMany f9_arePlans f9_planMany ai al)) rfl (fun H_1 locs_1 hP_1 hD_1 hS_1 => ?_)
  refine lv_iconst (v := 0) hx hb dX9_begins_5 (by decide) ?_
  refine lv_istore_n (lv' := [(1, .int 0), (0, .ref (ad 22))]) hx hb dX9_begins_6 rfl hl (by decide) rfl (fun ls_2 hl_2 => ?_)
  exact r003_X9_begins_b7 C  _ 0 0 f9_areSteps f9_arePlans ai _ _ _ (by first | omega | decide | (have ka0 := (by decide +kernel : (0 : Int32).toInt = 0); omega)) (by first | omega | decide | (have ka0 := (by decide +kernel : (0 : Int32).toInt = 0); omega)) (by first | omega | decide | (have ka0 := (by decide +kernel : (0 : Int32).toInt = 0); omega)) (by first | omega | decide | (have ka0 := (by decide +kernel : (0 : Int32).toInt = 0); omega)) (by first | omega | decide | (have ka0 := (by decide +kernel : (0 : Int32).toInt = 0); omega)) (by first | omega | decide | (have ka0 := (by decide +kernel : (0 : Int32).toInt = 0); omega)) (by first | omega | decide | (have ka0 := (by decide +kernel : (0 : Int32).toInt = 0); omega)) (by first | omega | decide | (have ka0 := (by decide +kernel : (0 : Int32).toInt = 0); omega)) (by first | omega | decide | (have ka0 := (by decide +kernel : (0 : Int32).toInt = 0); omega)) (by first | omega | decide | (have ka0 := (by decide +kernel : (0 : Int32).toInt = 0); omega)) (j_fuel _) (by omega) hI hP_1 hD_1 hS_1 (lv_sub hl_2 [1, 0] rfl)
def Q_r004_X9_works (dC : Nat → ClassId) (dI : Nat → Nat → Nat) (cI cJ cII cJJ : ClassId) (ad : Nat → Nat) (f9_foundMany f9_many f9_rank f9_freeMany f9_planMany : Int32) (al : Nat → Nat → Int64) : (Nat → Prop) → Array Value → State → Outcome → State → Prop := fun A => QI (fun r t => ∃ (n_f9_size n_f9_equations n_f9_areSteps n_f9_arePlans : Int32), ∃ (n_ai : Nat → Nat → Int32), ((-7 ≤ r.toInt ∧ r.toInt ≤ 1) ∧ (1 ≤ n_f9_size.toInt ∧ n_f9_size.toInt ≤ 4) ∧ (0 ≤ n_f9_equations.toInt ∧ n_f9_equations.toInt ≤ 3) ∧ (0 ≤ n_f9_areSteps.toInt ∧ n_f9_areSteps.toInt ≤ 1) ∧ (0 ≤ n_f9_arePlans.toInt ∧ n_f9_arePlans.toInt ≤ 1) ∧ IAM n_ai) ∧ WO dC dI (TY cI cJ cII cJJ) (WM cI cJ cII cJJ ad n_f9_size n_f9_equations n_f9_areSteps f9_foundMany f9_many f9_rank f9_freeMany n_f9_arePlans f9_planMany n_ai al) A t) A
set_option maxRecDepth 100000 in
set_option maxHeartbeats 4000000 in
theorem r004_X9_works (l : Launch) (dC : Nat → ClassId) (dI : Nat → Nat → Nat) (cI cJ cII cJJ : ClassId) (sz g : Nat) (ad : Nat → Nat) (f9_size f9_equations f9_areSteps f9_foundMany f9_many f9_rank f9_freeMany f9_arePlans f9_planMany : Int32) (ai : Nat → Nat → Int32) (al : Nat → Nat → Int64) (x1 : Int32) (h_f9_size : (1 ≤ f9_size.toInt ∧ f9_size.toInt ≤ 4)) (h_f9_equations : (0 ≤ f9_equations.toInt ∧ f9_equations.toInt ≤ 3)) (h_f9_areSteps : (0 ≤ f9_areSteps.toInt ∧ f9_areSteps.toInt ≤ 1)) (h_f9_foundMany : (0 ≤ f9_foundMany.toInt ∧ f9_foundMany.toInt ≤ 99999)) (h_f9_many : (0 ≤ f9_many.toInt ∧ f9_many.toInt ≤ 6000)) (h_f9_rank : (0 ≤ f9_rank.toInt ∧ f9_rank.toInt ≤ 3)) (h_f9_freeMany : (0 ≤ f9_freeMany.toInt ∧ f9_freeMany.toInt ≤ 4)) (h_f9_arePlans : (0 ≤ f9_arePlans.toInt ∧ f9_arePlans.toInt ≤ 1)) (h_f9_planMany : (0 ≤ f9_planMany.toInt ∧ f9_planMany.toInt ≤ 194481)) (hI : IAM ai) : Met l yX9_works (.code yX9_works cX9_works 2 (some .int) :: TT) ({ frames := 3, cells := 0, slots := 0, locals := 140 } : Room) (PcS dC dI (TY cI cJ cII cJJ) [.ref (ad 22), .int x1] (WM cI cJ cII cJJ ad f9_size f9_equations f9_areSteps f9_foundMany f9_many f9_rank f9_freeMany f9_arePlans f9_planMany ai al) sz 0 g) (Q_r004_X9_works dC dI cI cJ cII cJJ ad f9_foundMany f9_many f9_rank f9_freeMany f9_planMany al (va_A (WM cI cJ cII cJJ ad f9_size f9_equations f9_areSteps f9_foundMany f9_many f9_rank f9_freeMany f9_arePlans f9_planMany ai al) sz)) 0 0 (va_A (WM cI cJ cII cJJ ad f9_size f9_equations f9_areSteps f9_foundMany f9_many f9_rank f9_freeMany f9_arePlans f9_planMany ai al) sz) := by
  refine SM.of (y := yX9_works) (maxL := 2) (av := [.ref (ad 22), .int x1]) (Q_r004_X9_works dC dI cI cJ cII cJJ ad f9_foundMany f9_many f9_rank f9_freeMany f9_planMany al) (by decide +kernel) (Nat.le_of_ble_eq_true rfl) (fun p e s m below meth c A ls hx hb hr hml hown hts hk hnm hA hK hP hD hS hX hl => ?_)
  have C : Cx p c s m meth (([.ref (ad 22), .int x1] : List Value).toArray) A dC dI (TY cI cJ cII cJJ) cX9_works (some .int) 2 RX9 0 g := ⟨hx, hb, hr, hml, hown, hts, hk, hA, hK, hX⟩
  have hown : s.vm.findClass RX9 = some m.cls := hown
  have hl : lv_has ls 2 [(0, .ref (ad 22)), (1, .int x1)] := hl
  obtain ⟨H, hH⟩ : ∃ q, q = s.heap := ⟨_, rfl⟩
  rw [← hH] at hP
  have hS : va_S A s.heap H [] := by rw [hH]; exact hS
  rw [← hH]
  have ra_x1 := s_any x1
  refine lv_iload_n hx hb dX9_works_0 rfl (lv_at hl 1 rfl) ?_
  refine lv_iconst (v := 1) hx hb dX9_works_1 (by decide) ?_
  refine lv_icmp_ge (tgt := 12) hx hb dX9_works_2 (by decide) (fun c1 => ?_) (fun c1 => ?_)
  · have c1 := j_le (a := 1) (b := x1.toInt) (by decide +kernel) rfl c1
    refine lv_iload_n hx hb dX9_works_12 rfl (lv_at hl 1 rfl) ?_
    refine lv_iconst (v := 4) hx hb dX9_works_13 (by decide) ?_
    refine lv_icmp_le (tgt := 24) hx hb dX9_works_14 (by decide) (fun c2 => ?_) (fun c2 => ?_)
    · have c2 := j_le (a := x1.toInt) (b := 4) rfl (by decide +kernel) c2
      refine lv_aload_n hx hb dX9_works_24 rfl (lv_at hl 0 rfl) ?_
      refine lv_iload_n hx hb dX9_works_25 rfl (lv_at hl 1 rfl) ?_
      refine pf (k := 12) hx hb hts inX9 tyX9_ok nmX9 hown hK hP hD hS k_807 rfl (by decide) rfl rfl 22 rfl rfl rfl (Nat.le_of_ble_eq_true rfl) dX9_works_26 (W' := (WM cI cJ cII cJJ ad x1 f9_equations f9_areSteps f9_foundMany f9_many f9_rank f9_freeMany f9_arePlans f9_planMany ai al)) rfl (fun H_1 locs_1 hP_1 hD_1 hS_1 => ?_)
      refine lv_aload_n hx hb dX9_works_29 rfl (lv_at hl 0 rfl) ?_
      have hM := r003_X9_begins l dC dI cI cJ cII cJJ H_1.size 0 ad x1 f9_equations f9_areSteps f9_foundMany f9_many f9_rank f9_freeMany f9_arePlans f9_planMany ai al (by omega) (by omega) (by omega) (by omega) (by omega) (by omega) (by omega) (by omega) (by omega) hI
      refine k2V_v (q0 := 22) ⟨hx, hb, hml, hown, hts⟩ hK hP_1 hD_1 hS_1 hA hX cv_RX9_99 hM ⟨by decide +kernel, by decide +kernel⟩ rfl rfl (Or.inl rfl) (rest := []) rfl rfl rfl hl.1 rfl (Nat.le_of_ble_eq_true rfl) dX9_works_30 ⟨Nat.le_of_ble_eq_true rfl, Nat.le_of_ble_eq_true rfl⟩ (fun t H1 locs_2 ht hB hS_2 hFc => ?_)
      obtain ⟨v4, v5, v6, ai7, ⟨gpr3_0, gpr3_1, gpr3_2, hI_3⟩, hP_3, -, hD_3⟩ := hB
      rw [ht] at hP_3
      have hD_4 := hD_3.weaken (B := A) (fun k q _ h9 => hFc q.1 h9)
      clear ht
      generalize H1 = H_5 at hP_3 hS_2 ⊢
      refine lv_iconst (v := 1) hx hb dX9_works_33 (by decide) ?_
      exact r2_i hx hb hr hk hS_2 dX9_works_34 (fun t ht hW => ⟨x1, v4, v5, v6, ai7, ⟨(by first | omega | decide | exact Or.inl (by decide) | exact Or.inr (by omega)), (by first | omega | decide | exact Or.inl (by decide) | exact Or.inr (by omega)), (by first | omega | decide | exact Or.inl (by decide) | exact Or.inr (by omega)), (by first | omega | decide | exact Or.inl (by decide) | exact Or.inr (by omega)), (by first | omega | decide | exact Or.inl (by decide) | exact Or.inr (by omega)), hI_3⟩, by rw [ht]; exact hP_3, va_K.moved hW.alike hK, hD_4⟩)
    · have c2 := j_nle (a := x1.toInt) (b := 4) rfl (by decide +kernel) c2
      refine lv_aload_n hx hb dX9_works_17 rfl (lv_at hl 0 rfl) ?_
      refine lv_bipush (v := (-6)) hx hb dX9_works_18 (by decide) ?_
      have kcm6 : ((-6) : Int32).toInt = (-6) := by decide +kernel
      have hM := r002_X9_refuse l dC dI cI cJ cII cJJ H.size 0 ad f9_size f9_equations f9_areSteps f9_foundMany f9_many f9_rank f9_freeMany f9_arePlans f9_planMany ai al (-6) (by decide +kernel) (by omega) (by omega) (by omega) (by omega) (by omega) (by omega) (by omega) (by omega) (by omega) hI
      refine k2V_i (q0 := 22) ⟨hx, hb, hml, hown, hts⟩ hK hP hD hS hA hX cv_RX9_112 hM ⟨by decide +kernel, by decide +kernel⟩ rfl rfl (Or.inl rfl) (rest := []) rfl rfl rfl hl.1 rfl (Nat.le_of_ble_eq_true rfl) dX9_works_20 ⟨Nat.le_of_ble_eq_true rfl, Nat.le_of_ble_eq_true rfl⟩ (fun r8 t H1 locs_6 ht hB hS_6 hFc => ?_)
      obtain ⟨ai9, ⟨gpr8_0, hI_7⟩, hP_7, -, hD_7⟩ := hB
      rw [ht] at hP_7
      have hD_8 := hD_7.weaken (B := A) (fun k q _ h9 => hFc q.1 h9)
      clear ht
      generalize H1 = H_9 at hP_7 hS_6 ⊢
      exact r2_i hx hb hr hk hS_6 dX9_works_23 (fun t ht hW => ⟨f9_size, f9_equations, f9_areSteps, f9_arePlans, ai9, ⟨(by first | omega | decide | exact Or.inl (by decide) | exact Or.inr (by omega)), (by first | omega | decide | exact Or.inl (by decide) | exact Or.inr (by omega)), (by first | omega | decide | exact Or.inl (by decide) | exact Or.inr (by omega)), (by first | omega | decide | exact Or.inl (by decide) | exact Or.inr (by omega)), (by first | omega | decide | exact Or.inl (by decide) | exact Or.inr (by omega)), hI_7⟩, by rw [ht]; exact hP_7, va_K.moved hW.alike hK, hD_8⟩)
  · have c1 := j_nle (a := 1) (b := x1.toInt) (by decide +kernel) rfl c1
    refine lv_aload_n hx hb dX9_works_5 rfl (lv_at hl 0 rfl) ?_
    refine lv_bipush (v := (-4)) hx hb dX9_works_6 (by decide) ?_
    have kcm4 : ((-4) : Int32).toInt = (-4) := by decide +kernel
    have hM := r002_X9_refuse l dC dI cI cJ cII cJJ H.size 0 ad f9_size f9_equations f9_areSteps f9_foundMany f9_many f9_rank f9_freeMany f9_arePlans f9_planMany ai al (-4) (by decide +kernel) (by omega) (by omega) (by omega) (by omega) (by omega) (by omega) (by omega) (by omega) (by omega) hI
    refine k2V_i (q0 := 22) ⟨hx, hb, hml, hown, hts⟩ hK hP hD hS hA hX cv_RX9_112 hM ⟨by decide +kernel, by decide +kernel⟩ rfl rfl (Or.inl rfl) (rest := []) rfl rfl rfl hl.1 rfl (Nat.le_of_ble_eq_true rfl) dX9_works_8 ⟨Nat.le_of_ble_eq_true rfl, Nat.le_of_ble_eq_true rfl⟩ (fun r10 t H1 locs_10 ht hB hS_10 hFc => ?_)
    obtain ⟨ai11, ⟨gpr10_0, hI_11⟩, hP_11, -, hD_11⟩ := hB
    rw [ht] at hP_11
    have hD_12 := hD_11.weaken (B := A) (fun k q _ h9 => hFc q.1 h9)
    clear ht
    generalize H1 = H_13 at hP_11 hS_10 ⊢
    exact r2_i hx hb hr hk hS_10 dX9_works_11 (fun t ht hW => ⟨f9_size, f9_equations, f9_areSteps, f9_arePlans, ai11, ⟨(by first | omega | decide | exact Or.inl (by decide) | exact Or.inr (by omega)), (by first | omega | decide | exact Or.inl (by decide) | exact Or.inr (by omega)), (by first | omega | decide | exact Or.inl (by decide) | exact Or.inr (by omega)), (by first | omega | decide | exact Or.inl (by decide) | exact Or.inr (by omega)), (by first | omega | decide | exact Or.inl (by decide) | exact Or.inr (by omega)), hI_11⟩, by rw [ht]; exact hP_11, va_K.moved hW.alike hK, hD_12⟩)
def Q_r005_X9_equation (dC : Nat → ClassId) (dI : Nat → Nat → Nat) (cI cJ cII cJJ : ClassId) (ad : Nat → Nat) (f9_size f9_areSteps f9_foundMany f9_many f9_rank f9_freeMany f9_planMany : Int32) (al : Nat → Nat → Int64) : (Nat → Prop) → Array Value → State → Outcome → State → Prop := fun A => QI (fun r t => ∃ (n_f9_equations n_f9_arePlans : Int32), ∃ (n_ai : Nat → Nat → Int32), ((-7 ≤ r.toInt ∧ r.toInt ≤ 2) ∧ (1 ≤ n_f9_equations.toInt ∧ n_f9_equations.toInt ≤ 3) ∧ (0 ≤ n_f9_arePlans.toInt ∧ n_f9_arePlans.toInt ≤ 1) ∧ IAM n_ai) ∧ WO dC dI (TY cI cJ cII cJJ) (WM cI cJ cII cJJ ad f9_size n_f9_equations f9_areSteps f9_foundMany f9_many f9_rank f9_freeMany n_f9_arePlans f9_planMany n_ai al) A t) A
set_option maxRecDepth 100000 in
set_option maxHeartbeats 4000000 in
theorem r005_X9_equation_b17 {p : Program} {l : Launch} {e : Env} {s : State} {m : MethodId} {args : Array Value} {below : List Frame} {meth : Method} {c : Code} {A : Nat → Prop} {dC : Nat → ClassId} {dI : Nat → Nat → Nat} {cI cJ cII cJJ : ClassId} {ad : Nat → Nat} {g : Nat} {f9_size f9_areSteps f9_foundMany f9_many f9_rank f9_freeMany f9_planMany : Int32} {al : Nat → Nat → Int64} (C : Cx p c s m meth args A dC dI (TY cI cJ cII cJJ) cX9_equation (some .int) 2 RX9 0 g) : ∀ (n : Nat), ∀ (L1 f9_equations f9_arePlans : Int32) (ai : Nat → Nat → Int32) (H : Heap) (locs : List Loc) (ls : Array Slot), (0 ≤ L1.toInt ∧ L1.toInt ≤ 4) → (1 ≤ f9_size.toInt ∧ f9_size.toInt ≤ 4) → (0 ≤ f9_equations.toInt ∧ f9_equations.toInt ≤ 2) → (0 ≤ f9_areSteps.toInt ∧ f9_areSteps.toInt ≤ 1) → (0 ≤ f9_foundMany.toInt ∧ f9_foundMany.toInt ≤ 99999) → (0 ≤ f9_many.toInt ∧ f9_many.toInt ≤ 6000) → (0 ≤ f9_rank.toInt ∧ f9_rank.toInt ≤ 3) → (0 ≤ f9_freeMany.toInt ∧ f9_freeMany.toInt ≤ 4) → (0 ≤ f9_arePlans.toInt ∧ f9_arePlans.toInt ≤ 1) → (0 ≤ f9_planMany.toInt ∧ f9_planMany.toInt ≤ 194481) → 4 - L1.toInt < (n : Int) → (0 : Int) < (n : Int) → IAM ai → va_P (dC, dI) vwCl (WM cI cJ cII cJJ ad f9_size f9_equations f9_areSteps f9_foundMany f9_many f9_rank f9_freeMany f9_arePlans f9_planMany ai al) H → va_D A (WM cI cJ cII cJJ ad f9_size f9_equations f9_areSteps f9_foundMany f9_many f9_rank f9_freeMany f9_arePlans f9_planMany ai al) → va_S A s.heap H locs → lv_has ls 2 [(0, .ref (ad 22)), (1, .int L1)] → W p l e ({ frames := 3, cells := 0, slots := 0, locals := 140 } : Room) s m args below meth c H locs 0 0 (MQ below (Q_r005_X9_equation dC dI cI cJ cII cJJ ad f9_size f9_areSteps f9_foundMany f9_many f9_rank f9_freeMany f9_planMany al A) args s 0 0 A) (F0 m 17 ls []) := by
  obtain ⟨hx, hb, hr, hml, hown, hts, hk, hA, hK, hX⟩ := id C
  intro n
  induction n with
  | zero =>
    intro L1 f9_equations f9_arePlans ai H locs ls h0 h1 h2 h3 h4 h5 h6 h7 h8 h9 h10 h11 hI hP hD hS hl
    exact absurd h11 (by omega)
  | succ n ih =>
    intro L1 f9_equations f9_arePlans ai H locs ls h0 h1 h2 h3 h4 h5 h6 h7 h8 h9 h10 h11 hI hP hD hS hl
    refine lv_iload_n hx hb dX9_equation_17 rfl (lv_at hl 1 rfl) ?_
    refine lv_iconst (v := 4) hx hb dX9_equation_18 (by decide) ?_
    refine lv_icmp_ge (tgt := 42) hx hb dX9_equation_19 (by decide) (fun c1 => ?_) (fun c1 => ?_)
    · have c1 := j_le (a := 4) (b := L1.toInt) (by decide +kernel) rfl c1
      refine lv_aload_n hx hb dX9_equation_42 rfl (lv_at hl 0 rfl) ?_
      refine gf (k := 1) hx hb hts inX9 hown hK hP k_796 rfl (by decide) rfl 22 rfl (.ref (ad 1)) rfl dX9_equation_43 ?_
      refine lv_aload_n hx hb dX9_equation_46 rfl (lv_at hl 0 rfl) ?_
      refine gf (k := 13) hx hb hts inX9 hown hK hP k_808 rfl (by decide) rfl 22 rfl (.int f9_equations) rfl dX9_equation_47 ?_
      refine lv_iconst (v := 0) hx hb dX9_equation_50 (by decide) ?_
      refine va_iast hx hb hK hP hD hS 1 0 rfl rfl (j_in (a := f9_equations.toInt) rfl (by omega) (by omega)) dX9_equation_51 (fun H_1 locs_1 hP_1 hD_1 hS_1 => ?_)
      obtain ⟨ai2, e_ai2⟩ : ∃ q : Nat → Nat → Int32, q = va_up ai 1 (upd (ai 1) f9_equations.toNatClampNeg 0) := ⟨_, rfl⟩
      have hI_2 : IAM ai2 := by rw [e_ai2]; exact hI
      have hP_3 : va_P (dC, dI) vwCl (WM cI cJ cII cJJ ad f9_size f9_equations f9_areSteps f9_foundMany f9_many f9_rank f9_freeMany f9_arePlans f9_planMany ai2 al) H_1 := by rw [e_ai2]; exact hP_1
      have hD_4 : va_D A (WM cI cJ cII cJJ ad f9_size f9_equations f9_areSteps f9_foundMany f9_many f9_rank f9_freeMany f9_arePlans f9_planMany ai2 al) := by rw [e_ai2]; exact hD_1
      refine lv_aload_n hx hb dX9_equation_52 rfl (lv_at hl 0 rfl) ?_
      refine lv_dup hx hb dX9_equation_53 rfl ?_
      refine gf (k := 13) hx hb hts inX9 hown hK hP_3 k_808 rfl (by decide) rfl 22 rfl (.int f9_equations) rfl dX9_equation_54 ?_
      refine lv_iconst (v := 1) hx hb dX9_equation_57 (by decide) ?_
      refine v_iadd hx hb dX9_equation_58 _ rfl ?_
      refine lv_topi (fun z3 e_z3 => ?_)
      have g_z3 : z3.toInt = f9_equations.toInt + 1 := by rw [e_z3]; exact n_add (a := f9_equations.toInt) (b := 1) rfl (by decide +kernel) (by omega) (by omega)
      refine pf (k := 13) hx hb hts inX9 tyX9_ok nmX9 hown hK hP_3 hD_4 hS_1 k_808 rfl (by decide) rfl rfl 22 rfl rfl rfl (Nat.le_of_ble_eq_true rfl) dX9_equation_59 (W' := (WM cI cJ cII cJJ ad f9_size z3 f9_areSteps f9_foundMany f9_many f9_rank f9_freeMany f9_arePlans f9_planMany ai2 al)) rfl (fun H_5 locs_5 hP_5 hD_5 hS_5 => ?_)
      refine lv_aload_n hx hb dX9_equation_62 rfl (lv_at hl 0 rfl) ?_
      refine lv_iconst (v := 0) hx hb dX9_equation_63 (by decide) ?_
      refine pf (k := 33) hx hb hts inX9 tyX9_ok nmX9 hown hK hP_5 hD_5 hS_5 k_828 rfl (by decide) rfl rfl 22 rfl rfl rfl (Nat.le_of_ble_eq_true rfl) dX9_equation_64 (W' := (WM cI cJ cII cJJ ad f9_size z3 f9_areSteps f9_foundMany f9_many f9_rank f9_freeMany 0 f9_planMany ai2 al)) rfl (fun H_6 locs_6 hP_6 hD_6 hS_6 => ?_)
      refine lv_aload_n hx hb dX9_equation_67 rfl (lv_at hl 0 rfl) ?_
      refine gf (k := 13) hx hb hts inX9 hown hK hP_6 k_808 rfl (by decide) rfl 22 rfl (.int z3) rfl dX9_equation_68 ?_
      refine lv_iconst (v := 1) hx hb dX9_equation_71 (by decide) ?_
      refine v_isub hx hb dX9_equation_72 _ rfl ?_
      refine lv_topi (fun z4 e_z4 => ?_)
      have g_z4 : z4.toInt = z3.toInt - 1 := by rw [e_z4]; exact n_sub (a := z3.toInt) (b := 1) rfl (by decide +kernel) (by omega) (by omega)
      exact r2_i hx hb hr hk hS_6 dX9_equation_73 (fun t ht hW => ⟨z3, 0, ai2, ⟨(by first | omega | decide | exact Or.inl (by decide) | exact Or.inr (by omega)), (by first | omega | decide | exact Or.inl (by decide) | exact Or.inr (by omega)), (by first | omega | decide | exact Or.inl (by decide) | exact Or.inr (by omega)), hI_2⟩, by rw [ht]; exact hP_6, va_K.moved hW.alike hK, hD_6⟩)
    · have c1 := j_nle (a := 4) (b := L1.toInt) (by decide +kernel) rfl c1
      refine lv_aload_n hx hb dX9_equation_22 rfl (lv_at hl 0 rfl) ?_
      refine gf (k := 0) hx hb hts inX9 hown hK hP k_795 rfl (by decide) rfl 22 rfl (.ref (ad 0)) rfl dX9_equation_23 ?_
      refine lv_iconst (v := 4) hx hb dX9_equation_26 (by decide) ?_
      refine lv_aload_n hx hb dX9_equation_27 rfl (lv_at hl 0 rfl) ?_
      refine gf (k := 13) hx hb hts inX9 hown hK hP k_808 rfl (by decide) rfl 22 rfl (.int f9_equations) rfl dX9_equation_28 ?_
      refine v_imul hx hb dX9_equation_31 _ rfl ?_
      refine lv_topi (fun z5 e_z5 => ?_)
      have g_z5 : z5.toInt = 4 * f9_equations.toInt := by rw [e_z5]; exact n_mul (a := 4) (b := f9_equations.toInt) (by decide +kernel) rfl (by omega) (by omega)
      refine lv_iload_n hx hb dX9_equation_32 rfl (lv_at hl 1 rfl) ?_
      refine v_iadd hx hb dX9_equation_33 _ rfl ?_
      refine lv_topi (fun z6 e_z6 => ?_)
      have g_z6 : z6.toInt = z5.toInt + L1.toInt := by rw [e_z6]; exact n_add (a := z5.toInt) (b := L1.toInt) rfl rfl (by omega) (by omega)
      refine lv_iconst (v := 0) hx hb dX9_equation_34 (by decide) ?_
      refine va_iast hx hb hK hP hD hS 0 0 rfl rfl (j_in (a := z6.toInt) rfl (by omega) (by omega)) dX9_equation_35 (fun H_7 locs_7 hP_7 hD_7 hS_7 => ?_)
      obtain ⟨ai7, e_ai7⟩ : ∃ q : Nat → Nat → Int32, q = va_up ai 0 (upd (ai 0) z6.toNatClampNeg 0) := ⟨_, rfl⟩
      have hI_8 : IAM ai7 := by rw [e_ai7]; exact hI
      have hP_9 : va_P (dC, dI) vwCl (WM cI cJ cII cJJ ad f9_size f9_equations f9_areSteps f9_foundMany f9_many f9_rank f9_freeMany f9_arePlans f9_planMany ai7 al) H_7 := by rw [e_ai7]; exact hP_7
      have hD_10 : va_D A (WM cI cJ cII cJJ ad f9_size f9_equations f9_areSteps f9_foundMany f9_many f9_rank f9_freeMany f9_arePlans f9_planMany ai7 al) := by rw [e_ai7]; exact hD_7
      obtain ⟨z8, e_z8⟩ : ∃ q : Int32, q = L1 + Int32.ofInt 1 := ⟨_, rfl⟩
      have g_z8 : z8.toInt = L1.toInt + 1 := by rw [e_z8]; exact n_add (a := L1.toInt) (b := 1) rfl (by decide +kernel) (by omega) (by omega)
      refine lv_iinc (v := z8) (lv' := [(1, .int z8), (0, .ref (ad 22))]) hx hb dX9_equation_36 hl (k := 1) rfl e_z8.symm (by decide) rfl (fun ls_11 hl_11 => ?_)
      refine lv_goto (tgt := 17) hx hb dX9_equation_39 (by decide) ?_
      exact ih z8 f9_equations f9_arePlans ai7 _ _ _ (by omega) (by omega) (by omega) (by omega) (by omega) (by omega) (by omega) (by omega) (by omega) (by omega) (by omega) (by omega) hI_8 hP_9 hD_10 hS_7 (lv_sub hl_11 [1, 0] rfl)
set_option maxRecDepth 100000 in
set_option maxHeartbeats 4000000 in
theorem r005_X9_equation (l : Launch) (dC : Nat → ClassId) (dI : Nat → Nat → Nat) (cI cJ cII cJJ : ClassId) (sz g : Nat) (ad : Nat → Nat) (f9_size f9_equations f9_areSteps f9_foundMany f9_many f9_rank f9_freeMany f9_arePlans f9_planMany : Int32) (ai : Nat → Nat → Int32) (al : Nat → Nat → Int64) (h_f9_size : (1 ≤ f9_size.toInt ∧ f9_size.toInt ≤ 4)) (h_f9_equations : (0 ≤ f9_equations.toInt ∧ f9_equations.toInt ≤ 3)) (h_f9_areSteps : (0 ≤ f9_areSteps.toInt ∧ f9_areSteps.toInt ≤ 1)) (h_f9_foundMany : (0 ≤ f9_foundMany.toInt ∧ f9_foundMany.toInt ≤ 99999)) (h_f9_many : (0 ≤ f9_many.toInt ∧ f9_many.toInt ≤ 6000)) (h_f9_rank : (0 ≤ f9_rank.toInt ∧ f9_rank.toInt ≤ 3)) (h_f9_freeMany : (0 ≤ f9_freeMany.toInt ∧ f9_freeMany.toInt ≤ 4)) (h_f9_arePlans : (0 ≤ f9_arePlans.toInt ∧ f9_arePlans.toInt ≤ 1)) (h_f9_planMany : (0 ≤ f9_planMany.toInt ∧ f9_planMany.toInt ≤ 194481)) (hI : IAM ai) : Met l yX9_equation (.code yX9_equation cX9_equation 2 (some .int) :: TT) ({ frames := 3, cells := 0, slots := 0, locals := 140 } : Room) (PcS dC dI (TY cI cJ cII cJJ) [.ref (ad 22)] (WM cI cJ cII cJJ ad f9_size f9_equations f9_areSteps f9_foundMany f9_many f9_rank f9_freeMany f9_arePlans f9_planMany ai al) sz 0 g) (Q_r005_X9_equation dC dI cI cJ cII cJJ ad f9_size f9_areSteps f9_foundMany f9_many f9_rank f9_freeMany f9_planMany al (va_A (WM cI cJ cII cJJ ad f9_size f9_equations f9_areSteps f9_foundMany f9_many f9_rank f9_freeMany f9_arePlans f9_planMany ai al) sz)) 0 0 (va_A (WM cI cJ cII cJJ ad f9_size f9_equations f9_areSteps f9_foundMany f9_many f9_rank f9_freeMany f9_arePlans f9_planMany ai al) sz) := by
  refine SM.of (y := yX9_equation) (maxL := 2) (av := [.ref (ad 22)]) (Q_r005_X9_equation dC dI cI cJ cII cJJ ad f9_size f9_areSteps f9_foundMany f9_many f9_rank f9_freeMany f9_planMany al) (by decide +kernel) (Nat.le_of_ble_eq_true rfl) (fun p e s m below meth c A ls hx hb hr hml hown hts hk hnm hA hK hP hD hS hX hl => ?_)
  have C : Cx p c s m meth (([.ref (ad 22)] : List Value).toArray) A dC dI (TY cI cJ cII cJJ) cX9_equation (some .int) 2 RX9 0 g := ⟨hx, hb, hr, hml, hown, hts, hk, hA, hK, hX⟩
  have hown : s.vm.findClass RX9 = some m.cls := hown
  have hl : lv_has ls 2 [(0, .ref (ad 22))] := hl
  obtain ⟨H, hH⟩ : ∃ q, q = s.heap := ⟨_, rfl⟩
  rw [← hH] at hP
  have hS : va_S A s.heap H [] := by rw [hH]; exact hS
  rw [← hH]
  refine lv_aload_n hx hb dX9_equation_0 rfl (lv_at hl 0 rfl) ?_
  refine gf (k := 13) hx hb hts inX9 hown hK hP k_808 rfl (by decide) rfl 22 rfl (.int f9_equations) rfl dX9_equation_1 ?_
  refine lv_iconst (v := 3) hx hb dX9_equation_4 (by decide) ?_
  refine lv_icmp_ne (tgt := 15) hx hb dX9_equation_5 (by decide) (fun c1 => ?_) (fun c1 => ?_)
  · have c1 := j_ne (a := f9_equations.toInt) (b := 3) rfl (by decide +kernel) c1
    refine lv_iconst (v := 0) hx hb dX9_equation_15 (by decide) ?_
    refine lv_istore_n (lv' := [(1, .int 0), (0, .ref (ad 22))]) hx hb dX9_equation_16 rfl hl (by decide) rfl (fun ls_1 hl_1 => ?_)
    exact r005_X9_equation_b17 C  _ 0 f9_equations f9_arePlans ai _ _ _ (by first | omega | decide | (have ka0 := (by decide +kernel : (0 : Int32).toInt = 0); omega)) (by first | omega | decide | (have ka0 := (by decide +kernel : (0 : Int32).toInt = 0); omega)) (by first | omega | decide | (have ka0 := (by decide +kernel : (0 : Int32).toInt = 0); omega)) (by first | omega | decide | (have ka0 := (by decide +kernel : (0 : Int32).toInt = 0); omega)) (by first | omega | decide | (have ka0 := (by decide +kernel : (0 : Int32).toInt = 0); omega)) (by first | omega | decide | (have ka0 := (by decide +kernel : (0 : Int32).toInt = 0); omega)) (by first | omega | decide | (have ka0 := (by decide +kernel : (0 : Int32).toInt = 0); omega)) (by first | omega | decide | (have ka0 := (by decide +kernel : (0 : Int32).toInt = 0); omega)) (by first | omega | decide | (have ka0 := (by decide +kernel : (0 : Int32).toInt = 0); omega)) (by first | omega | decide | (have ka0 := (by decide +kernel : (0 : Int32).toInt = 0); omega)) (j_fuel _) (by omega) hI hP hD hS (lv_sub hl_1 [1, 0] rfl)
  · have c1 := j_eq (a := f9_equations.toInt) (b := 3) rfl (by decide +kernel) c1
    refine lv_aload_n hx hb dX9_equation_8 rfl (lv_at hl 0 rfl) ?_
    refine lv_bipush (v := (-6)) hx hb dX9_equation_9 (by decide) ?_
    have kcm6 : ((-6) : Int32).toInt = (-6) := by decide +kernel
    have hM := r002_X9_refuse l dC dI cI cJ cII cJJ H.size 0 ad f9_size f9_equations f9_areSteps f9_foundMany f9_many f9_rank f9_freeMany f9_arePlans f9_planMany ai al (-6) (by decide +kernel) (by omega) (by omega) (by omega) (by omega) (by omega) (by omega) (by omega) (by omega) (by omega) hI
    refine k2V_i (q0 := 22) ⟨hx, hb, hml, hown, hts⟩ hK hP hD hS hA hX cv_RX9_112 hM ⟨by decide +kernel, by decide +kernel⟩ rfl rfl (Or.inl rfl) (rest := []) rfl rfl rfl hl.1 rfl (Nat.le_of_ble_eq_true rfl) dX9_equation_11 ⟨Nat.le_of_ble_eq_true rfl, Nat.le_of_ble_eq_true rfl⟩ (fun r2 t H1 locs_2 ht hB hS_2 hFc => ?_)
    obtain ⟨ai3, ⟨gpr2_0, hI_3⟩, hP_3, -, hD_3⟩ := hB
    rw [ht] at hP_3
    have hD_4 := hD_3.weaken (B := A) (fun k q _ h9 => hFc q.1 h9)
    clear ht
    generalize H1 = H_5 at hP_3 hS_2 ⊢
    exact r2_i hx hb hr hk hS_2 dX9_equation_14 (fun t ht hW => ⟨f9_equations, f9_arePlans, ai3, ⟨(by first | omega | decide | exact Or.inl (by decide) | exact Or.inr (by omega)), (by first | omega | decide | exact Or.inl (by decide) | exact Or.inr (by omega)), (by first | omega | decide | exact Or.inl (by decide) | exact Or.inr (by omega)), hI_3⟩, by rw [ht]; exact hP_3, va_K.moved hW.alike hK, hD_4⟩)
def Q_r006_X9_put (dC : Nat → ClassId) (dI : Nat → Nat → Nat) (cI cJ cII cJJ : ClassId) (ad : Nat → Nat) (f9_size f9_equations f9_foundMany f9_many f9_rank f9_freeMany f9_planMany : Int32) (al : Nat → Nat → Int64) : (Nat → Prop) → Array Value → State → Outcome → State → Prop := fun A => QI (fun r t => ∃ (n_f9_areSteps n_f9_arePlans : Int32), ∃ (n_ai : Nat → Nat → Int32), ((0 ≤ n_f9_areSteps.toInt ∧ n_f9_areSteps.toInt ≤ 1) ∧ (0 ≤ n_f9_arePlans.toInt ∧ n_f9_arePlans.toInt ≤ 1) ∧ IAM n_ai) ∧ WO dC dI (TY cI cJ cII cJJ) (WM cI cJ cII cJJ ad f9_size f9_equations n_f9_areSteps f9_foundMany f9_many f9_rank f9_freeMany n_f9_arePlans f9_planMany n_ai al) A t) A
set_option maxRecDepth 100000 in
set_option maxHeartbeats 4000000 in
theorem r006_X9_put_b22 {p : Program} {l : Launch} {e : Env} {s : State} {m : MethodId} {args : Array Value} {below : List Frame} {meth : Method} {c : Code} {A : Nat → Prop} {dC : Nat → ClassId} {dI : Nat → Nat → Nat} {cI cJ cII cJJ : ClassId} {ad : Nat → Nat} {g : Nat} {f9_size f9_equations f9_foundMany f9_many f9_rank f9_freeMany f9_planMany : Int32} {al : Nat → Nat → Int64} (C : Cx p c s m meth args A dC dI (TY cI cJ cII cJJ) cX9_put (some .int) 5 RX9 0 g) : ∀ (L1 L2 L3 f9_areSteps f9_arePlans : Int32) (ai : Nat → Nat → Int32) (H : Heap) (locs : List Loc) (ls : Array Slot), (1 ≤ f9_size.toInt ∧ f9_size.toInt ≤ 4) → (0 ≤ f9_equations.toInt ∧ f9_equations.toInt ≤ 3) → (0 ≤ f9_areSteps.toInt ∧ f9_areSteps.toInt ≤ 1) → (0 ≤ f9_foundMany.toInt ∧ f9_foundMany.toInt ≤ 99999) → (0 ≤ f9_many.toInt ∧ f9_many.toInt ≤ 6000) → (0 ≤ f9_rank.toInt ∧ f9_rank.toInt ≤ 3) → (0 ≤ f9_freeMany.toInt ∧ f9_freeMany.toInt ≤ 4) → (0 ≤ f9_arePlans.toInt ∧ f9_arePlans.toInt ≤ 1) → (0 ≤ f9_planMany.toInt ∧ f9_planMany.toInt ≤ 194481) → IAM ai → va_P (dC, dI) vwCl (WM cI cJ cII cJJ ad f9_size f9_equations f9_areSteps f9_foundMany f9_many f9_rank f9_freeMany f9_arePlans f9_planMany ai al) H → va_D A (WM cI cJ cII cJJ ad f9_size f9_equations f9_areSteps f9_foundMany f9_many f9_rank f9_freeMany f9_arePlans f9_planMany ai al) → va_S A s.heap H locs → lv_has ls 5 [(0, .ref (ad 22)), (1, .int L1), (2, .int L2), (3, .int L3)] → W p l e ({ frames := 3, cells := 0, slots := 0, locals := 140 } : Room) s m args below meth c H locs 0 0 (MQ below (Q_r006_X9_put dC dI cI cJ cII cJJ ad f9_size f9_equations f9_foundMany f9_many f9_rank f9_freeMany f9_planMany al A) args s 0 0 A) (F0 m 22 ls []) := by
  obtain ⟨hx, hb, hr, hml, hown, hts, hk, hA, hK, hX⟩ := id C
  intro L1 L2 L3 f9_areSteps f9_arePlans ai H locs ls h0 h1 h2 h3 h4 h5 h6 h7 h8 hI hP hD hS hl
  have ra_L1 := s_any L1
  have ra_L2 := s_any L2
  have ra_L3 := s_any L3
  refine lv_aload_n hx hb dX9_put_22 rfl (lv_at hl 0 rfl) ?_
  refine lv_iconst (v := (-1)) hx hb dX9_put_23 (by decide) ?_
  have kcm1 : ((-1) : Int32).toInt = (-1) := by decide +kernel
  have hM := r002_X9_refuse l dC dI cI cJ cII cJJ H.size 0 ad f9_size f9_equations f9_areSteps f9_foundMany f9_many f9_rank f9_freeMany f9_arePlans f9_planMany ai al (-1) (by decide +kernel) (by omega) (by omega) (by omega) (by omega) (by omega) (by omega) (by omega) (by omega) (by omega) hI
  refine k2V_i (q0 := 22) ⟨hx, hb, hml, hown, hts⟩ hK hP hD hS hA hX cv_RX9_112 hM ⟨by decide +kernel, by decide +kernel⟩ rfl rfl (Or.inl rfl) (rest := []) rfl rfl rfl hl.1 rfl (Nat.le_of_ble_eq_true rfl) dX9_put_24 ⟨Nat.le_of_ble_eq_true rfl, Nat.le_of_ble_eq_true rfl⟩ (fun r1 t H1 locs_1 ht hB hS_1 hFc => ?_)
  obtain ⟨ai2, ⟨gpr1_0, hI_2⟩, hP_2, -, hD_2⟩ := hB
  rw [ht] at hP_2
  have hD_3 := hD_2.weaken (B := A) (fun k q _ h9 => hFc q.1 h9)
  clear ht
  generalize H1 = H_4 at hP_2 hS_1 ⊢
  exact r2_i hx hb hr hk hS_1 dX9_put_27 (fun t ht hW => ⟨f9_areSteps, f9_arePlans, ai2, ⟨(by first | omega | decide | exact Or.inl (by decide) | exact Or.inr (by omega)), (by first | omega | decide | exact Or.inl (by decide) | exact Or.inr (by omega)), hI_2⟩, by rw [ht]; exact hP_2, va_K.moved hW.alike hK, hD_3⟩)
set_option maxRecDepth 100000 in
set_option maxHeartbeats 4000000 in
theorem r006_X9_put (l : Launch) (dC : Nat → ClassId) (dI : Nat → Nat → Nat) (cI cJ cII cJJ : ClassId) (sz g : Nat) (ad : Nat → Nat) (f9_size f9_equations f9_areSteps f9_foundMany f9_many f9_rank f9_freeMany f9_arePlans f9_planMany : Int32) (ai : Nat → Nat → Int32) (al : Nat → Nat → Int64) (x1 : Int32) (x2 : Int32) (x3 : Int32) (h_f9_size : (1 ≤ f9_size.toInt ∧ f9_size.toInt ≤ 4)) (h_f9_equations : (0 ≤ f9_equations.toInt ∧ f9_equations.toInt ≤ 3)) (h_f9_areSteps : (0 ≤ f9_areSteps.toInt ∧ f9_areSteps.toInt ≤ 1)) (h_f9_foundMany : (0 ≤ f9_foundMany.toInt ∧ f9_foundMany.toInt ≤ 99999)) (h_f9_many : (0 ≤ f9_many.toInt ∧ f9_many.toInt ≤ 6000)) (h_f9_rank : (0 ≤ f9_rank.toInt ∧ f9_rank.toInt ≤ 3)) (h_f9_freeMany : (0 ≤ f9_freeMany.toInt ∧ f9_freeMany.toInt ≤ 4)) (h_f9_arePlans : (0 ≤ f9_arePlans.toInt ∧ f9_arePlans.toInt ≤ 1)) (h_f9_planMany : (0 ≤ f9_planMany.toInt ∧ f9_planMany.toInt ≤ 194481)) (hI : IAM ai) : Met l yX9_put (.code yX9_put cX9_put 5 (some .int) :: TT) ({ frames := 3, cells := 0, slots := 0, locals := 140 } : Room) (PcS dC dI (TY cI cJ cII cJJ) [.ref (ad 22), .int x1, .int x2, .int x3] (WM cI cJ cII cJJ ad f9_size f9_equations f9_areSteps f9_foundMany f9_many f9_rank f9_freeMany f9_arePlans f9_planMany ai al) sz 0 g) (Q_r006_X9_put dC dI cI cJ cII cJJ ad f9_size f9_equations f9_foundMany f9_many f9_rank f9_freeMany f9_planMany al (va_A (WM cI cJ cII cJJ ad f9_size f9_equations f9_areSteps f9_foundMany f9_many f9_rank f9_freeMany f9_arePlans f9_planMany ai al) sz)) 0 0 (va_A (WM cI cJ cII cJJ ad f9_size f9_equations f9_areSteps f9_foundMany f9_many f9_rank f9_freeMany f9_arePlans f9_planMany ai al) sz) := by
  refine SM.of (y := yX9_put) (maxL := 5) (av := [.ref (ad 22), .int x1, .int x2, .int x3]) (Q_r006_X9_put dC dI cI cJ cII cJJ ad f9_size f9_equations f9_foundMany f9_many f9_rank f9_freeMany f9_planMany al) (by decide +kernel) (Nat.le_of_ble_eq_true rfl) (fun p e s m below meth c A ls hx hb hr hml hown hts hk hnm hA hK hP hD hS hX hl => ?_)
  have C : Cx p c s m meth (([.ref (ad 22), .int x1, .int x2, .int x3] : List Value).toArray) A dC dI (TY cI cJ cII cJJ) cX9_put (some .int) 5 RX9 0 g := ⟨hx, hb, hr, hml, hown, hts, hk, hA, hK, hX⟩
  have hown : s.vm.findClass RX9 = some m.cls := hown
  have hl : lv_has ls 5 [(0, .ref (ad 22)), (1, .int x1), (2, .int x2), (3, .int x3)] := hl
  obtain ⟨H, hH⟩ : ∃ q, q = s.heap := ⟨_, rfl⟩
  rw [← hH] at hP
  have hS : va_S A s.heap H [] := by rw [hH]; exact hS
  rw [← hH]
  have ra_x1 := s_any x1
  have ra_x2 := s_any x2
  have ra_x3 := s_any x3
  refine lv_iload_n hx hb dX9_put_0 rfl (lv_at hl 1 rfl) ?_
  refine lv_aload_n hx hb dX9_put_1 rfl (lv_at hl 0 rfl) ?_
  refine gf (k := 13) hx hb hts inX9 hown hK hP k_808 rfl (by decide) rfl 22 rfl (.int f9_equations) rfl dX9_put_2 ?_
  have hM := r001_X9_isIn l dC dI cI cJ cII cJJ H.size 0 ad f9_size f9_equations f9_areSteps f9_foundMany f9_many f9_rank f9_freeMany f9_arePlans f9_planMany ai al x1 f9_equations (by omega) (by omega) (by omega) (by omega) (by omega) (by omega) (by omega) (by omega) (by omega) hI
  refine k2S_i ⟨hx, hb, hml, hown, hts⟩ hK hP hD hS hA hX cs_RX9_116 hM ⟨by decide +kernel, by decide +kernel⟩ rfl rfl (Or.inl rfl) (rest := []) rfl hl.1 rfl (Nat.le_of_ble_eq_true rfl) dX9_put_5 ⟨Nat.le_of_ble_eq_true rfl, Nat.le_of_ble_eq_true rfl⟩ (fun r1 t H1 locs_1 ht hB hS_1 hFc => ?_)
  obtain ⟨⟨gpr1_0, gpr1_1⟩, hP_2, -, hD_2⟩ := hB
  rw [ht] at hP_2
  have hD_3 := hD_2.weaken (B := A) (fun k q _ h9 => hFc q.1 h9)
  clear ht
  generalize H1 = H_4 at hP_2 hS_1 ⊢
  refine lv_if_eq (tgt := 22) hx hb dX9_put_8 (by decide) (fun c2 => ?_) (fun c2 => ?_)
  · have c2 := j_eq (a := r1.toInt) (b := 0) rfl (by decide +kernel) c2
    exact r006_X9_put_b22 C  x1 x2 x3 f9_areSteps f9_arePlans ai _ _ _ (by omega) (by omega) (by omega) (by omega) (by omega) (by omega) (by omega) (by omega) (by omega) hI hP_2 hD_3 hS_1 (lv_sub hl [0, 1, 2, 3] rfl)
  · have c2 := j_ne (a := r1.toInt) (b := 0) rfl (by decide +kernel) c2
    refine lv_iload_n hx hb dX9_put_11 rfl (lv_at hl 2 rfl) ?_
    refine lv_aload_n hx hb dX9_put_12 rfl (lv_at hl 0 rfl) ?_
    refine gf (k := 12) hx hb hts inX9 hown hK hP_2 k_807 rfl (by decide) rfl 22 rfl (.int f9_size) rfl dX9_put_13 ?_
    have hM := r001_X9_isIn l dC dI cI cJ cII cJJ H_4.size 0 ad f9_size f9_equations f9_areSteps f9_foundMany f9_many f9_rank f9_freeMany f9_arePlans f9_planMany ai al x2 f9_size (by omega) (by omega) (by omega) (by omega) (by omega) (by omega) (by omega) (by omega) (by omega) hI
    refine k2S_i ⟨hx, hb, hml, hown, hts⟩ hK hP_2 hD_3 hS_1 hA hX cs_RX9_116 hM ⟨by decide +kernel, by decide +kernel⟩ rfl rfl (Or.inl rfl) (rest := []) rfl hl.1 rfl (Nat.le_of_ble_eq_true rfl) dX9_put_16 ⟨Nat.le_of_ble_eq_true rfl, Nat.le_of_ble_eq_true rfl⟩ (fun r3 t H1 locs_5 ht hB hS_5 hFc => ?_)
    obtain ⟨⟨gpr3_0, gpr3_1⟩, hP_6, -, hD_6⟩ := hB
    rw [ht] at hP_6
    have hD_7 := hD_6.weaken (B := A) (fun k q _ h9 => hFc q.1 h9)
    clear ht
    generalize H1 = H_8 at hP_6 hS_5 ⊢
    refine lv_if_ne (tgt := 28) hx hb dX9_put_19 (by decide) (fun c4 => ?_) (fun c4 => ?_)
    · have c4 := j_ne (a := r3.toInt) (b := 0) rfl (by decide +kernel) c4
      refine lv_iload_n hx hb dX9_put_28 rfl (lv_at hl 3 rfl) ?_
      refine lv_bipush (v := (-6)) hx hb dX9_put_29 (by decide) ?_
      refine lv_icmp_ge (tgt := 41) hx hb dX9_put_31 (by decide) (fun c5 => ?_) (fun c5 => ?_)
      · have c5 := j_le (a := (-6)) (b := x3.toInt) (by decide +kernel) rfl c5
        refine lv_iload_n hx hb dX9_put_41 rfl (lv_at hl 3 rfl) ?_
        refine lv_bipush (v := 6) hx hb dX9_put_42 (by decide) ?_
        refine lv_icmp_le (tgt := 54) hx hb dX9_put_44 (by decide) (fun c6 => ?_) (fun c6 => ?_)
        · have c6 := j_le (a := x3.toInt) (b := 6) rfl (by decide +kernel) c6
          refine lv_aload_n hx hb dX9_put_54 rfl (lv_at hl 0 rfl) ?_
          refine gf (k := 0) hx hb hts inX9 hown hK hP_6 k_795 rfl (by decide) rfl 22 rfl (.ref (ad 0)) rfl dX9_put_55 ?_
          refine lv_iconst (v := 4) hx hb dX9_put_58 (by decide) ?_
          refine lv_iload_n hx hb dX9_put_59 rfl (lv_at hl 1 rfl) ?_
          refine v_imul hx hb dX9_put_60 _ rfl ?_
          refine lv_topi (fun z7 e_z7 => ?_)
          have g_z7 : z7.toInt = 4 * x1.toInt := by rw [e_z7]; exact n_mul (a := 4) (b := x1.toInt) (by decide +kernel) rfl (by omega) (by omega)
          refine lv_iload_n hx hb dX9_put_61 rfl (lv_at hl 2 rfl) ?_
          refine v_iadd hx hb dX9_put_62 _ rfl ?_
          refine lv_topi (fun z8 e_z8 => ?_)
          have g_z8 : z8.toInt = z7.toInt + x2.toInt := by rw [e_z8]; exact n_add (a := z7.toInt) (b := x2.toInt) rfl rfl (by omega) (by omega)
          refine va_iald hx hb hK hP_6 0 0 rfl rfl (j_in (a := z8.toInt) rfl (by omega) (by omega)) dX9_put_63 ?_
          refine lv_topi (fun z9 e_z9 => ?_)
          refine lv_istore (lv' := [(4, .int z9), (0, .ref (ad 22)), (1, .int x1), (2, .int x2), (3, .int x3)]) hx hb dX9_put_64 hl (by decide) rfl (fun ls_9 hl_9 => ?_)
          refine lv_aload_n hx hb dX9_put_66 rfl (lv_at hl_9 1 rfl) ?_
          refine gf (k := 0) hx hb hts inX9 hown hK hP_6 k_795 rfl (by decide) rfl 22 rfl (.ref (ad 0)) rfl dX9_put_67 ?_
          refine lv_iconst (v := 4) hx hb dX9_put_70 (by decide) ?_
          refine lv_iload_n hx hb dX9_put_71 rfl (lv_at hl_9 2 rfl) ?_
          refine v_imul hx hb dX9_put_72 _ rfl ?_
          refine lv_topi (fun z10 e_z10 => ?_)
          have g_z10 : z10.toInt = 4 * x1.toInt := by rw [e_z10]; exact n_mul (a := 4) (b := x1.toInt) (by decide +kernel) rfl (by omega) (by omega)
          refine lv_iload_n hx hb dX9_put_73 rfl (lv_at hl_9 3 rfl) ?_
          refine v_iadd hx hb dX9_put_74 _ rfl ?_
          refine lv_topi (fun z11 e_z11 => ?_)
          have g_z11 : z11.toInt = z10.toInt + x2.toInt := by rw [e_z11]; exact n_add (a := z10.toInt) (b := x2.toInt) rfl rfl (by omega) (by omega)
          refine lv_iload_n hx hb dX9_put_75 rfl (lv_at hl_9 4 rfl) ?_
          refine va_iast hx hb hK hP_6 hD_7 hS_5 0 0 rfl rfl (j_in (a := z11.toInt) rfl (by omega) (by omega)) dX9_put_76 (fun H_10 locs_10 hP_10 hD_10 hS_10 => ?_)
          obtain ⟨ai12, e_ai12⟩ : ∃ q : Nat → Nat → Int32, q = va_up ai 0 (upd (ai 0) z11.toNatClampNeg x3) := ⟨_, rfl⟩
          have hI_11 : IAM ai12 := by rw [e_ai12]; exact hI
          have hP_12 : va_P (dC, dI) vwCl (WM cI cJ cII cJJ ad f9_size f9_equations f9_areSteps f9_foundMany f9_many f9_rank f9_freeMany f9_arePlans f9_planMany ai12 al) H_10 := by rw [e_ai12]; exact hP_10
          have hD_13 : va_D A (WM cI cJ cII cJJ ad f9_size f9_equations f9_areSteps f9_foundMany f9_many f9_rank f9_freeMany f9_arePlans f9_planMany ai12 al) := by rw [e_ai12]; exact hD_10
          refine lv_aload_n hx hb dX9_put_77 rfl (lv_at hl_9 1 rfl) ?_
          refine lv_iconst (v := 0) hx hb dX9_put_78 (by decide) ?_
          refine pf (k := 14) hx hb hts inX9 tyX9_ok nmX9 hown hK hP_12 hD_13 hS_10 k_809 rfl (by decide) rfl rfl 22 rfl rfl rfl (Nat.le_of_ble_eq_true rfl) dX9_put_79 (W' := (WM cI cJ cII cJJ ad f9_size f9_equations 0 f9_foundMany f9_many f9_rank f9_freeMany f9_arePlans f9_planMany ai12 al)) rfl (fun H_14 locs_14 hP_14 hD_14 hS_14 => ?_)
          refine lv_aload_n hx hb dX9_put_82 rfl (lv_at hl_9 1 rfl) ?_
          refine lv_iconst (v := 0) hx hb dX9_put_83 (by decide) ?_
          refine pf (k := 33) hx hb hts inX9 tyX9_ok nmX9 hown hK hP_14 hD_14 hS_14 k_828 rfl (by decide) rfl rfl 22 rfl rfl rfl (Nat.le_of_ble_eq_true rfl) dX9_put_84 (W' := (WM cI cJ cII cJJ ad f9_size f9_equations 0 f9_foundMany f9_many f9_rank f9_freeMany 0 f9_planMany ai12 al)) rfl (fun H_15 locs_15 hP_15 hD_15 hS_15 => ?_)
          refine lv_iload hx hb dX9_put_87 (lv_at hl_9 0 rfl) ?_
          exact r2_i hx hb hr hk hS_15 dX9_put_89 (fun t ht hW => ⟨0, 0, ai12, ⟨(by first | omega | decide | exact Or.inl (by decide) | exact Or.inr (by omega)), (by first | omega | decide | exact Or.inl (by decide) | exact Or.inr (by omega)), hI_11⟩, by rw [ht]; exact hP_15, va_K.moved hW.alike hK, hD_15⟩)
        · have c6 := j_nle (a := x3.toInt) (b := 6) rfl (by decide +kernel) c6
          refine lv_aload_n hx hb dX9_put_47 rfl (lv_at hl 0 rfl) ?_
          refine lv_bipush (v := (-6)) hx hb dX9_put_48 (by decide) ?_
          have kcm6 : ((-6) : Int32).toInt = (-6) := by decide +kernel
          have hM := r002_X9_refuse l dC dI cI cJ cII cJJ H_8.size 0 ad f9_size f9_equations f9_areSteps f9_foundMany f9_many f9_rank f9_freeMany f9_arePlans f9_planMany ai al (-6) (by decide +kernel) (by omega) (by omega) (by omega) (by omega) (by omega) (by omega) (by omega) (by omega) (by omega) hI
          refine k2V_i (q0 := 22) ⟨hx, hb, hml, hown, hts⟩ hK hP_6 hD_7 hS_5 hA hX cv_RX9_112 hM ⟨by decide +kernel, by decide +kernel⟩ rfl rfl (Or.inl rfl) (rest := []) rfl rfl rfl hl.1 rfl (Nat.le_of_ble_eq_true rfl) dX9_put_50 ⟨Nat.le_of_ble_eq_true rfl, Nat.le_of_ble_eq_true rfl⟩ (fun r13 t H1 locs_16 ht hB hS_16 hFc => ?_)
          obtain ⟨ai14, ⟨gpr13_0, hI_17⟩, hP_17, -, hD_17⟩ := hB
          rw [ht] at hP_17
          have hD_18 := hD_17.weaken (B := A) (fun k q _ h9 => hFc q.1 h9)
          clear ht
          generalize H1 = H_19 at hP_17 hS_16 ⊢
          exact r2_i hx hb hr hk hS_16 dX9_put_53 (fun t ht hW => ⟨f9_areSteps, f9_arePlans, ai14, ⟨(by first | omega | decide | exact Or.inl (by decide) | exact Or.inr (by omega)), (by first | omega | decide | exact Or.inl (by decide) | exact Or.inr (by omega)), hI_17⟩, by rw [ht]; exact hP_17, va_K.moved hW.alike hK, hD_18⟩)
      · have c5 := j_nle (a := (-6)) (b := x3.toInt) (by decide +kernel) rfl c5
        refine lv_aload_n hx hb dX9_put_34 rfl (lv_at hl 0 rfl) ?_
        refine lv_bipush (v := (-4)) hx hb dX9_put_35 (by decide) ?_
        have kcm4 : ((-4) : Int32).toInt = (-4) := by decide +kernel
        have hM := r002_X9_refuse l dC dI cI cJ cII cJJ H_8.size 0 ad f9_size f9_equations f9_areSteps f9_foundMany f9_many f9_rank f9_freeMany f9_arePlans f9_planMany ai al (-4) (by decide +kernel) (by omega) (by omega) (by omega) (by omega) (by omega) (by omega) (by omega) (by omega) (by omega) hI
        refine k2V_i (q0 := 22) ⟨hx, hb, hml, hown, hts⟩ hK hP_6 hD_7 hS_5 hA hX cv_RX9_112 hM ⟨by decide +kernel, by decide +kernel⟩ rfl rfl (Or.inl rfl) (rest := []) rfl rfl rfl hl.1 rfl (Nat.le_of_ble_eq_true rfl) dX9_put_37 ⟨Nat.le_of_ble_eq_true rfl, Nat.le_of_ble_eq_true rfl⟩ (fun r15 t H1 locs_20 ht hB hS_20 hFc => ?_)
        obtain ⟨ai16, ⟨gpr15_0, hI_21⟩, hP_21, -, hD_21⟩ := hB
        rw [ht] at hP_21
        have hD_22 := hD_21.weaken (B := A) (fun k q _ h9 => hFc q.1 h9)
        clear ht
        generalize H1 = H_23 at hP_21 hS_20 ⊢
        exact r2_i hx hb hr hk hS_20 dX9_put_40 (fun t ht hW => ⟨f9_areSteps, f9_arePlans, ai16, ⟨(by first | omega | decide | exact Or.inl (by decide) | exact Or.inr (by omega)), (by first | omega | decide | exact Or.inl (by decide) | exact Or.inr (by omega)), hI_21⟩, by rw [ht]; exact hP_21, va_K.moved hW.alike hK, hD_22⟩)
    · have c4 := j_eq (a := r3.toInt) (b := 0) rfl (by decide +kernel) c4
      exact r006_X9_put_b22 C  x1 x2 x3 f9_areSteps f9_arePlans ai _ _ _ (by omega) (by omega) (by omega) (by omega) (by omega) (by omega) (by omega) (by omega) (by omega) hI hP_6 hD_7 hS_5 (lv_sub hl [0, 1, 2, 3] rfl)
def Q_r007_X9_right (dC : Nat → ClassId) (dI : Nat → Nat → Nat) (cI cJ cII cJJ : ClassId) (ad : Nat → Nat) (f9_size f9_equations f9_areSteps f9_foundMany f9_many f9_rank f9_freeMany f9_planMany : Int32) (al : Nat → Nat → Int64) : (Nat → Prop) → Array Value → State → Outcome → State → Prop := fun A => QI (fun r t => ∃ (n_f9_arePlans : Int32), ∃ (n_ai : Nat → Nat → Int32), ((0 ≤ n_f9_arePlans.toInt ∧ n_f9_arePlans.toInt ≤ 1) ∧ IAM n_ai) ∧ WO dC dI (TY cI cJ cII cJJ) (WM cI cJ cII cJJ ad f9_size f9_equations f9_areSteps f9_foundMany f9_many f9_rank f9_freeMany n_f9_arePlans f9_planMany n_ai al) A t) A
set_option maxRecDepth 100000 in
set_option maxHeartbeats 4000000 in
theorem r007_X9_right (l : Launch) (dC : Nat → ClassId) (dI : Nat → Nat → Nat) (cI cJ cII cJJ : ClassId) (sz g : Nat) (ad : Nat → Nat) (f9_size f9_equations f9_areSteps f9_foundMany f9_many f9_rank f9_freeMany f9_arePlans f9_planMany : Int32) (ai : Nat → Nat → Int32) (al : Nat → Nat → Int64) (x1 : Int32) (x2 : Int32) (h_f9_size : (1 ≤ f9_size.toInt ∧ f9_size.toInt ≤ 4)) (h_f9_equations : (0 ≤ f9_equations.toInt ∧ f9_equations.toInt ≤ 3)) (h_f9_areSteps : (0 ≤ f9_areSteps.toInt ∧ f9_areSteps.toInt ≤ 1)) (h_f9_foundMany : (0 ≤ f9_foundMany.toInt ∧ f9_foundMany.toInt ≤ 99999)) (h_f9_many : (0 ≤ f9_many.toInt ∧ f9_many.toInt ≤ 6000)) (h_f9_rank : (0 ≤ f9_rank.toInt ∧ f9_rank.toInt ≤ 3)) (h_f9_freeMany : (0 ≤ f9_freeMany.toInt ∧ f9_freeMany.toInt ≤ 4)) (h_f9_arePlans : (0 ≤ f9_arePlans.toInt ∧ f9_arePlans.toInt ≤ 1)) (h_f9_planMany : (0 ≤ f9_planMany.toInt ∧ f9_planMany.toInt ≤ 194481)) (hI : IAM ai) : Met l yX9_right (.code yX9_right cX9_right 4 (some .int) :: TT) ({ frames := 3, cells := 0, slots := 0, locals := 140 } : Room) (PcS dC dI (TY cI cJ cII cJJ) [.ref (ad 22), .int x1, .int x2] (WM cI cJ cII cJJ ad f9_size f9_equations f9_areSteps f9_foundMany f9_many f9_rank f9_freeMany f9_arePlans f9_planMany ai al) sz 0 g) (Q_r007_X9_right dC dI cI cJ cII cJJ ad f9_size f9_equations f9_areSteps f9_foundMany f9_many f9_rank f9_freeMany f9_planMany al (va_A (WM cI cJ cII cJJ ad f9_size f9_equations f9_areSteps f9_foundMany f9_many f9_rank f9_freeMany f9_arePlans f9_planMany ai al) sz)) 0 0 (va_A (WM cI cJ cII cJJ ad f9_size f9_equations f9_areSteps f9_foundMany f9_many f9_rank f9_freeMany f9_arePlans f9_planMany ai al) sz) := by
  refine SM.of (y := yX9_right) (maxL := 4) (av := [.ref (ad 22), .int x1, .int x2]) (Q_r007_X9_right dC dI cI cJ cII cJJ ad f9_size f9_equations f9_areSteps f9_foundMany f9_many f9_rank f9_freeMany f9_planMany al) (by decide +kernel) (Nat.le_of_ble_eq_true rfl) (fun p e s m below meth c A ls hx hb hr hml hown hts hk hnm hA hK hP hD hS hX hl => ?_)
  have C : Cx p c s m meth (([.ref (ad 22), .int x1, .int x2] : List Value).toArray) A dC dI (TY cI cJ cII cJJ) cX9_right (some .int) 4 RX9 0 g := ⟨hx, hb, hr, hml, hown, hts, hk, hA, hK, hX⟩
  have hown : s.vm.findClass RX9 = some m.cls := hown
  have hl : lv_has ls 4 [(0, .ref (ad 22)), (1, .int x1), (2, .int x2)] := hl
  obtain ⟨H, hH⟩ : ∃ q, q = s.heap := ⟨_, rfl⟩
  rw [← hH] at hP
  have hS : va_S A s.heap H [] := by rw [hH]; exact hS
  rw [← hH]
  have ra_x1 := s_any x1
  have ra_x2 := s_any x2
  refine lv_iload_n hx hb dX9_right_0 rfl (lv_at hl 1 rfl) ?_
  refine lv_aload_n hx hb dX9_right_1 rfl (lv_at hl 0 rfl) ?_
  refine gf (k := 13) hx hb hts inX9 hown hK hP k_808 rfl (by decide) rfl 22 rfl (.int f9_equations) rfl dX9_right_2 ?_
  have hM := r001_X9_isIn l dC dI cI cJ cII cJJ H.size 0 ad f9_size f9_equations f9_areSteps f9_foundMany f9_many f9_rank f9_freeMany f9_arePlans f9_planMany ai al x1 f9_equations (by omega) (by omega) (by omega) (by omega) (by omega) (by omega) (by omega) (by omega) (by omega) hI
  refine k2S_i ⟨hx, hb, hml, hown, hts⟩ hK hP hD hS hA hX cs_RX9_116 hM ⟨by decide +kernel, by decide +kernel⟩ rfl rfl (Or.inl rfl) (rest := []) rfl hl.1 rfl (Nat.le_of_ble_eq_true rfl) dX9_right_5 ⟨Nat.le_of_ble_eq_true rfl, Nat.le_of_ble_eq_true rfl⟩ (fun r1 t H1 locs_1 ht hB hS_1 hFc => ?_)
  obtain ⟨⟨gpr1_0, gpr1_1⟩, hP_2, -, hD_2⟩ := hB
  rw [ht] at hP_2
  have hD_3 := hD_2.weaken (B := A) (fun k q _ h9 => hFc q.1 h9)
  clear ht
  generalize H1 = H_4 at hP_2 hS_1 ⊢
  refine lv_if_ne (tgt := 17) hx hb dX9_right_8 (by decide) (fun c2 => ?_) (fun c2 => ?_)
  · have c2 := j_ne (a := r1.toInt) (b := 0) rfl (by decide +kernel) c2
    refine lv_iload_n hx hb dX9_right_17 rfl (lv_at hl 2 rfl) ?_
    refine lv_sipush (v := (-200)) hx hb dX9_right_18 (by decide) ?_
    refine lv_icmp_ge (tgt := 31) hx hb dX9_right_21 (by decide) (fun c3 => ?_) (fun c3 => ?_)
    · have c3 := j_le (a := (-200)) (b := x2.toInt) (by decide +kernel) rfl c3
      refine lv_iload_n hx hb dX9_right_31 rfl (lv_at hl 2 rfl) ?_
      refine lv_sipush (v := 200) hx hb dX9_right_32 (by decide) ?_
      refine lv_icmp_le (tgt := 45) hx hb dX9_right_35 (by decide) (fun c4 => ?_) (fun c4 => ?_)
      · have c4 := j_le (a := x2.toInt) (b := 200) rfl (by decide +kernel) c4
        refine lv_aload_n hx hb dX9_right_45 rfl (lv_at hl 0 rfl) ?_
        refine gf (k := 1) hx hb hts inX9 hown hK hP_2 k_796 rfl (by decide) rfl 22 rfl (.ref (ad 1)) rfl dX9_right_46 ?_
        refine lv_iload_n hx hb dX9_right_49 rfl (lv_at hl 1 rfl) ?_
        refine va_iald hx hb hK hP_2 1 0 rfl rfl (j_in (a := x1.toInt) rfl (by omega) (by omega)) dX9_right_50 ?_
        refine lv_topi (fun z5 e_z5 => ?_)
        refine lv_istore_n (lv' := [(3, .int z5), (0, .ref (ad 22)), (1, .int x1), (2, .int x2)]) hx hb dX9_right_51 rfl hl (by decide) rfl (fun ls_5 hl_5 => ?_)
        refine lv_aload_n hx hb dX9_right_52 rfl (lv_at hl_5 1 rfl) ?_
        refine gf (k := 1) hx hb hts inX9 hown hK hP_2 k_796 rfl (by decide) rfl 22 rfl (.ref (ad 1)) rfl dX9_right_53 ?_
        refine lv_iload_n hx hb dX9_right_56 rfl (lv_at hl_5 2 rfl) ?_
        refine lv_iload_n hx hb dX9_right_57 rfl (lv_at hl_5 3 rfl) ?_
        refine va_iast hx hb hK hP_2 hD_3 hS_1 1 0 rfl rfl (j_in (a := x1.toInt) rfl (by omega) (by omega)) dX9_right_58 (fun H_6 locs_6 hP_6 hD_6 hS_6 => ?_)
        obtain ⟨ai6, e_ai6⟩ : ∃ q : Nat → Nat → Int32, q = va_up ai 1 (upd (ai 1) x1.toNatClampNeg x2) := ⟨_, rfl⟩
        have hI_7 : IAM ai6 := by rw [e_ai6]; exact hI
        have hP_8 : va_P (dC, dI) vwCl (WM cI cJ cII cJJ ad f9_size f9_equations f9_areSteps f9_foundMany f9_many f9_rank f9_freeMany f9_arePlans f9_planMany ai6 al) H_6 := by rw [e_ai6]; exact hP_6
        have hD_9 : va_D A (WM cI cJ cII cJJ ad f9_size f9_equations f9_areSteps f9_foundMany f9_many f9_rank f9_freeMany f9_arePlans f9_planMany ai6 al) := by rw [e_ai6]; exact hD_6
        refine lv_aload_n hx hb dX9_right_59 rfl (lv_at hl_5 1 rfl) ?_
        refine lv_iconst (v := 0) hx hb dX9_right_60 (by decide) ?_
        refine pf (k := 33) hx hb hts inX9 tyX9_ok nmX9 hown hK hP_8 hD_9 hS_6 k_828 rfl (by decide) rfl rfl 22 rfl rfl rfl (Nat.le_of_ble_eq_true rfl) dX9_right_61 (W' := (WM cI cJ cII cJJ ad f9_size f9_equations f9_areSteps f9_foundMany f9_many f9_rank f9_freeMany 0 f9_planMany ai6 al)) rfl (fun H_10 locs_10 hP_10 hD_10 hS_10 => ?_)
        refine lv_iload_n hx hb dX9_right_64 rfl (lv_at hl_5 0 rfl) ?_
        exact r2_i hx hb hr hk hS_10 dX9_right_65 (fun t ht hW => ⟨0, ai6, ⟨(by first | omega | decide | exact Or.inl (by decide) | exact Or.inr (by omega)), hI_7⟩, by rw [ht]; exact hP_10, va_K.moved hW.alike hK, hD_10⟩)
      · have c4 := j_nle (a := x2.toInt) (b := 200) rfl (by decide +kernel) c4
        refine lv_aload_n hx hb dX9_right_38 rfl (lv_at hl 0 rfl) ?_
        refine lv_bipush (v := (-6)) hx hb dX9_right_39 (by decide) ?_
        have kcm6 : ((-6) : Int32).toInt = (-6) := by decide +kernel
        have hM := r002_X9_refuse l dC dI cI cJ cII cJJ H_4.size 0 ad f9_size f9_equations f9_areSteps f9_foundMany f9_many f9_rank f9_freeMany f9_arePlans f9_planMany ai al (-6) (by decide +kernel) (by omega) (by omega) (by omega) (by omega) (by omega) (by omega) (by omega) (by omega) (by omega) hI
        refine k2V_i (q0 := 22) ⟨hx, hb, hml, hown, hts⟩ hK hP_2 hD_3 hS_1 hA hX cv_RX9_112 hM ⟨by decide +kernel, by decide +kernel⟩ rfl rfl (Or.inl rfl) (rest := []) rfl rfl rfl hl.1 rfl (Nat.le_of_ble_eq_true rfl) dX9_right_41 ⟨Nat.le_of_ble_eq_true rfl, Nat.le_of_ble_eq_true rfl⟩ (fun r7 t H1 locs_11 ht hB hS_11 hFc => ?_)
        obtain ⟨ai8, ⟨gpr7_0, hI_12⟩, hP_12, -, hD_12⟩ := hB
        rw [ht] at hP_12
        have hD_13 := hD_12.weaken (B := A) (fun k q _ h9 => hFc q.1 h9)
        clear ht
        generalize H1 = H_14 at hP_12 hS_11 ⊢
        exact r2_i hx hb hr hk hS_11 dX9_right_44 (fun t ht hW => ⟨f9_arePlans, ai8, ⟨(by first | omega | decide | exact Or.inl (by decide) | exact Or.inr (by omega)), hI_12⟩, by rw [ht]; exact hP_12, va_K.moved hW.alike hK, hD_13⟩)
    · have c3 := j_nle (a := (-200)) (b := x2.toInt) (by decide +kernel) rfl c3
      refine lv_aload_n hx hb dX9_right_24 rfl (lv_at hl 0 rfl) ?_
      refine lv_bipush (v := (-4)) hx hb dX9_right_25 (by decide) ?_
      have kcm4 : ((-4) : Int32).toInt = (-4) := by decide +kernel
      have hM := r002_X9_refuse l dC dI cI cJ cII cJJ H_4.size 0 ad f9_size f9_equations f9_areSteps f9_foundMany f9_many f9_rank f9_freeMany f9_arePlans f9_planMany ai al (-4) (by decide +kernel) (by omega) (by omega) (by omega) (by omega) (by omega) (by omega) (by omega) (by omega) (by omega) hI
      refine k2V_i (q0 := 22) ⟨hx, hb, hml, hown, hts⟩ hK hP_2 hD_3 hS_1 hA hX cv_RX9_112 hM ⟨by decide +kernel, by decide +kernel⟩ rfl rfl (Or.inl rfl) (rest := []) rfl rfl rfl hl.1 rfl (Nat.le_of_ble_eq_true rfl) dX9_right_27 ⟨Nat.le_of_ble_eq_true rfl, Nat.le_of_ble_eq_true rfl⟩ (fun r9 t H1 locs_15 ht hB hS_15 hFc => ?_)
      obtain ⟨ai10, ⟨gpr9_0, hI_16⟩, hP_16, -, hD_16⟩ := hB
      rw [ht] at hP_16
      have hD_17 := hD_16.weaken (B := A) (fun k q _ h9 => hFc q.1 h9)
      clear ht
      generalize H1 = H_18 at hP_16 hS_15 ⊢
      exact r2_i hx hb hr hk hS_15 dX9_right_30 (fun t ht hW => ⟨f9_arePlans, ai10, ⟨(by first | omega | decide | exact Or.inl (by decide) | exact Or.inr (by omega)), hI_16⟩, by rw [ht]; exact hP_16, va_K.moved hW.alike hK, hD_17⟩)
  · have c2 := j_eq (a := r1.toInt) (b := 0) rfl (by decide +kernel) c2
    refine lv_aload_n hx hb dX9_right_11 rfl (lv_at hl 0 rfl) ?_
    refine lv_iconst (v := (-1)) hx hb dX9_right_12 (by decide) ?_
    have kcm1 : ((-1) : Int32).toInt = (-1) := by decide +kernel
    have hM := r002_X9_refuse l dC dI cI cJ cII cJJ H_4.size 0 ad f9_size f9_equations f9_areSteps f9_foundMany f9_many f9_rank f9_freeMany f9_arePlans f9_planMany ai al (-1) (by decide +kernel) (by omega) (by omega) (by omega) (by omega) (by omega) (by omega) (by omega) (by omega) (by omega) hI
    refine k2V_i (q0 := 22) ⟨hx, hb, hml, hown, hts⟩ hK hP_2 hD_3 hS_1 hA hX cv_RX9_112 hM ⟨by decide +kernel, by decide +kernel⟩ rfl rfl (Or.inl rfl) (rest := []) rfl rfl rfl hl.1 rfl (Nat.le_of_ble_eq_true rfl) dX9_right_13 ⟨Nat.le_of_ble_eq_true rfl, Nat.le_of_ble_eq_true rfl⟩ (fun r11 t H1 locs_19 ht hB hS_19 hFc => ?_)
    obtain ⟨ai12, ⟨gpr11_0, hI_20⟩, hP_20, -, hD_20⟩ := hB
    rw [ht] at hP_20
    have hD_21 := hD_20.weaken (B := A) (fun k q _ h9 => hFc q.1 h9)
    clear ht
    generalize H1 = H_22 at hP_20 hS_19 ⊢
    exact r2_i hx hb hr hk hS_19 dX9_right_16 (fun t ht hW => ⟨f9_arePlans, ai12, ⟨(by first | omega | decide | exact Or.inl (by decide) | exact Or.inr (by omega)), hI_20⟩, by rw [ht]; exact hP_20, va_K.moved hW.alike hK, hD_21⟩)
def Q_r008_X9_bound (dC : Nat → ClassId) (dI : Nat → Nat → Nat) (cI cJ cII cJJ : ClassId) (ad : Nat → Nat) (f9_size f9_equations f9_areSteps f9_foundMany f9_many f9_rank f9_freeMany f9_planMany : Int32) (al : Nat → Nat → Int64) : (Nat → Prop) → Array Value → State → Outcome → State → Prop := fun A => QI (fun r t => ∃ (n_f9_arePlans : Int32), ∃ (n_ai : Nat → Nat → Int32), ((-7 ≤ r.toInt ∧ r.toInt ≤ 1) ∧ (0 ≤ n_f9_arePlans.toInt ∧ n_f9_arePlans.toInt ≤ 1) ∧ IAM n_ai) ∧ WO dC dI (TY cI cJ cII cJJ) (WM cI cJ cII cJJ ad f9_size f9_equations f9_areSteps f9_foundMany f9_many f9_rank f9_freeMany n_f9_arePlans f9_planMany n_ai al) A t) A
set_option maxRecDepth 100000 in
set_option maxHeartbeats 4000000 in
theorem r008_X9_bound_b48 {p : Program} {l : Launch} {e : Env} {s : State} {m : MethodId} {args : Array Value} {below : List Frame} {meth : Method} {c : Code} {A : Nat → Prop} {dC : Nat → ClassId} {dI : Nat → Nat → Nat} {cI cJ cII cJJ : ClassId} {ad : Nat → Nat} {g : Nat} {f9_size f9_equations f9_areSteps f9_foundMany f9_many f9_rank f9_freeMany f9_planMany : Int32} {al : Nat → Nat → Int64} (C : Cx p c s m meth args A dC dI (TY cI cJ cII cJJ) cX9_bound (some .int) 4 RX9 0 g) : ∀ (L1 L2 L3 f9_arePlans : Int32) (ai : Nat → Nat → Int32) (H : Heap) (locs : List Loc) (ls : Array Slot), (0 ≤ L1.toInt ∧ L1.toInt ≤ 3) → -10 ≤ L2.toInt → -10 ≤ L3.toInt → (1 ≤ f9_size.toInt ∧ f9_size.toInt ≤ 4) → (0 ≤ f9_equations.toInt ∧ f9_equations.toInt ≤ 3) → (0 ≤ f9_areSteps.toInt ∧ f9_areSteps.toInt ≤ 1) → (0 ≤ f9_foundMany.toInt ∧ f9_foundMany.toInt ≤ 99999) → (0 ≤ f9_many.toInt ∧ f9_many.toInt ≤ 6000) → (0 ≤ f9_rank.toInt ∧ f9_rank.toInt ≤ 3) → (0 ≤ f9_freeMany.toInt ∧ f9_freeMany.toInt ≤ 4) → (0 ≤ f9_arePlans.toInt ∧ f9_arePlans.toInt ≤ 1) → (0 ≤ f9_planMany.toInt ∧ f9_planMany.toInt ≤ 194481) → IAM ai → va_P (dC, dI) vwCl (WM cI cJ cII cJJ ad f9_size f9_equations f9_areSteps f9_foundMany f9_many f9_rank f9_freeMany f9_arePlans f9_planMany ai al) H → va_D A (WM cI cJ cII cJJ ad f9_size f9_equations f9_areSteps f9_foundMany f9_many f9_rank f9_freeMany f9_arePlans f9_planMany ai al) → va_S A s.heap H locs → lv_has ls 4 [(0, .ref (ad 22)), (1, .int L1), (2, .int L2), (3, .int L3)] → W p l e ({ frames := 3, cells := 0, slots := 0, locals := 140 } : Room) s m args below meth c H locs 0 0 (MQ below (Q_r008_X9_bound dC dI cI cJ cII cJJ ad f9_size f9_equations f9_areSteps f9_foundMany f9_many f9_rank f9_freeMany f9_planMany al A) args s 0 0 A) (F0 m 48 ls []) := by
  obtain ⟨hx, hb, hr, hml, hown, hts, hk, hA, hK, hX⟩ := id C
  intro L1 L2 L3 f9_arePlans ai H locs ls h0 h1 h2 h3 h4 h5 h6 h7 h8 h9 h10 h11 hI hP hD hS hl
  have ra_L2 := s_any L2
  have ra_L3 := s_any L3
  refine lv_aload_n hx hb dX9_bound_48 rfl (lv_at hl 0 rfl) ?_
  refine lv_bipush (v := (-6)) hx hb dX9_bound_49 (by decide) ?_
  have kcm6 : ((-6) : Int32).toInt = (-6) := by decide +kernel
  have hM := r002_X9_refuse l dC dI cI cJ cII cJJ H.size 0 ad f9_size f9_equations f9_areSteps f9_foundMany f9_many f9_rank f9_freeMany f9_arePlans f9_planMany ai al (-6) (by decide +kernel) (by omega) (by omega) (by omega) (by omega) (by omega) (by omega) (by omega) (by omega) (by omega) hI
  refine k2V_i (q0 := 22) ⟨hx, hb, hml, hown, hts⟩ hK hP hD hS hA hX cv_RX9_112 hM ⟨by decide +kernel, by decide +kernel⟩ rfl rfl (Or.inl rfl) (rest := []) rfl rfl rfl hl.1 rfl (Nat.le_of_ble_eq_true rfl) dX9_bound_51 ⟨Nat.le_of_ble_eq_true rfl, Nat.le_of_ble_eq_true rfl⟩ (fun r1 t H1 locs_1 ht hB hS_1 hFc => ?_)
  obtain ⟨ai2, ⟨gpr1_0, hI_2⟩, hP_2, -, hD_2⟩ := hB
  rw [ht] at hP_2
  have hD_3 := hD_2.weaken (B := A) (fun k q _ h9 => hFc q.1 h9)
  clear ht
  generalize H1 = H_4 at hP_2 hS_1 ⊢
  exact r2_i hx hb hr hk hS_1 dX9_bound_54 (fun t ht hW => ⟨f9_arePlans, ai2, ⟨(by first | omega | decide | exact Or.inl (by decide) | exact Or.inr (by omega)), (by first | omega | decide | exact Or.inl (by decide) | exact Or.inr (by omega)), hI_2⟩, by rw [ht]; exact hP_2, va_K.moved hW.alike hK, hD_3⟩)
set_option maxRecDepth 100000 in
set_option maxHeartbeats 4000000 in
theorem r008_X9_bound_b29 {p : Program} {l : Launch} {e : Env} {s : State} {m : MethodId} {args : Array Value} {below : List Frame} {meth : Method} {c : Code} {A : Nat → Prop} {dC : Nat → ClassId} {dI : Nat → Nat → Nat} {cI cJ cII cJJ : ClassId} {ad : Nat → Nat} {g : Nat} {f9_size f9_equations f9_areSteps f9_foundMany f9_many f9_rank f9_freeMany f9_planMany : Int32} {al : Nat → Nat → Int64} (C : Cx p c s m meth args A dC dI (TY cI cJ cII cJJ) cX9_bound (some .int) 4 RX9 0 g) : ∀ (L1 L2 L3 f9_arePlans : Int32) (ai : Nat → Nat → Int32) (H : Heap) (locs : List Loc) (ls : Array Slot), (0 ≤ L1.toInt ∧ L1.toInt ≤ 3) → (1 ≤ f9_size.toInt ∧ f9_size.toInt ≤ 4) → (0 ≤ f9_equations.toInt ∧ f9_equations.toInt ≤ 3) → (0 ≤ f9_areSteps.toInt ∧ f9_areSteps.toInt ≤ 1) → (0 ≤ f9_foundMany.toInt ∧ f9_foundMany.toInt ≤ 99999) → (0 ≤ f9_many.toInt ∧ f9_many.toInt ≤ 6000) → (0 ≤ f9_rank.toInt ∧ f9_rank.toInt ≤ 3) → (0 ≤ f9_freeMany.toInt ∧ f9_freeMany.toInt ≤ 4) → (0 ≤ f9_arePlans.toInt ∧ f9_arePlans.toInt ≤ 1) → (0 ≤ f9_planMany.toInt ∧ f9_planMany.toInt ≤ 194481) → IAM ai → va_P (dC, dI) vwCl (WM cI cJ cII cJJ ad f9_size f9_equations f9_areSteps f9_foundMany f9_many f9_rank f9_freeMany f9_arePlans f9_planMany ai al) H → va_D A (WM cI cJ cII cJJ ad f9_size f9_equations f9_areSteps f9_foundMany f9_many f9_rank f9_freeMany f9_arePlans f9_planMany ai al) → va_S A s.heap H locs → lv_has ls 4 [(0, .ref (ad 22)), (1, .int L1), (2, .int L2), (3, .int L3)] → W p l e ({ frames := 3, cells := 0, slots := 0, locals := 140 } : Room) s m args below meth c H locs 0 0 (MQ below (Q_r008_X9_bound dC dI cI cJ cII cJJ ad f9_size f9_equations f9_areSteps f9_foundMany f9_many f9_rank f9_freeMany f9_planMany al A) args s 0 0 A) (F0 m 29 ls []) := by
  obtain ⟨hx, hb, hr, hml, hown, hts, hk, hA, hK, hX⟩ := id C
  intro L1 L2 L3 f9_arePlans ai H locs ls h0 h1 h2 h3 h4 h5 h6 h7 h8 h9 hI hP hD hS hl
  have ra_L2 := s_any L2
  have ra_L3 := s_any L3
  refine lv_aload_n hx hb dX9_bound_29 rfl (lv_at hl 0 rfl) ?_
  refine lv_bipush (v := (-4)) hx hb dX9_bound_30 (by decide) ?_
  have kcm4 : ((-4) : Int32).toInt = (-4) := by decide +kernel
  have hM := r002_X9_refuse l dC dI cI cJ cII cJJ H.size 0 ad f9_size f9_equations f9_areSteps f9_foundMany f9_many f9_rank f9_freeMany f9_arePlans f9_planMany ai al (-4) (by decide +kernel) (by omega) (by omega) (by omega) (by omega) (by omega) (by omega) (by omega) (by omega) (by omega) hI
  refine k2V_i (q0 := 22) ⟨hx, hb, hml, hown, hts⟩ hK hP hD hS hA hX cv_RX9_112 hM ⟨by decide +kernel, by decide +kernel⟩ rfl rfl (Or.inl rfl) (rest := []) rfl rfl rfl hl.1 rfl (Nat.le_of_ble_eq_true rfl) dX9_bound_32 ⟨Nat.le_of_ble_eq_true rfl, Nat.le_of_ble_eq_true rfl⟩ (fun r1 t H1 locs_1 ht hB hS_1 hFc => ?_)
  obtain ⟨ai2, ⟨gpr1_0, hI_2⟩, hP_2, -, hD_2⟩ := hB
  rw [ht] at hP_2
  have hD_3 := hD_2.weaken (B := A) (fun k q _ h9 => hFc q.1 h9)
  clear ht
  generalize H1 = H_4 at hP_2 hS_1 ⊢
  exact r2_i hx hb hr hk hS_1 dX9_bound_35 (fun t ht hW => ⟨f9_arePlans, ai2, ⟨(by first | omega | decide | exact Or.inl (by decide) | exact Or.inr (by omega)), (by first | omega | decide | exact Or.inl (by decide) | exact Or.inr (by omega)), hI_2⟩, by rw [ht]; exact hP_2, va_K.moved hW.alike hK, hD_3⟩)
set_option maxRecDepth 100000 in
set_option maxHeartbeats 4000000 in
theorem r008_X9_bound (l : Launch) (dC : Nat → ClassId) (dI : Nat → Nat → Nat) (cI cJ cII cJJ : ClassId) (sz g : Nat) (ad : Nat → Nat) (f9_size f9_equations f9_areSteps f9_foundMany f9_many f9_rank f9_freeMany f9_arePlans f9_planMany : Int32) (ai : Nat → Nat → Int32) (al : Nat → Nat → Int64) (x1 : Int32) (x2 : Int32) (x3 : Int32) (h_f9_size : (1 ≤ f9_size.toInt ∧ f9_size.toInt ≤ 4)) (h_f9_equations : (0 ≤ f9_equations.toInt ∧ f9_equations.toInt ≤ 3)) (h_f9_areSteps : (0 ≤ f9_areSteps.toInt ∧ f9_areSteps.toInt ≤ 1)) (h_f9_foundMany : (0 ≤ f9_foundMany.toInt ∧ f9_foundMany.toInt ≤ 99999)) (h_f9_many : (0 ≤ f9_many.toInt ∧ f9_many.toInt ≤ 6000)) (h_f9_rank : (0 ≤ f9_rank.toInt ∧ f9_rank.toInt ≤ 3)) (h_f9_freeMany : (0 ≤ f9_freeMany.toInt ∧ f9_freeMany.toInt ≤ 4)) (h_f9_arePlans : (0 ≤ f9_arePlans.toInt ∧ f9_arePlans.toInt ≤ 1)) (h_f9_planMany : (0 ≤ f9_planMany.toInt ∧ f9_planMany.toInt ≤ 194481)) (hI : IAM ai) : Met l yX9_bound (.code yX9_bound cX9_bound 4 (some .int) :: TT) ({ frames := 3, cells := 0, slots := 0, locals := 140 } : Room) (PcS dC dI (TY cI cJ cII cJJ) [.ref (ad 22), .int x1, .int x2, .int x3] (WM cI cJ cII cJJ ad f9_size f9_equations f9_areSteps f9_foundMany f9_many f9_rank f9_freeMany f9_arePlans f9_planMany ai al) sz 0 g) (Q_r008_X9_bound dC dI cI cJ cII cJJ ad f9_size f9_equations f9_areSteps f9_foundMany f9_many f9_rank f9_freeMany f9_planMany al (va_A (WM cI cJ cII cJJ ad f9_size f9_equations f9_areSteps f9_foundMany f9_many f9_rank f9_freeMany f9_arePlans f9_planMany ai al) sz)) 0 0 (va_A (WM cI cJ cII cJJ ad f9_size f9_equations f9_areSteps f9_foundMany f9_many f9_rank f9_freeMany f9_arePlans f9_planMany ai al) sz) := by
  refine SM.of (y := yX9_bound) (maxL := 4) (av := [.ref (ad 22), .int x1, .int x2, .int x3]) (Q_r008_X9_bound dC dI cI cJ cII cJJ ad f9_size f9_equations f9_areSteps f9_foundMany f9_many f9_rank f9_freeMany f9_planMany al) (by decide +kernel) (Nat.le_of_ble_eq_true rfl) (fun p e s m below meth c A ls hx hb hr hml hown hts hk hnm hA hK hP hD hS hX hl => ?_)
  have C : Cx p c s m meth (([.ref (ad 22), .int x1, .int x2, .int x3] : List Value).toArray) A dC dI (TY cI cJ cII cJJ) cX9_bound (some .int) 4 RX9 0 g := ⟨hx, hb, hr, hml, hown, hts, hk, hA, hK, hX⟩
  have hown : s.vm.findClass RX9 = some m.cls := hown
  have hl : lv_has ls 4 [(0, .ref (ad 22)), (1, .int x1), (2, .int x2), (3, .int x3)] := hl
  obtain ⟨H, hH⟩ : ∃ q, q = s.heap := ⟨_, rfl⟩
  rw [← hH] at hP
  have hS : va_S A s.heap H [] := by rw [hH]; exact hS
  rw [← hH]
  have ra_x1 := s_any x1
  have ra_x2 := s_any x2
  have ra_x3 := s_any x3
  refine lv_iload_n hx hb dX9_bound_0 rfl (lv_at hl 1 rfl) ?_
  refine lv_aload_n hx hb dX9_bound_1 rfl (lv_at hl 0 rfl) ?_
  refine gf (k := 12) hx hb hts inX9 hown hK hP k_807 rfl (by decide) rfl 22 rfl (.int f9_size) rfl dX9_bound_2 ?_
  have hM := r001_X9_isIn l dC dI cI cJ cII cJJ H.size 0 ad f9_size f9_equations f9_areSteps f9_foundMany f9_many f9_rank f9_freeMany f9_arePlans f9_planMany ai al x1 f9_size (by omega) (by omega) (by omega) (by omega) (by omega) (by omega) (by omega) (by omega) (by omega) hI
  refine k2S_i ⟨hx, hb, hml, hown, hts⟩ hK hP hD hS hA hX cs_RX9_116 hM ⟨by decide +kernel, by decide +kernel⟩ rfl rfl (Or.inl rfl) (rest := []) rfl hl.1 rfl (Nat.le_of_ble_eq_true rfl) dX9_bound_5 ⟨Nat.le_of_ble_eq_true rfl, Nat.le_of_ble_eq_true rfl⟩ (fun r1 t H1 locs_1 ht hB hS_1 hFc => ?_)
  obtain ⟨⟨gpr1_0, gpr1_1⟩, hP_2, -, hD_2⟩ := hB
  rw [ht] at hP_2
  have hD_3 := hD_2.weaken (B := A) (fun k q _ h9 => hFc q.1 h9)
  clear ht
  generalize H1 = H_4 at hP_2 hS_1 ⊢
  refine lv_if_ne (tgt := 17) hx hb dX9_bound_8 (by decide) (fun c2 => ?_) (fun c2 => ?_)
  · have c2 := j_ne (a := r1.toInt) (b := 0) rfl (by decide +kernel) c2
    refine lv_iload_n hx hb dX9_bound_17 rfl (lv_at hl 2 rfl) ?_
    refine lv_bipush (v := (-10)) hx hb dX9_bound_18 (by decide) ?_
    refine lv_icmp_lt (tgt := 29) hx hb dX9_bound_20 (by decide) (fun c3 => ?_) (fun c3 => ?_)
    · have c3 := j_lt (a := x2.toInt) (b := (-10)) rfl (by decide +kernel) c3
      exact r008_X9_bound_b29 C  x1 x2 x3 f9_arePlans ai _ _ _ (by omega) (by omega) (by omega) (by omega) (by omega) (by omega) (by omega) (by omega) (by omega) (by omega) hI hP_2 hD_3 hS_1 (lv_sub hl [0, 1, 2, 3] rfl)
    · have c3 := j_nlt (a := x2.toInt) (b := (-10)) rfl (by decide +kernel) c3
      refine lv_iload_n hx hb dX9_bound_23 rfl (lv_at hl 3 rfl) ?_
      refine lv_bipush (v := (-10)) hx hb dX9_bound_24 (by decide) ?_
      refine lv_icmp_ge (tgt := 36) hx hb dX9_bound_26 (by decide) (fun c4 => ?_) (fun c4 => ?_)
      · have c4 := j_le (a := (-10)) (b := x3.toInt) (by decide +kernel) rfl c4
        refine lv_iload_n hx hb dX9_bound_36 rfl (lv_at hl 2 rfl) ?_
        refine lv_bipush (v := 10) hx hb dX9_bound_37 (by decide) ?_
        refine lv_icmp_gt (tgt := 48) hx hb dX9_bound_39 (by decide) (fun c5 => ?_) (fun c5 => ?_)
        · have c5 := j_lt (a := 10) (b := x2.toInt) (by decide +kernel) rfl c5
          exact r008_X9_bound_b48 C  x1 x2 x3 f9_arePlans ai _ _ _ (by omega) (by omega) (by omega) (by omega) (by omega) (by omega) (by omega) (by omega) (by omega) (by omega) (by omega) (by omega) hI hP_2 hD_3 hS_1 (lv_sub hl [0, 1, 2, 3] rfl)
        · have c5 := j_nlt (a := 10) (b := x2.toInt) (by decide +kernel) rfl c5
          refine lv_iload_n hx hb dX9_bound_42 rfl (lv_at hl 3 rfl) ?_
          refine lv_bipush (v := 10) hx hb dX9_bound_43 (by decide) ?_
          refine lv_icmp_le (tgt := 55) hx hb dX9_bound_45 (by decide) (fun c6 => ?_) (fun c6 => ?_)
          · have c6 := j_le (a := x3.toInt) (b := 10) rfl (by decide +kernel) c6
            refine lv_aload_n hx hb dX9_bound_55 rfl (lv_at hl 0 rfl) ?_
            refine gf (k := 2) hx hb hts inX9 hown hK hP_2 k_797 rfl (by decide) rfl 22 rfl (.ref (ad 23)) rfl dX9_bound_56 ?_
            refine lv_iload_n hx hb dX9_bound_59 rfl (lv_at hl 1 rfl) ?_
            refine lv_iload_n hx hb dX9_bound_60 rfl (lv_at hl 2 rfl) ?_
            refine va_iast hx hb hK hP_2 hD_3 hS_1 23 0 rfl rfl (j_in (a := x1.toInt) rfl (by omega) (by omega)) dX9_bound_61 (fun H_5 locs_5 hP_5 hD_5 hS_5 => ?_)
            obtain ⟨ai7, e_ai7⟩ : ∃ q : Nat → Nat → Int32, q = va_up ai 23 (upd (ai 23) x1.toNatClampNeg x2) := ⟨_, rfl⟩
            have hI_6 : IAM ai7 := by rw [e_ai7]; exact IAM_st23 hI (a := x2.toInt) rfl (by omega) (by omega)
            have hP_7 : va_P (dC, dI) vwCl (WM cI cJ cII cJJ ad f9_size f9_equations f9_areSteps f9_foundMany f9_many f9_rank f9_freeMany f9_arePlans f9_planMany ai7 al) H_5 := by rw [e_ai7]; exact hP_5
            have hD_8 : va_D A (WM cI cJ cII cJJ ad f9_size f9_equations f9_areSteps f9_foundMany f9_many f9_rank f9_freeMany f9_arePlans f9_planMany ai7 al) := by rw [e_ai7]; exact hD_5
            refine lv_aload_n hx hb dX9_bound_62 rfl (lv_at hl 0 rfl) ?_
            refine gf (k := 3) hx hb hts inX9 hown hK hP_7 k_798 rfl (by decide) rfl 22 rfl (.ref (ad 24)) rfl dX9_bound_63 ?_
            refine lv_iload_n hx hb dX9_bound_66 rfl (lv_at hl 1 rfl) ?_
            refine lv_iload_n hx hb dX9_bound_67 rfl (lv_at hl 3 rfl) ?_
            refine va_iast hx hb hK hP_7 hD_8 hS_5 24 0 rfl rfl (j_in (a := x1.toInt) rfl (by omega) (by omega)) dX9_bound_68 (fun H_9 locs_9 hP_9 hD_9 hS_9 => ?_)
            obtain ⟨ai8, e_ai8⟩ : ∃ q : Nat → Nat → Int32, q = va_up ai7 24 (upd (ai7 24) x1.toNatClampNeg x3) := ⟨_, rfl⟩
            have hI_10 : IAM ai8 := by rw [e_ai8]; exact IAM_st24 hI_6 (a := x3.toInt) rfl (by omega) (by omega)
            have hP_11 : va_P (dC, dI) vwCl (WM cI cJ cII cJJ ad f9_size f9_equations f9_areSteps f9_foundMany f9_many f9_rank f9_freeMany f9_arePlans f9_planMany ai8 al) H_9 := by rw [e_ai8]; exact hP_9
            have hD_12 : va_D A (WM cI cJ cII cJJ ad f9_size f9_equations f9_areSteps f9_foundMany f9_many f9_rank f9_freeMany f9_arePlans f9_planMany ai8 al) := by rw [e_ai8]; exact hD_9
            refine lv_aload_n hx hb dX9_bound_69 rfl (lv_at hl 0 rfl) ?_
            refine lv_iconst (v := 0) hx hb dX9_bound_70 (by decide) ?_
            refine pf (k := 33) hx hb hts inX9 tyX9_ok nmX9 hown hK hP_11 hD_12 hS_9 k_828 rfl (by decide) rfl rfl 22 rfl rfl rfl (Nat.le_of_ble_eq_true rfl) dX9_bound_71 (W' := (WM cI cJ cII cJJ ad f9_size f9_equations f9_areSteps f9_foundMany f9_many f9_rank f9_freeMany 0 f9_planMany ai8 al)) rfl (fun H_13 locs_13 hP_13 hD_13 hS_13 => ?_)
            refine lv_iconst (v := 1) hx hb dX9_bound_74 (by decide) ?_
            exact r2_i hx hb hr hk hS_13 dX9_bound_75 (fun t ht hW => ⟨0, ai8, ⟨(by first | omega | decide | exact Or.inl (by decide) | exact Or.inr (by omega)), (by first | omega | decide | exact Or.inl (by decide) | exact Or.inr (by omega)), hI_10⟩, by rw [ht]; exact hP_13, va_K.moved hW.alike hK, hD_13⟩)
          · have c6 := j_nle (a := x3.toInt) (b := 10) rfl (by decide +kernel) c6
            exact r008_X9_bound_b48 C  x1 x2 x3 f9_arePlans ai _ _ _ (by omega) (by omega) (by omega) (by omega) (by omega) (by omega) (by omega) (by omega) (by omega) (by omega) (by omega) (by omega) hI hP_2 hD_3 hS_1 (lv_sub hl [0, 1, 2, 3] rfl)
      · have c4 := j_nle (a := (-10)) (b := x3.toInt) (by decide +kernel) rfl c4
        exact r008_X9_bound_b29 C  x1 x2 x3 f9_arePlans ai _ _ _ (by omega) (by omega) (by omega) (by omega) (by omega) (by omega) (by omega) (by omega) (by omega) (by omega) hI hP_2 hD_3 hS_1 (lv_sub hl [0, 1, 2, 3] rfl)
  · have c2 := j_eq (a := r1.toInt) (b := 0) rfl (by decide +kernel) c2
    refine lv_aload_n hx hb dX9_bound_11 rfl (lv_at hl 0 rfl) ?_
    refine lv_iconst (v := (-1)) hx hb dX9_bound_12 (by decide) ?_
    have kcm1 : ((-1) : Int32).toInt = (-1) := by decide +kernel
    have hM := r002_X9_refuse l dC dI cI cJ cII cJJ H_4.size 0 ad f9_size f9_equations f9_areSteps f9_foundMany f9_many f9_rank f9_freeMany f9_arePlans f9_planMany ai al (-1) (by decide +kernel) (by omega) (by omega) (by omega) (by omega) (by omega) (by omega) (by omega) (by omega) (by omega) hI
    refine k2V_i (q0 := 22) ⟨hx, hb, hml, hown, hts⟩ hK hP_2 hD_3 hS_1 hA hX cv_RX9_112 hM ⟨by decide +kernel, by decide +kernel⟩ rfl rfl (Or.inl rfl) (rest := []) rfl rfl rfl hl.1 rfl (Nat.le_of_ble_eq_true rfl) dX9_bound_13 ⟨Nat.le_of_ble_eq_true rfl, Nat.le_of_ble_eq_true rfl⟩ (fun r9 t H1 locs_14 ht hB hS_14 hFc => ?_)
    obtain ⟨ai10, ⟨gpr9_0, hI_15⟩, hP_15, -, hD_15⟩ := hB
    rw [ht] at hP_15
    have hD_16 := hD_15.weaken (B := A) (fun k q _ h9 => hFc q.1 h9)
    clear ht
    generalize H1 = H_17 at hP_15 hS_14 ⊢
    exact r2_i hx hb hr hk hS_14 dX9_bound_16 (fun t ht hW => ⟨f9_arePlans, ai10, ⟨(by first | omega | decide | exact Or.inl (by decide) | exact Or.inr (by omega)), (by first | omega | decide | exact Or.inl (by decide) | exact Or.inr (by omega)), hI_15⟩, by rw [ht]; exact hP_15, va_K.moved hW.alike hK, hD_16⟩)
def Q_r009_X9_price (dC : Nat → ClassId) (dI : Nat → Nat → Nat) (cI cJ cII cJJ : ClassId) (ad : Nat → Nat) (f9_size f9_equations f9_areSteps f9_foundMany f9_many f9_rank f9_freeMany f9_arePlans f9_planMany : Int32) (al : Nat → Nat → Int64) : (Nat → Prop) → Array Value → State → Outcome → State → Prop := fun A => QI (fun r t => ∃ (n_ai : Nat → Nat → Int32), ((-7 ≤ r.toInt ∧ r.toInt ≤ 1) ∧ IAM n_ai) ∧ WO dC dI (TY cI cJ cII cJJ) (WM cI cJ cII cJJ ad f9_size f9_equations f9_areSteps f9_foundMany f9_many f9_rank f9_freeMany f9_arePlans f9_planMany n_ai al) A t) A
set_option maxRecDepth 100000 in
set_option maxHeartbeats 4000000 in
theorem r009_X9_price_b46 {p : Program} {l : Launch} {e : Env} {s : State} {m : MethodId} {args : Array Value} {below : List Frame} {meth : Method} {c : Code} {A : Nat → Prop} {dC : Nat → ClassId} {dI : Nat → Nat → Nat} {cI cJ cII cJJ : ClassId} {ad : Nat → Nat} {g : Nat} {f9_size f9_equations f9_areSteps f9_foundMany f9_many f9_rank f9_freeMany f9_arePlans f9_planMany : Int32} {al : Nat → Nat → Int64} (C : Cx p c s m meth args A dC dI (TY cI cJ cII cJJ) cX9_price (some .int) 4 RX9 0 g) : ∀ (L1 L2 L3 : Int32) (ai : Nat → Nat → Int32) (H : Heap) (locs : List Loc) (ls : Array Slot), (0 ≤ L1.toInt ∧ L1.toInt ≤ 3) → -99 ≤ L2.toInt → 0 ≤ L3.toInt → (1 ≤ f9_size.toInt ∧ f9_size.toInt ≤ 4) → (0 ≤ f9_equations.toInt ∧ f9_equations.toInt ≤ 3) → (0 ≤ f9_areSteps.toInt ∧ f9_areSteps.toInt ≤ 1) → (0 ≤ f9_foundMany.toInt ∧ f9_foundMany.toInt ≤ 99999) → (0 ≤ f9_many.toInt ∧ f9_many.toInt ≤ 6000) → (0 ≤ f9_rank.toInt ∧ f9_rank.toInt ≤ 3) → (0 ≤ f9_freeMany.toInt ∧ f9_freeMany.toInt ≤ 4) → (0 ≤ f9_arePlans.toInt ∧ f9_arePlans.toInt ≤ 1) → (0 ≤ f9_planMany.toInt ∧ f9_planMany.toInt ≤ 194481) → IAM ai → va_P (dC, dI) vwCl (WM cI cJ cII cJJ ad f9_size f9_equations f9_areSteps f9_foundMany f9_many f9_rank f9_freeMany f9_arePlans f9_planMany ai al) H → va_D A (WM cI cJ cII cJJ ad f9_size f9_equations f9_areSteps f9_foundMany f9_many f9_rank f9_freeMany f9_arePlans f9_planMany ai al) → va_S A s.heap H locs → lv_has ls 4 [(0, .ref (ad 22)), (1, .int L1), (2, .int L2), (3, .int L3)] → W p l e ({ frames := 3, cells := 0, slots := 0, locals := 140 } : Room) s m args below meth c H locs 0 0 (MQ below (Q_r009_X9_price dC dI cI cJ cII cJJ ad f9_size f9_equations f9_areSteps f9_foundMany f9_many f9_rank f9_freeMany f9_arePlans f9_planMany al A) args s 0 0 A) (F0 m 46 ls []) := by
  obtain ⟨hx, hb, hr, hml, hown, hts, hk, hA, hK, hX⟩ := id C
  intro L1 L2 L3 ai H locs ls h0 h1 h2 h3 h4 h5 h6 h7 h8 h9 h10 h11 hI hP hD hS hl
  have ra_L2 := s_any L2
  have ra_L3 := s_any L3
  refine lv_aload_n hx hb dX9_price_46 rfl (lv_at hl 0 rfl) ?_
  refine lv_bipush (v := (-6)) hx hb dX9_price_47 (by decide) ?_
  have kcm6 : ((-6) : Int32).toInt = (-6) := by decide +kernel
  have hM := r002_X9_refuse l dC dI cI cJ cII cJJ H.size 0 ad f9_size f9_equations f9_areSteps f9_foundMany f9_many f9_rank f9_freeMany f9_arePlans f9_planMany ai al (-6) (by decide +kernel) (by omega) (by omega) (by omega) (by omega) (by omega) (by omega) (by omega) (by omega) (by omega) hI
  refine k2V_i (q0 := 22) ⟨hx, hb, hml, hown, hts⟩ hK hP hD hS hA hX cv_RX9_112 hM ⟨by decide +kernel, by decide +kernel⟩ rfl rfl (Or.inl rfl) (rest := []) rfl rfl rfl hl.1 rfl (Nat.le_of_ble_eq_true rfl) dX9_price_49 ⟨Nat.le_of_ble_eq_true rfl, Nat.le_of_ble_eq_true rfl⟩ (fun r1 t H1 locs_1 ht hB hS_1 hFc => ?_)
  obtain ⟨ai2, ⟨gpr1_0, hI_2⟩, hP_2, -, hD_2⟩ := hB
  rw [ht] at hP_2
  have hD_3 := hD_2.weaken (B := A) (fun k q _ h9 => hFc q.1 h9)
  clear ht
  generalize H1 = H_4 at hP_2 hS_1 ⊢
  exact r2_i hx hb hr hk hS_1 dX9_price_52 (fun t ht hW => ⟨ai2, ⟨(by first | omega | decide | exact Or.inl (by decide) | exact Or.inr (by omega)), hI_2⟩, by rw [ht]; exact hP_2, va_K.moved hW.alike hK, hD_3⟩)
set_option maxRecDepth 100000 in
set_option maxHeartbeats 4000000 in
theorem r009_X9_price_b27 {p : Program} {l : Launch} {e : Env} {s : State} {m : MethodId} {args : Array Value} {below : List Frame} {meth : Method} {c : Code} {A : Nat → Prop} {dC : Nat → ClassId} {dI : Nat → Nat → Nat} {cI cJ cII cJJ : ClassId} {ad : Nat → Nat} {g : Nat} {f9_size f9_equations f9_areSteps f9_foundMany f9_many f9_rank f9_freeMany f9_arePlans f9_planMany : Int32} {al : Nat → Nat → Int64} (C : Cx p c s m meth args A dC dI (TY cI cJ cII cJJ) cX9_price (some .int) 4 RX9 0 g) : ∀ (L1 L2 L3 : Int32) (ai : Nat → Nat → Int32) (H : Heap) (locs : List Loc) (ls : Array Slot), (0 ≤ L1.toInt ∧ L1.toInt ≤ 3) → (1 ≤ f9_size.toInt ∧ f9_size.toInt ≤ 4) → (0 ≤ f9_equations.toInt ∧ f9_equations.toInt ≤ 3) → (0 ≤ f9_areSteps.toInt ∧ f9_areSteps.toInt ≤ 1) → (0 ≤ f9_foundMany.toInt ∧ f9_foundMany.toInt ≤ 99999) → (0 ≤ f9_many.toInt ∧ f9_many.toInt ≤ 6000) → (0 ≤ f9_rank.toInt ∧ f9_rank.toInt ≤ 3) → (0 ≤ f9_freeMany.toInt ∧ f9_freeMany.toInt ≤ 4) → (0 ≤ f9_arePlans.toInt ∧ f9_arePlans.toInt ≤ 1) → (0 ≤ f9_planMany.toInt ∧ f9_planMany.toInt ≤ 194481) → IAM ai → va_P (dC, dI) vwCl (WM cI cJ cII cJJ ad f9_size f9_equations f9_areSteps f9_foundMany f9_many f9_rank f9_freeMany f9_arePlans f9_planMany ai al) H → va_D A (WM cI cJ cII cJJ ad f9_size f9_equations f9_areSteps f9_foundMany f9_many f9_rank f9_freeMany f9_arePlans f9_planMany ai al) → va_S A s.heap H locs → lv_has ls 4 [(0, .ref (ad 22)), (1, .int L1), (2, .int L2), (3, .int L3)] → W p l e ({ frames := 3, cells := 0, slots := 0, locals := 140 } : Room) s m args below meth c H locs 0 0 (MQ below (Q_r009_X9_price dC dI cI cJ cII cJJ ad f9_size f9_equations f9_areSteps f9_foundMany f9_many f9_rank f9_freeMany f9_arePlans f9_planMany al A) args s 0 0 A) (F0 m 27 ls []) := by
  obtain ⟨hx, hb, hr, hml, hown, hts, hk, hA, hK, hX⟩ := id C
  intro L1 L2 L3 ai H locs ls h0 h1 h2 h3 h4 h5 h6 h7 h8 h9 hI hP hD hS hl
  have ra_L2 := s_any L2
  have ra_L3 := s_any L3
  refine lv_aload_n hx hb dX9_price_27 rfl (lv_at hl 0 rfl) ?_
  refine lv_bipush (v := (-4)) hx hb dX9_price_28 (by decide) ?_
  have kcm4 : ((-4) : Int32).toInt = (-4) := by decide +kernel
  have hM := r002_X9_refuse l dC dI cI cJ cII cJJ H.size 0 ad f9_size f9_equations f9_areSteps f9_foundMany f9_many f9_rank f9_freeMany f9_arePlans f9_planMany ai al (-4) (by decide +kernel) (by omega) (by omega) (by omega) (by omega) (by omega) (by omega) (by omega) (by omega) (by omega) hI
  refine k2V_i (q0 := 22) ⟨hx, hb, hml, hown, hts⟩ hK hP hD hS hA hX cv_RX9_112 hM ⟨by decide +kernel, by decide +kernel⟩ rfl rfl (Or.inl rfl) (rest := []) rfl rfl rfl hl.1 rfl (Nat.le_of_ble_eq_true rfl) dX9_price_30 ⟨Nat.le_of_ble_eq_true rfl, Nat.le_of_ble_eq_true rfl⟩ (fun r1 t H1 locs_1 ht hB hS_1 hFc => ?_)
  obtain ⟨ai2, ⟨gpr1_0, hI_2⟩, hP_2, -, hD_2⟩ := hB
  rw [ht] at hP_2
  have hD_3 := hD_2.weaken (B := A) (fun k q _ h9 => hFc q.1 h9)
  clear ht
  generalize H1 = H_4 at hP_2 hS_1 ⊢
  exact r2_i hx hb hr hk hS_1 dX9_price_33 (fun t ht hW => ⟨ai2, ⟨(by first | omega | decide | exact Or.inl (by decide) | exact Or.inr (by omega)), hI_2⟩, by rw [ht]; exact hP_2, va_K.moved hW.alike hK, hD_3⟩)
set_option maxRecDepth 100000 in
set_option maxHeartbeats 4000000 in
theorem r009_X9_price (l : Launch) (dC : Nat → ClassId) (dI : Nat → Nat → Nat) (cI cJ cII cJJ : ClassId) (sz g : Nat) (ad : Nat → Nat) (f9_size f9_equations f9_areSteps f9_foundMany f9_many f9_rank f9_freeMany f9_arePlans f9_planMany : Int32) (ai : Nat → Nat → Int32) (al : Nat → Nat → Int64) (x1 : Int32) (x2 : Int32) (x3 : Int32) (h_f9_size : (1 ≤ f9_size.toInt ∧ f9_size.toInt ≤ 4)) (h_f9_equations : (0 ≤ f9_equations.toInt ∧ f9_equations.toInt ≤ 3)) (h_f9_areSteps : (0 ≤ f9_areSteps.toInt ∧ f9_areSteps.toInt ≤ 1)) (h_f9_foundMany : (0 ≤ f9_foundMany.toInt ∧ f9_foundMany.toInt ≤ 99999)) (h_f9_many : (0 ≤ f9_many.toInt ∧ f9_many.toInt ≤ 6000)) (h_f9_rank : (0 ≤ f9_rank.toInt ∧ f9_rank.toInt ≤ 3)) (h_f9_freeMany : (0 ≤ f9_freeMany.toInt ∧ f9_freeMany.toInt ≤ 4)) (h_f9_arePlans : (0 ≤ f9_arePlans.toInt ∧ f9_arePlans.toInt ≤ 1)) (h_f9_planMany : (0 ≤ f9_planMany.toInt ∧ f9_planMany.toInt ≤ 194481)) (hI : IAM ai) : Met l yX9_price (.code yX9_price cX9_price 4 (some .int) :: TT) ({ frames := 3, cells := 0, slots := 0, locals := 140 } : Room) (PcS dC dI (TY cI cJ cII cJJ) [.ref (ad 22), .int x1, .int x2, .int x3] (WM cI cJ cII cJJ ad f9_size f9_equations f9_areSteps f9_foundMany f9_many f9_rank f9_freeMany f9_arePlans f9_planMany ai al) sz 0 g) (Q_r009_X9_price dC dI cI cJ cII cJJ ad f9_size f9_equations f9_areSteps f9_foundMany f9_many f9_rank f9_freeMany f9_arePlans f9_planMany al (va_A (WM cI cJ cII cJJ ad f9_size f9_equations f9_areSteps f9_foundMany f9_many f9_rank f9_freeMany f9_arePlans f9_planMany ai al) sz)) 0 0 (va_A (WM cI cJ cII cJJ ad f9_size f9_equations f9_areSteps f9_foundMany f9_many f9_rank f9_freeMany f9_arePlans f9_planMany ai al) sz) := by
  refine SM.of (y := yX9_price) (maxL := 4) (av := [.ref (ad 22), .int x1, .int x2, .int x3]) (Q_r009_X9_price dC dI cI cJ cII cJJ ad f9_size f9_equations f9_areSteps f9_foundMany f9_many f9_rank f9_freeMany f9_arePlans f9_planMany al) (by decide +kernel) (Nat.le_of_ble_eq_true rfl) (fun p e s m below meth c A ls hx hb hr hml hown hts hk hnm hA hK hP hD hS hX hl => ?_)
  have C : Cx p c s m meth (([.ref (ad 22), .int x1, .int x2, .int x3] : List Value).toArray) A dC dI (TY cI cJ cII cJJ) cX9_price (some .int) 4 RX9 0 g := ⟨hx, hb, hr, hml, hown, hts, hk, hA, hK, hX⟩
  have hown : s.vm.findClass RX9 = some m.cls := hown
  have hl : lv_has ls 4 [(0, .ref (ad 22)), (1, .int x1), (2, .int x2), (3, .int x3)] := hl
  obtain ⟨H, hH⟩ : ∃ q, q = s.heap := ⟨_, rfl⟩
  rw [← hH] at hP
  have hS : va_S A s.heap H [] := by rw [hH]; exact hS
  rw [← hH]
  have ra_x1 := s_any x1
  have ra_x2 := s_any x2
  have ra_x3 := s_any x3
  refine lv_iload_n hx hb dX9_price_0 rfl (lv_at hl 1 rfl) ?_
  refine lv_aload_n hx hb dX9_price_1 rfl (lv_at hl 0 rfl) ?_
  refine gf (k := 12) hx hb hts inX9 hown hK hP k_807 rfl (by decide) rfl 22 rfl (.int f9_size) rfl dX9_price_2 ?_
  have hM := r001_X9_isIn l dC dI cI cJ cII cJJ H.size 0 ad f9_size f9_equations f9_areSteps f9_foundMany f9_many f9_rank f9_freeMany f9_arePlans f9_planMany ai al x1 f9_size (by omega) (by omega) (by omega) (by omega) (by omega) (by omega) (by omega) (by omega) (by omega) hI
  refine k2S_i ⟨hx, hb, hml, hown, hts⟩ hK hP hD hS hA hX cs_RX9_116 hM ⟨by decide +kernel, by decide +kernel⟩ rfl rfl (Or.inl rfl) (rest := []) rfl hl.1 rfl (Nat.le_of_ble_eq_true rfl) dX9_price_5 ⟨Nat.le_of_ble_eq_true rfl, Nat.le_of_ble_eq_true rfl⟩ (fun r1 t H1 locs_1 ht hB hS_1 hFc => ?_)
  obtain ⟨⟨gpr1_0, gpr1_1⟩, hP_2, -, hD_2⟩ := hB
  rw [ht] at hP_2
  have hD_3 := hD_2.weaken (B := A) (fun k q _ h9 => hFc q.1 h9)
  clear ht
  generalize H1 = H_4 at hP_2 hS_1 ⊢
  refine lv_if_ne (tgt := 17) hx hb dX9_price_8 (by decide) (fun c2 => ?_) (fun c2 => ?_)
  · have c2 := j_ne (a := r1.toInt) (b := 0) rfl (by decide +kernel) c2
    refine lv_iload_n hx hb dX9_price_17 rfl (lv_at hl 2 rfl) ?_
    refine lv_bipush (v := (-99)) hx hb dX9_price_18 (by decide) ?_
    refine lv_icmp_lt (tgt := 27) hx hb dX9_price_20 (by decide) (fun c3 => ?_) (fun c3 => ?_)
    · have c3 := j_lt (a := x2.toInt) (b := (-99)) rfl (by decide +kernel) c3
      exact r009_X9_price_b27 C  x1 x2 x3 ai _ _ _ (by omega) (by omega) (by omega) (by omega) (by omega) (by omega) (by omega) (by omega) (by omega) (by omega) hI hP_2 hD_3 hS_1 (lv_sub hl [0, 1, 2, 3] rfl)
    · have c3 := j_nlt (a := x2.toInt) (b := (-99)) rfl (by decide +kernel) c3
      refine lv_iload_n hx hb dX9_price_23 rfl (lv_at hl 3 rfl) ?_
      refine lv_if_ge (tgt := 34) hx hb dX9_price_24 (by decide) (fun c4 => ?_) (fun c4 => ?_)
      · have c4 := j_le (a := 0) (b := x3.toInt) (by decide +kernel) rfl c4
        refine lv_iload_n hx hb dX9_price_34 rfl (lv_at hl 2 rfl) ?_
        refine lv_bipush (v := 99) hx hb dX9_price_35 (by decide) ?_
        refine lv_icmp_gt (tgt := 46) hx hb dX9_price_37 (by decide) (fun c5 => ?_) (fun c5 => ?_)
        · have c5 := j_lt (a := 99) (b := x2.toInt) (by decide +kernel) rfl c5
          exact r009_X9_price_b46 C  x1 x2 x3 ai _ _ _ (by omega) (by omega) (by omega) (by omega) (by omega) (by omega) (by omega) (by omega) (by omega) (by omega) (by omega) (by omega) hI hP_2 hD_3 hS_1 (lv_sub hl [0, 1, 2, 3] rfl)
        · have c5 := j_nlt (a := 99) (b := x2.toInt) (by decide +kernel) rfl c5
          refine lv_iload_n hx hb dX9_price_40 rfl (lv_at hl 3 rfl) ?_
          refine lv_bipush (v := 99) hx hb dX9_price_41 (by decide) ?_
          refine lv_icmp_le (tgt := 53) hx hb dX9_price_43 (by decide) (fun c6 => ?_) (fun c6 => ?_)
          · have c6 := j_le (a := x3.toInt) (b := 99) rfl (by decide +kernel) c6
            refine lv_aload_n hx hb dX9_price_53 rfl (lv_at hl 0 rfl) ?_
            refine gf (k := 4) hx hb hts inX9 hown hK hP_2 k_799 rfl (by decide) rfl 22 rfl (.ref (ad 25)) rfl dX9_price_54 ?_
            refine lv_iload_n hx hb dX9_price_57 rfl (lv_at hl 1 rfl) ?_
            refine lv_iload_n hx hb dX9_price_58 rfl (lv_at hl 2 rfl) ?_
            refine va_iast hx hb hK hP_2 hD_3 hS_1 25 0 rfl rfl (j_in (a := x1.toInt) rfl (by omega) (by omega)) dX9_price_59 (fun H_5 locs_5 hP_5 hD_5 hS_5 => ?_)
            obtain ⟨ai7, e_ai7⟩ : ∃ q : Nat → Nat → Int32, q = va_up ai 25 (upd (ai 25) x1.toNatClampNeg x2) := ⟨_, rfl⟩
            have hI_6 : IAM ai7 := by rw [e_ai7]; exact hI
            have hP_7 : va_P (dC, dI) vwCl (WM cI cJ cII cJJ ad f9_size f9_equations f9_areSteps f9_foundMany f9_many f9_rank f9_freeMany f9_arePlans f9_planMany ai7 al) H_5 := by rw [e_ai7]; exact hP_5
            have hD_8 : va_D A (WM cI cJ cII cJJ ad f9_size f9_equations f9_areSteps f9_foundMany f9_many f9_rank f9_freeMany f9_arePlans f9_planMany ai7 al) := by rw [e_ai7]; exact hD_5
            refine lv_aload_n hx hb dX9_price_60 rfl (lv_at hl 0 rfl) ?_
            refine gf (k := 5) hx hb hts inX9 hown hK hP_7 k_800 rfl (by decide) rfl 22 rfl (.ref (ad 26)) rfl dX9_price_61 ?_
            refine lv_iload_n hx hb dX9_price_64 rfl (lv_at hl 1 rfl) ?_
            refine lv_iload_n hx hb dX9_price_65 rfl (lv_at hl 3 rfl) ?_
            refine va_iast hx hb hK hP_7 hD_8 hS_5 26 0 rfl rfl (j_in (a := x1.toInt) rfl (by omega) (by omega)) dX9_price_66 (fun H_9 locs_9 hP_9 hD_9 hS_9 => ?_)
            obtain ⟨ai8, e_ai8⟩ : ∃ q : Nat → Nat → Int32, q = va_up ai7 26 (upd (ai7 26) x1.toNatClampNeg x3) := ⟨_, rfl⟩
            have hI_10 : IAM ai8 := by rw [e_ai8]; exact hI_6
            have hP_11 : va_P (dC, dI) vwCl (WM cI cJ cII cJJ ad f9_size f9_equations f9_areSteps f9_foundMany f9_many f9_rank f9_freeMany f9_arePlans f9_planMany ai8 al) H_9 := by rw [e_ai8]; exact hP_9
            have hD_12 : va_D A (WM cI cJ cII cJJ ad f9_size f9_equations f9_areSteps f9_foundMany f9_many f9_rank f9_freeMany f9_arePlans f9_planMany ai8 al) := by rw [e_ai8]; exact hD_9
            refine lv_iconst (v := 1) hx hb dX9_price_67 (by decide) ?_
            exact r2_i hx hb hr hk hS_9 dX9_price_68 (fun t ht hW => ⟨ai8, ⟨(by first | omega | decide | exact Or.inl (by decide) | exact Or.inr (by omega)), hI_10⟩, by rw [ht]; exact hP_11, va_K.moved hW.alike hK, hD_12⟩)
          · have c6 := j_nle (a := x3.toInt) (b := 99) rfl (by decide +kernel) c6
            exact r009_X9_price_b46 C  x1 x2 x3 ai _ _ _ (by omega) (by omega) (by omega) (by omega) (by omega) (by omega) (by omega) (by omega) (by omega) (by omega) (by omega) (by omega) hI hP_2 hD_3 hS_1 (lv_sub hl [0, 1, 2, 3] rfl)
      · have c4 := j_nle (a := 0) (b := x3.toInt) (by decide +kernel) rfl c4
        exact r009_X9_price_b27 C  x1 x2 x3 ai _ _ _ (by omega) (by omega) (by omega) (by omega) (by omega) (by omega) (by omega) (by omega) (by omega) (by omega) hI hP_2 hD_3 hS_1 (lv_sub hl [0, 1, 2, 3] rfl)
  · have c2 := j_eq (a := r1.toInt) (b := 0) rfl (by decide +kernel) c2
    refine lv_aload_n hx hb dX9_price_11 rfl (lv_at hl 0 rfl) ?_
    refine lv_iconst (v := (-1)) hx hb dX9_price_12 (by decide) ?_
    have kcm1 : ((-1) : Int32).toInt = (-1) := by decide +kernel
    have hM := r002_X9_refuse l dC dI cI cJ cII cJJ H_4.size 0 ad f9_size f9_equations f9_areSteps f9_foundMany f9_many f9_rank f9_freeMany f9_arePlans f9_planMany ai al (-1) (by decide +kernel) (by omega) (by omega) (by omega) (by omega) (by omega) (by omega) (by omega) (by omega) (by omega) hI
    refine k2V_i (q0 := 22) ⟨hx, hb, hml, hown, hts⟩ hK hP_2 hD_3 hS_1 hA hX cv_RX9_112 hM ⟨by decide +kernel, by decide +kernel⟩ rfl rfl (Or.inl rfl) (rest := []) rfl rfl rfl hl.1 rfl (Nat.le_of_ble_eq_true rfl) dX9_price_13 ⟨Nat.le_of_ble_eq_true rfl, Nat.le_of_ble_eq_true rfl⟩ (fun r9 t H1 locs_13 ht hB hS_13 hFc => ?_)
    obtain ⟨ai10, ⟨gpr9_0, hI_14⟩, hP_14, -, hD_14⟩ := hB
    rw [ht] at hP_14
    have hD_15 := hD_14.weaken (B := A) (fun k q _ h9 => hFc q.1 h9)
    clear ht
    generalize H1 = H_16 at hP_14 hS_13 ⊢
    exact r2_i hx hb hr hk hS_13 dX9_price_16 (fun t ht hW => ⟨ai10, ⟨(by first | omega | decide | exact Or.inl (by decide) | exact Or.inr (by omega)), hI_14⟩, by rw [ht]; exact hP_14, va_K.moved hW.alike hK, hD_15⟩)
def Q_r010_X9_tray (dC : Nat → ClassId) (dI : Nat → Nat → Nat) (cI cJ cII cJJ : ClassId) (ad : Nat → Nat) (f9_size f9_equations f9_areSteps f9_foundMany f9_many f9_rank f9_freeMany f9_arePlans f9_planMany : Int32) : (Nat → Prop) → Array Value → State → Outcome → State → Prop := fun A => QI (fun r t => ∃ (n_ai : Nat → Nat → Int32), ∃ (n_al : Nat → Nat → Int64), ((-7 ≤ r.toInt ∧ r.toInt ≤ 1) ∧ IAM n_ai) ∧ WO dC dI (TY cI cJ cII cJJ) (WM cI cJ cII cJJ ad f9_size f9_equations f9_areSteps f9_foundMany f9_many f9_rank f9_freeMany f9_arePlans f9_planMany n_ai n_al) A t) A
set_option maxRecDepth 100000 in
set_option maxHeartbeats 4000000 in
theorem r010_X9_tray_b70 {p : Program} {l : Launch} {e : Env} {s : State} {m : MethodId} {args : Array Value} {below : List Frame} {meth : Method} {c : Code} {A : Nat → Prop} {dC : Nat → ClassId} {dI : Nat → Nat → Nat} {cI cJ cII cJJ : ClassId} {ad : Nat → Nat} {g : Nat} {f9_size f9_equations f9_areSteps f9_foundMany f9_many f9_rank f9_freeMany f9_arePlans f9_planMany : Int32} (C : Cx p c s m meth args A dC dI (TY cI cJ cII cJJ) cX9_tray (some .int) 5 RX9 0 g) : ∀ (n : Nat), ∀ (L1 L2 L3 L4 : Int32) (ai : Nat → Nat → Int32) (al : Nat → Nat → Int64) (H : Heap) (locs : List Loc) (ls : Array Slot), (0 ≤ L1.toInt ∧ L1.toInt ≤ 3) → (0 ≤ L2.toInt ∧ L2.toInt ≤ 3) → (0 ≤ L3.toInt ∧ L3.toInt ≤ 20) → (0 ≤ L4.toInt ∧ L4.toInt ≤ 20) → (1 ≤ f9_size.toInt ∧ f9_size.toInt ≤ 4) → (0 ≤ f9_equations.toInt ∧ f9_equations.toInt ≤ 3) → (0 ≤ f9_areSteps.toInt ∧ f9_areSteps.toInt ≤ 1) → (0 ≤ f9_foundMany.toInt ∧ f9_foundMany.toInt ≤ 99999) → (0 ≤ f9_many.toInt ∧ f9_many.toInt ≤ 6000) → (0 ≤ f9_rank.toInt ∧ f9_rank.toInt ≤ 3) → (0 ≤ f9_freeMany.toInt ∧ f9_freeMany.toInt ≤ 4) → (0 ≤ f9_arePlans.toInt ∧ f9_arePlans.toInt ≤ 1) → (0 ≤ f9_planMany.toInt ∧ f9_planMany.toInt ≤ 194481) → L3.toInt - L4.toInt < (n : Int) → (0 : Int) < (n : Int) → IAM ai → va_P (dC, dI) vwCl (WM cI cJ cII cJJ ad f9_size f9_equations f9_areSteps f9_foundMany f9_many f9_rank f9_freeMany f9_arePlans f9_planMany ai al) H → va_D A (WM cI cJ cII cJJ ad f9_size f9_equations f9_areSteps f9_foundMany f9_many f9_rank f9_freeMany f9_arePlans f9_planMany ai al) → va_S A s.heap H locs → lv_has ls 5 [(0, .ref (ad 22)), (1, .int L1), (2, .int L2), (3, .int L3), (4, .int L4)] → W p l e ({ frames := 3, cells := 0, slots := 0, locals := 140 } : Room) s m args below meth c H locs 0 0 (MQ below (Q_r010_X9_tray dC dI cI cJ cII cJJ ad f9_size f9_equations f9_areSteps f9_foundMany f9_many f9_rank f9_freeMany f9_arePlans f9_planMany A) args s 0 0 A) (F0 m 70 ls []) := by
  obtain ⟨hx, hb, hr, hml, hown, hts, hk, hA, hK, hX⟩ := id C
  intro n
  induction n with
  | zero =>
    intro L1 L2 L3 L4 ai al H locs ls h0 h1 h2 h3 h4 h5 h6 h7 h8 h9 h10 h11 h12 h13 h14 hI hP hD hS hl
    exact absurd h14 (by omega)
  | succ n ih =>
    intro L1 L2 L3 L4 ai al H locs ls h0 h1 h2 h3 h4 h5 h6 h7 h8 h9 h10 h11 h12 h13 h14 hI hP hD hS hl
    refine lv_iload hx hb dX9_tray_70 (lv_at hl 4 rfl) ?_
    refine lv_iload_n hx hb dX9_tray_72 rfl (lv_at hl 3 rfl) ?_
    refine lv_icmp_ge (tgt := 95) hx hb dX9_tray_73 (by decide) (fun c1 => ?_) (fun c1 => ?_)
    · have c1 := j_le (a := L3.toInt) (b := L4.toInt) rfl rfl c1
      refine lv_iconst (v := 1) hx hb dX9_tray_95 (by decide) ?_
      exact r2_i hx hb hr hk hS dX9_tray_96 (fun t ht hW => ⟨ai, al, ⟨(by first | omega | decide | exact Or.inl (by decide) | exact Or.inr (by omega)), hI⟩, by rw [ht]; exact hP, va_K.moved hW.alike hK, hD⟩)
    · have c1 := j_nle (a := L3.toInt) (b := L4.toInt) rfl rfl c1
      refine lv_aload_n hx hb dX9_tray_76 rfl (lv_at hl 0 rfl) ?_
      refine gf (k := 10) hx hb hts inX9 hown hK hP k_805 rfl (by decide) rfl 22 rfl (.ref (ad 5)) rfl dX9_tray_77 ?_
      refine lv_bipush (v := 20) hx hb dX9_tray_80 (by decide) ?_
      refine lv_iload_n hx hb dX9_tray_82 rfl (lv_at hl 1 rfl) ?_
      refine v_imul hx hb dX9_tray_83 _ rfl ?_
      refine lv_topi (fun z2 e_z2 => ?_)
      have g_z2 : z2.toInt = 20 * L1.toInt := by rw [e_z2]; exact n_mul (a := 20) (b := L1.toInt) (by decide +kernel) rfl (by omega) (by omega)
      refine lv_iload hx hb dX9_tray_84 (lv_at hl 4 rfl) ?_
      refine v_iadd hx hb dX9_tray_86 _ rfl ?_
      refine lv_topi (fun z3 e_z3 => ?_)
      have g_z3 : z3.toInt = z2.toInt + L4.toInt := by rw [e_z3]; exact n_add (a := z2.toInt) (b := L4.toInt) rfl rfl (by omega) (by omega)
      refine lv_lconst (v := 0) hx hb dX9_tray_87 (by decide) ?_
      refine va_last hx hb hK hP hD hS 5 1 rfl rfl (j_in (a := z3.toInt) rfl (by omega) (by omega)) dX9_tray_88 (fun H_1 locs_1 hP_1 hD_1 hS_1 => ?_)
      obtain ⟨al4, e_al4⟩ : ∃ q : Nat → Nat → Int64, q = va_up al 5 (vp_updL (al 5) z3.toNatClampNeg 0) := ⟨_, rfl⟩
      have hP_2 : va_P (dC, dI) vwCl (WM cI cJ cII cJJ ad f9_size f9_equations f9_areSteps f9_foundMany f9_many f9_rank f9_freeMany f9_arePlans f9_planMany ai al4) H_1 := by rw [e_al4]; exact hP_1
      have hD_3 : va_D A (WM cI cJ cII cJJ ad f9_size f9_equations f9_areSteps f9_foundMany f9_many f9_rank f9_freeMany f9_arePlans f9_planMany ai al4) := by rw [e_al4]; exact hD_1
      obtain ⟨z5, e_z5⟩ : ∃ q : Int32, q = L4 + Int32.ofInt 1 := ⟨_, rfl⟩
      have g_z5 : z5.toInt = L4.toInt + 1 := by rw [e_z5]; exact n_add (a := L4.toInt) (b := 1) rfl (by decide +kernel) (by omega) (by omega)
      refine lv_iinc (v := z5) (lv' := [(4, .int z5), (0, .ref (ad 22)), (1, .int L1), (2, .int L2), (3, .int L3)]) hx hb dX9_tray_89 hl (k := 4) rfl e_z5.symm (by decide) rfl (fun ls_4 hl_4 => ?_)
      refine lv_goto (tgt := 70) hx hb dX9_tray_92 (by decide) ?_
      exact ih L1 L2 L3 z5 ai al4 _ _ _ (by omega) (by omega) (by omega) (by omega) (by omega) (by omega) (by omega) (by omega) (by omega) (by omega) (by omega) (by omega) (by omega) (by omega) (by omega) hI hP_2 hD_3 hS_1 (lv_sub hl_4 [1, 2, 3, 4, 0] rfl)
set_option maxRecDepth 100000 in
set_option maxHeartbeats 4000000 in
theorem r010_X9_tray (l : Launch) (dC : Nat → ClassId) (dI : Nat → Nat → Nat) (cI cJ cII cJJ : ClassId) (sz g : Nat) (ad : Nat → Nat) (f9_size f9_equations f9_areSteps f9_foundMany f9_many f9_rank f9_freeMany f9_arePlans f9_planMany : Int32) (ai : Nat → Nat → Int32) (al : Nat → Nat → Int64) (x1 : Int32) (x2 : Int32) (x3 : Int32) (h_f9_size : (1 ≤ f9_size.toInt ∧ f9_size.toInt ≤ 4)) (h_f9_equations : (0 ≤ f9_equations.toInt ∧ f9_equations.toInt ≤ 3)) (h_f9_areSteps : (0 ≤ f9_areSteps.toInt ∧ f9_areSteps.toInt ≤ 1)) (h_f9_foundMany : (0 ≤ f9_foundMany.toInt ∧ f9_foundMany.toInt ≤ 99999)) (h_f9_many : (0 ≤ f9_many.toInt ∧ f9_many.toInt ≤ 6000)) (h_f9_rank : (0 ≤ f9_rank.toInt ∧ f9_rank.toInt ≤ 3)) (h_f9_freeMany : (0 ≤ f9_freeMany.toInt ∧ f9_freeMany.toInt ≤ 4)) (h_f9_arePlans : (0 ≤ f9_arePlans.toInt ∧ f9_arePlans.toInt ≤ 1)) (h_f9_planMany : (0 ≤ f9_planMany.toInt ∧ f9_planMany.toInt ≤ 194481)) (hI : IAM ai) : Met l yX9_tray (.code yX9_tray cX9_tray 5 (some .int) :: TT) ({ frames := 3, cells := 0, slots := 0, locals := 140 } : Room) (PcS dC dI (TY cI cJ cII cJJ) [.ref (ad 22), .int x1, .int x2, .int x3] (WM cI cJ cII cJJ ad f9_size f9_equations f9_areSteps f9_foundMany f9_many f9_rank f9_freeMany f9_arePlans f9_planMany ai al) sz 0 g) (Q_r010_X9_tray dC dI cI cJ cII cJJ ad f9_size f9_equations f9_areSteps f9_foundMany f9_many f9_rank f9_freeMany f9_arePlans f9_planMany (va_A (WM cI cJ cII cJJ ad f9_size f9_equations f9_areSteps f9_foundMany f9_many f9_rank f9_freeMany f9_arePlans f9_planMany ai al) sz)) 0 0 (va_A (WM cI cJ cII cJJ ad f9_size f9_equations f9_areSteps f9_foundMany f9_many f9_rank f9_freeMany f9_arePlans f9_planMany ai al) sz) := by
  refine SM.of (y := yX9_tray) (maxL := 5) (av := [.ref (ad 22), .int x1, .int x2, .int x3]) (Q_r010_X9_tray dC dI cI cJ cII cJJ ad f9_size f9_equations f9_areSteps f9_foundMany f9_many f9_rank f9_freeMany f9_arePlans f9_planMany) (by decide +kernel) (Nat.le_of_ble_eq_true rfl) (fun p e s m below meth c A ls hx hb hr hml hown hts hk hnm hA hK hP hD hS hX hl => ?_)
  have C : Cx p c s m meth (([.ref (ad 22), .int x1, .int x2, .int x3] : List Value).toArray) A dC dI (TY cI cJ cII cJJ) cX9_tray (some .int) 5 RX9 0 g := ⟨hx, hb, hr, hml, hown, hts, hk, hA, hK, hX⟩
  have hown : s.vm.findClass RX9 = some m.cls := hown
  have hl : lv_has ls 5 [(0, .ref (ad 22)), (1, .int x1), (2, .int x2), (3, .int x3)] := hl
  obtain ⟨H, hH⟩ : ∃ q, q = s.heap := ⟨_, rfl⟩
  rw [← hH] at hP
  have hS : va_S A s.heap H [] := by rw [hH]; exact hS
  rw [← hH]
  have ra_x1 := s_any x1
  have ra_x2 := s_any x2
  have ra_x3 := s_any x3
  refine lv_iload_n hx hb dX9_tray_0 rfl (lv_at hl 1 rfl) ?_
  refine lv_iconst (v := 4) hx hb dX9_tray_1 (by decide) ?_
  have kc4 : (4 : Int32).toInt = 4 := by decide +kernel
  have hM := r001_X9_isIn l dC dI cI cJ cII cJJ H.size 0 ad f9_size f9_equations f9_areSteps f9_foundMany f9_many f9_rank f9_freeMany f9_arePlans f9_planMany ai al x1 4 (by omega) (by omega) (by omega) (by omega) (by omega) (by omega) (by omega) (by omega) (by omega) hI
  refine k2S_i ⟨hx, hb, hml, hown, hts⟩ hK hP hD hS hA hX cs_RX9_116 hM ⟨by decide +kernel, by decide +kernel⟩ rfl rfl (Or.inl rfl) (rest := []) rfl hl.1 rfl (Nat.le_of_ble_eq_true rfl) dX9_tray_2 ⟨Nat.le_of_ble_eq_true rfl, Nat.le_of_ble_eq_true rfl⟩ (fun r1 t H1 locs_1 ht hB hS_1 hFc => ?_)
  obtain ⟨⟨gpr1_0, gpr1_1⟩, hP_2, -, hD_2⟩ := hB
  rw [ht] at hP_2
  have hD_3 := hD_2.weaken (B := A) (fun k q _ h9 => hFc q.1 h9)
  clear ht
  generalize H1 = H_4 at hP_2 hS_1 ⊢
  refine lv_if_ne (tgt := 14) hx hb dX9_tray_5 (by decide) (fun c2 => ?_) (fun c2 => ?_)
  · have c2 := j_ne (a := r1.toInt) (b := 0) rfl (by decide +kernel) c2
    refine lv_iload_n hx hb dX9_tray_14 rfl (lv_at hl 2 rfl) ?_
    refine lv_iconst (v := 4) hx hb dX9_tray_15 (by decide) ?_
    have kc4 : (4 : Int32).toInt = 4 := by decide +kernel
    have hM := r001_X9_isIn l dC dI cI cJ cII cJJ H_4.size 0 ad f9_size f9_equations f9_areSteps f9_foundMany f9_many f9_rank f9_freeMany f9_arePlans f9_planMany ai al x2 4 (by omega) (by omega) (by omega) (by omega) (by omega) (by omega) (by omega) (by omega) (by omega) hI
    refine k2S_i ⟨hx, hb, hml, hown, hts⟩ hK hP_2 hD_3 hS_1 hA hX cs_RX9_116 hM ⟨by decide +kernel, by decide +kernel⟩ rfl rfl (Or.inl rfl) (rest := []) rfl hl.1 rfl (Nat.le_of_ble_eq_true rfl) dX9_tray_16 ⟨Nat.le_of_ble_eq_true rfl, Nat.le_of_ble_eq_true rfl⟩ (fun r3 t H1 locs_5 ht hB hS_5 hFc => ?_)
    obtain ⟨⟨gpr3_0, gpr3_1⟩, hP_6, -, hD_6⟩ := hB
    rw [ht] at hP_6
    have hD_7 := hD_6.weaken (B := A) (fun k q _ h9 => hFc q.1 h9)
    clear ht
    generalize H1 = H_8 at hP_6 hS_5 ⊢
    refine lv_if_ne (tgt := 29) hx hb dX9_tray_19 (by decide) (fun c4 => ?_) (fun c4 => ?_)
    · have c4 := j_ne (a := r3.toInt) (b := 0) rfl (by decide +kernel) c4
      refine lv_iload_n hx hb dX9_tray_29 rfl (lv_at hl 3 rfl) ?_
      refine lv_if_ge (tgt := 40) hx hb dX9_tray_30 (by decide) (fun c5 => ?_) (fun c5 => ?_)
      · have c5 := j_le (a := 0) (b := x3.toInt) (by decide +kernel) rfl c5
        refine lv_iload_n hx hb dX9_tray_40 rfl (lv_at hl 3 rfl) ?_
        refine lv_bipush (v := 20) hx hb dX9_tray_41 (by decide) ?_
        refine lv_icmp_le (tgt := 53) hx hb dX9_tray_43 (by decide) (fun c6 => ?_) (fun c6 => ?_)
        · have c6 := j_le (a := x3.toInt) (b := 20) rfl (by decide +kernel) c6
          refine lv_aload_n hx hb dX9_tray_53 rfl (lv_at hl 0 rfl) ?_
          refine gf (k := 8) hx hb hts inX9 hown hK hP_6 k_803 rfl (by decide) rfl 22 rfl (.ref (ad 3)) rfl dX9_tray_54 ?_
          refine lv_iload_n hx hb dX9_tray_57 rfl (lv_at hl 1 rfl) ?_
          refine lv_iload_n hx hb dX9_tray_58 rfl (lv_at hl 2 rfl) ?_
          refine va_iast hx hb hK hP_6 hD_7 hS_5 3 0 rfl rfl (j_in (a := x1.toInt) rfl (by omega) (by omega)) dX9_tray_59 (fun H_9 locs_9 hP_9 hD_9 hS_9 => ?_)
          obtain ⟨ai7, e_ai7⟩ : ∃ q : Nat → Nat → Int32, q = va_up ai 3 (upd (ai 3) x1.toNatClampNeg x2) := ⟨_, rfl⟩
          have hI_10 : IAM ai7 := by rw [e_ai7]; exact hI
          have hP_11 : va_P (dC, dI) vwCl (WM cI cJ cII cJJ ad f9_size f9_equations f9_areSteps f9_foundMany f9_many f9_rank f9_freeMany f9_arePlans f9_planMany ai7 al) H_9 := by rw [e_ai7]; exact hP_9
          have hD_12 : va_D A (WM cI cJ cII cJJ ad f9_size f9_equations f9_areSteps f9_foundMany f9_many f9_rank f9_freeMany f9_arePlans f9_planMany ai7 al) := by rw [e_ai7]; exact hD_9
          refine lv_aload_n hx hb dX9_tray_60 rfl (lv_at hl 0 rfl) ?_
          refine gf (k := 9) hx hb hts inX9 hown hK hP_11 k_804 rfl (by decide) rfl 22 rfl (.ref (ad 4)) rfl dX9_tray_61 ?_
          refine lv_iload_n hx hb dX9_tray_64 rfl (lv_at hl 1 rfl) ?_
          refine lv_iload_n hx hb dX9_tray_65 rfl (lv_at hl 3 rfl) ?_
          refine va_iast hx hb hK hP_11 hD_12 hS_9 4 0 rfl rfl (j_in (a := x1.toInt) rfl (by omega) (by omega)) dX9_tray_66 (fun H_13 locs_13 hP_13 hD_13 hS_13 => ?_)
          obtain ⟨ai8, e_ai8⟩ : ∃ q : Nat → Nat → Int32, q = va_up ai7 4 (upd (ai7 4) x1.toNatClampNeg x3) := ⟨_, rfl⟩
          have hI_14 : IAM ai8 := by rw [e_ai8]; exact IAM_st4 hI_10 (a := x3.toInt) rfl (by omega) (by omega)
          have hP_15 : va_P (dC, dI) vwCl (WM cI cJ cII cJJ ad f9_size f9_equations f9_areSteps f9_foundMany f9_many f9_rank f9_freeMany f9_arePlans f9_planMany ai8 al) H_13 := by rw [e_ai8]; exact hP_13
          have hD_16 : va_D A (WM cI cJ cII cJJ ad f9_size f9_equations f9_areSteps f9_foundMany f9_many f9_rank f9_freeMany f9_arePlans f9_planMany ai8 al) := by rw [e_ai8]; exact hD_13
          refine lv_iconst (v := 0) hx hb dX9_tray_67 (by decide) ?_
          refine lv_istore (lv' := [(4, .int 0), (0, .ref (ad 22)), (1, .int x1), (2, .int x2), (3, .int x3)]) hx hb dX9_tray_68 hl (by decide) rfl (fun ls_17 hl_17 => ?_)
          exact r010_X9_tray_b70 C  _ x1 x2 x3 0 ai8 al _ _ _ (by first | omega | decide | (have ka0 := (by decide +kernel : (0 : Int32).toInt = 0); omega)) (by first | omega | decide | (have ka0 := (by decide +kernel : (0 : Int32).toInt = 0); omega)) (by first | omega | decide | (have ka0 := (by decide +kernel : (0 : Int32).toInt = 0); omega)) (by first | omega | decide | (have ka0 := (by decide +kernel : (0 : Int32).toInt = 0); omega)) (by first | omega | decide | (have ka0 := (by decide +kernel : (0 : Int32).toInt = 0); omega)) (by first | omega | decide | (have ka0 := (by decide +kernel : (0 : Int32).toInt = 0); omega)) (by first | omega | decide | (have ka0 := (by decide +kernel : (0 : Int32).toInt = 0); omega)) (by first | omega | decide | (have ka0 := (by decide +kernel : (0 : Int32).toInt = 0); omega)) (by first | omega | decide | (have ka0 := (by decide +kernel : (0 : Int32).toInt = 0); omega)) (by first | omega | decide | (have ka0 := (by decide +kernel : (0 : Int32).toInt = 0); omega)) (by first | omega | decide | (have ka0 := (by decide +kernel : (0 : Int32).toInt = 0); omega)) (by first | omega | decide | (have ka0 := (by decide +kernel : (0 : Int32).toInt = 0); omega)) (by first | omega | decide | (have ka0 := (by decide +kernel : (0 : Int32).toInt = 0); omega)) (j_fuel _) (by omega) hI_14 hP_15 hD_16 hS_13 (lv_sub hl_17 [1, 2, 3, 4, 0] rfl)
        · have c6 := j_nle (a := x3.toInt) (b := 20) rfl (by decide +kernel) c6
          refine lv_aload_n hx hb dX9_tray_46 rfl (lv_at hl 0 rfl) ?_
          refine lv_bipush (v := (-6)) hx hb dX9_tray_47 (by decide) ?_
          have kcm6 : ((-6) : Int32).toInt = (-6) := by decide +kernel
          have hM := r002_X9_refuse l dC dI cI cJ cII cJJ H_8.size 0 ad f9_size f9_equations f9_areSteps f9_foundMany f9_many f9_rank f9_freeMany f9_arePlans f9_planMany ai al (-6) (by decide +kernel) (by omega) (by omega) (by omega) (by omega) (by omega) (by omega) (by omega) (by omega) (by omega) hI
          refine k2V_i (q0 := 22) ⟨hx, hb, hml, hown, hts⟩ hK hP_6 hD_7 hS_5 hA hX cv_RX9_112 hM ⟨by decide +kernel, by decide +kernel⟩ rfl rfl (Or.inl rfl) (rest := []) rfl rfl rfl hl.1 rfl (Nat.le_of_ble_eq_true rfl) dX9_tray_49 ⟨Nat.le_of_ble_eq_true rfl, Nat.le_of_ble_eq_true rfl⟩ (fun r9 t H1 locs_18 ht hB hS_18 hFc => ?_)
          obtain ⟨ai10, ⟨gpr9_0, hI_19⟩, hP_19, -, hD_19⟩ := hB
          rw [ht] at hP_19
          have hD_20 := hD_19.weaken (B := A) (fun k q _ h9 => hFc q.1 h9)
          clear ht
          generalize H1 = H_21 at hP_19 hS_18 ⊢
          exact r2_i hx hb hr hk hS_18 dX9_tray_52 (fun t ht hW => ⟨ai10, al, ⟨(by first | omega | decide | exact Or.inl (by decide) | exact Or.inr (by omega)), hI_19⟩, by rw [ht]; exact hP_19, va_K.moved hW.alike hK, hD_20⟩)
      · have c5 := j_nle (a := 0) (b := x3.toInt) (by decide +kernel) rfl c5
        refine lv_aload_n hx hb dX9_tray_33 rfl (lv_at hl 0 rfl) ?_
        refine lv_bipush (v := (-4)) hx hb dX9_tray_34 (by decide) ?_
        have kcm4 : ((-4) : Int32).toInt = (-4) := by decide +kernel
        have hM := r002_X9_refuse l dC dI cI cJ cII cJJ H_8.size 0 ad f9_size f9_equations f9_areSteps f9_foundMany f9_many f9_rank f9_freeMany f9_arePlans f9_planMany ai al (-4) (by decide +kernel) (by omega) (by omega) (by omega) (by omega) (by omega) (by omega) (by omega) (by omega) (by omega) hI
        refine k2V_i (q0 := 22) ⟨hx, hb, hml, hown, hts⟩ hK hP_6 hD_7 hS_5 hA hX cv_RX9_112 hM ⟨by decide +kernel, by decide +kernel⟩ rfl rfl (Or.inl rfl) (rest := []) rfl rfl rfl hl.1 rfl (Nat.le_of_ble_eq_true rfl) dX9_tray_36 ⟨Nat.le_of_ble_eq_true rfl, Nat.le_of_ble_eq_true rfl⟩ (fun r11 t H1 locs_22 ht hB hS_22 hFc => ?_)
        obtain ⟨ai12, ⟨gpr11_0, hI_23⟩, hP_23, -, hD_23⟩ := hB
        rw [ht] at hP_23
        have hD_24 := hD_23.weaken (B := A) (fun k q _ h9 => hFc q.1 h9)
        clear ht
        generalize H1 = H_25 at hP_23 hS_22 ⊢
        exact r2_i hx hb hr hk hS_22 dX9_tray_39 (fun t ht hW => ⟨ai12, al, ⟨(by first | omega | decide | exact Or.inl (by decide) | exact Or.inr (by omega)), hI_23⟩, by rw [ht]; exact hP_23, va_K.moved hW.alike hK, hD_24⟩)
    · have c4 := j_eq (a := r3.toInt) (b := 0) rfl (by decide +kernel) c4
      refine lv_aload_n hx hb dX9_tray_22 rfl (lv_at hl 0 rfl) ?_
      refine lv_bipush (v := (-2)) hx hb dX9_tray_23 (by decide) ?_
      have kcm2 : ((-2) : Int32).toInt = (-2) := by decide +kernel
      have hM := r002_X9_refuse l dC dI cI cJ cII cJJ H_8.size 0 ad f9_size f9_equations f9_areSteps f9_foundMany f9_many f9_rank f9_freeMany f9_arePlans f9_planMany ai al (-2) (by decide +kernel) (by omega) (by omega) (by omega) (by omega) (by omega) (by omega) (by omega) (by omega) (by omega) hI
      refine k2V_i (q0 := 22) ⟨hx, hb, hml, hown, hts⟩ hK hP_6 hD_7 hS_5 hA hX cv_RX9_112 hM ⟨by decide +kernel, by decide +kernel⟩ rfl rfl (Or.inl rfl) (rest := []) rfl rfl rfl hl.1 rfl (Nat.le_of_ble_eq_true rfl) dX9_tray_25 ⟨Nat.le_of_ble_eq_true rfl, Nat.le_of_ble_eq_true rfl⟩ (fun r13 t H1 locs_26 ht hB hS_26 hFc => ?_)
      obtain ⟨ai14, ⟨gpr13_0, hI_27⟩, hP_27, -, hD_27⟩ := hB
      rw [ht] at hP_27
      have hD_28 := hD_27.weaken (B := A) (fun k q _ h9 => hFc q.1 h9)
      clear ht
      generalize H1 = H_29 at hP_27 hS_26 ⊢
      exact r2_i hx hb hr hk hS_26 dX9_tray_28 (fun t ht hW => ⟨ai14, al, ⟨(by first | omega | decide | exact Or.inl (by decide) | exact Or.inr (by omega)), hI_27⟩, by rw [ht]; exact hP_27, va_K.moved hW.alike hK, hD_28⟩)
  · have c2 := j_eq (a := r1.toInt) (b := 0) rfl (by decide +kernel) c2
    refine lv_aload_n hx hb dX9_tray_8 rfl (lv_at hl 0 rfl) ?_
    refine lv_iconst (v := (-1)) hx hb dX9_tray_9 (by decide) ?_
    have kcm1 : ((-1) : Int32).toInt = (-1) := by decide +kernel
    have hM := r002_X9_refuse l dC dI cI cJ cII cJJ H_4.size 0 ad f9_size f9_equations f9_areSteps f9_foundMany f9_many f9_rank f9_freeMany f9_arePlans f9_planMany ai al (-1) (by decide +kernel) (by omega) (by omega) (by omega) (by omega) (by omega) (by omega) (by omega) (by omega) (by omega) hI
    refine k2V_i (q0 := 22) ⟨hx, hb, hml, hown, hts⟩ hK hP_2 hD_3 hS_1 hA hX cv_RX9_112 hM ⟨by decide +kernel, by decide +kernel⟩ rfl rfl (Or.inl rfl) (rest := []) rfl rfl rfl hl.1 rfl (Nat.le_of_ble_eq_true rfl) dX9_tray_10 ⟨Nat.le_of_ble_eq_true rfl, Nat.le_of_ble_eq_true rfl⟩ (fun r15 t H1 locs_30 ht hB hS_30 hFc => ?_)
    obtain ⟨ai16, ⟨gpr15_0, hI_31⟩, hP_31, -, hD_31⟩ := hB
    rw [ht] at hP_31
    have hD_32 := hD_31.weaken (B := A) (fun k q _ h9 => hFc q.1 h9)
    clear ht
    generalize H1 = H_33 at hP_31 hS_30 ⊢
    exact r2_i hx hb hr hk hS_30 dX9_tray_13 (fun t ht hW => ⟨ai16, al, ⟨(by first | omega | decide | exact Or.inl (by decide) | exact Or.inr (by omega)), hI_31⟩, by rw [ht]; exact hP_31, va_K.moved hW.alike hK, hD_32⟩)
