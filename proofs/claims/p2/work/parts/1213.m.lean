def Q_r024_X9_fitsLeft (dC : Nat → ClassId) (dI : Nat → Nat → Nat) (cI cJ cII cJJ : ClassId) (ad : Nat → Nat) (f9_size f9_equations f9_areSteps f9_foundMany f9_many f9_rank f9_freeMany f9_arePlans f9_planMany : Int32) (ai : Nat → Nat → Int32) (al : Nat → Nat → Int64) : (Nat → Prop) → Array Value → State → Outcome → State → Prop := fun A => QI (fun r t => ((0 ≤ r.toInt ∧ r.toInt ≤ 1)) ∧ WO dC dI (TY cI cJ cII cJJ) (WM cI cJ cII cJJ ad f9_size f9_equations f9_areSteps f9_foundMany f9_many f9_rank f9_freeMany f9_arePlans f9_planMany ai al) A t) A
set_option maxRecDepth 100000 in
set_option maxHeartbeats 4000000 in
theorem r024_X9_fitsLeft_b60 {p : Program} {l : Launch} {e : Env} {s : State} {m : MethodId} {args : Array Value} {below : List Frame} {meth : Method} {c : Code} {A : Nat → Prop} {dC : Nat → ClassId} {dI : Nat → Nat → Nat} {cI cJ cII cJJ : ClassId} {ad : Nat → Nat} {g : Nat} {f9_size f9_equations f9_areSteps f9_foundMany f9_many f9_rank f9_freeMany f9_arePlans f9_planMany : Int32} {ai : Nat → Nat → Int32} {al : Nat → Nat → Int64} (C : Cx p c s m meth args A dC dI (TY cI cJ cII cJJ) cX9_fitsLeft (some .boolean) 3 RX9 0 g) (n2 : Nat) (K2 : ∀ (L1 L2 : Int32) (H : Heap) (locs : List Loc) (ls : Array Slot), (0 ≤ L1.toInt ∧ L1.toInt ≤ 5999) → (0 ≤ L2.toInt ∧ L2.toInt ≤ 4) → (1 ≤ f9_size.toInt ∧ f9_size.toInt ≤ 4) → (0 ≤ f9_equations.toInt ∧ f9_equations.toInt ≤ 3) → (0 ≤ f9_areSteps.toInt ∧ f9_areSteps.toInt ≤ 1) → (0 ≤ f9_foundMany.toInt ∧ f9_foundMany.toInt ≤ 99999) → (0 ≤ f9_many.toInt ∧ f9_many.toInt ≤ 6000) → (0 ≤ f9_rank.toInt ∧ f9_rank.toInt ≤ 3) → (0 ≤ f9_freeMany.toInt ∧ f9_freeMany.toInt ≤ 4) → (0 ≤ f9_arePlans.toInt ∧ f9_arePlans.toInt ≤ 1) → (0 ≤ f9_planMany.toInt ∧ f9_planMany.toInt ≤ 194481) → f9_size.toInt - L2.toInt < (n2 : Int) → (0 : Int) < (n2 : Int) → IAM ai → va_P (dC, dI) vwCl (WM cI cJ cII cJJ ad f9_size f9_equations f9_areSteps f9_foundMany f9_many f9_rank f9_freeMany f9_arePlans f9_planMany ai al) H → va_D A (WM cI cJ cII cJJ ad f9_size f9_equations f9_areSteps f9_foundMany f9_many f9_rank f9_freeMany f9_arePlans f9_planMany ai al) → va_S A s.heap H locs → lv_has ls 3 [(0, .ref (ad 22)), (1, .int L1), (2, .int L2)] → W p l e ({ frames := 3, cells := 0, slots := 0, locals := 140 } : Room) s m args below meth c H locs 0 0 (MQ below (Q_r024_X9_fitsLeft dC dI cI cJ cII cJJ ad f9_size f9_equations f9_areSteps f9_foundMany f9_many f9_rank f9_freeMany f9_arePlans f9_planMany ai al A) args s 0 0 A) (F0 m 2 ls [])) : ∀ (L1 L2 : Int32) (H : Heap) (locs : List Loc) (ls : Array Slot), (0 ≤ L1.toInt ∧ L1.toInt ≤ 5999) → (0 ≤ L2.toInt ∧ L2.toInt ≤ 3) → (1 ≤ f9_size.toInt ∧ f9_size.toInt ≤ 4) → (0 ≤ f9_equations.toInt ∧ f9_equations.toInt ≤ 3) → (0 ≤ f9_areSteps.toInt ∧ f9_areSteps.toInt ≤ 1) → (0 ≤ f9_foundMany.toInt ∧ f9_foundMany.toInt ≤ 99999) → (0 ≤ f9_many.toInt ∧ f9_many.toInt ≤ 6000) → (0 ≤ f9_rank.toInt ∧ f9_rank.toInt ≤ 3) → (0 ≤ f9_freeMany.toInt ∧ f9_freeMany.toInt ≤ 4) → (0 ≤ f9_arePlans.toInt ∧ f9_arePlans.toInt ≤ 1) → (0 ≤ f9_planMany.toInt ∧ f9_planMany.toInt ≤ 194481) → L2.toInt < f9_size.toInt → f9_size.toInt - L2.toInt ≤ (n2 : Int) → IAM ai → va_P (dC, dI) vwCl (WM cI cJ cII cJJ ad f9_size f9_equations f9_areSteps f9_foundMany f9_many f9_rank f9_freeMany f9_arePlans f9_planMany ai al) H → va_D A (WM cI cJ cII cJJ ad f9_size f9_equations f9_areSteps f9_foundMany f9_many f9_rank f9_freeMany f9_arePlans f9_planMany ai al) → va_S A s.heap H locs → lv_has ls 3 [(0, .ref (ad 22)), (1, .int L1), (2, .int L2)] → W p l e ({ frames := 3, cells := 0, slots := 0, locals := 140 } : Room) s m args below meth c H locs 0 0 (MQ below (Q_r024_X9_fitsLeft dC dI cI cJ cII cJJ ad f9_size f9_equations f9_areSteps f9_foundMany f9_many f9_rank f9_freeMany f9_arePlans f9_planMany ai al A) args s 0 0 A) (F0 m 60 ls []) := by
  obtain ⟨hx, hb, hr, hml, hown, hts, hk, hA, hK, hX⟩ := id C
  intro L1 L2 H locs ls h0 h1 h2 h3 h4 h5 h6 h7 h8 h9 h10 h11 h12 hI hP hD hS hl
  obtain ⟨z1, e_z1⟩ : ∃ q : Int32, q = L2 + Int32.ofInt 1 := ⟨_, rfl⟩
  have g_z1 : z1.toInt = L2.toInt + 1 := by rw [e_z1]; exact n_add (a := L2.toInt) (b := 1) rfl (by decide +kernel) (by omega) (by omega)
  refine lv_iinc (v := z1) (lv' := [(2, .int z1), (0, .ref (ad 22)), (1, .int L1)]) hx hb dX9_fitsLeft_60 hl (k := 2) rfl e_z1.symm (by decide) rfl (fun ls_1 hl_1 => ?_)
  refine lv_goto (tgt := 2) hx hb dX9_fitsLeft_63 (by decide) ?_
  exact K2 L1 z1 _ _ _ (by omega) (by omega) (by omega) (by omega) (by omega) (by omega) (by omega) (by omega) (by omega) (by omega) (by omega) (by omega) (by omega) hI hP hD hS (lv_sub hl_1 [1, 2, 0] rfl)
set_option maxRecDepth 100000 in
set_option maxHeartbeats 4000000 in
theorem r024_X9_fitsLeft_b58 {p : Program} {l : Launch} {e : Env} {s : State} {m : MethodId} {args : Array Value} {below : List Frame} {meth : Method} {c : Code} {A : Nat → Prop} {dC : Nat → ClassId} {dI : Nat → Nat → Nat} {cI cJ cII cJJ : ClassId} {ad : Nat → Nat} {g : Nat} {f9_size f9_equations f9_areSteps f9_foundMany f9_many f9_rank f9_freeMany f9_arePlans f9_planMany : Int32} {ai : Nat → Nat → Int32} {al : Nat → Nat → Int64} (C : Cx p c s m meth args A dC dI (TY cI cJ cII cJJ) cX9_fitsLeft (some .boolean) 3 RX9 0 g) (n2 : Nat) (K2 : ∀ (L1 L2 : Int32) (H : Heap) (locs : List Loc) (ls : Array Slot), (0 ≤ L1.toInt ∧ L1.toInt ≤ 5999) → (0 ≤ L2.toInt ∧ L2.toInt ≤ 4) → (1 ≤ f9_size.toInt ∧ f9_size.toInt ≤ 4) → (0 ≤ f9_equations.toInt ∧ f9_equations.toInt ≤ 3) → (0 ≤ f9_areSteps.toInt ∧ f9_areSteps.toInt ≤ 1) → (0 ≤ f9_foundMany.toInt ∧ f9_foundMany.toInt ≤ 99999) → (0 ≤ f9_many.toInt ∧ f9_many.toInt ≤ 6000) → (0 ≤ f9_rank.toInt ∧ f9_rank.toInt ≤ 3) → (0 ≤ f9_freeMany.toInt ∧ f9_freeMany.toInt ≤ 4) → (0 ≤ f9_arePlans.toInt ∧ f9_arePlans.toInt ≤ 1) → (0 ≤ f9_planMany.toInt ∧ f9_planMany.toInt ≤ 194481) → f9_size.toInt - L2.toInt < (n2 : Int) → (0 : Int) < (n2 : Int) → IAM ai → va_P (dC, dI) vwCl (WM cI cJ cII cJJ ad f9_size f9_equations f9_areSteps f9_foundMany f9_many f9_rank f9_freeMany f9_arePlans f9_planMany ai al) H → va_D A (WM cI cJ cII cJJ ad f9_size f9_equations f9_areSteps f9_foundMany f9_many f9_rank f9_freeMany f9_arePlans f9_planMany ai al) → va_S A s.heap H locs → lv_has ls 3 [(0, .ref (ad 22)), (1, .int L1), (2, .int L2)] → W p l e ({ frames := 3, cells := 0, slots := 0, locals := 140 } : Room) s m args below meth c H locs 0 0 (MQ below (Q_r024_X9_fitsLeft dC dI cI cJ cII cJJ ad f9_size f9_equations f9_areSteps f9_foundMany f9_many f9_rank f9_freeMany f9_arePlans f9_planMany ai al A) args s 0 0 A) (F0 m 2 ls [])) : ∀ (L1 L2 : Int32) (H : Heap) (locs : List Loc) (ls : Array Slot), (0 ≤ L1.toInt ∧ L1.toInt ≤ 5999) → (0 ≤ L2.toInt ∧ L2.toInt ≤ 3) → (1 ≤ f9_size.toInt ∧ f9_size.toInt ≤ 4) → (0 ≤ f9_equations.toInt ∧ f9_equations.toInt ≤ 3) → (0 ≤ f9_areSteps.toInt ∧ f9_areSteps.toInt ≤ 1) → (0 ≤ f9_foundMany.toInt ∧ f9_foundMany.toInt ≤ 99999) → (0 ≤ f9_many.toInt ∧ f9_many.toInt ≤ 6000) → (0 ≤ f9_rank.toInt ∧ f9_rank.toInt ≤ 3) → (0 ≤ f9_freeMany.toInt ∧ f9_freeMany.toInt ≤ 4) → (0 ≤ f9_arePlans.toInt ∧ f9_arePlans.toInt ≤ 1) → (0 ≤ f9_planMany.toInt ∧ f9_planMany.toInt ≤ 194481) → L2.toInt < f9_size.toInt → f9_size.toInt - L2.toInt ≤ (n2 : Int) → IAM ai → va_P (dC, dI) vwCl (WM cI cJ cII cJJ ad f9_size f9_equations f9_areSteps f9_foundMany f9_many f9_rank f9_freeMany f9_arePlans f9_planMany ai al) H → va_D A (WM cI cJ cII cJJ ad f9_size f9_equations f9_areSteps f9_foundMany f9_many f9_rank f9_freeMany f9_arePlans f9_planMany ai al) → va_S A s.heap H locs → lv_has ls 3 [(0, .ref (ad 22)), (1, .int L1), (2, .int L2)] → W p l e ({ frames := 3, cells := 0, slots := 0, locals := 140 } : Room) s m args below meth c H locs 0 0 (MQ below (Q_r024_X9_fitsLeft dC dI cI cJ cII cJJ ad f9_size f9_equations f9_areSteps f9_foundMany f9_many f9_rank f9_freeMany f9_arePlans f9_planMany ai al A) args s 0 0 A) (F0 m 58 ls []) := by
  obtain ⟨hx, hb, hr, hml, hown, hts, hk, hA, hK, hX⟩ := id C
  intro L1 L2 H locs ls h0 h1 h2 h3 h4 h5 h6 h7 h8 h9 h10 h11 h12 hI hP hD hS hl
  refine lv_iconst (v := 0) hx hb dX9_fitsLeft_58 (by decide) ?_
  exact r2_z hx hb hr hk hS dX9_fitsLeft_59 rfl (fun t ht hW => ⟨(by first | omega | decide | exact Or.inl (by decide) | exact Or.inr (by omega)), by rw [ht]; exact hP, va_K.moved hW.alike hK, hD⟩)
set_option maxRecDepth 100000 in
set_option maxHeartbeats 4000000 in
theorem r024_X9_fitsLeft_b34 {p : Program} {l : Launch} {e : Env} {s : State} {m : MethodId} {args : Array Value} {below : List Frame} {meth : Method} {c : Code} {A : Nat → Prop} {dC : Nat → ClassId} {dI : Nat → Nat → Nat} {cI cJ cII cJJ : ClassId} {ad : Nat → Nat} {g : Nat} {f9_size f9_equations f9_areSteps f9_foundMany f9_many f9_rank f9_freeMany f9_arePlans f9_planMany : Int32} {ai : Nat → Nat → Int32} {al : Nat → Nat → Int64} (C : Cx p c s m meth args A dC dI (TY cI cJ cII cJJ) cX9_fitsLeft (some .boolean) 3 RX9 0 g) (n2 : Nat) (K2 : ∀ (L1 L2 : Int32) (H : Heap) (locs : List Loc) (ls : Array Slot), (0 ≤ L1.toInt ∧ L1.toInt ≤ 5999) → (0 ≤ L2.toInt ∧ L2.toInt ≤ 4) → (1 ≤ f9_size.toInt ∧ f9_size.toInt ≤ 4) → (0 ≤ f9_equations.toInt ∧ f9_equations.toInt ≤ 3) → (0 ≤ f9_areSteps.toInt ∧ f9_areSteps.toInt ≤ 1) → (0 ≤ f9_foundMany.toInt ∧ f9_foundMany.toInt ≤ 99999) → (0 ≤ f9_many.toInt ∧ f9_many.toInt ≤ 6000) → (0 ≤ f9_rank.toInt ∧ f9_rank.toInt ≤ 3) → (0 ≤ f9_freeMany.toInt ∧ f9_freeMany.toInt ≤ 4) → (0 ≤ f9_arePlans.toInt ∧ f9_arePlans.toInt ≤ 1) → (0 ≤ f9_planMany.toInt ∧ f9_planMany.toInt ≤ 194481) → f9_size.toInt - L2.toInt < (n2 : Int) → (0 : Int) < (n2 : Int) → IAM ai → va_P (dC, dI) vwCl (WM cI cJ cII cJJ ad f9_size f9_equations f9_areSteps f9_foundMany f9_many f9_rank f9_freeMany f9_arePlans f9_planMany ai al) H → va_D A (WM cI cJ cII cJJ ad f9_size f9_equations f9_areSteps f9_foundMany f9_many f9_rank f9_freeMany f9_arePlans f9_planMany ai al) → va_S A s.heap H locs → lv_has ls 3 [(0, .ref (ad 22)), (1, .int L1), (2, .int L2)] → W p l e ({ frames := 3, cells := 0, slots := 0, locals := 140 } : Room) s m args below meth c H locs 0 0 (MQ below (Q_r024_X9_fitsLeft dC dI cI cJ cII cJJ ad f9_size f9_equations f9_areSteps f9_foundMany f9_many f9_rank f9_freeMany f9_arePlans f9_planMany ai al A) args s 0 0 A) (F0 m 2 ls [])) : ∀ (L1 L2 : Int32) (H : Heap) (locs : List Loc) (ls : Array Slot), (0 ≤ L1.toInt ∧ L1.toInt ≤ 5999) → (0 ≤ L2.toInt ∧ L2.toInt ≤ 3) → (1 ≤ f9_size.toInt ∧ f9_size.toInt ≤ 4) → (0 ≤ f9_equations.toInt ∧ f9_equations.toInt ≤ 3) → (0 ≤ f9_areSteps.toInt ∧ f9_areSteps.toInt ≤ 1) → (0 ≤ f9_foundMany.toInt ∧ f9_foundMany.toInt ≤ 99999) → (0 ≤ f9_many.toInt ∧ f9_many.toInt ≤ 6000) → (0 ≤ f9_rank.toInt ∧ f9_rank.toInt ≤ 3) → (0 ≤ f9_freeMany.toInt ∧ f9_freeMany.toInt ≤ 4) → (0 ≤ f9_arePlans.toInt ∧ f9_arePlans.toInt ≤ 1) → (0 ≤ f9_planMany.toInt ∧ f9_planMany.toInt ≤ 194481) → L2.toInt < f9_size.toInt → f9_size.toInt - L2.toInt ≤ (n2 : Int) → IAM ai → va_P (dC, dI) vwCl (WM cI cJ cII cJJ ad f9_size f9_equations f9_areSteps f9_foundMany f9_many f9_rank f9_freeMany f9_arePlans f9_planMany ai al) H → va_D A (WM cI cJ cII cJJ ad f9_size f9_equations f9_areSteps f9_foundMany f9_many f9_rank f9_freeMany f9_arePlans f9_planMany ai al) → va_S A s.heap H locs → lv_has ls 3 [(0, .ref (ad 22)), (1, .int L1), (2, .int L2)] → W p l e ({ frames := 3, cells := 0, slots := 0, locals := 140 } : Room) s m args below meth c H locs 0 0 (MQ below (Q_r024_X9_fitsLeft dC dI cI cJ cII cJJ ad f9_size f9_equations f9_areSteps f9_foundMany f9_many f9_rank f9_freeMany f9_arePlans f9_planMany ai al A) args s 0 0 A) (F0 m 34 ls []) := by
  obtain ⟨hx, hb, hr, hml, hown, hts, hk, hA, hK, hX⟩ := id C
  intro L1 L2 H locs ls h0 h1 h2 h3 h4 h5 h6 h7 h8 h9 h10 h11 h12 hI hP hD hS hl
  refine lv_aload_n hx hb dX9_fitsLeft_34 rfl (lv_at hl 0 rfl) ?_
  refine lv_iload_n hx hb dX9_fitsLeft_35 rfl (lv_at hl 1 rfl) ?_
  refine lv_iload_n hx hb dX9_fitsLeft_36 rfl (lv_at hl 2 rfl) ?_
  have hM := r022_X9_at l dC dI cI cJ cII cJJ H.size 0 ad f9_size f9_equations f9_areSteps f9_foundMany f9_many f9_rank f9_freeMany f9_arePlans f9_planMany ai al L1 L2 (by omega) (by omega) (by omega) (by omega) (by omega) (by omega) (by omega) (by omega) (by omega) (by omega) (by omega) hI
  refine k2V_i (q0 := 22) ⟨hx, hb, hml, hown, hts⟩ hK hP hD hS hA hX cv_RX9_183 hM ⟨by decide +kernel, by decide +kernel⟩ rfl rfl (Or.inl rfl) (rest := []) rfl rfl rfl hl.1 rfl (Nat.le_of_ble_eq_true rfl) dX9_fitsLeft_37 ⟨Nat.le_of_ble_eq_true rfl, Nat.le_of_ble_eq_true rfl⟩ (fun r1 t H1 locs_1 ht hB hS_1 hFc => ?_)
  obtain ⟨-, hP_2, -, hD_2⟩ := hB
  rw [ht] at hP_2
  have hD_3 := hD_2.weaken (B := A) (fun k q _ h9 => hFc q.1 h9)
  clear ht
  generalize H1 = H_4 at hP_2 hS_1 ⊢
  refine lv_if_ge (tgt := 60) hx hb dX9_fitsLeft_40 (by decide) (fun c2 => ?_) (fun c2 => ?_)
  · have c2 := j_le (a := 0) (b := r1.toInt) (by decide +kernel) rfl c2
    exact r024_X9_fitsLeft_b60 C n2 K2 L1 L2 _ _ _ (by omega) (by omega) (by omega) (by omega) (by omega) (by omega) (by omega) (by omega) (by omega) (by omega) (by omega) (by omega) (by omega) hI hP_2 hD_3 hS_1 (lv_sub hl [0, 1, 2] rfl)
  · have c2 := j_nle (a := 0) (b := r1.toInt) (by decide +kernel) rfl c2
    refine lv_aload_n hx hb dX9_fitsLeft_43 rfl (lv_at hl 0 rfl) ?_
    refine lv_iload_n hx hb dX9_fitsLeft_44 rfl (lv_at hl 1 rfl) ?_
    refine lv_iload_n hx hb dX9_fitsLeft_45 rfl (lv_at hl 2 rfl) ?_
    have hM := r022_X9_at l dC dI cI cJ cII cJJ H_4.size 0 ad f9_size f9_equations f9_areSteps f9_foundMany f9_many f9_rank f9_freeMany f9_arePlans f9_planMany ai al L1 L2 (by omega) (by omega) (by omega) (by omega) (by omega) (by omega) (by omega) (by omega) (by omega) (by omega) (by omega) hI
    refine k2V_i (q0 := 22) ⟨hx, hb, hml, hown, hts⟩ hK hP_2 hD_3 hS_1 hA hX cv_RX9_183 hM ⟨by decide +kernel, by decide +kernel⟩ rfl rfl (Or.inl rfl) (rest := []) rfl rfl rfl hl.1 rfl (Nat.le_of_ble_eq_true rfl) dX9_fitsLeft_46 ⟨Nat.le_of_ble_eq_true rfl, Nat.le_of_ble_eq_true rfl⟩ (fun r3 t H1 locs_5 ht hB hS_5 hFc => ?_)
    obtain ⟨-, hP_6, -, hD_6⟩ := hB
    rw [ht] at hP_6
    have hD_7 := hD_6.weaken (B := A) (fun k q _ h9 => hFc q.1 h9)
    clear ht
    generalize H1 = H_8 at hP_6 hS_5 ⊢
    refine lv_aload_n hx hb dX9_fitsLeft_49 rfl (lv_at hl 0 rfl) ?_
    refine gf (k := 31) hx hb hts inX9 hown hK hP_6 k_826 rfl (by decide) rfl 22 rfl (.ref (ad 19)) rfl dX9_fitsLeft_50 ?_
    refine lv_iload_n hx hb dX9_fitsLeft_53 rfl (lv_at hl 2 rfl) ?_
    refine va_iald hx hb hK hP_6 19 0 rfl rfl (j_in (a := L2.toInt) rfl (by omega) (by omega)) dX9_fitsLeft_54 ?_
    refine lv_topi (fun z4 e_z4 => ?_)
    refine lv_icmp_ge (tgt := 60) hx hb dX9_fitsLeft_55 (by decide) (fun c5 => ?_) (fun c5 => ?_)
    · have c5 := j_le (a := z4.toInt) (b := r3.toInt) rfl rfl c5
      exact r024_X9_fitsLeft_b60 C n2 K2 L1 L2 _ _ _ (by omega) (by omega) (by omega) (by omega) (by omega) (by omega) (by omega) (by omega) (by omega) (by omega) (by omega) (by omega) (by omega) hI hP_6 hD_7 hS_5 (lv_sub hl [0, 1, 2] rfl)
    · have c5 := j_nle (a := z4.toInt) (b := r3.toInt) rfl rfl c5
      exact r024_X9_fitsLeft_b58 C n2 K2 L1 L2 _ _ _ (by omega) (by omega) (by omega) (by omega) (by omega) (by omega) (by omega) (by omega) (by omega) (by omega) (by omega) (by omega) (by omega) hI hP_6 hD_7 hS_5 (lv_sub hl [0, 1, 2] rfl)
set_option maxRecDepth 100000 in
set_option maxHeartbeats 4000000 in
theorem r024_X9_fitsLeft_b2 {p : Program} {l : Launch} {e : Env} {s : State} {m : MethodId} {args : Array Value} {below : List Frame} {meth : Method} {c : Code} {A : Nat → Prop} {dC : Nat → ClassId} {dI : Nat → Nat → Nat} {cI cJ cII cJJ : ClassId} {ad : Nat → Nat} {g : Nat} {f9_size f9_equations f9_areSteps f9_foundMany f9_many f9_rank f9_freeMany f9_arePlans f9_planMany : Int32} {ai : Nat → Nat → Int32} {al : Nat → Nat → Int64} (C : Cx p c s m meth args A dC dI (TY cI cJ cII cJJ) cX9_fitsLeft (some .boolean) 3 RX9 0 g) : ∀ (n : Nat), ∀ (L1 L2 : Int32) (H : Heap) (locs : List Loc) (ls : Array Slot), (0 ≤ L1.toInt ∧ L1.toInt ≤ 5999) → (0 ≤ L2.toInt ∧ L2.toInt ≤ 4) → (1 ≤ f9_size.toInt ∧ f9_size.toInt ≤ 4) → (0 ≤ f9_equations.toInt ∧ f9_equations.toInt ≤ 3) → (0 ≤ f9_areSteps.toInt ∧ f9_areSteps.toInt ≤ 1) → (0 ≤ f9_foundMany.toInt ∧ f9_foundMany.toInt ≤ 99999) → (0 ≤ f9_many.toInt ∧ f9_many.toInt ≤ 6000) → (0 ≤ f9_rank.toInt ∧ f9_rank.toInt ≤ 3) → (0 ≤ f9_freeMany.toInt ∧ f9_freeMany.toInt ≤ 4) → (0 ≤ f9_arePlans.toInt ∧ f9_arePlans.toInt ≤ 1) → (0 ≤ f9_planMany.toInt ∧ f9_planMany.toInt ≤ 194481) → f9_size.toInt - L2.toInt < (n : Int) → (0 : Int) < (n : Int) → IAM ai → va_P (dC, dI) vwCl (WM cI cJ cII cJJ ad f9_size f9_equations f9_areSteps f9_foundMany f9_many f9_rank f9_freeMany f9_arePlans f9_planMany ai al) H → va_D A (WM cI cJ cII cJJ ad f9_size f9_equations f9_areSteps f9_foundMany f9_many f9_rank f9_freeMany f9_arePlans f9_planMany ai al) → va_S A s.heap H locs → lv_has ls 3 [(0, .ref (ad 22)), (1, .int L1), (2, .int L2)] → W p l e ({ frames := 3, cells := 0, slots := 0, locals := 140 } : Room) s m args below meth c H locs 0 0 (MQ below (Q_r024_X9_fitsLeft dC dI cI cJ cII cJJ ad f9_size f9_equations f9_areSteps f9_foundMany f9_many f9_rank f9_freeMany f9_arePlans f9_planMany ai al A) args s 0 0 A) (F0 m 2 ls []) := by
  obtain ⟨hx, hb, hr, hml, hown, hts, hk, hA, hK, hX⟩ := id C
  intro n
  induction n with
  | zero =>
    intro L1 L2 H locs ls h0 h1 h2 h3 h4 h5 h6 h7 h8 h9 h10 h11 h12 hI hP hD hS hl
    exact absurd h12 (by omega)
  | succ n ih =>
    intro L1 L2 H locs ls h0 h1 h2 h3 h4 h5 h6 h7 h8 h9 h10 h11 h12 hI hP hD hS hl
    refine lv_iload_n hx hb dX9_fitsLeft_2 rfl (lv_at hl 2 rfl) ?_
    refine lv_aload_n hx hb dX9_fitsLeft_3 rfl (lv_at hl 0 rfl) ?_
    refine gf (k := 12) hx hb hts inX9 hown hK hP k_807 rfl (by decide) rfl 22 rfl (.int f9_size) rfl dX9_fitsLeft_4 ?_
    refine lv_icmp_ge (tgt := 66) hx hb dX9_fitsLeft_7 (by decide) (fun c1 => ?_) (fun c1 => ?_)
    · have c1 := j_le (a := f9_size.toInt) (b := L2.toInt) rfl rfl c1
      refine lv_iconst (v := 1) hx hb dX9_fitsLeft_66 (by decide) ?_
      exact r2_z hx hb hr hk hS dX9_fitsLeft_67 rfl (fun t ht hW => ⟨(by first | omega | decide | exact Or.inl (by decide) | exact Or.inr (by omega)), by rw [ht]; exact hP, va_K.moved hW.alike hK, hD⟩)
    · have c1 := j_nle (a := f9_size.toInt) (b := L2.toInt) rfl rfl c1
      refine lv_aload_n hx hb dX9_fitsLeft_10 rfl (lv_at hl 0 rfl) ?_
      refine lv_iload_n hx hb dX9_fitsLeft_11 rfl (lv_at hl 1 rfl) ?_
      refine lv_iload_n hx hb dX9_fitsLeft_12 rfl (lv_at hl 2 rfl) ?_
      have hM := r022_X9_at l dC dI cI cJ cII cJJ H.size 0 ad f9_size f9_equations f9_areSteps f9_foundMany f9_many f9_rank f9_freeMany f9_arePlans f9_planMany ai al L1 L2 (by omega) (by omega) (by omega) (by omega) (by omega) (by omega) (by omega) (by omega) (by omega) (by omega) (by omega) hI
      refine k2V_i (q0 := 22) ⟨hx, hb, hml, hown, hts⟩ hK hP hD hS hA hX cv_RX9_183 hM ⟨by decide +kernel, by decide +kernel⟩ rfl rfl (Or.inl rfl) (rest := []) rfl rfl rfl hl.1 rfl (Nat.le_of_ble_eq_true rfl) dX9_fitsLeft_13 ⟨Nat.le_of_ble_eq_true rfl, Nat.le_of_ble_eq_true rfl⟩ (fun r2 t H1 locs_1 ht hB hS_1 hFc => ?_)
      obtain ⟨-, hP_2, -, hD_2⟩ := hB
      rw [ht] at hP_2
      have hD_3 := hD_2.weaken (B := A) (fun k q _ h9 => hFc q.1 h9)
      clear ht
      generalize H1 = H_4 at hP_2 hS_1 ⊢
      refine lv_if_le (tgt := 34) hx hb dX9_fitsLeft_16 (by decide) (fun c3 => ?_) (fun c3 => ?_)
      · have c3 := j_le (a := r2.toInt) (b := 0) rfl (by decide +kernel) c3
        exact r024_X9_fitsLeft_b34 C n ih L1 L2 _ _ _ (by omega) (by omega) (by omega) (by omega) (by omega) (by omega) (by omega) (by omega) (by omega) (by omega) (by omega) (by omega) (by omega) hI hP_2 hD_3 hS_1 (lv_sub hl [0, 1, 2] rfl)
      · have c3 := j_nle (a := r2.toInt) (b := 0) rfl (by decide +kernel) c3
        refine lv_aload_n hx hb dX9_fitsLeft_19 rfl (lv_at hl 0 rfl) ?_
        refine lv_iload_n hx hb dX9_fitsLeft_20 rfl (lv_at hl 1 rfl) ?_
        refine lv_iload_n hx hb dX9_fitsLeft_21 rfl (lv_at hl 2 rfl) ?_
        have hM := r022_X9_at l dC dI cI cJ cII cJJ H_4.size 0 ad f9_size f9_equations f9_areSteps f9_foundMany f9_many f9_rank f9_freeMany f9_arePlans f9_planMany ai al L1 L2 (by omega) (by omega) (by omega) (by omega) (by omega) (by omega) (by omega) (by omega) (by omega) (by omega) (by omega) hI
        refine k2V_i (q0 := 22) ⟨hx, hb, hml, hown, hts⟩ hK hP_2 hD_3 hS_1 hA hX cv_RX9_183 hM ⟨by decide +kernel, by decide +kernel⟩ rfl rfl (Or.inl rfl) (rest := []) rfl rfl rfl hl.1 rfl (Nat.le_of_ble_eq_true rfl) dX9_fitsLeft_22 ⟨Nat.le_of_ble_eq_true rfl, Nat.le_of_ble_eq_true rfl⟩ (fun r4 t H1 locs_5 ht hB hS_5 hFc => ?_)
        obtain ⟨-, hP_6, -, hD_6⟩ := hB
        rw [ht] at hP_6
        have hD_7 := hD_6.weaken (B := A) (fun k q _ h9 => hFc q.1 h9)
        clear ht
        generalize H1 = H_8 at hP_6 hS_5 ⊢
        refine lv_aload_n hx hb dX9_fitsLeft_25 rfl (lv_at hl 0 rfl) ?_
        refine gf (k := 31) hx hb hts inX9 hown hK hP_6 k_826 rfl (by decide) rfl 22 rfl (.ref (ad 19)) rfl dX9_fitsLeft_26 ?_
        refine lv_iload_n hx hb dX9_fitsLeft_29 rfl (lv_at hl 2 rfl) ?_
        refine va_iald hx hb hK hP_6 19 0 rfl rfl (j_in (a := L2.toInt) rfl (by omega) (by omega)) dX9_fitsLeft_30 ?_
        refine lv_topi (fun z5 e_z5 => ?_)
        refine lv_icmp_gt (tgt := 58) hx hb dX9_fitsLeft_31 (by decide) (fun c6 => ?_) (fun c6 => ?_)
        · have c6 := j_lt (a := z5.toInt) (b := r4.toInt) rfl rfl c6
          exact r024_X9_fitsLeft_b58 C n ih L1 L2 _ _ _ (by omega) (by omega) (by omega) (by omega) (by omega) (by omega) (by omega) (by omega) (by omega) (by omega) (by omega) (by omega) (by omega) hI hP_6 hD_7 hS_5 (lv_sub hl [0, 1, 2] rfl)
        · have c6 := j_nlt (a := z5.toInt) (b := r4.toInt) rfl rfl c6
          exact r024_X9_fitsLeft_b34 C n ih L1 L2 _ _ _ (by omega) (by omega) (by omega) (by omega) (by omega) (by omega) (by omega) (by omega) (by omega) (by omega) (by omega) (by omega) (by omega) hI hP_6 hD_7 hS_5 (lv_sub hl [0, 1, 2] rfl)
set_option maxRecDepth 100000 in
set_option maxHeartbeats 4000000 in
theorem r024_X9_fitsLeft (l : Launch) (dC : Nat → ClassId) (dI : Nat → Nat → Nat) (cI cJ cII cJJ : ClassId) (sz g : Nat) (ad : Nat → Nat) (f9_size f9_equations f9_areSteps f9_foundMany f9_many f9_rank f9_freeMany f9_arePlans f9_planMany : Int32) (ai : Nat → Nat → Int32) (al : Nat → Nat → Int64) (x1 : Int32) (h_x1 : (0 ≤ x1.toInt ∧ x1.toInt ≤ 5999)) (h_f9_size : (1 ≤ f9_size.toInt ∧ f9_size.toInt ≤ 4)) (h_f9_equations : (0 ≤ f9_equations.toInt ∧ f9_equations.toInt ≤ 3)) (h_f9_areSteps : (0 ≤ f9_areSteps.toInt ∧ f9_areSteps.toInt ≤ 1)) (h_f9_foundMany : (0 ≤ f9_foundMany.toInt ∧ f9_foundMany.toInt ≤ 99999)) (h_f9_many : (0 ≤ f9_many.toInt ∧ f9_many.toInt ≤ 6000)) (h_f9_rank : (0 ≤ f9_rank.toInt ∧ f9_rank.toInt ≤ 3)) (h_f9_freeMany : (0 ≤ f9_freeMany.toInt ∧ f9_freeMany.toInt ≤ 4)) (h_f9_arePlans : (0 ≤ f9_arePlans.toInt ∧ f9_arePlans.toInt ≤ 1)) (h_f9_planMany : (0 ≤ f9_planMany.toInt ∧ f9_planMany.toInt ≤ 194481)) (hI : IAM ai) : Met l yX9_fitsLeft (.code yX9_fitsLeft cX9_fitsLeft 3 (some .boolean) :: TT) ({ frames := 3, cells := 0, slots := 0, locals := 140 } : Room) (PcS dC dI (TY cI cJ cII cJJ) [.ref (ad 22), .int x1] (WM cI cJ cII cJJ ad f9_size f9_equations f9_areSteps f9_foundMany f9_many f9_rank f9_freeMany f9_arePlans f9_planMany ai al) sz 0 g) (Q_r024_X9_fitsLeft dC dI cI cJ cII cJJ ad f9_size f9_equations f9_areSteps f9_foundMany f9_many f9_rank f9_freeMany f9_arePlans f9_planMany ai al (va_A (WM cI cJ cII cJJ ad f9_size f9_equations f9_areSteps f9_foundMany f9_many f9_rank f9_freeMany f9_arePlans f9_planMany ai al) sz)) 0 0 (va_A (WM cI cJ cII cJJ ad f9_size f9_equations f9_areSteps f9_foundMany f9_many f9_rank f9_freeMany f9_arePlans f9_planMany ai al) sz) := by
  refine SM.of (y := yX9_fitsLeft) (maxL := 3) (av := [.ref (ad 22), .int x1]) (Q_r024_X9_fitsLeft dC dI cI cJ cII cJJ ad f9_size f9_equations f9_areSteps f9_foundMany f9_many f9_rank f9_freeMany f9_arePlans f9_planMany ai al) (by decide +kernel) (Nat.le_of_ble_eq_true rfl) (fun p e s m below meth c A ls hx hb hr hml hown hts hk hnm hA hK hP hD hS hX hl => ?_)
  have C : Cx p c s m meth (([.ref (ad 22), .int x1] : List Value).toArray) A dC dI (TY cI cJ cII cJJ) cX9_fitsLeft (some .boolean) 3 RX9 0 g := ⟨hx, hb, hr, hml, hown, hts, hk, hA, hK, hX⟩
  have hown : s.vm.findClass RX9 = some m.cls := hown
  have hl : lv_has ls 3 [(0, .ref (ad 22)), (1, .int x1)] := hl
  obtain ⟨H, hH⟩ : ∃ q, q = s.heap := ⟨_, rfl⟩
  rw [← hH] at hP
  have hS : va_S A s.heap H [] := by rw [hH]; exact hS
  rw [← hH]
  refine lv_iconst (v := 0) hx hb dX9_fitsLeft_0 (by decide) ?_
  refine lv_istore_n (lv' := [(2, .int 0), (0, .ref (ad 22)), (1, .int x1)]) hx hb dX9_fitsLeft_1 rfl hl (by decide) rfl (fun ls_1 hl_1 => ?_)
  exact r024_X9_fitsLeft_b2 C  _ x1 0 _ _ _ (by first | omega | decide | (have ka0 := (by decide +kernel : (0 : Int32).toInt = 0); omega)) (by first | omega | decide | (have ka0 := (by decide +kernel : (0 : Int32).toInt = 0); omega)) (by first | omega | decide | (have ka0 := (by decide +kernel : (0 : Int32).toInt = 0); omega)) (by first | omega | decide | (have ka0 := (by decide +kernel : (0 : Int32).toInt = 0); omega)) (by first | omega | decide | (have ka0 := (by decide +kernel : (0 : Int32).toInt = 0); omega)) (by first | omega | decide | (have ka0 := (by decide +kernel : (0 : Int32).toInt = 0); omega)) (by first | omega | decide | (have ka0 := (by decide +kernel : (0 : Int32).toInt = 0); omega)) (by first | omega | decide | (have ka0 := (by decide +kernel : (0 : Int32).toInt = 0); omega)) (by first | omega | decide | (have ka0 := (by decide +kernel : (0 : Int32).toInt = 0); omega)) (by first | omega | decide | (have ka0 := (by decide +kernel : (0 : Int32).toInt = 0); omega)) (by first | omega | decide | (have ka0 := (by decide +kernel : (0 : Int32).toInt = 0); omega)) (j_fuel _) (by omega) hI hP hD hS (lv_sub hl_1 [1, 2, 0] rfl)
def Q_r025_X9_leaves (dC : Nat → ClassId) (dI : Nat → Nat → Nat) (cI cJ cII cJJ : ClassId) (ad : Nat → Nat) (f9_size f9_equations f9_areSteps f9_foundMany f9_many f9_rank f9_freeMany f9_arePlans f9_planMany : Int32) (al : Nat → Nat → Int64) : (Nat → Prop) → Array Value → State → Outcome → State → Prop := fun A => QV (fun t => ∃ (n_ai : Nat → Nat → Int32), (IAM n_ai) ∧ WO dC dI (TY cI cJ cII cJJ) (WM cI cJ cII cJJ ad f9_size f9_equations f9_areSteps f9_foundMany f9_many f9_rank f9_freeMany f9_arePlans f9_planMany n_ai al) A t) A
set_option maxRecDepth 100000 in
set_option maxHeartbeats 4000000 in
theorem r025_X9_leaves_b2 {p : Program} {l : Launch} {e : Env} {s : State} {m : MethodId} {args : Array Value} {below : List Frame} {meth : Method} {c : Code} {A : Nat → Prop} {dC : Nat → ClassId} {dI : Nat → Nat → Nat} {cI cJ cII cJJ : ClassId} {ad : Nat → Nat} {g : Nat} {f9_size f9_equations f9_areSteps f9_foundMany f9_many f9_rank f9_freeMany f9_arePlans f9_planMany : Int32} {al : Nat → Nat → Int64} (C : Cx p c s m meth args A dC dI (TY cI cJ cII cJJ) cX9_leaves none 2 RX9 0 g) : ∀ (n : Nat), ∀ (L1 : Int32) (ai : Nat → Nat → Int32) (H : Heap) (locs : List Loc) (ls : Array Slot), (0 ≤ L1.toInt ∧ L1.toInt ≤ 4) → (1 ≤ f9_size.toInt ∧ f9_size.toInt ≤ 4) → (0 ≤ f9_equations.toInt ∧ f9_equations.toInt ≤ 3) → (0 ≤ f9_areSteps.toInt ∧ f9_areSteps.toInt ≤ 1) → (0 ≤ f9_foundMany.toInt ∧ f9_foundMany.toInt ≤ 99999) → (0 ≤ f9_many.toInt ∧ f9_many.toInt ≤ 6000) → (0 ≤ f9_rank.toInt ∧ f9_rank.toInt ≤ 3) → (0 ≤ f9_freeMany.toInt ∧ f9_freeMany.toInt ≤ 4) → (0 ≤ f9_arePlans.toInt ∧ f9_arePlans.toInt ≤ 1) → (0 ≤ f9_planMany.toInt ∧ f9_planMany.toInt ≤ 194481) → 4 - L1.toInt < (n : Int) → (0 : Int) < (n : Int) → IAM ai → va_P (dC, dI) vwCl (WM cI cJ cII cJJ ad f9_size f9_equations f9_areSteps f9_foundMany f9_many f9_rank f9_freeMany f9_arePlans f9_planMany ai al) H → va_D A (WM cI cJ cII cJJ ad f9_size f9_equations f9_areSteps f9_foundMany f9_many f9_rank f9_freeMany f9_arePlans f9_planMany ai al) → va_S A s.heap H locs → lv_has ls 2 [(0, .ref (ad 22)), (1, .int L1)] → W p l e ({ frames := 2, cells := 0, slots := 0, locals := 80 } : Room) s m args below meth c H locs 0 0 (MQ below (Q_r025_X9_leaves dC dI cI cJ cII cJJ ad f9_size f9_equations f9_areSteps f9_foundMany f9_many f9_rank f9_freeMany f9_arePlans f9_planMany al A) args s 0 0 A) (F0 m 2 ls []) := by
  obtain ⟨hx, hb, hr, hml, hown, hts, hk, hA, hK, hX⟩ := id C
  intro n
  induction n with
  | zero =>
    intro L1 ai H locs ls h0 h1 h2 h3 h4 h5 h6 h7 h8 h9 h10 h11 hI hP hD hS hl
    exact absurd h11 (by omega)
  | succ n ih =>
    intro L1 ai H locs ls h0 h1 h2 h3 h4 h5 h6 h7 h8 h9 h10 h11 hI hP hD hS hl
    refine lv_iload_n hx hb dX9_leaves_2 rfl (lv_at hl 1 rfl) ?_
    refine lv_iconst (v := 4) hx hb dX9_leaves_3 (by decide) ?_
    refine lv_icmp_ge (tgt := 25) hx hb dX9_leaves_4 (by decide) (fun c1 => ?_) (fun c1 => ?_)
    · have c1 := j_le (a := 4) (b := L1.toInt) (by decide +kernel) rfl c1
      exact r2_v hx hb hr hk hS dX9_leaves_25 (fun t ht hW => ⟨ai, hI, by rw [ht]; exact hP, va_K.moved hW.alike hK, hD⟩)
    · have c1 := j_nle (a := 4) (b := L1.toInt) (by decide +kernel) rfl c1
      refine lv_aload_n hx hb dX9_leaves_7 rfl (lv_at hl 0 rfl) ?_
      refine gf (k := 31) hx hb hts inX9 hown hK hP k_826 rfl (by decide) rfl 22 rfl (.ref (ad 19)) rfl dX9_leaves_8 ?_
      refine lv_iload_n hx hb dX9_leaves_11 rfl (lv_at hl 1 rfl) ?_
      refine lv_aload_n hx hb dX9_leaves_12 rfl (lv_at hl 0 rfl) ?_
      refine gf (k := 6) hx hb hts inX9 hown hK hP k_801 rfl (by decide) rfl 22 rfl (.ref (ad 27)) rfl dX9_leaves_13 ?_
      refine lv_iload_n hx hb dX9_leaves_16 rfl (lv_at hl 1 rfl) ?_
      refine va_iald hx hb hK hP 27 0 rfl rfl (j_in (a := L1.toInt) rfl (by omega) (by omega)) dX9_leaves_17 ?_
      refine lv_topi (fun z2 e_z2 => ?_)
      refine va_iast hx hb hK hP hD hS 19 0 rfl rfl (j_in (a := L1.toInt) rfl (by omega) (by omega)) dX9_leaves_18 (fun H_1 locs_1 hP_1 hD_1 hS_1 => ?_)
      obtain ⟨ai3, e_ai3⟩ : ∃ q : Nat → Nat → Int32, q = va_up ai 19 (upd (ai 19) L1.toNatClampNeg z2) := ⟨_, rfl⟩
      have hI_2 : IAM ai3 := by rw [e_ai3]; exact hI
      have hP_3 : va_P (dC, dI) vwCl (WM cI cJ cII cJJ ad f9_size f9_equations f9_areSteps f9_foundMany f9_many f9_rank f9_freeMany f9_arePlans f9_planMany ai3 al) H_1 := by rw [e_ai3]; exact hP_1
      have hD_4 : va_D A (WM cI cJ cII cJJ ad f9_size f9_equations f9_areSteps f9_foundMany f9_many f9_rank f9_freeMany f9_arePlans f9_planMany ai3 al) := by rw [e_ai3]; exact hD_1
      obtain ⟨z4, e_z4⟩ : ∃ q : Int32, q = L1 + Int32.ofInt 1 := ⟨_, rfl⟩
      have g_z4 : z4.toInt = L1.toInt + 1 := by rw [e_z4]; exact n_add (a := L1.toInt) (b := 1) rfl (by decide +kernel) (by omega) (by omega)
      refine lv_iinc (v := z4) (lv' := [(1, .int z4), (0, .ref (ad 22))]) hx hb dX9_leaves_19 hl (k := 1) rfl e_z4.symm (by decide) rfl (fun ls_5 hl_5 => ?_)
      refine lv_goto (tgt := 2) hx hb dX9_leaves_22 (by decide) ?_
      exact ih z4 ai3 _ _ _ (by omega) (by omega) (by omega) (by omega) (by omega) (by omega) (by omega) (by omega) (by omega) (by omega) (by omega) (by omega) hI_2 hP_3 hD_4 hS_1 (lv_sub hl_5 [1, 0] rfl)
set_option maxRecDepth 100000 in
set_option maxHeartbeats 4000000 in
theorem r025_X9_leaves (l : Launch) (dC : Nat → ClassId) (dI : Nat → Nat → Nat) (cI cJ cII cJJ : ClassId) (sz g : Nat) (ad : Nat → Nat) (f9_size f9_equations f9_areSteps f9_foundMany f9_many f9_rank f9_freeMany f9_arePlans f9_planMany : Int32) (ai : Nat → Nat → Int32) (al : Nat → Nat → Int64) (h_f9_size : (1 ≤ f9_size.toInt ∧ f9_size.toInt ≤ 4)) (h_f9_equations : (0 ≤ f9_equations.toInt ∧ f9_equations.toInt ≤ 3)) (h_f9_areSteps : (0 ≤ f9_areSteps.toInt ∧ f9_areSteps.toInt ≤ 1)) (h_f9_foundMany : (0 ≤ f9_foundMany.toInt ∧ f9_foundMany.toInt ≤ 99999)) (h_f9_many : (0 ≤ f9_many.toInt ∧ f9_many.toInt ≤ 6000)) (h_f9_rank : (0 ≤ f9_rank.toInt ∧ f9_rank.toInt ≤ 3)) (h_f9_freeMany : (0 ≤ f9_freeMany.toInt ∧ f9_freeMany.toInt ≤ 4)) (h_f9_arePlans : (0 ≤ f9_arePlans.toInt ∧ f9_arePlans.toInt ≤ 1)) (h_f9_planMany : (0 ≤ f9_planMany.toInt ∧ f9_planMany.toInt ≤ 194481)) (hI : IAM ai) : Met l yX9_leaves (.code yX9_leaves cX9_leaves 2 none :: TT) ({ frames := 2, cells := 0, slots := 0, locals := 80 } : Room) (PcS dC dI (TY cI cJ cII cJJ) [.ref (ad 22)] (WM cI cJ cII cJJ ad f9_size f9_equations f9_areSteps f9_foundMany f9_many f9_rank f9_freeMany f9_arePlans f9_planMany ai al) sz 0 g) (Q_r025_X9_leaves dC dI cI cJ cII cJJ ad f9_size f9_equations f9_areSteps f9_foundMany f9_many f9_rank f9_freeMany f9_arePlans f9_planMany al (va_A (WM cI cJ cII cJJ ad f9_size f9_equations f9_areSteps f9_foundMany f9_many f9_rank f9_freeMany f9_arePlans f9_planMany ai al) sz)) 0 0 (va_A (WM cI cJ cII cJJ ad f9_size f9_equations f9_areSteps f9_foundMany f9_many f9_rank f9_freeMany f9_arePlans f9_planMany ai al) sz) := by
  refine SM.of (y := yX9_leaves) (maxL := 2) (av := [.ref (ad 22)]) (Q_r025_X9_leaves dC dI cI cJ cII cJJ ad f9_size f9_equations f9_areSteps f9_foundMany f9_many f9_rank f9_freeMany f9_arePlans f9_planMany al) (by decide +kernel) (Nat.le_of_ble_eq_true rfl) (fun p e s m below meth c A ls hx hb hr hml hown hts hk hnm hA hK hP hD hS hX hl => ?_)
  have C : Cx p c s m meth (([.ref (ad 22)] : List Value).toArray) A dC dI (TY cI cJ cII cJJ) cX9_leaves none 2 RX9 0 g := ⟨hx, hb, hr, hml, hown, hts, hk, hA, hK, hX⟩
  have hown : s.vm.findClass RX9 = some m.cls := hown
  have hl : lv_has ls 2 [(0, .ref (ad 22))] := hl
  obtain ⟨H, hH⟩ : ∃ q, q = s.heap := ⟨_, rfl⟩
  rw [← hH] at hP
  have hS : va_S A s.heap H [] := by rw [hH]; exact hS
  rw [← hH]
  refine lv_iconst (v := 0) hx hb dX9_leaves_0 (by decide) ?_
  refine lv_istore_n (lv' := [(1, .int 0), (0, .ref (ad 22))]) hx hb dX9_leaves_1 rfl hl (by decide) rfl (fun ls_1 hl_1 => ?_)
  exact r025_X9_leaves_b2 C  _ 0 ai _ _ _ (by first | omega | decide | (have ka0 := (by decide +kernel : (0 : Int32).toInt = 0); omega)) (by first | omega | decide | (have ka0 := (by decide +kernel : (0 : Int32).toInt = 0); omega)) (by first | omega | decide | (have ka0 := (by decide +kernel : (0 : Int32).toInt = 0); omega)) (by first | omega | decide | (have ka0 := (by decide +kernel : (0 : Int32).toInt = 0); omega)) (by first | omega | decide | (have ka0 := (by decide +kernel : (0 : Int32).toInt = 0); omega)) (by first | omega | decide | (have ka0 := (by decide +kernel : (0 : Int32).toInt = 0); omega)) (by first | omega | decide | (have ka0 := (by decide +kernel : (0 : Int32).toInt = 0); omega)) (by first | omega | decide | (have ka0 := (by decide +kernel : (0 : Int32).toInt = 0); omega)) (by first | omega | decide | (have ka0 := (by decide +kernel : (0 : Int32).toInt = 0); omega)) (by first | omega | decide | (have ka0 := (by decide +kernel : (0 : Int32).toInt = 0); omega)) (j_fuel _) (by omega) hI hP hD hS (lv_sub hl_1 [1, 0] rfl)
def Q_r026_X9_costOf (dC : Nat → ClassId) (dI : Nat → Nat → Nat) (cI cJ cII cJJ : ClassId) (ad : Nat → Nat) (f9_size f9_equations f9_areSteps f9_foundMany f9_many f9_rank f9_freeMany f9_arePlans f9_planMany : Int32) (ai : Nat → Nat → Int32) (al : Nat → Nat → Int64) : (Nat → Prop) → Array Value → State → Outcome → State → Prop := fun A => QL (fun r t => (True) ∧ WO dC dI (TY cI cJ cII cJJ) (WM cI cJ cII cJJ ad f9_size f9_equations f9_areSteps f9_foundMany f9_many f9_rank f9_freeMany f9_arePlans f9_planMany ai al) A t) A
set_option maxRecDepth 100000 in
set_option maxHeartbeats 4000000 in
theorem r026_X9_costOf_b5 {p : Program} {l : Launch} {e : Env} {s : State} {m : MethodId} {args : Array Value} {below : List Frame} {meth : Method} {c : Code} {A : Nat → Prop} {dC : Nat → ClassId} {dI : Nat → Nat → Nat} {cI cJ cII cJJ : ClassId} {ad : Nat → Nat} {g : Nat} {f9_size f9_equations f9_areSteps f9_foundMany f9_many f9_rank f9_freeMany f9_arePlans f9_planMany : Int32} {ai : Nat → Nat → Int32} {al : Nat → Nat → Int64} (C : Cx p c s m meth args A dC dI (TY cI cJ cII cJJ) cX9_costOf (some .long) 6 RX9 0 g) : ∀ (n : Nat), ∀ (L5 : Int32) (J3 : Int64) (H : Heap) (locs : List Loc) (ls : Array Slot), (0 ≤ L5.toInt ∧ L5.toInt ≤ 4) → (1 ≤ f9_size.toInt ∧ f9_size.toInt ≤ 4) → (0 ≤ f9_equations.toInt ∧ f9_equations.toInt ≤ 3) → (0 ≤ f9_areSteps.toInt ∧ f9_areSteps.toInt ≤ 1) → (0 ≤ f9_foundMany.toInt ∧ f9_foundMany.toInt ≤ 99999) → (0 ≤ f9_many.toInt ∧ f9_many.toInt ≤ 6000) → (0 ≤ f9_rank.toInt ∧ f9_rank.toInt ≤ 3) → (0 ≤ f9_freeMany.toInt ∧ f9_freeMany.toInt ≤ 4) → (0 ≤ f9_arePlans.toInt ∧ f9_arePlans.toInt ≤ 1) → (0 ≤ f9_planMany.toInt ∧ f9_planMany.toInt ≤ 194481) → f9_size.toInt - L5.toInt < (n : Int) → (0 : Int) < (n : Int) → IAM ai → va_P (dC, dI) vwCl (WM cI cJ cII cJJ ad f9_size f9_equations f9_areSteps f9_foundMany f9_many f9_rank f9_freeMany f9_arePlans f9_planMany ai al) H → va_D A (WM cI cJ cII cJJ ad f9_size f9_equations f9_areSteps f9_foundMany f9_many f9_rank f9_freeMany f9_arePlans f9_planMany ai al) → va_S A s.heap H locs → lv_has ls 6 [(0, .ref (ad 22)), (1, .ref (ad 27)), (2, .int 0), (3, .long J3), (5, .int L5)] → W p l e ({ frames := 2, cells := 0, slots := 0, locals := 80 } : Room) s m args below meth c H locs 0 0 (MQ below (Q_r026_X9_costOf dC dI cI cJ cII cJJ ad f9_size f9_equations f9_areSteps f9_foundMany f9_many f9_rank f9_freeMany f9_arePlans f9_planMany ai al A) args s 0 0 A) (F0 m 5 ls []) := by
  obtain ⟨hx, hb, hr, hml, hown, hts, hk, hA, hK, hX⟩ := id C
  intro n
  induction n with
  | zero =>
    intro L5 J3 H locs ls h0 h1 h2 h3 h4 h5 h6 h7 h8 h9 h10 h11 hI hP hD hS hl
    exact absurd h11 (by omega)
  | succ n ih =>
    intro L5 J3 H locs ls h0 h1 h2 h3 h4 h5 h6 h7 h8 h9 h10 h11 hI hP hD hS hl
    refine lv_iload hx hb dX9_costOf_5 (lv_at hl 4 rfl) ?_
    refine lv_aload_n hx hb dX9_costOf_7 rfl (lv_at hl 0 rfl) ?_
    refine gf (k := 12) hx hb hts inX9 hown hK hP k_807 rfl (by decide) rfl 22 rfl (.int f9_size) rfl dX9_costOf_8 ?_
    refine lv_icmp_ge (tgt := 64) hx hb dX9_costOf_11 (by decide) (fun c1 => ?_) (fun c1 => ?_)
    · have c1 := j_le (a := f9_size.toInt) (b := L5.toInt) rfl rfl c1
      refine lv_lload_n hx hb dX9_costOf_64 rfl (lv_at hl 3 rfl) ?_
      exact r2_l hx hb hr hk hS dX9_costOf_65 (fun t ht hW => ⟨trivial, by rw [ht]; exact hP, va_K.moved hW.alike hK, hD⟩)
    · have c1 := j_nle (a := f9_size.toInt) (b := L5.toInt) rfl rfl c1
      refine lv_lload_n hx hb dX9_costOf_14 rfl (lv_at hl 3 rfl) ?_
      refine lv_aload_n hx hb dX9_costOf_15 rfl (lv_at hl 0 rfl) ?_
      refine gf (k := 4) hx hb hts inX9 hown hK hP k_799 rfl (by decide) rfl 22 rfl (.ref (ad 25)) rfl dX9_costOf_16 ?_
      refine lv_iload hx hb dX9_costOf_19 (lv_at hl 4 rfl) ?_
      refine va_iald hx hb hK hP 25 0 rfl rfl (j_in (a := L5.toInt) rfl (by omega) (by omega)) dX9_costOf_21 ?_
      refine lv_topi (fun z2 e_z2 => ?_)
      refine lv_i2l hx hb dX9_costOf_22 rfl ?_
      refine lv_topl (fun yy3 e_yy3 => ?_)
      refine lv_aload_n hx hb dX9_costOf_23 rfl (lv_at hl 1 rfl) ?_
      refine lv_iload_n hx hb dX9_costOf_24 rfl (lv_at hl 2 rfl) ?_
      refine lv_iload hx hb dX9_costOf_25 (lv_at hl 4 rfl) ?_
      refine v_iadd hx hb dX9_costOf_27 _ rfl ?_
      refine lv_topi (fun z4 e_z4 => ?_)
      have g_z4 : z4.toInt = 0 + L5.toInt := by rw [e_z4]; exact n_add (a := 0) (b := L5.toInt) (by decide +kernel) rfl (by omega) (by omega)
      refine va_iald hx hb hK hP 27 0 rfl rfl (j_in (a := z4.toInt) rfl (by omega) (by omega)) dX9_costOf_28 ?_
      refine lv_topi (fun z5 e_z5 => ?_)
      refine lv_i2l hx hb dX9_costOf_29 rfl ?_
      refine lv_topl (fun yy6 e_yy6 => ?_)
      refine v_lmul hx hb dX9_costOf_30 _ rfl ?_
      refine lv_topl (fun yy7 e_yy7 => ?_)
      refine lv_aload_n hx hb dX9_costOf_31 rfl (lv_at hl 0 rfl) ?_
      refine gf (k := 5) hx hb hts inX9 hown hK hP k_800 rfl (by decide) rfl 22 rfl (.ref (ad 26)) rfl dX9_costOf_32 ?_
      refine lv_iload hx hb dX9_costOf_35 (lv_at hl 4 rfl) ?_
      refine va_iald hx hb hK hP 26 0 rfl rfl (j_in (a := L5.toInt) rfl (by omega) (by omega)) dX9_costOf_37 ?_
      refine lv_topi (fun z8 e_z8 => ?_)
      refine lv_i2l hx hb dX9_costOf_38 rfl ?_
      refine lv_topl (fun yy9 e_yy9 => ?_)
      refine lv_aload_n hx hb dX9_costOf_39 rfl (lv_at hl 1 rfl) ?_
      refine lv_iload_n hx hb dX9_costOf_40 rfl (lv_at hl 2 rfl) ?_
      refine lv_iload hx hb dX9_costOf_41 (lv_at hl 4 rfl) ?_
      refine v_iadd hx hb dX9_costOf_43 _ rfl ?_
      refine lv_topi (fun z10 e_z10 => ?_)
      have g_z10 : z10.toInt = 0 + L5.toInt := by rw [e_z10]; exact n_add (a := 0) (b := L5.toInt) (by decide +kernel) rfl (by omega) (by omega)
      refine va_iald hx hb hK hP 27 0 rfl rfl (j_in (a := z10.toInt) rfl (by omega) (by omega)) dX9_costOf_44 ?_
      refine lv_topi (fun z11 e_z11 => ?_)
      refine lv_i2l hx hb dX9_costOf_45 rfl ?_
      refine lv_topl (fun yy12 e_yy12 => ?_)
      refine v_lmul hx hb dX9_costOf_46 _ rfl ?_
      refine lv_topl (fun yy13 e_yy13 => ?_)
      refine lv_aload_n hx hb dX9_costOf_47 rfl (lv_at hl 1 rfl) ?_
      refine lv_iload_n hx hb dX9_costOf_48 rfl (lv_at hl 2 rfl) ?_
      refine lv_iload hx hb dX9_costOf_49 (lv_at hl 4 rfl) ?_
      refine v_iadd hx hb dX9_costOf_51 _ rfl ?_
      refine lv_topi (fun z14 e_z14 => ?_)
      have g_z14 : z14.toInt = 0 + L5.toInt := by rw [e_z14]; exact n_add (a := 0) (b := L5.toInt) (by decide +kernel) rfl (by omega) (by omega)
      refine va_iald hx hb hK hP 27 0 rfl rfl (j_in (a := z14.toInt) rfl (by omega) (by omega)) dX9_costOf_52 ?_
      refine lv_topi (fun z15 e_z15 => ?_)
      refine lv_i2l hx hb dX9_costOf_53 rfl ?_
      refine lv_topl (fun yy16 e_yy16 => ?_)
      refine v_lmul hx hb dX9_costOf_54 _ rfl ?_
      refine lv_topl (fun yy17 e_yy17 => ?_)
      refine v_ladd hx hb dX9_costOf_55 _ rfl ?_
      refine lv_topl (fun yy18 e_yy18 => ?_)
      refine v_ladd hx hb dX9_costOf_56 _ rfl ?_
      refine lv_topl (fun yy19 e_yy19 => ?_)
      refine lv_lstore_n (lv' := [(3, .long yy19), (0, .ref (ad 22)), (1, .ref (ad 27)), (2, .int 0), (5, .int L5)]) hx hb dX9_costOf_57 rfl hl (by decide) rfl (fun ls_1 hl_1 => ?_)
      obtain ⟨z20, e_z20⟩ : ∃ q : Int32, q = L5 + Int32.ofInt 1 := ⟨_, rfl⟩
      have g_z20 : z20.toInt = L5.toInt + 1 := by rw [e_z20]; exact n_add (a := L5.toInt) (b := 1) rfl (by decide +kernel) (by omega) (by omega)
      refine lv_iinc (v := z20) (lv' := [(5, .int z20), (3, .long yy19), (0, .ref (ad 22)), (1, .ref (ad 27)), (2, .int 0)]) hx hb dX9_costOf_58 hl_1 (k := 4) rfl e_z20.symm (by decide) rfl (fun ls_2 hl_2 => ?_)
      refine lv_goto (tgt := 5) hx hb dX9_costOf_61 (by decide) ?_
      exact ih z20 yy19 _ _ _ (by omega) (by omega) (by omega) (by omega) (by omega) (by omega) (by omega) (by omega) (by omega) (by omega) (by omega) (by omega) hI hP hD hS (lv_sub hl_2 [2, 3, 4, 1, 0] rfl)
set_option maxRecDepth 100000 in
set_option maxHeartbeats 4000000 in
theorem r026_X9_costOf (l : Launch) (dC : Nat → ClassId) (dI : Nat → Nat → Nat) (cI cJ cII cJJ : ClassId) (sz g : Nat) (ad : Nat → Nat) (f9_size f9_equations f9_areSteps f9_foundMany f9_many f9_rank f9_freeMany f9_arePlans f9_planMany : Int32) (ai : Nat → Nat → Int32) (al : Nat → Nat → Int64) (h_f9_size : (1 ≤ f9_size.toInt ∧ f9_size.toInt ≤ 4)) (h_f9_equations : (0 ≤ f9_equations.toInt ∧ f9_equations.toInt ≤ 3)) (h_f9_areSteps : (0 ≤ f9_areSteps.toInt ∧ f9_areSteps.toInt ≤ 1)) (h_f9_foundMany : (0 ≤ f9_foundMany.toInt ∧ f9_foundMany.toInt ≤ 99999)) (h_f9_many : (0 ≤ f9_many.toInt ∧ f9_many.toInt ≤ 6000)) (h_f9_rank : (0 ≤ f9_rank.toInt ∧ f9_rank.toInt ≤ 3)) (h_f9_freeMany : (0 ≤ f9_freeMany.toInt ∧ f9_freeMany.toInt ≤ 4)) (h_f9_arePlans : (0 ≤ f9_arePlans.toInt ∧ f9_arePlans.toInt ≤ 1)) (h_f9_planMany : (0 ≤ f9_planMany.toInt ∧ f9_planMany.toInt ≤ 194481)) (hI : IAM ai) : Met l yX9_costOf (.code yX9_costOf cX9_costOf 6 (some .long) :: TT) ({ frames := 2, cells := 0, slots := 0, locals := 80 } : Room) (PcS dC dI (TY cI cJ cII cJJ) [.ref (ad 22), .ref (ad 27), .int 0] (WM cI cJ cII cJJ ad f9_size f9_equations f9_areSteps f9_foundMany f9_many f9_rank f9_freeMany f9_arePlans f9_planMany ai al) sz 0 g) (Q_r026_X9_costOf dC dI cI cJ cII cJJ ad f9_size f9_equations f9_areSteps f9_foundMany f9_many f9_rank f9_freeMany f9_arePlans f9_planMany ai al (va_A (WM cI cJ cII cJJ ad f9_size f9_equations f9_areSteps f9_foundMany f9_many f9_rank f9_freeMany f9_arePlans f9_planMany ai al) sz)) 0 0 (va_A (WM cI cJ cII cJJ ad f9_size f9_equations f9_areSteps f9_foundMany f9_many f9_rank f9_freeMany f9_arePlans f9_planMany ai al) sz) := by
  refine SM.of (y := yX9_costOf) (maxL := 6) (av := [.ref (ad 22), .ref (ad 27), .int 0]) (Q_r026_X9_costOf dC dI cI cJ cII cJJ ad f9_size f9_equations f9_areSteps f9_foundMany f9_many f9_rank f9_freeMany f9_arePlans f9_planMany ai al) (by decide +kernel) (Nat.le_of_ble_eq_true rfl) (fun p e s m below meth c A ls hx hb hr hml hown hts hk hnm hA hK hP hD hS hX hl => ?_)
  have C : Cx p c s m meth (([.ref (ad 22), .ref (ad 27), .int 0] : List Value).toArray) A dC dI (TY cI cJ cII cJJ) cX9_costOf (some .long) 6 RX9 0 g := ⟨hx, hb, hr, hml, hown, hts, hk, hA, hK, hX⟩
  have hown : s.vm.findClass RX9 = some m.cls := hown
  have hl : lv_has ls 6 [(0, .ref (ad 22)), (1, .ref (ad 27)), (2, .int 0)] := hl
  obtain ⟨H, hH⟩ : ∃ q, q = s.heap := ⟨_, rfl⟩
  rw [← hH] at hP
  have hS : va_S A s.heap H [] := by rw [hH]; exact hS
  rw [← hH]
  refine lv_lconst (v := 0) hx hb dX9_costOf_0 (by decide) ?_
  refine lv_lstore_n (lv' := [(3, .long 0), (0, .ref (ad 22)), (1, .ref (ad 27)), (2, .int 0)]) hx hb dX9_costOf_1 rfl hl (by decide) rfl (fun ls_1 hl_1 => ?_)
  refine lv_iconst (v := 0) hx hb dX9_costOf_2 (by decide) ?_
  refine lv_istore (lv' := [(5, .int 0), (3, .long 0), (0, .ref (ad 22)), (1, .ref (ad 27)), (2, .int 0)]) hx hb dX9_costOf_3 hl_1 (by decide) rfl (fun ls_2 hl_2 => ?_)
  exact r026_X9_costOf_b5 C  _ 0 0 _ _ _ (by first | omega | decide | (have ka0 := (by decide +kernel : (0 : Int32).toInt = 0); omega)) (by first | omega | decide | (have ka0 := (by decide +kernel : (0 : Int32).toInt = 0); omega)) (by first | omega | decide | (have ka0 := (by decide +kernel : (0 : Int32).toInt = 0); omega)) (by first | omega | decide | (have ka0 := (by decide +kernel : (0 : Int32).toInt = 0); omega)) (by first | omega | decide | (have ka0 := (by decide +kernel : (0 : Int32).toInt = 0); omega)) (by first | omega | decide | (have ka0 := (by decide +kernel : (0 : Int32).toInt = 0); omega)) (by first | omega | decide | (have ka0 := (by decide +kernel : (0 : Int32).toInt = 0); omega)) (by first | omega | decide | (have ka0 := (by decide +kernel : (0 : Int32).toInt = 0); omega)) (by first | omega | decide | (have ka0 := (by decide +kernel : (0 : Int32).toInt = 0); omega)) (by first | omega | decide | (have ka0 := (by decide +kernel : (0 : Int32).toInt = 0); omega)) (j_fuel _) (by omega) hI hP hD hS (lv_sub hl_2 [2, 3, 4, 1, 0] rfl)
def Q_r027_X9_cost (dC : Nat → ClassId) (dI : Nat → Nat → Nat) (cI cJ cII cJJ : ClassId) (ad : Nat → Nat) (f9_size f9_equations f9_areSteps f9_foundMany f9_many f9_rank f9_freeMany f9_arePlans f9_planMany : Int32) (ai : Nat → Nat → Int32) (al : Nat → Nat → Int64) : (Nat → Prop) → Array Value → State → Outcome → State → Prop := fun A => QL (fun r t => (True) ∧ WO dC dI (TY cI cJ cII cJJ) (WM cI cJ cII cJJ ad f9_size f9_equations f9_areSteps f9_foundMany f9_many f9_rank f9_freeMany f9_arePlans f9_planMany ai al) A t) A
set_option maxRecDepth 100000 in
set_option maxHeartbeats 4000000 in
theorem r027_X9_cost (l : Launch) (dC : Nat → ClassId) (dI : Nat → Nat → Nat) (cI cJ cII cJJ : ClassId) (sz g : Nat) (ad : Nat → Nat) (f9_size f9_equations f9_areSteps f9_foundMany f9_many f9_rank f9_freeMany f9_arePlans f9_planMany : Int32) (ai : Nat → Nat → Int32) (al : Nat → Nat → Int64) (h_f9_size : (1 ≤ f9_size.toInt ∧ f9_size.toInt ≤ 4)) (h_f9_equations : (0 ≤ f9_equations.toInt ∧ f9_equations.toInt ≤ 3)) (h_f9_areSteps : (0 ≤ f9_areSteps.toInt ∧ f9_areSteps.toInt ≤ 1)) (h_f9_foundMany : (0 ≤ f9_foundMany.toInt ∧ f9_foundMany.toInt ≤ 99999)) (h_f9_many : (0 ≤ f9_many.toInt ∧ f9_many.toInt ≤ 6000)) (h_f9_rank : (0 ≤ f9_rank.toInt ∧ f9_rank.toInt ≤ 3)) (h_f9_freeMany : (0 ≤ f9_freeMany.toInt ∧ f9_freeMany.toInt ≤ 4)) (h_f9_arePlans : (0 ≤ f9_arePlans.toInt ∧ f9_arePlans.toInt ≤ 1)) (h_f9_planMany : (0 ≤ f9_planMany.toInt ∧ f9_planMany.toInt ≤ 194481)) (hI : IAM ai) : Met l yX9_cost (.code yX9_cost cX9_cost 1 (some .long) :: TT) ({ frames := 3, cells := 0, slots := 0, locals := 140 } : Room) (PcS dC dI (TY cI cJ cII cJJ) [.ref (ad 22)] (WM cI cJ cII cJJ ad f9_size f9_equations f9_areSteps f9_foundMany f9_many f9_rank f9_freeMany f9_arePlans f9_planMany ai al) sz 0 g) (Q_r027_X9_cost dC dI cI cJ cII cJJ ad f9_size f9_equations f9_areSteps f9_foundMany f9_many f9_rank f9_freeMany f9_arePlans f9_planMany ai al (va_A (WM cI cJ cII cJJ ad f9_size f9_equations f9_areSteps f9_foundMany f9_many f9_rank f9_freeMany f9_arePlans f9_planMany ai al) sz)) 0 0 (va_A (WM cI cJ cII cJJ ad f9_size f9_equations f9_areSteps f9_foundMany f9_many f9_rank f9_freeMany f9_arePlans f9_planMany ai al) sz) := by
  refine SM.of (y := yX9_cost) (maxL := 1) (av := [.ref (ad 22)]) (Q_r027_X9_cost dC dI cI cJ cII cJJ ad f9_size f9_equations f9_areSteps f9_foundMany f9_many f9_rank f9_freeMany f9_arePlans f9_planMany ai al) (by decide +kernel) (Nat.le_of_ble_eq_true rfl) (fun p e s m below meth c A ls hx hb hr hml hown hts hk hnm hA hK hP hD hS hX hl => ?_)
  have C : Cx p c s m meth (([.ref (ad 22)] : List Value).toArray) A dC dI (TY cI cJ cII cJJ) cX9_cost (some .long) 1 RX9 0 g := ⟨hx, hb, hr, hml, hown, hts, hk, hA, hK, hX⟩
  have hown : s.vm.findClass RX9 = some m.cls := hown
  have hl : lv_has ls 1 [(0, .ref (ad 22))] := hl
  obtain ⟨H, hH⟩ : ∃ q, q = s.heap := ⟨_, rfl⟩
  rw [← hH] at hP
  have hS : va_S A s.heap H [] := by rw [hH]; exact hS
  rw [← hH]
  refine lv_aload_n hx hb dX9_cost_0 rfl (lv_at hl 0 rfl) ?_
  refine lv_aload_n hx hb dX9_cost_1 rfl (lv_at hl 0 rfl) ?_
  refine gf (k := 6) hx hb hts inX9 hown hK hP k_801 rfl (by decide) rfl 22 rfl (.ref (ad 27)) rfl dX9_cost_2 ?_
  refine lv_iconst (v := 0) hx hb dX9_cost_5 (by decide) ?_
  have kc0 : (0 : Int32).toInt = 0 := by decide +kernel
  have hM := r026_X9_costOf l dC dI cI cJ cII cJJ H.size 0 ad f9_size f9_equations f9_areSteps f9_foundMany f9_many f9_rank f9_freeMany f9_arePlans f9_planMany ai al (by omega) (by omega) (by omega) (by omega) (by omega) (by omega) (by omega) (by omega) (by omega) hI
  refine k2V_l (q0 := 22) ⟨hx, hb, hml, hown, hts⟩ hK hP hD hS hA hX cv_RX9_220 hM ⟨by decide +kernel, by decide +kernel⟩ rfl rfl (Or.inl rfl) (rest := []) rfl rfl rfl hl.1 rfl (Nat.le_of_ble_eq_true rfl) dX9_cost_6 ⟨Nat.le_of_ble_eq_true rfl, Nat.le_of_ble_eq_true rfl⟩ (fun r1 t H1 locs_1 ht hB hS_1 hFc => ?_)
  obtain ⟨-, hP_2, -, hD_2⟩ := hB
  rw [ht] at hP_2
  have hD_3 := hD_2.weaken (B := A) (fun k q _ h9 => hFc q.1 h9)
  clear ht
  generalize H1 = H_4 at hP_2 hS_1 ⊢
  exact r2_l hx hb hr hk hS_1 dX9_cost_9 (fun t ht hW => ⟨trivial, by rw [ht]; exact hP_2, va_K.moved hW.alike hK, hD_3⟩)
