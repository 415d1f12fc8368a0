def Q_r058_X9_what (dC : Nat → ClassId) (dI : Nat → Nat → Nat) (cI cJ cII cJJ : ClassId) (ad : Nat → Nat) (f9_size f9_equations f9_areSteps f9_foundMany f9_many f9_rank f9_freeMany f9_arePlans f9_planMany : Int32) (ai : Nat → Nat → Int32) (al : Nat → Nat → Int64) : (Nat → Prop) → Array Value → State → Outcome → State → Prop := fun A => QI (fun r t => ((0 ≤ r.toInt ∧ r.toInt ≤ 3)) ∧ WO dC dI (TY cI cJ cII cJJ) (WM cI cJ cII cJJ ad f9_size f9_equations f9_areSteps f9_foundMany f9_many f9_rank f9_freeMany f9_arePlans f9_planMany ai al) A t) A
set_option maxRecDepth 100000 in
set_option maxHeartbeats 4000000 in
theorem r058_X9_what_b29 {p : Program} {l : Launch} {e : Env} {s : State} {m : MethodId} {args : Array Value} {below : List Frame} {meth : Method} {c : Code} {A : Nat → Prop} {dC : Nat → ClassId} {dI : Nat → Nat → Nat} {cI cJ cII cJJ : ClassId} {ad : Nat → Nat} {g : Nat} {f9_size f9_equations f9_areSteps f9_foundMany f9_many f9_rank f9_freeMany f9_arePlans f9_planMany : Int32} {ai : Nat → Nat → Int32} {al : Nat → Nat → Int64} (C : Cx p c s m meth args A dC dI (TY cI cJ cII cJJ) cX9_what (some .int) 1 RX9 0 g) : ∀ (S0 S1 : Int32) (H : Heap) (locs : List Loc) (ls : Array Slot), (0 ≤ S0.toInt ∧ S0.toInt ≤ 2) → (0 ≤ S1.toInt ∧ S1.toInt ≤ 1) → (1 ≤ f9_size.toInt ∧ f9_size.toInt ≤ 4) → (0 ≤ f9_equations.toInt ∧ f9_equations.toInt ≤ 3) → (0 ≤ f9_areSteps.toInt ∧ f9_areSteps.toInt ≤ 1) → (0 ≤ f9_foundMany.toInt ∧ f9_foundMany.toInt ≤ 99999) → (0 ≤ f9_many.toInt ∧ f9_many.toInt ≤ 6000) → (0 ≤ f9_rank.toInt ∧ f9_rank.toInt ≤ 3) → (0 ≤ f9_freeMany.toInt ∧ f9_freeMany.toInt ≤ 4) → (0 ≤ f9_arePlans.toInt ∧ f9_arePlans.toInt ≤ 1) → (0 ≤ f9_planMany.toInt ∧ f9_planMany.toInt ≤ 194481) → IAM ai → va_P (dC, dI) vwCl (WM cI cJ cII cJJ ad f9_size f9_equations f9_areSteps f9_foundMany f9_many f9_rank f9_freeMany f9_arePlans f9_planMany ai al) H → va_D A (WM cI cJ cII cJJ ad f9_size f9_equations f9_areSteps f9_foundMany f9_many f9_rank f9_freeMany f9_arePlans f9_planMany ai al) → va_S A s.heap H locs → lv_has ls 1 [(0, .ref (ad 22))] → W p l e ({ frames := 4, cells := 0, slots := 0, locals := 200 } : Room) s m args below meth c H locs 0 0 (MQ below (Q_r058_X9_what dC dI cI cJ cII cJJ ad f9_size f9_equations f9_areSteps f9_foundMany f9_many f9_rank f9_freeMany f9_arePlans f9_planMany ai al A) args s 0 0 A) (F0 m 29 ls [.int S0, .int S1]) := by
  obtain ⟨hx, hb, hr, hml, hown, hts, hk, hA, hK, hX⟩ := id C
  intro S0 S1 H locs ls h0 h1 h2 h3 h4 h5 h6 h7 h8 h9 h10 hI hP hD hS hl
  refine v_iadd hx hb dX9_what_29 _ rfl ?_
  refine lv_topi (fun z1 e_z1 => ?_)
  have g_z1 : z1.toInt = S1.toInt + S0.toInt := by rw [e_z1]; exact n_add (a := S1.toInt) (b := S0.toInt) rfl rfl (by omega) (by omega)
  exact r2_i hx hb hr hk hS dX9_what_30 (fun t ht hW => ⟨(by first | omega | decide | exact Or.inl (by decide) | exact Or.inr (by decide) | exact Or.inr (by omega)), by rw [ht]; exact hP, va_K.moved hW.alike hK, hD⟩)
set_option maxRecDepth 100000 in
set_option maxHeartbeats 4000000 in
theorem r058_X9_what_b12 {p : Program} {l : Launch} {e : Env} {s : State} {m : MethodId} {args : Array Value} {below : List Frame} {meth : Method} {c : Code} {A : Nat → Prop} {dC : Nat → ClassId} {dI : Nat → Nat → Nat} {cI cJ cII cJJ : ClassId} {ad : Nat → Nat} {g : Nat} {f9_size f9_equations f9_areSteps f9_foundMany f9_many f9_rank f9_freeMany f9_arePlans f9_planMany : Int32} {ai : Nat → Nat → Int32} {al : Nat → Nat → Int64} (C : Cx p c s m meth args A dC dI (TY cI cJ cII cJJ) cX9_what (some .int) 1 RX9 0 g) : ∀ (S0 : Int32) (H : Heap) (locs : List Loc) (ls : Array Slot), (0 ≤ S0.toInt ∧ S0.toInt ≤ 1) → (1 ≤ f9_size.toInt ∧ f9_size.toInt ≤ 4) → (0 ≤ f9_equations.toInt ∧ f9_equations.toInt ≤ 3) → (0 ≤ f9_areSteps.toInt ∧ f9_areSteps.toInt ≤ 1) → (0 ≤ f9_foundMany.toInt ∧ f9_foundMany.toInt ≤ 99999) → (0 ≤ f9_many.toInt ∧ f9_many.toInt ≤ 6000) → (0 ≤ f9_rank.toInt ∧ f9_rank.toInt ≤ 3) → (0 ≤ f9_freeMany.toInt ∧ f9_freeMany.toInt ≤ 4) → (0 ≤ f9_arePlans.toInt ∧ f9_arePlans.toInt ≤ 1) → (0 ≤ f9_planMany.toInt ∧ f9_planMany.toInt ≤ 194481) → IAM ai → va_P (dC, dI) vwCl (WM cI cJ cII cJJ ad f9_size f9_equations f9_areSteps f9_foundMany f9_many f9_rank f9_freeMany f9_arePlans f9_planMany ai al) H → va_D A (WM cI cJ cII cJJ ad f9_size f9_equations f9_areSteps f9_foundMany f9_many f9_rank f9_freeMany f9_arePlans f9_planMany ai al) → va_S A s.heap H locs → lv_has ls 1 [(0, .ref (ad 22))] → W p l e ({ frames := 4, cells := 0, slots := 0, locals := 200 } : Room) s m args below meth c H locs 0 0 (MQ below (Q_r058_X9_what dC dI cI cJ cII cJJ ad f9_size f9_equations f9_areSteps f9_foundMany f9_many f9_rank f9_freeMany f9_arePlans f9_planMany ai al A) args s 0 0 A) (F0 m 12 ls [.int S0]) := by
  obtain ⟨hx, hb, hr, hml, hown, hts, hk, hA, hK, hX⟩ := id C
  intro S0 H locs ls h0 h1 h2 h3 h4 h5 h6 h7 h8 h9 hI hP hD hS hl
  refine lv_aload_n hx hb dX9_what_12 rfl (lv_at hl 0 rfl) ?_
  refine lv_aload_n hx hb dX9_what_13 rfl (lv_at hl 0 rfl) ?_
  refine gf (k := 6) hx hb hts inX9 hown hK hP k_801 rfl (by decide) rfl 22 rfl (.ref (ad 27)) rfl dX9_what_14 ?_
  refine lv_iconst (v := 0) hx hb dX9_what_17 (by decide) ?_
  have kc0 : (0 : Int32).toInt = 0 := by decide +kernel
  have hM := r057_X9_isPlan l dC dI cI cJ cII cJJ H.size 0 ad f9_size f9_equations f9_areSteps f9_foundMany f9_many f9_rank f9_freeMany f9_arePlans f9_planMany ai al (by omega) (by omega) (by omega) (by omega) (by omega) (by omega) (by omega) (by omega) (by omega) hI
  refine k2V_i (q0 := 22) ⟨hx, hb, hml, hown, hts⟩ hK hP hD hS hA hX cv_RX9_199 hM ⟨by decide +kernel, by decide +kernel⟩ rfl rfl (Or.inl rfl) (rest := [.int S0]) rfl rfl rfl hl.1 rfl (Nat.le_of_ble_eq_true rfl) dX9_what_18 ⟨Nat.le_of_ble_eq_true rfl, Nat.le_of_ble_eq_true rfl⟩ (fun r1 t H1 locs_1 ht hB hS_1 hFc => ?_)
  obtain ⟨gpr1_0, hP_2, -, hD_2⟩ := hB
  rw [ht] at hP_2
  have hD_3 := hD_2.weaken (B := A) (fun k q _ h9 => hFc q.1 h9)
  clear ht
  generalize H1 = H_4 at hP_2 hS_1 ⊢
  refine lv_if_eq (tgt := 28) hx hb dX9_what_21 (by decide) (fun c2 => ?_) (fun c2 => ?_)
  · have c2 := j_eq (a := r1.toInt) (b := 0) rfl (by decide +kernel) c2
    refine lv_iconst (v := 0) hx hb dX9_what_28 (by decide) ?_
    exact r058_X9_what_b29 C  0 S0 _ _ _ (by first | omega | decide | (have ka0 := (by decide +kernel : (0 : Int32).toInt = 0); omega)) (by first | omega | decide | (have ka0 := (by decide +kernel : (0 : Int32).toInt = 0); omega)) (by first | omega | decide | (have ka0 := (by decide +kernel : (0 : Int32).toInt = 0); omega)) (by first | omega | decide | (have ka0 := (by decide +kernel : (0 : Int32).toInt = 0); omega)) (by first | omega | decide | (have ka0 := (by decide +kernel : (0 : Int32).toInt = 0); omega)) (by first | omega | decide | (have ka0 := (by decide +kernel : (0 : Int32).toInt = 0); omega)) (by first | omega | decide | (have ka0 := (by decide +kernel : (0 : Int32).toInt = 0); omega)) (by first | omega | decide | (have ka0 := (by decide +kernel : (0 : Int32).toInt = 0); omega)) (by first | omega | decide | (have ka0 := (by decide +kernel : (0 : Int32).toInt = 0); omega)) (by first | omega | decide | (have ka0 := (by decide +kernel : (0 : Int32).toInt = 0); omega)) (by first | omega | decide | (have ka0 := (by decide +kernel : (0 : Int32).toInt = 0); omega)) hI hP_2 hD_3 hS_1 (lv_sub hl [0] rfl)
  · have c2 := j_ne (a := r1.toInt) (b := 0) rfl (by decide +kernel) c2
    refine lv_iconst (v := 2) hx hb dX9_what_24 (by decide) ?_
    refine lv_goto (tgt := 29) hx hb dX9_what_25 (by decide) ?_
    exact r058_X9_what_b29 C  2 S0 _ _ _ (by first | omega | decide | (have ka0 := (by decide +kernel : (2 : Int32).toInt = 2); omega)) (by first | omega | decide | (have ka0 := (by decide +kernel : (2 : Int32).toInt = 2); omega)) (by first | omega | decide | (have ka0 := (by decide +kernel : (2 : Int32).toInt = 2); omega)) (by first | omega | decide | (have ka0 := (by decide +kernel : (2 : Int32).toInt = 2); omega)) (by first | omega | decide | (have ka0 := (by decide +kernel : (2 : Int32).toInt = 2); omega)) (by first | omega | decide | (have ka0 := (by decide +kernel : (2 : Int32).toInt = 2); omega)) (by first | omega | decide | (have ka0 := (by decide +kernel : (2 : Int32).toInt = 2); omega)) (by first | omega | decide | (have ka0 := (by decide +kernel : (2 : Int32).toInt = 2); omega)) (by first | omega | decide | (have ka0 := (by decide +kernel : (2 : Int32).toInt = 2); omega)) (by first | omega | decide | (have ka0 := (by decide +kernel : (2 : Int32).toInt = 2); omega)) (by first | omega | decide | (have ka0 := (by decide +kernel : (2 : Int32).toInt = 2); omega)) hI hP_2 hD_3 hS_1 (lv_sub hl [0] rfl)
set_option maxRecDepth 100000 in
set_option maxHeartbeats 4000000 in
theorem r058_X9_what (l : Launch) (dC : Nat → ClassId) (dI : Nat → Nat → Nat) (cI cJ cII cJJ : ClassId) (sz g : Nat) (ad : Nat → Nat) (f9_size f9_equations f9_areSteps f9_foundMany f9_many f9_rank f9_freeMany f9_arePlans f9_planMany : Int32) (ai : Nat → Nat → Int32) (al : Nat → Nat → Int64) (h_f9_size : (1 ≤ f9_size.toInt ∧ f9_size.toInt ≤ 4)) (h_f9_equations : (0 ≤ f9_equations.toInt ∧ f9_equations.toInt ≤ 3)) (h_f9_areSteps : (0 ≤ f9_areSteps.toInt ∧ f9_areSteps.toInt ≤ 1)) (h_f9_foundMany : (0 ≤ f9_foundMany.toInt ∧ f9_foundMany.toInt ≤ 99999)) (h_f9_many : (0 ≤ f9_many.toInt ∧ f9_many.toInt ≤ 6000)) (h_f9_rank : (0 ≤ f9_rank.toInt ∧ f9_rank.toInt ≤ 3)) (h_f9_freeMany : (0 ≤ f9_freeMany.toInt ∧ f9_freeMany.toInt ≤ 4)) (h_f9_arePlans : (0 ≤ f9_arePlans.toInt ∧ f9_arePlans.toInt ≤ 1)) (h_f9_planMany : (0 ≤ f9_planMany.toInt ∧ f9_planMany.toInt ≤ 194481)) (hI : IAM ai) : Met l yX9_what (.code yX9_what cX9_what 1 (some .int) :: TT) ({ frames := 4, cells := 0, slots := 0, locals := 200 } : Room) (PcS dC dI (TY cI cJ cII cJJ) [.ref (ad 22)] (WM cI cJ cII cJJ ad f9_size f9_equations f9_areSteps f9_foundMany f9_many f9_rank f9_freeMany f9_arePlans f9_planMany ai al) sz 0 g) (Q_r058_X9_what dC dI cI cJ cII cJJ ad f9_size f9_equations f9_areSteps f9_foundMany f9_many f9_rank f9_freeMany f9_arePlans f9_planMany ai al (va_A (WM cI cJ cII cJJ ad f9_size f9_equations f9_areSteps f9_foundMany f9_many f9_rank f9_freeMany f9_arePlans f9_planMany ai al) sz)) 0 0 (va_A (WM cI cJ cII cJJ ad f9_size f9_equations f9_areSteps f9_foundMany f9_many f9_rank f9_freeMany f9_arePlans f9_planMany ai al) sz) := by
  refine SM.of (y := yX9_what) (maxL := 1) (av := [.ref (ad 22)]) (Q_r058_X9_what dC dI cI cJ cII cJJ ad f9_size f9_equations f9_areSteps f9_foundMany f9_many f9_rank f9_freeMany f9_arePlans f9_planMany ai al) (by decide +kernel) (Nat.le_of_ble_eq_true rfl) (fun p e s m below meth c A ls hx hb hr hml hown hts hk hnm hA hK hP hD hS hX hl => ?_)
  have C : Cx p c s m meth (([.ref (ad 22)] : List Value).toArray) A dC dI (TY cI cJ cII cJJ) cX9_what (some .int) 1 RX9 0 g := ⟨hx, hb, hr, hml, hown, hts, hk, hA, hK, hX⟩
  have hown : s.vm.findClass RX9 = some m.cls := hown
  have hl : lv_has ls 1 [(0, .ref (ad 22))] := hl
  obtain ⟨H, hH⟩ : ∃ q, q = s.heap := ⟨_, rfl⟩
  rw [← hH] at hP
  have hS : va_S A s.heap H [] := by rw [hH]; exact hS
  rw [← hH]
  refine lv_aload_n hx hb dX9_what_0 rfl (lv_at hl 0 rfl) ?_
  have hM := r025_X9_isStep l dC dI cI cJ cII cJJ H.size 0 ad f9_size f9_equations f9_areSteps f9_foundMany f9_many f9_rank f9_freeMany f9_arePlans f9_planMany ai al (by omega) (by omega) (by omega) (by omega) (by omega) (by omega) (by omega) (by omega) (by omega) hI
  refine k2V_i (q0 := 22) ⟨hx, hb, hml, hown, hts⟩ hK hP hD hS hA hX cv_RX9_195 hM ⟨by decide +kernel, by decide +kernel⟩ rfl rfl (Or.inl rfl) (rest := []) rfl rfl rfl hl.1 rfl (Nat.le_of_ble_eq_true rfl) dX9_what_1 ⟨Nat.le_of_ble_eq_true rfl, Nat.le_of_ble_eq_true rfl⟩ (fun r1 t H1 locs_1 ht hB hS_1 hFc => ?_)
  obtain ⟨gpr1_0, hP_2, -, hD_2⟩ := hB
  rw [ht] at hP_2
  have hD_3 := hD_2.weaken (B := A) (fun k q _ h9 => hFc q.1 h9)
  clear ht
  generalize H1 = H_4 at hP_2 hS_1 ⊢
  refine lv_if_eq (tgt := 11) hx hb dX9_what_4 (by decide) (fun c2 => ?_) (fun c2 => ?_)
  · have c2 := j_eq (a := r1.toInt) (b := 0) rfl (by decide +kernel) c2
    refine lv_iconst (v := 0) hx hb dX9_what_11 (by decide) ?_
    exact r058_X9_what_b12 C  0 _ _ _ (by first | omega | decide | (have ka0 := (by decide +kernel : (0 : Int32).toInt = 0); omega)) (by first | omega | decide | (have ka0 := (by decide +kernel : (0 : Int32).toInt = 0); omega)) (by first | omega | decide | (have ka0 := (by decide +kernel : (0 : Int32).toInt = 0); omega)) (by first | omega | decide | (have ka0 := (by decide +kernel : (0 : Int32).toInt = 0); omega)) (by first | omega | decide | (have ka0 := (by decide +kernel : (0 : Int32).toInt = 0); omega)) (by first | omega | decide | (have ka0 := (by decide +kernel : (0 : Int32).toInt = 0); omega)) (by first | omega | decide | (have ka0 := (by decide +kernel : (0 : Int32).toInt = 0); omega)) (by first | omega | decide | (have ka0 := (by decide +kernel : (0 : Int32).toInt = 0); omega)) (by first | omega | decide | (have ka0 := (by decide +kernel : (0 : Int32).toInt = 0); omega)) (by first | omega | decide | (have ka0 := (by decide +kernel : (0 : Int32).toInt = 0); omega)) hI hP_2 hD_3 hS_1 (lv_sub hl [0] rfl)
  · have c2 := j_ne (a := r1.toInt) (b := 0) rfl (by decide +kernel) c2
    refine lv_iconst (v := 1) hx hb dX9_what_7 (by decide) ?_
    refine lv_goto (tgt := 12) hx hb dX9_what_8 (by decide) ?_
    exact r058_X9_what_b12 C  1 _ _ _ (by first | omega | decide | (have ka0 := (by decide +kernel : (1 : Int32).toInt = 1); omega)) (by first | omega | decide | (have ka0 := (by decide +kernel : (1 : Int32).toInt = 1); omega)) (by first | omega | decide | (have ka0 := (by decide +kernel : (1 : Int32).toInt = 1); omega)) (by first | omega | decide | (have ka0 := (by decide +kernel : (1 : Int32).toInt = 1); omega)) (by first | omega | decide | (have ka0 := (by decide +kernel : (1 : Int32).toInt = 1); omega)) (by first | omega | decide | (have ka0 := (by decide +kernel : (1 : Int32).toInt = 1); omega)) (by first | omega | decide | (have ka0 := (by decide +kernel : (1 : Int32).toInt = 1); omega)) (by first | omega | decide | (have ka0 := (by decide +kernel : (1 : Int32).toInt = 1); omega)) (by first | omega | decide | (have ka0 := (by decide +kernel : (1 : Int32).toInt = 1); omega)) (by first | omega | decide | (have ka0 := (by decide +kernel : (1 : Int32).toInt = 1); omega)) hI hP_2 hD_3 hS_1 (lv_sub hl [0] rfl)
def Q_r059_X9_fits (dC : Nat → ClassId) (dI : Nat → Nat → Nat) (cI cJ cII cJJ : ClassId) (ad : Nat → Nat) (f9_size f9_equations f9_arePlans f9_planMany : Int32) (ai0 : Nat → Nat → Int32) (al0 : Nat → Nat → Int64) (o_f9_areSteps : Int32) (o_f9_many : Int32) : (Nat → Prop) → Array Value → State → Outcome → State → Prop := fun A => QI (fun r t => ∃ (n_f9_areSteps n_f9_foundMany n_f9_many n_f9_rank n_f9_freeMany : Int32), ∃ (n_ai : Nat → Nat → Int32), ∃ (n_al : Nat → Nat → Int64), ((-7 ≤ r.toInt ∧ r.toInt ≤ 1) ∧ (1 ≤ n_f9_areSteps.toInt ∧ n_f9_areSteps.toInt ≤ 1) ∧ (0 ≤ n_f9_foundMany.toInt ∧ n_f9_foundMany.toInt ≤ 99999) ∧ (0 ≤ n_f9_many.toInt ∧ n_f9_many.toInt ≤ 6000) ∧ (0 ≤ n_f9_rank.toInt ∧ n_f9_rank.toInt ≤ 3) ∧ (0 ≤ n_f9_freeMany.toInt ∧ n_f9_freeMany.toInt ≤ 4) ∧ (n_f9_areSteps.toInt = 0 ∨ CIa n_ai f9_size n_f9_many.toInt) ∧ IAM n_ai ∧ FR [2, 7, 8, 9, 10, 11, 12, 13, 14, 15, 16, 19] ai0 n_ai ∧ FL [17, 18] al0 n_al) ∧ WO dC dI (TY cI cJ cII cJJ) (WM cI cJ cII cJJ ad f9_size f9_equations n_f9_areSteps n_f9_foundMany n_f9_many n_f9_rank n_f9_freeMany f9_arePlans f9_planMany n_ai n_al) A t) A
set_option maxRecDepth 100000 in
set_option maxHeartbeats 4000000 in
theorem r059_X9_fits (l : Launch) (dC : Nat → ClassId) (dI : Nat → Nat → Nat) (cI cJ cII cJJ : ClassId) (sz g : Nat) (ad : Nat → Nat) (f9_size f9_equations f9_areSteps f9_foundMany f9_many f9_rank f9_freeMany f9_arePlans f9_planMany : Int32) (ai : Nat → Nat → Int32) (al : Nat → Nat → Int64) (x1 : Int32) (h_f9_size : (1 ≤ f9_size.toInt ∧ f9_size.toInt ≤ 4)) (h_f9_equations : (0 ≤ f9_equations.toInt ∧ f9_equations.toInt ≤ 3)) (h_f9_areSteps : (0 ≤ f9_areSteps.toInt ∧ f9_areSteps.toInt ≤ 1)) (h_f9_foundMany : (0 ≤ f9_foundMany.toInt ∧ f9_foundMany.toInt ≤ 99999)) (h_f9_many : (0 ≤ f9_many.toInt ∧ f9_many.toInt ≤ 6000)) (h_f9_rank : (0 ≤ f9_rank.toInt ∧ f9_rank.toInt ≤ 3)) (h_f9_freeMany : (0 ≤ f9_freeMany.toInt ∧ f9_freeMany.toInt ≤ 4)) (h_f9_arePlans : (0 ≤ f9_arePlans.toInt ∧ f9_arePlans.toInt ≤ 1)) (h_f9_planMany : (0 ≤ f9_planMany.toInt ∧ f9_planMany.toInt ≤ 194481)) (hp0 : (f9_areSteps.toInt = 0 ∨ CIa ai f9_size f9_many.toInt)) (hI : IAM ai) : Met l yX9_fits (.code yX9_fits cX9_fits 2 (some .int) :: TT) ({ frames := 11, cells := 0, slots := 0, locals := 620 } : Room) (PcS dC dI (TY cI cJ cII cJJ) [.ref (ad 22), .int x1] (WM cI cJ cII cJJ ad f9_size f9_equations f9_areSteps f9_foundMany f9_many f9_rank f9_freeMany f9_arePlans f9_planMany ai al) sz 0 g) (Q_r059_X9_fits dC dI cI cJ cII cJJ ad f9_size f9_equations f9_arePlans f9_planMany ai al f9_areSteps f9_many (va_A (WM cI cJ cII cJJ ad f9_size f9_equations f9_areSteps f9_foundMany f9_many f9_rank f9_freeMany f9_arePlans f9_planMany ai al) sz)) 0 0 (va_A (WM cI cJ cII cJJ ad f9_size f9_equations f9_areSteps f9_foundMany f9_many f9_rank f9_freeMany f9_arePlans f9_planMany ai al) sz) := by
  refine SM.of (y := yX9_fits) (maxL := 2) (av := [.ref (ad 22), .int x1]) (Q_r059_X9_fits dC dI cI cJ cII cJJ ad f9_size f9_equations f9_arePlans f9_planMany ai al f9_areSteps f9_many) (by decide +kernel) (Nat.le_of_ble_eq_true rfl) (fun p e s m below meth c A ls hx hb hr hml hown hts hk hnm hA hK hP hD hS hX hl => ?_)
  have C : Cx p c s m meth (([.ref (ad 22), .int x1] : List Value).toArray) A dC dI (TY cI cJ cII cJJ) cX9_fits (some .int) 2 RX9 0 g := ⟨hx, hb, hr, hml, hown, hts, hk, hA, hK, hX⟩
  have hown : s.vm.findClass RX9 = some m.cls := hown
  have hl : lv_has ls 2 [(0, .ref (ad 22)), (1, .int x1)] := hl
  obtain ⟨H, hH⟩ : ∃ q, q = s.heap := ⟨_, rfl⟩
  rw [← hH] at hP
  have hS : va_S A s.heap H [] := by rw [hH]; exact hS
  rw [← hH]
  have hF := FR_refl [2, 7, 8, 9, 10, 11, 12, 13, 14, 15, 16, 19] ai
  have hG := FL_refl [17, 18] al
  have ra_x1 := s_any x1
  refine lv_aload_n hx hb dX9_fits_0 rfl (lv_at hl 0 rfl) ?_
  have hM := r018_X9_findSteps l dC dI cI cJ cII cJJ H.size 0 ad f9_size f9_equations f9_areSteps f9_foundMany f9_many f9_rank f9_freeMany f9_arePlans f9_planMany ai al (by omega) (by omega) (by omega) (by omega) (by omega) (by omega) (by omega) (by omega) (by omega) (by first | exact hp0 | exact Or.inl (by omega) | exact Or.inl (by decide +kernel)) hI
  refine k2V_v (q0 := 22) ⟨hx, hb, hml, hown, hts⟩ hK hP hD hS hA hX cv_RX9_180 hM ⟨by decide +kernel, by decide +kernel⟩ rfl rfl (Or.inl rfl) (rest := []) rfl rfl rfl hl.1 rfl (Nat.le_of_ble_eq_true rfl) dX9_fits_1 ⟨Nat.le_of_ble_eq_true rfl, Nat.le_of_ble_eq_true rfl⟩ (fun t H1 locs_1 ht hB hS_1 hFc => ?_)
  obtain ⟨v2, v3, v4, v5, v6, ai7, al8, ⟨gpr1_0, gpr1_1, gpr1_2, gpr1_3, gpr1_4, gpr1_5, gpr1_6, hI_2, hFr_r1, hGr_r1⟩, hP_2, -, hD_2⟩ := hB
  have hF_3 := FR_tr hF hFr_r1 (by decide)
  have hG_4 := FL_tr hG hGr_r1 (by decide)
  rw [ht] at hP_2
  have hD_5 := hD_2.weaken (B := A) (fun k q _ h9 => hFc q.1 h9)
  clear ht
  generalize H1 = H_6 at hP_2 hS_1 ⊢
  refine lv_iload_n hx hb dX9_fits_4 rfl (lv_at hl 1 rfl) ?_
  refine lv_aload_n hx hb dX9_fits_5 rfl (lv_at hl 0 rfl) ?_
  refine gf (k := 22) hx hb hts inX9 hown hK hP_2 k_817 rfl (by decide) rfl 22 rfl (.int v4) rfl dX9_fits_6 ?_
  have hM := r020_X9_isIn l dC dI cI cJ cII cJJ H_6.size 0 ad f9_size f9_equations v2 v3 v4 v5 v6 f9_arePlans f9_planMany ai7 al8 x1 v4 (by omega) (by omega) (by omega) (by omega) (by omega) (by omega) (by omega) (by omega) (by omega) hI_2
  refine k2S_i ⟨hx, hb, hml, hown, hts⟩ hK hP_2 hD_5 hS_1 hA hX cs_RX9_116 hM ⟨by decide +kernel, by decide +kernel⟩ rfl rfl (Or.inl rfl) (rest := []) rfl hl.1 rfl (Nat.le_of_ble_eq_true rfl) dX9_fits_9 ⟨Nat.le_of_ble_eq_true rfl, Nat.le_of_ble_eq_true rfl⟩ (fun r9 t H1 locs_7 ht hB hS_7 hFc => ?_)
  obtain ⟨⟨gpr9_0, gpr9_1⟩, hP_8, -, hD_8⟩ := hB
  rw [ht] at hP_8
  have hD_9 := hD_8.weaken (B := A) (fun k q _ h9 => hFc q.1 h9)
  clear ht
  generalize H1 = H_10 at hP_8 hS_7 ⊢
  refine lv_if_ne (tgt := 21) hx hb dX9_fits_12 (by decide) (fun c10 => ?_) (fun c10 => ?_)
  · have c10 := j_ne (a := r9.toInt) (b := 0) rfl (by decide +kernel) c10
    refine lv_aload_n hx hb dX9_fits_21 rfl (lv_at hl 0 rfl) ?_
    have hM := r026_X9_leaves l dC dI cI cJ cII cJJ H_10.size 0 ad f9_size f9_equations v2 v3 v4 v5 v6 f9_arePlans f9_planMany ai7 al8 (by omega) (by omega) (by omega) (by omega) (by omega) (by omega) (by omega) (by omega) (by omega) hI_2
    refine k2V_v (q0 := 22) ⟨hx, hb, hml, hown, hts⟩ hK hP_8 hD_9 hS_7 hA hX cv_RX9_203 hM ⟨by decide +kernel, by decide +kernel⟩ rfl rfl (Or.inl rfl) (rest := []) rfl rfl rfl hl.1 rfl (Nat.le_of_ble_eq_true rfl) dX9_fits_22 ⟨Nat.le_of_ble_eq_true rfl, Nat.le_of_ble_eq_true rfl⟩ (fun t H1 locs_11 ht hB hS_11 hFc => ?_)
    obtain ⟨ai12, ⟨hI_12, hFr_r11⟩, hP_12, -, hD_12⟩ := hB
    have hF_13 := FR_tr hF_3 hFr_r11 (by decide)
    rw [ht] at hP_12
    have hD_14 := hD_12.weaken (B := A) (fun k q _ h9 => hFc q.1 h9)
    clear ht
    generalize H1 = H_15 at hP_12 hS_11 ⊢
    refine lv_aload_n hx hb dX9_fits_25 rfl (lv_at hl 0 rfl) ?_
    refine lv_iload_n hx hb dX9_fits_26 rfl (lv_at hl 1 rfl) ?_
    have hM := r027_X9_fitsLeft l dC dI cI cJ cII cJJ H_15.size 0 ad f9_size f9_equations v2 v3 v4 v5 v6 f9_arePlans f9_planMany ai12 al8 x1 (by omega) (by omega) (by omega) (by omega) (by omega) (by omega) (by omega) (by omega) (by omega) (by omega) hI_12
    refine k2V_i (q0 := 22) ⟨hx, hb, hml, hown, hts⟩ hK hP_12 hD_14 hS_11 hA hX cv_RX9_206 hM ⟨by decide +kernel, by decide +kernel⟩ rfl rfl (Or.inl rfl) (rest := []) rfl rfl rfl hl.1 rfl (Nat.le_of_ble_eq_true rfl) dX9_fits_27 ⟨Nat.le_of_ble_eq_true rfl, Nat.le_of_ble_eq_true rfl⟩ (fun r13 t H1 locs_16 ht hB hS_16 hFc => ?_)
    obtain ⟨⟨gpr13_0, gpr13_1⟩, hP_17, -, hD_17⟩ := hB
    rw [ht] at hP_17
    have hD_18 := hD_17.weaken (B := A) (fun k q _ h9 => hFc q.1 h9)
    clear ht
    generalize H1 = H_19 at hP_17 hS_16 ⊢
    refine lv_if_eq (tgt := 37) hx hb dX9_fits_30 (by decide) (fun c14 => ?_) (fun c14 => ?_)
    · have c14 := j_eq (a := r13.toInt) (b := 0) rfl (by decide +kernel) c14
      refine lv_iconst (v := 0) hx hb dX9_fits_37 (by decide) ?_
      exact r2_i hx hb hr hk hS_16 dX9_fits_38 (fun t ht hW => ⟨v2, v3, v4, v5, v6, ai12, al8, ⟨(by first | omega | decide | exact Or.inl (by decide) | exact Or.inr (by decide) | exact Or.inr (by omega)), (by first | omega | decide | exact Or.inl (by decide) | exact Or.inr (by decide) | exact Or.inr (by omega)), (by first | omega | decide | exact Or.inl (by decide) | exact Or.inr (by decide) | exact Or.inr (by omega)), (by first | omega | decide | exact Or.inl (by decide) | exact Or.inr (by decide) | exact Or.inr (by omega)), (by first | omega | decide | exact Or.inl (by decide) | exact Or.inr (by decide) | exact Or.inr (by omega)), (by first | omega | decide | exact Or.inl (by decide) | exact Or.inr (by decide) | exact Or.inr (by omega)), (by first | exact (Or.inr (CIa_t gpr1_5 hFr_r11 (by decide))) | exact Or.inl (by omega) | exact Or.inl (by decide +kernel)), hI_12, hF_13, hG_4⟩, by rw [ht]; exact hP_17, va_K.moved hW.alike hK, hD_18⟩)
    · have c14 := j_ne (a := r13.toInt) (b := 0) rfl (by decide +kernel) c14
      refine lv_iconst (v := 1) hx hb dX9_fits_33 (by decide) ?_
      refine lv_goto (tgt := 38) hx hb dX9_fits_34 (by decide) ?_
      exact r2_i hx hb hr hk hS_16 dX9_fits_38 (fun t ht hW => ⟨v2, v3, v4, v5, v6, ai12, al8, ⟨(by first | omega | decide | exact Or.inl (by decide) | exact Or.inr (by decide) | exact Or.inr (by omega)), (by first | omega | decide | exact Or.inl (by decide) | exact Or.inr (by decide) | exact Or.inr (by omega)), (by first | omega | decide | exact Or.inl (by decide) | exact Or.inr (by decide) | exact Or.inr (by omega)), (by first | omega | decide | exact Or.inl (by decide) | exact Or.inr (by decide) | exact Or.inr (by omega)), (by first | omega | decide | exact Or.inl (by decide) | exact Or.inr (by decide) | exact Or.inr (by omega)), (by first | omega | decide | exact Or.inl (by decide) | exact Or.inr (by decide) | exact Or.inr (by omega)), (by first | exact (Or.inr (CIa_t gpr1_5 hFr_r11 (by decide))) | exact Or.inl (by omega) | exact Or.inl (by decide +kernel)), hI_12, hF_13, hG_4⟩, by rw [ht]; exact hP_17, va_K.moved hW.alike hK, hD_18⟩)
  · have c10 := j_eq (a := r9.toInt) (b := 0) rfl (by decide +kernel) c10
    refine lv_aload_n hx hb dX9_fits_15 rfl (lv_at hl 0 rfl) ?_
    refine lv_iconst (v := (-1)) hx hb dX9_fits_16 (by decide) ?_
    have kcm1 : ((-1) : Int32).toInt = (-1) := by decide +kernel
    have hM := r021_X9_refuse l dC dI cI cJ cII cJJ H_10.size 0 ad f9_size f9_equations v2 v3 v4 v5 v6 f9_arePlans f9_planMany ai7 al8 (-1) (by decide +kernel) (by omega) (by omega) (by omega) (by omega) (by omega) (by omega) (by omega) (by omega) (by omega) hI_2
    refine k2V_i (q0 := 22) ⟨hx, hb, hml, hown, hts⟩ hK hP_8 hD_9 hS_7 hA hX cv_RX9_112 hM ⟨by decide +kernel, by decide +kernel⟩ rfl rfl (Or.inl rfl) (rest := []) rfl rfl rfl hl.1 rfl (Nat.le_of_ble_eq_true rfl) dX9_fits_17 ⟨Nat.le_of_ble_eq_true rfl, Nat.le_of_ble_eq_true rfl⟩ (fun r15 t H1 locs_20 ht hB hS_20 hFc => ?_)
    obtain ⟨ai16, ⟨gpr15_0, gpr15_1, hI_21, hFr_r15⟩, hP_21, -, hD_21⟩ := hB
    have hF_22 := FR_tr hF_3 hFr_r15 (by decide)
    rw [ht] at hP_21
    have hD_23 := hD_21.weaken (B := A) (fun k q _ h9 => hFc q.1 h9)
    clear ht
    generalize H1 = H_24 at hP_21 hS_20 ⊢
    exact r2_i hx hb hr hk hS_20 dX9_fits_20 (fun t ht hW => ⟨v2, v3, v4, v5, v6, ai16, al8, ⟨(by first | omega | decide | exact Or.inl (by decide) | exact Or.inr (by decide) | exact Or.inr (by omega)), (by first | omega | decide | exact Or.inl (by decide) | exact Or.inr (by decide) | exact Or.inr (by omega)), (by first | omega | decide | exact Or.inl (by decide) | exact Or.inr (by decide) | exact Or.inr (by omega)), (by first | omega | decide | exact Or.inl (by decide) | exact Or.inr (by decide) | exact Or.inr (by omega)), (by first | omega | decide | exact Or.inl (by decide) | exact Or.inr (by decide) | exact Or.inr (by omega)), (by first | omega | decide | exact Or.inl (by decide) | exact Or.inr (by decide) | exact Or.inr (by omega)), (by first | exact (Or.inr (CIa_t gpr1_5 hFr_r15 (by decide))) | exact Or.inl (by omega) | exact Or.inl (by decide +kernel)), hI_21, hF_22, hG_4⟩, by rw [ht]; exact hP_21, va_K.moved hW.alike hK, hD_23⟩)
def Q_r060_X9_split (dC : Nat → ClassId) (dI : Nat → Nat → Nat) (cI cJ cII cJJ : ClassId) (ad : Nat → Nat) (f9_size f9_equations f9_arePlans f9_planMany : Int32) (ai0 : Nat → Nat → Int32) (al0 : Nat → Nat → Int64) (o_f9_areSteps : Int32) (o_f9_many : Int32) : (Nat → Prop) → Array Value → State → Outcome → State → Prop := fun A => QI (fun r t => ∃ (n_f9_areSteps n_f9_foundMany n_f9_many n_f9_rank n_f9_freeMany : Int32), ∃ (n_ai : Nat → Nat → Int32), ∃ (n_al : Nat → Nat → Int64), ((1 ≤ n_f9_areSteps.toInt ∧ n_f9_areSteps.toInt ≤ 1) ∧ (0 ≤ n_f9_foundMany.toInt ∧ n_f9_foundMany.toInt ≤ 99999) ∧ (0 ≤ n_f9_many.toInt ∧ n_f9_many.toInt ≤ 6000) ∧ (0 ≤ n_f9_rank.toInt ∧ n_f9_rank.toInt ≤ 3) ∧ (0 ≤ n_f9_freeMany.toInt ∧ n_f9_freeMany.toInt ≤ 4) ∧ (n_f9_areSteps.toInt = 0 ∨ CIa n_ai f9_size n_f9_many.toInt) ∧ IAM n_ai ∧ FR [2, 7, 8, 9, 10, 11, 12, 13, 14, 15, 16, 19] ai0 n_ai ∧ FL [17, 18] al0 n_al) ∧ WO dC dI (TY cI cJ cII cJJ) (WM cI cJ cII cJJ ad f9_size f9_equations n_f9_areSteps n_f9_foundMany n_f9_many n_f9_rank n_f9_freeMany f9_arePlans f9_planMany n_ai n_al) A t) A
set_option maxRecDepth 100000 in
set_option maxHeartbeats 4000000 in
theorem r060_X9_split (l : Launch) (dC : Nat → ClassId) (dI : Nat → Nat → Nat) (cI cJ cII cJJ : ClassId) (sz g : Nat) (ad : Nat → Nat) (f9_size f9_equations f9_areSteps f9_foundMany f9_many f9_rank f9_freeMany f9_arePlans f9_planMany : Int32) (ai : Nat → Nat → Int32) (al : Nat → Nat → Int64) (x1 : Int32) (h_f9_size : (1 ≤ f9_size.toInt ∧ f9_size.toInt ≤ 4)) (h_f9_equations : (0 ≤ f9_equations.toInt ∧ f9_equations.toInt ≤ 3)) (h_f9_areSteps : (0 ≤ f9_areSteps.toInt ∧ f9_areSteps.toInt ≤ 1)) (h_f9_foundMany : (0 ≤ f9_foundMany.toInt ∧ f9_foundMany.toInt ≤ 99999)) (h_f9_many : (0 ≤ f9_many.toInt ∧ f9_many.toInt ≤ 6000)) (h_f9_rank : (0 ≤ f9_rank.toInt ∧ f9_rank.toInt ≤ 3)) (h_f9_freeMany : (0 ≤ f9_freeMany.toInt ∧ f9_freeMany.toInt ≤ 4)) (h_f9_arePlans : (0 ≤ f9_arePlans.toInt ∧ f9_arePlans.toInt ≤ 1)) (h_f9_planMany : (0 ≤ f9_planMany.toInt ∧ f9_planMany.toInt ≤ 194481)) (hp0 : (f9_areSteps.toInt = 0 ∨ CIa ai f9_size f9_many.toInt)) (hI : IAM ai) : Met l yX9_split (.code yX9_split cX9_split 2 (some .int) :: TT) ({ frames := 11, cells := 0, slots := 0, locals := 620 } : Room) (PcS dC dI (TY cI cJ cII cJJ) [.ref (ad 22), .int x1] (WM cI cJ cII cJJ ad f9_size f9_equations f9_areSteps f9_foundMany f9_many f9_rank f9_freeMany f9_arePlans f9_planMany ai al) sz 0 g) (Q_r060_X9_split dC dI cI cJ cII cJJ ad f9_size f9_equations f9_arePlans f9_planMany ai al f9_areSteps f9_many (va_A (WM cI cJ cII cJJ ad f9_size f9_equations f9_areSteps f9_foundMany f9_many f9_rank f9_freeMany f9_arePlans f9_planMany ai al) sz)) 0 0 (va_A (WM cI cJ cII cJJ ad f9_size f9_equations f9_areSteps f9_foundMany f9_many f9_rank f9_freeMany f9_arePlans f9_planMany ai al) sz) := by
  refine SM.of (y := yX9_split) (maxL := 2) (av := [.ref (ad 22), .int x1]) (Q_r060_X9_split dC dI cI cJ cII cJJ ad f9_size f9_equations f9_arePlans f9_planMany ai al f9_areSteps f9_many) (by decide +kernel) (Nat.le_of_ble_eq_true rfl) (fun p e s m below meth c A ls hx hb hr hml hown hts hk hnm hA hK hP hD hS hX hl => ?_)
  have C : Cx p c s m meth (([.ref (ad 22), .int x1] : List Value).toArray) A dC dI (TY cI cJ cII cJJ) cX9_split (some .int) 2 RX9 0 g := ⟨hx, hb, hr, hml, hown, hts, hk, hA, hK, hX⟩
  have hown : s.vm.findClass RX9 = some m.cls := hown
  have hl : lv_has ls 2 [(0, .ref (ad 22)), (1, .int x1)] := hl
  obtain ⟨H, hH⟩ : ∃ q, q = s.heap := ⟨_, rfl⟩
  rw [← hH] at hP
  have hS : va_S A s.heap H [] := by rw [hH]; exact hS
  rw [← hH]
  have hF := FR_refl [2, 7, 8, 9, 10, 11, 12, 13, 14, 15, 16, 19] ai
  have hG := FL_refl [17, 18] al
  have ra_x1 := s_any x1
  refine lv_aload_n hx hb dX9_split_0 rfl (lv_at hl 0 rfl) ?_
  have hM := r018_X9_findSteps l dC dI cI cJ cII cJJ H.size 0 ad f9_size f9_equations f9_areSteps f9_foundMany f9_many f9_rank f9_freeMany f9_arePlans f9_planMany ai al (by omega) (by omega) (by omega) (by omega) (by omega) (by omega) (by omega) (by omega) (by omega) (by first | exact hp0 | exact Or.inl (by omega) | exact Or.inl (by decide +kernel)) hI
  refine k2V_v (q0 := 22) ⟨hx, hb, hml, hown, hts⟩ hK hP hD hS hA hX cv_RX9_180 hM ⟨by decide +kernel, by decide +kernel⟩ rfl rfl (Or.inl rfl) (rest := []) rfl rfl rfl hl.1 rfl (Nat.le_of_ble_eq_true rfl) dX9_split_1 ⟨Nat.le_of_ble_eq_true rfl, Nat.le_of_ble_eq_true rfl⟩ (fun t H1 locs_1 ht hB hS_1 hFc => ?_)
  obtain ⟨v2, v3, v4, v5, v6, ai7, al8, ⟨gpr1_0, gpr1_1, gpr1_2, gpr1_3, gpr1_4, gpr1_5, gpr1_6, hI_2, hFr_r1, hGr_r1⟩, hP_2, -, hD_2⟩ := hB
  have hF_3 := FR_tr hF hFr_r1 (by decide)
  have hG_4 := FL_tr hG hGr_r1 (by decide)
  rw [ht] at hP_2
  have hD_5 := hD_2.weaken (B := A) (fun k q _ h9 => hFc q.1 h9)
  clear ht
  generalize H1 = H_6 at hP_2 hS_1 ⊢
  refine lv_iload_n hx hb dX9_split_4 rfl (lv_at hl 1 rfl) ?_
  refine lv_aload_n hx hb dX9_split_5 rfl (lv_at hl 0 rfl) ?_
  refine gf (k := 22) hx hb hts inX9 hown hK hP_2 k_817 rfl (by decide) rfl 22 rfl (.int v4) rfl dX9_split_6 ?_
  have hM := r020_X9_isIn l dC dI cI cJ cII cJJ H_6.size 0 ad f9_size f9_equations v2 v3 v4 v5 v6 f9_arePlans f9_planMany ai7 al8 x1 v4 (by omega) (by omega) (by omega) (by omega) (by omega) (by omega) (by omega) (by omega) (by omega) hI_2
  refine k2S_i ⟨hx, hb, hml, hown, hts⟩ hK hP_2 hD_5 hS_1 hA hX cs_RX9_116 hM ⟨by decide +kernel, by decide +kernel⟩ rfl rfl (Or.inl rfl) (rest := []) rfl hl.1 rfl (Nat.le_of_ble_eq_true rfl) dX9_split_9 ⟨Nat.le_of_ble_eq_true rfl, Nat.le_of_ble_eq_true rfl⟩ (fun r9 t H1 locs_7 ht hB hS_7 hFc => ?_)
  obtain ⟨⟨gpr9_0, gpr9_1⟩, hP_8, -, hD_8⟩ := hB
  rw [ht] at hP_8
  have hD_9 := hD_8.weaken (B := A) (fun k q _ h9 => hFc q.1 h9)
  clear ht
  generalize H1 = H_10 at hP_8 hS_7 ⊢
  refine lv_if_ne (tgt := 21) hx hb dX9_split_12 (by decide) (fun c10 => ?_) (fun c10 => ?_)
  · have c10 := j_ne (a := r9.toInt) (b := 0) rfl (by decide +kernel) c10
    refine lv_aload_n hx hb dX9_split_21 rfl (lv_at hl 0 rfl) ?_
    have hM := r025_X9_isStep l dC dI cI cJ cII cJJ H_10.size 0 ad f9_size f9_equations v2 v3 v4 v5 v6 f9_arePlans f9_planMany ai7 al8 (by omega) (by omega) (by omega) (by omega) (by omega) (by omega) (by omega) (by omega) (by omega) hI_2
    refine k2V_i (q0 := 22) ⟨hx, hb, hml, hown, hts⟩ hK hP_8 hD_9 hS_7 hA hX cv_RX9_195 hM ⟨by decide +kernel, by decide +kernel⟩ rfl rfl (Or.inl rfl) (rest := []) rfl rfl rfl hl.1 rfl (Nat.le_of_ble_eq_true rfl) dX9_split_22 ⟨Nat.le_of_ble_eq_true rfl, Nat.le_of_ble_eq_true rfl⟩ (fun r11 t H1 locs_11 ht hB hS_11 hFc => ?_)
    obtain ⟨gpr11_0, hP_12, -, hD_12⟩ := hB
    rw [ht] at hP_12
    have hD_13 := hD_12.weaken (B := A) (fun k q _ h9 => hFc q.1 h9)
    clear ht
    generalize H1 = H_14 at hP_12 hS_11 ⊢
    refine lv_if_eq (tgt := 36) hx hb dX9_split_25 (by decide) (fun c12 => ?_) (fun c12 => ?_)
    · have c12 := j_eq (a := r11.toInt) (b := 0) rfl (by decide +kernel) c12
      refine lv_aload_n hx hb dX9_split_36 rfl (lv_at hl 0 rfl) ?_
      refine lv_bipush (v := (-5)) hx hb dX9_split_37 (by decide) ?_
      have kcm5 : ((-5) : Int32).toInt = (-5) := by decide +kernel
      have hM := r021_X9_refuse l dC dI cI cJ cII cJJ H_14.size 0 ad f9_size f9_equations v2 v3 v4 v5 v6 f9_arePlans f9_planMany ai7 al8 (-5) (by decide +kernel) (by omega) (by omega) (by omega) (by omega) (by omega) (by omega) (by omega) (by omega) (by omega) hI_2
      refine k2V_i (q0 := 22) ⟨hx, hb, hml, hown, hts⟩ hK hP_12 hD_13 hS_11 hA hX cv_RX9_112 hM ⟨by decide +kernel, by decide +kernel⟩ rfl rfl (Or.inl rfl) (rest := []) rfl rfl rfl hl.1 rfl (Nat.le_of_ble_eq_true rfl) dX9_split_39 ⟨Nat.le_of_ble_eq_true rfl, Nat.le_of_ble_eq_true rfl⟩ (fun r13 t H1 locs_15 ht hB hS_15 hFc => ?_)
      obtain ⟨ai14, ⟨gpr13_0, gpr13_1, hI_16, hFr_r13⟩, hP_16, -, hD_16⟩ := hB
      have hF_17 := FR_tr hF_3 hFr_r13 (by decide)
      rw [ht] at hP_16
      have hD_18 := hD_16.weaken (B := A) (fun k q _ h9 => hFc q.1 h9)
      clear ht
      generalize H1 = H_19 at hP_16 hS_15 ⊢
      exact r2_i hx hb hr hk hS_15 dX9_split_42 (fun t ht hW => ⟨v2, v3, v4, v5, v6, ai14, al8, ⟨(by first | omega | decide | exact Or.inl (by decide) | exact Or.inr (by decide) | exact Or.inr (by omega)), (by first | omega | decide | exact Or.inl (by decide) | exact Or.inr (by decide) | exact Or.inr (by omega)), (by first | omega | decide | exact Or.inl (by decide) | exact Or.inr (by decide) | exact Or.inr (by omega)), (by first | omega | decide | exact Or.inl (by decide) | exact Or.inr (by decide) | exact Or.inr (by omega)), (by first | omega | decide | exact Or.inl (by decide) | exact Or.inr (by decide) | exact Or.inr (by omega)), (by first | exact (Or.inr (CIa_t gpr1_5 hFr_r13 (by decide))) | exact Or.inl (by omega) | exact Or.inl (by decide +kernel)), hI_16, hF_17, hG_4⟩, by rw [ht]; exact hP_16, va_K.moved hW.alike hK, hD_18⟩)
    · have c12 := j_ne (a := r11.toInt) (b := 0) rfl (by decide +kernel) c12
      refine lv_aload_n hx hb dX9_split_28 rfl (lv_at hl 0 rfl) ?_
      refine lv_iload_n hx hb dX9_split_29 rfl (lv_at hl 1 rfl) ?_
      have hM := r028_X9_amount l dC dI cI cJ cII cJJ H_14.size 0 ad f9_size f9_equations v2 v3 v4 v5 v6 f9_arePlans f9_planMany ai7 al8 x1 (by omega) (by omega) (by omega) (by omega) (by omega) (by omega) (by omega) (by omega) (by omega) gpr1_5 hI_2
      refine k2V_i (q0 := 22) ⟨hx, hb, hml, hown, hts⟩ hK hP_12 hD_13 hS_11 hA hX cv_RX9_209 hM ⟨by decide +kernel, by decide +kernel⟩ rfl rfl (Or.inl rfl) (rest := []) rfl rfl rfl hl.1 rfl (Nat.le_of_ble_eq_true rfl) dX9_split_30 ⟨Nat.le_of_ble_eq_true rfl, Nat.le_of_ble_eq_true rfl⟩ (fun r15 t H1 locs_20 ht hB hS_20 hFc => ?_)
      obtain ⟨ai16, ⟨hI_21, hFr_r15⟩, hP_21, -, hD_21⟩ := hB
      have hF_22 := FR_tr hF_3 hFr_r15 (by decide)
      rw [ht] at hP_21
      have hD_23 := hD_21.weaken (B := A) (fun k q _ h9 => hFc q.1 h9)
      clear ht
      generalize H1 = H_24 at hP_21 hS_20 ⊢
      refine lv_goto (tgt := 42) hx hb dX9_split_33 (by decide) ?_
      exact r2_i hx hb hr hk hS_20 dX9_split_42 (fun t ht hW => ⟨v2, v3, v4, v5, v6, ai16, al8, ⟨(by first | omega | decide | exact Or.inl (by decide) | exact Or.inr (by decide) | exact Or.inr (by omega)), (by first | omega | decide | exact Or.inl (by decide) | exact Or.inr (by decide) | exact Or.inr (by omega)), (by first | omega | decide | exact Or.inl (by decide) | exact Or.inr (by decide) | exact Or.inr (by omega)), (by first | omega | decide | exact Or.inl (by decide) | exact Or.inr (by decide) | exact Or.inr (by omega)), (by first | omega | decide | exact Or.inl (by decide) | exact Or.inr (by decide) | exact Or.inr (by omega)), (by first | exact (Or.inr (CIa_t gpr1_5 hFr_r15 (by decide))) | exact Or.inl (by omega) | exact Or.inl (by decide +kernel)), hI_21, hF_22, hG_4⟩, by rw [ht]; exact hP_21, va_K.moved hW.alike hK, hD_23⟩)
  · have c10 := j_eq (a := r9.toInt) (b := 0) rfl (by decide +kernel) c10
    refine lv_aload_n hx hb dX9_split_15 rfl (lv_at hl 0 rfl) ?_
    refine lv_iconst (v := (-1)) hx hb dX9_split_16 (by decide) ?_
    have kcm1 : ((-1) : Int32).toInt = (-1) := by decide +kernel
    have hM := r021_X9_refuse l dC dI cI cJ cII cJJ H_10.size 0 ad f9_size f9_equations v2 v3 v4 v5 v6 f9_arePlans f9_planMany ai7 al8 (-1) (by decide +kernel) (by omega) (by omega) (by omega) (by omega) (by omega) (by omega) (by omega) (by omega) (by omega) hI_2
    refine k2V_i (q0 := 22) ⟨hx, hb, hml, hown, hts⟩ hK hP_8 hD_9 hS_7 hA hX cv_RX9_112 hM ⟨by decide +kernel, by decide +kernel⟩ rfl rfl (Or.inl rfl) (rest := []) rfl rfl rfl hl.1 rfl (Nat.le_of_ble_eq_true rfl) dX9_split_17 ⟨Nat.le_of_ble_eq_true rfl, Nat.le_of_ble_eq_true rfl⟩ (fun r17 t H1 locs_25 ht hB hS_25 hFc => ?_)
    obtain ⟨ai18, ⟨gpr17_0, gpr17_1, hI_26, hFr_r17⟩, hP_26, -, hD_26⟩ := hB
    have hF_27 := FR_tr hF_3 hFr_r17 (by decide)
    rw [ht] at hP_26
    have hD_28 := hD_26.weaken (B := A) (fun k q _ h9 => hFc q.1 h9)
    clear ht
    generalize H1 = H_29 at hP_26 hS_25 ⊢
    exact r2_i hx hb hr hk hS_25 dX9_split_20 (fun t ht hW => ⟨v2, v3, v4, v5, v6, ai18, al8, ⟨(by first | omega | decide | exact Or.inl (by decide) | exact Or.inr (by decide) | exact Or.inr (by omega)), (by first | omega | decide | exact Or.inl (by decide) | exact Or.inr (by decide) | exact Or.inr (by omega)), (by first | omega | decide | exact Or.inl (by decide) | exact Or.inr (by decide) | exact Or.inr (by omega)), (by first | omega | decide | exact Or.inl (by decide) | exact Or.inr (by decide) | exact Or.inr (by omega)), (by first | omega | decide | exact Or.inl (by decide) | exact Or.inr (by decide) | exact Or.inr (by omega)), (by first | exact (Or.inr (CIa_t gpr1_5 hFr_r17 (by decide))) | exact Or.inl (by omega) | exact Or.inl (by decide +kernel)), hI_26, hF_27, hG_4⟩, by rw [ht]; exact hP_26, va_K.moved hW.alike hK, hD_28⟩)
def Q_r061_X9_adds (dC : Nat → ClassId) (dI : Nat → Nat → Nat) (cI cJ cII cJJ : ClassId) (ad : Nat → Nat) (f9_size f9_equations f9_areSteps f9_foundMany f9_many f9_rank f9_freeMany f9_arePlans f9_planMany : Int32) (ai0 : Nat → Nat → Int32) (al : Nat → Nat → Int64) : (Nat → Prop) → Array Value → State → Outcome → State → Prop := fun A => QI (fun r t => ∃ (n_ai : Nat → Nat → Int32), ((-7 ≤ r.toInt ∧ r.toInt ≤ 1) ∧ IAM n_ai ∧ FR [2, 27] ai0 n_ai) ∧ WO dC dI (TY cI cJ cII cJJ) (WM cI cJ cII cJJ ad f9_size f9_equations f9_areSteps f9_foundMany f9_many f9_rank f9_freeMany f9_arePlans f9_planMany n_ai al) A t) A
set_option maxRecDepth 100000 in
set_option maxHeartbeats 4000000 in
theorem r061_X9_adds_b113 {p : Program} {l : Launch} {e : Env} {s : State} {m : MethodId} {args : Array Value} {below : List Frame} {meth : Method} {c : Code} {A : Nat → Prop} {dC : Nat → ClassId} {dI : Nat → Nat → Nat} {cI cJ cII cJJ : ClassId} {ad : Nat → Nat} {g : Nat} {f9_size f9_equations f9_areSteps f9_foundMany f9_many f9_rank f9_freeMany f9_arePlans f9_planMany : Int32} {ai0 : Nat → Nat → Int32} {al : Nat → Nat → Int64} (C : Cx p c s m meth args A dC dI (TY cI cJ cII cJJ) cX9_adds (some .int) 10 RX9 0 g) : ∀ (n : Nat), ∀ (L2 L5 L6 L7 : Int32) (J3 : Int64) (ai : Nat → Nat → Int32) (H : Heap) (locs : List Loc) (ls : Array Slot), (0 ≤ L2.toInt ∧ L2.toInt ≤ 23996) → (0 ≤ L5.toInt ∧ L5.toInt ≤ 0) → (0 ≤ L6.toInt ∧ L6.toInt ≤ 0) → (0 ≤ L7.toInt ∧ L7.toInt ≤ 4) → (1 ≤ f9_size.toInt ∧ f9_size.toInt ≤ 4) → (0 ≤ f9_equations.toInt ∧ f9_equations.toInt ≤ 3) → (0 ≤ f9_areSteps.toInt ∧ f9_areSteps.toInt ≤ 1) → (0 ≤ f9_foundMany.toInt ∧ f9_foundMany.toInt ≤ 99999) → (0 ≤ f9_many.toInt ∧ f9_many.toInt ≤ 6000) → (0 ≤ f9_rank.toInt ∧ f9_rank.toInt ≤ 3) → (0 ≤ f9_freeMany.toInt ∧ f9_freeMany.toInt ≤ 4) → (0 ≤ f9_arePlans.toInt ∧ f9_arePlans.toInt ≤ 1) → (0 ≤ f9_planMany.toInt ∧ f9_planMany.toInt ≤ 194481) → f9_size.toInt - L7.toInt < (n : Int) → (0 : Int) < (n : Int) → IAM ai → FR [2, 27] ai0 ai → va_P (dC, dI) vwCl (WM cI cJ cII cJJ ad f9_size f9_equations f9_areSteps f9_foundMany f9_many f9_rank f9_freeMany f9_arePlans f9_planMany ai al) H → va_D A (WM cI cJ cII cJJ ad f9_size f9_equations f9_areSteps f9_foundMany f9_many f9_rank f9_freeMany f9_arePlans f9_planMany ai al) → va_S A s.heap H locs → lv_has ls 10 [(0, .ref (ad 22)), (1, .ref (ad 11)), (2, .int L2), (3, .long J3), (5, .int L5), (6, .int L6), (7, .int L7)] → W p l e ({ frames := 3, cells := 0, slots := 0, locals := 140 } : Room) s m args below meth c H locs 0 0 (MQ below (Q_r061_X9_adds dC dI cI cJ cII cJJ ad f9_size f9_equations f9_areSteps f9_foundMany f9_many f9_rank f9_freeMany f9_arePlans f9_planMany ai0 al A) args s 0 0 A) (F0 m 113 ls []) := by
  obtain ⟨hx, hb, hr, hml, hown, hts, hk, hA, hK, hX⟩ := id C
  intro n
  induction n with
  | zero =>
    intro L2 L5 L6 L7 J3 ai H locs ls h0 h1 h2 h3 h4 h5 h6 h7 h8 h9 h10 h11 h12 h13 h14 hI hF hP hD hS hl
    exact absurd h14 (by omega)
  | succ n ih =>
    intro L2 L5 L6 L7 J3 ai H locs ls h0 h1 h2 h3 h4 h5 h6 h7 h8 h9 h10 h11 h12 h13 h14 hI hF hP hD hS hl
    refine lv_iload hx hb dX9_adds_113 (lv_at hl 6 rfl) ?_
    refine lv_aload_n hx hb dX9_adds_115 rfl (lv_at hl 0 rfl) ?_
    refine gf (k := 12) hx hb hts inX9 hown hK hP k_807 rfl (by decide) rfl 22 rfl (.int f9_size) rfl dX9_adds_116 ?_
    refine lv_icmp_ge (tgt := 148) hx hb dX9_adds_119 (by decide) (fun c1 => ?_) (fun c1 => ?_)
    · have c1 := j_le (a := f9_size.toInt) (b := L7.toInt) rfl rfl c1
      refine lv_iconst (v := 1) hx hb dX9_adds_148 (by decide) ?_
      exact r2_i hx hb hr hk hS dX9_adds_149 (fun t ht hW => ⟨ai, ⟨(by first | omega | decide | exact Or.inl (by decide) | exact Or.inr (by decide) | exact Or.inr (by omega)), hI, hF⟩, by rw [ht]; exact hP, va_K.moved hW.alike hK, hD⟩)
    · have c1 := j_nle (a := f9_size.toInt) (b := L7.toInt) rfl rfl c1
      refine lv_aload_n hx hb dX9_adds_122 rfl (lv_at hl 0 rfl) ?_
      refine gf (k := 6) hx hb hts inX9 hown hK hP k_801 rfl (by decide) rfl 22 rfl (.ref (ad 27)) rfl dX9_adds_123 ?_
      refine lv_iload hx hb dX9_adds_126 (lv_at hl 6 rfl) ?_
      refine lv_dup2_11 hx hb dX9_adds_128 rfl rfl ?_
      refine va_iald hx hb hK hP 27 0 rfl rfl (j_in (a := L7.toInt) rfl (by omega) (by omega)) dX9_adds_129 ?_
      refine lv_topi (fun z2 e_z2 => ?_)
      refine lv_lload_n hx hb dX9_adds_130 rfl (lv_at hl 3 rfl) ?_
      refine lv_aload_n hx hb dX9_adds_131 rfl (lv_at hl 1 rfl) ?_
      refine lv_iload_n hx hb dX9_adds_132 rfl (lv_at hl 2 rfl) ?_
      refine lv_iload hx hb dX9_adds_133 (lv_at hl 6 rfl) ?_
      refine v_iadd hx hb dX9_adds_135 _ rfl ?_
      refine lv_topi (fun z3 e_z3 => ?_)
      have g_z3 : z3.toInt = L2.toInt + L7.toInt := by rw [e_z3]; exact n_add (a := L2.toInt) (b := L7.toInt) rfl rfl (by omega) (by omega)
      refine va_iald hx hb hK hP 11 0 rfl rfl (j_in (a := z3.toInt) rfl (by omega) (by omega)) dX9_adds_136 ?_
      refine lv_topi (fun z4 e_z4 => ?_)
      refine lv_i2l hx hb dX9_adds_137 rfl ?_
      refine lv_topl (fun yy5 e_yy5 => ?_)
      refine v_lmul hx hb dX9_adds_138 _ rfl ?_
      refine lv_topl (fun yy6 e_yy6 => ?_)
      refine lv_l2i hx hb dX9_adds_139 rfl ?_
      refine lv_topi (fun z7 e_z7 => ?_)
      refine v_iadd hx hb dX9_adds_140 _ rfl ?_
      refine lv_topi (fun z8 e_z8 => ?_)
      refine va_iast hx hb hK hP hD hS 27 0 rfl rfl (j_in (a := L7.toInt) rfl (by omega) (by omega)) dX9_adds_141 (fun H_1 locs_1 hP_1 hD_1 hS_1 => ?_)
      obtain ⟨ai9, e_ai9⟩ : ∃ q : Nat → Nat → Int32, q = va_up ai 27 (upd (ai 27) L7.toNatClampNeg z8) := ⟨_, rfl⟩
      have hF_2 := FR_st hF e_ai9 (by decide)
      have hI_3 : IAM ai9 := by rw [e_ai9]; exact hI
      have hP_4 : va_P (dC, dI) vwCl (WM cI cJ cII cJJ ad f9_size f9_equations f9_areSteps f9_foundMany f9_many f9_rank f9_freeMany f9_arePlans f9_planMany ai9 al) H_1 := by rw [e_ai9]; exact hP_1
      have hD_5 : va_D A (WM cI cJ cII cJJ ad f9_size f9_equations f9_areSteps f9_foundMany f9_many f9_rank f9_freeMany f9_arePlans f9_planMany ai9 al) := by rw [e_ai9]; exact hD_1
      obtain ⟨z10, e_z10⟩ : ∃ q : Int32, q = L7 + Int32.ofInt 1 := ⟨_, rfl⟩
      have g_z10 : z10.toInt = L7.toInt + 1 := by rw [e_z10]; exact n_add (a := L7.toInt) (b := 1) rfl (by decide +kernel) (by omega) (by omega)
      refine lv_iinc (v := z10) (lv' := [(7, .int z10), (0, .ref (ad 22)), (1, .ref (ad 11)), (2, .int L2), (3, .long J3), (5, .int L5), (6, .int L6)]) hx hb dX9_adds_142 hl (k := 6) rfl e_z10.symm (by decide) rfl (fun ls_6 hl_6 => ?_)
      refine lv_goto (tgt := 113) hx hb dX9_adds_145 (by decide) ?_
      exact ih L2 L5 L6 z10 J3 ai9 _ _ _ (by omega) (by omega) (by omega) (by omega) (by omega) (by omega) (by omega) (by omega) (by omega) (by omega) (by omega) (by omega) (by omega) (by omega) (by omega) hI_3 hF_2 hP_4 hD_5 hS_1 (lv_sub hl_6 [1, 2, 3, 4, 5, 6, 0] rfl)
set_option maxRecDepth 100000 in
set_option maxHeartbeats 4000000 in
theorem r061_X9_adds_b78 {p : Program} {l : Launch} {e : Env} {s : State} {m : MethodId} {args : Array Value} {below : List Frame} {meth : Method} {c : Code} {A : Nat → Prop} {dC : Nat → ClassId} {dI : Nat → Nat → Nat} {cI cJ cII cJJ : ClassId} {ad : Nat → Nat} {g : Nat} {f9_size f9_equations f9_areSteps f9_foundMany f9_many f9_rank f9_freeMany f9_arePlans f9_planMany : Int32} {ai0 : Nat → Nat → Int32} {al : Nat → Nat → Int64} (C : Cx p c s m meth args A dC dI (TY cI cJ cII cJJ) cX9_adds (some .int) 10 RX9 0 g) (n9 : Nat) (K9 : ∀ (L2 L5 L6 L7 : Int32) (J3 : Int64) (ai : Nat → Nat → Int32) (H : Heap) (locs : List Loc) (ls : Array Slot), (0 ≤ L2.toInt ∧ L2.toInt ≤ 23996) → (0 ≤ L5.toInt ∧ L5.toInt ≤ 1) → (0 ≤ L6.toInt ∧ L6.toInt ≤ 1) → (0 ≤ L7.toInt ∧ L7.toInt ≤ 4) → (1 ≤ f9_size.toInt ∧ f9_size.toInt ≤ 4) → (0 ≤ f9_equations.toInt ∧ f9_equations.toInt ≤ 3) → (0 ≤ f9_areSteps.toInt ∧ f9_areSteps.toInt ≤ 1) → (0 ≤ f9_foundMany.toInt ∧ f9_foundMany.toInt ≤ 99999) → (0 ≤ f9_many.toInt ∧ f9_many.toInt ≤ 6000) → (0 ≤ f9_rank.toInt ∧ f9_rank.toInt ≤ 3) → (0 ≤ f9_freeMany.toInt ∧ f9_freeMany.toInt ≤ 4) → (0 ≤ f9_arePlans.toInt ∧ f9_arePlans.toInt ≤ 1) → (0 ≤ f9_planMany.toInt ∧ f9_planMany.toInt ≤ 194481) → f9_size.toInt - L7.toInt < (n9 : Int) → (0 : Int) < (n9 : Int) → IAM ai → FR [2, 27] ai0 ai → va_P (dC, dI) vwCl (WM cI cJ cII cJJ ad f9_size f9_equations f9_areSteps f9_foundMany f9_many f9_rank f9_freeMany f9_arePlans f9_planMany ai al) H → va_D A (WM cI cJ cII cJJ ad f9_size f9_equations f9_areSteps f9_foundMany f9_many f9_rank f9_freeMany f9_arePlans f9_planMany ai al) → va_S A s.heap H locs → lv_has ls 10 [(0, .ref (ad 22)), (1, .ref (ad 11)), (2, .int L2), (3, .long J3), (5, .int L5), (6, .int L6), (7, .int L7)] → W p l e ({ frames := 3, cells := 0, slots := 0, locals := 140 } : Room) s m args below meth c H locs 0 0 (MQ below (Q_r061_X9_adds dC dI cI cJ cII cJJ ad f9_size f9_equations f9_areSteps f9_foundMany f9_many f9_rank f9_freeMany f9_arePlans f9_planMany ai0 al A) args s 0 0 A) (F0 m 9 ls [])) : ∀ (L2 L5 L6 L7 S0 : Int32) (J3 J8 : Int64) (ai : Nat → Nat → Int32) (H : Heap) (locs : List Loc) (ls : Array Slot), (0 ≤ L2.toInt ∧ L2.toInt ≤ 23996) → (0 ≤ L5.toInt ∧ L5.toInt ≤ 1) → (0 ≤ L6.toInt ∧ L6.toInt ≤ 1) → (0 ≤ L7.toInt ∧ L7.toInt ≤ 3) → (0 ≤ S0.toInt ∧ S0.toInt ≤ 1) → (1 ≤ f9_size.toInt ∧ f9_size.toInt ≤ 4) → (0 ≤ f9_equations.toInt ∧ f9_equations.toInt ≤ 3) → (0 ≤ f9_areSteps.toInt ∧ f9_areSteps.toInt ≤ 1) → (0 ≤ f9_foundMany.toInt ∧ f9_foundMany.toInt ≤ 99999) → (0 ≤ f9_many.toInt ∧ f9_many.toInt ≤ 6000) → (0 ≤ f9_rank.toInt ∧ f9_rank.toInt ≤ 3) → (0 ≤ f9_freeMany.toInt ∧ f9_freeMany.toInt ≤ 4) → (0 ≤ f9_arePlans.toInt ∧ f9_arePlans.toInt ≤ 1) → (0 ≤ f9_planMany.toInt ∧ f9_planMany.toInt ≤ 194481) → L7.toInt < f9_size.toInt → f9_size.toInt - L7.toInt ≤ (n9 : Int) → IAM ai → FR [2, 27] ai0 ai → va_P (dC, dI) vwCl (WM cI cJ cII cJJ ad f9_size f9_equations f9_areSteps f9_foundMany f9_many f9_rank f9_freeMany f9_arePlans f9_planMany ai al) H → va_D A (WM cI cJ cII cJJ ad f9_size f9_equations f9_areSteps f9_foundMany f9_many f9_rank f9_freeMany f9_arePlans f9_planMany ai al) → va_S A s.heap H locs → lv_has ls 10 [(0, .ref (ad 22)), (1, .ref (ad 11)), (2, .int L2), (3, .long J3), (5, .int L5), (6, .int L6), (7, .int L7), (8, .long J8)] → W p l e ({ frames := 3, cells := 0, slots := 0, locals := 140 } : Room) s m args below meth c H locs 0 0 (MQ below (Q_r061_X9_adds dC dI cI cJ cII cJJ ad f9_size f9_equations f9_areSteps f9_foundMany f9_many f9_rank f9_freeMany f9_arePlans f9_planMany ai0 al A) args s 0 0 A) (F0 m 78 ls [.int S0]) := by
  obtain ⟨hx, hb, hr, hml, hown, hts, hk, hA, hK, hX⟩ := id C
  intro L2 L5 L6 L7 S0 J3 J8 ai H locs ls h0 h1 h2 h3 h4 h5 h6 h7 h8 h9 h10 h11 h12 h13 h14 h15 hI hF hP hD hS hl
  refine lv_istore (lv' := [(6, .int S0), (0, .ref (ad 22)), (1, .ref (ad 11)), (2, .int L2), (3, .long J3), (5, .int L5), (7, .int L7), (8, .long J8)]) hx hb dX9_adds_78 hl (by decide) rfl (fun ls_1 hl_1 => ?_)
  obtain ⟨z1, e_z1⟩ : ∃ q : Int32, q = L7 + Int32.ofInt 1 := ⟨_, rfl⟩
  have g_z1 : z1.toInt = L7.toInt + 1 := by rw [e_z1]; exact n_add (a := L7.toInt) (b := 1) rfl (by decide +kernel) (by omega) (by omega)
  refine lv_iinc (v := z1) (lv' := [(7, .int z1), (6, .int S0), (0, .ref (ad 22)), (1, .ref (ad 11)), (2, .int L2), (3, .long J3), (5, .int L5), (8, .long J8)]) hx hb dX9_adds_80 hl_1 (k := 6) rfl e_z1.symm (by decide) rfl (fun ls_2 hl_2 => ?_)
  refine lv_goto (tgt := 9) hx hb dX9_adds_83 (by decide) ?_
  exact K9 L2 L5 S0 z1 J3 ai _ _ _ (by omega) (by omega) (by omega) (by omega) (by omega) (by omega) (by omega) (by omega) (by omega) (by omega) (by omega) (by omega) (by omega) (by omega) (by omega) hI hF hP hD hS (lv_sub hl_2 [2, 3, 4, 5, 6, 1, 0] rfl)
set_option maxRecDepth 100000 in
set_option maxHeartbeats 4000000 in
theorem r061_X9_adds_b73 {p : Program} {l : Launch} {e : Env} {s : State} {m : MethodId} {args : Array Value} {below : List Frame} {meth : Method} {c : Code} {A : Nat → Prop} {dC : Nat → ClassId} {dI : Nat → Nat → Nat} {cI cJ cII cJJ : ClassId} {ad : Nat → Nat} {g : Nat} {f9_size f9_equations f9_areSteps f9_foundMany f9_many f9_rank f9_freeMany f9_arePlans f9_planMany : Int32} {ai0 : Nat → Nat → Int32} {al : Nat → Nat → Int64} (C : Cx p c s m meth args A dC dI (TY cI cJ cII cJJ) cX9_adds (some .int) 10 RX9 0 g) (n9 : Nat) (K9 : ∀ (L2 L5 L6 L7 : Int32) (J3 : Int64) (ai : Nat → Nat → Int32) (H : Heap) (locs : List Loc) (ls : Array Slot), (0 ≤ L2.toInt ∧ L2.toInt ≤ 23996) → (0 ≤ L5.toInt ∧ L5.toInt ≤ 1) → (0 ≤ L6.toInt ∧ L6.toInt ≤ 1) → (0 ≤ L7.toInt ∧ L7.toInt ≤ 4) → (1 ≤ f9_size.toInt ∧ f9_size.toInt ≤ 4) → (0 ≤ f9_equations.toInt ∧ f9_equations.toInt ≤ 3) → (0 ≤ f9_areSteps.toInt ∧ f9_areSteps.toInt ≤ 1) → (0 ≤ f9_foundMany.toInt ∧ f9_foundMany.toInt ≤ 99999) → (0 ≤ f9_many.toInt ∧ f9_many.toInt ≤ 6000) → (0 ≤ f9_rank.toInt ∧ f9_rank.toInt ≤ 3) → (0 ≤ f9_freeMany.toInt ∧ f9_freeMany.toInt ≤ 4) → (0 ≤ f9_arePlans.toInt ∧ f9_arePlans.toInt ≤ 1) → (0 ≤ f9_planMany.toInt ∧ f9_planMany.toInt ≤ 194481) → f9_size.toInt - L7.toInt < (n9 : Int) → (0 : Int) < (n9 : Int) → IAM ai → FR [2, 27] ai0 ai → va_P (dC, dI) vwCl (WM cI cJ cII cJJ ad f9_size f9_equations f9_areSteps f9_foundMany f9_many f9_rank f9_freeMany f9_arePlans f9_planMany ai al) H → va_D A (WM cI cJ cII cJJ ad f9_size f9_equations f9_areSteps f9_foundMany f9_many f9_rank f9_freeMany f9_arePlans f9_planMany ai al) → va_S A s.heap H locs → lv_has ls 10 [(0, .ref (ad 22)), (1, .ref (ad 11)), (2, .int L2), (3, .long J3), (5, .int L5), (6, .int L6), (7, .int L7)] → W p l e ({ frames := 3, cells := 0, slots := 0, locals := 140 } : Room) s m args below meth c H locs 0 0 (MQ below (Q_r061_X9_adds dC dI cI cJ cII cJJ ad f9_size f9_equations f9_areSteps f9_foundMany f9_many f9_rank f9_freeMany f9_arePlans f9_planMany ai0 al A) args s 0 0 A) (F0 m 9 ls [])) : ∀ (L2 L5 L6 L7 : Int32) (J3 J8 : Int64) (ai : Nat → Nat → Int32) (H : Heap) (locs : List Loc) (ls : Array Slot), (0 ≤ L2.toInt ∧ L2.toInt ≤ 23996) → (0 ≤ L5.toInt ∧ L5.toInt ≤ 1) → (0 ≤ L6.toInt ∧ L6.toInt ≤ 1) → (0 ≤ L7.toInt ∧ L7.toInt ≤ 3) → (1 ≤ f9_size.toInt ∧ f9_size.toInt ≤ 4) → (0 ≤ f9_equations.toInt ∧ f9_equations.toInt ≤ 3) → (0 ≤ f9_areSteps.toInt ∧ f9_areSteps.toInt ≤ 1) → (0 ≤ f9_foundMany.toInt ∧ f9_foundMany.toInt ≤ 99999) → (0 ≤ f9_many.toInt ∧ f9_many.toInt ≤ 6000) → (0 ≤ f9_rank.toInt ∧ f9_rank.toInt ≤ 3) → (0 ≤ f9_freeMany.toInt ∧ f9_freeMany.toInt ≤ 4) → (0 ≤ f9_arePlans.toInt ∧ f9_arePlans.toInt ≤ 1) → (0 ≤ f9_planMany.toInt ∧ f9_planMany.toInt ≤ 194481) → L7.toInt < f9_size.toInt → f9_size.toInt - L7.toInt ≤ (n9 : Int) → IAM ai → FR [2, 27] ai0 ai → va_P (dC, dI) vwCl (WM cI cJ cII cJJ ad f9_size f9_equations f9_areSteps f9_foundMany f9_many f9_rank f9_freeMany f9_arePlans f9_planMany ai al) H → va_D A (WM cI cJ cII cJJ ad f9_size f9_equations f9_areSteps f9_foundMany f9_many f9_rank f9_freeMany f9_arePlans f9_planMany ai al) → va_S A s.heap H locs → lv_has ls 10 [(0, .ref (ad 22)), (1, .ref (ad 11)), (2, .int L2), (3, .long J3), (5, .int L5), (6, .int L6), (7, .int L7), (8, .long J8)] → W p l e ({ frames := 3, cells := 0, slots := 0, locals := 140 } : Room) s m args below meth c H locs 0 0 (MQ below (Q_r061_X9_adds dC dI cI cJ cII cJJ ad f9_size f9_equations f9_areSteps f9_foundMany f9_many f9_rank f9_freeMany f9_arePlans f9_planMany ai0 al A) args s 0 0 A) (F0 m 73 ls []) := by
  obtain ⟨hx, hb, hr, hml, hown, hts, hk, hA, hK, hX⟩ := id C
  intro L2 L5 L6 L7 J3 J8 ai H locs ls h0 h1 h2 h3 h4 h5 h6 h7 h8 h9 h10 h11 h12 h13 h14 hI hF hP hD hS hl
  refine lv_iconst (v := 1) hx hb dX9_adds_73 (by decide) ?_
  refine lv_goto (tgt := 78) hx hb dX9_adds_74 (by decide) ?_
  exact r061_X9_adds_b78 C n9 K9 L2 L5 L6 L7 1 J3 J8 ai _ _ _ (by first | omega | decide | (have ka0 := (by decide +kernel : (1 : Int32).toInt = 1); omega)) (by first | omega | decide | (have ka0 := (by decide +kernel : (1 : Int32).toInt = 1); omega)) (by first | omega | decide | (have ka0 := (by decide +kernel : (1 : Int32).toInt = 1); omega)) (by first | omega | decide | (have ka0 := (by decide +kernel : (1 : Int32).toInt = 1); omega)) (by first | omega | decide | (have ka0 := (by decide +kernel : (1 : Int32).toInt = 1); omega)) (by first | omega | decide | (have ka0 := (by decide +kernel : (1 : Int32).toInt = 1); omega)) (by first | omega | decide | (have ka0 := (by decide +kernel : (1 : Int32).toInt = 1); omega)) (by first | omega | decide | (have ka0 := (by decide +kernel : (1 : Int32).toInt = 1); omega)) (by first | omega | decide | (have ka0 := (by decide +kernel : (1 : Int32).toInt = 1); omega)) (by first | omega | decide | (have ka0 := (by decide +kernel : (1 : Int32).toInt = 1); omega)) (by first | omega | decide | (have ka0 := (by decide +kernel : (1 : Int32).toInt = 1); omega)) (by first | omega | decide | (have ka0 := (by decide +kernel : (1 : Int32).toInt = 1); omega)) (by first | omega | decide | (have ka0 := (by decide +kernel : (1 : Int32).toInt = 1); omega)) (by first | omega | decide | (have ka0 := (by decide +kernel : (1 : Int32).toInt = 1); omega)) (by first | omega | decide | (have ka0 := (by decide +kernel : (1 : Int32).toInt = 1); omega)) (by first | omega | decide | (have ka0 := (by decide +kernel : (1 : Int32).toInt = 1); omega)) hI hF hP hD hS (lv_sub hl [0, 1, 2, 3, 4, 5, 6, 7] rfl)
set_option maxRecDepth 100000 in
set_option maxHeartbeats 4000000 in
theorem r061_X9_adds_b57 {p : Program} {l : Launch} {e : Env} {s : State} {m : MethodId} {args : Array Value} {below : List Frame} {meth : Method} {c : Code} {A : Nat → Prop} {dC : Nat → ClassId} {dI : Nat → Nat → Nat} {cI cJ cII cJJ : ClassId} {ad : Nat → Nat} {g : Nat} {f9_size f9_equations f9_areSteps f9_foundMany f9_many f9_rank f9_freeMany f9_arePlans f9_planMany : Int32} {ai0 : Nat → Nat → Int32} {al : Nat → Nat → Int64} (C : Cx p c s m meth args A dC dI (TY cI cJ cII cJJ) cX9_adds (some .int) 10 RX9 0 g) (n9 : Nat) (K9 : ∀ (L2 L5 L6 L7 : Int32) (J3 : Int64) (ai : Nat → Nat → Int32) (H : Heap) (locs : List Loc) (ls : Array Slot), (0 ≤ L2.toInt ∧ L2.toInt ≤ 23996) → (0 ≤ L5.toInt ∧ L5.toInt ≤ 1) → (0 ≤ L6.toInt ∧ L6.toInt ≤ 1) → (0 ≤ L7.toInt ∧ L7.toInt ≤ 4) → (1 ≤ f9_size.toInt ∧ f9_size.toInt ≤ 4) → (0 ≤ f9_equations.toInt ∧ f9_equations.toInt ≤ 3) → (0 ≤ f9_areSteps.toInt ∧ f9_areSteps.toInt ≤ 1) → (0 ≤ f9_foundMany.toInt ∧ f9_foundMany.toInt ≤ 99999) → (0 ≤ f9_many.toInt ∧ f9_many.toInt ≤ 6000) → (0 ≤ f9_rank.toInt ∧ f9_rank.toInt ≤ 3) → (0 ≤ f9_freeMany.toInt ∧ f9_freeMany.toInt ≤ 4) → (0 ≤ f9_arePlans.toInt ∧ f9_arePlans.toInt ≤ 1) → (0 ≤ f9_planMany.toInt ∧ f9_planMany.toInt ≤ 194481) → f9_size.toInt - L7.toInt < (n9 : Int) → (0 : Int) < (n9 : Int) → IAM ai → FR [2, 27] ai0 ai → va_P (dC, dI) vwCl (WM cI cJ cII cJJ ad f9_size f9_equations f9_areSteps f9_foundMany f9_many f9_rank f9_freeMany f9_arePlans f9_planMany ai al) H → va_D A (WM cI cJ cII cJJ ad f9_size f9_equations f9_areSteps f9_foundMany f9_many f9_rank f9_freeMany f9_arePlans f9_planMany ai al) → va_S A s.heap H locs → lv_has ls 10 [(0, .ref (ad 22)), (1, .ref (ad 11)), (2, .int L2), (3, .long J3), (5, .int L5), (6, .int L6), (7, .int L7)] → W p l e ({ frames := 3, cells := 0, slots := 0, locals := 140 } : Room) s m args below meth c H locs 0 0 (MQ below (Q_r061_X9_adds dC dI cI cJ cII cJJ ad f9_size f9_equations f9_areSteps f9_foundMany f9_many f9_rank f9_freeMany f9_arePlans f9_planMany ai0 al A) args s 0 0 A) (F0 m 9 ls [])) : ∀ (L2 L5 L6 L7 S0 : Int32) (J3 J8 : Int64) (ai : Nat → Nat → Int32) (H : Heap) (locs : List Loc) (ls : Array Slot), (0 ≤ L2.toInt ∧ L2.toInt ≤ 23996) → (0 ≤ L5.toInt ∧ L5.toInt ≤ 1) → (0 ≤ L6.toInt ∧ L6.toInt ≤ 1) → (0 ≤ L7.toInt ∧ L7.toInt ≤ 3) → (0 ≤ S0.toInt ∧ S0.toInt ≤ 1) → (1 ≤ f9_size.toInt ∧ f9_size.toInt ≤ 4) → (0 ≤ f9_equations.toInt ∧ f9_equations.toInt ≤ 3) → (0 ≤ f9_areSteps.toInt ∧ f9_areSteps.toInt ≤ 1) → (0 ≤ f9_foundMany.toInt ∧ f9_foundMany.toInt ≤ 99999) → (0 ≤ f9_many.toInt ∧ f9_many.toInt ≤ 6000) → (0 ≤ f9_rank.toInt ∧ f9_rank.toInt ≤ 3) → (0 ≤ f9_freeMany.toInt ∧ f9_freeMany.toInt ≤ 4) → (0 ≤ f9_arePlans.toInt ∧ f9_arePlans.toInt ≤ 1) → (0 ≤ f9_planMany.toInt ∧ f9_planMany.toInt ≤ 194481) → L7.toInt < f9_size.toInt → f9_size.toInt - L7.toInt ≤ (n9 : Int) → IAM ai → FR [2, 27] ai0 ai → va_P (dC, dI) vwCl (WM cI cJ cII cJJ ad f9_size f9_equations f9_areSteps f9_foundMany f9_many f9_rank f9_freeMany f9_arePlans f9_planMany ai al) H → va_D A (WM cI cJ cII cJJ ad f9_size f9_equations f9_areSteps f9_foundMany f9_many f9_rank f9_freeMany f9_arePlans f9_planMany ai al) → va_S A s.heap H locs → lv_has ls 10 [(0, .ref (ad 22)), (1, .ref (ad 11)), (2, .int L2), (3, .long J3), (5, .int L5), (6, .int L6), (7, .int L7), (8, .long J8)] → W p l e ({ frames := 3, cells := 0, slots := 0, locals := 140 } : Room) s m args below meth c H locs 0 0 (MQ below (Q_r061_X9_adds dC dI cI cJ cII cJJ ad f9_size f9_equations f9_areSteps f9_foundMany f9_many f9_rank f9_freeMany f9_arePlans f9_planMany ai0 al A) args s 0 0 A) (F0 m 57 ls [.int S0]) := by
  obtain ⟨hx, hb, hr, hml, hown, hts, hk, hA, hK, hX⟩ := id C
  intro L2 L5 L6 L7 S0 J3 J8 ai H locs ls h0 h1 h2 h3 h4 h5 h6 h7 h8 h9 h10 h11 h12 h13 h14 h15 hI hF hP hD hS hl
  refine lv_istore (lv' := [(5, .int S0), (0, .ref (ad 22)), (1, .ref (ad 11)), (2, .int L2), (3, .long J3), (6, .int L6), (7, .int L7), (8, .long J8)]) hx hb dX9_adds_57 hl (by decide) rfl (fun ls_1 hl_1 => ?_)
  refine lv_iload hx hb dX9_adds_59 (lv_at hl_1 5 rfl) ?_
  refine lv_if_ne (tgt := 73) hx hb dX9_adds_61 (by decide) (fun c1 => ?_) (fun c1 => ?_)
  · have c1 := j_ne (a := L6.toInt) (b := 0) rfl (by decide +kernel) c1
    exact r061_X9_adds_b73 C n9 K9 L2 S0 L6 L7 J3 J8 ai _ _ _ (by omega) (by omega) (by omega) (by omega) (by omega) (by omega) (by omega) (by omega) (by omega) (by omega) (by omega) (by omega) (by omega) (by omega) (by omega) hI hF hP hD hS (lv_sub hl_1 [1, 2, 3, 4, 0, 5, 6, 7] rfl)
  · have c1 := j_eq (a := L6.toInt) (b := 0) rfl (by decide +kernel) c1
    refine lv_lload hx hb dX9_adds_64 (lv_at hl_1 7 rfl) ?_
    refine lv_ldc2 (v := 10000) hx hb hown (hts _ k_1080) dX9_adds_66 ?_
    refine v_lcmp hx hb dX9_adds_69 _ rfl ?_
    refine lv_topi (fun z2 e_z2 => ?_)
    refine lv_if_le (tgt := 77) hx hb dX9_adds_70 (by decide) (fun c3 => ?_) (fun c3 => ?_)
    · have c3 := j_le (a := z2.toInt) (b := 0) rfl (by decide +kernel) c3
      refine lv_iconst (v := 0) hx hb dX9_adds_77 (by decide) ?_
      exact r061_X9_adds_b78 C n9 K9 L2 S0 L6 L7 0 J3 J8 ai _ _ _ (by first | omega | decide | (have ka0 := (by decide +kernel : (0 : Int32).toInt = 0); omega)) (by first | omega | decide | (have ka0 := (by decide +kernel : (0 : Int32).toInt = 0); omega)) (by first | omega | decide | (have ka0 := (by decide +kernel : (0 : Int32).toInt = 0); omega)) (by first | omega | decide | (have ka0 := (by decide +kernel : (0 : Int32).toInt = 0); omega)) (by first | omega | decide | (have ka0 := (by decide +kernel : (0 : Int32).toInt = 0); omega)) (by first | omega | decide | (have ka0 := (by decide +kernel : (0 : Int32).toInt = 0); omega)) (by first | omega | decide | (have ka0 := (by decide +kernel : (0 : Int32).toInt = 0); omega)) (by first | omega | decide | (have ka0 := (by decide +kernel : (0 : Int32).toInt = 0); omega)) (by first | omega | decide | (have ka0 := (by decide +kernel : (0 : Int32).toInt = 0); omega)) (by first | omega | decide | (have ka0 := (by decide +kernel : (0 : Int32).toInt = 0); omega)) (by first | omega | decide | (have ka0 := (by decide +kernel : (0 : Int32).toInt = 0); omega)) (by first | omega | decide | (have ka0 := (by decide +kernel : (0 : Int32).toInt = 0); omega)) (by first | omega | decide | (have ka0 := (by decide +kernel : (0 : Int32).toInt = 0); omega)) (by first | omega | decide | (have ka0 := (by decide +kernel : (0 : Int32).toInt = 0); omega)) (by first | omega | decide | (have ka0 := (by decide +kernel : (0 : Int32).toInt = 0); omega)) (by first | omega | decide | (have ka0 := (by decide +kernel : (0 : Int32).toInt = 0); omega)) hI hF hP hD hS (lv_sub hl_1 [1, 2, 3, 4, 0, 5, 6, 7] rfl)
    · have c3 := j_nle (a := z2.toInt) (b := 0) rfl (by decide +kernel) c3
      exact r061_X9_adds_b73 C n9 K9 L2 S0 L6 L7 J3 J8 ai _ _ _ (by omega) (by omega) (by omega) (by omega) (by omega) (by omega) (by omega) (by omega) (by omega) (by omega) (by omega) (by omega) (by omega) (by omega) (by omega) hI hF hP hD hS (lv_sub hl_1 [1, 2, 3, 4, 0, 5, 6, 7] rfl)
set_option maxRecDepth 100000 in
set_option maxHeartbeats 4000000 in
theorem r061_X9_adds_b52 {p : Program} {l : Launch} {e : Env} {s : State} {m : MethodId} {args : Array Value} {below : List Frame} {meth : Method} {c : Code} {A : Nat → Prop} {dC : Nat → ClassId} {dI : Nat → Nat → Nat} {cI cJ cII cJJ : ClassId} {ad : Nat → Nat} {g : Nat} {f9_size f9_equations f9_areSteps f9_foundMany f9_many f9_rank f9_freeMany f9_arePlans f9_planMany : Int32} {ai0 : Nat → Nat → Int32} {al : Nat → Nat → Int64} (C : Cx p c s m meth args A dC dI (TY cI cJ cII cJJ) cX9_adds (some .int) 10 RX9 0 g) (n9 : Nat) (K9 : ∀ (L2 L5 L6 L7 : Int32) (J3 : Int64) (ai : Nat → Nat → Int32) (H : Heap) (locs : List Loc) (ls : Array Slot), (0 ≤ L2.toInt ∧ L2.toInt ≤ 23996) → (0 ≤ L5.toInt ∧ L5.toInt ≤ 1) → (0 ≤ L6.toInt ∧ L6.toInt ≤ 1) → (0 ≤ L7.toInt ∧ L7.toInt ≤ 4) → (1 ≤ f9_size.toInt ∧ f9_size.toInt ≤ 4) → (0 ≤ f9_equations.toInt ∧ f9_equations.toInt ≤ 3) → (0 ≤ f9_areSteps.toInt ∧ f9_areSteps.toInt ≤ 1) → (0 ≤ f9_foundMany.toInt ∧ f9_foundMany.toInt ≤ 99999) → (0 ≤ f9_many.toInt ∧ f9_many.toInt ≤ 6000) → (0 ≤ f9_rank.toInt ∧ f9_rank.toInt ≤ 3) → (0 ≤ f9_freeMany.toInt ∧ f9_freeMany.toInt ≤ 4) → (0 ≤ f9_arePlans.toInt ∧ f9_arePlans.toInt ≤ 1) → (0 ≤ f9_planMany.toInt ∧ f9_planMany.toInt ≤ 194481) → f9_size.toInt - L7.toInt < (n9 : Int) → (0 : Int) < (n9 : Int) → IAM ai → FR [2, 27] ai0 ai → va_P (dC, dI) vwCl (WM cI cJ cII cJJ ad f9_size f9_equations f9_areSteps f9_foundMany f9_many f9_rank f9_freeMany f9_arePlans f9_planMany ai al) H → va_D A (WM cI cJ cII cJJ ad f9_size f9_equations f9_areSteps f9_foundMany f9_many f9_rank f9_freeMany f9_arePlans f9_planMany ai al) → va_S A s.heap H locs → lv_has ls 10 [(0, .ref (ad 22)), (1, .ref (ad 11)), (2, .int L2), (3, .long J3), (5, .int L5), (6, .int L6), (7, .int L7)] → W p l e ({ frames := 3, cells := 0, slots := 0, locals := 140 } : Room) s m args below meth c H locs 0 0 (MQ below (Q_r061_X9_adds dC dI cI cJ cII cJJ ad f9_size f9_equations f9_areSteps f9_foundMany f9_many f9_rank f9_freeMany f9_arePlans f9_planMany ai0 al A) args s 0 0 A) (F0 m 9 ls [])) : ∀ (L2 L5 L6 L7 : Int32) (J3 J8 : Int64) (ai : Nat → Nat → Int32) (H : Heap) (locs : List Loc) (ls : Array Slot), (0 ≤ L2.toInt ∧ L2.toInt ≤ 23996) → (0 ≤ L5.toInt ∧ L5.toInt ≤ 1) → (0 ≤ L6.toInt ∧ L6.toInt ≤ 1) → (0 ≤ L7.toInt ∧ L7.toInt ≤ 3) → (1 ≤ f9_size.toInt ∧ f9_size.toInt ≤ 4) → (0 ≤ f9_equations.toInt ∧ f9_equations.toInt ≤ 3) → (0 ≤ f9_areSteps.toInt ∧ f9_areSteps.toInt ≤ 1) → (0 ≤ f9_foundMany.toInt ∧ f9_foundMany.toInt ≤ 99999) → (0 ≤ f9_many.toInt ∧ f9_many.toInt ≤ 6000) → (0 ≤ f9_rank.toInt ∧ f9_rank.toInt ≤ 3) → (0 ≤ f9_freeMany.toInt ∧ f9_freeMany.toInt ≤ 4) → (0 ≤ f9_arePlans.toInt ∧ f9_arePlans.toInt ≤ 1) → (0 ≤ f9_planMany.toInt ∧ f9_planMany.toInt ≤ 194481) → L7.toInt < f9_size.toInt → f9_size.toInt - L7.toInt ≤ (n9 : Int) → IAM ai → FR [2, 27] ai0 ai → va_P (dC, dI) vwCl (WM cI cJ cII cJJ ad f9_size f9_equations f9_areSteps f9_foundMany f9_many f9_rank f9_freeMany f9_arePlans f9_planMany ai al) H → va_D A (WM cI cJ cII cJJ ad f9_size f9_equations f9_areSteps f9_foundMany f9_many f9_rank f9_freeMany f9_arePlans f9_planMany ai al) → va_S A s.heap H locs → lv_has ls 10 [(0, .ref (ad 22)), (1, .ref (ad 11)), (2, .int L2), (3, .long J3), (5, .int L5), (6, .int L6), (7, .int L7), (8, .long J8)] → W p l e ({ frames := 3, cells := 0, slots := 0, locals := 140 } : Room) s m args below meth c H locs 0 0 (MQ below (Q_r061_X9_adds dC dI cI cJ cII cJJ ad f9_size f9_equations f9_areSteps f9_foundMany f9_many f9_rank f9_freeMany f9_arePlans f9_planMany ai0 al A) args s 0 0 A) (F0 m 52 ls []) := by
  obtain ⟨hx, hb, hr, hml, hown, hts, hk, hA, hK, hX⟩ := id C
  intro L2 L5 L6 L7 J3 J8 ai H locs ls h0 h1 h2 h3 h4 h5 h6 h7 h8 h9 h10 h11 h12 h13 h14 hI hF hP hD hS hl
  refine lv_iconst (v := 1) hx hb dX9_adds_52 (by decide) ?_
  refine lv_goto (tgt := 57) hx hb dX9_adds_53 (by decide) ?_
  exact r061_X9_adds_b57 C n9 K9 L2 L5 L6 L7 1 J3 J8 ai _ _ _ (by first | omega | decide | (have ka0 := (by decide +kernel : (1 : Int32).toInt = 1); omega)) (by first | omega | decide | (have ka0 := (by decide +kernel : (1 : Int32).toInt = 1); omega)) (by first | omega | decide | (have ka0 := (by decide +kernel : (1 : Int32).toInt = 1); omega)) (by first | omega | decide | (have ka0 := (by decide +kernel : (1 : Int32).toInt = 1); omega)) (by first | omega | decide | (have ka0 := (by decide +kernel : (1 : Int32).toInt = 1); omega)) (by first | omega | decide | (have ka0 := (by decide +kernel : (1 : Int32).toInt = 1); omega)) (by first | omega | decide | (have ka0 := (by decide +kernel : (1 : Int32).toInt = 1); omega)) (by first | omega | decide | (have ka0 := (by decide +kernel : (1 : Int32).toInt = 1); omega)) (by first | omega | decide | (have ka0 := (by decide +kernel : (1 : Int32).toInt = 1); omega)) (by first | omega | decide | (have ka0 := (by decide +kernel : (1 : Int32).toInt = 1); omega)) (by first | omega | decide | (have ka0 := (by decide +kernel : (1 : Int32).toInt = 1); omega)) (by first | omega | decide | (have ka0 := (by decide +kernel : (1 : Int32).toInt = 1); omega)) (by first | omega | decide | (have ka0 := (by decide +kernel : (1 : Int32).toInt = 1); omega)) (by first | omega | decide | (have ka0 := (by decide +kernel : (1 : Int32).toInt = 1); omega)) (by first | omega | decide | (have ka0 := (by decide +kernel : (1 : Int32).toInt = 1); omega)) (by first | omega | decide | (have ka0 := (by decide +kernel : (1 : Int32).toInt = 1); omega)) hI hF hP hD hS (lv_sub hl [0, 1, 2, 3, 4, 5, 6, 7] rfl)
set_option maxRecDepth 100000 in
set_option maxHeartbeats 4000000 in
theorem r061_X9_adds_b9 {p : Program} {l : Launch} {e : Env} {s : State} {m : MethodId} {args : Array Value} {below : List Frame} {meth : Method} {c : Code} {A : Nat → Prop} {dC : Nat → ClassId} {dI : Nat → Nat → Nat} {cI cJ cII cJJ : ClassId} {ad : Nat → Nat} {g : Nat} {f9_size f9_equations f9_areSteps f9_foundMany f9_many f9_rank f9_freeMany f9_arePlans f9_planMany : Int32} {ai0 : Nat → Nat → Int32} {al : Nat → Nat → Int64} (C : Cx p c s m meth args A dC dI (TY cI cJ cII cJJ) cX9_adds (some .int) 10 RX9 0 g) : ∀ (n : Nat), ∀ (L2 L5 L6 L7 : Int32) (J3 : Int64) (ai : Nat → Nat → Int32) (H : Heap) (locs : List Loc) (ls : Array Slot), (0 ≤ L2.toInt ∧ L2.toInt ≤ 23996) → (0 ≤ L5.toInt ∧ L5.toInt ≤ 1) → (0 ≤ L6.toInt ∧ L6.toInt ≤ 1) → (0 ≤ L7.toInt ∧ L7.toInt ≤ 4) → (1 ≤ f9_size.toInt ∧ f9_size.toInt ≤ 4) → (0 ≤ f9_equations.toInt ∧ f9_equations.toInt ≤ 3) → (0 ≤ f9_areSteps.toInt ∧ f9_areSteps.toInt ≤ 1) → (0 ≤ f9_foundMany.toInt ∧ f9_foundMany.toInt ≤ 99999) → (0 ≤ f9_many.toInt ∧ f9_many.toInt ≤ 6000) → (0 ≤ f9_rank.toInt ∧ f9_rank.toInt ≤ 3) → (0 ≤ f9_freeMany.toInt ∧ f9_freeMany.toInt ≤ 4) → (0 ≤ f9_arePlans.toInt ∧ f9_arePlans.toInt ≤ 1) → (0 ≤ f9_planMany.toInt ∧ f9_planMany.toInt ≤ 194481) → f9_size.toInt - L7.toInt < (n : Int) → (0 : Int) < (n : Int) → IAM ai → FR [2, 27] ai0 ai → va_P (dC, dI) vwCl (WM cI cJ cII cJJ ad f9_size f9_equations f9_areSteps f9_foundMany f9_many f9_rank f9_freeMany f9_arePlans f9_planMany ai al) H → va_D A (WM cI cJ cII cJJ ad f9_size f9_equations f9_areSteps f9_foundMany f9_many f9_rank f9_freeMany f9_arePlans f9_planMany ai al) → va_S A s.heap H locs → lv_has ls 10 [(0, .ref (ad 22)), (1, .ref (ad 11)), (2, .int L2), (3, .long J3), (5, .int L5), (6, .int L6), (7, .int L7)] → W p l e ({ frames := 3, cells := 0, slots := 0, locals := 140 } : Room) s m args below meth c H locs 0 0 (MQ below (Q_r061_X9_adds dC dI cI cJ cII cJJ ad f9_size f9_equations f9_areSteps f9_foundMany f9_many f9_rank f9_freeMany f9_arePlans f9_planMany ai0 al A) args s 0 0 A) (F0 m 9 ls []) := by
  obtain ⟨hx, hb, hr, hml, hown, hts, hk, hA, hK, hX⟩ := id C
  intro n
  induction n with
  | zero =>
    intro L2 L5 L6 L7 J3 ai H locs ls h0 h1 h2 h3 h4 h5 h6 h7 h8 h9 h10 h11 h12 h13 h14 hI hF hP hD hS hl
    exact absurd h14 (by omega)
  | succ n ih =>
    intro L2 L5 L6 L7 J3 ai H locs ls h0 h1 h2 h3 h4 h5 h6 h7 h8 h9 h10 h11 h12 h13 h14 hI hF hP hD hS hl
    refine lv_iload hx hb dX9_adds_9 (lv_at hl 6 rfl) ?_
    refine lv_aload_n hx hb dX9_adds_11 rfl (lv_at hl 0 rfl) ?_
    refine gf (k := 12) hx hb hts inX9 hown hK hP k_807 rfl (by decide) rfl 22 rfl (.int f9_size) rfl dX9_adds_12 ?_
    refine lv_icmp_ge (tgt := 86) hx hb dX9_adds_15 (by decide) (fun c1 => ?_) (fun c1 => ?_)
    · have c1 := j_le (a := f9_size.toInt) (b := L7.toInt) rfl rfl c1
      refine lv_iload hx hb dX9_adds_86 (lv_at hl 4 rfl) ?_
      refine lv_if_eq (tgt := 98) hx hb dX9_adds_88 (by decide) (fun c2 => ?_) (fun c2 => ?_)
      · have c2 := j_eq (a := L5.toInt) (b := 0) rfl (by decide +kernel) c2
        refine lv_iload hx hb dX9_adds_98 (lv_at hl 5 rfl) ?_
        refine lv_if_eq (tgt := 110) hx hb dX9_adds_100 (by decide) (fun c3 => ?_) (fun c3 => ?_)
        · have c3 := j_eq (a := L6.toInt) (b := 0) rfl (by decide +kernel) c3
          refine lv_iconst (v := 0) hx hb dX9_adds_110 (by decide) ?_
          refine lv_istore (lv' := [(7, .int 0), (0, .ref (ad 22)), (1, .ref (ad 11)), (2, .int L2), (3, .long J3), (5, .int L5), (6, .int L6)]) hx hb dX9_adds_111 hl (by decide) rfl (fun ls_1 hl_1 => ?_)
          exact r061_X9_adds_b113 C  _ L2 L5 L6 0 J3 ai _ _ _ (by first | omega | decide | (have ka0 := (by decide +kernel : (0 : Int32).toInt = 0); omega)) (by first | omega | decide | (have ka0 := (by decide +kernel : (0 : Int32).toInt = 0); omega)) (by first | omega | decide | (have ka0 := (by decide +kernel : (0 : Int32).toInt = 0); omega)) (by first | omega | decide | (have ka0 := (by decide +kernel : (0 : Int32).toInt = 0); omega)) (by first | omega | decide | (have ka0 := (by decide +kernel : (0 : Int32).toInt = 0); omega)) (by first | omega | decide | (have ka0 := (by decide +kernel : (0 : Int32).toInt = 0); omega)) (by first | omega | decide | (have ka0 := (by decide +kernel : (0 : Int32).toInt = 0); omega)) (by first | omega | decide | (have ka0 := (by decide +kernel : (0 : Int32).toInt = 0); omega)) (by first | omega | decide | (have ka0 := (by decide +kernel : (0 : Int32).toInt = 0); omega)) (by first | omega | decide | (have ka0 := (by decide +kernel : (0 : Int32).toInt = 0); omega)) (by first | omega | decide | (have ka0 := (by decide +kernel : (0 : Int32).toInt = 0); omega)) (by first | omega | decide | (have ka0 := (by decide +kernel : (0 : Int32).toInt = 0); omega)) (by first | omega | decide | (have ka0 := (by decide +kernel : (0 : Int32).toInt = 0); omega)) (j_fuel _) (by omega) hI hF hP hD hS (lv_sub hl_1 [1, 2, 3, 4, 5, 6, 0] rfl)
        · have c3 := j_ne (a := L6.toInt) (b := 0) rfl (by decide +kernel) c3
          refine lv_aload_n hx hb dX9_adds_103 rfl (lv_at hl 0 rfl) ?_
          refine lv_bipush (v := (-6)) hx hb dX9_adds_104 (by decide) ?_
          have kcm6 : ((-6) : Int32).toInt = (-6) := by decide +kernel
          have hM := r021_X9_refuse l dC dI cI cJ cII cJJ H.size 0 ad f9_size f9_equations f9_areSteps f9_foundMany f9_many f9_rank f9_freeMany f9_arePlans f9_planMany ai al (-6) (by decide +kernel) (by omega) (by omega) (by omega) (by omega) (by omega) (by omega) (by omega) (by omega) (by omega) hI
          refine k2V_i (q0 := 22) ⟨hx, hb, hml, hown, hts⟩ hK hP hD hS hA hX cv_RX9_112 hM ⟨by decide +kernel, by decide +kernel⟩ rfl rfl (Or.inl rfl) (rest := []) rfl rfl rfl hl.1 rfl (Nat.le_of_ble_eq_true rfl) dX9_adds_106 ⟨Nat.le_of_ble_eq_true rfl, Nat.le_of_ble_eq_true rfl⟩ (fun r4 t H1 locs_2 ht hB hS_2 hFc => ?_)
          obtain ⟨ai5, ⟨gpr4_0, gpr4_1, hI_3, hFr_r4⟩, hP_3, -, hD_3⟩ := hB
          have hF_4 := FR_tr hF hFr_r4 (by decide)
          rw [ht] at hP_3
          have hD_5 := hD_3.weaken (B := A) (fun k q _ h9 => hFc q.1 h9)
          clear ht
          generalize H1 = H_6 at hP_3 hS_2 ⊢
          exact r2_i hx hb hr hk hS_2 dX9_adds_109 (fun t ht hW => ⟨ai5, ⟨(by first | omega | decide | exact Or.inl (by decide) | exact Or.inr (by decide) | exact Or.inr (by omega)), hI_3, hF_4⟩, by rw [ht]; exact hP_3, va_K.moved hW.alike hK, hD_5⟩)
      · have c2 := j_ne (a := L5.toInt) (b := 0) rfl (by decide +kernel) c2
        refine lv_aload_n hx hb dX9_adds_91 rfl (lv_at hl 0 rfl) ?_
        refine lv_bipush (v := (-4)) hx hb dX9_adds_92 (by decide) ?_
        have kcm4 : ((-4) : Int32).toInt = (-4) := by decide +kernel
        have hM := r021_X9_refuse l dC dI cI cJ cII cJJ H.size 0 ad f9_size f9_equations f9_areSteps f9_foundMany f9_many f9_rank f9_freeMany f9_arePlans f9_planMany ai al (-4) (by decide +kernel) (by omega) (by omega) (by omega) (by omega) (by omega) (by omega) (by omega) (by omega) (by omega) hI
        refine k2V_i (q0 := 22) ⟨hx, hb, hml, hown, hts⟩ hK hP hD hS hA hX cv_RX9_112 hM ⟨by decide +kernel, by decide +kernel⟩ rfl rfl (Or.inl rfl) (rest := []) rfl rfl rfl hl.1 rfl (Nat.le_of_ble_eq_true rfl) dX9_adds_94 ⟨Nat.le_of_ble_eq_true rfl, Nat.le_of_ble_eq_true rfl⟩ (fun r6 t H1 locs_7 ht hB hS_7 hFc => ?_)
        obtain ⟨ai7, ⟨gpr6_0, gpr6_1, hI_8, hFr_r6⟩, hP_8, -, hD_8⟩ := hB
        have hF_9 := FR_tr hF hFr_r6 (by decide)
        rw [ht] at hP_8
        have hD_10 := hD_8.weaken (B := A) (fun k q _ h9 => hFc q.1 h9)
        clear ht
        generalize H1 = H_11 at hP_8 hS_7 ⊢
        exact r2_i hx hb hr hk hS_7 dX9_adds_97 (fun t ht hW => ⟨ai7, ⟨(by first | omega | decide | exact Or.inl (by decide) | exact Or.inr (by decide) | exact Or.inr (by omega)), hI_8, hF_9⟩, by rw [ht]; exact hP_8, va_K.moved hW.alike hK, hD_10⟩)
    · have c1 := j_nle (a := f9_size.toInt) (b := L7.toInt) rfl rfl c1
      refine lv_aload_n hx hb dX9_adds_18 rfl (lv_at hl 0 rfl) ?_
      refine gf (k := 6) hx hb hts inX9 hown hK hP k_801 rfl (by decide) rfl 22 rfl (.ref (ad 27)) rfl dX9_adds_19 ?_
      refine lv_iload hx hb dX9_adds_22 (lv_at hl 6 rfl) ?_
      refine va_iald hx hb hK hP 27 0 rfl rfl (j_in (a := L7.toInt) rfl (by omega) (by omega)) dX9_adds_24 ?_
      refine lv_topi (fun z8 e_z8 => ?_)
      refine lv_i2l hx hb dX9_adds_25 rfl ?_
      refine lv_topl (fun yy9 e_yy9 => ?_)
      refine lv_lload_n hx hb dX9_adds_26 rfl (lv_at hl 3 rfl) ?_
      refine lv_aload_n hx hb dX9_adds_27 rfl (lv_at hl 1 rfl) ?_
      refine lv_iload_n hx hb dX9_adds_28 rfl (lv_at hl 2 rfl) ?_
      refine lv_iload hx hb dX9_adds_29 (lv_at hl 6 rfl) ?_
      refine v_iadd hx hb dX9_adds_31 _ rfl ?_
      refine lv_topi (fun z10 e_z10 => ?_)
      have g_z10 : z10.toInt = L2.toInt + L7.toInt := by rw [e_z10]; exact n_add (a := L2.toInt) (b := L7.toInt) rfl rfl (by omega) (by omega)
      refine va_iald hx hb hK hP 11 0 rfl rfl (j_in (a := z10.toInt) rfl (by omega) (by omega)) dX9_adds_32 ?_
      refine lv_topi (fun z11 e_z11 => ?_)
      refine lv_i2l hx hb dX9_adds_33 rfl ?_
      refine lv_topl (fun yy12 e_yy12 => ?_)
      refine v_lmul hx hb dX9_adds_34 _ rfl ?_
      refine lv_topl (fun yy13 e_yy13 => ?_)
      refine v_ladd hx hb dX9_adds_35 _ rfl ?_
      refine lv_topl (fun yy14 e_yy14 => ?_)
      refine lv_lstore (lv' := [(8, .long yy14), (0, .ref (ad 22)), (1, .ref (ad 11)), (2, .int L2), (3, .long J3), (5, .int L5), (6, .int L6), (7, .int L7)]) hx hb dX9_adds_36 hl (by decide) rfl (fun ls_12 hl_12 => ?_)
      refine lv_iload hx hb dX9_adds_38 (lv_at hl_12 5 rfl) ?_
      refine lv_if_ne (tgt := 52) hx hb dX9_adds_40 (by decide) (fun c15 => ?_) (fun c15 => ?_)
      · have c15 := j_ne (a := L5.toInt) (b := 0) rfl (by decide +kernel) c15
        exact r061_X9_adds_b52 C n ih L2 L5 L6 L7 J3 yy14 ai _ _ _ (by omega) (by omega) (by omega) (by omega) (by omega) (by omega) (by omega) (by omega) (by omega) (by omega) (by omega) (by omega) (by omega) (by omega) (by omega) hI hF hP hD hS (lv_sub hl_12 [1, 2, 3, 4, 5, 6, 7, 0] rfl)
      · have c15 := j_eq (a := L5.toInt) (b := 0) rfl (by decide +kernel) c15
        refine lv_lload hx hb dX9_adds_43 (lv_at hl_12 0 rfl) ?_
        refine lv_ldc2 (v := (-10000)) hx hb hown (hts _ k_1079) dX9_adds_45 ?_
        refine v_lcmp hx hb dX9_adds_48 _ rfl ?_
        refine lv_topi (fun z16 e_z16 => ?_)
        refine lv_if_ge (tgt := 56) hx hb dX9_adds_49 (by decide) (fun c17 => ?_) (fun c17 => ?_)
        · have c17 := j_le (a := 0) (b := z16.toInt) (by decide +kernel) rfl c17
          refine lv_iconst (v := 0) hx hb dX9_adds_56 (by decide) ?_
          exact r061_X9_adds_b57 C n ih L2 L5 L6 L7 0 J3 yy14 ai _ _ _ (by first | omega | decide | (have ka0 := (by decide +kernel : (0 : Int32).toInt = 0); omega)) (by first | omega | decide | (have ka0 := (by decide +kernel : (0 : Int32).toInt = 0); omega)) (by first | omega | decide | (have ka0 := (by decide +kernel : (0 : Int32).toInt = 0); omega)) (by first | omega | decide | (have ka0 := (by decide +kernel : (0 : Int32).toInt = 0); omega)) (by first | omega | decide | (have ka0 := (by decide +kernel : (0 : Int32).toInt = 0); omega)) (by first | omega | decide | (have ka0 := (by decide +kernel : (0 : Int32).toInt = 0); omega)) (by first | omega | decide | (have ka0 := (by decide +kernel : (0 : Int32).toInt = 0); omega)) (by first | omega | decide | (have ka0 := (by decide +kernel : (0 : Int32).toInt = 0); omega)) (by first | omega | decide | (have ka0 := (by decide +kernel : (0 : Int32).toInt = 0); omega)) (by first | omega | decide | (have ka0 := (by decide +kernel : (0 : Int32).toInt = 0); omega)) (by first | omega | decide | (have ka0 := (by decide +kernel : (0 : Int32).toInt = 0); omega)) (by first | omega | decide | (have ka0 := (by decide +kernel : (0 : Int32).toInt = 0); omega)) (by first | omega | decide | (have ka0 := (by decide +kernel : (0 : Int32).toInt = 0); omega)) (by first | omega | decide | (have ka0 := (by decide +kernel : (0 : Int32).toInt = 0); omega)) (by first | omega | decide | (have ka0 := (by decide +kernel : (0 : Int32).toInt = 0); omega)) (by first | omega | decide | (have ka0 := (by decide +kernel : (0 : Int32).toInt = 0); omega)) hI hF hP hD hS (lv_sub hl_12 [1, 2, 3, 4, 5, 6, 7, 0] rfl)
        · have c17 := j_nle (a := 0) (b := z16.toInt) (by decide +kernel) rfl c17
          exact r061_X9_adds_b52 C n ih L2 L5 L6 L7 J3 yy14 ai _ _ _ (by omega) (by omega) (by omega) (by omega) (by omega) (by omega) (by omega) (by omega) (by omega) (by omega) (by omega) (by omega) (by omega) (by omega) (by omega) hI hF hP hD hS (lv_sub hl_12 [1, 2, 3, 4, 5, 6, 7, 0] rfl)
set_option maxRecDepth 100000 in
set_option maxHeartbeats 4000000 in
theorem r061_X9_adds (l : Launch) (dC : Nat → ClassId) (dI : Nat → Nat → Nat) (cI cJ cII cJJ : ClassId) (sz g : Nat) (ad : Nat → Nat) (f9_size f9_equations f9_areSteps f9_foundMany f9_many f9_rank f9_freeMany f9_arePlans f9_planMany : Int32) (ai : Nat → Nat → Int32) (al : Nat → Nat → Int64) (x2 : Int32) (y3 : Int64) (h_x2 : (0 ≤ x2.toInt ∧ x2.toInt ≤ 23996)) (h_f9_size : (1 ≤ f9_size.toInt ∧ f9_size.toInt ≤ 4)) (h_f9_equations : (0 ≤ f9_equations.toInt ∧ f9_equations.toInt ≤ 3)) (h_f9_areSteps : (0 ≤ f9_areSteps.toInt ∧ f9_areSteps.toInt ≤ 1)) (h_f9_foundMany : (0 ≤ f9_foundMany.toInt ∧ f9_foundMany.toInt ≤ 99999)) (h_f9_many : (0 ≤ f9_many.toInt ∧ f9_many.toInt ≤ 6000)) (h_f9_rank : (0 ≤ f9_rank.toInt ∧ f9_rank.toInt ≤ 3)) (h_f9_freeMany : (0 ≤ f9_freeMany.toInt ∧ f9_freeMany.toInt ≤ 4)) (h_f9_arePlans : (0 ≤ f9_arePlans.toInt ∧ f9_arePlans.toInt ≤ 1)) (h_f9_planMany : (0 ≤ f9_planMany.toInt ∧ f9_planMany.toInt ≤ 194481)) (hI : IAM ai) : Met l yX9_adds (.code yX9_adds cX9_adds 10 (some .int) :: TT) ({ frames := 3, cells := 0, slots := 0, locals := 140 } : Room) (PcS dC dI (TY cI cJ cII cJJ) [.ref (ad 22), .ref (ad 11), .int x2, .long y3] (WM cI cJ cII cJJ ad f9_size f9_equations f9_areSteps f9_foundMany f9_many f9_rank f9_freeMany f9_arePlans f9_planMany ai al) sz 0 g) (Q_r061_X9_adds dC dI cI cJ cII cJJ ad f9_size f9_equations f9_areSteps f9_foundMany f9_many f9_rank f9_freeMany f9_arePlans f9_planMany ai al (va_A (WM cI cJ cII cJJ ad f9_size f9_equations f9_areSteps f9_foundMany f9_many f9_rank f9_freeMany f9_arePlans f9_planMany ai al) sz)) 0 0 (va_A (WM cI cJ cII cJJ ad f9_size f9_equations f9_areSteps f9_foundMany f9_many f9_rank f9_freeMany f9_arePlans f9_planMany ai al) sz) := by
  refine SM.of (y := yX9_adds) (maxL := 10) (av := [.ref (ad 22), .ref (ad 11), .int x2, .long y3]) (Q_r061_X9_adds dC dI cI cJ cII cJJ ad f9_size f9_equations f9_areSteps f9_foundMany f9_many f9_rank f9_freeMany f9_arePlans f9_planMany ai al) (by decide +kernel) (Nat.le_of_ble_eq_true rfl) (fun p e s m below meth c A ls hx hb hr hml hown hts hk hnm hA hK hP hD hS hX hl => ?_)
  have C : Cx p c s m meth (([.ref (ad 22), .ref (ad 11), .int x2, .long y3] : List Value).toArray) A dC dI (TY cI cJ cII cJJ) cX9_adds (some .int) 10 RX9 0 g := ⟨hx, hb, hr, hml, hown, hts, hk, hA, hK, hX⟩
  have hown : s.vm.findClass RX9 = some m.cls := hown
  have hl : lv_has ls 10 [(0, .ref (ad 22)), (1, .ref (ad 11)), (2, .int x2), (3, .long y3)] := hl
  obtain ⟨H, hH⟩ : ∃ q, q = s.heap := ⟨_, rfl⟩
  rw [← hH] at hP
  have hS : va_S A s.heap H [] := by rw [hH]; exact hS
  rw [← hH]
  have hF := FR_refl [2, 27] ai
  refine lv_iconst (v := 0) hx hb dX9_adds_0 (by decide) ?_
  refine lv_istore (lv' := [(5, .int 0), (0, .ref (ad 22)), (1, .ref (ad 11)), (2, .int x2), (3, .long y3)]) hx hb dX9_adds_1 hl (by decide) rfl (fun ls_1 hl_1 => ?_)
  refine lv_iconst (v := 0) hx hb dX9_adds_3 (by decide) ?_
  refine lv_istore (lv' := [(6, .int 0), (5, .int 0), (0, .ref (ad 22)), (1, .ref (ad 11)), (2, .int x2), (3, .long y3)]) hx hb dX9_adds_4 hl_1 (by decide) rfl (fun ls_2 hl_2 => ?_)
  refine lv_iconst (v := 0) hx hb dX9_adds_6 (by decide) ?_
  refine lv_istore (lv' := [(7, .int 0), (6, .int 0), (5, .int 0), (0, .ref (ad 22)), (1, .ref (ad 11)), (2, .int x2), (3, .long y3)]) hx hb dX9_adds_7 hl_2 (by decide) rfl (fun ls_3 hl_3 => ?_)
  exact r061_X9_adds_b9 C  _ x2 0 0 0 y3 ai _ _ _ (by first | omega | decide | (have ka0 := (by decide +kernel : (0 : Int32).toInt = 0); omega)) (by first | omega | decide | (have ka0 := (by decide +kernel : (0 : Int32).toInt = 0); omega)) (by first | omega | decide | (have ka0 := (by decide +kernel : (0 : Int32).toInt = 0); omega)) (by first | omega | decide | (have ka0 := (by decide +kernel : (0 : Int32).toInt = 0); omega)) (by first | omega | decide | (have ka0 := (by decide +kernel : (0 : Int32).toInt = 0); omega)) (by first | omega | decide | (have ka0 := (by decide +kernel : (0 : Int32).toInt = 0); omega)) (by first | omega | decide | (have ka0 := (by decide +kernel : (0 : Int32).toInt = 0); omega)) (by first | omega | decide | (have ka0 := (by decide +kernel : (0 : Int32).toInt = 0); omega)) (by first | omega | decide | (have ka0 := (by decide +kernel : (0 : Int32).toInt = 0); omega)) (by first | omega | decide | (have ka0 := (by decide +kernel : (0 : Int32).toInt = 0); omega)) (by first | omega | decide | (have ka0 := (by decide +kernel : (0 : Int32).toInt = 0); omega)) (by first | omega | decide | (have ka0 := (by decide +kernel : (0 : Int32).toInt = 0); omega)) (by first | omega | decide | (have ka0 := (by decide +kernel : (0 : Int32).toInt = 0); omega)) (j_fuel _) (by omega) hI hF hP hD hS (lv_sub hl_3 [3, 4, 5, 6, 2, 1, 0] rfl)
def Q_r062_X9_add (dC : Nat → ClassId) (dI : Nat → Nat → Nat) (cI cJ cII cJJ : ClassId) (ad : Nat → Nat) (f9_size f9_equations f9_arePlans f9_planMany : Int32) (ai0 : Nat → Nat → Int32) (al0 : Nat → Nat → Int64) (o_f9_areSteps : Int32) (o_f9_many : Int32) : (Nat → Prop) → Array Value → State → Outcome → State → Prop := fun A => QI (fun r t => ∃ (n_f9_areSteps n_f9_foundMany n_f9_many n_f9_rank n_f9_freeMany : Int32), ∃ (n_ai : Nat → Nat → Int32), ∃ (n_al : Nat → Nat → Int64), ((-7 ≤ r.toInt ∧ r.toInt ≤ 1) ∧ (1 ≤ n_f9_areSteps.toInt ∧ n_f9_areSteps.toInt ≤ 1) ∧ (0 ≤ n_f9_foundMany.toInt ∧ n_f9_foundMany.toInt ≤ 99999) ∧ (0 ≤ n_f9_many.toInt ∧ n_f9_many.toInt ≤ 6000) ∧ (0 ≤ n_f9_rank.toInt ∧ n_f9_rank.toInt ≤ 3) ∧ (0 ≤ n_f9_freeMany.toInt ∧ n_f9_freeMany.toInt ≤ 4) ∧ (n_f9_areSteps.toInt = 0 ∨ CIa n_ai f9_size n_f9_many.toInt) ∧ IAM n_ai ∧ FR [2, 7, 8, 9, 10, 11, 12, 13, 14, 15, 16, 27] ai0 n_ai ∧ FL [17, 18] al0 n_al) ∧ WO dC dI (TY cI cJ cII cJJ) (WM cI cJ cII cJJ ad f9_size f9_equations n_f9_areSteps n_f9_foundMany n_f9_many n_f9_rank n_f9_freeMany f9_arePlans f9_planMany n_ai n_al) A t) A
set_option maxRecDepth 100000 in
set_option maxHeartbeats 4000000 in
theorem r062_X9_add (l : Launch) (dC : Nat → ClassId) (dI : Nat → Nat → Nat) (cI cJ cII cJJ : ClassId) (sz g : Nat) (ad : Nat → Nat) (f9_size f9_equations f9_areSteps f9_foundMany f9_many f9_rank f9_freeMany f9_arePlans f9_planMany : Int32) (ai : Nat → Nat → Int32) (al : Nat → Nat → Int64) (x1 : Int32) (x2 : Int32) (h_f9_size : (1 ≤ f9_size.toInt ∧ f9_size.toInt ≤ 4)) (h_f9_equations : (0 ≤ f9_equations.toInt ∧ f9_equations.toInt ≤ 3)) (h_f9_areSteps : (0 ≤ f9_areSteps.toInt ∧ f9_areSteps.toInt ≤ 1)) (h_f9_foundMany : (0 ≤ f9_foundMany.toInt ∧ f9_foundMany.toInt ≤ 99999)) (h_f9_many : (0 ≤ f9_many.toInt ∧ f9_many.toInt ≤ 6000)) (h_f9_rank : (0 ≤ f9_rank.toInt ∧ f9_rank.toInt ≤ 3)) (h_f9_freeMany : (0 ≤ f9_freeMany.toInt ∧ f9_freeMany.toInt ≤ 4)) (h_f9_arePlans : (0 ≤ f9_arePlans.toInt ∧ f9_arePlans.toInt ≤ 1)) (h_f9_planMany : (0 ≤ f9_planMany.toInt ∧ f9_planMany.toInt ≤ 194481)) (hp0 : (f9_areSteps.toInt = 0 ∨ CIa ai f9_size f9_many.toInt)) (hI : IAM ai) : Met l yX9_add (.code yX9_add cX9_add 3 (some .int) :: TT) ({ frames := 11, cells := 0, slots := 0, locals := 620 } : Room) (PcS dC dI (TY cI cJ cII cJJ) [.ref (ad 22), .int x1, .int x2] (WM cI cJ cII cJJ ad f9_size f9_equations f9_areSteps f9_foundMany f9_many f9_rank f9_freeMany f9_arePlans f9_planMany ai al) sz 0 g) (Q_r062_X9_add dC dI cI cJ cII cJJ ad f9_size f9_equations f9_arePlans f9_planMany ai al f9_areSteps f9_many (va_A (WM cI cJ cII cJJ ad f9_size f9_equations f9_areSteps f9_foundMany f9_many f9_rank f9_freeMany f9_arePlans f9_planMany ai al) sz)) 0 0 (va_A (WM cI cJ cII cJJ ad f9_size f9_equations f9_areSteps f9_foundMany f9_many f9_rank f9_freeMany f9_arePlans f9_planMany ai al) sz) := by
  refine SM.of (y := yX9_add) (maxL := 3) (av := [.ref (ad 22), .int x1, .int x2]) (Q_r062_X9_add dC dI cI cJ cII cJJ ad f9_size f9_equations f9_arePlans f9_planMany ai al f9_areSteps f9_many) (by decide +kernel) (Nat.le_of_ble_eq_true rfl) (fun p e s m below meth c A ls hx hb hr hml hown hts hk hnm hA hK hP hD hS hX hl => ?_)
  have C : Cx p c s m meth (([.ref (ad 22), .int x1, .int x2] : List Value).toArray) A dC dI (TY cI cJ cII cJJ) cX9_add (some .int) 3 RX9 0 g := ⟨hx, hb, hr, hml, hown, hts, hk, hA, hK, hX⟩
  have hown : s.vm.findClass RX9 = some m.cls := hown
  have hl : lv_has ls 3 [(0, .ref (ad 22)), (1, .int x1), (2, .int x2)] := hl
  obtain ⟨H, hH⟩ : ∃ q, q = s.heap := ⟨_, rfl⟩
  rw [← hH] at hP
  have hS : va_S A s.heap H [] := by rw [hH]; exact hS
  rw [← hH]
  have hF := FR_refl [2, 7, 8, 9, 10, 11, 12, 13, 14, 15, 16, 27] ai
  have hG := FL_refl [17, 18] al
  have ra_x1 := s_any x1
  have ra_x2 := s_any x2
  refine lv_aload_n hx hb dX9_add_0 rfl (lv_at hl 0 rfl) ?_
  have hM := r018_X9_findSteps l dC dI cI cJ cII cJJ H.size 0 ad f9_size f9_equations f9_areSteps f9_foundMany f9_many f9_rank f9_freeMany f9_arePlans f9_planMany ai al (by omega) (by omega) (by omega) (by omega) (by omega) (by omega) (by omega) (by omega) (by omega) (by first | exact hp0 | exact Or.inl (by omega) | exact Or.inl (by decide +kernel)) hI
  refine k2V_v (q0 := 22) ⟨hx, hb, hml, hown, hts⟩ hK hP hD hS hA hX cv_RX9_180 hM ⟨by decide +kernel, by decide +kernel⟩ rfl rfl (Or.inl rfl) (rest := []) rfl rfl rfl hl.1 rfl (Nat.le_of_ble_eq_true rfl) dX9_add_1 ⟨Nat.le_of_ble_eq_true rfl, Nat.le_of_ble_eq_true rfl⟩ (fun t H1 locs_1 ht hB hS_1 hFc => ?_)
  obtain ⟨v2, v3, v4, v5, v6, ai7, al8, ⟨gpr1_0, gpr1_1, gpr1_2, gpr1_3, gpr1_4, gpr1_5, gpr1_6, hI_2, hFr_r1, hGr_r1⟩, hP_2, -, hD_2⟩ := hB
  have hF_3 := FR_tr hF hFr_r1 (by decide)
  have hG_4 := FL_tr hG hGr_r1 (by decide)
  rw [ht] at hP_2
  have hD_5 := hD_2.weaken (B := A) (fun k q _ h9 => hFc q.1 h9)
  clear ht
  generalize H1 = H_6 at hP_2 hS_1 ⊢
  refine lv_iload_n hx hb dX9_add_4 rfl (lv_at hl 1 rfl) ?_
  refine lv_aload_n hx hb dX9_add_5 rfl (lv_at hl 0 rfl) ?_
  refine gf (k := 22) hx hb hts inX9 hown hK hP_2 k_817 rfl (by decide) rfl 22 rfl (.int v4) rfl dX9_add_6 ?_
  have hM := r020_X9_isIn l dC dI cI cJ cII cJJ H_6.size 0 ad f9_size f9_equations v2 v3 v4 v5 v6 f9_arePlans f9_planMany ai7 al8 x1 v4 (by omega) (by omega) (by omega) (by omega) (by omega) (by omega) (by omega) (by omega) (by omega) hI_2
  refine k2S_i ⟨hx, hb, hml, hown, hts⟩ hK hP_2 hD_5 hS_1 hA hX cs_RX9_116 hM ⟨by decide +kernel, by decide +kernel⟩ rfl rfl (Or.inl rfl) (rest := []) rfl hl.1 rfl (Nat.le_of_ble_eq_true rfl) dX9_add_9 ⟨Nat.le_of_ble_eq_true rfl, Nat.le_of_ble_eq_true rfl⟩ (fun r9 t H1 locs_7 ht hB hS_7 hFc => ?_)
  obtain ⟨⟨gpr9_0, gpr9_1⟩, hP_8, -, hD_8⟩ := hB
  rw [ht] at hP_8
  have hD_9 := hD_8.weaken (B := A) (fun k q _ h9 => hFc q.1 h9)
  clear ht
  generalize H1 = H_10 at hP_8 hS_7 ⊢
  refine lv_if_eq (tgt := 36) hx hb dX9_add_12 (by decide) (fun c10 => ?_) (fun c10 => ?_)
  · have c10 := j_eq (a := r9.toInt) (b := 0) rfl (by decide +kernel) c10
    refine lv_aload_n hx hb dX9_add_36 rfl (lv_at hl 0 rfl) ?_
    refine lv_iconst (v := (-1)) hx hb dX9_add_37 (by decide) ?_
    have kcm1 : ((-1) : Int32).toInt = (-1) := by decide +kernel
    have hM := r021_X9_refuse l dC dI cI cJ cII cJJ H_10.size 0 ad f9_size f9_equations v2 v3 v4 v5 v6 f9_arePlans f9_planMany ai7 al8 (-1) (by decide +kernel) (by omega) (by omega) (by omega) (by omega) (by omega) (by omega) (by omega) (by omega) (by omega) hI_2
    refine k2V_i (q0 := 22) ⟨hx, hb, hml, hown, hts⟩ hK hP_8 hD_9 hS_7 hA hX cv_RX9_112 hM ⟨by decide +kernel, by decide +kernel⟩ rfl rfl (Or.inl rfl) (rest := []) rfl rfl rfl hl.1 rfl (Nat.le_of_ble_eq_true rfl) dX9_add_38 ⟨Nat.le_of_ble_eq_true rfl, Nat.le_of_ble_eq_true rfl⟩ (fun r11 t H1 locs_11 ht hB hS_11 hFc => ?_)
    obtain ⟨ai12, ⟨gpr11_0, gpr11_1, hI_12, hFr_r11⟩, hP_12, -, hD_12⟩ := hB
    have hF_13 := FR_tr hF_3 hFr_r11 (by decide)
    rw [ht] at hP_12
    have hD_14 := hD_12.weaken (B := A) (fun k q _ h9 => hFc q.1 h9)
    clear ht
    generalize H1 = H_15 at hP_12 hS_11 ⊢
    exact r2_i hx hb hr hk hS_11 dX9_add_41 (fun t ht hW => ⟨v2, v3, v4, v5, v6, ai12, al8, ⟨(by first | omega | decide | exact Or.inl (by decide) | exact Or.inr (by decide) | exact Or.inr (by omega)), (by first | omega | decide | exact Or.inl (by decide) | exact Or.inr (by decide) | exact Or.inr (by omega)), (by first | omega | decide | exact Or.inl (by decide) | exact Or.inr (by decide) | exact Or.inr (by omega)), (by first | omega | decide | exact Or.inl (by decide) | exact Or.inr (by decide) | exact Or.inr (by omega)), (by first | omega | decide | exact Or.inl (by decide) | exact Or.inr (by decide) | exact Or.inr (by omega)), (by first | omega | decide | exact Or.inl (by decide) | exact Or.inr (by decide) | exact Or.inr (by omega)), (by first | exact (Or.inr (CIa_t gpr1_5 hFr_r11 (by decide))) | exact Or.inl (by omega) | exact Or.inl (by decide +kernel)), hI_12, hF_13, hG_4⟩, by rw [ht]; exact hP_12, va_K.moved hW.alike hK, hD_14⟩)
  · have c10 := j_ne (a := r9.toInt) (b := 0) rfl (by decide +kernel) c10
    refine lv_aload_n hx hb dX9_add_15 rfl (lv_at hl 0 rfl) ?_
    refine lv_aload_n hx hb dX9_add_16 rfl (lv_at hl 0 rfl) ?_
    refine gf (k := 19) hx hb hts inX9 hown hK hP_8 k_814 rfl (by decide) rfl 22 rfl (.ref (ad 11)) rfl dX9_add_17 ?_
    refine lv_iconst (v := 4) hx hb dX9_add_20 (by decide) ?_
    refine lv_aload_n hx hb dX9_add_21 rfl (lv_at hl 0 rfl) ?_
    refine gf (k := 20) hx hb hts inX9 hown hK hP_8 k_815 rfl (by decide) rfl 22 rfl (.ref (ad 12)) rfl dX9_add_22 ?_
    refine lv_iload_n hx hb dX9_add_25 rfl (lv_at hl 1 rfl) ?_
    refine va_iald hx hb hK hP_8 12 0 rfl rfl (j_in (a := x1.toInt) rfl (by omega) (by omega)) dX9_add_26 ?_
    refine lv_topi (fun z13 e_z13 => ?_)
    have g_z13 : 0 ≤ z13.toInt ∧ z13.toInt ≤ 5999 := by rw [e_z13]; exact IAM_at12 hI_2 _
    refine v_imul hx hb dX9_add_27 _ rfl ?_
    refine lv_topi (fun z14 e_z14 => ?_)
    have g_z14 : z14.toInt = 4 * z13.toInt := by rw [e_z14]; exact n_mul (a := 4) (b := z13.toInt) (by decide +kernel) rfl (by omega) (by omega)
    refine lv_iload_n hx hb dX9_add_28 rfl (lv_at hl 2 rfl) ?_
    refine lv_i2l hx hb dX9_add_29 rfl ?_
    refine lv_topl (fun yy15 e_yy15 => ?_)
    have hM := r061_X9_adds l dC dI cI cJ cII cJJ H_10.size 0 ad f9_size f9_equations v2 v3 v4 v5 v6 f9_arePlans f9_planMany ai7 al8 z14 yy15 (by omega) (by omega) (by omega) (by omega) (by omega) (by omega) (by omega) (by omega) (by omega) (by omega) hI_2
    refine k2V_i (q0 := 22) ⟨hx, hb, hml, hown, hts⟩ hK hP_8 hD_9 hS_7 hA hX cv_RX9_216 hM ⟨by decide +kernel, by decide +kernel⟩ rfl rfl (Or.inl rfl) (rest := []) rfl rfl rfl hl.1 rfl (Nat.le_of_ble_eq_true rfl) dX9_add_30 ⟨Nat.le_of_ble_eq_true rfl, Nat.le_of_ble_eq_true rfl⟩ (fun r16 t H1 locs_16 ht hB hS_16 hFc => ?_)
    obtain ⟨ai17, ⟨gpr16_0, hI_17, hFr_r16⟩, hP_17, -, hD_17⟩ := hB
    have hF_18 := FR_tr hF_3 hFr_r16 (by decide)
    rw [ht] at hP_17
    have hD_19 := hD_17.weaken (B := A) (fun k q _ h9 => hFc q.1 h9)
    clear ht
    generalize H1 = H_20 at hP_17 hS_16 ⊢
    refine lv_goto (tgt := 41) hx hb dX9_add_33 (by decide) ?_
    exact r2_i hx hb hr hk hS_16 dX9_add_41 (fun t ht hW => ⟨v2, v3, v4, v5, v6, ai17, al8, ⟨(by first | omega | decide | exact Or.inl (by decide) | exact Or.inr (by decide) | exact Or.inr (by omega)), (by first | omega | decide | exact Or.inl (by decide) | exact Or.inr (by decide) | exact Or.inr (by omega)), (by first | omega | decide | exact Or.inl (by decide) | exact Or.inr (by decide) | exact Or.inr (by omega)), (by first | omega | decide | exact Or.inl (by decide) | exact Or.inr (by decide) | exact Or.inr (by omega)), (by first | omega | decide | exact Or.inl (by decide) | exact Or.inr (by decide) | exact Or.inr (by omega)), (by first | omega | decide | exact Or.inl (by decide) | exact Or.inr (by decide) | exact Or.inr (by omega)), (by first | exact (Or.inr (CIa_t gpr1_5 hFr_r16 (by decide))) | exact Or.inl (by omega) | exact Or.inl (by decide +kernel)), hI_17, hF_18, hG_4⟩, by rw [ht]; exact hP_17, va_K.moved hW.alike hK, hD_19⟩)
def Q_r063_X9_better (dC : Nat → ClassId) (dI : Nat → Nat → Nat) (cI cJ cII cJJ : ClassId) (ad : Nat → Nat) (f9_size f9_equations f9_arePlans f9_planMany : Int32) (ai0 : Nat → Nat → Int32) (al0 : Nat → Nat → Int64) (o_f9_areSteps : Int32) (o_f9_many : Int32) : (Nat → Prop) → Array Value → State → Outcome → State → Prop := fun A => QI (fun r t => ∃ (n_f9_areSteps n_f9_foundMany n_f9_many n_f9_rank n_f9_freeMany : Int32), ∃ (n_ai : Nat → Nat → Int32), ∃ (n_al : Nat → Nat → Int64), ((-99999 ≤ r.toInt ∧ r.toInt ≤ 5999) ∧ (0 ≤ n_f9_areSteps.toInt ∧ n_f9_areSteps.toInt ≤ 1) ∧ (0 ≤ n_f9_foundMany.toInt ∧ n_f9_foundMany.toInt ≤ 99999) ∧ (0 ≤ n_f9_many.toInt ∧ n_f9_many.toInt ≤ 6000) ∧ (0 ≤ n_f9_rank.toInt ∧ n_f9_rank.toInt ≤ 3) ∧ (0 ≤ n_f9_freeMany.toInt ∧ n_f9_freeMany.toInt ≤ 4) ∧ (n_f9_areSteps.toInt = 0 ∨ CIa n_ai f9_size n_f9_many.toInt) ∧ IAM n_ai ∧ FR [2, 7, 8, 9, 10, 11, 12, 13, 14, 15, 16, 20, 27] ai0 n_ai ∧ FL [17, 18] al0 n_al) ∧ WO dC dI (TY cI cJ cII cJJ) (WM cI cJ cII cJJ ad f9_size f9_equations n_f9_areSteps n_f9_foundMany n_f9_many n_f9_rank n_f9_freeMany f9_arePlans f9_planMany n_ai n_al) A t) A
set_option maxRecDepth 100000 in
set_option maxHeartbeats 4000000 in
theorem r063_X9_better (l : Launch) (dC : Nat → ClassId) (dI : Nat → Nat → Nat) (cI cJ cII cJJ : ClassId) (sz g : Nat) (ad : Nat → Nat) (f9_size f9_equations f9_areSteps f9_foundMany f9_many f9_rank f9_freeMany f9_arePlans f9_planMany : Int32) (ai : Nat → Nat → Int32) (al : Nat → Nat → Int64) (h_f9_size : (1 ≤ f9_size.toInt ∧ f9_size.toInt ≤ 4)) (h_f9_equations : (0 ≤ f9_equations.toInt ∧ f9_equations.toInt ≤ 3)) (h_f9_areSteps : (0 ≤ f9_areSteps.toInt ∧ f9_areSteps.toInt ≤ 1)) (h_f9_foundMany : (0 ≤ f9_foundMany.toInt ∧ f9_foundMany.toInt ≤ 99999)) (h_f9_many : (0 ≤ f9_many.toInt ∧ f9_many.toInt ≤ 6000)) (h_f9_rank : (0 ≤ f9_rank.toInt ∧ f9_rank.toInt ≤ 3)) (h_f9_freeMany : (0 ≤ f9_freeMany.toInt ∧ f9_freeMany.toInt ≤ 4)) (h_f9_arePlans : (0 ≤ f9_arePlans.toInt ∧ f9_arePlans.toInt ≤ 1)) (h_f9_planMany : (0 ≤ f9_planMany.toInt ∧ f9_planMany.toInt ≤ 194481)) (hp0 : (f9_areSteps.toInt = 0 ∨ CIa ai f9_size f9_many.toInt)) (hI : IAM ai) : Met l yX9_better (.code yX9_better cX9_better 1 (some .int) :: TT) ({ frames := 12, cells := 0, slots := 0, locals := 680 } : Room) (PcS dC dI (TY cI cJ cII cJJ) [.ref (ad 22)] (WM cI cJ cII cJJ ad f9_size f9_equations f9_areSteps f9_foundMany f9_many f9_rank f9_freeMany f9_arePlans f9_planMany ai al) sz 0 g) (Q_r063_X9_better dC dI cI cJ cII cJJ ad f9_size f9_equations f9_arePlans f9_planMany ai al f9_areSteps f9_many (va_A (WM cI cJ cII cJJ ad f9_size f9_equations f9_areSteps f9_foundMany f9_many f9_rank f9_freeMany f9_arePlans f9_planMany ai al) sz)) 0 0 (va_A (WM cI cJ cII cJJ ad f9_size f9_equations f9_areSteps f9_foundMany f9_many f9_rank f9_freeMany f9_arePlans f9_planMany ai al) sz) := by
  refine SM.of (y := yX9_better) (maxL := 1) (av := [.ref (ad 22)]) (Q_r063_X9_better dC dI cI cJ cII cJJ ad f9_size f9_equations f9_arePlans f9_planMany ai al f9_areSteps f9_many) (by decide +kernel) (Nat.le_of_ble_eq_true rfl) (fun p e s m below meth c A ls hx hb hr hml hown hts hk hnm hA hK hP hD hS hX hl => ?_)
  have C : Cx p c s m meth (([.ref (ad 22)] : List Value).toArray) A dC dI (TY cI cJ cII cJJ) cX9_better (some .int) 1 RX9 0 g := ⟨hx, hb, hr, hml, hown, hts, hk, hA, hK, hX⟩
  have hown : s.vm.findClass RX9 = some m.cls := hown
  have hl : lv_has ls 1 [(0, .ref (ad 22))] := hl
  obtain ⟨H, hH⟩ : ∃ q, q = s.heap := ⟨_, rfl⟩
  rw [← hH] at hP
  have hS : va_S A s.heap H [] := by rw [hH]; exact hS
  rw [← hH]
  have hF := FR_refl [2, 7, 8, 9, 10, 11, 12, 13, 14, 15, 16, 20, 27] ai
  have hG := FL_refl [17, 18] al
  refine lv_aload_n hx hb dX9_better_0 rfl (lv_at hl 0 rfl) ?_
  refine lv_aload_n hx hb dX9_better_1 rfl (lv_at hl 0 rfl) ?_
  refine gf (k := 6) hx hb hts inX9 hown hK hP k_801 rfl (by decide) rfl 22 rfl (.ref (ad 27)) rfl dX9_better_2 ?_
  refine lv_iconst (v := 0) hx hb dX9_better_5 (by decide) ?_
  have kc0 : (0 : Int32).toInt = 0 := by decide +kernel
  have hM := r057_X9_isPlan l dC dI cI cJ cII cJJ H.size 0 ad f9_size f9_equations f9_areSteps f9_foundMany f9_many f9_rank f9_freeMany f9_arePlans f9_planMany ai al (by omega) (by omega) (by omega) (by omega) (by omega) (by omega) (by omega) (by omega) (by omega) hI
  refine k2V_i (q0 := 22) ⟨hx, hb, hml, hown, hts⟩ hK hP hD hS hA hX cv_RX9_199 hM ⟨by decide +kernel, by decide +kernel⟩ rfl rfl (Or.inl rfl) (rest := []) rfl rfl rfl hl.1 rfl (Nat.le_of_ble_eq_true rfl) dX9_better_6 ⟨Nat.le_of_ble_eq_true rfl, Nat.le_of_ble_eq_true rfl⟩ (fun r1 t H1 locs_1 ht hB hS_1 hFc => ?_)
  obtain ⟨gpr1_0, hP_2, -, hD_2⟩ := hB
  rw [ht] at hP_2
  have hD_3 := hD_2.weaken (B := A) (fun k q _ h9 => hFc q.1 h9)
  clear ht
  generalize H1 = H_4 at hP_2 hS_1 ⊢
  refine lv_if_eq (tgt := 19) hx hb dX9_better_9 (by decide) (fun c2 => ?_) (fun c2 => ?_)
  · have c2 := j_eq (a := r1.toInt) (b := 0) rfl (by decide +kernel) c2
    refine lv_aload_n hx hb dX9_better_19 rfl (lv_at hl 0 rfl) ?_
    refine lv_bipush (v := (-5)) hx hb dX9_better_20 (by decide) ?_
    have kcm5 : ((-5) : Int32).toInt = (-5) := by decide +kernel
    have hM := r021_X9_refuse l dC dI cI cJ cII cJJ H_4.size 0 ad f9_size f9_equations f9_areSteps f9_foundMany f9_many f9_rank f9_freeMany f9_arePlans f9_planMany ai al (-5) (by decide +kernel) (by omega) (by omega) (by omega) (by omega) (by omega) (by omega) (by omega) (by omega) (by omega) hI
    refine k2V_i (q0 := 22) ⟨hx, hb, hml, hown, hts⟩ hK hP_2 hD_3 hS_1 hA hX cv_RX9_112 hM ⟨by decide +kernel, by decide +kernel⟩ rfl rfl (Or.inl rfl) (rest := []) rfl rfl rfl hl.1 rfl (Nat.le_of_ble_eq_true rfl) dX9_better_22 ⟨Nat.le_of_ble_eq_true rfl, Nat.le_of_ble_eq_true rfl⟩ (fun r3 t H1 locs_5 ht hB hS_5 hFc => ?_)
    obtain ⟨ai4, ⟨gpr3_0, gpr3_1, hI_6, hFr_r3⟩, hP_6, -, hD_6⟩ := hB
    have hF_7 := FR_tr hF hFr_r3 (by decide)
    rw [ht] at hP_6
    have hD_8 := hD_6.weaken (B := A) (fun k q _ h9 => hFc q.1 h9)
    clear ht
    generalize H1 = H_9 at hP_6 hS_5 ⊢
    exact r2_i hx hb hr hk hS_5 dX9_better_25 (fun t ht hW => ⟨f9_areSteps, f9_foundMany, f9_many, f9_rank, f9_freeMany, ai4, al, ⟨(by first | omega | decide | exact Or.inl (by decide) | exact Or.inr (by decide) | exact Or.inr (by omega)), (by first | omega | decide | exact Or.inl (by decide) | exact Or.inr (by decide) | exact Or.inr (by omega)), (by first | omega | decide | exact Or.inl (by decide) | exact Or.inr (by decide) | exact Or.inr (by omega)), (by first | omega | decide | exact Or.inl (by decide) | exact Or.inr (by decide) | exact Or.inr (by omega)), (by first | omega | decide | exact Or.inl (by decide) | exact Or.inr (by decide) | exact Or.inr (by omega)), (by first | omega | decide | exact Or.inl (by decide) | exact Or.inr (by decide) | exact Or.inr (by omega)), (by first | exact (hp0.imp (fun q => q) (fun q => CIa_t q hFr_r3 (by decide))) | exact Or.inl (by omega) | exact Or.inl (by decide +kernel)), hI_6, hF_7, hG⟩, by rw [ht]; exact hP_6, va_K.moved hW.alike hK, hD_8⟩)
  · have c2 := j_ne (a := r1.toInt) (b := 0) rfl (by decide +kernel) c2
    refine lv_aload_n hx hb dX9_better_12 rfl (lv_at hl 0 rfl) ?_
    have hM := r040_X9_betters l dC dI cI cJ cII cJJ H_4.size 0 ad f9_size f9_equations f9_areSteps f9_foundMany f9_many f9_rank f9_freeMany f9_arePlans f9_planMany ai al (by omega) (by omega) (by omega) (by omega) (by omega) (by omega) (by omega) (by omega) (by omega) (by first | exact hp0 | exact Or.inl (by omega) | exact Or.inl (by decide +kernel)) hI
    refine k2V_i (q0 := 22) ⟨hx, hb, hml, hown, hts⟩ hK hP_2 hD_3 hS_1 hA hX cv_RX9_228 hM ⟨by decide +kernel, by decide +kernel⟩ rfl rfl (Or.inl rfl) (rest := []) rfl rfl rfl hl.1 rfl (Nat.le_of_ble_eq_true rfl) dX9_better_13 ⟨Nat.le_of_ble_eq_true rfl, Nat.le_of_ble_eq_true rfl⟩ (fun r5 t H1 locs_10 ht hB hS_10 hFc => ?_)
    obtain ⟨v6, v7, v8, v9, v10, ai11, al12, ⟨gpr5_0, gpr5_1, gpr5_2, gpr5_3, gpr5_4, gpr5_5, gpr5_6, gpr5_7, hI_11, hFr_r5, hGr_r5⟩, hP_11, -, hD_11⟩ := hB
    have hF_12 := FR_tr hF hFr_r5 (by decide)
    have hG_13 := FL_tr hG hGr_r5 (by decide)
    rw [ht] at hP_11
    have hD_14 := hD_11.weaken (B := A) (fun k q _ h9 => hFc q.1 h9)
    clear ht
    generalize H1 = H_15 at hP_11 hS_10 ⊢
    refine lv_goto (tgt := 25) hx hb dX9_better_16 (by decide) ?_
    exact r2_i hx hb hr hk hS_10 dX9_better_25 (fun t ht hW => ⟨v6, v7, v8, v9, v10, ai11, al12, ⟨(by first | omega | decide | exact Or.inl (by decide) | exact Or.inr (by decide) | exact Or.inr (by omega)), (by first | omega | decide | exact Or.inl (by decide) | exact Or.inr (by decide) | exact Or.inr (by omega)), (by first | omega | decide | exact Or.inl (by decide) | exact Or.inr (by decide) | exact Or.inr (by omega)), (by first | omega | decide | exact Or.inl (by decide) | exact Or.inr (by decide) | exact Or.inr (by omega)), (by first | omega | decide | exact Or.inl (by decide) | exact Or.inr (by decide) | exact Or.inr (by omega)), (by first | omega | decide | exact Or.inl (by decide) | exact Or.inr (by decide) | exact Or.inr (by omega)), (by first | exact gpr5_6 | exact Or.inl (by omega) | exact Or.inl (by decide +kernel)), hI_11, hF_12, hG_13⟩, by rw [ht]; exact hP_11, va_K.moved hW.alike hK, hD_14⟩)
def Q_r064_X9_best (dC : Nat → ClassId) (dI : Nat → Nat → Nat) (cI cJ cII cJJ : ClassId) (ad : Nat → Nat) (f9_size f9_equations f9_arePlans f9_planMany : Int32) (ai0 : Nat → Nat → Int32) (al0 : Nat → Nat → Int64) (o_f9_areSteps : Int32) (o_f9_many : Int32) : (Nat → Prop) → Array Value → State → Outcome → State → Prop := fun A => QI (fun r t => ∃ (n_f9_areSteps n_f9_foundMany n_f9_many n_f9_rank n_f9_freeMany : Int32), ∃ (n_ai : Nat → Nat → Int32), ∃ (n_al : Nat → Nat → Int64), ((0 ≤ n_f9_areSteps.toInt ∧ n_f9_areSteps.toInt ≤ 1) ∧ (0 ≤ n_f9_foundMany.toInt ∧ n_f9_foundMany.toInt ≤ 99999) ∧ (0 ≤ n_f9_many.toInt ∧ n_f9_many.toInt ≤ 6000) ∧ (0 ≤ n_f9_rank.toInt ∧ n_f9_rank.toInt ≤ 3) ∧ (0 ≤ n_f9_freeMany.toInt ∧ n_f9_freeMany.toInt ≤ 4) ∧ (n_f9_areSteps.toInt = 0 ∨ CIa n_ai f9_size n_f9_many.toInt) ∧ IAM n_ai ∧ FR [2, 7, 8, 9, 10, 11, 12, 13, 14, 15, 16, 20, 27] ai0 n_ai ∧ FL [17, 18] al0 n_al) ∧ WO dC dI (TY cI cJ cII cJJ) (WM cI cJ cII cJJ ad f9_size f9_equations n_f9_areSteps n_f9_foundMany n_f9_many n_f9_rank n_f9_freeMany f9_arePlans f9_planMany n_ai n_al) A t) A
set_option maxRecDepth 100000 in
set_option maxHeartbeats 4000000 in
theorem r064_X9_best_b21 {p : Program} {l : Launch} {e : Env} {s : State} {m : MethodId} {args : Array Value} {below : List Frame} {meth : Method} {c : Code} {A : Nat → Prop} {dC : Nat → ClassId} {dI : Nat → Nat → Nat} {cI cJ cII cJJ : ClassId} {ad : Nat → Nat} {g : Nat} {f9_size f9_equations f9_arePlans f9_planMany : Int32} {ai0 : Nat → Nat → Int32} {al0 : Nat → Nat → Int64} {o_f9_areSteps : Int32} {o_f9_many : Int32} (C : Cx p c s m meth args A dC dI (TY cI cJ cII cJJ) cX9_best (some .int) 2 RX9 0 g) (hp0 : (o_f9_areSteps.toInt = 0 ∨ CIa ai0 f9_size o_f9_many.toInt)) : ∀ (n : Nat), ∀ (L1 f9_areSteps f9_foundMany f9_many f9_rank f9_freeMany : Int32) (ai : Nat → Nat → Int32) (al : Nat → Nat → Int64) (H : Heap) (locs : List Loc) (ls : Array Slot), (1 ≤ f9_size.toInt ∧ f9_size.toInt ≤ 4) → (0 ≤ f9_equations.toInt ∧ f9_equations.toInt ≤ 3) → (0 ≤ f9_areSteps.toInt ∧ f9_areSteps.toInt ≤ 1) → (0 ≤ f9_foundMany.toInt ∧ f9_foundMany.toInt ≤ 99999) → (0 ≤ f9_many.toInt ∧ f9_many.toInt ≤ 6000) → (0 ≤ f9_rank.toInt ∧ f9_rank.toInt ≤ 3) → (0 ≤ f9_freeMany.toInt ∧ f9_freeMany.toInt ≤ 4) → (0 ≤ f9_arePlans.toInt ∧ f9_arePlans.toInt ≤ 1) → (0 ≤ f9_planMany.toInt ∧ f9_planMany.toInt ≤ 194481) → (f9_areSteps.toInt = 0 ∨ CIa ai f9_size f9_many.toInt) → (csF ai (ai 27) f9_size.toInt.toNat).toInt + 9223372036854775808 < (n : Int) → (0 : Int) < (n : Int) → IAM ai → FR [2, 7, 8, 9, 10, 11, 12, 13, 14, 15, 16, 20, 27] ai0 ai → FL [17, 18] al0 al → va_P (dC, dI) vwCl (WM cI cJ cII cJJ ad f9_size f9_equations f9_areSteps f9_foundMany f9_many f9_rank f9_freeMany f9_arePlans f9_planMany ai al) H → va_D A (WM cI cJ cII cJJ ad f9_size f9_equations f9_areSteps f9_foundMany f9_many f9_rank f9_freeMany f9_arePlans f9_planMany ai al) → va_S A s.heap H locs → lv_has ls 2 [(0, .ref (ad 22)), (1, .int L1)] → W p l e ({ frames := 12, cells := 0, slots := 0, locals := 680 } : Room) s m args below meth c H locs 0 0 (MQ below (Q_r064_X9_best dC dI cI cJ cII cJJ ad f9_size f9_equations f9_arePlans f9_planMany ai0 al0 o_f9_areSteps o_f9_many A) args s 0 0 A) (F0 m 21 ls []) := by
  obtain ⟨hx, hb, hr, hml, hown, hts, hk, hA, hK, hX⟩ := id C
  intro n
  induction n with
  | zero =>
    intro L1 f9_areSteps f9_foundMany f9_many f9_rank f9_freeMany ai al H locs ls h0 h1 h2 h3 h4 h5 h6 h7 h8 h9 h10 h11 hI hF hG hP hD hS hl
    exact absurd h11 (by omega)
  | succ n ih =>
    intro L1 f9_areSteps f9_foundMany f9_many f9_rank f9_freeMany ai al H locs ls h0 h1 h2 h3 h4 h5 h6 h7 h8 h9 h10 h11 hI hF hG hP hD hS hl
    have ra_L1 := s_any L1
    refine lv_aload_n hx hb dX9_best_21 rfl (lv_at hl 0 rfl) ?_
    have hM := r040_X9_betters l dC dI cI cJ cII cJJ H.size 0 ad f9_size f9_equations f9_areSteps f9_foundMany f9_many f9_rank f9_freeMany f9_arePlans f9_planMany ai al (by omega) (by omega) (by omega) (by omega) (by omega) (by omega) (by omega) (by omega) (by omega) (by first | exact h9 | exact Or.inl (by omega) | exact Or.inl (by decide +kernel)) hI
    refine k2V_i (q0 := 22) ⟨hx, hb, hml, hown, hts⟩ hK hP hD hS hA hX cv_RX9_228 hM ⟨by decide +kernel, by decide +kernel⟩ rfl rfl (Or.inl rfl) (rest := []) rfl rfl rfl hl.1 rfl (Nat.le_of_ble_eq_true rfl) dX9_best_22 ⟨Nat.le_of_ble_eq_true rfl, Nat.le_of_ble_eq_true rfl⟩ (fun r1 t H1 locs_1 ht hB hS_1 hFc => ?_)
    obtain ⟨v2, v3, v4, v5, v6, ai7, al8, ⟨gpr1_0, gpr1_1, gpr1_2, gpr1_3, gpr1_4, gpr1_5, gpr1_6, gpr1_7, hI_2, hFr_r1, hGr_r1⟩, hP_2, -, hD_2⟩ := hB
    have hF_3 := FR_tr hF hFr_r1 (by decide)
    have hG_4 := FL_tr hG hGr_r1 (by decide)
    rw [ht] at hP_2
    have hD_5 := hD_2.weaken (B := A) (fun k q _ h9 => hFc q.1 h9)
    clear ht
    generalize H1 = H_6 at hP_2 hS_1 ⊢
    refine lv_ldc (v := (-99999)) hx hb hown (hts _ k_1014) dX9_best_25 ?_
    refine lv_icmp_eq (tgt := 36) hx hb dX9_best_27 (by decide) (fun c9 => ?_) (fun c9 => ?_)
    · have c9 := j_eq (a := r1.toInt) (b := (-99999)) rfl (by decide +kernel) c9
      refine lv_iload_n hx hb dX9_best_36 rfl (lv_at hl 1 rfl) ?_
      exact r2_i hx hb hr hk hS_1 dX9_best_37 (fun t ht hW => ⟨v2, v3, v4, v5, v6, ai7, al8, ⟨(by first | omega | decide | exact Or.inl (by decide) | exact Or.inr (by decide) | exact Or.inr (by omega)), (by first | omega | decide | exact Or.inl (by decide) | exact Or.inr (by decide) | exact Or.inr (by omega)), (by first | omega | decide | exact Or.inl (by decide) | exact Or.inr (by decide) | exact Or.inr (by omega)), (by first | omega | decide | exact Or.inl (by decide) | exact Or.inr (by decide) | exact Or.inr (by omega)), (by first | omega | decide | exact Or.inl (by decide) | exact Or.inr (by decide) | exact Or.inr (by omega)), (by first | exact gpr1_6 | exact Or.inl (by omega) | exact Or.inl (by decide +kernel)), hI_2, hF_3, hG_4⟩, by rw [ht]; exact hP_2, va_K.moved hW.alike hK, hD_5⟩)
    · have c9 := j_ne (a := r1.toInt) (b := (-99999)) rfl (by decide +kernel) c9
      have q_1 := gpr1_7.resolve_left (by omega)
      have q_2 := i64_lo (csF ai7 (ai7 27) f9_size.toInt.toNat)
      obtain ⟨z10, e_z10⟩ : ∃ q : Int32, q = L1 + Int32.ofInt 1 := ⟨_, rfl⟩
      refine lv_iinc (v := z10) (lv' := [(1, .int z10), (0, .ref (ad 22))]) hx hb dX9_best_30 hl (k := 1) rfl e_z10.symm (by decide) rfl (fun ls_7 hl_7 => ?_)
      refine lv_goto (tgt := 21) hx hb dX9_best_33 (by decide) ?_
      exact ih z10 v2 v3 v4 v5 v6 ai7 al8 _ _ _ (by omega) (by omega) (by omega) (by omega) (by omega) (by omega) (by omega) (by omega) (by omega) (by first | exact gpr1_6 | exact Or.inl (by omega) | exact Or.inl (by decide +kernel)) (by omega) (by omega) hI_2 hF_3 hG_4 hP_2 hD_5 hS_1 (lv_sub hl_7 [1, 0] rfl)
set_option maxRecDepth 100000 in
set_option maxHeartbeats 4000000 in
theorem r064_X9_best (l : Launch) (dC : Nat → ClassId) (dI : Nat → Nat → Nat) (cI cJ cII cJJ : ClassId) (sz g : Nat) (ad : Nat → Nat) (f9_size f9_equations f9_areSteps f9_foundMany f9_many f9_rank f9_freeMany f9_arePlans f9_planMany : Int32) (ai : Nat → Nat → Int32) (al : Nat → Nat → Int64) (h_f9_size : (1 ≤ f9_size.toInt ∧ f9_size.toInt ≤ 4)) (h_f9_equations : (0 ≤ f9_equations.toInt ∧ f9_equations.toInt ≤ 3)) (h_f9_areSteps : (0 ≤ f9_areSteps.toInt ∧ f9_areSteps.toInt ≤ 1)) (h_f9_foundMany : (0 ≤ f9_foundMany.toInt ∧ f9_foundMany.toInt ≤ 99999)) (h_f9_many : (0 ≤ f9_many.toInt ∧ f9_many.toInt ≤ 6000)) (h_f9_rank : (0 ≤ f9_rank.toInt ∧ f9_rank.toInt ≤ 3)) (h_f9_freeMany : (0 ≤ f9_freeMany.toInt ∧ f9_freeMany.toInt ≤ 4)) (h_f9_arePlans : (0 ≤ f9_arePlans.toInt ∧ f9_arePlans.toInt ≤ 1)) (h_f9_planMany : (0 ≤ f9_planMany.toInt ∧ f9_planMany.toInt ≤ 194481)) (hp0 : (f9_areSteps.toInt = 0 ∨ CIa ai f9_size f9_many.toInt)) (hI : IAM ai) : Met l yX9_best (.code yX9_best cX9_best 2 (some .int) :: TT) ({ frames := 12, cells := 0, slots := 0, locals := 680 } : Room) (PcS dC dI (TY cI cJ cII cJJ) [.ref (ad 22)] (WM cI cJ cII cJJ ad f9_size f9_equations f9_areSteps f9_foundMany f9_many f9_rank f9_freeMany f9_arePlans f9_planMany ai al) sz 0 g) (Q_r064_X9_best dC dI cI cJ cII cJJ ad f9_size f9_equations f9_arePlans f9_planMany ai al f9_areSteps f9_many (va_A (WM cI cJ cII cJJ ad f9_size f9_equations f9_areSteps f9_foundMany f9_many f9_rank f9_freeMany f9_arePlans f9_planMany ai al) sz)) 0 0 (va_A (WM cI cJ cII cJJ ad f9_size f9_equations f9_areSteps f9_foundMany f9_many f9_rank f9_freeMany f9_arePlans f9_planMany ai al) sz) := by
  refine SM.of (y := yX9_best) (maxL := 2) (av := [.ref (ad 22)]) (Q_r064_X9_best dC dI cI cJ cII cJJ ad f9_size f9_equations f9_arePlans f9_planMany ai al f9_areSteps f9_many) (by decide +kernel) (Nat.le_of_ble_eq_true rfl) (fun p e s m below meth c A ls hx hb hr hml hown hts hk hnm hA hK hP hD hS hX hl => ?_)
  have C : Cx p c s m meth (([.ref (ad 22)] : List Value).toArray) A dC dI (TY cI cJ cII cJJ) cX9_best (some .int) 2 RX9 0 g := ⟨hx, hb, hr, hml, hown, hts, hk, hA, hK, hX⟩
  have hown : s.vm.findClass RX9 = some m.cls := hown
  have hl : lv_has ls 2 [(0, .ref (ad 22))] := hl
  obtain ⟨H, hH⟩ : ∃ q, q = s.heap := ⟨_, rfl⟩
  rw [← hH] at hP
  have hS : va_S A s.heap H [] := by rw [hH]; exact hS
  rw [← hH]
  have hF := FR_refl [2, 7, 8, 9, 10, 11, 12, 13, 14, 15, 16, 20, 27] ai
  have hG := FL_refl [17, 18] al
  refine lv_aload_n hx hb dX9_best_0 rfl (lv_at hl 0 rfl) ?_
  refine lv_aload_n hx hb dX9_best_1 rfl (lv_at hl 0 rfl) ?_
  refine gf (k := 6) hx hb hts inX9 hown hK hP k_801 rfl (by decide) rfl 22 rfl (.ref (ad 27)) rfl dX9_best_2 ?_
  refine lv_iconst (v := 0) hx hb dX9_best_5 (by decide) ?_
  have kc0 : (0 : Int32).toInt = 0 := by decide +kernel
  have hM := r057_X9_isPlan l dC dI cI cJ cII cJJ H.size 0 ad f9_size f9_equations f9_areSteps f9_foundMany f9_many f9_rank f9_freeMany f9_arePlans f9_planMany ai al (by omega) (by omega) (by omega) (by omega) (by omega) (by omega) (by omega) (by omega) (by omega) hI
  refine k2V_i (q0 := 22) ⟨hx, hb, hml, hown, hts⟩ hK hP hD hS hA hX cv_RX9_199 hM ⟨by decide +kernel, by decide +kernel⟩ rfl rfl (Or.inl rfl) (rest := []) rfl rfl rfl hl.1 rfl (Nat.le_of_ble_eq_true rfl) dX9_best_6 ⟨Nat.le_of_ble_eq_true rfl, Nat.le_of_ble_eq_true rfl⟩ (fun r1 t H1 locs_1 ht hB hS_1 hFc => ?_)
  obtain ⟨gpr1_0, hP_2, -, hD_2⟩ := hB
  rw [ht] at hP_2
  have hD_3 := hD_2.weaken (B := A) (fun k q _ h9 => hFc q.1 h9)
  clear ht
  generalize H1 = H_4 at hP_2 hS_1 ⊢
  refine lv_if_ne (tgt := 19) hx hb dX9_best_9 (by decide) (fun c2 => ?_) (fun c2 => ?_)
  · have c2 := j_ne (a := r1.toInt) (b := 0) rfl (by decide +kernel) c2
    refine lv_iconst (v := 0) hx hb dX9_best_19 (by decide) ?_
    refine lv_istore_n (lv' := [(1, .int 0), (0, .ref (ad 22))]) hx hb dX9_best_20 rfl hl (by decide) rfl (fun ls_5 hl_5 => ?_)
    exact r064_X9_best_b21 C hp0  _ 0 f9_areSteps f9_foundMany f9_many f9_rank f9_freeMany ai al _ _ _ (by first | omega | decide | (have ka0 := (by decide +kernel : (0 : Int32).toInt = 0); omega)) (by first | omega | decide | (have ka0 := (by decide +kernel : (0 : Int32).toInt = 0); omega)) (by first | omega | decide | (have ka0 := (by decide +kernel : (0 : Int32).toInt = 0); omega)) (by first | omega | decide | (have ka0 := (by decide +kernel : (0 : Int32).toInt = 0); omega)) (by first | omega | decide | (have ka0 := (by decide +kernel : (0 : Int32).toInt = 0); omega)) (by first | omega | decide | (have ka0 := (by decide +kernel : (0 : Int32).toInt = 0); omega)) (by first | omega | decide | (have ka0 := (by decide +kernel : (0 : Int32).toInt = 0); omega)) (by first | omega | decide | (have ka0 := (by decide +kernel : (0 : Int32).toInt = 0); omega)) (by first | omega | decide | (have ka0 := (by decide +kernel : (0 : Int32).toInt = 0); omega)) (by first | exact hp0 | exact Or.inl (by omega) | exact Or.inl (by decide +kernel)) (j_fuel _) (by omega) hI hF hG hP_2 hD_3 hS_1 (lv_sub hl_5 [1, 0] rfl)
  · have c2 := j_eq (a := r1.toInt) (b := 0) rfl (by decide +kernel) c2
    refine lv_aload_n hx hb dX9_best_12 rfl (lv_at hl 0 rfl) ?_
    refine lv_bipush (v := (-5)) hx hb dX9_best_13 (by decide) ?_
    have kcm5 : ((-5) : Int32).toInt = (-5) := by decide +kernel
    have hM := r021_X9_refuse l dC dI cI cJ cII cJJ H_4.size 0 ad f9_size f9_equations f9_areSteps f9_foundMany f9_many f9_rank f9_freeMany f9_arePlans f9_planMany ai al (-5) (by decide +kernel) (by omega) (by omega) (by omega) (by omega) (by omega) (by omega) (by omega) (by omega) (by omega) hI
    refine k2V_i (q0 := 22) ⟨hx, hb, hml, hown, hts⟩ hK hP_2 hD_3 hS_1 hA hX cv_RX9_112 hM ⟨by decide +kernel, by decide +kernel⟩ rfl rfl (Or.inl rfl) (rest := []) rfl rfl rfl hl.1 rfl (Nat.le_of_ble_eq_true rfl) dX9_best_15 ⟨Nat.le_of_ble_eq_true rfl, Nat.le_of_ble_eq_true rfl⟩ (fun r3 t H1 locs_6 ht hB hS_6 hFc => ?_)
    obtain ⟨ai4, ⟨gpr3_0, gpr3_1, hI_7, hFr_r3⟩, hP_7, -, hD_7⟩ := hB
    have hF_8 := FR_tr hF hFr_r3 (by decide)
    rw [ht] at hP_7
    have hD_9 := hD_7.weaken (B := A) (fun k q _ h9 => hFc q.1 h9)
    clear ht
    generalize H1 = H_10 at hP_7 hS_6 ⊢
    exact r2_i hx hb hr hk hS_6 dX9_best_18 (fun t ht hW => ⟨f9_areSteps, f9_foundMany, f9_many, f9_rank, f9_freeMany, ai4, al, ⟨(by first | omega | decide | exact Or.inl (by decide) | exact Or.inr (by decide) | exact Or.inr (by omega)), (by first | omega | decide | exact Or.inl (by decide) | exact Or.inr (by decide) | exact Or.inr (by omega)), (by first | omega | decide | exact Or.inl (by decide) | exact Or.inr (by decide) | exact Or.inr (by omega)), (by first | omega | decide | exact Or.inl (by decide) | exact Or.inr (by decide) | exact Or.inr (by omega)), (by first | omega | decide | exact Or.inl (by decide) | exact Or.inr (by decide) | exact Or.inr (by omega)), (by first | exact (hp0.imp (fun q => q) (fun q => CIa_t q hFr_r3 (by decide))) | exact Or.inl (by omega) | exact Or.inl (by decide +kernel)), hI_7, hF_8, hG⟩, by rw [ht]; exact hP_7, va_K.moved hW.alike hK, hD_9⟩)
