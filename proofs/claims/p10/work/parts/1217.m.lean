def Q_r036_X9_gathers (dC : Nat → ClassId) (dI : Nat → Nat → Nat) (cI cJ cII cJJ : ClassId) (ad : Nat → Nat) (f9_size f9_equations f9_areSteps f9_foundMany f9_many f9_rank f9_freeMany f9_arePlans : Int32) (ai0 : Nat → Nat → Int32) (al : Nat → Nat → Int64) (o_f9_planMany : Int32) : (Nat → Prop) → Array Value → State → Outcome → State → Prop := fun A => QV (fun t => ∃ (n_f9_planMany : Int32), ∃ (n_ai : Nat → Nat → Int32), ((0 ≤ n_f9_planMany.toInt ∧ n_f9_planMany.toInt ≤ 194481) ∧ (o_f9_planMany.toInt ≤ n_f9_planMany.toInt ∧ n_f9_planMany.toInt ≤ o_f9_planMany.toInt + pw21 (f9_size.toInt.toNat - 0)) ∧ (n_ai 24 0).toInt = (ai0 24 0).toInt ∧ (n_ai 24 1).toInt = (ai0 24 1).toInt ∧ (n_ai 24 2).toInt = (ai0 24 2).toInt ∧ (n_ai 24 3).toInt = (ai0 24 3).toInt ∧ IAM n_ai ∧ FR [20, 21] ai0 n_ai) ∧ WO dC dI (TY cI cJ cII cJJ) (WM cI cJ cII cJJ ad f9_size f9_equations f9_areSteps f9_foundMany f9_many f9_rank f9_freeMany f9_arePlans n_f9_planMany n_ai al) A t) A
set_option maxRecDepth 100000 in
set_option maxHeartbeats 4000000 in
theorem r036_X9_gathers_b15 {p : Program} {l : Launch} {e : Env} {s : State} {m : MethodId} {args : Array Value} {below : List Frame} {meth : Method} {c : Code} {A : Nat → Prop} {dC : Nat → ClassId} {dI : Nat → Nat → Nat} {cI cJ cII cJJ : ClassId} {ad : Nat → Nat} {g : Nat} {f9_size f9_equations f9_areSteps f9_foundMany f9_many f9_rank f9_freeMany f9_arePlans : Int32} {ai0 : Nat → Nat → Int32} {al : Nat → Nat → Int64} {o_f9_planMany : Int32} (C : Cx p c s m meth args A dC dI (TY cI cJ cII cJJ) cX9_gathers none 3 RX9 0 g) (hp0 : o_f9_planMany.toInt + pw21 (f9_size.toInt.toNat - 0) ≤ 194481) : ∀ (n : Nat), ∀ (L2 f9_planMany : Int32) (ai : Nat → Nat → Int32) (H : Heap) (locs : List Loc) (ls : Array Slot), (-10 ≤ L2.toInt ∧ L2.toInt ≤ 11) → (1 ≤ f9_size.toInt ∧ f9_size.toInt ≤ 4) → (0 ≤ f9_equations.toInt ∧ f9_equations.toInt ≤ 3) → (0 ≤ f9_areSteps.toInt ∧ f9_areSteps.toInt ≤ 1) → (0 ≤ f9_foundMany.toInt ∧ f9_foundMany.toInt ≤ 99999) → (0 ≤ f9_many.toInt ∧ f9_many.toInt ≤ 6000) → (0 ≤ f9_rank.toInt ∧ f9_rank.toInt ≤ 3) → (0 ≤ f9_freeMany.toInt ∧ f9_freeMany.toInt ≤ 4) → (0 ≤ f9_arePlans.toInt ∧ f9_arePlans.toInt ≤ 1) → (0 ≤ f9_planMany.toInt ∧ f9_planMany.toInt ≤ 194481) → (o_f9_planMany.toInt ≤ f9_planMany.toInt ∧ f9_planMany.toInt ≤ o_f9_planMany.toInt + (L2.toInt + 10) * pw21 (f9_size.toInt.toNat - (0 + 1))) → L2.toInt ≤ 11 → (ai 24 0).toInt = (ai0 24 0).toInt → (ai 24 1).toInt = (ai0 24 1).toInt → (ai 24 2).toInt = (ai0 24 2).toInt → (ai 24 3).toInt = (ai0 24 3).toInt → (ai 24 0).toInt + 1 - L2.toInt < (n : Int) → (0 : Int) < (n : Int) → IAM ai → FR [20, 21] ai0 ai → va_P (dC, dI) vwCl (WM cI cJ cII cJJ ad f9_size f9_equations f9_areSteps f9_foundMany f9_many f9_rank f9_freeMany f9_arePlans f9_planMany ai al) H → va_D A (WM cI cJ cII cJJ ad f9_size f9_equations f9_areSteps f9_foundMany f9_many f9_rank f9_freeMany f9_arePlans f9_planMany ai al) → va_S A s.heap H locs → lv_has ls 3 [(0, .ref (ad 22)), (1, .int 0), (2, .int L2)] → W p l e ({ frames := 8, cells := 0, slots := 0, locals := 440 } : Room) s m args below meth c H locs 0 0 (MQ below (Q_r036_X9_gathers dC dI cI cJ cII cJJ ad f9_size f9_equations f9_areSteps f9_foundMany f9_many f9_rank f9_freeMany f9_arePlans ai0 al o_f9_planMany A) args s 0 0 A) (F0 m 15 ls []) := by
  obtain ⟨hx, hb, hr, hml, hown, hts, hk, hA, hK, hX⟩ := id C
  intro n
  induction n with
  | zero =>
    intro L2 f9_planMany ai H locs ls h0 h1 h2 h3 h4 h5 h6 h7 h8 h9 h10 h11 h12 h13 h14 h15 h16 h17 hI hF hP hD hS hl
    exact absurd h17 (by omega)
  | succ n ih =>
    intro L2 f9_planMany ai H locs ls h0 h1 h2 h3 h4 h5 h6 h7 h8 h9 h10 h11 h12 h13 h14 h15 h16 h17 hI hF hP hD hS hl
    refine lv_iload_n hx hb dX9_gathers_15 rfl (lv_at hl 2 rfl) ?_
    refine lv_aload_n hx hb dX9_gathers_16 rfl (lv_at hl 0 rfl) ?_
    refine gf (k := 3) hx hb hts inX9 hown hK hP k_798 rfl (by decide) rfl 22 rfl (.ref (ad 24)) rfl dX9_gathers_17 ?_
    refine lv_iload_n hx hb dX9_gathers_20 rfl (lv_at hl 1 rfl) ?_
    refine va_iald hx hb hK hP 24 0 rfl rfl (vin (by decide +kernel)) dX9_gathers_21 ?_
    refine lv_topi (fun z1 e_z1 => ?_)
    have k_z1 : z1.toInt = (ai 24 0).toInt := by rw [e_z1]; rfl
    have g_z1 : -10 ≤ z1.toInt ∧ z1.toInt ≤ 10 := by rw [e_z1]; exact IAM_at24 hI _
    refine lv_icmp_gt (tgt := 45) hx hb dX9_gathers_22 (by decide) (fun c2 => ?_) (fun c2 => ?_)
    · have c2 := j_lt (a := z1.toInt) (b := L2.toInt) rfl rfl c2
      exact r2_v hx hb hr hk hS dX9_gathers_45 (fun t ht hW => ⟨f9_planMany, ai, ⟨(by first | omega | decide | exact Or.inl (by decide) | exact Or.inr (by decide) | exact Or.inr (by omega)), (by rw [pw21_s (by omega)]; exact pw_e2 (b := 10) h10 (by omega) (by have q := pw21_pos (f9_size.toInt.toNat - (0 + 1)); omega)), (by first | omega | decide | exact Or.inl (by decide) | exact Or.inr (by decide) | exact Or.inr (by omega)), (by first | omega | decide | exact Or.inl (by decide) | exact Or.inr (by decide) | exact Or.inr (by omega)), (by first | omega | decide | exact Or.inl (by decide) | exact Or.inr (by decide) | exact Or.inr (by omega)), (by first | omega | decide | exact Or.inl (by decide) | exact Or.inr (by decide) | exact Or.inr (by omega)), hI, hF⟩, by rw [ht]; exact hP, va_K.moved hW.alike hK, hD⟩)
    · have c2 := j_nlt (a := z1.toInt) (b := L2.toInt) rfl rfl c2
      refine lv_aload_n hx hb dX9_gathers_25 rfl (lv_at hl 0 rfl) ?_
      refine gf (k := 32) hx hb hts inX9 hown hK hP k_827 rfl (by decide) rfl 22 rfl (.ref (ad 20)) rfl dX9_gathers_26 ?_
      refine lv_iload_n hx hb dX9_gathers_29 rfl (lv_at hl 1 rfl) ?_
      refine lv_iload_n hx hb dX9_gathers_30 rfl (lv_at hl 2 rfl) ?_
      refine va_iast hx hb hK hP hD hS 20 0 rfl rfl (vin (by decide +kernel)) dX9_gathers_31 (fun H_1 locs_1 hP_1 hD_1 hS_1 => ?_)
      obtain ⟨ai3, e_ai3⟩ : ∃ q : Nat → Nat → Int32, q = va_up ai 20 (upd (ai 20) (0 : Int32).toNatClampNeg L2) := ⟨_, rfl⟩
      have hF_2 := FR_st hF e_ai3 (by decide)
      have hI_3 : IAM ai3 := by rw [e_ai3]; exact hI
      have hP_4 : va_P (dC, dI) vwCl (WM cI cJ cII cJJ ad f9_size f9_equations f9_areSteps f9_foundMany f9_many f9_rank f9_freeMany f9_arePlans f9_planMany ai3 al) H_1 := by rw [e_ai3]; exact hP_1
      have hD_5 : va_D A (WM cI cJ cII cJJ ad f9_size f9_equations f9_areSteps f9_foundMany f9_many f9_rank f9_freeMany f9_arePlans f9_planMany ai3 al) := by rw [e_ai3]; exact hD_1
      have tk_ai3_24_0 : (ai3 24 0).toInt = (ai 24 0).toInt := by rw [e_ai3]; rfl
      have tk_ai3_24_1 : (ai3 24 1).toInt = (ai 24 1).toInt := by rw [e_ai3]; rfl
      have tk_ai3_24_2 : (ai3 24 2).toInt = (ai 24 2).toInt := by rw [e_ai3]; rfl
      have tk_ai3_24_3 : (ai3 24 3).toInt = (ai 24 3).toInt := by rw [e_ai3]; rfl
      refine lv_aload_n hx hb dX9_gathers_32 rfl (lv_at hl 0 rfl) ?_
      refine lv_iload_n hx hb dX9_gathers_33 rfl (lv_at hl 1 rfl) ?_
      refine lv_iconst (v := 1) hx hb dX9_gathers_34 (by decide) ?_
      refine v_iadd hx hb dX9_gathers_35 1 (by decide +kernel) ?_
      have kc1 : (1 : Int32).toInt = 1 := by decide +kernel
      have hM := r035_X9_gathers l dC dI cI cJ cII cJJ H_1.size 0 ad f9_size f9_equations f9_areSteps f9_foundMany f9_many f9_rank f9_freeMany f9_arePlans f9_planMany ai3 al (by omega) (by omega) (by omega) (by omega) (by omega) (by omega) (by omega) (by omega) (by omega) (pw_pre (b := 10) h10.2 (by omega) (pw21_pos _) (by have q := hp0; rw [pw21_s (by omega)] at q; exact q)) hI_3
      refine k2V_v (q0 := 22) ⟨hx, hb, hml, hown, hts⟩ hK hP_4 hD_5 hS_1 hA hX cv_RX9_235 hM ⟨by decide +kernel, by decide +kernel⟩ rfl rfl (Or.inl rfl) (rest := []) rfl rfl rfl hl.1 rfl (Nat.le_of_ble_eq_true rfl) dX9_gathers_36 ⟨Nat.le_of_ble_eq_true rfl, Nat.le_of_ble_eq_true rfl⟩ (fun t H1 locs_6 ht hB hS_6 hFc => ?_)
      obtain ⟨v5, ai6, ⟨gpr4_0, gpr4_1, gpr4_2, gpr4_3, gpr4_4, gpr4_5, hI_7, hFr_r4⟩, hP_7, -, hD_7⟩ := hB
      have hF_8 := FR_tr hF_2 hFr_r4 (by decide)
      rw [ht] at hP_7
      have hD_9 := hD_7.weaken (B := A) (fun k q _ h9 => hFc q.1 h9)
      clear ht
      generalize H1 = H_10 at hP_7 hS_6 ⊢
      obtain ⟨z7, e_z7⟩ : ∃ q : Int32, q = L2 + Int32.ofInt 1 := ⟨_, rfl⟩
      have g_z7 : z7.toInt = L2.toInt + 1 := by rw [e_z7]; exact n_add (a := L2.toInt) (b := 1) rfl (by decide +kernel) (by omega) (by omega)
      refine lv_iinc (v := z7) (lv' := [(2, .int z7), (0, .ref (ad 22)), (1, .int 0)]) hx hb dX9_gathers_39 hl (k := 2) rfl e_z7.symm (by decide) rfl (fun ls_11 hl_11 => ?_)
      refine lv_goto (tgt := 15) hx hb dX9_gathers_42 (by decide) ?_
      exact ih z7 v5 ai6 _ _ _ (by omega) (by omega) (by omega) (by omega) (by omega) (by omega) (by omega) (by omega) (by omega) (by omega) (pw_stp h10 gpr4_1 (by omega)) (by omega) (by omega) (by omega) (by omega) (by omega) (by omega) (by omega) hI_7 hF_8 hP_7 hD_9 hS_6 (lv_sub hl_11 [1, 2, 0] rfl)
set_option maxRecDepth 100000 in
set_option maxHeartbeats 4000000 in
theorem r036_X9_gathers (l : Launch) (dC : Nat → ClassId) (dI : Nat → Nat → Nat) (cI cJ cII cJJ : ClassId) (sz g : Nat) (ad : Nat → Nat) (f9_size f9_equations f9_areSteps f9_foundMany f9_many f9_rank f9_freeMany f9_arePlans f9_planMany : Int32) (ai : Nat → Nat → Int32) (al : Nat → Nat → Int64) (h_f9_size : (1 ≤ f9_size.toInt ∧ f9_size.toInt ≤ 4)) (h_f9_equations : (0 ≤ f9_equations.toInt ∧ f9_equations.toInt ≤ 3)) (h_f9_areSteps : (0 ≤ f9_areSteps.toInt ∧ f9_areSteps.toInt ≤ 1)) (h_f9_foundMany : (0 ≤ f9_foundMany.toInt ∧ f9_foundMany.toInt ≤ 99999)) (h_f9_many : (0 ≤ f9_many.toInt ∧ f9_many.toInt ≤ 6000)) (h_f9_rank : (0 ≤ f9_rank.toInt ∧ f9_rank.toInt ≤ 3)) (h_f9_freeMany : (0 ≤ f9_freeMany.toInt ∧ f9_freeMany.toInt ≤ 4)) (h_f9_arePlans : (0 ≤ f9_arePlans.toInt ∧ f9_arePlans.toInt ≤ 1)) (h_f9_planMany : (0 ≤ f9_planMany.toInt ∧ f9_planMany.toInt ≤ 194481)) (hp0 : f9_planMany.toInt + pw21 (f9_size.toInt.toNat - 0) ≤ 194481) (hI : IAM ai) : Met l yX9_gathers (.code yX9_gathers cX9_gathers 3 none :: TT) ({ frames := 8, cells := 0, slots := 0, locals := 440 } : Room) (PcS dC dI (TY cI cJ cII cJJ) [.ref (ad 22), .int 0] (WM cI cJ cII cJJ ad f9_size f9_equations f9_areSteps f9_foundMany f9_many f9_rank f9_freeMany f9_arePlans f9_planMany ai al) sz 0 g) (Q_r036_X9_gathers dC dI cI cJ cII cJJ ad f9_size f9_equations f9_areSteps f9_foundMany f9_many f9_rank f9_freeMany f9_arePlans ai al f9_planMany (va_A (WM cI cJ cII cJJ ad f9_size f9_equations f9_areSteps f9_foundMany f9_many f9_rank f9_freeMany f9_arePlans f9_planMany ai al) sz)) 0 0 (va_A (WM cI cJ cII cJJ ad f9_size f9_equations f9_areSteps f9_foundMany f9_many f9_rank f9_freeMany f9_arePlans f9_planMany ai al) sz) := by
  refine SM.of (y := yX9_gathers) (maxL := 3) (av := [.ref (ad 22), .int 0]) (Q_r036_X9_gathers dC dI cI cJ cII cJJ ad f9_size f9_equations f9_areSteps f9_foundMany f9_many f9_rank f9_freeMany f9_arePlans ai al f9_planMany) (by decide +kernel) (Nat.le_of_ble_eq_true rfl) (fun p e s m below meth c A ls hx hb hr hml hown hts hk hnm hA hK hP hD hS hX hl => ?_)
  have C : Cx p c s m meth (([.ref (ad 22), .int 0] : List Value).toArray) A dC dI (TY cI cJ cII cJJ) cX9_gathers none 3 RX9 0 g := ⟨hx, hb, hr, hml, hown, hts, hk, hA, hK, hX⟩
  have hown : s.vm.findClass RX9 = some m.cls := hown
  have hl : lv_has ls 3 [(0, .ref (ad 22)), (1, .int 0)] := hl
  obtain ⟨H, hH⟩ : ∃ q, q = s.heap := ⟨_, rfl⟩
  rw [← hH] at hP
  have hS : va_S A s.heap H [] := by rw [hH]; exact hS
  rw [← hH]
  have hF := FR_refl [20, 21] ai
  refine lv_iload_n hx hb dX9_gathers_0 rfl (lv_at hl 1 rfl) ?_
  refine lv_aload_n hx hb dX9_gathers_1 rfl (lv_at hl 0 rfl) ?_
  refine gf (k := 12) hx hb hts inX9 hown hK hP k_807 rfl (by decide) rfl 22 rfl (.int f9_size) rfl dX9_gathers_2 ?_
  refine f_icmp_ge hx hb dX9_gathers_5 46 (by decide) (q_nle (a := f9_size.toInt) (b := 0) rfl (by decide +kernel) (by omega)) ?_
  refine lv_aload_n hx hb dX9_gathers_8 rfl (lv_at hl 0 rfl) ?_
  refine gf (k := 2) hx hb hts inX9 hown hK hP k_797 rfl (by decide) rfl 22 rfl (.ref (ad 23)) rfl dX9_gathers_9 ?_
  refine lv_iload_n hx hb dX9_gathers_12 rfl (lv_at hl 1 rfl) ?_
  refine va_iald hx hb hK hP 23 0 rfl rfl (vin (by decide +kernel)) dX9_gathers_13 ?_
  refine lv_topi (fun z1 e_z1 => ?_)
  have k_z1 : z1.toInt = (ai 23 0).toInt := by rw [e_z1]; rfl
  have g_z1 : -10 ≤ z1.toInt ∧ z1.toInt ≤ 10 := by rw [e_z1]; exact IAM_at23 hI _
  refine lv_istore_n (lv' := [(2, .int z1), (0, .ref (ad 22)), (1, .int 0)]) hx hb dX9_gathers_14 rfl hl (by decide) rfl (fun ls_1 hl_1 => ?_)
  exact r036_X9_gathers_b15 C hp0  _ z1 f9_planMany ai _ _ _ (by omega) (by omega) (by omega) (by omega) (by omega) (by omega) (by omega) (by omega) (by omega) (by omega) (pw_00 (by omega) (by have q := pw21_pos (f9_size.toInt.toNat - (0 + 1)); omega)) (by omega) (by omega) (by omega) (by omega) (by omega) (j_fuel _) (by omega) hI hF hP hD hS (lv_sub hl_1 [1, 2, 0] rfl)
def Q_r037_X9_gather (dC : Nat → ClassId) (dI : Nat → Nat → Nat) (cI cJ cII cJJ : ClassId) (ad : Nat → Nat) (f9_size f9_equations f9_areSteps f9_foundMany f9_many f9_rank f9_freeMany : Int32) (ai0 : Nat → Nat → Int32) (al : Nat → Nat → Int64) : (Nat → Prop) → Array Value → State → Outcome → State → Prop := fun A => QV (fun t => ∃ (n_f9_arePlans n_f9_planMany : Int32), ∃ (n_ai : Nat → Nat → Int32), ((1 ≤ n_f9_arePlans.toInt ∧ n_f9_arePlans.toInt ≤ 1) ∧ (0 ≤ n_f9_planMany.toInt ∧ n_f9_planMany.toInt ≤ 194481) ∧ IAM n_ai ∧ FR [20, 21] ai0 n_ai) ∧ WO dC dI (TY cI cJ cII cJJ) (WM cI cJ cII cJJ ad f9_size f9_equations f9_areSteps f9_foundMany f9_many f9_rank f9_freeMany n_f9_arePlans n_f9_planMany n_ai al) A t) A
set_option maxRecDepth 100000 in
set_option maxHeartbeats 4000000 in
theorem r037_X9_gather (l : Launch) (dC : Nat → ClassId) (dI : Nat → Nat → Nat) (cI cJ cII cJJ : ClassId) (sz g : Nat) (ad : Nat → Nat) (f9_size f9_equations f9_areSteps f9_foundMany f9_many f9_rank f9_freeMany f9_arePlans f9_planMany : Int32) (ai : Nat → Nat → Int32) (al : Nat → Nat → Int64) (h_f9_size : (1 ≤ f9_size.toInt ∧ f9_size.toInt ≤ 4)) (h_f9_equations : (0 ≤ f9_equations.toInt ∧ f9_equations.toInt ≤ 3)) (h_f9_areSteps : (0 ≤ f9_areSteps.toInt ∧ f9_areSteps.toInt ≤ 1)) (h_f9_foundMany : (0 ≤ f9_foundMany.toInt ∧ f9_foundMany.toInt ≤ 99999)) (h_f9_many : (0 ≤ f9_many.toInt ∧ f9_many.toInt ≤ 6000)) (h_f9_rank : (0 ≤ f9_rank.toInt ∧ f9_rank.toInt ≤ 3)) (h_f9_freeMany : (0 ≤ f9_freeMany.toInt ∧ f9_freeMany.toInt ≤ 4)) (h_f9_arePlans : (0 ≤ f9_arePlans.toInt ∧ f9_arePlans.toInt ≤ 1)) (h_f9_planMany : (0 ≤ f9_planMany.toInt ∧ f9_planMany.toInt ≤ 194481)) (hI : IAM ai) : Met l yX9_gather (.code yX9_gather cX9_gather 1 none :: TT) ({ frames := 9, cells := 0, slots := 0, locals := 500 } : Room) (PcS dC dI (TY cI cJ cII cJJ) [.ref (ad 22)] (WM cI cJ cII cJJ ad f9_size f9_equations f9_areSteps f9_foundMany f9_many f9_rank f9_freeMany f9_arePlans f9_planMany ai al) sz 0 g) (Q_r037_X9_gather dC dI cI cJ cII cJJ ad f9_size f9_equations f9_areSteps f9_foundMany f9_many f9_rank f9_freeMany ai al (va_A (WM cI cJ cII cJJ ad f9_size f9_equations f9_areSteps f9_foundMany f9_many f9_rank f9_freeMany f9_arePlans f9_planMany ai al) sz)) 0 0 (va_A (WM cI cJ cII cJJ ad f9_size f9_equations f9_areSteps f9_foundMany f9_many f9_rank f9_freeMany f9_arePlans f9_planMany ai al) sz) := by
  refine SM.of (y := yX9_gather) (maxL := 1) (av := [.ref (ad 22)]) (Q_r037_X9_gather dC dI cI cJ cII cJJ ad f9_size f9_equations f9_areSteps f9_foundMany f9_many f9_rank f9_freeMany ai al) (by decide +kernel) (Nat.le_of_ble_eq_true rfl) (fun p e s m below meth c A ls hx hb hr hml hown hts hk hnm hA hK hP hD hS hX hl => ?_)
  have C : Cx p c s m meth (([.ref (ad 22)] : List Value).toArray) A dC dI (TY cI cJ cII cJJ) cX9_gather none 1 RX9 0 g := ⟨hx, hb, hr, hml, hown, hts, hk, hA, hK, hX⟩
  have hown : s.vm.findClass RX9 = some m.cls := hown
  have hl : lv_has ls 1 [(0, .ref (ad 22))] := hl
  obtain ⟨H, hH⟩ : ∃ q, q = s.heap := ⟨_, rfl⟩
  rw [← hH] at hP
  have hS : va_S A s.heap H [] := by rw [hH]; exact hS
  rw [← hH]
  have hF := FR_refl [20, 21] ai
  refine lv_aload_n hx hb dX9_gather_0 rfl (lv_at hl 0 rfl) ?_
  refine gf (k := 33) hx hb hts inX9 hown hK hP k_828 rfl (by decide) rfl 22 rfl (.int f9_arePlans) rfl dX9_gather_1 ?_
  refine lv_if_eq (tgt := 8) hx hb dX9_gather_4 (by decide) (fun c1 => ?_) (fun c1 => ?_)
  · have c1 := j_eq (a := f9_arePlans.toInt) (b := 0) rfl (by decide +kernel) c1
    refine lv_aload_n hx hb dX9_gather_8 rfl (lv_at hl 0 rfl) ?_
    refine lv_iconst (v := 1) hx hb dX9_gather_9 (by decide) ?_
    refine pf (k := 33) hx hb hts inX9 tyX9_ok nmX9 hown hK hP hD hS k_828 rfl (by decide) rfl rfl 22 rfl rfl rfl (Nat.le_of_ble_eq_true rfl) dX9_gather_10 (W' := (WM cI cJ cII cJJ ad f9_size f9_equations f9_areSteps f9_foundMany f9_many f9_rank f9_freeMany 1 f9_planMany ai al)) rfl (fun H_1 locs_1 hP_1 hD_1 hS_1 => ?_)
    refine lv_aload_n hx hb dX9_gather_13 rfl (lv_at hl 0 rfl) ?_
    refine lv_iconst (v := 0) hx hb dX9_gather_14 (by decide) ?_
    refine pf (k := 35) hx hb hts inX9 tyX9_ok nmX9 hown hK hP_1 hD_1 hS_1 k_830 rfl (by decide) rfl rfl 22 rfl rfl rfl (Nat.le_of_ble_eq_true rfl) dX9_gather_15 (W' := (WM cI cJ cII cJJ ad f9_size f9_equations f9_areSteps f9_foundMany f9_many f9_rank f9_freeMany 1 0 ai al)) rfl (fun H_2 locs_2 hP_2 hD_2 hS_2 => ?_)
    refine lv_aload_n hx hb dX9_gather_18 rfl (lv_at hl 0 rfl) ?_
    refine lv_iconst (v := 0) hx hb dX9_gather_19 (by decide) ?_
    have kc0 : (0 : Int32).toInt = 0 := by decide +kernel
    have kc1 : (1 : Int32).toInt = 1 := by decide +kernel
    have hM := r036_X9_gathers l dC dI cI cJ cII cJJ H_2.size 0 ad f9_size f9_equations f9_areSteps f9_foundMany f9_many f9_rank f9_freeMany 1 0 ai al (by omega) (by omega) (by omega) (by omega) (by omega) (by omega) (by omega) (by decide +kernel) (by decide +kernel) (by have q := pw21_le (m := f9_size.toInt.toNat) (by omega); have q3 := (by decide : (0 : Int32).toInt = 0); omega) hI
    refine k2V_v (q0 := 22) ⟨hx, hb, hml, hown, hts⟩ hK hP_2 hD_2 hS_2 hA hX cv_RX9_235 hM ⟨by decide +kernel, by decide +kernel⟩ rfl rfl (Or.inl rfl) (rest := []) rfl rfl rfl hl.1 rfl (Nat.le_of_ble_eq_true rfl) dX9_gather_20 ⟨Nat.le_of_ble_eq_true rfl, Nat.le_of_ble_eq_true rfl⟩ (fun t H1 locs_3 ht hB hS_3 hFc => ?_)
    obtain ⟨v3, ai4, ⟨gpr2_0, gpr2_1, gpr2_2, gpr2_3, gpr2_4, gpr2_5, hI_4, hFr_r2⟩, hP_4, -, hD_4⟩ := hB
    have hF_5 := FR_tr hF hFr_r2 (by decide)
    rw [ht] at hP_4
    have hD_6 := hD_4.weaken (B := A) (fun k q _ h9 => hFc q.1 h9)
    clear ht
    generalize H1 = H_7 at hP_4 hS_3 ⊢
    exact r2_v hx hb hr hk hS_3 dX9_gather_23 (fun t ht hW => ⟨1, v3, ai4, ⟨(by first | omega | decide | exact Or.inl (by decide) | exact Or.inr (by decide) | exact Or.inr (by omega)), (by first | omega | decide | exact Or.inl (by decide) | exact Or.inr (by decide) | exact Or.inr (by omega)), hI_4, hF_5⟩, by rw [ht]; exact hP_4, va_K.moved hW.alike hK, hD_6⟩)
  · have c1 := j_ne (a := f9_arePlans.toInt) (b := 0) rfl (by decide +kernel) c1
    exact r2_v hx hb hr hk hS dX9_gather_7 (fun t ht hW => ⟨f9_arePlans, f9_planMany, ai, ⟨(by first | omega | decide | exact Or.inl (by decide) | exact Or.inr (by decide) | exact Or.inr (by omega)), (by first | omega | decide | exact Or.inl (by decide) | exact Or.inr (by decide) | exact Or.inr (by omega)), hI, hF⟩, by rw [ht]; exact hP, va_K.moved hW.alike hK, hD⟩)
def Q_r038_X9_cost (dC : Nat → ClassId) (dI : Nat → Nat → Nat) (cI cJ cII cJJ : ClassId) (ad : Nat → Nat) (f9_size f9_equations f9_areSteps f9_foundMany f9_many f9_rank f9_freeMany f9_arePlans f9_planMany : Int32) (ai : Nat → Nat → Int32) (al : Nat → Nat → Int64) : (Nat → Prop) → Array Value → State → Outcome → State → Prop := fun A => QL (fun r t => (r = csF ai (ai 27) f9_size.toInt.toNat) ∧ WO dC dI (TY cI cJ cII cJJ) (WM cI cJ cII cJJ ad f9_size f9_equations f9_areSteps f9_foundMany f9_many f9_rank f9_freeMany f9_arePlans f9_planMany ai al) A t) A
set_option maxRecDepth 100000 in
set_option maxHeartbeats 4000000 in
theorem r038_X9_cost (l : Launch) (dC : Nat → ClassId) (dI : Nat → Nat → Nat) (cI cJ cII cJJ : ClassId) (sz g : Nat) (ad : Nat → Nat) (f9_size f9_equations f9_areSteps f9_foundMany f9_many f9_rank f9_freeMany f9_arePlans f9_planMany : Int32) (ai : Nat → Nat → Int32) (al : Nat → Nat → Int64) (h_f9_size : (1 ≤ f9_size.toInt ∧ f9_size.toInt ≤ 4)) (h_f9_equations : (0 ≤ f9_equations.toInt ∧ f9_equations.toInt ≤ 3)) (h_f9_areSteps : (0 ≤ f9_areSteps.toInt ∧ f9_areSteps.toInt ≤ 1)) (h_f9_foundMany : (0 ≤ f9_foundMany.toInt ∧ f9_foundMany.toInt ≤ 99999)) (h_f9_many : (0 ≤ f9_many.toInt ∧ f9_many.toInt ≤ 6000)) (h_f9_rank : (0 ≤ f9_rank.toInt ∧ f9_rank.toInt ≤ 3)) (h_f9_freeMany : (0 ≤ f9_freeMany.toInt ∧ f9_freeMany.toInt ≤ 4)) (h_f9_arePlans : (0 ≤ f9_arePlans.toInt ∧ f9_arePlans.toInt ≤ 1)) (h_f9_planMany : (0 ≤ f9_planMany.toInt ∧ f9_planMany.toInt ≤ 194481)) (hI : IAM ai) : Met l yX9_cost (.code yX9_cost cX9_cost 1 (some .long) :: TT) ({ frames := 3, cells := 0, slots := 0, locals := 140 } : Room) (PcS dC dI (TY cI cJ cII cJJ) [.ref (ad 22)] (WM cI cJ cII cJJ ad f9_size f9_equations f9_areSteps f9_foundMany f9_many f9_rank f9_freeMany f9_arePlans f9_planMany ai al) sz 0 g) (Q_r038_X9_cost dC dI cI cJ cII cJJ ad f9_size f9_equations f9_areSteps f9_foundMany f9_many f9_rank f9_freeMany f9_arePlans f9_planMany ai al (va_A (WM cI cJ cII cJJ ad f9_size f9_equations f9_areSteps f9_foundMany f9_many f9_rank f9_freeMany f9_arePlans f9_planMany ai al) sz)) 0 0 (va_A (WM cI cJ cII cJJ ad f9_size f9_equations f9_areSteps f9_foundMany f9_many f9_rank f9_freeMany f9_arePlans f9_planMany ai al) sz) := by
  refine SM.of (y := yX9_cost) (maxL := 1) (av := [.ref (ad 22)]) (Q_r038_X9_cost dC dI cI cJ cII cJJ ad f9_size f9_equations f9_areSteps f9_foundMany f9_many f9_rank f9_freeMany f9_arePlans f9_planMany ai al) (by decide +kernel) (Nat.le_of_ble_eq_true rfl) (fun p e s m below meth c A ls hx hb hr hml hown hts hk hnm hA hK hP hD hS hX hl => ?_)
  have C : Cx p c s m meth (([.ref (ad 22)] : List Value).toArray) A dC dI (TY cI cJ cII cJJ) cX9_cost (some .long) 1 RX9 0 g := ⟨hx, hb, hr, hml, hown, hts, hk, hA, hK, hX⟩
  have hown : s.vm.findClass RX9 = some m.cls := hown
  have hl : lv_has ls 1 [(0, .ref (ad 22))] := hl
  obtain ⟨H, hH⟩ : ∃ q, q = s.heap := ⟨_, rfl⟩
  rw [← hH] at hP
  have hS : va_S A s.heap H [] := by rw [hH]; exact hS
  rw [← hH]
  refine lv_aload_n hx hb dX9_cost_0 rfl (lv_at hl 0 rfl) ?_
  refine lv_aload_n hx hb dX9_cost_1 rfl (lv_at hl 0 rfl) ?_
  refine gf (k := 6) hx hb hts inX9 hown hK hP k_801 rfl (by decide) rfl 22 rfl (.ref (ad 27)) rfl dX9_cost_2 ?_
  refine lv_iconst (v := 0) hx hb dX9_cost_5 (by decide) ?_
  have kc0 : (0 : Int32).toInt = 0 := by decide +kernel
  have hM := r023_X9_costOf l dC dI cI cJ cII cJJ H.size 0 ad f9_size f9_equations f9_areSteps f9_foundMany f9_many f9_rank f9_freeMany f9_arePlans f9_planMany ai al (by omega) (by omega) (by omega) (by omega) (by omega) (by omega) (by omega) (by omega) (by omega) hI
  refine k2V_l (q0 := 22) ⟨hx, hb, hml, hown, hts⟩ hK hP hD hS hA hX cv_RX9_220 hM ⟨by decide +kernel, by decide +kernel⟩ rfl rfl (Or.inl rfl) (rest := []) rfl rfl rfl hl.1 rfl (Nat.le_of_ble_eq_true rfl) dX9_cost_6 ⟨Nat.le_of_ble_eq_true rfl, Nat.le_of_ble_eq_true rfl⟩ (fun r1 t H1 locs_1 ht hB hS_1 hFc => ?_)
  obtain ⟨gpr1_0, hP_2, -, hD_2⟩ := hB
  rw [ht] at hP_2
  have hD_3 := hD_2.weaken (B := A) (fun k q _ h9 => hFc q.1 h9)
  clear ht
  generalize H1 = H_4 at hP_2 hS_1 ⊢
  exact r2_l hx hb hr hk hS_1 dX9_cost_9 (fun t ht hW => ⟨gpr1_0, by rw [ht]; exact hP_2, va_K.moved hW.alike hK, hD_3⟩)
def Q_r039_X9_costOf (dC : Nat → ClassId) (dI : Nat → Nat → Nat) (cI cJ cII cJJ : ClassId) (ad : Nat → Nat) (f9_size f9_equations f9_areSteps f9_foundMany f9_many f9_rank f9_freeMany f9_arePlans f9_planMany : Int32) (ai : Nat → Nat → Int32) (al : Nat → Nat → Int64) : (Nat → Prop) → Array Value → State → Outcome → State → Prop := fun A => QL (fun r t => (r = csF ai (ai 20) f9_size.toInt.toNat) ∧ WO dC dI (TY cI cJ cII cJJ) (WM cI cJ cII cJJ ad f9_size f9_equations f9_areSteps f9_foundMany f9_many f9_rank f9_freeMany f9_arePlans f9_planMany ai al) A t) A
set_option maxRecDepth 100000 in
set_option maxHeartbeats 4000000 in
theorem r039_X9_costOf_b5 {p : Program} {l : Launch} {e : Env} {s : State} {m : MethodId} {args : Array Value} {below : List Frame} {meth : Method} {c : Code} {A : Nat → Prop} {dC : Nat → ClassId} {dI : Nat → Nat → Nat} {cI cJ cII cJJ : ClassId} {ad : Nat → Nat} {g : Nat} {f9_size f9_equations f9_areSteps f9_foundMany f9_many f9_rank f9_freeMany f9_arePlans f9_planMany : Int32} {ai : Nat → Nat → Int32} {al : Nat → Nat → Int64} (C : Cx p c s m meth args A dC dI (TY cI cJ cII cJJ) cX9_costOf (some .long) 6 RX9 0 g) : ∀ (n : Nat), ∀ (L5 : Int32) (J3 : Int64) (H : Heap) (locs : List Loc) (ls : Array Slot), (0 ≤ L5.toInt ∧ L5.toInt ≤ 4) → (1 ≤ f9_size.toInt ∧ f9_size.toInt ≤ 4) → (0 ≤ f9_equations.toInt ∧ f9_equations.toInt ≤ 3) → (0 ≤ f9_areSteps.toInt ∧ f9_areSteps.toInt ≤ 1) → (0 ≤ f9_foundMany.toInt ∧ f9_foundMany.toInt ≤ 99999) → (0 ≤ f9_many.toInt ∧ f9_many.toInt ≤ 6000) → (0 ≤ f9_rank.toInt ∧ f9_rank.toInt ≤ 3) → (0 ≤ f9_freeMany.toInt ∧ f9_freeMany.toInt ≤ 4) → (0 ≤ f9_arePlans.toInt ∧ f9_arePlans.toInt ≤ 1) → (0 ≤ f9_planMany.toInt ∧ f9_planMany.toInt ≤ 194481) → J3 = csF ai (ai 20) L5.toInt.toNat → L5.toInt ≤ f9_size.toInt → f9_size.toInt - L5.toInt < (n : Int) → (0 : Int) < (n : Int) → IAM ai → va_P (dC, dI) vwCl (WM cI cJ cII cJJ ad f9_size f9_equations f9_areSteps f9_foundMany f9_many f9_rank f9_freeMany f9_arePlans f9_planMany ai al) H → va_D A (WM cI cJ cII cJJ ad f9_size f9_equations f9_areSteps f9_foundMany f9_many f9_rank f9_freeMany f9_arePlans f9_planMany ai al) → va_S A s.heap H locs → lv_has ls 6 [(0, .ref (ad 22)), (1, .ref (ad 20)), (2, .int 0), (3, .long J3), (5, .int L5)] → W p l e ({ frames := 2, cells := 0, slots := 0, locals := 80 } : Room) s m args below meth c H locs 0 0 (MQ below (Q_r039_X9_costOf dC dI cI cJ cII cJJ ad f9_size f9_equations f9_areSteps f9_foundMany f9_many f9_rank f9_freeMany f9_arePlans f9_planMany ai al A) args s 0 0 A) (F0 m 5 ls []) := by
  obtain ⟨hx, hb, hr, hml, hown, hts, hk, hA, hK, hX⟩ := id C
  intro n
  induction n with
  | zero =>
    intro L5 J3 H locs ls h0 h1 h2 h3 h4 h5 h6 h7 h8 h9 h10 h11 h12 h13 hI hP hD hS hl
    exact absurd h13 (by omega)
  | succ n ih =>
    intro L5 J3 H locs ls h0 h1 h2 h3 h4 h5 h6 h7 h8 h9 h10 h11 h12 h13 hI hP hD hS hl
    refine lv_iload hx hb dX9_costOf_5 (lv_at hl 4 rfl) ?_
    refine lv_aload_n hx hb dX9_costOf_7 rfl (lv_at hl 0 rfl) ?_
    refine gf (k := 12) hx hb hts inX9 hown hK hP k_807 rfl (by decide) rfl 22 rfl (.int f9_size) rfl dX9_costOf_8 ?_
    refine lv_icmp_ge (tgt := 64) hx hb dX9_costOf_11 (by decide) (fun c1 => ?_) (fun c1 => ?_)
    · have c1 := j_le (a := f9_size.toInt) (b := L5.toInt) rfl rfl c1
      refine lv_lload_n hx hb dX9_costOf_64 rfl (lv_at hl 3 rfl) ?_
      exact r2_l hx hb hr hk hS dX9_costOf_65 (fun t ht hW => ⟨(by rw [show f9_size.toInt.toNat = L5.toInt.toNat by omega]; exact h10), by rw [ht]; exact hP, va_K.moved hW.alike hK, hD⟩)
    · have c1 := j_nle (a := f9_size.toInt) (b := L5.toInt) rfl rfl c1
      refine lv_lload_n hx hb dX9_costOf_14 rfl (lv_at hl 3 rfl) ?_
      refine lv_aload_n hx hb dX9_costOf_15 rfl (lv_at hl 0 rfl) ?_
      refine gf (k := 4) hx hb hts inX9 hown hK hP k_799 rfl (by decide) rfl 22 rfl (.ref (ad 25)) rfl dX9_costOf_16 ?_
      refine lv_iload hx hb dX9_costOf_19 (lv_at hl 4 rfl) ?_
      refine va_iald hx hb hK hP 25 0 rfl rfl (j_in (a := L5.toInt) rfl (by omega) (by omega)) dX9_costOf_21 ?_
      refine lv_topi (fun z2 e_z2 => ?_)
      refine lv_i2l hx hb dX9_costOf_22 rfl ?_
      refine lv_topl (fun yy3 e_yy3 => ?_)
      refine lv_aload_n hx hb dX9_costOf_23 rfl (lv_at hl 1 rfl) ?_
      refine lv_iload_n hx hb dX9_costOf_24 rfl (lv_at hl 2 rfl) ?_
      refine lv_iload hx hb dX9_costOf_25 (lv_at hl 4 rfl) ?_
      refine v_iadd hx hb dX9_costOf_27 _ rfl ?_
      refine lv_topi (fun z4 e_z4 => ?_)
      have g_z4 : z4.toInt = 0 + L5.toInt := by rw [e_z4]; exact n_add (a := 0) (b := L5.toInt) (by decide +kernel) rfl (by omega) (by omega)
      refine va_iald hx hb hK hP 20 0 rfl rfl (j_in (a := z4.toInt) rfl (by omega) (by omega)) dX9_costOf_28 ?_
      refine lv_topi (fun z5 e_z5 => ?_)
      refine lv_i2l hx hb dX9_costOf_29 rfl ?_
      refine lv_topl (fun yy6 e_yy6 => ?_)
      refine v_lmul hx hb dX9_costOf_30 _ rfl ?_
      refine lv_topl (fun yy7 e_yy7 => ?_)
      refine lv_aload_n hx hb dX9_costOf_31 rfl (lv_at hl 0 rfl) ?_
      refine gf (k := 5) hx hb hts inX9 hown hK hP k_800 rfl (by decide) rfl 22 rfl (.ref (ad 26)) rfl dX9_costOf_32 ?_
      refine lv_iload hx hb dX9_costOf_35 (lv_at hl 4 rfl) ?_
      refine va_iald hx hb hK hP 26 0 rfl rfl (j_in (a := L5.toInt) rfl (by omega) (by omega)) dX9_costOf_37 ?_
      refine lv_topi (fun z8 e_z8 => ?_)
      refine lv_i2l hx hb dX9_costOf_38 rfl ?_
      refine lv_topl (fun yy9 e_yy9 => ?_)
      refine lv_aload_n hx hb dX9_costOf_39 rfl (lv_at hl 1 rfl) ?_
      refine lv_iload_n hx hb dX9_costOf_40 rfl (lv_at hl 2 rfl) ?_
      refine lv_iload hx hb dX9_costOf_41 (lv_at hl 4 rfl) ?_
      refine v_iadd hx hb dX9_costOf_43 _ rfl ?_
      refine lv_topi (fun z10 e_z10 => ?_)
      have g_z10 : z10.toInt = 0 + L5.toInt := by rw [e_z10]; exact n_add (a := 0) (b := L5.toInt) (by decide +kernel) rfl (by omega) (by omega)
      refine va_iald hx hb hK hP 20 0 rfl rfl (j_in (a := z10.toInt) rfl (by omega) (by omega)) dX9_costOf_44 ?_
      refine lv_topi (fun z11 e_z11 => ?_)
      refine lv_i2l hx hb dX9_costOf_45 rfl ?_
      refine lv_topl (fun yy12 e_yy12 => ?_)
      refine v_lmul hx hb dX9_costOf_46 _ rfl ?_
      refine lv_topl (fun yy13 e_yy13 => ?_)
      refine lv_aload_n hx hb dX9_costOf_47 rfl (lv_at hl 1 rfl) ?_
      refine lv_iload_n hx hb dX9_costOf_48 rfl (lv_at hl 2 rfl) ?_
      refine lv_iload hx hb dX9_costOf_49 (lv_at hl 4 rfl) ?_
      refine v_iadd hx hb dX9_costOf_51 _ rfl ?_
      refine lv_topi (fun z14 e_z14 => ?_)
      have g_z14 : z14.toInt = 0 + L5.toInt := by rw [e_z14]; exact n_add (a := 0) (b := L5.toInt) (by decide +kernel) rfl (by omega) (by omega)
      refine va_iald hx hb hK hP 20 0 rfl rfl (j_in (a := z14.toInt) rfl (by omega) (by omega)) dX9_costOf_52 ?_
      refine lv_topi (fun z15 e_z15 => ?_)
      refine lv_i2l hx hb dX9_costOf_53 rfl ?_
      refine lv_topl (fun yy16 e_yy16 => ?_)
      refine v_lmul hx hb dX9_costOf_54 _ rfl ?_
      refine lv_topl (fun yy17 e_yy17 => ?_)
      refine v_ladd hx hb dX9_costOf_55 _ rfl ?_
      refine lv_topl (fun yy18 e_yy18 => ?_)
      refine v_ladd hx hb dX9_costOf_56 _ rfl ?_
      refine lv_topl (fun yy19 e_yy19 => ?_)
      refine lv_lstore_n (lv' := [(3, .long yy19), (0, .ref (ad 22)), (1, .ref (ad 20)), (2, .int 0), (5, .int L5)]) hx hb dX9_costOf_57 rfl hl (by decide) rfl (fun ls_1 hl_1 => ?_)
      obtain ⟨z20, e_z20⟩ : ∃ q : Int32, q = L5 + Int32.ofInt 1 := ⟨_, rfl⟩
      have g_z20 : z20.toInt = L5.toInt + 1 := by rw [e_z20]; exact n_add (a := L5.toInt) (b := 1) rfl (by decide +kernel) (by omega) (by omega)
      refine lv_iinc (v := z20) (lv' := [(5, .int z20), (3, .long yy19), (0, .ref (ad 22)), (1, .ref (ad 20)), (2, .int 0)]) hx hb dX9_costOf_58 hl_1 (k := 4) rfl e_z20.symm (by decide) rfl (fun ls_2 hl_2 => ?_)
      refine lv_goto (tgt := 5) hx hb dX9_costOf_61 (by decide) ?_
      exact ih z20 yy19 _ _ _ (by omega) (by omega) (by omega) (by omega) (by omega) (by omega) (by omega) (by omega) (by omega) (by omega) (co_stp (z := z20) h10 (by omega) (by omega) e_z2 (show z5 = ai 20 L5.toInt.toNat by rw [e_z5]; exact congrArg (ai 20) (show z4.toInt.toNat = L5.toInt.toNat by omega)) (show z11 = ai 20 L5.toInt.toNat by rw [e_z11]; exact congrArg (ai 20) (show z10.toInt.toNat = L5.toInt.toNat by omega)) (show z15 = ai 20 L5.toInt.toNat by rw [e_z15]; exact congrArg (ai 20) (show z14.toInt.toNat = L5.toInt.toNat by omega)) e_z8 (by rw [e_yy19, e_yy18, e_yy17, e_yy16, e_yy13, e_yy12, e_yy9, e_yy7, e_yy6, e_yy3])) (by omega) (by omega) (by omega) hI hP hD hS (lv_sub hl_2 [2, 3, 4, 1, 0] rfl)
set_option maxRecDepth 100000 in
set_option maxHeartbeats 4000000 in
theorem r039_X9_costOf (l : Launch) (dC : Nat → ClassId) (dI : Nat → Nat → Nat) (cI cJ cII cJJ : ClassId) (sz g : Nat) (ad : Nat → Nat) (f9_size f9_equations f9_areSteps f9_foundMany f9_many f9_rank f9_freeMany f9_arePlans f9_planMany : Int32) (ai : Nat → Nat → Int32) (al : Nat → Nat → Int64) (h_f9_size : (1 ≤ f9_size.toInt ∧ f9_size.toInt ≤ 4)) (h_f9_equations : (0 ≤ f9_equations.toInt ∧ f9_equations.toInt ≤ 3)) (h_f9_areSteps : (0 ≤ f9_areSteps.toInt ∧ f9_areSteps.toInt ≤ 1)) (h_f9_foundMany : (0 ≤ f9_foundMany.toInt ∧ f9_foundMany.toInt ≤ 99999)) (h_f9_many : (0 ≤ f9_many.toInt ∧ f9_many.toInt ≤ 6000)) (h_f9_rank : (0 ≤ f9_rank.toInt ∧ f9_rank.toInt ≤ 3)) (h_f9_freeMany : (0 ≤ f9_freeMany.toInt ∧ f9_freeMany.toInt ≤ 4)) (h_f9_arePlans : (0 ≤ f9_arePlans.toInt ∧ f9_arePlans.toInt ≤ 1)) (h_f9_planMany : (0 ≤ f9_planMany.toInt ∧ f9_planMany.toInt ≤ 194481)) (hI : IAM ai) : Met l yX9_costOf (.code yX9_costOf cX9_costOf 6 (some .long) :: TT) ({ frames := 2, cells := 0, slots := 0, locals := 80 } : Room) (PcS dC dI (TY cI cJ cII cJJ) [.ref (ad 22), .ref (ad 20), .int 0] (WM cI cJ cII cJJ ad f9_size f9_equations f9_areSteps f9_foundMany f9_many f9_rank f9_freeMany f9_arePlans f9_planMany ai al) sz 0 g) (Q_r039_X9_costOf dC dI cI cJ cII cJJ ad f9_size f9_equations f9_areSteps f9_foundMany f9_many f9_rank f9_freeMany f9_arePlans f9_planMany ai al (va_A (WM cI cJ cII cJJ ad f9_size f9_equations f9_areSteps f9_foundMany f9_many f9_rank f9_freeMany f9_arePlans f9_planMany ai al) sz)) 0 0 (va_A (WM cI cJ cII cJJ ad f9_size f9_equations f9_areSteps f9_foundMany f9_many f9_rank f9_freeMany f9_arePlans f9_planMany ai al) sz) := by
  refine SM.of (y := yX9_costOf) (maxL := 6) (av := [.ref (ad 22), .ref (ad 20), .int 0]) (Q_r039_X9_costOf dC dI cI cJ cII cJJ ad f9_size f9_equations f9_areSteps f9_foundMany f9_many f9_rank f9_freeMany f9_arePlans f9_planMany ai al) (by decide +kernel) (Nat.le_of_ble_eq_true rfl) (fun p e s m below meth c A ls hx hb hr hml hown hts hk hnm hA hK hP hD hS hX hl => ?_)
  have C : Cx p c s m meth (([.ref (ad 22), .ref (ad 20), .int 0] : List Value).toArray) A dC dI (TY cI cJ cII cJJ) cX9_costOf (some .long) 6 RX9 0 g := ⟨hx, hb, hr, hml, hown, hts, hk, hA, hK, hX⟩
  have hown : s.vm.findClass RX9 = some m.cls := hown
  have hl : lv_has ls 6 [(0, .ref (ad 22)), (1, .ref (ad 20)), (2, .int 0)] := hl
  obtain ⟨H, hH⟩ : ∃ q, q = s.heap := ⟨_, rfl⟩
  rw [← hH] at hP
  have hS : va_S A s.heap H [] := by rw [hH]; exact hS
  rw [← hH]
  refine lv_lconst (v := 0) hx hb dX9_costOf_0 (by decide) ?_
  refine lv_lstore_n (lv' := [(3, .long 0), (0, .ref (ad 22)), (1, .ref (ad 20)), (2, .int 0)]) hx hb dX9_costOf_1 rfl hl (by decide) rfl (fun ls_1 hl_1 => ?_)
  refine lv_iconst (v := 0) hx hb dX9_costOf_2 (by decide) ?_
  refine lv_istore (lv' := [(5, .int 0), (3, .long 0), (0, .ref (ad 22)), (1, .ref (ad 20)), (2, .int 0)]) hx hb dX9_costOf_3 hl_1 (by decide) rfl (fun ls_2 hl_2 => ?_)
  exact r039_X9_costOf_b5 C  _ 0 0 _ _ _ (by first | omega | decide | (have ka0 := (by decide +kernel : (0 : Int32).toInt = 0); omega)) (by first | omega | decide | (have ka0 := (by decide +kernel : (0 : Int32).toInt = 0); omega)) (by first | omega | decide | (have ka0 := (by decide +kernel : (0 : Int32).toInt = 0); omega)) (by first | omega | decide | (have ka0 := (by decide +kernel : (0 : Int32).toInt = 0); omega)) (by first | omega | decide | (have ka0 := (by decide +kernel : (0 : Int32).toInt = 0); omega)) (by first | omega | decide | (have ka0 := (by decide +kernel : (0 : Int32).toInt = 0); omega)) (by first | omega | decide | (have ka0 := (by decide +kernel : (0 : Int32).toInt = 0); omega)) (by first | omega | decide | (have ka0 := (by decide +kernel : (0 : Int32).toInt = 0); omega)) (by first | omega | decide | (have ka0 := (by decide +kernel : (0 : Int32).toInt = 0); omega)) (by first | omega | decide | (have ka0 := (by decide +kernel : (0 : Int32).toInt = 0); omega)) rfl (by have q3 := (by decide : (0 : Int32).toInt = 0); omega) (j_fuel _) (by omega) hI hP hD hS (lv_sub hl_2 [2, 3, 4, 1, 0] rfl)
def Q_r040_X9_betters (dC : Nat → ClassId) (dI : Nat → Nat → Nat) (cI cJ cII cJJ : ClassId) (ad : Nat → Nat) (f9_size f9_equations f9_arePlans f9_planMany : Int32) (ai0 : Nat → Nat → Int32) (al0 : Nat → Nat → Int64) (o_f9_areSteps : Int32) (o_f9_many : Int32) : (Nat → Prop) → Array Value → State → Outcome → State → Prop := fun A => QI (fun r t => ∃ (n_f9_areSteps n_f9_foundMany n_f9_many n_f9_rank n_f9_freeMany : Int32), ∃ (n_ai : Nat → Nat → Int32), ∃ (n_al : Nat → Nat → Int64), ((-99999 ≤ r.toInt ∧ r.toInt ≤ 5999) ∧ (1 ≤ n_f9_areSteps.toInt ∧ n_f9_areSteps.toInt ≤ 1) ∧ (0 ≤ n_f9_foundMany.toInt ∧ n_f9_foundMany.toInt ≤ 99999) ∧ (0 ≤ n_f9_many.toInt ∧ n_f9_many.toInt ≤ 6000) ∧ (0 ≤ n_f9_rank.toInt ∧ n_f9_rank.toInt ≤ 3) ∧ (0 ≤ n_f9_freeMany.toInt ∧ n_f9_freeMany.toInt ≤ 4) ∧ (n_f9_areSteps.toInt = 0 ∨ CIa n_ai f9_size n_f9_many.toInt) ∧ (r.toInt = -99999 ∨ (csF n_ai (n_ai 27) f9_size.toInt.toNat).toInt < (csF ai0 (ai0 27) f9_size.toInt.toNat).toInt) ∧ IAM n_ai ∧ FR [7, 8, 9, 10, 11, 12, 13, 14, 15, 16, 20, 27] ai0 n_ai ∧ FL [17, 18] al0 n_al) ∧ WO dC dI (TY cI cJ cII cJJ) (WM cI cJ cII cJJ ad f9_size f9_equations n_f9_areSteps n_f9_foundMany n_f9_many n_f9_rank n_f9_freeMany f9_arePlans f9_planMany n_ai n_al) A t) A
set_option maxRecDepth 100000 in
set_option maxHeartbeats 4000000 in
theorem r040_X9_betters_b149 {p : Program} {l : Launch} {e : Env} {s : State} {m : MethodId} {args : Array Value} {below : List Frame} {meth : Method} {c : Code} {A : Nat → Prop} {dC : Nat → ClassId} {dI : Nat → Nat → Nat} {cI cJ cII cJJ : ClassId} {ad : Nat → Nat} {g : Nat} {f9_size f9_equations f9_arePlans f9_planMany : Int32} {ai0 : Nat → Nat → Int32} {al0 : Nat → Nat → Int64} {o_f9_areSteps : Int32} {o_f9_many : Int32} (C : Cx p c s m meth args A dC dI (TY cI cJ cII cJJ) cX9_betters (some .int) 8 RX9 0 g) (hp0 : (o_f9_areSteps.toInt = 0 ∨ CIa ai0 f9_size o_f9_many.toInt)) : ∀ (n : Nat), ∀ (L1 L2 L5 f9_areSteps f9_foundMany f9_many f9_rank f9_freeMany : Int32) (J3 : Int64) (ai : Nat → Nat → Int32) (al : Nat → Nat → Int64) (H : Heap) (locs : List Loc) (ls : Array Slot), (0 ≤ L1.toInt ∧ L1.toInt ≤ 5999) → (0 ≤ L2.toInt ∧ L2.toInt ≤ 20) → (0 ≤ L5.toInt ∧ L5.toInt ≤ 4) → (1 ≤ f9_size.toInt ∧ f9_size.toInt ≤ 4) → (0 ≤ f9_equations.toInt ∧ f9_equations.toInt ≤ 3) → (1 ≤ f9_areSteps.toInt ∧ f9_areSteps.toInt ≤ 1) → (0 ≤ f9_foundMany.toInt ∧ f9_foundMany.toInt ≤ 99999) → (0 ≤ f9_many.toInt ∧ f9_many.toInt ≤ 6000) → (0 ≤ f9_rank.toInt ∧ f9_rank.toInt ≤ 3) → (0 ≤ f9_freeMany.toInt ∧ f9_freeMany.toInt ≤ 4) → (0 ≤ f9_arePlans.toInt ∧ f9_arePlans.toInt ≤ 1) → (0 ≤ f9_planMany.toInt ∧ f9_planMany.toInt ≤ 194481) → (f9_areSteps.toInt = 0 ∨ CIa ai f9_size f9_many.toInt) → J3.toInt < (csF ai0 (ai0 27) f9_size.toInt.toNat).toInt → J3 = csF ai (hvv ai0 ai L1.toInt.toNat L2) f9_size.toInt.toNat → (∀ u : Nat, (u : Int) < L5.toInt → ai 27 u = hvv ai0 ai L1.toInt.toNat L2 u) → (∀ u : Nat, L5.toInt ≤ (u : Int) → ai 27 u = ai0 27 u) → f9_size.toInt - L5.toInt < (n : Int) → (0 : Int) < (n : Int) → IAM ai → FR [7, 8, 9, 10, 11, 12, 13, 14, 15, 16, 20, 27] ai0 ai → FL [17, 18] al0 al → va_P (dC, dI) vwCl (WM cI cJ cII cJJ ad f9_size f9_equations f9_areSteps f9_foundMany f9_many f9_rank f9_freeMany f9_arePlans f9_planMany ai al) H → va_D A (WM cI cJ cII cJJ ad f9_size f9_equations f9_areSteps f9_foundMany f9_many f9_rank f9_freeMany f9_arePlans f9_planMany ai al) → va_S A s.heap H locs → lv_has ls 8 [(0, .ref (ad 22)), (1, .int L1), (2, .int L2), (3, .long J3), (5, .int L5)] → W p l e ({ frames := 11, cells := 0, slots := 0, locals := 620 } : Room) s m args below meth c H locs 0 0 (MQ below (Q_r040_X9_betters dC dI cI cJ cII cJJ ad f9_size f9_equations f9_arePlans f9_planMany ai0 al0 o_f9_areSteps o_f9_many A) args s 0 0 A) (F0 m 149 ls []) := by
  obtain ⟨hx, hb, hr, hml, hown, hts, hk, hA, hK, hX⟩ := id C
  intro n
  induction n with
  | zero =>
    intro L1 L2 L5 f9_areSteps f9_foundMany f9_many f9_rank f9_freeMany J3 ai al H locs ls h0 h1 h2 h3 h4 h5 h6 h7 h8 h9 h10 h11 h12 h13 h14 h15 h16 h17 h18 hI hF hG hP hD hS hl
    exact absurd h18 (by omega)
  | succ n ih =>
    intro L1 L2 L5 f9_areSteps f9_foundMany f9_many f9_rank f9_freeMany J3 ai al H locs ls h0 h1 h2 h3 h4 h5 h6 h7 h8 h9 h10 h11 h12 h13 h14 h15 h16 h17 h18 hI hF hG hP hD hS hl
    refine lv_iload hx hb dX9_betters_149 (lv_at hl 4 rfl) ?_
    refine lv_aload_n hx hb dX9_betters_151 rfl (lv_at hl 0 rfl) ?_
    refine gf (k := 12) hx hb hts inX9 hown hK hP k_807 rfl (by decide) rfl 22 rfl (.int f9_size) rfl dX9_betters_152 ?_
    refine lv_icmp_ge (tgt := 183) hx hb dX9_betters_155 (by decide) (fun c1 => ?_) (fun c1 => ?_)
    · have c1 := j_le (a := f9_size.toInt) (b := L5.toInt) rfl rfl c1
      refine lv_iload_n hx hb dX9_betters_183 rfl (lv_at hl 1 rfl) ?_
      exact r2_i hx hb hr hk hS dX9_betters_184 (fun t ht hW => ⟨f9_areSteps, f9_foundMany, f9_many, f9_rank, f9_freeMany, ai, al, ⟨(by first | omega | decide | exact Or.inl (by decide) | exact Or.inr (by decide) | exact Or.inr (by omega)), (by first | omega | decide | exact Or.inl (by decide) | exact Or.inr (by decide) | exact Or.inr (by omega)), (by first | omega | decide | exact Or.inl (by decide) | exact Or.inr (by decide) | exact Or.inr (by omega)), (by first | omega | decide | exact Or.inl (by decide) | exact Or.inr (by decide) | exact Or.inr (by omega)), (by first | omega | decide | exact Or.inl (by decide) | exact Or.inr (by decide) | exact Or.inr (by omega)), (by first | omega | decide | exact Or.inl (by decide) | exact Or.inr (by decide) | exact Or.inr (by omega)), (by first | exact h12 | exact Or.inl (by omega) | exact Or.inl (by decide +kernel)), (Or.inr (by rw [csF_congr (b := ai) (y := hvv ai0 ai L1.toInt.toNat L2) rfl rfl _ (fun u hu => h15 u (by omega)), ← h14]; exact h13)), hI, hF, hG⟩, by rw [ht]; exact hP, va_K.moved hW.alike hK, hD⟩)
    · have c1 := j_nle (a := f9_size.toInt) (b := L5.toInt) rfl rfl c1
      refine lv_aload_n hx hb dX9_betters_158 rfl (lv_at hl 0 rfl) ?_
      refine gf (k := 6) hx hb hts inX9 hown hK hP k_801 rfl (by decide) rfl 22 rfl (.ref (ad 27)) rfl dX9_betters_159 ?_
      refine lv_iload hx hb dX9_betters_162 (lv_at hl 4 rfl) ?_
      refine lv_dup2_11 hx hb dX9_betters_164 rfl rfl ?_
      refine va_iald hx hb hK hP 27 0 rfl rfl (j_in (a := L5.toInt) rfl (by omega) (by omega)) dX9_betters_165 ?_
      refine lv_topi (fun z2 e_z2 => ?_)
      refine lv_iload_n hx hb dX9_betters_166 rfl (lv_at hl 2 rfl) ?_
      refine lv_aload_n hx hb dX9_betters_167 rfl (lv_at hl 0 rfl) ?_
      refine lv_iload_n hx hb dX9_betters_168 rfl (lv_at hl 1 rfl) ?_
      refine lv_iload hx hb dX9_betters_169 (lv_at hl 4 rfl) ?_
      have hM := r019_X9_at l dC dI cI cJ cII cJJ H.size 0 ad f9_size f9_equations f9_areSteps f9_foundMany f9_many f9_rank f9_freeMany f9_arePlans f9_planMany ai al L1 L5 (by omega) (by omega) (by omega) (by omega) (by omega) (by omega) (by omega) (by omega) (by omega) (by omega) (by omega) hI
      refine k2V_i (q0 := 22) ⟨hx, hb, hml, hown, hts⟩ hK hP hD hS hA hX cv_RX9_183 hM ⟨by decide +kernel, by decide +kernel⟩ rfl rfl (Or.inl rfl) (rest := [.int L2, .int z2, .int L5, .ref (ad 27)]) rfl rfl rfl hl.1 rfl (Nat.le_of_ble_eq_true rfl) dX9_betters_171 ⟨Nat.le_of_ble_eq_true rfl, Nat.le_of_ble_eq_true rfl⟩ (fun r3 t H1 locs_1 ht hB hS_1 hFc => ?_)
      obtain ⟨gpr3_0, hP_2, -, hD_2⟩ := hB
      rw [ht] at hP_2
      have hD_3 := hD_2.weaken (B := A) (fun k q _ h9 => hFc q.1 h9)
      clear ht
      generalize H1 = H_4 at hP_2 hS_1 ⊢
      refine v_imul hx hb dX9_betters_174 _ rfl ?_
      refine lv_topi (fun z4 e_z4 => ?_)
      refine v_iadd hx hb dX9_betters_175 _ rfl ?_
      refine lv_topi (fun z5 e_z5 => ?_)
      refine va_iast hx hb hK hP_2 hD_3 hS_1 27 0 rfl rfl (j_in (a := L5.toInt) rfl (by omega) (by omega)) dX9_betters_176 (fun H_5 locs_5 hP_5 hD_5 hS_5 => ?_)
      obtain ⟨ai6, e_ai6⟩ : ∃ q : Nat → Nat → Int32, q = va_up ai 27 (upd (ai 27) L5.toNatClampNeg z5) := ⟨_, rfl⟩
      have hF_6 := FR_st hF e_ai6 (by decide)
      have hI_7 : IAM ai6 := by rw [e_ai6]; exact hI
      have hP_8 : va_P (dC, dI) vwCl (WM cI cJ cII cJJ ad f9_size f9_equations f9_areSteps f9_foundMany f9_many f9_rank f9_freeMany f9_arePlans f9_planMany ai6 al) H_5 := by rw [e_ai6]; exact hP_5
      have hD_9 : va_D A (WM cI cJ cII cJJ ad f9_size f9_equations f9_areSteps f9_foundMany f9_many f9_rank f9_freeMany f9_arePlans f9_planMany ai6 al) := by rw [e_ai6]; exact hD_5
      obtain ⟨z7, e_z7⟩ : ∃ q : Int32, q = L5 + Int32.ofInt 1 := ⟨_, rfl⟩
      have g_z7 : z7.toInt = L5.toInt + 1 := by rw [e_z7]; exact n_add (a := L5.toInt) (b := 1) rfl (by decide +kernel) (by omega) (by omega)
      refine lv_iinc (v := z7) (lv' := [(5, .int z7), (0, .ref (ad 22)), (1, .int L1), (2, .int L2), (3, .long J3)]) hx hb dX9_betters_177 hl (k := 4) rfl e_z7.symm (by decide) rfl (fun ls_10 hl_10 => ?_)
      refine lv_goto (tgt := 149) hx hb dX9_betters_180 (by decide) ?_
      exact ih L1 L2 z7 f9_areSteps f9_foundMany f9_many f9_rank f9_freeMany J3 ai6 al _ _ _ (by omega) (by omega) (by omega) (by omega) (by omega) (by omega) (by omega) (by omega) (by omega) (by omega) (by omega) (by omega) (by first | exact (h12.imp (fun q => q) (fun q => CIa_t q (FRu e_ai6) (by decide))) | exact Or.inl (by omega) | exact Or.inl (by decide +kernel)) h13 (bt_up2 h14 e_ai6) (bt_h (n := L5) (v := z5) h15 e_ai6 (by omega) (by rw [e_z5, e_z4, gpr3_0, e_z2]; show ai 27 L5.toInt.toNat + _ = _; rw [h16 L5.toInt.toNat (by omega)]; rfl) (by omega)) (fun u hu => by rw [up_at e_ai6, if_neg (by omega)]; exact h16 u (by omega)) (by omega) (by omega) hI_7 hF_6 hG hP_8 hD_9 hS_5 (lv_sub hl_10 [1, 2, 3, 4, 0] rfl)
set_option maxRecDepth 100000 in
set_option maxHeartbeats 4000000 in
theorem r040_X9_betters_b125 {p : Program} {l : Launch} {e : Env} {s : State} {m : MethodId} {args : Array Value} {below : List Frame} {meth : Method} {c : Code} {A : Nat → Prop} {dC : Nat → ClassId} {dI : Nat → Nat → Nat} {cI cJ cII cJJ : ClassId} {ad : Nat → Nat} {g : Nat} {f9_size f9_equations f9_arePlans f9_planMany : Int32} {ai0 : Nat → Nat → Int32} {al0 : Nat → Nat → Int64} {o_f9_areSteps : Int32} {o_f9_many : Int32} (C : Cx p c s m meth args A dC dI (TY cI cJ cII cJJ) cX9_betters (some .int) 8 RX9 0 g) (hp0 : (o_f9_areSteps.toInt = 0 ∨ CIa ai0 f9_size o_f9_many.toInt)) (n17 : Nat) (K17 : ∀ (L1 L2 L5 f9_areSteps f9_foundMany f9_many f9_rank f9_freeMany : Int32) (J3 : Int64) (ai : Nat → Nat → Int32) (al : Nat → Nat → Int64) (H : Heap) (locs : List Loc) (ls : Array Slot), (-99999 ≤ L1.toInt ∧ L1.toInt ≤ 5999) → (0 ≤ L2.toInt ∧ L2.toInt ≤ 20) → (0 ≤ L5.toInt ∧ L5.toInt ≤ 6000) → (1 ≤ f9_size.toInt ∧ f9_size.toInt ≤ 4) → (0 ≤ f9_equations.toInt ∧ f9_equations.toInt ≤ 3) → (1 ≤ f9_areSteps.toInt ∧ f9_areSteps.toInt ≤ 1) → (0 ≤ f9_foundMany.toInt ∧ f9_foundMany.toInt ≤ 99999) → (0 ≤ f9_many.toInt ∧ f9_many.toInt ≤ 6000) → (0 ≤ f9_rank.toInt ∧ f9_rank.toInt ≤ 3) → (0 ≤ f9_freeMany.toInt ∧ f9_freeMany.toInt ≤ 4) → (0 ≤ f9_arePlans.toInt ∧ f9_arePlans.toInt ≤ 1) → (0 ≤ f9_planMany.toInt ∧ f9_planMany.toInt ≤ 194481) → (f9_areSteps.toInt = 0 ∨ CIa ai f9_size f9_many.toInt) → ai 27 = ai0 27 → J3.toInt ≤ (csF ai0 (ai0 27) f9_size.toInt.toNat).toInt → (L1.toInt = -99999 ∨ (0 ≤ L1.toInt ∧ L1.toInt ≤ 5999 ∧ J3.toInt < (csF ai0 (ai0 27) f9_size.toInt.toNat).toInt ∧ J3 = csF ai (hvv ai0 ai L1.toInt.toNat L2) f9_size.toInt.toNat)) → f9_many.toInt - L5.toInt < (n17 : Int) → (0 : Int) < (n17 : Int) → IAM ai → FR [7, 8, 9, 10, 11, 12, 13, 14, 15, 16, 20, 27] ai0 ai → FL [17, 18] al0 al → va_P (dC, dI) vwCl (WM cI cJ cII cJJ ad f9_size f9_equations f9_areSteps f9_foundMany f9_many f9_rank f9_freeMany f9_arePlans f9_planMany ai al) H → va_D A (WM cI cJ cII cJJ ad f9_size f9_equations f9_areSteps f9_foundMany f9_many f9_rank f9_freeMany f9_arePlans f9_planMany ai al) → va_S A s.heap H locs → lv_has ls 8 [(0, .ref (ad 22)), (1, .int L1), (2, .int L2), (3, .long J3), (5, .int L5)] → W p l e ({ frames := 11, cells := 0, slots := 0, locals := 620 } : Room) s m args below meth c H locs 0 0 (MQ below (Q_r040_X9_betters dC dI cI cJ cII cJJ ad f9_size f9_equations f9_arePlans f9_planMany ai0 al0 o_f9_areSteps o_f9_many A) args s 0 0 A) (F0 m 17 ls [])) (n29 : Nat) (K29 : ∀ (L1 L2 L5 L6 f9_areSteps f9_foundMany f9_many f9_rank f9_freeMany : Int32) (J3 : Int64) (ai : Nat → Nat → Int32) (al : Nat → Nat → Int64) (H : Heap) (locs : List Loc) (ls : Array Slot), (-99999 ≤ L1.toInt ∧ L1.toInt ≤ 5999) → (0 ≤ L2.toInt ∧ L2.toInt ≤ 20) → (0 ≤ L5.toInt ∧ L5.toInt ≤ 5999) → (1 ≤ L6.toInt ∧ L6.toInt ≤ 21) → (1 ≤ f9_size.toInt ∧ f9_size.toInt ≤ 4) → (0 ≤ f9_equations.toInt ∧ f9_equations.toInt ≤ 3) → (1 ≤ f9_areSteps.toInt ∧ f9_areSteps.toInt ≤ 1) → (0 ≤ f9_foundMany.toInt ∧ f9_foundMany.toInt ≤ 99999) → (1 ≤ f9_many.toInt ∧ f9_many.toInt ≤ 6000) → (0 ≤ f9_rank.toInt ∧ f9_rank.toInt ≤ 3) → (0 ≤ f9_freeMany.toInt ∧ f9_freeMany.toInt ≤ 4) → (0 ≤ f9_arePlans.toInt ∧ f9_arePlans.toInt ≤ 1) → (0 ≤ f9_planMany.toInt ∧ f9_planMany.toInt ≤ 194481) → (f9_areSteps.toInt = 0 ∨ CIa ai f9_size f9_many.toInt) → ai 27 = ai0 27 → J3.toInt ≤ (csF ai0 (ai0 27) f9_size.toInt.toNat).toInt → (L1.toInt = -99999 ∨ (0 ≤ L1.toInt ∧ L1.toInt ≤ 5999 ∧ J3.toInt < (csF ai0 (ai0 27) f9_size.toInt.toNat).toInt ∧ J3 = csF ai (hvv ai0 ai L1.toInt.toNat L2) f9_size.toInt.toNat)) → L5.toInt < f9_many.toInt → f9_many.toInt - L5.toInt ≤ (n17 : Int) → 20 + 1 - L6.toInt < (n29 : Int) → (0 : Int) < (n29 : Int) → IAM ai → FR [7, 8, 9, 10, 11, 12, 13, 14, 15, 16, 20, 27] ai0 ai → FL [17, 18] al0 al → va_P (dC, dI) vwCl (WM cI cJ cII cJJ ad f9_size f9_equations f9_areSteps f9_foundMany f9_many f9_rank f9_freeMany f9_arePlans f9_planMany ai al) H → va_D A (WM cI cJ cII cJJ ad f9_size f9_equations f9_areSteps f9_foundMany f9_many f9_rank f9_freeMany f9_arePlans f9_planMany ai al) → va_S A s.heap H locs → lv_has ls 8 [(0, .ref (ad 22)), (1, .int L1), (2, .int L2), (3, .long J3), (5, .int L5), (6, .int L6)] → W p l e ({ frames := 11, cells := 0, slots := 0, locals := 620 } : Room) s m args below meth c H locs 0 0 (MQ below (Q_r040_X9_betters dC dI cI cJ cII cJJ ad f9_size f9_equations f9_arePlans f9_planMany ai0 al0 o_f9_areSteps o_f9_many A) args s 0 0 A) (F0 m 29 ls [])) : ∀ (L1 L2 L5 L6 L7 f9_areSteps f9_foundMany f9_many f9_rank f9_freeMany : Int32) (J3 : Int64) (ai : Nat → Nat → Int32) (al : Nat → Nat → Int64) (H : Heap) (locs : List Loc) (ls : Array Slot), (-99999 ≤ L1.toInt ∧ L1.toInt ≤ 5999) → (0 ≤ L2.toInt ∧ L2.toInt ≤ 20) → (0 ≤ L5.toInt ∧ L5.toInt ≤ 5999) → (1 ≤ L6.toInt ∧ L6.toInt ≤ 20) → (1 ≤ L7.toInt ∧ L7.toInt ≤ 4) → (1 ≤ f9_size.toInt ∧ f9_size.toInt ≤ 4) → (0 ≤ f9_equations.toInt ∧ f9_equations.toInt ≤ 3) → (1 ≤ f9_areSteps.toInt ∧ f9_areSteps.toInt ≤ 1) → (0 ≤ f9_foundMany.toInt ∧ f9_foundMany.toInt ≤ 99999) → (1 ≤ f9_many.toInt ∧ f9_many.toInt ≤ 6000) → (0 ≤ f9_rank.toInt ∧ f9_rank.toInt ≤ 3) → (0 ≤ f9_freeMany.toInt ∧ f9_freeMany.toInt ≤ 4) → (0 ≤ f9_arePlans.toInt ∧ f9_arePlans.toInt ≤ 1) → (0 ≤ f9_planMany.toInt ∧ f9_planMany.toInt ≤ 194481) → (f9_areSteps.toInt = 0 ∨ CIa ai f9_size f9_many.toInt) → ai 27 = ai0 27 → J3.toInt ≤ (csF ai0 (ai0 27) f9_size.toInt.toNat).toInt → (L1.toInt = -99999 ∨ (0 ≤ L1.toInt ∧ L1.toInt ≤ 5999 ∧ J3.toInt < (csF ai0 (ai0 27) f9_size.toInt.toNat).toInt ∧ J3 = csF ai (hvv ai0 ai L1.toInt.toNat L2) f9_size.toInt.toNat)) → L5.toInt < f9_many.toInt → f9_many.toInt - L5.toInt ≤ (n17 : Int) → L6.toInt ≤ 20 → 20 + 1 - L6.toInt ≤ (n29 : Int) → IAM ai → FR [7, 8, 9, 10, 11, 12, 13, 14, 15, 16, 20, 27] ai0 ai → FL [17, 18] al0 al → va_P (dC, dI) vwCl (WM cI cJ cII cJJ ad f9_size f9_equations f9_areSteps f9_foundMany f9_many f9_rank f9_freeMany f9_arePlans f9_planMany ai al) H → va_D A (WM cI cJ cII cJJ ad f9_size f9_equations f9_areSteps f9_foundMany f9_many f9_rank f9_freeMany f9_arePlans f9_planMany ai al) → va_S A s.heap H locs → lv_has ls 8 [(0, .ref (ad 22)), (1, .int L1), (2, .int L2), (3, .long J3), (5, .int L5), (6, .int L6), (7, .int L7)] → W p l e ({ frames := 11, cells := 0, slots := 0, locals := 620 } : Room) s m args below meth c H locs 0 0 (MQ below (Q_r040_X9_betters dC dI cI cJ cII cJJ ad f9_size f9_equations f9_arePlans f9_planMany ai0 al0 o_f9_areSteps o_f9_many A) args s 0 0 A) (F0 m 125 ls []) := by
  obtain ⟨hx, hb, hr, hml, hown, hts, hk, hA, hK, hX⟩ := id C
  intro L1 L2 L5 L6 L7 f9_areSteps f9_foundMany f9_many f9_rank f9_freeMany J3 ai al H locs ls h0 h1 h2 h3 h4 h5 h6 h7 h8 h9 h10 h11 h12 h13 h14 h15 h16 h17 h18 h19 h20 h21 hI hF hG hP hD hS hl
  obtain ⟨z1, e_z1⟩ : ∃ q : Int32, q = L6 + Int32.ofInt 1 := ⟨_, rfl⟩
  have g_z1 : z1.toInt = L6.toInt + 1 := by rw [e_z1]; exact n_add (a := L6.toInt) (b := 1) rfl (by decide +kernel) (by omega) (by omega)
  refine lv_iinc (v := z1) (lv' := [(6, .int z1), (0, .ref (ad 22)), (1, .int L1), (2, .int L2), (3, .long J3), (5, .int L5), (7, .int L7)]) hx hb dX9_betters_125 hl (k := 5) rfl e_z1.symm (by decide) rfl (fun ls_1 hl_1 => ?_)
  refine lv_goto (tgt := 29) hx hb dX9_betters_128 (by decide) ?_
  exact K29 L1 L2 L5 z1 f9_areSteps f9_foundMany f9_many f9_rank f9_freeMany J3 ai al _ _ _ (by omega) (by omega) (by omega) (by omega) (by omega) (by omega) (by omega) (by omega) (by omega) (by omega) (by omega) (by omega) (by omega) (by first | exact h14 | exact Or.inl (by omega) | exact Or.inl (by decide +kernel)) h15 h16 h17 (by omega) (by omega) (by omega) (by omega) hI hF hG hP hD hS (lv_sub hl_1 [1, 2, 3, 4, 5, 0] rfl)
set_option maxRecDepth 100000 in
set_option maxHeartbeats 4000000 in
theorem r040_X9_betters_b39 {p : Program} {l : Launch} {e : Env} {s : State} {m : MethodId} {args : Array Value} {below : List Frame} {meth : Method} {c : Code} {A : Nat → Prop} {dC : Nat → ClassId} {dI : Nat → Nat → Nat} {cI cJ cII cJJ : ClassId} {ad : Nat → Nat} {g : Nat} {f9_size f9_equations f9_arePlans f9_planMany : Int32} {ai0 : Nat → Nat → Int32} {al0 : Nat → Nat → Int64} {o_f9_areSteps : Int32} {o_f9_many : Int32} (C : Cx p c s m meth args A dC dI (TY cI cJ cII cJJ) cX9_betters (some .int) 8 RX9 0 g) (hp0 : (o_f9_areSteps.toInt = 0 ∨ CIa ai0 f9_size o_f9_many.toInt)) (n17 : Nat) (K17 : ∀ (L1 L2 L5 f9_areSteps f9_foundMany f9_many f9_rank f9_freeMany : Int32) (J3 : Int64) (ai : Nat → Nat → Int32) (al : Nat → Nat → Int64) (H : Heap) (locs : List Loc) (ls : Array Slot), (-99999 ≤ L1.toInt ∧ L1.toInt ≤ 5999) → (0 ≤ L2.toInt ∧ L2.toInt ≤ 20) → (0 ≤ L5.toInt ∧ L5.toInt ≤ 6000) → (1 ≤ f9_size.toInt ∧ f9_size.toInt ≤ 4) → (0 ≤ f9_equations.toInt ∧ f9_equations.toInt ≤ 3) → (1 ≤ f9_areSteps.toInt ∧ f9_areSteps.toInt ≤ 1) → (0 ≤ f9_foundMany.toInt ∧ f9_foundMany.toInt ≤ 99999) → (0 ≤ f9_many.toInt ∧ f9_many.toInt ≤ 6000) → (0 ≤ f9_rank.toInt ∧ f9_rank.toInt ≤ 3) → (0 ≤ f9_freeMany.toInt ∧ f9_freeMany.toInt ≤ 4) → (0 ≤ f9_arePlans.toInt ∧ f9_arePlans.toInt ≤ 1) → (0 ≤ f9_planMany.toInt ∧ f9_planMany.toInt ≤ 194481) → (f9_areSteps.toInt = 0 ∨ CIa ai f9_size f9_many.toInt) → ai 27 = ai0 27 → J3.toInt ≤ (csF ai0 (ai0 27) f9_size.toInt.toNat).toInt → (L1.toInt = -99999 ∨ (0 ≤ L1.toInt ∧ L1.toInt ≤ 5999 ∧ J3.toInt < (csF ai0 (ai0 27) f9_size.toInt.toNat).toInt ∧ J3 = csF ai (hvv ai0 ai L1.toInt.toNat L2) f9_size.toInt.toNat)) → f9_many.toInt - L5.toInt < (n17 : Int) → (0 : Int) < (n17 : Int) → IAM ai → FR [7, 8, 9, 10, 11, 12, 13, 14, 15, 16, 20, 27] ai0 ai → FL [17, 18] al0 al → va_P (dC, dI) vwCl (WM cI cJ cII cJJ ad f9_size f9_equations f9_areSteps f9_foundMany f9_many f9_rank f9_freeMany f9_arePlans f9_planMany ai al) H → va_D A (WM cI cJ cII cJJ ad f9_size f9_equations f9_areSteps f9_foundMany f9_many f9_rank f9_freeMany f9_arePlans f9_planMany ai al) → va_S A s.heap H locs → lv_has ls 8 [(0, .ref (ad 22)), (1, .int L1), (2, .int L2), (3, .long J3), (5, .int L5)] → W p l e ({ frames := 11, cells := 0, slots := 0, locals := 620 } : Room) s m args below meth c H locs 0 0 (MQ below (Q_r040_X9_betters dC dI cI cJ cII cJJ ad f9_size f9_equations f9_arePlans f9_planMany ai0 al0 o_f9_areSteps o_f9_many A) args s 0 0 A) (F0 m 17 ls [])) (n29 : Nat) (K29 : ∀ (L1 L2 L5 L6 f9_areSteps f9_foundMany f9_many f9_rank f9_freeMany : Int32) (J3 : Int64) (ai : Nat → Nat → Int32) (al : Nat → Nat → Int64) (H : Heap) (locs : List Loc) (ls : Array Slot), (-99999 ≤ L1.toInt ∧ L1.toInt ≤ 5999) → (0 ≤ L2.toInt ∧ L2.toInt ≤ 20) → (0 ≤ L5.toInt ∧ L5.toInt ≤ 5999) → (1 ≤ L6.toInt ∧ L6.toInt ≤ 21) → (1 ≤ f9_size.toInt ∧ f9_size.toInt ≤ 4) → (0 ≤ f9_equations.toInt ∧ f9_equations.toInt ≤ 3) → (1 ≤ f9_areSteps.toInt ∧ f9_areSteps.toInt ≤ 1) → (0 ≤ f9_foundMany.toInt ∧ f9_foundMany.toInt ≤ 99999) → (1 ≤ f9_many.toInt ∧ f9_many.toInt ≤ 6000) → (0 ≤ f9_rank.toInt ∧ f9_rank.toInt ≤ 3) → (0 ≤ f9_freeMany.toInt ∧ f9_freeMany.toInt ≤ 4) → (0 ≤ f9_arePlans.toInt ∧ f9_arePlans.toInt ≤ 1) → (0 ≤ f9_planMany.toInt ∧ f9_planMany.toInt ≤ 194481) → (f9_areSteps.toInt = 0 ∨ CIa ai f9_size f9_many.toInt) → ai 27 = ai0 27 → J3.toInt ≤ (csF ai0 (ai0 27) f9_size.toInt.toNat).toInt → (L1.toInt = -99999 ∨ (0 ≤ L1.toInt ∧ L1.toInt ≤ 5999 ∧ J3.toInt < (csF ai0 (ai0 27) f9_size.toInt.toNat).toInt ∧ J3 = csF ai (hvv ai0 ai L1.toInt.toNat L2) f9_size.toInt.toNat)) → L5.toInt < f9_many.toInt → f9_many.toInt - L5.toInt ≤ (n17 : Int) → 20 + 1 - L6.toInt < (n29 : Int) → (0 : Int) < (n29 : Int) → IAM ai → FR [7, 8, 9, 10, 11, 12, 13, 14, 15, 16, 20, 27] ai0 ai → FL [17, 18] al0 al → va_P (dC, dI) vwCl (WM cI cJ cII cJJ ad f9_size f9_equations f9_areSteps f9_foundMany f9_many f9_rank f9_freeMany f9_arePlans f9_planMany ai al) H → va_D A (WM cI cJ cII cJJ ad f9_size f9_equations f9_areSteps f9_foundMany f9_many f9_rank f9_freeMany f9_arePlans f9_planMany ai al) → va_S A s.heap H locs → lv_has ls 8 [(0, .ref (ad 22)), (1, .int L1), (2, .int L2), (3, .long J3), (5, .int L5), (6, .int L6)] → W p l e ({ frames := 11, cells := 0, slots := 0, locals := 620 } : Room) s m args below meth c H locs 0 0 (MQ below (Q_r040_X9_betters dC dI cI cJ cII cJJ ad f9_size f9_equations f9_arePlans f9_planMany ai0 al0 o_f9_areSteps o_f9_many A) args s 0 0 A) (F0 m 29 ls [])) : ∀ (n : Nat), ∀ (L1 L2 L5 L6 L7 f9_areSteps f9_foundMany f9_many f9_rank f9_freeMany : Int32) (J3 : Int64) (ai : Nat → Nat → Int32) (al : Nat → Nat → Int64) (H : Heap) (locs : List Loc) (ls : Array Slot), (-99999 ≤ L1.toInt ∧ L1.toInt ≤ 5999) → (0 ≤ L2.toInt ∧ L2.toInt ≤ 20) → (0 ≤ L5.toInt ∧ L5.toInt ≤ 5999) → (1 ≤ L6.toInt ∧ L6.toInt ≤ 20) → (0 ≤ L7.toInt ∧ L7.toInt ≤ 4) → (1 ≤ f9_size.toInt ∧ f9_size.toInt ≤ 4) → (0 ≤ f9_equations.toInt ∧ f9_equations.toInt ≤ 3) → (1 ≤ f9_areSteps.toInt ∧ f9_areSteps.toInt ≤ 1) → (0 ≤ f9_foundMany.toInt ∧ f9_foundMany.toInt ≤ 99999) → (1 ≤ f9_many.toInt ∧ f9_many.toInt ≤ 6000) → (0 ≤ f9_rank.toInt ∧ f9_rank.toInt ≤ 3) → (0 ≤ f9_freeMany.toInt ∧ f9_freeMany.toInt ≤ 4) → (0 ≤ f9_arePlans.toInt ∧ f9_arePlans.toInt ≤ 1) → (0 ≤ f9_planMany.toInt ∧ f9_planMany.toInt ≤ 194481) → (f9_areSteps.toInt = 0 ∨ CIa ai f9_size f9_many.toInt) → ai 27 = ai0 27 → J3.toInt ≤ (csF ai0 (ai0 27) f9_size.toInt.toNat).toInt → (L1.toInt = -99999 ∨ (0 ≤ L1.toInt ∧ L1.toInt ≤ 5999 ∧ J3.toInt < (csF ai0 (ai0 27) f9_size.toInt.toNat).toInt ∧ J3 = csF ai (hvv ai0 ai L1.toInt.toNat L2) f9_size.toInt.toNat)) → (∀ u : Nat, (u : Int) < L7.toInt → ai 20 u = hvv ai0 ai L5.toInt.toNat L6 u) → L5.toInt < f9_many.toInt → f9_many.toInt - L5.toInt ≤ (n17 : Int) → L6.toInt ≤ 20 → 20 + 1 - L6.toInt ≤ (n29 : Int) → f9_size.toInt - L7.toInt < (n : Int) → (0 : Int) < (n : Int) → IAM ai → FR [7, 8, 9, 10, 11, 12, 13, 14, 15, 16, 20, 27] ai0 ai → FL [17, 18] al0 al → va_P (dC, dI) vwCl (WM cI cJ cII cJJ ad f9_size f9_equations f9_areSteps f9_foundMany f9_many f9_rank f9_freeMany f9_arePlans f9_planMany ai al) H → va_D A (WM cI cJ cII cJJ ad f9_size f9_equations f9_areSteps f9_foundMany f9_many f9_rank f9_freeMany f9_arePlans f9_planMany ai al) → va_S A s.heap H locs → lv_has ls 8 [(0, .ref (ad 22)), (1, .int L1), (2, .int L2), (3, .long J3), (5, .int L5), (6, .int L6), (7, .int L7)] → W p l e ({ frames := 11, cells := 0, slots := 0, locals := 620 } : Room) s m args below meth c H locs 0 0 (MQ below (Q_r040_X9_betters dC dI cI cJ cII cJJ ad f9_size f9_equations f9_arePlans f9_planMany ai0 al0 o_f9_areSteps o_f9_many A) args s 0 0 A) (F0 m 39 ls []) := by
  obtain ⟨hx, hb, hr, hml, hown, hts, hk, hA, hK, hX⟩ := id C
  intro n
  induction n with
  | zero =>
    intro L1 L2 L5 L6 L7 f9_areSteps f9_foundMany f9_many f9_rank f9_freeMany J3 ai al H locs ls h0 h1 h2 h3 h4 h5 h6 h7 h8 h9 h10 h11 h12 h13 h14 h15 h16 h17 h18 h19 h20 h21 h22 h23 h24 hI hF hG hP hD hS hl
    exact absurd h24 (by omega)
  | succ n ih =>
    intro L1 L2 L5 L6 L7 f9_areSteps f9_foundMany f9_many f9_rank f9_freeMany J3 ai al H locs ls h0 h1 h2 h3 h4 h5 h6 h7 h8 h9 h10 h11 h12 h13 h14 h15 h16 h17 h18 h19 h20 h21 h22 h23 h24 hI hF hG hP hD hS hl
    refine lv_iload hx hb dX9_betters_39 (lv_at hl 6 rfl) ?_
    refine lv_aload_n hx hb dX9_betters_41 rfl (lv_at hl 0 rfl) ?_
    refine gf (k := 12) hx hb hts inX9 hown hK hP k_807 rfl (by decide) rfl 22 rfl (.int f9_size) rfl dX9_betters_42 ?_
    refine lv_icmp_ge (tgt := 80) hx hb dX9_betters_45 (by decide) (fun c1 => ?_) (fun c1 => ?_)
    · have c1 := j_le (a := f9_size.toInt) (b := L7.toInt) rfl rfl c1
      refine lv_aload_n hx hb dX9_betters_80 rfl (lv_at hl 0 rfl) ?_
      refine lv_aload_n hx hb dX9_betters_81 rfl (lv_at hl 0 rfl) ?_
      refine gf (k := 32) hx hb hts inX9 hown hK hP k_827 rfl (by decide) rfl 22 rfl (.ref (ad 20)) rfl dX9_betters_82 ?_
      refine lv_iconst (v := 0) hx hb dX9_betters_85 (by decide) ?_
      have kc0 : (0 : Int32).toInt = 0 := by decide +kernel
      have hM := r031_X9_isPlan l dC dI cI cJ cII cJJ H.size 0 ad f9_size f9_equations f9_areSteps f9_foundMany f9_many f9_rank f9_freeMany f9_arePlans f9_planMany ai al (by omega) (by omega) (by omega) (by omega) (by omega) (by omega) (by omega) (by omega) (by omega) hI
      refine k2V_i (q0 := 22) ⟨hx, hb, hml, hown, hts⟩ hK hP hD hS hA hX cv_RX9_199 hM ⟨by decide +kernel, by decide +kernel⟩ rfl rfl (Or.inl rfl) (rest := []) rfl rfl rfl hl.1 rfl (Nat.le_of_ble_eq_true rfl) dX9_betters_86 ⟨Nat.le_of_ble_eq_true rfl, Nat.le_of_ble_eq_true rfl⟩ (fun r2 t H1 locs_1 ht hB hS_1 hFc => ?_)
      obtain ⟨gpr2_0, hP_2, -, hD_2⟩ := hB
      rw [ht] at hP_2
      have hD_3 := hD_2.weaken (B := A) (fun k q _ h9 => hFc q.1 h9)
      clear ht
      generalize H1 = H_4 at hP_2 hS_1 ⊢
      refine lv_if_eq (tgt := 125) hx hb dX9_betters_89 (by decide) (fun c3 => ?_) (fun c3 => ?_)
      · have c3 := j_eq (a := r2.toInt) (b := 0) rfl (by decide +kernel) c3
        exact r040_X9_betters_b125 C hp0 n17 K17 n29 K29 L1 L2 L5 L6 L7 f9_areSteps f9_foundMany f9_many f9_rank f9_freeMany J3 ai al _ _ _ (by omega) (by omega) (by omega) (by omega) (by omega) (by omega) (by omega) (by omega) (by omega) (by omega) (by omega) (by omega) (by omega) (by omega) (by first | exact h14 | exact Or.inl (by omega) | exact Or.inl (by decide +kernel)) h15 h16 h17 (by omega) (by omega) (by omega) (by omega) hI hF hG hP_2 hD_3 hS_1 (lv_sub hl [0, 1, 2, 3, 4, 5, 6] rfl)
      · have c3 := j_ne (a := r2.toInt) (b := 0) rfl (by decide +kernel) c3
        refine lv_aload_n hx hb dX9_betters_92 rfl (lv_at hl 0 rfl) ?_
        refine lv_aload_n hx hb dX9_betters_93 rfl (lv_at hl 0 rfl) ?_
        refine gf (k := 32) hx hb hts inX9 hown hK hP_2 k_827 rfl (by decide) rfl 22 rfl (.ref (ad 20)) rfl dX9_betters_94 ?_
        refine lv_iconst (v := 0) hx hb dX9_betters_97 (by decide) ?_
        have kc0 : (0 : Int32).toInt = 0 := by decide +kernel
        have hM := r039_X9_costOf l dC dI cI cJ cII cJJ H_4.size 0 ad f9_size f9_equations f9_areSteps f9_foundMany f9_many f9_rank f9_freeMany f9_arePlans f9_planMany ai al (by omega) (by omega) (by omega) (by omega) (by omega) (by omega) (by omega) (by omega) (by omega) hI
        refine k2V_l (q0 := 22) ⟨hx, hb, hml, hown, hts⟩ hK hP_2 hD_3 hS_1 hA hX cv_RX9_220 hM ⟨by decide +kernel, by decide +kernel⟩ rfl rfl (Or.inl rfl) (rest := []) rfl rfl rfl hl.1 rfl (Nat.le_of_ble_eq_true rfl) dX9_betters_98 ⟨Nat.le_of_ble_eq_true rfl, Nat.le_of_ble_eq_true rfl⟩ (fun r4 t H1 locs_5 ht hB hS_5 hFc => ?_)
        obtain ⟨gpr4_0, hP_6, -, hD_6⟩ := hB
        rw [ht] at hP_6
        have hD_7 := hD_6.weaken (B := A) (fun k q _ h9 => hFc q.1 h9)
        clear ht
        generalize H1 = H_8 at hP_6 hS_5 ⊢
        refine lv_lload_n hx hb dX9_betters_101 rfl (lv_at hl 3 rfl) ?_
        refine v_lcmp hx hb dX9_betters_102 _ rfl ?_
        refine lv_topi (fun z5 e_z5 => ?_)
        have g_z5 := lc_cases (a := r4.toInt) (b := J3.toInt) e_z5 rfl rfl
        refine lv_if_lt (tgt := 109) hx hb dX9_betters_103 (by decide) (fun c6 => ?_) (fun c6 => ?_)
        · have c6 := j_lt (a := z5.toInt) (b := 0) rfl (by decide +kernel) c6
          refine lv_aload_n hx hb dX9_betters_109 rfl (lv_at hl 0 rfl) ?_
          refine lv_aload_n hx hb dX9_betters_110 rfl (lv_at hl 0 rfl) ?_
          refine gf (k := 32) hx hb hts inX9 hown hK hP_6 k_827 rfl (by decide) rfl 22 rfl (.ref (ad 20)) rfl dX9_betters_111 ?_
          refine lv_iconst (v := 0) hx hb dX9_betters_114 (by decide) ?_
          have kc0 : (0 : Int32).toInt = 0 := by decide +kernel
          have hM := r039_X9_costOf l dC dI cI cJ cII cJJ H_8.size 0 ad f9_size f9_equations f9_areSteps f9_foundMany f9_many f9_rank f9_freeMany f9_arePlans f9_planMany ai al (by omega) (by omega) (by omega) (by omega) (by omega) (by omega) (by omega) (by omega) (by omega) hI
          refine k2V_l (q0 := 22) ⟨hx, hb, hml, hown, hts⟩ hK hP_6 hD_7 hS_5 hA hX cv_RX9_220 hM ⟨by decide +kernel, by decide +kernel⟩ rfl rfl (Or.inl rfl) (rest := []) rfl rfl rfl hl.1 rfl (Nat.le_of_ble_eq_true rfl) dX9_betters_115 ⟨Nat.le_of_ble_eq_true rfl, Nat.le_of_ble_eq_true rfl⟩ (fun r7 t H1 locs_9 ht hB hS_9 hFc => ?_)
          obtain ⟨gpr7_0, hP_10, -, hD_10⟩ := hB
          rw [ht] at hP_10
          have hD_11 := hD_10.weaken (B := A) (fun k q _ h9 => hFc q.1 h9)
          clear ht
          generalize H1 = H_12 at hP_10 hS_9 ⊢
          refine lv_lstore_n (lv' := [(3, .long r7), (0, .ref (ad 22)), (1, .int L1), (2, .int L2), (5, .int L5), (6, .int L6), (7, .int L7)]) hx hb dX9_betters_118 rfl hl (by decide) rfl (fun ls_13 hl_13 => ?_)
          refine lv_iload hx hb dX9_betters_119 (lv_at hl_13 4 rfl) ?_
          refine lv_istore_n (lv' := [(1, .int L5), (3, .long r7), (0, .ref (ad 22)), (2, .int L2), (5, .int L5), (6, .int L6), (7, .int L7)]) hx hb dX9_betters_121 rfl hl_13 (by decide) rfl (fun ls_14 hl_14 => ?_)
          refine lv_iload hx hb dX9_betters_122 (lv_at hl_14 5 rfl) ?_
          refine lv_istore_n (lv' := [(2, .int L6), (1, .int L5), (3, .long r7), (0, .ref (ad 22)), (5, .int L5), (6, .int L6), (7, .int L7)]) hx hb dX9_betters_124 rfl hl_14 (by decide) rfl (fun ls_15 hl_15 => ?_)
          exact r040_X9_betters_b125 C hp0 n17 K17 n29 K29 L5 L6 L5 L6 L7 f9_areSteps f9_foundMany f9_many f9_rank f9_freeMany r7 ai al _ _ _ (by omega) (by omega) (by omega) (by omega) (by omega) (by omega) (by omega) (by omega) (by omega) (by omega) (by omega) (by omega) (by omega) (by omega) (by first | exact h14 | exact Or.inl (by omega) | exact Or.inl (by decide +kernel)) h15 (by have q1 := gpr4_0; have q2 := gpr7_0; rw [← q1] at q2; rw [q2]; omega) (Or.inr ⟨by omega, by omega, by have q1 := gpr4_0; have q2 := gpr7_0; rw [← q1] at q2; rw [q2]; omega, bt_new h18 (by omega) gpr7_0⟩) (by omega) (by omega) (by omega) (by omega) hI hF hG hP_10 hD_11 hS_9 (lv_sub hl_15 [3, 1, 0, 2, 4, 5, 6] rfl)
        · have c6 := j_nlt (a := z5.toInt) (b := 0) rfl (by decide +kernel) c6
          refine lv_goto (tgt := 125) hx hb dX9_betters_106 (by decide) ?_
          exact r040_X9_betters_b125 C hp0 n17 K17 n29 K29 L1 L2 L5 L6 L7 f9_areSteps f9_foundMany f9_many f9_rank f9_freeMany J3 ai al _ _ _ (by omega) (by omega) (by omega) (by omega) (by omega) (by omega) (by omega) (by omega) (by omega) (by omega) (by omega) (by omega) (by omega) (by omega) (by first | exact h14 | exact Or.inl (by omega) | exact Or.inl (by decide +kernel)) h15 h16 h17 (by omega) (by omega) (by omega) (by omega) hI hF hG hP_6 hD_7 hS_5 (lv_sub hl [0, 1, 2, 3, 4, 5, 6] rfl)
    · have c1 := j_nle (a := f9_size.toInt) (b := L7.toInt) rfl rfl c1
      refine lv_aload_n hx hb dX9_betters_48 rfl (lv_at hl 0 rfl) ?_
      refine gf (k := 32) hx hb hts inX9 hown hK hP k_827 rfl (by decide) rfl 22 rfl (.ref (ad 20)) rfl dX9_betters_49 ?_
      refine lv_iload hx hb dX9_betters_52 (lv_at hl 6 rfl) ?_
      refine lv_aload_n hx hb dX9_betters_54 rfl (lv_at hl 0 rfl) ?_
      refine gf (k := 6) hx hb hts inX9 hown hK hP k_801 rfl (by decide) rfl 22 rfl (.ref (ad 27)) rfl dX9_betters_55 ?_
      refine lv_iload hx hb dX9_betters_58 (lv_at hl 6 rfl) ?_
      refine va_iald hx hb hK hP 27 0 rfl rfl (j_in (a := L7.toInt) rfl (by omega) (by omega)) dX9_betters_60 ?_
      refine lv_topi (fun z8 e_z8 => ?_)
      refine lv_iload hx hb dX9_betters_61 (lv_at hl 5 rfl) ?_
      refine lv_aload_n hx hb dX9_betters_63 rfl (lv_at hl 0 rfl) ?_
      refine lv_iload hx hb dX9_betters_64 (lv_at hl 4 rfl) ?_
      refine lv_iload hx hb dX9_betters_66 (lv_at hl 6 rfl) ?_
      have hM := r019_X9_at l dC dI cI cJ cII cJJ H.size 0 ad f9_size f9_equations f9_areSteps f9_foundMany f9_many f9_rank f9_freeMany f9_arePlans f9_planMany ai al L5 L7 (by omega) (by omega) (by omega) (by omega) (by omega) (by omega) (by omega) (by omega) (by omega) (by omega) (by omega) hI
      refine k2V_i (q0 := 22) ⟨hx, hb, hml, hown, hts⟩ hK hP hD hS hA hX cv_RX9_183 hM ⟨by decide +kernel, by decide +kernel⟩ rfl rfl (Or.inl rfl) (rest := [.int L6, .int z8, .int L7, .ref (ad 20)]) rfl rfl rfl hl.1 rfl (Nat.le_of_ble_eq_true rfl) dX9_betters_68 ⟨Nat.le_of_ble_eq_true rfl, Nat.le_of_ble_eq_true rfl⟩ (fun r9 t H1 locs_16 ht hB hS_16 hFc => ?_)
      obtain ⟨gpr9_0, hP_17, -, hD_17⟩ := hB
      rw [ht] at hP_17
      have hD_18 := hD_17.weaken (B := A) (fun k q _ h9 => hFc q.1 h9)
      clear ht
      generalize H1 = H_19 at hP_17 hS_16 ⊢
      refine v_imul hx hb dX9_betters_71 _ rfl ?_
      refine lv_topi (fun z10 e_z10 => ?_)
      refine v_iadd hx hb dX9_betters_72 _ rfl ?_
      refine lv_topi (fun z11 e_z11 => ?_)
      refine va_iast hx hb hK hP_17 hD_18 hS_16 20 0 rfl rfl (j_in (a := L7.toInt) rfl (by omega) (by omega)) dX9_betters_73 (fun H_20 locs_20 hP_20 hD_20 hS_20 => ?_)
      obtain ⟨ai12, e_ai12⟩ : ∃ q : Nat → Nat → Int32, q = va_up ai 20 (upd (ai 20) L7.toNatClampNeg z11) := ⟨_, rfl⟩
      have hF_21 := FR_st hF e_ai12 (by decide)
      have hI_22 : IAM ai12 := by rw [e_ai12]; exact hI
      have hP_23 : va_P (dC, dI) vwCl (WM cI cJ cII cJJ ad f9_size f9_equations f9_areSteps f9_foundMany f9_many f9_rank f9_freeMany f9_arePlans f9_planMany ai12 al) H_20 := by rw [e_ai12]; exact hP_20
      have hD_24 : va_D A (WM cI cJ cII cJJ ad f9_size f9_equations f9_areSteps f9_foundMany f9_many f9_rank f9_freeMany f9_arePlans f9_planMany ai12 al) := by rw [e_ai12]; exact hD_20
      obtain ⟨z13, e_z13⟩ : ∃ q : Int32, q = L7 + Int32.ofInt 1 := ⟨_, rfl⟩
      have g_z13 : z13.toInt = L7.toInt + 1 := by rw [e_z13]; exact n_add (a := L7.toInt) (b := 1) rfl (by decide +kernel) (by omega) (by omega)
      refine lv_iinc (v := z13) (lv' := [(7, .int z13), (0, .ref (ad 22)), (1, .int L1), (2, .int L2), (3, .long J3), (5, .int L5), (6, .int L6)]) hx hb dX9_betters_74 hl (k := 6) rfl e_z13.symm (by decide) rfl (fun ls_25 hl_25 => ?_)
      refine lv_goto (tgt := 39) hx hb dX9_betters_77 (by decide) ?_
      exact ih L1 L2 L5 L6 z13 f9_areSteps f9_foundMany f9_many f9_rank f9_freeMany J3 ai12 al _ _ _ (by omega) (by omega) (by omega) (by omega) (by omega) (by omega) (by omega) (by omega) (by omega) (by omega) (by omega) (by omega) (by omega) (by omega) (by first | exact (h14.imp (fun q => q) (fun q => CIa_t q (FRu e_ai12) (by decide))) | exact Or.inl (by omega) | exact Or.inl (by decide +kernel)) (by rw [up_ne e_ai12 (by decide)]; exact h15) h16 (bt_up h17 e_ai12) (bt_tr (n := L7) (v := z11) h18 e_ai12 (by omega) (by rw [e_z11, e_z10, gpr9_0, e_z8, h15]; rfl) (by omega)) (by omega) (by omega) (by omega) (by omega) (by omega) (by omega) hI_22 hF_21 hG hP_23 hD_24 hS_20 (lv_sub hl_25 [1, 2, 3, 4, 5, 6, 0] rfl)
set_option maxRecDepth 100000 in
set_option maxHeartbeats 4000000 in
theorem r040_X9_betters_b29 {p : Program} {l : Launch} {e : Env} {s : State} {m : MethodId} {args : Array Value} {below : List Frame} {meth : Method} {c : Code} {A : Nat → Prop} {dC : Nat → ClassId} {dI : Nat → Nat → Nat} {cI cJ cII cJJ : ClassId} {ad : Nat → Nat} {g : Nat} {f9_size f9_equations f9_arePlans f9_planMany : Int32} {ai0 : Nat → Nat → Int32} {al0 : Nat → Nat → Int64} {o_f9_areSteps : Int32} {o_f9_many : Int32} (C : Cx p c s m meth args A dC dI (TY cI cJ cII cJJ) cX9_betters (some .int) 8 RX9 0 g) (hp0 : (o_f9_areSteps.toInt = 0 ∨ CIa ai0 f9_size o_f9_many.toInt)) (n17 : Nat) (K17 : ∀ (L1 L2 L5 f9_areSteps f9_foundMany f9_many f9_rank f9_freeMany : Int32) (J3 : Int64) (ai : Nat → Nat → Int32) (al : Nat → Nat → Int64) (H : Heap) (locs : List Loc) (ls : Array Slot), (-99999 ≤ L1.toInt ∧ L1.toInt ≤ 5999) → (0 ≤ L2.toInt ∧ L2.toInt ≤ 20) → (0 ≤ L5.toInt ∧ L5.toInt ≤ 6000) → (1 ≤ f9_size.toInt ∧ f9_size.toInt ≤ 4) → (0 ≤ f9_equations.toInt ∧ f9_equations.toInt ≤ 3) → (1 ≤ f9_areSteps.toInt ∧ f9_areSteps.toInt ≤ 1) → (0 ≤ f9_foundMany.toInt ∧ f9_foundMany.toInt ≤ 99999) → (0 ≤ f9_many.toInt ∧ f9_many.toInt ≤ 6000) → (0 ≤ f9_rank.toInt ∧ f9_rank.toInt ≤ 3) → (0 ≤ f9_freeMany.toInt ∧ f9_freeMany.toInt ≤ 4) → (0 ≤ f9_arePlans.toInt ∧ f9_arePlans.toInt ≤ 1) → (0 ≤ f9_planMany.toInt ∧ f9_planMany.toInt ≤ 194481) → (f9_areSteps.toInt = 0 ∨ CIa ai f9_size f9_many.toInt) → ai 27 = ai0 27 → J3.toInt ≤ (csF ai0 (ai0 27) f9_size.toInt.toNat).toInt → (L1.toInt = -99999 ∨ (0 ≤ L1.toInt ∧ L1.toInt ≤ 5999 ∧ J3.toInt < (csF ai0 (ai0 27) f9_size.toInt.toNat).toInt ∧ J3 = csF ai (hvv ai0 ai L1.toInt.toNat L2) f9_size.toInt.toNat)) → f9_many.toInt - L5.toInt < (n17 : Int) → (0 : Int) < (n17 : Int) → IAM ai → FR [7, 8, 9, 10, 11, 12, 13, 14, 15, 16, 20, 27] ai0 ai → FL [17, 18] al0 al → va_P (dC, dI) vwCl (WM cI cJ cII cJJ ad f9_size f9_equations f9_areSteps f9_foundMany f9_many f9_rank f9_freeMany f9_arePlans f9_planMany ai al) H → va_D A (WM cI cJ cII cJJ ad f9_size f9_equations f9_areSteps f9_foundMany f9_many f9_rank f9_freeMany f9_arePlans f9_planMany ai al) → va_S A s.heap H locs → lv_has ls 8 [(0, .ref (ad 22)), (1, .int L1), (2, .int L2), (3, .long J3), (5, .int L5)] → W p l e ({ frames := 11, cells := 0, slots := 0, locals := 620 } : Room) s m args below meth c H locs 0 0 (MQ below (Q_r040_X9_betters dC dI cI cJ cII cJJ ad f9_size f9_equations f9_arePlans f9_planMany ai0 al0 o_f9_areSteps o_f9_many A) args s 0 0 A) (F0 m 17 ls [])) : ∀ (n : Nat), ∀ (L1 L2 L5 L6 f9_areSteps f9_foundMany f9_many f9_rank f9_freeMany : Int32) (J3 : Int64) (ai : Nat → Nat → Int32) (al : Nat → Nat → Int64) (H : Heap) (locs : List Loc) (ls : Array Slot), (-99999 ≤ L1.toInt ∧ L1.toInt ≤ 5999) → (0 ≤ L2.toInt ∧ L2.toInt ≤ 20) → (0 ≤ L5.toInt ∧ L5.toInt ≤ 5999) → (1 ≤ L6.toInt ∧ L6.toInt ≤ 21) → (1 ≤ f9_size.toInt ∧ f9_size.toInt ≤ 4) → (0 ≤ f9_equations.toInt ∧ f9_equations.toInt ≤ 3) → (1 ≤ f9_areSteps.toInt ∧ f9_areSteps.toInt ≤ 1) → (0 ≤ f9_foundMany.toInt ∧ f9_foundMany.toInt ≤ 99999) → (1 ≤ f9_many.toInt ∧ f9_many.toInt ≤ 6000) → (0 ≤ f9_rank.toInt ∧ f9_rank.toInt ≤ 3) → (0 ≤ f9_freeMany.toInt ∧ f9_freeMany.toInt ≤ 4) → (0 ≤ f9_arePlans.toInt ∧ f9_arePlans.toInt ≤ 1) → (0 ≤ f9_planMany.toInt ∧ f9_planMany.toInt ≤ 194481) → (f9_areSteps.toInt = 0 ∨ CIa ai f9_size f9_many.toInt) → ai 27 = ai0 27 → J3.toInt ≤ (csF ai0 (ai0 27) f9_size.toInt.toNat).toInt → (L1.toInt = -99999 ∨ (0 ≤ L1.toInt ∧ L1.toInt ≤ 5999 ∧ J3.toInt < (csF ai0 (ai0 27) f9_size.toInt.toNat).toInt ∧ J3 = csF ai (hvv ai0 ai L1.toInt.toNat L2) f9_size.toInt.toNat)) → L5.toInt < f9_many.toInt → f9_many.toInt - L5.toInt ≤ (n17 : Int) → 20 + 1 - L6.toInt < (n : Int) → (0 : Int) < (n : Int) → IAM ai → FR [7, 8, 9, 10, 11, 12, 13, 14, 15, 16, 20, 27] ai0 ai → FL [17, 18] al0 al → va_P (dC, dI) vwCl (WM cI cJ cII cJJ ad f9_size f9_equations f9_areSteps f9_foundMany f9_many f9_rank f9_freeMany f9_arePlans f9_planMany ai al) H → va_D A (WM cI cJ cII cJJ ad f9_size f9_equations f9_areSteps f9_foundMany f9_many f9_rank f9_freeMany f9_arePlans f9_planMany ai al) → va_S A s.heap H locs → lv_has ls 8 [(0, .ref (ad 22)), (1, .int L1), (2, .int L2), (3, .long J3), (5, .int L5), (6, .int L6)] → W p l e ({ frames := 11, cells := 0, slots := 0, locals := 620 } : Room) s m args below meth c H locs 0 0 (MQ below (Q_r040_X9_betters dC dI cI cJ cII cJJ ad f9_size f9_equations f9_arePlans f9_planMany ai0 al0 o_f9_areSteps o_f9_many A) args s 0 0 A) (F0 m 29 ls []) := by
  obtain ⟨hx, hb, hr, hml, hown, hts, hk, hA, hK, hX⟩ := id C
  intro n
  induction n with
  | zero =>
    intro L1 L2 L5 L6 f9_areSteps f9_foundMany f9_many f9_rank f9_freeMany J3 ai al H locs ls h0 h1 h2 h3 h4 h5 h6 h7 h8 h9 h10 h11 h12 h13 h14 h15 h16 h17 h18 h19 h20 hI hF hG hP hD hS hl
    exact absurd h20 (by omega)
  | succ n ih =>
    intro L1 L2 L5 L6 f9_areSteps f9_foundMany f9_many f9_rank f9_freeMany J3 ai al H locs ls h0 h1 h2 h3 h4 h5 h6 h7 h8 h9 h10 h11 h12 h13 h14 h15 h16 h17 h18 h19 h20 hI hF hG hP hD hS hl
    refine lv_iload hx hb dX9_betters_29 (lv_at hl 5 rfl) ?_
    refine lv_bipush (v := 20) hx hb dX9_betters_31 (by decide) ?_
    refine lv_icmp_gt (tgt := 131) hx hb dX9_betters_33 (by decide) (fun c1 => ?_) (fun c1 => ?_)
    · have c1 := j_lt (a := 20) (b := L6.toInt) (by decide +kernel) rfl c1
      obtain ⟨z2, e_z2⟩ : ∃ q : Int32, q = L5 + Int32.ofInt 1 := ⟨_, rfl⟩
      have g_z2 : z2.toInt = L5.toInt + 1 := by rw [e_z2]; exact n_add (a := L5.toInt) (b := 1) rfl (by decide +kernel) (by omega) (by omega)
      refine lv_iinc (v := z2) (lv' := [(5, .int z2), (0, .ref (ad 22)), (1, .int L1), (2, .int L2), (3, .long J3), (6, .int L6)]) hx hb dX9_betters_131 hl (k := 4) rfl e_z2.symm (by decide) rfl (fun ls_1 hl_1 => ?_)
      refine lv_goto (tgt := 17) hx hb dX9_betters_134 (by decide) ?_
      exact K17 L1 L2 z2 f9_areSteps f9_foundMany f9_many f9_rank f9_freeMany J3 ai al _ _ _ (by omega) (by omega) (by omega) (by omega) (by omega) (by omega) (by omega) (by omega) (by omega) (by omega) (by omega) (by omega) (by first | exact h13 | exact Or.inl (by omega) | exact Or.inl (by decide +kernel)) h14 h15 h16 (by omega) (by omega) hI hF hG hP hD hS (lv_sub hl_1 [1, 2, 3, 4, 0] rfl)
    · have c1 := j_nlt (a := 20) (b := L6.toInt) (by decide +kernel) rfl c1
      refine lv_iconst (v := 0) hx hb dX9_betters_36 (by decide) ?_
      refine lv_istore (lv' := [(7, .int 0), (0, .ref (ad 22)), (1, .int L1), (2, .int L2), (3, .long J3), (5, .int L5), (6, .int L6)]) hx hb dX9_betters_37 hl (by decide) rfl (fun ls_2 hl_2 => ?_)
      exact r040_X9_betters_b39 C hp0 n17 K17 n ih _ L1 L2 L5 L6 0 f9_areSteps f9_foundMany f9_many f9_rank f9_freeMany J3 ai al _ _ _ (by first | omega | decide | (have ka0 := (by decide +kernel : (0 : Int32).toInt = 0); omega)) (by first | omega | decide | (have ka0 := (by decide +kernel : (0 : Int32).toInt = 0); omega)) (by first | omega | decide | (have ka0 := (by decide +kernel : (0 : Int32).toInt = 0); omega)) (by first | omega | decide | (have ka0 := (by decide +kernel : (0 : Int32).toInt = 0); omega)) (by first | omega | decide | (have ka0 := (by decide +kernel : (0 : Int32).toInt = 0); omega)) (by first | omega | decide | (have ka0 := (by decide +kernel : (0 : Int32).toInt = 0); omega)) (by first | omega | decide | (have ka0 := (by decide +kernel : (0 : Int32).toInt = 0); omega)) (by first | omega | decide | (have ka0 := (by decide +kernel : (0 : Int32).toInt = 0); omega)) (by first | omega | decide | (have ka0 := (by decide +kernel : (0 : Int32).toInt = 0); omega)) (by first | omega | decide | (have ka0 := (by decide +kernel : (0 : Int32).toInt = 0); omega)) (by first | omega | decide | (have ka0 := (by decide +kernel : (0 : Int32).toInt = 0); omega)) (by first | omega | decide | (have ka0 := (by decide +kernel : (0 : Int32).toInt = 0); omega)) (by first | omega | decide | (have ka0 := (by decide +kernel : (0 : Int32).toInt = 0); omega)) (by first | omega | decide | (have ka0 := (by decide +kernel : (0 : Int32).toInt = 0); omega)) (by first | exact h13 | exact Or.inl (by omega) | exact Or.inl (by decide +kernel)) h14 h15 h16 (fun u hu => (zlt hu).elim) (by first | omega | decide | (have ka0 := (by decide +kernel : (0 : Int32).toInt = 0); omega)) (by first | omega | decide | (have ka0 := (by decide +kernel : (0 : Int32).toInt = 0); omega)) (by first | omega | decide | (have ka0 := (by decide +kernel : (0 : Int32).toInt = 0); omega)) (by first | omega | decide | (have ka0 := (by decide +kernel : (0 : Int32).toInt = 0); omega)) (j_fuel _) (by omega) hI hF hG hP hD hS (lv_sub hl_2 [1, 2, 3, 4, 5, 6, 0] rfl)
set_option maxRecDepth 100000 in
set_option maxHeartbeats 4000000 in
theorem r040_X9_betters_b17 {p : Program} {l : Launch} {e : Env} {s : State} {m : MethodId} {args : Array Value} {below : List Frame} {meth : Method} {c : Code} {A : Nat → Prop} {dC : Nat → ClassId} {dI : Nat → Nat → Nat} {cI cJ cII cJJ : ClassId} {ad : Nat → Nat} {g : Nat} {f9_size f9_equations f9_arePlans f9_planMany : Int32} {ai0 : Nat → Nat → Int32} {al0 : Nat → Nat → Int64} {o_f9_areSteps : Int32} {o_f9_many : Int32} (C : Cx p c s m meth args A dC dI (TY cI cJ cII cJJ) cX9_betters (some .int) 8 RX9 0 g) (hp0 : (o_f9_areSteps.toInt = 0 ∨ CIa ai0 f9_size o_f9_many.toInt)) : ∀ (n : Nat), ∀ (L1 L2 L5 f9_areSteps f9_foundMany f9_many f9_rank f9_freeMany : Int32) (J3 : Int64) (ai : Nat → Nat → Int32) (al : Nat → Nat → Int64) (H : Heap) (locs : List Loc) (ls : Array Slot), (-99999 ≤ L1.toInt ∧ L1.toInt ≤ 5999) → (0 ≤ L2.toInt ∧ L2.toInt ≤ 20) → (0 ≤ L5.toInt ∧ L5.toInt ≤ 6000) → (1 ≤ f9_size.toInt ∧ f9_size.toInt ≤ 4) → (0 ≤ f9_equations.toInt ∧ f9_equations.toInt ≤ 3) → (1 ≤ f9_areSteps.toInt ∧ f9_areSteps.toInt ≤ 1) → (0 ≤ f9_foundMany.toInt ∧ f9_foundMany.toInt ≤ 99999) → (0 ≤ f9_many.toInt ∧ f9_many.toInt ≤ 6000) → (0 ≤ f9_rank.toInt ∧ f9_rank.toInt ≤ 3) → (0 ≤ f9_freeMany.toInt ∧ f9_freeMany.toInt ≤ 4) → (0 ≤ f9_arePlans.toInt ∧ f9_arePlans.toInt ≤ 1) → (0 ≤ f9_planMany.toInt ∧ f9_planMany.toInt ≤ 194481) → (f9_areSteps.toInt = 0 ∨ CIa ai f9_size f9_many.toInt) → ai 27 = ai0 27 → J3.toInt ≤ (csF ai0 (ai0 27) f9_size.toInt.toNat).toInt → (L1.toInt = -99999 ∨ (0 ≤ L1.toInt ∧ L1.toInt ≤ 5999 ∧ J3.toInt < (csF ai0 (ai0 27) f9_size.toInt.toNat).toInt ∧ J3 = csF ai (hvv ai0 ai L1.toInt.toNat L2) f9_size.toInt.toNat)) → f9_many.toInt - L5.toInt < (n : Int) → (0 : Int) < (n : Int) → IAM ai → FR [7, 8, 9, 10, 11, 12, 13, 14, 15, 16, 20, 27] ai0 ai → FL [17, 18] al0 al → va_P (dC, dI) vwCl (WM cI cJ cII cJJ ad f9_size f9_equations f9_areSteps f9_foundMany f9_many f9_rank f9_freeMany f9_arePlans f9_planMany ai al) H → va_D A (WM cI cJ cII cJJ ad f9_size f9_equations f9_areSteps f9_foundMany f9_many f9_rank f9_freeMany f9_arePlans f9_planMany ai al) → va_S A s.heap H locs → lv_has ls 8 [(0, .ref (ad 22)), (1, .int L1), (2, .int L2), (3, .long J3), (5, .int L5)] → W p l e ({ frames := 11, cells := 0, slots := 0, locals := 620 } : Room) s m args below meth c H locs 0 0 (MQ below (Q_r040_X9_betters dC dI cI cJ cII cJJ ad f9_size f9_equations f9_arePlans f9_planMany ai0 al0 o_f9_areSteps o_f9_many A) args s 0 0 A) (F0 m 17 ls []) := by
  obtain ⟨hx, hb, hr, hml, hown, hts, hk, hA, hK, hX⟩ := id C
  intro n
  induction n with
  | zero =>
    intro L1 L2 L5 f9_areSteps f9_foundMany f9_many f9_rank f9_freeMany J3 ai al H locs ls h0 h1 h2 h3 h4 h5 h6 h7 h8 h9 h10 h11 h12 h13 h14 h15 h16 h17 hI hF hG hP hD hS hl
    exact absurd h17 (by omega)
  | succ n ih =>
    intro L1 L2 L5 f9_areSteps f9_foundMany f9_many f9_rank f9_freeMany J3 ai al H locs ls h0 h1 h2 h3 h4 h5 h6 h7 h8 h9 h10 h11 h12 h13 h14 h15 h16 h17 hI hF hG hP hD hS hl
    refine lv_iload hx hb dX9_betters_17 (lv_at hl 4 rfl) ?_
    refine lv_aload_n hx hb dX9_betters_19 rfl (lv_at hl 0 rfl) ?_
    refine gf (k := 22) hx hb hts inX9 hown hK hP k_817 rfl (by decide) rfl 22 rfl (.int f9_many) rfl dX9_betters_20 ?_
    refine lv_icmp_ge (tgt := 137) hx hb dX9_betters_23 (by decide) (fun c1 => ?_) (fun c1 => ?_)
    · have c1 := j_le (a := f9_many.toInt) (b := L5.toInt) rfl rfl c1
      refine lv_iload_n hx hb dX9_betters_137 rfl (lv_at hl 1 rfl) ?_
      refine lv_ldc (v := (-99999)) hx hb hown (hts _ k_1014) dX9_betters_138 ?_
      refine lv_icmp_ne (tgt := 146) hx hb dX9_betters_140 (by decide) (fun c2 => ?_) (fun c2 => ?_)
      · have c2 := j_ne (a := L1.toInt) (b := (-99999)) rfl (by decide +kernel) c2
        have q_1 := h15.resolve_left (by omega)
        refine lv_iconst (v := 0) hx hb dX9_betters_146 (by decide) ?_
        refine lv_istore (lv' := [(5, .int 0), (0, .ref (ad 22)), (1, .int L1), (2, .int L2), (3, .long J3)]) hx hb dX9_betters_147 hl (by decide) rfl (fun ls_1 hl_1 => ?_)
        exact r040_X9_betters_b149 C hp0  _ L1 L2 0 f9_areSteps f9_foundMany f9_many f9_rank f9_freeMany J3 ai al _ _ _ (by first | omega | decide | (have ka0 := (by decide +kernel : (0 : Int32).toInt = 0); omega)) (by first | omega | decide | (have ka0 := (by decide +kernel : (0 : Int32).toInt = 0); omega)) (by first | omega | decide | (have ka0 := (by decide +kernel : (0 : Int32).toInt = 0); omega)) (by first | omega | decide | (have ka0 := (by decide +kernel : (0 : Int32).toInt = 0); omega)) (by first | omega | decide | (have ka0 := (by decide +kernel : (0 : Int32).toInt = 0); omega)) (by first | omega | decide | (have ka0 := (by decide +kernel : (0 : Int32).toInt = 0); omega)) (by first | omega | decide | (have ka0 := (by decide +kernel : (0 : Int32).toInt = 0); omega)) (by first | omega | decide | (have ka0 := (by decide +kernel : (0 : Int32).toInt = 0); omega)) (by first | omega | decide | (have ka0 := (by decide +kernel : (0 : Int32).toInt = 0); omega)) (by first | omega | decide | (have ka0 := (by decide +kernel : (0 : Int32).toInt = 0); omega)) (by first | omega | decide | (have ka0 := (by decide +kernel : (0 : Int32).toInt = 0); omega)) (by first | omega | decide | (have ka0 := (by decide +kernel : (0 : Int32).toInt = 0); omega)) (by first | exact h12 | exact Or.inl (by omega) | exact Or.inl (by decide +kernel)) q_1.2.2.1 q_1.2.2.2 (fun u hu => (zlt hu).elim) (fun u _ => by rw [h13]) (j_fuel _) (by omega) hI hF hG hP hD hS (lv_sub hl_1 [1, 2, 3, 4, 0] rfl)
      · have c2 := j_eq (a := L1.toInt) (b := (-99999)) rfl (by decide +kernel) c2
        refine lv_ldc (v := (-99999)) hx hb hown (hts _ k_1014) dX9_betters_143 ?_
        exact r2_i hx hb hr hk hS dX9_betters_145 (fun t ht hW => ⟨f9_areSteps, f9_foundMany, f9_many, f9_rank, f9_freeMany, ai, al, ⟨(by first | omega | decide | exact Or.inl (by decide) | exact Or.inr (by decide) | exact Or.inr (by omega)), (by first | omega | decide | exact Or.inl (by decide) | exact Or.inr (by decide) | exact Or.inr (by omega)), (by first | omega | decide | exact Or.inl (by decide) | exact Or.inr (by decide) | exact Or.inr (by omega)), (by first | omega | decide | exact Or.inl (by decide) | exact Or.inr (by decide) | exact Or.inr (by omega)), (by first | omega | decide | exact Or.inl (by decide) | exact Or.inr (by decide) | exact Or.inr (by omega)), (by first | omega | decide | exact Or.inl (by decide) | exact Or.inr (by decide) | exact Or.inr (by omega)), (by first | exact h12 | exact Or.inl (by omega) | exact Or.inl (by decide +kernel)), (Or.inl (by decide)), hI, hF, hG⟩, by rw [ht]; exact hP, va_K.moved hW.alike hK, hD⟩)
    · have c1 := j_nle (a := f9_many.toInt) (b := L5.toInt) rfl rfl c1
      refine lv_iconst (v := 1) hx hb dX9_betters_26 (by decide) ?_
      refine lv_istore (lv' := [(6, .int 1), (0, .ref (ad 22)), (1, .int L1), (2, .int L2), (3, .long J3), (5, .int L5)]) hx hb dX9_betters_27 hl (by decide) rfl (fun ls_2 hl_2 => ?_)
      exact r040_X9_betters_b29 C hp0 n ih _ L1 L2 L5 1 f9_areSteps f9_foundMany f9_many f9_rank f9_freeMany J3 ai al _ _ _ (by first | omega | decide | (have ka0 := (by decide +kernel : (1 : Int32).toInt = 1); omega)) (by first | omega | decide | (have ka0 := (by decide +kernel : (1 : Int32).toInt = 1); omega)) (by first | omega | decide | (have ka0 := (by decide +kernel : (1 : Int32).toInt = 1); omega)) (by first | omega | decide | (have ka0 := (by decide +kernel : (1 : Int32).toInt = 1); omega)) (by first | omega | decide | (have ka0 := (by decide +kernel : (1 : Int32).toInt = 1); omega)) (by first | omega | decide | (have ka0 := (by decide +kernel : (1 : Int32).toInt = 1); omega)) (by first | omega | decide | (have ka0 := (by decide +kernel : (1 : Int32).toInt = 1); omega)) (by first | omega | decide | (have ka0 := (by decide +kernel : (1 : Int32).toInt = 1); omega)) (by first | omega | decide | (have ka0 := (by decide +kernel : (1 : Int32).toInt = 1); omega)) (by first | omega | decide | (have ka0 := (by decide +kernel : (1 : Int32).toInt = 1); omega)) (by first | omega | decide | (have ka0 := (by decide +kernel : (1 : Int32).toInt = 1); omega)) (by first | omega | decide | (have ka0 := (by decide +kernel : (1 : Int32).toInt = 1); omega)) (by first | omega | decide | (have ka0 := (by decide +kernel : (1 : Int32).toInt = 1); omega)) (by first | exact h12 | exact Or.inl (by omega) | exact Or.inl (by decide +kernel)) h13 h14 h15 (by first | omega | decide | (have ka0 := (by decide +kernel : (1 : Int32).toInt = 1); omega)) (by first | omega | decide | (have ka0 := (by decide +kernel : (1 : Int32).toInt = 1); omega)) (j_fuel _) (by omega) hI hF hG hP hD hS (lv_sub hl_2 [1, 2, 3, 4, 5, 0] rfl)
set_option maxRecDepth 100000 in
set_option maxHeartbeats 4000000 in
theorem r040_X9_betters (l : Launch) (dC : Nat → ClassId) (dI : Nat → Nat → Nat) (cI cJ cII cJJ : ClassId) (sz g : Nat) (ad : Nat → Nat) (f9_size f9_equations f9_areSteps f9_foundMany f9_many f9_rank f9_freeMany f9_arePlans f9_planMany : Int32) (ai : Nat → Nat → Int32) (al : Nat → Nat → Int64) (h_f9_size : (1 ≤ f9_size.toInt ∧ f9_size.toInt ≤ 4)) (h_f9_equations : (0 ≤ f9_equations.toInt ∧ f9_equations.toInt ≤ 3)) (h_f9_areSteps : (0 ≤ f9_areSteps.toInt ∧ f9_areSteps.toInt ≤ 1)) (h_f9_foundMany : (0 ≤ f9_foundMany.toInt ∧ f9_foundMany.toInt ≤ 99999)) (h_f9_many : (0 ≤ f9_many.toInt ∧ f9_many.toInt ≤ 6000)) (h_f9_rank : (0 ≤ f9_rank.toInt ∧ f9_rank.toInt ≤ 3)) (h_f9_freeMany : (0 ≤ f9_freeMany.toInt ∧ f9_freeMany.toInt ≤ 4)) (h_f9_arePlans : (0 ≤ f9_arePlans.toInt ∧ f9_arePlans.toInt ≤ 1)) (h_f9_planMany : (0 ≤ f9_planMany.toInt ∧ f9_planMany.toInt ≤ 194481)) (hp0 : (f9_areSteps.toInt = 0 ∨ CIa ai f9_size f9_many.toInt)) (hI : IAM ai) : Met l yX9_betters (.code yX9_betters cX9_betters 8 (some .int) :: TT) ({ frames := 11, cells := 0, slots := 0, locals := 620 } : Room) (PcS dC dI (TY cI cJ cII cJJ) [.ref (ad 22)] (WM cI cJ cII cJJ ad f9_size f9_equations f9_areSteps f9_foundMany f9_many f9_rank f9_freeMany f9_arePlans f9_planMany ai al) sz 0 g) (Q_r040_X9_betters dC dI cI cJ cII cJJ ad f9_size f9_equations f9_arePlans f9_planMany ai al f9_areSteps f9_many (va_A (WM cI cJ cII cJJ ad f9_size f9_equations f9_areSteps f9_foundMany f9_many f9_rank f9_freeMany f9_arePlans f9_planMany ai al) sz)) 0 0 (va_A (WM cI cJ cII cJJ ad f9_size f9_equations f9_areSteps f9_foundMany f9_many f9_rank f9_freeMany f9_arePlans f9_planMany ai al) sz) := by
  refine SM.of (y := yX9_betters) (maxL := 8) (av := [.ref (ad 22)]) (Q_r040_X9_betters dC dI cI cJ cII cJJ ad f9_size f9_equations f9_arePlans f9_planMany ai al f9_areSteps f9_many) (by decide +kernel) (Nat.le_of_ble_eq_true rfl) (fun p e s m below meth c A ls hx hb hr hml hown hts hk hnm hA hK hP hD hS hX hl => ?_)
  have C : Cx p c s m meth (([.ref (ad 22)] : List Value).toArray) A dC dI (TY cI cJ cII cJJ) cX9_betters (some .int) 8 RX9 0 g := ⟨hx, hb, hr, hml, hown, hts, hk, hA, hK, hX⟩
  have hown : s.vm.findClass RX9 = some m.cls := hown
  have hl : lv_has ls 8 [(0, .ref (ad 22))] := hl
  obtain ⟨H, hH⟩ : ∃ q, q = s.heap := ⟨_, rfl⟩
  rw [← hH] at hP
  have hS : va_S A s.heap H [] := by rw [hH]; exact hS
  rw [← hH]
  have hF := FR_refl [7, 8, 9, 10, 11, 12, 13, 14, 15, 16, 20, 27] ai
  have hG := FL_refl [17, 18] al
  refine lv_aload_n hx hb dX9_betters_0 rfl (lv_at hl 0 rfl) ?_
  have hM := r018_X9_findSteps l dC dI cI cJ cII cJJ H.size 0 ad f9_size f9_equations f9_areSteps f9_foundMany f9_many f9_rank f9_freeMany f9_arePlans f9_planMany ai al (by omega) (by omega) (by omega) (by omega) (by omega) (by omega) (by omega) (by omega) (by omega) (by first | exact hp0 | exact Or.inl (by omega) | exact Or.inl (by decide +kernel)) hI
  refine k2V_v (q0 := 22) ⟨hx, hb, hml, hown, hts⟩ hK hP hD hS hA hX cv_RX9_180 hM ⟨by decide +kernel, by decide +kernel⟩ rfl rfl (Or.inl rfl) (rest := []) rfl rfl rfl hl.1 rfl (Nat.le_of_ble_eq_true rfl) dX9_betters_1 ⟨Nat.le_of_ble_eq_true rfl, Nat.le_of_ble_eq_true rfl⟩ (fun t H1 locs_1 ht hB hS_1 hFc => ?_)
  obtain ⟨v2, v3, v4, v5, v6, ai7, al8, ⟨gpr1_0, gpr1_1, gpr1_2, gpr1_3, gpr1_4, gpr1_5, gpr1_6, hI_2, hFr_r1, hGr_r1⟩, hP_2, -, hD_2⟩ := hB
  have hF_3 := FR_tr hF hFr_r1 (by decide)
  have hG_4 := FL_tr hG hGr_r1 (by decide)
  rw [ht] at hP_2
  have hD_5 := hD_2.weaken (B := A) (fun k q _ h9 => hFc q.1 h9)
  clear ht
  generalize H1 = H_6 at hP_2 hS_1 ⊢
  refine lv_ldc (v := (-99999)) hx hb hown (hts _ k_1014) dX9_betters_4 ?_
  refine lv_istore_n (lv' := [(1, .int (-99999)), (0, .ref (ad 22))]) hx hb dX9_betters_6 rfl hl (by decide) rfl (fun ls_7 hl_7 => ?_)
  refine lv_iconst (v := 0) hx hb dX9_betters_7 (by decide) ?_
  refine lv_istore_n (lv' := [(2, .int 0), (1, .int (-99999)), (0, .ref (ad 22))]) hx hb dX9_betters_8 rfl hl_7 (by decide) rfl (fun ls_8 hl_8 => ?_)
  refine lv_aload_n hx hb dX9_betters_9 rfl (lv_at hl_8 2 rfl) ?_
  have hM := r038_X9_cost l dC dI cI cJ cII cJJ H_6.size 0 ad f9_size f9_equations v2 v3 v4 v5 v6 f9_arePlans f9_planMany ai7 al8 (by omega) (by omega) (by omega) (by omega) (by omega) (by omega) (by omega) (by omega) (by omega) hI_2
  refine k2V_l (q0 := 22) ⟨hx, hb, hml, hown, hts⟩ hK hP_2 hD_5 hS_1 hA hX cv_RX9_224 hM ⟨by decide +kernel, by decide +kernel⟩ rfl rfl (Or.inl rfl) (rest := []) rfl rfl rfl hl_8.1 rfl (Nat.le_of_ble_eq_true rfl) dX9_betters_10 ⟨Nat.le_of_ble_eq_true rfl, Nat.le_of_ble_eq_true rfl⟩ (fun r9 t H1 locs_9 ht hB hS_9 hFc => ?_)
  obtain ⟨gpr9_0, hP_10, -, hD_10⟩ := hB
  rw [ht] at hP_10
  have hD_11 := hD_10.weaken (B := A) (fun k q _ h9 => hFc q.1 h9)
  clear ht
  generalize H1 = H_12 at hP_10 hS_9 ⊢
  refine lv_lstore_n (lv' := [(3, .long r9), (2, .int 0), (1, .int (-99999)), (0, .ref (ad 22))]) hx hb dX9_betters_13 rfl hl_8 (by decide) rfl (fun ls_13 hl_13 => ?_)
  refine lv_iconst (v := 0) hx hb dX9_betters_14 (by decide) ?_
  refine lv_istore (lv' := [(5, .int 0), (3, .long r9), (2, .int 0), (1, .int (-99999)), (0, .ref (ad 22))]) hx hb dX9_betters_15 hl_13 (by decide) rfl (fun ls_14 hl_14 => ?_)
  exact r040_X9_betters_b17 C hp0  _ (-99999) 0 0 v2 v3 v4 v5 v6 r9 ai7 al8 _ _ _ (by first | omega | decide | (have ka0 := (by decide +kernel : ((-99999) : Int32).toInt = (-99999)); have ka1 := (by decide +kernel : (0 : Int32).toInt = 0); omega)) (by first | omega | decide | (have ka0 := (by decide +kernel : ((-99999) : Int32).toInt = (-99999)); have ka1 := (by decide +kernel : (0 : Int32).toInt = 0); omega)) (by first | omega | decide | (have ka0 := (by decide +kernel : ((-99999) : Int32).toInt = (-99999)); have ka1 := (by decide +kernel : (0 : Int32).toInt = 0); omega)) (by first | omega | decide | (have ka0 := (by decide +kernel : ((-99999) : Int32).toInt = (-99999)); have ka1 := (by decide +kernel : (0 : Int32).toInt = 0); omega)) (by first | omega | decide | (have ka0 := (by decide +kernel : ((-99999) : Int32).toInt = (-99999)); have ka1 := (by decide +kernel : (0 : Int32).toInt = 0); omega)) (by first | omega | decide | (have ka0 := (by decide +kernel : ((-99999) : Int32).toInt = (-99999)); have ka1 := (by decide +kernel : (0 : Int32).toInt = 0); omega)) (by first | omega | decide | (have ka0 := (by decide +kernel : ((-99999) : Int32).toInt = (-99999)); have ka1 := (by decide +kernel : (0 : Int32).toInt = 0); omega)) (by first | omega | decide | (have ka0 := (by decide +kernel : ((-99999) : Int32).toInt = (-99999)); have ka1 := (by decide +kernel : (0 : Int32).toInt = 0); omega)) (by first | omega | decide | (have ka0 := (by decide +kernel : ((-99999) : Int32).toInt = (-99999)); have ka1 := (by decide +kernel : (0 : Int32).toInt = 0); omega)) (by first | omega | decide | (have ka0 := (by decide +kernel : ((-99999) : Int32).toInt = (-99999)); have ka1 := (by decide +kernel : (0 : Int32).toInt = 0); omega)) (by first | omega | decide | (have ka0 := (by decide +kernel : ((-99999) : Int32).toInt = (-99999)); have ka1 := (by decide +kernel : (0 : Int32).toInt = 0); omega)) (by first | omega | decide | (have ka0 := (by decide +kernel : ((-99999) : Int32).toInt = (-99999)); have ka1 := (by decide +kernel : (0 : Int32).toInt = 0); omega)) (by first | exact (Or.inr gpr1_5) | exact Or.inl (by omega) | exact Or.inl (by decide +kernel)) (hFr_r1 27 (by decide)) (by rw [gpr9_0, csF_congr (b := ai) (y := ai 27) (hFr_r1 25 (by decide)) (hFr_r1 26 (by decide)) _ (fun u _ => by rw [hFr_r1 27 (by decide)])]; exact Int.le_refl _) (Or.inl (by decide)) (j_fuel _) (by omega) hI_2 hF_3 hG_4 hP_10 hD_11 hS_9 (lv_sub hl_14 [4, 3, 2, 1, 0] rfl)
def Q_r041_X9_works (dC : Nat → ClassId) (dI : Nat → Nat → Nat) (cI cJ cII cJJ : ClassId) (ad : Nat → Nat) (f9_foundMany f9_many f9_rank f9_freeMany f9_planMany : Int32) (ai0 : Nat → Nat → Int32) (al : Nat → Nat → Int64) (x1 : Int32) (o_f9_size : Int32) (o_f9_equations : Int32) (o_f9_areSteps : Int32) : (Nat → Prop) → Array Value → State → Outcome → State → Prop := fun A => QI (fun r t => ∃ (n_f9_size n_f9_equations n_f9_areSteps n_f9_arePlans : Int32), ∃ (n_ai : Nat → Nat → Int32), ((-7 ≤ r.toInt ∧ r.toInt ≤ 1) ∧ (1 ≤ n_f9_size.toInt ∧ n_f9_size.toInt ≤ 4) ∧ (0 ≤ n_f9_equations.toInt ∧ n_f9_equations.toInt ≤ 3) ∧ (0 ≤ n_f9_areSteps.toInt ∧ n_f9_areSteps.toInt ≤ 1) ∧ (0 ≤ n_f9_arePlans.toInt ∧ n_f9_arePlans.toInt ≤ 1) ∧ (n_f9_areSteps.toInt = 0 ∨ CIa n_ai n_f9_size f9_many.toInt) ∧ ((x1.toInt < 1 ∧ r.toInt = -4 ∧ n_f9_size.toInt = o_f9_size.toInt ∧ n_f9_equations.toInt = o_f9_equations.toInt) ∨ (4 < x1.toInt ∧ r.toInt = -6 ∧ n_f9_size.toInt = o_f9_size.toInt ∧ n_f9_equations.toInt = o_f9_equations.toInt) ∨ (1 ≤ x1.toInt ∧ x1.toInt ≤ 4 ∧ r.toInt = 1 ∧ n_f9_size.toInt = x1.toInt ∧ n_f9_equations.toInt = 0)) ∧ IAM n_ai ∧ FR [2, 23, 24, 25, 26, 27] ai0 n_ai) ∧ WO dC dI (TY cI cJ cII cJJ) (WM cI cJ cII cJJ ad n_f9_size n_f9_equations n_f9_areSteps f9_foundMany f9_many f9_rank f9_freeMany n_f9_arePlans f9_planMany n_ai al) A t) A
set_option maxRecDepth 100000 in
set_option maxHeartbeats 4000000 in
theorem r041_X9_works (l : Launch) (dC : Nat → ClassId) (dI : Nat → Nat → Nat) (cI cJ cII cJJ : ClassId) (sz g : Nat) (ad : Nat → Nat) (f9_size f9_equations f9_areSteps f9_foundMany f9_many f9_rank f9_freeMany f9_arePlans f9_planMany : Int32) (ai : Nat → Nat → Int32) (al : Nat → Nat → Int64) (x1 : Int32) (h_f9_size : (1 ≤ f9_size.toInt ∧ f9_size.toInt ≤ 4)) (h_f9_equations : (0 ≤ f9_equations.toInt ∧ f9_equations.toInt ≤ 3)) (h_f9_areSteps : (0 ≤ f9_areSteps.toInt ∧ f9_areSteps.toInt ≤ 1)) (h_f9_foundMany : (0 ≤ f9_foundMany.toInt ∧ f9_foundMany.toInt ≤ 99999)) (h_f9_many : (0 ≤ f9_many.toInt ∧ f9_many.toInt ≤ 6000)) (h_f9_rank : (0 ≤ f9_rank.toInt ∧ f9_rank.toInt ≤ 3)) (h_f9_freeMany : (0 ≤ f9_freeMany.toInt ∧ f9_freeMany.toInt ≤ 4)) (h_f9_arePlans : (0 ≤ f9_arePlans.toInt ∧ f9_arePlans.toInt ≤ 1)) (h_f9_planMany : (0 ≤ f9_planMany.toInt ∧ f9_planMany.toInt ≤ 194481)) (hp0 : (f9_areSteps.toInt = 0 ∨ CIa ai f9_size f9_many.toInt)) (hI : IAM ai) : Met l yX9_works (.code yX9_works cX9_works 2 (some .int) :: TT) ({ frames := 3, cells := 0, slots := 0, locals := 140 } : Room) (PcS dC dI (TY cI cJ cII cJJ) [.ref (ad 22), .int x1] (WM cI cJ cII cJJ ad f9_size f9_equations f9_areSteps f9_foundMany f9_many f9_rank f9_freeMany f9_arePlans f9_planMany ai al) sz 0 g) (Q_r041_X9_works dC dI cI cJ cII cJJ ad f9_foundMany f9_many f9_rank f9_freeMany f9_planMany ai al x1 f9_size f9_equations f9_areSteps (va_A (WM cI cJ cII cJJ ad f9_size f9_equations f9_areSteps f9_foundMany f9_many f9_rank f9_freeMany f9_arePlans f9_planMany ai al) sz)) 0 0 (va_A (WM cI cJ cII cJJ ad f9_size f9_equations f9_areSteps f9_foundMany f9_many f9_rank f9_freeMany f9_arePlans f9_planMany ai al) sz) := by
  refine SM.of (y := yX9_works) (maxL := 2) (av := [.ref (ad 22), .int x1]) (Q_r041_X9_works dC dI cI cJ cII cJJ ad f9_foundMany f9_many f9_rank f9_freeMany f9_planMany ai al x1 f9_size f9_equations f9_areSteps) (by decide +kernel) (Nat.le_of_ble_eq_true rfl) (fun p e s m below meth c A ls hx hb hr hml hown hts hk hnm hA hK hP hD hS hX hl => ?_)
  have C : Cx p c s m meth (([.ref (ad 22), .int x1] : List Value).toArray) A dC dI (TY cI cJ cII cJJ) cX9_works (some .int) 2 RX9 0 g := ⟨hx, hb, hr, hml, hown, hts, hk, hA, hK, hX⟩
  have hown : s.vm.findClass RX9 = some m.cls := hown
  have hl : lv_has ls 2 [(0, .ref (ad 22)), (1, .int x1)] := hl
  obtain ⟨H, hH⟩ : ∃ q, q = s.heap := ⟨_, rfl⟩
  rw [← hH] at hP
  have hS : va_S A s.heap H [] := by rw [hH]; exact hS
  rw [← hH]
  have hF := FR_refl [2, 23, 24, 25, 26, 27] ai
  have ra_x1 := s_any x1
  refine lv_iload_n hx hb dX9_works_0 rfl (lv_at hl 1 rfl) ?_
  refine lv_iconst (v := 1) hx hb dX9_works_1 (by decide) ?_
  refine lv_icmp_ge (tgt := 12) hx hb dX9_works_2 (by decide) (fun c1 => ?_) (fun c1 => ?_)
  · have c1 := j_le (a := 1) (b := x1.toInt) (by decide +kernel) rfl c1
    refine lv_iload_n hx hb dX9_works_12 rfl (lv_at hl 1 rfl) ?_
    refine lv_iconst (v := 4) hx hb dX9_works_13 (by decide) ?_
    refine lv_icmp_le (tgt := 24) hx hb dX9_works_14 (by decide) (fun c2 => ?_) (fun c2 => ?_)
    · have c2 := j_le (a := x1.toInt) (b := 4) rfl (by decide +kernel) c2
      refine lv_aload_n hx hb dX9_works_24 rfl (lv_at hl 0 rfl) ?_
      refine lv_iload_n hx hb dX9_works_25 rfl (lv_at hl 1 rfl) ?_
      refine pf (k := 12) hx hb hts inX9 tyX9_ok nmX9 hown hK hP hD hS k_807 rfl (by decide) rfl rfl 22 rfl rfl rfl (Nat.le_of_ble_eq_true rfl) dX9_works_26 (W' := (WM cI cJ cII cJJ ad x1 f9_equations f9_areSteps f9_foundMany f9_many f9_rank f9_freeMany f9_arePlans f9_planMany ai al)) rfl (fun H_1 locs_1 hP_1 hD_1 hS_1 => ?_)
      refine lv_aload_n hx hb dX9_works_29 rfl (lv_at hl 0 rfl) ?_
      have hM := r022_X9_begins l dC dI cI cJ cII cJJ H_1.size 0 ad x1 f9_equations f9_areSteps f9_foundMany f9_many f9_rank f9_freeMany f9_arePlans f9_planMany ai al (by omega) (by omega) (by omega) (by omega) (by omega) (by omega) (by omega) (by omega) (by omega) hI
      refine k2V_v (q0 := 22) ⟨hx, hb, hml, hown, hts⟩ hK hP_1 hD_1 hS_1 hA hX cv_RX9_99 hM ⟨by decide +kernel, by decide +kernel⟩ rfl rfl (Or.inl rfl) (rest := []) rfl rfl rfl hl.1 rfl (Nat.le_of_ble_eq_true rfl) dX9_works_30 ⟨Nat.le_of_ble_eq_true rfl, Nat.le_of_ble_eq_true rfl⟩ (fun t H1 locs_2 ht hB hS_2 hFc => ?_)
      obtain ⟨v4, v5, v6, ai7, ⟨gpr3_0, gpr3_1, gpr3_2, hI_3, hFr_r3⟩, hP_3, -, hD_3⟩ := hB
      have hF_4 := FR_tr hF hFr_r3 (by decide)
      rw [ht] at hP_3
      have hD_5 := hD_3.weaken (B := A) (fun k q _ h9 => hFc q.1 h9)
      clear ht
      generalize H1 = H_6 at hP_3 hS_2 ⊢
      refine lv_iconst (v := 1) hx hb dX9_works_33 (by decide) ?_
      exact r2_i hx hb hr hk hS_2 dX9_works_34 (fun t ht hW => ⟨x1, v4, v5, v6, ai7, ⟨(by first | omega | decide | exact Or.inl (by decide) | exact Or.inr (by decide) | exact Or.inr (by omega)), (by first | omega | decide | exact Or.inl (by decide) | exact Or.inr (by decide) | exact Or.inr (by omega)), (by first | omega | decide | exact Or.inl (by decide) | exact Or.inr (by decide) | exact Or.inr (by omega)), (by first | omega | decide | exact Or.inl (by decide) | exact Or.inr (by decide) | exact Or.inr (by omega)), (by first | omega | decide | exact Or.inl (by decide) | exact Or.inr (by decide) | exact Or.inr (by omega)), (by first | exact (hp0.imp (fun q => q) (fun q => CIa_t q hFr_r3 (by decide))) | exact Or.inl (by omega) | exact Or.inl (by decide +kernel)), (by have kr1 : (1 : Int32).toInt = 1 := (by decide); first | omega | decide | exact Or.inl (by decide) | exact Or.inr (by decide) | exact Or.inr (by omega)), hI_3, hF_4⟩, by rw [ht]; exact hP_3, va_K.moved hW.alike hK, hD_5⟩)
    · have c2 := j_nle (a := x1.toInt) (b := 4) rfl (by decide +kernel) c2
      refine lv_aload_n hx hb dX9_works_17 rfl (lv_at hl 0 rfl) ?_
      refine lv_bipush (v := (-6)) hx hb dX9_works_18 (by decide) ?_
      have kcm6 : ((-6) : Int32).toInt = (-6) := by decide +kernel
      have hM := r021_X9_refuse l dC dI cI cJ cII cJJ H.size 0 ad f9_size f9_equations f9_areSteps f9_foundMany f9_many f9_rank f9_freeMany f9_arePlans f9_planMany ai al (-6) (by decide +kernel) (by omega) (by omega) (by omega) (by omega) (by omega) (by omega) (by omega) (by omega) (by omega) hI
      refine k2V_i (q0 := 22) ⟨hx, hb, hml, hown, hts⟩ hK hP hD hS hA hX cv_RX9_112 hM ⟨by decide +kernel, by decide +kernel⟩ rfl rfl (Or.inl rfl) (rest := []) rfl rfl rfl hl.1 rfl (Nat.le_of_ble_eq_true rfl) dX9_works_20 ⟨Nat.le_of_ble_eq_true rfl, Nat.le_of_ble_eq_true rfl⟩ (fun r8 t H1 locs_7 ht hB hS_7 hFc => ?_)
      obtain ⟨ai9, ⟨gpr8_0, gpr8_1, hI_8, hFr_r8⟩, hP_8, -, hD_8⟩ := hB
      have hF_9 := FR_tr hF hFr_r8 (by decide)
      rw [ht] at hP_8
      have hD_10 := hD_8.weaken (B := A) (fun k q _ h9 => hFc q.1 h9)
      clear ht
      generalize H1 = H_11 at hP_8 hS_7 ⊢
      exact r2_i hx hb hr hk hS_7 dX9_works_23 (fun t ht hW => ⟨f9_size, f9_equations, f9_areSteps, f9_arePlans, ai9, ⟨(by first | omega | decide | exact Or.inl (by decide) | exact Or.inr (by decide) | exact Or.inr (by omega)), (by first | omega | decide | exact Or.inl (by decide) | exact Or.inr (by decide) | exact Or.inr (by omega)), (by first | omega | decide | exact Or.inl (by decide) | exact Or.inr (by decide) | exact Or.inr (by omega)), (by first | omega | decide | exact Or.inl (by decide) | exact Or.inr (by decide) | exact Or.inr (by omega)), (by first | omega | decide | exact Or.inl (by decide) | exact Or.inr (by decide) | exact Or.inr (by omega)), (by first | exact (hp0.imp (fun q => q) (fun q => CIa_t q hFr_r8 (by decide))) | exact Or.inl (by omega) | exact Or.inl (by decide +kernel)), (by first | omega | decide | exact Or.inl (by decide) | exact Or.inr (by decide) | exact Or.inr (by omega)), hI_8, hF_9⟩, by rw [ht]; exact hP_8, va_K.moved hW.alike hK, hD_10⟩)
  · have c1 := j_nle (a := 1) (b := x1.toInt) (by decide +kernel) rfl c1
    refine lv_aload_n hx hb dX9_works_5 rfl (lv_at hl 0 rfl) ?_
    refine lv_bipush (v := (-4)) hx hb dX9_works_6 (by decide) ?_
    have kcm4 : ((-4) : Int32).toInt = (-4) := by decide +kernel
    have hM := r021_X9_refuse l dC dI cI cJ cII cJJ H.size 0 ad f9_size f9_equations f9_areSteps f9_foundMany f9_many f9_rank f9_freeMany f9_arePlans f9_planMany ai al (-4) (by decide +kernel) (by omega) (by omega) (by omega) (by omega) (by omega) (by omega) (by omega) (by omega) (by omega) hI
    refine k2V_i (q0 := 22) ⟨hx, hb, hml, hown, hts⟩ hK hP hD hS hA hX cv_RX9_112 hM ⟨by decide +kernel, by decide +kernel⟩ rfl rfl (Or.inl rfl) (rest := []) rfl rfl rfl hl.1 rfl (Nat.le_of_ble_eq_true rfl) dX9_works_8 ⟨Nat.le_of_ble_eq_true rfl, Nat.le_of_ble_eq_true rfl⟩ (fun r10 t H1 locs_12 ht hB hS_12 hFc => ?_)
    obtain ⟨ai11, ⟨gpr10_0, gpr10_1, hI_13, hFr_r10⟩, hP_13, -, hD_13⟩ := hB
    have hF_14 := FR_tr hF hFr_r10 (by decide)
    rw [ht] at hP_13
    have hD_15 := hD_13.weaken (B := A) (fun k q _ h9 => hFc q.1 h9)
    clear ht
    generalize H1 = H_16 at hP_13 hS_12 ⊢
    exact r2_i hx hb hr hk hS_12 dX9_works_11 (fun t ht hW => ⟨f9_size, f9_equations, f9_areSteps, f9_arePlans, ai11, ⟨(by first | omega | decide | exact Or.inl (by decide) | exact Or.inr (by decide) | exact Or.inr (by omega)), (by first | omega | decide | exact Or.inl (by decide) | exact Or.inr (by decide) | exact Or.inr (by omega)), (by first | omega | decide | exact Or.inl (by decide) | exact Or.inr (by decide) | exact Or.inr (by omega)), (by first | omega | decide | exact Or.inl (by decide) | exact Or.inr (by decide) | exact Or.inr (by omega)), (by first | omega | decide | exact Or.inl (by decide) | exact Or.inr (by decide) | exact Or.inr (by omega)), (by first | exact (hp0.imp (fun q => q) (fun q => CIa_t q hFr_r10 (by decide))) | exact Or.inl (by omega) | exact Or.inl (by decide +kernel)), (by first | omega | decide | exact Or.inl (by decide) | exact Or.inr (by decide) | exact Or.inr (by omega)), hI_13, hF_14⟩, by rw [ht]; exact hP_13, va_K.moved hW.alike hK, hD_15⟩)
def Q_r042_X9_equation (dC : Nat → ClassId) (dI : Nat → Nat → Nat) (cI cJ cII cJJ : ClassId) (ad : Nat → Nat) (f9_size f9_areSteps f9_foundMany f9_many f9_rank f9_freeMany f9_planMany : Int32) (ai0 : Nat → Nat → Int32) (al : Nat → Nat → Int64) (o_f9_equations : Int32) : (Nat → Prop) → Array Value → State → Outcome → State → Prop := fun A => QI (fun r t => ∃ (n_f9_equations n_f9_arePlans : Int32), ∃ (n_ai : Nat → Nat → Int32), ((-7 ≤ r.toInt ∧ r.toInt ≤ 2) ∧ (1 ≤ n_f9_equations.toInt ∧ n_f9_equations.toInt ≤ 3) ∧ (0 ≤ n_f9_arePlans.toInt ∧ n_f9_arePlans.toInt ≤ 1) ∧ (f9_areSteps.toInt = 0 ∨ CIa n_ai f9_size f9_many.toInt) ∧ ((3 ≤ o_f9_equations.toInt ∧ r.toInt = -6 ∧ n_f9_equations.toInt = o_f9_equations.toInt) ∨ (o_f9_equations.toInt < 3 ∧ r.toInt = o_f9_equations.toInt ∧ n_f9_equations.toInt = o_f9_equations.toInt + 1)) ∧ ((3 ≤ o_f9_equations.toInt ∧ n_ai 1 = ai0 1) ∨ (o_f9_equations.toInt < 3 ∧ n_ai 1 = upd (ai0 1) o_f9_equations.toInt.toNat 0)) ∧ IAM n_ai ∧ FR [0, 1, 2] ai0 n_ai) ∧ WO dC dI (TY cI cJ cII cJJ) (WM cI cJ cII cJJ ad f9_size n_f9_equations f9_areSteps f9_foundMany f9_many f9_rank f9_freeMany n_f9_arePlans f9_planMany n_ai al) A t) A
set_option maxRecDepth 100000 in
set_option maxHeartbeats 4000000 in
theorem r042_X9_equation_b17 {p : Program} {l : Launch} {e : Env} {s : State} {m : MethodId} {args : Array Value} {below : List Frame} {meth : Method} {c : Code} {A : Nat → Prop} {dC : Nat → ClassId} {dI : Nat → Nat → Nat} {cI cJ cII cJJ : ClassId} {ad : Nat → Nat} {g : Nat} {f9_size f9_areSteps f9_foundMany f9_many f9_rank f9_freeMany f9_planMany : Int32} {ai0 : Nat → Nat → Int32} {al : Nat → Nat → Int64} {o_f9_equations : Int32} (C : Cx p c s m meth args A dC dI (TY cI cJ cII cJJ) cX9_equation (some .int) 2 RX9 0 g) (hp0 : (f9_areSteps.toInt = 0 ∨ CIa ai0 f9_size f9_many.toInt)) : ∀ (n : Nat), ∀ (L1 f9_equations f9_arePlans : Int32) (ai : Nat → Nat → Int32) (H : Heap) (locs : List Loc) (ls : Array Slot), (0 ≤ L1.toInt ∧ L1.toInt ≤ 4) → (1 ≤ f9_size.toInt ∧ f9_size.toInt ≤ 4) → (0 ≤ f9_equations.toInt ∧ f9_equations.toInt ≤ 2) → (0 ≤ f9_areSteps.toInt ∧ f9_areSteps.toInt ≤ 1) → (0 ≤ f9_foundMany.toInt ∧ f9_foundMany.toInt ≤ 99999) → (0 ≤ f9_many.toInt ∧ f9_many.toInt ≤ 6000) → (0 ≤ f9_rank.toInt ∧ f9_rank.toInt ≤ 3) → (0 ≤ f9_freeMany.toInt ∧ f9_freeMany.toInt ≤ 4) → (0 ≤ f9_arePlans.toInt ∧ f9_arePlans.toInt ≤ 1) → (0 ≤ f9_planMany.toInt ∧ f9_planMany.toInt ≤ 194481) → (f9_areSteps.toInt = 0 ∨ CIa ai f9_size f9_many.toInt) → f9_equations.toInt = o_f9_equations.toInt → ai 1 = ai0 1 → 4 - L1.toInt < (n : Int) → (0 : Int) < (n : Int) → IAM ai → FR [0, 1, 2] ai0 ai → va_P (dC, dI) vwCl (WM cI cJ cII cJJ ad f9_size f9_equations f9_areSteps f9_foundMany f9_many f9_rank f9_freeMany f9_arePlans f9_planMany ai al) H → va_D A (WM cI cJ cII cJJ ad f9_size f9_equations f9_areSteps f9_foundMany f9_many f9_rank f9_freeMany f9_arePlans f9_planMany ai al) → va_S A s.heap H locs → lv_has ls 2 [(0, .ref (ad 22)), (1, .int L1)] → W p l e ({ frames := 3, cells := 0, slots := 0, locals := 140 } : Room) s m args below meth c H locs 0 0 (MQ below (Q_r042_X9_equation dC dI cI cJ cII cJJ ad f9_size f9_areSteps f9_foundMany f9_many f9_rank f9_freeMany f9_planMany ai0 al o_f9_equations A) args s 0 0 A) (F0 m 17 ls []) := by
  obtain ⟨hx, hb, hr, hml, hown, hts, hk, hA, hK, hX⟩ := id C
  intro n
  induction n with
  | zero =>
    intro L1 f9_equations f9_arePlans ai H locs ls h0 h1 h2 h3 h4 h5 h6 h7 h8 h9 h10 h11 h12 h13 h14 hI hF hP hD hS hl
    exact absurd h14 (by omega)
  | succ n ih =>
    intro L1 f9_equations f9_arePlans ai H locs ls h0 h1 h2 h3 h4 h5 h6 h7 h8 h9 h10 h11 h12 h13 h14 hI hF hP hD hS hl
    refine lv_iload_n hx hb dX9_equation_17 rfl (lv_at hl 1 rfl) ?_
    refine lv_iconst (v := 4) hx hb dX9_equation_18 (by decide) ?_
    refine lv_icmp_ge (tgt := 42) hx hb dX9_equation_19 (by decide) (fun c1 => ?_) (fun c1 => ?_)
    · have c1 := j_le (a := 4) (b := L1.toInt) (by decide +kernel) rfl c1
      refine lv_aload_n hx hb dX9_equation_42 rfl (lv_at hl 0 rfl) ?_
      refine gf (k := 1) hx hb hts inX9 hown hK hP k_796 rfl (by decide) rfl 22 rfl (.ref (ad 1)) rfl dX9_equation_43 ?_
      refine lv_aload_n hx hb dX9_equation_46 rfl (lv_at hl 0 rfl) ?_
      refine gf (k := 13) hx hb hts inX9 hown hK hP k_808 rfl (by decide) rfl 22 rfl (.int f9_equations) rfl dX9_equation_47 ?_
      refine lv_iconst (v := 0) hx hb dX9_equation_50 (by decide) ?_
      refine va_iast hx hb hK hP hD hS 1 0 rfl rfl (j_in (a := f9_equations.toInt) rfl (by omega) (by omega)) dX9_equation_51 (fun H_1 locs_1 hP_1 hD_1 hS_1 => ?_)
      obtain ⟨ai2, e_ai2⟩ : ∃ q : Nat → Nat → Int32, q = va_up ai 1 (upd (ai 1) f9_equations.toNatClampNeg 0) := ⟨_, rfl⟩
      have hF_2 := FR_st hF e_ai2 (by decide)
      have hI_3 : IAM ai2 := by rw [e_ai2]; exact hI
      have hP_4 : va_P (dC, dI) vwCl (WM cI cJ cII cJJ ad f9_size f9_equations f9_areSteps f9_foundMany f9_many f9_rank f9_freeMany f9_arePlans f9_planMany ai2 al) H_1 := by rw [e_ai2]; exact hP_1
      have hD_5 : va_D A (WM cI cJ cII cJJ ad f9_size f9_equations f9_areSteps f9_foundMany f9_many f9_rank f9_freeMany f9_arePlans f9_planMany ai2 al) := by rw [e_ai2]; exact hD_1
      refine lv_aload_n hx hb dX9_equation_52 rfl (lv_at hl 0 rfl) ?_
      refine lv_dup hx hb dX9_equation_53 rfl ?_
      refine gf (k := 13) hx hb hts inX9 hown hK hP_4 k_808 rfl (by decide) rfl 22 rfl (.int f9_equations) rfl dX9_equation_54 ?_
      refine lv_iconst (v := 1) hx hb dX9_equation_57 (by decide) ?_
      refine v_iadd hx hb dX9_equation_58 _ rfl ?_
      refine lv_topi (fun z3 e_z3 => ?_)
      have g_z3 : z3.toInt = f9_equations.toInt + 1 := by rw [e_z3]; exact n_add (a := f9_equations.toInt) (b := 1) rfl (by decide +kernel) (by omega) (by omega)
      refine pf (k := 13) hx hb hts inX9 tyX9_ok nmX9 hown hK hP_4 hD_5 hS_1 k_808 rfl (by decide) rfl rfl 22 rfl rfl rfl (Nat.le_of_ble_eq_true rfl) dX9_equation_59 (W' := (WM cI cJ cII cJJ ad f9_size z3 f9_areSteps f9_foundMany f9_many f9_rank f9_freeMany f9_arePlans f9_planMany ai2 al)) rfl (fun H_6 locs_6 hP_6 hD_6 hS_6 => ?_)
      refine lv_aload_n hx hb dX9_equation_62 rfl (lv_at hl 0 rfl) ?_
      refine lv_iconst (v := 0) hx hb dX9_equation_63 (by decide) ?_
      refine pf (k := 33) hx hb hts inX9 tyX9_ok nmX9 hown hK hP_6 hD_6 hS_6 k_828 rfl (by decide) rfl rfl 22 rfl rfl rfl (Nat.le_of_ble_eq_true rfl) dX9_equation_64 (W' := (WM cI cJ cII cJJ ad f9_size z3 f9_areSteps f9_foundMany f9_many f9_rank f9_freeMany 0 f9_planMany ai2 al)) rfl (fun H_7 locs_7 hP_7 hD_7 hS_7 => ?_)
      refine lv_aload_n hx hb dX9_equation_67 rfl (lv_at hl 0 rfl) ?_
      refine gf (k := 13) hx hb hts inX9 hown hK hP_7 k_808 rfl (by decide) rfl 22 rfl (.int z3) rfl dX9_equation_68 ?_
      refine lv_iconst (v := 1) hx hb dX9_equation_71 (by decide) ?_
      refine v_isub hx hb dX9_equation_72 _ rfl ?_
      refine lv_topi (fun z4 e_z4 => ?_)
      have g_z4 : z4.toInt = z3.toInt - 1 := by rw [e_z4]; exact n_sub (a := z3.toInt) (b := 1) rfl (by decide +kernel) (by omega) (by omega)
      exact r2_i hx hb hr hk hS_7 dX9_equation_73 (fun t ht hW => ⟨z3, 0, ai2, ⟨(by first | omega | decide | exact Or.inl (by decide) | exact Or.inr (by decide) | exact Or.inr (by omega)), (by first | omega | decide | exact Or.inl (by decide) | exact Or.inr (by decide) | exact Or.inr (by omega)), (by first | omega | decide | exact Or.inl (by decide) | exact Or.inr (by decide) | exact Or.inr (by omega)), (by first | exact (h10.imp (fun q => q) (fun q => CIa_t q (FRu e_ai2) (by decide))) | exact Or.inl (by omega) | exact Or.inl (by decide +kernel)), (by have kr0 : (0 : Int32).toInt = 0 := (by decide); first | omega | decide | exact Or.inl (by decide) | exact Or.inr (by decide) | exact Or.inr (by omega)), (Or.inr ⟨by omega, by rw [up_self e_ai2, h12, h11]⟩), hI_3, hF_2⟩, by rw [ht]; exact hP_7, va_K.moved hW.alike hK, hD_7⟩)
    · have c1 := j_nle (a := 4) (b := L1.toInt) (by decide +kernel) rfl c1
      refine lv_aload_n hx hb dX9_equation_22 rfl (lv_at hl 0 rfl) ?_
      refine gf (k := 0) hx hb hts inX9 hown hK hP k_795 rfl (by decide) rfl 22 rfl (.ref (ad 0)) rfl dX9_equation_23 ?_
      refine lv_iconst (v := 4) hx hb dX9_equation_26 (by decide) ?_
      refine lv_aload_n hx hb dX9_equation_27 rfl (lv_at hl 0 rfl) ?_
      refine gf (k := 13) hx hb hts inX9 hown hK hP k_808 rfl (by decide) rfl 22 rfl (.int f9_equations) rfl dX9_equation_28 ?_
      refine v_imul hx hb dX9_equation_31 _ rfl ?_
      refine lv_topi (fun z5 e_z5 => ?_)
      have g_z5 : z5.toInt = 4 * f9_equations.toInt := by rw [e_z5]; exact n_mul (a := 4) (b := f9_equations.toInt) (by decide +kernel) rfl (by omega) (by omega)
      refine lv_iload_n hx hb dX9_equation_32 rfl (lv_at hl 1 rfl) ?_
      refine v_iadd hx hb dX9_equation_33 _ rfl ?_
      refine lv_topi (fun z6 e_z6 => ?_)
      have g_z6 : z6.toInt = z5.toInt + L1.toInt := by rw [e_z6]; exact n_add (a := z5.toInt) (b := L1.toInt) rfl rfl (by omega) (by omega)
      refine lv_iconst (v := 0) hx hb dX9_equation_34 (by decide) ?_
      refine va_iast hx hb hK hP hD hS 0 0 rfl rfl (j_in (a := z6.toInt) rfl (by omega) (by omega)) dX9_equation_35 (fun H_8 locs_8 hP_8 hD_8 hS_8 => ?_)
      obtain ⟨ai7, e_ai7⟩ : ∃ q : Nat → Nat → Int32, q = va_up ai 0 (upd (ai 0) z6.toNatClampNeg 0) := ⟨_, rfl⟩
      have hF_9 := FR_st hF e_ai7 (by decide)
      have hI_10 : IAM ai7 := by rw [e_ai7]; exact IAM_st0 hI (a := 0) (by decide +kernel) (by omega) (by omega)
      have hP_11 : va_P (dC, dI) vwCl (WM cI cJ cII cJJ ad f9_size f9_equations f9_areSteps f9_foundMany f9_many f9_rank f9_freeMany f9_arePlans f9_planMany ai7 al) H_8 := by rw [e_ai7]; exact hP_8
      have hD_12 : va_D A (WM cI cJ cII cJJ ad f9_size f9_equations f9_areSteps f9_foundMany f9_many f9_rank f9_freeMany f9_arePlans f9_planMany ai7 al) := by rw [e_ai7]; exact hD_8
      obtain ⟨z8, e_z8⟩ : ∃ q : Int32, q = L1 + Int32.ofInt 1 := ⟨_, rfl⟩
      have g_z8 : z8.toInt = L1.toInt + 1 := by rw [e_z8]; exact n_add (a := L1.toInt) (b := 1) rfl (by decide +kernel) (by omega) (by omega)
      refine lv_iinc (v := z8) (lv' := [(1, .int z8), (0, .ref (ad 22))]) hx hb dX9_equation_36 hl (k := 1) rfl e_z8.symm (by decide) rfl (fun ls_13 hl_13 => ?_)
      refine lv_goto (tgt := 17) hx hb dX9_equation_39 (by decide) ?_
      exact ih z8 f9_equations f9_arePlans ai7 _ _ _ (by omega) (by omega) (by omega) (by omega) (by omega) (by omega) (by omega) (by omega) (by omega) (by omega) (by first | exact (h10.imp (fun q => q) (fun q => CIa_t q (FRu e_ai7) (by decide))) | exact Or.inl (by omega) | exact Or.inl (by decide +kernel)) (by omega) (by rw [up_ne e_ai7 (by decide)]; exact h12) (by omega) (by omega) hI_10 hF_9 hP_11 hD_12 hS_8 (lv_sub hl_13 [1, 0] rfl)
set_option maxRecDepth 100000 in
set_option maxHeartbeats 4000000 in
theorem r042_X9_equation (l : Launch) (dC : Nat → ClassId) (dI : Nat → Nat → Nat) (cI cJ cII cJJ : ClassId) (sz g : Nat) (ad : Nat → Nat) (f9_size f9_equations f9_areSteps f9_foundMany f9_many f9_rank f9_freeMany f9_arePlans f9_planMany : Int32) (ai : Nat → Nat → Int32) (al : Nat → Nat → Int64) (h_f9_size : (1 ≤ f9_size.toInt ∧ f9_size.toInt ≤ 4)) (h_f9_equations : (0 ≤ f9_equations.toInt ∧ f9_equations.toInt ≤ 3)) (h_f9_areSteps : (0 ≤ f9_areSteps.toInt ∧ f9_areSteps.toInt ≤ 1)) (h_f9_foundMany : (0 ≤ f9_foundMany.toInt ∧ f9_foundMany.toInt ≤ 99999)) (h_f9_many : (0 ≤ f9_many.toInt ∧ f9_many.toInt ≤ 6000)) (h_f9_rank : (0 ≤ f9_rank.toInt ∧ f9_rank.toInt ≤ 3)) (h_f9_freeMany : (0 ≤ f9_freeMany.toInt ∧ f9_freeMany.toInt ≤ 4)) (h_f9_arePlans : (0 ≤ f9_arePlans.toInt ∧ f9_arePlans.toInt ≤ 1)) (h_f9_planMany : (0 ≤ f9_planMany.toInt ∧ f9_planMany.toInt ≤ 194481)) (hp0 : (f9_areSteps.toInt = 0 ∨ CIa ai f9_size f9_many.toInt)) (hI : IAM ai) : Met l yX9_equation (.code yX9_equation cX9_equation 2 (some .int) :: TT) ({ frames := 3, cells := 0, slots := 0, locals := 140 } : Room) (PcS dC dI (TY cI cJ cII cJJ) [.ref (ad 22)] (WM cI cJ cII cJJ ad f9_size f9_equations f9_areSteps f9_foundMany f9_many f9_rank f9_freeMany f9_arePlans f9_planMany ai al) sz 0 g) (Q_r042_X9_equation dC dI cI cJ cII cJJ ad f9_size f9_areSteps f9_foundMany f9_many f9_rank f9_freeMany f9_planMany ai al f9_equations (va_A (WM cI cJ cII cJJ ad f9_size f9_equations f9_areSteps f9_foundMany f9_many f9_rank f9_freeMany f9_arePlans f9_planMany ai al) sz)) 0 0 (va_A (WM cI cJ cII cJJ ad f9_size f9_equations f9_areSteps f9_foundMany f9_many f9_rank f9_freeMany f9_arePlans f9_planMany ai al) sz) := by
  refine SM.of (y := yX9_equation) (maxL := 2) (av := [.ref (ad 22)]) (Q_r042_X9_equation dC dI cI cJ cII cJJ ad f9_size f9_areSteps f9_foundMany f9_many f9_rank f9_freeMany f9_planMany ai al f9_equations) (by decide +kernel) (Nat.le_of_ble_eq_true rfl) (fun p e s m below meth c A ls hx hb hr hml hown hts hk hnm hA hK hP hD hS hX hl => ?_)
  have C : Cx p c s m meth (([.ref (ad 22)] : List Value).toArray) A dC dI (TY cI cJ cII cJJ) cX9_equation (some .int) 2 RX9 0 g := ⟨hx, hb, hr, hml, hown, hts, hk, hA, hK, hX⟩
  have hown : s.vm.findClass RX9 = some m.cls := hown
  have hl : lv_has ls 2 [(0, .ref (ad 22))] := hl
  obtain ⟨H, hH⟩ : ∃ q, q = s.heap := ⟨_, rfl⟩
  rw [← hH] at hP
  have hS : va_S A s.heap H [] := by rw [hH]; exact hS
  rw [← hH]
  have hF := FR_refl [0, 1, 2] ai
  refine lv_aload_n hx hb dX9_equation_0 rfl (lv_at hl 0 rfl) ?_
  refine gf (k := 13) hx hb hts inX9 hown hK hP k_808 rfl (by decide) rfl 22 rfl (.int f9_equations) rfl dX9_equation_1 ?_
  refine lv_iconst (v := 3) hx hb dX9_equation_4 (by decide) ?_
  refine lv_icmp_ne (tgt := 15) hx hb dX9_equation_5 (by decide) (fun c1 => ?_) (fun c1 => ?_)
  · have c1 := j_ne (a := f9_equations.toInt) (b := 3) rfl (by decide +kernel) c1
    refine lv_iconst (v := 0) hx hb dX9_equation_15 (by decide) ?_
    refine lv_istore_n (lv' := [(1, .int 0), (0, .ref (ad 22))]) hx hb dX9_equation_16 rfl hl (by decide) rfl (fun ls_1 hl_1 => ?_)
    exact r042_X9_equation_b17 C hp0  _ 0 f9_equations f9_arePlans ai _ _ _ (by first | omega | decide | (have ka0 := (by decide +kernel : (0 : Int32).toInt = 0); omega)) (by first | omega | decide | (have ka0 := (by decide +kernel : (0 : Int32).toInt = 0); omega)) (by first | omega | decide | (have ka0 := (by decide +kernel : (0 : Int32).toInt = 0); omega)) (by first | omega | decide | (have ka0 := (by decide +kernel : (0 : Int32).toInt = 0); omega)) (by first | omega | decide | (have ka0 := (by decide +kernel : (0 : Int32).toInt = 0); omega)) (by first | omega | decide | (have ka0 := (by decide +kernel : (0 : Int32).toInt = 0); omega)) (by first | omega | decide | (have ka0 := (by decide +kernel : (0 : Int32).toInt = 0); omega)) (by first | omega | decide | (have ka0 := (by decide +kernel : (0 : Int32).toInt = 0); omega)) (by first | omega | decide | (have ka0 := (by decide +kernel : (0 : Int32).toInt = 0); omega)) (by first | omega | decide | (have ka0 := (by decide +kernel : (0 : Int32).toInt = 0); omega)) (by first | exact hp0 | exact Or.inl (by omega) | exact Or.inl (by decide +kernel)) (by first | omega | decide | (have ka0 := (by decide +kernel : (0 : Int32).toInt = 0); omega)) rfl (j_fuel _) (by omega) hI hF hP hD hS (lv_sub hl_1 [1, 0] rfl)
  · have c1 := j_eq (a := f9_equations.toInt) (b := 3) rfl (by decide +kernel) c1
    refine lv_aload_n hx hb dX9_equation_8 rfl (lv_at hl 0 rfl) ?_
    refine lv_bipush (v := (-6)) hx hb dX9_equation_9 (by decide) ?_
    have kcm6 : ((-6) : Int32).toInt = (-6) := by decide +kernel
    have hM := r021_X9_refuse l dC dI cI cJ cII cJJ H.size 0 ad f9_size f9_equations f9_areSteps f9_foundMany f9_many f9_rank f9_freeMany f9_arePlans f9_planMany ai al (-6) (by decide +kernel) (by omega) (by omega) (by omega) (by omega) (by omega) (by omega) (by omega) (by omega) (by omega) hI
    refine k2V_i (q0 := 22) ⟨hx, hb, hml, hown, hts⟩ hK hP hD hS hA hX cv_RX9_112 hM ⟨by decide +kernel, by decide +kernel⟩ rfl rfl (Or.inl rfl) (rest := []) rfl rfl rfl hl.1 rfl (Nat.le_of_ble_eq_true rfl) dX9_equation_11 ⟨Nat.le_of_ble_eq_true rfl, Nat.le_of_ble_eq_true rfl⟩ (fun r2 t H1 locs_2 ht hB hS_2 hFc => ?_)
    obtain ⟨ai3, ⟨gpr2_0, gpr2_1, hI_3, hFr_r2⟩, hP_3, -, hD_3⟩ := hB
    have hF_4 := FR_tr hF hFr_r2 (by decide)
    rw [ht] at hP_3
    have hD_5 := hD_3.weaken (B := A) (fun k q _ h9 => hFc q.1 h9)
    clear ht
    generalize H1 = H_6 at hP_3 hS_2 ⊢
    exact r2_i hx hb hr hk hS_2 dX9_equation_14 (fun t ht hW => ⟨f9_equations, f9_arePlans, ai3, ⟨(by first | omega | decide | exact Or.inl (by decide) | exact Or.inr (by decide) | exact Or.inr (by omega)), (by first | omega | decide | exact Or.inl (by decide) | exact Or.inr (by decide) | exact Or.inr (by omega)), (by first | omega | decide | exact Or.inl (by decide) | exact Or.inr (by decide) | exact Or.inr (by omega)), (by first | exact (hp0.imp (fun q => q) (fun q => CIa_t q hFr_r2 (by decide))) | exact Or.inl (by omega) | exact Or.inl (by decide +kernel)), (by first | omega | decide | exact Or.inl (by decide) | exact Or.inr (by decide) | exact Or.inr (by omega)), (Or.inl ⟨by omega, hFr_r2 1 (by decide)⟩), hI_3, hF_4⟩, by rw [ht]; exact hP_3, va_K.moved hW.alike hK, hD_5⟩)
