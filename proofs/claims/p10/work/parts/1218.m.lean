def Q_r043_X9_put (dC : Nat → ClassId) (dI : Nat → Nat → Nat) (cI cJ cII cJJ : ClassId) (ad : Nat → Nat) (f9_size f9_equations f9_foundMany f9_many f9_rank f9_freeMany f9_planMany : Int32) (ai0 : Nat → Nat → Int32) (al : Nat → Nat → Int64) (o_f9_areSteps : Int32) : (Nat → Prop) → Array Value → State → Outcome → State → Prop := fun A => QI (fun r t => ∃ (n_f9_areSteps n_f9_arePlans : Int32), ∃ (n_ai : Nat → Nat → Int32), ((-7 ≤ r.toInt ∧ r.toInt ≤ 6) ∧ (0 ≤ n_f9_areSteps.toInt ∧ n_f9_areSteps.toInt ≤ 1) ∧ (0 ≤ n_f9_arePlans.toInt ∧ n_f9_arePlans.toInt ≤ 1) ∧ (n_f9_areSteps.toInt = 0 ∨ CIa n_ai f9_size f9_many.toInt) ∧ IAM n_ai ∧ FR [0, 2] ai0 n_ai) ∧ WO dC dI (TY cI cJ cII cJJ) (WM cI cJ cII cJJ ad f9_size f9_equations n_f9_areSteps f9_foundMany f9_many f9_rank f9_freeMany n_f9_arePlans f9_planMany n_ai al) A t) A
set_option maxRecDepth 100000 in
set_option maxHeartbeats 4000000 in
theorem r043_X9_put_b22 {p : Program} {l : Launch} {e : Env} {s : State} {m : MethodId} {args : Array Value} {below : List Frame} {meth : Method} {c : Code} {A : Nat → Prop} {dC : Nat → ClassId} {dI : Nat → Nat → Nat} {cI cJ cII cJJ : ClassId} {ad : Nat → Nat} {g : Nat} {f9_size f9_equations f9_foundMany f9_many f9_rank f9_freeMany f9_planMany : Int32} {ai0 : Nat → Nat → Int32} {al : Nat → Nat → Int64} {o_f9_areSteps : Int32} (C : Cx p c s m meth args A dC dI (TY cI cJ cII cJJ) cX9_put (some .int) 5 RX9 0 g) (hp0 : (o_f9_areSteps.toInt = 0 ∨ CIa ai0 f9_size f9_many.toInt)) : ∀ (L1 L2 L3 f9_areSteps f9_arePlans : Int32) (ai : Nat → Nat → Int32) (H : Heap) (locs : List Loc) (ls : Array Slot), (1 ≤ f9_size.toInt ∧ f9_size.toInt ≤ 4) → (0 ≤ f9_equations.toInt ∧ f9_equations.toInt ≤ 3) → (0 ≤ f9_areSteps.toInt ∧ f9_areSteps.toInt ≤ 1) → (0 ≤ f9_foundMany.toInt ∧ f9_foundMany.toInt ≤ 99999) → (0 ≤ f9_many.toInt ∧ f9_many.toInt ≤ 6000) → (0 ≤ f9_rank.toInt ∧ f9_rank.toInt ≤ 3) → (0 ≤ f9_freeMany.toInt ∧ f9_freeMany.toInt ≤ 4) → (0 ≤ f9_arePlans.toInt ∧ f9_arePlans.toInt ≤ 1) → (0 ≤ f9_planMany.toInt ∧ f9_planMany.toInt ≤ 194481) → (f9_areSteps.toInt = 0 ∨ CIa ai f9_size f9_many.toInt) → IAM ai → FR [0, 2] ai0 ai → va_P (dC, dI) vwCl (WM cI cJ cII cJJ ad f9_size f9_equations f9_areSteps f9_foundMany f9_many f9_rank f9_freeMany f9_arePlans f9_planMany ai al) H → va_D A (WM cI cJ cII cJJ ad f9_size f9_equations f9_areSteps f9_foundMany f9_many f9_rank f9_freeMany f9_arePlans f9_planMany ai al) → va_S A s.heap H locs → lv_has ls 5 [(0, .ref (ad 22)), (1, .int L1), (2, .int L2), (3, .int L3)] → W p l e ({ frames := 3, cells := 0, slots := 0, locals := 140 } : Room) s m args below meth c H locs 0 0 (MQ below (Q_r043_X9_put dC dI cI cJ cII cJJ ad f9_size f9_equations f9_foundMany f9_many f9_rank f9_freeMany f9_planMany ai0 al o_f9_areSteps A) args s 0 0 A) (F0 m 22 ls []) := by
  obtain ⟨hx, hb, hr, hml, hown, hts, hk, hA, hK, hX⟩ := id C
  intro L1 L2 L3 f9_areSteps f9_arePlans ai H locs ls h0 h1 h2 h3 h4 h5 h6 h7 h8 h9 hI hF hP hD hS hl
  have ra_L1 := s_any L1
  have ra_L2 := s_any L2
  have ra_L3 := s_any L3
  refine lv_aload_n hx hb dX9_put_22 rfl (lv_at hl 0 rfl) ?_
  refine lv_iconst (v := (-1)) hx hb dX9_put_23 (by decide) ?_
  have kcm1 : ((-1) : Int32).toInt = (-1) := by decide +kernel
  have hM := r021_X9_refuse l dC dI cI cJ cII cJJ H.size 0 ad f9_size f9_equations f9_areSteps f9_foundMany f9_many f9_rank f9_freeMany f9_arePlans f9_planMany ai al (-1) (by decide +kernel) (by omega) (by omega) (by omega) (by omega) (by omega) (by omega) (by omega) (by omega) (by omega) hI
  refine k2V_i (q0 := 22) ⟨hx, hb, hml, hown, hts⟩ hK hP hD hS hA hX cv_RX9_112 hM ⟨by decide +kernel, by decide +kernel⟩ rfl rfl (Or.inl rfl) (rest := []) rfl rfl rfl hl.1 rfl (Nat.le_of_ble_eq_true rfl) dX9_put_24 ⟨Nat.le_of_ble_eq_true rfl, Nat.le_of_ble_eq_true rfl⟩ (fun r1 t H1 locs_1 ht hB hS_1 hFc => ?_)
  obtain ⟨ai2, ⟨gpr1_0, gpr1_1, hI_2, hFr_r1⟩, hP_2, -, hD_2⟩ := hB
  have hF_3 := FR_tr hF hFr_r1 (by decide)
  rw [ht] at hP_2
  have hD_4 := hD_2.weaken (B := A) (fun k q _ h9 => hFc q.1 h9)
  clear ht
  generalize H1 = H_5 at hP_2 hS_1 ⊢
  exact r2_i hx hb hr hk hS_1 dX9_put_27 (fun t ht hW => ⟨f9_areSteps, f9_arePlans, ai2, ⟨(by first | omega | decide | exact Or.inl (by decide) | exact Or.inr (by decide) | exact Or.inr (by omega)), (by first | omega | decide | exact Or.inl (by decide) | exact Or.inr (by decide) | exact Or.inr (by omega)), (by first | omega | decide | exact Or.inl (by decide) | exact Or.inr (by decide) | exact Or.inr (by omega)), (by first | exact (h9.imp (fun q => q) (fun q => CIa_t q hFr_r1 (by decide))) | exact Or.inl (by omega) | exact Or.inl (by decide +kernel)), hI_2, hF_3⟩, by rw [ht]; exact hP_2, va_K.moved hW.alike hK, hD_4⟩)
set_option maxRecDepth 100000 in
set_option maxHeartbeats 4000000 in
theorem r043_X9_put (l : Launch) (dC : Nat → ClassId) (dI : Nat → Nat → Nat) (cI cJ cII cJJ : ClassId) (sz g : Nat) (ad : Nat → Nat) (f9_size f9_equations f9_areSteps f9_foundMany f9_many f9_rank f9_freeMany f9_arePlans f9_planMany : Int32) (ai : Nat → Nat → Int32) (al : Nat → Nat → Int64) (x1 : Int32) (x2 : Int32) (x3 : Int32) (h_f9_size : (1 ≤ f9_size.toInt ∧ f9_size.toInt ≤ 4)) (h_f9_equations : (0 ≤ f9_equations.toInt ∧ f9_equations.toInt ≤ 3)) (h_f9_areSteps : (0 ≤ f9_areSteps.toInt ∧ f9_areSteps.toInt ≤ 1)) (h_f9_foundMany : (0 ≤ f9_foundMany.toInt ∧ f9_foundMany.toInt ≤ 99999)) (h_f9_many : (0 ≤ f9_many.toInt ∧ f9_many.toInt ≤ 6000)) (h_f9_rank : (0 ≤ f9_rank.toInt ∧ f9_rank.toInt ≤ 3)) (h_f9_freeMany : (0 ≤ f9_freeMany.toInt ∧ f9_freeMany.toInt ≤ 4)) (h_f9_arePlans : (0 ≤ f9_arePlans.toInt ∧ f9_arePlans.toInt ≤ 1)) (h_f9_planMany : (0 ≤ f9_planMany.toInt ∧ f9_planMany.toInt ≤ 194481)) (hp0 : (f9_areSteps.toInt = 0 ∨ CIa ai f9_size f9_many.toInt)) (hI : IAM ai) : Met l yX9_put (.code yX9_put cX9_put 5 (some .int) :: TT) ({ frames := 3, cells := 0, slots := 0, locals := 140 } : Room) (PcS dC dI (TY cI cJ cII cJJ) [.ref (ad 22), .int x1, .int x2, .int x3] (WM cI cJ cII cJJ ad f9_size f9_equations f9_areSteps f9_foundMany f9_many f9_rank f9_freeMany f9_arePlans f9_planMany ai al) sz 0 g) (Q_r043_X9_put dC dI cI cJ cII cJJ ad f9_size f9_equations f9_foundMany f9_many f9_rank f9_freeMany f9_planMany ai al f9_areSteps (va_A (WM cI cJ cII cJJ ad f9_size f9_equations f9_areSteps f9_foundMany f9_many f9_rank f9_freeMany f9_arePlans f9_planMany ai al) sz)) 0 0 (va_A (WM cI cJ cII cJJ ad f9_size f9_equations f9_areSteps f9_foundMany f9_many f9_rank f9_freeMany f9_arePlans f9_planMany ai al) sz) := by
  refine SM.of (y := yX9_put) (maxL := 5) (av := [.ref (ad 22), .int x1, .int x2, .int x3]) (Q_r043_X9_put dC dI cI cJ cII cJJ ad f9_size f9_equations f9_foundMany f9_many f9_rank f9_freeMany f9_planMany ai al f9_areSteps) (by decide +kernel) (Nat.le_of_ble_eq_true rfl) (fun p e s m below meth c A ls hx hb hr hml hown hts hk hnm hA hK hP hD hS hX hl => ?_)
  have C : Cx p c s m meth (([.ref (ad 22), .int x1, .int x2, .int x3] : List Value).toArray) A dC dI (TY cI cJ cII cJJ) cX9_put (some .int) 5 RX9 0 g := ⟨hx, hb, hr, hml, hown, hts, hk, hA, hK, hX⟩
  have hown : s.vm.findClass RX9 = some m.cls := hown
  have hl : lv_has ls 5 [(0, .ref (ad 22)), (1, .int x1), (2, .int x2), (3, .int x3)] := hl
  obtain ⟨H, hH⟩ : ∃ q, q = s.heap := ⟨_, rfl⟩
  rw [← hH] at hP
  have hS : va_S A s.heap H [] := by rw [hH]; exact hS
  rw [← hH]
  have hF := FR_refl [0, 2] ai
  have ra_x1 := s_any x1
  have ra_x2 := s_any x2
  have ra_x3 := s_any x3
  refine lv_iload_n hx hb dX9_put_0 rfl (lv_at hl 1 rfl) ?_
  refine lv_aload_n hx hb dX9_put_1 rfl (lv_at hl 0 rfl) ?_
  refine gf (k := 13) hx hb hts inX9 hown hK hP k_808 rfl (by decide) rfl 22 rfl (.int f9_equations) rfl dX9_put_2 ?_
  have hM := r020_X9_isIn l dC dI cI cJ cII cJJ H.size 0 ad f9_size f9_equations f9_areSteps f9_foundMany f9_many f9_rank f9_freeMany f9_arePlans f9_planMany ai al x1 f9_equations (by omega) (by omega) (by omega) (by omega) (by omega) (by omega) (by omega) (by omega) (by omega) hI
  refine k2S_i ⟨hx, hb, hml, hown, hts⟩ hK hP hD hS hA hX cs_RX9_116 hM ⟨by decide +kernel, by decide +kernel⟩ rfl rfl (Or.inl rfl) (rest := []) rfl hl.1 rfl (Nat.le_of_ble_eq_true rfl) dX9_put_5 ⟨Nat.le_of_ble_eq_true rfl, Nat.le_of_ble_eq_true rfl⟩ (fun r1 t H1 locs_1 ht hB hS_1 hFc => ?_)
  obtain ⟨⟨gpr1_0, gpr1_1⟩, hP_2, -, hD_2⟩ := hB
  rw [ht] at hP_2
  have hD_3 := hD_2.weaken (B := A) (fun k q _ h9 => hFc q.1 h9)
  clear ht
  generalize H1 = H_4 at hP_2 hS_1 ⊢
  refine lv_if_eq (tgt := 22) hx hb dX9_put_8 (by decide) (fun c2 => ?_) (fun c2 => ?_)
  · have c2 := j_eq (a := r1.toInt) (b := 0) rfl (by decide +kernel) c2
    exact r043_X9_put_b22 C hp0  x1 x2 x3 f9_areSteps f9_arePlans ai _ _ _ (by omega) (by omega) (by omega) (by omega) (by omega) (by omega) (by omega) (by omega) (by omega) (by first | exact hp0 | exact Or.inl (by omega) | exact Or.inl (by decide +kernel)) hI hF hP_2 hD_3 hS_1 (lv_sub hl [0, 1, 2, 3] rfl)
  · have c2 := j_ne (a := r1.toInt) (b := 0) rfl (by decide +kernel) c2
    refine lv_iload_n hx hb dX9_put_11 rfl (lv_at hl 2 rfl) ?_
    refine lv_aload_n hx hb dX9_put_12 rfl (lv_at hl 0 rfl) ?_
    refine gf (k := 12) hx hb hts inX9 hown hK hP_2 k_807 rfl (by decide) rfl 22 rfl (.int f9_size) rfl dX9_put_13 ?_
    have hM := r020_X9_isIn l dC dI cI cJ cII cJJ H_4.size 0 ad f9_size f9_equations f9_areSteps f9_foundMany f9_many f9_rank f9_freeMany f9_arePlans f9_planMany ai al x2 f9_size (by omega) (by omega) (by omega) (by omega) (by omega) (by omega) (by omega) (by omega) (by omega) hI
    refine k2S_i ⟨hx, hb, hml, hown, hts⟩ hK hP_2 hD_3 hS_1 hA hX cs_RX9_116 hM ⟨by decide +kernel, by decide +kernel⟩ rfl rfl (Or.inl rfl) (rest := []) rfl hl.1 rfl (Nat.le_of_ble_eq_true rfl) dX9_put_16 ⟨Nat.le_of_ble_eq_true rfl, Nat.le_of_ble_eq_true rfl⟩ (fun r3 t H1 locs_5 ht hB hS_5 hFc => ?_)
    obtain ⟨⟨gpr3_0, gpr3_1⟩, hP_6, -, hD_6⟩ := hB
    rw [ht] at hP_6
    have hD_7 := hD_6.weaken (B := A) (fun k q _ h9 => hFc q.1 h9)
    clear ht
    generalize H1 = H_8 at hP_6 hS_5 ⊢
    refine lv_if_ne (tgt := 28) hx hb dX9_put_19 (by decide) (fun c4 => ?_) (fun c4 => ?_)
    · have c4 := j_ne (a := r3.toInt) (b := 0) rfl (by decide +kernel) c4
      refine lv_iload_n hx hb dX9_put_28 rfl (lv_at hl 3 rfl) ?_
      refine lv_bipush (v := (-6)) hx hb dX9_put_29 (by decide) ?_
      refine lv_icmp_ge (tgt := 41) hx hb dX9_put_31 (by decide) (fun c5 => ?_) (fun c5 => ?_)
      · have c5 := j_le (a := (-6)) (b := x3.toInt) (by decide +kernel) rfl c5
        refine lv_iload_n hx hb dX9_put_41 rfl (lv_at hl 3 rfl) ?_
        refine lv_bipush (v := 6) hx hb dX9_put_42 (by decide) ?_
        refine lv_icmp_le (tgt := 54) hx hb dX9_put_44 (by decide) (fun c6 => ?_) (fun c6 => ?_)
        · have c6 := j_le (a := x3.toInt) (b := 6) rfl (by decide +kernel) c6
          refine lv_aload_n hx hb dX9_put_54 rfl (lv_at hl 0 rfl) ?_
          refine gf (k := 0) hx hb hts inX9 hown hK hP_6 k_795 rfl (by decide) rfl 22 rfl (.ref (ad 0)) rfl dX9_put_55 ?_
          refine lv_iconst (v := 4) hx hb dX9_put_58 (by decide) ?_
          refine lv_iload_n hx hb dX9_put_59 rfl (lv_at hl 1 rfl) ?_
          refine v_imul hx hb dX9_put_60 _ rfl ?_
          refine lv_topi (fun z7 e_z7 => ?_)
          have g_z7 : z7.toInt = 4 * x1.toInt := by rw [e_z7]; exact n_mul (a := 4) (b := x1.toInt) (by decide +kernel) rfl (by omega) (by omega)
          refine lv_iload_n hx hb dX9_put_61 rfl (lv_at hl 2 rfl) ?_
          refine v_iadd hx hb dX9_put_62 _ rfl ?_
          refine lv_topi (fun z8 e_z8 => ?_)
          have g_z8 : z8.toInt = z7.toInt + x2.toInt := by rw [e_z8]; exact n_add (a := z7.toInt) (b := x2.toInt) rfl rfl (by omega) (by omega)
          refine va_iald hx hb hK hP_6 0 0 rfl rfl (j_in (a := z8.toInt) rfl (by omega) (by omega)) dX9_put_63 ?_
          refine lv_topi (fun z9 e_z9 => ?_)
          have g_z9 : -6 ≤ z9.toInt ∧ z9.toInt ≤ 6 := by rw [e_z9]; exact IAM_at0 hI _
          refine lv_istore (lv' := [(4, .int z9), (0, .ref (ad 22)), (1, .int x1), (2, .int x2), (3, .int x3)]) hx hb dX9_put_64 hl (by decide) rfl (fun ls_9 hl_9 => ?_)
          refine lv_aload_n hx hb dX9_put_66 rfl (lv_at hl_9 1 rfl) ?_
          refine gf (k := 0) hx hb hts inX9 hown hK hP_6 k_795 rfl (by decide) rfl 22 rfl (.ref (ad 0)) rfl dX9_put_67 ?_
          refine lv_iconst (v := 4) hx hb dX9_put_70 (by decide) ?_
          refine lv_iload_n hx hb dX9_put_71 rfl (lv_at hl_9 2 rfl) ?_
          refine v_imul hx hb dX9_put_72 _ rfl ?_
          refine lv_topi (fun z10 e_z10 => ?_)
          have g_z10 : z10.toInt = 4 * x1.toInt := by rw [e_z10]; exact n_mul (a := 4) (b := x1.toInt) (by decide +kernel) rfl (by omega) (by omega)
          refine lv_iload_n hx hb dX9_put_73 rfl (lv_at hl_9 3 rfl) ?_
          refine v_iadd hx hb dX9_put_74 _ rfl ?_
          refine lv_topi (fun z11 e_z11 => ?_)
          have g_z11 : z11.toInt = z10.toInt + x2.toInt := by rw [e_z11]; exact n_add (a := z10.toInt) (b := x2.toInt) rfl rfl (by omega) (by omega)
          refine lv_iload_n hx hb dX9_put_75 rfl (lv_at hl_9 4 rfl) ?_
          refine va_iast hx hb hK hP_6 hD_7 hS_5 0 0 rfl rfl (j_in (a := z11.toInt) rfl (by omega) (by omega)) dX9_put_76 (fun H_10 locs_10 hP_10 hD_10 hS_10 => ?_)
          obtain ⟨ai12, e_ai12⟩ : ∃ q : Nat → Nat → Int32, q = va_up ai 0 (upd (ai 0) z11.toNatClampNeg x3) := ⟨_, rfl⟩
          have hF_11 := FR_st hF e_ai12 (by decide)
          have hI_12 : IAM ai12 := by rw [e_ai12]; exact IAM_st0 hI (a := x3.toInt) rfl (by omega) (by omega)
          have hP_13 : va_P (dC, dI) vwCl (WM cI cJ cII cJJ ad f9_size f9_equations f9_areSteps f9_foundMany f9_many f9_rank f9_freeMany f9_arePlans f9_planMany ai12 al) H_10 := by rw [e_ai12]; exact hP_10
          have hD_14 : va_D A (WM cI cJ cII cJJ ad f9_size f9_equations f9_areSteps f9_foundMany f9_many f9_rank f9_freeMany f9_arePlans f9_planMany ai12 al) := by rw [e_ai12]; exact hD_10
          refine lv_aload_n hx hb dX9_put_77 rfl (lv_at hl_9 1 rfl) ?_
          refine lv_iconst (v := 0) hx hb dX9_put_78 (by decide) ?_
          refine pf (k := 14) hx hb hts inX9 tyX9_ok nmX9 hown hK hP_13 hD_14 hS_10 k_809 rfl (by decide) rfl rfl 22 rfl rfl rfl (Nat.le_of_ble_eq_true rfl) dX9_put_79 (W' := (WM cI cJ cII cJJ ad f9_size f9_equations 0 f9_foundMany f9_many f9_rank f9_freeMany f9_arePlans f9_planMany ai12 al)) rfl (fun H_15 locs_15 hP_15 hD_15 hS_15 => ?_)
          refine lv_aload_n hx hb dX9_put_82 rfl (lv_at hl_9 1 rfl) ?_
          refine lv_iconst (v := 0) hx hb dX9_put_83 (by decide) ?_
          refine pf (k := 33) hx hb hts inX9 tyX9_ok nmX9 hown hK hP_15 hD_15 hS_15 k_828 rfl (by decide) rfl rfl 22 rfl rfl rfl (Nat.le_of_ble_eq_true rfl) dX9_put_84 (W' := (WM cI cJ cII cJJ ad f9_size f9_equations 0 f9_foundMany f9_many f9_rank f9_freeMany 0 f9_planMany ai12 al)) rfl (fun H_16 locs_16 hP_16 hD_16 hS_16 => ?_)
          refine lv_iload hx hb dX9_put_87 (lv_at hl_9 0 rfl) ?_
          exact r2_i hx hb hr hk hS_16 dX9_put_89 (fun t ht hW => ⟨0, 0, ai12, ⟨(by first | omega | decide | exact Or.inl (by decide) | exact Or.inr (by decide) | exact Or.inr (by omega)), (by first | omega | decide | exact Or.inl (by decide) | exact Or.inr (by decide) | exact Or.inr (by omega)), (by first | omega | decide | exact Or.inl (by decide) | exact Or.inr (by decide) | exact Or.inr (by omega)), (by first | exact (hp0.imp (fun q => q) (fun q => CIa_t q (FRu e_ai12) (by decide))) | exact Or.inl (by omega) | exact Or.inl (by decide +kernel)), hI_12, hF_11⟩, by rw [ht]; exact hP_16, va_K.moved hW.alike hK, hD_16⟩)
        · have c6 := j_nle (a := x3.toInt) (b := 6) rfl (by decide +kernel) c6
          refine lv_aload_n hx hb dX9_put_47 rfl (lv_at hl 0 rfl) ?_
          refine lv_bipush (v := (-6)) hx hb dX9_put_48 (by decide) ?_
          have kcm6 : ((-6) : Int32).toInt = (-6) := by decide +kernel
          have hM := r021_X9_refuse l dC dI cI cJ cII cJJ H_8.size 0 ad f9_size f9_equations f9_areSteps f9_foundMany f9_many f9_rank f9_freeMany f9_arePlans f9_planMany ai al (-6) (by decide +kernel) (by omega) (by omega) (by omega) (by omega) (by omega) (by omega) (by omega) (by omega) (by omega) hI
          refine k2V_i (q0 := 22) ⟨hx, hb, hml, hown, hts⟩ hK hP_6 hD_7 hS_5 hA hX cv_RX9_112 hM ⟨by decide +kernel, by decide +kernel⟩ rfl rfl (Or.inl rfl) (rest := []) rfl rfl rfl hl.1 rfl (Nat.le_of_ble_eq_true rfl) dX9_put_50 ⟨Nat.le_of_ble_eq_true rfl, Nat.le_of_ble_eq_true rfl⟩ (fun r13 t H1 locs_17 ht hB hS_17 hFc => ?_)
          obtain ⟨ai14, ⟨gpr13_0, gpr13_1, hI_18, hFr_r13⟩, hP_18, -, hD_18⟩ := hB
          have hF_19 := FR_tr hF hFr_r13 (by decide)
          rw [ht] at hP_18
          have hD_20 := hD_18.weaken (B := A) (fun k q _ h9 => hFc q.1 h9)
          clear ht
          generalize H1 = H_21 at hP_18 hS_17 ⊢
          exact r2_i hx hb hr hk hS_17 dX9_put_53 (fun t ht hW => ⟨f9_areSteps, f9_arePlans, ai14, ⟨(by first | omega | decide | exact Or.inl (by decide) | exact Or.inr (by decide) | exact Or.inr (by omega)), (by first | omega | decide | exact Or.inl (by decide) | exact Or.inr (by decide) | exact Or.inr (by omega)), (by first | omega | decide | exact Or.inl (by decide) | exact Or.inr (by decide) | exact Or.inr (by omega)), (by first | exact (hp0.imp (fun q => q) (fun q => CIa_t q hFr_r13 (by decide))) | exact Or.inl (by omega) | exact Or.inl (by decide +kernel)), hI_18, hF_19⟩, by rw [ht]; exact hP_18, va_K.moved hW.alike hK, hD_20⟩)
      · have c5 := j_nle (a := (-6)) (b := x3.toInt) (by decide +kernel) rfl c5
        refine lv_aload_n hx hb dX9_put_34 rfl (lv_at hl 0 rfl) ?_
        refine lv_bipush (v := (-4)) hx hb dX9_put_35 (by decide) ?_
        have kcm4 : ((-4) : Int32).toInt = (-4) := by decide +kernel
        have hM := r021_X9_refuse l dC dI cI cJ cII cJJ H_8.size 0 ad f9_size f9_equations f9_areSteps f9_foundMany f9_many f9_rank f9_freeMany f9_arePlans f9_planMany ai al (-4) (by decide +kernel) (by omega) (by omega) (by omega) (by omega) (by omega) (by omega) (by omega) (by omega) (by omega) hI
        refine k2V_i (q0 := 22) ⟨hx, hb, hml, hown, hts⟩ hK hP_6 hD_7 hS_5 hA hX cv_RX9_112 hM ⟨by decide +kernel, by decide +kernel⟩ rfl rfl (Or.inl rfl) (rest := []) rfl rfl rfl hl.1 rfl (Nat.le_of_ble_eq_true rfl) dX9_put_37 ⟨Nat.le_of_ble_eq_true rfl, Nat.le_of_ble_eq_true rfl⟩ (fun r15 t H1 locs_22 ht hB hS_22 hFc => ?_)
        obtain ⟨ai16, ⟨gpr15_0, gpr15_1, hI_23, hFr_r15⟩, hP_23, -, hD_23⟩ := hB
        have hF_24 := FR_tr hF hFr_r15 (by decide)
        rw [ht] at hP_23
        have hD_25 := hD_23.weaken (B := A) (fun k q _ h9 => hFc q.1 h9)
        clear ht
        generalize H1 = H_26 at hP_23 hS_22 ⊢
        exact r2_i hx hb hr hk hS_22 dX9_put_40 (fun t ht hW => ⟨f9_areSteps, f9_arePlans, ai16, ⟨(by first | omega | decide | exact Or.inl (by decide) | exact Or.inr (by decide) | exact Or.inr (by omega)), (by first | omega | decide | exact Or.inl (by decide) | exact Or.inr (by decide) | exact Or.inr (by omega)), (by first | omega | decide | exact Or.inl (by decide) | exact Or.inr (by decide) | exact Or.inr (by omega)), (by first | exact (hp0.imp (fun q => q) (fun q => CIa_t q hFr_r15 (by decide))) | exact Or.inl (by omega) | exact Or.inl (by decide +kernel)), hI_23, hF_24⟩, by rw [ht]; exact hP_23, va_K.moved hW.alike hK, hD_25⟩)
    · have c4 := j_eq (a := r3.toInt) (b := 0) rfl (by decide +kernel) c4
      exact r043_X9_put_b22 C hp0  x1 x2 x3 f9_areSteps f9_arePlans ai _ _ _ (by omega) (by omega) (by omega) (by omega) (by omega) (by omega) (by omega) (by omega) (by omega) (by first | exact hp0 | exact Or.inl (by omega) | exact Or.inl (by decide +kernel)) hI hF hP_6 hD_7 hS_5 (lv_sub hl [0, 1, 2, 3] rfl)
def Q_r044_X9_right (dC : Nat → ClassId) (dI : Nat → Nat → Nat) (cI cJ cII cJJ : ClassId) (ad : Nat → Nat) (f9_size f9_equations f9_areSteps f9_foundMany f9_many f9_rank f9_freeMany f9_planMany : Int32) (ai0 : Nat → Nat → Int32) (al : Nat → Nat → Int64) (x1 : Int32) (x2 : Int32) : (Nat → Prop) → Array Value → State → Outcome → State → Prop := fun A => QI (fun r t => ∃ (n_f9_arePlans : Int32), ∃ (n_ai : Nat → Nat → Int32), ((0 ≤ n_f9_arePlans.toInt ∧ n_f9_arePlans.toInt ≤ 1) ∧ (f9_areSteps.toInt = 0 ∨ CIa n_ai f9_size f9_many.toInt) ∧ ((¬ (0 ≤ x1.toInt ∧ x1.toInt < f9_equations.toInt) ∧ r.toInt = -1) ∨ ((0 ≤ x1.toInt ∧ x1.toInt < f9_equations.toInt) ∧ x2.toInt < -200 ∧ r.toInt = -4) ∨ ((0 ≤ x1.toInt ∧ x1.toInt < f9_equations.toInt) ∧ 200 < x2.toInt ∧ r.toInt = -6) ∨ ((0 ≤ x1.toInt ∧ x1.toInt < f9_equations.toInt) ∧ (-200 ≤ x2.toInt ∧ x2.toInt ≤ 200) ∧ r.toInt = (ai0 1 x1.toInt.toNat).toInt)) ∧ (((0 ≤ x1.toInt ∧ x1.toInt < f9_equations.toInt) ∧ (-200 ≤ x2.toInt ∧ x2.toInt ≤ 200) ∧ n_ai 1 = upd (ai0 1) x1.toInt.toNat x2) ∨ (¬ ((0 ≤ x1.toInt ∧ x1.toInt < f9_equations.toInt) ∧ (-200 ≤ x2.toInt ∧ x2.toInt ≤ 200)) ∧ n_ai 1 = ai0 1)) ∧ IAM n_ai ∧ FR [1, 2] ai0 n_ai) ∧ WO dC dI (TY cI cJ cII cJJ) (WM cI cJ cII cJJ ad f9_size f9_equations f9_areSteps f9_foundMany f9_many f9_rank f9_freeMany n_f9_arePlans f9_planMany n_ai al) A t) A
set_option maxRecDepth 100000 in
set_option maxHeartbeats 4000000 in
theorem r044_X9_right (l : Launch) (dC : Nat → ClassId) (dI : Nat → Nat → Nat) (cI cJ cII cJJ : ClassId) (sz g : Nat) (ad : Nat → Nat) (f9_size f9_equations f9_areSteps f9_foundMany f9_many f9_rank f9_freeMany f9_arePlans f9_planMany : Int32) (ai : Nat → Nat → Int32) (al : Nat → Nat → Int64) (x1 : Int32) (x2 : Int32) (h_f9_size : (1 ≤ f9_size.toInt ∧ f9_size.toInt ≤ 4)) (h_f9_equations : (0 ≤ f9_equations.toInt ∧ f9_equations.toInt ≤ 3)) (h_f9_areSteps : (0 ≤ f9_areSteps.toInt ∧ f9_areSteps.toInt ≤ 1)) (h_f9_foundMany : (0 ≤ f9_foundMany.toInt ∧ f9_foundMany.toInt ≤ 99999)) (h_f9_many : (0 ≤ f9_many.toInt ∧ f9_many.toInt ≤ 6000)) (h_f9_rank : (0 ≤ f9_rank.toInt ∧ f9_rank.toInt ≤ 3)) (h_f9_freeMany : (0 ≤ f9_freeMany.toInt ∧ f9_freeMany.toInt ≤ 4)) (h_f9_arePlans : (0 ≤ f9_arePlans.toInt ∧ f9_arePlans.toInt ≤ 1)) (h_f9_planMany : (0 ≤ f9_planMany.toInt ∧ f9_planMany.toInt ≤ 194481)) (hp0 : (f9_areSteps.toInt = 0 ∨ CIa ai f9_size f9_many.toInt)) (hI : IAM ai) : Met l yX9_right (.code yX9_right cX9_right 4 (some .int) :: TT) ({ frames := 3, cells := 0, slots := 0, locals := 140 } : Room) (PcS dC dI (TY cI cJ cII cJJ) [.ref (ad 22), .int x1, .int x2] (WM cI cJ cII cJJ ad f9_size f9_equations f9_areSteps f9_foundMany f9_many f9_rank f9_freeMany f9_arePlans f9_planMany ai al) sz 0 g) (Q_r044_X9_right dC dI cI cJ cII cJJ ad f9_size f9_equations f9_areSteps f9_foundMany f9_many f9_rank f9_freeMany f9_planMany ai al x1 x2 (va_A (WM cI cJ cII cJJ ad f9_size f9_equations f9_areSteps f9_foundMany f9_many f9_rank f9_freeMany f9_arePlans f9_planMany ai al) sz)) 0 0 (va_A (WM cI cJ cII cJJ ad f9_size f9_equations f9_areSteps f9_foundMany f9_many f9_rank f9_freeMany f9_arePlans f9_planMany ai al) sz) := by
  refine SM.of (y := yX9_right) (maxL := 4) (av := [.ref (ad 22), .int x1, .int x2]) (Q_r044_X9_right dC dI cI cJ cII cJJ ad f9_size f9_equations f9_areSteps f9_foundMany f9_many f9_rank f9_freeMany f9_planMany ai al x1 x2) (by decide +kernel) (Nat.le_of_ble_eq_true rfl) (fun p e s m below meth c A ls hx hb hr hml hown hts hk hnm hA hK hP hD hS hX hl => ?_)
  have C : Cx p c s m meth (([.ref (ad 22), .int x1, .int x2] : List Value).toArray) A dC dI (TY cI cJ cII cJJ) cX9_right (some .int) 4 RX9 0 g := ⟨hx, hb, hr, hml, hown, hts, hk, hA, hK, hX⟩
  have hown : s.vm.findClass RX9 = some m.cls := hown
  have hl : lv_has ls 4 [(0, .ref (ad 22)), (1, .int x1), (2, .int x2)] := hl
  obtain ⟨H, hH⟩ : ∃ q, q = s.heap := ⟨_, rfl⟩
  rw [← hH] at hP
  have hS : va_S A s.heap H [] := by rw [hH]; exact hS
  rw [← hH]
  have hF := FR_refl [1, 2] ai
  have ra_x1 := s_any x1
  have ra_x2 := s_any x2
  refine lv_iload_n hx hb dX9_right_0 rfl (lv_at hl 1 rfl) ?_
  refine lv_aload_n hx hb dX9_right_1 rfl (lv_at hl 0 rfl) ?_
  refine gf (k := 13) hx hb hts inX9 hown hK hP k_808 rfl (by decide) rfl 22 rfl (.int f9_equations) rfl dX9_right_2 ?_
  have hM := r020_X9_isIn l dC dI cI cJ cII cJJ H.size 0 ad f9_size f9_equations f9_areSteps f9_foundMany f9_many f9_rank f9_freeMany f9_arePlans f9_planMany ai al x1 f9_equations (by omega) (by omega) (by omega) (by omega) (by omega) (by omega) (by omega) (by omega) (by omega) hI
  refine k2S_i ⟨hx, hb, hml, hown, hts⟩ hK hP hD hS hA hX cs_RX9_116 hM ⟨by decide +kernel, by decide +kernel⟩ rfl rfl (Or.inl rfl) (rest := []) rfl hl.1 rfl (Nat.le_of_ble_eq_true rfl) dX9_right_5 ⟨Nat.le_of_ble_eq_true rfl, Nat.le_of_ble_eq_true rfl⟩ (fun r1 t H1 locs_1 ht hB hS_1 hFc => ?_)
  obtain ⟨⟨gpr1_0, gpr1_1⟩, hP_2, -, hD_2⟩ := hB
  rw [ht] at hP_2
  have hD_3 := hD_2.weaken (B := A) (fun k q _ h9 => hFc q.1 h9)
  clear ht
  generalize H1 = H_4 at hP_2 hS_1 ⊢
  refine lv_if_ne (tgt := 17) hx hb dX9_right_8 (by decide) (fun c2 => ?_) (fun c2 => ?_)
  · have c2 := j_ne (a := r1.toInt) (b := 0) rfl (by decide +kernel) c2
    refine lv_iload_n hx hb dX9_right_17 rfl (lv_at hl 2 rfl) ?_
    refine lv_sipush (v := (-200)) hx hb dX9_right_18 (by decide) ?_
    refine lv_icmp_ge (tgt := 31) hx hb dX9_right_21 (by decide) (fun c3 => ?_) (fun c3 => ?_)
    · have c3 := j_le (a := (-200)) (b := x2.toInt) (by decide +kernel) rfl c3
      refine lv_iload_n hx hb dX9_right_31 rfl (lv_at hl 2 rfl) ?_
      refine lv_sipush (v := 200) hx hb dX9_right_32 (by decide) ?_
      refine lv_icmp_le (tgt := 45) hx hb dX9_right_35 (by decide) (fun c4 => ?_) (fun c4 => ?_)
      · have c4 := j_le (a := x2.toInt) (b := 200) rfl (by decide +kernel) c4
        refine lv_aload_n hx hb dX9_right_45 rfl (lv_at hl 0 rfl) ?_
        refine gf (k := 1) hx hb hts inX9 hown hK hP_2 k_796 rfl (by decide) rfl 22 rfl (.ref (ad 1)) rfl dX9_right_46 ?_
        refine lv_iload_n hx hb dX9_right_49 rfl (lv_at hl 1 rfl) ?_
        refine va_iald hx hb hK hP_2 1 0 rfl rfl (j_in (a := x1.toInt) rfl (by omega) (by omega)) dX9_right_50 ?_
        refine lv_topi (fun z5 e_z5 => ?_)
        have k_z5 : z5.toInt = (ai 1 x1.toInt.toNat).toInt := by rw [e_z5]; rfl
        refine lv_istore_n (lv' := [(3, .int z5), (0, .ref (ad 22)), (1, .int x1), (2, .int x2)]) hx hb dX9_right_51 rfl hl (by decide) rfl (fun ls_5 hl_5 => ?_)
        refine lv_aload_n hx hb dX9_right_52 rfl (lv_at hl_5 1 rfl) ?_
        refine gf (k := 1) hx hb hts inX9 hown hK hP_2 k_796 rfl (by decide) rfl 22 rfl (.ref (ad 1)) rfl dX9_right_53 ?_
        refine lv_iload_n hx hb dX9_right_56 rfl (lv_at hl_5 2 rfl) ?_
        refine lv_iload_n hx hb dX9_right_57 rfl (lv_at hl_5 3 rfl) ?_
        refine va_iast hx hb hK hP_2 hD_3 hS_1 1 0 rfl rfl (j_in (a := x1.toInt) rfl (by omega) (by omega)) dX9_right_58 (fun H_6 locs_6 hP_6 hD_6 hS_6 => ?_)
        obtain ⟨ai6, e_ai6⟩ : ∃ q : Nat → Nat → Int32, q = va_up ai 1 (upd (ai 1) x1.toNatClampNeg x2) := ⟨_, rfl⟩
        have hF_7 := FR_st hF e_ai6 (by decide)
        have hI_8 : IAM ai6 := by rw [e_ai6]; exact hI
        have hP_9 : va_P (dC, dI) vwCl (WM cI cJ cII cJJ ad f9_size f9_equations f9_areSteps f9_foundMany f9_many f9_rank f9_freeMany f9_arePlans f9_planMany ai6 al) H_6 := by rw [e_ai6]; exact hP_6
        have hD_10 : va_D A (WM cI cJ cII cJJ ad f9_size f9_equations f9_areSteps f9_foundMany f9_many f9_rank f9_freeMany f9_arePlans f9_planMany ai6 al) := by rw [e_ai6]; exact hD_6
        refine lv_aload_n hx hb dX9_right_59 rfl (lv_at hl_5 1 rfl) ?_
        refine lv_iconst (v := 0) hx hb dX9_right_60 (by decide) ?_
        refine pf (k := 33) hx hb hts inX9 tyX9_ok nmX9 hown hK hP_9 hD_10 hS_6 k_828 rfl (by decide) rfl rfl 22 rfl rfl rfl (Nat.le_of_ble_eq_true rfl) dX9_right_61 (W' := (WM cI cJ cII cJJ ad f9_size f9_equations f9_areSteps f9_foundMany f9_many f9_rank f9_freeMany 0 f9_planMany ai6 al)) rfl (fun H_11 locs_11 hP_11 hD_11 hS_11 => ?_)
        refine lv_iload_n hx hb dX9_right_64 rfl (lv_at hl_5 0 rfl) ?_
        exact r2_i hx hb hr hk hS_11 dX9_right_65 (fun t ht hW => ⟨0, ai6, ⟨(by first | omega | decide | exact Or.inl (by decide) | exact Or.inr (by decide) | exact Or.inr (by omega)), (by first | exact (hp0.imp (fun q => q) (fun q => CIa_t q (FRu e_ai6) (by decide))) | exact Or.inl (by omega) | exact Or.inl (by decide +kernel)), (by have kr0 : (0 : Int32).toInt = 0 := (by decide); first | omega | decide | exact Or.inl (by decide) | exact Or.inr (by decide) | exact Or.inr (by omega)), (Or.inl ⟨by omega, by omega, up_self e_ai6⟩), hI_8, hF_7⟩, by rw [ht]; exact hP_11, va_K.moved hW.alike hK, hD_11⟩)
      · have c4 := j_nle (a := x2.toInt) (b := 200) rfl (by decide +kernel) c4
        refine lv_aload_n hx hb dX9_right_38 rfl (lv_at hl 0 rfl) ?_
        refine lv_bipush (v := (-6)) hx hb dX9_right_39 (by decide) ?_
        have kcm6 : ((-6) : Int32).toInt = (-6) := by decide +kernel
        have hM := r021_X9_refuse l dC dI cI cJ cII cJJ H_4.size 0 ad f9_size f9_equations f9_areSteps f9_foundMany f9_many f9_rank f9_freeMany f9_arePlans f9_planMany ai al (-6) (by decide +kernel) (by omega) (by omega) (by omega) (by omega) (by omega) (by omega) (by omega) (by omega) (by omega) hI
        refine k2V_i (q0 := 22) ⟨hx, hb, hml, hown, hts⟩ hK hP_2 hD_3 hS_1 hA hX cv_RX9_112 hM ⟨by decide +kernel, by decide +kernel⟩ rfl rfl (Or.inl rfl) (rest := []) rfl rfl rfl hl.1 rfl (Nat.le_of_ble_eq_true rfl) dX9_right_41 ⟨Nat.le_of_ble_eq_true rfl, Nat.le_of_ble_eq_true rfl⟩ (fun r7 t H1 locs_12 ht hB hS_12 hFc => ?_)
        obtain ⟨ai8, ⟨gpr7_0, gpr7_1, hI_13, hFr_r7⟩, hP_13, -, hD_13⟩ := hB
        have hF_14 := FR_tr hF hFr_r7 (by decide)
        rw [ht] at hP_13
        have hD_15 := hD_13.weaken (B := A) (fun k q _ h9 => hFc q.1 h9)
        clear ht
        generalize H1 = H_16 at hP_13 hS_12 ⊢
        exact r2_i hx hb hr hk hS_12 dX9_right_44 (fun t ht hW => ⟨f9_arePlans, ai8, ⟨(by first | omega | decide | exact Or.inl (by decide) | exact Or.inr (by decide) | exact Or.inr (by omega)), (by first | exact (hp0.imp (fun q => q) (fun q => CIa_t q hFr_r7 (by decide))) | exact Or.inl (by omega) | exact Or.inl (by decide +kernel)), (by first | omega | decide | exact Or.inl (by decide) | exact Or.inr (by decide) | exact Or.inr (by omega)), (Or.inr ⟨by omega, hFr_r7 1 (by decide)⟩), hI_13, hF_14⟩, by rw [ht]; exact hP_13, va_K.moved hW.alike hK, hD_15⟩)
    · have c3 := j_nle (a := (-200)) (b := x2.toInt) (by decide +kernel) rfl c3
      refine lv_aload_n hx hb dX9_right_24 rfl (lv_at hl 0 rfl) ?_
      refine lv_bipush (v := (-4)) hx hb dX9_right_25 (by decide) ?_
      have kcm4 : ((-4) : Int32).toInt = (-4) := by decide +kernel
      have hM := r021_X9_refuse l dC dI cI cJ cII cJJ H_4.size 0 ad f9_size f9_equations f9_areSteps f9_foundMany f9_many f9_rank f9_freeMany f9_arePlans f9_planMany ai al (-4) (by decide +kernel) (by omega) (by omega) (by omega) (by omega) (by omega) (by omega) (by omega) (by omega) (by omega) hI
      refine k2V_i (q0 := 22) ⟨hx, hb, hml, hown, hts⟩ hK hP_2 hD_3 hS_1 hA hX cv_RX9_112 hM ⟨by decide +kernel, by decide +kernel⟩ rfl rfl (Or.inl rfl) (rest := []) rfl rfl rfl hl.1 rfl (Nat.le_of_ble_eq_true rfl) dX9_right_27 ⟨Nat.le_of_ble_eq_true rfl, Nat.le_of_ble_eq_true rfl⟩ (fun r9 t H1 locs_17 ht hB hS_17 hFc => ?_)
      obtain ⟨ai10, ⟨gpr9_0, gpr9_1, hI_18, hFr_r9⟩, hP_18, -, hD_18⟩ := hB
      have hF_19 := FR_tr hF hFr_r9 (by decide)
      rw [ht] at hP_18
      have hD_20 := hD_18.weaken (B := A) (fun k q _ h9 => hFc q.1 h9)
      clear ht
      generalize H1 = H_21 at hP_18 hS_17 ⊢
      exact r2_i hx hb hr hk hS_17 dX9_right_30 (fun t ht hW => ⟨f9_arePlans, ai10, ⟨(by first | omega | decide | exact Or.inl (by decide) | exact Or.inr (by decide) | exact Or.inr (by omega)), (by first | exact (hp0.imp (fun q => q) (fun q => CIa_t q hFr_r9 (by decide))) | exact Or.inl (by omega) | exact Or.inl (by decide +kernel)), (by first | omega | decide | exact Or.inl (by decide) | exact Or.inr (by decide) | exact Or.inr (by omega)), (Or.inr ⟨by omega, hFr_r9 1 (by decide)⟩), hI_18, hF_19⟩, by rw [ht]; exact hP_18, va_K.moved hW.alike hK, hD_20⟩)
  · have c2 := j_eq (a := r1.toInt) (b := 0) rfl (by decide +kernel) c2
    refine lv_aload_n hx hb dX9_right_11 rfl (lv_at hl 0 rfl) ?_
    refine lv_iconst (v := (-1)) hx hb dX9_right_12 (by decide) ?_
    have kcm1 : ((-1) : Int32).toInt = (-1) := by decide +kernel
    have hM := r021_X9_refuse l dC dI cI cJ cII cJJ H_4.size 0 ad f9_size f9_equations f9_areSteps f9_foundMany f9_many f9_rank f9_freeMany f9_arePlans f9_planMany ai al (-1) (by decide +kernel) (by omega) (by omega) (by omega) (by omega) (by omega) (by omega) (by omega) (by omega) (by omega) hI
    refine k2V_i (q0 := 22) ⟨hx, hb, hml, hown, hts⟩ hK hP_2 hD_3 hS_1 hA hX cv_RX9_112 hM ⟨by decide +kernel, by decide +kernel⟩ rfl rfl (Or.inl rfl) (rest := []) rfl rfl rfl hl.1 rfl (Nat.le_of_ble_eq_true rfl) dX9_right_13 ⟨Nat.le_of_ble_eq_true rfl, Nat.le_of_ble_eq_true rfl⟩ (fun r11 t H1 locs_22 ht hB hS_22 hFc => ?_)
    obtain ⟨ai12, ⟨gpr11_0, gpr11_1, hI_23, hFr_r11⟩, hP_23, -, hD_23⟩ := hB
    have hF_24 := FR_tr hF hFr_r11 (by decide)
    rw [ht] at hP_23
    have hD_25 := hD_23.weaken (B := A) (fun k q _ h9 => hFc q.1 h9)
    clear ht
    generalize H1 = H_26 at hP_23 hS_22 ⊢
    exact r2_i hx hb hr hk hS_22 dX9_right_16 (fun t ht hW => ⟨f9_arePlans, ai12, ⟨(by first | omega | decide | exact Or.inl (by decide) | exact Or.inr (by decide) | exact Or.inr (by omega)), (by first | exact (hp0.imp (fun q => q) (fun q => CIa_t q hFr_r11 (by decide))) | exact Or.inl (by omega) | exact Or.inl (by decide +kernel)), (by first | omega | decide | exact Or.inl (by decide) | exact Or.inr (by decide) | exact Or.inr (by omega)), (Or.inr ⟨by omega, hFr_r11 1 (by decide)⟩), hI_23, hF_24⟩, by rw [ht]; exact hP_23, va_K.moved hW.alike hK, hD_25⟩)
def Q_r045_X9_bound (dC : Nat → ClassId) (dI : Nat → Nat → Nat) (cI cJ cII cJJ : ClassId) (ad : Nat → Nat) (f9_size f9_equations f9_areSteps f9_foundMany f9_many f9_rank f9_freeMany f9_planMany : Int32) (ai0 : Nat → Nat → Int32) (al : Nat → Nat → Int64) (x1 : Int32) (x2 : Int32) (x3 : Int32) : (Nat → Prop) → Array Value → State → Outcome → State → Prop := fun A => QI (fun r t => ∃ (n_f9_arePlans : Int32), ∃ (n_ai : Nat → Nat → Int32), ((-7 ≤ r.toInt ∧ r.toInt ≤ 1) ∧ (0 ≤ n_f9_arePlans.toInt ∧ n_f9_arePlans.toInt ≤ 1) ∧ (f9_areSteps.toInt = 0 ∨ CIa n_ai f9_size f9_many.toInt) ∧ ((¬ (0 ≤ x1.toInt ∧ x1.toInt < f9_size.toInt) ∧ r.toInt = -1) ∨ ((0 ≤ x1.toInt ∧ x1.toInt < f9_size.toInt) ∧ (x2.toInt < -10 ∨ x3.toInt < -10) ∧ r.toInt = -4) ∨ ((0 ≤ x1.toInt ∧ x1.toInt < f9_size.toInt) ∧ -10 ≤ x2.toInt ∧ -10 ≤ x3.toInt ∧ (10 < x2.toInt ∨ 10 < x3.toInt) ∧ r.toInt = -6) ∨ ((0 ≤ x1.toInt ∧ x1.toInt < f9_size.toInt) ∧ -10 ≤ x2.toInt ∧ -10 ≤ x3.toInt ∧ x2.toInt ≤ 10 ∧ x3.toInt ≤ 10 ∧ r.toInt = 1)) ∧ IAM n_ai ∧ FR [2, 23, 24] ai0 n_ai) ∧ WO dC dI (TY cI cJ cII cJJ) (WM cI cJ cII cJJ ad f9_size f9_equations f9_areSteps f9_foundMany f9_many f9_rank f9_freeMany n_f9_arePlans f9_planMany n_ai al) A t) A
set_option maxRecDepth 100000 in
set_option maxHeartbeats 4000000 in
theorem r045_X9_bound_b48 {p : Program} {l : Launch} {e : Env} {s : State} {m : MethodId} {args : Array Value} {below : List Frame} {meth : Method} {c : Code} {A : Nat → Prop} {dC : Nat → ClassId} {dI : Nat → Nat → Nat} {cI cJ cII cJJ : ClassId} {ad : Nat → Nat} {g : Nat} {f9_size f9_equations f9_areSteps f9_foundMany f9_many f9_rank f9_freeMany f9_planMany : Int32} {ai0 : Nat → Nat → Int32} {al : Nat → Nat → Int64} {x1 : Int32} {x2 : Int32} {x3 : Int32} (C : Cx p c s m meth args A dC dI (TY cI cJ cII cJJ) cX9_bound (some .int) 4 RX9 0 g) (hp0 : (f9_areSteps.toInt = 0 ∨ CIa ai0 f9_size f9_many.toInt)) : ∀ (f9_arePlans : Int32) (ai : Nat → Nat → Int32) (H : Heap) (locs : List Loc) (ls : Array Slot), (1 ≤ f9_size.toInt ∧ f9_size.toInt ≤ 4) → (0 ≤ f9_equations.toInt ∧ f9_equations.toInt ≤ 3) → (0 ≤ f9_areSteps.toInt ∧ f9_areSteps.toInt ≤ 1) → (0 ≤ f9_foundMany.toInt ∧ f9_foundMany.toInt ≤ 99999) → (0 ≤ f9_many.toInt ∧ f9_many.toInt ≤ 6000) → (0 ≤ f9_rank.toInt ∧ f9_rank.toInt ≤ 3) → (0 ≤ f9_freeMany.toInt ∧ f9_freeMany.toInt ≤ 4) → (0 ≤ f9_arePlans.toInt ∧ f9_arePlans.toInt ≤ 1) → (0 ≤ f9_planMany.toInt ∧ f9_planMany.toInt ≤ 194481) → (0 ≤ x1.toInt ∧ x1.toInt ≤ 3) → -10 ≤ x2.toInt → -10 ≤ x3.toInt → (f9_areSteps.toInt = 0 ∨ CIa ai f9_size f9_many.toInt) → (0 ≤ x1.toInt ∧ x1.toInt < f9_size.toInt) → (10 < x2.toInt ∨ 10 < x3.toInt) → (-10 ≤ x2.toInt ∧ -10 ≤ x3.toInt) → IAM ai → FR [2, 23, 24] ai0 ai → va_P (dC, dI) vwCl (WM cI cJ cII cJJ ad f9_size f9_equations f9_areSteps f9_foundMany f9_many f9_rank f9_freeMany f9_arePlans f9_planMany ai al) H → va_D A (WM cI cJ cII cJJ ad f9_size f9_equations f9_areSteps f9_foundMany f9_many f9_rank f9_freeMany f9_arePlans f9_planMany ai al) → va_S A s.heap H locs → lv_has ls 4 [(0, .ref (ad 22)), (1, .int x1), (2, .int x2), (3, .int x3)] → W p l e ({ frames := 3, cells := 0, slots := 0, locals := 140 } : Room) s m args below meth c H locs 0 0 (MQ below (Q_r045_X9_bound dC dI cI cJ cII cJJ ad f9_size f9_equations f9_areSteps f9_foundMany f9_many f9_rank f9_freeMany f9_planMany ai0 al x1 x2 x3 A) args s 0 0 A) (F0 m 48 ls []) := by
  obtain ⟨hx, hb, hr, hml, hown, hts, hk, hA, hK, hX⟩ := id C
  intro f9_arePlans ai H locs ls h0 h1 h2 h3 h4 h5 h6 h7 h8 h9 h10 h11 h12 h13 h14 h15 hI hF hP hD hS hl
  refine lv_aload_n hx hb dX9_bound_48 rfl (lv_at hl 0 rfl) ?_
  refine lv_bipush (v := (-6)) hx hb dX9_bound_49 (by decide) ?_
  have kcm6 : ((-6) : Int32).toInt = (-6) := by decide +kernel
  have hM := r021_X9_refuse l dC dI cI cJ cII cJJ H.size 0 ad f9_size f9_equations f9_areSteps f9_foundMany f9_many f9_rank f9_freeMany f9_arePlans f9_planMany ai al (-6) (by decide +kernel) (by omega) (by omega) (by omega) (by omega) (by omega) (by omega) (by omega) (by omega) (by omega) hI
  refine k2V_i (q0 := 22) ⟨hx, hb, hml, hown, hts⟩ hK hP hD hS hA hX cv_RX9_112 hM ⟨by decide +kernel, by decide +kernel⟩ rfl rfl (Or.inl rfl) (rest := []) rfl rfl rfl hl.1 rfl (Nat.le_of_ble_eq_true rfl) dX9_bound_51 ⟨Nat.le_of_ble_eq_true rfl, Nat.le_of_ble_eq_true rfl⟩ (fun r1 t H1 locs_1 ht hB hS_1 hFc => ?_)
  obtain ⟨ai2, ⟨gpr1_0, gpr1_1, hI_2, hFr_r1⟩, hP_2, -, hD_2⟩ := hB
  have hF_3 := FR_tr hF hFr_r1 (by decide)
  rw [ht] at hP_2
  have hD_4 := hD_2.weaken (B := A) (fun k q _ h9 => hFc q.1 h9)
  clear ht
  generalize H1 = H_5 at hP_2 hS_1 ⊢
  exact r2_i hx hb hr hk hS_1 dX9_bound_54 (fun t ht hW => ⟨f9_arePlans, ai2, ⟨(by first | omega | decide | exact Or.inl (by decide) | exact Or.inr (by decide) | exact Or.inr (by omega)), (by first | omega | decide | exact Or.inl (by decide) | exact Or.inr (by decide) | exact Or.inr (by omega)), (by first | exact (h12.imp (fun q => q) (fun q => CIa_t q hFr_r1 (by decide))) | exact Or.inl (by omega) | exact Or.inl (by decide +kernel)), (by first | omega | decide | exact Or.inl (by decide) | exact Or.inr (by decide) | exact Or.inr (by omega)), hI_2, hF_3⟩, by rw [ht]; exact hP_2, va_K.moved hW.alike hK, hD_4⟩)
set_option maxRecDepth 100000 in
set_option maxHeartbeats 4000000 in
theorem r045_X9_bound_b29 {p : Program} {l : Launch} {e : Env} {s : State} {m : MethodId} {args : Array Value} {below : List Frame} {meth : Method} {c : Code} {A : Nat → Prop} {dC : Nat → ClassId} {dI : Nat → Nat → Nat} {cI cJ cII cJJ : ClassId} {ad : Nat → Nat} {g : Nat} {f9_size f9_equations f9_areSteps f9_foundMany f9_many f9_rank f9_freeMany f9_planMany : Int32} {ai0 : Nat → Nat → Int32} {al : Nat → Nat → Int64} {x1 : Int32} {x2 : Int32} {x3 : Int32} (C : Cx p c s m meth args A dC dI (TY cI cJ cII cJJ) cX9_bound (some .int) 4 RX9 0 g) (hp0 : (f9_areSteps.toInt = 0 ∨ CIa ai0 f9_size f9_many.toInt)) : ∀ (f9_arePlans : Int32) (ai : Nat → Nat → Int32) (H : Heap) (locs : List Loc) (ls : Array Slot), (1 ≤ f9_size.toInt ∧ f9_size.toInt ≤ 4) → (0 ≤ f9_equations.toInt ∧ f9_equations.toInt ≤ 3) → (0 ≤ f9_areSteps.toInt ∧ f9_areSteps.toInt ≤ 1) → (0 ≤ f9_foundMany.toInt ∧ f9_foundMany.toInt ≤ 99999) → (0 ≤ f9_many.toInt ∧ f9_many.toInt ≤ 6000) → (0 ≤ f9_rank.toInt ∧ f9_rank.toInt ≤ 3) → (0 ≤ f9_freeMany.toInt ∧ f9_freeMany.toInt ≤ 4) → (0 ≤ f9_arePlans.toInt ∧ f9_arePlans.toInt ≤ 1) → (0 ≤ f9_planMany.toInt ∧ f9_planMany.toInt ≤ 194481) → (0 ≤ x1.toInt ∧ x1.toInt ≤ 3) → (f9_areSteps.toInt = 0 ∨ CIa ai f9_size f9_many.toInt) → (0 ≤ x1.toInt ∧ x1.toInt < f9_size.toInt) → (x2.toInt < -10 ∨ x3.toInt < -10) → IAM ai → FR [2, 23, 24] ai0 ai → va_P (dC, dI) vwCl (WM cI cJ cII cJJ ad f9_size f9_equations f9_areSteps f9_foundMany f9_many f9_rank f9_freeMany f9_arePlans f9_planMany ai al) H → va_D A (WM cI cJ cII cJJ ad f9_size f9_equations f9_areSteps f9_foundMany f9_many f9_rank f9_freeMany f9_arePlans f9_planMany ai al) → va_S A s.heap H locs → lv_has ls 4 [(0, .ref (ad 22)), (1, .int x1), (2, .int x2), (3, .int x3)] → W p l e ({ frames := 3, cells := 0, slots := 0, locals := 140 } : Room) s m args below meth c H locs 0 0 (MQ below (Q_r045_X9_bound dC dI cI cJ cII cJJ ad f9_size f9_equations f9_areSteps f9_foundMany f9_many f9_rank f9_freeMany f9_planMany ai0 al x1 x2 x3 A) args s 0 0 A) (F0 m 29 ls []) := by
  obtain ⟨hx, hb, hr, hml, hown, hts, hk, hA, hK, hX⟩ := id C
  intro f9_arePlans ai H locs ls h0 h1 h2 h3 h4 h5 h6 h7 h8 h9 h10 h11 h12 hI hF hP hD hS hl
  refine lv_aload_n hx hb dX9_bound_29 rfl (lv_at hl 0 rfl) ?_
  refine lv_bipush (v := (-4)) hx hb dX9_bound_30 (by decide) ?_
  have kcm4 : ((-4) : Int32).toInt = (-4) := by decide +kernel
  have hM := r021_X9_refuse l dC dI cI cJ cII cJJ H.size 0 ad f9_size f9_equations f9_areSteps f9_foundMany f9_many f9_rank f9_freeMany f9_arePlans f9_planMany ai al (-4) (by decide +kernel) (by omega) (by omega) (by omega) (by omega) (by omega) (by omega) (by omega) (by omega) (by omega) hI
  refine k2V_i (q0 := 22) ⟨hx, hb, hml, hown, hts⟩ hK hP hD hS hA hX cv_RX9_112 hM ⟨by decide +kernel, by decide +kernel⟩ rfl rfl (Or.inl rfl) (rest := []) rfl rfl rfl hl.1 rfl (Nat.le_of_ble_eq_true rfl) dX9_bound_32 ⟨Nat.le_of_ble_eq_true rfl, Nat.le_of_ble_eq_true rfl⟩ (fun r1 t H1 locs_1 ht hB hS_1 hFc => ?_)
  obtain ⟨ai2, ⟨gpr1_0, gpr1_1, hI_2, hFr_r1⟩, hP_2, -, hD_2⟩ := hB
  have hF_3 := FR_tr hF hFr_r1 (by decide)
  rw [ht] at hP_2
  have hD_4 := hD_2.weaken (B := A) (fun k q _ h9 => hFc q.1 h9)
  clear ht
  generalize H1 = H_5 at hP_2 hS_1 ⊢
  exact r2_i hx hb hr hk hS_1 dX9_bound_35 (fun t ht hW => ⟨f9_arePlans, ai2, ⟨(by first | omega | decide | exact Or.inl (by decide) | exact Or.inr (by decide) | exact Or.inr (by omega)), (by first | omega | decide | exact Or.inl (by decide) | exact Or.inr (by decide) | exact Or.inr (by omega)), (by first | exact (h10.imp (fun q => q) (fun q => CIa_t q hFr_r1 (by decide))) | exact Or.inl (by omega) | exact Or.inl (by decide +kernel)), (by first | omega | decide | exact Or.inl (by decide) | exact Or.inr (by decide) | exact Or.inr (by omega)), hI_2, hF_3⟩, by rw [ht]; exact hP_2, va_K.moved hW.alike hK, hD_4⟩)
set_option maxRecDepth 100000 in
set_option maxHeartbeats 4000000 in
theorem r045_X9_bound (l : Launch) (dC : Nat → ClassId) (dI : Nat → Nat → Nat) (cI cJ cII cJJ : ClassId) (sz g : Nat) (ad : Nat → Nat) (f9_size f9_equations f9_areSteps f9_foundMany f9_many f9_rank f9_freeMany f9_arePlans f9_planMany : Int32) (ai : Nat → Nat → Int32) (al : Nat → Nat → Int64) (x1 : Int32) (x2 : Int32) (x3 : Int32) (h_f9_size : (1 ≤ f9_size.toInt ∧ f9_size.toInt ≤ 4)) (h_f9_equations : (0 ≤ f9_equations.toInt ∧ f9_equations.toInt ≤ 3)) (h_f9_areSteps : (0 ≤ f9_areSteps.toInt ∧ f9_areSteps.toInt ≤ 1)) (h_f9_foundMany : (0 ≤ f9_foundMany.toInt ∧ f9_foundMany.toInt ≤ 99999)) (h_f9_many : (0 ≤ f9_many.toInt ∧ f9_many.toInt ≤ 6000)) (h_f9_rank : (0 ≤ f9_rank.toInt ∧ f9_rank.toInt ≤ 3)) (h_f9_freeMany : (0 ≤ f9_freeMany.toInt ∧ f9_freeMany.toInt ≤ 4)) (h_f9_arePlans : (0 ≤ f9_arePlans.toInt ∧ f9_arePlans.toInt ≤ 1)) (h_f9_planMany : (0 ≤ f9_planMany.toInt ∧ f9_planMany.toInt ≤ 194481)) (hp0 : (f9_areSteps.toInt = 0 ∨ CIa ai f9_size f9_many.toInt)) (hI : IAM ai) : Met l yX9_bound (.code yX9_bound cX9_bound 4 (some .int) :: TT) ({ frames := 3, cells := 0, slots := 0, locals := 140 } : Room) (PcS dC dI (TY cI cJ cII cJJ) [.ref (ad 22), .int x1, .int x2, .int x3] (WM cI cJ cII cJJ ad f9_size f9_equations f9_areSteps f9_foundMany f9_many f9_rank f9_freeMany f9_arePlans f9_planMany ai al) sz 0 g) (Q_r045_X9_bound dC dI cI cJ cII cJJ ad f9_size f9_equations f9_areSteps f9_foundMany f9_many f9_rank f9_freeMany f9_planMany ai al x1 x2 x3 (va_A (WM cI cJ cII cJJ ad f9_size f9_equations f9_areSteps f9_foundMany f9_many f9_rank f9_freeMany f9_arePlans f9_planMany ai al) sz)) 0 0 (va_A (WM cI cJ cII cJJ ad f9_size f9_equations f9_areSteps f9_foundMany f9_many f9_rank f9_freeMany f9_arePlans f9_planMany ai al) sz) := by
  refine SM.of (y := yX9_bound) (maxL := 4) (av := [.ref (ad 22), .int x1, .int x2, .int x3]) (Q_r045_X9_bound dC dI cI cJ cII cJJ ad f9_size f9_equations f9_areSteps f9_foundMany f9_many f9_rank f9_freeMany f9_planMany ai al x1 x2 x3) (by decide +kernel) (Nat.le_of_ble_eq_true rfl) (fun p e s m below meth c A ls hx hb hr hml hown hts hk hnm hA hK hP hD hS hX hl => ?_)
  have C : Cx p c s m meth (([.ref (ad 22), .int x1, .int x2, .int x3] : List Value).toArray) A dC dI (TY cI cJ cII cJJ) cX9_bound (some .int) 4 RX9 0 g := ⟨hx, hb, hr, hml, hown, hts, hk, hA, hK, hX⟩
  have hown : s.vm.findClass RX9 = some m.cls := hown
  have hl : lv_has ls 4 [(0, .ref (ad 22)), (1, .int x1), (2, .int x2), (3, .int x3)] := hl
  obtain ⟨H, hH⟩ : ∃ q, q = s.heap := ⟨_, rfl⟩
  rw [← hH] at hP
  have hS : va_S A s.heap H [] := by rw [hH]; exact hS
  rw [← hH]
  have hF := FR_refl [2, 23, 24] ai
  have ra_x1 := s_any x1
  have ra_x2 := s_any x2
  have ra_x3 := s_any x3
  refine lv_iload_n hx hb dX9_bound_0 rfl (lv_at hl 1 rfl) ?_
  refine lv_aload_n hx hb dX9_bound_1 rfl (lv_at hl 0 rfl) ?_
  refine gf (k := 12) hx hb hts inX9 hown hK hP k_807 rfl (by decide) rfl 22 rfl (.int f9_size) rfl dX9_bound_2 ?_
  have hM := r020_X9_isIn l dC dI cI cJ cII cJJ H.size 0 ad f9_size f9_equations f9_areSteps f9_foundMany f9_many f9_rank f9_freeMany f9_arePlans f9_planMany ai al x1 f9_size (by omega) (by omega) (by omega) (by omega) (by omega) (by omega) (by omega) (by omega) (by omega) hI
  refine k2S_i ⟨hx, hb, hml, hown, hts⟩ hK hP hD hS hA hX cs_RX9_116 hM ⟨by decide +kernel, by decide +kernel⟩ rfl rfl (Or.inl rfl) (rest := []) rfl hl.1 rfl (Nat.le_of_ble_eq_true rfl) dX9_bound_5 ⟨Nat.le_of_ble_eq_true rfl, Nat.le_of_ble_eq_true rfl⟩ (fun r1 t H1 locs_1 ht hB hS_1 hFc => ?_)
  obtain ⟨⟨gpr1_0, gpr1_1⟩, hP_2, -, hD_2⟩ := hB
  rw [ht] at hP_2
  have hD_3 := hD_2.weaken (B := A) (fun k q _ h9 => hFc q.1 h9)
  clear ht
  generalize H1 = H_4 at hP_2 hS_1 ⊢
  refine lv_if_ne (tgt := 17) hx hb dX9_bound_8 (by decide) (fun c2 => ?_) (fun c2 => ?_)
  · have c2 := j_ne (a := r1.toInt) (b := 0) rfl (by decide +kernel) c2
    refine lv_iload_n hx hb dX9_bound_17 rfl (lv_at hl 2 rfl) ?_
    refine lv_bipush (v := (-10)) hx hb dX9_bound_18 (by decide) ?_
    refine lv_icmp_lt (tgt := 29) hx hb dX9_bound_20 (by decide) (fun c3 => ?_) (fun c3 => ?_)
    · have c3 := j_lt (a := x2.toInt) (b := (-10)) rfl (by decide +kernel) c3
      exact r045_X9_bound_b29 C hp0  f9_arePlans ai _ _ _ (by omega) (by omega) (by omega) (by omega) (by omega) (by omega) (by omega) (by omega) (by omega) (by omega) (by first | exact hp0 | exact Or.inl (by omega) | exact Or.inl (by decide +kernel)) (by omega) (by omega) hI hF hP_2 hD_3 hS_1 (lv_sub hl [0, 1, 2, 3] rfl)
    · have c3 := j_nlt (a := x2.toInt) (b := (-10)) rfl (by decide +kernel) c3
      refine lv_iload_n hx hb dX9_bound_23 rfl (lv_at hl 3 rfl) ?_
      refine lv_bipush (v := (-10)) hx hb dX9_bound_24 (by decide) ?_
      refine lv_icmp_ge (tgt := 36) hx hb dX9_bound_26 (by decide) (fun c4 => ?_) (fun c4 => ?_)
      · have c4 := j_le (a := (-10)) (b := x3.toInt) (by decide +kernel) rfl c4
        refine lv_iload_n hx hb dX9_bound_36 rfl (lv_at hl 2 rfl) ?_
        refine lv_bipush (v := 10) hx hb dX9_bound_37 (by decide) ?_
        refine lv_icmp_gt (tgt := 48) hx hb dX9_bound_39 (by decide) (fun c5 => ?_) (fun c5 => ?_)
        · have c5 := j_lt (a := 10) (b := x2.toInt) (by decide +kernel) rfl c5
          exact r045_X9_bound_b48 C hp0  f9_arePlans ai _ _ _ (by omega) (by omega) (by omega) (by omega) (by omega) (by omega) (by omega) (by omega) (by omega) (by omega) (by omega) (by omega) (by first | exact hp0 | exact Or.inl (by omega) | exact Or.inl (by decide +kernel)) (by omega) (by omega) (by omega) hI hF hP_2 hD_3 hS_1 (lv_sub hl [0, 1, 2, 3] rfl)
        · have c5 := j_nlt (a := 10) (b := x2.toInt) (by decide +kernel) rfl c5
          refine lv_iload_n hx hb dX9_bound_42 rfl (lv_at hl 3 rfl) ?_
          refine lv_bipush (v := 10) hx hb dX9_bound_43 (by decide) ?_
          refine lv_icmp_le (tgt := 55) hx hb dX9_bound_45 (by decide) (fun c6 => ?_) (fun c6 => ?_)
          · have c6 := j_le (a := x3.toInt) (b := 10) rfl (by decide +kernel) c6
            refine lv_aload_n hx hb dX9_bound_55 rfl (lv_at hl 0 rfl) ?_
            refine gf (k := 2) hx hb hts inX9 hown hK hP_2 k_797 rfl (by decide) rfl 22 rfl (.ref (ad 23)) rfl dX9_bound_56 ?_
            refine lv_iload_n hx hb dX9_bound_59 rfl (lv_at hl 1 rfl) ?_
            refine lv_iload_n hx hb dX9_bound_60 rfl (lv_at hl 2 rfl) ?_
            refine va_iast hx hb hK hP_2 hD_3 hS_1 23 0 rfl rfl (j_in (a := x1.toInt) rfl (by omega) (by omega)) dX9_bound_61 (fun H_5 locs_5 hP_5 hD_5 hS_5 => ?_)
            obtain ⟨ai7, e_ai7⟩ : ∃ q : Nat → Nat → Int32, q = va_up ai 23 (upd (ai 23) x1.toNatClampNeg x2) := ⟨_, rfl⟩
            have hF_6 := FR_st hF e_ai7 (by decide)
            have hI_7 : IAM ai7 := by rw [e_ai7]; exact IAM_st23 hI (a := x2.toInt) rfl (by omega) (by omega)
            have hP_8 : va_P (dC, dI) vwCl (WM cI cJ cII cJJ ad f9_size f9_equations f9_areSteps f9_foundMany f9_many f9_rank f9_freeMany f9_arePlans f9_planMany ai7 al) H_5 := by rw [e_ai7]; exact hP_5
            have hD_9 : va_D A (WM cI cJ cII cJJ ad f9_size f9_equations f9_areSteps f9_foundMany f9_many f9_rank f9_freeMany f9_arePlans f9_planMany ai7 al) := by rw [e_ai7]; exact hD_5
            refine lv_aload_n hx hb dX9_bound_62 rfl (lv_at hl 0 rfl) ?_
            refine gf (k := 3) hx hb hts inX9 hown hK hP_8 k_798 rfl (by decide) rfl 22 rfl (.ref (ad 24)) rfl dX9_bound_63 ?_
            refine lv_iload_n hx hb dX9_bound_66 rfl (lv_at hl 1 rfl) ?_
            refine lv_iload_n hx hb dX9_bound_67 rfl (lv_at hl 3 rfl) ?_
            refine va_iast hx hb hK hP_8 hD_9 hS_5 24 0 rfl rfl (j_in (a := x1.toInt) rfl (by omega) (by omega)) dX9_bound_68 (fun H_10 locs_10 hP_10 hD_10 hS_10 => ?_)
            obtain ⟨ai8, e_ai8⟩ : ∃ q : Nat → Nat → Int32, q = va_up ai7 24 (upd (ai7 24) x1.toNatClampNeg x3) := ⟨_, rfl⟩
            have hF_11 := FR_st hF_6 e_ai8 (by decide)
            have hI_12 : IAM ai8 := by rw [e_ai8]; exact IAM_st24 hI_7 (a := x3.toInt) rfl (by omega) (by omega)
            have hP_13 : va_P (dC, dI) vwCl (WM cI cJ cII cJJ ad f9_size f9_equations f9_areSteps f9_foundMany f9_many f9_rank f9_freeMany f9_arePlans f9_planMany ai8 al) H_10 := by rw [e_ai8]; exact hP_10
            have hD_14 : va_D A (WM cI cJ cII cJJ ad f9_size f9_equations f9_areSteps f9_foundMany f9_many f9_rank f9_freeMany f9_arePlans f9_planMany ai8 al) := by rw [e_ai8]; exact hD_10
            refine lv_aload_n hx hb dX9_bound_69 rfl (lv_at hl 0 rfl) ?_
            refine lv_iconst (v := 0) hx hb dX9_bound_70 (by decide) ?_
            refine pf (k := 33) hx hb hts inX9 tyX9_ok nmX9 hown hK hP_13 hD_14 hS_10 k_828 rfl (by decide) rfl rfl 22 rfl rfl rfl (Nat.le_of_ble_eq_true rfl) dX9_bound_71 (W' := (WM cI cJ cII cJJ ad f9_size f9_equations f9_areSteps f9_foundMany f9_many f9_rank f9_freeMany 0 f9_planMany ai8 al)) rfl (fun H_15 locs_15 hP_15 hD_15 hS_15 => ?_)
            refine lv_iconst (v := 1) hx hb dX9_bound_74 (by decide) ?_
            exact r2_i hx hb hr hk hS_15 dX9_bound_75 (fun t ht hW => ⟨0, ai8, ⟨(by first | omega | decide | exact Or.inl (by decide) | exact Or.inr (by decide) | exact Or.inr (by omega)), (by first | omega | decide | exact Or.inl (by decide) | exact Or.inr (by decide) | exact Or.inr (by omega)), (by first | exact ((hp0.imp (fun q => q) (fun q => CIa_t q (FRu e_ai7) (by decide))).imp (fun q => q) (fun q => CIa_t q (FRu e_ai8) (by decide))) | exact Or.inl (by omega) | exact Or.inl (by decide +kernel)), (by have kr0 : (0 : Int32).toInt = 0 := (by decide); have kr1 : (1 : Int32).toInt = 1 := (by decide); first | omega | decide | exact Or.inl (by decide) | exact Or.inr (by decide) | exact Or.inr (by omega)), hI_12, hF_11⟩, by rw [ht]; exact hP_15, va_K.moved hW.alike hK, hD_15⟩)
          · have c6 := j_nle (a := x3.toInt) (b := 10) rfl (by decide +kernel) c6
            exact r045_X9_bound_b48 C hp0  f9_arePlans ai _ _ _ (by omega) (by omega) (by omega) (by omega) (by omega) (by omega) (by omega) (by omega) (by omega) (by omega) (by omega) (by omega) (by first | exact hp0 | exact Or.inl (by omega) | exact Or.inl (by decide +kernel)) (by omega) (by omega) (by omega) hI hF hP_2 hD_3 hS_1 (lv_sub hl [0, 1, 2, 3] rfl)
      · have c4 := j_nle (a := (-10)) (b := x3.toInt) (by decide +kernel) rfl c4
        exact r045_X9_bound_b29 C hp0  f9_arePlans ai _ _ _ (by omega) (by omega) (by omega) (by omega) (by omega) (by omega) (by omega) (by omega) (by omega) (by omega) (by first | exact hp0 | exact Or.inl (by omega) | exact Or.inl (by decide +kernel)) (by omega) (by omega) hI hF hP_2 hD_3 hS_1 (lv_sub hl [0, 1, 2, 3] rfl)
  · have c2 := j_eq (a := r1.toInt) (b := 0) rfl (by decide +kernel) c2
    refine lv_aload_n hx hb dX9_bound_11 rfl (lv_at hl 0 rfl) ?_
    refine lv_iconst (v := (-1)) hx hb dX9_bound_12 (by decide) ?_
    have kcm1 : ((-1) : Int32).toInt = (-1) := by decide +kernel
    have hM := r021_X9_refuse l dC dI cI cJ cII cJJ H_4.size 0 ad f9_size f9_equations f9_areSteps f9_foundMany f9_many f9_rank f9_freeMany f9_arePlans f9_planMany ai al (-1) (by decide +kernel) (by omega) (by omega) (by omega) (by omega) (by omega) (by omega) (by omega) (by omega) (by omega) hI
    refine k2V_i (q0 := 22) ⟨hx, hb, hml, hown, hts⟩ hK hP_2 hD_3 hS_1 hA hX cv_RX9_112 hM ⟨by decide +kernel, by decide +kernel⟩ rfl rfl (Or.inl rfl) (rest := []) rfl rfl rfl hl.1 rfl (Nat.le_of_ble_eq_true rfl) dX9_bound_13 ⟨Nat.le_of_ble_eq_true rfl, Nat.le_of_ble_eq_true rfl⟩ (fun r9 t H1 locs_16 ht hB hS_16 hFc => ?_)
    obtain ⟨ai10, ⟨gpr9_0, gpr9_1, hI_17, hFr_r9⟩, hP_17, -, hD_17⟩ := hB
    have hF_18 := FR_tr hF hFr_r9 (by decide)
    rw [ht] at hP_17
    have hD_19 := hD_17.weaken (B := A) (fun k q _ h9 => hFc q.1 h9)
    clear ht
    generalize H1 = H_20 at hP_17 hS_16 ⊢
    exact r2_i hx hb hr hk hS_16 dX9_bound_16 (fun t ht hW => ⟨f9_arePlans, ai10, ⟨(by first | omega | decide | exact Or.inl (by decide) | exact Or.inr (by decide) | exact Or.inr (by omega)), (by first | omega | decide | exact Or.inl (by decide) | exact Or.inr (by decide) | exact Or.inr (by omega)), (by first | exact (hp0.imp (fun q => q) (fun q => CIa_t q hFr_r9 (by decide))) | exact Or.inl (by omega) | exact Or.inl (by decide +kernel)), (by first | omega | decide | exact Or.inl (by decide) | exact Or.inr (by decide) | exact Or.inr (by omega)), hI_17, hF_18⟩, by rw [ht]; exact hP_17, va_K.moved hW.alike hK, hD_19⟩)
def Q_r046_X9_price (dC : Nat → ClassId) (dI : Nat → Nat → Nat) (cI cJ cII cJJ : ClassId) (ad : Nat → Nat) (f9_size f9_equations f9_areSteps f9_foundMany f9_many f9_rank f9_freeMany f9_arePlans f9_planMany : Int32) (ai0 : Nat → Nat → Int32) (al : Nat → Nat → Int64) (x1 : Int32) (x2 : Int32) (x3 : Int32) : (Nat → Prop) → Array Value → State → Outcome → State → Prop := fun A => QI (fun r t => ∃ (n_ai : Nat → Nat → Int32), ((-7 ≤ r.toInt ∧ r.toInt ≤ 1) ∧ (f9_areSteps.toInt = 0 ∨ CIa n_ai f9_size f9_many.toInt) ∧ ((¬ (0 ≤ x1.toInt ∧ x1.toInt < f9_size.toInt) ∧ r.toInt = -1) ∨ ((0 ≤ x1.toInt ∧ x1.toInt < f9_size.toInt) ∧ (x2.toInt < -99 ∨ x3.toInt < 0) ∧ r.toInt = -4) ∨ ((0 ≤ x1.toInt ∧ x1.toInt < f9_size.toInt) ∧ -99 ≤ x2.toInt ∧ 0 ≤ x3.toInt ∧ (99 < x2.toInt ∨ 99 < x3.toInt) ∧ r.toInt = -6) ∨ ((0 ≤ x1.toInt ∧ x1.toInt < f9_size.toInt) ∧ -99 ≤ x2.toInt ∧ 0 ≤ x3.toInt ∧ x2.toInt ≤ 99 ∧ x3.toInt ≤ 99 ∧ r.toInt = 1)) ∧ IAM n_ai ∧ FR [2, 25, 26] ai0 n_ai) ∧ WO dC dI (TY cI cJ cII cJJ) (WM cI cJ cII cJJ ad f9_size f9_equations f9_areSteps f9_foundMany f9_many f9_rank f9_freeMany f9_arePlans f9_planMany n_ai al) A t) A
set_option maxRecDepth 100000 in
set_option maxHeartbeats 4000000 in
theorem r046_X9_price_b46 {p : Program} {l : Launch} {e : Env} {s : State} {m : MethodId} {args : Array Value} {below : List Frame} {meth : Method} {c : Code} {A : Nat → Prop} {dC : Nat → ClassId} {dI : Nat → Nat → Nat} {cI cJ cII cJJ : ClassId} {ad : Nat → Nat} {g : Nat} {f9_size f9_equations f9_areSteps f9_foundMany f9_many f9_rank f9_freeMany f9_arePlans f9_planMany : Int32} {ai0 : Nat → Nat → Int32} {al : Nat → Nat → Int64} {x1 : Int32} {x2 : Int32} {x3 : Int32} (C : Cx p c s m meth args A dC dI (TY cI cJ cII cJJ) cX9_price (some .int) 4 RX9 0 g) (hp0 : (f9_areSteps.toInt = 0 ∨ CIa ai0 f9_size f9_many.toInt)) : ∀ (ai : Nat → Nat → Int32) (H : Heap) (locs : List Loc) (ls : Array Slot), (1 ≤ f9_size.toInt ∧ f9_size.toInt ≤ 4) → (0 ≤ f9_equations.toInt ∧ f9_equations.toInt ≤ 3) → (0 ≤ f9_areSteps.toInt ∧ f9_areSteps.toInt ≤ 1) → (0 ≤ f9_foundMany.toInt ∧ f9_foundMany.toInt ≤ 99999) → (0 ≤ f9_many.toInt ∧ f9_many.toInt ≤ 6000) → (0 ≤ f9_rank.toInt ∧ f9_rank.toInt ≤ 3) → (0 ≤ f9_freeMany.toInt ∧ f9_freeMany.toInt ≤ 4) → (0 ≤ f9_arePlans.toInt ∧ f9_arePlans.toInt ≤ 1) → (0 ≤ f9_planMany.toInt ∧ f9_planMany.toInt ≤ 194481) → (0 ≤ x1.toInt ∧ x1.toInt ≤ 3) → -99 ≤ x2.toInt → 0 ≤ x3.toInt → (f9_areSteps.toInt = 0 ∨ CIa ai f9_size f9_many.toInt) → (0 ≤ x1.toInt ∧ x1.toInt < f9_size.toInt) → (99 < x2.toInt ∨ 99 < x3.toInt) → (-99 ≤ x2.toInt ∧ 0 ≤ x3.toInt) → IAM ai → FR [2, 25, 26] ai0 ai → va_P (dC, dI) vwCl (WM cI cJ cII cJJ ad f9_size f9_equations f9_areSteps f9_foundMany f9_many f9_rank f9_freeMany f9_arePlans f9_planMany ai al) H → va_D A (WM cI cJ cII cJJ ad f9_size f9_equations f9_areSteps f9_foundMany f9_many f9_rank f9_freeMany f9_arePlans f9_planMany ai al) → va_S A s.heap H locs → lv_has ls 4 [(0, .ref (ad 22)), (1, .int x1), (2, .int x2), (3, .int x3)] → W p l e ({ frames := 3, cells := 0, slots := 0, locals := 140 } : Room) s m args below meth c H locs 0 0 (MQ below (Q_r046_X9_price dC dI cI cJ cII cJJ ad f9_size f9_equations f9_areSteps f9_foundMany f9_many f9_rank f9_freeMany f9_arePlans f9_planMany ai0 al x1 x2 x3 A) args s 0 0 A) (F0 m 46 ls []) := by
  obtain ⟨hx, hb, hr, hml, hown, hts, hk, hA, hK, hX⟩ := id C
  intro ai H locs ls h0 h1 h2 h3 h4 h5 h6 h7 h8 h9 h10 h11 h12 h13 h14 h15 hI hF hP hD hS hl
  refine lv_aload_n hx hb dX9_price_46 rfl (lv_at hl 0 rfl) ?_
  refine lv_bipush (v := (-6)) hx hb dX9_price_47 (by decide) ?_
  have kcm6 : ((-6) : Int32).toInt = (-6) := by decide +kernel
  have hM := r021_X9_refuse l dC dI cI cJ cII cJJ H.size 0 ad f9_size f9_equations f9_areSteps f9_foundMany f9_many f9_rank f9_freeMany f9_arePlans f9_planMany ai al (-6) (by decide +kernel) (by omega) (by omega) (by omega) (by omega) (by omega) (by omega) (by omega) (by omega) (by omega) hI
  refine k2V_i (q0 := 22) ⟨hx, hb, hml, hown, hts⟩ hK hP hD hS hA hX cv_RX9_112 hM ⟨by decide +kernel, by decide +kernel⟩ rfl rfl (Or.inl rfl) (rest := []) rfl rfl rfl hl.1 rfl (Nat.le_of_ble_eq_true rfl) dX9_price_49 ⟨Nat.le_of_ble_eq_true rfl, Nat.le_of_ble_eq_true rfl⟩ (fun r1 t H1 locs_1 ht hB hS_1 hFc => ?_)
  obtain ⟨ai2, ⟨gpr1_0, gpr1_1, hI_2, hFr_r1⟩, hP_2, -, hD_2⟩ := hB
  have hF_3 := FR_tr hF hFr_r1 (by decide)
  rw [ht] at hP_2
  have hD_4 := hD_2.weaken (B := A) (fun k q _ h9 => hFc q.1 h9)
  clear ht
  generalize H1 = H_5 at hP_2 hS_1 ⊢
  exact r2_i hx hb hr hk hS_1 dX9_price_52 (fun t ht hW => ⟨ai2, ⟨(by first | omega | decide | exact Or.inl (by decide) | exact Or.inr (by decide) | exact Or.inr (by omega)), (by first | exact (h12.imp (fun q => q) (fun q => CIa_t q hFr_r1 (by decide))) | exact Or.inl (by omega) | exact Or.inl (by decide +kernel)), (by first | omega | decide | exact Or.inl (by decide) | exact Or.inr (by decide) | exact Or.inr (by omega)), hI_2, hF_3⟩, by rw [ht]; exact hP_2, va_K.moved hW.alike hK, hD_4⟩)
set_option maxRecDepth 100000 in
set_option maxHeartbeats 4000000 in
theorem r046_X9_price_b27 {p : Program} {l : Launch} {e : Env} {s : State} {m : MethodId} {args : Array Value} {below : List Frame} {meth : Method} {c : Code} {A : Nat → Prop} {dC : Nat → ClassId} {dI : Nat → Nat → Nat} {cI cJ cII cJJ : ClassId} {ad : Nat → Nat} {g : Nat} {f9_size f9_equations f9_areSteps f9_foundMany f9_many f9_rank f9_freeMany f9_arePlans f9_planMany : Int32} {ai0 : Nat → Nat → Int32} {al : Nat → Nat → Int64} {x1 : Int32} {x2 : Int32} {x3 : Int32} (C : Cx p c s m meth args A dC dI (TY cI cJ cII cJJ) cX9_price (some .int) 4 RX9 0 g) (hp0 : (f9_areSteps.toInt = 0 ∨ CIa ai0 f9_size f9_many.toInt)) : ∀ (ai : Nat → Nat → Int32) (H : Heap) (locs : List Loc) (ls : Array Slot), (1 ≤ f9_size.toInt ∧ f9_size.toInt ≤ 4) → (0 ≤ f9_equations.toInt ∧ f9_equations.toInt ≤ 3) → (0 ≤ f9_areSteps.toInt ∧ f9_areSteps.toInt ≤ 1) → (0 ≤ f9_foundMany.toInt ∧ f9_foundMany.toInt ≤ 99999) → (0 ≤ f9_many.toInt ∧ f9_many.toInt ≤ 6000) → (0 ≤ f9_rank.toInt ∧ f9_rank.toInt ≤ 3) → (0 ≤ f9_freeMany.toInt ∧ f9_freeMany.toInt ≤ 4) → (0 ≤ f9_arePlans.toInt ∧ f9_arePlans.toInt ≤ 1) → (0 ≤ f9_planMany.toInt ∧ f9_planMany.toInt ≤ 194481) → (0 ≤ x1.toInt ∧ x1.toInt ≤ 3) → (f9_areSteps.toInt = 0 ∨ CIa ai f9_size f9_many.toInt) → (0 ≤ x1.toInt ∧ x1.toInt < f9_size.toInt) → (x2.toInt < -99 ∨ x3.toInt < 0) → IAM ai → FR [2, 25, 26] ai0 ai → va_P (dC, dI) vwCl (WM cI cJ cII cJJ ad f9_size f9_equations f9_areSteps f9_foundMany f9_many f9_rank f9_freeMany f9_arePlans f9_planMany ai al) H → va_D A (WM cI cJ cII cJJ ad f9_size f9_equations f9_areSteps f9_foundMany f9_many f9_rank f9_freeMany f9_arePlans f9_planMany ai al) → va_S A s.heap H locs → lv_has ls 4 [(0, .ref (ad 22)), (1, .int x1), (2, .int x2), (3, .int x3)] → W p l e ({ frames := 3, cells := 0, slots := 0, locals := 140 } : Room) s m args below meth c H locs 0 0 (MQ below (Q_r046_X9_price dC dI cI cJ cII cJJ ad f9_size f9_equations f9_areSteps f9_foundMany f9_many f9_rank f9_freeMany f9_arePlans f9_planMany ai0 al x1 x2 x3 A) args s 0 0 A) (F0 m 27 ls []) := by
  obtain ⟨hx, hb, hr, hml, hown, hts, hk, hA, hK, hX⟩ := id C
  intro ai H locs ls h0 h1 h2 h3 h4 h5 h6 h7 h8 h9 h10 h11 h12 hI hF hP hD hS hl
  refine lv_aload_n hx hb dX9_price_27 rfl (lv_at hl 0 rfl) ?_
  refine lv_bipush (v := (-4)) hx hb dX9_price_28 (by decide) ?_
  have kcm4 : ((-4) : Int32).toInt = (-4) := by decide +kernel
  have hM := r021_X9_refuse l dC dI cI cJ cII cJJ H.size 0 ad f9_size f9_equations f9_areSteps f9_foundMany f9_many f9_rank f9_freeMany f9_arePlans f9_planMany ai al (-4) (by decide +kernel) (by omega) (by omega) (by omega) (by omega) (by omega) (by omega) (by omega) (by omega) (by omega) hI
  refine k2V_i (q0 := 22) ⟨hx, hb, hml, hown, hts⟩ hK hP hD hS hA hX cv_RX9_112 hM ⟨by decide +kernel, by decide +kernel⟩ rfl rfl (Or.inl rfl) (rest := []) rfl rfl rfl hl.1 rfl (Nat.le_of_ble_eq_true rfl) dX9_price_30 ⟨Nat.le_of_ble_eq_true rfl, Nat.le_of_ble_eq_true rfl⟩ (fun r1 t H1 locs_1 ht hB hS_1 hFc => ?_)
  obtain ⟨ai2, ⟨gpr1_0, gpr1_1, hI_2, hFr_r1⟩, hP_2, -, hD_2⟩ := hB
  have hF_3 := FR_tr hF hFr_r1 (by decide)
  rw [ht] at hP_2
  have hD_4 := hD_2.weaken (B := A) (fun k q _ h9 => hFc q.1 h9)
  clear ht
  generalize H1 = H_5 at hP_2 hS_1 ⊢
  exact r2_i hx hb hr hk hS_1 dX9_price_33 (fun t ht hW => ⟨ai2, ⟨(by first | omega | decide | exact Or.inl (by decide) | exact Or.inr (by decide) | exact Or.inr (by omega)), (by first | exact (h10.imp (fun q => q) (fun q => CIa_t q hFr_r1 (by decide))) | exact Or.inl (by omega) | exact Or.inl (by decide +kernel)), (by first | omega | decide | exact Or.inl (by decide) | exact Or.inr (by decide) | exact Or.inr (by omega)), hI_2, hF_3⟩, by rw [ht]; exact hP_2, va_K.moved hW.alike hK, hD_4⟩)
set_option maxRecDepth 100000 in
set_option maxHeartbeats 4000000 in
theorem r046_X9_price (l : Launch) (dC : Nat → ClassId) (dI : Nat → Nat → Nat) (cI cJ cII cJJ : ClassId) (sz g : Nat) (ad : Nat → Nat) (f9_size f9_equations f9_areSteps f9_foundMany f9_many f9_rank f9_freeMany f9_arePlans f9_planMany : Int32) (ai : Nat → Nat → Int32) (al : Nat → Nat → Int64) (x1 : Int32) (x2 : Int32) (x3 : Int32) (h_f9_size : (1 ≤ f9_size.toInt ∧ f9_size.toInt ≤ 4)) (h_f9_equations : (0 ≤ f9_equations.toInt ∧ f9_equations.toInt ≤ 3)) (h_f9_areSteps : (0 ≤ f9_areSteps.toInt ∧ f9_areSteps.toInt ≤ 1)) (h_f9_foundMany : (0 ≤ f9_foundMany.toInt ∧ f9_foundMany.toInt ≤ 99999)) (h_f9_many : (0 ≤ f9_many.toInt ∧ f9_many.toInt ≤ 6000)) (h_f9_rank : (0 ≤ f9_rank.toInt ∧ f9_rank.toInt ≤ 3)) (h_f9_freeMany : (0 ≤ f9_freeMany.toInt ∧ f9_freeMany.toInt ≤ 4)) (h_f9_arePlans : (0 ≤ f9_arePlans.toInt ∧ f9_arePlans.toInt ≤ 1)) (h_f9_planMany : (0 ≤ f9_planMany.toInt ∧ f9_planMany.toInt ≤ 194481)) (hp0 : (f9_areSteps.toInt = 0 ∨ CIa ai f9_size f9_many.toInt)) (hI : IAM ai) : Met l yX9_price (.code yX9_price cX9_price 4 (some .int) :: TT) ({ frames := 3, cells := 0, slots := 0, locals := 140 } : Room) (PcS dC dI (TY cI cJ cII cJJ) [.ref (ad 22), .int x1, .int x2, .int x3] (WM cI cJ cII cJJ ad f9_size f9_equations f9_areSteps f9_foundMany f9_many f9_rank f9_freeMany f9_arePlans f9_planMany ai al) sz 0 g) (Q_r046_X9_price dC dI cI cJ cII cJJ ad f9_size f9_equations f9_areSteps f9_foundMany f9_many f9_rank f9_freeMany f9_arePlans f9_planMany ai al x1 x2 x3 (va_A (WM cI cJ cII cJJ ad f9_size f9_equations f9_areSteps f9_foundMany f9_many f9_rank f9_freeMany f9_arePlans f9_planMany ai al) sz)) 0 0 (va_A (WM cI cJ cII cJJ ad f9_size f9_equations f9_areSteps f9_foundMany f9_many f9_rank f9_freeMany f9_arePlans f9_planMany ai al) sz) := by
  refine SM.of (y := yX9_price) (maxL := 4) (av := [.ref (ad 22), .int x1, .int x2, .int x3]) (Q_r046_X9_price dC dI cI cJ cII cJJ ad f9_size f9_equations f9_areSteps f9_foundMany f9_many f9_rank f9_freeMany f9_arePlans f9_planMany ai al x1 x2 x3) (by decide +kernel) (Nat.le_of_ble_eq_true rfl) (fun p e s m below meth c A ls hx hb hr hml hown hts hk hnm hA hK hP hD hS hX hl => ?_)
  have C : Cx p c s m meth (([.ref (ad 22), .int x1, .int x2, .int x3] : List Value).toArray) A dC dI (TY cI cJ cII cJJ) cX9_price (some .int) 4 RX9 0 g := ⟨hx, hb, hr, hml, hown, hts, hk, hA, hK, hX⟩
  have hown : s.vm.findClass RX9 = some m.cls := hown
  have hl : lv_has ls 4 [(0, .ref (ad 22)), (1, .int x1), (2, .int x2), (3, .int x3)] := hl
  obtain ⟨H, hH⟩ : ∃ q, q = s.heap := ⟨_, rfl⟩
  rw [← hH] at hP
  have hS : va_S A s.heap H [] := by rw [hH]; exact hS
  rw [← hH]
  have hF := FR_refl [2, 25, 26] ai
  have ra_x1 := s_any x1
  have ra_x2 := s_any x2
  have ra_x3 := s_any x3
  refine lv_iload_n hx hb dX9_price_0 rfl (lv_at hl 1 rfl) ?_
  refine lv_aload_n hx hb dX9_price_1 rfl (lv_at hl 0 rfl) ?_
  refine gf (k := 12) hx hb hts inX9 hown hK hP k_807 rfl (by decide) rfl 22 rfl (.int f9_size) rfl dX9_price_2 ?_
  have hM := r020_X9_isIn l dC dI cI cJ cII cJJ H.size 0 ad f9_size f9_equations f9_areSteps f9_foundMany f9_many f9_rank f9_freeMany f9_arePlans f9_planMany ai al x1 f9_size (by omega) (by omega) (by omega) (by omega) (by omega) (by omega) (by omega) (by omega) (by omega) hI
  refine k2S_i ⟨hx, hb, hml, hown, hts⟩ hK hP hD hS hA hX cs_RX9_116 hM ⟨by decide +kernel, by decide +kernel⟩ rfl rfl (Or.inl rfl) (rest := []) rfl hl.1 rfl (Nat.le_of_ble_eq_true rfl) dX9_price_5 ⟨Nat.le_of_ble_eq_true rfl, Nat.le_of_ble_eq_true rfl⟩ (fun r1 t H1 locs_1 ht hB hS_1 hFc => ?_)
  obtain ⟨⟨gpr1_0, gpr1_1⟩, hP_2, -, hD_2⟩ := hB
  rw [ht] at hP_2
  have hD_3 := hD_2.weaken (B := A) (fun k q _ h9 => hFc q.1 h9)
  clear ht
  generalize H1 = H_4 at hP_2 hS_1 ⊢
  refine lv_if_ne (tgt := 17) hx hb dX9_price_8 (by decide) (fun c2 => ?_) (fun c2 => ?_)
  · have c2 := j_ne (a := r1.toInt) (b := 0) rfl (by decide +kernel) c2
    refine lv_iload_n hx hb dX9_price_17 rfl (lv_at hl 2 rfl) ?_
    refine lv_bipush (v := (-99)) hx hb dX9_price_18 (by decide) ?_
    refine lv_icmp_lt (tgt := 27) hx hb dX9_price_20 (by decide) (fun c3 => ?_) (fun c3 => ?_)
    · have c3 := j_lt (a := x2.toInt) (b := (-99)) rfl (by decide +kernel) c3
      exact r046_X9_price_b27 C hp0  ai _ _ _ (by omega) (by omega) (by omega) (by omega) (by omega) (by omega) (by omega) (by omega) (by omega) (by omega) (by first | exact hp0 | exact Or.inl (by omega) | exact Or.inl (by decide +kernel)) (by omega) (by omega) hI hF hP_2 hD_3 hS_1 (lv_sub hl [0, 1, 2, 3] rfl)
    · have c3 := j_nlt (a := x2.toInt) (b := (-99)) rfl (by decide +kernel) c3
      refine lv_iload_n hx hb dX9_price_23 rfl (lv_at hl 3 rfl) ?_
      refine lv_if_ge (tgt := 34) hx hb dX9_price_24 (by decide) (fun c4 => ?_) (fun c4 => ?_)
      · have c4 := j_le (a := 0) (b := x3.toInt) (by decide +kernel) rfl c4
        refine lv_iload_n hx hb dX9_price_34 rfl (lv_at hl 2 rfl) ?_
        refine lv_bipush (v := 99) hx hb dX9_price_35 (by decide) ?_
        refine lv_icmp_gt (tgt := 46) hx hb dX9_price_37 (by decide) (fun c5 => ?_) (fun c5 => ?_)
        · have c5 := j_lt (a := 99) (b := x2.toInt) (by decide +kernel) rfl c5
          exact r046_X9_price_b46 C hp0  ai _ _ _ (by omega) (by omega) (by omega) (by omega) (by omega) (by omega) (by omega) (by omega) (by omega) (by omega) (by omega) (by omega) (by first | exact hp0 | exact Or.inl (by omega) | exact Or.inl (by decide +kernel)) (by omega) (by omega) (by omega) hI hF hP_2 hD_3 hS_1 (lv_sub hl [0, 1, 2, 3] rfl)
        · have c5 := j_nlt (a := 99) (b := x2.toInt) (by decide +kernel) rfl c5
          refine lv_iload_n hx hb dX9_price_40 rfl (lv_at hl 3 rfl) ?_
          refine lv_bipush (v := 99) hx hb dX9_price_41 (by decide) ?_
          refine lv_icmp_le (tgt := 53) hx hb dX9_price_43 (by decide) (fun c6 => ?_) (fun c6 => ?_)
          · have c6 := j_le (a := x3.toInt) (b := 99) rfl (by decide +kernel) c6
            refine lv_aload_n hx hb dX9_price_53 rfl (lv_at hl 0 rfl) ?_
            refine gf (k := 4) hx hb hts inX9 hown hK hP_2 k_799 rfl (by decide) rfl 22 rfl (.ref (ad 25)) rfl dX9_price_54 ?_
            refine lv_iload_n hx hb dX9_price_57 rfl (lv_at hl 1 rfl) ?_
            refine lv_iload_n hx hb dX9_price_58 rfl (lv_at hl 2 rfl) ?_
            refine va_iast hx hb hK hP_2 hD_3 hS_1 25 0 rfl rfl (j_in (a := x1.toInt) rfl (by omega) (by omega)) dX9_price_59 (fun H_5 locs_5 hP_5 hD_5 hS_5 => ?_)
            obtain ⟨ai7, e_ai7⟩ : ∃ q : Nat → Nat → Int32, q = va_up ai 25 (upd (ai 25) x1.toNatClampNeg x2) := ⟨_, rfl⟩
            have hF_6 := FR_st hF e_ai7 (by decide)
            have hI_7 : IAM ai7 := by rw [e_ai7]; exact hI
            have hP_8 : va_P (dC, dI) vwCl (WM cI cJ cII cJJ ad f9_size f9_equations f9_areSteps f9_foundMany f9_many f9_rank f9_freeMany f9_arePlans f9_planMany ai7 al) H_5 := by rw [e_ai7]; exact hP_5
            have hD_9 : va_D A (WM cI cJ cII cJJ ad f9_size f9_equations f9_areSteps f9_foundMany f9_many f9_rank f9_freeMany f9_arePlans f9_planMany ai7 al) := by rw [e_ai7]; exact hD_5
            refine lv_aload_n hx hb dX9_price_60 rfl (lv_at hl 0 rfl) ?_
            refine gf (k := 5) hx hb hts inX9 hown hK hP_8 k_800 rfl (by decide) rfl 22 rfl (.ref (ad 26)) rfl dX9_price_61 ?_
            refine lv_iload_n hx hb dX9_price_64 rfl (lv_at hl 1 rfl) ?_
            refine lv_iload_n hx hb dX9_price_65 rfl (lv_at hl 3 rfl) ?_
            refine va_iast hx hb hK hP_8 hD_9 hS_5 26 0 rfl rfl (j_in (a := x1.toInt) rfl (by omega) (by omega)) dX9_price_66 (fun H_10 locs_10 hP_10 hD_10 hS_10 => ?_)
            obtain ⟨ai8, e_ai8⟩ : ∃ q : Nat → Nat → Int32, q = va_up ai7 26 (upd (ai7 26) x1.toNatClampNeg x3) := ⟨_, rfl⟩
            have hF_11 := FR_st hF_6 e_ai8 (by decide)
            have hI_12 : IAM ai8 := by rw [e_ai8]; exact hI_7
            have hP_13 : va_P (dC, dI) vwCl (WM cI cJ cII cJJ ad f9_size f9_equations f9_areSteps f9_foundMany f9_many f9_rank f9_freeMany f9_arePlans f9_planMany ai8 al) H_10 := by rw [e_ai8]; exact hP_10
            have hD_14 : va_D A (WM cI cJ cII cJJ ad f9_size f9_equations f9_areSteps f9_foundMany f9_many f9_rank f9_freeMany f9_arePlans f9_planMany ai8 al) := by rw [e_ai8]; exact hD_10
            refine lv_iconst (v := 1) hx hb dX9_price_67 (by decide) ?_
            exact r2_i hx hb hr hk hS_10 dX9_price_68 (fun t ht hW => ⟨ai8, ⟨(by first | omega | decide | exact Or.inl (by decide) | exact Or.inr (by decide) | exact Or.inr (by omega)), (by first | exact ((hp0.imp (fun q => q) (fun q => CIa_t q (FRu e_ai7) (by decide))).imp (fun q => q) (fun q => CIa_t q (FRu e_ai8) (by decide))) | exact Or.inl (by omega) | exact Or.inl (by decide +kernel)), (by have kr1 : (1 : Int32).toInt = 1 := (by decide); first | omega | decide | exact Or.inl (by decide) | exact Or.inr (by decide) | exact Or.inr (by omega)), hI_12, hF_11⟩, by rw [ht]; exact hP_13, va_K.moved hW.alike hK, hD_14⟩)
          · have c6 := j_nle (a := x3.toInt) (b := 99) rfl (by decide +kernel) c6
            exact r046_X9_price_b46 C hp0  ai _ _ _ (by omega) (by omega) (by omega) (by omega) (by omega) (by omega) (by omega) (by omega) (by omega) (by omega) (by omega) (by omega) (by first | exact hp0 | exact Or.inl (by omega) | exact Or.inl (by decide +kernel)) (by omega) (by omega) (by omega) hI hF hP_2 hD_3 hS_1 (lv_sub hl [0, 1, 2, 3] rfl)
      · have c4 := j_nle (a := 0) (b := x3.toInt) (by decide +kernel) rfl c4
        exact r046_X9_price_b27 C hp0  ai _ _ _ (by omega) (by omega) (by omega) (by omega) (by omega) (by omega) (by omega) (by omega) (by omega) (by omega) (by first | exact hp0 | exact Or.inl (by omega) | exact Or.inl (by decide +kernel)) (by omega) (by omega) hI hF hP_2 hD_3 hS_1 (lv_sub hl [0, 1, 2, 3] rfl)
  · have c2 := j_eq (a := r1.toInt) (b := 0) rfl (by decide +kernel) c2
    refine lv_aload_n hx hb dX9_price_11 rfl (lv_at hl 0 rfl) ?_
    refine lv_iconst (v := (-1)) hx hb dX9_price_12 (by decide) ?_
    have kcm1 : ((-1) : Int32).toInt = (-1) := by decide +kernel
    have hM := r021_X9_refuse l dC dI cI cJ cII cJJ H_4.size 0 ad f9_size f9_equations f9_areSteps f9_foundMany f9_many f9_rank f9_freeMany f9_arePlans f9_planMany ai al (-1) (by decide +kernel) (by omega) (by omega) (by omega) (by omega) (by omega) (by omega) (by omega) (by omega) (by omega) hI
    refine k2V_i (q0 := 22) ⟨hx, hb, hml, hown, hts⟩ hK hP_2 hD_3 hS_1 hA hX cv_RX9_112 hM ⟨by decide +kernel, by decide +kernel⟩ rfl rfl (Or.inl rfl) (rest := []) rfl rfl rfl hl.1 rfl (Nat.le_of_ble_eq_true rfl) dX9_price_13 ⟨Nat.le_of_ble_eq_true rfl, Nat.le_of_ble_eq_true rfl⟩ (fun r9 t H1 locs_15 ht hB hS_15 hFc => ?_)
    obtain ⟨ai10, ⟨gpr9_0, gpr9_1, hI_16, hFr_r9⟩, hP_16, -, hD_16⟩ := hB
    have hF_17 := FR_tr hF hFr_r9 (by decide)
    rw [ht] at hP_16
    have hD_18 := hD_16.weaken (B := A) (fun k q _ h9 => hFc q.1 h9)
    clear ht
    generalize H1 = H_19 at hP_16 hS_15 ⊢
    exact r2_i hx hb hr hk hS_15 dX9_price_16 (fun t ht hW => ⟨ai10, ⟨(by first | omega | decide | exact Or.inl (by decide) | exact Or.inr (by decide) | exact Or.inr (by omega)), (by first | exact (hp0.imp (fun q => q) (fun q => CIa_t q hFr_r9 (by decide))) | exact Or.inl (by omega) | exact Or.inl (by decide +kernel)), (by first | omega | decide | exact Or.inl (by decide) | exact Or.inr (by decide) | exact Or.inr (by omega)), hI_16, hF_17⟩, by rw [ht]; exact hP_16, va_K.moved hW.alike hK, hD_18⟩)
def Q_r047_X9_tray (dC : Nat → ClassId) (dI : Nat → Nat → Nat) (cI cJ cII cJJ : ClassId) (ad : Nat → Nat) (f9_size f9_equations f9_areSteps f9_foundMany f9_many f9_rank f9_freeMany f9_arePlans f9_planMany : Int32) (ai0 : Nat → Nat → Int32) (al0 : Nat → Nat → Int64) (x1 : Int32) (x2 : Int32) (x3 : Int32) : (Nat → Prop) → Array Value → State → Outcome → State → Prop := fun A => QI (fun r t => ∃ (n_ai : Nat → Nat → Int32), ∃ (n_al : Nat → Nat → Int64), ((-7 ≤ r.toInt ∧ r.toInt ≤ 1) ∧ (f9_areSteps.toInt = 0 ∨ CIa n_ai f9_size f9_many.toInt) ∧ ((¬ (0 ≤ x1.toInt ∧ x1.toInt < 4) ∧ r.toInt = -1) ∨ ((0 ≤ x1.toInt ∧ x1.toInt < 4) ∧ ¬ (0 ≤ x2.toInt ∧ x2.toInt < 4) ∧ r.toInt = -2) ∨ ((0 ≤ x1.toInt ∧ x1.toInt < 4) ∧ (0 ≤ x2.toInt ∧ x2.toInt < 4) ∧ x3.toInt < 0 ∧ r.toInt = -4) ∨ ((0 ≤ x1.toInt ∧ x1.toInt < 4) ∧ (0 ≤ x2.toInt ∧ x2.toInt < 4) ∧ 20 < x3.toInt ∧ r.toInt = -6) ∨ ((0 ≤ x1.toInt ∧ x1.toInt < 4) ∧ (0 ≤ x2.toInt ∧ x2.toInt < 4) ∧ 0 ≤ x3.toInt ∧ x3.toInt ≤ 20 ∧ r.toInt = 1)) ∧ ((((0 ≤ x1.toInt ∧ x1.toInt < 4) ∧ (0 ≤ x2.toInt ∧ x2.toInt < 4) ∧ 0 ≤ x3.toInt ∧ x3.toInt ≤ 20) ∧ n_ai 3 = upd (ai0 3) x1.toInt.toNat x2 ∧ n_ai 4 = upd (ai0 4) x1.toInt.toNat x3) ∨ (¬ ((0 ≤ x1.toInt ∧ x1.toInt < 4) ∧ (0 ≤ x2.toInt ∧ x2.toInt < 4) ∧ 0 ≤ x3.toInt ∧ x3.toInt ≤ 20) ∧ n_ai 3 = ai0 3 ∧ n_ai 4 = ai0 4)) ∧ IAM n_ai ∧ FR [2, 3, 4] ai0 n_ai ∧ FL [5] al0 n_al) ∧ WO dC dI (TY cI cJ cII cJJ) (WM cI cJ cII cJJ ad f9_size f9_equations f9_areSteps f9_foundMany f9_many f9_rank f9_freeMany f9_arePlans f9_planMany n_ai n_al) A t) A
set_option maxRecDepth 100000 in
set_option maxHeartbeats 4000000 in
theorem r047_X9_tray_b70 {p : Program} {l : Launch} {e : Env} {s : State} {m : MethodId} {args : Array Value} {below : List Frame} {meth : Method} {c : Code} {A : Nat → Prop} {dC : Nat → ClassId} {dI : Nat → Nat → Nat} {cI cJ cII cJJ : ClassId} {ad : Nat → Nat} {g : Nat} {f9_size f9_equations f9_areSteps f9_foundMany f9_many f9_rank f9_freeMany f9_arePlans f9_planMany : Int32} {ai0 : Nat → Nat → Int32} {al0 : Nat → Nat → Int64} {x1 : Int32} {x2 : Int32} {x3 : Int32} (C : Cx p c s m meth args A dC dI (TY cI cJ cII cJJ) cX9_tray (some .int) 5 RX9 0 g) (hp0 : (f9_areSteps.toInt = 0 ∨ CIa ai0 f9_size f9_many.toInt)) : ∀ (n : Nat), ∀ (L4 : Int32) (ai : Nat → Nat → Int32) (al : Nat → Nat → Int64) (H : Heap) (locs : List Loc) (ls : Array Slot), (0 ≤ L4.toInt ∧ L4.toInt ≤ 20) → (1 ≤ f9_size.toInt ∧ f9_size.toInt ≤ 4) → (0 ≤ f9_equations.toInt ∧ f9_equations.toInt ≤ 3) → (0 ≤ f9_areSteps.toInt ∧ f9_areSteps.toInt ≤ 1) → (0 ≤ f9_foundMany.toInt ∧ f9_foundMany.toInt ≤ 99999) → (0 ≤ f9_many.toInt ∧ f9_many.toInt ≤ 6000) → (0 ≤ f9_rank.toInt ∧ f9_rank.toInt ≤ 3) → (0 ≤ f9_freeMany.toInt ∧ f9_freeMany.toInt ≤ 4) → (0 ≤ f9_arePlans.toInt ∧ f9_arePlans.toInt ≤ 1) → (0 ≤ f9_planMany.toInt ∧ f9_planMany.toInt ≤ 194481) → (0 ≤ x1.toInt ∧ x1.toInt ≤ 3) → (0 ≤ x2.toInt ∧ x2.toInt ≤ 3) → (0 ≤ x3.toInt ∧ x3.toInt ≤ 20) → (f9_areSteps.toInt = 0 ∨ CIa ai f9_size f9_many.toInt) → (0 ≤ x1.toInt ∧ x1.toInt < 4) → (0 ≤ x2.toInt ∧ x2.toInt < 4) → (0 ≤ x3.toInt ∧ x3.toInt ≤ 20) → ai 3 = upd (ai0 3) x1.toInt.toNat x2 → ai 4 = upd (ai0 4) x1.toInt.toNat x3 → x3.toInt - L4.toInt < (n : Int) → (0 : Int) < (n : Int) → IAM ai → FR [2, 3, 4] ai0 ai → FL [5] al0 al → va_P (dC, dI) vwCl (WM cI cJ cII cJJ ad f9_size f9_equations f9_areSteps f9_foundMany f9_many f9_rank f9_freeMany f9_arePlans f9_planMany ai al) H → va_D A (WM cI cJ cII cJJ ad f9_size f9_equations f9_areSteps f9_foundMany f9_many f9_rank f9_freeMany f9_arePlans f9_planMany ai al) → va_S A s.heap H locs → lv_has ls 5 [(0, .ref (ad 22)), (1, .int x1), (2, .int x2), (3, .int x3), (4, .int L4)] → W p l e ({ frames := 3, cells := 0, slots := 0, locals := 140 } : Room) s m args below meth c H locs 0 0 (MQ below (Q_r047_X9_tray dC dI cI cJ cII cJJ ad f9_size f9_equations f9_areSteps f9_foundMany f9_many f9_rank f9_freeMany f9_arePlans f9_planMany ai0 al0 x1 x2 x3 A) args s 0 0 A) (F0 m 70 ls []) := by
  obtain ⟨hx, hb, hr, hml, hown, hts, hk, hA, hK, hX⟩ := id C
  intro n
  induction n with
  | zero =>
    intro L4 ai al H locs ls h0 h1 h2 h3 h4 h5 h6 h7 h8 h9 h10 h11 h12 h13 h14 h15 h16 h17 h18 h19 h20 hI hF hG hP hD hS hl
    exact absurd h20 (by omega)
  | succ n ih =>
    intro L4 ai al H locs ls h0 h1 h2 h3 h4 h5 h6 h7 h8 h9 h10 h11 h12 h13 h14 h15 h16 h17 h18 h19 h20 hI hF hG hP hD hS hl
    refine lv_iload hx hb dX9_tray_70 (lv_at hl 4 rfl) ?_
    refine lv_iload_n hx hb dX9_tray_72 rfl (lv_at hl 3 rfl) ?_
    refine lv_icmp_ge (tgt := 95) hx hb dX9_tray_73 (by decide) (fun c1 => ?_) (fun c1 => ?_)
    · have c1 := j_le (a := x3.toInt) (b := L4.toInt) rfl rfl c1
      refine lv_iconst (v := 1) hx hb dX9_tray_95 (by decide) ?_
      exact r2_i hx hb hr hk hS dX9_tray_96 (fun t ht hW => ⟨ai, al, ⟨(by first | omega | decide | exact Or.inl (by decide) | exact Or.inr (by decide) | exact Or.inr (by omega)), (by first | exact h13 | exact Or.inl (by omega) | exact Or.inl (by decide +kernel)), (by have kr1 : (1 : Int32).toInt = 1 := (by decide); first | omega | decide | exact Or.inl (by decide) | exact Or.inr (by decide) | exact Or.inr (by omega)), (Or.inl ⟨by omega, h17, h18⟩), hI, hF, hG⟩, by rw [ht]; exact hP, va_K.moved hW.alike hK, hD⟩)
    · have c1 := j_nle (a := x3.toInt) (b := L4.toInt) rfl rfl c1
      refine lv_aload_n hx hb dX9_tray_76 rfl (lv_at hl 0 rfl) ?_
      refine gf (k := 10) hx hb hts inX9 hown hK hP k_805 rfl (by decide) rfl 22 rfl (.ref (ad 5)) rfl dX9_tray_77 ?_
      refine lv_bipush (v := 20) hx hb dX9_tray_80 (by decide) ?_
      refine lv_iload_n hx hb dX9_tray_82 rfl (lv_at hl 1 rfl) ?_
      refine v_imul hx hb dX9_tray_83 _ rfl ?_
      refine lv_topi (fun z2 e_z2 => ?_)
      have g_z2 : z2.toInt = 20 * x1.toInt := by rw [e_z2]; exact n_mul (a := 20) (b := x1.toInt) (by decide +kernel) rfl (by omega) (by omega)
      refine lv_iload hx hb dX9_tray_84 (lv_at hl 4 rfl) ?_
      refine v_iadd hx hb dX9_tray_86 _ rfl ?_
      refine lv_topi (fun z3 e_z3 => ?_)
      have g_z3 : z3.toInt = z2.toInt + L4.toInt := by rw [e_z3]; exact n_add (a := z2.toInt) (b := L4.toInt) rfl rfl (by omega) (by omega)
      refine lv_lconst (v := 0) hx hb dX9_tray_87 (by decide) ?_
      refine va_last hx hb hK hP hD hS 5 1 rfl rfl (j_in (a := z3.toInt) rfl (by omega) (by omega)) dX9_tray_88 (fun H_1 locs_1 hP_1 hD_1 hS_1 => ?_)
      obtain ⟨al4, e_al4⟩ : ∃ q : Nat → Nat → Int64, q = va_up al 5 (vp_updL (al 5) z3.toNatClampNeg 0) := ⟨_, rfl⟩
      have hG_2 := FL_st hG e_al4 (by decide)
      have hP_3 : va_P (dC, dI) vwCl (WM cI cJ cII cJJ ad f9_size f9_equations f9_areSteps f9_foundMany f9_many f9_rank f9_freeMany f9_arePlans f9_planMany ai al4) H_1 := by rw [e_al4]; exact hP_1
      have hD_4 : va_D A (WM cI cJ cII cJJ ad f9_size f9_equations f9_areSteps f9_foundMany f9_many f9_rank f9_freeMany f9_arePlans f9_planMany ai al4) := by rw [e_al4]; exact hD_1
      obtain ⟨z5, e_z5⟩ : ∃ q : Int32, q = L4 + Int32.ofInt 1 := ⟨_, rfl⟩
      have g_z5 : z5.toInt = L4.toInt + 1 := by rw [e_z5]; exact n_add (a := L4.toInt) (b := 1) rfl (by decide +kernel) (by omega) (by omega)
      refine lv_iinc (v := z5) (lv' := [(4, .int z5), (0, .ref (ad 22)), (1, .int x1), (2, .int x2), (3, .int x3)]) hx hb dX9_tray_89 hl (k := 4) rfl e_z5.symm (by decide) rfl (fun ls_5 hl_5 => ?_)
      refine lv_goto (tgt := 70) hx hb dX9_tray_92 (by decide) ?_
      exact ih z5 ai al4 _ _ _ (by omega) (by omega) (by omega) (by omega) (by omega) (by omega) (by omega) (by omega) (by omega) (by omega) (by omega) (by omega) (by omega) (by first | exact h13 | exact Or.inl (by omega) | exact Or.inl (by decide +kernel)) (by omega) (by omega) (by omega) h17 h18 (by omega) (by omega) hI hF hG_2 hP_3 hD_4 hS_1 (lv_sub hl_5 [1, 2, 3, 4, 0] rfl)
set_option maxRecDepth 100000 in
set_option maxHeartbeats 4000000 in
theorem r047_X9_tray (l : Launch) (dC : Nat → ClassId) (dI : Nat → Nat → Nat) (cI cJ cII cJJ : ClassId) (sz g : Nat) (ad : Nat → Nat) (f9_size f9_equations f9_areSteps f9_foundMany f9_many f9_rank f9_freeMany f9_arePlans f9_planMany : Int32) (ai : Nat → Nat → Int32) (al : Nat → Nat → Int64) (x1 : Int32) (x2 : Int32) (x3 : Int32) (h_f9_size : (1 ≤ f9_size.toInt ∧ f9_size.toInt ≤ 4)) (h_f9_equations : (0 ≤ f9_equations.toInt ∧ f9_equations.toInt ≤ 3)) (h_f9_areSteps : (0 ≤ f9_areSteps.toInt ∧ f9_areSteps.toInt ≤ 1)) (h_f9_foundMany : (0 ≤ f9_foundMany.toInt ∧ f9_foundMany.toInt ≤ 99999)) (h_f9_many : (0 ≤ f9_many.toInt ∧ f9_many.toInt ≤ 6000)) (h_f9_rank : (0 ≤ f9_rank.toInt ∧ f9_rank.toInt ≤ 3)) (h_f9_freeMany : (0 ≤ f9_freeMany.toInt ∧ f9_freeMany.toInt ≤ 4)) (h_f9_arePlans : (0 ≤ f9_arePlans.toInt ∧ f9_arePlans.toInt ≤ 1)) (h_f9_planMany : (0 ≤ f9_planMany.toInt ∧ f9_planMany.toInt ≤ 194481)) (hp0 : (f9_areSteps.toInt = 0 ∨ CIa ai f9_size f9_many.toInt)) (hI : IAM ai) : Met l yX9_tray (.code yX9_tray cX9_tray 5 (some .int) :: TT) ({ frames := 3, cells := 0, slots := 0, locals := 140 } : Room) (PcS dC dI (TY cI cJ cII cJJ) [.ref (ad 22), .int x1, .int x2, .int x3] (WM cI cJ cII cJJ ad f9_size f9_equations f9_areSteps f9_foundMany f9_many f9_rank f9_freeMany f9_arePlans f9_planMany ai al) sz 0 g) (Q_r047_X9_tray dC dI cI cJ cII cJJ ad f9_size f9_equations f9_areSteps f9_foundMany f9_many f9_rank f9_freeMany f9_arePlans f9_planMany ai al x1 x2 x3 (va_A (WM cI cJ cII cJJ ad f9_size f9_equations f9_areSteps f9_foundMany f9_many f9_rank f9_freeMany f9_arePlans f9_planMany ai al) sz)) 0 0 (va_A (WM cI cJ cII cJJ ad f9_size f9_equations f9_areSteps f9_foundMany f9_many f9_rank f9_freeMany f9_arePlans f9_planMany ai al) sz) := by
  refine SM.of (y := yX9_tray) (maxL := 5) (av := [.ref (ad 22), .int x1, .int x2, .int x3]) (Q_r047_X9_tray dC dI cI cJ cII cJJ ad f9_size f9_equations f9_areSteps f9_foundMany f9_many f9_rank f9_freeMany f9_arePlans f9_planMany ai al x1 x2 x3) (by decide +kernel) (Nat.le_of_ble_eq_true rfl) (fun p e s m below meth c A ls hx hb hr hml hown hts hk hnm hA hK hP hD hS hX hl => ?_)
  have C : Cx p c s m meth (([.ref (ad 22), .int x1, .int x2, .int x3] : List Value).toArray) A dC dI (TY cI cJ cII cJJ) cX9_tray (some .int) 5 RX9 0 g := ⟨hx, hb, hr, hml, hown, hts, hk, hA, hK, hX⟩
  have hown : s.vm.findClass RX9 = some m.cls := hown
  have hl : lv_has ls 5 [(0, .ref (ad 22)), (1, .int x1), (2, .int x2), (3, .int x3)] := hl
  obtain ⟨H, hH⟩ : ∃ q, q = s.heap := ⟨_, rfl⟩
  rw [← hH] at hP
  have hS : va_S A s.heap H [] := by rw [hH]; exact hS
  rw [← hH]
  have hF := FR_refl [2, 3, 4] ai
  have hG := FL_refl [5] al
  have ra_x1 := s_any x1
  have ra_x2 := s_any x2
  have ra_x3 := s_any x3
  refine lv_iload_n hx hb dX9_tray_0 rfl (lv_at hl 1 rfl) ?_
  refine lv_iconst (v := 4) hx hb dX9_tray_1 (by decide) ?_
  have kc4 : (4 : Int32).toInt = 4 := by decide +kernel
  have hM := r020_X9_isIn l dC dI cI cJ cII cJJ H.size 0 ad f9_size f9_equations f9_areSteps f9_foundMany f9_many f9_rank f9_freeMany f9_arePlans f9_planMany ai al x1 4 (by omega) (by omega) (by omega) (by omega) (by omega) (by omega) (by omega) (by omega) (by omega) hI
  refine k2S_i ⟨hx, hb, hml, hown, hts⟩ hK hP hD hS hA hX cs_RX9_116 hM ⟨by decide +kernel, by decide +kernel⟩ rfl rfl (Or.inl rfl) (rest := []) rfl hl.1 rfl (Nat.le_of_ble_eq_true rfl) dX9_tray_2 ⟨Nat.le_of_ble_eq_true rfl, Nat.le_of_ble_eq_true rfl⟩ (fun r1 t H1 locs_1 ht hB hS_1 hFc => ?_)
  obtain ⟨⟨gpr1_0, gpr1_1⟩, hP_2, -, hD_2⟩ := hB
  rw [ht] at hP_2
  have hD_3 := hD_2.weaken (B := A) (fun k q _ h9 => hFc q.1 h9)
  clear ht
  generalize H1 = H_4 at hP_2 hS_1 ⊢
  refine lv_if_ne (tgt := 14) hx hb dX9_tray_5 (by decide) (fun c2 => ?_) (fun c2 => ?_)
  · have c2 := j_ne (a := r1.toInt) (b := 0) rfl (by decide +kernel) c2
    refine lv_iload_n hx hb dX9_tray_14 rfl (lv_at hl 2 rfl) ?_
    refine lv_iconst (v := 4) hx hb dX9_tray_15 (by decide) ?_
    have kc4 : (4 : Int32).toInt = 4 := by decide +kernel
    have hM := r020_X9_isIn l dC dI cI cJ cII cJJ H_4.size 0 ad f9_size f9_equations f9_areSteps f9_foundMany f9_many f9_rank f9_freeMany f9_arePlans f9_planMany ai al x2 4 (by omega) (by omega) (by omega) (by omega) (by omega) (by omega) (by omega) (by omega) (by omega) hI
    refine k2S_i ⟨hx, hb, hml, hown, hts⟩ hK hP_2 hD_3 hS_1 hA hX cs_RX9_116 hM ⟨by decide +kernel, by decide +kernel⟩ rfl rfl (Or.inl rfl) (rest := []) rfl hl.1 rfl (Nat.le_of_ble_eq_true rfl) dX9_tray_16 ⟨Nat.le_of_ble_eq_true rfl, Nat.le_of_ble_eq_true rfl⟩ (fun r3 t H1 locs_5 ht hB hS_5 hFc => ?_)
    obtain ⟨⟨gpr3_0, gpr3_1⟩, hP_6, -, hD_6⟩ := hB
    rw [ht] at hP_6
    have hD_7 := hD_6.weaken (B := A) (fun k q _ h9 => hFc q.1 h9)
    clear ht
    generalize H1 = H_8 at hP_6 hS_5 ⊢
    refine lv_if_ne (tgt := 29) hx hb dX9_tray_19 (by decide) (fun c4 => ?_) (fun c4 => ?_)
    · have c4 := j_ne (a := r3.toInt) (b := 0) rfl (by decide +kernel) c4
      refine lv_iload_n hx hb dX9_tray_29 rfl (lv_at hl 3 rfl) ?_
      refine lv_if_ge (tgt := 40) hx hb dX9_tray_30 (by decide) (fun c5 => ?_) (fun c5 => ?_)
      · have c5 := j_le (a := 0) (b := x3.toInt) (by decide +kernel) rfl c5
        refine lv_iload_n hx hb dX9_tray_40 rfl (lv_at hl 3 rfl) ?_
        refine lv_bipush (v := 20) hx hb dX9_tray_41 (by decide) ?_
        refine lv_icmp_le (tgt := 53) hx hb dX9_tray_43 (by decide) (fun c6 => ?_) (fun c6 => ?_)
        · have c6 := j_le (a := x3.toInt) (b := 20) rfl (by decide +kernel) c6
          refine lv_aload_n hx hb dX9_tray_53 rfl (lv_at hl 0 rfl) ?_
          refine gf (k := 8) hx hb hts inX9 hown hK hP_6 k_803 rfl (by decide) rfl 22 rfl (.ref (ad 3)) rfl dX9_tray_54 ?_
          refine lv_iload_n hx hb dX9_tray_57 rfl (lv_at hl 1 rfl) ?_
          refine lv_iload_n hx hb dX9_tray_58 rfl (lv_at hl 2 rfl) ?_
          refine va_iast hx hb hK hP_6 hD_7 hS_5 3 0 rfl rfl (j_in (a := x1.toInt) rfl (by omega) (by omega)) dX9_tray_59 (fun H_9 locs_9 hP_9 hD_9 hS_9 => ?_)
          obtain ⟨ai7, e_ai7⟩ : ∃ q : Nat → Nat → Int32, q = va_up ai 3 (upd (ai 3) x1.toNatClampNeg x2) := ⟨_, rfl⟩
          have hF_10 := FR_st hF e_ai7 (by decide)
          have hI_11 : IAM ai7 := by rw [e_ai7]; exact hI
          have hP_12 : va_P (dC, dI) vwCl (WM cI cJ cII cJJ ad f9_size f9_equations f9_areSteps f9_foundMany f9_many f9_rank f9_freeMany f9_arePlans f9_planMany ai7 al) H_9 := by rw [e_ai7]; exact hP_9
          have hD_13 : va_D A (WM cI cJ cII cJJ ad f9_size f9_equations f9_areSteps f9_foundMany f9_many f9_rank f9_freeMany f9_arePlans f9_planMany ai7 al) := by rw [e_ai7]; exact hD_9
          refine lv_aload_n hx hb dX9_tray_60 rfl (lv_at hl 0 rfl) ?_
          refine gf (k := 9) hx hb hts inX9 hown hK hP_12 k_804 rfl (by decide) rfl 22 rfl (.ref (ad 4)) rfl dX9_tray_61 ?_
          refine lv_iload_n hx hb dX9_tray_64 rfl (lv_at hl 1 rfl) ?_
          refine lv_iload_n hx hb dX9_tray_65 rfl (lv_at hl 3 rfl) ?_
          refine va_iast hx hb hK hP_12 hD_13 hS_9 4 0 rfl rfl (j_in (a := x1.toInt) rfl (by omega) (by omega)) dX9_tray_66 (fun H_14 locs_14 hP_14 hD_14 hS_14 => ?_)
          obtain ⟨ai8, e_ai8⟩ : ∃ q : Nat → Nat → Int32, q = va_up ai7 4 (upd (ai7 4) x1.toNatClampNeg x3) := ⟨_, rfl⟩
          have hF_15 := FR_st hF_10 e_ai8 (by decide)
          have hI_16 : IAM ai8 := by rw [e_ai8]; exact IAM_st4 hI_11 (a := x3.toInt) rfl (by omega) (by omega)
          have hP_17 : va_P (dC, dI) vwCl (WM cI cJ cII cJJ ad f9_size f9_equations f9_areSteps f9_foundMany f9_many f9_rank f9_freeMany f9_arePlans f9_planMany ai8 al) H_14 := by rw [e_ai8]; exact hP_14
          have hD_18 : va_D A (WM cI cJ cII cJJ ad f9_size f9_equations f9_areSteps f9_foundMany f9_many f9_rank f9_freeMany f9_arePlans f9_planMany ai8 al) := by rw [e_ai8]; exact hD_14
          refine lv_iconst (v := 0) hx hb dX9_tray_67 (by decide) ?_
          refine lv_istore (lv' := [(4, .int 0), (0, .ref (ad 22)), (1, .int x1), (2, .int x2), (3, .int x3)]) hx hb dX9_tray_68 hl (by decide) rfl (fun ls_19 hl_19 => ?_)
          exact r047_X9_tray_b70 C hp0  _ 0 ai8 al _ _ _ (by first | omega | decide | (have ka0 := (by decide +kernel : (0 : Int32).toInt = 0); omega)) (by first | omega | decide | (have ka0 := (by decide +kernel : (0 : Int32).toInt = 0); omega)) (by first | omega | decide | (have ka0 := (by decide +kernel : (0 : Int32).toInt = 0); omega)) (by first | omega | decide | (have ka0 := (by decide +kernel : (0 : Int32).toInt = 0); omega)) (by first | omega | decide | (have ka0 := (by decide +kernel : (0 : Int32).toInt = 0); omega)) (by first | omega | decide | (have ka0 := (by decide +kernel : (0 : Int32).toInt = 0); omega)) (by first | omega | decide | (have ka0 := (by decide +kernel : (0 : Int32).toInt = 0); omega)) (by first | omega | decide | (have ka0 := (by decide +kernel : (0 : Int32).toInt = 0); omega)) (by first | omega | decide | (have ka0 := (by decide +kernel : (0 : Int32).toInt = 0); omega)) (by first | omega | decide | (have ka0 := (by decide +kernel : (0 : Int32).toInt = 0); omega)) (by first | omega | decide | (have ka0 := (by decide +kernel : (0 : Int32).toInt = 0); omega)) (by first | omega | decide | (have ka0 := (by decide +kernel : (0 : Int32).toInt = 0); omega)) (by first | omega | decide | (have ka0 := (by decide +kernel : (0 : Int32).toInt = 0); omega)) (by first | exact ((hp0.imp (fun q => q) (fun q => CIa_t q (FRu e_ai7) (by decide))).imp (fun q => q) (fun q => CIa_t q (FRu e_ai8) (by decide))) | exact Or.inl (by omega) | exact Or.inl (by decide +kernel)) (by first | omega | decide | (have ka0 := (by decide +kernel : (0 : Int32).toInt = 0); omega)) (by first | omega | decide | (have ka0 := (by decide +kernel : (0 : Int32).toInt = 0); omega)) (by first | omega | decide | (have ka0 := (by decide +kernel : (0 : Int32).toInt = 0); omega)) (by rw [up_ne e_ai8 (by decide), up_self e_ai7]) (by rw [up_self e_ai8, up_ne e_ai7 (by decide)]) (j_fuel _) (by omega) hI_16 hF_15 hG hP_17 hD_18 hS_14 (lv_sub hl_19 [1, 2, 3, 4, 0] rfl)
        · have c6 := j_nle (a := x3.toInt) (b := 20) rfl (by decide +kernel) c6
          refine lv_aload_n hx hb dX9_tray_46 rfl (lv_at hl 0 rfl) ?_
          refine lv_bipush (v := (-6)) hx hb dX9_tray_47 (by decide) ?_
          have kcm6 : ((-6) : Int32).toInt = (-6) := by decide +kernel
          have hM := r021_X9_refuse l dC dI cI cJ cII cJJ H_8.size 0 ad f9_size f9_equations f9_areSteps f9_foundMany f9_many f9_rank f9_freeMany f9_arePlans f9_planMany ai al (-6) (by decide +kernel) (by omega) (by omega) (by omega) (by omega) (by omega) (by omega) (by omega) (by omega) (by omega) hI
          refine k2V_i (q0 := 22) ⟨hx, hb, hml, hown, hts⟩ hK hP_6 hD_7 hS_5 hA hX cv_RX9_112 hM ⟨by decide +kernel, by decide +kernel⟩ rfl rfl (Or.inl rfl) (rest := []) rfl rfl rfl hl.1 rfl (Nat.le_of_ble_eq_true rfl) dX9_tray_49 ⟨Nat.le_of_ble_eq_true rfl, Nat.le_of_ble_eq_true rfl⟩ (fun r9 t H1 locs_20 ht hB hS_20 hFc => ?_)
          obtain ⟨ai10, ⟨gpr9_0, gpr9_1, hI_21, hFr_r9⟩, hP_21, -, hD_21⟩ := hB
          have hF_22 := FR_tr hF hFr_r9 (by decide)
          rw [ht] at hP_21
          have hD_23 := hD_21.weaken (B := A) (fun k q _ h9 => hFc q.1 h9)
          clear ht
          generalize H1 = H_24 at hP_21 hS_20 ⊢
          exact r2_i hx hb hr hk hS_20 dX9_tray_52 (fun t ht hW => ⟨ai10, al, ⟨(by first | omega | decide | exact Or.inl (by decide) | exact Or.inr (by decide) | exact Or.inr (by omega)), (by first | exact (hp0.imp (fun q => q) (fun q => CIa_t q hFr_r9 (by decide))) | exact Or.inl (by omega) | exact Or.inl (by decide +kernel)), (by first | omega | decide | exact Or.inl (by decide) | exact Or.inr (by decide) | exact Or.inr (by omega)), (Or.inr ⟨by omega, hFr_r9 3 (by decide), hFr_r9 4 (by decide)⟩), hI_21, hF_22, hG⟩, by rw [ht]; exact hP_21, va_K.moved hW.alike hK, hD_23⟩)
      · have c5 := j_nle (a := 0) (b := x3.toInt) (by decide +kernel) rfl c5
        refine lv_aload_n hx hb dX9_tray_33 rfl (lv_at hl 0 rfl) ?_
        refine lv_bipush (v := (-4)) hx hb dX9_tray_34 (by decide) ?_
        have kcm4 : ((-4) : Int32).toInt = (-4) := by decide +kernel
        have hM := r021_X9_refuse l dC dI cI cJ cII cJJ H_8.size 0 ad f9_size f9_equations f9_areSteps f9_foundMany f9_many f9_rank f9_freeMany f9_arePlans f9_planMany ai al (-4) (by decide +kernel) (by omega) (by omega) (by omega) (by omega) (by omega) (by omega) (by omega) (by omega) (by omega) hI
        refine k2V_i (q0 := 22) ⟨hx, hb, hml, hown, hts⟩ hK hP_6 hD_7 hS_5 hA hX cv_RX9_112 hM ⟨by decide +kernel, by decide +kernel⟩ rfl rfl (Or.inl rfl) (rest := []) rfl rfl rfl hl.1 rfl (Nat.le_of_ble_eq_true rfl) dX9_tray_36 ⟨Nat.le_of_ble_eq_true rfl, Nat.le_of_ble_eq_true rfl⟩ (fun r11 t H1 locs_25 ht hB hS_25 hFc => ?_)
        obtain ⟨ai12, ⟨gpr11_0, gpr11_1, hI_26, hFr_r11⟩, hP_26, -, hD_26⟩ := hB
        have hF_27 := FR_tr hF hFr_r11 (by decide)
        rw [ht] at hP_26
        have hD_28 := hD_26.weaken (B := A) (fun k q _ h9 => hFc q.1 h9)
        clear ht
        generalize H1 = H_29 at hP_26 hS_25 ⊢
        exact r2_i hx hb hr hk hS_25 dX9_tray_39 (fun t ht hW => ⟨ai12, al, ⟨(by first | omega | decide | exact Or.inl (by decide) | exact Or.inr (by decide) | exact Or.inr (by omega)), (by first | exact (hp0.imp (fun q => q) (fun q => CIa_t q hFr_r11 (by decide))) | exact Or.inl (by omega) | exact Or.inl (by decide +kernel)), (by first | omega | decide | exact Or.inl (by decide) | exact Or.inr (by decide) | exact Or.inr (by omega)), (Or.inr ⟨by omega, hFr_r11 3 (by decide), hFr_r11 4 (by decide)⟩), hI_26, hF_27, hG⟩, by rw [ht]; exact hP_26, va_K.moved hW.alike hK, hD_28⟩)
    · have c4 := j_eq (a := r3.toInt) (b := 0) rfl (by decide +kernel) c4
      refine lv_aload_n hx hb dX9_tray_22 rfl (lv_at hl 0 rfl) ?_
      refine lv_bipush (v := (-2)) hx hb dX9_tray_23 (by decide) ?_
      have kcm2 : ((-2) : Int32).toInt = (-2) := by decide +kernel
      have hM := r021_X9_refuse l dC dI cI cJ cII cJJ H_8.size 0 ad f9_size f9_equations f9_areSteps f9_foundMany f9_many f9_rank f9_freeMany f9_arePlans f9_planMany ai al (-2) (by decide +kernel) (by omega) (by omega) (by omega) (by omega) (by omega) (by omega) (by omega) (by omega) (by omega) hI
      refine k2V_i (q0 := 22) ⟨hx, hb, hml, hown, hts⟩ hK hP_6 hD_7 hS_5 hA hX cv_RX9_112 hM ⟨by decide +kernel, by decide +kernel⟩ rfl rfl (Or.inl rfl) (rest := []) rfl rfl rfl hl.1 rfl (Nat.le_of_ble_eq_true rfl) dX9_tray_25 ⟨Nat.le_of_ble_eq_true rfl, Nat.le_of_ble_eq_true rfl⟩ (fun r13 t H1 locs_30 ht hB hS_30 hFc => ?_)
      obtain ⟨ai14, ⟨gpr13_0, gpr13_1, hI_31, hFr_r13⟩, hP_31, -, hD_31⟩ := hB
      have hF_32 := FR_tr hF hFr_r13 (by decide)
      rw [ht] at hP_31
      have hD_33 := hD_31.weaken (B := A) (fun k q _ h9 => hFc q.1 h9)
      clear ht
      generalize H1 = H_34 at hP_31 hS_30 ⊢
      exact r2_i hx hb hr hk hS_30 dX9_tray_28 (fun t ht hW => ⟨ai14, al, ⟨(by first | omega | decide | exact Or.inl (by decide) | exact Or.inr (by decide) | exact Or.inr (by omega)), (by first | exact (hp0.imp (fun q => q) (fun q => CIa_t q hFr_r13 (by decide))) | exact Or.inl (by omega) | exact Or.inl (by decide +kernel)), (by first | omega | decide | exact Or.inl (by decide) | exact Or.inr (by decide) | exact Or.inr (by omega)), (Or.inr ⟨by omega, hFr_r13 3 (by decide), hFr_r13 4 (by decide)⟩), hI_31, hF_32, hG⟩, by rw [ht]; exact hP_31, va_K.moved hW.alike hK, hD_33⟩)
  · have c2 := j_eq (a := r1.toInt) (b := 0) rfl (by decide +kernel) c2
    refine lv_aload_n hx hb dX9_tray_8 rfl (lv_at hl 0 rfl) ?_
    refine lv_iconst (v := (-1)) hx hb dX9_tray_9 (by decide) ?_
    have kcm1 : ((-1) : Int32).toInt = (-1) := by decide +kernel
    have hM := r021_X9_refuse l dC dI cI cJ cII cJJ H_4.size 0 ad f9_size f9_equations f9_areSteps f9_foundMany f9_many f9_rank f9_freeMany f9_arePlans f9_planMany ai al (-1) (by decide +kernel) (by omega) (by omega) (by omega) (by omega) (by omega) (by omega) (by omega) (by omega) (by omega) hI
    refine k2V_i (q0 := 22) ⟨hx, hb, hml, hown, hts⟩ hK hP_2 hD_3 hS_1 hA hX cv_RX9_112 hM ⟨by decide +kernel, by decide +kernel⟩ rfl rfl (Or.inl rfl) (rest := []) rfl rfl rfl hl.1 rfl (Nat.le_of_ble_eq_true rfl) dX9_tray_10 ⟨Nat.le_of_ble_eq_true rfl, Nat.le_of_ble_eq_true rfl⟩ (fun r15 t H1 locs_35 ht hB hS_35 hFc => ?_)
    obtain ⟨ai16, ⟨gpr15_0, gpr15_1, hI_36, hFr_r15⟩, hP_36, -, hD_36⟩ := hB
    have hF_37 := FR_tr hF hFr_r15 (by decide)
    rw [ht] at hP_36
    have hD_38 := hD_36.weaken (B := A) (fun k q _ h9 => hFc q.1 h9)
    clear ht
    generalize H1 = H_39 at hP_36 hS_35 ⊢
    exact r2_i hx hb hr hk hS_35 dX9_tray_13 (fun t ht hW => ⟨ai16, al, ⟨(by first | omega | decide | exact Or.inl (by decide) | exact Or.inr (by decide) | exact Or.inr (by omega)), (by first | exact (hp0.imp (fun q => q) (fun q => CIa_t q hFr_r15 (by decide))) | exact Or.inl (by omega) | exact Or.inl (by decide +kernel)), (by first | omega | decide | exact Or.inl (by decide) | exact Or.inr (by decide) | exact Or.inr (by omega)), (Or.inr ⟨by omega, hFr_r15 3 (by decide), hFr_r15 4 (by decide)⟩), hI_36, hF_37, hG⟩, by rw [ht]; exact hP_36, va_K.moved hW.alike hK, hD_38⟩)
def Q_r048_X9_cell (dC : Nat → ClassId) (dI : Nat → Nat → Nat) (cI cJ cII cJJ : ClassId) (ad : Nat → Nat) (f9_size f9_equations f9_areSteps f9_foundMany f9_many f9_rank f9_freeMany f9_arePlans f9_planMany : Int32) (ai0 : Nat → Nat → Int32) (al0 : Nat → Nat → Int64) (x1 : Int32) (x2 : Int32) (y3 : Int64) : (Nat → Prop) → Array Value → State → Outcome → State → Prop := fun A => QI (fun r t => ∃ (n_ai : Nat → Nat → Int32), ∃ (n_al : Nat → Nat → Int64), ((-7 ≤ r.toInt ∧ r.toInt ≤ 1) ∧ (f9_areSteps.toInt = 0 ∨ CIa n_ai f9_size f9_many.toInt) ∧ ((¬ (0 ≤ x1.toInt ∧ x1.toInt < 4) ∧ r.toInt = -1) ∨ ((0 ≤ x1.toInt ∧ x1.toInt < 4) ∧ (ai0 3 x1.toInt.toNat).toInt < 0 ∧ r.toInt = -7) ∨ ((0 ≤ x1.toInt ∧ x1.toInt < 4) ∧ 0 ≤ (ai0 3 x1.toInt.toNat).toInt ∧ ¬ (0 ≤ x2.toInt ∧ x2.toInt < (ai0 4 x1.toInt.toNat).toInt) ∧ r.toInt = -3) ∨ ((0 ≤ x1.toInt ∧ x1.toInt < 4) ∧ 0 ≤ (ai0 3 x1.toInt.toNat).toInt ∧ (0 ≤ x2.toInt ∧ x2.toInt < (ai0 4 x1.toInt.toNat).toInt) ∧ r.toInt = 1)) ∧ IAM n_ai ∧ FR [2] ai0 n_ai ∧ FL [5] al0 n_al) ∧ WO dC dI (TY cI cJ cII cJJ) (WM cI cJ cII cJJ ad f9_size f9_equations f9_areSteps f9_foundMany f9_many f9_rank f9_freeMany f9_arePlans f9_planMany n_ai n_al) A t) A
set_option maxRecDepth 100000 in
set_option maxHeartbeats 4000000 in
theorem r048_X9_cell_b106 {p : Program} {l : Launch} {e : Env} {s : State} {m : MethodId} {args : Array Value} {below : List Frame} {meth : Method} {c : Code} {A : Nat → Prop} {dC : Nat → ClassId} {dI : Nat → Nat → Nat} {cI cJ cII cJJ : ClassId} {ad : Nat → Nat} {g : Nat} {f9_size f9_equations f9_areSteps f9_foundMany f9_many f9_rank f9_freeMany f9_arePlans f9_planMany : Int32} {ai0 : Nat → Nat → Int32} {al0 : Nat → Nat → Int64} {x1 : Int32} {x2 : Int32} {y3 : Int64} (C : Cx p c s m meth args A dC dI (TY cI cJ cII cJJ) cX9_cell (some .int) 6 RX9 0 g) (hp0 : (f9_areSteps.toInt = 0 ∨ CIa ai0 f9_size f9_many.toInt)) : ∀ (L5 S1 : Int32) (SJ0 : Int64) (ai : Nat → Nat → Int32) (al : Nat → Nat → Int64) (H : Heap) (locs : List Loc) (ls : Array Slot), (0 ≤ S1.toInt ∧ S1.toInt ≤ 79) → (1 ≤ f9_size.toInt ∧ f9_size.toInt ≤ 4) → (0 ≤ f9_equations.toInt ∧ f9_equations.toInt ≤ 3) → (0 ≤ f9_areSteps.toInt ∧ f9_areSteps.toInt ≤ 1) → (0 ≤ f9_foundMany.toInt ∧ f9_foundMany.toInt ≤ 99999) → (0 ≤ f9_many.toInt ∧ f9_many.toInt ≤ 6000) → (0 ≤ f9_rank.toInt ∧ f9_rank.toInt ≤ 3) → (0 ≤ f9_freeMany.toInt ∧ f9_freeMany.toInt ≤ 4) → (0 ≤ f9_arePlans.toInt ∧ f9_arePlans.toInt ≤ 1) → (0 ≤ f9_planMany.toInt ∧ f9_planMany.toInt ≤ 194481) → (0 ≤ x1.toInt ∧ x1.toInt ≤ 3) → (0 ≤ x2.toInt ∧ x2.toInt ≤ 19) → (f9_areSteps.toInt = 0 ∨ CIa ai f9_size f9_many.toInt) → (0 ≤ x1.toInt ∧ x1.toInt < 4) → 0 ≤ (ai0 3 x1.toInt.toNat).toInt → (0 ≤ x2.toInt ∧ x2.toInt < (ai0 4 x1.toInt.toNat).toInt) → IAM ai → FR [2] ai0 ai → FL [5] al0 al → va_P (dC, dI) vwCl (WM cI cJ cII cJJ ad f9_size f9_equations f9_areSteps f9_foundMany f9_many f9_rank f9_freeMany f9_arePlans f9_planMany ai al) H → va_D A (WM cI cJ cII cJJ ad f9_size f9_equations f9_areSteps f9_foundMany f9_many f9_rank f9_freeMany f9_arePlans f9_planMany ai al) → va_S A s.heap H locs → lv_has ls 6 [(0, .ref (ad 22)), (1, .int x1), (2, .int x2), (3, .long y3), (5, .int L5)] → W p l e ({ frames := 3, cells := 0, slots := 0, locals := 140 } : Room) s m args below meth c H locs 0 0 (MQ below (Q_r048_X9_cell dC dI cI cJ cII cJJ ad f9_size f9_equations f9_areSteps f9_foundMany f9_many f9_rank f9_freeMany f9_arePlans f9_planMany ai0 al0 x1 x2 y3 A) args s 0 0 A) (F0 m 106 ls [.long SJ0, .int S1, .ref (ad 5)]) := by
  obtain ⟨hx, hb, hr, hml, hown, hts, hk, hA, hK, hX⟩ := id C
  intro L5 S1 SJ0 ai al H locs ls h0 h1 h2 h3 h4 h5 h6 h7 h8 h9 h10 h11 h12 h13 h14 h15 hI hF hG hP hD hS hl
  have ra_L5 := s_any L5
  refine va_last hx hb hK hP hD hS 5 1 rfl rfl (j_in (a := S1.toInt) rfl (by omega) (by omega)) dX9_cell_106 (fun H_1 locs_1 hP_1 hD_1 hS_1 => ?_)
  obtain ⟨al1, e_al1⟩ : ∃ q : Nat → Nat → Int64, q = va_up al 5 (vp_updL (al 5) S1.toNatClampNeg SJ0) := ⟨_, rfl⟩
  have hG_2 := FL_st hG e_al1 (by decide)
  have hP_3 : va_P (dC, dI) vwCl (WM cI cJ cII cJJ ad f9_size f9_equations f9_areSteps f9_foundMany f9_many f9_rank f9_freeMany f9_arePlans f9_planMany ai al1) H_1 := by rw [e_al1]; exact hP_1
  have hD_4 : va_D A (WM cI cJ cII cJJ ad f9_size f9_equations f9_areSteps f9_foundMany f9_many f9_rank f9_freeMany f9_arePlans f9_planMany ai al1) := by rw [e_al1]; exact hD_1
  refine lv_iconst (v := 1) hx hb dX9_cell_107 (by decide) ?_
  exact r2_i hx hb hr hk hS_1 dX9_cell_108 (fun t ht hW => ⟨ai, al1, ⟨(by first | omega | decide | exact Or.inl (by decide) | exact Or.inr (by decide) | exact Or.inr (by omega)), (by first | exact h12 | exact Or.inl (by omega) | exact Or.inl (by decide +kernel)), (by have kr1 : (1 : Int32).toInt = 1 := (by decide); first | omega | decide | exact Or.inl (by decide) | exact Or.inr (by decide) | exact Or.inr (by omega)), hI, hF, hG_2⟩, by rw [ht]; exact hP_3, va_K.moved hW.alike hK, hD_4⟩)
set_option maxRecDepth 100000 in
set_option maxHeartbeats 4000000 in
theorem r048_X9_cell (l : Launch) (dC : Nat → ClassId) (dI : Nat → Nat → Nat) (cI cJ cII cJJ : ClassId) (sz g : Nat) (ad : Nat → Nat) (f9_size f9_equations f9_areSteps f9_foundMany f9_many f9_rank f9_freeMany f9_arePlans f9_planMany : Int32) (ai : Nat → Nat → Int32) (al : Nat → Nat → Int64) (x1 : Int32) (x2 : Int32) (y3 : Int64) (h_f9_size : (1 ≤ f9_size.toInt ∧ f9_size.toInt ≤ 4)) (h_f9_equations : (0 ≤ f9_equations.toInt ∧ f9_equations.toInt ≤ 3)) (h_f9_areSteps : (0 ≤ f9_areSteps.toInt ∧ f9_areSteps.toInt ≤ 1)) (h_f9_foundMany : (0 ≤ f9_foundMany.toInt ∧ f9_foundMany.toInt ≤ 99999)) (h_f9_many : (0 ≤ f9_many.toInt ∧ f9_many.toInt ≤ 6000)) (h_f9_rank : (0 ≤ f9_rank.toInt ∧ f9_rank.toInt ≤ 3)) (h_f9_freeMany : (0 ≤ f9_freeMany.toInt ∧ f9_freeMany.toInt ≤ 4)) (h_f9_arePlans : (0 ≤ f9_arePlans.toInt ∧ f9_arePlans.toInt ≤ 1)) (h_f9_planMany : (0 ≤ f9_planMany.toInt ∧ f9_planMany.toInt ≤ 194481)) (hp0 : (f9_areSteps.toInt = 0 ∨ CIa ai f9_size f9_many.toInt)) (hI : IAM ai) : Met l yX9_cell (.code yX9_cell cX9_cell 6 (some .int) :: TT) ({ frames := 3, cells := 0, slots := 0, locals := 140 } : Room) (PcS dC dI (TY cI cJ cII cJJ) [.ref (ad 22), .int x1, .int x2, .long y3] (WM cI cJ cII cJJ ad f9_size f9_equations f9_areSteps f9_foundMany f9_many f9_rank f9_freeMany f9_arePlans f9_planMany ai al) sz 0 g) (Q_r048_X9_cell dC dI cI cJ cII cJJ ad f9_size f9_equations f9_areSteps f9_foundMany f9_many f9_rank f9_freeMany f9_arePlans f9_planMany ai al x1 x2 y3 (va_A (WM cI cJ cII cJJ ad f9_size f9_equations f9_areSteps f9_foundMany f9_many f9_rank f9_freeMany f9_arePlans f9_planMany ai al) sz)) 0 0 (va_A (WM cI cJ cII cJJ ad f9_size f9_equations f9_areSteps f9_foundMany f9_many f9_rank f9_freeMany f9_arePlans f9_planMany ai al) sz) := by
  refine SM.of (y := yX9_cell) (maxL := 6) (av := [.ref (ad 22), .int x1, .int x2, .long y3]) (Q_r048_X9_cell dC dI cI cJ cII cJJ ad f9_size f9_equations f9_areSteps f9_foundMany f9_many f9_rank f9_freeMany f9_arePlans f9_planMany ai al x1 x2 y3) (by decide +kernel) (Nat.le_of_ble_eq_true rfl) (fun p e s m below meth c A ls hx hb hr hml hown hts hk hnm hA hK hP hD hS hX hl => ?_)
  have C : Cx p c s m meth (([.ref (ad 22), .int x1, .int x2, .long y3] : List Value).toArray) A dC dI (TY cI cJ cII cJJ) cX9_cell (some .int) 6 RX9 0 g := ⟨hx, hb, hr, hml, hown, hts, hk, hA, hK, hX⟩
  have hown : s.vm.findClass RX9 = some m.cls := hown
  have hl : lv_has ls 6 [(0, .ref (ad 22)), (1, .int x1), (2, .int x2), (3, .long y3)] := hl
  obtain ⟨H, hH⟩ : ∃ q, q = s.heap := ⟨_, rfl⟩
  rw [← hH] at hP
  have hS : va_S A s.heap H [] := by rw [hH]; exact hS
  rw [← hH]
  have hF := FR_refl [2] ai
  have hG := FL_refl [5] al
  have ra_x1 := s_any x1
  have ra_x2 := s_any x2
  refine lv_iload_n hx hb dX9_cell_0 rfl (lv_at hl 1 rfl) ?_
  refine lv_iconst (v := 4) hx hb dX9_cell_1 (by decide) ?_
  have kc4 : (4 : Int32).toInt = 4 := by decide +kernel
  have hM := r020_X9_isIn l dC dI cI cJ cII cJJ H.size 0 ad f9_size f9_equations f9_areSteps f9_foundMany f9_many f9_rank f9_freeMany f9_arePlans f9_planMany ai al x1 4 (by omega) (by omega) (by omega) (by omega) (by omega) (by omega) (by omega) (by omega) (by omega) hI
  refine k2S_i ⟨hx, hb, hml, hown, hts⟩ hK hP hD hS hA hX cs_RX9_116 hM ⟨by decide +kernel, by decide +kernel⟩ rfl rfl (Or.inl rfl) (rest := []) rfl hl.1 rfl (Nat.le_of_ble_eq_true rfl) dX9_cell_2 ⟨Nat.le_of_ble_eq_true rfl, Nat.le_of_ble_eq_true rfl⟩ (fun r1 t H1 locs_1 ht hB hS_1 hFc => ?_)
  obtain ⟨⟨gpr1_0, gpr1_1⟩, hP_2, -, hD_2⟩ := hB
  rw [ht] at hP_2
  have hD_3 := hD_2.weaken (B := A) (fun k q _ h9 => hFc q.1 h9)
  clear ht
  generalize H1 = H_4 at hP_2 hS_1 ⊢
  refine lv_if_ne (tgt := 14) hx hb dX9_cell_5 (by decide) (fun c2 => ?_) (fun c2 => ?_)
  · have c2 := j_ne (a := r1.toInt) (b := 0) rfl (by decide +kernel) c2
    refine lv_aload_n hx hb dX9_cell_14 rfl (lv_at hl 0 rfl) ?_
    refine gf (k := 8) hx hb hts inX9 hown hK hP_2 k_803 rfl (by decide) rfl 22 rfl (.ref (ad 3)) rfl dX9_cell_15 ?_
    refine lv_iload_n hx hb dX9_cell_18 rfl (lv_at hl 1 rfl) ?_
    refine va_iald hx hb hK hP_2 3 0 rfl rfl (j_in (a := x1.toInt) rfl (by omega) (by omega)) dX9_cell_19 ?_
    refine lv_topi (fun z3 e_z3 => ?_)
    have k_z3 : z3.toInt = (ai 3 x1.toInt.toNat).toInt := by rw [e_z3]; rfl
    refine lv_if_ge (tgt := 30) hx hb dX9_cell_20 (by decide) (fun c4 => ?_) (fun c4 => ?_)
    · have c4 := j_le (a := 0) (b := z3.toInt) (by decide +kernel) rfl c4
      refine lv_iload_n hx hb dX9_cell_30 rfl (lv_at hl 2 rfl) ?_
      refine lv_aload_n hx hb dX9_cell_31 rfl (lv_at hl 0 rfl) ?_
      refine gf (k := 9) hx hb hts inX9 hown hK hP_2 k_804 rfl (by decide) rfl 22 rfl (.ref (ad 4)) rfl dX9_cell_32 ?_
      refine lv_iload_n hx hb dX9_cell_35 rfl (lv_at hl 1 rfl) ?_
      refine va_iald hx hb hK hP_2 4 0 rfl rfl (j_in (a := x1.toInt) rfl (by omega) (by omega)) dX9_cell_36 ?_
      refine lv_topi (fun z5 e_z5 => ?_)
      have g_z5 : 0 ≤ z5.toInt ∧ z5.toInt ≤ 20 := by rw [e_z5]; exact IAM_at4 hI _
      have k_z5 : z5.toInt = (ai 4 x1.toInt.toNat).toInt := by rw [e_z5]; rfl
      have hM := r020_X9_isIn l dC dI cI cJ cII cJJ H_4.size 0 ad f9_size f9_equations f9_areSteps f9_foundMany f9_many f9_rank f9_freeMany f9_arePlans f9_planMany ai al x2 z5 (by omega) (by omega) (by omega) (by omega) (by omega) (by omega) (by omega) (by omega) (by omega) hI
      refine k2S_i ⟨hx, hb, hml, hown, hts⟩ hK hP_2 hD_3 hS_1 hA hX cs_RX9_116 hM ⟨by decide +kernel, by decide +kernel⟩ rfl rfl (Or.inl rfl) (rest := []) rfl hl.1 rfl (Nat.le_of_ble_eq_true rfl) dX9_cell_37 ⟨Nat.le_of_ble_eq_true rfl, Nat.le_of_ble_eq_true rfl⟩ (fun r6 t H1 locs_5 ht hB hS_5 hFc => ?_)
      obtain ⟨⟨gpr6_0, gpr6_1⟩, hP_6, -, hD_6⟩ := hB
      rw [ht] at hP_6
      have hD_7 := hD_6.weaken (B := A) (fun k q _ h9 => hFc q.1 h9)
      clear ht
      generalize H1 = H_8 at hP_6 hS_5 ⊢
      refine lv_if_ne (tgt := 50) hx hb dX9_cell_40 (by decide) (fun c7 => ?_) (fun c7 => ?_)
      · have c7 := j_ne (a := r6.toInt) (b := 0) rfl (by decide +kernel) c7
        refine lv_aload_n hx hb dX9_cell_50 rfl (lv_at hl 0 rfl) ?_
        refine gf (k := 8) hx hb hts inX9 hown hK hP_6 k_803 rfl (by decide) rfl 22 rfl (.ref (ad 3)) rfl dX9_cell_51 ?_
        refine lv_iload_n hx hb dX9_cell_54 rfl (lv_at hl 1 rfl) ?_
        refine va_iald hx hb hK hP_6 3 0 rfl rfl (j_in (a := x1.toInt) rfl (by omega) (by omega)) dX9_cell_55 ?_
        refine lv_topi (fun z8 e_z8 => ?_)
        have k_z8 : z8.toInt = (ai 3 x1.toInt.toNat).toInt := by rw [e_z8]; rfl
        refine lv_istore (lv' := [(5, .int z8), (0, .ref (ad 22)), (1, .int x1), (2, .int x2), (3, .long y3)]) hx hb dX9_cell_56 hl (by decide) rfl (fun ls_9 hl_9 => ?_)
        refine lv_aload_n hx hb dX9_cell_58 rfl (lv_at hl_9 1 rfl) ?_
        refine gf (k := 10) hx hb hts inX9 hown hK hP_6 k_805 rfl (by decide) rfl 22 rfl (.ref (ad 5)) rfl dX9_cell_59 ?_
        refine lv_bipush (v := 20) hx hb dX9_cell_62 (by decide) ?_
        refine lv_iload_n hx hb dX9_cell_64 rfl (lv_at hl_9 2 rfl) ?_
        refine v_imul hx hb dX9_cell_65 _ rfl ?_
        refine lv_topi (fun z9 e_z9 => ?_)
        have g_z9 : z9.toInt = 20 * x1.toInt := by rw [e_z9]; exact n_mul (a := 20) (b := x1.toInt) (by decide +kernel) rfl (by omega) (by omega)
        refine lv_iload_n hx hb dX9_cell_66 rfl (lv_at hl_9 3 rfl) ?_
        refine v_iadd hx hb dX9_cell_67 _ rfl ?_
        refine lv_topi (fun z10 e_z10 => ?_)
        have g_z10 : z10.toInt = z9.toInt + x2.toInt := by rw [e_z10]; exact n_add (a := z9.toInt) (b := x2.toInt) rfl rfl (by omega) (by omega)
        refine lv_iload hx hb dX9_cell_68 (lv_at hl_9 0 rfl) ?_
        refine lv_if_ne (tgt := 80) hx hb dX9_cell_70 (by decide) (fun c11 => ?_) (fun c11 => ?_)
        · have c11 := j_ne (a := z8.toInt) (b := 0) rfl (by decide +kernel) c11
          refine lv_iload hx hb dX9_cell_80 (lv_at hl_9 0 rfl) ?_
          refine lv_iconst (v := 1) hx hb dX9_cell_82 (by decide) ?_
          refine lv_icmp_ne (tgt := 93) hx hb dX9_cell_83 (by decide) (fun c12 => ?_) (fun c12 => ?_)
          · have c12 := j_ne (a := z8.toInt) (b := 1) rfl (by decide +kernel) c12
            refine lv_iload hx hb dX9_cell_93 (lv_at hl_9 0 rfl) ?_
            refine lv_iconst (v := 2) hx hb dX9_cell_95 (by decide) ?_
            refine lv_icmp_ne (tgt := 105) hx hb dX9_cell_96 (by decide) (fun c13 => ?_) (fun c13 => ?_)
            · have c13 := j_ne (a := z8.toInt) (b := 2) rfl (by decide +kernel) c13
              refine lv_lload_n hx hb dX9_cell_105 rfl (lv_at hl_9 4 rfl) ?_
              exact r048_X9_cell_b106 C hp0  z8 z10 y3 ai al _ _ _ (by omega) (by omega) (by omega) (by omega) (by omega) (by omega) (by omega) (by omega) (by omega) (by omega) (by omega) (by omega) (by first | exact hp0 | exact Or.inl (by omega) | exact Or.inl (by decide +kernel)) (by omega) (by omega) (by omega) hI hF hG hP_6 hD_7 hS_5 (lv_sub hl_9 [1, 2, 3, 4, 0] rfl)
            · have c13 := j_eq (a := z8.toInt) (b := 2) rfl (by decide +kernel) c13
              refine lv_lload_n hx hb dX9_cell_99 rfl (lv_at hl_9 4 rfl) ?_
              refine lv_l2i hx hb dX9_cell_100 rfl ?_
              refine lv_topi (fun z14 e_z14 => ?_)
              refine lv_i2l hx hb dX9_cell_101 rfl ?_
              refine lv_topl (fun yy15 e_yy15 => ?_)
              refine lv_goto (tgt := 106) hx hb dX9_cell_102 (by decide) ?_
              exact r048_X9_cell_b106 C hp0  z8 z10 yy15 ai al _ _ _ (by omega) (by omega) (by omega) (by omega) (by omega) (by omega) (by omega) (by omega) (by omega) (by omega) (by omega) (by omega) (by first | exact hp0 | exact Or.inl (by omega) | exact Or.inl (by decide +kernel)) (by omega) (by omega) (by omega) hI hF hG hP_6 hD_7 hS_5 (lv_sub hl_9 [1, 2, 3, 4, 0] rfl)
          · have c12 := j_eq (a := z8.toInt) (b := 1) rfl (by decide +kernel) c12
            refine lv_lload_n hx hb dX9_cell_86 rfl (lv_at hl_9 4 rfl) ?_
            refine lv_l2i hx hb dX9_cell_87 rfl ?_
            refine lv_topi (fun z16 e_z16 => ?_)
            refine lv_i2s hx hb dX9_cell_88 rfl ?_
            refine lv_topi (fun z17 e_z17 => ?_)
            refine lv_i2l hx hb dX9_cell_89 rfl ?_
            refine lv_topl (fun yy18 e_yy18 => ?_)
            refine lv_goto (tgt := 106) hx hb dX9_cell_90 (by decide) ?_
            exact r048_X9_cell_b106 C hp0  z8 z10 yy18 ai al _ _ _ (by omega) (by omega) (by omega) (by omega) (by omega) (by omega) (by omega) (by omega) (by omega) (by omega) (by omega) (by omega) (by first | exact hp0 | exact Or.inl (by omega) | exact Or.inl (by decide +kernel)) (by omega) (by omega) (by omega) hI hF hG hP_6 hD_7 hS_5 (lv_sub hl_9 [1, 2, 3, 4, 0] rfl)
        · have c11 := j_eq (a := z8.toInt) (b := 0) rfl (by decide +kernel) c11
          refine lv_lload_n hx hb dX9_cell_73 rfl (lv_at hl_9 4 rfl) ?_
          refine lv_l2i hx hb dX9_cell_74 rfl ?_
          refine lv_topi (fun z19 e_z19 => ?_)
          refine lv_i2b hx hb dX9_cell_75 rfl ?_
          refine lv_topi (fun z20 e_z20 => ?_)
          refine lv_i2l hx hb dX9_cell_76 rfl ?_
          refine lv_topl (fun yy21 e_yy21 => ?_)
          refine lv_goto (tgt := 106) hx hb dX9_cell_77 (by decide) ?_
          exact r048_X9_cell_b106 C hp0  z8 z10 yy21 ai al _ _ _ (by omega) (by omega) (by omega) (by omega) (by omega) (by omega) (by omega) (by omega) (by omega) (by omega) (by omega) (by omega) (by first | exact hp0 | exact Or.inl (by omega) | exact Or.inl (by decide +kernel)) (by omega) (by omega) (by omega) hI hF hG hP_6 hD_7 hS_5 (lv_sub hl_9 [1, 2, 3, 4, 0] rfl)
      · have c7 := j_eq (a := r6.toInt) (b := 0) rfl (by decide +kernel) c7
        refine lv_aload_n hx hb dX9_cell_43 rfl (lv_at hl 0 rfl) ?_
        refine lv_bipush (v := (-3)) hx hb dX9_cell_44 (by decide) ?_
        have kcm3 : ((-3) : Int32).toInt = (-3) := by decide +kernel
        have hM := r021_X9_refuse l dC dI cI cJ cII cJJ H_8.size 0 ad f9_size f9_equations f9_areSteps f9_foundMany f9_many f9_rank f9_freeMany f9_arePlans f9_planMany ai al (-3) (by decide +kernel) (by omega) (by omega) (by omega) (by omega) (by omega) (by omega) (by omega) (by omega) (by omega) hI
        refine k2V_i (q0 := 22) ⟨hx, hb, hml, hown, hts⟩ hK hP_6 hD_7 hS_5 hA hX cv_RX9_112 hM ⟨by decide +kernel, by decide +kernel⟩ rfl rfl (Or.inl rfl) (rest := []) rfl rfl rfl hl.1 rfl (Nat.le_of_ble_eq_true rfl) dX9_cell_46 ⟨Nat.le_of_ble_eq_true rfl, Nat.le_of_ble_eq_true rfl⟩ (fun r22 t H1 locs_10 ht hB hS_10 hFc => ?_)
        obtain ⟨ai23, ⟨gpr22_0, gpr22_1, hI_11, hFr_r22⟩, hP_11, -, hD_11⟩ := hB
        have hF_12 := FR_tr hF hFr_r22 (by decide)
        rw [ht] at hP_11
        have hD_13 := hD_11.weaken (B := A) (fun k q _ h9 => hFc q.1 h9)
        clear ht
        generalize H1 = H_14 at hP_11 hS_10 ⊢
        exact r2_i hx hb hr hk hS_10 dX9_cell_49 (fun t ht hW => ⟨ai23, al, ⟨(by first | omega | decide | exact Or.inl (by decide) | exact Or.inr (by decide) | exact Or.inr (by omega)), (by first | exact (hp0.imp (fun q => q) (fun q => CIa_t q hFr_r22 (by decide))) | exact Or.inl (by omega) | exact Or.inl (by decide +kernel)), (by first | omega | decide | exact Or.inl (by decide) | exact Or.inr (by decide) | exact Or.inr (by omega)), hI_11, hF_12, hG⟩, by rw [ht]; exact hP_11, va_K.moved hW.alike hK, hD_13⟩)
    · have c4 := j_nle (a := 0) (b := z3.toInt) (by decide +kernel) rfl c4
      refine lv_aload_n hx hb dX9_cell_23 rfl (lv_at hl 0 rfl) ?_
      refine lv_bipush (v := (-7)) hx hb dX9_cell_24 (by decide) ?_
      have kcm7 : ((-7) : Int32).toInt = (-7) := by decide +kernel
      have hM := r021_X9_refuse l dC dI cI cJ cII cJJ H_4.size 0 ad f9_size f9_equations f9_areSteps f9_foundMany f9_many f9_rank f9_freeMany f9_arePlans f9_planMany ai al (-7) (by decide +kernel) (by omega) (by omega) (by omega) (by omega) (by omega) (by omega) (by omega) (by omega) (by omega) hI
      refine k2V_i (q0 := 22) ⟨hx, hb, hml, hown, hts⟩ hK hP_2 hD_3 hS_1 hA hX cv_RX9_112 hM ⟨by decide +kernel, by decide +kernel⟩ rfl rfl (Or.inl rfl) (rest := []) rfl rfl rfl hl.1 rfl (Nat.le_of_ble_eq_true rfl) dX9_cell_26 ⟨Nat.le_of_ble_eq_true rfl, Nat.le_of_ble_eq_true rfl⟩ (fun r24 t H1 locs_15 ht hB hS_15 hFc => ?_)
      obtain ⟨ai25, ⟨gpr24_0, gpr24_1, hI_16, hFr_r24⟩, hP_16, -, hD_16⟩ := hB
      have hF_17 := FR_tr hF hFr_r24 (by decide)
      rw [ht] at hP_16
      have hD_18 := hD_16.weaken (B := A) (fun k q _ h9 => hFc q.1 h9)
      clear ht
      generalize H1 = H_19 at hP_16 hS_15 ⊢
      exact r2_i hx hb hr hk hS_15 dX9_cell_29 (fun t ht hW => ⟨ai25, al, ⟨(by first | omega | decide | exact Or.inl (by decide) | exact Or.inr (by decide) | exact Or.inr (by omega)), (by first | exact (hp0.imp (fun q => q) (fun q => CIa_t q hFr_r24 (by decide))) | exact Or.inl (by omega) | exact Or.inl (by decide +kernel)), (by first | omega | decide | exact Or.inl (by decide) | exact Or.inr (by decide) | exact Or.inr (by omega)), hI_16, hF_17, hG⟩, by rw [ht]; exact hP_16, va_K.moved hW.alike hK, hD_18⟩)
  · have c2 := j_eq (a := r1.toInt) (b := 0) rfl (by decide +kernel) c2
    refine lv_aload_n hx hb dX9_cell_8 rfl (lv_at hl 0 rfl) ?_
    refine lv_iconst (v := (-1)) hx hb dX9_cell_9 (by decide) ?_
    have kcm1 : ((-1) : Int32).toInt = (-1) := by decide +kernel
    have hM := r021_X9_refuse l dC dI cI cJ cII cJJ H_4.size 0 ad f9_size f9_equations f9_areSteps f9_foundMany f9_many f9_rank f9_freeMany f9_arePlans f9_planMany ai al (-1) (by decide +kernel) (by omega) (by omega) (by omega) (by omega) (by omega) (by omega) (by omega) (by omega) (by omega) hI
    refine k2V_i (q0 := 22) ⟨hx, hb, hml, hown, hts⟩ hK hP_2 hD_3 hS_1 hA hX cv_RX9_112 hM ⟨by decide +kernel, by decide +kernel⟩ rfl rfl (Or.inl rfl) (rest := []) rfl rfl rfl hl.1 rfl (Nat.le_of_ble_eq_true rfl) dX9_cell_10 ⟨Nat.le_of_ble_eq_true rfl, Nat.le_of_ble_eq_true rfl⟩ (fun r26 t H1 locs_20 ht hB hS_20 hFc => ?_)
    obtain ⟨ai27, ⟨gpr26_0, gpr26_1, hI_21, hFr_r26⟩, hP_21, -, hD_21⟩ := hB
    have hF_22 := FR_tr hF hFr_r26 (by decide)
    rw [ht] at hP_21
    have hD_23 := hD_21.weaken (B := A) (fun k q _ h9 => hFc q.1 h9)
    clear ht
    generalize H1 = H_24 at hP_21 hS_20 ⊢
    exact r2_i hx hb hr hk hS_20 dX9_cell_13 (fun t ht hW => ⟨ai27, al, ⟨(by first | omega | decide | exact Or.inl (by decide) | exact Or.inr (by decide) | exact Or.inr (by omega)), (by first | exact (hp0.imp (fun q => q) (fun q => CIa_t q hFr_r26 (by decide))) | exact Or.inl (by omega) | exact Or.inl (by decide +kernel)), (by first | omega | decide | exact Or.inl (by decide) | exact Or.inr (by decide) | exact Or.inr (by omega)), hI_21, hF_22, hG⟩, by rw [ht]; exact hP_21, va_K.moved hW.alike hK, hD_23⟩)
