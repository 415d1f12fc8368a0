def Q_r013_X9_goes (dC : Nat → ClassId) (dI : Nat → Nat → Nat) (cI cJ cII cJJ : ClassId) (ad : Nat → Nat) (f9_size f9_equations f9_areSteps f9_many f9_rank f9_freeMany f9_arePlans f9_planMany : Int32) (ai0 : Nat → Nat → Int32) (al0 : Nat → Nat → Int64) (x2 : Int32) (o_f9_foundMany : Int32) : (Nat → Prop) → Array Value → State → Outcome → State → Prop := fun A => QV (fun t => ∃ (n_f9_foundMany : Int32), ∃ (n_ai : Nat → Nat → Int32), ∃ (n_al : Nat → Nat → Int64), ((0 ≤ n_f9_foundMany.toInt ∧ n_f9_foundMany.toInt ≤ 99999) ∧ (o_f9_foundMany.toInt ≤ n_f9_foundMany.toInt ∧ n_f9_foundMany.toInt ≤ o_f9_foundMany.toInt + pwb x2.toInt (f9_freeMany.toInt.toNat - 0)) ∧ GS ai0 n_ai f9_size f9_rank f9_freeMany x2 o_f9_foundMany.toInt n_f9_foundMany.toInt ∧ GCo ai0 n_ai f9_size f9_rank f9_freeMany x2 ((0 : Nat) : Int) o_f9_foundMany.toInt n_f9_foundMany.toInt ∧ Fk ai0 n_ai ((0 : Nat) : Int) ∧ IAM n_ai ∧ FR [7, 8, 16] ai0 n_ai ∧ FL [17, 18] al0 n_al) ∧ WO dC dI (TY cI cJ cII cJJ) (WM cI cJ cII cJJ ad f9_size f9_equations f9_areSteps n_f9_foundMany f9_many f9_rank f9_freeMany f9_arePlans f9_planMany n_ai n_al) A t) A
set_option maxRecDepth 100000 in
set_option maxHeartbeats 4000000 in
theorem r013_X9_goes_b112 {p : Program} {l : Launch} {e : Env} {s : State} {m : MethodId} {args : Array Value} {below : List Frame} {meth : Method} {c : Code} {A : Nat → Prop} {dC : Nat → ClassId} {dI : Nat → Nat → Nat} {cI cJ cII cJJ : ClassId} {ad : Nat → Nat} {g : Nat} {f9_size f9_equations f9_areSteps f9_many f9_rank f9_freeMany f9_arePlans f9_planMany : Int32} {ai0 : Nat → Nat → Int32} {al0 : Nat → Nat → Int64} {x2 : Int32} {o_f9_foundMany : Int32} (C : Cx p c s m meth args A dC dI (TY cI cJ cII cJJ) cX9_goes none 6 RX9 0 g) (h_x2 : (0 ≤ x2.toInt ∧ x2.toInt ≤ 1296)) (hp0 : RKa ai0 f9_size f9_rank f9_freeMany) (hp1 : NWk ai0 ((0 : Nat) : Int) x2) (hp2 : o_f9_foundMany.toInt + pwb x2.toInt (f9_freeMany.toInt.toNat - 0) ≤ 99999) : ∀ (n : Nat), ∀ (L3 f9_foundMany : Int32) (ai : Nat → Nat → Int32) (al : Nat → Nat → Int64) (H : Heap) (locs : List Loc) (ls : Array Slot), (-1296 ≤ L3.toInt ∧ L3.toInt ≤ 1297) → (1 ≤ f9_size.toInt ∧ f9_size.toInt ≤ 4) → (0 ≤ f9_equations.toInt ∧ f9_equations.toInt ≤ 3) → (0 ≤ f9_areSteps.toInt ∧ f9_areSteps.toInt ≤ 1) → (0 ≤ f9_foundMany.toInt ∧ f9_foundMany.toInt ≤ 99999) → (0 ≤ f9_many.toInt ∧ f9_many.toInt ≤ 6000) → (0 ≤ f9_rank.toInt ∧ f9_rank.toInt ≤ 3) → (1 ≤ f9_freeMany.toInt ∧ f9_freeMany.toInt ≤ 4) → (0 ≤ f9_arePlans.toInt ∧ f9_arePlans.toInt ≤ 1) → (0 ≤ f9_planMany.toInt ∧ f9_planMany.toInt ≤ 194481) → Fk ai0 ai ((0 : Nat) : Int) → GS ai0 ai f9_size f9_rank f9_freeMany x2 o_f9_foundMany.toInt f9_foundMany.toInt → GCv ai0 ai f9_size f9_rank f9_freeMany x2 0 o_f9_foundMany.toInt f9_foundMany.toInt L3.toInt → (o_f9_foundMany.toInt ≤ f9_foundMany.toInt ∧ f9_foundMany.toInt ≤ o_f9_foundMany.toInt + (L3.toInt + x2.toInt) * pwb x2.toInt (f9_freeMany.toInt.toNat - (0 + 1))) → -x2.toInt ≤ L3.toInt → L3.toInt ≤ x2.toInt + 1 → x2.toInt + 1 - L3.toInt < (n : Int) → (0 : Int) < (n : Int) → IAM ai → FR [7, 8, 16] ai0 ai → FL [17, 18] al0 al → va_P (dC, dI) vwCl (WM cI cJ cII cJJ ad f9_size f9_equations f9_areSteps f9_foundMany f9_many f9_rank f9_freeMany f9_arePlans f9_planMany ai al) H → va_D A (WM cI cJ cII cJJ ad f9_size f9_equations f9_areSteps f9_foundMany f9_many f9_rank f9_freeMany f9_arePlans f9_planMany ai al) → va_S A s.heap H locs → lv_has ls 6 [(0, .ref (ad 22)), (1, .int 0), (2, .int x2), (3, .int L3)] → W p l e ({ frames := 9, cells := 0, slots := 0, locals := 500 } : Room) s m args below meth c H locs 0 0 (MQ below (Q_r013_X9_goes dC dI cI cJ cII cJJ ad f9_size f9_equations f9_areSteps f9_many f9_rank f9_freeMany f9_arePlans f9_planMany ai0 al0 x2 o_f9_foundMany A) args s 0 0 A) (F0 m 112 ls []) := by
  obtain ⟨hx, hb, hr, hml, hown, hts, hk, hA, hK, hX⟩ := id C
  intro n
  induction n with
  | zero =>
    intro L3 f9_foundMany ai al H locs ls h0 h1 h2 h3 h4 h5 h6 h7 h8 h9 h10 h11 h12 h13 h14 h15 h16 h17 hI hF hG hP hD hS hl
    exact absurd h17 (by omega)
  | succ n ih =>
    intro L3 f9_foundMany ai al H locs ls h0 h1 h2 h3 h4 h5 h6 h7 h8 h9 h10 h11 h12 h13 h14 h15 h16 h17 hI hF hG hP hD hS hl
    refine lv_iload_n hx hb dX9_goes_112 rfl (lv_at hl 3 rfl) ?_
    refine lv_iload_n hx hb dX9_goes_113 rfl (lv_at hl 2 rfl) ?_
    refine lv_icmp_gt (tgt := 143) hx hb dX9_goes_114 (by decide) (fun c1 => ?_) (fun c1 => ?_)
    · have c1 := j_lt (a := x2.toInt) (b := L3.toInt) rfl rfl c1
      exact r2_v hx hb hr hk hS dX9_goes_143 (fun t ht hW => ⟨f9_foundMany, ai, al, ⟨(by first | omega | decide | exact Or.inl (by decide) | exact Or.inr (by decide) | exact Or.inr (by omega)), (by rw [pwb_s (by omega)]; exact pw_end h13 (by omega)), h11, (GCo_of hp0 (by omega) (by omega) (by omega) h12), h10, hI, hF, hG⟩, by rw [ht]; exact hP, va_K.moved hW.alike hK, hD⟩)
    · have c1 := j_nlt (a := x2.toInt) (b := L3.toInt) rfl rfl c1
      refine lv_aload_n hx hb dX9_goes_117 rfl (lv_at hl 0 rfl) ?_
      refine gf (k := 26) hx hb hts inX9 hown hK hP k_821 rfl (by decide) rfl 22 rfl (.ref (ad 16)) rfl dX9_goes_118 ?_
      refine lv_aload_n hx hb dX9_goes_121 rfl (lv_at hl 0 rfl) ?_
      refine gf (k := 25) hx hb hts inX9 hown hK hP k_820 rfl (by decide) rfl 22 rfl (.ref (ad 15)) rfl dX9_goes_122 ?_
      refine lv_iload_n hx hb dX9_goes_125 rfl (lv_at hl 1 rfl) ?_
      refine va_iald hx hb hK hP 15 0 rfl rfl (vin (by decide +kernel)) dX9_goes_126 ?_
      refine lv_topi (fun z2 e_z2 => ?_)
      have k_z2 : z2.toInt = (ai 15 0).toInt := by rw [e_z2]; rfl
      have g_z2 : 0 ≤ z2.toInt ∧ z2.toInt ≤ 3 := by rw [e_z2]; exact IAM_at15 hI _
      refine lv_iload_n hx hb dX9_goes_127 rfl (lv_at hl 3 rfl) ?_
      have q_F := hF
      refine va_iast hx hb hK hP hD hS 16 0 rfl rfl (j_in (a := z2.toInt) rfl (by omega) (by omega)) dX9_goes_128 (fun H_1 locs_1 hP_1 hD_1 hS_1 => ?_)
      obtain ⟨ai3, e_ai3⟩ : ∃ q : Nat → Nat → Int32, q = va_up ai 16 (upd (ai 16) z2.toNatClampNeg L3) := ⟨_, rfl⟩
      have hF_2 := FR_st hF e_ai3 (by decide)
      have hI_3 : IAM ai3 := by rw [e_ai3]; exact hI
      have hP_4 : va_P (dC, dI) vwCl (WM cI cJ cII cJJ ad f9_size f9_equations f9_areSteps f9_foundMany f9_many f9_rank f9_freeMany f9_arePlans f9_planMany ai3 al) H_1 := by rw [e_ai3]; exact hP_1
      have hD_5 : va_D A (WM cI cJ cII cJJ ad f9_size f9_equations f9_areSteps f9_foundMany f9_many f9_rank f9_freeMany f9_arePlans f9_planMany ai3 al) := by rw [e_ai3]; exact hD_1
      refine lv_aload_n hx hb dX9_goes_129 rfl (lv_at hl 0 rfl) ?_
      refine lv_iload_n hx hb dX9_goes_130 rfl (lv_at hl 1 rfl) ?_
      refine lv_iconst (v := 1) hx hb dX9_goes_131 (by decide) ?_
      refine v_iadd hx hb dX9_goes_132 1 (by decide +kernel) ?_
      refine lv_iload_n hx hb dX9_goes_133 rfl (lv_at hl 2 rfl) ?_
      have kc1 : (1 : Int32).toInt = 1 := by decide +kernel
      have hM := r012_X9_goes l dC dI cI cJ cII cJJ H_1.size 0 ad f9_size f9_equations f9_areSteps f9_foundMany f9_many f9_rank f9_freeMany f9_arePlans f9_planMany ai3 al x2 (by omega) (by omega) (by omega) (by omega) (by omega) (by omega) (by omega) (by omega) (by omega) (by omega) (by rw [RKa_fr hF_2 (by decide)]; exact hp0) (NWk_up hp0 q_F (by decide) hp1 h10 e_ai3 (by rw [e_z2, q_F 15 (by decide)]; rfl) (by omega) (by omega) rfl) (pw_pre h13.2 (by omega) (pwb_pos (by omega) _) (by have q := hp2; rw [pwb_s (by omega)] at q; exact q)) hI_3
      refine k2V_v (q0 := 22) ⟨hx, hb, hml, hown, hts⟩ hK hP_4 hD_5 hS_1 hA hX cv_RX9_156 hM ⟨by decide +kernel, by decide +kernel⟩ rfl rfl (Or.inl rfl) (rest := []) rfl rfl rfl hl.1 rfl (Nat.le_of_ble_eq_true rfl) dX9_goes_134 ⟨Nat.le_of_ble_eq_true rfl, Nat.le_of_ble_eq_true rfl⟩ (fun t H1 locs_6 ht hB hS_6 hFc => ?_)
      obtain ⟨v5, ai6, al7, ⟨gpr4_0, gpr4_1, gpr4_2, gpr4_3, gpr4_4, hI_7, hFr_r4, hGr_r4⟩, hP_7, -, hD_7⟩ := hB
      have hF_8 := FR_tr hF_2 hFr_r4 (by decide)
      have hG_9 := FL_tr hG hGr_r4 (by decide)
      rw [ht] at hP_7
      have hD_10 := hD_7.weaken (B := A) (fun k q _ h9 => hFc q.1 h9)
      clear ht
      generalize H1 = H_11 at hP_7 hS_6 ⊢
      obtain ⟨z8, e_z8⟩ : ∃ q : Int32, q = L3 + Int32.ofInt 1 := ⟨_, rfl⟩
      have g_z8 : z8.toInt = L3.toInt + 1 := by rw [e_z8]; exact n_add (a := L3.toInt) (b := 1) rfl (by decide +kernel) (by omega) (by omega)
      refine lv_iinc (v := z8) (lv' := [(3, .int z8), (0, .ref (ad 22)), (1, .int 0), (2, .int x2)]) hx hb dX9_goes_137 hl (k := 3) rfl e_z8.symm (by decide) rfl (fun ls_12 hl_12 => ?_)
      refine lv_goto (tgt := 112) hx hb dX9_goes_140 (by decide) ?_
      exact ih z8 v5 ai6 al7 _ _ _ (by omega) (by omega) (by omega) (by omega) (by omega) (by omega) (by omega) (by omega) (by omega) (by omega) (Fk_up hp0 h10 e_ai3 (by rw [e_z2, q_F 15 (by decide)]; rfl) (by omega) gpr4_4 rfl (fr1 q_F (by decide) e_ai3)) (GS_up hp0 (by omega) (by omega) q_F (by decide) h11 e_ai3 gpr4_2 (by omega)) (GCv_up hp0 q_F (by decide) h12 h10 e_ai3 (by rw [e_z2, q_F 15 (by decide)]; rfl) (by omega) gpr4_2 gpr4_3 (by omega) (by omega) rfl (by omega)) (pw_stp h13 gpr4_1 (by omega)) (by omega) (by omega) (by omega) (by omega) hI_7 hF_8 hG_9 hP_7 hD_10 hS_6 (lv_sub hl_12 [1, 2, 3, 0] rfl)
set_option maxRecDepth 100000 in
set_option maxHeartbeats 4000000 in
theorem r013_X9_goes_b80 {p : Program} {l : Launch} {e : Env} {s : State} {m : MethodId} {args : Array Value} {below : List Frame} {meth : Method} {c : Code} {A : Nat → Prop} {dC : Nat → ClassId} {dI : Nat → Nat → Nat} {cI cJ cII cJJ : ClassId} {ad : Nat → Nat} {g : Nat} {f9_size f9_equations f9_areSteps f9_many f9_rank f9_freeMany f9_arePlans f9_planMany : Int32} {ai0 : Nat → Nat → Int32} {al0 : Nat → Nat → Int64} {x2 : Int32} {o_f9_foundMany : Int32} (C : Cx p c s m meth args A dC dI (TY cI cJ cII cJJ) cX9_goes none 6 RX9 0 g) (h_x2 : (0 ≤ x2.toInt ∧ x2.toInt ≤ 1296)) (hp0 : RKa ai0 f9_size f9_rank f9_freeMany) (hp1 : NWk ai0 ((0 : Nat) : Int) x2) (hp2 : o_f9_foundMany.toInt + pwb x2.toInt (f9_freeMany.toInt.toNat - 0) ≤ 99999) (n22 : Nat) (K22 : ∀ (L3 L4 f9_foundMany : Int32) (ai : Nat → Nat → Int32) (al : Nat → Nat → Int64) (H : Heap) (locs : List Loc) (ls : Array Slot), (0 ≤ L3.toInt ∧ L3.toInt ≤ 5184) → (0 ≤ L4.toInt ∧ L4.toInt ≤ 4) → (1 ≤ f9_size.toInt ∧ f9_size.toInt ≤ 4) → (0 ≤ f9_equations.toInt ∧ f9_equations.toInt ≤ 3) → (0 ≤ f9_areSteps.toInt ∧ f9_areSteps.toInt ≤ 1) → (0 ≤ f9_foundMany.toInt ∧ f9_foundMany.toInt ≤ 99999) → (0 ≤ f9_many.toInt ∧ f9_many.toInt ≤ 6000) → (0 ≤ f9_rank.toInt ∧ f9_rank.toInt ≤ 3) → (0 ≤ f9_freeMany.toInt ∧ f9_freeMany.toInt ≤ 0) → (0 ≤ f9_arePlans.toInt ∧ f9_arePlans.toInt ≤ 1) → (0 ≤ f9_planMany.toInt ∧ f9_planMany.toInt ≤ 194481) → FVa ai0 f9_size f9_rank f9_freeMany x2 (vn ai f9_size) → Fk ai0 ai ((0 : Nat) : Int) → RW7 ai f9_size f9_foundMany.toInt L4.toInt → L3.toInt = nmp (vn ai f9_size) L4.toInt.toNat → GS ai0 ai f9_size f9_rank f9_freeMany x2 o_f9_foundMany.toInt o_f9_foundMany.toInt → f9_foundMany.toInt = o_f9_foundMany.toInt → f9_freeMany.toInt = 0 → L3.toInt ≤ 1296 * L4.toInt → 4 - L4.toInt < (n22 : Int) → (0 : Int) < (n22 : Int) → IAM ai → FR [7, 8, 16] ai0 ai → FL [17, 18] al0 al → va_P (dC, dI) vwCl (WM cI cJ cII cJJ ad f9_size f9_equations f9_areSteps f9_foundMany f9_many f9_rank f9_freeMany f9_arePlans f9_planMany ai al) H → va_D A (WM cI cJ cII cJJ ad f9_size f9_equations f9_areSteps f9_foundMany f9_many f9_rank f9_freeMany f9_arePlans f9_planMany ai al) → va_S A s.heap H locs → lv_has ls 6 [(0, .ref (ad 22)), (1, .int 0), (2, .int x2), (3, .int L3), (4, .int L4)] → W p l e ({ frames := 9, cells := 0, slots := 0, locals := 500 } : Room) s m args below meth c H locs 0 0 (MQ below (Q_r013_X9_goes dC dI cI cJ cII cJJ ad f9_size f9_equations f9_areSteps f9_many f9_rank f9_freeMany f9_arePlans f9_planMany ai0 al0 x2 o_f9_foundMany A) args s 0 0 A) (F0 m 22 ls [])) : ∀ (L3 L4 L5 S0 S1 f9_foundMany : Int32) (ai : Nat → Nat → Int32) (al : Nat → Nat → Int64) (H : Heap) (locs : List Loc) (ls : Array Slot), (0 ≤ L3.toInt ∧ L3.toInt ≤ 5184) → (0 ≤ L4.toInt ∧ L4.toInt ≤ 3) → (-1296 ≤ L5.toInt ∧ L5.toInt ≤ 1296) → (0 ≤ S0.toInt ∧ S0.toInt ≤ 1296) → (0 ≤ S1.toInt ∧ S1.toInt ≤ 5184) → (1 ≤ f9_size.toInt ∧ f9_size.toInt ≤ 4) → (0 ≤ f9_equations.toInt ∧ f9_equations.toInt ≤ 3) → (0 ≤ f9_areSteps.toInt ∧ f9_areSteps.toInt ≤ 1) → (0 ≤ f9_foundMany.toInt ∧ f9_foundMany.toInt ≤ 99999) → (0 ≤ f9_many.toInt ∧ f9_many.toInt ≤ 6000) → (0 ≤ f9_rank.toInt ∧ f9_rank.toInt ≤ 3) → (0 ≤ f9_freeMany.toInt ∧ f9_freeMany.toInt ≤ 0) → (0 ≤ f9_arePlans.toInt ∧ f9_arePlans.toInt ≤ 1) → (0 ≤ f9_planMany.toInt ∧ f9_planMany.toInt ≤ 194481) → FVa ai0 f9_size f9_rank f9_freeMany x2 (vn ai f9_size) → Fk ai0 ai ((0 : Nat) : Int) → RW7 ai f9_size f9_foundMany.toInt (L4.toInt + 1) → S1.toInt = nmp (vn ai f9_size) L4.toInt.toNat → GS ai0 ai f9_size f9_rank f9_freeMany x2 o_f9_foundMany.toInt o_f9_foundMany.toInt → f9_foundMany.toInt = o_f9_foundMany.toInt → f9_freeMany.toInt = 0 → S1.toInt ≤ 1296 * L4.toInt → S0.toInt = ((vn ai f9_size L4.toInt.toNat).natAbs : Int) → L4.toInt < 4 → 4 - L4.toInt ≤ (n22 : Int) → IAM ai → FR [7, 8, 16] ai0 ai → FL [17, 18] al0 al → va_P (dC, dI) vwCl (WM cI cJ cII cJJ ad f9_size f9_equations f9_areSteps f9_foundMany f9_many f9_rank f9_freeMany f9_arePlans f9_planMany ai al) H → va_D A (WM cI cJ cII cJJ ad f9_size f9_equations f9_areSteps f9_foundMany f9_many f9_rank f9_freeMany f9_arePlans f9_planMany ai al) → va_S A s.heap H locs → lv_has ls 6 [(0, .ref (ad 22)), (1, .int 0), (2, .int x2), (3, .int L3), (4, .int L4), (5, .int L5)] → W p l e ({ frames := 9, cells := 0, slots := 0, locals := 500 } : Room) s m args below meth c H locs 0 0 (MQ below (Q_r013_X9_goes dC dI cI cJ cII cJJ ad f9_size f9_equations f9_areSteps f9_many f9_rank f9_freeMany f9_arePlans f9_planMany ai0 al0 x2 o_f9_foundMany A) args s 0 0 A) (F0 m 80 ls [.int S0, .int S1]) := by
  obtain ⟨hx, hb, hr, hml, hown, hts, hk, hA, hK, hX⟩ := id C
  intro L3 L4 L5 S0 S1 f9_foundMany ai al H locs ls h0 h1 h2 h3 h4 h5 h6 h7 h8 h9 h10 h11 h12 h13 h14 h15 h16 h17 h18 h19 h20 h21 h22 h23 h24 hI hF hG hP hD hS hl
  refine v_iadd hx hb dX9_goes_80 _ rfl ?_
  refine lv_topi (fun z1 e_z1 => ?_)
  have g_z1 : z1.toInt = S1.toInt + S0.toInt := by rw [e_z1]; exact n_add (a := S1.toInt) (b := S0.toInt) rfl rfl (by omega) (by omega)
  refine lv_istore_n (lv' := [(3, .int z1), (0, .ref (ad 22)), (1, .int 0), (2, .int x2), (4, .int L4), (5, .int L5)]) hx hb dX9_goes_81 rfl hl (by decide) rfl (fun ls_1 hl_1 => ?_)
  obtain ⟨z2, e_z2⟩ : ∃ q : Int32, q = L4 + Int32.ofInt 1 := ⟨_, rfl⟩
  have g_z2 : z2.toInt = L4.toInt + 1 := by rw [e_z2]; exact n_add (a := L4.toInt) (b := 1) rfl (by decide +kernel) (by omega) (by omega)
  refine lv_iinc (v := z2) (lv' := [(4, .int z2), (3, .int z1), (0, .ref (ad 22)), (1, .int 0), (2, .int x2), (5, .int L5)]) hx hb dX9_goes_82 hl_1 (k := 4) rfl e_z2.symm (by decide) rfl (fun ls_2 hl_2 => ?_)
  refine lv_goto (tgt := 22) hx hb dX9_goes_85 (by decide) ?_
  exact K22 z1 z2 f9_foundMany ai al _ _ _ (by omega) (by omega) (by omega) (by omega) (by omega) (by omega) (by omega) (by omega) (by omega) (by omega) (by omega) h14 h15 (by rw [show z2.toInt = L4.toInt + 1 by omega]; exact h16) (by rw [show z2.toInt.toNat = L4.toInt.toNat + 1 by omega]; show _ = nmp (vn ai f9_size) L4.toInt.toNat + ((vn ai f9_size L4.toInt.toNat).natAbs : Int); omega) h18 (by omega) (by omega) (by omega) (by omega) (by omega) hI hF hG hP hD hS (lv_sub hl_2 [2, 3, 4, 1, 0] rfl)
set_option maxRecDepth 100000 in
set_option maxHeartbeats 4000000 in
theorem r013_X9_goes_b48 {p : Program} {l : Launch} {e : Env} {s : State} {m : MethodId} {args : Array Value} {below : List Frame} {meth : Method} {c : Code} {A : Nat → Prop} {dC : Nat → ClassId} {dI : Nat → Nat → Nat} {cI cJ cII cJJ : ClassId} {ad : Nat → Nat} {g : Nat} {f9_size f9_equations f9_areSteps f9_many f9_rank f9_freeMany f9_arePlans f9_planMany : Int32} {ai0 : Nat → Nat → Int32} {al0 : Nat → Nat → Int64} {x2 : Int32} {o_f9_foundMany : Int32} (C : Cx p c s m meth args A dC dI (TY cI cJ cII cJJ) cX9_goes none 6 RX9 0 g) (h_x2 : (0 ≤ x2.toInt ∧ x2.toInt ≤ 1296)) (hp0 : RKa ai0 f9_size f9_rank f9_freeMany) (hp1 : NWk ai0 ((0 : Nat) : Int) x2) (hp2 : o_f9_foundMany.toInt + pwb x2.toInt (f9_freeMany.toInt.toNat - 0) ≤ 99999) (n22 : Nat) (K22 : ∀ (L3 L4 f9_foundMany : Int32) (ai : Nat → Nat → Int32) (al : Nat → Nat → Int64) (H : Heap) (locs : List Loc) (ls : Array Slot), (0 ≤ L3.toInt ∧ L3.toInt ≤ 5184) → (0 ≤ L4.toInt ∧ L4.toInt ≤ 4) → (1 ≤ f9_size.toInt ∧ f9_size.toInt ≤ 4) → (0 ≤ f9_equations.toInt ∧ f9_equations.toInt ≤ 3) → (0 ≤ f9_areSteps.toInt ∧ f9_areSteps.toInt ≤ 1) → (0 ≤ f9_foundMany.toInt ∧ f9_foundMany.toInt ≤ 99999) → (0 ≤ f9_many.toInt ∧ f9_many.toInt ≤ 6000) → (0 ≤ f9_rank.toInt ∧ f9_rank.toInt ≤ 3) → (0 ≤ f9_freeMany.toInt ∧ f9_freeMany.toInt ≤ 0) → (0 ≤ f9_arePlans.toInt ∧ f9_arePlans.toInt ≤ 1) → (0 ≤ f9_planMany.toInt ∧ f9_planMany.toInt ≤ 194481) → FVa ai0 f9_size f9_rank f9_freeMany x2 (vn ai f9_size) → Fk ai0 ai ((0 : Nat) : Int) → RW7 ai f9_size f9_foundMany.toInt L4.toInt → L3.toInt = nmp (vn ai f9_size) L4.toInt.toNat → GS ai0 ai f9_size f9_rank f9_freeMany x2 o_f9_foundMany.toInt o_f9_foundMany.toInt → f9_foundMany.toInt = o_f9_foundMany.toInt → f9_freeMany.toInt = 0 → L3.toInt ≤ 1296 * L4.toInt → 4 - L4.toInt < (n22 : Int) → (0 : Int) < (n22 : Int) → IAM ai → FR [7, 8, 16] ai0 ai → FL [17, 18] al0 al → va_P (dC, dI) vwCl (WM cI cJ cII cJJ ad f9_size f9_equations f9_areSteps f9_foundMany f9_many f9_rank f9_freeMany f9_arePlans f9_planMany ai al) H → va_D A (WM cI cJ cII cJJ ad f9_size f9_equations f9_areSteps f9_foundMany f9_many f9_rank f9_freeMany f9_arePlans f9_planMany ai al) → va_S A s.heap H locs → lv_has ls 6 [(0, .ref (ad 22)), (1, .int 0), (2, .int x2), (3, .int L3), (4, .int L4)] → W p l e ({ frames := 9, cells := 0, slots := 0, locals := 500 } : Room) s m args below meth c H locs 0 0 (MQ below (Q_r013_X9_goes dC dI cI cJ cII cJJ ad f9_size f9_equations f9_areSteps f9_many f9_rank f9_freeMany f9_arePlans f9_planMany ai0 al0 x2 o_f9_foundMany A) args s 0 0 A) (F0 m 22 ls [])) : ∀ (L3 L4 S0 f9_foundMany : Int32) (ai : Nat → Nat → Int32) (al : Nat → Nat → Int64) (H : Heap) (locs : List Loc) (ls : Array Slot), (0 ≤ L3.toInt ∧ L3.toInt ≤ 5184) → (0 ≤ L4.toInt ∧ L4.toInt ≤ 3) → (-1296 ≤ S0.toInt ∧ S0.toInt ≤ 1296) → (1 ≤ f9_size.toInt ∧ f9_size.toInt ≤ 4) → (0 ≤ f9_equations.toInt ∧ f9_equations.toInt ≤ 3) → (0 ≤ f9_areSteps.toInt ∧ f9_areSteps.toInt ≤ 1) → (0 ≤ f9_foundMany.toInt ∧ f9_foundMany.toInt ≤ 99999) → (0 ≤ f9_many.toInt ∧ f9_many.toInt ≤ 6000) → (0 ≤ f9_rank.toInt ∧ f9_rank.toInt ≤ 3) → (0 ≤ f9_freeMany.toInt ∧ f9_freeMany.toInt ≤ 0) → (0 ≤ f9_arePlans.toInt ∧ f9_arePlans.toInt ≤ 1) → (0 ≤ f9_planMany.toInt ∧ f9_planMany.toInt ≤ 194481) → FVa ai0 f9_size f9_rank f9_freeMany x2 (vn ai f9_size) → Fk ai0 ai ((0 : Nat) : Int) → RW7 ai f9_size f9_foundMany.toInt L4.toInt → L3.toInt = nmp (vn ai f9_size) L4.toInt.toNat → GS ai0 ai f9_size f9_rank f9_freeMany x2 o_f9_foundMany.toInt o_f9_foundMany.toInt → f9_foundMany.toInt = o_f9_foundMany.toInt → f9_freeMany.toInt = 0 → L3.toInt ≤ 1296 * L4.toInt → S0.toInt = vn ai f9_size L4.toInt.toNat → L4.toInt < 4 → 4 - L4.toInt ≤ (n22 : Int) → IAM ai → FR [7, 8, 16] ai0 ai → FL [17, 18] al0 al → va_P (dC, dI) vwCl (WM cI cJ cII cJJ ad f9_size f9_equations f9_areSteps f9_foundMany f9_many f9_rank f9_freeMany f9_arePlans f9_planMany ai al) H → va_D A (WM cI cJ cII cJJ ad f9_size f9_equations f9_areSteps f9_foundMany f9_many f9_rank f9_freeMany f9_arePlans f9_planMany ai al) → va_S A s.heap H locs → lv_has ls 6 [(0, .ref (ad 22)), (1, .int 0), (2, .int x2), (3, .int L3), (4, .int L4)] → W p l e ({ frames := 9, cells := 0, slots := 0, locals := 500 } : Room) s m args below meth c H locs 0 0 (MQ below (Q_r013_X9_goes dC dI cI cJ cII cJJ ad f9_size f9_equations f9_areSteps f9_many f9_rank f9_freeMany f9_arePlans f9_planMany ai0 al0 x2 o_f9_foundMany A) args s 0 0 A) (F0 m 48 ls [.int S0]) := by
  obtain ⟨hx, hb, hr, hml, hown, hts, hk, hA, hK, hX⟩ := id C
  intro L3 L4 S0 f9_foundMany ai al H locs ls h0 h1 h2 h3 h4 h5 h6 h7 h8 h9 h10 h11 h12 h13 h14 h15 h16 h17 h18 h19 h20 h21 h22 hI hF hG hP hD hS hl
  refine lv_istore (lv' := [(5, .int S0), (0, .ref (ad 22)), (1, .int 0), (2, .int x2), (3, .int L3), (4, .int L4)]) hx hb dX9_goes_48 hl (by decide) rfl (fun ls_1 hl_1 => ?_)
  refine lv_aload_n hx hb dX9_goes_50 rfl (lv_at hl_1 1 rfl) ?_
  refine gf (k := 15) hx hb hts inX9 hown hK hP k_810 rfl (by decide) rfl 22 rfl (.ref (ad 7)) rfl dX9_goes_51 ?_
  refine lv_iconst (v := 4) hx hb dX9_goes_54 (by decide) ?_
  refine lv_aload_n hx hb dX9_goes_55 rfl (lv_at hl_1 1 rfl) ?_
  refine gf (k := 21) hx hb hts inX9 hown hK hP k_816 rfl (by decide) rfl 22 rfl (.int f9_foundMany) rfl dX9_goes_56 ?_
  refine v_imul hx hb dX9_goes_59 _ rfl ?_
  refine lv_topi (fun z1 e_z1 => ?_)
  have g_z1 : z1.toInt = 4 * f9_foundMany.toInt := by rw [e_z1]; exact n_mul (a := 4) (b := f9_foundMany.toInt) (by decide +kernel) rfl (by omega) (by omega)
  refine lv_iload hx hb dX9_goes_60 (lv_at hl_1 5 rfl) ?_
  refine v_iadd hx hb dX9_goes_62 _ rfl ?_
  refine lv_topi (fun z2 e_z2 => ?_)
  have g_z2 : z2.toInt = z1.toInt + L4.toInt := by rw [e_z2]; exact n_add (a := z1.toInt) (b := L4.toInt) rfl rfl (by omega) (by omega)
  refine lv_iload hx hb dX9_goes_63 (lv_at hl_1 0 rfl) ?_
  refine va_iast hx hb hK hP hD hS 7 0 rfl rfl (j_in (a := z2.toInt) rfl (by omega) (by omega)) dX9_goes_65 (fun H_2 locs_2 hP_2 hD_2 hS_2 => ?_)
  obtain ⟨ai3, e_ai3⟩ : ∃ q : Nat → Nat → Int32, q = va_up ai 7 (upd (ai 7) z2.toNatClampNeg S0) := ⟨_, rfl⟩
  have hF_3 := FR_st hF e_ai3 (by decide)
  have hI_4 : IAM ai3 := by rw [e_ai3]; exact hI
  have hP_5 : va_P (dC, dI) vwCl (WM cI cJ cII cJJ ad f9_size f9_equations f9_areSteps f9_foundMany f9_many f9_rank f9_freeMany f9_arePlans f9_planMany ai3 al) H_2 := by rw [e_ai3]; exact hP_2
  have hD_6 : va_D A (WM cI cJ cII cJJ ad f9_size f9_equations f9_areSteps f9_foundMany f9_many f9_rank f9_freeMany f9_arePlans f9_planMany ai3 al) := by rw [e_ai3]; exact hD_2
  refine lv_iload_n hx hb dX9_goes_66 rfl (lv_at hl_1 4 rfl) ?_
  refine lv_iload hx hb dX9_goes_67 (lv_at hl_1 0 rfl) ?_
  refine lv_if_ge (tgt := 78) hx hb dX9_goes_69 (by decide) (fun c4 => ?_) (fun c4 => ?_)
  · have c4 := j_le (a := 0) (b := S0.toInt) (by decide +kernel) rfl c4
    refine lv_iload hx hb dX9_goes_78 (lv_at hl_1 0 rfl) ?_
    exact r013_X9_goes_b80 C h_x2 hp0 hp1 hp2 n22 K22 L3 L4 S0 S0 L3 f9_foundMany ai3 al _ _ _ (by omega) (by omega) (by omega) (by omega) (by omega) (by omega) (by omega) (by omega) (by omega) (by omega) (by omega) (by omega) (by omega) (by omega) (FVa_st7 h12 e_ai3) (Fk_st h13 e_ai3 (by decide)) (RW7_st h14 e_ai3 (by omega) (by omega) (by omega) h20 rfl) (by rw [vn_st (up_ne e_ai3 (by decide))]; exact h15) (GS_st7 (F := f9_foundMany.toInt) h16 e_ai3 (by omega) (by omega) (by omega)) (by omega) (by omega) (by omega) (by rw [vn_st (up_ne e_ai3 (by decide))]; omega) (by omega) (by omega) hI_4 hF_3 hG hP_5 hD_6 hS_2 (lv_sub hl_1 [1, 2, 3, 4, 5, 0] rfl)
  · have c4 := j_nle (a := 0) (b := S0.toInt) (by decide +kernel) rfl c4
    refine lv_iload hx hb dX9_goes_72 (lv_at hl_1 0 rfl) ?_
    refine v_ineg hx hb dX9_goes_74 _ rfl ?_
    refine lv_topi (fun z5 e_z5 => ?_)
    have g_z5 : z5.toInt = -S0.toInt := by rw [e_z5]; exact n_neg (a := S0.toInt) rfl (by omega)
    refine lv_goto (tgt := 80) hx hb dX9_goes_75 (by decide) ?_
    exact r013_X9_goes_b80 C h_x2 hp0 hp1 hp2 n22 K22 L3 L4 S0 z5 L3 f9_foundMany ai3 al _ _ _ (by omega) (by omega) (by omega) (by omega) (by omega) (by omega) (by omega) (by omega) (by omega) (by omega) (by omega) (by omega) (by omega) (by omega) (FVa_st7 h12 e_ai3) (Fk_st h13 e_ai3 (by decide)) (RW7_st h14 e_ai3 (by omega) (by omega) (by omega) h20 rfl) (by rw [vn_st (up_ne e_ai3 (by decide))]; exact h15) (GS_st7 (F := f9_foundMany.toInt) h16 e_ai3 (by omega) (by omega) (by omega)) (by omega) (by omega) (by omega) (by rw [vn_st (up_ne e_ai3 (by decide))]; omega) (by omega) (by omega) hI_4 hF_3 hG hP_5 hD_6 hS_2 (lv_sub hl_1 [1, 2, 3, 4, 5, 0] rfl)
set_option maxRecDepth 100000 in
set_option maxHeartbeats 4000000 in
theorem r013_X9_goes_b22 {p : Program} {l : Launch} {e : Env} {s : State} {m : MethodId} {args : Array Value} {below : List Frame} {meth : Method} {c : Code} {A : Nat → Prop} {dC : Nat → ClassId} {dI : Nat → Nat → Nat} {cI cJ cII cJJ : ClassId} {ad : Nat → Nat} {g : Nat} {f9_size f9_equations f9_areSteps f9_many f9_rank f9_freeMany f9_arePlans f9_planMany : Int32} {ai0 : Nat → Nat → Int32} {al0 : Nat → Nat → Int64} {x2 : Int32} {o_f9_foundMany : Int32} (C : Cx p c s m meth args A dC dI (TY cI cJ cII cJJ) cX9_goes none 6 RX9 0 g) (h_x2 : (0 ≤ x2.toInt ∧ x2.toInt ≤ 1296)) (hp0 : RKa ai0 f9_size f9_rank f9_freeMany) (hp1 : NWk ai0 ((0 : Nat) : Int) x2) (hp2 : o_f9_foundMany.toInt + pwb x2.toInt (f9_freeMany.toInt.toNat - 0) ≤ 99999) : ∀ (n : Nat), ∀ (L3 L4 f9_foundMany : Int32) (ai : Nat → Nat → Int32) (al : Nat → Nat → Int64) (H : Heap) (locs : List Loc) (ls : Array Slot), (0 ≤ L3.toInt ∧ L3.toInt ≤ 5184) → (0 ≤ L4.toInt ∧ L4.toInt ≤ 4) → (1 ≤ f9_size.toInt ∧ f9_size.toInt ≤ 4) → (0 ≤ f9_equations.toInt ∧ f9_equations.toInt ≤ 3) → (0 ≤ f9_areSteps.toInt ∧ f9_areSteps.toInt ≤ 1) → (0 ≤ f9_foundMany.toInt ∧ f9_foundMany.toInt ≤ 99999) → (0 ≤ f9_many.toInt ∧ f9_many.toInt ≤ 6000) → (0 ≤ f9_rank.toInt ∧ f9_rank.toInt ≤ 3) → (0 ≤ f9_freeMany.toInt ∧ f9_freeMany.toInt ≤ 0) → (0 ≤ f9_arePlans.toInt ∧ f9_arePlans.toInt ≤ 1) → (0 ≤ f9_planMany.toInt ∧ f9_planMany.toInt ≤ 194481) → FVa ai0 f9_size f9_rank f9_freeMany x2 (vn ai f9_size) → Fk ai0 ai ((0 : Nat) : Int) → RW7 ai f9_size f9_foundMany.toInt L4.toInt → L3.toInt = nmp (vn ai f9_size) L4.toInt.toNat → GS ai0 ai f9_size f9_rank f9_freeMany x2 o_f9_foundMany.toInt o_f9_foundMany.toInt → f9_foundMany.toInt = o_f9_foundMany.toInt → f9_freeMany.toInt = 0 → L3.toInt ≤ 1296 * L4.toInt → 4 - L4.toInt < (n : Int) → (0 : Int) < (n : Int) → IAM ai → FR [7, 8, 16] ai0 ai → FL [17, 18] al0 al → va_P (dC, dI) vwCl (WM cI cJ cII cJJ ad f9_size f9_equations f9_areSteps f9_foundMany f9_many f9_rank f9_freeMany f9_arePlans f9_planMany ai al) H → va_D A (WM cI cJ cII cJJ ad f9_size f9_equations f9_areSteps f9_foundMany f9_many f9_rank f9_freeMany f9_arePlans f9_planMany ai al) → va_S A s.heap H locs → lv_has ls 6 [(0, .ref (ad 22)), (1, .int 0), (2, .int x2), (3, .int L3), (4, .int L4)] → W p l e ({ frames := 9, cells := 0, slots := 0, locals := 500 } : Room) s m args below meth c H locs 0 0 (MQ below (Q_r013_X9_goes dC dI cI cJ cII cJJ ad f9_size f9_equations f9_areSteps f9_many f9_rank f9_freeMany f9_arePlans f9_planMany ai0 al0 x2 o_f9_foundMany A) args s 0 0 A) (F0 m 22 ls []) := by
  obtain ⟨hx, hb, hr, hml, hown, hts, hk, hA, hK, hX⟩ := id C
  intro n
  induction n with
  | zero =>
    intro L3 L4 f9_foundMany ai al H locs ls h0 h1 h2 h3 h4 h5 h6 h7 h8 h9 h10 h11 h12 h13 h14 h15 h16 h17 h18 h19 h20 hI hF hG hP hD hS hl
    exact absurd h20 (by omega)
  | succ n ih =>
    intro L3 L4 f9_foundMany ai al H locs ls h0 h1 h2 h3 h4 h5 h6 h7 h8 h9 h10 h11 h12 h13 h14 h15 h16 h17 h18 h19 h20 hI hF hG hP hD hS hl
    refine lv_iload hx hb dX9_goes_22 (lv_at hl 4 rfl) ?_
    refine lv_iconst (v := 4) hx hb dX9_goes_24 (by decide) ?_
    refine lv_icmp_ge (tgt := 88) hx hb dX9_goes_25 (by decide) (fun c1 => ?_) (fun c1 => ?_)
    · have c1 := j_le (a := 4) (b := L4.toInt) (by decide +kernel) rfl c1
      refine lv_aload_n hx hb dX9_goes_88 rfl (lv_at hl 0 rfl) ?_
      refine gf (k := 16) hx hb hts inX9 hown hK hP k_811 rfl (by decide) rfl 22 rfl (.ref (ad 8)) rfl dX9_goes_89 ?_
      refine lv_aload_n hx hb dX9_goes_92 rfl (lv_at hl 0 rfl) ?_
      refine gf (k := 21) hx hb hts inX9 hown hK hP k_816 rfl (by decide) rfl 22 rfl (.int f9_foundMany) rfl dX9_goes_93 ?_
      refine lv_iload_n hx hb dX9_goes_96 rfl (lv_at hl 3 rfl) ?_
      refine va_iast hx hb hK hP hD hS 8 0 rfl rfl (j_in (a := f9_foundMany.toInt) rfl (by omega) (by omega)) dX9_goes_97 (fun H_1 locs_1 hP_1 hD_1 hS_1 => ?_)
      obtain ⟨ai2, e_ai2⟩ : ∃ q : Nat → Nat → Int32, q = va_up ai 8 (upd (ai 8) f9_foundMany.toNatClampNeg L3) := ⟨_, rfl⟩
      have hF_2 := FR_st hF e_ai2 (by decide)
      have hI_3 : IAM ai2 := by rw [e_ai2]; exact IAM_st8 hI (a := L3.toInt) rfl (by omega) (by omega)
      have hP_4 : va_P (dC, dI) vwCl (WM cI cJ cII cJJ ad f9_size f9_equations f9_areSteps f9_foundMany f9_many f9_rank f9_freeMany f9_arePlans f9_planMany ai2 al) H_1 := by rw [e_ai2]; exact hP_1
      have hD_5 : va_D A (WM cI cJ cII cJJ ad f9_size f9_equations f9_areSteps f9_foundMany f9_many f9_rank f9_freeMany f9_arePlans f9_planMany ai2 al) := by rw [e_ai2]; exact hD_1
      refine lv_aload_n hx hb dX9_goes_98 rfl (lv_at hl 0 rfl) ?_
      refine lv_dup hx hb dX9_goes_99 rfl ?_
      refine gf (k := 21) hx hb hts inX9 hown hK hP_4 k_816 rfl (by decide) rfl 22 rfl (.int f9_foundMany) rfl dX9_goes_100 ?_
      refine lv_iconst (v := 1) hx hb dX9_goes_103 (by decide) ?_
      refine v_iadd hx hb dX9_goes_104 _ rfl ?_
      refine lv_topi (fun z3 e_z3 => ?_)
      have g_z3 : z3.toInt = f9_foundMany.toInt + 1 ∧ z3.toInt ≤ 99999 := by rw [e_z3, n_add (a := f9_foundMany.toInt) (b := 1) rfl (by decide +kernel) (by omega) (by omega)]; have q9 := pwb_pos (b := x2.toInt) (by omega) (f9_freeMany.toInt.toNat - 0); omega
      refine pf (k := 21) hx hb hts inX9 tyX9_ok nmX9 hown hK hP_4 hD_5 hS_1 k_816 rfl (by decide) rfl rfl 22 rfl rfl rfl (Nat.le_of_ble_eq_true rfl) dX9_goes_105 (W' := (WM cI cJ cII cJJ ad f9_size f9_equations f9_areSteps z3 f9_many f9_rank f9_freeMany f9_arePlans f9_planMany ai2 al)) rfl (fun H_6 locs_6 hP_6 hD_6 hS_6 => ?_)
      exact r2_v hx hb hr hk hS_6 dX9_goes_108 (fun t ht hW => ⟨z3, ai2, al, ⟨(by first | omega | decide | exact Or.inl (by decide) | exact Or.inr (by decide) | exact Or.inr (by omega)), (by rw [show f9_freeMany.toInt.toNat - 0 = 0 by omega]; show _ ∧ _ ≤ _ + (1 : Int); omega), (GS_end hp0 (by omega) (by omega) h15 (by omega) h11 (by have q := h13; rw [show f9_foundMany.toInt = o_f9_foundMany.toInt by omega, show L4.toInt = 4 by omega] at q; exact q) e_ai2 (by omega) (by rw [h14, show L4.toInt.toNat = 4 by omega]) (by omega)), (GCo_end hp0 (by omega) (by omega) h11 h12 (by omega) (by have q := h13; rw [show f9_foundMany.toInt = o_f9_foundMany.toInt by omega, show L4.toInt = 4 by omega] at q; exact q) e_ai2 (by omega)), (Fk_st h12 e_ai2 (by decide)), hI_3, hF_2, hG⟩, by rw [ht]; exact hP_6, va_K.moved hW.alike hK, hD_6⟩)
    · have c1 := j_nle (a := 4) (b := L4.toInt) (by decide +kernel) rfl c1
      refine lv_iload hx hb dX9_goes_28 (lv_at hl 4 rfl) ?_
      refine lv_aload_n hx hb dX9_goes_30 rfl (lv_at hl 0 rfl) ?_
      refine gf (k := 12) hx hb hts inX9 hown hK hP k_807 rfl (by decide) rfl 22 rfl (.int f9_size) rfl dX9_goes_31 ?_
      refine lv_icmp_ge (tgt := 47) hx hb dX9_goes_34 (by decide) (fun c4 => ?_) (fun c4 => ?_)
      · have c4 := j_le (a := f9_size.toInt) (b := L4.toInt) rfl rfl c4
        refine lv_iconst (v := 0) hx hb dX9_goes_47 (by decide) ?_
        exact r013_X9_goes_b48 C h_x2 hp0 hp1 hp2 n ih L3 L4 0 f9_foundMany ai al _ _ _ (by first | omega | decide | (have ka0 := (by decide +kernel : (0 : Int32).toInt = 0); omega)) (by first | omega | decide | (have ka0 := (by decide +kernel : (0 : Int32).toInt = 0); omega)) (by first | omega | decide | (have ka0 := (by decide +kernel : (0 : Int32).toInt = 0); omega)) (by first | omega | decide | (have ka0 := (by decide +kernel : (0 : Int32).toInt = 0); omega)) (by first | omega | decide | (have ka0 := (by decide +kernel : (0 : Int32).toInt = 0); omega)) (by first | omega | decide | (have ka0 := (by decide +kernel : (0 : Int32).toInt = 0); omega)) (by first | omega | decide | (have ka0 := (by decide +kernel : (0 : Int32).toInt = 0); omega)) (by first | omega | decide | (have ka0 := (by decide +kernel : (0 : Int32).toInt = 0); omega)) (by first | omega | decide | (have ka0 := (by decide +kernel : (0 : Int32).toInt = 0); omega)) (by first | omega | decide | (have ka0 := (by decide +kernel : (0 : Int32).toInt = 0); omega)) (by first | omega | decide | (have ka0 := (by decide +kernel : (0 : Int32).toInt = 0); omega)) (by first | omega | decide | (have ka0 := (by decide +kernel : (0 : Int32).toInt = 0); omega)) h11 h12 h13 h14 h15 (by first | omega | decide | (have ka0 := (by decide +kernel : (0 : Int32).toInt = 0); omega)) (by first | omega | decide | (have ka0 := (by decide +kernel : (0 : Int32).toInt = 0); omega)) (by first | omega | decide | (have ka0 := (by decide +kernel : (0 : Int32).toInt = 0); omega)) (by rw [vn_out (by omega)]; decide) (by first | omega | decide | (have ka0 := (by decide +kernel : (0 : Int32).toInt = 0); omega)) (by first | omega | decide | (have ka0 := (by decide +kernel : (0 : Int32).toInt = 0); omega)) hI hF hG hP hD hS (lv_sub hl [0, 1, 2, 3, 4] rfl)
      · have c4 := j_nle (a := f9_size.toInt) (b := L4.toInt) rfl rfl c4
        refine lv_aload_n hx hb dX9_goes_37 rfl (lv_at hl 0 rfl) ?_
        refine gf (k := 26) hx hb hts inX9 hown hK hP k_821 rfl (by decide) rfl 22 rfl (.ref (ad 16)) rfl dX9_goes_38 ?_
        refine lv_iload hx hb dX9_goes_41 (lv_at hl 4 rfl) ?_
        refine va_iald hx hb hK hP 16 0 rfl rfl (j_in (a := L4.toInt) rfl (by omega) (by omega)) dX9_goes_43 ?_
        refine lv_topi (fun z5 e_z5 => ?_)
        have g_z5 : -1296 ≤ z5.toInt ∧ z5.toInt ≤ 1296 := by have q := vn_b h11 (by omega) (u := L4.toInt.toNat) (by omega); rw [vn_in (by omega)] at q; rw [e_z5]; exact q
        refine lv_goto (tgt := 48) hx hb dX9_goes_44 (by decide) ?_
        exact r013_X9_goes_b48 C h_x2 hp0 hp1 hp2 n ih L3 L4 z5 f9_foundMany ai al _ _ _ (by omega) (by omega) (by omega) (by omega) (by omega) (by omega) (by omega) (by omega) (by omega) (by omega) (by omega) (by omega) h11 h12 h13 h14 h15 (by omega) (by omega) (by omega) (by rw [e_z5]; exact (vn_in (u := L4.toInt.toNat) (by omega)).symm) (by omega) (by omega) hI hF hG hP hD hS (lv_sub hl [0, 1, 2, 3, 4] rfl)
set_option maxRecDepth 100000 in
set_option maxHeartbeats 4000000 in
theorem r013_X9_goes (l : Launch) (dC : Nat → ClassId) (dI : Nat → Nat → Nat) (cI cJ cII cJJ : ClassId) (sz g : Nat) (ad : Nat → Nat) (f9_size f9_equations f9_areSteps f9_foundMany f9_many f9_rank f9_freeMany f9_arePlans f9_planMany : Int32) (ai : Nat → Nat → Int32) (al : Nat → Nat → Int64) (x2 : Int32) (h_x2 : (0 ≤ x2.toInt ∧ x2.toInt ≤ 1296)) (h_f9_size : (1 ≤ f9_size.toInt ∧ f9_size.toInt ≤ 4)) (h_f9_equations : (0 ≤ f9_equations.toInt ∧ f9_equations.toInt ≤ 3)) (h_f9_areSteps : (0 ≤ f9_areSteps.toInt ∧ f9_areSteps.toInt ≤ 1)) (h_f9_foundMany : (0 ≤ f9_foundMany.toInt ∧ f9_foundMany.toInt ≤ 99999)) (h_f9_many : (0 ≤ f9_many.toInt ∧ f9_many.toInt ≤ 6000)) (h_f9_rank : (0 ≤ f9_rank.toInt ∧ f9_rank.toInt ≤ 3)) (h_f9_freeMany : (0 ≤ f9_freeMany.toInt ∧ f9_freeMany.toInt ≤ 4)) (h_f9_arePlans : (0 ≤ f9_arePlans.toInt ∧ f9_arePlans.toInt ≤ 1)) (h_f9_planMany : (0 ≤ f9_planMany.toInt ∧ f9_planMany.toInt ≤ 194481)) (hp0 : RKa ai f9_size f9_rank f9_freeMany) (hp1 : NWk ai ((0 : Nat) : Int) x2) (hp2 : f9_foundMany.toInt + pwb x2.toInt (f9_freeMany.toInt.toNat - 0) ≤ 99999) (hI : IAM ai) : Met l yX9_goes (.code yX9_goes cX9_goes 6 none :: TT) ({ frames := 9, cells := 0, slots := 0, locals := 500 } : Room) (PcS dC dI (TY cI cJ cII cJJ) [.ref (ad 22), .int 0, .int x2] (WM cI cJ cII cJJ ad f9_size f9_equations f9_areSteps f9_foundMany f9_many f9_rank f9_freeMany f9_arePlans f9_planMany ai al) sz 0 g) (Q_r013_X9_goes dC dI cI cJ cII cJJ ad f9_size f9_equations f9_areSteps f9_many f9_rank f9_freeMany f9_arePlans f9_planMany ai al x2 f9_foundMany (va_A (WM cI cJ cII cJJ ad f9_size f9_equations f9_areSteps f9_foundMany f9_many f9_rank f9_freeMany f9_arePlans f9_planMany ai al) sz)) 0 0 (va_A (WM cI cJ cII cJJ ad f9_size f9_equations f9_areSteps f9_foundMany f9_many f9_rank f9_freeMany f9_arePlans f9_planMany ai al) sz) := by
  refine SM.of (y := yX9_goes) (maxL := 6) (av := [.ref (ad 22), .int 0, .int x2]) (Q_r013_X9_goes dC dI cI cJ cII cJJ ad f9_size f9_equations f9_areSteps f9_many f9_rank f9_freeMany f9_arePlans f9_planMany ai al x2 f9_foundMany) (by decide +kernel) (Nat.le_of_ble_eq_true rfl) (fun p e s m below meth c A ls hx hb hr hml hown hts hk hnm hA hK hP hD hS hX hl => ?_)
  have C : Cx p c s m meth (([.ref (ad 22), .int 0, .int x2] : List Value).toArray) A dC dI (TY cI cJ cII cJJ) cX9_goes none 6 RX9 0 g := ⟨hx, hb, hr, hml, hown, hts, hk, hA, hK, hX⟩
  have hown : s.vm.findClass RX9 = some m.cls := hown
  have hl : lv_has ls 6 [(0, .ref (ad 22)), (1, .int 0), (2, .int x2)] := hl
  obtain ⟨H, hH⟩ : ∃ q, q = s.heap := ⟨_, rfl⟩
  rw [← hH] at hP
  have hS : va_S A s.heap H [] := by rw [hH]; exact hS
  rw [← hH]
  have hF := FR_refl [7, 8, 16] ai
  have hG := FL_refl [17, 18] al
  refine lv_iload_n hx hb dX9_goes_0 rfl (lv_at hl 1 rfl) ?_
  refine lv_aload_n hx hb dX9_goes_1 rfl (lv_at hl 0 rfl) ?_
  refine gf (k := 28) hx hb hts inX9 hown hK hP k_823 rfl (by decide) rfl 22 rfl (.int f9_freeMany) rfl dX9_goes_2 ?_
  refine lv_icmp_ne (tgt := 109) hx hb dX9_goes_5 (by decide) (fun c1 => ?_) (fun c1 => ?_)
  · have c1 := j_ne (a := 0) (b := f9_freeMany.toInt) (by decide +kernel) rfl c1
    refine lv_iload_n hx hb dX9_goes_109 rfl (lv_at hl 2 rfl) ?_
    refine v_ineg hx hb dX9_goes_110 _ rfl ?_
    refine lv_topi (fun z2 e_z2 => ?_)
    have g_z2 : z2.toInt = -x2.toInt := by rw [e_z2]; exact n_neg (a := x2.toInt) rfl (by omega)
    refine lv_istore_n (lv' := [(3, .int z2), (0, .ref (ad 22)), (1, .int 0), (2, .int x2)]) hx hb dX9_goes_111 rfl hl (by decide) rfl (fun ls_1 hl_1 => ?_)
    exact r013_X9_goes_b112 C h_x2 hp0 hp1 hp2  _ z2 f9_foundMany ai al _ _ _ (by omega) (by omega) (by omega) (by omega) (by omega) (by omega) (by omega) (by omega) (by omega) (by omega) (fun j _ => rfl) (GS_0 (FR_refl [] _) (by decide) (by decide) (Int.le_refl _)) (GCv_0 hp0 (by omega) (by omega) (by omega)) (pw_0 (by omega)) (by omega) (by omega) (j_fuel _) (by omega) hI hF hG hP hD hS (lv_sub hl_1 [1, 2, 3, 0] rfl)
  · have c1 := j_eq (a := 0) (b := f9_freeMany.toInt) (by decide +kernel) rfl c1
    refine lv_aload_n hx hb dX9_goes_8 rfl (lv_at hl 0 rfl) ?_
    refine lv_iload_n hx hb dX9_goes_9 rfl (lv_at hl 2 rfl) ?_
    have hM := r008_X9_makes l dC dI cI cJ cII cJJ H.size 0 ad f9_size f9_equations f9_areSteps f9_foundMany f9_many f9_rank f9_freeMany f9_arePlans f9_planMany ai al x2 (by omega) (by omega) (by omega) (by omega) (by omega) (by omega) (by omega) (by omega) (by omega) (by omega) hp0 (NWb_of hp1 (by omega)) hI
    refine k2V_i (q0 := 22) ⟨hx, hb, hml, hown, hts⟩ hK hP hD hS hA hX cv_RX9_149 hM ⟨by decide +kernel, by decide +kernel⟩ rfl rfl (Or.inl rfl) (rest := []) rfl rfl rfl hl.1 rfl (Nat.le_of_ble_eq_true rfl) dX9_goes_10 ⟨Nat.le_of_ble_eq_true rfl, Nat.le_of_ble_eq_true rfl⟩ (fun r3 t H1 locs_2 ht hB hS_2 hFc => ?_)
    obtain ⟨ai4, al5, ⟨gpr3_0, gpr3_1, gpr3_2, gpr3_3, hI_3, hFr_r3, hGr_r3⟩, hP_3, -, hD_3⟩ := hB
    have hF_4 := FR_tr hF hFr_r3 (by decide)
    have hG_5 := FL_tr hG hGr_r3 (by decide)
    rw [ht] at hP_3
    have hD_6 := hD_3.weaken (B := A) (fun k q _ h9 => hFc q.1 h9)
    clear ht
    generalize H1 = H_7 at hP_3 hS_2 ⊢
    refine lv_if_ne (tgt := 17) hx hb dX9_goes_13 (by decide) (fun c6 => ?_) (fun c6 => ?_)
    · have c6 := j_ne (a := r3.toInt) (b := 0) rfl (by decide +kernel) c6
      refine lv_iconst (v := 0) hx hb dX9_goes_17 (by decide) ?_
      refine lv_istore_n (lv' := [(3, .int 0), (0, .ref (ad 22)), (1, .int 0), (2, .int x2)]) hx hb dX9_goes_18 rfl hl (by decide) rfl (fun ls_8 hl_8 => ?_)
      refine lv_iconst (v := 0) hx hb dX9_goes_19 (by decide) ?_
      refine lv_istore (lv' := [(4, .int 0), (3, .int 0), (0, .ref (ad 22)), (1, .int 0), (2, .int x2)]) hx hb dX9_goes_20 hl_8 (by decide) rfl (fun ls_9 hl_9 => ?_)
      exact r013_X9_goes_b22 C h_x2 hp0 hp1 hp2  _ 0 0 f9_foundMany ai4 al5 _ _ _ (by first | omega | decide | (have ka0 := (by decide +kernel : (0 : Int32).toInt = 0); omega)) (by first | omega | decide | (have ka0 := (by decide +kernel : (0 : Int32).toInt = 0); omega)) (by first | omega | decide | (have ka0 := (by decide +kernel : (0 : Int32).toInt = 0); omega)) (by first | omega | decide | (have ka0 := (by decide +kernel : (0 : Int32).toInt = 0); omega)) (by first | omega | decide | (have ka0 := (by decide +kernel : (0 : Int32).toInt = 0); omega)) (by first | omega | decide | (have ka0 := (by decide +kernel : (0 : Int32).toInt = 0); omega)) (by first | omega | decide | (have ka0 := (by decide +kernel : (0 : Int32).toInt = 0); omega)) (by first | omega | decide | (have ka0 := (by decide +kernel : (0 : Int32).toInt = 0); omega)) (by first | omega | decide | (have ka0 := (by decide +kernel : (0 : Int32).toInt = 0); omega)) (by first | omega | decide | (have ka0 := (by decide +kernel : (0 : Int32).toInt = 0); omega)) (by first | omega | decide | (have ka0 := (by decide +kernel : (0 : Int32).toInt = 0); omega)) (gpr3_1.resolve_left (by omega)) (Fk_of gpr3_2 (by omega)) (fun u hu => (zlt hu).elim) (nmp_0 _) (GS_0 hFr_r3 (by decide) (by decide) (Int.le_refl _)) rfl (by omega) (by decide) (j_fuel _) (by omega) hI_3 hF_4 hG_5 hP_3 hD_6 hS_2 (lv_sub hl_9 [2, 3, 4, 1, 0] rfl)
    · have c6 := j_eq (a := r3.toInt) (b := 0) rfl (by decide +kernel) c6
      exact r2_v hx hb hr hk hS_2 dX9_goes_16 (fun t ht hW => ⟨f9_foundMany, ai4, al5, ⟨(by first | omega | decide | exact Or.inl (by decide) | exact Or.inr (by decide) | exact Or.inr (by omega)), (by have q := pwb_pos (b := x2.toInt) (by omega) (f9_freeMany.toInt.toNat - 0); omega), (GS_0 hFr_r3 (by decide) (by decide) (Int.le_refl _)), (GCo_no (gpr3_3.resolve_left (by omega)) (by omega)), (Fk_of gpr3_2 (by omega)), hI_3, hF_4, hG_5⟩, by rw [ht]; exact hP_3, va_K.moved hW.alike hK, hD_6⟩)
def Q_r014_X9_fitsIn (dC : Nat → ClassId) (dI : Nat → Nat → Nat) (cI cJ cII cJJ : ClassId) (ad : Nat → Nat) (f9_size f9_equations f9_areSteps f9_foundMany f9_many f9_rank f9_freeMany f9_arePlans f9_planMany : Int32) (ai : Nat → Nat → Int32) (al : Nat → Nat → Int64) (x1 : Int32) (x3 : Int32) : (Nat → Prop) → Array Value → State → Outcome → State → Prop := fun A => QI (fun r t => ((0 ≤ r.toInt ∧ r.toInt ≤ 1) ∧ ((r.toInt = 1 ∧ Fit (row ai 11 x1.toInt.toNat) (row ai 7 x3.toInt.toNat)) ∨ (r.toInt = 0 ∧ ¬ Fit (row ai 11 x1.toInt.toNat) (row ai 7 x3.toInt.toNat)))) ∧ WO dC dI (TY cI cJ cII cJJ) (WM cI cJ cII cJJ ad f9_size f9_equations f9_areSteps f9_foundMany f9_many f9_rank f9_freeMany f9_arePlans f9_planMany ai al) A t) A
set_option maxRecDepth 100000 in
set_option maxHeartbeats 4000000 in
theorem r014_X9_fitsIn_b55 {p : Program} {l : Launch} {e : Env} {s : State} {m : MethodId} {args : Array Value} {below : List Frame} {meth : Method} {c : Code} {A : Nat → Prop} {dC : Nat → ClassId} {dI : Nat → Nat → Nat} {cI cJ cII cJJ : ClassId} {ad : Nat → Nat} {g : Nat} {f9_size f9_equations f9_areSteps f9_foundMany f9_many f9_rank f9_freeMany f9_arePlans f9_planMany : Int32} {ai : Nat → Nat → Int32} {al : Nat → Nat → Int64} {x1 : Int32} {x3 : Int32} (C : Cx p c s m meth args A dC dI (TY cI cJ cII cJJ) cX9_fitsIn (some .boolean) 7 RX9 0 g) (h_x1 : (0 ≤ x1.toInt ∧ x1.toInt ≤ 5999)) (h_x3 : (0 ≤ x3.toInt ∧ x3.toInt ≤ 99999)) (n3 : Nat) (K3 : ∀ (L4 : Int32) (H : Heap) (locs : List Loc) (ls : Array Slot), (0 ≤ L4.toInt ∧ L4.toInt ≤ 4) → (1 ≤ f9_size.toInt ∧ f9_size.toInt ≤ 4) → (0 ≤ f9_equations.toInt ∧ f9_equations.toInt ≤ 3) → (0 ≤ f9_areSteps.toInt ∧ f9_areSteps.toInt ≤ 1) → (0 ≤ f9_foundMany.toInt ∧ f9_foundMany.toInt ≤ 99999) → (0 ≤ f9_many.toInt ∧ f9_many.toInt ≤ 6000) → (0 ≤ f9_rank.toInt ∧ f9_rank.toInt ≤ 3) → (0 ≤ f9_freeMany.toInt ∧ f9_freeMany.toInt ≤ 4) → (0 ≤ f9_arePlans.toInt ∧ f9_arePlans.toInt ≤ 1) → (0 ≤ f9_planMany.toInt ∧ f9_planMany.toInt ≤ 194481) → (∀ u : Nat, (u : Int) < L4.toInt → fitc (row ai 11 x1.toInt.toNat u) (row ai 7 x3.toInt.toNat u)) → 4 - L4.toInt < (n3 : Int) → (0 : Int) < (n3 : Int) → IAM ai → va_P (dC, dI) vwCl (WM cI cJ cII cJJ ad f9_size f9_equations f9_areSteps f9_foundMany f9_many f9_rank f9_freeMany f9_arePlans f9_planMany ai al) H → va_D A (WM cI cJ cII cJJ ad f9_size f9_equations f9_areSteps f9_foundMany f9_many f9_rank f9_freeMany f9_arePlans f9_planMany ai al) → va_S A s.heap H locs → lv_has ls 7 [(0, .ref (ad 11)), (1, .int x1), (2, .ref (ad 7)), (3, .int x3), (4, .int L4)] → W p l e ({ frames := 2, cells := 0, slots := 0, locals := 80 } : Room) s m args below meth c H locs 0 0 (MQ below (Q_r014_X9_fitsIn dC dI cI cJ cII cJJ ad f9_size f9_equations f9_areSteps f9_foundMany f9_many f9_rank f9_freeMany f9_arePlans f9_planMany ai al x1 x3 A) args s 0 0 A) (F0 m 3 ls [])) : ∀ (L4 L5 L6 : Int32) (H : Heap) (locs : List Loc) (ls : Array Slot), (0 ≤ L4.toInt ∧ L4.toInt ≤ 3) → (1 ≤ f9_size.toInt ∧ f9_size.toInt ≤ 4) → (0 ≤ f9_equations.toInt ∧ f9_equations.toInt ≤ 3) → (0 ≤ f9_areSteps.toInt ∧ f9_areSteps.toInt ≤ 1) → (0 ≤ f9_foundMany.toInt ∧ f9_foundMany.toInt ≤ 99999) → (0 ≤ f9_many.toInt ∧ f9_many.toInt ≤ 6000) → (0 ≤ f9_rank.toInt ∧ f9_rank.toInt ≤ 3) → (0 ≤ f9_freeMany.toInt ∧ f9_freeMany.toInt ≤ 4) → (0 ≤ f9_arePlans.toInt ∧ f9_arePlans.toInt ≤ 1) → (0 ≤ f9_planMany.toInt ∧ f9_planMany.toInt ≤ 194481) → (∀ u : Nat, (u : Int) < L4.toInt + 1 → fitc (row ai 11 x1.toInt.toNat u) (row ai 7 x3.toInt.toNat u)) → L4.toInt < 4 → 4 - L4.toInt ≤ (n3 : Int) → IAM ai → va_P (dC, dI) vwCl (WM cI cJ cII cJJ ad f9_size f9_equations f9_areSteps f9_foundMany f9_many f9_rank f9_freeMany f9_arePlans f9_planMany ai al) H → va_D A (WM cI cJ cII cJJ ad f9_size f9_equations f9_areSteps f9_foundMany f9_many f9_rank f9_freeMany f9_arePlans f9_planMany ai al) → va_S A s.heap H locs → lv_has ls 7 [(0, .ref (ad 11)), (1, .int x1), (2, .ref (ad 7)), (3, .int x3), (4, .int L4), (5, .int L5), (6, .int L6)] → W p l e ({ frames := 2, cells := 0, slots := 0, locals := 80 } : Room) s m args below meth c H locs 0 0 (MQ below (Q_r014_X9_fitsIn dC dI cI cJ cII cJJ ad f9_size f9_equations f9_areSteps f9_foundMany f9_many f9_rank f9_freeMany f9_arePlans f9_planMany ai al x1 x3 A) args s 0 0 A) (F0 m 55 ls []) := by
  obtain ⟨hx, hb, hr, hml, hown, hts, hk, hA, hK, hX⟩ := id C
  intro L4 L5 L6 H locs ls h0 h1 h2 h3 h4 h5 h6 h7 h8 h9 h10 h11 h12 hI hP hD hS hl
  have ra_L5 := s_any L5
  have ra_L6 := s_any L6
  obtain ⟨z1, e_z1⟩ : ∃ q : Int32, q = L4 + Int32.ofInt 1 := ⟨_, rfl⟩
  have g_z1 : z1.toInt = L4.toInt + 1 := by rw [e_z1]; exact n_add (a := L4.toInt) (b := 1) rfl (by decide +kernel) (by omega) (by omega)
  refine lv_iinc (v := z1) (lv' := [(4, .int z1), (0, .ref (ad 11)), (1, .int x1), (2, .ref (ad 7)), (3, .int x3), (5, .int L5), (6, .int L6)]) hx hb dX9_fitsIn_55 hl (k := 4) rfl e_z1.symm (by decide) rfl (fun ls_1 hl_1 => ?_)
  refine lv_goto (tgt := 3) hx hb dX9_fitsIn_58 (by decide) ?_
  exact K3 z1 _ _ _ (by omega) (by omega) (by omega) (by omega) (by omega) (by omega) (by omega) (by omega) (by omega) (by omega) (fun u hu => h10 u (by omega)) (by omega) (by omega) hI hP hD hS (lv_sub hl_1 [1, 2, 3, 4, 0] rfl)
set_option maxRecDepth 100000 in
set_option maxHeartbeats 4000000 in
theorem r014_X9_fitsIn_b53 {p : Program} {l : Launch} {e : Env} {s : State} {m : MethodId} {args : Array Value} {below : List Frame} {meth : Method} {c : Code} {A : Nat → Prop} {dC : Nat → ClassId} {dI : Nat → Nat → Nat} {cI cJ cII cJJ : ClassId} {ad : Nat → Nat} {g : Nat} {f9_size f9_equations f9_areSteps f9_foundMany f9_many f9_rank f9_freeMany f9_arePlans f9_planMany : Int32} {ai : Nat → Nat → Int32} {al : Nat → Nat → Int64} {x1 : Int32} {x3 : Int32} (C : Cx p c s m meth args A dC dI (TY cI cJ cII cJJ) cX9_fitsIn (some .boolean) 7 RX9 0 g) (h_x1 : (0 ≤ x1.toInt ∧ x1.toInt ≤ 5999)) (h_x3 : (0 ≤ x3.toInt ∧ x3.toInt ≤ 99999)) (n3 : Nat) (K3 : ∀ (L4 : Int32) (H : Heap) (locs : List Loc) (ls : Array Slot), (0 ≤ L4.toInt ∧ L4.toInt ≤ 4) → (1 ≤ f9_size.toInt ∧ f9_size.toInt ≤ 4) → (0 ≤ f9_equations.toInt ∧ f9_equations.toInt ≤ 3) → (0 ≤ f9_areSteps.toInt ∧ f9_areSteps.toInt ≤ 1) → (0 ≤ f9_foundMany.toInt ∧ f9_foundMany.toInt ≤ 99999) → (0 ≤ f9_many.toInt ∧ f9_many.toInt ≤ 6000) → (0 ≤ f9_rank.toInt ∧ f9_rank.toInt ≤ 3) → (0 ≤ f9_freeMany.toInt ∧ f9_freeMany.toInt ≤ 4) → (0 ≤ f9_arePlans.toInt ∧ f9_arePlans.toInt ≤ 1) → (0 ≤ f9_planMany.toInt ∧ f9_planMany.toInt ≤ 194481) → (∀ u : Nat, (u : Int) < L4.toInt → fitc (row ai 11 x1.toInt.toNat u) (row ai 7 x3.toInt.toNat u)) → 4 - L4.toInt < (n3 : Int) → (0 : Int) < (n3 : Int) → IAM ai → va_P (dC, dI) vwCl (WM cI cJ cII cJJ ad f9_size f9_equations f9_areSteps f9_foundMany f9_many f9_rank f9_freeMany f9_arePlans f9_planMany ai al) H → va_D A (WM cI cJ cII cJJ ad f9_size f9_equations f9_areSteps f9_foundMany f9_many f9_rank f9_freeMany f9_arePlans f9_planMany ai al) → va_S A s.heap H locs → lv_has ls 7 [(0, .ref (ad 11)), (1, .int x1), (2, .ref (ad 7)), (3, .int x3), (4, .int L4)] → W p l e ({ frames := 2, cells := 0, slots := 0, locals := 80 } : Room) s m args below meth c H locs 0 0 (MQ below (Q_r014_X9_fitsIn dC dI cI cJ cII cJJ ad f9_size f9_equations f9_areSteps f9_foundMany f9_many f9_rank f9_freeMany f9_arePlans f9_planMany ai al x1 x3 A) args s 0 0 A) (F0 m 3 ls [])) : ∀ (L4 L5 L6 : Int32) (H : Heap) (locs : List Loc) (ls : Array Slot), (0 ≤ L4.toInt ∧ L4.toInt ≤ 3) → (1 ≤ f9_size.toInt ∧ f9_size.toInt ≤ 4) → (0 ≤ f9_equations.toInt ∧ f9_equations.toInt ≤ 3) → (0 ≤ f9_areSteps.toInt ∧ f9_areSteps.toInt ≤ 1) → (0 ≤ f9_foundMany.toInt ∧ f9_foundMany.toInt ≤ 99999) → (0 ≤ f9_many.toInt ∧ f9_many.toInt ≤ 6000) → (0 ≤ f9_rank.toInt ∧ f9_rank.toInt ≤ 3) → (0 ≤ f9_freeMany.toInt ∧ f9_freeMany.toInt ≤ 4) → (0 ≤ f9_arePlans.toInt ∧ f9_arePlans.toInt ≤ 1) → (0 ≤ f9_planMany.toInt ∧ f9_planMany.toInt ≤ 194481) → ¬ Fit (row ai 11 x1.toInt.toNat) (row ai 7 x3.toInt.toNat) → L4.toInt < 4 → 4 - L4.toInt ≤ (n3 : Int) → IAM ai → va_P (dC, dI) vwCl (WM cI cJ cII cJJ ad f9_size f9_equations f9_areSteps f9_foundMany f9_many f9_rank f9_freeMany f9_arePlans f9_planMany ai al) H → va_D A (WM cI cJ cII cJJ ad f9_size f9_equations f9_areSteps f9_foundMany f9_many f9_rank f9_freeMany f9_arePlans f9_planMany ai al) → va_S A s.heap H locs → lv_has ls 7 [(0, .ref (ad 11)), (1, .int x1), (2, .ref (ad 7)), (3, .int x3), (4, .int L4), (5, .int L5), (6, .int L6)] → W p l e ({ frames := 2, cells := 0, slots := 0, locals := 80 } : Room) s m args below meth c H locs 0 0 (MQ below (Q_r014_X9_fitsIn dC dI cI cJ cII cJJ ad f9_size f9_equations f9_areSteps f9_foundMany f9_many f9_rank f9_freeMany f9_arePlans f9_planMany ai al x1 x3 A) args s 0 0 A) (F0 m 53 ls []) := by
  obtain ⟨hx, hb, hr, hml, hown, hts, hk, hA, hK, hX⟩ := id C
  intro L4 L5 L6 H locs ls h0 h1 h2 h3 h4 h5 h6 h7 h8 h9 h10 h11 h12 hI hP hD hS hl
  have ra_L5 := s_any L5
  have ra_L6 := s_any L6
  refine lv_iconst (v := 0) hx hb dX9_fitsIn_53 (by decide) ?_
  exact r2_z hx hb hr hk hS dX9_fitsIn_54 rfl (fun t ht hW => ⟨⟨(by first | omega | decide | exact Or.inl (by decide) | exact Or.inr (by decide) | exact Or.inr (by omega)), (Or.inr ⟨by decide, h10⟩)⟩, by rw [ht]; exact hP, va_K.moved hW.alike hK, hD⟩)
set_option maxRecDepth 100000 in
set_option maxHeartbeats 4000000 in
theorem r014_X9_fitsIn_b41 {p : Program} {l : Launch} {e : Env} {s : State} {m : MethodId} {args : Array Value} {below : List Frame} {meth : Method} {c : Code} {A : Nat → Prop} {dC : Nat → ClassId} {dI : Nat → Nat → Nat} {cI cJ cII cJJ : ClassId} {ad : Nat → Nat} {g : Nat} {f9_size f9_equations f9_areSteps f9_foundMany f9_many f9_rank f9_freeMany f9_arePlans f9_planMany : Int32} {ai : Nat → Nat → Int32} {al : Nat → Nat → Int64} {x1 : Int32} {x3 : Int32} (C : Cx p c s m meth args A dC dI (TY cI cJ cII cJJ) cX9_fitsIn (some .boolean) 7 RX9 0 g) (h_x1 : (0 ≤ x1.toInt ∧ x1.toInt ≤ 5999)) (h_x3 : (0 ≤ x3.toInt ∧ x3.toInt ≤ 99999)) (n3 : Nat) (K3 : ∀ (L4 : Int32) (H : Heap) (locs : List Loc) (ls : Array Slot), (0 ≤ L4.toInt ∧ L4.toInt ≤ 4) → (1 ≤ f9_size.toInt ∧ f9_size.toInt ≤ 4) → (0 ≤ f9_equations.toInt ∧ f9_equations.toInt ≤ 3) → (0 ≤ f9_areSteps.toInt ∧ f9_areSteps.toInt ≤ 1) → (0 ≤ f9_foundMany.toInt ∧ f9_foundMany.toInt ≤ 99999) → (0 ≤ f9_many.toInt ∧ f9_many.toInt ≤ 6000) → (0 ≤ f9_rank.toInt ∧ f9_rank.toInt ≤ 3) → (0 ≤ f9_freeMany.toInt ∧ f9_freeMany.toInt ≤ 4) → (0 ≤ f9_arePlans.toInt ∧ f9_arePlans.toInt ≤ 1) → (0 ≤ f9_planMany.toInt ∧ f9_planMany.toInt ≤ 194481) → (∀ u : Nat, (u : Int) < L4.toInt → fitc (row ai 11 x1.toInt.toNat u) (row ai 7 x3.toInt.toNat u)) → 4 - L4.toInt < (n3 : Int) → (0 : Int) < (n3 : Int) → IAM ai → va_P (dC, dI) vwCl (WM cI cJ cII cJJ ad f9_size f9_equations f9_areSteps f9_foundMany f9_many f9_rank f9_freeMany f9_arePlans f9_planMany ai al) H → va_D A (WM cI cJ cII cJJ ad f9_size f9_equations f9_areSteps f9_foundMany f9_many f9_rank f9_freeMany f9_arePlans f9_planMany ai al) → va_S A s.heap H locs → lv_has ls 7 [(0, .ref (ad 11)), (1, .int x1), (2, .ref (ad 7)), (3, .int x3), (4, .int L4)] → W p l e ({ frames := 2, cells := 0, slots := 0, locals := 80 } : Room) s m args below meth c H locs 0 0 (MQ below (Q_r014_X9_fitsIn dC dI cI cJ cII cJJ ad f9_size f9_equations f9_areSteps f9_foundMany f9_many f9_rank f9_freeMany f9_arePlans f9_planMany ai al x1 x3 A) args s 0 0 A) (F0 m 3 ls [])) : ∀ (L4 L5 L6 : Int32) (H : Heap) (locs : List Loc) (ls : Array Slot), (0 ≤ L4.toInt ∧ L4.toInt ≤ 3) → (1 ≤ f9_size.toInt ∧ f9_size.toInt ≤ 4) → (0 ≤ f9_equations.toInt ∧ f9_equations.toInt ≤ 3) → (0 ≤ f9_areSteps.toInt ∧ f9_areSteps.toInt ≤ 1) → (0 ≤ f9_foundMany.toInt ∧ f9_foundMany.toInt ≤ 99999) → (0 ≤ f9_many.toInt ∧ f9_many.toInt ≤ 6000) → (0 ≤ f9_rank.toInt ∧ f9_rank.toInt ≤ 3) → (0 ≤ f9_freeMany.toInt ∧ f9_freeMany.toInt ≤ 4) → (0 ≤ f9_arePlans.toInt ∧ f9_arePlans.toInt ≤ 1) → (0 ≤ f9_planMany.toInt ∧ f9_planMany.toInt ≤ 194481) → (∀ u : Nat, (u : Int) < L4.toInt → fitc (row ai 11 x1.toInt.toNat u) (row ai 7 x3.toInt.toNat u)) → L5.toInt = row ai 11 x1.toInt.toNat L4.toInt.toNat → L6.toInt = row ai 7 x3.toInt.toNat L4.toInt.toNat → (L5.toInt ≤ 0 ∨ L5.toInt ≤ L6.toInt) → L4.toInt < 4 → 4 - L4.toInt ≤ (n3 : Int) → IAM ai → va_P (dC, dI) vwCl (WM cI cJ cII cJJ ad f9_size f9_equations f9_areSteps f9_foundMany f9_many f9_rank f9_freeMany f9_arePlans f9_planMany ai al) H → va_D A (WM cI cJ cII cJJ ad f9_size f9_equations f9_areSteps f9_foundMany f9_many f9_rank f9_freeMany f9_arePlans f9_planMany ai al) → va_S A s.heap H locs → lv_has ls 7 [(0, .ref (ad 11)), (1, .int x1), (2, .ref (ad 7)), (3, .int x3), (4, .int L4), (5, .int L5), (6, .int L6)] → W p l e ({ frames := 2, cells := 0, slots := 0, locals := 80 } : Room) s m args below meth c H locs 0 0 (MQ below (Q_r014_X9_fitsIn dC dI cI cJ cII cJJ ad f9_size f9_equations f9_areSteps f9_foundMany f9_many f9_rank f9_freeMany f9_arePlans f9_planMany ai al x1 x3 A) args s 0 0 A) (F0 m 41 ls []) := by
  obtain ⟨hx, hb, hr, hml, hown, hts, hk, hA, hK, hX⟩ := id C
  intro L4 L5 L6 H locs ls h0 h1 h2 h3 h4 h5 h6 h7 h8 h9 h10 h11 h12 h13 h14 h15 hI hP hD hS hl
  have ra_L5 := s_any L5
  have ra_L6 := s_any L6
  refine lv_iload hx hb dX9_fitsIn_41 (lv_at hl 5 rfl) ?_
  refine lv_if_ge (tgt := 55) hx hb dX9_fitsIn_43 (by decide) (fun c1 => ?_) (fun c1 => ?_)
  · have c1 := j_le (a := 0) (b := L5.toInt) (by decide +kernel) rfl c1
    exact r014_X9_fitsIn_b55 C h_x1 h_x3 n3 K3 L4 L5 L6 _ _ _ (by omega) (by omega) (by omega) (by omega) (by omega) (by omega) (by omega) (by omega) (by omega) (by omega) (fa_up (n := L4) (by omega) h10 (by rw [← h11, ← h12]; unfold fitc; omega)) (by omega) (by omega) hI hP hD hS (lv_sub hl [0, 1, 2, 3, 4, 5, 6] rfl)
  · have c1 := j_nle (a := 0) (b := L5.toInt) (by decide +kernel) rfl c1
    refine lv_iload hx hb dX9_fitsIn_46 (lv_at hl 5 rfl) ?_
    refine lv_iload hx hb dX9_fitsIn_48 (lv_at hl 6 rfl) ?_
    refine lv_icmp_ge (tgt := 55) hx hb dX9_fitsIn_50 (by decide) (fun c2 => ?_) (fun c2 => ?_)
    · have c2 := j_le (a := L6.toInt) (b := L5.toInt) rfl rfl c2
      exact r014_X9_fitsIn_b55 C h_x1 h_x3 n3 K3 L4 L5 L6 _ _ _ (by omega) (by omega) (by omega) (by omega) (by omega) (by omega) (by omega) (by omega) (by omega) (by omega) (fa_up (n := L4) (by omega) h10 (by rw [← h11, ← h12]; unfold fitc; omega)) (by omega) (by omega) hI hP hD hS (lv_sub hl [0, 1, 2, 3, 4, 5, 6] rfl)
    · have c2 := j_nle (a := L6.toInt) (b := L5.toInt) rfl rfl c2
      exact r014_X9_fitsIn_b53 C h_x1 h_x3 n3 K3 L4 L5 L6 _ _ _ (by omega) (by omega) (by omega) (by omega) (by omega) (by omega) (by omega) (by omega) (by omega) (by omega) (nfit (u := L4.toInt.toNat) (by omega) (by rw [← h11, ← h12]; unfold fitc; omega)) (by omega) (by omega) hI hP hD hS (lv_sub hl [0, 1, 2, 3, 4, 5, 6] rfl)
set_option maxRecDepth 100000 in
set_option maxHeartbeats 4000000 in
theorem r014_X9_fitsIn_b3 {p : Program} {l : Launch} {e : Env} {s : State} {m : MethodId} {args : Array Value} {below : List Frame} {meth : Method} {c : Code} {A : Nat → Prop} {dC : Nat → ClassId} {dI : Nat → Nat → Nat} {cI cJ cII cJJ : ClassId} {ad : Nat → Nat} {g : Nat} {f9_size f9_equations f9_areSteps f9_foundMany f9_many f9_rank f9_freeMany f9_arePlans f9_planMany : Int32} {ai : Nat → Nat → Int32} {al : Nat → Nat → Int64} {x1 : Int32} {x3 : Int32} (C : Cx p c s m meth args A dC dI (TY cI cJ cII cJJ) cX9_fitsIn (some .boolean) 7 RX9 0 g) (h_x1 : (0 ≤ x1.toInt ∧ x1.toInt ≤ 5999)) (h_x3 : (0 ≤ x3.toInt ∧ x3.toInt ≤ 99999)) : ∀ (n : Nat), ∀ (L4 : Int32) (H : Heap) (locs : List Loc) (ls : Array Slot), (0 ≤ L4.toInt ∧ L4.toInt ≤ 4) → (1 ≤ f9_size.toInt ∧ f9_size.toInt ≤ 4) → (0 ≤ f9_equations.toInt ∧ f9_equations.toInt ≤ 3) → (0 ≤ f9_areSteps.toInt ∧ f9_areSteps.toInt ≤ 1) → (0 ≤ f9_foundMany.toInt ∧ f9_foundMany.toInt ≤ 99999) → (0 ≤ f9_many.toInt ∧ f9_many.toInt ≤ 6000) → (0 ≤ f9_rank.toInt ∧ f9_rank.toInt ≤ 3) → (0 ≤ f9_freeMany.toInt ∧ f9_freeMany.toInt ≤ 4) → (0 ≤ f9_arePlans.toInt ∧ f9_arePlans.toInt ≤ 1) → (0 ≤ f9_planMany.toInt ∧ f9_planMany.toInt ≤ 194481) → (∀ u : Nat, (u : Int) < L4.toInt → fitc (row ai 11 x1.toInt.toNat u) (row ai 7 x3.toInt.toNat u)) → 4 - L4.toInt < (n : Int) → (0 : Int) < (n : Int) → IAM ai → va_P (dC, dI) vwCl (WM cI cJ cII cJJ ad f9_size f9_equations f9_areSteps f9_foundMany f9_many f9_rank f9_freeMany f9_arePlans f9_planMany ai al) H → va_D A (WM cI cJ cII cJJ ad f9_size f9_equations f9_areSteps f9_foundMany f9_many f9_rank f9_freeMany f9_arePlans f9_planMany ai al) → va_S A s.heap H locs → lv_has ls 7 [(0, .ref (ad 11)), (1, .int x1), (2, .ref (ad 7)), (3, .int x3), (4, .int L4)] → W p l e ({ frames := 2, cells := 0, slots := 0, locals := 80 } : Room) s m args below meth c H locs 0 0 (MQ below (Q_r014_X9_fitsIn dC dI cI cJ cII cJJ ad f9_size f9_equations f9_areSteps f9_foundMany f9_many f9_rank f9_freeMany f9_arePlans f9_planMany ai al x1 x3 A) args s 0 0 A) (F0 m 3 ls []) := by
  obtain ⟨hx, hb, hr, hml, hown, hts, hk, hA, hK, hX⟩ := id C
  intro n
  induction n with
  | zero =>
    intro L4 H locs ls h0 h1 h2 h3 h4 h5 h6 h7 h8 h9 h10 h11 h12 hI hP hD hS hl
    exact absurd h12 (by omega)
  | succ n ih =>
    intro L4 H locs ls h0 h1 h2 h3 h4 h5 h6 h7 h8 h9 h10 h11 h12 hI hP hD hS hl
    refine lv_iload hx hb dX9_fitsIn_3 (lv_at hl 4 rfl) ?_
    refine lv_iconst (v := 4) hx hb dX9_fitsIn_5 (by decide) ?_
    refine lv_icmp_ge (tgt := 61) hx hb dX9_fitsIn_6 (by decide) (fun c1 => ?_) (fun c1 => ?_)
    · have c1 := j_le (a := 4) (b := L4.toInt) (by decide +kernel) rfl c1
      refine lv_iconst (v := 1) hx hb dX9_fitsIn_61 (by decide) ?_
      exact r2_z hx hb hr hk hS dX9_fitsIn_62 rfl (fun t ht hW => ⟨⟨(by first | omega | decide | exact Or.inl (by decide) | exact Or.inr (by decide) | exact Or.inr (by omega)), (Or.inl ⟨by decide, fun u hu => h10 u (by omega)⟩)⟩, by rw [ht]; exact hP, va_K.moved hW.alike hK, hD⟩)
    · have c1 := j_nle (a := 4) (b := L4.toInt) (by decide +kernel) rfl c1
      refine lv_aload_n hx hb dX9_fitsIn_9 rfl (lv_at hl 0 rfl) ?_
      refine lv_iconst (v := 4) hx hb dX9_fitsIn_10 (by decide) ?_
      refine lv_iload_n hx hb dX9_fitsIn_11 rfl (lv_at hl 1 rfl) ?_
      refine v_imul hx hb dX9_fitsIn_12 _ rfl ?_
      refine lv_topi (fun z2 e_z2 => ?_)
      have g_z2 : z2.toInt = 4 * x1.toInt := by rw [e_z2]; exact n_mul (a := 4) (b := x1.toInt) (by decide +kernel) rfl (by omega) (by omega)
      refine lv_iload hx hb dX9_fitsIn_13 (lv_at hl 4 rfl) ?_
      refine v_iadd hx hb dX9_fitsIn_15 _ rfl ?_
      refine lv_topi (fun z3 e_z3 => ?_)
      have g_z3 : z3.toInt = z2.toInt + L4.toInt := by rw [e_z3]; exact n_add (a := z2.toInt) (b := L4.toInt) rfl rfl (by omega) (by omega)
      refine va_iald hx hb hK hP 11 0 rfl rfl (j_in (a := z3.toInt) rfl (by omega) (by omega)) dX9_fitsIn_16 ?_
      refine lv_topi (fun z4 e_z4 => ?_)
      have g_z4 : z4.toInt = row ai 11 x1.toInt.toNat L4.toInt.toNat := by rw [e_z4]; show (ai 11 z3.toInt.toNat).toInt = (ai 11 (4 * x1.toInt.toNat + L4.toInt.toNat)).toInt; rw [show z3.toInt.toNat = 4 * x1.toInt.toNat + L4.toInt.toNat by omega]
      refine lv_istore (lv' := [(5, .int z4), (0, .ref (ad 11)), (1, .int x1), (2, .ref (ad 7)), (3, .int x3), (4, .int L4)]) hx hb dX9_fitsIn_17 hl (by decide) rfl (fun ls_1 hl_1 => ?_)
      refine lv_aload_n hx hb dX9_fitsIn_19 rfl (lv_at hl_1 3 rfl) ?_
      refine lv_iconst (v := 4) hx hb dX9_fitsIn_20 (by decide) ?_
      refine lv_iload_n hx hb dX9_fitsIn_21 rfl (lv_at hl_1 4 rfl) ?_
      refine v_imul hx hb dX9_fitsIn_22 _ rfl ?_
      refine lv_topi (fun z5 e_z5 => ?_)
      have g_z5 : z5.toInt = 4 * x3.toInt := by rw [e_z5]; exact n_mul (a := 4) (b := x3.toInt) (by decide +kernel) rfl (by omega) (by omega)
      refine lv_iload hx hb dX9_fitsIn_23 (lv_at hl_1 5 rfl) ?_
      refine v_iadd hx hb dX9_fitsIn_25 _ rfl ?_
      refine lv_topi (fun z6 e_z6 => ?_)
      have g_z6 : z6.toInt = z5.toInt + L4.toInt := by rw [e_z6]; exact n_add (a := z5.toInt) (b := L4.toInt) rfl rfl (by omega) (by omega)
      refine va_iald hx hb hK hP 7 0 rfl rfl (j_in (a := z6.toInt) rfl (by omega) (by omega)) dX9_fitsIn_26 ?_
      refine lv_topi (fun z7 e_z7 => ?_)
      have g_z7 : z7.toInt = row ai 7 x3.toInt.toNat L4.toInt.toNat := by rw [e_z7]; show (ai 7 z6.toInt.toNat).toInt = (ai 7 (4 * x3.toInt.toNat + L4.toInt.toNat)).toInt; rw [show z6.toInt.toNat = 4 * x3.toInt.toNat + L4.toInt.toNat by omega]
      refine lv_istore (lv' := [(6, .int z7), (5, .int z4), (0, .ref (ad 11)), (1, .int x1), (2, .ref (ad 7)), (3, .int x3), (4, .int L4)]) hx hb dX9_fitsIn_27 hl_1 (by decide) rfl (fun ls_2 hl_2 => ?_)
      refine lv_iload hx hb dX9_fitsIn_29 (lv_at hl_2 1 rfl) ?_
      refine lv_if_le (tgt := 41) hx hb dX9_fitsIn_31 (by decide) (fun c8 => ?_) (fun c8 => ?_)
      · have c8 := j_le (a := z4.toInt) (b := 0) rfl (by decide +kernel) c8
        exact r014_X9_fitsIn_b41 C h_x1 h_x3 n ih L4 z4 z7 _ _ _ (by omega) (by omega) (by omega) (by omega) (by omega) (by omega) (by omega) (by omega) (by omega) (by omega) h10 g_z4 g_z7 (by omega) (by omega) (by omega) hI hP hD hS (lv_sub hl_2 [2, 3, 4, 5, 6, 1, 0] rfl)
      · have c8 := j_nle (a := z4.toInt) (b := 0) rfl (by decide +kernel) c8
        refine lv_iload hx hb dX9_fitsIn_34 (lv_at hl_2 1 rfl) ?_
        refine lv_iload hx hb dX9_fitsIn_36 (lv_at hl_2 0 rfl) ?_
        refine lv_icmp_gt (tgt := 53) hx hb dX9_fitsIn_38 (by decide) (fun c9 => ?_) (fun c9 => ?_)
        · have c9 := j_lt (a := z7.toInt) (b := z4.toInt) rfl rfl c9
          exact r014_X9_fitsIn_b53 C h_x1 h_x3 n ih L4 z4 z7 _ _ _ (by omega) (by omega) (by omega) (by omega) (by omega) (by omega) (by omega) (by omega) (by omega) (by omega) (nfit (u := L4.toInt.toNat) (by omega) (by rw [← g_z4, ← g_z7]; unfold fitc; omega)) (by omega) (by omega) hI hP hD hS (lv_sub hl_2 [2, 3, 4, 5, 6, 1, 0] rfl)
        · have c9 := j_nlt (a := z7.toInt) (b := z4.toInt) rfl rfl c9
          exact r014_X9_fitsIn_b41 C h_x1 h_x3 n ih L4 z4 z7 _ _ _ (by omega) (by omega) (by omega) (by omega) (by omega) (by omega) (by omega) (by omega) (by omega) (by omega) h10 g_z4 g_z7 (by omega) (by omega) (by omega) hI hP hD hS (lv_sub hl_2 [2, 3, 4, 5, 6, 1, 0] rfl)
set_option maxRecDepth 100000 in
set_option maxHeartbeats 4000000 in
theorem r014_X9_fitsIn (l : Launch) (dC : Nat → ClassId) (dI : Nat → Nat → Nat) (cI cJ cII cJJ : ClassId) (sz g : Nat) (ad : Nat → Nat) (f9_size f9_equations f9_areSteps f9_foundMany f9_many f9_rank f9_freeMany f9_arePlans f9_planMany : Int32) (ai : Nat → Nat → Int32) (al : Nat → Nat → Int64) (x1 : Int32) (x3 : Int32) (h_x1 : (0 ≤ x1.toInt ∧ x1.toInt ≤ 5999)) (h_x3 : (0 ≤ x3.toInt ∧ x3.toInt ≤ 99999)) (h_f9_size : (1 ≤ f9_size.toInt ∧ f9_size.toInt ≤ 4)) (h_f9_equations : (0 ≤ f9_equations.toInt ∧ f9_equations.toInt ≤ 3)) (h_f9_areSteps : (0 ≤ f9_areSteps.toInt ∧ f9_areSteps.toInt ≤ 1)) (h_f9_foundMany : (0 ≤ f9_foundMany.toInt ∧ f9_foundMany.toInt ≤ 99999)) (h_f9_many : (0 ≤ f9_many.toInt ∧ f9_many.toInt ≤ 6000)) (h_f9_rank : (0 ≤ f9_rank.toInt ∧ f9_rank.toInt ≤ 3)) (h_f9_freeMany : (0 ≤ f9_freeMany.toInt ∧ f9_freeMany.toInt ≤ 4)) (h_f9_arePlans : (0 ≤ f9_arePlans.toInt ∧ f9_arePlans.toInt ≤ 1)) (h_f9_planMany : (0 ≤ f9_planMany.toInt ∧ f9_planMany.toInt ≤ 194481)) (hI : IAM ai) : Met l yX9_fitsIn (.code yX9_fitsIn cX9_fitsIn 7 (some .boolean) :: TT) ({ frames := 2, cells := 0, slots := 0, locals := 80 } : Room) (PcS dC dI (TY cI cJ cII cJJ) [.ref (ad 11), .int x1, .ref (ad 7), .int x3] (WM cI cJ cII cJJ ad f9_size f9_equations f9_areSteps f9_foundMany f9_many f9_rank f9_freeMany f9_arePlans f9_planMany ai al) sz 0 g) (Q_r014_X9_fitsIn dC dI cI cJ cII cJJ ad f9_size f9_equations f9_areSteps f9_foundMany f9_many f9_rank f9_freeMany f9_arePlans f9_planMany ai al x1 x3 (va_A (WM cI cJ cII cJJ ad f9_size f9_equations f9_areSteps f9_foundMany f9_many f9_rank f9_freeMany f9_arePlans f9_planMany ai al) sz)) 0 0 (va_A (WM cI cJ cII cJJ ad f9_size f9_equations f9_areSteps f9_foundMany f9_many f9_rank f9_freeMany f9_arePlans f9_planMany ai al) sz) := by
  refine SM.of (y := yX9_fitsIn) (maxL := 7) (av := [.ref (ad 11), .int x1, .ref (ad 7), .int x3]) (Q_r014_X9_fitsIn dC dI cI cJ cII cJJ ad f9_size f9_equations f9_areSteps f9_foundMany f9_many f9_rank f9_freeMany f9_arePlans f9_planMany ai al x1 x3) (by decide +kernel) (Nat.le_of_ble_eq_true rfl) (fun p e s m below meth c A ls hx hb hr hml hown hts hk hnm hA hK hP hD hS hX hl => ?_)
  have C : Cx p c s m meth (([.ref (ad 11), .int x1, .ref (ad 7), .int x3] : List Value).toArray) A dC dI (TY cI cJ cII cJJ) cX9_fitsIn (some .boolean) 7 RX9 0 g := ⟨hx, hb, hr, hml, hown, hts, hk, hA, hK, hX⟩
  have hown : s.vm.findClass RX9 = some m.cls := hown
  have hl : lv_has ls 7 [(0, .ref (ad 11)), (1, .int x1), (2, .ref (ad 7)), (3, .int x3)] := hl
  obtain ⟨H, hH⟩ : ∃ q, q = s.heap := ⟨_, rfl⟩
  rw [← hH] at hP
  have hS : va_S A s.heap H [] := by rw [hH]; exact hS
  rw [← hH]
  refine lv_iconst (v := 0) hx hb dX9_fitsIn_0 (by decide) ?_
  refine lv_istore (lv' := [(4, .int 0), (0, .ref (ad 11)), (1, .int x1), (2, .ref (ad 7)), (3, .int x3)]) hx hb dX9_fitsIn_1 hl (by decide) rfl (fun ls_1 hl_1 => ?_)
  exact r014_X9_fitsIn_b3 C h_x1 h_x3  _ 0 _ _ _ (by first | omega | decide | (have ka0 := (by decide +kernel : (0 : Int32).toInt = 0); omega)) (by first | omega | decide | (have ka0 := (by decide +kernel : (0 : Int32).toInt = 0); omega)) (by first | omega | decide | (have ka0 := (by decide +kernel : (0 : Int32).toInt = 0); omega)) (by first | omega | decide | (have ka0 := (by decide +kernel : (0 : Int32).toInt = 0); omega)) (by first | omega | decide | (have ka0 := (by decide +kernel : (0 : Int32).toInt = 0); omega)) (by first | omega | decide | (have ka0 := (by decide +kernel : (0 : Int32).toInt = 0); omega)) (by first | omega | decide | (have ka0 := (by decide +kernel : (0 : Int32).toInt = 0); omega)) (by first | omega | decide | (have ka0 := (by decide +kernel : (0 : Int32).toInt = 0); omega)) (by first | omega | decide | (have ka0 := (by decide +kernel : (0 : Int32).toInt = 0); omega)) (by first | omega | decide | (have ka0 := (by decide +kernel : (0 : Int32).toInt = 0); omega)) (fun u hu => (zlt hu).elim) (j_fuel _) (by omega) hI hP hD hS (lv_sub hl_1 [1, 2, 3, 4, 0] rfl)
def Q_r015_X9_leastOf (dC : Nat → ClassId) (dI : Nat → Nat → Nat) (cI cJ cII cJJ : ClassId) (ad : Nat → Nat) (f9_size f9_equations f9_areSteps f9_foundMany f9_rank f9_freeMany f9_arePlans f9_planMany : Int32) (ai0 : Nat → Nat → Int32) (al : Nat → Nat → Int64) (x1 : Int32) (o_f9_many : Int32) : (Nat → Prop) → Array Value → State → Outcome → State → Prop := fun A => QV (fun t => ∃ (n_f9_many : Int32), ∃ (n_ai : Nat → Nat → Int32), ((1 ≤ n_f9_many.toInt ∧ n_f9_many.toInt ≤ 6000) ∧ LOr ai0 n_ai x1.toInt.toNat o_f9_many.toInt n_f9_many.toInt ∧ IAM n_ai ∧ FR [11] ai0 n_ai) ∧ WO dC dI (TY cI cJ cII cJJ) (WM cI cJ cII cJJ ad f9_size f9_equations f9_areSteps f9_foundMany n_f9_many f9_rank f9_freeMany f9_arePlans f9_planMany n_ai al) A t) A
set_option maxRecDepth 100000 in
set_option maxHeartbeats 4000000 in
theorem r015_X9_leastOf_b35 {p : Program} {l : Launch} {e : Env} {s : State} {m : MethodId} {args : Array Value} {below : List Frame} {meth : Method} {c : Code} {A : Nat → Prop} {dC : Nat → ClassId} {dI : Nat → Nat → Nat} {cI cJ cII cJJ : ClassId} {ad : Nat → Nat} {g : Nat} {f9_size f9_equations f9_areSteps f9_foundMany f9_rank f9_freeMany f9_arePlans f9_planMany : Int32} {ai0 : Nat → Nat → Int32} {al : Nat → Nat → Int64} {x1 : Int32} {o_f9_many : Int32} (C : Cx p c s m meth args A dC dI (TY cI cJ cII cJJ) cX9_leastOf none 3 RX9 0 g) (h_x1 : (0 ≤ x1.toInt ∧ x1.toInt ≤ 99999)) (hp0 : ((∀ i : Nat, (i : Int) < o_f9_many.toInt → ¬ Fit (row ai0 11 i) (row ai0 7 x1.toInt.toNat)) → o_f9_many.toInt < 6000)) : ∀ (n : Nat), ∀ (L2 f9_many : Int32) (ai : Nat → Nat → Int32) (H : Heap) (locs : List Loc) (ls : Array Slot), (0 ≤ L2.toInt ∧ L2.toInt ≤ 4) → (1 ≤ f9_size.toInt ∧ f9_size.toInt ≤ 4) → (0 ≤ f9_equations.toInt ∧ f9_equations.toInt ≤ 3) → (0 ≤ f9_areSteps.toInt ∧ f9_areSteps.toInt ≤ 1) → (0 ≤ f9_foundMany.toInt ∧ f9_foundMany.toInt ≤ 99999) → (0 ≤ f9_many.toInt ∧ f9_many.toInt ≤ 5999) → (0 ≤ f9_rank.toInt ∧ f9_rank.toInt ≤ 3) → (0 ≤ f9_freeMany.toInt ∧ f9_freeMany.toInt ≤ 4) → (0 ≤ f9_arePlans.toInt ∧ f9_arePlans.toInt ≤ 1) → (0 ≤ f9_planMany.toInt ∧ f9_planMany.toInt ≤ 194481) → f9_many.toInt = o_f9_many.toInt → (∀ i : Nat, (i : Int) < o_f9_many.toInt → ¬ Fit (row ai0 11 i) (row ai0 7 x1.toInt.toNat)) → o_f9_many.toInt < 6000 → (∀ i : Nat, (i : Int) < o_f9_many.toInt → ∀ u : Nat, u < 4 → row ai 11 i u = row ai0 11 i u) → (∀ u : Nat, (u : Int) < L2.toInt → (ai 11 (4 * o_f9_many.toInt.toNat + u)).toInt = row ai0 7 x1.toInt.toNat u) → 4 - L2.toInt < (n : Int) → (0 : Int) < (n : Int) → IAM ai → FR [11] ai0 ai → va_P (dC, dI) vwCl (WM cI cJ cII cJJ ad f9_size f9_equations f9_areSteps f9_foundMany f9_many f9_rank f9_freeMany f9_arePlans f9_planMany ai al) H → va_D A (WM cI cJ cII cJJ ad f9_size f9_equations f9_areSteps f9_foundMany f9_many f9_rank f9_freeMany f9_arePlans f9_planMany ai al) → va_S A s.heap H locs → lv_has ls 3 [(0, .ref (ad 22)), (1, .int x1), (2, .int L2)] → W p l e ({ frames := 3, cells := 0, slots := 0, locals := 140 } : Room) s m args below meth c H locs 0 0 (MQ below (Q_r015_X9_leastOf dC dI cI cJ cII cJJ ad f9_size f9_equations f9_areSteps f9_foundMany f9_rank f9_freeMany f9_arePlans f9_planMany ai0 al x1 o_f9_many A) args s 0 0 A) (F0 m 35 ls []) := by
  obtain ⟨hx, hb, hr, hml, hown, hts, hk, hA, hK, hX⟩ := id C
  intro n
  induction n with
  | zero =>
    intro L2 f9_many ai H locs ls h0 h1 h2 h3 h4 h5 h6 h7 h8 h9 h10 h11 h12 h13 h14 h15 h16 hI hF hP hD hS hl
    exact absurd h16 (by omega)
  | succ n ih =>
    intro L2 f9_many ai H locs ls h0 h1 h2 h3 h4 h5 h6 h7 h8 h9 h10 h11 h12 h13 h14 h15 h16 hI hF hP hD hS hl
    refine lv_iload_n hx hb dX9_leastOf_35 rfl (lv_at hl 2 rfl) ?_
    refine lv_iconst (v := 4) hx hb dX9_leastOf_36 (by decide) ?_
    refine lv_icmp_ge (tgt := 69) hx hb dX9_leastOf_37 (by decide) (fun c1 => ?_) (fun c1 => ?_)
    · have c1 := j_le (a := 4) (b := L2.toInt) (by decide +kernel) rfl c1
      refine lv_aload_n hx hb dX9_leastOf_69 rfl (lv_at hl 0 rfl) ?_
      refine lv_dup hx hb dX9_leastOf_70 rfl ?_
      refine gf (k := 22) hx hb hts inX9 hown hK hP k_817 rfl (by decide) rfl 22 rfl (.int f9_many) rfl dX9_leastOf_71 ?_
      refine lv_iconst (v := 1) hx hb dX9_leastOf_74 (by decide) ?_
      refine v_iadd hx hb dX9_leastOf_75 _ rfl ?_
      refine lv_topi (fun z2 e_z2 => ?_)
      have g_z2 : z2.toInt = f9_many.toInt + 1 := by rw [e_z2]; exact n_add (a := f9_many.toInt) (b := 1) rfl (by decide +kernel) (by omega) (by omega)
      refine pf (k := 22) hx hb hts inX9 tyX9_ok nmX9 hown hK hP hD hS k_817 rfl (by decide) rfl rfl 22 rfl rfl rfl (Nat.le_of_ble_eq_true rfl) dX9_leastOf_76 (W' := (WM cI cJ cII cJJ ad f9_size f9_equations f9_areSteps f9_foundMany z2 f9_rank f9_freeMany f9_arePlans f9_planMany ai al)) rfl (fun H_1 locs_1 hP_1 hD_1 hS_1 => ?_)
      exact r2_v hx hb hr hk hS_1 dX9_leastOf_79 (fun t ht hW => ⟨z2, ai, ⟨(by first | omega | decide | exact Or.inl (by decide) | exact Or.inr (by decide) | exact Or.inr (by omega)), (Or.inr ⟨by omega, h11, h13, fun u hu => h14 u (by omega)⟩), hI, hF⟩, by rw [ht]; exact hP_1, va_K.moved hW.alike hK, hD_1⟩)
    · have c1 := j_nle (a := 4) (b := L2.toInt) (by decide +kernel) rfl c1
      refine lv_aload_n hx hb dX9_leastOf_40 rfl (lv_at hl 0 rfl) ?_
      refine gf (k := 19) hx hb hts inX9 hown hK hP k_814 rfl (by decide) rfl 22 rfl (.ref (ad 11)) rfl dX9_leastOf_41 ?_
      refine lv_iconst (v := 4) hx hb dX9_leastOf_44 (by decide) ?_
      refine lv_aload_n hx hb dX9_leastOf_45 rfl (lv_at hl 0 rfl) ?_
      refine gf (k := 22) hx hb hts inX9 hown hK hP k_817 rfl (by decide) rfl 22 rfl (.int f9_many) rfl dX9_leastOf_46 ?_
      refine v_imul hx hb dX9_leastOf_49 _ rfl ?_
      refine lv_topi (fun z3 e_z3 => ?_)
      have g_z3 : z3.toInt = 4 * f9_many.toInt := by rw [e_z3]; exact n_mul (a := 4) (b := f9_many.toInt) (by decide +kernel) rfl (by omega) (by omega)
      refine lv_iload_n hx hb dX9_leastOf_50 rfl (lv_at hl 2 rfl) ?_
      refine v_iadd hx hb dX9_leastOf_51 _ rfl ?_
      refine lv_topi (fun z4 e_z4 => ?_)
      have g_z4 : z4.toInt = z3.toInt + L2.toInt := by rw [e_z4]; exact n_add (a := z3.toInt) (b := L2.toInt) rfl rfl (by omega) (by omega)
      refine lv_aload_n hx hb dX9_leastOf_52 rfl (lv_at hl 0 rfl) ?_
      refine gf (k := 15) hx hb hts inX9 hown hK hP k_810 rfl (by decide) rfl 22 rfl (.ref (ad 7)) rfl dX9_leastOf_53 ?_
      refine lv_iconst (v := 4) hx hb dX9_leastOf_56 (by decide) ?_
      refine lv_iload_n hx hb dX9_leastOf_57 rfl (lv_at hl 1 rfl) ?_
      refine v_imul hx hb dX9_leastOf_58 _ rfl ?_
      refine lv_topi (fun z5 e_z5 => ?_)
      have g_z5 : z5.toInt = 4 * x1.toInt := by rw [e_z5]; exact n_mul (a := 4) (b := x1.toInt) (by decide +kernel) rfl (by omega) (by omega)
      refine lv_iload_n hx hb dX9_leastOf_59 rfl (lv_at hl 2 rfl) ?_
      refine v_iadd hx hb dX9_leastOf_60 _ rfl ?_
      refine lv_topi (fun z6 e_z6 => ?_)
      have g_z6 : z6.toInt = z5.toInt + L2.toInt := by rw [e_z6]; exact n_add (a := z5.toInt) (b := L2.toInt) rfl rfl (by omega) (by omega)
      refine va_iald hx hb hK hP 7 0 rfl rfl (j_in (a := z6.toInt) rfl (by omega) (by omega)) dX9_leastOf_61 ?_
      refine lv_topi (fun z7 e_z7 => ?_)
      have g_z7 : z7.toInt = row ai0 7 x1.toInt.toNat L2.toInt.toNat := by rw [e_z7, hF 7 (by decide)]; show (ai0 7 z6.toInt.toNat).toInt = (ai0 7 (4 * x1.toInt.toNat + L2.toInt.toNat)).toInt; rw [show z6.toInt.toNat = 4 * x1.toInt.toNat + L2.toInt.toNat by omega]
      refine va_iast hx hb hK hP hD hS 11 0 rfl rfl (j_in (a := z4.toInt) rfl (by omega) (by omega)) dX9_leastOf_62 (fun H_2 locs_2 hP_2 hD_2 hS_2 => ?_)
      obtain ⟨ai8, e_ai8⟩ : ∃ q : Nat → Nat → Int32, q = va_up ai 11 (upd (ai 11) z4.toNatClampNeg z7) := ⟨_, rfl⟩
      have hF_3 := FR_st hF e_ai8 (by decide)
      have hI_4 : IAM ai8 := by rw [e_ai8]; exact hI
      have hP_5 : va_P (dC, dI) vwCl (WM cI cJ cII cJJ ad f9_size f9_equations f9_areSteps f9_foundMany f9_many f9_rank f9_freeMany f9_arePlans f9_planMany ai8 al) H_2 := by rw [e_ai8]; exact hP_2
      have hD_6 : va_D A (WM cI cJ cII cJJ ad f9_size f9_equations f9_areSteps f9_foundMany f9_many f9_rank f9_freeMany f9_arePlans f9_planMany ai8 al) := by rw [e_ai8]; exact hD_2
      obtain ⟨z9, e_z9⟩ : ∃ q : Int32, q = L2 + Int32.ofInt 1 := ⟨_, rfl⟩
      have g_z9 : z9.toInt = L2.toInt + 1 := by rw [e_z9]; exact n_add (a := L2.toInt) (b := 1) rfl (by decide +kernel) (by omega) (by omega)
      refine lv_iinc (v := z9) (lv' := [(2, .int z9), (0, .ref (ad 22)), (1, .int x1)]) hx hb dX9_leastOf_63 hl (k := 2) rfl e_z9.symm (by decide) rfl (fun ls_7 hl_7 => ?_)
      refine lv_goto (tgt := 35) hx hb dX9_leastOf_66 (by decide) ?_
      exact ih z9 f9_many ai8 _ _ _ (by omega) (by omega) (by omega) (by omega) (by omega) (by omega) (by omega) (by omega) (by omega) (by omega) (by omega) h11 (by omega) (lo_r3 h13 e_ai8 (by omega)) (lo_r4 (n := L2) h14 e_ai8 (by omega) (by omega) (by omega) g_z7 (by omega)) (by omega) (by omega) hI_4 hF_3 hP_5 hD_6 hS_2 (lv_sub hl_7 [1, 2, 0] rfl)
set_option maxRecDepth 100000 in
set_option maxHeartbeats 4000000 in
theorem r015_X9_leastOf_b2 {p : Program} {l : Launch} {e : Env} {s : State} {m : MethodId} {args : Array Value} {below : List Frame} {meth : Method} {c : Code} {A : Nat → Prop} {dC : Nat → ClassId} {dI : Nat → Nat → Nat} {cI cJ cII cJJ : ClassId} {ad : Nat → Nat} {g : Nat} {f9_size f9_equations f9_areSteps f9_foundMany f9_rank f9_freeMany f9_arePlans f9_planMany : Int32} {ai0 : Nat → Nat → Int32} {al : Nat → Nat → Int64} {x1 : Int32} {o_f9_many : Int32} (C : Cx p c s m meth args A dC dI (TY cI cJ cII cJJ) cX9_leastOf none 3 RX9 0 g) (h_x1 : (0 ≤ x1.toInt ∧ x1.toInt ≤ 99999)) (hp0 : ((∀ i : Nat, (i : Int) < o_f9_many.toInt → ¬ Fit (row ai0 11 i) (row ai0 7 x1.toInt.toNat)) → o_f9_many.toInt < 6000)) : ∀ (n : Nat), ∀ (L2 f9_many : Int32) (ai : Nat → Nat → Int32) (H : Heap) (locs : List Loc) (ls : Array Slot), (0 ≤ L2.toInt ∧ L2.toInt ≤ 6000) → (1 ≤ f9_size.toInt ∧ f9_size.toInt ≤ 4) → (0 ≤ f9_equations.toInt ∧ f9_equations.toInt ≤ 3) → (0 ≤ f9_areSteps.toInt ∧ f9_areSteps.toInt ≤ 1) → (0 ≤ f9_foundMany.toInt ∧ f9_foundMany.toInt ≤ 99999) → (0 ≤ f9_many.toInt ∧ f9_many.toInt ≤ 6000) → (0 ≤ f9_rank.toInt ∧ f9_rank.toInt ≤ 3) → (0 ≤ f9_freeMany.toInt ∧ f9_freeMany.toInt ≤ 4) → (0 ≤ f9_arePlans.toInt ∧ f9_arePlans.toInt ≤ 1) → (0 ≤ f9_planMany.toInt ∧ f9_planMany.toInt ≤ 194481) → ai = ai0 → f9_many.toInt = o_f9_many.toInt → (∀ i : Nat, (i : Int) < L2.toInt → ¬ Fit (row ai0 11 i) (row ai0 7 x1.toInt.toNat)) → L2.toInt ≤ f9_many.toInt → f9_many.toInt - L2.toInt < (n : Int) → (0 : Int) < (n : Int) → IAM ai → FR [11] ai0 ai → va_P (dC, dI) vwCl (WM cI cJ cII cJJ ad f9_size f9_equations f9_areSteps f9_foundMany f9_many f9_rank f9_freeMany f9_arePlans f9_planMany ai al) H → va_D A (WM cI cJ cII cJJ ad f9_size f9_equations f9_areSteps f9_foundMany f9_many f9_rank f9_freeMany f9_arePlans f9_planMany ai al) → va_S A s.heap H locs → lv_has ls 3 [(0, .ref (ad 22)), (1, .int x1), (2, .int L2)] → W p l e ({ frames := 3, cells := 0, slots := 0, locals := 140 } : Room) s m args below meth c H locs 0 0 (MQ below (Q_r015_X9_leastOf dC dI cI cJ cII cJJ ad f9_size f9_equations f9_areSteps f9_foundMany f9_rank f9_freeMany f9_arePlans f9_planMany ai0 al x1 o_f9_many A) args s 0 0 A) (F0 m 2 ls []) := by
  obtain ⟨hx, hb, hr, hml, hown, hts, hk, hA, hK, hX⟩ := id C
  intro n
  induction n with
  | zero =>
    intro L2 f9_many ai H locs ls h0 h1 h2 h3 h4 h5 h6 h7 h8 h9 h10 h11 h12 h13 h14 h15 hI hF hP hD hS hl
    exact absurd h15 (by omega)
  | succ n ih =>
    intro L2 f9_many ai H locs ls h0 h1 h2 h3 h4 h5 h6 h7 h8 h9 h10 h11 h12 h13 h14 h15 hI hF hP hD hS hl
    refine lv_iload_n hx hb dX9_leastOf_2 rfl (lv_at hl 2 rfl) ?_
    refine lv_aload_n hx hb dX9_leastOf_3 rfl (lv_at hl 0 rfl) ?_
    refine gf (k := 22) hx hb hts inX9 hown hK hP k_817 rfl (by decide) rfl 22 rfl (.int f9_many) rfl dX9_leastOf_4 ?_
    refine lv_icmp_ge (tgt := 33) hx hb dX9_leastOf_7 (by decide) (fun c1 => ?_) (fun c1 => ?_)
    · have c1 := j_le (a := f9_many.toInt) (b := L2.toInt) rfl rfl c1
      have q6 := hp0 (fun i hi => h12 i (by omega))
      refine lv_iconst (v := 0) hx hb dX9_leastOf_33 (by decide) ?_
      refine lv_istore_n (lv' := [(2, .int 0), (0, .ref (ad 22)), (1, .int x1)]) hx hb dX9_leastOf_34 rfl hl (by decide) rfl (fun ls_1 hl_1 => ?_)
      exact r015_X9_leastOf_b35 C h_x1 hp0  _ 0 f9_many ai _ _ _ (by first | omega | decide | (have ka0 := (by decide +kernel : (0 : Int32).toInt = 0); omega)) (by first | omega | decide | (have ka0 := (by decide +kernel : (0 : Int32).toInt = 0); omega)) (by first | omega | decide | (have ka0 := (by decide +kernel : (0 : Int32).toInt = 0); omega)) (by first | omega | decide | (have ka0 := (by decide +kernel : (0 : Int32).toInt = 0); omega)) (by first | omega | decide | (have ka0 := (by decide +kernel : (0 : Int32).toInt = 0); omega)) (by first | omega | decide | (have ka0 := (by decide +kernel : (0 : Int32).toInt = 0); omega)) (by first | omega | decide | (have ka0 := (by decide +kernel : (0 : Int32).toInt = 0); omega)) (by first | omega | decide | (have ka0 := (by decide +kernel : (0 : Int32).toInt = 0); omega)) (by first | omega | decide | (have ka0 := (by decide +kernel : (0 : Int32).toInt = 0); omega)) (by first | omega | decide | (have ka0 := (by decide +kernel : (0 : Int32).toInt = 0); omega)) (by first | omega | decide | (have ka0 := (by decide +kernel : (0 : Int32).toInt = 0); omega)) (fun i hi => h12 i (by omega)) q6 (fun i _ u _ => by rw [h10]) (fun u hu => (zlt hu).elim) (j_fuel _) (by omega) hI hF hP hD hS (lv_sub hl_1 [1, 2, 0] rfl)
    · have c1 := j_nle (a := f9_many.toInt) (b := L2.toInt) rfl rfl c1
      refine lv_aload_n hx hb dX9_leastOf_10 rfl (lv_at hl 0 rfl) ?_
      refine gf (k := 19) hx hb hts inX9 hown hK hP k_814 rfl (by decide) rfl 22 rfl (.ref (ad 11)) rfl dX9_leastOf_11 ?_
      refine lv_iload_n hx hb dX9_leastOf_14 rfl (lv_at hl 2 rfl) ?_
      refine lv_aload_n hx hb dX9_leastOf_15 rfl (lv_at hl 0 rfl) ?_
      refine gf (k := 15) hx hb hts inX9 hown hK hP k_810 rfl (by decide) rfl 22 rfl (.ref (ad 7)) rfl dX9_leastOf_16 ?_
      refine lv_iload_n hx hb dX9_leastOf_19 rfl (lv_at hl 1 rfl) ?_
      have hM := r014_X9_fitsIn l dC dI cI cJ cII cJJ H.size 0 ad f9_size f9_equations f9_areSteps f9_foundMany f9_many f9_rank f9_freeMany f9_arePlans f9_planMany ai al L2 x1 (by omega) (by omega) (by omega) (by omega) (by omega) (by omega) (by omega) (by omega) (by omega) (by omega) (by omega) hI
      refine k2S_i ⟨hx, hb, hml, hown, hts⟩ hK hP hD hS hA hX cs_RX9_173 hM ⟨by decide +kernel, by decide +kernel⟩ rfl rfl (Or.inl rfl) (rest := []) rfl hl.1 rfl (Nat.le_of_ble_eq_true rfl) dX9_leastOf_20 ⟨Nat.le_of_ble_eq_true rfl, Nat.le_of_ble_eq_true rfl⟩ (fun r2 t H1 locs_2 ht hB hS_2 hFc => ?_)
      obtain ⟨⟨gpr2_0, gpr2_1⟩, hP_3, -, hD_3⟩ := hB
      rw [ht] at hP_3
      have hD_4 := hD_3.weaken (B := A) (fun k q _ h9 => hFc q.1 h9)
      clear ht
      generalize H1 = H_5 at hP_3 hS_2 ⊢
      refine lv_if_eq (tgt := 27) hx hb dX9_leastOf_23 (by decide) (fun c3 => ?_) (fun c3 => ?_)
      · have c3 := j_eq (a := r2.toInt) (b := 0) rfl (by decide +kernel) c3
        obtain ⟨z4, e_z4⟩ : ∃ q : Int32, q = L2 + Int32.ofInt 1 := ⟨_, rfl⟩
        have g_z4 : z4.toInt = L2.toInt + 1 := by rw [e_z4]; exact n_add (a := L2.toInt) (b := 1) rfl (by decide +kernel) (by omega) (by omega)
        refine lv_iinc (v := z4) (lv' := [(2, .int z4), (0, .ref (ad 22)), (1, .int x1)]) hx hb dX9_leastOf_27 hl (k := 2) rfl e_z4.symm (by decide) rfl (fun ls_6 hl_6 => ?_)
        refine lv_goto (tgt := 2) hx hb dX9_leastOf_30 (by decide) ?_
        exact ih z4 f9_many ai _ _ _ (by omega) (by omega) (by omega) (by omega) (by omega) (by omega) (by omega) (by omega) (by omega) (by omega) h10 (by omega) (lo_no (n := L2) (by omega) h12 (by have q := (gpr2_1.resolve_left (fun q => by omega)).2; rw [h10] at q; exact q) (by omega)) (by omega) (by omega) (by omega) hI hF hP_3 hD_4 hS_2 (lv_sub hl_6 [1, 2, 0] rfl)
      · have c3 := j_ne (a := r2.toInt) (b := 0) rfl (by decide +kernel) c3
        exact r2_v hx hb hr hk hS_2 dX9_leastOf_26 (fun t ht hW => ⟨f9_many, ai, ⟨(by first | omega | decide | exact Or.inl (by decide) | exact Or.inr (by decide) | exact Or.inr (by omega)), (lo_old (i := L2.toInt.toNat) h10 (by omega) (by omega) (gpr2_1.resolve_right (fun q => by omega)).2), hI, hF⟩, by rw [ht]; exact hP_3, va_K.moved hW.alike hK, hD_4⟩)
set_option maxRecDepth 100000 in
set_option maxHeartbeats 4000000 in
theorem r015_X9_leastOf (l : Launch) (dC : Nat → ClassId) (dI : Nat → Nat → Nat) (cI cJ cII cJJ : ClassId) (sz g : Nat) (ad : Nat → Nat) (f9_size f9_equations f9_areSteps f9_foundMany f9_many f9_rank f9_freeMany f9_arePlans f9_planMany : Int32) (ai : Nat → Nat → Int32) (al : Nat → Nat → Int64) (x1 : Int32) (h_x1 : (0 ≤ x1.toInt ∧ x1.toInt ≤ 99999)) (h_f9_size : (1 ≤ f9_size.toInt ∧ f9_size.toInt ≤ 4)) (h_f9_equations : (0 ≤ f9_equations.toInt ∧ f9_equations.toInt ≤ 3)) (h_f9_areSteps : (0 ≤ f9_areSteps.toInt ∧ f9_areSteps.toInt ≤ 1)) (h_f9_foundMany : (0 ≤ f9_foundMany.toInt ∧ f9_foundMany.toInt ≤ 99999)) (h_f9_many : (0 ≤ f9_many.toInt ∧ f9_many.toInt ≤ 6000)) (h_f9_rank : (0 ≤ f9_rank.toInt ∧ f9_rank.toInt ≤ 3)) (h_f9_freeMany : (0 ≤ f9_freeMany.toInt ∧ f9_freeMany.toInt ≤ 4)) (h_f9_arePlans : (0 ≤ f9_arePlans.toInt ∧ f9_arePlans.toInt ≤ 1)) (h_f9_planMany : (0 ≤ f9_planMany.toInt ∧ f9_planMany.toInt ≤ 194481)) (hp0 : ((∀ i : Nat, (i : Int) < f9_many.toInt → ¬ Fit (row ai 11 i) (row ai 7 x1.toInt.toNat)) → f9_many.toInt < 6000)) (hI : IAM ai) : Met l yX9_leastOf (.code yX9_leastOf cX9_leastOf 3 none :: TT) ({ frames := 3, cells := 0, slots := 0, locals := 140 } : Room) (PcS dC dI (TY cI cJ cII cJJ) [.ref (ad 22), .int x1] (WM cI cJ cII cJJ ad f9_size f9_equations f9_areSteps f9_foundMany f9_many f9_rank f9_freeMany f9_arePlans f9_planMany ai al) sz 0 g) (Q_r015_X9_leastOf dC dI cI cJ cII cJJ ad f9_size f9_equations f9_areSteps f9_foundMany f9_rank f9_freeMany f9_arePlans f9_planMany ai al x1 f9_many (va_A (WM cI cJ cII cJJ ad f9_size f9_equations f9_areSteps f9_foundMany f9_many f9_rank f9_freeMany f9_arePlans f9_planMany ai al) sz)) 0 0 (va_A (WM cI cJ cII cJJ ad f9_size f9_equations f9_areSteps f9_foundMany f9_many f9_rank f9_freeMany f9_arePlans f9_planMany ai al) sz) := by
  refine SM.of (y := yX9_leastOf) (maxL := 3) (av := [.ref (ad 22), .int x1]) (Q_r015_X9_leastOf dC dI cI cJ cII cJJ ad f9_size f9_equations f9_areSteps f9_foundMany f9_rank f9_freeMany f9_arePlans f9_planMany ai al x1 f9_many) (by decide +kernel) (Nat.le_of_ble_eq_true rfl) (fun p e s m below meth c A ls hx hb hr hml hown hts hk hnm hA hK hP hD hS hX hl => ?_)
  have C : Cx p c s m meth (([.ref (ad 22), .int x1] : List Value).toArray) A dC dI (TY cI cJ cII cJJ) cX9_leastOf none 3 RX9 0 g := ⟨hx, hb, hr, hml, hown, hts, hk, hA, hK, hX⟩
  have hown : s.vm.findClass RX9 = some m.cls := hown
  have hl : lv_has ls 3 [(0, .ref (ad 22)), (1, .int x1)] := hl
  obtain ⟨H, hH⟩ : ∃ q, q = s.heap := ⟨_, rfl⟩
  rw [← hH] at hP
  have hS : va_S A s.heap H [] := by rw [hH]; exact hS
  rw [← hH]
  have hF := FR_refl [11] ai
  refine lv_iconst (v := 0) hx hb dX9_leastOf_0 (by decide) ?_
  refine lv_istore_n (lv' := [(2, .int 0), (0, .ref (ad 22)), (1, .int x1)]) hx hb dX9_leastOf_1 rfl hl (by decide) rfl (fun ls_1 hl_1 => ?_)
  exact r015_X9_leastOf_b2 C h_x1 hp0  _ 0 f9_many ai _ _ _ (by first | omega | decide | (have ka0 := (by decide +kernel : (0 : Int32).toInt = 0); omega)) (by first | omega | decide | (have ka0 := (by decide +kernel : (0 : Int32).toInt = 0); omega)) (by first | omega | decide | (have ka0 := (by decide +kernel : (0 : Int32).toInt = 0); omega)) (by first | omega | decide | (have ka0 := (by decide +kernel : (0 : Int32).toInt = 0); omega)) (by first | omega | decide | (have ka0 := (by decide +kernel : (0 : Int32).toInt = 0); omega)) (by first | omega | decide | (have ka0 := (by decide +kernel : (0 : Int32).toInt = 0); omega)) (by first | omega | decide | (have ka0 := (by decide +kernel : (0 : Int32).toInt = 0); omega)) (by first | omega | decide | (have ka0 := (by decide +kernel : (0 : Int32).toInt = 0); omega)) (by first | omega | decide | (have ka0 := (by decide +kernel : (0 : Int32).toInt = 0); omega)) (by first | omega | decide | (have ka0 := (by decide +kernel : (0 : Int32).toInt = 0); omega)) rfl rfl (fun u hu => (zlt hu).elim) (by have q3 := (by decide : (0 : Int32).toInt = 0); omega) (j_fuel _) (by omega) hI hF hP hD hS (lv_sub hl_1 [1, 2, 0] rfl)
def Q_r016_X9_isBefore (dC : Nat → ClassId) (dI : Nat → Nat → Nat) (cI cJ cII cJJ : ClassId) (ad : Nat → Nat) (f9_size f9_equations f9_areSteps f9_foundMany f9_many f9_rank f9_freeMany f9_arePlans f9_planMany : Int32) (ai : Nat → Nat → Int32) (al : Nat → Nat → Int64) : (Nat → Prop) → Array Value → State → Outcome → State → Prop := fun A => QI (fun r t => ((0 ≤ r.toInt ∧ r.toInt ≤ 1)) ∧ WO dC dI (TY cI cJ cII cJJ) (WM cI cJ cII cJJ ad f9_size f9_equations f9_areSteps f9_foundMany f9_many f9_rank f9_freeMany f9_arePlans f9_planMany ai al) A t) A
set_option maxRecDepth 100000 in
set_option maxHeartbeats 4000000 in
theorem r016_X9_isBefore_b2 {p : Program} {l : Launch} {e : Env} {s : State} {m : MethodId} {args : Array Value} {below : List Frame} {meth : Method} {c : Code} {A : Nat → Prop} {dC : Nat → ClassId} {dI : Nat → Nat → Nat} {cI cJ cII cJJ : ClassId} {ad : Nat → Nat} {g : Nat} {f9_size f9_equations f9_areSteps f9_foundMany f9_many f9_rank f9_freeMany f9_arePlans f9_planMany : Int32} {ai : Nat → Nat → Int32} {al : Nat → Nat → Int64} (C : Cx p c s m meth args A dC dI (TY cI cJ cII cJJ) cX9_isBefore (some .boolean) 4 RX9 0 g) : ∀ (n : Nat), ∀ (L1 L2 L3 : Int32) (H : Heap) (locs : List Loc) (ls : Array Slot), (0 ≤ L1.toInt ∧ L1.toInt ≤ 5999) → (0 ≤ L2.toInt ∧ L2.toInt ≤ 5999) → (0 ≤ L3.toInt ∧ L3.toInt ≤ 4) → (1 ≤ f9_size.toInt ∧ f9_size.toInt ≤ 4) → (0 ≤ f9_equations.toInt ∧ f9_equations.toInt ≤ 3) → (0 ≤ f9_areSteps.toInt ∧ f9_areSteps.toInt ≤ 1) → (0 ≤ f9_foundMany.toInt ∧ f9_foundMany.toInt ≤ 99999) → (0 ≤ f9_many.toInt ∧ f9_many.toInt ≤ 6000) → (0 ≤ f9_rank.toInt ∧ f9_rank.toInt ≤ 3) → (0 ≤ f9_freeMany.toInt ∧ f9_freeMany.toInt ≤ 4) → (0 ≤ f9_arePlans.toInt ∧ f9_arePlans.toInt ≤ 1) → (0 ≤ f9_planMany.toInt ∧ f9_planMany.toInt ≤ 194481) → 4 - L3.toInt < (n : Int) → (0 : Int) < (n : Int) → IAM ai → va_P (dC, dI) vwCl (WM cI cJ cII cJJ ad f9_size f9_equations f9_areSteps f9_foundMany f9_many f9_rank f9_freeMany f9_arePlans f9_planMany ai al) H → va_D A (WM cI cJ cII cJJ ad f9_size f9_equations f9_areSteps f9_foundMany f9_many f9_rank f9_freeMany f9_arePlans f9_planMany ai al) → va_S A s.heap H locs → lv_has ls 4 [(0, .ref (ad 22)), (1, .int L1), (2, .int L2), (3, .int L3)] → W p l e ({ frames := 2, cells := 0, slots := 0, locals := 80 } : Room) s m args below meth c H locs 0 0 (MQ below (Q_r016_X9_isBefore dC dI cI cJ cII cJJ ad f9_size f9_equations f9_areSteps f9_foundMany f9_many f9_rank f9_freeMany f9_arePlans f9_planMany ai al A) args s 0 0 A) (F0 m 2 ls []) := by
  obtain ⟨hx, hb, hr, hml, hown, hts, hk, hA, hK, hX⟩ := id C
  intro n
  induction n with
  | zero =>
    intro L1 L2 L3 H locs ls h0 h1 h2 h3 h4 h5 h6 h7 h8 h9 h10 h11 h12 h13 hI hP hD hS hl
    exact absurd h13 (by omega)
  | succ n ih =>
    intro L1 L2 L3 H locs ls h0 h1 h2 h3 h4 h5 h6 h7 h8 h9 h10 h11 h12 h13 hI hP hD hS hl
    refine lv_iload_n hx hb dX9_isBefore_2 rfl (lv_at hl 3 rfl) ?_
    refine lv_iconst (v := 4) hx hb dX9_isBefore_3 (by decide) ?_
    refine lv_icmp_ge (tgt := 65) hx hb dX9_isBefore_4 (by decide) (fun c1 => ?_) (fun c1 => ?_)
    · have c1 := j_le (a := 4) (b := L3.toInt) (by decide +kernel) rfl c1
      refine lv_iconst (v := 0) hx hb dX9_isBefore_65 (by decide) ?_
      exact r2_z hx hb hr hk hS dX9_isBefore_66 rfl (fun t ht hW => ⟨(by first | omega | decide | exact Or.inl (by decide) | exact Or.inr (by decide) | exact Or.inr (by omega)), by rw [ht]; exact hP, va_K.moved hW.alike hK, hD⟩)
    · have c1 := j_nle (a := 4) (b := L3.toInt) (by decide +kernel) rfl c1
      refine lv_aload_n hx hb dX9_isBefore_7 rfl (lv_at hl 0 rfl) ?_
      refine gf (k := 19) hx hb hts inX9 hown hK hP k_814 rfl (by decide) rfl 22 rfl (.ref (ad 11)) rfl dX9_isBefore_8 ?_
      refine lv_iconst (v := 4) hx hb dX9_isBefore_11 (by decide) ?_
      refine lv_iload_n hx hb dX9_isBefore_12 rfl (lv_at hl 1 rfl) ?_
      refine v_imul hx hb dX9_isBefore_13 _ rfl ?_
      refine lv_topi (fun z2 e_z2 => ?_)
      have g_z2 : z2.toInt = 4 * L1.toInt := by rw [e_z2]; exact n_mul (a := 4) (b := L1.toInt) (by decide +kernel) rfl (by omega) (by omega)
      refine lv_iload_n hx hb dX9_isBefore_14 rfl (lv_at hl 3 rfl) ?_
      refine v_iadd hx hb dX9_isBefore_15 _ rfl ?_
      refine lv_topi (fun z3 e_z3 => ?_)
      have g_z3 : z3.toInt = z2.toInt + L3.toInt := by rw [e_z3]; exact n_add (a := z2.toInt) (b := L3.toInt) rfl rfl (by omega) (by omega)
      refine va_iald hx hb hK hP 11 0 rfl rfl (j_in (a := z3.toInt) rfl (by omega) (by omega)) dX9_isBefore_16 ?_
      refine lv_topi (fun z4 e_z4 => ?_)
      refine lv_aload_n hx hb dX9_isBefore_17 rfl (lv_at hl 0 rfl) ?_
      refine gf (k := 19) hx hb hts inX9 hown hK hP k_814 rfl (by decide) rfl 22 rfl (.ref (ad 11)) rfl dX9_isBefore_18 ?_
      refine lv_iconst (v := 4) hx hb dX9_isBefore_21 (by decide) ?_
      refine lv_iload_n hx hb dX9_isBefore_22 rfl (lv_at hl 2 rfl) ?_
      refine v_imul hx hb dX9_isBefore_23 _ rfl ?_
      refine lv_topi (fun z5 e_z5 => ?_)
      have g_z5 : z5.toInt = 4 * L2.toInt := by rw [e_z5]; exact n_mul (a := 4) (b := L2.toInt) (by decide +kernel) rfl (by omega) (by omega)
      refine lv_iload_n hx hb dX9_isBefore_24 rfl (lv_at hl 3 rfl) ?_
      refine v_iadd hx hb dX9_isBefore_25 _ rfl ?_
      refine lv_topi (fun z6 e_z6 => ?_)
      have g_z6 : z6.toInt = z5.toInt + L3.toInt := by rw [e_z6]; exact n_add (a := z5.toInt) (b := L3.toInt) rfl rfl (by omega) (by omega)
      refine va_iald hx hb hK hP 11 0 rfl rfl (j_in (a := z6.toInt) rfl (by omega) (by omega)) dX9_isBefore_26 ?_
      refine lv_topi (fun z7 e_z7 => ?_)
      refine lv_icmp_eq (tgt := 59) hx hb dX9_isBefore_27 (by decide) (fun c8 => ?_) (fun c8 => ?_)
      · have c8 := j_eq (a := z4.toInt) (b := z7.toInt) rfl rfl c8
        obtain ⟨z9, e_z9⟩ : ∃ q : Int32, q = L3 + Int32.ofInt 1 := ⟨_, rfl⟩
        have g_z9 : z9.toInt = L3.toInt + 1 := by rw [e_z9]; exact n_add (a := L3.toInt) (b := 1) rfl (by decide +kernel) (by omega) (by omega)
        refine lv_iinc (v := z9) (lv' := [(3, .int z9), (0, .ref (ad 22)), (1, .int L1), (2, .int L2)]) hx hb dX9_isBefore_59 hl (k := 3) rfl e_z9.symm (by decide) rfl (fun ls_1 hl_1 => ?_)
        refine lv_goto (tgt := 2) hx hb dX9_isBefore_62 (by decide) ?_
        exact ih L1 L2 z9 _ _ _ (by omega) (by omega) (by omega) (by omega) (by omega) (by omega) (by omega) (by omega) (by omega) (by omega) (by omega) (by omega) (by omega) (by omega) hI hP hD hS (lv_sub hl_1 [1, 2, 3, 0] rfl)
      · have c8 := j_ne (a := z4.toInt) (b := z7.toInt) rfl rfl c8
        refine lv_aload_n hx hb dX9_isBefore_30 rfl (lv_at hl 0 rfl) ?_
        refine gf (k := 19) hx hb hts inX9 hown hK hP k_814 rfl (by decide) rfl 22 rfl (.ref (ad 11)) rfl dX9_isBefore_31 ?_
        refine lv_iconst (v := 4) hx hb dX9_isBefore_34 (by decide) ?_
        refine lv_iload_n hx hb dX9_isBefore_35 rfl (lv_at hl 1 rfl) ?_
        refine v_imul hx hb dX9_isBefore_36 _ rfl ?_
        refine lv_topi (fun z10 e_z10 => ?_)
        have g_z10 : z10.toInt = 4 * L1.toInt := by rw [e_z10]; exact n_mul (a := 4) (b := L1.toInt) (by decide +kernel) rfl (by omega) (by omega)
        refine lv_iload_n hx hb dX9_isBefore_37 rfl (lv_at hl 3 rfl) ?_
        refine v_iadd hx hb dX9_isBefore_38 _ rfl ?_
        refine lv_topi (fun z11 e_z11 => ?_)
        have g_z11 : z11.toInt = z10.toInt + L3.toInt := by rw [e_z11]; exact n_add (a := z10.toInt) (b := L3.toInt) rfl rfl (by omega) (by omega)
        refine va_iald hx hb hK hP 11 0 rfl rfl (j_in (a := z11.toInt) rfl (by omega) (by omega)) dX9_isBefore_39 ?_
        refine lv_topi (fun z12 e_z12 => ?_)
        refine lv_aload_n hx hb dX9_isBefore_40 rfl (lv_at hl 0 rfl) ?_
        refine gf (k := 19) hx hb hts inX9 hown hK hP k_814 rfl (by decide) rfl 22 rfl (.ref (ad 11)) rfl dX9_isBefore_41 ?_
        refine lv_iconst (v := 4) hx hb dX9_isBefore_44 (by decide) ?_
        refine lv_iload_n hx hb dX9_isBefore_45 rfl (lv_at hl 2 rfl) ?_
        refine v_imul hx hb dX9_isBefore_46 _ rfl ?_
        refine lv_topi (fun z13 e_z13 => ?_)
        have g_z13 : z13.toInt = 4 * L2.toInt := by rw [e_z13]; exact n_mul (a := 4) (b := L2.toInt) (by decide +kernel) rfl (by omega) (by omega)
        refine lv_iload_n hx hb dX9_isBefore_47 rfl (lv_at hl 3 rfl) ?_
        refine v_iadd hx hb dX9_isBefore_48 _ rfl ?_
        refine lv_topi (fun z14 e_z14 => ?_)
        have g_z14 : z14.toInt = z13.toInt + L3.toInt := by rw [e_z14]; exact n_add (a := z13.toInt) (b := L3.toInt) rfl rfl (by omega) (by omega)
        refine va_iald hx hb hK hP 11 0 rfl rfl (j_in (a := z14.toInt) rfl (by omega) (by omega)) dX9_isBefore_49 ?_
        refine lv_topi (fun z15 e_z15 => ?_)
        refine lv_icmp_ge (tgt := 57) hx hb dX9_isBefore_50 (by decide) (fun c16 => ?_) (fun c16 => ?_)
        · have c16 := j_le (a := z15.toInt) (b := z12.toInt) rfl rfl c16
          refine lv_iconst (v := 0) hx hb dX9_isBefore_57 (by decide) ?_
          exact r2_z hx hb hr hk hS dX9_isBefore_58 rfl (fun t ht hW => ⟨(by first | omega | decide | exact Or.inl (by decide) | exact Or.inr (by decide) | exact Or.inr (by omega)), by rw [ht]; exact hP, va_K.moved hW.alike hK, hD⟩)
        · have c16 := j_nle (a := z15.toInt) (b := z12.toInt) rfl rfl c16
          refine lv_iconst (v := 1) hx hb dX9_isBefore_53 (by decide) ?_
          refine lv_goto (tgt := 58) hx hb dX9_isBefore_54 (by decide) ?_
          exact r2_z hx hb hr hk hS dX9_isBefore_58 rfl (fun t ht hW => ⟨(by first | omega | decide | exact Or.inl (by decide) | exact Or.inr (by decide) | exact Or.inr (by omega)), by rw [ht]; exact hP, va_K.moved hW.alike hK, hD⟩)
set_option maxRecDepth 100000 in
set_option maxHeartbeats 4000000 in
theorem r016_X9_isBefore (l : Launch) (dC : Nat → ClassId) (dI : Nat → Nat → Nat) (cI cJ cII cJJ : ClassId) (sz g : Nat) (ad : Nat → Nat) (f9_size f9_equations f9_areSteps f9_foundMany f9_many f9_rank f9_freeMany f9_arePlans f9_planMany : Int32) (ai : Nat → Nat → Int32) (al : Nat → Nat → Int64) (x1 : Int32) (x2 : Int32) (h_x1 : (0 ≤ x1.toInt ∧ x1.toInt ≤ 5999)) (h_x2 : (0 ≤ x2.toInt ∧ x2.toInt ≤ 5999)) (h_f9_size : (1 ≤ f9_size.toInt ∧ f9_size.toInt ≤ 4)) (h_f9_equations : (0 ≤ f9_equations.toInt ∧ f9_equations.toInt ≤ 3)) (h_f9_areSteps : (0 ≤ f9_areSteps.toInt ∧ f9_areSteps.toInt ≤ 1)) (h_f9_foundMany : (0 ≤ f9_foundMany.toInt ∧ f9_foundMany.toInt ≤ 99999)) (h_f9_many : (0 ≤ f9_many.toInt ∧ f9_many.toInt ≤ 6000)) (h_f9_rank : (0 ≤ f9_rank.toInt ∧ f9_rank.toInt ≤ 3)) (h_f9_freeMany : (0 ≤ f9_freeMany.toInt ∧ f9_freeMany.toInt ≤ 4)) (h_f9_arePlans : (0 ≤ f9_arePlans.toInt ∧ f9_arePlans.toInt ≤ 1)) (h_f9_planMany : (0 ≤ f9_planMany.toInt ∧ f9_planMany.toInt ≤ 194481)) (hI : IAM ai) : Met l yX9_isBefore (.code yX9_isBefore cX9_isBefore 4 (some .boolean) :: TT) ({ frames := 2, cells := 0, slots := 0, locals := 80 } : Room) (PcS dC dI (TY cI cJ cII cJJ) [.ref (ad 22), .int x1, .int x2] (WM cI cJ cII cJJ ad f9_size f9_equations f9_areSteps f9_foundMany f9_many f9_rank f9_freeMany f9_arePlans f9_planMany ai al) sz 0 g) (Q_r016_X9_isBefore dC dI cI cJ cII cJJ ad f9_size f9_equations f9_areSteps f9_foundMany f9_many f9_rank f9_freeMany f9_arePlans f9_planMany ai al (va_A (WM cI cJ cII cJJ ad f9_size f9_equations f9_areSteps f9_foundMany f9_many f9_rank f9_freeMany f9_arePlans f9_planMany ai al) sz)) 0 0 (va_A (WM cI cJ cII cJJ ad f9_size f9_equations f9_areSteps f9_foundMany f9_many f9_rank f9_freeMany f9_arePlans f9_planMany ai al) sz) := by
  refine SM.of (y := yX9_isBefore) (maxL := 4) (av := [.ref (ad 22), .int x1, .int x2]) (Q_r016_X9_isBefore dC dI cI cJ cII cJJ ad f9_size f9_equations f9_areSteps f9_foundMany f9_many f9_rank f9_freeMany f9_arePlans f9_planMany ai al) (by decide +kernel) (Nat.le_of_ble_eq_true rfl) (fun p e s m below meth c A ls hx hb hr hml hown hts hk hnm hA hK hP hD hS hX hl => ?_)
  have C : Cx p c s m meth (([.ref (ad 22), .int x1, .int x2] : List Value).toArray) A dC dI (TY cI cJ cII cJJ) cX9_isBefore (some .boolean) 4 RX9 0 g := ⟨hx, hb, hr, hml, hown, hts, hk, hA, hK, hX⟩
  have hown : s.vm.findClass RX9 = some m.cls := hown
  have hl : lv_has ls 4 [(0, .ref (ad 22)), (1, .int x1), (2, .int x2)] := hl
  obtain ⟨H, hH⟩ : ∃ q, q = s.heap := ⟨_, rfl⟩
  rw [← hH] at hP
  have hS : va_S A s.heap H [] := by rw [hH]; exact hS
  rw [← hH]
  refine lv_iconst (v := 0) hx hb dX9_isBefore_0 (by decide) ?_
  refine lv_istore_n (lv' := [(3, .int 0), (0, .ref (ad 22)), (1, .int x1), (2, .int x2)]) hx hb dX9_isBefore_1 rfl hl (by decide) rfl (fun ls_1 hl_1 => ?_)
  exact r016_X9_isBefore_b2 C  _ x1 x2 0 _ _ _ (by first | omega | decide | (have ka0 := (by decide +kernel : (0 : Int32).toInt = 0); omega)) (by first | omega | decide | (have ka0 := (by decide +kernel : (0 : Int32).toInt = 0); omega)) (by first | omega | decide | (have ka0 := (by decide +kernel : (0 : Int32).toInt = 0); omega)) (by first | omega | decide | (have ka0 := (by decide +kernel : (0 : Int32).toInt = 0); omega)) (by first | omega | decide | (have ka0 := (by decide +kernel : (0 : Int32).toInt = 0); omega)) (by first | omega | decide | (have ka0 := (by decide +kernel : (0 : Int32).toInt = 0); omega)) (by first | omega | decide | (have ka0 := (by decide +kernel : (0 : Int32).toInt = 0); omega)) (by first | omega | decide | (have ka0 := (by decide +kernel : (0 : Int32).toInt = 0); omega)) (by first | omega | decide | (have ka0 := (by decide +kernel : (0 : Int32).toInt = 0); omega)) (by first | omega | decide | (have ka0 := (by decide +kernel : (0 : Int32).toInt = 0); omega)) (by first | omega | decide | (have ka0 := (by decide +kernel : (0 : Int32).toInt = 0); omega)) (by first | omega | decide | (have ka0 := (by decide +kernel : (0 : Int32).toInt = 0); omega)) (j_fuel _) (by omega) hI hP hD hS (lv_sub hl_1 [1, 2, 3, 0] rfl)
def Q_r017_X9_sorts (dC : Nat → ClassId) (dI : Nat → Nat → Nat) (cI cJ cII cJJ : ClassId) (ad : Nat → Nat) (f9_size f9_equations f9_areSteps f9_foundMany f9_many f9_rank f9_freeMany f9_arePlans f9_planMany : Int32) (ai0 : Nat → Nat → Int32) (al : Nat → Nat → Int64) : (Nat → Prop) → Array Value → State → Outcome → State → Prop := fun A => QV (fun t => ∃ (n_ai : Nat → Nat → Int32), (SRT n_ai f9_many.toInt ∧ IAM n_ai ∧ FR [12] ai0 n_ai) ∧ WO dC dI (TY cI cJ cII cJJ) (WM cI cJ cII cJJ ad f9_size f9_equations f9_areSteps f9_foundMany f9_many f9_rank f9_freeMany f9_arePlans f9_planMany n_ai al) A t) A
set_option maxRecDepth 100000 in
set_option maxHeartbeats 4000000 in
theorem r017_X9_sorts_b52 {p : Program} {l : Launch} {e : Env} {s : State} {m : MethodId} {args : Array Value} {below : List Frame} {meth : Method} {c : Code} {A : Nat → Prop} {dC : Nat → ClassId} {dI : Nat → Nat → Nat} {cI cJ cII cJJ : ClassId} {ad : Nat → Nat} {g : Nat} {f9_size f9_equations f9_areSteps f9_foundMany f9_many f9_rank f9_freeMany f9_arePlans f9_planMany : Int32} {ai0 : Nat → Nat → Int32} {al : Nat → Nat → Int64} (C : Cx p c s m meth args A dC dI (TY cI cJ cII cJJ) cX9_sorts none 3 RX9 0 g) (n2 : Nat) (K2 : ∀ (L1 : Int32) (ai : Nat → Nat → Int32) (H : Heap) (locs : List Loc) (ls : Array Slot), (0 ≤ L1.toInt ∧ L1.toInt ≤ 6000) → (1 ≤ f9_size.toInt ∧ f9_size.toInt ≤ 4) → (0 ≤ f9_equations.toInt ∧ f9_equations.toInt ≤ 3) → (0 ≤ f9_areSteps.toInt ∧ f9_areSteps.toInt ≤ 1) → (0 ≤ f9_foundMany.toInt ∧ f9_foundMany.toInt ≤ 99999) → (0 ≤ f9_many.toInt ∧ f9_many.toInt ≤ 6000) → (0 ≤ f9_rank.toInt ∧ f9_rank.toInt ≤ 3) → (0 ≤ f9_freeMany.toInt ∧ f9_freeMany.toInt ≤ 4) → (0 ≤ f9_arePlans.toInt ∧ f9_arePlans.toInt ≤ 1) → (0 ≤ f9_planMany.toInt ∧ f9_planMany.toInt ≤ 194481) → SRT ai L1.toInt → L1.toInt ≤ f9_many.toInt → f9_many.toInt - L1.toInt < (n2 : Int) → (0 : Int) < (n2 : Int) → IAM ai → FR [12] ai0 ai → va_P (dC, dI) vwCl (WM cI cJ cII cJJ ad f9_size f9_equations f9_areSteps f9_foundMany f9_many f9_rank f9_freeMany f9_arePlans f9_planMany ai al) H → va_D A (WM cI cJ cII cJJ ad f9_size f9_equations f9_areSteps f9_foundMany f9_many f9_rank f9_freeMany f9_arePlans f9_planMany ai al) → va_S A s.heap H locs → lv_has ls 3 [(0, .ref (ad 22)), (1, .int L1)] → W p l e ({ frames := 3, cells := 0, slots := 0, locals := 140 } : Room) s m args below meth c H locs 0 0 (MQ below (Q_r017_X9_sorts dC dI cI cJ cII cJJ ad f9_size f9_equations f9_areSteps f9_foundMany f9_many f9_rank f9_freeMany f9_arePlans f9_planMany ai0 al A) args s 0 0 A) (F0 m 2 ls [])) : ∀ (L1 L2 : Int32) (ai : Nat → Nat → Int32) (H : Heap) (locs : List Loc) (ls : Array Slot), (0 ≤ L1.toInt ∧ L1.toInt ≤ 5999) → (0 ≤ L2.toInt ∧ L2.toInt ≤ 5999) → (1 ≤ f9_size.toInt ∧ f9_size.toInt ≤ 4) → (0 ≤ f9_equations.toInt ∧ f9_equations.toInt ≤ 3) → (0 ≤ f9_areSteps.toInt ∧ f9_areSteps.toInt ≤ 1) → (0 ≤ f9_foundMany.toInt ∧ f9_foundMany.toInt ≤ 99999) → (1 ≤ f9_many.toInt ∧ f9_many.toInt ≤ 6000) → (0 ≤ f9_rank.toInt ∧ f9_rank.toInt ≤ 3) → (0 ≤ f9_freeMany.toInt ∧ f9_freeMany.toInt ≤ 4) → (0 ≤ f9_arePlans.toInt ∧ f9_arePlans.toInt ≤ 1) → (0 ≤ f9_planMany.toInt ∧ f9_planMany.toInt ≤ 194481) → SRk ai L1.toInt L2.toInt → L2.toInt ≤ L1.toInt → L1.toInt < f9_many.toInt → f9_many.toInt - L1.toInt ≤ (n2 : Int) → IAM ai → FR [12] ai0 ai → va_P (dC, dI) vwCl (WM cI cJ cII cJJ ad f9_size f9_equations f9_areSteps f9_foundMany f9_many f9_rank f9_freeMany f9_arePlans f9_planMany ai al) H → va_D A (WM cI cJ cII cJJ ad f9_size f9_equations f9_areSteps f9_foundMany f9_many f9_rank f9_freeMany f9_arePlans f9_planMany ai al) → va_S A s.heap H locs → lv_has ls 3 [(0, .ref (ad 22)), (1, .int L1), (2, .int L2)] → W p l e ({ frames := 3, cells := 0, slots := 0, locals := 140 } : Room) s m args below meth c H locs 0 0 (MQ below (Q_r017_X9_sorts dC dI cI cJ cII cJJ ad f9_size f9_equations f9_areSteps f9_foundMany f9_many f9_rank f9_freeMany f9_arePlans f9_planMany ai0 al A) args s 0 0 A) (F0 m 52 ls []) := by
  obtain ⟨hx, hb, hr, hml, hown, hts, hk, hA, hK, hX⟩ := id C
  intro L1 L2 ai H locs ls h0 h1 h2 h3 h4 h5 h6 h7 h8 h9 h10 h11 h12 h13 h14 hI hF hP hD hS hl
  refine lv_aload_n hx hb dX9_sorts_52 rfl (lv_at hl 0 rfl) ?_
  refine gf (k := 20) hx hb hts inX9 hown hK hP k_815 rfl (by decide) rfl 22 rfl (.ref (ad 12)) rfl dX9_sorts_53 ?_
  refine lv_iload_n hx hb dX9_sorts_56 rfl (lv_at hl 2 rfl) ?_
  refine lv_iload_n hx hb dX9_sorts_57 rfl (lv_at hl 1 rfl) ?_
  refine va_iast hx hb hK hP hD hS 12 0 rfl rfl (j_in (a := L2.toInt) rfl (by omega) (by omega)) dX9_sorts_58 (fun H_1 locs_1 hP_1 hD_1 hS_1 => ?_)
  obtain ⟨ai1, e_ai1⟩ : ∃ q : Nat → Nat → Int32, q = va_up ai 12 (upd (ai 12) L2.toNatClampNeg L1) := ⟨_, rfl⟩
  have hF_2 := FR_st hF e_ai1 (by decide)
  have hI_3 : IAM ai1 := by rw [e_ai1]; exact IAM_st12 hI (a := L1.toInt) rfl (by omega) (by omega)
  have hP_4 : va_P (dC, dI) vwCl (WM cI cJ cII cJJ ad f9_size f9_equations f9_areSteps f9_foundMany f9_many f9_rank f9_freeMany f9_arePlans f9_planMany ai1 al) H_1 := by rw [e_ai1]; exact hP_1
  have hD_5 : va_D A (WM cI cJ cII cJJ ad f9_size f9_equations f9_areSteps f9_foundMany f9_many f9_rank f9_freeMany f9_arePlans f9_planMany ai1 al) := by rw [e_ai1]; exact hD_1
  obtain ⟨z2, e_z2⟩ : ∃ q : Int32, q = L1 + Int32.ofInt 1 := ⟨_, rfl⟩
  have g_z2 : z2.toInt = L1.toInt + 1 := by rw [e_z2]; exact n_add (a := L1.toInt) (b := 1) rfl (by decide +kernel) (by omega) (by omega)
  refine lv_iinc (v := z2) (lv' := [(1, .int z2), (0, .ref (ad 22)), (2, .int L2)]) hx hb dX9_sorts_59 hl (k := 1) rfl e_z2.symm (by decide) rfl (fun ls_6 hl_6 => ?_)
  refine lv_goto (tgt := 2) hx hb dX9_sorts_62 (by decide) ?_
  exact K2 z2 ai1 _ _ _ (by omega) (by omega) (by omega) (by omega) (by omega) (by omega) (by omega) (by omega) (by omega) (by omega) (SRk_end (k := L2) h11 e_ai1 (by omega) (by omega) (by omega)) (by omega) (by omega) (by omega) hI_3 hF_2 hP_4 hD_5 hS_1 (lv_sub hl_6 [1, 0] rfl)
set_option maxRecDepth 100000 in
set_option maxHeartbeats 4000000 in
theorem r017_X9_sorts_b12 {p : Program} {l : Launch} {e : Env} {s : State} {m : MethodId} {args : Array Value} {below : List Frame} {meth : Method} {c : Code} {A : Nat → Prop} {dC : Nat → ClassId} {dI : Nat → Nat → Nat} {cI cJ cII cJJ : ClassId} {ad : Nat → Nat} {g : Nat} {f9_size f9_equations f9_areSteps f9_foundMany f9_many f9_rank f9_freeMany f9_arePlans f9_planMany : Int32} {ai0 : Nat → Nat → Int32} {al : Nat → Nat → Int64} (C : Cx p c s m meth args A dC dI (TY cI cJ cII cJJ) cX9_sorts none 3 RX9 0 g) (n2 : Nat) (K2 : ∀ (L1 : Int32) (ai : Nat → Nat → Int32) (H : Heap) (locs : List Loc) (ls : Array Slot), (0 ≤ L1.toInt ∧ L1.toInt ≤ 6000) → (1 ≤ f9_size.toInt ∧ f9_size.toInt ≤ 4) → (0 ≤ f9_equations.toInt ∧ f9_equations.toInt ≤ 3) → (0 ≤ f9_areSteps.toInt ∧ f9_areSteps.toInt ≤ 1) → (0 ≤ f9_foundMany.toInt ∧ f9_foundMany.toInt ≤ 99999) → (0 ≤ f9_many.toInt ∧ f9_many.toInt ≤ 6000) → (0 ≤ f9_rank.toInt ∧ f9_rank.toInt ≤ 3) → (0 ≤ f9_freeMany.toInt ∧ f9_freeMany.toInt ≤ 4) → (0 ≤ f9_arePlans.toInt ∧ f9_arePlans.toInt ≤ 1) → (0 ≤ f9_planMany.toInt ∧ f9_planMany.toInt ≤ 194481) → SRT ai L1.toInt → L1.toInt ≤ f9_many.toInt → f9_many.toInt - L1.toInt < (n2 : Int) → (0 : Int) < (n2 : Int) → IAM ai → FR [12] ai0 ai → va_P (dC, dI) vwCl (WM cI cJ cII cJJ ad f9_size f9_equations f9_areSteps f9_foundMany f9_many f9_rank f9_freeMany f9_arePlans f9_planMany ai al) H → va_D A (WM cI cJ cII cJJ ad f9_size f9_equations f9_areSteps f9_foundMany f9_many f9_rank f9_freeMany f9_arePlans f9_planMany ai al) → va_S A s.heap H locs → lv_has ls 3 [(0, .ref (ad 22)), (1, .int L1)] → W p l e ({ frames := 3, cells := 0, slots := 0, locals := 140 } : Room) s m args below meth c H locs 0 0 (MQ below (Q_r017_X9_sorts dC dI cI cJ cII cJJ ad f9_size f9_equations f9_areSteps f9_foundMany f9_many f9_rank f9_freeMany f9_arePlans f9_planMany ai0 al A) args s 0 0 A) (F0 m 2 ls [])) : ∀ (n : Nat), ∀ (L1 L2 : Int32) (ai : Nat → Nat → Int32) (H : Heap) (locs : List Loc) (ls : Array Slot), (0 ≤ L1.toInt ∧ L1.toInt ≤ 5999) → (0 ≤ L2.toInt ∧ L2.toInt ≤ 5999) → (1 ≤ f9_size.toInt ∧ f9_size.toInt ≤ 4) → (0 ≤ f9_equations.toInt ∧ f9_equations.toInt ≤ 3) → (0 ≤ f9_areSteps.toInt ∧ f9_areSteps.toInt ≤ 1) → (0 ≤ f9_foundMany.toInt ∧ f9_foundMany.toInt ≤ 99999) → (1 ≤ f9_many.toInt ∧ f9_many.toInt ≤ 6000) → (0 ≤ f9_rank.toInt ∧ f9_rank.toInt ≤ 3) → (0 ≤ f9_freeMany.toInt ∧ f9_freeMany.toInt ≤ 4) → (0 ≤ f9_arePlans.toInt ∧ f9_arePlans.toInt ≤ 1) → (0 ≤ f9_planMany.toInt ∧ f9_planMany.toInt ≤ 194481) → SRk ai L1.toInt L2.toInt → L2.toInt ≤ L1.toInt → L1.toInt < f9_many.toInt → f9_many.toInt - L1.toInt ≤ (n2 : Int) → L2.toInt - 0 < (n : Int) → (0 : Int) < (n : Int) → IAM ai → FR [12] ai0 ai → va_P (dC, dI) vwCl (WM cI cJ cII cJJ ad f9_size f9_equations f9_areSteps f9_foundMany f9_many f9_rank f9_freeMany f9_arePlans f9_planMany ai al) H → va_D A (WM cI cJ cII cJJ ad f9_size f9_equations f9_areSteps f9_foundMany f9_many f9_rank f9_freeMany f9_arePlans f9_planMany ai al) → va_S A s.heap H locs → lv_has ls 3 [(0, .ref (ad 22)), (1, .int L1), (2, .int L2)] → W p l e ({ frames := 3, cells := 0, slots := 0, locals := 140 } : Room) s m args below meth c H locs 0 0 (MQ below (Q_r017_X9_sorts dC dI cI cJ cII cJJ ad f9_size f9_equations f9_areSteps f9_foundMany f9_many f9_rank f9_freeMany f9_arePlans f9_planMany ai0 al A) args s 0 0 A) (F0 m 12 ls []) := by
  obtain ⟨hx, hb, hr, hml, hown, hts, hk, hA, hK, hX⟩ := id C
  intro n
  induction n with
  | zero =>
    intro L1 L2 ai H locs ls h0 h1 h2 h3 h4 h5 h6 h7 h8 h9 h10 h11 h12 h13 h14 h15 h16 hI hF hP hD hS hl
    exact absurd h16 (by omega)
  | succ n ih =>
    intro L1 L2 ai H locs ls h0 h1 h2 h3 h4 h5 h6 h7 h8 h9 h10 h11 h12 h13 h14 h15 h16 hI hF hP hD hS hl
    refine lv_iload_n hx hb dX9_sorts_12 rfl (lv_at hl 2 rfl) ?_
    refine lv_if_le (tgt := 52) hx hb dX9_sorts_13 (by decide) (fun c1 => ?_) (fun c1 => ?_)
    · have c1 := j_le (a := L2.toInt) (b := 0) rfl (by decide +kernel) c1
      exact r017_X9_sorts_b52 C n2 K2 L1 L2 ai _ _ _ (by omega) (by omega) (by omega) (by omega) (by omega) (by omega) (by omega) (by omega) (by omega) (by omega) (by omega) h11 (by omega) (by omega) (by omega) hI hF hP hD hS (lv_sub hl [0, 1, 2] rfl)
    · have c1 := j_nle (a := L2.toInt) (b := 0) rfl (by decide +kernel) c1
      refine lv_aload_n hx hb dX9_sorts_16 rfl (lv_at hl 0 rfl) ?_
      refine lv_iload_n hx hb dX9_sorts_17 rfl (lv_at hl 1 rfl) ?_
      refine lv_aload_n hx hb dX9_sorts_18 rfl (lv_at hl 0 rfl) ?_
      refine gf (k := 20) hx hb hts inX9 hown hK hP k_815 rfl (by decide) rfl 22 rfl (.ref (ad 12)) rfl dX9_sorts_19 ?_
      refine lv_iload_n hx hb dX9_sorts_22 rfl (lv_at hl 2 rfl) ?_
      refine lv_iconst (v := 1) hx hb dX9_sorts_23 (by decide) ?_
      refine v_isub hx hb dX9_sorts_24 _ rfl ?_
      refine lv_topi (fun z2 e_z2 => ?_)
      have g_z2 : z2.toInt = L2.toInt - 1 := by rw [e_z2]; exact n_sub (a := L2.toInt) (b := 1) rfl (by decide +kernel) (by omega) (by omega)
      refine va_iald hx hb hK hP 12 0 rfl rfl (j_in (a := z2.toInt) rfl (by omega) (by omega)) dX9_sorts_25 ?_
      refine lv_topi (fun z3 e_z3 => ?_)
      have g_z3 : 0 ≤ z3.toInt ∧ z3.toInt ≤ 5999 := by rw [e_z3]; exact IAM_at12 hI _
      have hM := r016_X9_isBefore l dC dI cI cJ cII cJJ H.size 0 ad f9_size f9_equations f9_areSteps f9_foundMany f9_many f9_rank f9_freeMany f9_arePlans f9_planMany ai al L1 z3 (by omega) (by omega) (by omega) (by omega) (by omega) (by omega) (by omega) (by omega) (by omega) (by omega) (by omega) hI
      refine k2V_i (q0 := 22) ⟨hx, hb, hml, hown, hts⟩ hK hP hD hS hA hX cv_RX9_177 hM ⟨by decide +kernel, by decide +kernel⟩ rfl rfl (Or.inl rfl) (rest := []) rfl rfl rfl hl.1 rfl (Nat.le_of_ble_eq_true rfl) dX9_sorts_26 ⟨Nat.le_of_ble_eq_true rfl, Nat.le_of_ble_eq_true rfl⟩ (fun r4 t H1 locs_1 ht hB hS_1 hFc => ?_)
      obtain ⟨gpr4_0, hP_2, -, hD_2⟩ := hB
      rw [ht] at hP_2
      have hD_3 := hD_2.weaken (B := A) (fun k q _ h9 => hFc q.1 h9)
      clear ht
      generalize H1 = H_4 at hP_2 hS_1 ⊢
      refine lv_if_eq (tgt := 52) hx hb dX9_sorts_29 (by decide) (fun c5 => ?_) (fun c5 => ?_)
      · have c5 := j_eq (a := r4.toInt) (b := 0) rfl (by decide +kernel) c5
        exact r017_X9_sorts_b52 C n2 K2 L1 L2 ai _ _ _ (by omega) (by omega) (by omega) (by omega) (by omega) (by omega) (by omega) (by omega) (by omega) (by omega) (by omega) h11 (by omega) (by omega) (by omega) hI hF hP_2 hD_3 hS_1 (lv_sub hl [0, 1, 2] rfl)
      · have c5 := j_ne (a := r4.toInt) (b := 0) rfl (by decide +kernel) c5
        refine lv_aload_n hx hb dX9_sorts_32 rfl (lv_at hl 0 rfl) ?_
        refine gf (k := 20) hx hb hts inX9 hown hK hP_2 k_815 rfl (by decide) rfl 22 rfl (.ref (ad 12)) rfl dX9_sorts_33 ?_
        refine lv_iload_n hx hb dX9_sorts_36 rfl (lv_at hl 2 rfl) ?_
        refine lv_aload_n hx hb dX9_sorts_37 rfl (lv_at hl 0 rfl) ?_
        refine gf (k := 20) hx hb hts inX9 hown hK hP_2 k_815 rfl (by decide) rfl 22 rfl (.ref (ad 12)) rfl dX9_sorts_38 ?_
        refine lv_iload_n hx hb dX9_sorts_41 rfl (lv_at hl 2 rfl) ?_
        refine lv_iconst (v := 1) hx hb dX9_sorts_42 (by decide) ?_
        refine v_isub hx hb dX9_sorts_43 _ rfl ?_
        refine lv_topi (fun z6 e_z6 => ?_)
        have g_z6 : z6.toInt = L2.toInt - 1 := by rw [e_z6]; exact n_sub (a := L2.toInt) (b := 1) rfl (by decide +kernel) (by omega) (by omega)
        refine va_iald hx hb hK hP_2 12 0 rfl rfl (j_in (a := z6.toInt) rfl (by omega) (by omega)) dX9_sorts_44 ?_
        refine lv_topi (fun z7 e_z7 => ?_)
        have g_z7 : 0 ≤ z7.toInt ∧ z7.toInt ≤ 5999 := by rw [e_z7]; exact IAM_at12 hI _
        refine va_iast hx hb hK hP_2 hD_3 hS_1 12 0 rfl rfl (j_in (a := L2.toInt) rfl (by omega) (by omega)) dX9_sorts_45 (fun H_5 locs_5 hP_5 hD_5 hS_5 => ?_)
        obtain ⟨ai8, e_ai8⟩ : ∃ q : Nat → Nat → Int32, q = va_up ai 12 (upd (ai 12) L2.toNatClampNeg z7) := ⟨_, rfl⟩
        have hF_6 := FR_st hF e_ai8 (by decide)
        have hI_7 : IAM ai8 := by rw [e_ai8]; exact IAM_st12 hI (a := z7.toInt) rfl (by omega) (by omega)
        have hP_8 : va_P (dC, dI) vwCl (WM cI cJ cII cJJ ad f9_size f9_equations f9_areSteps f9_foundMany f9_many f9_rank f9_freeMany f9_arePlans f9_planMany ai8 al) H_5 := by rw [e_ai8]; exact hP_5
        have hD_9 : va_D A (WM cI cJ cII cJJ ad f9_size f9_equations f9_areSteps f9_foundMany f9_many f9_rank f9_freeMany f9_arePlans f9_planMany ai8 al) := by rw [e_ai8]; exact hD_5
        obtain ⟨z9, e_z9⟩ : ∃ q : Int32, q = L2 + Int32.ofInt (-1) := ⟨_, rfl⟩
        have g_z9 : z9.toInt = L2.toInt + (-1) := by rw [e_z9]; exact n_add (a := L2.toInt) (b := (-1)) rfl (by decide +kernel) (by omega) (by omega)
        refine lv_iinc (v := z9) (lv' := [(2, .int z9), (0, .ref (ad 22)), (1, .int L1)]) hx hb dX9_sorts_46 hl (k := 2) rfl e_z9.symm (by decide) rfl (fun ls_10 hl_10 => ?_)
        refine lv_goto (tgt := 12) hx hb dX9_sorts_49 (by decide) ?_
        exact ih L1 z9 ai8 _ _ _ (by omega) (by omega) (by omega) (by omega) (by omega) (by omega) (by omega) (by omega) (by omega) (by omega) (by omega) (SRk_sh (k := L2) h11 e_ai8 (by omega) (by omega) (by rw [e_z7]; show ai 12 z6.toInt.toNat = ai 12 (L2.toInt - 1).toNat; rw [show z6.toInt = L2.toInt - 1 by omega]) (by omega)) (by omega) (by omega) (by omega) (by omega) (by omega) hI_7 hF_6 hP_8 hD_9 hS_5 (lv_sub hl_10 [1, 2, 0] rfl)
set_option maxRecDepth 100000 in
set_option maxHeartbeats 4000000 in
theorem r017_X9_sorts_b2 {p : Program} {l : Launch} {e : Env} {s : State} {m : MethodId} {args : Array Value} {below : List Frame} {meth : Method} {c : Code} {A : Nat → Prop} {dC : Nat → ClassId} {dI : Nat → Nat → Nat} {cI cJ cII cJJ : ClassId} {ad : Nat → Nat} {g : Nat} {f9_size f9_equations f9_areSteps f9_foundMany f9_many f9_rank f9_freeMany f9_arePlans f9_planMany : Int32} {ai0 : Nat → Nat → Int32} {al : Nat → Nat → Int64} (C : Cx p c s m meth args A dC dI (TY cI cJ cII cJJ) cX9_sorts none 3 RX9 0 g) : ∀ (n : Nat), ∀ (L1 : Int32) (ai : Nat → Nat → Int32) (H : Heap) (locs : List Loc) (ls : Array Slot), (0 ≤ L1.toInt ∧ L1.toInt ≤ 6000) → (1 ≤ f9_size.toInt ∧ f9_size.toInt ≤ 4) → (0 ≤ f9_equations.toInt ∧ f9_equations.toInt ≤ 3) → (0 ≤ f9_areSteps.toInt ∧ f9_areSteps.toInt ≤ 1) → (0 ≤ f9_foundMany.toInt ∧ f9_foundMany.toInt ≤ 99999) → (0 ≤ f9_many.toInt ∧ f9_many.toInt ≤ 6000) → (0 ≤ f9_rank.toInt ∧ f9_rank.toInt ≤ 3) → (0 ≤ f9_freeMany.toInt ∧ f9_freeMany.toInt ≤ 4) → (0 ≤ f9_arePlans.toInt ∧ f9_arePlans.toInt ≤ 1) → (0 ≤ f9_planMany.toInt ∧ f9_planMany.toInt ≤ 194481) → SRT ai L1.toInt → L1.toInt ≤ f9_many.toInt → f9_many.toInt - L1.toInt < (n : Int) → (0 : Int) < (n : Int) → IAM ai → FR [12] ai0 ai → va_P (dC, dI) vwCl (WM cI cJ cII cJJ ad f9_size f9_equations f9_areSteps f9_foundMany f9_many f9_rank f9_freeMany f9_arePlans f9_planMany ai al) H → va_D A (WM cI cJ cII cJJ ad f9_size f9_equations f9_areSteps f9_foundMany f9_many f9_rank f9_freeMany f9_arePlans f9_planMany ai al) → va_S A s.heap H locs → lv_has ls 3 [(0, .ref (ad 22)), (1, .int L1)] → W p l e ({ frames := 3, cells := 0, slots := 0, locals := 140 } : Room) s m args below meth c H locs 0 0 (MQ below (Q_r017_X9_sorts dC dI cI cJ cII cJJ ad f9_size f9_equations f9_areSteps f9_foundMany f9_many f9_rank f9_freeMany f9_arePlans f9_planMany ai0 al A) args s 0 0 A) (F0 m 2 ls []) := by
  obtain ⟨hx, hb, hr, hml, hown, hts, hk, hA, hK, hX⟩ := id C
  intro n
  induction n with
  | zero =>
    intro L1 ai H locs ls h0 h1 h2 h3 h4 h5 h6 h7 h8 h9 h10 h11 h12 h13 hI hF hP hD hS hl
    exact absurd h13 (by omega)
  | succ n ih =>
    intro L1 ai H locs ls h0 h1 h2 h3 h4 h5 h6 h7 h8 h9 h10 h11 h12 h13 hI hF hP hD hS hl
    refine lv_iload_n hx hb dX9_sorts_2 rfl (lv_at hl 1 rfl) ?_
    refine lv_aload_n hx hb dX9_sorts_3 rfl (lv_at hl 0 rfl) ?_
    refine gf (k := 22) hx hb hts inX9 hown hK hP k_817 rfl (by decide) rfl 22 rfl (.int f9_many) rfl dX9_sorts_4 ?_
    refine lv_icmp_ge (tgt := 65) hx hb dX9_sorts_7 (by decide) (fun c1 => ?_) (fun c1 => ?_)
    · have c1 := j_le (a := f9_many.toInt) (b := L1.toInt) rfl rfl c1
      exact r2_v hx hb hr hk hS dX9_sorts_65 (fun t ht hW => ⟨ai, ⟨(SRT_le h10 (by omega)), hI, hF⟩, by rw [ht]; exact hP, va_K.moved hW.alike hK, hD⟩)
    · have c1 := j_nle (a := f9_many.toInt) (b := L1.toInt) rfl rfl c1
      refine lv_iload_n hx hb dX9_sorts_10 rfl (lv_at hl 1 rfl) ?_
      refine lv_istore_n (lv' := [(2, .int L1), (0, .ref (ad 22)), (1, .int L1)]) hx hb dX9_sorts_11 rfl hl (by decide) rfl (fun ls_1 hl_1 => ?_)
      exact r017_X9_sorts_b12 C n ih _ L1 L1 ai _ _ _ (by omega) (by omega) (by omega) (by omega) (by omega) (by omega) (by omega) (by omega) (by omega) (by omega) (by omega) (SRk_0 h10 rfl) (Int.le_refl _) (by omega) (by omega) (j_fuel _) (by omega) hI hF hP hD hS (lv_sub hl_1 [1, 2, 0] rfl)
set_option maxRecDepth 100000 in
set_option maxHeartbeats 4000000 in
theorem r017_X9_sorts (l : Launch) (dC : Nat → ClassId) (dI : Nat → Nat → Nat) (cI cJ cII cJJ : ClassId) (sz g : Nat) (ad : Nat → Nat) (f9_size f9_equations f9_areSteps f9_foundMany f9_many f9_rank f9_freeMany f9_arePlans f9_planMany : Int32) (ai : Nat → Nat → Int32) (al : Nat → Nat → Int64) (h_f9_size : (1 ≤ f9_size.toInt ∧ f9_size.toInt ≤ 4)) (h_f9_equations : (0 ≤ f9_equations.toInt ∧ f9_equations.toInt ≤ 3)) (h_f9_areSteps : (0 ≤ f9_areSteps.toInt ∧ f9_areSteps.toInt ≤ 1)) (h_f9_foundMany : (0 ≤ f9_foundMany.toInt ∧ f9_foundMany.toInt ≤ 99999)) (h_f9_many : (0 ≤ f9_many.toInt ∧ f9_many.toInt ≤ 6000)) (h_f9_rank : (0 ≤ f9_rank.toInt ∧ f9_rank.toInt ≤ 3)) (h_f9_freeMany : (0 ≤ f9_freeMany.toInt ∧ f9_freeMany.toInt ≤ 4)) (h_f9_arePlans : (0 ≤ f9_arePlans.toInt ∧ f9_arePlans.toInt ≤ 1)) (h_f9_planMany : (0 ≤ f9_planMany.toInt ∧ f9_planMany.toInt ≤ 194481)) (hI : IAM ai) : Met l yX9_sorts (.code yX9_sorts cX9_sorts 3 none :: TT) ({ frames := 3, cells := 0, slots := 0, locals := 140 } : Room) (PcS dC dI (TY cI cJ cII cJJ) [.ref (ad 22)] (WM cI cJ cII cJJ ad f9_size f9_equations f9_areSteps f9_foundMany f9_many f9_rank f9_freeMany f9_arePlans f9_planMany ai al) sz 0 g) (Q_r017_X9_sorts dC dI cI cJ cII cJJ ad f9_size f9_equations f9_areSteps f9_foundMany f9_many f9_rank f9_freeMany f9_arePlans f9_planMany ai al (va_A (WM cI cJ cII cJJ ad f9_size f9_equations f9_areSteps f9_foundMany f9_many f9_rank f9_freeMany f9_arePlans f9_planMany ai al) sz)) 0 0 (va_A (WM cI cJ cII cJJ ad f9_size f9_equations f9_areSteps f9_foundMany f9_many f9_rank f9_freeMany f9_arePlans f9_planMany ai al) sz) := by
  refine SM.of (y := yX9_sorts) (maxL := 3) (av := [.ref (ad 22)]) (Q_r017_X9_sorts dC dI cI cJ cII cJJ ad f9_size f9_equations f9_areSteps f9_foundMany f9_many f9_rank f9_freeMany f9_arePlans f9_planMany ai al) (by decide +kernel) (Nat.le_of_ble_eq_true rfl) (fun p e s m below meth c A ls hx hb hr hml hown hts hk hnm hA hK hP hD hS hX hl => ?_)
  have C : Cx p c s m meth (([.ref (ad 22)] : List Value).toArray) A dC dI (TY cI cJ cII cJJ) cX9_sorts none 3 RX9 0 g := ⟨hx, hb, hr, hml, hown, hts, hk, hA, hK, hX⟩
  have hown : s.vm.findClass RX9 = some m.cls := hown
  have hl : lv_has ls 3 [(0, .ref (ad 22))] := hl
  obtain ⟨H, hH⟩ : ∃ q, q = s.heap := ⟨_, rfl⟩
  rw [← hH] at hP
  have hS : va_S A s.heap H [] := by rw [hH]; exact hS
  rw [← hH]
  have hF := FR_refl [12] ai
  refine lv_iconst (v := 0) hx hb dX9_sorts_0 (by decide) ?_
  refine lv_istore_n (lv' := [(1, .int 0), (0, .ref (ad 22))]) hx hb dX9_sorts_1 rfl hl (by decide) rfl (fun ls_1 hl_1 => ?_)
  exact r017_X9_sorts_b2 C  _ 0 ai _ _ _ (by first | omega | decide | (have ka0 := (by decide +kernel : (0 : Int32).toInt = 0); omega)) (by first | omega | decide | (have ka0 := (by decide +kernel : (0 : Int32).toInt = 0); omega)) (by first | omega | decide | (have ka0 := (by decide +kernel : (0 : Int32).toInt = 0); omega)) (by first | omega | decide | (have ka0 := (by decide +kernel : (0 : Int32).toInt = 0); omega)) (by first | omega | decide | (have ka0 := (by decide +kernel : (0 : Int32).toInt = 0); omega)) (by first | omega | decide | (have ka0 := (by decide +kernel : (0 : Int32).toInt = 0); omega)) (by first | omega | decide | (have ka0 := (by decide +kernel : (0 : Int32).toInt = 0); omega)) (by first | omega | decide | (have ka0 := (by decide +kernel : (0 : Int32).toInt = 0); omega)) (by first | omega | decide | (have ka0 := (by decide +kernel : (0 : Int32).toInt = 0); omega)) (by first | omega | decide | (have ka0 := (by decide +kernel : (0 : Int32).toInt = 0); omega)) (SRT_0 (by decide)) (by have q3 := (by decide : (0 : Int32).toInt = 0); omega) (j_fuel _) (by omega) hI hF hP hD hS (lv_sub hl_1 [1, 0] rfl)
