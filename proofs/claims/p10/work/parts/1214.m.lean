def Q_r018_X9_findSteps (dC : Nat → ClassId) (dI : Nat → Nat → Nat) (cI cJ cII cJJ : ClassId) (ad : Nat → Nat) (f9_size f9_equations f9_arePlans f9_planMany : Int32) (ai0 : Nat → Nat → Int32) (al0 : Nat → Nat → Int64) (o_f9_areSteps : Int32) (o_f9_many : Int32) : (Nat → Prop) → Array Value → State → Outcome → State → Prop := fun A => QV (fun t => ∃ (n_f9_areSteps n_f9_foundMany n_f9_many n_f9_rank n_f9_freeMany : Int32), ∃ (n_ai : Nat → Nat → Int32), ∃ (n_al : Nat → Nat → Int64), ((1 ≤ n_f9_areSteps.toInt ∧ n_f9_areSteps.toInt ≤ 1) ∧ (0 ≤ n_f9_foundMany.toInt ∧ n_f9_foundMany.toInt ≤ 99999) ∧ (0 ≤ n_f9_many.toInt ∧ n_f9_many.toInt ≤ 6000) ∧ (0 ≤ n_f9_rank.toInt ∧ n_f9_rank.toInt ≤ 3) ∧ (0 ≤ n_f9_freeMany.toInt ∧ n_f9_freeMany.toInt ≤ 4) ∧ CIa n_ai f9_size n_f9_many.toInt ∧ n_f9_areSteps.toInt = 1 ∧ IAM n_ai ∧ FR [7, 8, 9, 10, 11, 12, 13, 14, 15, 16] ai0 n_ai ∧ FL [17, 18] al0 n_al) ∧ WO dC dI (TY cI cJ cII cJJ) (WM cI cJ cII cJJ ad f9_size f9_equations n_f9_areSteps n_f9_foundMany n_f9_many n_f9_rank n_f9_freeMany f9_arePlans f9_planMany n_ai n_al) A t) A
set_option maxRecDepth 100000 in
set_option maxHeartbeats 4000000 in
theorem r018_X9_findSteps_b269 {p : Program} {l : Launch} {e : Env} {s : State} {m : MethodId} {args : Array Value} {below : List Frame} {meth : Method} {c : Code} {A : Nat → Prop} {dC : Nat → ClassId} {dI : Nat → Nat → Nat} {cI cJ cII cJJ : ClassId} {ad : Nat → Nat} {g : Nat} {f9_size f9_equations f9_arePlans f9_planMany : Int32} {ai0 : Nat → Nat → Int32} {al0 : Nat → Nat → Int64} {o_f9_areSteps : Int32} {o_f9_many : Int32} (C : Cx p c s m meth args A dC dI (TY cI cJ cII cJJ) cX9_findSteps none 3 RX9 0 g) (hp0 : (o_f9_areSteps.toInt = 0 ∨ CIa ai0 f9_size o_f9_many.toInt)) : ∀ (n : Nat), ∀ (L1 L2 f9_areSteps f9_foundMany f9_many f9_rank f9_freeMany : Int32) (ai : Nat → Nat → Int32) (al : Nat → Nat → Int64) (H : Heap) (locs : List Loc) (ls : Array Slot), (1 ≤ L1.toInt ∧ L1.toInt ≤ 1296) → (0 ≤ L2.toInt ∧ L2.toInt ≤ 99999) → (1 ≤ f9_size.toInt ∧ f9_size.toInt ≤ 4) → (0 ≤ f9_equations.toInt ∧ f9_equations.toInt ≤ 3) → (1 ≤ f9_areSteps.toInt ∧ f9_areSteps.toInt ≤ 1) → (0 ≤ f9_foundMany.toInt ∧ f9_foundMany.toInt ≤ 99999) → (0 ≤ f9_many.toInt ∧ f9_many.toInt ≤ 6000) → (0 ≤ f9_rank.toInt ∧ f9_rank.toInt ≤ 3) → (1 ≤ f9_freeMany.toInt ∧ f9_freeMany.toInt ≤ 4) → (0 ≤ f9_arePlans.toInt ∧ f9_arePlans.toInt ≤ 1) → (0 ≤ f9_planMany.toInt ∧ f9_planMany.toInt ≤ 194481) → FND ai f9_size f9_rank f9_freeMany (f9_freeMany * L1) f9_foundMany.toInt → GRT f9_rank L1 → Ord f9_foundMany.toInt.toNat (gn ai) (on ai) → KPa ai f9_size f9_rank f9_freeMany (f9_freeMany * L1) L2.toInt f9_many.toInt → L2.toInt ≤ f9_foundMany.toInt → f9_foundMany.toInt - L2.toInt < (n : Int) → (0 : Int) < (n : Int) → IAM ai → FR [7, 8, 9, 10, 11, 12, 13, 14, 15, 16] ai0 ai → FL [17, 18] al0 al → va_P (dC, dI) vwCl (WM cI cJ cII cJJ ad f9_size f9_equations f9_areSteps f9_foundMany f9_many f9_rank f9_freeMany f9_arePlans f9_planMany ai al) H → va_D A (WM cI cJ cII cJJ ad f9_size f9_equations f9_areSteps f9_foundMany f9_many f9_rank f9_freeMany f9_arePlans f9_planMany ai al) → va_S A s.heap H locs → lv_has ls 3 [(0, .ref (ad 22)), (1, .int L1), (2, .int L2)] → W p l e ({ frames := 10, cells := 0, slots := 0, locals := 560 } : Room) s m args below meth c H locs 0 0 (MQ below (Q_r018_X9_findSteps dC dI cI cJ cII cJJ ad f9_size f9_equations f9_arePlans f9_planMany ai0 al0 o_f9_areSteps o_f9_many A) args s 0 0 A) (F0 m 269 ls []) := by
  obtain ⟨hx, hb, hr, hml, hown, hts, hk, hA, hK, hX⟩ := id C
  intro n
  induction n with
  | zero =>
    intro L1 L2 f9_areSteps f9_foundMany f9_many f9_rank f9_freeMany ai al H locs ls h0 h1 h2 h3 h4 h5 h6 h7 h8 h9 h10 h11 h12 h13 h14 h15 h16 h17 hI hF hG hP hD hS hl
    exact absurd h17 (by omega)
  | succ n ih =>
    intro L1 L2 f9_areSteps f9_foundMany f9_many f9_rank f9_freeMany ai al H locs ls h0 h1 h2 h3 h4 h5 h6 h7 h8 h9 h10 h11 h12 h13 h14 h15 h16 h17 hI hF hG hP hD hS hl
    refine lv_iload_n hx hb dX9_findSteps_269 rfl (lv_at hl 2 rfl) ?_
    refine lv_aload_n hx hb dX9_findSteps_270 rfl (lv_at hl 0 rfl) ?_
    refine gf (k := 21) hx hb hts inX9 hown hK hP k_816 rfl (by decide) rfl 22 rfl (.int f9_foundMany) rfl dX9_findSteps_271 ?_
    refine lv_icmp_ge (tgt := 293) hx hb dX9_findSteps_274 (by decide) (fun c1 => ?_) (fun c1 => ?_)
    · have c1 := j_le (a := f9_foundMany.toInt) (b := L2.toInt) rfl rfl c1
      refine lv_aload_n hx hb dX9_findSteps_293 rfl (lv_at hl 0 rfl) ?_
      have hM := r017_X9_sorts l dC dI cI cJ cII cJJ H.size 0 ad f9_size f9_equations f9_areSteps f9_foundMany f9_many f9_rank f9_freeMany f9_arePlans f9_planMany ai al (by omega) (by omega) (by omega) (by omega) (by omega) (by omega) (by omega) (by omega) (by omega) hI
      refine k2V_v (q0 := 22) ⟨hx, hb, hml, hown, hts⟩ hK hP hD hS hA hX cv_RX9_170 hM ⟨by decide +kernel, by decide +kernel⟩ rfl rfl (Or.inl rfl) (rest := []) rfl rfl rfl hl.1 rfl (Nat.le_of_ble_eq_true rfl) dX9_findSteps_294 ⟨Nat.le_of_ble_eq_true rfl, Nat.le_of_ble_eq_true rfl⟩ (fun t H1 locs_1 ht hB hS_1 hFc => ?_)
      obtain ⟨ai3, ⟨gpr2_0, hI_2, hFr_r2⟩, hP_2, -, hD_2⟩ := hB
      have hF_3 := FR_tr hF hFr_r2 (by decide)
      rw [ht] at hP_2
      have hD_4 := hD_2.weaken (B := A) (fun k q _ h9 => hFc q.1 h9)
      clear ht
      generalize H1 = H_5 at hP_2 hS_1 ⊢
      exact r2_v hx hb hr hk hS_1 dX9_findSteps_297 (fun t ht hW => ⟨f9_areSteps, f9_foundMany, f9_many, f9_rank, f9_freeMany, ai3, al, ⟨(by first | omega | decide | exact Or.inl (by decide) | exact Or.inr (by decide) | exact Or.inr (by omega)), (by first | omega | decide | exact Or.inl (by decide) | exact Or.inr (by decide) | exact Or.inr (by omega)), (by first | omega | decide | exact Or.inl (by decide) | exact Or.inr (by decide) | exact Or.inr (by omega)), (by first | omega | decide | exact Or.inl (by decide) | exact Or.inr (by decide) | exact Or.inr (by omega)), (by first | omega | decide | exact Or.inl (by decide) | exact Or.inr (by decide) | exact Or.inr (by omega)), (ci_ok h11 (by omega) (by omega) (by omega) h13 (by omega) h14 hFr_r2 gpr2_0), (by first | omega | decide | exact Or.inl (by decide) | exact Or.inr (by decide) | exact Or.inr (by omega)), hI_2, hF_3, hG⟩, by rw [ht]; exact hP_2, va_K.moved hW.alike hK, hD_4⟩)
    · have c1 := j_nle (a := f9_foundMany.toInt) (b := L2.toInt) rfl rfl c1
      refine lv_aload_n hx hb dX9_findSteps_277 rfl (lv_at hl 0 rfl) ?_
      refine lv_aload_n hx hb dX9_findSteps_278 rfl (lv_at hl 0 rfl) ?_
      refine gf (k := 18) hx hb hts inX9 hown hK hP k_813 rfl (by decide) rfl 22 rfl (.ref (ad 10)) rfl dX9_findSteps_279 ?_
      refine lv_iload_n hx hb dX9_findSteps_282 rfl (lv_at hl 2 rfl) ?_
      refine va_iald hx hb hK hP 10 0 rfl rfl (j_in (a := L2.toInt) rfl (by omega) (by omega)) dX9_findSteps_283 ?_
      refine lv_topi (fun z4 e_z4 => ?_)
      have g_z4 : 0 ≤ z4.toInt ∧ z4.toInt ≤ 99999 := by rw [e_z4]; exact IAM_at10 hI _
      have hM := r015_X9_leastOf l dC dI cI cJ cII cJJ H.size 0 ad f9_size f9_equations f9_areSteps f9_foundMany f9_many f9_rank f9_freeMany f9_arePlans f9_planMany ai al z4 (by omega) (by omega) (by omega) (by omega) (by omega) (by omega) (by omega) (by omega) (by omega) (by omega) (fun q => kp_lt (p := L2.toInt) hI h11 (by omega) (by omega) (by omega) (by omega) (by omega) h12 rfl h13 (by omega) (by omega) h14 (by omega) (by rw [e_z4] at q; exact q)) hI
      refine k2V_v (q0 := 22) ⟨hx, hb, hml, hown, hts⟩ hK hP hD hS hA hX cv_RX9_166 hM ⟨by decide +kernel, by decide +kernel⟩ rfl rfl (Or.inl rfl) (rest := []) rfl rfl rfl hl.1 rfl (Nat.le_of_ble_eq_true rfl) dX9_findSteps_284 ⟨Nat.le_of_ble_eq_true rfl, Nat.le_of_ble_eq_true rfl⟩ (fun t H1 locs_6 ht hB hS_6 hFc => ?_)
      obtain ⟨v6, ai7, ⟨gpr5_0, gpr5_1, hI_7, hFr_r5⟩, hP_7, -, hD_7⟩ := hB
      have hF_8 := FR_tr hF hFr_r5 (by decide)
      rw [ht] at hP_7
      have hD_9 := hD_7.weaken (B := A) (fun k q _ h9 => hFc q.1 h9)
      clear ht
      generalize H1 = H_10 at hP_7 hS_6 ⊢
      obtain ⟨z8, e_z8⟩ : ∃ q : Int32, q = L2 + Int32.ofInt 1 := ⟨_, rfl⟩
      have g_z8 : z8.toInt = L2.toInt + 1 := by rw [e_z8]; exact n_add (a := L2.toInt) (b := 1) rfl (by decide +kernel) (by omega) (by omega)
      refine lv_iinc (v := z8) (lv' := [(2, .int z8), (0, .ref (ad 22)), (1, .int L1)]) hx hb dX9_findSteps_287 hl (k := 2) rfl e_z8.symm (by decide) rfl (fun ls_11 hl_11 => ?_)
      refine lv_goto (tgt := 269) hx hb dX9_findSteps_290 (by decide) ?_
      exact ih L1 z8 f9_areSteps f9_foundMany v6 f9_rank f9_freeMany ai7 al _ _ _ (by omega) (by omega) (by omega) (by omega) (by omega) (by omega) (by omega) (by omega) (by omega) (by omega) (by omega) (FND_fr h11 hFr_r5 (by decide) (by decide)) h12 (Ord_fr h13 hFr_r5) (kp_step (p := L2.toInt) h11 (by omega) (by omega) h13 (by omega) (by omega) h14 (by omega) e_z4 hFr_r5 gpr5_1 (by omega)) (by omega) (by omega) (by omega) hI_7 hF_8 hG hP_7 hD_9 hS_6 (lv_sub hl_11 [1, 2, 0] rfl)
set_option maxRecDepth 100000 in
set_option maxHeartbeats 4000000 in
theorem r018_X9_findSteps_b225 {p : Program} {l : Launch} {e : Env} {s : State} {m : MethodId} {args : Array Value} {below : List Frame} {meth : Method} {c : Code} {A : Nat → Prop} {dC : Nat → ClassId} {dI : Nat → Nat → Nat} {cI cJ cII cJJ : ClassId} {ad : Nat → Nat} {g : Nat} {f9_size f9_equations f9_arePlans f9_planMany : Int32} {ai0 : Nat → Nat → Int32} {al0 : Nat → Nat → Int64} {o_f9_areSteps : Int32} {o_f9_many : Int32} (C : Cx p c s m meth args A dC dI (TY cI cJ cII cJJ) cX9_findSteps none 3 RX9 0 g) (hp0 : (o_f9_areSteps.toInt = 0 ∨ CIa ai0 f9_size o_f9_many.toInt)) : ∀ (n : Nat), ∀ (L1 L2 f9_areSteps f9_foundMany f9_many f9_rank f9_freeMany : Int32) (ai : Nat → Nat → Int32) (al : Nat → Nat → Int64) (H : Heap) (locs : List Loc) (ls : Array Slot), (1 ≤ L1.toInt ∧ L1.toInt ≤ 1296) → (-1 ≤ L2.toInt ∧ L2.toInt ≤ 99998) → (1 ≤ f9_size.toInt ∧ f9_size.toInt ≤ 4) → (0 ≤ f9_equations.toInt ∧ f9_equations.toInt ≤ 3) → (1 ≤ f9_areSteps.toInt ∧ f9_areSteps.toInt ≤ 1) → (0 ≤ f9_foundMany.toInt ∧ f9_foundMany.toInt ≤ 99999) → (0 ≤ f9_many.toInt ∧ f9_many.toInt ≤ 0) → (0 ≤ f9_rank.toInt ∧ f9_rank.toInt ≤ 3) → (1 ≤ f9_freeMany.toInt ∧ f9_freeMany.toInt ≤ 4) → (0 ≤ f9_arePlans.toInt ∧ f9_arePlans.toInt ≤ 1) → (0 ≤ f9_planMany.toInt ∧ f9_planMany.toInt ≤ 194481) → FND ai f9_size f9_rank f9_freeMany (f9_freeMany * L1) f9_foundMany.toInt → GRT f9_rank L1 → f9_many.toInt = 0 → PL ai f9_foundMany.toInt L2.toInt → L2.toInt < f9_foundMany.toInt → L2.toInt + 1 < (n : Int) → (0 : Int) < (n : Int) → IAM ai → FR [7, 8, 9, 10, 11, 12, 13, 14, 15, 16] ai0 ai → FL [17, 18] al0 al → va_P (dC, dI) vwCl (WM cI cJ cII cJJ ad f9_size f9_equations f9_areSteps f9_foundMany f9_many f9_rank f9_freeMany f9_arePlans f9_planMany ai al) H → va_D A (WM cI cJ cII cJJ ad f9_size f9_equations f9_areSteps f9_foundMany f9_many f9_rank f9_freeMany f9_arePlans f9_planMany ai al) → va_S A s.heap H locs → lv_has ls 3 [(0, .ref (ad 22)), (1, .int L1), (2, .int L2)] → W p l e ({ frames := 10, cells := 0, slots := 0, locals := 560 } : Room) s m args below meth c H locs 0 0 (MQ below (Q_r018_X9_findSteps dC dI cI cJ cII cJJ ad f9_size f9_equations f9_arePlans f9_planMany ai0 al0 o_f9_areSteps o_f9_many A) args s 0 0 A) (F0 m 225 ls []) := by
  obtain ⟨hx, hb, hr, hml, hown, hts, hk, hA, hK, hX⟩ := id C
  intro n
  induction n with
  | zero =>
    intro L1 L2 f9_areSteps f9_foundMany f9_many f9_rank f9_freeMany ai al H locs ls h0 h1 h2 h3 h4 h5 h6 h7 h8 h9 h10 h11 h12 h13 h14 h15 h16 h17 hI hF hG hP hD hS hl
    exact absurd h17 (by omega)
  | succ n ih =>
    intro L1 L2 f9_areSteps f9_foundMany f9_many f9_rank f9_freeMany ai al H locs ls h0 h1 h2 h3 h4 h5 h6 h7 h8 h9 h10 h11 h12 h13 h14 h15 h16 h17 hI hF hG hP hD hS hl
    refine lv_iload_n hx hb dX9_findSteps_225 rfl (lv_at hl 2 rfl) ?_
    refine lv_if_lt (tgt := 267) hx hb dX9_findSteps_226 (by decide) (fun c1 => ?_) (fun c1 => ?_)
    · have c1 := j_lt (a := L2.toInt) (b := 0) rfl (by decide +kernel) c1
      refine lv_iconst (v := 0) hx hb dX9_findSteps_267 (by decide) ?_
      refine lv_istore_n (lv' := [(2, .int 0), (0, .ref (ad 22)), (1, .int L1)]) hx hb dX9_findSteps_268 rfl hl (by decide) rfl (fun ls_1 hl_1 => ?_)
      exact r018_X9_findSteps_b269 C hp0  _ L1 0 f9_areSteps f9_foundMany f9_many f9_rank f9_freeMany ai al _ _ _ (by first | omega | decide | (have ka0 := (by decide +kernel : (0 : Int32).toInt = 0); omega)) (by first | omega | decide | (have ka0 := (by decide +kernel : (0 : Int32).toInt = 0); omega)) (by first | omega | decide | (have ka0 := (by decide +kernel : (0 : Int32).toInt = 0); omega)) (by first | omega | decide | (have ka0 := (by decide +kernel : (0 : Int32).toInt = 0); omega)) (by first | omega | decide | (have ka0 := (by decide +kernel : (0 : Int32).toInt = 0); omega)) (by first | omega | decide | (have ka0 := (by decide +kernel : (0 : Int32).toInt = 0); omega)) (by first | omega | decide | (have ka0 := (by decide +kernel : (0 : Int32).toInt = 0); omega)) (by first | omega | decide | (have ka0 := (by decide +kernel : (0 : Int32).toInt = 0); omega)) (by first | omega | decide | (have ka0 := (by decide +kernel : (0 : Int32).toInt = 0); omega)) (by first | omega | decide | (have ka0 := (by decide +kernel : (0 : Int32).toInt = 0); omega)) (by first | omega | decide | (have ka0 := (by decide +kernel : (0 : Int32).toInt = 0); omega)) h11 h12 (PL_ord h14 (by omega)) (KPa_0 (by decide) (by omega)) (by have q3 := (by decide : (0 : Int32).toInt = 0); omega) (j_fuel _) (by omega) hI hF hG hP hD hS (lv_sub hl_1 [1, 2, 0] rfl)
    · have c1 := j_nlt (a := L2.toInt) (b := 0) rfl (by decide +kernel) c1
      refine lv_aload_n hx hb dX9_findSteps_229 rfl (lv_at hl 0 rfl) ?_
      refine gf (k := 17) hx hb hts inX9 hown hK hP k_812 rfl (by decide) rfl 22 rfl (.ref (ad 9)) rfl dX9_findSteps_230 ?_
      refine lv_aload_n hx hb dX9_findSteps_233 rfl (lv_at hl 0 rfl) ?_
      refine gf (k := 16) hx hb hts inX9 hown hK hP k_811 rfl (by decide) rfl 22 rfl (.ref (ad 8)) rfl dX9_findSteps_234 ?_
      refine lv_iload_n hx hb dX9_findSteps_237 rfl (lv_at hl 2 rfl) ?_
      refine va_iald hx hb hK hP 8 0 rfl rfl (j_in (a := L2.toInt) rfl (by omega) (by omega)) dX9_findSteps_238 ?_
      refine lv_topi (fun z2 e_z2 => ?_)
      have g_z2 : 0 ≤ z2.toInt ∧ z2.toInt ≤ 6000 := by rw [e_z2]; exact IAM_at8 hI _
      refine lv_dup2_11 hx hb dX9_findSteps_239 rfl rfl ?_
      refine va_iald hx hb hK hP 9 0 rfl rfl (j_in (a := z2.toInt) rfl (by omega) (by omega)) dX9_findSteps_240 ?_
      refine lv_topi (fun z3 e_z3 => ?_)
      have g_z3 : z3.toInt = ps f9_foundMany.toInt.toNat (gn ai) L2.toInt.toNat + 1 ∧ 0 ≤ ps f9_foundMany.toInt.toNat (gn ai) L2.toInt.toNat ∧ ps f9_foundMany.toInt.toNat (gn ai) L2.toInt.toNat < f9_foundMany.toInt := by rw [e_z3]; exact PL_at h14 (by omega) (by omega) e_z2 (by omega) (by omega)
      refine lv_iconst (v := 1) hx hb dX9_findSteps_241 (by decide) ?_
      refine v_isub hx hb dX9_findSteps_242 _ rfl ?_
      refine lv_topi (fun z4 e_z4 => ?_)
      have g_z4 : z4.toInt = z3.toInt - 1 := by rw [e_z4]; exact n_sub (a := z3.toInt) (b := 1) rfl (by decide +kernel) (by omega) (by omega)
      refine va_iast hx hb hK hP hD hS 9 0 rfl rfl (j_in (a := z2.toInt) rfl (by omega) (by omega)) dX9_findSteps_243 (fun H_2 locs_2 hP_2 hD_2 hS_2 => ?_)
      obtain ⟨ai5, e_ai5⟩ : ∃ q : Nat → Nat → Int32, q = va_up ai 9 (upd (ai 9) z2.toNatClampNeg z4) := ⟨_, rfl⟩
      have hF_3 := FR_st hF e_ai5 (by decide)
      have hI_4 : IAM ai5 := by rw [e_ai5]; exact hI
      have hP_5 : va_P (dC, dI) vwCl (WM cI cJ cII cJJ ad f9_size f9_equations f9_areSteps f9_foundMany f9_many f9_rank f9_freeMany f9_arePlans f9_planMany ai5 al) H_2 := by rw [e_ai5]; exact hP_2
      have hD_6 : va_D A (WM cI cJ cII cJJ ad f9_size f9_equations f9_areSteps f9_foundMany f9_many f9_rank f9_freeMany f9_arePlans f9_planMany ai5 al) := by rw [e_ai5]; exact hD_2
      refine lv_aload_n hx hb dX9_findSteps_244 rfl (lv_at hl 0 rfl) ?_
      refine gf (k := 18) hx hb hts inX9 hown hK hP_5 k_813 rfl (by decide) rfl 22 rfl (.ref (ad 10)) rfl dX9_findSteps_245 ?_
      refine lv_aload_n hx hb dX9_findSteps_248 rfl (lv_at hl 0 rfl) ?_
      refine gf (k := 17) hx hb hts inX9 hown hK hP_5 k_812 rfl (by decide) rfl 22 rfl (.ref (ad 9)) rfl dX9_findSteps_249 ?_
      refine lv_aload_n hx hb dX9_findSteps_252 rfl (lv_at hl 0 rfl) ?_
      refine gf (k := 16) hx hb hts inX9 hown hK hP_5 k_811 rfl (by decide) rfl 22 rfl (.ref (ad 8)) rfl dX9_findSteps_253 ?_
      refine lv_iload_n hx hb dX9_findSteps_256 rfl (lv_at hl 2 rfl) ?_
      refine va_iald hx hb hK hP_5 8 0 rfl rfl (j_in (a := L2.toInt) rfl (by omega) (by omega)) dX9_findSteps_257 ?_
      refine lv_topi (fun z6 e_z6 => ?_)
      have g_z6 : 0 ≤ z6.toInt ∧ z6.toInt ≤ 6000 := by rw [e_z6]; exact IAM_at8 hI_4 _
      refine va_iald hx hb hK hP_5 9 0 rfl rfl (j_in (a := z6.toInt) rfl (by omega) (by omega)) dX9_findSteps_258 ?_
      refine lv_topi (fun z7 e_z7 => ?_)
      have q_4 : z6 = z2 := by rw [e_z6, up_ne e_ai5 (by decide), e_z2]
      have g_z7 : z7.toInt = ps f9_foundMany.toInt.toNat (gn ai) L2.toInt.toNat := by rw [e_z7, q_4, up_at e_ai5, if_pos (show z2.toNatClampNeg = z2.toInt.toNat from rfl)]; omega
      refine lv_iload_n hx hb dX9_findSteps_259 rfl (lv_at hl 2 rfl) ?_
      refine va_iast hx hb hK hP_5 hD_6 hS_2 10 0 rfl rfl (j_in (a := z7.toInt) rfl (by omega) (by omega)) dX9_findSteps_260 (fun H_7 locs_7 hP_7 hD_7 hS_7 => ?_)
      obtain ⟨ai8, e_ai8⟩ : ∃ q : Nat → Nat → Int32, q = va_up ai5 10 (upd (ai5 10) z7.toNatClampNeg L2) := ⟨_, rfl⟩
      have hF_8 := FR_st hF_3 e_ai8 (by decide)
      have hI_9 : IAM ai8 := by rw [e_ai8]; exact IAM_st10 hI_4 (a := L2.toInt) rfl (by omega) (by omega)
      have hP_10 : va_P (dC, dI) vwCl (WM cI cJ cII cJJ ad f9_size f9_equations f9_areSteps f9_foundMany f9_many f9_rank f9_freeMany f9_arePlans f9_planMany ai8 al) H_7 := by rw [e_ai8]; exact hP_7
      have hD_11 : va_D A (WM cI cJ cII cJJ ad f9_size f9_equations f9_areSteps f9_foundMany f9_many f9_rank f9_freeMany f9_arePlans f9_planMany ai8 al) := by rw [e_ai8]; exact hD_7
      obtain ⟨z9, e_z9⟩ : ∃ q : Int32, q = L2 + Int32.ofInt (-1) := ⟨_, rfl⟩
      have g_z9 : z9.toInt = L2.toInt + (-1) := by rw [e_z9]; exact n_add (a := L2.toInt) (b := (-1)) rfl (by decide +kernel) (by omega) (by omega)
      refine lv_iinc (v := z9) (lv' := [(2, .int z9), (0, .ref (ad 22)), (1, .int L1)]) hx hb dX9_findSteps_261 hl (k := 2) rfl e_z9.symm (by decide) rfl (fun ls_12 hl_12 => ?_)
      refine lv_goto (tgt := 225) hx hb dX9_findSteps_264 (by decide) ?_
      exact ih L1 z9 f9_areSteps f9_foundMany f9_many f9_rank f9_freeMany ai8 al _ _ _ (by omega) (by omega) (by omega) (by omega) (by omega) (by omega) (by omega) (by omega) (by omega) (by omega) (by omega) (FND_fr (FND_fr h11 (FRu e_ai5) (by decide) (by decide)) (FRu e_ai8) (by decide) (by decide)) h12 (by omega) (PL_st (k := L2) (z := z2) h14 (by omega) (by omega) e_z2 (by omega) (by omega) e_ai5 (by rw [g_z4, e_z3]; rfl) g_z7 e_ai8 (by omega)) (by omega) (by omega) (by omega) hI_9 hF_8 hG hP_10 hD_11 hS_7 (lv_sub hl_12 [1, 2, 0] rfl)
set_option maxRecDepth 100000 in
set_option maxHeartbeats 4000000 in
theorem r018_X9_findSteps_b188 {p : Program} {l : Launch} {e : Env} {s : State} {m : MethodId} {args : Array Value} {below : List Frame} {meth : Method} {c : Code} {A : Nat → Prop} {dC : Nat → ClassId} {dI : Nat → Nat → Nat} {cI cJ cII cJJ : ClassId} {ad : Nat → Nat} {g : Nat} {f9_size f9_equations f9_arePlans f9_planMany : Int32} {ai0 : Nat → Nat → Int32} {al0 : Nat → Nat → Int64} {o_f9_areSteps : Int32} {o_f9_many : Int32} (C : Cx p c s m meth args A dC dI (TY cI cJ cII cJJ) cX9_findSteps none 3 RX9 0 g) (hp0 : (o_f9_areSteps.toInt = 0 ∨ CIa ai0 f9_size o_f9_many.toInt)) : ∀ (n : Nat), ∀ (L1 L2 f9_areSteps f9_foundMany f9_many f9_rank f9_freeMany : Int32) (ai : Nat → Nat → Int32) (al : Nat → Nat → Int64) (H : Heap) (locs : List Loc) (ls : Array Slot), (1 ≤ L1.toInt ∧ L1.toInt ≤ 1296) → (1 ≤ L2.toInt ∧ L2.toInt ≤ 6001) → (1 ≤ f9_size.toInt ∧ f9_size.toInt ≤ 4) → (0 ≤ f9_equations.toInt ∧ f9_equations.toInt ≤ 3) → (1 ≤ f9_areSteps.toInt ∧ f9_areSteps.toInt ≤ 1) → (0 ≤ f9_foundMany.toInt ∧ f9_foundMany.toInt ≤ 99999) → (0 ≤ f9_many.toInt ∧ f9_many.toInt ≤ 0) → (0 ≤ f9_rank.toInt ∧ f9_rank.toInt ≤ 3) → (1 ≤ f9_freeMany.toInt ∧ f9_freeMany.toInt ≤ 4) → (0 ≤ f9_arePlans.toInt ∧ f9_arePlans.toInt ≤ 1) → (0 ≤ f9_planMany.toInt ∧ f9_planMany.toInt ≤ 194481) → FND ai f9_size f9_rank f9_freeMany (f9_freeMany * L1) f9_foundMany.toInt → GRT f9_rank L1 → f9_many.toInt = 0 → CP ai f9_foundMany.toInt L2.toInt → 6000 + 1 - L2.toInt < (n : Int) → (0 : Int) < (n : Int) → IAM ai → FR [7, 8, 9, 10, 11, 12, 13, 14, 15, 16] ai0 ai → FL [17, 18] al0 al → va_P (dC, dI) vwCl (WM cI cJ cII cJJ ad f9_size f9_equations f9_areSteps f9_foundMany f9_many f9_rank f9_freeMany f9_arePlans f9_planMany ai al) H → va_D A (WM cI cJ cII cJJ ad f9_size f9_equations f9_areSteps f9_foundMany f9_many f9_rank f9_freeMany f9_arePlans f9_planMany ai al) → va_S A s.heap H locs → lv_has ls 3 [(0, .ref (ad 22)), (1, .int L1), (2, .int L2)] → W p l e ({ frames := 10, cells := 0, slots := 0, locals := 560 } : Room) s m args below meth c H locs 0 0 (MQ below (Q_r018_X9_findSteps dC dI cI cJ cII cJJ ad f9_size f9_equations f9_arePlans f9_planMany ai0 al0 o_f9_areSteps o_f9_many A) args s 0 0 A) (F0 m 188 ls []) := by
  obtain ⟨hx, hb, hr, hml, hown, hts, hk, hA, hK, hX⟩ := id C
  intro n
  induction n with
  | zero =>
    intro L1 L2 f9_areSteps f9_foundMany f9_many f9_rank f9_freeMany ai al H locs ls h0 h1 h2 h3 h4 h5 h6 h7 h8 h9 h10 h11 h12 h13 h14 h15 h16 hI hF hG hP hD hS hl
    exact absurd h16 (by omega)
  | succ n ih =>
    intro L1 L2 f9_areSteps f9_foundMany f9_many f9_rank f9_freeMany ai al H locs ls h0 h1 h2 h3 h4 h5 h6 h7 h8 h9 h10 h11 h12 h13 h14 h15 h16 hI hF hG hP hD hS hl
    refine lv_iload_n hx hb dX9_findSteps_188 rfl (lv_at hl 2 rfl) ?_
    refine lv_sipush (v := 6000) hx hb dX9_findSteps_189 (by decide) ?_
    refine lv_icmp_gt (tgt := 218) hx hb dX9_findSteps_192 (by decide) (fun c1 => ?_) (fun c1 => ?_)
    · have c1 := j_lt (a := 6000) (b := L2.toInt) (by decide +kernel) rfl c1
      refine lv_aload_n hx hb dX9_findSteps_218 rfl (lv_at hl 0 rfl) ?_
      refine gf (k := 21) hx hb hts inX9 hown hK hP k_816 rfl (by decide) rfl 22 rfl (.int f9_foundMany) rfl dX9_findSteps_219 ?_
      refine lv_iconst (v := 1) hx hb dX9_findSteps_222 (by decide) ?_
      refine v_isub hx hb dX9_findSteps_223 _ rfl ?_
      refine lv_topi (fun z2 e_z2 => ?_)
      have g_z2 : z2.toInt = f9_foundMany.toInt - 1 := by rw [e_z2]; exact n_sub (a := f9_foundMany.toInt) (b := 1) rfl (by decide +kernel) (by omega) (by omega)
      refine lv_istore_n (lv' := [(2, .int z2), (0, .ref (ad 22)), (1, .int L1)]) hx hb dX9_findSteps_224 rfl hl (by decide) rfl (fun ls_1 hl_1 => ?_)
      exact r018_X9_findSteps_b225 C hp0  _ L1 z2 f9_areSteps f9_foundMany f9_many f9_rank f9_freeMany ai al _ _ _ (by omega) (by omega) (by omega) (by omega) (by omega) (by omega) (by omega) (by omega) (by omega) (by omega) (by omega) h11 h12 (by omega) (PL_0 h14 (by omega) (by omega)) (by omega) (j_fuel _) (by omega) hI hF hG hP hD hS (lv_sub hl_1 [1, 2, 0] rfl)
    · have c1 := j_nlt (a := 6000) (b := L2.toInt) (by decide +kernel) rfl c1
      refine lv_aload_n hx hb dX9_findSteps_195 rfl (lv_at hl 0 rfl) ?_
      refine gf (k := 17) hx hb hts inX9 hown hK hP k_812 rfl (by decide) rfl 22 rfl (.ref (ad 9)) rfl dX9_findSteps_196 ?_
      refine lv_iload_n hx hb dX9_findSteps_199 rfl (lv_at hl 2 rfl) ?_
      refine lv_dup2_11 hx hb dX9_findSteps_200 rfl rfl ?_
      refine va_iald hx hb hK hP 9 0 rfl rfl (j_in (a := L2.toInt) rfl (by omega) (by omega)) dX9_findSteps_201 ?_
      refine lv_topi (fun z3 e_z3 => ?_)
      have g_z3 : 0 ≤ z3.toInt ∧ z3.toInt ≤ 99999 := by have q := CP_b h14 (by omega) (v := L2.toInt.toNat) (by omega); rw [e_z3]; show 0 ≤ (ai 9 L2.toInt.toNat).toInt ∧ (ai 9 L2.toInt.toNat).toInt ≤ 99999; omega
      refine lv_aload_n hx hb dX9_findSteps_202 rfl (lv_at hl 0 rfl) ?_
      refine gf (k := 17) hx hb hts inX9 hown hK hP k_812 rfl (by decide) rfl 22 rfl (.ref (ad 9)) rfl dX9_findSteps_203 ?_
      refine lv_iload_n hx hb dX9_findSteps_206 rfl (lv_at hl 2 rfl) ?_
      refine lv_iconst (v := 1) hx hb dX9_findSteps_207 (by decide) ?_
      refine v_isub hx hb dX9_findSteps_208 _ rfl ?_
      refine lv_topi (fun z4 e_z4 => ?_)
      have g_z4 : z4.toInt = L2.toInt - 1 := by rw [e_z4]; exact n_sub (a := L2.toInt) (b := 1) rfl (by decide +kernel) (by omega) (by omega)
      refine va_iald hx hb hK hP 9 0 rfl rfl (j_in (a := z4.toInt) rfl (by omega) (by omega)) dX9_findSteps_209 ?_
      refine lv_topi (fun z5 e_z5 => ?_)
      have g_z5 : 0 ≤ z5.toInt ∧ z5.toInt ≤ 99999 := by have q := CP_b h14 (by omega) (v := z4.toInt.toNat) (by omega); rw [e_z5]; show 0 ≤ (ai 9 z4.toInt.toNat).toInt ∧ (ai 9 z4.toInt.toNat).toInt ≤ 99999; omega
      refine v_iadd hx hb dX9_findSteps_210 _ rfl ?_
      refine lv_topi (fun z6 e_z6 => ?_)
      have g_z6 : z6.toInt = z3.toInt + z5.toInt := by rw [e_z6]; exact n_add (a := z3.toInt) (b := z5.toInt) rfl rfl (by omega) (by omega)
      refine va_iast hx hb hK hP hD hS 9 0 rfl rfl (j_in (a := L2.toInt) rfl (by omega) (by omega)) dX9_findSteps_211 (fun H_2 locs_2 hP_2 hD_2 hS_2 => ?_)
      obtain ⟨ai7, e_ai7⟩ : ∃ q : Nat → Nat → Int32, q = va_up ai 9 (upd (ai 9) L2.toNatClampNeg z6) := ⟨_, rfl⟩
      have hF_3 := FR_st hF e_ai7 (by decide)
      have hI_4 : IAM ai7 := by rw [e_ai7]; exact hI
      have hP_5 : va_P (dC, dI) vwCl (WM cI cJ cII cJJ ad f9_size f9_equations f9_areSteps f9_foundMany f9_many f9_rank f9_freeMany f9_arePlans f9_planMany ai7 al) H_2 := by rw [e_ai7]; exact hP_2
      have hD_6 : va_D A (WM cI cJ cII cJJ ad f9_size f9_equations f9_areSteps f9_foundMany f9_many f9_rank f9_freeMany f9_arePlans f9_planMany ai7 al) := by rw [e_ai7]; exact hD_2
      obtain ⟨z8, e_z8⟩ : ∃ q : Int32, q = L2 + Int32.ofInt 1 := ⟨_, rfl⟩
      have g_z8 : z8.toInt = L2.toInt + 1 := by rw [e_z8]; exact n_add (a := L2.toInt) (b := 1) rfl (by decide +kernel) (by omega) (by omega)
      refine lv_iinc (v := z8) (lv' := [(2, .int z8), (0, .ref (ad 22)), (1, .int L1)]) hx hb dX9_findSteps_212 hl (k := 2) rfl e_z8.symm (by decide) rfl (fun ls_7 hl_7 => ?_)
      refine lv_goto (tgt := 188) hx hb dX9_findSteps_215 (by decide) ?_
      exact ih L1 z8 f9_areSteps f9_foundMany f9_many f9_rank f9_freeMany ai7 al _ _ _ (by omega) (by omega) (by omega) (by omega) (by omega) (by omega) (by omega) (by omega) (by omega) (by omega) (by omega) (FND_fr h11 (FRu e_ai7) (by decide) (by decide)) h12 (by omega) (CP_st (n := L2) h14 (by omega) (by omega) e_ai7 (by rw [g_z6, e_z3, e_z5]; show (ai 9 L2.toInt.toNat).toInt + (ai 9 z4.toInt.toNat).toInt = _; rw [show z4.toInt = L2.toInt - 1 by omega]) (by omega)) (by omega) (by omega) hI_4 hF_3 hG hP_5 hD_6 hS_2 (lv_sub hl_7 [1, 2, 0] rfl)
set_option maxRecDepth 100000 in
set_option maxHeartbeats 4000000 in
theorem r018_X9_findSteps_b157 {p : Program} {l : Launch} {e : Env} {s : State} {m : MethodId} {args : Array Value} {below : List Frame} {meth : Method} {c : Code} {A : Nat → Prop} {dC : Nat → ClassId} {dI : Nat → Nat → Nat} {cI cJ cII cJJ : ClassId} {ad : Nat → Nat} {g : Nat} {f9_size f9_equations f9_arePlans f9_planMany : Int32} {ai0 : Nat → Nat → Int32} {al0 : Nat → Nat → Int64} {o_f9_areSteps : Int32} {o_f9_many : Int32} (C : Cx p c s m meth args A dC dI (TY cI cJ cII cJJ) cX9_findSteps none 3 RX9 0 g) (hp0 : (o_f9_areSteps.toInt = 0 ∨ CIa ai0 f9_size o_f9_many.toInt)) : ∀ (n : Nat), ∀ (L1 L2 f9_areSteps f9_foundMany f9_many f9_rank f9_freeMany : Int32) (ai : Nat → Nat → Int32) (al : Nat → Nat → Int64) (H : Heap) (locs : List Loc) (ls : Array Slot), (1 ≤ L1.toInt ∧ L1.toInt ≤ 1296) → (0 ≤ L2.toInt ∧ L2.toInt ≤ 99999) → (1 ≤ f9_size.toInt ∧ f9_size.toInt ≤ 4) → (0 ≤ f9_equations.toInt ∧ f9_equations.toInt ≤ 3) → (1 ≤ f9_areSteps.toInt ∧ f9_areSteps.toInt ≤ 1) → (0 ≤ f9_foundMany.toInt ∧ f9_foundMany.toInt ≤ 99999) → (0 ≤ f9_many.toInt ∧ f9_many.toInt ≤ 0) → (0 ≤ f9_rank.toInt ∧ f9_rank.toInt ≤ 3) → (1 ≤ f9_freeMany.toInt ∧ f9_freeMany.toInt ≤ 4) → (0 ≤ f9_arePlans.toInt ∧ f9_arePlans.toInt ≤ 1) → (0 ≤ f9_planMany.toInt ∧ f9_planMany.toInt ≤ 194481) → FND ai f9_size f9_rank f9_freeMany (f9_freeMany * L1) f9_foundMany.toInt → GRT f9_rank L1 → f9_many.toInt = 0 → CT ai L2.toInt → L2.toInt ≤ f9_foundMany.toInt → f9_foundMany.toInt - L2.toInt < (n : Int) → (0 : Int) < (n : Int) → IAM ai → FR [7, 8, 9, 10, 11, 12, 13, 14, 15, 16] ai0 ai → FL [17, 18] al0 al → va_P (dC, dI) vwCl (WM cI cJ cII cJJ ad f9_size f9_equations f9_areSteps f9_foundMany f9_many f9_rank f9_freeMany f9_arePlans f9_planMany ai al) H → va_D A (WM cI cJ cII cJJ ad f9_size f9_equations f9_areSteps f9_foundMany f9_many f9_rank f9_freeMany f9_arePlans f9_planMany ai al) → va_S A s.heap H locs → lv_has ls 3 [(0, .ref (ad 22)), (1, .int L1), (2, .int L2)] → W p l e ({ frames := 10, cells := 0, slots := 0, locals := 560 } : Room) s m args below meth c H locs 0 0 (MQ below (Q_r018_X9_findSteps dC dI cI cJ cII cJJ ad f9_size f9_equations f9_arePlans f9_planMany ai0 al0 o_f9_areSteps o_f9_many A) args s 0 0 A) (F0 m 157 ls []) := by
  obtain ⟨hx, hb, hr, hml, hown, hts, hk, hA, hK, hX⟩ := id C
  intro n
  induction n with
  | zero =>
    intro L1 L2 f9_areSteps f9_foundMany f9_many f9_rank f9_freeMany ai al H locs ls h0 h1 h2 h3 h4 h5 h6 h7 h8 h9 h10 h11 h12 h13 h14 h15 h16 h17 hI hF hG hP hD hS hl
    exact absurd h17 (by omega)
  | succ n ih =>
    intro L1 L2 f9_areSteps f9_foundMany f9_many f9_rank f9_freeMany ai al H locs ls h0 h1 h2 h3 h4 h5 h6 h7 h8 h9 h10 h11 h12 h13 h14 h15 h16 h17 hI hF hG hP hD hS hl
    refine lv_iload_n hx hb dX9_findSteps_157 rfl (lv_at hl 2 rfl) ?_
    refine lv_aload_n hx hb dX9_findSteps_158 rfl (lv_at hl 0 rfl) ?_
    refine gf (k := 21) hx hb hts inX9 hown hK hP k_816 rfl (by decide) rfl 22 rfl (.int f9_foundMany) rfl dX9_findSteps_159 ?_
    refine lv_icmp_ge (tgt := 186) hx hb dX9_findSteps_162 (by decide) (fun c1 => ?_) (fun c1 => ?_)
    · have c1 := j_le (a := f9_foundMany.toInt) (b := L2.toInt) rfl rfl c1
      refine lv_iconst (v := 1) hx hb dX9_findSteps_186 (by decide) ?_
      refine lv_istore_n (lv' := [(2, .int 1), (0, .ref (ad 22)), (1, .int L1)]) hx hb dX9_findSteps_187 rfl hl (by decide) rfl (fun ls_1 hl_1 => ?_)
      exact r018_X9_findSteps_b188 C hp0  _ L1 1 f9_areSteps f9_foundMany f9_many f9_rank f9_freeMany ai al _ _ _ (by first | omega | decide | (have ka0 := (by decide +kernel : (1 : Int32).toInt = 1); omega)) (by first | omega | decide | (have ka0 := (by decide +kernel : (1 : Int32).toInt = 1); omega)) (by first | omega | decide | (have ka0 := (by decide +kernel : (1 : Int32).toInt = 1); omega)) (by first | omega | decide | (have ka0 := (by decide +kernel : (1 : Int32).toInt = 1); omega)) (by first | omega | decide | (have ka0 := (by decide +kernel : (1 : Int32).toInt = 1); omega)) (by first | omega | decide | (have ka0 := (by decide +kernel : (1 : Int32).toInt = 1); omega)) (by first | omega | decide | (have ka0 := (by decide +kernel : (1 : Int32).toInt = 1); omega)) (by first | omega | decide | (have ka0 := (by decide +kernel : (1 : Int32).toInt = 1); omega)) (by first | omega | decide | (have ka0 := (by decide +kernel : (1 : Int32).toInt = 1); omega)) (by first | omega | decide | (have ka0 := (by decide +kernel : (1 : Int32).toInt = 1); omega)) (by first | omega | decide | (have ka0 := (by decide +kernel : (1 : Int32).toInt = 1); omega)) h11 h12 (by first | omega | decide | (have ka0 := (by decide +kernel : (1 : Int32).toInt = 1); omega)) (CP_1 hI h14 (by omega) (by decide)) (j_fuel _) (by omega) hI hF hG hP hD hS (lv_sub hl_1 [1, 2, 0] rfl)
    · have c1 := j_nle (a := f9_foundMany.toInt) (b := L2.toInt) rfl rfl c1
      refine lv_aload_n hx hb dX9_findSteps_165 rfl (lv_at hl 0 rfl) ?_
      refine gf (k := 17) hx hb hts inX9 hown hK hP k_812 rfl (by decide) rfl 22 rfl (.ref (ad 9)) rfl dX9_findSteps_166 ?_
      refine lv_aload_n hx hb dX9_findSteps_169 rfl (lv_at hl 0 rfl) ?_
      refine gf (k := 16) hx hb hts inX9 hown hK hP k_811 rfl (by decide) rfl 22 rfl (.ref (ad 8)) rfl dX9_findSteps_170 ?_
      refine lv_iload_n hx hb dX9_findSteps_173 rfl (lv_at hl 2 rfl) ?_
      refine va_iald hx hb hK hP 8 0 rfl rfl (j_in (a := L2.toInt) rfl (by omega) (by omega)) dX9_findSteps_174 ?_
      refine lv_topi (fun z2 e_z2 => ?_)
      have g_z2 : 0 ≤ z2.toInt ∧ z2.toInt ≤ 6000 := by rw [e_z2]; exact IAM_at8 hI _
      refine lv_dup2_11 hx hb dX9_findSteps_175 rfl rfl ?_
      refine va_iald hx hb hK hP 9 0 rfl rfl (j_in (a := z2.toInt) rfl (by omega) (by omega)) dX9_findSteps_176 ?_
      refine lv_topi (fun z3 e_z3 => ?_)
      have g_z3 : 0 ≤ z3.toInt ∧ z3.toInt ≤ 99999 := by have q := h14 z2.toInt.toNat (by omega); have q2 := cnt_b L2.toInt.toNat (gn ai) (z2.toInt.toNat : Int); rw [← q] at q2; rw [e_z3]; show 0 ≤ (ai 9 z2.toInt.toNat).toInt ∧ (ai 9 z2.toInt.toNat).toInt ≤ 99999; omega
      refine lv_iconst (v := 1) hx hb dX9_findSteps_177 (by decide) ?_
      refine v_iadd hx hb dX9_findSteps_178 _ rfl ?_
      refine lv_topi (fun z4 e_z4 => ?_)
      have g_z4 : z4.toInt = z3.toInt + 1 := by rw [e_z4]; exact n_add (a := z3.toInt) (b := 1) rfl (by decide +kernel) (by omega) (by omega)
      refine va_iast hx hb hK hP hD hS 9 0 rfl rfl (j_in (a := z2.toInt) rfl (by omega) (by omega)) dX9_findSteps_179 (fun H_2 locs_2 hP_2 hD_2 hS_2 => ?_)
      obtain ⟨ai5, e_ai5⟩ : ∃ q : Nat → Nat → Int32, q = va_up ai 9 (upd (ai 9) z2.toNatClampNeg z4) := ⟨_, rfl⟩
      have hF_3 := FR_st hF e_ai5 (by decide)
      have hI_4 : IAM ai5 := by rw [e_ai5]; exact hI
      have hP_5 : va_P (dC, dI) vwCl (WM cI cJ cII cJJ ad f9_size f9_equations f9_areSteps f9_foundMany f9_many f9_rank f9_freeMany f9_arePlans f9_planMany ai5 al) H_2 := by rw [e_ai5]; exact hP_2
      have hD_6 : va_D A (WM cI cJ cII cJJ ad f9_size f9_equations f9_areSteps f9_foundMany f9_many f9_rank f9_freeMany f9_arePlans f9_planMany ai5 al) := by rw [e_ai5]; exact hD_2
      obtain ⟨z6, e_z6⟩ : ∃ q : Int32, q = L2 + Int32.ofInt 1 := ⟨_, rfl⟩
      have g_z6 : z6.toInt = L2.toInt + 1 := by rw [e_z6]; exact n_add (a := L2.toInt) (b := 1) rfl (by decide +kernel) (by omega) (by omega)
      refine lv_iinc (v := z6) (lv' := [(2, .int z6), (0, .ref (ad 22)), (1, .int L1)]) hx hb dX9_findSteps_180 hl (k := 2) rfl e_z6.symm (by decide) rfl (fun ls_7 hl_7 => ?_)
      refine lv_goto (tgt := 157) hx hb dX9_findSteps_183 (by decide) ?_
      exact ih L1 z6 f9_areSteps f9_foundMany f9_many f9_rank f9_freeMany ai5 al _ _ _ (by omega) (by omega) (by omega) (by omega) (by omega) (by omega) (by omega) (by omega) (by omega) (by omega) (by omega) (FND_fr h11 (FRu e_ai5) (by decide) (by decide)) h12 (by omega) (CT_st (n := L2) h14 (by omega) e_z2 (by omega) e_ai5 (by rw [g_z4, e_z3]; rfl) (by omega) (by omega)) (by omega) (by omega) (by omega) hI_4 hF_3 hG hP_5 hD_6 hS_2 (lv_sub hl_7 [1, 2, 0] rfl)
set_option maxRecDepth 100000 in
set_option maxHeartbeats 4000000 in
theorem r018_X9_findSteps_b135 {p : Program} {l : Launch} {e : Env} {s : State} {m : MethodId} {args : Array Value} {below : List Frame} {meth : Method} {c : Code} {A : Nat → Prop} {dC : Nat → ClassId} {dI : Nat → Nat → Nat} {cI cJ cII cJJ : ClassId} {ad : Nat → Nat} {g : Nat} {f9_size f9_equations f9_arePlans f9_planMany : Int32} {ai0 : Nat → Nat → Int32} {al0 : Nat → Nat → Int64} {o_f9_areSteps : Int32} {o_f9_many : Int32} (C : Cx p c s m meth args A dC dI (TY cI cJ cII cJJ) cX9_findSteps none 3 RX9 0 g) (hp0 : (o_f9_areSteps.toInt = 0 ∨ CIa ai0 f9_size o_f9_many.toInt)) : ∀ (n : Nat), ∀ (L1 L2 f9_areSteps f9_foundMany f9_many f9_rank f9_freeMany : Int32) (ai : Nat → Nat → Int32) (al : Nat → Nat → Int64) (H : Heap) (locs : List Loc) (ls : Array Slot), (1 ≤ L1.toInt ∧ L1.toInt ≤ 1296) → (0 ≤ L2.toInt ∧ L2.toInt ≤ 6001) → (1 ≤ f9_size.toInt ∧ f9_size.toInt ≤ 4) → (0 ≤ f9_equations.toInt ∧ f9_equations.toInt ≤ 3) → (1 ≤ f9_areSteps.toInt ∧ f9_areSteps.toInt ≤ 1) → (0 ≤ f9_foundMany.toInt ∧ f9_foundMany.toInt ≤ 99999) → (0 ≤ f9_many.toInt ∧ f9_many.toInt ≤ 0) → (0 ≤ f9_rank.toInt ∧ f9_rank.toInt ≤ 3) → (1 ≤ f9_freeMany.toInt ∧ f9_freeMany.toInt ≤ 4) → (0 ≤ f9_arePlans.toInt ∧ f9_arePlans.toInt ≤ 1) → (0 ≤ f9_planMany.toInt ∧ f9_planMany.toInt ≤ 194481) → FND ai f9_size f9_rank f9_freeMany (f9_freeMany * L1) f9_foundMany.toInt → GRT f9_rank L1 → f9_many.toInt = 0 → (∀ v : Nat, (v : Int) < L2.toInt → (ai 9 v).toInt = 0) → 6000 + 1 - L2.toInt < (n : Int) → (0 : Int) < (n : Int) → IAM ai → FR [7, 8, 9, 10, 11, 12, 13, 14, 15, 16] ai0 ai → FL [17, 18] al0 al → va_P (dC, dI) vwCl (WM cI cJ cII cJJ ad f9_size f9_equations f9_areSteps f9_foundMany f9_many f9_rank f9_freeMany f9_arePlans f9_planMany ai al) H → va_D A (WM cI cJ cII cJJ ad f9_size f9_equations f9_areSteps f9_foundMany f9_many f9_rank f9_freeMany f9_arePlans f9_planMany ai al) → va_S A s.heap H locs → lv_has ls 3 [(0, .ref (ad 22)), (1, .int L1), (2, .int L2)] → W p l e ({ frames := 10, cells := 0, slots := 0, locals := 560 } : Room) s m args below meth c H locs 0 0 (MQ below (Q_r018_X9_findSteps dC dI cI cJ cII cJJ ad f9_size f9_equations f9_arePlans f9_planMany ai0 al0 o_f9_areSteps o_f9_many A) args s 0 0 A) (F0 m 135 ls []) := by
  obtain ⟨hx, hb, hr, hml, hown, hts, hk, hA, hK, hX⟩ := id C
  intro n
  induction n with
  | zero =>
    intro L1 L2 f9_areSteps f9_foundMany f9_many f9_rank f9_freeMany ai al H locs ls h0 h1 h2 h3 h4 h5 h6 h7 h8 h9 h10 h11 h12 h13 h14 h15 h16 hI hF hG hP hD hS hl
    exact absurd h16 (by omega)
  | succ n ih =>
    intro L1 L2 f9_areSteps f9_foundMany f9_many f9_rank f9_freeMany ai al H locs ls h0 h1 h2 h3 h4 h5 h6 h7 h8 h9 h10 h11 h12 h13 h14 h15 h16 hI hF hG hP hD hS hl
    refine lv_iload_n hx hb dX9_findSteps_135 rfl (lv_at hl 2 rfl) ?_
    refine lv_sipush (v := 6000) hx hb dX9_findSteps_136 (by decide) ?_
    refine lv_icmp_gt (tgt := 155) hx hb dX9_findSteps_139 (by decide) (fun c1 => ?_) (fun c1 => ?_)
    · have c1 := j_lt (a := 6000) (b := L2.toInt) (by decide +kernel) rfl c1
      refine lv_iconst (v := 0) hx hb dX9_findSteps_155 (by decide) ?_
      refine lv_istore_n (lv' := [(2, .int 0), (0, .ref (ad 22)), (1, .int L1)]) hx hb dX9_findSteps_156 rfl hl (by decide) rfl (fun ls_1 hl_1 => ?_)
      exact r018_X9_findSteps_b157 C hp0  _ L1 0 f9_areSteps f9_foundMany f9_many f9_rank f9_freeMany ai al _ _ _ (by first | omega | decide | (have ka0 := (by decide +kernel : (0 : Int32).toInt = 0); omega)) (by first | omega | decide | (have ka0 := (by decide +kernel : (0 : Int32).toInt = 0); omega)) (by first | omega | decide | (have ka0 := (by decide +kernel : (0 : Int32).toInt = 0); omega)) (by first | omega | decide | (have ka0 := (by decide +kernel : (0 : Int32).toInt = 0); omega)) (by first | omega | decide | (have ka0 := (by decide +kernel : (0 : Int32).toInt = 0); omega)) (by first | omega | decide | (have ka0 := (by decide +kernel : (0 : Int32).toInt = 0); omega)) (by first | omega | decide | (have ka0 := (by decide +kernel : (0 : Int32).toInt = 0); omega)) (by first | omega | decide | (have ka0 := (by decide +kernel : (0 : Int32).toInt = 0); omega)) (by first | omega | decide | (have ka0 := (by decide +kernel : (0 : Int32).toInt = 0); omega)) (by first | omega | decide | (have ka0 := (by decide +kernel : (0 : Int32).toInt = 0); omega)) (by first | omega | decide | (have ka0 := (by decide +kernel : (0 : Int32).toInt = 0); omega)) h11 h12 (by first | omega | decide | (have ka0 := (by decide +kernel : (0 : Int32).toInt = 0); omega)) (CT_0 h14 (by omega) (by decide)) (by have q3 := (by decide : (0 : Int32).toInt = 0); omega) (j_fuel _) (by omega) hI hF hG hP hD hS (lv_sub hl_1 [1, 2, 0] rfl)
    · have c1 := j_nlt (a := 6000) (b := L2.toInt) (by decide +kernel) rfl c1
      refine lv_aload_n hx hb dX9_findSteps_142 rfl (lv_at hl 0 rfl) ?_
      refine gf (k := 17) hx hb hts inX9 hown hK hP k_812 rfl (by decide) rfl 22 rfl (.ref (ad 9)) rfl dX9_findSteps_143 ?_
      refine lv_iload_n hx hb dX9_findSteps_146 rfl (lv_at hl 2 rfl) ?_
      refine lv_iconst (v := 0) hx hb dX9_findSteps_147 (by decide) ?_
      refine va_iast hx hb hK hP hD hS 9 0 rfl rfl (j_in (a := L2.toInt) rfl (by omega) (by omega)) dX9_findSteps_148 (fun H_2 locs_2 hP_2 hD_2 hS_2 => ?_)
      obtain ⟨ai2, e_ai2⟩ : ∃ q : Nat → Nat → Int32, q = va_up ai 9 (upd (ai 9) L2.toNatClampNeg 0) := ⟨_, rfl⟩
      have hF_3 := FR_st hF e_ai2 (by decide)
      have hI_4 : IAM ai2 := by rw [e_ai2]; exact hI
      have hP_5 : va_P (dC, dI) vwCl (WM cI cJ cII cJJ ad f9_size f9_equations f9_areSteps f9_foundMany f9_many f9_rank f9_freeMany f9_arePlans f9_planMany ai2 al) H_2 := by rw [e_ai2]; exact hP_2
      have hD_6 : va_D A (WM cI cJ cII cJJ ad f9_size f9_equations f9_areSteps f9_foundMany f9_many f9_rank f9_freeMany f9_arePlans f9_planMany ai2 al) := by rw [e_ai2]; exact hD_2
      obtain ⟨z3, e_z3⟩ : ∃ q : Int32, q = L2 + Int32.ofInt 1 := ⟨_, rfl⟩
      have g_z3 : z3.toInt = L2.toInt + 1 := by rw [e_z3]; exact n_add (a := L2.toInt) (b := 1) rfl (by decide +kernel) (by omega) (by omega)
      refine lv_iinc (v := z3) (lv' := [(2, .int z3), (0, .ref (ad 22)), (1, .int L1)]) hx hb dX9_findSteps_149 hl (k := 2) rfl e_z3.symm (by decide) rfl (fun ls_7 hl_7 => ?_)
      refine lv_goto (tgt := 135) hx hb dX9_findSteps_152 (by decide) ?_
      exact ih L1 z3 f9_areSteps f9_foundMany f9_many f9_rank f9_freeMany ai2 al _ _ _ (by omega) (by omega) (by omega) (by omega) (by omega) (by omega) (by omega) (by omega) (by omega) (by omega) (by omega) (FND_fr h11 (FRu e_ai2) (by decide) (by decide)) h12 (by omega) (up_all (n := L2) (f := fun _ => 0) h14 e_ai2 (by omega) (by decide) (by omega)) (by omega) (by omega) hI_4 hF_3 hG hP_5 hD_6 hS_2 (lv_sub hl_7 [1, 2, 0] rfl)
set_option maxRecDepth 100000 in
set_option maxHeartbeats 4000000 in
theorem r018_X9_findSteps_b103 {p : Program} {l : Launch} {e : Env} {s : State} {m : MethodId} {args : Array Value} {below : List Frame} {meth : Method} {c : Code} {A : Nat → Prop} {dC : Nat → ClassId} {dI : Nat → Nat → Nat} {cI cJ cII cJJ : ClassId} {ad : Nat → Nat} {g : Nat} {f9_size f9_equations f9_arePlans f9_planMany : Int32} {ai0 : Nat → Nat → Int32} {al0 : Nat → Nat → Int64} {o_f9_areSteps : Int32} {o_f9_many : Int32} (C : Cx p c s m meth args A dC dI (TY cI cJ cII cJJ) cX9_findSteps none 3 RX9 0 g) (hp0 : (o_f9_areSteps.toInt = 0 ∨ CIa ai0 f9_size o_f9_many.toInt)) : ∀ (S0 f9_areSteps f9_foundMany f9_many f9_rank f9_freeMany : Int32) (ai : Nat → Nat → Int32) (al : Nat → Nat → Int64) (H : Heap) (locs : List Loc) (ls : Array Slot), (1 ≤ S0.toInt ∧ S0.toInt ≤ 1296) → (1 ≤ f9_size.toInt ∧ f9_size.toInt ≤ 4) → (0 ≤ f9_equations.toInt ∧ f9_equations.toInt ≤ 3) → (1 ≤ f9_areSteps.toInt ∧ f9_areSteps.toInt ≤ 1) → (0 ≤ f9_foundMany.toInt ∧ f9_foundMany.toInt ≤ 99999) → (0 ≤ f9_many.toInt ∧ f9_many.toInt ≤ 6000) → (0 ≤ f9_rank.toInt ∧ f9_rank.toInt ≤ 3) → (0 ≤ f9_freeMany.toInt ∧ f9_freeMany.toInt ≤ 4) → (0 ≤ f9_arePlans.toInt ∧ f9_arePlans.toInt ≤ 1) → (0 ≤ f9_planMany.toInt ∧ f9_planMany.toInt ≤ 194481) → RKa ai f9_size f9_rank f9_freeMany → GRT f9_rank S0 → IAM ai → FR [7, 8, 9, 10, 11, 12, 13, 14, 15, 16] ai0 ai → FL [17, 18] al0 al → va_P (dC, dI) vwCl (WM cI cJ cII cJJ ad f9_size f9_equations f9_areSteps f9_foundMany f9_many f9_rank f9_freeMany f9_arePlans f9_planMany ai al) H → va_D A (WM cI cJ cII cJJ ad f9_size f9_equations f9_areSteps f9_foundMany f9_many f9_rank f9_freeMany f9_arePlans f9_planMany ai al) → va_S A s.heap H locs → lv_has ls 3 [(0, .ref (ad 22))] → W p l e ({ frames := 10, cells := 0, slots := 0, locals := 560 } : Room) s m args below meth c H locs 0 0 (MQ below (Q_r018_X9_findSteps dC dI cI cJ cII cJJ ad f9_size f9_equations f9_arePlans f9_planMany ai0 al0 o_f9_areSteps o_f9_many A) args s 0 0 A) (F0 m 103 ls [.int S0]) := by
  obtain ⟨hx, hb, hr, hml, hown, hts, hk, hA, hK, hX⟩ := id C
  intro S0 f9_areSteps f9_foundMany f9_many f9_rank f9_freeMany ai al H locs ls h0 h1 h2 h3 h4 h5 h6 h7 h8 h9 h10 h11 hI hF hG hP hD hS hl
  refine lv_istore_n (lv' := [(1, .int S0), (0, .ref (ad 22))]) hx hb dX9_findSteps_103 rfl hl (by decide) rfl (fun ls_1 hl_1 => ?_)
  refine lv_aload_n hx hb dX9_findSteps_104 rfl (lv_at hl_1 1 rfl) ?_
  refine lv_iconst (v := 0) hx hb dX9_findSteps_105 (by decide) ?_
  refine pf (k := 21) hx hb hts inX9 tyX9_ok nmX9 hown hK hP hD hS k_816 rfl (by decide) rfl rfl 22 rfl rfl rfl (Nat.le_of_ble_eq_true rfl) dX9_findSteps_106 (W' := (WM cI cJ cII cJJ ad f9_size f9_equations f9_areSteps 0 f9_many f9_rank f9_freeMany f9_arePlans f9_planMany ai al)) rfl (fun H_2 locs_2 hP_2 hD_2 hS_2 => ?_)
  refine lv_aload_n hx hb dX9_findSteps_109 rfl (lv_at hl_1 1 rfl) ?_
  refine lv_iconst (v := 0) hx hb dX9_findSteps_110 (by decide) ?_
  refine pf (k := 22) hx hb hts inX9 tyX9_ok nmX9 hown hK hP_2 hD_2 hS_2 k_817 rfl (by decide) rfl rfl 22 rfl rfl rfl (Nat.le_of_ble_eq_true rfl) dX9_findSteps_111 (W' := (WM cI cJ cII cJJ ad f9_size f9_equations f9_areSteps 0 0 f9_rank f9_freeMany f9_arePlans f9_planMany ai al)) rfl (fun H_3 locs_3 hP_3 hD_3 hS_3 => ?_)
  refine lv_aload_n hx hb dX9_findSteps_114 rfl (lv_at hl_1 1 rfl) ?_
  refine gf (k := 28) hx hb hts inX9 hown hK hP_3 k_823 rfl (by decide) rfl 22 rfl (.int f9_freeMany) rfl dX9_findSteps_115 ?_
  refine lv_if_ne (tgt := 122) hx hb dX9_findSteps_118 (by decide) (fun c1 => ?_) (fun c1 => ?_)
  · have c1 := j_ne (a := f9_freeMany.toInt) (b := 0) rfl (by decide +kernel) c1
    refine lv_aload_n hx hb dX9_findSteps_122 rfl (lv_at hl_1 1 rfl) ?_
    refine lv_iconst (v := 0) hx hb dX9_findSteps_123 (by decide) ?_
    refine lv_aload_n hx hb dX9_findSteps_124 rfl (lv_at hl_1 1 rfl) ?_
    refine gf (k := 28) hx hb hts inX9 hown hK hP_3 k_823 rfl (by decide) rfl 22 rfl (.int f9_freeMany) rfl dX9_findSteps_125 ?_
    refine lv_iload_n hx hb dX9_findSteps_128 rfl (lv_at hl_1 0 rfl) ?_
    refine v_imul hx hb dX9_findSteps_129 _ rfl ?_
    refine lv_topi (fun z2 e_z2 => ?_)
    have g_z2 : 0 ≤ z2.toInt ∧ z2.toInt ≤ 1296 := by rw [e_z2]; exact (bd_ok h10 (by omega) (by omega) (by omega) (by omega) h11 rfl).1
    have q_b := bd_ok h10 (by omega) (by omega) (by omega) (by omega) h11 e_z2
    have kc0 : (0 : Int32).toInt = 0 := by decide +kernel
    have hM := r013_X9_goes l dC dI cI cJ cII cJJ H_3.size 0 ad f9_size f9_equations f9_areSteps 0 0 f9_rank f9_freeMany f9_arePlans f9_planMany ai al z2 (by omega) (by omega) (by omega) (by omega) (by decide +kernel) (by decide +kernel) (by omega) (by omega) (by omega) (by omega) h10 (fun j hj => by omega) (by have q := q_b.2.2.2; have q3 := (by decide : (0 : Int32).toInt = 0); omega) hI
    refine k2V_v (q0 := 22) ⟨hx, hb, hml, hown, hts⟩ hK hP_3 hD_3 hS_3 hA hX cv_RX9_156 hM ⟨by decide +kernel, by decide +kernel⟩ rfl rfl (Or.inl rfl) (rest := []) rfl rfl rfl hl_1.1 rfl (Nat.le_of_ble_eq_true rfl) dX9_findSteps_130 ⟨Nat.le_of_ble_eq_true rfl, Nat.le_of_ble_eq_true rfl⟩ (fun t H1 locs_4 ht hB hS_4 hFc => ?_)
    obtain ⟨v4, ai5, al6, ⟨gpr3_0, gpr3_1, gpr3_2, gpr3_3, gpr3_4, hI_5, hFr_r3, hGr_r3⟩, hP_5, -, hD_5⟩ := hB
    have hF_6 := FR_tr hF hFr_r3 (by decide)
    have hG_7 := FL_tr hG hGr_r3 (by decide)
    rw [ht] at hP_5
    have hD_8 := hD_5.weaken (B := A) (fun k q _ h9 => hFc q.1 h9)
    clear ht
    generalize H1 = H_9 at hP_5 hS_4 ⊢
    refine lv_iconst (v := 0) hx hb dX9_findSteps_133 (by decide) ?_
    refine lv_istore_n (lv' := [(2, .int 0), (1, .int S0), (0, .ref (ad 22))]) hx hb dX9_findSteps_134 rfl hl_1 (by decide) rfl (fun ls_10 hl_10 => ?_)
    exact r018_X9_findSteps_b135 C hp0  _ S0 0 f9_areSteps v4 0 f9_rank f9_freeMany ai5 al6 _ _ _ (by first | omega | decide | (have ka0 := (by decide +kernel : (0 : Int32).toInt = 0); omega)) (by first | omega | decide | (have ka0 := (by decide +kernel : (0 : Int32).toInt = 0); omega)) (by first | omega | decide | (have ka0 := (by decide +kernel : (0 : Int32).toInt = 0); omega)) (by first | omega | decide | (have ka0 := (by decide +kernel : (0 : Int32).toInt = 0); omega)) (by first | omega | decide | (have ka0 := (by decide +kernel : (0 : Int32).toInt = 0); omega)) (by first | omega | decide | (have ka0 := (by decide +kernel : (0 : Int32).toInt = 0); omega)) (by first | omega | decide | (have ka0 := (by decide +kernel : (0 : Int32).toInt = 0); omega)) (by first | omega | decide | (have ka0 := (by decide +kernel : (0 : Int32).toInt = 0); omega)) (by first | omega | decide | (have ka0 := (by decide +kernel : (0 : Int32).toInt = 0); omega)) (by first | omega | decide | (have ka0 := (by decide +kernel : (0 : Int32).toInt = 0); omega)) (by first | omega | decide | (have ka0 := (by decide +kernel : (0 : Int32).toInt = 0); omega)) (by rw [← e_z2]; exact FND_of h10 hFr_r3 (by decide) (by decide) rfl gpr3_2 gpr3_3) h11 (by first | omega | decide | (have ka0 := (by decide +kernel : (0 : Int32).toInt = 0); omega)) (fun u hu => (zlt hu).elim) (j_fuel _) (by omega) hI_5 hF_6 hG_7 hP_5 hD_8 hS_4 (lv_sub hl_10 [2, 1, 0] rfl)
  · have c1 := j_eq (a := f9_freeMany.toInt) (b := 0) rfl (by decide +kernel) c1
    exact r2_v hx hb hr hk hS_3 dX9_findSteps_121 (fun t ht hW => ⟨f9_areSteps, 0, 0, f9_rank, f9_freeMany, ai, al, ⟨(by first | omega | decide | exact Or.inl (by decide) | exact Or.inr (by decide) | exact Or.inr (by omega)), (by first | omega | decide | exact Or.inl (by decide) | exact Or.inr (by decide) | exact Or.inr (by omega)), (by first | omega | decide | exact Or.inl (by decide) | exact Or.inr (by decide) | exact Or.inr (by omega)), (by first | omega | decide | exact Or.inl (by decide) | exact Or.inr (by decide) | exact Or.inr (by omega)), (by first | omega | decide | exact Or.inl (by decide) | exact Or.inr (by decide) | exact Or.inr (by omega)), (CIa_0 (by decide)), (by have kr0 : (0 : Int32).toInt = 0 := (by decide); first | omega | decide | exact Or.inl (by decide) | exact Or.inr (by decide) | exact Or.inr (by omega)), hI, hF, hG⟩, by rw [ht]; exact hP_3, va_K.moved hW.alike hK, hD_3⟩)
set_option maxRecDepth 100000 in
set_option maxHeartbeats 4000000 in
theorem r018_X9_findSteps_b39 {p : Program} {l : Launch} {e : Env} {s : State} {m : MethodId} {args : Array Value} {below : List Frame} {meth : Method} {c : Code} {A : Nat → Prop} {dC : Nat → ClassId} {dI : Nat → Nat → Nat} {cI cJ cII cJJ : ClassId} {ad : Nat → Nat} {g : Nat} {f9_size f9_equations f9_arePlans f9_planMany : Int32} {ai0 : Nat → Nat → Int32} {al0 : Nat → Nat → Int64} {o_f9_areSteps : Int32} {o_f9_many : Int32} (C : Cx p c s m meth args A dC dI (TY cI cJ cII cJJ) cX9_findSteps none 3 RX9 0 g) (hp0 : (o_f9_areSteps.toInt = 0 ∨ CIa ai0 f9_size o_f9_many.toInt)) : ∀ (n : Nat), ∀ (f9_areSteps f9_foundMany f9_many f9_rank f9_freeMany : Int32) (ai : Nat → Nat → Int32) (al : Nat → Nat → Int64) (H : Heap) (locs : List Loc) (ls : Array Slot), (1 ≤ f9_size.toInt ∧ f9_size.toInt ≤ 4) → (0 ≤ f9_equations.toInt ∧ f9_equations.toInt ≤ 3) → (1 ≤ f9_areSteps.toInt ∧ f9_areSteps.toInt ≤ 1) → (0 ≤ f9_foundMany.toInt ∧ f9_foundMany.toInt ≤ 99999) → (0 ≤ f9_many.toInt ∧ f9_many.toInt ≤ 6000) → (0 ≤ f9_rank.toInt ∧ f9_rank.toInt ≤ 3) → (0 ≤ f9_freeMany.toInt ∧ f9_freeMany.toInt ≤ 4) → (0 ≤ f9_arePlans.toInt ∧ f9_arePlans.toInt ≤ 1) → (0 ≤ f9_planMany.toInt ∧ f9_planMany.toInt ≤ 194481) → f9_rank.toInt < (n : Int) → (0 : Int) < (n : Int) → IAM ai → FR [7, 8, 9, 10, 11, 12, 13, 14, 15, 16] ai0 ai → FL [17, 18] al0 al → va_P (dC, dI) vwCl (WM cI cJ cII cJJ ad f9_size f9_equations f9_areSteps f9_foundMany f9_many f9_rank f9_freeMany f9_arePlans f9_planMany ai al) H → va_D A (WM cI cJ cII cJJ ad f9_size f9_equations f9_areSteps f9_foundMany f9_many f9_rank f9_freeMany f9_arePlans f9_planMany ai al) → va_S A s.heap H locs → lv_has ls 3 [(0, .ref (ad 22))] → W p l e ({ frames := 10, cells := 0, slots := 0, locals := 560 } : Room) s m args below meth c H locs 0 0 (MQ below (Q_r018_X9_findSteps dC dI cI cJ cII cJJ ad f9_size f9_equations f9_arePlans f9_planMany ai0 al0 o_f9_areSteps o_f9_many A) args s 0 0 A) (F0 m 39 ls []) := by
  obtain ⟨hx, hb, hr, hml, hown, hts, hk, hA, hK, hX⟩ := id C
  intro n
  induction n with
  | zero =>
    intro f9_areSteps f9_foundMany f9_many f9_rank f9_freeMany ai al H locs ls h0 h1 h2 h3 h4 h5 h6 h7 h8 h9 h10 hI hF hG hP hD hS hl
    exact absurd h10 (by omega)
  | succ n ih =>
    intro f9_areSteps f9_foundMany f9_many f9_rank f9_freeMany ai al H locs ls h0 h1 h2 h3 h4 h5 h6 h7 h8 h9 h10 hI hF hG hP hD hS hl
    refine lv_aload_n hx hb dX9_findSteps_39 rfl (lv_at hl 0 rfl) ?_
    refine lv_aload_n hx hb dX9_findSteps_40 rfl (lv_at hl 0 rfl) ?_
    refine gf (k := 27) hx hb hts inX9 hown hK hP k_822 rfl (by decide) rfl 22 rfl (.int f9_rank) rfl dX9_findSteps_41 ?_
    have hM := r006_X9_ranks l dC dI cI cJ cII cJJ H.size 0 ad f9_size f9_equations f9_areSteps f9_foundMany f9_many f9_rank f9_freeMany f9_arePlans f9_planMany ai al f9_rank (by omega) (by omega) (by omega) (by omega) (by omega) (by omega) (by omega) (by omega) (by omega) (by omega) hI
    refine k2V_i (q0 := 22) ⟨hx, hb, hml, hown, hts⟩ hK hP hD hS hA hX cv_RX9_160 hM ⟨by decide +kernel, by decide +kernel⟩ rfl rfl (Or.inl rfl) (rest := []) rfl rfl rfl hl.1 rfl (Nat.le_of_ble_eq_true rfl) dX9_findSteps_44 ⟨Nat.le_of_ble_eq_true rfl, Nat.le_of_ble_eq_true rfl⟩ (fun r1 t H1 locs_1 ht hB hS_1 hFc => ?_)
    obtain ⟨v2, ai3, ⟨gpr1_0, gpr1_1, gpr1_2, gpr1_3, hI_2, hFr_r1⟩, hP_2, -, hD_2⟩ := hB
    have hF_3 := FR_tr hF hFr_r1 (by decide)
    rw [ht] at hP_2
    have hD_4 := hD_2.weaken (B := A) (fun k q _ h9 => hFc q.1 h9)
    clear ht
    generalize H1 = H_5 at hP_2 hS_1 ⊢
    refine lv_if_ne (tgt := 63) hx hb dX9_findSteps_47 (by decide) (fun c4 => ?_) (fun c4 => ?_)
    · have c4 := j_ne (a := r1.toInt) (b := 0) rfl (by decide +kernel) c4
      refine lv_aload_n hx hb dX9_findSteps_63 rfl (lv_at hl 0 rfl) ?_
      refine gf (k := 27) hx hb hts inX9 hown hK hP_2 k_822 rfl (by decide) rfl 22 rfl (.int f9_rank) rfl dX9_findSteps_64 ?_
      refine lv_if_ne (tgt := 74) hx hb dX9_findSteps_67 (by decide) (fun c5 => ?_) (fun c5 => ?_)
      · have c5 := j_ne (a := f9_rank.toInt) (b := 0) rfl (by decide +kernel) c5
        refine lv_aload_n hx hb dX9_findSteps_74 rfl (lv_at hl 0 rfl) ?_
        refine gf (k := 27) hx hb hts inX9 hown hK hP_2 k_822 rfl (by decide) rfl 22 rfl (.int f9_rank) rfl dX9_findSteps_75 ?_
        refine lv_iconst (v := 1) hx hb dX9_findSteps_78 (by decide) ?_
        refine lv_icmp_ne (tgt := 87) hx hb dX9_findSteps_79 (by decide) (fun c6 => ?_) (fun c6 => ?_)
        · have c6 := j_ne (a := f9_rank.toInt) (b := 1) rfl (by decide +kernel) c6
          refine lv_aload_n hx hb dX9_findSteps_87 rfl (lv_at hl 0 rfl) ?_
          refine gf (k := 27) hx hb hts inX9 hown hK hP_2 k_822 rfl (by decide) rfl 22 rfl (.int f9_rank) rfl dX9_findSteps_88 ?_
          refine lv_iconst (v := 2) hx hb dX9_findSteps_91 (by decide) ?_
          refine lv_icmp_ne (tgt := 100) hx hb dX9_findSteps_92 (by decide) (fun c7 => ?_) (fun c7 => ?_)
          · have c7 := j_ne (a := f9_rank.toInt) (b := 2) rfl (by decide +kernel) c7
            refine lv_sipush (v := 1296) hx hb dX9_findSteps_100 (by decide) ?_
            exact r018_X9_findSteps_b103 C hp0  1296 f9_areSteps f9_foundMany f9_many f9_rank v2 ai3 al _ _ _ (by first | omega | decide | (have ka0 := (by decide +kernel : (1296 : Int32).toInt = 1296); omega)) (by first | omega | decide | (have ka0 := (by decide +kernel : (1296 : Int32).toInt = 1296); omega)) (by first | omega | decide | (have ka0 := (by decide +kernel : (1296 : Int32).toInt = 1296); omega)) (by first | omega | decide | (have ka0 := (by decide +kernel : (1296 : Int32).toInt = 1296); omega)) (by first | omega | decide | (have ka0 := (by decide +kernel : (1296 : Int32).toInt = 1296); omega)) (by first | omega | decide | (have ka0 := (by decide +kernel : (1296 : Int32).toInt = 1296); omega)) (by first | omega | decide | (have ka0 := (by decide +kernel : (1296 : Int32).toInt = 1296); omega)) (by first | omega | decide | (have ka0 := (by decide +kernel : (1296 : Int32).toInt = 1296); omega)) (by first | omega | decide | (have ka0 := (by decide +kernel : (1296 : Int32).toInt = 1296); omega)) (by first | omega | decide | (have ka0 := (by decide +kernel : (1296 : Int32).toInt = 1296); omega)) (gpr1_2.resolve_left (by omega)) (Or.inr (Or.inr (Or.inr ⟨by omega, by decide⟩))) hI_2 hF_3 hG hP_2 hD_4 hS_1 (lv_sub hl [0] rfl)
          · have c7 := j_eq (a := f9_rank.toInt) (b := 2) rfl (by decide +kernel) c7
            refine lv_bipush (v := 72) hx hb dX9_findSteps_95 (by decide) ?_
            refine lv_goto (tgt := 103) hx hb dX9_findSteps_97 (by decide) ?_
            exact r018_X9_findSteps_b103 C hp0  72 f9_areSteps f9_foundMany f9_many f9_rank v2 ai3 al _ _ _ (by first | omega | decide | (have ka0 := (by decide +kernel : (72 : Int32).toInt = 72); omega)) (by first | omega | decide | (have ka0 := (by decide +kernel : (72 : Int32).toInt = 72); omega)) (by first | omega | decide | (have ka0 := (by decide +kernel : (72 : Int32).toInt = 72); omega)) (by first | omega | decide | (have ka0 := (by decide +kernel : (72 : Int32).toInt = 72); omega)) (by first | omega | decide | (have ka0 := (by decide +kernel : (72 : Int32).toInt = 72); omega)) (by first | omega | decide | (have ka0 := (by decide +kernel : (72 : Int32).toInt = 72); omega)) (by first | omega | decide | (have ka0 := (by decide +kernel : (72 : Int32).toInt = 72); omega)) (by first | omega | decide | (have ka0 := (by decide +kernel : (72 : Int32).toInt = 72); omega)) (by first | omega | decide | (have ka0 := (by decide +kernel : (72 : Int32).toInt = 72); omega)) (by first | omega | decide | (have ka0 := (by decide +kernel : (72 : Int32).toInt = 72); omega)) (gpr1_2.resolve_left (by omega)) (Or.inr (Or.inr (Or.inl ⟨by omega, by decide⟩))) hI_2 hF_3 hG hP_2 hD_4 hS_1 (lv_sub hl [0] rfl)
        · have c6 := j_eq (a := f9_rank.toInt) (b := 1) rfl (by decide +kernel) c6
          refine lv_bipush (v := 6) hx hb dX9_findSteps_82 (by decide) ?_
          refine lv_goto (tgt := 103) hx hb dX9_findSteps_84 (by decide) ?_
          exact r018_X9_findSteps_b103 C hp0  6 f9_areSteps f9_foundMany f9_many f9_rank v2 ai3 al _ _ _ (by first | omega | decide | (have ka0 := (by decide +kernel : (6 : Int32).toInt = 6); omega)) (by first | omega | decide | (have ka0 := (by decide +kernel : (6 : Int32).toInt = 6); omega)) (by first | omega | decide | (have ka0 := (by decide +kernel : (6 : Int32).toInt = 6); omega)) (by first | omega | decide | (have ka0 := (by decide +kernel : (6 : Int32).toInt = 6); omega)) (by first | omega | decide | (have ka0 := (by decide +kernel : (6 : Int32).toInt = 6); omega)) (by first | omega | decide | (have ka0 := (by decide +kernel : (6 : Int32).toInt = 6); omega)) (by first | omega | decide | (have ka0 := (by decide +kernel : (6 : Int32).toInt = 6); omega)) (by first | omega | decide | (have ka0 := (by decide +kernel : (6 : Int32).toInt = 6); omega)) (by first | omega | decide | (have ka0 := (by decide +kernel : (6 : Int32).toInt = 6); omega)) (by first | omega | decide | (have ka0 := (by decide +kernel : (6 : Int32).toInt = 6); omega)) (gpr1_2.resolve_left (by omega)) (Or.inr (Or.inl ⟨by omega, by decide⟩)) hI_2 hF_3 hG hP_2 hD_4 hS_1 (lv_sub hl [0] rfl)
      · have c5 := j_eq (a := f9_rank.toInt) (b := 0) rfl (by decide +kernel) c5
        refine lv_iconst (v := 1) hx hb dX9_findSteps_70 (by decide) ?_
        refine lv_goto (tgt := 103) hx hb dX9_findSteps_71 (by decide) ?_
        exact r018_X9_findSteps_b103 C hp0  1 f9_areSteps f9_foundMany f9_many f9_rank v2 ai3 al _ _ _ (by first | omega | decide | (have ka0 := (by decide +kernel : (1 : Int32).toInt = 1); omega)) (by first | omega | decide | (have ka0 := (by decide +kernel : (1 : Int32).toInt = 1); omega)) (by first | omega | decide | (have ka0 := (by decide +kernel : (1 : Int32).toInt = 1); omega)) (by first | omega | decide | (have ka0 := (by decide +kernel : (1 : Int32).toInt = 1); omega)) (by first | omega | decide | (have ka0 := (by decide +kernel : (1 : Int32).toInt = 1); omega)) (by first | omega | decide | (have ka0 := (by decide +kernel : (1 : Int32).toInt = 1); omega)) (by first | omega | decide | (have ka0 := (by decide +kernel : (1 : Int32).toInt = 1); omega)) (by first | omega | decide | (have ka0 := (by decide +kernel : (1 : Int32).toInt = 1); omega)) (by first | omega | decide | (have ka0 := (by decide +kernel : (1 : Int32).toInt = 1); omega)) (by first | omega | decide | (have ka0 := (by decide +kernel : (1 : Int32).toInt = 1); omega)) (gpr1_2.resolve_left (by omega)) (Or.inl ⟨by omega, by decide⟩) hI_2 hF_3 hG hP_2 hD_4 hS_1 (lv_sub hl [0] rfl)
    · have c4 := j_eq (a := r1.toInt) (b := 0) rfl (by decide +kernel) c4
      refine lv_aload_n hx hb dX9_findSteps_50 rfl (lv_at hl 0 rfl) ?_
      refine lv_dup hx hb dX9_findSteps_51 rfl ?_
      refine gf (k := 27) hx hb hts inX9 hown hK hP_2 k_822 rfl (by decide) rfl 22 rfl (.int f9_rank) rfl dX9_findSteps_52 ?_
      refine lv_iconst (v := 1) hx hb dX9_findSteps_55 (by decide) ?_
      refine v_isub hx hb dX9_findSteps_56 _ rfl ?_
      refine lv_topi (fun z8 e_z8 => ?_)
      have g_z8 : z8.toInt = f9_rank.toInt - 1 ∧ 0 ≤ z8.toInt := by rw [e_z8, n_sub (a := f9_rank.toInt) (b := 1) rfl (by decide +kernel) (by omega) (by omega)]; omega
      refine pf (k := 27) hx hb hts inX9 tyX9_ok nmX9 hown hK hP_2 hD_4 hS_1 k_822 rfl (by decide) rfl rfl 22 rfl rfl rfl (Nat.le_of_ble_eq_true rfl) dX9_findSteps_57 (W' := (WM cI cJ cII cJJ ad f9_size f9_equations f9_areSteps f9_foundMany f9_many z8 v2 f9_arePlans f9_planMany ai3 al)) rfl (fun H_6 locs_6 hP_6 hD_6 hS_6 => ?_)
      refine lv_goto (tgt := 39) hx hb dX9_findSteps_60 (by decide) ?_
      exact ih f9_areSteps f9_foundMany f9_many z8 v2 ai3 al _ _ _ (by omega) (by omega) (by omega) (by omega) (by omega) (by omega) (by omega) (by omega) (by omega) (by omega) (by omega) hI_2 hF_3 hG hP_6 hD_6 hS_6 (lv_sub hl [0] rfl)
set_option maxRecDepth 100000 in
set_option maxHeartbeats 4000000 in
theorem r018_X9_findSteps_b36 {p : Program} {l : Launch} {e : Env} {s : State} {m : MethodId} {args : Array Value} {below : List Frame} {meth : Method} {c : Code} {A : Nat → Prop} {dC : Nat → ClassId} {dI : Nat → Nat → Nat} {cI cJ cII cJJ : ClassId} {ad : Nat → Nat} {g : Nat} {f9_size f9_equations f9_arePlans f9_planMany : Int32} {ai0 : Nat → Nat → Int32} {al0 : Nat → Nat → Int64} {o_f9_areSteps : Int32} {o_f9_many : Int32} (C : Cx p c s m meth args A dC dI (TY cI cJ cII cJJ) cX9_findSteps none 3 RX9 0 g) (hp0 : (o_f9_areSteps.toInt = 0 ∨ CIa ai0 f9_size o_f9_many.toInt)) : ∀ (S0 f9_areSteps f9_foundMany f9_many f9_rank f9_freeMany : Int32) (ai : Nat → Nat → Int32) (al : Nat → Nat → Int64) (H : Heap) (locs : List Loc) (ls : Array Slot), (0 ≤ S0.toInt ∧ S0.toInt ≤ 3) → (1 ≤ f9_size.toInt ∧ f9_size.toInt ≤ 4) → (0 ≤ f9_equations.toInt ∧ f9_equations.toInt ≤ 3) → (1 ≤ f9_areSteps.toInt ∧ f9_areSteps.toInt ≤ 1) → (0 ≤ f9_foundMany.toInt ∧ f9_foundMany.toInt ≤ 99999) → (0 ≤ f9_many.toInt ∧ f9_many.toInt ≤ 6000) → (0 ≤ f9_rank.toInt ∧ f9_rank.toInt ≤ 3) → (0 ≤ f9_freeMany.toInt ∧ f9_freeMany.toInt ≤ 4) → (0 ≤ f9_arePlans.toInt ∧ f9_arePlans.toInt ≤ 1) → (0 ≤ f9_planMany.toInt ∧ f9_planMany.toInt ≤ 194481) → IAM ai → FR [7, 8, 9, 10, 11, 12, 13, 14, 15, 16] ai0 ai → FL [17, 18] al0 al → va_P (dC, dI) vwCl (WM cI cJ cII cJJ ad f9_size f9_equations f9_areSteps f9_foundMany f9_many f9_rank f9_freeMany f9_arePlans f9_planMany ai al) H → va_D A (WM cI cJ cII cJJ ad f9_size f9_equations f9_areSteps f9_foundMany f9_many f9_rank f9_freeMany f9_arePlans f9_planMany ai al) → va_S A s.heap H locs → lv_has ls 3 [(0, .ref (ad 22))] → W p l e ({ frames := 10, cells := 0, slots := 0, locals := 560 } : Room) s m args below meth c H locs 0 0 (MQ below (Q_r018_X9_findSteps dC dI cI cJ cII cJJ ad f9_size f9_equations f9_arePlans f9_planMany ai0 al0 o_f9_areSteps o_f9_many A) args s 0 0 A) (F0 m 36 ls [.int S0, .ref (ad 22)]) := by
  obtain ⟨hx, hb, hr, hml, hown, hts, hk, hA, hK, hX⟩ := id C
  intro S0 f9_areSteps f9_foundMany f9_many f9_rank f9_freeMany ai al H locs ls h0 h1 h2 h3 h4 h5 h6 h7 h8 h9 hI hF hG hP hD hS hl
  refine pf (k := 27) hx hb hts inX9 tyX9_ok nmX9 hown hK hP hD hS k_822 rfl (by decide) rfl rfl 22 rfl rfl rfl (Nat.le_of_ble_eq_true rfl) dX9_findSteps_36 (W' := (WM cI cJ cII cJJ ad f9_size f9_equations f9_areSteps f9_foundMany f9_many S0 f9_freeMany f9_arePlans f9_planMany ai al)) rfl (fun H_1 locs_1 hP_1 hD_1 hS_1 => ?_)
  exact r018_X9_findSteps_b39 C hp0  _ f9_areSteps f9_foundMany f9_many S0 f9_freeMany ai al _ _ _ (by omega) (by omega) (by omega) (by omega) (by omega) (by omega) (by omega) (by omega) (by omega) (j_fuel _) (by omega) hI hF hG hP_1 hD_1 hS_1 (lv_sub hl [0] rfl)
set_option maxRecDepth 100000 in
set_option maxHeartbeats 4000000 in
theorem r018_X9_findSteps (l : Launch) (dC : Nat → ClassId) (dI : Nat → Nat → Nat) (cI cJ cII cJJ : ClassId) (sz g : Nat) (ad : Nat → Nat) (f9_size f9_equations f9_areSteps f9_foundMany f9_many f9_rank f9_freeMany f9_arePlans f9_planMany : Int32) (ai : Nat → Nat → Int32) (al : Nat → Nat → Int64) (h_f9_size : (1 ≤ f9_size.toInt ∧ f9_size.toInt ≤ 4)) (h_f9_equations : (0 ≤ f9_equations.toInt ∧ f9_equations.toInt ≤ 3)) (h_f9_areSteps : (0 ≤ f9_areSteps.toInt ∧ f9_areSteps.toInt ≤ 1)) (h_f9_foundMany : (0 ≤ f9_foundMany.toInt ∧ f9_foundMany.toInt ≤ 99999)) (h_f9_many : (0 ≤ f9_many.toInt ∧ f9_many.toInt ≤ 6000)) (h_f9_rank : (0 ≤ f9_rank.toInt ∧ f9_rank.toInt ≤ 3)) (h_f9_freeMany : (0 ≤ f9_freeMany.toInt ∧ f9_freeMany.toInt ≤ 4)) (h_f9_arePlans : (0 ≤ f9_arePlans.toInt ∧ f9_arePlans.toInt ≤ 1)) (h_f9_planMany : (0 ≤ f9_planMany.toInt ∧ f9_planMany.toInt ≤ 194481)) (hp0 : (f9_areSteps.toInt = 0 ∨ CIa ai f9_size f9_many.toInt)) (hI : IAM ai) : Met l yX9_findSteps (.code yX9_findSteps cX9_findSteps 3 none :: TT) ({ frames := 10, cells := 0, slots := 0, locals := 560 } : Room) (PcS dC dI (TY cI cJ cII cJJ) [.ref (ad 22)] (WM cI cJ cII cJJ ad f9_size f9_equations f9_areSteps f9_foundMany f9_many f9_rank f9_freeMany f9_arePlans f9_planMany ai al) sz 0 g) (Q_r018_X9_findSteps dC dI cI cJ cII cJJ ad f9_size f9_equations f9_arePlans f9_planMany ai al f9_areSteps f9_many (va_A (WM cI cJ cII cJJ ad f9_size f9_equations f9_areSteps f9_foundMany f9_many f9_rank f9_freeMany f9_arePlans f9_planMany ai al) sz)) 0 0 (va_A (WM cI cJ cII cJJ ad f9_size f9_equations f9_areSteps f9_foundMany f9_many f9_rank f9_freeMany f9_arePlans f9_planMany ai al) sz) := by
  refine SM.of (y := yX9_findSteps) (maxL := 3) (av := [.ref (ad 22)]) (Q_r018_X9_findSteps dC dI cI cJ cII cJJ ad f9_size f9_equations f9_arePlans f9_planMany ai al f9_areSteps f9_many) (by decide +kernel) (Nat.le_of_ble_eq_true rfl) (fun p e s m below meth c A ls hx hb hr hml hown hts hk hnm hA hK hP hD hS hX hl => ?_)
  have C : Cx p c s m meth (([.ref (ad 22)] : List Value).toArray) A dC dI (TY cI cJ cII cJJ) cX9_findSteps none 3 RX9 0 g := ⟨hx, hb, hr, hml, hown, hts, hk, hA, hK, hX⟩
  have hown : s.vm.findClass RX9 = some m.cls := hown
  have hl : lv_has ls 3 [(0, .ref (ad 22))] := hl
  obtain ⟨H, hH⟩ : ∃ q, q = s.heap := ⟨_, rfl⟩
  rw [← hH] at hP
  have hS : va_S A s.heap H [] := by rw [hH]; exact hS
  rw [← hH]
  have hF := FR_refl [7, 8, 9, 10, 11, 12, 13, 14, 15, 16] ai
  have hG := FL_refl [17, 18] al
  refine lv_aload_n hx hb dX9_findSteps_0 rfl (lv_at hl 0 rfl) ?_
  refine gf (k := 14) hx hb hts inX9 hown hK hP k_809 rfl (by decide) rfl 22 rfl (.int f9_areSteps) rfl dX9_findSteps_1 ?_
  refine lv_if_eq (tgt := 8) hx hb dX9_findSteps_4 (by decide) (fun c1 => ?_) (fun c1 => ?_)
  · have c1 := j_eq (a := f9_areSteps.toInt) (b := 0) rfl (by decide +kernel) c1
    refine lv_aload_n hx hb dX9_findSteps_8 rfl (lv_at hl 0 rfl) ?_
    refine lv_iconst (v := 1) hx hb dX9_findSteps_9 (by decide) ?_
    refine pf (k := 14) hx hb hts inX9 tyX9_ok nmX9 hown hK hP hD hS k_809 rfl (by decide) rfl rfl 22 rfl rfl rfl (Nat.le_of_ble_eq_true rfl) dX9_findSteps_10 (W' := (WM cI cJ cII cJJ ad f9_size f9_equations 1 f9_foundMany f9_many f9_rank f9_freeMany f9_arePlans f9_planMany ai al)) rfl (fun H_1 locs_1 hP_1 hD_1 hS_1 => ?_)
    refine lv_aload_n hx hb dX9_findSteps_13 rfl (lv_at hl 0 rfl) ?_
    refine lv_aload_n hx hb dX9_findSteps_14 rfl (lv_at hl 0 rfl) ?_
    refine gf (k := 13) hx hb hts inX9 hown hK hP_1 k_808 rfl (by decide) rfl 22 rfl (.int f9_equations) rfl dX9_findSteps_15 ?_
    refine lv_aload_n hx hb dX9_findSteps_18 rfl (lv_at hl 0 rfl) ?_
    refine gf (k := 12) hx hb hts inX9 hown hK hP_1 k_807 rfl (by decide) rfl 22 rfl (.int f9_size) rfl dX9_findSteps_19 ?_
    refine lv_icmp_ge (tgt := 32) hx hb dX9_findSteps_22 (by decide) (fun c2 => ?_) (fun c2 => ?_)
    · have c2 := j_le (a := f9_size.toInt) (b := f9_equations.toInt) rfl rfl c2
      refine lv_aload_n hx hb dX9_findSteps_32 rfl (lv_at hl 0 rfl) ?_
      refine gf (k := 12) hx hb hts inX9 hown hK hP_1 k_807 rfl (by decide) rfl 22 rfl (.int f9_size) rfl dX9_findSteps_33 ?_
      exact r018_X9_findSteps_b36 C hp0  f9_size 1 f9_foundMany f9_many f9_rank f9_freeMany ai al _ _ _ (by first | omega | decide | (have ka0 := (by decide +kernel : (1 : Int32).toInt = 1); omega)) (by first | omega | decide | (have ka0 := (by decide +kernel : (1 : Int32).toInt = 1); omega)) (by first | omega | decide | (have ka0 := (by decide +kernel : (1 : Int32).toInt = 1); omega)) (by first | omega | decide | (have ka0 := (by decide +kernel : (1 : Int32).toInt = 1); omega)) (by first | omega | decide | (have ka0 := (by decide +kernel : (1 : Int32).toInt = 1); omega)) (by first | omega | decide | (have ka0 := (by decide +kernel : (1 : Int32).toInt = 1); omega)) (by first | omega | decide | (have ka0 := (by decide +kernel : (1 : Int32).toInt = 1); omega)) (by first | omega | decide | (have ka0 := (by decide +kernel : (1 : Int32).toInt = 1); omega)) (by first | omega | decide | (have ka0 := (by decide +kernel : (1 : Int32).toInt = 1); omega)) (by first | omega | decide | (have ka0 := (by decide +kernel : (1 : Int32).toInt = 1); omega)) hI hF hG hP_1 hD_1 hS_1 (lv_sub hl [0] rfl)
    · have c2 := j_nle (a := f9_size.toInt) (b := f9_equations.toInt) rfl rfl c2
      refine lv_aload_n hx hb dX9_findSteps_25 rfl (lv_at hl 0 rfl) ?_
      refine gf (k := 13) hx hb hts inX9 hown hK hP_1 k_808 rfl (by decide) rfl 22 rfl (.int f9_equations) rfl dX9_findSteps_26 ?_
      refine lv_goto (tgt := 36) hx hb dX9_findSteps_29 (by decide) ?_
      exact r018_X9_findSteps_b36 C hp0  f9_equations 1 f9_foundMany f9_many f9_rank f9_freeMany ai al _ _ _ (by first | omega | decide | (have ka0 := (by decide +kernel : (1 : Int32).toInt = 1); omega)) (by first | omega | decide | (have ka0 := (by decide +kernel : (1 : Int32).toInt = 1); omega)) (by first | omega | decide | (have ka0 := (by decide +kernel : (1 : Int32).toInt = 1); omega)) (by first | omega | decide | (have ka0 := (by decide +kernel : (1 : Int32).toInt = 1); omega)) (by first | omega | decide | (have ka0 := (by decide +kernel : (1 : Int32).toInt = 1); omega)) (by first | omega | decide | (have ka0 := (by decide +kernel : (1 : Int32).toInt = 1); omega)) (by first | omega | decide | (have ka0 := (by decide +kernel : (1 : Int32).toInt = 1); omega)) (by first | omega | decide | (have ka0 := (by decide +kernel : (1 : Int32).toInt = 1); omega)) (by first | omega | decide | (have ka0 := (by decide +kernel : (1 : Int32).toInt = 1); omega)) (by first | omega | decide | (have ka0 := (by decide +kernel : (1 : Int32).toInt = 1); omega)) hI hF hG hP_1 hD_1 hS_1 (lv_sub hl [0] rfl)
  · have c1 := j_ne (a := f9_areSteps.toInt) (b := 0) rfl (by decide +kernel) c1
    exact r2_v hx hb hr hk hS dX9_findSteps_7 (fun t ht hW => ⟨f9_areSteps, f9_foundMany, f9_many, f9_rank, f9_freeMany, ai, al, ⟨(by first | omega | decide | exact Or.inl (by decide) | exact Or.inr (by decide) | exact Or.inr (by omega)), (by first | omega | decide | exact Or.inl (by decide) | exact Or.inr (by decide) | exact Or.inr (by omega)), (by first | omega | decide | exact Or.inl (by decide) | exact Or.inr (by decide) | exact Or.inr (by omega)), (by first | omega | decide | exact Or.inl (by decide) | exact Or.inr (by decide) | exact Or.inr (by omega)), (by first | omega | decide | exact Or.inl (by decide) | exact Or.inr (by decide) | exact Or.inr (by omega)), (hp0.resolve_left (by omega)), (by first | omega | decide | exact Or.inl (by decide) | exact Or.inr (by decide) | exact Or.inr (by omega)), hI, hF, hG⟩, by rw [ht]; exact hP, va_K.moved hW.alike hK, hD⟩)
def Q_r019_X9_at (dC : Nat → ClassId) (dI : Nat → Nat → Nat) (cI cJ cII cJJ : ClassId) (ad : Nat → Nat) (f9_size f9_equations f9_areSteps f9_foundMany f9_many f9_rank f9_freeMany f9_arePlans f9_planMany : Int32) (ai : Nat → Nat → Int32) (al : Nat → Nat → Int64) (x1 : Int32) (x2 : Int32) : (Nat → Prop) → Array Value → State → Outcome → State → Prop := fun A => QI (fun r t => (r = atv ai x1.toInt.toNat x2.toInt.toNat) ∧ WO dC dI (TY cI cJ cII cJJ) (WM cI cJ cII cJJ ad f9_size f9_equations f9_areSteps f9_foundMany f9_many f9_rank f9_freeMany f9_arePlans f9_planMany ai al) A t) A
set_option maxRecDepth 100000 in
set_option maxHeartbeats 4000000 in
theorem r019_X9_at (l : Launch) (dC : Nat → ClassId) (dI : Nat → Nat → Nat) (cI cJ cII cJJ : ClassId) (sz g : Nat) (ad : Nat → Nat) (f9_size f9_equations f9_areSteps f9_foundMany f9_many f9_rank f9_freeMany f9_arePlans f9_planMany : Int32) (ai : Nat → Nat → Int32) (al : Nat → Nat → Int64) (x1 : Int32) (x2 : Int32) (h_x1 : (0 ≤ x1.toInt ∧ x1.toInt ≤ 5999)) (h_x2 : (0 ≤ x2.toInt ∧ x2.toInt ≤ 3)) (h_f9_size : (1 ≤ f9_size.toInt ∧ f9_size.toInt ≤ 4)) (h_f9_equations : (0 ≤ f9_equations.toInt ∧ f9_equations.toInt ≤ 3)) (h_f9_areSteps : (0 ≤ f9_areSteps.toInt ∧ f9_areSteps.toInt ≤ 1)) (h_f9_foundMany : (0 ≤ f9_foundMany.toInt ∧ f9_foundMany.toInt ≤ 99999)) (h_f9_many : (0 ≤ f9_many.toInt ∧ f9_many.toInt ≤ 6000)) (h_f9_rank : (0 ≤ f9_rank.toInt ∧ f9_rank.toInt ≤ 3)) (h_f9_freeMany : (0 ≤ f9_freeMany.toInt ∧ f9_freeMany.toInt ≤ 4)) (h_f9_arePlans : (0 ≤ f9_arePlans.toInt ∧ f9_arePlans.toInt ≤ 1)) (h_f9_planMany : (0 ≤ f9_planMany.toInt ∧ f9_planMany.toInt ≤ 194481)) (hI : IAM ai) : Met l yX9_at (.code yX9_at cX9_at 3 (some .int) :: TT) ({ frames := 2, cells := 0, slots := 0, locals := 80 } : Room) (PcS dC dI (TY cI cJ cII cJJ) [.ref (ad 22), .int x1, .int x2] (WM cI cJ cII cJJ ad f9_size f9_equations f9_areSteps f9_foundMany f9_many f9_rank f9_freeMany f9_arePlans f9_planMany ai al) sz 0 g) (Q_r019_X9_at dC dI cI cJ cII cJJ ad f9_size f9_equations f9_areSteps f9_foundMany f9_many f9_rank f9_freeMany f9_arePlans f9_planMany ai al x1 x2 (va_A (WM cI cJ cII cJJ ad f9_size f9_equations f9_areSteps f9_foundMany f9_many f9_rank f9_freeMany f9_arePlans f9_planMany ai al) sz)) 0 0 (va_A (WM cI cJ cII cJJ ad f9_size f9_equations f9_areSteps f9_foundMany f9_many f9_rank f9_freeMany f9_arePlans f9_planMany ai al) sz) := by
  refine SM.of (y := yX9_at) (maxL := 3) (av := [.ref (ad 22), .int x1, .int x2]) (Q_r019_X9_at dC dI cI cJ cII cJJ ad f9_size f9_equations f9_areSteps f9_foundMany f9_many f9_rank f9_freeMany f9_arePlans f9_planMany ai al x1 x2) (by decide +kernel) (Nat.le_of_ble_eq_true rfl) (fun p e s m below meth c A ls hx hb hr hml hown hts hk hnm hA hK hP hD hS hX hl => ?_)
  have C : Cx p c s m meth (([.ref (ad 22), .int x1, .int x2] : List Value).toArray) A dC dI (TY cI cJ cII cJJ) cX9_at (some .int) 3 RX9 0 g := ⟨hx, hb, hr, hml, hown, hts, hk, hA, hK, hX⟩
  have hown : s.vm.findClass RX9 = some m.cls := hown
  have hl : lv_has ls 3 [(0, .ref (ad 22)), (1, .int x1), (2, .int x2)] := hl
  obtain ⟨H, hH⟩ : ∃ q, q = s.heap := ⟨_, rfl⟩
  rw [← hH] at hP
  have hS : va_S A s.heap H [] := by rw [hH]; exact hS
  rw [← hH]
  refine lv_aload_n hx hb dX9_at_0 rfl (lv_at hl 0 rfl) ?_
  refine gf (k := 19) hx hb hts inX9 hown hK hP k_814 rfl (by decide) rfl 22 rfl (.ref (ad 11)) rfl dX9_at_1 ?_
  refine lv_iconst (v := 4) hx hb dX9_at_4 (by decide) ?_
  refine lv_aload_n hx hb dX9_at_5 rfl (lv_at hl 0 rfl) ?_
  refine gf (k := 20) hx hb hts inX9 hown hK hP k_815 rfl (by decide) rfl 22 rfl (.ref (ad 12)) rfl dX9_at_6 ?_
  refine lv_iload_n hx hb dX9_at_9 rfl (lv_at hl 1 rfl) ?_
  refine va_iald hx hb hK hP 12 0 rfl rfl (j_in (a := x1.toInt) rfl (by omega) (by omega)) dX9_at_10 ?_
  refine lv_topi (fun z1 e_z1 => ?_)
  have g_z1 : 0 ≤ z1.toInt ∧ z1.toInt ≤ 5999 := by rw [e_z1]; exact IAM_at12 hI _
  refine v_imul hx hb dX9_at_11 _ rfl ?_
  refine lv_topi (fun z2 e_z2 => ?_)
  have g_z2 : z2.toInt = 4 * z1.toInt := by rw [e_z2]; exact n_mul (a := 4) (b := z1.toInt) (by decide +kernel) rfl (by omega) (by omega)
  refine lv_iload_n hx hb dX9_at_12 rfl (lv_at hl 2 rfl) ?_
  refine v_iadd hx hb dX9_at_13 _ rfl ?_
  refine lv_topi (fun z3 e_z3 => ?_)
  have g_z3 : z3.toInt = z2.toInt + x2.toInt := by rw [e_z3]; exact n_add (a := z2.toInt) (b := x2.toInt) rfl rfl (by omega) (by omega)
  refine va_iald hx hb hK hP 11 0 rfl rfl (j_in (a := z3.toInt) rfl (by omega) (by omega)) dX9_at_14 ?_
  refine lv_topi (fun z4 e_z4 => ?_)
  exact r2_i hx hb hr hk hS dX9_at_15 (fun t ht hW => ⟨(by rw [e_z4]; show ai 11 z3.toInt.toNat = _; rw [show z3.toInt.toNat = 4 * z1.toInt.toNat + x2.toInt.toNat by omega, e_z1]; rfl), by rw [ht]; exact hP, va_K.moved hW.alike hK, hD⟩)
def Q_r020_X9_isIn (dC : Nat → ClassId) (dI : Nat → Nat → Nat) (cI cJ cII cJJ : ClassId) (ad : Nat → Nat) (f9_size f9_equations f9_areSteps f9_foundMany f9_many f9_rank f9_freeMany f9_arePlans f9_planMany : Int32) (ai : Nat → Nat → Int32) (al : Nat → Nat → Int64) (x0 : Int32) (x1 : Int32) : (Nat → Prop) → Array Value → State → Outcome → State → Prop := fun A => QI (fun r t => ((0 ≤ r.toInt ∧ r.toInt ≤ 1) ∧ ((r.toInt = 1 ∧ 0 ≤ x0.toInt ∧ x0.toInt < x1.toInt) ∨ (r.toInt = 0 ∧ ¬ (0 ≤ x0.toInt ∧ x0.toInt < x1.toInt)))) ∧ WO dC dI (TY cI cJ cII cJJ) (WM cI cJ cII cJJ ad f9_size f9_equations f9_areSteps f9_foundMany f9_many f9_rank f9_freeMany f9_arePlans f9_planMany ai al) A t) A
set_option maxRecDepth 100000 in
set_option maxHeartbeats 4000000 in
theorem r020_X9_isIn_b13 {p : Program} {l : Launch} {e : Env} {s : State} {m : MethodId} {args : Array Value} {below : List Frame} {meth : Method} {c : Code} {A : Nat → Prop} {dC : Nat → ClassId} {dI : Nat → Nat → Nat} {cI cJ cII cJJ : ClassId} {ad : Nat → Nat} {g : Nat} {f9_size f9_equations f9_areSteps f9_foundMany f9_many f9_rank f9_freeMany f9_arePlans f9_planMany : Int32} {ai : Nat → Nat → Int32} {al : Nat → Nat → Int64} {x0 : Int32} {x1 : Int32} (C : Cx p c s m meth args A dC dI (TY cI cJ cII cJJ) cX9_isIn (some .boolean) 2 RX9 0 g) : ∀ (H : Heap) (locs : List Loc) (ls : Array Slot), (1 ≤ f9_size.toInt ∧ f9_size.toInt ≤ 4) → (0 ≤ f9_equations.toInt ∧ f9_equations.toInt ≤ 3) → (0 ≤ f9_areSteps.toInt ∧ f9_areSteps.toInt ≤ 1) → (0 ≤ f9_foundMany.toInt ∧ f9_foundMany.toInt ≤ 99999) → (0 ≤ f9_many.toInt ∧ f9_many.toInt ≤ 6000) → (0 ≤ f9_rank.toInt ∧ f9_rank.toInt ≤ 3) → (0 ≤ f9_freeMany.toInt ∧ f9_freeMany.toInt ≤ 4) → (0 ≤ f9_arePlans.toInt ∧ f9_arePlans.toInt ≤ 1) → (0 ≤ f9_planMany.toInt ∧ f9_planMany.toInt ≤ 194481) → ¬ (0 ≤ x0.toInt ∧ x0.toInt < x1.toInt) → IAM ai → va_P (dC, dI) vwCl (WM cI cJ cII cJJ ad f9_size f9_equations f9_areSteps f9_foundMany f9_many f9_rank f9_freeMany f9_arePlans f9_planMany ai al) H → va_D A (WM cI cJ cII cJJ ad f9_size f9_equations f9_areSteps f9_foundMany f9_many f9_rank f9_freeMany f9_arePlans f9_planMany ai al) → va_S A s.heap H locs → lv_has ls 2 [(0, .int x0), (1, .int x1)] → W p l e ({ frames := 2, cells := 0, slots := 0, locals := 80 } : Room) s m args below meth c H locs 0 0 (MQ below (Q_r020_X9_isIn dC dI cI cJ cII cJJ ad f9_size f9_equations f9_areSteps f9_foundMany f9_many f9_rank f9_freeMany f9_arePlans f9_planMany ai al x0 x1 A) args s 0 0 A) (F0 m 13 ls []) := by
  obtain ⟨hx, hb, hr, hml, hown, hts, hk, hA, hK, hX⟩ := id C
  intro H locs ls h0 h1 h2 h3 h4 h5 h6 h7 h8 h9 hI hP hD hS hl
  refine lv_iconst (v := 0) hx hb dX9_isIn_13 (by decide) ?_
  exact r2_z hx hb hr hk hS dX9_isIn_14 rfl (fun t ht hW => ⟨⟨(by first | omega | decide | exact Or.inl (by decide) | exact Or.inr (by decide) | exact Or.inr (by omega)), (by have kr0 : (0 : Int32).toInt = 0 := (by decide); first | omega | decide | exact Or.inl (by decide) | exact Or.inr (by decide) | exact Or.inr (by omega))⟩, by rw [ht]; exact hP, va_K.moved hW.alike hK, hD⟩)
set_option maxRecDepth 100000 in
set_option maxHeartbeats 4000000 in
theorem r020_X9_isIn (l : Launch) (dC : Nat → ClassId) (dI : Nat → Nat → Nat) (cI cJ cII cJJ : ClassId) (sz g : Nat) (ad : Nat → Nat) (f9_size f9_equations f9_areSteps f9_foundMany f9_many f9_rank f9_freeMany f9_arePlans f9_planMany : Int32) (ai : Nat → Nat → Int32) (al : Nat → Nat → Int64) (x0 : Int32) (x1 : Int32) (h_f9_size : (1 ≤ f9_size.toInt ∧ f9_size.toInt ≤ 4)) (h_f9_equations : (0 ≤ f9_equations.toInt ∧ f9_equations.toInt ≤ 3)) (h_f9_areSteps : (0 ≤ f9_areSteps.toInt ∧ f9_areSteps.toInt ≤ 1)) (h_f9_foundMany : (0 ≤ f9_foundMany.toInt ∧ f9_foundMany.toInt ≤ 99999)) (h_f9_many : (0 ≤ f9_many.toInt ∧ f9_many.toInt ≤ 6000)) (h_f9_rank : (0 ≤ f9_rank.toInt ∧ f9_rank.toInt ≤ 3)) (h_f9_freeMany : (0 ≤ f9_freeMany.toInt ∧ f9_freeMany.toInt ≤ 4)) (h_f9_arePlans : (0 ≤ f9_arePlans.toInt ∧ f9_arePlans.toInt ≤ 1)) (h_f9_planMany : (0 ≤ f9_planMany.toInt ∧ f9_planMany.toInt ≤ 194481)) (hI : IAM ai) : Met l yX9_isIn (.code yX9_isIn cX9_isIn 2 (some .boolean) :: TT) ({ frames := 2, cells := 0, slots := 0, locals := 80 } : Room) (PcS dC dI (TY cI cJ cII cJJ) [.int x0, .int x1] (WM cI cJ cII cJJ ad f9_size f9_equations f9_areSteps f9_foundMany f9_many f9_rank f9_freeMany f9_arePlans f9_planMany ai al) sz 0 g) (Q_r020_X9_isIn dC dI cI cJ cII cJJ ad f9_size f9_equations f9_areSteps f9_foundMany f9_many f9_rank f9_freeMany f9_arePlans f9_planMany ai al x0 x1 (va_A (WM cI cJ cII cJJ ad f9_size f9_equations f9_areSteps f9_foundMany f9_many f9_rank f9_freeMany f9_arePlans f9_planMany ai al) sz)) 0 0 (va_A (WM cI cJ cII cJJ ad f9_size f9_equations f9_areSteps f9_foundMany f9_many f9_rank f9_freeMany f9_arePlans f9_planMany ai al) sz) := by
  refine SM.of (y := yX9_isIn) (maxL := 2) (av := [.int x0, .int x1]) (Q_r020_X9_isIn dC dI cI cJ cII cJJ ad f9_size f9_equations f9_areSteps f9_foundMany f9_many f9_rank f9_freeMany f9_arePlans f9_planMany ai al x0 x1) (by decide +kernel) (Nat.le_of_ble_eq_true rfl) (fun p e s m below meth c A ls hx hb hr hml hown hts hk hnm hA hK hP hD hS hX hl => ?_)
  have C : Cx p c s m meth (([.int x0, .int x1] : List Value).toArray) A dC dI (TY cI cJ cII cJJ) cX9_isIn (some .boolean) 2 RX9 0 g := ⟨hx, hb, hr, hml, hown, hts, hk, hA, hK, hX⟩
  have hown : s.vm.findClass RX9 = some m.cls := hown
  have hl : lv_has ls 2 [(0, .int x0), (1, .int x1)] := hl
  obtain ⟨H, hH⟩ : ∃ q, q = s.heap := ⟨_, rfl⟩
  rw [← hH] at hP
  have hS : va_S A s.heap H [] := by rw [hH]; exact hS
  rw [← hH]
  have ra_x0 := s_any x0
  have ra_x1 := s_any x1
  refine lv_iload_n hx hb dX9_isIn_0 rfl (lv_at hl 0 rfl) ?_
  refine lv_if_lt (tgt := 13) hx hb dX9_isIn_1 (by decide) (fun c1 => ?_) (fun c1 => ?_)
  · have c1 := j_lt (a := x0.toInt) (b := 0) rfl (by decide +kernel) c1
    exact r020_X9_isIn_b13 C   _ _ _ (by omega) (by omega) (by omega) (by omega) (by omega) (by omega) (by omega) (by omega) (by omega) (by omega) hI hP hD hS (lv_sub hl [0, 1] rfl)
  · have c1 := j_nlt (a := x0.toInt) (b := 0) rfl (by decide +kernel) c1
    refine lv_iload_n hx hb dX9_isIn_4 rfl (lv_at hl 0 rfl) ?_
    refine lv_iload_n hx hb dX9_isIn_5 rfl (lv_at hl 1 rfl) ?_
    refine lv_icmp_ge (tgt := 13) hx hb dX9_isIn_6 (by decide) (fun c2 => ?_) (fun c2 => ?_)
    · have c2 := j_le (a := x1.toInt) (b := x0.toInt) rfl rfl c2
      exact r020_X9_isIn_b13 C   _ _ _ (by omega) (by omega) (by omega) (by omega) (by omega) (by omega) (by omega) (by omega) (by omega) (by omega) hI hP hD hS (lv_sub hl [0, 1] rfl)
    · have c2 := j_nle (a := x1.toInt) (b := x0.toInt) rfl rfl c2
      refine lv_iconst (v := 1) hx hb dX9_isIn_9 (by decide) ?_
      refine lv_goto (tgt := 14) hx hb dX9_isIn_10 (by decide) ?_
      exact r2_z hx hb hr hk hS dX9_isIn_14 rfl (fun t ht hW => ⟨⟨(by first | omega | decide | exact Or.inl (by decide) | exact Or.inr (by decide) | exact Or.inr (by omega)), (by have kr1 : (1 : Int32).toInt = 1 := (by decide); first | omega | decide | exact Or.inl (by decide) | exact Or.inr (by decide) | exact Or.inr (by omega))⟩, by rw [ht]; exact hP, va_K.moved hW.alike hK, hD⟩)
def Q_r021_X9_refuse (dC : Nat → ClassId) (dI : Nat → Nat → Nat) (cI cJ cII cJJ : ClassId) (ad : Nat → Nat) (f9_size f9_equations f9_areSteps f9_foundMany f9_many f9_rank f9_freeMany f9_arePlans f9_planMany : Int32) (ai0 : Nat → Nat → Int32) (al : Nat → Nat → Int64) (x1 : Int32) : (Nat → Prop) → Array Value → State → Outcome → State → Prop := fun A => QI (fun r t => ∃ (n_ai : Nat → Nat → Int32), ((-7 ≤ r.toInt ∧ r.toInt ≤ -1) ∧ r.toInt = x1.toInt ∧ IAM n_ai ∧ FR [2] ai0 n_ai) ∧ WO dC dI (TY cI cJ cII cJJ) (WM cI cJ cII cJJ ad f9_size f9_equations f9_areSteps f9_foundMany f9_many f9_rank f9_freeMany f9_arePlans f9_planMany n_ai al) A t) A
set_option maxRecDepth 100000 in
set_option maxHeartbeats 4000000 in
theorem r021_X9_refuse (l : Launch) (dC : Nat → ClassId) (dI : Nat → Nat → Nat) (cI cJ cII cJJ : ClassId) (sz g : Nat) (ad : Nat → Nat) (f9_size f9_equations f9_areSteps f9_foundMany f9_many f9_rank f9_freeMany f9_arePlans f9_planMany : Int32) (ai : Nat → Nat → Int32) (al : Nat → Nat → Int64) (x1 : Int32) (h_x1 : (-7 ≤ x1.toInt ∧ x1.toInt ≤ -1)) (h_f9_size : (1 ≤ f9_size.toInt ∧ f9_size.toInt ≤ 4)) (h_f9_equations : (0 ≤ f9_equations.toInt ∧ f9_equations.toInt ≤ 3)) (h_f9_areSteps : (0 ≤ f9_areSteps.toInt ∧ f9_areSteps.toInt ≤ 1)) (h_f9_foundMany : (0 ≤ f9_foundMany.toInt ∧ f9_foundMany.toInt ≤ 99999)) (h_f9_many : (0 ≤ f9_many.toInt ∧ f9_many.toInt ≤ 6000)) (h_f9_rank : (0 ≤ f9_rank.toInt ∧ f9_rank.toInt ≤ 3)) (h_f9_freeMany : (0 ≤ f9_freeMany.toInt ∧ f9_freeMany.toInt ≤ 4)) (h_f9_arePlans : (0 ≤ f9_arePlans.toInt ∧ f9_arePlans.toInt ≤ 1)) (h_f9_planMany : (0 ≤ f9_planMany.toInt ∧ f9_planMany.toInt ≤ 194481)) (hI : IAM ai) : Met l yX9_refuse (.code yX9_refuse cX9_refuse 2 (some .int) :: TT) ({ frames := 2, cells := 0, slots := 0, locals := 80 } : Room) (PcS dC dI (TY cI cJ cII cJJ) [.ref (ad 22), .int x1] (WM cI cJ cII cJJ ad f9_size f9_equations f9_areSteps f9_foundMany f9_many f9_rank f9_freeMany f9_arePlans f9_planMany ai al) sz 0 g) (Q_r021_X9_refuse dC dI cI cJ cII cJJ ad f9_size f9_equations f9_areSteps f9_foundMany f9_many f9_rank f9_freeMany f9_arePlans f9_planMany ai al x1 (va_A (WM cI cJ cII cJJ ad f9_size f9_equations f9_areSteps f9_foundMany f9_many f9_rank f9_freeMany f9_arePlans f9_planMany ai al) sz)) 0 0 (va_A (WM cI cJ cII cJJ ad f9_size f9_equations f9_areSteps f9_foundMany f9_many f9_rank f9_freeMany f9_arePlans f9_planMany ai al) sz) := by
  refine SM.of (y := yX9_refuse) (maxL := 2) (av := [.ref (ad 22), .int x1]) (Q_r021_X9_refuse dC dI cI cJ cII cJJ ad f9_size f9_equations f9_areSteps f9_foundMany f9_many f9_rank f9_freeMany f9_arePlans f9_planMany ai al x1) (by decide +kernel) (Nat.le_of_ble_eq_true rfl) (fun p e s m below meth c A ls hx hb hr hml hown hts hk hnm hA hK hP hD hS hX hl => ?_)
  have C : Cx p c s m meth (([.ref (ad 22), .int x1] : List Value).toArray) A dC dI (TY cI cJ cII cJJ) cX9_refuse (some .int) 2 RX9 0 g := ⟨hx, hb, hr, hml, hown, hts, hk, hA, hK, hX⟩
  have hown : s.vm.findClass RX9 = some m.cls := hown
  have hl : lv_has ls 2 [(0, .ref (ad 22)), (1, .int x1)] := hl
  obtain ⟨H, hH⟩ : ∃ q, q = s.heap := ⟨_, rfl⟩
  rw [← hH] at hP
  have hS : va_S A s.heap H [] := by rw [hH]; exact hS
  rw [← hH]
  have hF := FR_refl [2] ai
  refine lv_aload_n hx hb dX9_refuse_0 rfl (lv_at hl 0 rfl) ?_
  refine gf (k := 7) hx hb hts inX9 hown hK hP k_802 rfl (by decide) rfl 22 rfl (.ref (ad 2)) rfl dX9_refuse_1 ?_
  refine lv_iload_n hx hb dX9_refuse_4 rfl (lv_at hl 1 rfl) ?_
  refine v_ineg hx hb dX9_refuse_5 _ rfl ?_
  refine lv_topi (fun z1 e_z1 => ?_)
  have g_z1 : z1.toInt = -x1.toInt := by rw [e_z1]; exact n_neg (a := x1.toInt) rfl (by omega)
  refine lv_dup2_11 hx hb dX9_refuse_6 rfl rfl ?_
  refine va_iald hx hb hK hP 2 0 rfl rfl (j_in (a := z1.toInt) rfl (by omega) (by omega)) dX9_refuse_7 ?_
  refine lv_topi (fun z2 e_z2 => ?_)
  refine lv_iconst (v := 1) hx hb dX9_refuse_8 (by decide) ?_
  refine v_iadd hx hb dX9_refuse_9 _ rfl ?_
  refine lv_topi (fun z3 e_z3 => ?_)
  refine va_iast hx hb hK hP hD hS 2 0 rfl rfl (j_in (a := z1.toInt) rfl (by omega) (by omega)) dX9_refuse_10 (fun H_1 locs_1 hP_1 hD_1 hS_1 => ?_)
  obtain ⟨ai4, e_ai4⟩ : ∃ q : Nat → Nat → Int32, q = va_up ai 2 (upd (ai 2) z1.toNatClampNeg z3) := ⟨_, rfl⟩
  have hF_2 := FR_st hF e_ai4 (by decide)
  have hI_3 : IAM ai4 := by rw [e_ai4]; exact hI
  have hP_4 : va_P (dC, dI) vwCl (WM cI cJ cII cJJ ad f9_size f9_equations f9_areSteps f9_foundMany f9_many f9_rank f9_freeMany f9_arePlans f9_planMany ai4 al) H_1 := by rw [e_ai4]; exact hP_1
  have hD_5 : va_D A (WM cI cJ cII cJJ ad f9_size f9_equations f9_areSteps f9_foundMany f9_many f9_rank f9_freeMany f9_arePlans f9_planMany ai4 al) := by rw [e_ai4]; exact hD_1
  refine lv_iload_n hx hb dX9_refuse_11 rfl (lv_at hl 1 rfl) ?_
  exact r2_i hx hb hr hk hS_1 dX9_refuse_12 (fun t ht hW => ⟨ai4, ⟨(by first | omega | decide | exact Or.inl (by decide) | exact Or.inr (by decide) | exact Or.inr (by omega)), (by first | omega | decide | exact Or.inl (by decide) | exact Or.inr (by decide) | exact Or.inr (by omega)), hI_3, hF_2⟩, by rw [ht]; exact hP_4, va_K.moved hW.alike hK, hD_5⟩)
def Q_r022_X9_begins (dC : Nat → ClassId) (dI : Nat → Nat → Nat) (cI cJ cII cJJ : ClassId) (ad : Nat → Nat) (f9_size f9_foundMany f9_many f9_rank f9_freeMany f9_planMany : Int32) (ai0 : Nat → Nat → Int32) (al : Nat → Nat → Int64) : (Nat → Prop) → Array Value → State → Outcome → State → Prop := fun A => QV (fun t => ∃ (n_f9_equations n_f9_areSteps n_f9_arePlans : Int32), ∃ (n_ai : Nat → Nat → Int32), ((0 ≤ n_f9_equations.toInt ∧ n_f9_equations.toInt ≤ 0) ∧ (0 ≤ n_f9_areSteps.toInt ∧ n_f9_areSteps.toInt ≤ 0) ∧ (0 ≤ n_f9_arePlans.toInt ∧ n_f9_arePlans.toInt ≤ 0) ∧ IAM n_ai ∧ FR [23, 24, 25, 26, 27] ai0 n_ai) ∧ WO dC dI (TY cI cJ cII cJJ) (WM cI cJ cII cJJ ad f9_size n_f9_equations n_f9_areSteps f9_foundMany f9_many f9_rank f9_freeMany n_f9_arePlans f9_planMany n_ai al) A t) A
set_option maxRecDepth 100000 in
set_option maxHeartbeats 4000000 in
theorem r022_X9_begins_b7 {p : Program} {l : Launch} {e : Env} {s : State} {m : MethodId} {args : Array Value} {below : List Frame} {meth : Method} {c : Code} {A : Nat → Prop} {dC : Nat → ClassId} {dI : Nat → Nat → Nat} {cI cJ cII cJJ : ClassId} {ad : Nat → Nat} {g : Nat} {f9_size f9_foundMany f9_many f9_rank f9_freeMany f9_planMany : Int32} {ai0 : Nat → Nat → Int32} {al : Nat → Nat → Int64} (C : Cx p c s m meth args A dC dI (TY cI cJ cII cJJ) cX9_begins none 2 RX9 0 g) : ∀ (n : Nat), ∀ (L1 f9_equations f9_areSteps f9_arePlans : Int32) (ai : Nat → Nat → Int32) (H : Heap) (locs : List Loc) (ls : Array Slot), (0 ≤ L1.toInt ∧ L1.toInt ≤ 4) → (1 ≤ f9_size.toInt ∧ f9_size.toInt ≤ 4) → (0 ≤ f9_equations.toInt ∧ f9_equations.toInt ≤ 0) → (0 ≤ f9_areSteps.toInt ∧ f9_areSteps.toInt ≤ 1) → (0 ≤ f9_foundMany.toInt ∧ f9_foundMany.toInt ≤ 99999) → (0 ≤ f9_many.toInt ∧ f9_many.toInt ≤ 6000) → (0 ≤ f9_rank.toInt ∧ f9_rank.toInt ≤ 3) → (0 ≤ f9_freeMany.toInt ∧ f9_freeMany.toInt ≤ 4) → (0 ≤ f9_arePlans.toInt ∧ f9_arePlans.toInt ≤ 1) → (0 ≤ f9_planMany.toInt ∧ f9_planMany.toInt ≤ 194481) → 4 - L1.toInt < (n : Int) → (0 : Int) < (n : Int) → IAM ai → FR [23, 24, 25, 26, 27] ai0 ai → va_P (dC, dI) vwCl (WM cI cJ cII cJJ ad f9_size f9_equations f9_areSteps f9_foundMany f9_many f9_rank f9_freeMany f9_arePlans f9_planMany ai al) H → va_D A (WM cI cJ cII cJJ ad f9_size f9_equations f9_areSteps f9_foundMany f9_many f9_rank f9_freeMany f9_arePlans f9_planMany ai al) → va_S A s.heap H locs → lv_has ls 2 [(0, .ref (ad 22)), (1, .int L1)] → W p l e ({ frames := 2, cells := 0, slots := 0, locals := 80 } : Room) s m args below meth c H locs 0 0 (MQ below (Q_r022_X9_begins dC dI cI cJ cII cJJ ad f9_size f9_foundMany f9_many f9_rank f9_freeMany f9_planMany ai0 al A) args s 0 0 A) (F0 m 7 ls []) := by
  obtain ⟨hx, hb, hr, hml, hown, hts, hk, hA, hK, hX⟩ := id C
  intro n
  induction n with
  | zero =>
    intro L1 f9_equations f9_areSteps f9_arePlans ai H locs ls h0 h1 h2 h3 h4 h5 h6 h7 h8 h9 h10 h11 hI hF hP hD hS hl
    exact absurd h11 (by omega)
  | succ n ih =>
    intro L1 f9_equations f9_areSteps f9_arePlans ai H locs ls h0 h1 h2 h3 h4 h5 h6 h7 h8 h9 h10 h11 hI hF hP hD hS hl
    refine lv_iload_n hx hb dX9_begins_7 rfl (lv_at hl 1 rfl) ?_
    refine lv_iconst (v := 4) hx hb dX9_begins_8 (by decide) ?_
    refine lv_icmp_ge (tgt := 54) hx hb dX9_begins_9 (by decide) (fun c1 => ?_) (fun c1 => ?_)
    · have c1 := j_le (a := 4) (b := L1.toInt) (by decide +kernel) rfl c1
      refine lv_aload_n hx hb dX9_begins_54 rfl (lv_at hl 0 rfl) ?_
      refine lv_iconst (v := 0) hx hb dX9_begins_55 (by decide) ?_
      refine pf (k := 14) hx hb hts inX9 tyX9_ok nmX9 hown hK hP hD hS k_809 rfl (by decide) rfl rfl 22 rfl rfl rfl (Nat.le_of_ble_eq_true rfl) dX9_begins_56 (W' := (WM cI cJ cII cJJ ad f9_size f9_equations 0 f9_foundMany f9_many f9_rank f9_freeMany f9_arePlans f9_planMany ai al)) rfl (fun H_1 locs_1 hP_1 hD_1 hS_1 => ?_)
      refine lv_aload_n hx hb dX9_begins_59 rfl (lv_at hl 0 rfl) ?_
      refine lv_iconst (v := 0) hx hb dX9_begins_60 (by decide) ?_
      refine pf (k := 33) hx hb hts inX9 tyX9_ok nmX9 hown hK hP_1 hD_1 hS_1 k_828 rfl (by decide) rfl rfl 22 rfl rfl rfl (Nat.le_of_ble_eq_true rfl) dX9_begins_61 (W' := (WM cI cJ cII cJJ ad f9_size f9_equations 0 f9_foundMany f9_many f9_rank f9_freeMany 0 f9_planMany ai al)) rfl (fun H_2 locs_2 hP_2 hD_2 hS_2 => ?_)
      exact r2_v hx hb hr hk hS_2 dX9_begins_64 (fun t ht hW => ⟨f9_equations, 0, 0, ai, ⟨(by first | omega | decide | exact Or.inl (by decide) | exact Or.inr (by decide) | exact Or.inr (by omega)), (by first | omega | decide | exact Or.inl (by decide) | exact Or.inr (by decide) | exact Or.inr (by omega)), (by first | omega | decide | exact Or.inl (by decide) | exact Or.inr (by decide) | exact Or.inr (by omega)), hI, hF⟩, by rw [ht]; exact hP_2, va_K.moved hW.alike hK, hD_2⟩)
    · have c1 := j_nle (a := 4) (b := L1.toInt) (by decide +kernel) rfl c1
      refine lv_aload_n hx hb dX9_begins_12 rfl (lv_at hl 0 rfl) ?_
      refine gf (k := 2) hx hb hts inX9 hown hK hP k_797 rfl (by decide) rfl 22 rfl (.ref (ad 23)) rfl dX9_begins_13 ?_
      refine lv_iload_n hx hb dX9_begins_16 rfl (lv_at hl 1 rfl) ?_
      refine lv_iconst (v := 0) hx hb dX9_begins_17 (by decide) ?_
      refine va_iast hx hb hK hP hD hS 23 0 rfl rfl (j_in (a := L1.toInt) rfl (by omega) (by omega)) dX9_begins_18 (fun H_3 locs_3 hP_3 hD_3 hS_3 => ?_)
      obtain ⟨ai2, e_ai2⟩ : ∃ q : Nat → Nat → Int32, q = va_up ai 23 (upd (ai 23) L1.toNatClampNeg 0) := ⟨_, rfl⟩
      have hF_4 := FR_st hF e_ai2 (by decide)
      have hI_5 : IAM ai2 := by rw [e_ai2]; exact IAM_st23 hI (a := 0) (by decide +kernel) (by omega) (by omega)
      have hP_6 : va_P (dC, dI) vwCl (WM cI cJ cII cJJ ad f9_size f9_equations f9_areSteps f9_foundMany f9_many f9_rank f9_freeMany f9_arePlans f9_planMany ai2 al) H_3 := by rw [e_ai2]; exact hP_3
      have hD_7 : va_D A (WM cI cJ cII cJJ ad f9_size f9_equations f9_areSteps f9_foundMany f9_many f9_rank f9_freeMany f9_arePlans f9_planMany ai2 al) := by rw [e_ai2]; exact hD_3
      refine lv_aload_n hx hb dX9_begins_19 rfl (lv_at hl 0 rfl) ?_
      refine gf (k := 3) hx hb hts inX9 hown hK hP_6 k_798 rfl (by decide) rfl 22 rfl (.ref (ad 24)) rfl dX9_begins_20 ?_
      refine lv_iload_n hx hb dX9_begins_23 rfl (lv_at hl 1 rfl) ?_
      refine lv_bipush (v := 10) hx hb dX9_begins_24 (by decide) ?_
      refine va_iast hx hb hK hP_6 hD_7 hS_3 24 0 rfl rfl (j_in (a := L1.toInt) rfl (by omega) (by omega)) dX9_begins_26 (fun H_8 locs_8 hP_8 hD_8 hS_8 => ?_)
      obtain ⟨ai3, e_ai3⟩ : ∃ q : Nat → Nat → Int32, q = va_up ai2 24 (upd (ai2 24) L1.toNatClampNeg 10) := ⟨_, rfl⟩
      have hF_9 := FR_st hF_4 e_ai3 (by decide)
      have hI_10 : IAM ai3 := by rw [e_ai3]; exact IAM_st24 hI_5 (a := 10) (by decide +kernel) (by omega) (by omega)
      have hP_11 : va_P (dC, dI) vwCl (WM cI cJ cII cJJ ad f9_size f9_equations f9_areSteps f9_foundMany f9_many f9_rank f9_freeMany f9_arePlans f9_planMany ai3 al) H_8 := by rw [e_ai3]; exact hP_8
      have hD_12 : va_D A (WM cI cJ cII cJJ ad f9_size f9_equations f9_areSteps f9_foundMany f9_many f9_rank f9_freeMany f9_arePlans f9_planMany ai3 al) := by rw [e_ai3]; exact hD_8
      refine lv_aload_n hx hb dX9_begins_27 rfl (lv_at hl 0 rfl) ?_
      refine gf (k := 4) hx hb hts inX9 hown hK hP_11 k_799 rfl (by decide) rfl 22 rfl (.ref (ad 25)) rfl dX9_begins_28 ?_
      refine lv_iload_n hx hb dX9_begins_31 rfl (lv_at hl 1 rfl) ?_
      refine lv_iconst (v := 0) hx hb dX9_begins_32 (by decide) ?_
      refine va_iast hx hb hK hP_11 hD_12 hS_8 25 0 rfl rfl (j_in (a := L1.toInt) rfl (by omega) (by omega)) dX9_begins_33 (fun H_13 locs_13 hP_13 hD_13 hS_13 => ?_)
      obtain ⟨ai4, e_ai4⟩ : ∃ q : Nat → Nat → Int32, q = va_up ai3 25 (upd (ai3 25) L1.toNatClampNeg 0) := ⟨_, rfl⟩
      have hF_14 := FR_st hF_9 e_ai4 (by decide)
      have hI_15 : IAM ai4 := by rw [e_ai4]; exact hI_10
      have hP_16 : va_P (dC, dI) vwCl (WM cI cJ cII cJJ ad f9_size f9_equations f9_areSteps f9_foundMany f9_many f9_rank f9_freeMany f9_arePlans f9_planMany ai4 al) H_13 := by rw [e_ai4]; exact hP_13
      have hD_17 : va_D A (WM cI cJ cII cJJ ad f9_size f9_equations f9_areSteps f9_foundMany f9_many f9_rank f9_freeMany f9_arePlans f9_planMany ai4 al) := by rw [e_ai4]; exact hD_13
      refine lv_aload_n hx hb dX9_begins_34 rfl (lv_at hl 0 rfl) ?_
      refine gf (k := 5) hx hb hts inX9 hown hK hP_16 k_800 rfl (by decide) rfl 22 rfl (.ref (ad 26)) rfl dX9_begins_35 ?_
      refine lv_iload_n hx hb dX9_begins_38 rfl (lv_at hl 1 rfl) ?_
      refine lv_iconst (v := 0) hx hb dX9_begins_39 (by decide) ?_
      refine va_iast hx hb hK hP_16 hD_17 hS_13 26 0 rfl rfl (j_in (a := L1.toInt) rfl (by omega) (by omega)) dX9_begins_40 (fun H_18 locs_18 hP_18 hD_18 hS_18 => ?_)
      obtain ⟨ai5, e_ai5⟩ : ∃ q : Nat → Nat → Int32, q = va_up ai4 26 (upd (ai4 26) L1.toNatClampNeg 0) := ⟨_, rfl⟩
      have hF_19 := FR_st hF_14 e_ai5 (by decide)
      have hI_20 : IAM ai5 := by rw [e_ai5]; exact hI_15
      have hP_21 : va_P (dC, dI) vwCl (WM cI cJ cII cJJ ad f9_size f9_equations f9_areSteps f9_foundMany f9_many f9_rank f9_freeMany f9_arePlans f9_planMany ai5 al) H_18 := by rw [e_ai5]; exact hP_18
      have hD_22 : va_D A (WM cI cJ cII cJJ ad f9_size f9_equations f9_areSteps f9_foundMany f9_many f9_rank f9_freeMany f9_arePlans f9_planMany ai5 al) := by rw [e_ai5]; exact hD_18
      refine lv_aload_n hx hb dX9_begins_41 rfl (lv_at hl 0 rfl) ?_
      refine gf (k := 6) hx hb hts inX9 hown hK hP_21 k_801 rfl (by decide) rfl 22 rfl (.ref (ad 27)) rfl dX9_begins_42 ?_
      refine lv_iload_n hx hb dX9_begins_45 rfl (lv_at hl 1 rfl) ?_
      refine lv_iconst (v := 0) hx hb dX9_begins_46 (by decide) ?_
      refine va_iast hx hb hK hP_21 hD_22 hS_18 27 0 rfl rfl (j_in (a := L1.toInt) rfl (by omega) (by omega)) dX9_begins_47 (fun H_23 locs_23 hP_23 hD_23 hS_23 => ?_)
      obtain ⟨ai6, e_ai6⟩ : ∃ q : Nat → Nat → Int32, q = va_up ai5 27 (upd (ai5 27) L1.toNatClampNeg 0) := ⟨_, rfl⟩
      have hF_24 := FR_st hF_19 e_ai6 (by decide)
      have hI_25 : IAM ai6 := by rw [e_ai6]; exact hI_20
      have hP_26 : va_P (dC, dI) vwCl (WM cI cJ cII cJJ ad f9_size f9_equations f9_areSteps f9_foundMany f9_many f9_rank f9_freeMany f9_arePlans f9_planMany ai6 al) H_23 := by rw [e_ai6]; exact hP_23
      have hD_27 : va_D A (WM cI cJ cII cJJ ad f9_size f9_equations f9_areSteps f9_foundMany f9_many f9_rank f9_freeMany f9_arePlans f9_planMany ai6 al) := by rw [e_ai6]; exact hD_23
      obtain ⟨z7, e_z7⟩ : ∃ q : Int32, q = L1 + Int32.ofInt 1 := ⟨_, rfl⟩
      have g_z7 : z7.toInt = L1.toInt + 1 := by rw [e_z7]; exact n_add (a := L1.toInt) (b := 1) rfl (by decide +kernel) (by omega) (by omega)
      refine lv_iinc (v := z7) (lv' := [(1, .int z7), (0, .ref (ad 22))]) hx hb dX9_begins_48 hl (k := 1) rfl e_z7.symm (by decide) rfl (fun ls_28 hl_28 => ?_)
      refine lv_goto (tgt := 7) hx hb dX9_begins_51 (by decide) ?_
      exact ih z7 f9_equations f9_areSteps f9_arePlans ai6 _ _ _ (by omega) (by omega) (by omega) (by omega) (by omega) (by omega) (by omega) (by omega) (by omega) (by omega) (by omega) (by omega) hI_25 hF_24 hP_26 hD_27 hS_23 (lv_sub hl_28 [1, 0] rfl)
set_option maxRecDepth 100000 in
set_option maxHeartbeats 4000000 in
theorem r022_X9_begins (l : Launch) (dC : Nat → ClassId) (dI : Nat → Nat → Nat) (cI cJ cII cJJ : ClassId) (sz g : Nat) (ad : Nat → Nat) (f9_size f9_equations f9_areSteps f9_foundMany f9_many f9_rank f9_freeMany f9_arePlans f9_planMany : Int32) (ai : Nat → Nat → Int32) (al : Nat → Nat → Int64) (h_f9_size : (1 ≤ f9_size.toInt ∧ f9_size.toInt ≤ 4)) (h_f9_equations : (0 ≤ f9_equations.toInt ∧ f9_equations.toInt ≤ 3)) (h_f9_areSteps : (0 ≤ f9_areSteps.toInt ∧ f9_areSteps.toInt ≤ 1)) (h_f9_foundMany : (0 ≤ f9_foundMany.toInt ∧ f9_foundMany.toInt ≤ 99999)) (h_f9_many : (0 ≤ f9_many.toInt ∧ f9_many.toInt ≤ 6000)) (h_f9_rank : (0 ≤ f9_rank.toInt ∧ f9_rank.toInt ≤ 3)) (h_f9_freeMany : (0 ≤ f9_freeMany.toInt ∧ f9_freeMany.toInt ≤ 4)) (h_f9_arePlans : (0 ≤ f9_arePlans.toInt ∧ f9_arePlans.toInt ≤ 1)) (h_f9_planMany : (0 ≤ f9_planMany.toInt ∧ f9_planMany.toInt ≤ 194481)) (hI : IAM ai) : Met l yX9_begins (.code yX9_begins cX9_begins 2 none :: TT) ({ frames := 2, cells := 0, slots := 0, locals := 80 } : Room) (PcS dC dI (TY cI cJ cII cJJ) [.ref (ad 22)] (WM cI cJ cII cJJ ad f9_size f9_equations f9_areSteps f9_foundMany f9_many f9_rank f9_freeMany f9_arePlans f9_planMany ai al) sz 0 g) (Q_r022_X9_begins dC dI cI cJ cII cJJ ad f9_size f9_foundMany f9_many f9_rank f9_freeMany f9_planMany ai al (va_A (WM cI cJ cII cJJ ad f9_size f9_equations f9_areSteps f9_foundMany f9_many f9_rank f9_freeMany f9_arePlans f9_planMany ai al) sz)) 0 0 (va_A (WM cI cJ cII cJJ ad f9_size f9_equations f9_areSteps f9_foundMany f9_many f9_rank f9_freeMany f9_arePlans f9_planMany ai al) sz) := by
  refine SM.of (y := yX9_begins) (maxL := 2) (av := [.ref (ad 22)]) (Q_r022_X9_begins dC dI cI cJ cII cJJ ad f9_size f9_foundMany f9_many f9_rank f9_freeMany f9_planMany ai al) (by decide +kernel) (Nat.le_of_ble_eq_true rfl) (fun p e s m below meth c A ls hx hb hr hml hown hts hk hnm hA hK hP hD hS hX hl => ?_)
  have C : Cx p c s m meth (([.ref (ad 22)] : List Value).toArray) A dC dI (TY cI cJ cII cJJ) cX9_begins none 2 RX9 0 g := ⟨hx, hb, hr, hml, hown, hts, hk, hA, hK, hX⟩
  have hown : s.vm.findClass RX9 = some m.cls := hown
  have hl : lv_has ls 2 [(0, .ref (ad 22))] := hl
  obtain ⟨H, hH⟩ : ∃ q, q = s.heap := ⟨_, rfl⟩
  rw [← hH] at hP
  have hS : va_S A s.heap H [] := by rw [hH]; exact hS
  rw [← hH]
  have hF := FR_refl [23, 24, 25, 26, 27] ai
  refine lv_aload_n hx hb dX9_begins_0 rfl (lv_at hl 0 rfl) ?_
  refine lv_iconst (v := 0) hx hb dX9_begins_1 (by decide) ?_
  refine pf (k := 13) hx hb hts inX9 tyX9_ok nmX9 hown hK hP hD hS k_808 rfl (by decide) rfl rfl 22 rfl rfl rfl (Nat.le_of_ble_eq_true rfl) dX9_begins_2 (W' := (WM cI cJ cII cJJ ad f9_size 0 f9_areSteps f9_foundMany f9_many f9_rank f9_freeMany f9_arePlans f9_planMany ai al)) rfl (fun H_1 locs_1 hP_1 hD_1 hS_1 => ?_)
  refine lv_iconst (v := 0) hx hb dX9_begins_5 (by decide) ?_
  refine lv_istore_n (lv' := [(1, .int 0), (0, .ref (ad 22))]) hx hb dX9_begins_6 rfl hl (by decide) rfl (fun ls_2 hl_2 => ?_)
  exact r022_X9_begins_b7 C  _ 0 0 f9_areSteps f9_arePlans ai _ _ _ (by first | omega | decide | (have ka0 := (by decide +kernel : (0 : Int32).toInt = 0); omega)) (by first | omega | decide | (have ka0 := (by decide +kernel : (0 : Int32).toInt = 0); omega)) (by first | omega | decide | (have ka0 := (by decide +kernel : (0 : Int32).toInt = 0); omega)) (by first | omega | decide | (have ka0 := (by decide +kernel : (0 : Int32).toInt = 0); omega)) (by first | omega | decide | (have ka0 := (by decide +kernel : (0 : Int32).toInt = 0); omega)) (by first | omega | decide | (have ka0 := (by decide +kernel : (0 : Int32).toInt = 0); omega)) (by first | omega | decide | (have ka0 := (by decide +kernel : (0 : Int32).toInt = 0); omega)) (by first | omega | decide | (have ka0 := (by decide +kernel : (0 : Int32).toInt = 0); omega)) (by first | omega | decide | (have ka0 := (by decide +kernel : (0 : Int32).toInt = 0); omega)) (by first | omega | decide | (have ka0 := (by decide +kernel : (0 : Int32).toInt = 0); omega)) (j_fuel _) (by omega) hI hF hP_1 hD_1 hS_1 (lv_sub hl_2 [1, 0] rfl)
def Q_r023_X9_costOf (dC : Nat → ClassId) (dI : Nat → Nat → Nat) (cI cJ cII cJJ : ClassId) (ad : Nat → Nat) (f9_size f9_equations f9_areSteps f9_foundMany f9_many f9_rank f9_freeMany f9_arePlans f9_planMany : Int32) (ai : Nat → Nat → Int32) (al : Nat → Nat → Int64) : (Nat → Prop) → Array Value → State → Outcome → State → Prop := fun A => QL (fun r t => (r = csF ai (ai 27) f9_size.toInt.toNat) ∧ WO dC dI (TY cI cJ cII cJJ) (WM cI cJ cII cJJ ad f9_size f9_equations f9_areSteps f9_foundMany f9_many f9_rank f9_freeMany f9_arePlans f9_planMany ai al) A t) A
set_option maxRecDepth 100000 in
set_option maxHeartbeats 4000000 in
theorem r023_X9_costOf_b5 {p : Program} {l : Launch} {e : Env} {s : State} {m : MethodId} {args : Array Value} {below : List Frame} {meth : Method} {c : Code} {A : Nat → Prop} {dC : Nat → ClassId} {dI : Nat → Nat → Nat} {cI cJ cII cJJ : ClassId} {ad : Nat → Nat} {g : Nat} {f9_size f9_equations f9_areSteps f9_foundMany f9_many f9_rank f9_freeMany f9_arePlans f9_planMany : Int32} {ai : Nat → Nat → Int32} {al : Nat → Nat → Int64} (C : Cx p c s m meth args A dC dI (TY cI cJ cII cJJ) cX9_costOf (some .long) 6 RX9 0 g) : ∀ (n : Nat), ∀ (L5 : Int32) (J3 : Int64) (H : Heap) (locs : List Loc) (ls : Array Slot), (0 ≤ L5.toInt ∧ L5.toInt ≤ 4) → (1 ≤ f9_size.toInt ∧ f9_size.toInt ≤ 4) → (0 ≤ f9_equations.toInt ∧ f9_equations.toInt ≤ 3) → (0 ≤ f9_areSteps.toInt ∧ f9_areSteps.toInt ≤ 1) → (0 ≤ f9_foundMany.toInt ∧ f9_foundMany.toInt ≤ 99999) → (0 ≤ f9_many.toInt ∧ f9_many.toInt ≤ 6000) → (0 ≤ f9_rank.toInt ∧ f9_rank.toInt ≤ 3) → (0 ≤ f9_freeMany.toInt ∧ f9_freeMany.toInt ≤ 4) → (0 ≤ f9_arePlans.toInt ∧ f9_arePlans.toInt ≤ 1) → (0 ≤ f9_planMany.toInt ∧ f9_planMany.toInt ≤ 194481) → J3 = csF ai (ai 27) L5.toInt.toNat → L5.toInt ≤ f9_size.toInt → f9_size.toInt - L5.toInt < (n : Int) → (0 : Int) < (n : Int) → IAM ai → va_P (dC, dI) vwCl (WM cI cJ cII cJJ ad f9_size f9_equations f9_areSteps f9_foundMany f9_many f9_rank f9_freeMany f9_arePlans f9_planMany ai al) H → va_D A (WM cI cJ cII cJJ ad f9_size f9_equations f9_areSteps f9_foundMany f9_many f9_rank f9_freeMany f9_arePlans f9_planMany ai al) → va_S A s.heap H locs → lv_has ls 6 [(0, .ref (ad 22)), (1, .ref (ad 27)), (2, .int 0), (3, .long J3), (5, .int L5)] → W p l e ({ frames := 2, cells := 0, slots := 0, locals := 80 } : Room) s m args below meth c H locs 0 0 (MQ below (Q_r023_X9_costOf dC dI cI cJ cII cJJ ad f9_size f9_equations f9_areSteps f9_foundMany f9_many f9_rank f9_freeMany f9_arePlans f9_planMany ai al A) args s 0 0 A) (F0 m 5 ls []) := by
  obtain ⟨hx, hb, hr, hml, hown, hts, hk, hA, hK, hX⟩ := id C
  intro n
  induction n with
  | zero =>
    intro L5 J3 H locs ls h0 h1 h2 h3 h4 h5 h6 h7 h8 h9 h10 h11 h12 h13 hI hP hD hS hl
    exact absurd h13 (by omega)
  | succ n ih =>
    intro L5 J3 H locs ls h0 h1 h2 h3 h4 h5 h6 h7 h8 h9 h10 h11 h12 h13 hI hP hD hS hl
    refine lv_iload hx hb dX9_costOf_5 (lv_at hl 4 rfl) ?_
    refine lv_aload_n hx hb dX9_costOf_7 rfl (lv_at hl 0 rfl) ?_
    refine gf (k := 12) hx hb hts inX9 hown hK hP k_807 rfl (by decide) rfl 22 rfl (.int f9_size) rfl dX9_costOf_8 ?_
    refine lv_icmp_ge (tgt := 64) hx hb dX9_costOf_11 (by decide) (fun c1 => ?_) (fun c1 => ?_)
    · have c1 := j_le (a := f9_size.toInt) (b := L5.toInt) rfl rfl c1
      refine lv_lload_n hx hb dX9_costOf_64 rfl (lv_at hl 3 rfl) ?_
      exact r2_l hx hb hr hk hS dX9_costOf_65 (fun t ht hW => ⟨(by rw [show f9_size.toInt.toNat = L5.toInt.toNat by omega]; exact h10), by rw [ht]; exact hP, va_K.moved hW.alike hK, hD⟩)
    · have c1 := j_nle (a := f9_size.toInt) (b := L5.toInt) rfl rfl c1
      refine lv_lload_n hx hb dX9_costOf_14 rfl (lv_at hl 3 rfl) ?_
      refine lv_aload_n hx hb dX9_costOf_15 rfl (lv_at hl 0 rfl) ?_
      refine gf (k := 4) hx hb hts inX9 hown hK hP k_799 rfl (by decide) rfl 22 rfl (.ref (ad 25)) rfl dX9_costOf_16 ?_
      refine lv_iload hx hb dX9_costOf_19 (lv_at hl 4 rfl) ?_
      refine va_iald hx hb hK hP 25 0 rfl rfl (j_in (a := L5.toInt) rfl (by omega) (by omega)) dX9_costOf_21 ?_
      refine lv_topi (fun z2 e_z2 => ?_)
      refine lv_i2l hx hb dX9_costOf_22 rfl ?_
      refine lv_topl (fun yy3 e_yy3 => ?_)
      refine lv_aload_n hx hb dX9_costOf_23 rfl (lv_at hl 1 rfl) ?_
      refine lv_iload_n hx hb dX9_costOf_24 rfl (lv_at hl 2 rfl) ?_
      refine lv_iload hx hb dX9_costOf_25 (lv_at hl 4 rfl) ?_
      refine v_iadd hx hb dX9_costOf_27 _ rfl ?_
      refine lv_topi (fun z4 e_z4 => ?_)
      have g_z4 : z4.toInt = 0 + L5.toInt := by rw [e_z4]; exact n_add (a := 0) (b := L5.toInt) (by decide +kernel) rfl (by omega) (by omega)
      refine va_iald hx hb hK hP 27 0 rfl rfl (j_in (a := z4.toInt) rfl (by omega) (by omega)) dX9_costOf_28 ?_
      refine lv_topi (fun z5 e_z5 => ?_)
      refine lv_i2l hx hb dX9_costOf_29 rfl ?_
      refine lv_topl (fun yy6 e_yy6 => ?_)
      refine v_lmul hx hb dX9_costOf_30 _ rfl ?_
      refine lv_topl (fun yy7 e_yy7 => ?_)
      refine lv_aload_n hx hb dX9_costOf_31 rfl (lv_at hl 0 rfl) ?_
      refine gf (k := 5) hx hb hts inX9 hown hK hP k_800 rfl (by decide) rfl 22 rfl (.ref (ad 26)) rfl dX9_costOf_32 ?_
      refine lv_iload hx hb dX9_costOf_35 (lv_at hl 4 rfl) ?_
      refine va_iald hx hb hK hP 26 0 rfl rfl (j_in (a := L5.toInt) rfl (by omega) (by omega)) dX9_costOf_37 ?_
      refine lv_topi (fun z8 e_z8 => ?_)
      refine lv_i2l hx hb dX9_costOf_38 rfl ?_
      refine lv_topl (fun yy9 e_yy9 => ?_)
      refine lv_aload_n hx hb dX9_costOf_39 rfl (lv_at hl 1 rfl) ?_
      refine lv_iload_n hx hb dX9_costOf_40 rfl (lv_at hl 2 rfl) ?_
      refine lv_iload hx hb dX9_costOf_41 (lv_at hl 4 rfl) ?_
      refine v_iadd hx hb dX9_costOf_43 _ rfl ?_
      refine lv_topi (fun z10 e_z10 => ?_)
      have g_z10 : z10.toInt = 0 + L5.toInt := by rw [e_z10]; exact n_add (a := 0) (b := L5.toInt) (by decide +kernel) rfl (by omega) (by omega)
      refine va_iald hx hb hK hP 27 0 rfl rfl (j_in (a := z10.toInt) rfl (by omega) (by omega)) dX9_costOf_44 ?_
      refine lv_topi (fun z11 e_z11 => ?_)
      refine lv_i2l hx hb dX9_costOf_45 rfl ?_
      refine lv_topl (fun yy12 e_yy12 => ?_)
      refine v_lmul hx hb dX9_costOf_46 _ rfl ?_
      refine lv_topl (fun yy13 e_yy13 => ?_)
      refine lv_aload_n hx hb dX9_costOf_47 rfl (lv_at hl 1 rfl) ?_
      refine lv_iload_n hx hb dX9_costOf_48 rfl (lv_at hl 2 rfl) ?_
      refine lv_iload hx hb dX9_costOf_49 (lv_at hl 4 rfl) ?_
      refine v_iadd hx hb dX9_costOf_51 _ rfl ?_
      refine lv_topi (fun z14 e_z14 => ?_)
      have g_z14 : z14.toInt = 0 + L5.toInt := by rw [e_z14]; exact n_add (a := 0) (b := L5.toInt) (by decide +kernel) rfl (by omega) (by omega)
      refine va_iald hx hb hK hP 27 0 rfl rfl (j_in (a := z14.toInt) rfl (by omega) (by omega)) dX9_costOf_52 ?_
      refine lv_topi (fun z15 e_z15 => ?_)
      refine lv_i2l hx hb dX9_costOf_53 rfl ?_
      refine lv_topl (fun yy16 e_yy16 => ?_)
      refine v_lmul hx hb dX9_costOf_54 _ rfl ?_
      refine lv_topl (fun yy17 e_yy17 => ?_)
      refine v_ladd hx hb dX9_costOf_55 _ rfl ?_
      refine lv_topl (fun yy18 e_yy18 => ?_)
      refine v_ladd hx hb dX9_costOf_56 _ rfl ?_
      refine lv_topl (fun yy19 e_yy19 => ?_)
      refine lv_lstore_n (lv' := [(3, .long yy19), (0, .ref (ad 22)), (1, .ref (ad 27)), (2, .int 0), (5, .int L5)]) hx hb dX9_costOf_57 rfl hl (by decide) rfl (fun ls_1 hl_1 => ?_)
      obtain ⟨z20, e_z20⟩ : ∃ q : Int32, q = L5 + Int32.ofInt 1 := ⟨_, rfl⟩
      have g_z20 : z20.toInt = L5.toInt + 1 := by rw [e_z20]; exact n_add (a := L5.toInt) (b := 1) rfl (by decide +kernel) (by omega) (by omega)
      refine lv_iinc (v := z20) (lv' := [(5, .int z20), (3, .long yy19), (0, .ref (ad 22)), (1, .ref (ad 27)), (2, .int 0)]) hx hb dX9_costOf_58 hl_1 (k := 4) rfl e_z20.symm (by decide) rfl (fun ls_2 hl_2 => ?_)
      refine lv_goto (tgt := 5) hx hb dX9_costOf_61 (by decide) ?_
      exact ih z20 yy19 _ _ _ (by omega) (by omega) (by omega) (by omega) (by omega) (by omega) (by omega) (by omega) (by omega) (by omega) (co_stp (z := z20) h10 (by omega) (by omega) e_z2 (show z5 = ai 27 L5.toInt.toNat by rw [e_z5]; exact congrArg (ai 27) (show z4.toInt.toNat = L5.toInt.toNat by omega)) (show z11 = ai 27 L5.toInt.toNat by rw [e_z11]; exact congrArg (ai 27) (show z10.toInt.toNat = L5.toInt.toNat by omega)) (show z15 = ai 27 L5.toInt.toNat by rw [e_z15]; exact congrArg (ai 27) (show z14.toInt.toNat = L5.toInt.toNat by omega)) e_z8 (by rw [e_yy19, e_yy18, e_yy17, e_yy16, e_yy13, e_yy12, e_yy9, e_yy7, e_yy6, e_yy3])) (by omega) (by omega) (by omega) hI hP hD hS (lv_sub hl_2 [2, 3, 4, 1, 0] rfl)
set_option maxRecDepth 100000 in
set_option maxHeartbeats 4000000 in
theorem r023_X9_costOf (l : Launch) (dC : Nat → ClassId) (dI : Nat → Nat → Nat) (cI cJ cII cJJ : ClassId) (sz g : Nat) (ad : Nat → Nat) (f9_size f9_equations f9_areSteps f9_foundMany f9_many f9_rank f9_freeMany f9_arePlans f9_planMany : Int32) (ai : Nat → Nat → Int32) (al : Nat → Nat → Int64) (h_f9_size : (1 ≤ f9_size.toInt ∧ f9_size.toInt ≤ 4)) (h_f9_equations : (0 ≤ f9_equations.toInt ∧ f9_equations.toInt ≤ 3)) (h_f9_areSteps : (0 ≤ f9_areSteps.toInt ∧ f9_areSteps.toInt ≤ 1)) (h_f9_foundMany : (0 ≤ f9_foundMany.toInt ∧ f9_foundMany.toInt ≤ 99999)) (h_f9_many : (0 ≤ f9_many.toInt ∧ f9_many.toInt ≤ 6000)) (h_f9_rank : (0 ≤ f9_rank.toInt ∧ f9_rank.toInt ≤ 3)) (h_f9_freeMany : (0 ≤ f9_freeMany.toInt ∧ f9_freeMany.toInt ≤ 4)) (h_f9_arePlans : (0 ≤ f9_arePlans.toInt ∧ f9_arePlans.toInt ≤ 1)) (h_f9_planMany : (0 ≤ f9_planMany.toInt ∧ f9_planMany.toInt ≤ 194481)) (hI : IAM ai) : Met l yX9_costOf (.code yX9_costOf cX9_costOf 6 (some .long) :: TT) ({ frames := 2, cells := 0, slots := 0, locals := 80 } : Room) (PcS dC dI (TY cI cJ cII cJJ) [.ref (ad 22), .ref (ad 27), .int 0] (WM cI cJ cII cJJ ad f9_size f9_equations f9_areSteps f9_foundMany f9_many f9_rank f9_freeMany f9_arePlans f9_planMany ai al) sz 0 g) (Q_r023_X9_costOf dC dI cI cJ cII cJJ ad f9_size f9_equations f9_areSteps f9_foundMany f9_many f9_rank f9_freeMany f9_arePlans f9_planMany ai al (va_A (WM cI cJ cII cJJ ad f9_size f9_equations f9_areSteps f9_foundMany f9_many f9_rank f9_freeMany f9_arePlans f9_planMany ai al) sz)) 0 0 (va_A (WM cI cJ cII cJJ ad f9_size f9_equations f9_areSteps f9_foundMany f9_many f9_rank f9_freeMany f9_arePlans f9_planMany ai al) sz) := by
  refine SM.of (y := yX9_costOf) (maxL := 6) (av := [.ref (ad 22), .ref (ad 27), .int 0]) (Q_r023_X9_costOf dC dI cI cJ cII cJJ ad f9_size f9_equations f9_areSteps f9_foundMany f9_many f9_rank f9_freeMany f9_arePlans f9_planMany ai al) (by decide +kernel) (Nat.le_of_ble_eq_true rfl) (fun p e s m below meth c A ls hx hb hr hml hown hts hk hnm hA hK hP hD hS hX hl => ?_)
  have C : Cx p c s m meth (([.ref (ad 22), .ref (ad 27), .int 0] : List Value).toArray) A dC dI (TY cI cJ cII cJJ) cX9_costOf (some .long) 6 RX9 0 g := ⟨hx, hb, hr, hml, hown, hts, hk, hA, hK, hX⟩
  have hown : s.vm.findClass RX9 = some m.cls := hown
  have hl : lv_has ls 6 [(0, .ref (ad 22)), (1, .ref (ad 27)), (2, .int 0)] := hl
  obtain ⟨H, hH⟩ : ∃ q, q = s.heap := ⟨_, rfl⟩
  rw [← hH] at hP
  have hS : va_S A s.heap H [] := by rw [hH]; exact hS
  rw [← hH]
  refine lv_lconst (v := 0) hx hb dX9_costOf_0 (by decide) ?_
  refine lv_lstore_n (lv' := [(3, .long 0), (0, .ref (ad 22)), (1, .ref (ad 27)), (2, .int 0)]) hx hb dX9_costOf_1 rfl hl (by decide) rfl (fun ls_1 hl_1 => ?_)
  refine lv_iconst (v := 0) hx hb dX9_costOf_2 (by decide) ?_
  refine lv_istore (lv' := [(5, .int 0), (3, .long 0), (0, .ref (ad 22)), (1, .ref (ad 27)), (2, .int 0)]) hx hb dX9_costOf_3 hl_1 (by decide) rfl (fun ls_2 hl_2 => ?_)
  exact r023_X9_costOf_b5 C  _ 0 0 _ _ _ (by first | omega | decide | (have ka0 := (by decide +kernel : (0 : Int32).toInt = 0); omega)) (by first | omega | decide | (have ka0 := (by decide +kernel : (0 : Int32).toInt = 0); omega)) (by first | omega | decide | (have ka0 := (by decide +kernel : (0 : Int32).toInt = 0); omega)) (by first | omega | decide | (have ka0 := (by decide +kernel : (0 : Int32).toInt = 0); omega)) (by first | omega | decide | (have ka0 := (by decide +kernel : (0 : Int32).toInt = 0); omega)) (by first | omega | decide | (have ka0 := (by decide +kernel : (0 : Int32).toInt = 0); omega)) (by first | omega | decide | (have ka0 := (by decide +kernel : (0 : Int32).toInt = 0); omega)) (by first | omega | decide | (have ka0 := (by decide +kernel : (0 : Int32).toInt = 0); omega)) (by first | omega | decide | (have ka0 := (by decide +kernel : (0 : Int32).toInt = 0); omega)) (by first | omega | decide | (have ka0 := (by decide +kernel : (0 : Int32).toInt = 0); omega)) rfl (by have q3 := (by decide : (0 : Int32).toInt = 0); omega) (j_fuel _) (by omega) hI hP hD hS (lv_sub hl_2 [2, 3, 4, 1, 0] rfl)
def Q_r024_X9_sum (dC : Nat → ClassId) (dI : Nat → Nat → Nat) (cI cJ cII cJJ : ClassId) (ad : Nat → Nat) (f9_size f9_equations f9_areSteps f9_foundMany f9_many f9_rank f9_freeMany f9_arePlans f9_planMany : Int32) (ai : Nat → Nat → Int32) (al : Nat → Nat → Int64) : (Nat → Prop) → Array Value → State → Outcome → State → Prop := fun A => QI (fun r t => (True) ∧ WO dC dI (TY cI cJ cII cJJ) (WM cI cJ cII cJJ ad f9_size f9_equations f9_areSteps f9_foundMany f9_many f9_rank f9_freeMany f9_arePlans f9_planMany ai al) A t) A
set_option maxRecDepth 100000 in
set_option maxHeartbeats 4000000 in
theorem r024_X9_sum_b6 {p : Program} {l : Launch} {e : Env} {s : State} {m : MethodId} {args : Array Value} {below : List Frame} {meth : Method} {c : Code} {A : Nat → Prop} {dC : Nat → ClassId} {dI : Nat → Nat → Nat} {cI cJ cII cJJ : ClassId} {ad : Nat → Nat} {g : Nat} {f9_size f9_equations f9_areSteps f9_foundMany f9_many f9_rank f9_freeMany f9_arePlans f9_planMany : Int32} {ai : Nat → Nat → Int32} {al : Nat → Nat → Int64} (C : Cx p c s m meth args A dC dI (TY cI cJ cII cJJ) cX9_sum (some .int) 6 RX9 0 g) : ∀ (n : Nat), ∀ (L1 L4 L5 : Int32) (H : Heap) (locs : List Loc) (ls : Array Slot), (0 ≤ L1.toInt ∧ L1.toInt ≤ 2) → (0 ≤ L5.toInt ∧ L5.toInt ≤ 4) → (1 ≤ f9_size.toInt ∧ f9_size.toInt ≤ 4) → (0 ≤ f9_equations.toInt ∧ f9_equations.toInt ≤ 3) → (0 ≤ f9_areSteps.toInt ∧ f9_areSteps.toInt ≤ 1) → (0 ≤ f9_foundMany.toInt ∧ f9_foundMany.toInt ≤ 99999) → (0 ≤ f9_many.toInt ∧ f9_many.toInt ≤ 6000) → (0 ≤ f9_rank.toInt ∧ f9_rank.toInt ≤ 3) → (0 ≤ f9_freeMany.toInt ∧ f9_freeMany.toInt ≤ 4) → (0 ≤ f9_arePlans.toInt ∧ f9_arePlans.toInt ≤ 1) → (0 ≤ f9_planMany.toInt ∧ f9_planMany.toInt ≤ 194481) → f9_size.toInt - L5.toInt < (n : Int) → (0 : Int) < (n : Int) → IAM ai → va_P (dC, dI) vwCl (WM cI cJ cII cJJ ad f9_size f9_equations f9_areSteps f9_foundMany f9_many f9_rank f9_freeMany f9_arePlans f9_planMany ai al) H → va_D A (WM cI cJ cII cJJ ad f9_size f9_equations f9_areSteps f9_foundMany f9_many f9_rank f9_freeMany f9_arePlans f9_planMany ai al) → va_S A s.heap H locs → lv_has ls 6 [(0, .ref (ad 22)), (1, .int L1), (2, .ref (ad 27)), (3, .int 0), (4, .int L4), (5, .int L5)] → W p l e ({ frames := 2, cells := 0, slots := 0, locals := 80 } : Room) s m args below meth c H locs 0 0 (MQ below (Q_r024_X9_sum dC dI cI cJ cII cJJ ad f9_size f9_equations f9_areSteps f9_foundMany f9_many f9_rank f9_freeMany f9_arePlans f9_planMany ai al A) args s 0 0 A) (F0 m 6 ls []) := by
  obtain ⟨hx, hb, hr, hml, hown, hts, hk, hA, hK, hX⟩ := id C
  intro n
  induction n with
  | zero =>
    intro L1 L4 L5 H locs ls h0 h1 h2 h3 h4 h5 h6 h7 h8 h9 h10 h11 h12 hI hP hD hS hl
    exact absurd h12 (by omega)
  | succ n ih =>
    intro L1 L4 L5 H locs ls h0 h1 h2 h3 h4 h5 h6 h7 h8 h9 h10 h11 h12 hI hP hD hS hl
    have ra_L4 := s_any L4
    refine lv_iload hx hb dX9_sum_6 (lv_at hl 5 rfl) ?_
    refine lv_aload_n hx hb dX9_sum_8 rfl (lv_at hl 0 rfl) ?_
    refine gf (k := 12) hx hb hts inX9 hown hK hP k_807 rfl (by decide) rfl 22 rfl (.int f9_size) rfl dX9_sum_9 ?_
    refine lv_icmp_ge (tgt := 44) hx hb dX9_sum_12 (by decide) (fun c1 => ?_) (fun c1 => ?_)
    · have c1 := j_le (a := f9_size.toInt) (b := L5.toInt) rfl rfl c1
      refine lv_iload hx hb dX9_sum_44 (lv_at hl 4 rfl) ?_
      exact r2_i hx hb hr hk hS dX9_sum_46 (fun t ht hW => ⟨trivial, by rw [ht]; exact hP, va_K.moved hW.alike hK, hD⟩)
    · have c1 := j_nle (a := f9_size.toInt) (b := L5.toInt) rfl rfl c1
      refine lv_iload hx hb dX9_sum_15 (lv_at hl 4 rfl) ?_
      refine lv_aload_n hx hb dX9_sum_17 rfl (lv_at hl 0 rfl) ?_
      refine gf (k := 0) hx hb hts inX9 hown hK hP k_795 rfl (by decide) rfl 22 rfl (.ref (ad 0)) rfl dX9_sum_18 ?_
      refine lv_iconst (v := 4) hx hb dX9_sum_21 (by decide) ?_
      refine lv_iload_n hx hb dX9_sum_22 rfl (lv_at hl 1 rfl) ?_
      refine v_imul hx hb dX9_sum_23 _ rfl ?_
      refine lv_topi (fun z2 e_z2 => ?_)
      have g_z2 : z2.toInt = 4 * L1.toInt := by rw [e_z2]; exact n_mul (a := 4) (b := L1.toInt) (by decide +kernel) rfl (by omega) (by omega)
      refine lv_iload hx hb dX9_sum_24 (lv_at hl 5 rfl) ?_
      refine v_iadd hx hb dX9_sum_26 _ rfl ?_
      refine lv_topi (fun z3 e_z3 => ?_)
      have g_z3 : z3.toInt = z2.toInt + L5.toInt := by rw [e_z3]; exact n_add (a := z2.toInt) (b := L5.toInt) rfl rfl (by omega) (by omega)
      refine va_iald hx hb hK hP 0 0 rfl rfl (j_in (a := z3.toInt) rfl (by omega) (by omega)) dX9_sum_27 ?_
      refine lv_topi (fun z4 e_z4 => ?_)
      have g_z4 : -6 ≤ z4.toInt ∧ z4.toInt ≤ 6 := by rw [e_z4]; exact IAM_at0 hI _
      refine lv_aload_n hx hb dX9_sum_28 rfl (lv_at hl 2 rfl) ?_
      refine lv_iload_n hx hb dX9_sum_29 rfl (lv_at hl 3 rfl) ?_
      refine lv_iload hx hb dX9_sum_30 (lv_at hl 5 rfl) ?_
      refine v_iadd hx hb dX9_sum_32 _ rfl ?_
      refine lv_topi (fun z5 e_z5 => ?_)
      have g_z5 : z5.toInt = 0 + L5.toInt := by rw [e_z5]; exact n_add (a := 0) (b := L5.toInt) (by decide +kernel) rfl (by omega) (by omega)
      refine va_iald hx hb hK hP 27 0 rfl rfl (j_in (a := z5.toInt) rfl (by omega) (by omega)) dX9_sum_33 ?_
      refine lv_topi (fun z6 e_z6 => ?_)
      refine v_imul hx hb dX9_sum_34 _ rfl ?_
      refine lv_topi (fun z7 e_z7 => ?_)
      refine v_iadd hx hb dX9_sum_35 _ rfl ?_
      refine lv_topi (fun z8 e_z8 => ?_)
      refine lv_istore (lv' := [(4, .int z8), (0, .ref (ad 22)), (1, .int L1), (2, .ref (ad 27)), (3, .int 0), (5, .int L5)]) hx hb dX9_sum_36 hl (by decide) rfl (fun ls_1 hl_1 => ?_)
      obtain ⟨z9, e_z9⟩ : ∃ q : Int32, q = L5 + Int32.ofInt 1 := ⟨_, rfl⟩
      have g_z9 : z9.toInt = L5.toInt + 1 := by rw [e_z9]; exact n_add (a := L5.toInt) (b := 1) rfl (by decide +kernel) (by omega) (by omega)
      refine lv_iinc (v := z9) (lv' := [(5, .int z9), (4, .int z8), (0, .ref (ad 22)), (1, .int L1), (2, .ref (ad 27)), (3, .int 0)]) hx hb dX9_sum_38 hl_1 (k := 5) rfl e_z9.symm (by decide) rfl (fun ls_2 hl_2 => ?_)
      refine lv_goto (tgt := 6) hx hb dX9_sum_41 (by decide) ?_
      exact ih L1 z8 z9 _ _ _ (by omega) (by omega) (by omega) (by omega) (by omega) (by omega) (by omega) (by omega) (by omega) (by omega) (by omega) (by omega) (by omega) hI hP hD hS (lv_sub hl_2 [2, 3, 4, 5, 1, 0] rfl)
set_option maxRecDepth 100000 in
set_option maxHeartbeats 4000000 in
theorem r024_X9_sum (l : Launch) (dC : Nat → ClassId) (dI : Nat → Nat → Nat) (cI cJ cII cJJ : ClassId) (sz g : Nat) (ad : Nat → Nat) (f9_size f9_equations f9_areSteps f9_foundMany f9_many f9_rank f9_freeMany f9_arePlans f9_planMany : Int32) (ai : Nat → Nat → Int32) (al : Nat → Nat → Int64) (x1 : Int32) (h_x1 : (0 ≤ x1.toInt ∧ x1.toInt ≤ 2)) (h_f9_size : (1 ≤ f9_size.toInt ∧ f9_size.toInt ≤ 4)) (h_f9_equations : (0 ≤ f9_equations.toInt ∧ f9_equations.toInt ≤ 3)) (h_f9_areSteps : (0 ≤ f9_areSteps.toInt ∧ f9_areSteps.toInt ≤ 1)) (h_f9_foundMany : (0 ≤ f9_foundMany.toInt ∧ f9_foundMany.toInt ≤ 99999)) (h_f9_many : (0 ≤ f9_many.toInt ∧ f9_many.toInt ≤ 6000)) (h_f9_rank : (0 ≤ f9_rank.toInt ∧ f9_rank.toInt ≤ 3)) (h_f9_freeMany : (0 ≤ f9_freeMany.toInt ∧ f9_freeMany.toInt ≤ 4)) (h_f9_arePlans : (0 ≤ f9_arePlans.toInt ∧ f9_arePlans.toInt ≤ 1)) (h_f9_planMany : (0 ≤ f9_planMany.toInt ∧ f9_planMany.toInt ≤ 194481)) (hI : IAM ai) : Met l yX9_sum (.code yX9_sum cX9_sum 6 (some .int) :: TT) ({ frames := 2, cells := 0, slots := 0, locals := 80 } : Room) (PcS dC dI (TY cI cJ cII cJJ) [.ref (ad 22), .int x1, .ref (ad 27), .int 0] (WM cI cJ cII cJJ ad f9_size f9_equations f9_areSteps f9_foundMany f9_many f9_rank f9_freeMany f9_arePlans f9_planMany ai al) sz 0 g) (Q_r024_X9_sum dC dI cI cJ cII cJJ ad f9_size f9_equations f9_areSteps f9_foundMany f9_many f9_rank f9_freeMany f9_arePlans f9_planMany ai al (va_A (WM cI cJ cII cJJ ad f9_size f9_equations f9_areSteps f9_foundMany f9_many f9_rank f9_freeMany f9_arePlans f9_planMany ai al) sz)) 0 0 (va_A (WM cI cJ cII cJJ ad f9_size f9_equations f9_areSteps f9_foundMany f9_many f9_rank f9_freeMany f9_arePlans f9_planMany ai al) sz) := by
  refine SM.of (y := yX9_sum) (maxL := 6) (av := [.ref (ad 22), .int x1, .ref (ad 27), .int 0]) (Q_r024_X9_sum dC dI cI cJ cII cJJ ad f9_size f9_equations f9_areSteps f9_foundMany f9_many f9_rank f9_freeMany f9_arePlans f9_planMany ai al) (by decide +kernel) (Nat.le_of_ble_eq_true rfl) (fun p e s m below meth c A ls hx hb hr hml hown hts hk hnm hA hK hP hD hS hX hl => ?_)
  have C : Cx p c s m meth (([.ref (ad 22), .int x1, .ref (ad 27), .int 0] : List Value).toArray) A dC dI (TY cI cJ cII cJJ) cX9_sum (some .int) 6 RX9 0 g := ⟨hx, hb, hr, hml, hown, hts, hk, hA, hK, hX⟩
  have hown : s.vm.findClass RX9 = some m.cls := hown
  have hl : lv_has ls 6 [(0, .ref (ad 22)), (1, .int x1), (2, .ref (ad 27)), (3, .int 0)] := hl
  obtain ⟨H, hH⟩ : ∃ q, q = s.heap := ⟨_, rfl⟩
  rw [← hH] at hP
  have hS : va_S A s.heap H [] := by rw [hH]; exact hS
  rw [← hH]
  refine lv_iconst (v := 0) hx hb dX9_sum_0 (by decide) ?_
  refine lv_istore (lv' := [(4, .int 0), (0, .ref (ad 22)), (1, .int x1), (2, .ref (ad 27)), (3, .int 0)]) hx hb dX9_sum_1 hl (by decide) rfl (fun ls_1 hl_1 => ?_)
  refine lv_iconst (v := 0) hx hb dX9_sum_3 (by decide) ?_
  refine lv_istore (lv' := [(5, .int 0), (4, .int 0), (0, .ref (ad 22)), (1, .int x1), (2, .ref (ad 27)), (3, .int 0)]) hx hb dX9_sum_4 hl_1 (by decide) rfl (fun ls_2 hl_2 => ?_)
  exact r024_X9_sum_b6 C  _ x1 0 0 _ _ _ (by first | omega | decide | (have ka0 := (by decide +kernel : (0 : Int32).toInt = 0); omega)) (by first | omega | decide | (have ka0 := (by decide +kernel : (0 : Int32).toInt = 0); omega)) (by first | omega | decide | (have ka0 := (by decide +kernel : (0 : Int32).toInt = 0); omega)) (by first | omega | decide | (have ka0 := (by decide +kernel : (0 : Int32).toInt = 0); omega)) (by first | omega | decide | (have ka0 := (by decide +kernel : (0 : Int32).toInt = 0); omega)) (by first | omega | decide | (have ka0 := (by decide +kernel : (0 : Int32).toInt = 0); omega)) (by first | omega | decide | (have ka0 := (by decide +kernel : (0 : Int32).toInt = 0); omega)) (by first | omega | decide | (have ka0 := (by decide +kernel : (0 : Int32).toInt = 0); omega)) (by first | omega | decide | (have ka0 := (by decide +kernel : (0 : Int32).toInt = 0); omega)) (by first | omega | decide | (have ka0 := (by decide +kernel : (0 : Int32).toInt = 0); omega)) (by first | omega | decide | (have ka0 := (by decide +kernel : (0 : Int32).toInt = 0); omega)) (j_fuel _) (by omega) hI hP hD hS (lv_sub hl_2 [2, 3, 4, 5, 1, 0] rfl)
