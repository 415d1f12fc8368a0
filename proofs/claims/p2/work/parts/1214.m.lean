def Q_r018_X9_findSteps (dC : Nat → ClassId) (dI : Nat → Nat → Nat) (cI cJ cII cJJ : ClassId) (ad : Nat → Nat) (f9_size f9_equations f9_arePlans f9_planMany : Int32) (ai0 : Nat → Nat → Int32) (al0 : Nat → Nat → Int64) (o_f9_areSteps : Int32) (o_f9_many : Int32) : (Nat → Prop) → Array Value → State → Outcome → State → Prop := fun A => QV (fun t => ∃ (n_f9_areSteps n_f9_foundMany n_f9_many n_f9_rank n_f9_freeMany : Int32), ∃ (n_ai : Nat → Nat → Int32), ∃ (n_al : Nat → Nat → Int64), ((1 ≤ n_f9_areSteps.toInt ∧ n_f9_areSteps.toInt ≤ 1) ∧ (0 ≤ n_f9_foundMany.toInt ∧ n_f9_foundMany.toInt ≤ 99999) ∧ (0 ≤ n_f9_many.toInt ∧ n_f9_many.toInt ≤ 6000) ∧ (0 ≤ n_f9_rank.toInt ∧ n_f9_rank.toInt ≤ 3) ∧ (0 ≤ n_f9_freeMany.toInt ∧ n_f9_freeMany.toInt ≤ 4) ∧ CIa n_ai f9_size n_f9_many.toInt ∧ n_f9_areSteps.toInt = 1 ∧ IAM n_ai ∧ FR [7, 8, 9, 10, 11, 12, 13, 14, 15, 16] ai0 n_ai ∧ FL [17, 18] al0 n_al) ∧ WO dC dI (TY cI cJ cII cJJ) (WM cI cJ cII cJJ ad f9_size f9_equations n_f9_areSteps n_f9_foundMany n_f9_many n_f9_rank n_f9_freeMany f9_arePlans f9_planMany n_ai n_al) A t) A
set_option maxRecDepth 100000 in
set_option maxHeartbeats 4000000 in
theorem r018_X9_findSteps_b269 {p : Program} {l : Launch} {e : Env} {s : State} {m : MethodId} {args : Array Value} {below : List Frame} {meth : Method} {c : Code} {A : Nat → Prop} {dC : Nat → ClassId} {dI : Nat → Nat → Nat} {cI cJ cII cJJ : ClassId} {ad : Nat → Nat} {g : Nat} {f9_size f9_equations f9_arePlans f9_planMany : Int32} {ai0 : Nat → Nat → Int32} {al0 : Nat → Nat → Int64} {o_f9_areSteps : Int32} {o_f9_many : Int32} (C : Cx p c s m meth args A dC dI (TY cI cJ cII cJJ) cX9_findSteps none 3 RX9 0 g) (hp0 : (o_f9_areSteps.toInt = 0 ∨ CIa ai0 f9_size o_f9_many.toInt)) : ∀ (n : Nat), ∀ (L1 L2 f9_areSteps f9_foundMany f9_many f9_rank f9_freeMany : Int32) (ai : Nat → Nat → Int32) (al : Nat → Nat → Int64) (H : Heap) (locs : List Loc) (ls : Array Slot), (1 ≤ L1.toInt ∧ L1.toInt ≤ 1296) → (0 ≤ L2.toInt ∧ L2.toInt ≤ 99999) → (1 ≤ f9_size.toInt ∧ f9_size.toInt ≤ 4) → (0 ≤ f9_equations.toInt ∧ f9_equations.toInt ≤ 3) → (1 ≤ f9_areSteps.toInt ∧ f9_areSteps.toInt ≤ 1) → (0 ≤ f9_foundMany.toInt ∧ f9_foundMany.toInt ≤ 99999) → (0 ≤ f9_many.toInt ∧ f9_many.toInt ≤ 6000) → (0 ≤ f9_rank.toInt ∧ f9_rank.toInt ≤ 3) → (1 ≤ f9_freeMany.toInt ∧ f9_freeMany.toInt ≤ 4) → (0 ≤ f9_arePlans.toInt ∧ f9_arePlans.toInt ≤ 1) → (0 ≤ f9_planMany.toInt ∧ f9_planMany.toInt ≤ 194481) → FND ai f9_size f9_rank f9_freeMany (f9_freeMany * L1) f9_foundMany.toInt → GRT f9_rank L1 → Ord f9_foundMany.toInt.toNat (gn ai) (on ai) → KPa ai f9_size f9_rank f9_freeMany (f9_freeMany * L1) L2.toInt f9_many.toInt → L2.toInt ≤ f9_foundMany.toInt → f9_foundMany.toInt - L2.toInt < (n : Int) → (0 : Int) < (n : Int) → IAM ai → FR [7, 8, 9, 10, 11, 12, 13, 14, 15, 16] ai0 ai → FL [17, 18] al0 al → va_P (dC, dI) vwCl (WM cI cJ cII cJJ ad f9_size f9_equations f9_areSteps f9_foundMany f9_many f9_rank f9_freeMany f9_arePlans f9_planMany ai al) H → va_D A (WM cI cJ cII cJJ ad f9_size f9_equations f9_areSteps f9_foundMany f9_many f9_rank f9_freeMany f9_arePlans f9_planMany ai al) → va_S A s.heap H locs → lv_has ls 3 [(0, .ref (ad 22)), (1, .int L1), (2, .int L2)] → W p l e ({ frames := 10, cells := 0, slots := 0, locals := 560 } : Room) s m args below meth c H locs 0 0 (MQ below (Q_r018_X9_findSteps dC dI cI cJ cII cJJ ad f9_size f9_equations f9_arePlans f9_planMany ai0 al0 o_f9_areSteps o_f9_many A) args s 0 0 A) (F0 m 269 ls []) := by
  obtain ⟨hx, hb, hr, hml, hown, hts, hk, hA, hK, hX⟩ := id C
  intro n
  induction n with
  | zero =>
    intro L1 L2 f9_areSteps f9_foundMany f9_many f9_rank f9_freeMany ai al H locs ls h0 h1 h2 h3 h4 h5 h6 h7 h8 h9 h10 h11 h12 h13 h14 h15 h16 h17 hI hF hG hP hD hS hl
    exact absurd h17 (by omega)
  | succ n ih =>
    intro L1 L2 f9_areSteps f9_foundMany f9_many f9_rank f9_freeMany ai al H locs ls h0 h1 h2 h3 h4 h5 h6 h7 h8 h9 h10 h11 h12 h13 h14 h15 h16 h17 hI hF hG hP hD hS hl
    refine lv_iload_n hx hb dX9_findSteps_269 rfl (lv_at hl 2 rfl) ?_
    refine lv_aload_n hx hb dX9_findSteps_270 rfl (lv_at hl 0 rfl) ?_
    refine gf (k := 21) hx hb hts inX9 hown hK hP k_816 rfl (by decide) rfl 22 rfl (.int f9_foundMany) rfl dX9_findSteps_271 ?_
    refine lv_icmp_ge (tgt := 293) hx hb dX9_findSteps_274 (by decide) (fun c1 => ?_) (fun c1 => ?_)
    · have c1 := j_le (a := f9_foundMany.toInt) (b := L2.toInt) rfl rfl c1
      refine lv_aload_n hx hb dX9_findSteps_293 rfl (lv_at hl 0 rfl) ?_
      have hM := r017_X9_sorts l dC dI cI cJ cII cJJ H.size 0 ad f9_size f9_equations f9_areSteps f9_foundMany f9_many f9_rank f9_freeMany f9_arePlans f9_planMany ai al (by omega) (by omega) (by omega) (by omega) (by omega) (by omega) (by omega) (by omega) (by omega) hI
      refine k2V_v (q0 := 22) ⟨hx, hb, hml, hown, hts⟩ hK hP hD hS hA hX cv_RX9_170 hM ⟨by decide +kernel, by decide +kernel⟩ rfl rfl (Or.inl rfl) (rest := []) rfl rfl rfl hl.1 rfl (Nat.le_of_ble_eq_true rfl) dX9_findSteps_294 ⟨Nat.le_of_ble_eq_true rfl, Nat.le_of_ble_eq_true rfl⟩ (fun t H1 locs_1 ht hB hS_1 hFc => ?_)
      obtain ⟨ai3, ⟨gpr2_0, hI_2, hFr_r2⟩, hP_2, -, hD_2⟩ := hB
      have hF_3 := FR_tr hF hFr_r2 (by decide)
      rw [ht] at hP_2
      have hD_4 := hD_2.weaken (B := A) (fun k q _ h9 => hFc q.1 h9)
      clear ht
      generalize H1 = H_5 at hP_2 hS_1 ⊢
      exact r2_v hx hb hr hk hS_1 dX9_findSteps_297 (fun t ht hW => ⟨f9_areSteps, f9_foundMany, f9_many, f9_rank, f9_freeMany, ai3, al, ⟨(by first | omega | decide | exact Or.inl (by decide) | exact Or.inr (by decide) | exact Or.inr (by omega)), (by first | omega | decide | exact Or.inl (by decide) | exact Or.inr (by decide) | exact Or.inr (by omega)), (by first | omega | decide | exact Or.inl (by decide) | exact Or.inr (by decide) | exact Or.inr (by omega)), (by first | omega | decide | exact Or.inl (by decide) | exact Or.inr (by decide) | exact Or.inr (by omega)), (by first | omega | decide | exact Or.inl (by decide) | exact Or.inr (by decide) | exact Or.inr (by omega)), (ci_ok h11 (by omega) (by omega) (by omega) h13 (by omega) h14 hFr_r2 gpr2_0), (by first | omega | decide | exact Or.inl (by decide) | exact Or.inr (by decide) | exact Or.inr (by omega)), hI_2, hF_3, hG⟩, by rw [ht]; exact hP_2, va_K.moved hW.alike hK, hD_4⟩)
    · have c1 := j_nle (a := f9_foundMany.toInt) (b := L2.toInt) rfl rfl c1
      refine lv_aload_n hx hb dX9_findSteps_277 rfl (lv_at hl 0 rfl) ?_
      refine lv_aload_n hx hb dX9_findSteps_278 rfl (lv_at hl 0 rfl) ?_
      refine gf (k := 18) hx hb hts inX9 hown hK hP k_813 rfl (by decide) rfl 22 rfl (.ref (ad 10)) rfl dX9_findSteps_279 ?_
      refine lv_iload_n hx hb dX9_findSteps_282 rfl (lv_at hl 2 rfl) ?_
      refine va_iald hx hb hK hP 10 0 rfl rfl (j_in (a := L2.toInt) rfl (by omega) (by omega)) dX9_findSteps_283 ?_
      refine lv_topi (fun z4 e_z4 => ?_)
      have g_z4 : 0 ≤ z4.toInt ∧ z4.toInt ≤ 99999 := by rw [e_z4]; exact IAM_at10 hI _
      have hM := r015_X9_leastOf l dC dI cI cJ cII cJJ H.size 0 ad f9_size f9_equations f9_areSteps f9_foundMany f9_many f9_rank f9_freeMany f9_arePlans f9_planMany ai al z4 (by omega) (by omega) (by omega) (by omega) (by omega) (by omega) (by omega) (by omega) (by omega) (by omega) (fun q => kp_lt (p := L2.toInt) hI h11 (by omega) (by omega) (by omega) (by omega) (by omega) h12 rfl h13 (by omega) (by omega) h14 (by omega) (by rw [e_z4] at q; exact q)) hI
      refine k2V_v (q0 := 22) ⟨hx, hb, hml, hown, hts⟩ hK hP hD hS hA hX cv_RX9_166 hM ⟨by decide +kernel, by decide +kernel⟩ rfl rfl (Or.inl rfl) (rest := []) rfl rfl rfl hl.1 rfl (Nat.le_of_ble_eq_true rfl) dX9_findSteps_284 ⟨Nat.le_of_ble_eq_true rfl, Nat.le_of_ble_eq_true rfl⟩ (fun t H1 locs_6 ht hB hS_6 hFc => ?_)
      obtain ⟨v6, ai7, ⟨gpr5_0, gpr5_1, hI_7, hFr_r5⟩, hP_7, -, hD_7⟩ := hB
      have hF_8 := FR_tr hF hFr_r5 (by decide)
      rw [ht] at hP_7
      have hD_9 := hD_7.weaken (B := A) (fun k q _ h9 => hFc q.1 h9)
      clear ht
      generalize H1 = H_10 at hP_7 hS_6 ⊢
      obtain ⟨z8, e_z8⟩ : ∃ q : Int32, q = L2 + Int32.ofInt 1 := ⟨_, rfl⟩
      have g_z8 : z8.toInt = L2.toInt + 1 := by rw [e_z8]; exact n_add (a := L2.toInt) (b := 1) rfl (by decide +kernel) (by omega) (by omega)
      refine lv_iinc (v := z8) (lv' := [(2, .int z8), (0, .ref (ad 22)), (1, .int L1)]) hx hb dX9_findSteps_287 hl (k := 2) rfl e_z8.symm (by decide) rfl (fun ls_11 hl_11 => ?_)
      refine lv_goto (tgt := 269) hx hb dX9_findSteps_290 (by decide) ?_
      exact ih L1 z8 f9_areSteps f9_foundMany v6 f9_rank f9_freeMany ai7 al _ _ _ (by omega) (by omega) (by omega) (by omega) (by omega) (by omega) (by omega) (by omega) (by omega) (by omega) (by omega) (FND_fr h11 hFr_r5 (by decide) (by decide)) h12 (Ord_fr h13 hFr_r5) (kp_step (p := L2.toInt) h11 (by omega) (by omega) h13 (by omega) (by omega) h14 (by omega) e_z4 hFr_r5 gpr5_1 (by omega)) (by omega) (by omega) (by omega) hI_7 hF_8 hG hP_7 hD_9 hS_6 (lv_sub hl_11 [1, 2, 0] rfl)
set_option maxRecDepth 100000 in
set_option maxHeartbeats 4000000 in
theorem r018_X9_findSteps_b225 {p : Program} {l : Launch} {e : Env} {s : State} {m : MethodId} {args : Array Value} {below : List Frame} {meth : Method} {c : Code} {A : Nat → Prop} {dC : Nat → ClassId} {dI : Nat → Nat → Nat} {cI cJ cII cJJ : ClassId} {ad : Nat → Nat} {g : Nat} {f9_size f9_equations f9_arePlans f9_planMany : Int32} {ai0 : Nat → Nat → Int32} {al0 : Nat → Nat → Int64} {o_f9_areSteps : Int32} {o_f9_many : Int32} (C : Cx p c s m meth args A dC dI (TY cI cJ cII cJJ) cX9_findSteps none 3 RX9 0 g) (hp0 : (o_f9_areSteps.toInt = 0 ∨ CIa ai0 f9_size o_f9_many.toInt)) : ∀ (n : Nat), ∀ (L1 L2 f9_areSteps f9_foundMany f9_many f9_rank f9_freeMany : Int32) (ai : Nat → Nat → Int32) (al : Nat → Nat → Int64) (H : Heap) (locs : List Loc) (ls : Array Slot), (1 ≤ L1.toInt ∧ L1.toInt ≤ 1296) → (-1 ≤ L2.toInt ∧ L2.toInt ≤ 99998) → (1 ≤ f9_size.toInt ∧ f9_size.toInt ≤ 4) → (0 ≤ f9_equations.toInt ∧ f9_equations.toInt ≤ 3) → (1 ≤ f9_areSteps.toInt ∧ f9_areSteps.toInt ≤ 1) → (0 ≤ f9_foundMany.toInt ∧ f9_foundMany.toInt ≤ 99999) → (0 ≤ f9_many.toInt ∧ f9_many.toInt ≤ 0) → (0 ≤ f9_rank.toInt ∧ f9_rank.toInt ≤ 3) → (1 ≤ f9_freeMany.toInt ∧ f9_freeMany.toInt ≤ 4) → (0 ≤ f9_arePlans.toInt ∧ f9_arePlans.toInt ≤ 1) → (0 ≤ f9_planMany.toInt ∧ f9_planMany.toInt ≤ 194481) → FND ai f9_size f9_rank f9_freeMany (f9_freeMany * L1) f9_foundMany.toInt → GRT f9_rank L1 → f9_many.toInt = 0 → PL ai f9_foundMany.toInt L2.toInt → L2.toInt < f9_foundMany.toInt → L2.toInt + 1 < (n : Int) → (0 : Int) < (n : Int) → IAM ai → FR [7, 8, 9, 10, 11, 12, 13, 14, 15, 16] ai0 ai → FL [17, 18] al0 al → va_P (dC, dI) vwCl (WM cI cJ cII cJJ ad f9_size f9_equations f9_areSteps f9_foundMany f9_many f9_rank f9_freeMany f9_arePlans f9_planMany ai al) H → va_D A (WM cI cJ cII cJJ ad f9_size f9_equations f9_areSteps f9_foundMany f9_many f9_rank f9_freeMany f9_arePlans f9_planMany ai al) → va_S A s.heap H locs → lv_has ls 3 [(0, .ref (ad 22)), (1, .int L1), (2, .int L2)] → W p l e ({ frames := 10, cells := 0, slots := 0, locals := 560 } : Room) s m args below meth c H locs 0 0 (MQ below (Q_r018_X9_findSteps dC dI cI cJ cII cJJ ad f9_size f9_equations f9_arePlans f9_planMany ai0 al0 o_f9_areSteps o_f9_many A) args s 0 0 A) (F0 m 225 ls []) := by
  obtain ⟨hx, hb, hr, hml, hown, hts, hk, hA, hK, hX⟩ := id C
  intro n
  induction n with
  | zero =>
    intro L1 L2 f9_areSteps f9_foundMany f9_many f9_rank f9_freeMany ai al H locs ls h0 h1 h2 h3 h4 h5 h6 h7 h8 h9 h10 h11 h12 h13 h14 h15 h16 h17 hI hF hG hP hD hS hl
    exact absurd h17 (by omega)
  | succ n ih =>
    intro L1 L2 f9_areSteps f9_foundMany f9_many f9_rank f9_freeMany ai al H locs ls h0 h1 h2 h3 h4 h5 h6 h7 h8 h9 h10 h11 h12 h13 h14 h15 h16 h17 hI hF hG hP hD hS hl
    refine lv_iload_n hx hb dX9_findSteps_225 rfl (lv_at hl 2 rfl) ?_
    refine lv_if_lt (tgt := 267) hx hb dX9_findSteps_226 (by decide) (fun c1 => ?_) (fun c1 => ?_)
    · have c1 := j_lt (a := L2.toInt) (b := 0) rfl (by decide +kernel) c1
      refine lv_iconst (v := 0) hx hb dX9_findSteps_267 (by decide) ?_
      refine lv_istore_n (lv' := [(2, .int 0), (0, .ref (ad 22)), (1, .int L1)]) hx hb dX9_findSteps_268 rfl hl (by decide) rfl (fun ls_1 hl_1 => ?_)
      exact r018_X9_findSteps_b269 C hp0  _ L1 0 f9_areSteps f9_foundMany f9_many f9_rank f9_freeMany ai al _ _ _ (by first | omega | decide | (have ka0 := (by decide +kernel : (0 : Int32).toInt = 0); omega)) (by first | omega | decide | (have ka0 := (by decide +kernel : (0 : Int32).toInt = 0); omega)) (by first | omega | decide | (have ka0 := (by decide +kernel : (0 : Int32).toInt = 0); omega)) (by first | omega | decide | (have ka0 := (by decide +kernel : (0 : Int32).toInt = 0); omega)) (by first | omega | decide | (have ka0 := (by decide +kernel : (0 : Int32).toInt = 0); omega)) (by first | omega | decide | (have ka0 := (by decide +kernel : (0 : Int32).toInt = 0); omega)) (by first | omega | decide | (have ka0 := (by decide +kernel : (0 : Int32).toInt = 0); omega)) (by first | omega | decide | (have ka0 := (by decide +kernel : (0 : Int32).toInt = 0); omega)) (by first | omega | decide | (have ka0 := (by decide +kernel : (0 : Int32).toInt = 0); omega)) (by first | omega | decide | (have ka0 := (by decide +kernel : (0 : Int32).toInt = 0); omega)) (by first | omega | decide | (have ka0 := (by decide +kernel : (0 : Int32).toInt = 0); omega)) h11 h12 (PL_ord h14 (by omega)) (KPa_0 (by decide) (by omega)) (by have q3 := (by decide : (0 : Int32).toInt = 0); omega) (j_fuel _) (by omega) hI hF hG hP hD hS (lv_sub hl_1 [1, 2, 0] rfl)
    · have c1 := j_nlt (a := L2.toInt) (b := 0) rfl (by decide +kernel) c1
      refine lv_aload_n hx hb dX9_findSteps_229 rfl (lv_at hl 0 rfl) ?_
      refine gf (k := 17) hx hb hts inX9 hown hK hP k_812 rfl (by decide) rfl 22 rfl (.ref (ad 9)) rfl dX9_findSteps_230 ?_
      refine lv_aload_n hx hb dX9_findSteps_233 rfl (lv_at hl 0 rfl) ?_
      refine gf (k := 16) hx hb hts inX9 hown hK hP k_811 rfl (by decide) rfl 22 rfl (.ref (ad 8)) rfl dX9_findSteps_234 ?_
      refine lv_iload_n hx hb dX9_findSteps_237 rfl (lv_at hl 2 rfl) ?_
      refine va_iald hx hb hK hP 8 0 rfl rfl (j_in (a := L2.toInt) rfl (by omega) (by omega)) dX9_findSteps_238 ?_
      refine lv_topi (fun z2 e_z2 => ?_)
      have g_z2 : 0 ≤ z2.toInt ∧ z2.toInt ≤ 6000 := by rw [e_z2]; exact IAM_at8 hI _
      refine lv_dup2_11 hx hb dX9_findSteps_239 rfl rfl ?_
      refine va_iald hx hb hK hP 9 0 rfl rfl (j_in (a := z2.toInt) rfl (by omega) (by omega)) dX9_findSteps_240 ?_
      refine lv_topi (fun z3 e_z3 => ?_)
      have g_z3 : z3.toInt = ps f9_foundMany.toInt.toNat (gn ai) L2.toInt.toNat + 1 ∧ 0 ≤ ps f9_foundMany.toInt.toNat (gn ai) L2.toInt.toNat ∧ ps f9_foundMany.toInt.toNat (gn ai) L2.toInt.toNat < f9_foundMany.toInt := by rw [e_z3]; exact PL_at h14 (by omega) (by omega) e_z2 (by omega) (by omega)
      refine lv_iconst (v := 1) hx hb dX9_findSteps_241 (by decide) ?_
      refine v_isub hx hb dX9_findSteps_242 _ rfl ?_
      refine lv_topi (fun z4 e_z4 => ?_)
      have g_z4 : z4.toInt = z3.toInt - 1 := by rw [e_z4]; exact n_sub (a := z3.toInt) (b := 1) rfl (by decide +kernel) (by omega) (by omega)
      refine va_iast hx hb hK hP hD hS 9 0 rfl rfl (j_in (a := z2.toInt) rfl (by omega) (by omega)) dX9_findSteps_243 (fun H_2 locs_2 hP_2 hD_2 hS_2 => ?_)
      obtain ⟨ai5, e_ai5⟩ : ∃ q : Nat → Nat → Int32, q = va_up ai 9 (upd (ai 9) z2.toNatClampNeg z4) := ⟨_, rfl⟩
      have hF_3 := FR_st hF e_ai5 (by decide)
      have hI_4 : IAM ai5 := by rw [e_ai5]; exact hI
      have hP_5 : va_P (dC, dI) vwCl (WM cI cJ cII cJJ ad f9_size f9_equations f9_areSteps f9_foundMany f9_many f9_rank f9_freeMany f9_arePlans f9_planMany ai5 al) H_2 := by rw [e_ai5]; exact hP_2
      have hD_6 : va_D A (WM cI cJ cII cJJ ad f9_size f9_equations f9_areSteps f9_foundMany f9_many f9_rank f9_freeMany f9_arePlans f9_planMany ai5 al) := by rw [e_ai5]; exact hD_2
      refine lv_aload_n hx hb dX9_findSteps_244 rfl (lv_at hl 0 rfl) ?_
      refine gf (k := 18) hx hb hts inX9 hown hK hP_5 k_813 rfl (by decide) rfl 22 rfl (.ref (ad 10)) rfl dX9_findSteps_245 ?_
      refine lv_aload_n hx hb dX9_findSteps_248 rfl (lv_at hl 0 rfl) ?_
      refine gf (k := 17) hx hb hts inX9 hown hK hP_5 k_812 rfl (by decide) rfl 22 rfl (.ref (ad 9)) rfl dX9_findSteps_249 ?_
      refine lv_aload_n hx hb dX9_findSteps_252 rfl (lv_at hl 0 rfl) ?_
      refine gf (k := 16) hx hb hts inX9 hown hK hP_5 k_811 rfl (by decide) rfl 22 rfl (.ref (ad 8)) rfl dX9_findSteps_253 ?_
      refine lv_iload_n hx hb dX9_findSteps_256 rfl (lv_at hl 2 rfl) ?_
      refine va_iald hx hb hK hP_5 8 0 rfl rfl (j_in (a := L2.toInt) rfl (by omega) (by omega)) dX9_findSteps_257 ?_
      refine lv_topi (fun z6 e_z6 => ?_)
      have g_z6 : 0 ≤ z6.toInt ∧ z6.toInt ≤ 6000 := by rw [e_z6]; exact IAM_at8 hI_4 _
      refine va_iald hx hb hK hP_5 9 0 rfl rfl (j_in (a := z6.toInt) rfl (by omega) (by omega)) dX9_findSteps_258 ?_
      refine lv_topi (fun z7 e_z7 => ?_)
      have q_4 : z6 = z2 := by rw [e_z6, up_ne e_ai5 (by decide), e_z2]
      have g_z7 : z7.toInt = ps f9_foundMany.toInt.toNat (gn ai) L2.toInt.toNat := by rw [e_z7, q_4, up_at e_ai5, if_pos (show z2.toNatClampNeg = z2.toInt.toNat from rfl)]; omega
      refine lv_iload_n hx hb dX9_findSteps_259 rfl (lv_at hl 2 rfl) ?_
      refine va_iast hx hb hK hP_5 hD_6 hS_2 10 0 rfl rfl (j_in (a := z7.toInt) rfl (by omega) (by omega)) dX9_findSteps_260 (fun H_7 locs_7 hP_7 hD_7 hS_7 => ?_)
      obtain ⟨ai8, e_ai8⟩ : ∃ q : Nat → Nat → Int32, q = va_up ai5 10 (upd (ai5 10) z7.toNatClampNeg L2) := ⟨_, rfl⟩
      have hF_8 := FR_st hF_3 e_ai8 (by decide)
      have hI_9 : IAM ai8 := by rw [e_ai8]; exact IAM_st10 hI_4 (a := L2.toInt) rfl (by omega) (by omega)
      have hP_10 : va_P (dC, dI) vwCl (WM cI cJ cII cJJ ad f9_size f9_equations f9_areSteps f9_foundMany f9_many f9_rank f9_freeMany f9_arePlans f9_planMany ai8 al) H_7 := by rw [e_ai8]; exact hP_7
      have hD_11 : va_D A (WM cI cJ cII cJJ ad f9_size f9_equations f9_areSteps f9_foundMany f9_many f9_rank f9_freeMany f9_arePlans f9_planMany ai8 al) := by rw [e_ai8]; exact hD_7
      obtain ⟨z9, e_z9⟩ : ∃ q : Int32, q = L2 + Int32.ofInt (-1) := ⟨_, rfl⟩
      have g_z9 : z9.toInt = L2.toInt + (-1) := by rw [e_z9]; exact n_add (a := L2.toInt) (b := (-1)) rfl (by decide +kernel) (by omega) (by omega)
      refine lv_iinc (v := z9) (lv' := [(2, .int z9), (0, .ref (ad 22)), (1, .int L1)]) hx hb dX9_findSteps_261 hl (k := 2) rfl e_z9.symm (by decide) rfl (fun ls_12 hl_12 => ?_)
      refine lv_goto (tgt := 225) hx hb dX9_findSteps_264 (by decide) ?_
      exact ih L1 z9 f9_areSteps f9_foundMany f9_many f9_rank f9_freeMany ai8 al _ _ _ (by omega) (by omega) (by omega) (by omega) (by omega) (by omega) (by omega) (by omega) (by omega) (by omega) (by omega) (FND_fr (FND_fr h11 (FRu e_ai5) (by decide) (by decide)) (FRu e_ai8) (by decide) (by decide)) h12 (by omega) (PL_st (k := L2) (z := z2) h14 (by omega) (by omega) e_z2 (by omega) (by omega) e_ai5 (by rw [g_z4, e_z3]; rfl) g_z7 e_ai8 (by omega)) (by omega) (by omega) (by omega) hI_9 hF_8 hG hP_10 hD_11 hS_7 (lv_sub hl_12 [1, 2, 0] rfl)
set_option maxRecDepth 100000 in
set_option maxHeartbeats 4000000 in
theorem r018_X9_findSteps_b188 {p : Program} {l : Launch} {e : Env} {s : State} {m : MethodId} {args : Array Value} {below : List Frame} {meth : Method} {c : Code} {A : Nat → Prop} {dC : Nat → ClassId} {dI : Nat → Nat → Nat} {cI cJ cII cJJ : ClassId} {ad : Nat → Nat} {g : Nat} {f9_size f9_equations f9_arePlans f9_planMany : Int32} {ai0 : Nat → Nat → Int32} {al0 : Nat → Nat → Int64} {o_f9_areSteps : Int32} {o_f9_many : Int32} (C : Cx p c s m meth args A dC dI (TY cI cJ cII cJJ) cX9_findSteps none 3 RX9 0 g) (hp0 : (o_f9_areSteps.toInt = 0 ∨ CIa ai0 f9_size o_f9_many.toInt)) : ∀ (n : Nat), ∀ (L1 L2 f9_areSteps f9_foundMany f9_many f9_rank f9_freeMany : Int32) (ai : Nat → Nat → Int32) (al : Nat → Nat → Int64) (H : Heap) (locs : List Loc) (ls : Array Slot), (1 ≤ L1.toInt ∧ L1.toInt ≤ 1296) → (1 ≤ L2.toInt ∧ L2.toInt ≤ 6001) → (1 ≤ f9_size.toInt ∧ f9_size.toInt ≤ 4) → (0 ≤ f9_equations.toInt ∧ f9_equations.toInt ≤ 3) → (1 ≤ f9_areSteps.toInt ∧ f9_areSteps.toInt ≤ 1) → (0 ≤ f9_foundMany.toInt ∧ f9_foundMany.toInt ≤ 99999) → (0 ≤ f9_many.toInt ∧ f9_many.toInt ≤ 0) → (0 ≤ f9_rank.toInt ∧ f9_rank.toInt ≤ 3) → (1 ≤ f9_freeMany.toInt ∧ f9_freeMany.toInt ≤ 4) → (0 ≤ f9_arePlans.toInt ∧ f9_arePlans.toInt ≤ 1) → (0 ≤ f9_planMany.toInt ∧ f9_planMany.toInt ≤ 194481) → FND ai f9_size f9_rank f9_freeMany (f9_freeMany * L1) f9_foundMany.toInt → GRT f9_rank L1 → f9_many.toInt = 0 → CP ai f9_foundMany.toInt L2.toInt → 6000 + 1 - L2.toInt < (n : Int) → (0 : Int) < (n : Int) → IAM ai → FR [7, 8, 9, 10, 11, 12, 13, 14, 15, 16] ai0 ai → FL [17, 18] al0 al → va_P (dC, dI) vwCl (WM cI cJ cII cJJ ad f9_size f9_equations f9_areSteps f9_foundMany f9_many f9_rank f9_freeMany f9_arePlans f9_planMany ai al) H → va_D A (WM cI cJ cII cJJ ad f9_size f9_equations f9_areSteps f9_foundMany f9_many f9_rank f9_freeMany f9_arePlans f9_planMany ai al) → va_S A s.heap H locs → lv_has ls 3 [(0, .ref (ad 22)), (1, .int L1), (2, .int L2)] → W p l e ({ frames := 10, cells := 0, slots := 0, locals := 560 } : Room) s m args below meth c H locs 0 0 (MQ below (Q_r018_X9_findSteps dC dI cI cJ cII cJJ ad f9_size f9_equations f9_arePlans f9_planMany ai0 al0 o_f9_areSteps o_f9_many A) args s 0 0 A) (F0 m 188 ls []) := by
  obtain ⟨hx, hb, hr, hml, hown, hts, hk, hA, hK, hX⟩ := id C
  intro n
  induction n with
  | zero =>
    intro L1 L2 f9_areSteps f9_foundMany f9_many f9_rank f9_freeMany ai al H locs ls h0 h1 h2 h3 h4 h5 h6 h7 h8 h9 h10 h11 h12 h13 h14 h15 h16 hI hF hG hP hD hS hl
    exact absurd h16 (by omega)
  | succ n ih =>
    intro L1 L2 f9_areSteps f9_foundMany f9_many f9_rank f9_freeMany ai al H locs ls h0 h1 h2 h3 h4 h5 h6 h7 h8 h9 h10 h11 h12 h13 h14 h15 h16 hI hF hG hP hD hS hl
    refine lv_iload_n hx hb dX9_findSteps_188 rfl (lv_at hl 2 rfl) ?_
    refine lv_sipush (v := 6000) hx hb dX9_findSteps_189 (by decide) ?_
    refine lv_icmp_gt (tgt := 218) hx hb dX9_findSteps_192 (by decide) (fun c1 => ?_) (fun c1 => ?_)
    · have c1 := j_lt (a := 6000) (b := L2.toInt) (by decide +kernel) rfl c1
      refine lv_aload_n hx hb dX9_findSteps_218 rfl (lv_at hl 0 rfl) ?_
      refine gf (k := 21) hx hb hts inX9 hown hK hP k_816 rfl (by decide) rfl 22 rfl (.int f9_foundMany) rfl dX9_findSteps_219 ?_
      refine lv_iconst (v := 1) hx hb dX9_findSteps_222 (by decide) ?_
      refine v_isub hx hb dX9_findSteps_223 _ rfl ?_
      refine lv_topi (fun z2 e_z2 => ?_)
      have g_z2 : z2.toInt = f9_foundMany.toInt - 1 := by rw [e_z2]; exact n_sub (a := f9_foundMany.toInt) (b := 1) rfl (by decide +kernel) (by omega) (by omega)
      refine lv_istore_n (lv' := [(2, .int z2), (0, .ref (ad 22)), (1, .int L1)]) hx hb dX9_findSteps_224 rfl hl (by decide) rfl (fun ls_1 hl_1 => ?_)
      exact r018_X9_findSteps_b225 C hp0  _ L1 z2 f9_areSteps f9_foundMany f9_many f9_rank f9_freeMany ai al _ _ _ (by omega) (by omega) (by omega) (by omega) (by omega) (by omega) (by omega) (by omega) (by omega) (by omega) (by omega) h11 h12 (by omega) (PL_0 h14 (by omega) (by omega)) (by omega) (j_fuel _) (by omega) hI hF hG hP hD hS (lv_sub hl_1 [1, 2, 0] rfl)
    · have c1 := j_nlt (a := 6000) (b := L2.toInt) (by decide +kernel) rfl c1
      refine lv_aload_n hx hb dX9_findSteps_195 rfl (lv_at hl 0 rfl) ?_
      refine gf (k := 17) hx hb hts inX9 hown hK hP k_812 rfl (by decide) rfl 22 rfl (.ref (ad 9)) rfl dX9_findSteps_196 ?_
      refine lv_iload_n hx hb dX9_findSteps_199 rfl (lv_at hl 2 rfl) ?_
      refine lv_dup2_11 hx hb dX9_findSteps_200 rfl rfl ?_
      refine va_iald hx hb hK hP 9 0 rfl rfl (j_in (a := L2.toInt) rfl (by omega) (by omega)) dX9_findSteps_201 ?_
      refine lv_topi (fun z3 e_z3 => ?_)
      have g_z3 : 0 ≤ z3.toInt ∧ z3.toInt ≤ 99999 := by have q := CP_b h14 (by omega) (v := L2.toInt.toNat) (by omega); rw [e_z3]; show 0 ≤ (ai 9 L2.toInt.toNat).toInt ∧ (ai 9 L2.toInt.toNat).toInt ≤ 99999; omega
      refine lv_aload_n hx hb dX9_findSteps_202 rfl (lv_at hl 0 rfl) ?_
      refine gf (k := 17) hx hb hts inX9 hown hK hP k_812 rfl (by decide) rfl 22 rfl (.ref (ad 9)) rfl dX9_findSteps_203 ?_
      refine lv_iload_n hx hb dX9_findSteps_206 rfl (lv_at hl 2 rfl) ?_
      refine lv_iconst (v := 1) hx hb dX9_findSteps_207 (by decide) ?_
      refine v_isub hx hb dX9_findSteps_208 _ rfl ?_
      refine lv_topi (fun z4 e_z4 => ?_)
      have g_z4 : z4.toInt = L2.toInt - 1 := by rw [e_z4]; exact n_sub (a := L2.toInt) (b := 1) rfl (by decide +kernel) (by omega) (by omega)
      refine va_iald hx hb hK hP 9 0 rfl rfl (j_in (a := z4.toInt) rfl (by omega) (by omega)) dX9_findSteps_209 ?_
      refine lv_topi (fun z5 e_z5 => ?_)
      have g_z5 : 0 ≤ z5.toInt ∧ z5.toInt ≤ 99999 := by have q := CP_b h14 (by omega) (v := z4.toInt.toNat) (by omega); rw [e_z5]; show 0 ≤ (ai 9 z4.toInt.toNat).toInt ∧ (ai 9 z4.toInt.toNat).toInt ≤ 99999; omega
      refine v_iadd hx hb dX9_findSteps_210 _ rfl ?_
      refine lv_topi (fun z6 e_z6 => ?_)
      have g_z6 : z6.toInt = z3.toInt + z5.toInt := by rw [e_z6]; exact n_add (a := z3.toInt) (b := z5.toInt) rfl rfl (by omega) (by omega)
      refine va_iast hx hb hK hP hD hS 9 0 rfl rfl (j_in (a := L2.toInt) rfl (by omega) (by omega)) dX9_findSteps_211 (fun H_2 locs_2 hP_2 hD_2 hS_2 => ?_)
      obtain ⟨ai7, e_ai7⟩ : ∃ q : Nat → Nat → Int32, q = va_up ai 9 (upd (ai 9) L2.toNatClampNeg z6) := ⟨_, rfl⟩
      have hF_3 := FR_st hF e_ai7 (by decide)
      have hI_4 : IAM ai7 := by rw [e_ai7]; exact hI
      have hP_5 : va_P (dC, dI) vwCl (WM cI cJ cII cJJ ad f9_size f9_equations f9_areSteps f9_foundMany f9_many f9_rank f9_freeMany f9_arePlans f9_planMany ai7 al) H_2 := by rw [e_ai7]; exact hP_2
      have hD_6 : va_D A (WM cI cJ cII cJJ ad f9_size f9_equations f9_areSteps f9_foundMany f9_many f9_rank f9_freeMany f9_arePlans f9_planMany ai7 al) := by rw [e_ai7]; exact hD_2
      obtain ⟨z8, e_z8⟩ : ∃ q : Int32, q = L2 + Int32.ofInt 1 := ⟨_, rfl⟩
      have g_z8 : z8.toInt = L2.toInt + 1 := by rw [e_z8]; exact n_add (a := L2.toInt) (b := 1) rfl (by decide +kernel) (by omega) (by omega)
      refine lv_iinc (v := z8) (lv' := [(2, .int z8), (0, .ref (ad 22)), (1, .int L1)]) hx hb dX9_findSteps_212 hl (k := 2) rfl e_z8.symm (by decide) rfl (fun ls_7 hl_7 => ?_)
      refine lv_goto (tgt := 188) hx hb dX9_findSteps_215 (by decide) ?_
      exact ih L1 z8 f9_areSteps f9_foundMany f9_many f9_rank f9_freeMany ai7 al _ _ _ (by omega) (by omega) (by omega) (by omega) (by omega) (by omega) (by omega) (by omega) (by omega) (by omega) (by omega) (FND_fr h11 (FRu e_ai7) (by decide) (by decide)) h12 (by omega) (CP_st (n := L2) h14 (by omega) (by omega) e_ai7 (by rw [g_z6, e_z3, e_z5]; show (ai 9 L2.toInt.toNat).toInt + (ai 9 z4.toInt.toNat).toInt = _; rw [show z4.toInt = L2.toInt - 1 by omega]) (by omega)) (by omega) (by omega) hI_4 hF_3 hG hP_5 hD_6 hS_2 (lv_sub hl_7 [1, 2, 0] rfl)
set_option maxRecDepth 100000 in
set_option maxHeartbeats 4000000 in
theorem r018_X9_findSteps_b157 {p : Program} {l : Launch} {e : Env} {s : State} {m : MethodId} {args : Array Value} {below : List Frame} {meth : Method} {c : Code} {A : Nat → Prop} {dC : Nat → ClassId} {dI : Nat → Nat → Nat} {cI cJ cII cJJ : ClassId} {ad : Nat → Nat} {g : Nat} {f9_size f9_equations f9_arePlans f9_planMany : Int32} {ai0 : Nat → Nat → Int32} {al0 : Nat → Nat → Int64} {o_f9_areSteps : Int32} {o_f9_many : Int32} (C : Cx p c s m meth args A dC dI (TY cI cJ cII cJJ) cX9_findSteps none 3 RX9 0 g) (hp0 : (o_f9_areSteps.toInt = 0 ∨ CIa ai0 f9_size o_f9_many.toInt)) : ∀ (n : Nat), ∀ (L1 L2 f9_areSteps f9_foundMany f9_many f9_rank f9_freeMany : Int32) (ai : Nat → Nat → Int32) (al : Nat → Nat → Int64) (H : Heap) (locs : List Loc) (ls : Array Slot), (1 ≤ L1.toInt ∧ L1.toInt ≤ 1296) → (0 ≤ L2.toInt ∧ L2.toInt ≤ 99999) → (1 ≤ f9_size.toInt ∧ f9_size.toInt ≤ 4) → (0 ≤ f9_equations.toInt ∧ f9_equations.toInt ≤ 3) → (1 ≤ f9_areSteps.toInt ∧ f9_areSteps.toInt ≤ 1) → (0 ≤ f9_foundMany.toInt ∧ f9_foundMany.toInt ≤ 99999) → (0 ≤ f9_many.toInt ∧ f9_many.toInt ≤ 0) → (0 ≤ f9_rank.toInt ∧ f9_rank.toInt ≤ 3) → (1 ≤ f9_freeMany.toInt ∧ f9_freeMany.toInt ≤ 4) → (0 ≤ f9_arePlans.toInt ∧ f9_arePlans.toInt ≤ 1) → (0 ≤ f9_planMany.toInt ∧ f9_planMany.toInt ≤ 194481) → FND ai f9_size f9_rank f9_freeMany (f9_freeMany * L1) f9_foundMany.toInt → GRT f9_rank L1 → f9_many.toInt = 0 → CT ai L2.toInt → L2.toInt ≤ f9_foundMany.toInt → f9_foundMany.toInt - L2.toInt < (n : Int) → (0 : Int) < (n : Int) → IAM ai → FR [7, 8, 9, 10, 11, 12, 13, 14, 15, 16] ai0 ai → FL [17, 18] al0 al → va_P (dC, dI) vwCl (WM cI cJ cII cJJ ad f9_size f9_equations f9_areSteps f9_foundMany f9_many f9_rank f9_freeMany f9_arePlans f9_planMany ai al) H → va_D A (WM cI cJ cII cJJ ad f9_size f9_equations f9_areSteps f9_foundMany f9_many f9_rank f9_freeMany f9_arePlans f9_planMany ai al) → va_S A s.heap H locs → lv_has ls 3 [(0, .ref (ad 22)), (1, .int L1), (2, .int L2)] → W p l e ({ frames := 10, cells := 0, slots := 0, locals := 560 } : Room) s m args below meth c H locs 0 0 (MQ below (Q_r018_X9_findSteps dC dI cI cJ cII cJJ ad f9_size f9_equations f9_arePlans f9_planMany ai0 al0 o_f9_areSteps o_f9_many A) args s 0 0 A) (F0 m 157 ls []) := by
  obtain ⟨hx, hb, hr, hml, hown, hts, hk, hA, hK, hX⟩ := id C
  intro n
  induction n with
  | zero =>
    intro L1 L2 f9_areSteps f9_foundMany f9_many f9_rank f9_freeMany ai al H locs ls h0 h1 h2 h3 h4 h5 h6 h7 h8 h9 h10 h11 h12 h13 h14 h15 h16 h17 hI hF hG hP hD hS hl
    exact absurd h17 (by omega)
  | succ n ih =>
    intro L1 L2 f9_areSteps f9_foundMany f9_many f9_rank f9_freeMany ai al H locs ls h0 h1 h2 h3 h4 h5 h6 h7 h8 h9 h10 h11 h12 h13 h14 h15 h16 h17 hI hF hG hP hD hS hl
    refine lv_iload_n hx hb dX9_findSteps_157 rfl (lv_at hl 2 rfl) ?_
    refine lv_aload_n hx hb dX9_findSteps_158 rfl (lv_at hl 0 rfl) ?_
    refine gf (k := 21) hx hb hts inX9 hown hK hP k_816 rfl (by decide) rfl 22 rfl (.int f9_foundMany) rfl dX9_findSteps_159 ?_
    refine lv_icmp_ge (tgt := 186) hx hb dX9_findSteps_162 (by decide) (fun c1 => ?_) (fun c1 => ?_)
    · have c1 := j_le (a := f9_foundMany.toInt) (b := L2.toInt) rfl rfl c1
      refine lv_iconst (v := 1) hx hb dX9_findSteps_186 (by decide) ?_
      refine lv_istore_n (lv' := [(2, .int 1), (0, .ref (ad 22)), (1, .int L1)]) hx hb dX9_findSteps_187 rfl hl (by decide) rfl (fun ls_1 hl_1 => ?_)
      exact r018_X9_findSteps_b188 C hp0  _ L1 1 f9_areSteps f9_foundMany f9_many f9_rank f9_freeMany ai al _ _ _ (by first | omega | decide | (have ka0 := (by decide +kernel : (1 : Int32).toInt = 1); omega)) (by first | omega | decide | (have ka0 := (by decide +kernel : (1 : Int32).toInt = 1); omega)) (by first | omega | decide | (have ka0 := (by decide +kernel : (1 : Int32).toInt = 1); omega)) (by first | omega | decide | (have ka0 := (by decide +kernel : (1 : Int32).toInt = 1); omega)) (by first | omega | decide | (have ka0 := (by decide +kernel : (1 : Int32).toInt = 1); omega)) (by first | omega | decide | (have ka0 := (by decide +kernel : (1 : Int32).toInt = 1); omega)) (by first | omega | decide | (have ka0 := (by decide +kernel : (1 : Int32).toInt = 1); omega)) (by first | omega | decide | (have ka0 := (by decide +kernel : (1 : Int32).toInt = 1); omega)) (by first | omega | decide | (have ka0 := (by decide +kernel : (1 : Int32).toInt = 1); omega)) (by first | omega | decide | (have ka0 := (by decide +kernel : (1 : Int32).toInt = 1); omega)) (by first | omega | decide | (have ka0 := (by decide +kernel : (1 : Int32).toInt = 1); omega)) h11 h12 (by first | omega | decide | (have ka0 := (by decide +kernel : (1 : Int32).toInt = 1); omega)) (CP_1 hI h14 (by omega) (by decide)) (j_fuel _) (by omega) hI hF hG hP hD hS (lv_sub hl_1 [1, 2, 0] rfl)
    · have c1 := j_nle (a := f9_foundMany.toInt) (b := L2.toInt) rfl rfl c1
      refine lv_aload_n hx hb dX9_findSteps_165 rfl (lv_at hl 0 rfl) ?_
      refine gf (k := 17) hx hb hts inX9 hown hK hP k_812 rfl (by decide) rfl 22 rfl (.ref (ad 9)) rfl dX9_findSteps_166 ?_
      refine lv_aload_n hx hb dX9_findSteps_169 rfl (lv_at hl 0 rfl) ?_
      refine gf (k := 16) hx hb hts inX9 hown hK hP k_811 rfl (by decide) rfl 22 rfl (.ref (ad 8)) rfl dX9_findSteps_170 ?_
      refine lv_iload_n hx hb dX9_findSteps_173 rfl (lv_at hl 2 rfl) ?_
      refine va_iald hx hb hK hP 8 0 rfl rfl (j_in (a := L2.toInt) rfl (by omega) (by omega)) dX9_findSteps_174 ?_
      refine lv_topi (fun z2 e_z2 => ?_)
      have g_z2 : 0 ≤ z2.toInt ∧ z2.toInt ≤ 6000 := by rw [e_z2]; exact IAM_at8 hI _
      refine lv_dup2_11 hx hb dX9_findSteps_175 rfl rfl ?_
      refine va_iald hx hb hK hP 9 0 rfl rfl (j_in (a := z2.toInt) rfl (by omega) (by omega)) dX9_findSteps_176 ?_
      refine lv_topi (fun z3 e_z3 => ?_)
      have g_z3 : 0 ≤ z3.toInt ∧ z3.toInt ≤ 99999 := by have q := h14 z2.toInt.toNat (by omega); have q2 := cnt_b L2.toInt.toNat (gn ai) (z2.toInt.toNat : Int); rw [← q] at q2; rw [e_z3]; show 0 ≤ (ai 9 z2.toInt.toNat).toInt ∧ (ai 9 z2.toInt.toNat).toInt ≤ 99999; omega
      refine lv_iconst (v := 1) hx hb dX9_findSteps_177 (by decide) ?_
      refine v_iadd hx hb dX9_findSteps_178 _ rfl ?_
      refine lv_topi (fun z4 e_z4 => ?_)
      have g_z4 : z4.toInt = z3.toInt + 1 := by rw [e_z4]; exact n_add (a := z3.toInt) (b := 1) rfl (by decide +kernel) (by omega) (by omega)
      refine va_iast hx hb hK hP hD hS 9 0 rfl rfl (j_in (a := z2.toInt) rfl (by omega) (by omega)) dX9_findSteps_179 (fun H_2 locs_2 hP_2 hD_2 hS_2 => ?_)
      obtain ⟨ai5, e_ai5⟩ : ∃ q : Nat → Nat → Int32, q = va_up ai 9 (upd (ai 9) z2.toNatClampNeg z4) := ⟨_, rfl⟩
      have hF_3 := FR_st hF e_ai5 (by decide)
      have hI_4 : IAM ai5 := by rw [e_ai5]; exact hI
      have hP_5 : va_P (dC, dI) vwCl (WM cI cJ cII cJJ ad f9_size f9_equations f9_areSteps f9_foundMany f9_many f9_rank f9_freeMany f9_arePlans f9_planMany ai5 al) H_2 := by rw [e_ai5]; exact hP_2
      have hD_6 : va_D A (WM cI cJ cII cJJ ad f9_size f9_equations f9_areSteps f9_foundMany f9_many f9_rank f9_freeMany f9_arePlans f9_planMany ai5 al) := by rw [e_ai5]; exact hD_2
      obtain ⟨z6, e_z6⟩ : ∃ q : Int32, q = L2 + Int32.ofInt 1 := ⟨_, rfl⟩
      have g_z6 : z6.toInt = L2.toInt + 1 := by rw [e_z6]; exact n_add (a := L2.toInt) (b := 1) rfl (by decide +kernel) (by omega) (by omega)
      refine lv_iinc (v := z6) (lv' := [(2, .int z6), (0, .ref (ad 22)), (1, .int L1)]) hx hb dX9_findSteps_180 hl (k := 2) rfl e_z6.symm (by decide) rfl (fun ls_7 hl_7 => ?_)
      refine lv_goto (tgt := 157) hx hb dX9_findSteps_183 (by decide) ?_
      exact ih L1 z6 f9_areSteps f9_foundMany f9_many f9_rank f9_freeMany ai5 al _ _ _ (by omega) (by omega) (by omega) (by omega) (by omega) (by omega) (by omega) (by omega) (by omega) (by omega) (by omega) (FND_fr h11 (FRu e_ai5) (by decide) (by decide)) h12 (by omega) (CT_st (n := L2) h14 (by omega) e_z2 (by omega) e_ai5 (by rw [g_z4, e_z3]; rfl) (by omega) (by omega)) (by omega) (by omega) (by omega) hI_4 hF_3 hG hP_5 hD_6 hS_2 (lv_sub hl_7 [1, 2, 0] rfl)
set_option maxRecDepth 100000 in
set_option maxHeartbeats 4000000 in
theorem r018_X9_findSteps_b135 {p : Program} {l : Launch} {e : Env} {s : State} {m : MethodId} {args : Array Value} {below : List Frame} {meth : Method} {c : Code} {A : Nat → Prop} {dC : Nat → ClassId} {dI : Nat → Nat → Nat} {cI cJ cII cJJ : ClassId} {ad : Nat → Nat} {g : Nat} {f9_size f9_equations f9_arePlans f9_planMany : Int32} {ai0 : Nat → Nat → Int32} {al0 : Nat → Nat → Int64} {o_f9_areSteps : Int32} {o_f9_many : Int32} (C : Cx p c s m meth args A dC dI (TY cI cJ cII cJJ) cX9_findSteps none 3 RX9 0 g) (hp0 : (o_f9_areSteps.toInt = 0 ∨ CIa ai0 f9_size o_f9_many.toInt)) : ∀ (n : Nat), ∀ (L1 L2 f9_areSteps f9_foundMany f9_many f9_rank f9_freeMany : Int32) (ai : Nat → Nat → Int32) (al : Nat → Nat → Int64) (H : Heap) (locs : List Loc) (ls : Array Slot), (1 ≤ L1.toInt ∧ L1.toInt ≤ 1296) → (0 ≤ L2.toInt ∧ L2.toInt ≤ 6001) → (1 ≤ f9_size.toInt ∧ f9_size.toInt ≤ 4) → (0 ≤ f9_equations.toInt ∧ f9_equations.toInt ≤ 3) → (1 ≤ f9_areSteps.toInt ∧ f9_areSteps.toInt ≤ 1) → (0 ≤ f9_foundMany.toInt ∧ f9_foundMany.toInt ≤ 99999) → (0 ≤ f9_many.toInt ∧ f9_many.toInt ≤ 0) → (0 ≤ f9_rank.toInt ∧ f9_rank.toInt ≤ 3) → (1 ≤ f9_freeMany.toInt ∧ f9_freeMany.toInt ≤ 4) → (0 ≤ f9_arePlans.toInt ∧ f9_arePlans.toInt ≤ 1) → (0 ≤ f9_planMany.toInt ∧ f9_planMany.toInt ≤ 194481) → FND ai f9_size f9_rank f9_freeMany (f9_freeMany * L1) f9_foundMany.toInt → GRT f9_rank L1 → f9_many.toInt = 0 → (∀ v : Nat, (v : Int) < L2.toInt → (ai 9 v).toInt = 0) → 6000 + 1 - L2.toInt < (n : Int) → (0 : Int) < (n : Int) → IAM ai → FR [7, 8, 9, 10, 11, 12, 13, 14, 15, 16] ai0 ai → FL [17, 18] al0 al → va_P (dC, dI) vwCl (WM cI cJ cII cJJ ad f9_size f9_equations f9_areSteps f9_foundMany f9_many f9_rank f9_freeMany f9_arePlans f9_planMany ai al) H → va_D A (WM cI cJ cII cJJ ad f9_size f9_equations f9_areSteps f9_foundMany f9_many f9_rank f9_freeMany f9_arePlans f9_planMany ai al) → va_S A s.heap H locs → lv_has ls 3 [(0, .ref (ad 22)), (1, .int L1), (2, .int L2)] → W p l e ({ frames := 10, cells := 0, slots := 0, locals := 560 } : Room) s m args below meth c H locs 0 0 (MQ below (Q_r018_X9_findSteps dC dI cI cJ cII cJJ ad f9_size f9_equations f9_arePlans f9_planMany ai0 al0 o_f9_areSteps o_f9_many A) args s 0 0 A) (F0 m 135 ls []) := by
  obtain ⟨hx, hb, hr, hml, hown, hts, hk, hA, hK, hX⟩ := id C
  intro n
  induction n with
  | zero =>
    intro L1 L2 f9_areSteps f9_foundMany f9_many f9_rank f9_freeMany ai al H locs ls h0 h1 h2 h3 h4 h5 h6 h7 h8 h9 h10 h11 h12 h13 h14 h15 h16 hI hF hG hP hD hS hl
    exact absurd h16 (by omega)
  | succ n ih =>
    intro L1 L2 f9_areSteps f9_foundMany f9_many f9_rank f9_freeMany ai al H locs ls h0 h1 h2 h3 h4 h5 h6 h7 h8 h9 h10 h11 h12 h13 h14 h15 h16 hI hF hG hP hD hS hl
    refine lv_iload_n hx hb dX9_findSteps_135 rfl (lv_at hl 2 rfl) ?_
    refine lv_sipush (v := 6000) hx hb dX9_findSteps_136 (by decide) ?_
    refine lv_icmp_gt (tgt := 155) hx hb dX9_findSteps_139 (by decide) (fun c1 => ?_) (fun c1 => ?_)
    · have c1 := j_lt (a := 6000) (b := L2.toInt) (by decide +kernel) rfl c1
      refine lv_iconst (v := 0) hx hb dX9_findSteps_155 (by decide) ?_
      refine lv_istore_n (lv' := [(2, .int 0), (0, .ref (ad 22)), (1, .int L1)]) hx hb dX9_findSteps_156 rfl hl (by decide) rfl (fun ls_1 hl_1 => ?_)
      exact r018_X9_findSteps_b157 C hp0  _ L1 0 f9_areSteps f9_foundMany f9_many f9_rank f9_freeMany ai al _ _ _ (by first | omega | decide | (have ka0 := (by decide +kernel : (0 : Int32).toInt = 0); omega)) (by first | omega | decide | (have ka0 := (by decide +kernel : (0 : Int32).toInt = 0); omega)) (by first | omega | decide | (have ka0 := (by decide +kernel : (0 : Int32).toInt = 0); omega)) (by first | omega | decide | (have ka0 := (by decide +kernel : (0 : Int32).toInt = 0); omega)) (by first | omega | decide | (have ka0 := (by decide +kernel : (0 : Int32).toInt = 0); omega)) (by first | omega | decide | (have ka0 := (by decide +kernel : (0 : Int32).toInt = 0); omega)) (by first | omega | decide | (have ka0 := (by decide +kernel : (0 : Int32).toInt = 0); omega)) (by first | omega | decide | (have ka0 := (by decide +kernel : (0 : Int32).toInt = 0); omega)) (by first | omega | decide | (have ka0 := (by decide +kernel : (0 : Int32).toInt = 0); omega)) (by first | omega | decide | (have ka0 := (by decide +kernel : (0 : Int32).toInt = 0); omega)) (by first | omega | decide | (have ka0 := (by decide +kernel : (0 : Int32).toInt = 0); omega)) h11 h12 (by first | omega | decide | (have ka0 := (by decide +kernel : (0 : Int32).toInt = 0); omega)) (CT_0 h14 (by omega) (by decide)) (by have q3 := (by decide : (0 : Int32).toInt = 0); omega) (j_fuel _) (by omega) hI hF hG hP hD hS (lv_sub hl_1 [1, 2, 0] rfl)
    · have c1 := j_nlt (a := 6000) (b := L2.toInt) (by decide +kernel) rfl c1
      refine lv_aload_n hx hb dX9_findSteps_142 rfl (lv_at hl 0 rfl) ?_
      refine gf (k := 17) hx hb hts inX9 hown hK hP k_812 rfl (by decide) rfl 22 rfl (.ref (ad 9)) rfl dX9_findSteps_143 ?_
      refine lv_iload_n hx hb dX9_findSteps_146 rfl (lv_at hl 2 rfl) ?_
      refine lv_iconst (v := 0) hx hb dX9_findSteps_147 (by decide) ?_
      refine va_iast hx hb hK hP hD hS 9 0 rfl rfl (j_in (a := L2.toInt) rfl (by omega) (by omega)) dX9_findSteps_148 (fun H_2 locs_2 hP_2 hD_2 hS_2 => ?_)
      obtain ⟨ai2, e_ai2⟩ : ∃ q : Nat → Nat → Int32, q = va_up ai 9 (upd (ai 9) L2.toNatClampNeg 0) := ⟨_, rfl⟩
      have hF_3 := FR_st hF e_ai2 (by decide)
      have hI_4 : IAM ai2 := by rw [e_ai2]; exact hI
      have hP_5 : va_P (dC, dI) vwCl (WM cI cJ cII cJJ ad f9_size f9_equations f9_areSteps f9_foundMany f9_many f9_rank f9_freeMany f9_arePlans f9_planMany ai2 al) H_2 := by rw [e_ai2]; exact hP_2
      have hD_6 : va_D A (WM cI cJ cII cJJ ad f9_size f9_equations f9_areSteps f9_foundMany f9_many f9_rank f9_freeMany f9_arePlans f9_planMany ai2 al) := by rw [e_ai2]; exact hD_2
      obtain ⟨z3, e_z3⟩ : ∃ q : Int32, q = L2 + Int32.ofInt 1 := ⟨_, rfl⟩
      have g_z3 : z3.toInt = L2.toInt + 1 := by rw [e_z3]; exact n_add (a := L2.toInt) (b := 1) rfl (by decide +kernel) (by omega) (by omega)
      refine lv_iinc (v := z3) (lv' := [(2, .int z3), (0, .ref (ad 22)), (1, .int L1)]) hx hb dX9_findSteps_149 hl (k := 2) rfl e_z3.symm (by decide) rfl (fun ls_7 hl_7 => ?_)
      refine lv_goto (tgt := 135) hx hb dX9_findSteps_152 (by decide) ?_
      exact ih L1 z3 f9_areSteps f9_foundMany f9_many f9_rank f9_freeMany ai2 al _ _ _ (by omega) (by omega) (by omega) (by omega) (by omega) (by omega) (by omega) (by omega) (by omega) (by omega) (by omega) (FND_fr h11 (FRu e_ai2) (by decide) (by decide)) h12 (by omega) (up_all (n := L2) (f := fun _ => 0) h14 e_ai2 (by omega) (by decide) (by omega)) (by omega) (by omega) hI_4 hF_3 hG hP_5 hD_6 hS_2 (lv_sub hl_7 [1, 2, 0] rfl)
set_option maxRecDepth 100000 in
set_option maxHeartbeats 4000000 in
theorem r018_X9_findSteps_b103 {p : Program} {l : Launch} {e : Env} {s : State} {m : MethodId} {args : Array Value} {below : List Frame} {meth : Method} {c : Code} {A : Nat → Prop} {dC : Nat → ClassId} {dI : Nat → Nat → Nat} {cI cJ cII cJJ : ClassId} {ad : Nat → Nat} {g : Nat} {f9_size f9_equations f9_arePlans f9_planMany : Int32} {ai0 : Nat → Nat → Int32} {al0 : Nat → Nat → Int64} {o_f9_areSteps : Int32} {o_f9_many : Int32} (C : Cx p c s m meth args A dC dI (TY cI cJ cII cJJ) cX9_findSteps none 3 RX9 0 g) (hp0 : (o_f9_areSteps.toInt = 0 ∨ CIa ai0 f9_size o_f9_many.toInt)) : ∀ (S0 f9_areSteps f9_foundMany f9_many f9_rank f9_freeMany : Int32) (ai : Nat → Nat → Int32) (al : Nat → Nat → Int64) (H : Heap) (locs : List Loc) (ls : Array Slot), (1 ≤ S0.toInt ∧ S0.toInt ≤ 1296) → (1 ≤ f9_size.toInt ∧ f9_size.toInt ≤ 4) → (0 ≤ f9_equations.toInt ∧ f9_equations.toInt ≤ 3) → (1 ≤ f9_areSteps.toInt ∧ f9_areSteps.toInt ≤ 1) → (0 ≤ f9_foundMany.toInt ∧ f9_foundMany.toInt ≤ 99999) → (0 ≤ f9_many.toInt ∧ f9_many.toInt ≤ 6000) → (0 ≤ f9_rank.toInt ∧ f9_rank.toInt ≤ 3) → (0 ≤ f9_freeMany.toInt ∧ f9_freeMany.toInt ≤ 4) → (0 ≤ f9_arePlans.toInt ∧ f9_arePlans.toInt ≤ 1) → (0 ≤ f9_planMany.toInt ∧ f9_planMany.toInt ≤ 194481) → RKa ai f9_size f9_rank f9_freeMany → GRT f9_rank S0 → IAM ai → FR [7, 8, 9, 10, 11, 12, 13, 14, 15, 16] ai0 ai → FL [17, 18] al0 al → va_P (dC, dI) vwCl (WM cI cJ cII cJJ ad f9_size f9_equations f9_areSteps f9_foundMany f9_many f9_rank f9_freeMany f9_arePlans f9_planMany ai al) H → va_D A (WM cI cJ cII cJJ ad f9_size f9_equations f9_areSteps f9_foundMany f9_many f9_rank f9_freeMany f9_arePlans f9_planMany ai al) → va_S A s.heap H locs → lv_has ls 3 [(0, .ref (ad 22))] → W p l e ({ frames := 10, cells := 0, slots := 0, locals := 560 } : Room) s m args below meth c H locs 0 0 (MQ below (Q_r018_X9_findSteps dC dI cI cJ cII cJJ ad f9_size f9_equations f9_arePlans f9_planMany ai0 al0 o_f9_areSteps o_f9_many A) args s 0 0 A) (F0 m 103 ls [.int S0]) := by
  obtain ⟨hx, hb, hr, hml, hown, hts, hk, hA, hK, hX⟩ := id C
  intro S0 f9_areSteps f9_foundMany f9_many f9_rank f9_freeMany ai al H locs ls h0 h1 h2 h3 h4 h5 h6 h7 h8 h9 h10 h11 hI hF hG hP hD hS hl
  refine lv_istore_n (lv' := [(1, .int S0), (0, .ref (ad 22))]) hx hb dX9_findSteps_103 rfl hl (by decide) rfl (fun ls_1 hl_1 => ?_)
  refine lv_aload_n hx hb dX9_findSteps_104 rfl (lv_at hl_1 1 rfl) ?_
  refine lv_iconst (v := 0) hx hb dX9_findSteps_105 (by decide) ?_
  refine pf (k := 21) hx hb hts inX9 tyX9_ok nmX9 hown hK hP hD hS k_816 rfl (by decide) rfl rfl 22 rfl rfl rfl (Nat.le_of_ble_eq_true rfl) dX9_findSteps_106 (W' := (WM cI cJ cII cJJ ad f9_size f9_equations f9_areSteps 0 f9_many f9_rank f9_freeMany f9_arePlans f9_planMany ai al)) rfl (fun H_2 locs_2 hP_2 hD_2 hS_2 => ?_)
  refine lv_aload_n hx hb dX9_findSteps_109 rfl (lv_at hl_1 1 rfl) ?_
  refine lv_iconst (v := 0) hx hb dX9_findSteps_110 (by decide) ?_
  refine pf (k := 22) hx hb hts inX9 tyX9_ok nmX9 hown hK hP_2 hD_2 hS_2 k_817 rfl (by decide) rfl rfl 22 rfl rfl rfl (Nat.le_of_ble_eq_true rfl) dX9_findSteps_111 (W' := (WM cI cJ cII cJJ ad f9_size f9_equations f9_areSteps 0 0 f9_rank f9_freeMany f9_arePlans f9_planMany ai al)) rfl (fun H_3 locs_3 hP_3 hD_3 hS_3 => ?_)
  refine lv_aload_n hx hb dX9_findSteps_114 rfl (lv_at hl_1 1 rfl) ?_
  refine gf (k := 28) hx hb hts inX9 hown hK hP_3 k_823 rfl (by decide) rfl 22 rfl (.int f9_freeMany) rfl dX9_findSteps_115 ?_
  refine lv_if_ne (tgt := 122) hx hb dX9_findSteps_118 (by decide) (fun c1 => ?_) (fun c1 => ?_)
  · have c1 := j_ne (a := f9_freeMany.toInt) (b := 0) rfl (by decide +kernel) c1
    refine lv_aload_n hx hb dX9_findSteps_122 rfl (lv_at hl_1 1 rfl) ?_
    refine lv_iconst (v := 0) hx hb dX9_findSteps_123 (by decide) ?_
    refine lv_aload_n hx hb dX9_findSteps_124 rfl (lv_at hl_1 1 rfl) ?_
    refine gf (k := 28) hx hb hts inX9 hown hK hP_3 k_823 rfl (by decide) rfl 22 rfl (.int f9_freeMany) rfl dX9_findSteps_125 ?_
    refine lv_iload_n hx hb dX9_findSteps_128 rfl (lv_at hl_1 0 rfl) ?_
    refine v_imul hx hb dX9_findSteps_129 _ rfl ?_
    refine lv_topi (fun z2 e_z2 => ?_)
    have g_z2 : 0 ≤ z2.toInt ∧ z2.toInt ≤ 1296 := by rw [e_z2]; exact (bd_ok h10 (by omega) (by omega) (by omega) (by omega) h11 rfl).1
    have q_b := bd_ok h10 (by omega) (by omega) (by omega) (by omega) h11 e_z2
    have kc0 : (0 : Int32).toInt = 0 := by decide +kernel
    have hM := r013_X9_goes l dC dI cI cJ cII cJJ H_3.size 0 ad f9_size f9_equations f9_areSteps 0 0 f9_rank f9_freeMany f9_arePlans f9_planMany ai al z2 (by omega) (by omega) (by omega) (by omega) (by decide +kernel) (by decide +kernel) (by omega) (by omega) (by omega) (by omega) h10 (fun j hj => by omega) (by have q := q_b.2.2.2; have q3 := (by decide : (0 : Int32).toInt = 0); omega) hI
    refine k2V_v (q0 := 22) ⟨hx, hb, hml, hown, hts⟩ hK hP_3 hD_3 hS_3 hA hX cv_RX9_156 hM ⟨by decide +kernel, by decide +kernel⟩ rfl rfl (Or.inl rfl) (rest := []) rfl rfl rfl hl_1.1 rfl (Nat.le_of_ble_eq_true rfl) dX9_findSteps_130 ⟨Nat.le_of_ble_eq_true rfl, Nat.le_of_ble_eq_true rfl⟩ (fun t H1 locs_4 ht hB hS_4 hFc => ?_)
    obtain ⟨v4, ai5, al6, ⟨gpr3_0, gpr3_1, gpr3_2, gpr3_3, gpr3_4, hI_5, hFr_r3, hGr_r3⟩, hP_5, -, hD_5⟩ := hB
    have hF_6 := FR_tr hF hFr_r3 (by decide)
    have hG_7 := FL_tr hG hGr_r3 (by decide)
    rw [ht] at hP_5
    have hD_8 := hD_5.weaken (B := A) (fun k q _ h9 => hFc q.1 h9)
    clear ht
    generalize H1 = H_9 at hP_5 hS_4 ⊢
    refine lv_iconst (v := 0) hx hb dX9_findSteps_133 (by decide) ?_
    refine lv_istore_n (lv' := [(2, .int 0), (1, .int S0), (0, .ref (ad 22))]) hx hb dX9_findSteps_134 rfl hl_1 (by decide) rfl (fun ls_10 hl_10 => ?_)
    exact r018_X9_findSteps_b135 C hp0  _ S0 0 f9_areSteps v4 0 f9_rank f9_freeMany ai5 al6 _ _ _ (by first | omega | decide | (have ka0 := (by decide +kernel : (0 : Int32).toInt = 0); omega)) (by first | omega | decide | (have ka0 := (by decide +kernel : (0 : Int32).toInt = 0); omega)) (by first | omega | decide | (have ka0 := (by decide +kernel : (0 : Int32).toInt = 0); omega)) (by first | omega | decide | (have ka0 := (by decide +kernel : (0 : Int32).toInt = 0); omega)) (by first | omega | decide | (have ka0 := (by decide +kernel : (0 : Int32).toInt = 0); omega)) (by first | omega | decide | (have ka0 := (by decide +kernel : (0 : Int32).toInt = 0); omega)) (by first | omega | decide | (have ka0 := (by decide +kernel : (0 : Int32).toInt = 0); omega)) (by first | omega | decide | (have ka0 := (by decide +kernel : (0 : Int32).toInt = 0); omega)) (by first | omega | decide | (have ka0 := (by decide +kernel : (0 : Int32).toInt = 0); omega)) (by first | omega | decide | (have ka0 := (by decide +kernel : (0 : Int32).toInt = 0); omega)) (by first | omega | decide | (have ka0 := (by decide +kernel : (0 : Int32).toInt = 0); omega)) (by rw [← e_z2]; exact FND_of h10 hFr_r3 (by decide) (by decide) rfl gpr3_2 gpr3_3) h11 (by first | omega | decide | (have ka0 := (by decide +kernel : (0 : Int32).toInt = 0); omega)) (fun u hu => (zlt hu).elim) (j_fuel _) (by omega) hI_5 hF_6 hG_7 hP_5 hD_8 hS_4 (lv_sub hl_10 [2, 1, 0] rfl)
  · have c1 := j_eq (a := f9_freeMany.toInt) (b := 0) rfl (by decide +kernel) c1
    exact r2_v hx hb hr hk hS_3 dX9_findSteps_121 (fun t ht hW => ⟨f9_areSteps, 0, 0, f9_rank, f9_freeMany, ai, al, ⟨(by first | omega | decide | exact Or.inl (by decide) | exact Or.inr (by decide) | exact Or.inr (by omega)), (by first | omega | decide | exact Or.inl (by decide) | exact Or.inr (by decide) | exact Or.inr (by omega)), (by first | omega | decide | exact Or.inl (by decide) | exact Or.inr (by decide) | exact Or.inr (by omega)), (by first | omega | decide | exact Or.inl (by decide) | exact Or.inr (by decide) | exact Or.inr (by omega)), (by first | omega | decide | exact Or.inl (by decide) | exact Or.inr (by decide) | exact Or.inr (by omega)), (CIa_0 (by decide)), (by first | omega | decide | exact Or.inl (by decide) | exact Or.inr (by decide) | exact Or.inr (by omega)), hI, hF, hG⟩, by rw [ht]; exact hP_3, va_K.moved hW.alike hK, hD_3⟩)
set_option maxRecDepth 100000 in
set_option maxHeartbeats 4000000 in
theorem r018_X9_findSteps_b39 {p : Program} {l : Launch} {e : Env} {s : State} {m : MethodId} {args : Array Value} {below : List Frame} {meth : Method} {c : Code} {A : Nat → Prop} {dC : Nat → ClassId} {dI : Nat → Nat → Nat} {cI cJ cII cJJ : ClassId} {ad : Nat → Nat} {g : Nat} {f9_size f9_equations f9_arePlans f9_planMany : Int32} {ai0 : Nat → Nat → Int32} {al0 : Nat → Nat → Int64} {o_f9_areSteps : Int32} {o_f9_many : Int32} (C : Cx p c s m meth args A dC dI (TY cI cJ cII cJJ) cX9_findSteps none 3 RX9 0 g) (hp0 : (o_f9_areSteps.toInt = 0 ∨ CIa ai0 f9_size o_f9_many.toInt)) : ∀ (n : Nat), ∀ (f9_areSteps f9_foundMany f9_many f9_rank f9_freeMany : Int32) (ai : Nat → Nat → Int32) (al : Nat → Nat → Int64) (H : Heap) (locs : List Loc) (ls : Array Slot), (1 ≤ f9_size.toInt ∧ f9_size.toInt ≤ 4) → (0 ≤ f9_equations.toInt ∧ f9_equations.toInt ≤ 3) → (1 ≤ f9_areSteps.toInt ∧ f9_areSteps.toInt ≤ 1) → (0 ≤ f9_foundMany.toInt ∧ f9_foundMany.toInt ≤ 99999) → (0 ≤ f9_many.toInt ∧ f9_many.toInt ≤ 6000) → (0 ≤ f9_rank.toInt ∧ f9_rank.toInt ≤ 3) → (0 ≤ f9_freeMany.toInt ∧ f9_freeMany.toInt ≤ 4) → (0 ≤ f9_arePlans.toInt ∧ f9_arePlans.toInt ≤ 1) → (0 ≤ f9_planMany.toInt ∧ f9_planMany.toInt ≤ 194481) → f9_rank.toInt < (n : Int) → (0 : Int) < (n : Int) → IAM ai → FR [7, 8, 9, 10, 11, 12, 13, 14, 15, 16] ai0 ai → FL [17, 18] al0 al → va_P (dC, dI) vwCl (WM cI cJ cII cJJ ad f9_size f9_equations f9_areSteps f9_foundMany f9_many f9_rank f9_freeMany f9_arePlans f9_planMany ai al) H → va_D A (WM cI cJ cII cJJ ad f9_size f9_equations f9_areSteps f9_foundMany f9_many f9_rank f9_freeMany f9_arePlans f9_planMany ai al) → va_S A s.heap H locs → lv_has ls 3 [(0, .ref (ad 22))] → W p l e ({ frames := 10, cells := 0, slots := 0, locals := 560 } : Room) s m args below meth c H locs 0 0 (MQ below (Q_r018_X9_findSteps dC dI cI cJ cII cJJ ad f9_size f9_equations f9_arePlans f9_planMany ai0 al0 o_f9_areSteps o_f9_many A) args s 0 0 A) (F0 m 39 ls []) := by
  obtain ⟨hx, hb, hr, hml, hown, hts, hk, hA, hK, hX⟩ := id C
  intro n
  induction n with
  | zero =>
    intro f9_areSteps f9_foundMany f9_many f9_rank f9_freeMany ai al H locs ls h0 h1 h2 h3 h4 h5 h6 h7 h8 h9 h10 hI hF hG hP hD hS hl
    exact absurd h10 (by omega)
  | succ n ih =>
    intro f9_areSteps f9_foundMany f9_many f9_rank f9_freeMany ai al H locs ls h0 h1 h2 h3 h4 h5 h6 h7 h8 h9 h10 hI hF hG hP hD hS hl
    refine lv_aload_n hx hb dX9_findSteps_39 rfl (lv_at hl 0 rfl) ?_
    refine lv_aload_n hx hb dX9_findSteps_40 rfl (lv_at hl 0 rfl) ?_
    refine gf (k := 27) hx hb hts inX9 hown hK hP k_822 rfl (by decide) rfl 22 rfl (.int f9_rank) rfl dX9_findSteps_41 ?_
    have hM := r006_X9_ranks l dC dI cI cJ cII cJJ H.size 0 ad f9_size f9_equations f9_areSteps f9_foundMany f9_many f9_rank f9_freeMany f9_arePlans f9_planMany ai al f9_rank (by omega) (by omega) (by omega) (by omega) (by omega) (by omega) (by omega) (by omega) (by omega) (by omega) hI
    refine k2V_i (q0 := 22) ⟨hx, hb, hml, hown, hts⟩ hK hP hD hS hA hX cv_RX9_160 hM ⟨by decide +kernel, by decide +kernel⟩ rfl rfl (Or.inl rfl) (rest := []) rfl rfl rfl hl.1 rfl (Nat.le_of_ble_eq_true rfl) dX9_findSteps_44 ⟨Nat.le_of_ble_eq_true rfl, Nat.le_of_ble_eq_true rfl⟩ (fun r1 t H1 locs_1 ht hB hS_1 hFc => ?_)
    obtain ⟨v2, ai3, ⟨gpr1_0, gpr1_1, gpr1_2, gpr1_3, hI_2, hFr_r1⟩, hP_2, -, hD_2⟩ := hB
    have hF_3 := FR_tr hF hFr_r1 (by decide)
    rw [ht] at hP_2
    have hD_4 := hD_2.weaken (B := A) (fun k q _ h9 => hFc q.1 h9)
    clear ht
    generalize H1 = H_5 at hP_2 hS_1 ⊢
    refine lv_if_ne (tgt := 63) hx hb dX9_findSteps_47 (by decide) (fun c4 => ?_) (fun c4 => ?_)
    · have c4 := j_ne (a := r1.toInt) (b := 0) rfl (by decide +kernel) c4
      refine lv_aload_n hx hb dX9_findSteps_63 rfl (lv_at hl 0 rfl) ?_
      refine gf (k := 27) hx hb hts inX9 hown hK hP_2 k_822 rfl (by decide) rfl 22 rfl (.int f9_rank) rfl dX9_findSteps_64 ?_
      refine lv_if_ne (tgt := 74) hx hb dX9_findSteps_67 (by decide) (fun c5 => ?_) (fun c5 => ?_)
      · have c5 := j_ne (a := f9_rank.toInt) (b := 0) rfl (by decide +kernel) c5
        refine lv_aload_n hx hb dX9_findSteps_74 rfl (lv_at hl 0 rfl) ?_
        refine gf (k := 27) hx hb hts inX9 hown hK hP_2 k_822 rfl (by decide) rfl 22 rfl (.int f9_rank) rfl dX9_findSteps_75 ?_
        refine lv_iconst (v := 1) hx hb dX9_findSteps_78 (by decide) ?_
        refine lv_icmp_ne (tgt := 87) hx hb dX9_findSteps_79 (by decide) (fun c6 => ?_) (fun c6 => ?_)
        · have c6 := j_ne (a := f9_rank.toInt) (b := 1) rfl (by decide +kernel) c6
          refine lv_aload_n hx hb dX9_findSteps_87 rfl (lv_at hl 0 rfl) ?_
          refine gf (k := 27) hx hb hts inX9 hown hK hP_2 k_822 rfl (by decide) rfl 22 rfl (.int f9_rank) rfl dX9_findSteps_88 ?_
          refine lv_iconst (v := 2) hx hb dX9_findSteps_91 (by decide) ?_
          refine lv_icmp_ne (tgt := 100) hx hb dX9_findSteps_92 (by decide) (fun c7 => ?_) (fun c7 => ?_)
          · have c7 := j_ne (a := f9_rank.toInt) (b := 2) rfl (by decide +kernel) c7
            refine lv_sipush (v := 1296) hx hb dX9_findSteps_100 (by decide) ?_
            exact r018_X9_findSteps_b103 C hp0  1296 f9_areSteps f9_foundMany f9_many f9_rank v2 ai3 al _ _ _ (by first | omega | decide | (have ka0 := (by decide +kernel : (1296 : Int32).toInt = 1296); omega)) (by first | omega | decide | (have ka0 := (by decide +kernel : (1296 : Int32).toInt = 1296); omega)) (by first | omega | decide | (have ka0 := (by decide +kernel : (1296 : Int32).toInt = 1296); omega)) (by first | omega | decide | (have ka0 := (by decide +kernel : (1296 : Int32).toInt = 1296); omega)) (by first | omega | decide | (have ka0 := (by decide +kernel : (1296 : Int32).toInt = 1296); omega)) (by first | omega | decide | (have ka0 := (by decide +kernel : (1296 : Int32).toInt = 1296); omega)) (by first | omega | decide | (have ka0 := (by decide +kernel : (1296 : Int32).toInt = 1296); omega)) (by first | omega | decide | (have ka0 := (by decide +kernel : (1296 : Int32).toInt = 1296); omega)) (by first | omega | decide | (have ka0 := (by decide +kernel : (1296 : Int32).toInt = 1296); omega)) (by first | omega | decide | (have ka0 := (by decide +kernel : (1296 : Int32).toInt = 1296); omega)) (gpr1_2.resolve_left (by omega)) (Or.inr (Or.inr (Or.inr ⟨by omega, by decide⟩))) hI_2 hF_3 hG hP_2 hD_4 hS_1 (lv_sub hl [0] rfl)
          · have c7 := j_eq (a := f9_rank.toInt) (b := 2) rfl (by decide +kernel) c7
            refine lv_bipush (v := 72) hx hb dX9_findSteps_95 (by decide) ?_
            refine lv_goto (tgt := 103) hx hb dX9_findSteps_97 (by decide) ?_
            exact r018_X9_findSteps_b103 C hp0  72 f9_areSteps f9_foundMany f9_many f9_rank v2 ai3 al _ _ _ (by first | omega | decide | (have ka0 := (by decide +kernel : (72 : Int32).toInt = 72); omega)) (by first | omega | decide | (have ka0 := (by decide +kernel : (72 : Int32).toInt = 72); omega)) (by first | omega | decide | (have ka0 := (by decide +kernel : (72 : Int32).toInt = 72); omega)) (by first | omega | decide | (have ka0 := (by decide +kernel : (72 : Int32).toInt = 72); omega)) (by first | omega | decide | (have ka0 := (by decide +kernel : (72 : Int32).toInt = 72); omega)) (by first | omega | decide | (have ka0 := (by decide +kernel : (72 : Int32).toInt = 72); omega)) (by first | omega | decide | (have ka0 := (by decide +kernel : (72 : Int32).toInt = 72); omega)) (by first | omega | decide | (have ka0 := (by decide +kernel : (72 : Int32).toInt = 72); omega)) (by first | omega | decide | (have ka0 := (by decide +kernel : (72 : Int32).toInt = 72); omega)) (by first | omega | decide | (have ka0 := (by decide +kernel : (72 : Int32).toInt = 72); omega)) (gpr1_2.resolve_left (by omega)) (Or.inr (Or.inr (Or.inl ⟨by omega, by decide⟩))) hI_2 hF_3 hG hP_2 hD_4 hS_1 (lv_sub hl [0] rfl)
        · have c6 := j_eq (a := f9_rank.toInt) (b := 1) rfl (by decide +kernel) c6
          refine lv_bipush (v := 6) hx hb dX9_findSteps_82 (by decide) ?_
          refine lv_goto (tgt := 103) hx hb dX9_findSteps_84 (by decide) ?_
          exact r018_X9_findSteps_b103 C hp0  6 f9_areSteps f9_foundMany f9_many f9_rank v2 ai3 al _ _ _ (by first | omega | decide | (have ka0 := (by decide +kernel : (6 : Int32).toInt = 6); omega)) (by first | omega | decide | (have ka0 := (by decide +kernel : (6 : Int32).toInt = 6); omega)) (by first | omega | decide | (have ka0 := (by decide +kernel : (6 : Int32).toInt = 6); omega)) (by first | omega | decide | (have ka0 := (by decide +kernel : (6 : Int32).toInt = 6); omega)) (by first | omega | decide | (have ka0 := (by decide +kernel : (6 : Int32).toInt = 6); omega)) (by first | omega | decide | (have ka0 := (by decide +kernel : (6 : Int32).toInt = 6); omega)) (by first | omega | decide | (have ka0 := (by decide +kernel : (6 : Int32).toInt = 6); omega)) (by first | omega | decide | (have ka0 := (by decide +kernel : (6 : Int32).toInt = 6); omega)) (by first | omega | decide | (have ka0 := (by decide +kernel : (6 : Int32).toInt = 6); omega)) (by first | omega | decide | (have ka0 := (by decide +kernel : (6 : Int32).toInt = 6); omega)) (gpr1_2.resolve_left (by omega)) (Or.inr (Or.inl ⟨by omega, by decide⟩)) hI_2 hF_3 hG hP_2 hD_4 hS_1 (lv_sub hl [0] rfl)
      · have c5 := j_eq (a := f9_rank.toInt) (b := 0) rfl (by decide +kernel) c5
        refine lv_iconst (v := 1) hx hb dX9_findSteps_70 (by decide) ?_
        refine lv_goto (tgt := 103) hx hb dX9_findSteps_71 (by decide) ?_
        exact r018_X9_findSteps_b103 C hp0  1 f9_areSteps f9_foundMany f9_many f9_rank v2 ai3 al _ _ _ (by first | omega | decide | (have ka0 := (by decide +kernel : (1 : Int32).toInt = 1); omega)) (by first | omega | decide | (have ka0 := (by decide +kernel : (1 : Int32).toInt = 1); omega)) (by first | omega | decide | (have ka0 := (by decide +kernel : (1 : Int32).toInt = 1); omega)) (by first | omega | decide | (have ka0 := (by decide +kernel : (1 : Int32).toInt = 1); omega)) (by first | omega | decide | (have ka0 := (by decide +kernel : (1 : Int32).toInt = 1); omega)) (by first | omega | decide | (have ka0 := (by decide +kernel : (1 : Int32).toInt = 1); omega)) (by first | omega | decide | (have ka0 := (by decide +kernel : (1 : Int32).toInt = 1); omega)) (by first | omega | decide | (have ka0 := (by decide +kernel : (1 : Int32).toInt = 1); omega)) (by first | omega | decide | (have ka0 := (by decide +kernel : (1 : Int32).toInt = 1); omega)) (by first | omega | decide | (have ka0 := (by decide +kernel : (1 : Int32).toInt = 1); omega)) (gpr1_2.resolve_left (by omega)) (Or.inl ⟨by omega, by decide⟩) hI_2 hF_3 hG hP_2 hD_4 hS_1 (lv_sub hl [0] rfl)
    · have c4 := j_eq (a := r1.toInt) (b := 0) rfl (by decide +kernel) c4
      refine lv_aload_n hx hb dX9_findSteps_50 rfl (lv_at hl 0 rfl) ?_
      refine lv_dup hx hb dX9_findSteps_51 rfl ?_
      refine gf (k := 27) hx hb hts inX9 hown hK hP_2 k_822 rfl (by decide) rfl 22 rfl (.int f9_rank) rfl dX9_findSteps_52 ?_
      refine lv_iconst (v := 1) hx hb dX9_findSteps_55 (by decide) ?_
      refine v_isub hx hb dX9_findSteps_56 _ rfl ?_
      refine lv_topi (fun z8 e_z8 => ?_)
      have g_z8 : z8.toInt = f9_rank.toInt - 1 ∧ 0 ≤ z8.toInt := by rw [e_z8, n_sub (a := f9_rank.toInt) (b := 1) rfl (by decide +kernel) (by omega) (by omega)]; omega
      refine pf (k := 27) hx hb hts inX9 tyX9_ok nmX9 hown hK hP_2 hD_4 hS_1 k_822 rfl (by decide) rfl rfl 22 rfl rfl rfl (Nat.le_of_ble_eq_true rfl) dX9_findSteps_57 (W' := (WM cI cJ cII cJJ ad f9_size f9_equations f9_areSteps f9_foundMany f9_many z8 v2 f9_arePlans f9_planMany ai3 al)) rfl (fun H_6 locs_6 hP_6 hD_6 hS_6 => ?_)
      refine lv_goto (tgt := 39) hx hb dX9_findSteps_60 (by decide) ?_
      exact ih f9_areSteps f9_foundMany f9_many z8 v2 ai3 al _ _ _ (by omega) (by omega) (by omega) (by omega) (by omega) (by omega) (by omega) (by omega) (by omega) (by omega) (by omega) hI_2 hF_3 hG hP_6 hD_6 hS_6 (lv_sub hl [0] rfl)
set_option maxRecDepth 100000 in
set_option maxHeartbeats 4000000 in
theorem r018_X9_findSteps_b36 {p : Program} {l : Launch} {e : Env} {s : State} {m : MethodId} {args : Array Value} {below : List Frame} {meth : Method} {c : Code} {A : Nat → Prop} {dC : Nat → ClassId} {dI : Nat → Nat → Nat} {cI cJ cII cJJ : ClassId} {ad : Nat → Nat} {g : Nat} {f9_size f9_equations f9_arePlans f9_planMany : Int32} {ai0 : Nat → Nat → Int32} {al0 : Nat → Nat → Int64} {o_f9_areSteps : Int32} {o_f9_many : Int32} (C : Cx p c s m meth args A dC dI (TY cI cJ cII cJJ) cX9_findSteps none 3 RX9 0 g) (hp0 : (o_f9_areSteps.toInt = 0 ∨ CIa ai0 f9_size o_f9_many.toInt)) : ∀ (S0 f9_areSteps f9_foundMany f9_many f9_rank f9_freeMany : Int32) (ai : Nat → Nat → Int32) (al : Nat → Nat → Int64) (H : Heap) (locs : List Loc) (ls : Array Slot), (0 ≤ S0.toInt ∧ S0.toInt ≤ 3) → (1 ≤ f9_size.toInt ∧ f9_size.toInt ≤ 4) → (0 ≤ f9_equations.toInt ∧ f9_equations.toInt ≤ 3) → (1 ≤ f9_areSteps.toInt ∧ f9_areSteps.toInt ≤ 1) → (0 ≤ f9_foundMany.toInt ∧ f9_foundMany.toInt ≤ 99999) → (0 ≤ f9_many.toInt ∧ f9_many.toInt ≤ 6000) → (0 ≤ f9_rank.toInt ∧ f9_rank.toInt ≤ 3) → (0 ≤ f9_freeMany.toInt ∧ f9_freeMany.toInt ≤ 4) → (0 ≤ f9_arePlans.toInt ∧ f9_arePlans.toInt ≤ 1) → (0 ≤ f9_planMany.toInt ∧ f9_planMany.toInt ≤ 194481) → IAM ai → FR [7, 8, 9, 10, 11, 12, 13, 14, 15, 16] ai0 ai → FL [17, 18] al0 al → va_P (dC, dI) vwCl (WM cI cJ cII cJJ ad f9_size f9_equations f9_areSteps f9_foundMany f9_many f9_rank f9_freeMany f9_arePlans f9_planMany ai al) H → va_D A (WM cI cJ cII cJJ ad f9_size f9_equations f9_areSteps f9_foundMany f9_many f9_rank f9_freeMany f9_arePlans f9_planMany ai al) → va_S A s.heap H locs → lv_has ls 3 [(0, .ref (ad 22))] → W p l e ({ frames := 10, cells := 0, slots := 0, locals := 560 } : Room) s m args below meth c H locs 0 0 (MQ below (Q_r018_X9_findSteps dC dI cI cJ cII cJJ ad f9_size f9_equations f9_arePlans f9_planMany ai0 al0 o_f9_areSteps o_f9_many A) args s 0 0 A) (F0 m 36 ls [.int S0, .ref (ad 22)]) := by
  obtain ⟨hx, hb, hr, hml, hown, hts, hk, hA, hK, hX⟩ := id C
  intro S0 f9_areSteps f9_foundMany f9_many f9_rank f9_freeMany ai al H locs ls h0 h1 h2 h3 h4 h5 h6 h7 h8 h9 hI hF hG hP hD hS hl
  refine pf (k := 27) hx hb hts inX9 tyX9_ok nmX9 hown hK hP hD hS k_822 rfl (by decide) rfl rfl 22 rfl rfl rfl (Nat.le_of_ble_eq_true rfl) dX9_findSteps_36 (W' := (WM cI cJ cII cJJ ad f9_size f9_equations f9_areSteps f9_foundMany f9_many S0 f9_freeMany f9_arePlans f9_planMany ai al)) rfl (fun H_1 locs_1 hP_1 hD_1 hS_1 => ?_)
  exact r018_X9_findSteps_b39 C hp0  _ f9_areSteps f9_foundMany f9_many S0 f9_freeMany ai al _ _ _ (by omega) (by omega) (by omega) (by omega) (by omega) (by omega) (by omega) (by omega) (by omega) (j_fuel _) (by omega) hI hF hG hP_1 hD_1 hS_1 (lv_sub hl [0] rfl)
set_option maxRecDepth 100000 in
set_option maxHeartbeats 4000000 in
theorem r018_X9_findSteps (l : Launch) (dC : Nat → ClassId) (dI : Nat → Nat → Nat) (cI cJ cII cJJ : ClassId) (sz g : Nat) (ad : Nat → Nat) (f9_size f9_equations f9_areSteps f9_foundMany f9_many f9_rank f9_freeMany f9_arePlans f9_planMany : Int32) (ai : Nat → Nat → Int32) (al : Nat → Nat → Int64) (h_f9_size : (1 ≤ f9_size.toInt ∧ f9_size.toInt ≤ 4)) (h_f9_equations : (0 ≤ f9_equations.toInt ∧ f9_equations.toInt ≤ 3)) (h_f9_areSteps : (0 ≤ f9_areSteps.toInt ∧ f9_areSteps.toInt ≤ 1)) (h_f9_foundMany : (0 ≤ f9_foundMany.toInt ∧ f9_foundMany.toInt ≤ 99999)) (h_f9_many : (0 ≤ f9_many.toInt ∧ f9_many.toInt ≤ 6000)) (h_f9_rank : (0 ≤ f9_rank.toInt ∧ f9_rank.toInt ≤ 3)) (h_f9_freeMany : (0 ≤ f9_freeMany.toInt ∧ f9_freeMany.toInt ≤ 4)) (h_f9_arePlans : (0 ≤ f9_arePlans.toInt ∧ f9_arePlans.toInt ≤ 1)) (h_f9_planMany : (0 ≤ f9_planMany.toInt ∧ f9_planMany.toInt ≤ 194481)) (hp0 : (f9_areSteps.toInt = 0 ∨ CIa ai f9_size f9_many.toInt)) (hI : IAM ai) : Met l yX9_findSteps (.code yX9_findSteps cX9_findSteps 3 none :: TT) ({ frames := 10, cells := 0, slots := 0, locals := 560 } : Room) (PcS dC dI (TY cI cJ cII cJJ) [.ref (ad 22)] (WM cI cJ cII cJJ ad f9_size f9_equations f9_areSteps f9_foundMany f9_many f9_rank f9_freeMany f9_arePlans f9_planMany ai al) sz 0 g) (Q_r018_X9_findSteps dC dI cI cJ cII cJJ ad f9_size f9_equations f9_arePlans f9_planMany ai al f9_areSteps f9_many (va_A (WM cI cJ cII cJJ ad f9_size f9_equations f9_areSteps f9_foundMany f9_many f9_rank f9_freeMany f9_arePlans f9_planMany ai al) sz)) 0 0 (va_A (WM cI cJ cII cJJ ad f9_size f9_equations f9_areSteps f9_foundMany f9_many f9_rank f9_freeMany f9_arePlans f9_planMany ai al) sz) := by
  refine SM.of (y := yX9_findSteps) (maxL := 3) (av := [.ref (ad 22)]) (Q_r018_X9_findSteps dC dI cI cJ cII cJJ ad f9_size f9_equations f9_arePlans f9_planMany ai al f9_areSteps f9_many) (by decide +kernel) (Nat.le_of_ble_eq_true rfl) (fun p e s m below meth c A ls hx hb hr hml hown hts hk hnm hA hK hP hD hS hX hl => ?_)
  have C : Cx p c s m meth (([.ref (ad 22)] : List Value).toArray) A dC dI (TY cI cJ cII cJJ) cX9_findSteps none 3 RX9 0 g := ⟨hx, hb, hr, hml, hown, hts, hk, hA, hK, hX⟩
  have hown : s.vm.findClass RX9 = some m.cls := hown
  have hl : lv_has ls 3 [(0, .ref (ad 22))] := hl
  obtain ⟨H, hH⟩ : ∃ q, q = s.heap := ⟨_, rfl⟩
  rw [← hH] at hP
  have hS : va_S A s.heap H [] := by rw [hH]; exact hS
  rw [← hH]
  have hF := FR_refl [7, 8, 9, 10, 11, 12, 13, 14, 15, 16] ai
  have hG := FL_refl [17, 18] al
  refine lv_aload_n hx hb dX9_findSteps_0 rfl (lv_at hl 0 rfl) ?_
  refine gf (k := 14) hx hb hts inX9 hown hK hP k_809 rfl (by decide) rfl 22 rfl (.int f9_areSteps) rfl dX9_findSteps_1 ?_
  refine lv_if_eq (tgt := 8) hx hb dX9_findSteps_4 (by decide) (fun c1 => ?_) (fun c1 => ?_)
  · have c1 := j_eq (a := f9_areSteps.toInt) (b := 0) rfl (by decide +kernel) c1
    refine lv_aload_n hx hb dX9_findSteps_8 rfl (lv_at hl 0 rfl) ?_
    refine lv_iconst (v := 1) hx hb dX9_findSteps_9 (by decide) ?_
    refine pf (k := 14) hx hb hts inX9 tyX9_ok nmX9 hown hK hP hD hS k_809 rfl (by decide) rfl rfl 22 rfl rfl rfl (Nat.le_of_ble_eq_true rfl) dX9_findSteps_10 (W' := (WM cI cJ cII cJJ ad f9_size f9_equations 1 f9_foundMany f9_many f9_rank f9_freeMany f9_arePlans f9_planMany ai al)) rfl (fun H_1 locs_1 hP_1 hD_1 hS_1 => ?_)
    refine lv_aload_n hx hb dX9_findSteps_13 rfl (lv_at hl 0 rfl) ?_
    refine lv_aload_n hx hb dX9_findSteps_14 rfl (lv_at hl 0 rfl) ?_
    refine gf (k := 13) hx hb hts inX9 hown hK hP_1 k_808 rfl (by decide) rfl 22 rfl (.int f9_equations) rfl dX9_findSteps_15 ?_
    refine lv_aload_n hx hb dX9_findSteps_18 rfl (lv_at hl 0 rfl) ?_
    refine gf (k := 12) hx hb hts inX9 hown hK hP_1 k_807 rfl (by decide) rfl 22 rfl (.int f9_size) rfl dX9_findSteps_19 ?_
    refine lv_icmp_ge (tgt := 32) hx hb dX9_findSteps_22 (by decide) (fun c2 => ?_) (fun c2 => ?_)
    · have c2 := j_le (a := f9_size.toInt) (b := f9_equations.toInt) rfl rfl c2
      refine lv_aload_n hx hb dX9_findSteps_32 rfl (lv_at hl 0 rfl) ?_
      refine gf (k := 12) hx hb hts inX9 hown hK hP_1 k_807 rfl (by decide) rfl 22 rfl (.int f9_size) rfl dX9_findSteps_33 ?_
      exact r018_X9_findSteps_b36 C hp0  f9_size 1 f9_foundMany f9_many f9_rank f9_freeMany ai al _ _ _ (by first | omega | decide | (have ka0 := (by decide +kernel : (1 : Int32).toInt = 1); omega)) (by first | omega | decide | (have ka0 := (by decide +kernel : (1 : Int32).toInt = 1); omega)) (by first | omega | decide | (have ka0 := (by decide +kernel : (1 : Int32).toInt = 1); omega)) (by first | omega | decide | (have ka0 := (by decide +kernel : (1 : Int32).toInt = 1); omega)) (by first | omega | decide | (have ka0 := (by decide +kernel : (1 : Int32).toInt = 1); omega)) (by first | omega | decide | (have ka0 := (by decide +kernel : (1 : Int32).toInt = 1); omega)) (by first | omega | decide | (have ka0 := (by decide +kernel : (1 : Int32).toInt = 1); omega)) (by first | omega | decide | (have ka0 := (by decide +kernel : (1 : Int32).toInt = 1); omega)) (by first | omega | decide | (have ka0 := (by decide +kernel : (1 : Int32).toInt = 1); omega)) (by first | omega | decide | (have ka0 := (by decide +kernel : (1 : Int32).toInt = 1); omega)) hI hF hG hP_1 hD_1 hS_1 (lv_sub hl [0] rfl)
    · have c2 := j_nle (a := f9_size.toInt) (b := f9_equations.toInt) rfl rfl c2
      refine lv_aload_n hx hb dX9_findSteps_25 rfl (lv_at hl 0 rfl) ?_
      refine gf (k := 13) hx hb hts inX9 hown hK hP_1 k_808 rfl (by decide) rfl 22 rfl (.int f9_equations) rfl dX9_findSteps_26 ?_
      refine lv_goto (tgt := 36) hx hb dX9_findSteps_29 (by decide) ?_
      exact r018_X9_findSteps_b36 C hp0  f9_equations 1 f9_foundMany f9_many f9_rank f9_freeMany ai al _ _ _ (by first | omega | decide | (have ka0 := (by decide +kernel : (1 : Int32).toInt = 1); omega)) (by first | omega | decide | (have ka0 := (by decide +kernel : (1 : Int32).toInt = 1); omega)) (by first | omega | decide | (have ka0 := (by decide +kernel : (1 : Int32).toInt = 1); omega)) (by first | omega | decide | (have ka0 := (by decide +kernel : (1 : Int32).toInt = 1); omega)) (by first | omega | decide | (have ka0 := (by decide +kernel : (1 : Int32).toInt = 1); omega)) (by first | omega | decide | (have ka0 := (by decide +kernel : (1 : Int32).toInt = 1); omega)) (by first | omega | decide | (have ka0 := (by decide +kernel : (1 : Int32).toInt = 1); omega)) (by first | omega | decide | (have ka0 := (by decide +kernel : (1 : Int32).toInt = 1); omega)) (by first | omega | decide | (have ka0 := (by decide +kernel : (1 : Int32).toInt = 1); omega)) (by first | omega | decide | (have ka0 := (by decide +kernel : (1 : Int32).toInt = 1); omega)) hI hF hG hP_1 hD_1 hS_1 (lv_sub hl [0] rfl)
  · have c1 := j_ne (a := f9_areSteps.toInt) (b := 0) rfl (by decide +kernel) c1
    exact r2_v hx hb hr hk hS dX9_findSteps_7 (fun t ht hW => ⟨f9_areSteps, f9_foundMany, f9_many, f9_rank, f9_freeMany, ai, al, ⟨(by first | omega | decide | exact Or.inl (by decide) | exact Or.inr (by decide) | exact Or.inr (by omega)), (by first | omega | decide | exact Or.inl (by decide) | exact Or.inr (by decide) | exact Or.inr (by omega)), (by first | omega | decide | exact Or.inl (by decide) | exact Or.inr (by decide) | exact Or.inr (by omega)), (by first | omega | decide | exact Or.inl (by decide) | exact Or.inr (by decide) | exact Or.inr (by omega)), (by first | omega | decide | exact Or.inl (by decide) | exact Or.inr (by decide) | exact Or.inr (by omega)), (hp0.resolve_left (by omega)), (by first | omega | decide | exact Or.inl (by decide) | exact Or.inr (by decide) | exact Or.inr (by omega)), hI, hF, hG⟩, by rw [ht]; exact hP, va_K.moved hW.alike hK, hD⟩)
