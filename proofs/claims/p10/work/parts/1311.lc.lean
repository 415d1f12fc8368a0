set_option maxRecDepth 100000 in
set_option maxHeartbeats 4000000 in
theorem lc_9 {p : Program} {e : Env} {s : State} {m : MethodId} {below : List Frame} {meth : Method} {c : Code} (l : Launch) {b L : Nat} {xs : Nat → Int32} (C0 : lw_At p s m meth c b L xs) (hL : L ≤ 2560) {dC : Nat → ClassId} {dI : Nat → Nat → Nat} {cI cJ cII cJJ : ClassId} {g : Nat} {adx adm : Nat → Nat} {i : Int32} (hi0 : 0 ≤ i.toInt) (hi1 : i.toInt + 5 ≤ (L : Int)) (K : ∀ z : Int32, z.toInt = i.toInt + 5 → LPd p l e s m below meth c b dC dI cI cJ cII cJJ adx adm z) (hK : va_K (dC, dI) vwCl (TY cI cJ cII cJJ) s) (hX : GXA 1 g (AA s) s) : ∀ (f3_unknowns f3_equations f2_roundSupports f2_stale f7_size f1_size f5_keptSize f5_aheadSize f0_solved f4_blockCount f4_blockLength f4_lastIsFree f4_stale : Int32) (aix : Nat → Nat → Int32) (alx : Nat → Nat → Int64) (w0 w1 w2 w3 : Nat) (f9_size f9_equations f9_areSteps f9_foundMany f9_many f9_rank f9_freeMany f9_arePlans f9_planMany : Int32) (aim : Nat → Nat → Int32) (alm : Nat → Nat → Int64) (H : Heap) (locs : List Loc) (ls : Array Slot), (1 ≤ f3_unknowns.toInt ∧ f3_unknowns.toInt ≤ 4) → (0 ≤ f3_equations.toInt ∧ f3_equations.toInt ≤ 3) → (0 ≤ f2_stale.toInt ∧ f2_stale.toInt ≤ 1) → (0 ≤ f7_size.toInt ∧ f7_size.toInt ≤ 256) → (0 ≤ f1_size.toInt ∧ f1_size.toInt ≤ 4) → (0 ≤ f5_keptSize.toInt ∧ f5_keptSize.toInt ≤ 128) → (0 ≤ f5_aheadSize.toInt ∧ f5_aheadSize.toInt ≤ 128) → (0 ≤ f4_blockCount.toInt ∧ f4_blockCount.toInt ≤ 9261) → (0 ≤ f4_blockLength.toInt ∧ f4_blockLength.toInt ≤ 21) → (0 ≤ f4_lastIsFree.toInt ∧ f4_lastIsFree.toInt ≤ 1) → (0 ≤ f4_stale.toInt ∧ f4_stale.toInt ≤ 1) → IAX aix → RWX adx w0 → RWX adx w1 → RWX adx w2 → RWX adx w3 → (1 ≤ f9_size.toInt ∧ f9_size.toInt ≤ 4) → (0 ≤ f9_equations.toInt ∧ f9_equations.toInt ≤ 3) → (0 ≤ f9_areSteps.toInt ∧ f9_areSteps.toInt ≤ 1) → (0 ≤ f9_foundMany.toInt ∧ f9_foundMany.toInt ≤ 99999) → (0 ≤ f9_many.toInt ∧ f9_many.toInt ≤ 6000) → (0 ≤ f9_rank.toInt ∧ f9_rank.toInt ≤ 3) → (0 ≤ f9_freeMany.toInt ∧ f9_freeMany.toInt ≤ 4) → (0 ≤ f9_arePlans.toInt ∧ f9_arePlans.toInt ≤ 1) → (0 ≤ f9_planMany.toInt ∧ f9_planMany.toInt ≤ 194481) → IAM aim → (f9_areSteps.toInt = 0 ∨ CIa aim f9_size f9_many.toInt) → f3_unknowns.toInt = f9_size.toInt → f3_equations.toInt = f9_equations.toInt → SDr aix aim f3_equations.toInt → TRr aix aim → va_P (dC, dI) vwCl ((WX cI cJ cII cJJ adx f3_unknowns f3_equations f2_roundSupports f2_stale f7_size f1_size f5_keptSize f5_aheadSize f0_solved f4_blockCount f4_blockLength f4_lastIsFree f4_stale aix alx w0 w1 w2 w3) ++ (WM cI cJ cII cJJ adm f9_size f9_equations f9_areSteps f9_foundMany f9_many f9_rank f9_freeMany f9_arePlans f9_planMany aim alm)) H → va_D (AA s) ((WX cI cJ cII cJJ adx f3_unknowns f3_equations f2_roundSupports f2_stale f7_size f1_size f5_keptSize f5_aheadSize f0_solved f4_blockCount f4_blockLength f4_lastIsFree f4_stale aix alx w0 w1 w2 w3) ++ (WM cI cJ cII cJJ adm f9_size f9_equations f9_areSteps f9_foundMany f9_many f9_rank f9_freeMany f9_arePlans f9_planMany aim alm)) → va_S (AA s) s.heap H locs → lv_has ls 4 [(3, .int i), (2, .ref (adm 22)), (1, .ref (adx 0)), (0, .ref b)] → W p l e room_1 s m #[Value.ref b] below meth c H locs 600000 7302250 (lw_Z below #[Value.ref b] s) (F0 m 543 ls []) := by
  obtain ⟨hx, hb, hr, hml, hown, hts0, hX0, hbl, hlocks, hgv⟩ := id C0
  have hts : ∀ w ∈ TT, w.before #[Value.ref b] s = true := fun w h => hts0 w (TT_tbl h)
  have hA : ∀ q : Nat, s.heap.size ≤ q → AA s q := fun _ h => h
  have hbA : ¬ AA s b := Nat.not_le.mpr hbl
  have hown : s.vm.findClass RL = some m.cls := hown
  intro f3_unknowns f3_equations f2_roundSupports f2_stale f7_size f1_size f5_keptSize f5_aheadSize f0_solved f4_blockCount f4_blockLength f4_lastIsFree f4_stale aix alx w0 w1 w2 w3 f9_size f9_equations f9_areSteps f9_foundMany f9_many f9_rank f9_freeMany f9_arePlans f9_planMany aim alm H locs ls h0 h1 h2 h3 h4 h5 h6 h7 h8 h9 h10 h11 h12 h13 h14 h15 h16 h17 h18 h19 h20 h21 h22 h23 h24 h25 h26 h27 h28 h29 h30 hP hD hS hl
  refine lv_aload_n hx hb dL_law_543 rfl (lv_at hl 2 rfl) ?_
  refine lv_aload_n hx hb dL_law_544 rfl (lv_at hl 3 rfl) ?_
  refine lv_iload_n hx hb dL_law_545 rfl (lv_at hl 0 rfl) ?_
  refine lv_iconst (v := 1) hx hb dL_law_546 (by decide) ?_
  refine v_iadd hx hb dL_law_547 _ rfl ?_
  refine lv_topi (fun z1 e_z1 => ?_)
  have g_z1 : z1.toInt = i.toInt + 1 := by rw [e_z1]; exact n_add (a := i.toInt) (b := 1) rfl (by decide +kernel) (by omega) (by omega)
  refine va_sld hx hb hX0 hbl hbA hS (j_in (a := z1.toInt) rfl (by omega) (by omega)) dL_law_548 ?_
  refine lv_topi (fun y2 e_y2 => ?_)
  refine lv_aload_n hx hb dL_law_549 rfl (lv_at hl 3 rfl) ?_
  refine lv_iload_n hx hb dL_law_550 rfl (lv_at hl 0 rfl) ?_
  refine lv_iconst (v := 2) hx hb dL_law_551 (by decide) ?_
  refine v_iadd hx hb dL_law_552 _ rfl ?_
  refine lv_topi (fun z3 e_z3 => ?_)
  have g_z3 : z3.toInt = i.toInt + 2 := by rw [e_z3]; exact n_add (a := i.toInt) (b := 2) rfl (by decide +kernel) (by omega) (by omega)
  refine va_sld hx hb hX0 hbl hbA hS (j_in (a := z3.toInt) rfl (by omega) (by omega)) dL_law_553 ?_
  refine lv_topi (fun y4 e_y4 => ?_)
  refine lv_aload_n hx hb dL_law_554 rfl (lv_at hl 3 rfl) ?_
  refine lv_iload_n hx hb dL_law_555 rfl (lv_at hl 0 rfl) ?_
  refine lv_iconst (v := 3) hx hb dL_law_556 (by decide) ?_
  refine v_iadd hx hb dL_law_557 _ rfl ?_
  refine lv_topi (fun z5 e_z5 => ?_)
  have g_z5 : z5.toInt = i.toInt + 3 := by rw [e_z5]; exact n_add (a := i.toInt) (b := 3) rfl (by decide +kernel) (by omega) (by omega)
  refine va_sld hx hb hX0 hbl hbA hS (j_in (a := z5.toInt) rfl (by omega) (by omega)) dL_law_558 ?_
  refine lv_topi (fun y6 e_y6 => ?_)
  have hM := m056_X8_lay l dC dI cI cJ cII cJJ H.size 0 adx f3_unknowns f3_equations f2_roundSupports f2_stale f7_size f1_size f5_keptSize f5_aheadSize f0_solved f4_blockCount f4_blockLength f4_lastIsFree f4_stale aix alx w0 w1 w2 w3 y2 y4 y6 (by omega) (by omega) (by omega) (by omega) (by omega) (by omega) (by omega) (by omega) (by omega) (by omega) (by omega) h11 h12 h13 h14 h15
  refine k3V_i (q0 := 0) ⟨hx, hb, hml, hown, hts⟩ hK hP hD hS hA hX cv_RL_57 [0, 1, 2, 3, 4, 5, 6, 7, 8, 9, 10, 11, 12, 13, 14, 15, 16, 17, 18, 19, 20, 21, 22, 23, 24, 25, 26, 27, 28, 29, 30, 31, 32, 33, 34, 35, 36, 37, 38, 39, 40, 41, 42, 43, 44, 45, 46, 47, 48, 49, 50, 51, 52, 53, 54, 55, 56, 57, 58, 59, 60, 61, 62, 63] [64, 65, 66, 67, 68, 69, 70, 71, 72, 73, 74, 75, 76, 77, 78, 79, 80, 81, 82, 83, 84, 85, 86, 87, 88, 89, 90, 91] (wr := (WM cI cJ cII cJJ adm f9_size f9_equations f9_areSteps f9_foundMany f9_many f9_rank f9_freeMany f9_arePlans f9_planMany aim alm)) rfl rfl rfl rfl (by decide) hM ⟨by decide +kernel, by decide +kernel⟩ rfl rfl (Or.inl rfl) (rest := []) rfl rfl rfl hl.1 rfl (Nat.le_of_ble_eq_true rfl) dL_law_559 ⟨Nat.le_of_ble_eq_true rfl, Nat.le_of_ble_eq_true rfl⟩ (fun r7 t H1 locs ht hB hj hS => ?_)
  obtain ⟨v9, v10, ai11, ⟨pr7_0, pr7_1, pr7_2, pr7_3⟩, hP1, -, hD1⟩ := hB
  rw [ht] at hP1
  obtain ⟨hP, hD⟩ := hj _ hP1 hD1
  clear ht hj hP1 hD1 hM
  generalize H1 = H8 at hP hS ⊢
  refine lv_pop hx hb dL_law_562 rfl ?_
  refine lv_aload_n hx hb dL_law_563 rfl (lv_at hl 1 rfl) ?_
  refine lv_aload_n hx hb dL_law_564 rfl (lv_at hl 3 rfl) ?_
  refine lv_iload_n hx hb dL_law_565 rfl (lv_at hl 0 rfl) ?_
  refine lv_iconst (v := 1) hx hb dL_law_566 (by decide) ?_
  refine v_iadd hx hb dL_law_567 _ rfl ?_
  refine lv_topi (fun z12 e_z12 => ?_)
  have g_z12 : z12.toInt = i.toInt + 1 := by rw [e_z12]; exact n_add (a := i.toInt) (b := 1) rfl (by decide +kernel) (by omega) (by omega)
  refine va_sld hx hb hX0 hbl hbA hS (j_in (a := z12.toInt) rfl (by omega) (by omega)) dL_law_568 ?_
  refine lv_topi (fun y13 e_y13 => ?_)
  have q_y13 : y2 = y13 := by rw [e_y2, e_y13, e_z1, e_z12]
  clear e_y13
  subst q_y13
  refine lv_aload_n hx hb dL_law_569 rfl (lv_at hl 3 rfl) ?_
  refine lv_iload_n hx hb dL_law_570 rfl (lv_at hl 0 rfl) ?_
  refine lv_iconst (v := 2) hx hb dL_law_571 (by decide) ?_
  refine v_iadd hx hb dL_law_572 _ rfl ?_
  refine lv_topi (fun z14 e_z14 => ?_)
  have g_z14 : z14.toInt = i.toInt + 2 := by rw [e_z14]; exact n_add (a := i.toInt) (b := 2) rfl (by decide +kernel) (by omega) (by omega)
  refine va_sld hx hb hX0 hbl hbA hS (j_in (a := z14.toInt) rfl (by omega) (by omega)) dL_law_573 ?_
  refine lv_topi (fun y15 e_y15 => ?_)
  have q_y15 : y4 = y15 := by rw [e_y4, e_y15, e_z3, e_z14]
  clear e_y15
  subst q_y15
  refine lv_aload_n hx hb dL_law_574 rfl (lv_at hl 3 rfl) ?_
  refine lv_iload_n hx hb dL_law_575 rfl (lv_at hl 0 rfl) ?_
  refine lv_iconst (v := 3) hx hb dL_law_576 (by decide) ?_
  refine v_iadd hx hb dL_law_577 _ rfl ?_
  refine lv_topi (fun z16 e_z16 => ?_)
  have g_z16 : z16.toInt = i.toInt + 3 := by rw [e_z16]; exact n_add (a := i.toInt) (b := 3) rfl (by decide +kernel) (by omega) (by omega)
  refine va_sld hx hb hX0 hbl hbA hS (j_in (a := z16.toInt) rfl (by omega) (by omega)) dL_law_578 ?_
  refine lv_topi (fun y17 e_y17 => ?_)
  have q_y17 : y6 = y17 := by rw [e_y6, e_y17, e_z5, e_z16]
  clear e_y17
  subst q_y17
  have hM := r050_X9_lay l dC dI cI cJ cII cJJ H8.size 0 adm f9_size f9_equations f9_areSteps f9_foundMany f9_many f9_rank f9_freeMany f9_arePlans f9_planMany aim alm y2 y4 y6 (by omega) (by omega) (by omega) (by omega) (by omega) (by omega) (by omega) (by omega) (by omega) h26 h25
  refine k3V_i (q0 := 22) ⟨hx, hb, hml, hown, hts⟩ hK hP hD hS hA hX cv_RL_60 [0, 1, 2, 3, 4, 5, 6, 7, 8, 9, 10, 11, 12, 13, 14, 15, 16, 17, 18, 19, 20, 21, 22, 23, 24, 25, 26, 27] [28, 29, 30, 31, 32, 33, 34, 35, 36, 37, 38, 39, 40, 41, 42, 43, 44, 45, 46, 47, 48, 49, 50, 51, 52, 53, 54, 55, 56, 57, 58, 59, 60, 61, 62, 63, 64, 65, 66, 67, 68, 69, 70, 71, 72, 73, 74, 75, 76, 77, 78, 79, 80, 81, 82, 83, 84, 85, 86, 87, 88, 89, 90, 91] (wr := (WX cI cJ cII cJJ adx f3_unknowns f3_equations f2_roundSupports v9 f7_size f1_size f5_keptSize f5_aheadSize f0_solved f4_blockCount f4_blockLength f4_lastIsFree v10 ai11 alx w0 w1 w2 w3)) rfl rfl rfl rfl (by decide) hM ⟨by decide +kernel, by decide +kernel⟩ rfl rfl (Or.inl rfl) (rest := []) rfl rfl rfl hl.1 rfl (Nat.le_of_ble_eq_true rfl) dL_law_579 ⟨Nat.le_of_ble_eq_true rfl, Nat.le_of_ble_eq_true rfl⟩ (fun r18 t H1 locs ht hB hj hS => ?_)
  obtain ⟨v20, v21, ai22, ⟨pr18_0, pr18_1, pr18_2, pr18_3, pr18_4, pr18_5⟩, hP1, -, hD1⟩ := hB
  rw [ht] at hP1
  obtain ⟨hP, hD⟩ := hj _ hP1 hD1
  clear ht hj hP1 hD1 hM
  generalize H1 = H19 at hP hS ⊢
  refine lv_pop hx hb dL_law_582 rfl ?_
  refine lv_goto (tgt := 1072) hx hb dL_law_583 (by decide) ?_
  obtain ⟨z, e_z⟩ : ∃ q : Int32, q = i + Int32.ofInt 5 := ⟨_, rfl⟩
  have g_z : z.toInt = i.toInt + 5 := by rw [e_z]; exact n_add (a := i.toInt) (b := 5) rfl (by decide +kernel) (by omega) (by omega)
  refine lv_iinc (v := z) (lv' := [(3, .int z), (2, .ref (adm 22)), (1, .ref (adx 0)), (0, .ref b)]) hx hb dL_law_1072 hl (k := 0) rfl e_z.symm (by decide) rfl (fun ls hl => ?_)
  refine lv_goto (tgt := 18) hx hb dL_law_1075 (by decide) ?_
  exact K z g_z f3_unknowns f3_equations f2_roundSupports v9 f7_size f1_size f5_keptSize f5_aheadSize f0_solved f4_blockCount f4_blockLength f4_lastIsFree v10 ai11 alx w0 w1 w2 w3 f9_size f9_equations v20 f9_foundMany f9_many f9_rank f9_freeMany v21 f9_planMany ai22 alm _ _ _ (by omega) (by omega) (by omega) (by omega) (by omega) (by omega) (by omega) (by omega) (by omega) (by omega) (by omega) pr7_2 h12 h13 h14 h15 (by omega) (by omega) (by omega) (by omega) (by omega) (by omega) (by omega) (by omega) (by omega) pr18_4 pr18_3 (by omega) (by omega) (SDr_m (SDr_x h29 pr7_3 (by decide)) pr18_5 (by decide)) (TRr_m (TRr_x h30 pr7_3 (by decide)) pr18_5 (by decide)) hP hD hS hl
set_option maxRecDepth 100000 in
set_option maxHeartbeats 4000000 in
theorem lc_10 {p : Program} {e : Env} {s : State} {m : MethodId} {below : List Frame} {meth : Method} {c : Code} (l : Launch) {b L : Nat} {xs : Nat → Int32} (C0 : lw_At p s m meth c b L xs) (hL : L ≤ 2560) {dC : Nat → ClassId} {dI : Nat → Nat → Nat} {cI cJ cII cJJ : ClassId} {g : Nat} {adx adm : Nat → Nat} {i : Int32} (hi0 : 0 ≤ i.toInt) (hi1 : i.toInt + 5 ≤ (L : Int)) (K : ∀ z : Int32, z.toInt = i.toInt + 5 → LPd p l e s m below meth c b dC dI cI cJ cII cJJ adx adm z) (hK : va_K (dC, dI) vwCl (TY cI cJ cII cJJ) s) (hX : GXA 1 g (AA s) s) : ∀ (f3_unknowns f3_equations f2_roundSupports f2_stale f7_size f1_size f5_keptSize f5_aheadSize f0_solved f4_blockCount f4_blockLength f4_lastIsFree f4_stale : Int32) (aix : Nat → Nat → Int32) (alx : Nat → Nat → Int64) (w0 w1 w2 w3 : Nat) (f9_size f9_equations f9_areSteps f9_foundMany f9_many f9_rank f9_freeMany f9_arePlans f9_planMany : Int32) (aim : Nat → Nat → Int32) (alm : Nat → Nat → Int64) (H : Heap) (locs : List Loc) (ls : Array Slot), (1 ≤ f3_unknowns.toInt ∧ f3_unknowns.toInt ≤ 4) → (0 ≤ f3_equations.toInt ∧ f3_equations.toInt ≤ 3) → (0 ≤ f2_stale.toInt ∧ f2_stale.toInt ≤ 1) → (0 ≤ f7_size.toInt ∧ f7_size.toInt ≤ 256) → (0 ≤ f1_size.toInt ∧ f1_size.toInt ≤ 4) → (0 ≤ f5_keptSize.toInt ∧ f5_keptSize.toInt ≤ 128) → (0 ≤ f5_aheadSize.toInt ∧ f5_aheadSize.toInt ≤ 128) → (0 ≤ f4_blockCount.toInt ∧ f4_blockCount.toInt ≤ 9261) → (0 ≤ f4_blockLength.toInt ∧ f4_blockLength.toInt ≤ 21) → (0 ≤ f4_lastIsFree.toInt ∧ f4_lastIsFree.toInt ≤ 1) → (0 ≤ f4_stale.toInt ∧ f4_stale.toInt ≤ 1) → IAX aix → RWX adx w0 → RWX adx w1 → RWX adx w2 → RWX adx w3 → (1 ≤ f9_size.toInt ∧ f9_size.toInt ≤ 4) → (0 ≤ f9_equations.toInt ∧ f9_equations.toInt ≤ 3) → (0 ≤ f9_areSteps.toInt ∧ f9_areSteps.toInt ≤ 1) → (0 ≤ f9_foundMany.toInt ∧ f9_foundMany.toInt ≤ 99999) → (0 ≤ f9_many.toInt ∧ f9_many.toInt ≤ 6000) → (0 ≤ f9_rank.toInt ∧ f9_rank.toInt ≤ 3) → (0 ≤ f9_freeMany.toInt ∧ f9_freeMany.toInt ≤ 4) → (0 ≤ f9_arePlans.toInt ∧ f9_arePlans.toInt ≤ 1) → (0 ≤ f9_planMany.toInt ∧ f9_planMany.toInt ≤ 194481) → IAM aim → (f9_areSteps.toInt = 0 ∨ CIa aim f9_size f9_many.toInt) → f3_unknowns.toInt = f9_size.toInt → f3_equations.toInt = f9_equations.toInt → SDr aix aim f3_equations.toInt → TRr aix aim → va_P (dC, dI) vwCl ((WX cI cJ cII cJJ adx f3_unknowns f3_equations f2_roundSupports f2_stale f7_size f1_size f5_keptSize f5_aheadSize f0_solved f4_blockCount f4_blockLength f4_lastIsFree f4_stale aix alx w0 w1 w2 w3) ++ (WM cI cJ cII cJJ adm f9_size f9_equations f9_areSteps f9_foundMany f9_many f9_rank f9_freeMany f9_arePlans f9_planMany aim alm)) H → va_D (AA s) ((WX cI cJ cII cJJ adx f3_unknowns f3_equations f2_roundSupports f2_stale f7_size f1_size f5_keptSize f5_aheadSize f0_solved f4_blockCount f4_blockLength f4_lastIsFree f4_stale aix alx w0 w1 w2 w3) ++ (WM cI cJ cII cJJ adm f9_size f9_equations f9_areSteps f9_foundMany f9_many f9_rank f9_freeMany f9_arePlans f9_planMany aim alm)) → va_S (AA s) s.heap H locs → lv_has ls 4 [(3, .int i), (2, .ref (adm 22)), (1, .ref (adx 0)), (0, .ref b)] → W p l e room_1 s m #[Value.ref b] below meth c H locs 600000 7302250 (lw_Z below #[Value.ref b] s) (F0 m 586 ls []) := by
  obtain ⟨hx, hb, hr, hml, hown, hts0, hX0, hbl, hlocks, hgv⟩ := id C0
  have hts : ∀ w ∈ TT, w.before #[Value.ref b] s = true := fun w h => hts0 w (TT_tbl h)
  have hA : ∀ q : Nat, s.heap.size ≤ q → AA s q := fun _ h => h
  have hbA : ¬ AA s b := Nat.not_le.mpr hbl
  have hown : s.vm.findClass RL = some m.cls := hown
  intro f3_unknowns f3_equations f2_roundSupports f2_stale f7_size f1_size f5_keptSize f5_aheadSize f0_solved f4_blockCount f4_blockLength f4_lastIsFree f4_stale aix alx w0 w1 w2 w3 f9_size f9_equations f9_areSteps f9_foundMany f9_many f9_rank f9_freeMany f9_arePlans f9_planMany aim alm H locs ls h0 h1 h2 h3 h4 h5 h6 h7 h8 h9 h10 h11 h12 h13 h14 h15 h16 h17 h18 h19 h20 h21 h22 h23 h24 h25 h26 h27 h28 h29 h30 hP hD hS hl
  refine lv_aload_n hx hb dL_law_586 rfl (lv_at hl 2 rfl) ?_
  have hM := m165_X8_least l dC dI cI cJ cII cJJ H.size g adx f3_unknowns f3_equations f2_roundSupports f2_stale f7_size f1_size f5_keptSize f5_aheadSize f0_solved f4_blockCount f4_blockLength f4_lastIsFree f4_stale aix alx w0 w1 w2 w3 (by omega) (by omega) (by omega) (by omega) (by omega) (by omega) (by omega) (by omega) (by omega) (by omega) (by omega) h11 h12 h13 h14 h15
  refine k3V_i (q0 := 0) ⟨hx, hb, hml, hown, hts⟩ hK hP hD hS hA hX cv_RL_61 [0, 1, 2, 3, 4, 5, 6, 7, 8, 9, 10, 11, 12, 13, 14, 15, 16, 17, 18, 19, 20, 21, 22, 23, 24, 25, 26, 27, 28, 29, 30, 31, 32, 33, 34, 35, 36, 37, 38, 39, 40, 41, 42, 43, 44, 45, 46, 47, 48, 49, 50, 51, 52, 53, 54, 55, 56, 57, 58, 59, 60, 61, 62, 63] [64, 65, 66, 67, 68, 69, 70, 71, 72, 73, 74, 75, 76, 77, 78, 79, 80, 81, 82, 83, 84, 85, 86, 87, 88, 89, 90, 91] (wr := (WM cI cJ cII cJJ adm f9_size f9_equations f9_areSteps f9_foundMany f9_many f9_rank f9_freeMany f9_arePlans f9_planMany aim alm)) rfl rfl rfl rfl (by decide) hM ⟨by decide +kernel, by decide +kernel⟩ rfl rfl (Or.inr ⟨rfl, rfl, rfl⟩) (rest := []) rfl rfl rfl hl.1 rfl (Nat.le_of_ble_eq_true rfl) dL_law_587 ⟨Nat.le_of_ble_eq_true rfl, Nat.le_of_ble_eq_true rfl⟩ (fun r1 t H1 locs ht hB hj hS => ?_)
  obtain ⟨v3, v4, v5, v6, v7, v8, v9, ai10, al11, w12, w13, w14, w15, ⟨pr1_0, pr1_1, pr1_2, pr1_3, pr1_4, pr1_5, pr1_6, pr1_7, pr1_8, pr1_9, pr1_10, pr1_11, pr1_12⟩, hP1, -, hD1⟩ := hB
  rw [ht] at hP1
  obtain ⟨hP, hD⟩ := hj _ hP1 hD1
  clear ht hj hP1 hD1 hM
  generalize H1 = H2 at hP hS ⊢
  refine lv_pop hx hb dL_law_590 rfl ?_
  refine lv_aload_n hx hb dL_law_591 rfl (lv_at hl 1 rfl) ?_
  have hM := r051_X9_least l dC dI cI cJ cII cJJ H2.size 0 adm f9_size f9_equations f9_areSteps f9_foundMany f9_many f9_rank f9_freeMany f9_arePlans f9_planMany aim alm (by omega) (by omega) (by omega) (by omega) (by omega) (by omega) (by omega) (by omega) (by omega) h26 h25
  refine k3V_i (q0 := 22) ⟨hx, hb, hml, hown, hts⟩ hK hP hD hS hA hX cv_RL_64 [0, 1, 2, 3, 4, 5, 6, 7, 8, 9, 10, 11, 12, 13, 14, 15, 16, 17, 18, 19, 20, 21, 22, 23, 24, 25, 26, 27] [28, 29, 30, 31, 32, 33, 34, 35, 36, 37, 38, 39, 40, 41, 42, 43, 44, 45, 46, 47, 48, 49, 50, 51, 52, 53, 54, 55, 56, 57, 58, 59, 60, 61, 62, 63, 64, 65, 66, 67, 68, 69, 70, 71, 72, 73, 74, 75, 76, 77, 78, 79, 80, 81, 82, 83, 84, 85, 86, 87, 88, 89, 90, 91] (wr := (WX cI cJ cII cJJ adx f3_unknowns f3_equations v3 v4 v5 v6 v7 v8 v9 f4_blockCount f4_blockLength f4_lastIsFree f4_stale ai10 al11 w12 w13 w14 w15)) rfl rfl rfl rfl (by decide) hM ⟨by decide +kernel, by decide +kernel⟩ rfl rfl (Or.inl rfl) (rest := []) rfl rfl rfl hl.1 rfl (Nat.le_of_ble_eq_true rfl) dL_law_592 ⟨Nat.le_of_ble_eq_true rfl, Nat.le_of_ble_eq_true rfl⟩ (fun r16 t H1 locs ht hB hj hS => ?_)
  obtain ⟨v18, v19, v20, v21, v22, ai23, al24, ⟨pr16_0, pr16_1, pr16_2, pr16_3, pr16_4, pr16_5, pr16_6, pr16_7, pr16_8, pr16_9⟩, hP1, -, hD1⟩ := hB
  rw [ht] at hP1
  obtain ⟨hP, hD⟩ := hj _ hP1 hD1
  clear ht hj hP1 hD1 hM
  generalize H1 = H17 at hP hS ⊢
  refine lv_pop hx hb dL_law_595 rfl ?_
  refine lv_goto (tgt := 1072) hx hb dL_law_596 (by decide) ?_
  obtain ⟨z, e_z⟩ : ∃ q : Int32, q = i + Int32.ofInt 5 := ⟨_, rfl⟩
  have g_z : z.toInt = i.toInt + 5 := by rw [e_z]; exact n_add (a := i.toInt) (b := 5) rfl (by decide +kernel) (by omega) (by omega)
  refine lv_iinc (v := z) (lv' := [(3, .int z), (2, .ref (adm 22)), (1, .ref (adx 0)), (0, .ref b)]) hx hb dL_law_1072 hl (k := 0) rfl e_z.symm (by decide) rfl (fun ls hl => ?_)
  refine lv_goto (tgt := 18) hx hb dL_law_1075 (by decide) ?_
  exact K z g_z f3_unknowns f3_equations v3 v4 v5 v6 v7 v8 v9 f4_blockCount f4_blockLength f4_lastIsFree f4_stale ai10 al11 w12 w13 w14 w15 f9_size f9_equations v18 v19 v20 v21 v22 f9_arePlans f9_planMany ai23 al24 _ _ _ (by omega) (by omega) (by omega) (by omega) (by omega) (by omega) (by omega) (by omega) (by omega) (by omega) (by omega) pr1_6 pr1_9 pr1_10 pr1_11 pr1_12 (by omega) (by omega) (by omega) (by omega) (by omega) (by omega) (by omega) (by omega) (by omega) pr16_7 pr16_6 (by omega) (by omega) (SDr_m (SDr_x h29 pr1_7 (by decide)) pr16_8 (by decide)) (TRr_m (TRr_x h30 pr1_7 (by decide)) pr16_8 (by decide)) hP hD hS hl
set_option maxRecDepth 100000 in
set_option maxHeartbeats 4000000 in
theorem lc_11 {p : Program} {e : Env} {s : State} {m : MethodId} {below : List Frame} {meth : Method} {c : Code} (l : Launch) {b L : Nat} {xs : Nat → Int32} (C0 : lw_At p s m meth c b L xs) (hL : L ≤ 2560) {dC : Nat → ClassId} {dI : Nat → Nat → Nat} {cI cJ cII cJJ : ClassId} {g : Nat} {adx adm : Nat → Nat} {i : Int32} (hi0 : 0 ≤ i.toInt) (hi1 : i.toInt + 5 ≤ (L : Int)) (K : ∀ z : Int32, z.toInt = i.toInt + 5 → LPd p l e s m below meth c b dC dI cI cJ cII cJJ adx adm z) (hK : va_K (dC, dI) vwCl (TY cI cJ cII cJJ) s) (hX : GXA 1 g (AA s) s) : ∀ (f3_unknowns f3_equations f2_roundSupports f2_stale f7_size f1_size f5_keptSize f5_aheadSize f0_solved f4_blockCount f4_blockLength f4_lastIsFree f4_stale : Int32) (aix : Nat → Nat → Int32) (alx : Nat → Nat → Int64) (w0 w1 w2 w3 : Nat) (f9_size f9_equations f9_areSteps f9_foundMany f9_many f9_rank f9_freeMany f9_arePlans f9_planMany : Int32) (aim : Nat → Nat → Int32) (alm : Nat → Nat → Int64) (H : Heap) (locs : List Loc) (ls : Array Slot), (1 ≤ f3_unknowns.toInt ∧ f3_unknowns.toInt ≤ 4) → (0 ≤ f3_equations.toInt ∧ f3_equations.toInt ≤ 3) → (0 ≤ f2_stale.toInt ∧ f2_stale.toInt ≤ 1) → (0 ≤ f7_size.toInt ∧ f7_size.toInt ≤ 256) → (0 ≤ f1_size.toInt ∧ f1_size.toInt ≤ 4) → (0 ≤ f5_keptSize.toInt ∧ f5_keptSize.toInt ≤ 128) → (0 ≤ f5_aheadSize.toInt ∧ f5_aheadSize.toInt ≤ 128) → (0 ≤ f4_blockCount.toInt ∧ f4_blockCount.toInt ≤ 9261) → (0 ≤ f4_blockLength.toInt ∧ f4_blockLength.toInt ≤ 21) → (0 ≤ f4_lastIsFree.toInt ∧ f4_lastIsFree.toInt ≤ 1) → (0 ≤ f4_stale.toInt ∧ f4_stale.toInt ≤ 1) → IAX aix → RWX adx w0 → RWX adx w1 → RWX adx w2 → RWX adx w3 → (1 ≤ f9_size.toInt ∧ f9_size.toInt ≤ 4) → (0 ≤ f9_equations.toInt ∧ f9_equations.toInt ≤ 3) → (0 ≤ f9_areSteps.toInt ∧ f9_areSteps.toInt ≤ 1) → (0 ≤ f9_foundMany.toInt ∧ f9_foundMany.toInt ≤ 99999) → (0 ≤ f9_many.toInt ∧ f9_many.toInt ≤ 6000) → (0 ≤ f9_rank.toInt ∧ f9_rank.toInt ≤ 3) → (0 ≤ f9_freeMany.toInt ∧ f9_freeMany.toInt ≤ 4) → (0 ≤ f9_arePlans.toInt ∧ f9_arePlans.toInt ≤ 1) → (0 ≤ f9_planMany.toInt ∧ f9_planMany.toInt ≤ 194481) → IAM aim → (f9_areSteps.toInt = 0 ∨ CIa aim f9_size f9_many.toInt) → f3_unknowns.toInt = f9_size.toInt → f3_equations.toInt = f9_equations.toInt → SDr aix aim f3_equations.toInt → TRr aix aim → va_P (dC, dI) vwCl ((WX cI cJ cII cJJ adx f3_unknowns f3_equations f2_roundSupports f2_stale f7_size f1_size f5_keptSize f5_aheadSize f0_solved f4_blockCount f4_blockLength f4_lastIsFree f4_stale aix alx w0 w1 w2 w3) ++ (WM cI cJ cII cJJ adm f9_size f9_equations f9_areSteps f9_foundMany f9_many f9_rank f9_freeMany f9_arePlans f9_planMany aim alm)) H → va_D (AA s) ((WX cI cJ cII cJJ adx f3_unknowns f3_equations f2_roundSupports f2_stale f7_size f1_size f5_keptSize f5_aheadSize f0_solved f4_blockCount f4_blockLength f4_lastIsFree f4_stale aix alx w0 w1 w2 w3) ++ (WM cI cJ cII cJJ adm f9_size f9_equations f9_areSteps f9_foundMany f9_many f9_rank f9_freeMany f9_arePlans f9_planMany aim alm)) → va_S (AA s) s.heap H locs → lv_has ls 4 [(3, .int i), (2, .ref (adm 22)), (1, .ref (adx 0)), (0, .ref b)] → W p l e room_1 s m #[Value.ref b] below meth c H locs 600000 7302250 (lw_Z below #[Value.ref b] s) (F0 m 599 ls []) := by
  obtain ⟨hx, hb, hr, hml, hown, hts0, hX0, hbl, hlocks, hgv⟩ := id C0
  have hts : ∀ w ∈ TT, w.before #[Value.ref b] s = true := fun w h => hts0 w (TT_tbl h)
  have hA : ∀ q : Nat, s.heap.size ≤ q → AA s q := fun _ h => h
  have hbA : ¬ AA s b := Nat.not_le.mpr hbl
  have hown : s.vm.findClass RL = some m.cls := hown
  intro f3_unknowns f3_equations f2_roundSupports f2_stale f7_size f1_size f5_keptSize f5_aheadSize f0_solved f4_blockCount f4_blockLength f4_lastIsFree f4_stale aix alx w0 w1 w2 w3 f9_size f9_equations f9_areSteps f9_foundMany f9_many f9_rank f9_freeMany f9_arePlans f9_planMany aim alm H locs ls h0 h1 h2 h3 h4 h5 h6 h7 h8 h9 h10 h11 h12 h13 h14 h15 h16 h17 h18 h19 h20 h21 h22 h23 h24 h25 h26 h27 h28 h29 h30 hP hD hS hl
  refine lv_aload_n hx hb dL_law_599 rfl (lv_at hl 2 rfl) ?_
  refine lv_aload_n hx hb dL_law_600 rfl (lv_at hl 3 rfl) ?_
  refine lv_iload_n hx hb dL_law_601 rfl (lv_at hl 0 rfl) ?_
  refine lv_iconst (v := 1) hx hb dL_law_602 (by decide) ?_
  refine v_iadd hx hb dL_law_603 _ rfl ?_
  refine lv_topi (fun z1 e_z1 => ?_)
  have g_z1 : z1.toInt = i.toInt + 1 := by rw [e_z1]; exact n_add (a := i.toInt) (b := 1) rfl (by decide +kernel) (by omega) (by omega)
  refine va_sld hx hb hX0 hbl hbA hS (j_in (a := z1.toInt) rfl (by omega) (by omega)) dL_law_604 ?_
  refine lv_topi (fun y2 e_y2 => ?_)
  refine lv_aload_n hx hb dL_law_605 rfl (lv_at hl 3 rfl) ?_
  refine lv_iload_n hx hb dL_law_606 rfl (lv_at hl 0 rfl) ?_
  refine lv_iconst (v := 2) hx hb dL_law_607 (by decide) ?_
  refine v_iadd hx hb dL_law_608 _ rfl ?_
  refine lv_topi (fun z3 e_z3 => ?_)
  have g_z3 : z3.toInt = i.toInt + 2 := by rw [e_z3]; exact n_add (a := i.toInt) (b := 2) rfl (by decide +kernel) (by omega) (by omega)
  refine va_sld hx hb hX0 hbl hbA hS (j_in (a := z3.toInt) rfl (by omega) (by omega)) dL_law_609 ?_
  refine lv_topi (fun y4 e_y4 => ?_)
  have hM := m166_X8_step l dC dI cI cJ cII cJJ H.size g adx f3_unknowns f3_equations f2_roundSupports f2_stale f7_size f1_size f5_keptSize f5_aheadSize f0_solved f4_blockCount f4_blockLength f4_lastIsFree f4_stale aix alx w0 w1 w2 w3 y2 y4 (by omega) (by omega) (by omega) (by omega) (by omega) (by omega) (by omega) (by omega) (by omega) (by omega) (by omega) h11 h12 h13 h14 h15
  refine k3V_i (q0 := 0) ⟨hx, hb, hml, hown, hts⟩ hK hP hD hS hA hX cv_RL_65 [0, 1, 2, 3, 4, 5, 6, 7, 8, 9, 10, 11, 12, 13, 14, 15, 16, 17, 18, 19, 20, 21, 22, 23, 24, 25, 26, 27, 28, 29, 30, 31, 32, 33, 34, 35, 36, 37, 38, 39, 40, 41, 42, 43, 44, 45, 46, 47, 48, 49, 50, 51, 52, 53, 54, 55, 56, 57, 58, 59, 60, 61, 62, 63] [64, 65, 66, 67, 68, 69, 70, 71, 72, 73, 74, 75, 76, 77, 78, 79, 80, 81, 82, 83, 84, 85, 86, 87, 88, 89, 90, 91] (wr := (WM cI cJ cII cJJ adm f9_size f9_equations f9_areSteps f9_foundMany f9_many f9_rank f9_freeMany f9_arePlans f9_planMany aim alm)) rfl rfl rfl rfl (by decide) hM ⟨by decide +kernel, by decide +kernel⟩ rfl rfl (Or.inr ⟨rfl, rfl, rfl⟩) (rest := []) rfl rfl rfl hl.1 rfl (Nat.le_of_ble_eq_true rfl) dL_law_610 ⟨Nat.le_of_ble_eq_true rfl, Nat.le_of_ble_eq_true rfl⟩ (fun r5 t H1 locs ht hB hj hS => ?_)
  obtain ⟨v7, v8, v9, v10, v11, v12, v13, ai14, al15, w16, w17, w18, w19, ⟨pr5_0, pr5_1, pr5_2, pr5_3, pr5_4, pr5_5, pr5_6, pr5_7, pr5_8, pr5_9, pr5_10, pr5_11⟩, hP1, -, hD1⟩ := hB
  rw [ht] at hP1
  obtain ⟨hP, hD⟩ := hj _ hP1 hD1
  clear ht hj hP1 hD1 hM
  generalize H1 = H6 at hP hS ⊢
  refine lv_pop hx hb dL_law_613 rfl ?_
  refine lv_aload_n hx hb dL_law_614 rfl (lv_at hl 1 rfl) ?_
  refine lv_aload_n hx hb dL_law_615 rfl (lv_at hl 3 rfl) ?_
  refine lv_iload_n hx hb dL_law_616 rfl (lv_at hl 0 rfl) ?_
  refine lv_iconst (v := 1) hx hb dL_law_617 (by decide) ?_
  refine v_iadd hx hb dL_law_618 _ rfl ?_
  refine lv_topi (fun z20 e_z20 => ?_)
  have g_z20 : z20.toInt = i.toInt + 1 := by rw [e_z20]; exact n_add (a := i.toInt) (b := 1) rfl (by decide +kernel) (by omega) (by omega)
  refine va_sld hx hb hX0 hbl hbA hS (j_in (a := z20.toInt) rfl (by omega) (by omega)) dL_law_619 ?_
  refine lv_topi (fun y21 e_y21 => ?_)
  have q_y21 : y2 = y21 := by rw [e_y2, e_y21, e_z1, e_z20]
  clear e_y21
  subst q_y21
  refine lv_aload_n hx hb dL_law_620 rfl (lv_at hl 3 rfl) ?_
  refine lv_iload_n hx hb dL_law_621 rfl (lv_at hl 0 rfl) ?_
  refine lv_iconst (v := 2) hx hb dL_law_622 (by decide) ?_
  refine v_iadd hx hb dL_law_623 _ rfl ?_
  refine lv_topi (fun z22 e_z22 => ?_)
  have g_z22 : z22.toInt = i.toInt + 2 := by rw [e_z22]; exact n_add (a := i.toInt) (b := 2) rfl (by decide +kernel) (by omega) (by omega)
  refine va_sld hx hb hX0 hbl hbA hS (j_in (a := z22.toInt) rfl (by omega) (by omega)) dL_law_624 ?_
  refine lv_topi (fun y23 e_y23 => ?_)
  have q_y23 : y4 = y23 := by rw [e_y4, e_y23, e_z3, e_z22]
  clear e_y23
  subst q_y23
  have hM := r052_X9_step l dC dI cI cJ cII cJJ H6.size 0 adm f9_size f9_equations f9_areSteps f9_foundMany f9_many f9_rank f9_freeMany f9_arePlans f9_planMany aim alm y2 y4 (by omega) (by omega) (by omega) (by omega) (by omega) (by omega) (by omega) (by omega) (by omega) h26 h25
  refine k3V_i (q0 := 22) ⟨hx, hb, hml, hown, hts⟩ hK hP hD hS hA hX cv_RL_68 [0, 1, 2, 3, 4, 5, 6, 7, 8, 9, 10, 11, 12, 13, 14, 15, 16, 17, 18, 19, 20, 21, 22, 23, 24, 25, 26, 27] [28, 29, 30, 31, 32, 33, 34, 35, 36, 37, 38, 39, 40, 41, 42, 43, 44, 45, 46, 47, 48, 49, 50, 51, 52, 53, 54, 55, 56, 57, 58, 59, 60, 61, 62, 63, 64, 65, 66, 67, 68, 69, 70, 71, 72, 73, 74, 75, 76, 77, 78, 79, 80, 81, 82, 83, 84, 85, 86, 87, 88, 89, 90, 91] (wr := (WX cI cJ cII cJJ adx f3_unknowns f3_equations v7 v8 v9 v10 v11 v12 v13 f4_blockCount f4_blockLength f4_lastIsFree f4_stale ai14 al15 w16 w17 w18 w19)) rfl rfl rfl rfl (by decide) hM ⟨by decide +kernel, by decide +kernel⟩ rfl rfl (Or.inl rfl) (rest := []) rfl rfl rfl hl.1 rfl (Nat.le_of_ble_eq_true rfl) dL_law_625 ⟨Nat.le_of_ble_eq_true rfl, Nat.le_of_ble_eq_true rfl⟩ (fun r24 t H1 locs ht hB hj hS => ?_)
  obtain ⟨v26, v27, v28, v29, v30, ai31, al32, ⟨pr24_0, pr24_1, pr24_2, pr24_3, pr24_4, pr24_5, pr24_6, pr24_7, pr24_8⟩, hP1, -, hD1⟩ := hB
  rw [ht] at hP1
  obtain ⟨hP, hD⟩ := hj _ hP1 hD1
  clear ht hj hP1 hD1 hM
  generalize H1 = H25 at hP hS ⊢
  refine lv_pop hx hb dL_law_628 rfl ?_
  refine lv_goto (tgt := 1072) hx hb dL_law_629 (by decide) ?_
  obtain ⟨z, e_z⟩ : ∃ q : Int32, q = i + Int32.ofInt 5 := ⟨_, rfl⟩
  have g_z : z.toInt = i.toInt + 5 := by rw [e_z]; exact n_add (a := i.toInt) (b := 5) rfl (by decide +kernel) (by omega) (by omega)
  refine lv_iinc (v := z) (lv' := [(3, .int z), (2, .ref (adm 22)), (1, .ref (adx 0)), (0, .ref b)]) hx hb dL_law_1072 hl (k := 0) rfl e_z.symm (by decide) rfl (fun ls hl => ?_)
  refine lv_goto (tgt := 18) hx hb dL_law_1075 (by decide) ?_
  exact K z g_z f3_unknowns f3_equations v7 v8 v9 v10 v11 v12 v13 f4_blockCount f4_blockLength f4_lastIsFree f4_stale ai14 al15 w16 w17 w18 w19 f9_size f9_equations v26 v27 v28 v29 v30 f9_arePlans f9_planMany ai31 al32 _ _ _ (by omega) (by omega) (by omega) (by omega) (by omega) (by omega) (by omega) (by omega) (by omega) (by omega) (by omega) pr5_5 pr5_8 pr5_9 pr5_10 pr5_11 (by omega) (by omega) (by omega) (by omega) (by omega) (by omega) (by omega) (by omega) (by omega) pr24_6 pr24_5 (by omega) (by omega) (SDr_m (SDr_x h29 pr5_6 (by decide)) pr24_7 (by decide)) (TRr_m (TRr_x h30 pr5_6 (by decide)) pr24_7 (by decide)) hP hD hS hl
set_option maxRecDepth 100000 in
set_option maxHeartbeats 4000000 in
theorem lc_12 {p : Program} {e : Env} {s : State} {m : MethodId} {below : List Frame} {meth : Method} {c : Code} (l : Launch) {b L : Nat} {xs : Nat → Int32} (C0 : lw_At p s m meth c b L xs) (hL : L ≤ 2560) {dC : Nat → ClassId} {dI : Nat → Nat → Nat} {cI cJ cII cJJ : ClassId} {g : Nat} {adx adm : Nat → Nat} {i : Int32} (hi0 : 0 ≤ i.toInt) (hi1 : i.toInt + 5 ≤ (L : Int)) (K : ∀ z : Int32, z.toInt = i.toInt + 5 → LPd p l e s m below meth c b dC dI cI cJ cII cJJ adx adm z) (hK : va_K (dC, dI) vwCl (TY cI cJ cII cJJ) s) (hX : GXA 1 g (AA s) s) : ∀ (f3_unknowns f3_equations f2_roundSupports f2_stale f7_size f1_size f5_keptSize f5_aheadSize f0_solved f4_blockCount f4_blockLength f4_lastIsFree f4_stale : Int32) (aix : Nat → Nat → Int32) (alx : Nat → Nat → Int64) (w0 w1 w2 w3 : Nat) (f9_size f9_equations f9_areSteps f9_foundMany f9_many f9_rank f9_freeMany f9_arePlans f9_planMany : Int32) (aim : Nat → Nat → Int32) (alm : Nat → Nat → Int64) (H : Heap) (locs : List Loc) (ls : Array Slot), (1 ≤ f3_unknowns.toInt ∧ f3_unknowns.toInt ≤ 4) → (0 ≤ f3_equations.toInt ∧ f3_equations.toInt ≤ 3) → (0 ≤ f2_stale.toInt ∧ f2_stale.toInt ≤ 1) → (0 ≤ f7_size.toInt ∧ f7_size.toInt ≤ 256) → (0 ≤ f1_size.toInt ∧ f1_size.toInt ≤ 4) → (0 ≤ f5_keptSize.toInt ∧ f5_keptSize.toInt ≤ 128) → (0 ≤ f5_aheadSize.toInt ∧ f5_aheadSize.toInt ≤ 128) → (0 ≤ f4_blockCount.toInt ∧ f4_blockCount.toInt ≤ 9261) → (0 ≤ f4_blockLength.toInt ∧ f4_blockLength.toInt ≤ 21) → (0 ≤ f4_lastIsFree.toInt ∧ f4_lastIsFree.toInt ≤ 1) → (0 ≤ f4_stale.toInt ∧ f4_stale.toInt ≤ 1) → IAX aix → RWX adx w0 → RWX adx w1 → RWX adx w2 → RWX adx w3 → (1 ≤ f9_size.toInt ∧ f9_size.toInt ≤ 4) → (0 ≤ f9_equations.toInt ∧ f9_equations.toInt ≤ 3) → (0 ≤ f9_areSteps.toInt ∧ f9_areSteps.toInt ≤ 1) → (0 ≤ f9_foundMany.toInt ∧ f9_foundMany.toInt ≤ 99999) → (0 ≤ f9_many.toInt ∧ f9_many.toInt ≤ 6000) → (0 ≤ f9_rank.toInt ∧ f9_rank.toInt ≤ 3) → (0 ≤ f9_freeMany.toInt ∧ f9_freeMany.toInt ≤ 4) → (0 ≤ f9_arePlans.toInt ∧ f9_arePlans.toInt ≤ 1) → (0 ≤ f9_planMany.toInt ∧ f9_planMany.toInt ≤ 194481) → IAM aim → (f9_areSteps.toInt = 0 ∨ CIa aim f9_size f9_many.toInt) → f3_unknowns.toInt = f9_size.toInt → f3_equations.toInt = f9_equations.toInt → SDr aix aim f3_equations.toInt → TRr aix aim → va_P (dC, dI) vwCl ((WX cI cJ cII cJJ adx f3_unknowns f3_equations f2_roundSupports f2_stale f7_size f1_size f5_keptSize f5_aheadSize f0_solved f4_blockCount f4_blockLength f4_lastIsFree f4_stale aix alx w0 w1 w2 w3) ++ (WM cI cJ cII cJJ adm f9_size f9_equations f9_areSteps f9_foundMany f9_many f9_rank f9_freeMany f9_arePlans f9_planMany aim alm)) H → va_D (AA s) ((WX cI cJ cII cJJ adx f3_unknowns f3_equations f2_roundSupports f2_stale f7_size f1_size f5_keptSize f5_aheadSize f0_solved f4_blockCount f4_blockLength f4_lastIsFree f4_stale aix alx w0 w1 w2 w3) ++ (WM cI cJ cII cJJ adm f9_size f9_equations f9_areSteps f9_foundMany f9_many f9_rank f9_freeMany f9_arePlans f9_planMany aim alm)) → va_S (AA s) s.heap H locs → lv_has ls 4 [(3, .int i), (2, .ref (adm 22)), (1, .ref (adx 0)), (0, .ref b)] → W p l e room_1 s m #[Value.ref b] below meth c H locs 600000 7302250 (lw_Z below #[Value.ref b] s) (F0 m 632 ls []) := by
  obtain ⟨hx, hb, hr, hml, hown, hts0, hX0, hbl, hlocks, hgv⟩ := id C0
  have hts : ∀ w ∈ TT, w.before #[Value.ref b] s = true := fun w h => hts0 w (TT_tbl h)
  have hA : ∀ q : Nat, s.heap.size ≤ q → AA s q := fun _ h => h
  have hbA : ¬ AA s b := Nat.not_le.mpr hbl
  have hown : s.vm.findClass RL = some m.cls := hown
  intro f3_unknowns f3_equations f2_roundSupports f2_stale f7_size f1_size f5_keptSize f5_aheadSize f0_solved f4_blockCount f4_blockLength f4_lastIsFree f4_stale aix alx w0 w1 w2 w3 f9_size f9_equations f9_areSteps f9_foundMany f9_many f9_rank f9_freeMany f9_arePlans f9_planMany aim alm H locs ls h0 h1 h2 h3 h4 h5 h6 h7 h8 h9 h10 h11 h12 h13 h14 h15 h16 h17 h18 h19 h20 h21 h22 h23 h24 h25 h26 h27 h28 h29 h30 hP hD hS hl
  refine lv_aload_n hx hb dL_law_632 rfl (lv_at hl 2 rfl) ?_
  refine lv_aload_n hx hb dL_law_633 rfl (lv_at hl 3 rfl) ?_
  refine lv_iload_n hx hb dL_law_634 rfl (lv_at hl 0 rfl) ?_
  refine lv_iconst (v := 1) hx hb dL_law_635 (by decide) ?_
  refine v_iadd hx hb dL_law_636 _ rfl ?_
  refine lv_topi (fun z1 e_z1 => ?_)
  have g_z1 : z1.toInt = i.toInt + 1 := by rw [e_z1]; exact n_add (a := i.toInt) (b := 1) rfl (by decide +kernel) (by omega) (by omega)
  refine va_sld hx hb hX0 hbl hbA hS (j_in (a := z1.toInt) rfl (by omega) (by omega)) dL_law_637 ?_
  refine lv_topi (fun y2 e_y2 => ?_)
  have hM := m167_X8_kind l dC dI cI cJ cII cJJ H.size g adx f3_unknowns f3_equations f2_roundSupports f2_stale f7_size f1_size f5_keptSize f5_aheadSize f0_solved f4_blockCount f4_blockLength f4_lastIsFree f4_stale aix alx w0 w1 w2 w3 y2 (by omega) (by omega) (by omega) (by omega) (by omega) (by omega) (by omega) (by omega) (by omega) (by omega) (by omega) h11 h12 h13 h14 h15
  refine k3V_i (q0 := 0) ⟨hx, hb, hml, hown, hts⟩ hK hP hD hS hA hX cv_RL_69 [0, 1, 2, 3, 4, 5, 6, 7, 8, 9, 10, 11, 12, 13, 14, 15, 16, 17, 18, 19, 20, 21, 22, 23, 24, 25, 26, 27, 28, 29, 30, 31, 32, 33, 34, 35, 36, 37, 38, 39, 40, 41, 42, 43, 44, 45, 46, 47, 48, 49, 50, 51, 52, 53, 54, 55, 56, 57, 58, 59, 60, 61, 62, 63] [64, 65, 66, 67, 68, 69, 70, 71, 72, 73, 74, 75, 76, 77, 78, 79, 80, 81, 82, 83, 84, 85, 86, 87, 88, 89, 90, 91] (wr := (WM cI cJ cII cJJ adm f9_size f9_equations f9_areSteps f9_foundMany f9_many f9_rank f9_freeMany f9_arePlans f9_planMany aim alm)) rfl rfl rfl rfl (by decide) hM ⟨by decide +kernel, by decide +kernel⟩ rfl rfl (Or.inr ⟨rfl, rfl, rfl⟩) (rest := []) rfl rfl rfl hl.1 rfl (Nat.le_of_ble_eq_true rfl) dL_law_638 ⟨Nat.le_of_ble_eq_true rfl, Nat.le_of_ble_eq_true rfl⟩ (fun r3 t H1 locs ht hB hj hS => ?_)
  obtain ⟨v5, v6, v7, v8, v9, v10, v11, ai12, al13, w14, w15, w16, w17, ⟨pr3_0, pr3_1, pr3_2, pr3_3, pr3_4, pr3_5, pr3_6, pr3_7, pr3_8, pr3_9, pr3_10, pr3_11, pr3_12⟩, hP1, -, hD1⟩ := hB
  rw [ht] at hP1
  obtain ⟨hP, hD⟩ := hj _ hP1 hD1
  clear ht hj hP1 hD1 hM
  generalize H1 = H4 at hP hS ⊢
  refine lv_pop hx hb dL_law_641 rfl ?_
  refine lv_aload_n hx hb dL_law_642 rfl (lv_at hl 1 rfl) ?_
  refine lv_aload_n hx hb dL_law_643 rfl (lv_at hl 3 rfl) ?_
  refine lv_iload_n hx hb dL_law_644 rfl (lv_at hl 0 rfl) ?_
  refine lv_iconst (v := 1) hx hb dL_law_645 (by decide) ?_
  refine v_iadd hx hb dL_law_646 _ rfl ?_
  refine lv_topi (fun z18 e_z18 => ?_)
  have g_z18 : z18.toInt = i.toInt + 1 := by rw [e_z18]; exact n_add (a := i.toInt) (b := 1) rfl (by decide +kernel) (by omega) (by omega)
  refine va_sld hx hb hX0 hbl hbA hS (j_in (a := z18.toInt) rfl (by omega) (by omega)) dL_law_647 ?_
  refine lv_topi (fun y19 e_y19 => ?_)
  have q_y19 : y2 = y19 := by rw [e_y2, e_y19, e_z1, e_z18]
  clear e_y19
  subst q_y19
  have hM := r053_X9_kind l dC dI cI cJ cII cJJ H4.size 0 adm f9_size f9_equations f9_areSteps f9_foundMany f9_many f9_rank f9_freeMany f9_arePlans f9_planMany aim alm y2 (by omega) (by omega) (by omega) (by omega) (by omega) (by omega) (by omega) (by omega) (by omega) h26 h25
  refine k3V_i (q0 := 22) ⟨hx, hb, hml, hown, hts⟩ hK hP hD hS hA hX cv_RL_72 [0, 1, 2, 3, 4, 5, 6, 7, 8, 9, 10, 11, 12, 13, 14, 15, 16, 17, 18, 19, 20, 21, 22, 23, 24, 25, 26, 27] [28, 29, 30, 31, 32, 33, 34, 35, 36, 37, 38, 39, 40, 41, 42, 43, 44, 45, 46, 47, 48, 49, 50, 51, 52, 53, 54, 55, 56, 57, 58, 59, 60, 61, 62, 63, 64, 65, 66, 67, 68, 69, 70, 71, 72, 73, 74, 75, 76, 77, 78, 79, 80, 81, 82, 83, 84, 85, 86, 87, 88, 89, 90, 91] (wr := (WX cI cJ cII cJJ adx f3_unknowns f3_equations v5 v6 v7 v8 v9 v10 v11 f4_blockCount f4_blockLength f4_lastIsFree f4_stale ai12 al13 w14 w15 w16 w17)) rfl rfl rfl rfl (by decide) hM ⟨by decide +kernel, by decide +kernel⟩ rfl rfl (Or.inl rfl) (rest := []) rfl rfl rfl hl.1 rfl (Nat.le_of_ble_eq_true rfl) dL_law_648 ⟨Nat.le_of_ble_eq_true rfl, Nat.le_of_ble_eq_true rfl⟩ (fun r20 t H1 locs ht hB hj hS => ?_)
  obtain ⟨v22, v23, v24, v25, v26, ai27, al28, ⟨pr20_0, pr20_1, pr20_2, pr20_3, pr20_4, pr20_5, pr20_6, pr20_7, pr20_8, pr20_9⟩, hP1, -, hD1⟩ := hB
  rw [ht] at hP1
  obtain ⟨hP, hD⟩ := hj _ hP1 hD1
  clear ht hj hP1 hD1 hM
  generalize H1 = H21 at hP hS ⊢
  refine lv_pop hx hb dL_law_651 rfl ?_
  refine lv_goto (tgt := 1072) hx hb dL_law_652 (by decide) ?_
  obtain ⟨z, e_z⟩ : ∃ q : Int32, q = i + Int32.ofInt 5 := ⟨_, rfl⟩
  have g_z : z.toInt = i.toInt + 5 := by rw [e_z]; exact n_add (a := i.toInt) (b := 5) rfl (by decide +kernel) (by omega) (by omega)
  refine lv_iinc (v := z) (lv' := [(3, .int z), (2, .ref (adm 22)), (1, .ref (adx 0)), (0, .ref b)]) hx hb dL_law_1072 hl (k := 0) rfl e_z.symm (by decide) rfl (fun ls hl => ?_)
  refine lv_goto (tgt := 18) hx hb dL_law_1075 (by decide) ?_
  exact K z g_z f3_unknowns f3_equations v5 v6 v7 v8 v9 v10 v11 f4_blockCount f4_blockLength f4_lastIsFree f4_stale ai12 al13 w14 w15 w16 w17 f9_size f9_equations v22 v23 v24 v25 v26 f9_arePlans f9_planMany ai27 al28 _ _ _ (by omega) (by omega) (by omega) (by omega) (by omega) (by omega) (by omega) (by omega) (by omega) (by omega) (by omega) pr3_6 pr3_9 pr3_10 pr3_11 pr3_12 (by omega) (by omega) (by omega) (by omega) (by omega) (by omega) (by omega) (by omega) (by omega) pr20_7 pr20_6 (by omega) (by omega) (SDr_m (SDr_x h29 pr3_7 (by decide)) pr20_8 (by decide)) (TRr_m (TRr_x h30 pr3_7 (by decide)) pr20_8 (by decide)) hP hD hS hl
set_option maxRecDepth 100000 in
set_option maxHeartbeats 4000000 in
theorem lc_13 {p : Program} {e : Env} {s : State} {m : MethodId} {below : List Frame} {meth : Method} {c : Code} (l : Launch) {b L : Nat} {xs : Nat → Int32} (C0 : lw_At p s m meth c b L xs) (hL : L ≤ 2560) {dC : Nat → ClassId} {dI : Nat → Nat → Nat} {cI cJ cII cJJ : ClassId} {g : Nat} {adx adm : Nat → Nat} {i : Int32} (hi0 : 0 ≤ i.toInt) (hi1 : i.toInt + 5 ≤ (L : Int)) (K : ∀ z : Int32, z.toInt = i.toInt + 5 → LPd p l e s m below meth c b dC dI cI cJ cII cJJ adx adm z) (hK : va_K (dC, dI) vwCl (TY cI cJ cII cJJ) s) (hX : GXA 1 g (AA s) s) : ∀ (f3_unknowns f3_equations f2_roundSupports f2_stale f7_size f1_size f5_keptSize f5_aheadSize f0_solved f4_blockCount f4_blockLength f4_lastIsFree f4_stale : Int32) (aix : Nat → Nat → Int32) (alx : Nat → Nat → Int64) (w0 w1 w2 w3 : Nat) (f9_size f9_equations f9_areSteps f9_foundMany f9_many f9_rank f9_freeMany f9_arePlans f9_planMany : Int32) (aim : Nat → Nat → Int32) (alm : Nat → Nat → Int64) (H : Heap) (locs : List Loc) (ls : Array Slot), (1 ≤ f3_unknowns.toInt ∧ f3_unknowns.toInt ≤ 4) → (0 ≤ f3_equations.toInt ∧ f3_equations.toInt ≤ 3) → (0 ≤ f2_stale.toInt ∧ f2_stale.toInt ≤ 1) → (0 ≤ f7_size.toInt ∧ f7_size.toInt ≤ 256) → (0 ≤ f1_size.toInt ∧ f1_size.toInt ≤ 4) → (0 ≤ f5_keptSize.toInt ∧ f5_keptSize.toInt ≤ 128) → (0 ≤ f5_aheadSize.toInt ∧ f5_aheadSize.toInt ≤ 128) → (0 ≤ f4_blockCount.toInt ∧ f4_blockCount.toInt ≤ 9261) → (0 ≤ f4_blockLength.toInt ∧ f4_blockLength.toInt ≤ 21) → (0 ≤ f4_lastIsFree.toInt ∧ f4_lastIsFree.toInt ≤ 1) → (0 ≤ f4_stale.toInt ∧ f4_stale.toInt ≤ 1) → IAX aix → RWX adx w0 → RWX adx w1 → RWX adx w2 → RWX adx w3 → (1 ≤ f9_size.toInt ∧ f9_size.toInt ≤ 4) → (0 ≤ f9_equations.toInt ∧ f9_equations.toInt ≤ 3) → (0 ≤ f9_areSteps.toInt ∧ f9_areSteps.toInt ≤ 1) → (0 ≤ f9_foundMany.toInt ∧ f9_foundMany.toInt ≤ 99999) → (0 ≤ f9_many.toInt ∧ f9_many.toInt ≤ 6000) → (0 ≤ f9_rank.toInt ∧ f9_rank.toInt ≤ 3) → (0 ≤ f9_freeMany.toInt ∧ f9_freeMany.toInt ≤ 4) → (0 ≤ f9_arePlans.toInt ∧ f9_arePlans.toInt ≤ 1) → (0 ≤ f9_planMany.toInt ∧ f9_planMany.toInt ≤ 194481) → IAM aim → (f9_areSteps.toInt = 0 ∨ CIa aim f9_size f9_many.toInt) → f3_unknowns.toInt = f9_size.toInt → f3_equations.toInt = f9_equations.toInt → SDr aix aim f3_equations.toInt → TRr aix aim → va_P (dC, dI) vwCl ((WX cI cJ cII cJJ adx f3_unknowns f3_equations f2_roundSupports f2_stale f7_size f1_size f5_keptSize f5_aheadSize f0_solved f4_blockCount f4_blockLength f4_lastIsFree f4_stale aix alx w0 w1 w2 w3) ++ (WM cI cJ cII cJJ adm f9_size f9_equations f9_areSteps f9_foundMany f9_many f9_rank f9_freeMany f9_arePlans f9_planMany aim alm)) H → va_D (AA s) ((WX cI cJ cII cJJ adx f3_unknowns f3_equations f2_roundSupports f2_stale f7_size f1_size f5_keptSize f5_aheadSize f0_solved f4_blockCount f4_blockLength f4_lastIsFree f4_stale aix alx w0 w1 w2 w3) ++ (WM cI cJ cII cJJ adm f9_size f9_equations f9_areSteps f9_foundMany f9_many f9_rank f9_freeMany f9_arePlans f9_planMany aim alm)) → va_S (AA s) s.heap H locs → lv_has ls 4 [(3, .int i), (2, .ref (adm 22)), (1, .ref (adx 0)), (0, .ref b)] → W p l e room_1 s m #[Value.ref b] below meth c H locs 600000 7302250 (lw_Z below #[Value.ref b] s) (F0 m 655 ls []) := by
  obtain ⟨hx, hb, hr, hml, hown, hts0, hX0, hbl, hlocks, hgv⟩ := id C0
  have hts : ∀ w ∈ TT, w.before #[Value.ref b] s = true := fun w h => hts0 w (TT_tbl h)
  have hA : ∀ q : Nat, s.heap.size ≤ q → AA s q := fun _ h => h
  have hbA : ¬ AA s b := Nat.not_le.mpr hbl
  have hown : s.vm.findClass RL = some m.cls := hown
  intro f3_unknowns f3_equations f2_roundSupports f2_stale f7_size f1_size f5_keptSize f5_aheadSize f0_solved f4_blockCount f4_blockLength f4_lastIsFree f4_stale aix alx w0 w1 w2 w3 f9_size f9_equations f9_areSteps f9_foundMany f9_many f9_rank f9_freeMany f9_arePlans f9_planMany aim alm H locs ls h0 h1 h2 h3 h4 h5 h6 h7 h8 h9 h10 h11 h12 h13 h14 h15 h16 h17 h18 h19 h20 h21 h22 h23 h24 h25 h26 h27 h28 h29 h30 hP hD hS hl
  refine lv_aload_n hx hb dL_law_655 rfl (lv_at hl 2 rfl) ?_
  refine lv_aload_n hx hb dL_law_656 rfl (lv_at hl 3 rfl) ?_
  refine lv_iload_n hx hb dL_law_657 rfl (lv_at hl 0 rfl) ?_
  refine lv_iconst (v := 1) hx hb dL_law_658 (by decide) ?_
  refine v_iadd hx hb dL_law_659 _ rfl ?_
  refine lv_topi (fun z1 e_z1 => ?_)
  have g_z1 : z1.toInt = i.toInt + 1 := by rw [e_z1]; exact n_add (a := i.toInt) (b := 1) rfl (by decide +kernel) (by omega) (by omega)
  refine va_sld hx hb hX0 hbl hbA hS (j_in (a := z1.toInt) rfl (by omega) (by omega)) dL_law_660 ?_
  refine lv_topi (fun y2 e_y2 => ?_)
  have hM := m168_X8_back l dC dI cI cJ cII cJJ H.size g adx f3_unknowns f3_equations f2_roundSupports f2_stale f7_size f1_size f5_keptSize f5_aheadSize f0_solved f4_blockCount f4_blockLength f4_lastIsFree f4_stale aix alx w0 w1 w2 w3 y2 (by omega) (by omega) (by omega) (by omega) (by omega) (by omega) (by omega) (by omega) (by omega) (by omega) (by omega) h11 h12 h13 h14 h15
  refine k3V_i (q0 := 0) ⟨hx, hb, hml, hown, hts⟩ hK hP hD hS hA hX cv_RL_73 [0, 1, 2, 3, 4, 5, 6, 7, 8, 9, 10, 11, 12, 13, 14, 15, 16, 17, 18, 19, 20, 21, 22, 23, 24, 25, 26, 27, 28, 29, 30, 31, 32, 33, 34, 35, 36, 37, 38, 39, 40, 41, 42, 43, 44, 45, 46, 47, 48, 49, 50, 51, 52, 53, 54, 55, 56, 57, 58, 59, 60, 61, 62, 63] [64, 65, 66, 67, 68, 69, 70, 71, 72, 73, 74, 75, 76, 77, 78, 79, 80, 81, 82, 83, 84, 85, 86, 87, 88, 89, 90, 91] (wr := (WM cI cJ cII cJJ adm f9_size f9_equations f9_areSteps f9_foundMany f9_many f9_rank f9_freeMany f9_arePlans f9_planMany aim alm)) rfl rfl rfl rfl (by decide) hM ⟨by decide +kernel, by decide +kernel⟩ rfl rfl (Or.inr ⟨rfl, rfl, rfl⟩) (rest := []) rfl rfl rfl hl.1 rfl (Nat.le_of_ble_eq_true rfl) dL_law_661 ⟨Nat.le_of_ble_eq_true rfl, Nat.le_of_ble_eq_true rfl⟩ (fun r3 t H1 locs ht hB hj hS => ?_)
  obtain ⟨v5, v6, v7, v8, v9, v10, v11, ai12, al13, w14, w15, w16, w17, ⟨pr3_0, pr3_1, pr3_2, pr3_3, pr3_4, pr3_5, pr3_6, pr3_7, pr3_8, pr3_9, pr3_10, pr3_11⟩, hP1, -, hD1⟩ := hB
  rw [ht] at hP1
  obtain ⟨hP, hD⟩ := hj _ hP1 hD1
  clear ht hj hP1 hD1 hM
  generalize H1 = H4 at hP hS ⊢
  refine lv_pop hx hb dL_law_664 rfl ?_
  refine lv_aload_n hx hb dL_law_665 rfl (lv_at hl 1 rfl) ?_
  refine lv_aload_n hx hb dL_law_666 rfl (lv_at hl 3 rfl) ?_
  refine lv_iload_n hx hb dL_law_667 rfl (lv_at hl 0 rfl) ?_
  refine lv_iconst (v := 1) hx hb dL_law_668 (by decide) ?_
  refine v_iadd hx hb dL_law_669 _ rfl ?_
  refine lv_topi (fun z18 e_z18 => ?_)
  have g_z18 : z18.toInt = i.toInt + 1 := by rw [e_z18]; exact n_add (a := i.toInt) (b := 1) rfl (by decide +kernel) (by omega) (by omega)
  refine va_sld hx hb hX0 hbl hbA hS (j_in (a := z18.toInt) rfl (by omega) (by omega)) dL_law_670 ?_
  refine lv_topi (fun y19 e_y19 => ?_)
  have q_y19 : y2 = y19 := by rw [e_y2, e_y19, e_z1, e_z18]
  clear e_y19
  subst q_y19
  have hM := r054_X9_back l dC dI cI cJ cII cJJ H4.size 0 adm f9_size f9_equations f9_areSteps f9_foundMany f9_many f9_rank f9_freeMany f9_arePlans f9_planMany aim alm y2 (by omega) (by omega) (by omega) (by omega) (by omega) (by omega) (by omega) (by omega) (by omega) h26 h25
  refine k3V_i (q0 := 22) ⟨hx, hb, hml, hown, hts⟩ hK hP hD hS hA hX cv_RL_76 [0, 1, 2, 3, 4, 5, 6, 7, 8, 9, 10, 11, 12, 13, 14, 15, 16, 17, 18, 19, 20, 21, 22, 23, 24, 25, 26, 27] [28, 29, 30, 31, 32, 33, 34, 35, 36, 37, 38, 39, 40, 41, 42, 43, 44, 45, 46, 47, 48, 49, 50, 51, 52, 53, 54, 55, 56, 57, 58, 59, 60, 61, 62, 63, 64, 65, 66, 67, 68, 69, 70, 71, 72, 73, 74, 75, 76, 77, 78, 79, 80, 81, 82, 83, 84, 85, 86, 87, 88, 89, 90, 91] (wr := (WX cI cJ cII cJJ adx f3_unknowns f3_equations v5 v6 v7 v8 v9 v10 v11 f4_blockCount f4_blockLength f4_lastIsFree f4_stale ai12 al13 w14 w15 w16 w17)) rfl rfl rfl rfl (by decide) hM ⟨by decide +kernel, by decide +kernel⟩ rfl rfl (Or.inl rfl) (rest := []) rfl rfl rfl hl.1 rfl (Nat.le_of_ble_eq_true rfl) dL_law_671 ⟨Nat.le_of_ble_eq_true rfl, Nat.le_of_ble_eq_true rfl⟩ (fun r20 t H1 locs ht hB hj hS => ?_)
  obtain ⟨v22, v23, v24, v25, v26, ai27, al28, ⟨pr20_0, pr20_1, pr20_2, pr20_3, pr20_4, pr20_5, pr20_6, pr20_7, pr20_8, pr20_9⟩, hP1, -, hD1⟩ := hB
  rw [ht] at hP1
  obtain ⟨hP, hD⟩ := hj _ hP1 hD1
  clear ht hj hP1 hD1 hM
  generalize H1 = H21 at hP hS ⊢
  refine lv_pop hx hb dL_law_674 rfl ?_
  refine lv_goto (tgt := 1072) hx hb dL_law_675 (by decide) ?_
  obtain ⟨z, e_z⟩ : ∃ q : Int32, q = i + Int32.ofInt 5 := ⟨_, rfl⟩
  have g_z : z.toInt = i.toInt + 5 := by rw [e_z]; exact n_add (a := i.toInt) (b := 5) rfl (by decide +kernel) (by omega) (by omega)
  refine lv_iinc (v := z) (lv' := [(3, .int z), (2, .ref (adm 22)), (1, .ref (adx 0)), (0, .ref b)]) hx hb dL_law_1072 hl (k := 0) rfl e_z.symm (by decide) rfl (fun ls hl => ?_)
  refine lv_goto (tgt := 18) hx hb dL_law_1075 (by decide) ?_
  exact K z g_z f3_unknowns f3_equations v5 v6 v7 v8 v9 v10 v11 f4_blockCount f4_blockLength f4_lastIsFree f4_stale ai12 al13 w14 w15 w16 w17 f9_size f9_equations v22 v23 v24 v25 v26 f9_arePlans f9_planMany ai27 al28 _ _ _ (by omega) (by omega) (by omega) (by omega) (by omega) (by omega) (by omega) (by omega) (by omega) (by omega) (by omega) pr3_5 pr3_8 pr3_9 pr3_10 pr3_11 (by omega) (by omega) (by omega) (by omega) (by omega) (by omega) (by omega) (by omega) (by omega) pr20_7 pr20_6 (by omega) (by omega) (SDr_m (SDr_x h29 pr3_6 (by decide)) pr20_8 (by decide)) (TRr_m (TRr_x h30 pr3_6 (by decide)) pr20_8 (by decide)) hP hD hS hl
set_option maxRecDepth 100000 in
set_option maxHeartbeats 4000000 in
theorem lc_14 {p : Program} {e : Env} {s : State} {m : MethodId} {below : List Frame} {meth : Method} {c : Code} (l : Launch) {b L : Nat} {xs : Nat → Int32} (C0 : lw_At p s m meth c b L xs) (hL : L ≤ 2560) {dC : Nat → ClassId} {dI : Nat → Nat → Nat} {cI cJ cII cJJ : ClassId} {g : Nat} {adx adm : Nat → Nat} {i : Int32} (hi0 : 0 ≤ i.toInt) (hi1 : i.toInt + 5 ≤ (L : Int)) (K : ∀ z : Int32, z.toInt = i.toInt + 5 → LPd p l e s m below meth c b dC dI cI cJ cII cJJ adx adm z) (hK : va_K (dC, dI) vwCl (TY cI cJ cII cJJ) s) (hX : GXA 1 g (AA s) s) : ∀ (f3_unknowns f3_equations f2_roundSupports f2_stale f7_size f1_size f5_keptSize f5_aheadSize f0_solved f4_blockCount f4_blockLength f4_lastIsFree f4_stale : Int32) (aix : Nat → Nat → Int32) (alx : Nat → Nat → Int64) (w0 w1 w2 w3 : Nat) (f9_size f9_equations f9_areSteps f9_foundMany f9_many f9_rank f9_freeMany f9_arePlans f9_planMany : Int32) (aim : Nat → Nat → Int32) (alm : Nat → Nat → Int64) (H : Heap) (locs : List Loc) (ls : Array Slot), (1 ≤ f3_unknowns.toInt ∧ f3_unknowns.toInt ≤ 4) → (0 ≤ f3_equations.toInt ∧ f3_equations.toInt ≤ 3) → (0 ≤ f2_stale.toInt ∧ f2_stale.toInt ≤ 1) → (0 ≤ f7_size.toInt ∧ f7_size.toInt ≤ 256) → (0 ≤ f1_size.toInt ∧ f1_size.toInt ≤ 4) → (0 ≤ f5_keptSize.toInt ∧ f5_keptSize.toInt ≤ 128) → (0 ≤ f5_aheadSize.toInt ∧ f5_aheadSize.toInt ≤ 128) → (0 ≤ f4_blockCount.toInt ∧ f4_blockCount.toInt ≤ 9261) → (0 ≤ f4_blockLength.toInt ∧ f4_blockLength.toInt ≤ 21) → (0 ≤ f4_lastIsFree.toInt ∧ f4_lastIsFree.toInt ≤ 1) → (0 ≤ f4_stale.toInt ∧ f4_stale.toInt ≤ 1) → IAX aix → RWX adx w0 → RWX adx w1 → RWX adx w2 → RWX adx w3 → (1 ≤ f9_size.toInt ∧ f9_size.toInt ≤ 4) → (0 ≤ f9_equations.toInt ∧ f9_equations.toInt ≤ 3) → (0 ≤ f9_areSteps.toInt ∧ f9_areSteps.toInt ≤ 1) → (0 ≤ f9_foundMany.toInt ∧ f9_foundMany.toInt ≤ 99999) → (0 ≤ f9_many.toInt ∧ f9_many.toInt ≤ 6000) → (0 ≤ f9_rank.toInt ∧ f9_rank.toInt ≤ 3) → (0 ≤ f9_freeMany.toInt ∧ f9_freeMany.toInt ≤ 4) → (0 ≤ f9_arePlans.toInt ∧ f9_arePlans.toInt ≤ 1) → (0 ≤ f9_planMany.toInt ∧ f9_planMany.toInt ≤ 194481) → IAM aim → (f9_areSteps.toInt = 0 ∨ CIa aim f9_size f9_many.toInt) → f3_unknowns.toInt = f9_size.toInt → f3_equations.toInt = f9_equations.toInt → SDr aix aim f3_equations.toInt → TRr aix aim → va_P (dC, dI) vwCl ((WX cI cJ cII cJJ adx f3_unknowns f3_equations f2_roundSupports f2_stale f7_size f1_size f5_keptSize f5_aheadSize f0_solved f4_blockCount f4_blockLength f4_lastIsFree f4_stale aix alx w0 w1 w2 w3) ++ (WM cI cJ cII cJJ adm f9_size f9_equations f9_areSteps f9_foundMany f9_many f9_rank f9_freeMany f9_arePlans f9_planMany aim alm)) H → va_D (AA s) ((WX cI cJ cII cJJ adx f3_unknowns f3_equations f2_roundSupports f2_stale f7_size f1_size f5_keptSize f5_aheadSize f0_solved f4_blockCount f4_blockLength f4_lastIsFree f4_stale aix alx w0 w1 w2 w3) ++ (WM cI cJ cII cJJ adm f9_size f9_equations f9_areSteps f9_foundMany f9_many f9_rank f9_freeMany f9_arePlans f9_planMany aim alm)) → va_S (AA s) s.heap H locs → lv_has ls 4 [(3, .int i), (2, .ref (adm 22)), (1, .ref (adx 0)), (0, .ref b)] → W p l e room_1 s m #[Value.ref b] below meth c H locs 600000 7302250 (lw_Z below #[Value.ref b] s) (F0 m 678 ls []) := by
  obtain ⟨hx, hb, hr, hml, hown, hts0, hX0, hbl, hlocks, hgv⟩ := id C0
  have hts : ∀ w ∈ TT, w.before #[Value.ref b] s = true := fun w h => hts0 w (TT_tbl h)
  have hA : ∀ q : Nat, s.heap.size ≤ q → AA s q := fun _ h => h
  have hbA : ¬ AA s b := Nat.not_le.mpr hbl
  have hown : s.vm.findClass RL = some m.cls := hown
  intro f3_unknowns f3_equations f2_roundSupports f2_stale f7_size f1_size f5_keptSize f5_aheadSize f0_solved f4_blockCount f4_blockLength f4_lastIsFree f4_stale aix alx w0 w1 w2 w3 f9_size f9_equations f9_areSteps f9_foundMany f9_many f9_rank f9_freeMany f9_arePlans f9_planMany aim alm H locs ls h0 h1 h2 h3 h4 h5 h6 h7 h8 h9 h10 h11 h12 h13 h14 h15 h16 h17 h18 h19 h20 h21 h22 h23 h24 h25 h26 h27 h28 h29 h30 hP hD hS hl
  refine lv_aload_n hx hb dL_law_678 rfl (lv_at hl 2 rfl) ?_
  refine lv_aload_n hx hb dL_law_679 rfl (lv_at hl 3 rfl) ?_
  refine lv_iload_n hx hb dL_law_680 rfl (lv_at hl 0 rfl) ?_
  refine lv_iconst (v := 1) hx hb dL_law_681 (by decide) ?_
  refine v_iadd hx hb dL_law_682 _ rfl ?_
  refine lv_topi (fun z1 e_z1 => ?_)
  have g_z1 : z1.toInt = i.toInt + 1 := by rw [e_z1]; exact n_add (a := i.toInt) (b := 1) rfl (by decide +kernel) (by omega) (by omega)
  refine va_sld hx hb hX0 hbl hbA hS (j_in (a := z1.toInt) rfl (by omega) (by omega)) dL_law_683 ?_
  refine lv_topi (fun y2 e_y2 => ?_)
  refine lv_aload_n hx hb dL_law_684 rfl (lv_at hl 3 rfl) ?_
  refine lv_iload_n hx hb dL_law_685 rfl (lv_at hl 0 rfl) ?_
  refine lv_iconst (v := 2) hx hb dL_law_686 (by decide) ?_
  refine v_iadd hx hb dL_law_687 _ rfl ?_
  refine lv_topi (fun z3 e_z3 => ?_)
  have g_z3 : z3.toInt = i.toInt + 2 := by rw [e_z3]; exact n_add (a := i.toInt) (b := 2) rfl (by decide +kernel) (by omega) (by omega)
  refine va_sld hx hb hX0 hbl hbA hS (j_in (a := z3.toInt) rfl (by omega) (by omega)) dL_law_688 ?_
  refine lv_topi (fun y4 e_y4 => ?_)
  have hM := m057_X8_hand l dC dI cI cJ cII cJJ H.size 0 adx f3_unknowns f3_equations f2_roundSupports f2_stale f7_size f1_size f5_keptSize f5_aheadSize f0_solved f4_blockCount f4_blockLength f4_lastIsFree f4_stale aix alx w0 w1 w2 w3 y2 y4 (by omega) (by omega) (by omega) (by omega) (by omega) (by omega) (by omega) (by omega) (by omega) (by omega) (by omega) h11 h12 h13 h14 h15
  refine k3V_i (q0 := 0) ⟨hx, hb, hml, hown, hts⟩ hK hP hD hS hA hX cv_RL_77 [0, 1, 2, 3, 4, 5, 6, 7, 8, 9, 10, 11, 12, 13, 14, 15, 16, 17, 18, 19, 20, 21, 22, 23, 24, 25, 26, 27, 28, 29, 30, 31, 32, 33, 34, 35, 36, 37, 38, 39, 40, 41, 42, 43, 44, 45, 46, 47, 48, 49, 50, 51, 52, 53, 54, 55, 56, 57, 58, 59, 60, 61, 62, 63] [64, 65, 66, 67, 68, 69, 70, 71, 72, 73, 74, 75, 76, 77, 78, 79, 80, 81, 82, 83, 84, 85, 86, 87, 88, 89, 90, 91] (wr := (WM cI cJ cII cJJ adm f9_size f9_equations f9_areSteps f9_foundMany f9_many f9_rank f9_freeMany f9_arePlans f9_planMany aim alm)) rfl rfl rfl rfl (by decide) hM ⟨by decide +kernel, by decide +kernel⟩ rfl rfl (Or.inl rfl) (rest := []) rfl rfl rfl hl.1 rfl (Nat.le_of_ble_eq_true rfl) dL_law_689 ⟨Nat.le_of_ble_eq_true rfl, Nat.le_of_ble_eq_true rfl⟩ (fun r5 t H1 locs ht hB hj hS => ?_)
  obtain ⟨ai7, ⟨pr5_0, pr5_1⟩, hP1, -, hD1⟩ := hB
  rw [ht] at hP1
  obtain ⟨hP, hD⟩ := hj _ hP1 hD1
  clear ht hj hP1 hD1 hM
  generalize H1 = H6 at hP hS ⊢
  refine lv_pop hx hb dL_law_692 rfl ?_
  refine lv_aload_n hx hb dL_law_693 rfl (lv_at hl 1 rfl) ?_
  refine lv_aload_n hx hb dL_law_694 rfl (lv_at hl 3 rfl) ?_
  refine lv_iload_n hx hb dL_law_695 rfl (lv_at hl 0 rfl) ?_
  refine lv_iconst (v := 1) hx hb dL_law_696 (by decide) ?_
  refine v_iadd hx hb dL_law_697 _ rfl ?_
  refine lv_topi (fun z8 e_z8 => ?_)
  have g_z8 : z8.toInt = i.toInt + 1 := by rw [e_z8]; exact n_add (a := i.toInt) (b := 1) rfl (by decide +kernel) (by omega) (by omega)
  refine va_sld hx hb hX0 hbl hbA hS (j_in (a := z8.toInt) rfl (by omega) (by omega)) dL_law_698 ?_
  refine lv_topi (fun y9 e_y9 => ?_)
  have q_y9 : y2 = y9 := by rw [e_y2, e_y9, e_z1, e_z8]
  clear e_y9
  subst q_y9
  refine lv_aload_n hx hb dL_law_699 rfl (lv_at hl 3 rfl) ?_
  refine lv_iload_n hx hb dL_law_700 rfl (lv_at hl 0 rfl) ?_
  refine lv_iconst (v := 2) hx hb dL_law_701 (by decide) ?_
  refine v_iadd hx hb dL_law_702 _ rfl ?_
  refine lv_topi (fun z10 e_z10 => ?_)
  have g_z10 : z10.toInt = i.toInt + 2 := by rw [e_z10]; exact n_add (a := i.toInt) (b := 2) rfl (by decide +kernel) (by omega) (by omega)
  refine va_sld hx hb hX0 hbl hbA hS (j_in (a := z10.toInt) rfl (by omega) (by omega)) dL_law_703 ?_
  refine lv_topi (fun y11 e_y11 => ?_)
  have q_y11 : y4 = y11 := by rw [e_y4, e_y11, e_z3, e_z10]
  clear e_y11
  subst q_y11
  have hM := r055_X9_hand l dC dI cI cJ cII cJJ H6.size 0 adm f9_size f9_equations f9_areSteps f9_foundMany f9_many f9_rank f9_freeMany f9_arePlans f9_planMany aim alm y2 y4 (by omega) (by omega) (by omega) (by omega) (by omega) (by omega) (by omega) (by omega) (by omega) h26 h25
  refine k3V_i (q0 := 22) ⟨hx, hb, hml, hown, hts⟩ hK hP hD hS hA hX cv_RL_80 [0, 1, 2, 3, 4, 5, 6, 7, 8, 9, 10, 11, 12, 13, 14, 15, 16, 17, 18, 19, 20, 21, 22, 23, 24, 25, 26, 27] [28, 29, 30, 31, 32, 33, 34, 35, 36, 37, 38, 39, 40, 41, 42, 43, 44, 45, 46, 47, 48, 49, 50, 51, 52, 53, 54, 55, 56, 57, 58, 59, 60, 61, 62, 63, 64, 65, 66, 67, 68, 69, 70, 71, 72, 73, 74, 75, 76, 77, 78, 79, 80, 81, 82, 83, 84, 85, 86, 87, 88, 89, 90, 91] (wr := (WX cI cJ cII cJJ adx f3_unknowns f3_equations f2_roundSupports f2_stale f7_size f1_size f5_keptSize f5_aheadSize f0_solved f4_blockCount f4_blockLength f4_lastIsFree f4_stale ai7 alx w0 w1 w2 w3)) rfl rfl rfl rfl (by decide) hM ⟨by decide +kernel, by decide +kernel⟩ rfl rfl (Or.inl rfl) (rest := []) rfl rfl rfl hl.1 rfl (Nat.le_of_ble_eq_true rfl) dL_law_704 ⟨Nat.le_of_ble_eq_true rfl, Nat.le_of_ble_eq_true rfl⟩ (fun r12 t H1 locs ht hB hj hS => ?_)
  obtain ⟨ai14, ⟨pr12_0, pr12_1, pr12_2⟩, hP1, -, hD1⟩ := hB
  rw [ht] at hP1
  obtain ⟨hP, hD⟩ := hj _ hP1 hD1
  clear ht hj hP1 hD1 hM
  generalize H1 = H13 at hP hS ⊢
  refine lv_pop hx hb dL_law_707 rfl ?_
  refine lv_goto (tgt := 1072) hx hb dL_law_708 (by decide) ?_
  obtain ⟨z, e_z⟩ : ∃ q : Int32, q = i + Int32.ofInt 5 := ⟨_, rfl⟩
  have g_z : z.toInt = i.toInt + 5 := by rw [e_z]; exact n_add (a := i.toInt) (b := 5) rfl (by decide +kernel) (by omega) (by omega)
  refine lv_iinc (v := z) (lv' := [(3, .int z), (2, .ref (adm 22)), (1, .ref (adx 0)), (0, .ref b)]) hx hb dL_law_1072 hl (k := 0) rfl e_z.symm (by decide) rfl (fun ls hl => ?_)
  refine lv_goto (tgt := 18) hx hb dL_law_1075 (by decide) ?_
  exact K z g_z f3_unknowns f3_equations f2_roundSupports f2_stale f7_size f1_size f5_keptSize f5_aheadSize f0_solved f4_blockCount f4_blockLength f4_lastIsFree f4_stale ai7 alx w0 w1 w2 w3 f9_size f9_equations f9_areSteps f9_foundMany f9_many f9_rank f9_freeMany f9_arePlans f9_planMany ai14 alm _ _ _ (by omega) (by omega) (by omega) (by omega) (by omega) (by omega) (by omega) (by omega) (by omega) (by omega) (by omega) pr5_0 h12 h13 h14 h15 (by omega) (by omega) (by omega) (by omega) (by omega) (by omega) (by omega) (by omega) (by omega) pr12_1 pr12_0 (by omega) (by omega) (SDr_m (SDr_x h29 pr5_1 (by decide)) pr12_2 (by decide)) (TRr_m (TRr_x h30 pr5_1 (by decide)) pr12_2 (by decide)) hP hD hS hl
set_option maxRecDepth 100000 in
set_option maxHeartbeats 4000000 in
theorem lc_15 {p : Program} {e : Env} {s : State} {m : MethodId} {below : List Frame} {meth : Method} {c : Code} (l : Launch) {b L : Nat} {xs : Nat → Int32} (C0 : lw_At p s m meth c b L xs) (hL : L ≤ 2560) {dC : Nat → ClassId} {dI : Nat → Nat → Nat} {cI cJ cII cJJ : ClassId} {g : Nat} {adx adm : Nat → Nat} {i : Int32} (hi0 : 0 ≤ i.toInt) (hi1 : i.toInt + 5 ≤ (L : Int)) (K : ∀ z : Int32, z.toInt = i.toInt + 5 → LPd p l e s m below meth c b dC dI cI cJ cII cJJ adx adm z) (hK : va_K (dC, dI) vwCl (TY cI cJ cII cJJ) s) (hX : GXA 1 g (AA s) s) : ∀ (f3_unknowns f3_equations f2_roundSupports f2_stale f7_size f1_size f5_keptSize f5_aheadSize f0_solved f4_blockCount f4_blockLength f4_lastIsFree f4_stale : Int32) (aix : Nat → Nat → Int32) (alx : Nat → Nat → Int64) (w0 w1 w2 w3 : Nat) (f9_size f9_equations f9_areSteps f9_foundMany f9_many f9_rank f9_freeMany f9_arePlans f9_planMany : Int32) (aim : Nat → Nat → Int32) (alm : Nat → Nat → Int64) (H : Heap) (locs : List Loc) (ls : Array Slot), (1 ≤ f3_unknowns.toInt ∧ f3_unknowns.toInt ≤ 4) → (0 ≤ f3_equations.toInt ∧ f3_equations.toInt ≤ 3) → (0 ≤ f2_stale.toInt ∧ f2_stale.toInt ≤ 1) → (0 ≤ f7_size.toInt ∧ f7_size.toInt ≤ 256) → (0 ≤ f1_size.toInt ∧ f1_size.toInt ≤ 4) → (0 ≤ f5_keptSize.toInt ∧ f5_keptSize.toInt ≤ 128) → (0 ≤ f5_aheadSize.toInt ∧ f5_aheadSize.toInt ≤ 128) → (0 ≤ f4_blockCount.toInt ∧ f4_blockCount.toInt ≤ 9261) → (0 ≤ f4_blockLength.toInt ∧ f4_blockLength.toInt ≤ 21) → (0 ≤ f4_lastIsFree.toInt ∧ f4_lastIsFree.toInt ≤ 1) → (0 ≤ f4_stale.toInt ∧ f4_stale.toInt ≤ 1) → IAX aix → RWX adx w0 → RWX adx w1 → RWX adx w2 → RWX adx w3 → (1 ≤ f9_size.toInt ∧ f9_size.toInt ≤ 4) → (0 ≤ f9_equations.toInt ∧ f9_equations.toInt ≤ 3) → (0 ≤ f9_areSteps.toInt ∧ f9_areSteps.toInt ≤ 1) → (0 ≤ f9_foundMany.toInt ∧ f9_foundMany.toInt ≤ 99999) → (0 ≤ f9_many.toInt ∧ f9_many.toInt ≤ 6000) → (0 ≤ f9_rank.toInt ∧ f9_rank.toInt ≤ 3) → (0 ≤ f9_freeMany.toInt ∧ f9_freeMany.toInt ≤ 4) → (0 ≤ f9_arePlans.toInt ∧ f9_arePlans.toInt ≤ 1) → (0 ≤ f9_planMany.toInt ∧ f9_planMany.toInt ≤ 194481) → IAM aim → (f9_areSteps.toInt = 0 ∨ CIa aim f9_size f9_many.toInt) → f3_unknowns.toInt = f9_size.toInt → f3_equations.toInt = f9_equations.toInt → SDr aix aim f3_equations.toInt → TRr aix aim → va_P (dC, dI) vwCl ((WX cI cJ cII cJJ adx f3_unknowns f3_equations f2_roundSupports f2_stale f7_size f1_size f5_keptSize f5_aheadSize f0_solved f4_blockCount f4_blockLength f4_lastIsFree f4_stale aix alx w0 w1 w2 w3) ++ (WM cI cJ cII cJJ adm f9_size f9_equations f9_areSteps f9_foundMany f9_many f9_rank f9_freeMany f9_arePlans f9_planMany aim alm)) H → va_D (AA s) ((WX cI cJ cII cJJ adx f3_unknowns f3_equations f2_roundSupports f2_stale f7_size f1_size f5_keptSize f5_aheadSize f0_solved f4_blockCount f4_blockLength f4_lastIsFree f4_stale aix alx w0 w1 w2 w3) ++ (WM cI cJ cII cJJ adm f9_size f9_equations f9_areSteps f9_foundMany f9_many f9_rank f9_freeMany f9_arePlans f9_planMany aim alm)) → va_S (AA s) s.heap H locs → lv_has ls 4 [(3, .int i), (2, .ref (adm 22)), (1, .ref (adx 0)), (0, .ref b)] → W p l e room_1 s m #[Value.ref b] below meth c H locs 600000 7302250 (lw_Z below #[Value.ref b] s) (F0 m 711 ls []) := by
  obtain ⟨hx, hb, hr, hml, hown, hts0, hX0, hbl, hlocks, hgv⟩ := id C0
  have hts : ∀ w ∈ TT, w.before #[Value.ref b] s = true := fun w h => hts0 w (TT_tbl h)
  have hA : ∀ q : Nat, s.heap.size ≤ q → AA s q := fun _ h => h
  have hbA : ¬ AA s b := Nat.not_le.mpr hbl
  have hown : s.vm.findClass RL = some m.cls := hown
  intro f3_unknowns f3_equations f2_roundSupports f2_stale f7_size f1_size f5_keptSize f5_aheadSize f0_solved f4_blockCount f4_blockLength f4_lastIsFree f4_stale aix alx w0 w1 w2 w3 f9_size f9_equations f9_areSteps f9_foundMany f9_many f9_rank f9_freeMany f9_arePlans f9_planMany aim alm H locs ls h0 h1 h2 h3 h4 h5 h6 h7 h8 h9 h10 h11 h12 h13 h14 h15 h16 h17 h18 h19 h20 h21 h22 h23 h24 h25 h26 h27 h28 h29 h30 hP hD hS hl
  refine lv_aload_n hx hb dL_law_711 rfl (lv_at hl 2 rfl) ?_
  refine lv_aload_n hx hb dL_law_712 rfl (lv_at hl 3 rfl) ?_
  refine lv_iload_n hx hb dL_law_713 rfl (lv_at hl 0 rfl) ?_
  refine lv_iconst (v := 1) hx hb dL_law_714 (by decide) ?_
  refine v_iadd hx hb dL_law_715 _ rfl ?_
  refine lv_topi (fun z1 e_z1 => ?_)
  have g_z1 : z1.toInt = i.toInt + 1 := by rw [e_z1]; exact n_add (a := i.toInt) (b := 1) rfl (by decide +kernel) (by omega) (by omega)
  refine va_sld hx hb hX0 hbl hbA hS (j_in (a := z1.toInt) rfl (by omega) (by omega)) dL_law_716 ?_
  refine lv_topi (fun y2 e_y2 => ?_)
  have hM := m058_X8_has l dC dI cI cJ cII cJJ H.size 0 adx f3_unknowns f3_equations f2_roundSupports f2_stale f7_size f1_size f5_keptSize f5_aheadSize f0_solved f4_blockCount f4_blockLength f4_lastIsFree f4_stale aix alx w0 w1 w2 w3 y2 (by omega) (by omega) (by omega) (by omega) (by omega) (by omega) (by omega) (by omega) (by omega) (by omega) (by omega) h11 h12 h13 h14 h15
  refine k3V_i (q0 := 0) ⟨hx, hb, hml, hown, hts⟩ hK hP hD hS hA hX cv_RL_81 [0, 1, 2, 3, 4, 5, 6, 7, 8, 9, 10, 11, 12, 13, 14, 15, 16, 17, 18, 19, 20, 21, 22, 23, 24, 25, 26, 27, 28, 29, 30, 31, 32, 33, 34, 35, 36, 37, 38, 39, 40, 41, 42, 43, 44, 45, 46, 47, 48, 49, 50, 51, 52, 53, 54, 55, 56, 57, 58, 59, 60, 61, 62, 63] [64, 65, 66, 67, 68, 69, 70, 71, 72, 73, 74, 75, 76, 77, 78, 79, 80, 81, 82, 83, 84, 85, 86, 87, 88, 89, 90, 91] (wr := (WM cI cJ cII cJJ adm f9_size f9_equations f9_areSteps f9_foundMany f9_many f9_rank f9_freeMany f9_arePlans f9_planMany aim alm)) rfl rfl rfl rfl (by decide) hM ⟨by decide +kernel, by decide +kernel⟩ rfl rfl (Or.inl rfl) (rest := []) rfl rfl rfl hl.1 rfl (Nat.le_of_ble_eq_true rfl) dL_law_717 ⟨Nat.le_of_ble_eq_true rfl, Nat.le_of_ble_eq_true rfl⟩ (fun r3 t H1 locs ht hB hj hS => ?_)
  obtain ⟨-, hP1, -, hD1⟩ := hB
  rw [ht] at hP1
  obtain ⟨hP, hD⟩ := hj _ hP1 hD1
  clear ht hj hP1 hD1 hM
  generalize H1 = H4 at hP hS ⊢
  refine lv_pop hx hb dL_law_720 rfl ?_
  refine lv_aload_n hx hb dL_law_721 rfl (lv_at hl 1 rfl) ?_
  refine lv_aload_n hx hb dL_law_722 rfl (lv_at hl 3 rfl) ?_
  refine lv_iload_n hx hb dL_law_723 rfl (lv_at hl 0 rfl) ?_
  refine lv_iconst (v := 1) hx hb dL_law_724 (by decide) ?_
  refine v_iadd hx hb dL_law_725 _ rfl ?_
  refine lv_topi (fun z5 e_z5 => ?_)
  have g_z5 : z5.toInt = i.toInt + 1 := by rw [e_z5]; exact n_add (a := i.toInt) (b := 1) rfl (by decide +kernel) (by omega) (by omega)
  refine va_sld hx hb hX0 hbl hbA hS (j_in (a := z5.toInt) rfl (by omega) (by omega)) dL_law_726 ?_
  refine lv_topi (fun y6 e_y6 => ?_)
  have q_y6 : y2 = y6 := by rw [e_y2, e_y6, e_z1, e_z5]
  clear e_y6
  subst q_y6
  have hM := r056_X9_has l dC dI cI cJ cII cJJ H4.size 0 adm f9_size f9_equations f9_areSteps f9_foundMany f9_many f9_rank f9_freeMany f9_arePlans f9_planMany aim alm y2 (by omega) (by omega) (by omega) (by omega) (by omega) (by omega) (by omega) (by omega) (by omega) h25
  refine k3V_i (q0 := 22) ⟨hx, hb, hml, hown, hts⟩ hK hP hD hS hA hX cv_RL_84 [0, 1, 2, 3, 4, 5, 6, 7, 8, 9, 10, 11, 12, 13, 14, 15, 16, 17, 18, 19, 20, 21, 22, 23, 24, 25, 26, 27] [28, 29, 30, 31, 32, 33, 34, 35, 36, 37, 38, 39, 40, 41, 42, 43, 44, 45, 46, 47, 48, 49, 50, 51, 52, 53, 54, 55, 56, 57, 58, 59, 60, 61, 62, 63, 64, 65, 66, 67, 68, 69, 70, 71, 72, 73, 74, 75, 76, 77, 78, 79, 80, 81, 82, 83, 84, 85, 86, 87, 88, 89, 90, 91] (wr := (WX cI cJ cII cJJ adx f3_unknowns f3_equations f2_roundSupports f2_stale f7_size f1_size f5_keptSize f5_aheadSize f0_solved f4_blockCount f4_blockLength f4_lastIsFree f4_stale aix alx w0 w1 w2 w3)) rfl rfl rfl rfl (by decide) hM ⟨by decide +kernel, by decide +kernel⟩ rfl rfl (Or.inl rfl) (rest := []) rfl rfl rfl hl.1 rfl (Nat.le_of_ble_eq_true rfl) dL_law_727 ⟨Nat.le_of_ble_eq_true rfl, Nat.le_of_ble_eq_true rfl⟩ (fun r7 t H1 locs ht hB hj hS => ?_)
  obtain ⟨-, hP1, -, hD1⟩ := hB
  rw [ht] at hP1
  obtain ⟨hP, hD⟩ := hj _ hP1 hD1
  clear ht hj hP1 hD1 hM
  generalize H1 = H8 at hP hS ⊢
  refine lv_pop hx hb dL_law_730 rfl ?_
  refine lv_goto (tgt := 1072) hx hb dL_law_731 (by decide) ?_
  obtain ⟨z, e_z⟩ : ∃ q : Int32, q = i + Int32.ofInt 5 := ⟨_, rfl⟩
  have g_z : z.toInt = i.toInt + 5 := by rw [e_z]; exact n_add (a := i.toInt) (b := 5) rfl (by decide +kernel) (by omega) (by omega)
  refine lv_iinc (v := z) (lv' := [(3, .int z), (2, .ref (adm 22)), (1, .ref (adx 0)), (0, .ref b)]) hx hb dL_law_1072 hl (k := 0) rfl e_z.symm (by decide) rfl (fun ls hl => ?_)
  refine lv_goto (tgt := 18) hx hb dL_law_1075 (by decide) ?_
  exact K z g_z f3_unknowns f3_equations f2_roundSupports f2_stale f7_size f1_size f5_keptSize f5_aheadSize f0_solved f4_blockCount f4_blockLength f4_lastIsFree f4_stale aix alx w0 w1 w2 w3 f9_size f9_equations f9_areSteps f9_foundMany f9_many f9_rank f9_freeMany f9_arePlans f9_planMany aim alm _ _ _ (by omega) (by omega) (by omega) (by omega) (by omega) (by omega) (by omega) (by omega) (by omega) (by omega) (by omega) h11 h12 h13 h14 h15 (by omega) (by omega) (by omega) (by omega) (by omega) (by omega) (by omega) (by omega) (by omega) h25 h26 (by omega) (by omega) h29 h30 hP hD hS hl
set_option maxRecDepth 100000 in
set_option maxHeartbeats 4000000 in
theorem lc_16 {p : Program} {e : Env} {s : State} {m : MethodId} {below : List Frame} {meth : Method} {c : Code} (l : Launch) {b L : Nat} {xs : Nat → Int32} (C0 : lw_At p s m meth c b L xs) (hL : L ≤ 2560) {dC : Nat → ClassId} {dI : Nat → Nat → Nat} {cI cJ cII cJJ : ClassId} {g : Nat} {adx adm : Nat → Nat} {i : Int32} (hi0 : 0 ≤ i.toInt) (hi1 : i.toInt + 5 ≤ (L : Int)) (K : ∀ z : Int32, z.toInt = i.toInt + 5 → LPd p l e s m below meth c b dC dI cI cJ cII cJJ adx adm z) (hK : va_K (dC, dI) vwCl (TY cI cJ cII cJJ) s) (hX : GXA 1 g (AA s) s) : ∀ (f3_unknowns f3_equations f2_roundSupports f2_stale f7_size f1_size f5_keptSize f5_aheadSize f0_solved f4_blockCount f4_blockLength f4_lastIsFree f4_stale : Int32) (aix : Nat → Nat → Int32) (alx : Nat → Nat → Int64) (w0 w1 w2 w3 : Nat) (f9_size f9_equations f9_areSteps f9_foundMany f9_many f9_rank f9_freeMany f9_arePlans f9_planMany : Int32) (aim : Nat → Nat → Int32) (alm : Nat → Nat → Int64) (H : Heap) (locs : List Loc) (ls : Array Slot), (1 ≤ f3_unknowns.toInt ∧ f3_unknowns.toInt ≤ 4) → (0 ≤ f3_equations.toInt ∧ f3_equations.toInt ≤ 3) → (0 ≤ f2_stale.toInt ∧ f2_stale.toInt ≤ 1) → (0 ≤ f7_size.toInt ∧ f7_size.toInt ≤ 256) → (0 ≤ f1_size.toInt ∧ f1_size.toInt ≤ 4) → (0 ≤ f5_keptSize.toInt ∧ f5_keptSize.toInt ≤ 128) → (0 ≤ f5_aheadSize.toInt ∧ f5_aheadSize.toInt ≤ 128) → (0 ≤ f4_blockCount.toInt ∧ f4_blockCount.toInt ≤ 9261) → (0 ≤ f4_blockLength.toInt ∧ f4_blockLength.toInt ≤ 21) → (0 ≤ f4_lastIsFree.toInt ∧ f4_lastIsFree.toInt ≤ 1) → (0 ≤ f4_stale.toInt ∧ f4_stale.toInt ≤ 1) → IAX aix → RWX adx w0 → RWX adx w1 → RWX adx w2 → RWX adx w3 → (1 ≤ f9_size.toInt ∧ f9_size.toInt ≤ 4) → (0 ≤ f9_equations.toInt ∧ f9_equations.toInt ≤ 3) → (0 ≤ f9_areSteps.toInt ∧ f9_areSteps.toInt ≤ 1) → (0 ≤ f9_foundMany.toInt ∧ f9_foundMany.toInt ≤ 99999) → (0 ≤ f9_many.toInt ∧ f9_many.toInt ≤ 6000) → (0 ≤ f9_rank.toInt ∧ f9_rank.toInt ≤ 3) → (0 ≤ f9_freeMany.toInt ∧ f9_freeMany.toInt ≤ 4) → (0 ≤ f9_arePlans.toInt ∧ f9_arePlans.toInt ≤ 1) → (0 ≤ f9_planMany.toInt ∧ f9_planMany.toInt ≤ 194481) → IAM aim → (f9_areSteps.toInt = 0 ∨ CIa aim f9_size f9_many.toInt) → f3_unknowns.toInt = f9_size.toInt → f3_equations.toInt = f9_equations.toInt → SDr aix aim f3_equations.toInt → TRr aix aim → va_P (dC, dI) vwCl ((WX cI cJ cII cJJ adx f3_unknowns f3_equations f2_roundSupports f2_stale f7_size f1_size f5_keptSize f5_aheadSize f0_solved f4_blockCount f4_blockLength f4_lastIsFree f4_stale aix alx w0 w1 w2 w3) ++ (WM cI cJ cII cJJ adm f9_size f9_equations f9_areSteps f9_foundMany f9_many f9_rank f9_freeMany f9_arePlans f9_planMany aim alm)) H → va_D (AA s) ((WX cI cJ cII cJJ adx f3_unknowns f3_equations f2_roundSupports f2_stale f7_size f1_size f5_keptSize f5_aheadSize f0_solved f4_blockCount f4_blockLength f4_lastIsFree f4_stale aix alx w0 w1 w2 w3) ++ (WM cI cJ cII cJJ adm f9_size f9_equations f9_areSteps f9_foundMany f9_many f9_rank f9_freeMany f9_arePlans f9_planMany aim alm)) → va_S (AA s) s.heap H locs → lv_has ls 4 [(3, .int i), (2, .ref (adm 22)), (1, .ref (adx 0)), (0, .ref b)] → W p l e room_1 s m #[Value.ref b] below meth c H locs 600000 7302250 (lw_Z below #[Value.ref b] s) (F0 m 734 ls []) := by
  obtain ⟨hx, hb, hr, hml, hown, hts0, hX0, hbl, hlocks, hgv⟩ := id C0
  have hts : ∀ w ∈ TT, w.before #[Value.ref b] s = true := fun w h => hts0 w (TT_tbl h)
  have hA : ∀ q : Nat, s.heap.size ≤ q → AA s q := fun _ h => h
  have hbA : ¬ AA s b := Nat.not_le.mpr hbl
  have hown : s.vm.findClass RL = some m.cls := hown
  intro f3_unknowns f3_equations f2_roundSupports f2_stale f7_size f1_size f5_keptSize f5_aheadSize f0_solved f4_blockCount f4_blockLength f4_lastIsFree f4_stale aix alx w0 w1 w2 w3 f9_size f9_equations f9_areSteps f9_foundMany f9_many f9_rank f9_freeMany f9_arePlans f9_planMany aim alm H locs ls h0 h1 h2 h3 h4 h5 h6 h7 h8 h9 h10 h11 h12 h13 h14 h15 h16 h17 h18 h19 h20 h21 h22 h23 h24 h25 h26 h27 h28 h29 h30 hP hD hS hl
  refine lv_aload_n hx hb dL_law_734 rfl (lv_at hl 2 rfl) ?_
  have hM := m059_X8_what l dC dI cI cJ cII cJJ H.size 0 adx f3_unknowns f3_equations f2_roundSupports f2_stale f7_size f1_size f5_keptSize f5_aheadSize f0_solved f4_blockCount f4_blockLength f4_lastIsFree f4_stale aix alx w0 w1 w2 w3 (by omega) (by omega) (by omega) (by omega) (by omega) (by omega) (by omega) (by omega) (by omega) (by omega) (by omega) h11 h12 h13 h14 h15
  refine k3V_i (q0 := 0) ⟨hx, hb, hml, hown, hts⟩ hK hP hD hS hA hX cv_RL_85 [0, 1, 2, 3, 4, 5, 6, 7, 8, 9, 10, 11, 12, 13, 14, 15, 16, 17, 18, 19, 20, 21, 22, 23, 24, 25, 26, 27, 28, 29, 30, 31, 32, 33, 34, 35, 36, 37, 38, 39, 40, 41, 42, 43, 44, 45, 46, 47, 48, 49, 50, 51, 52, 53, 54, 55, 56, 57, 58, 59, 60, 61, 62, 63] [64, 65, 66, 67, 68, 69, 70, 71, 72, 73, 74, 75, 76, 77, 78, 79, 80, 81, 82, 83, 84, 85, 86, 87, 88, 89, 90, 91] (wr := (WM cI cJ cII cJJ adm f9_size f9_equations f9_areSteps f9_foundMany f9_many f9_rank f9_freeMany f9_arePlans f9_planMany aim alm)) rfl rfl rfl rfl (by decide) hM ⟨by decide +kernel, by decide +kernel⟩ rfl rfl (Or.inl rfl) (rest := []) rfl rfl rfl hl.1 rfl (Nat.le_of_ble_eq_true rfl) dL_law_735 ⟨Nat.le_of_ble_eq_true rfl, Nat.le_of_ble_eq_true rfl⟩ (fun r1 t H1 locs ht hB hj hS => ?_)
  obtain ⟨pr1_0, hP1, -, hD1⟩ := hB
  rw [ht] at hP1
  obtain ⟨hP, hD⟩ := hj _ hP1 hD1
  clear ht hj hP1 hD1 hM
  generalize H1 = H2 at hP hS ⊢
  refine lv_pop hx hb dL_law_738 rfl ?_
  refine lv_aload_n hx hb dL_law_739 rfl (lv_at hl 1 rfl) ?_
  have hM := r058_X9_what l dC dI cI cJ cII cJJ H2.size 0 adm f9_size f9_equations f9_areSteps f9_foundMany f9_many f9_rank f9_freeMany f9_arePlans f9_planMany aim alm (by omega) (by omega) (by omega) (by omega) (by omega) (by omega) (by omega) (by omega) (by omega) h25
  refine k3V_i (q0 := 22) ⟨hx, hb, hml, hown, hts⟩ hK hP hD hS hA hX cv_RL_88 [0, 1, 2, 3, 4, 5, 6, 7, 8, 9, 10, 11, 12, 13, 14, 15, 16, 17, 18, 19, 20, 21, 22, 23, 24, 25, 26, 27] [28, 29, 30, 31, 32, 33, 34, 35, 36, 37, 38, 39, 40, 41, 42, 43, 44, 45, 46, 47, 48, 49, 50, 51, 52, 53, 54, 55, 56, 57, 58, 59, 60, 61, 62, 63, 64, 65, 66, 67, 68, 69, 70, 71, 72, 73, 74, 75, 76, 77, 78, 79, 80, 81, 82, 83, 84, 85, 86, 87, 88, 89, 90, 91] (wr := (WX cI cJ cII cJJ adx f3_unknowns f3_equations f2_roundSupports f2_stale f7_size f1_size f5_keptSize f5_aheadSize f0_solved f4_blockCount f4_blockLength f4_lastIsFree f4_stale aix alx w0 w1 w2 w3)) rfl rfl rfl rfl (by decide) hM ⟨by decide +kernel, by decide +kernel⟩ rfl rfl (Or.inl rfl) (rest := []) rfl rfl rfl hl.1 rfl (Nat.le_of_ble_eq_true rfl) dL_law_740 ⟨Nat.le_of_ble_eq_true rfl, Nat.le_of_ble_eq_true rfl⟩ (fun r3 t H1 locs ht hB hj hS => ?_)
  obtain ⟨pr3_0, hP1, -, hD1⟩ := hB
  rw [ht] at hP1
  obtain ⟨hP, hD⟩ := hj _ hP1 hD1
  clear ht hj hP1 hD1 hM
  generalize H1 = H4 at hP hS ⊢
  refine lv_pop hx hb dL_law_743 rfl ?_
  refine lv_goto (tgt := 1072) hx hb dL_law_744 (by decide) ?_
  obtain ⟨z, e_z⟩ : ∃ q : Int32, q = i + Int32.ofInt 5 := ⟨_, rfl⟩
  have g_z : z.toInt = i.toInt + 5 := by rw [e_z]; exact n_add (a := i.toInt) (b := 5) rfl (by decide +kernel) (by omega) (by omega)
  refine lv_iinc (v := z) (lv' := [(3, .int z), (2, .ref (adm 22)), (1, .ref (adx 0)), (0, .ref b)]) hx hb dL_law_1072 hl (k := 0) rfl e_z.symm (by decide) rfl (fun ls hl => ?_)
  refine lv_goto (tgt := 18) hx hb dL_law_1075 (by decide) ?_
  exact K z g_z f3_unknowns f3_equations f2_roundSupports f2_stale f7_size f1_size f5_keptSize f5_aheadSize f0_solved f4_blockCount f4_blockLength f4_lastIsFree f4_stale aix alx w0 w1 w2 w3 f9_size f9_equations f9_areSteps f9_foundMany f9_many f9_rank f9_freeMany f9_arePlans f9_planMany aim alm _ _ _ (by omega) (by omega) (by omega) (by omega) (by omega) (by omega) (by omega) (by omega) (by omega) (by omega) (by omega) h11 h12 h13 h14 h15 (by omega) (by omega) (by omega) (by omega) (by omega) (by omega) (by omega) (by omega) (by omega) h25 h26 (by omega) (by omega) h29 h30 hP hD hS hl
set_option maxRecDepth 100000 in
set_option maxHeartbeats 4000000 in
theorem lc_17 {p : Program} {e : Env} {s : State} {m : MethodId} {below : List Frame} {meth : Method} {c : Code} (l : Launch) {b L : Nat} {xs : Nat → Int32} (C0 : lw_At p s m meth c b L xs) (hL : L ≤ 2560) {dC : Nat → ClassId} {dI : Nat → Nat → Nat} {cI cJ cII cJJ : ClassId} {g : Nat} {adx adm : Nat → Nat} {i : Int32} (hi0 : 0 ≤ i.toInt) (hi1 : i.toInt + 5 ≤ (L : Int)) (K : ∀ z : Int32, z.toInt = i.toInt + 5 → LPd p l e s m below meth c b dC dI cI cJ cII cJJ adx adm z) (hK : va_K (dC, dI) vwCl (TY cI cJ cII cJJ) s) (hX : GXA 1 g (AA s) s) : ∀ (f3_unknowns f3_equations f2_roundSupports f2_stale f7_size f1_size f5_keptSize f5_aheadSize f0_solved f4_blockCount f4_blockLength f4_lastIsFree f4_stale : Int32) (aix : Nat → Nat → Int32) (alx : Nat → Nat → Int64) (w0 w1 w2 w3 : Nat) (f9_size f9_equations f9_areSteps f9_foundMany f9_many f9_rank f9_freeMany f9_arePlans f9_planMany : Int32) (aim : Nat → Nat → Int32) (alm : Nat → Nat → Int64) (H : Heap) (locs : List Loc) (ls : Array Slot), (1 ≤ f3_unknowns.toInt ∧ f3_unknowns.toInt ≤ 4) → (0 ≤ f3_equations.toInt ∧ f3_equations.toInt ≤ 3) → (0 ≤ f2_stale.toInt ∧ f2_stale.toInt ≤ 1) → (0 ≤ f7_size.toInt ∧ f7_size.toInt ≤ 256) → (0 ≤ f1_size.toInt ∧ f1_size.toInt ≤ 4) → (0 ≤ f5_keptSize.toInt ∧ f5_keptSize.toInt ≤ 128) → (0 ≤ f5_aheadSize.toInt ∧ f5_aheadSize.toInt ≤ 128) → (0 ≤ f4_blockCount.toInt ∧ f4_blockCount.toInt ≤ 9261) → (0 ≤ f4_blockLength.toInt ∧ f4_blockLength.toInt ≤ 21) → (0 ≤ f4_lastIsFree.toInt ∧ f4_lastIsFree.toInt ≤ 1) → (0 ≤ f4_stale.toInt ∧ f4_stale.toInt ≤ 1) → IAX aix → RWX adx w0 → RWX adx w1 → RWX adx w2 → RWX adx w3 → (1 ≤ f9_size.toInt ∧ f9_size.toInt ≤ 4) → (0 ≤ f9_equations.toInt ∧ f9_equations.toInt ≤ 3) → (0 ≤ f9_areSteps.toInt ∧ f9_areSteps.toInt ≤ 1) → (0 ≤ f9_foundMany.toInt ∧ f9_foundMany.toInt ≤ 99999) → (0 ≤ f9_many.toInt ∧ f9_many.toInt ≤ 6000) → (0 ≤ f9_rank.toInt ∧ f9_rank.toInt ≤ 3) → (0 ≤ f9_freeMany.toInt ∧ f9_freeMany.toInt ≤ 4) → (0 ≤ f9_arePlans.toInt ∧ f9_arePlans.toInt ≤ 1) → (0 ≤ f9_planMany.toInt ∧ f9_planMany.toInt ≤ 194481) → IAM aim → (f9_areSteps.toInt = 0 ∨ CIa aim f9_size f9_many.toInt) → f3_unknowns.toInt = f9_size.toInt → f3_equations.toInt = f9_equations.toInt → SDr aix aim f3_equations.toInt → TRr aix aim → va_P (dC, dI) vwCl ((WX cI cJ cII cJJ adx f3_unknowns f3_equations f2_roundSupports f2_stale f7_size f1_size f5_keptSize f5_aheadSize f0_solved f4_blockCount f4_blockLength f4_lastIsFree f4_stale aix alx w0 w1 w2 w3) ++ (WM cI cJ cII cJJ adm f9_size f9_equations f9_areSteps f9_foundMany f9_many f9_rank f9_freeMany f9_arePlans f9_planMany aim alm)) H → va_D (AA s) ((WX cI cJ cII cJJ adx f3_unknowns f3_equations f2_roundSupports f2_stale f7_size f1_size f5_keptSize f5_aheadSize f0_solved f4_blockCount f4_blockLength f4_lastIsFree f4_stale aix alx w0 w1 w2 w3) ++ (WM cI cJ cII cJJ adm f9_size f9_equations f9_areSteps f9_foundMany f9_many f9_rank f9_freeMany f9_arePlans f9_planMany aim alm)) → va_S (AA s) s.heap H locs → lv_has ls 4 [(3, .int i), (2, .ref (adm 22)), (1, .ref (adx 0)), (0, .ref b)] → W p l e room_1 s m #[Value.ref b] below meth c H locs 600000 7302250 (lw_Z below #[Value.ref b] s) (F0 m 747 ls []) := by
  obtain ⟨hx, hb, hr, hml, hown, hts0, hX0, hbl, hlocks, hgv⟩ := id C0
  have hts : ∀ w ∈ TT, w.before #[Value.ref b] s = true := fun w h => hts0 w (TT_tbl h)
  have hA : ∀ q : Nat, s.heap.size ≤ q → AA s q := fun _ h => h
  have hbA : ¬ AA s b := Nat.not_le.mpr hbl
  have hown : s.vm.findClass RL = some m.cls := hown
  intro f3_unknowns f3_equations f2_roundSupports f2_stale f7_size f1_size f5_keptSize f5_aheadSize f0_solved f4_blockCount f4_blockLength f4_lastIsFree f4_stale aix alx w0 w1 w2 w3 f9_size f9_equations f9_areSteps f9_foundMany f9_many f9_rank f9_freeMany f9_arePlans f9_planMany aim alm H locs ls h0 h1 h2 h3 h4 h5 h6 h7 h8 h9 h10 h11 h12 h13 h14 h15 h16 h17 h18 h19 h20 h21 h22 h23 h24 h25 h26 h27 h28 h29 h30 hP hD hS hl
  refine lv_aload_n hx hb dL_law_747 rfl (lv_at hl 2 rfl) ?_
  refine lv_aload_n hx hb dL_law_748 rfl (lv_at hl 3 rfl) ?_
  refine lv_iload_n hx hb dL_law_749 rfl (lv_at hl 0 rfl) ?_
  refine lv_iconst (v := 1) hx hb dL_law_750 (by decide) ?_
  refine v_iadd hx hb dL_law_751 _ rfl ?_
  refine lv_topi (fun z1 e_z1 => ?_)
  have g_z1 : z1.toInt = i.toInt + 1 := by rw [e_z1]; exact n_add (a := i.toInt) (b := 1) rfl (by decide +kernel) (by omega) (by omega)
  refine va_sld hx hb hX0 hbl hbA hS (j_in (a := z1.toInt) rfl (by omega) (by omega)) dL_law_752 ?_
  refine lv_topi (fun y2 e_y2 => ?_)
  have hM := m169_X8_fits l dC dI cI cJ cII cJJ H.size g adx f3_unknowns f3_equations f2_roundSupports f2_stale f7_size f1_size f5_keptSize f5_aheadSize f0_solved f4_blockCount f4_blockLength f4_lastIsFree f4_stale aix alx w0 w1 w2 w3 y2 (by omega) (by omega) (by omega) (by omega) (by omega) (by omega) (by omega) (by omega) (by omega) (by omega) (by omega) h11 h12 h13 h14 h15
  refine k3V_i (q0 := 0) ⟨hx, hb, hml, hown, hts⟩ hK hP hD hS hA hX cv_RL_89 [0, 1, 2, 3, 4, 5, 6, 7, 8, 9, 10, 11, 12, 13, 14, 15, 16, 17, 18, 19, 20, 21, 22, 23, 24, 25, 26, 27, 28, 29, 30, 31, 32, 33, 34, 35, 36, 37, 38, 39, 40, 41, 42, 43, 44, 45, 46, 47, 48, 49, 50, 51, 52, 53, 54, 55, 56, 57, 58, 59, 60, 61, 62, 63] [64, 65, 66, 67, 68, 69, 70, 71, 72, 73, 74, 75, 76, 77, 78, 79, 80, 81, 82, 83, 84, 85, 86, 87, 88, 89, 90, 91] (wr := (WM cI cJ cII cJJ adm f9_size f9_equations f9_areSteps f9_foundMany f9_many f9_rank f9_freeMany f9_arePlans f9_planMany aim alm)) rfl rfl rfl rfl (by decide) hM ⟨by decide +kernel, by decide +kernel⟩ rfl rfl (Or.inr ⟨rfl, rfl, rfl⟩) (rest := []) rfl rfl rfl hl.1 rfl (Nat.le_of_ble_eq_true rfl) dL_law_753 ⟨Nat.le_of_ble_eq_true rfl, Nat.le_of_ble_eq_true rfl⟩ (fun r3 t H1 locs ht hB hj hS => ?_)
  obtain ⟨v5, v6, v7, v8, v9, v10, v11, ai12, al13, w14, w15, w16, w17, ⟨pr3_0, pr3_1, pr3_2, pr3_3, pr3_4, pr3_5, pr3_6, pr3_7, pr3_8, pr3_9, pr3_10, pr3_11⟩, hP1, -, hD1⟩ := hB
  rw [ht] at hP1
  obtain ⟨hP, hD⟩ := hj _ hP1 hD1
  clear ht hj hP1 hD1 hM
  generalize H1 = H4 at hP hS ⊢
  refine lv_pop hx hb dL_law_756 rfl ?_
  refine lv_aload_n hx hb dL_law_757 rfl (lv_at hl 1 rfl) ?_
  refine lv_aload_n hx hb dL_law_758 rfl (lv_at hl 3 rfl) ?_
  refine lv_iload_n hx hb dL_law_759 rfl (lv_at hl 0 rfl) ?_
  refine lv_iconst (v := 1) hx hb dL_law_760 (by decide) ?_
  refine v_iadd hx hb dL_law_761 _ rfl ?_
  refine lv_topi (fun z18 e_z18 => ?_)
  have g_z18 : z18.toInt = i.toInt + 1 := by rw [e_z18]; exact n_add (a := i.toInt) (b := 1) rfl (by decide +kernel) (by omega) (by omega)
  refine va_sld hx hb hX0 hbl hbA hS (j_in (a := z18.toInt) rfl (by omega) (by omega)) dL_law_762 ?_
  refine lv_topi (fun y19 e_y19 => ?_)
  have q_y19 : y2 = y19 := by rw [e_y2, e_y19, e_z1, e_z18]
  clear e_y19
  subst q_y19
  have hM := r059_X9_fits l dC dI cI cJ cII cJJ H4.size 0 adm f9_size f9_equations f9_areSteps f9_foundMany f9_many f9_rank f9_freeMany f9_arePlans f9_planMany aim alm y2 (by omega) (by omega) (by omega) (by omega) (by omega) (by omega) (by omega) (by omega) (by omega) h26 h25
  refine k3V_i (q0 := 22) ⟨hx, hb, hml, hown, hts⟩ hK hP hD hS hA hX cv_RL_92 [0, 1, 2, 3, 4, 5, 6, 7, 8, 9, 10, 11, 12, 13, 14, 15, 16, 17, 18, 19, 20, 21, 22, 23, 24, 25, 26, 27] [28, 29, 30, 31, 32, 33, 34, 35, 36, 37, 38, 39, 40, 41, 42, 43, 44, 45, 46, 47, 48, 49, 50, 51, 52, 53, 54, 55, 56, 57, 58, 59, 60, 61, 62, 63, 64, 65, 66, 67, 68, 69, 70, 71, 72, 73, 74, 75, 76, 77, 78, 79, 80, 81, 82, 83, 84, 85, 86, 87, 88, 89, 90, 91] (wr := (WX cI cJ cII cJJ adx f3_unknowns f3_equations v5 v6 v7 v8 v9 v10 v11 f4_blockCount f4_blockLength f4_lastIsFree f4_stale ai12 al13 w14 w15 w16 w17)) rfl rfl rfl rfl (by decide) hM ⟨by decide +kernel, by decide +kernel⟩ rfl rfl (Or.inl rfl) (rest := []) rfl rfl rfl hl.1 rfl (Nat.le_of_ble_eq_true rfl) dL_law_763 ⟨Nat.le_of_ble_eq_true rfl, Nat.le_of_ble_eq_true rfl⟩ (fun r20 t H1 locs ht hB hj hS => ?_)
  obtain ⟨v22, v23, v24, v25, v26, ai27, al28, ⟨pr20_0, pr20_1, pr20_2, pr20_3, pr20_4, pr20_5, pr20_6, pr20_7, pr20_8, pr20_9⟩, hP1, -, hD1⟩ := hB
  rw [ht] at hP1
  obtain ⟨hP, hD⟩ := hj _ hP1 hD1
  clear ht hj hP1 hD1 hM
  generalize H1 = H21 at hP hS ⊢
  refine lv_pop hx hb dL_law_766 rfl ?_
  refine lv_goto (tgt := 1072) hx hb dL_law_767 (by decide) ?_
  obtain ⟨z, e_z⟩ : ∃ q : Int32, q = i + Int32.ofInt 5 := ⟨_, rfl⟩
  have g_z : z.toInt = i.toInt + 5 := by rw [e_z]; exact n_add (a := i.toInt) (b := 5) rfl (by decide +kernel) (by omega) (by omega)
  refine lv_iinc (v := z) (lv' := [(3, .int z), (2, .ref (adm 22)), (1, .ref (adx 0)), (0, .ref b)]) hx hb dL_law_1072 hl (k := 0) rfl e_z.symm (by decide) rfl (fun ls hl => ?_)
  refine lv_goto (tgt := 18) hx hb dL_law_1075 (by decide) ?_
  exact K z g_z f3_unknowns f3_equations v5 v6 v7 v8 v9 v10 v11 f4_blockCount f4_blockLength f4_lastIsFree f4_stale ai12 al13 w14 w15 w16 w17 f9_size f9_equations v22 v23 v24 v25 v26 f9_arePlans f9_planMany ai27 al28 _ _ _ (by omega) (by omega) (by omega) (by omega) (by omega) (by omega) (by omega) (by omega) (by omega) (by omega) (by omega) pr3_5 pr3_8 pr3_9 pr3_10 pr3_11 (by omega) (by omega) (by omega) (by omega) (by omega) (by omega) (by omega) (by omega) (by omega) pr20_7 pr20_6 (by omega) (by omega) (SDr_m (SDr_x h29 pr3_6 (by decide)) pr20_8 (by decide)) (TRr_m (TRr_x h30 pr3_6 (by decide)) pr20_8 (by decide)) hP hD hS hl
set_option maxRecDepth 100000 in
set_option maxHeartbeats 4000000 in
theorem lc_18 {p : Program} {e : Env} {s : State} {m : MethodId} {below : List Frame} {meth : Method} {c : Code} (l : Launch) {b L : Nat} {xs : Nat → Int32} (C0 : lw_At p s m meth c b L xs) (hL : L ≤ 2560) {dC : Nat → ClassId} {dI : Nat → Nat → Nat} {cI cJ cII cJJ : ClassId} {g : Nat} {adx adm : Nat → Nat} {i : Int32} (hi0 : 0 ≤ i.toInt) (hi1 : i.toInt + 5 ≤ (L : Int)) (K : ∀ z : Int32, z.toInt = i.toInt + 5 → LPd p l e s m below meth c b dC dI cI cJ cII cJJ adx adm z) (hK : va_K (dC, dI) vwCl (TY cI cJ cII cJJ) s) (hX : GXA 1 g (AA s) s) : ∀ (f3_unknowns f3_equations f2_roundSupports f2_stale f7_size f1_size f5_keptSize f5_aheadSize f0_solved f4_blockCount f4_blockLength f4_lastIsFree f4_stale : Int32) (aix : Nat → Nat → Int32) (alx : Nat → Nat → Int64) (w0 w1 w2 w3 : Nat) (f9_size f9_equations f9_areSteps f9_foundMany f9_many f9_rank f9_freeMany f9_arePlans f9_planMany : Int32) (aim : Nat → Nat → Int32) (alm : Nat → Nat → Int64) (H : Heap) (locs : List Loc) (ls : Array Slot), (1 ≤ f3_unknowns.toInt ∧ f3_unknowns.toInt ≤ 4) → (0 ≤ f3_equations.toInt ∧ f3_equations.toInt ≤ 3) → (0 ≤ f2_stale.toInt ∧ f2_stale.toInt ≤ 1) → (0 ≤ f7_size.toInt ∧ f7_size.toInt ≤ 256) → (0 ≤ f1_size.toInt ∧ f1_size.toInt ≤ 4) → (0 ≤ f5_keptSize.toInt ∧ f5_keptSize.toInt ≤ 128) → (0 ≤ f5_aheadSize.toInt ∧ f5_aheadSize.toInt ≤ 128) → (0 ≤ f4_blockCount.toInt ∧ f4_blockCount.toInt ≤ 9261) → (0 ≤ f4_blockLength.toInt ∧ f4_blockLength.toInt ≤ 21) → (0 ≤ f4_lastIsFree.toInt ∧ f4_lastIsFree.toInt ≤ 1) → (0 ≤ f4_stale.toInt ∧ f4_stale.toInt ≤ 1) → IAX aix → RWX adx w0 → RWX adx w1 → RWX adx w2 → RWX adx w3 → (1 ≤ f9_size.toInt ∧ f9_size.toInt ≤ 4) → (0 ≤ f9_equations.toInt ∧ f9_equations.toInt ≤ 3) → (0 ≤ f9_areSteps.toInt ∧ f9_areSteps.toInt ≤ 1) → (0 ≤ f9_foundMany.toInt ∧ f9_foundMany.toInt ≤ 99999) → (0 ≤ f9_many.toInt ∧ f9_many.toInt ≤ 6000) → (0 ≤ f9_rank.toInt ∧ f9_rank.toInt ≤ 3) → (0 ≤ f9_freeMany.toInt ∧ f9_freeMany.toInt ≤ 4) → (0 ≤ f9_arePlans.toInt ∧ f9_arePlans.toInt ≤ 1) → (0 ≤ f9_planMany.toInt ∧ f9_planMany.toInt ≤ 194481) → IAM aim → (f9_areSteps.toInt = 0 ∨ CIa aim f9_size f9_many.toInt) → f3_unknowns.toInt = f9_size.toInt → f3_equations.toInt = f9_equations.toInt → SDr aix aim f3_equations.toInt → TRr aix aim → va_P (dC, dI) vwCl ((WX cI cJ cII cJJ adx f3_unknowns f3_equations f2_roundSupports f2_stale f7_size f1_size f5_keptSize f5_aheadSize f0_solved f4_blockCount f4_blockLength f4_lastIsFree f4_stale aix alx w0 w1 w2 w3) ++ (WM cI cJ cII cJJ adm f9_size f9_equations f9_areSteps f9_foundMany f9_many f9_rank f9_freeMany f9_arePlans f9_planMany aim alm)) H → va_D (AA s) ((WX cI cJ cII cJJ adx f3_unknowns f3_equations f2_roundSupports f2_stale f7_size f1_size f5_keptSize f5_aheadSize f0_solved f4_blockCount f4_blockLength f4_lastIsFree f4_stale aix alx w0 w1 w2 w3) ++ (WM cI cJ cII cJJ adm f9_size f9_equations f9_areSteps f9_foundMany f9_many f9_rank f9_freeMany f9_arePlans f9_planMany aim alm)) → va_S (AA s) s.heap H locs → lv_has ls 4 [(3, .int i), (2, .ref (adm 22)), (1, .ref (adx 0)), (0, .ref b)] → W p l e room_1 s m #[Value.ref b] below meth c H locs 600000 7302250 (lw_Z below #[Value.ref b] s) (F0 m 770 ls []) := by
  obtain ⟨hx, hb, hr, hml, hown, hts0, hX0, hbl, hlocks, hgv⟩ := id C0
  have hts : ∀ w ∈ TT, w.before #[Value.ref b] s = true := fun w h => hts0 w (TT_tbl h)
  have hA : ∀ q : Nat, s.heap.size ≤ q → AA s q := fun _ h => h
  have hbA : ¬ AA s b := Nat.not_le.mpr hbl
  have hown : s.vm.findClass RL = some m.cls := hown
  intro f3_unknowns f3_equations f2_roundSupports f2_stale f7_size f1_size f5_keptSize f5_aheadSize f0_solved f4_blockCount f4_blockLength f4_lastIsFree f4_stale aix alx w0 w1 w2 w3 f9_size f9_equations f9_areSteps f9_foundMany f9_many f9_rank f9_freeMany f9_arePlans f9_planMany aim alm H locs ls h0 h1 h2 h3 h4 h5 h6 h7 h8 h9 h10 h11 h12 h13 h14 h15 h16 h17 h18 h19 h20 h21 h22 h23 h24 h25 h26 h27 h28 h29 h30 hP hD hS hl
  refine lv_aload_n hx hb dL_law_770 rfl (lv_at hl 2 rfl) ?_
  refine lv_aload_n hx hb dL_law_771 rfl (lv_at hl 3 rfl) ?_
  refine lv_iload_n hx hb dL_law_772 rfl (lv_at hl 0 rfl) ?_
  refine lv_iconst (v := 1) hx hb dL_law_773 (by decide) ?_
  refine v_iadd hx hb dL_law_774 _ rfl ?_
  refine lv_topi (fun z1 e_z1 => ?_)
  have g_z1 : z1.toInt = i.toInt + 1 := by rw [e_z1]; exact n_add (a := i.toInt) (b := 1) rfl (by decide +kernel) (by omega) (by omega)
  refine va_sld hx hb hX0 hbl hbA hS (j_in (a := z1.toInt) rfl (by omega) (by omega)) dL_law_775 ?_
  refine lv_topi (fun y2 e_y2 => ?_)
  have hM := m173_X8_split l dC dI cI cJ cII cJJ H.size g adx f3_unknowns f3_equations f2_roundSupports f2_stale f7_size f1_size f5_keptSize f5_aheadSize f0_solved f4_blockCount f4_blockLength f4_lastIsFree f4_stale aix alx w0 w1 w2 w3 y2 (by omega) (by omega) (by omega) (by omega) (by omega) (by omega) (by omega) (by omega) (by omega) (by omega) (by omega) h11 h12 h13 h14 h15
  refine k3V_i (q0 := 0) ⟨hx, hb, hml, hown, hts⟩ hK hP hD hS hA hX cv_RL_93 [0, 1, 2, 3, 4, 5, 6, 7, 8, 9, 10, 11, 12, 13, 14, 15, 16, 17, 18, 19, 20, 21, 22, 23, 24, 25, 26, 27, 28, 29, 30, 31, 32, 33, 34, 35, 36, 37, 38, 39, 40, 41, 42, 43, 44, 45, 46, 47, 48, 49, 50, 51, 52, 53, 54, 55, 56, 57, 58, 59, 60, 61, 62, 63] [64, 65, 66, 67, 68, 69, 70, 71, 72, 73, 74, 75, 76, 77, 78, 79, 80, 81, 82, 83, 84, 85, 86, 87, 88, 89, 90, 91] (wr := (WM cI cJ cII cJJ adm f9_size f9_equations f9_areSteps f9_foundMany f9_many f9_rank f9_freeMany f9_arePlans f9_planMany aim alm)) rfl rfl rfl rfl (by decide) hM ⟨by decide +kernel, by decide +kernel⟩ rfl rfl (Or.inr ⟨rfl, rfl, rfl⟩) (rest := []) rfl rfl rfl hl.1 rfl (Nat.le_of_ble_eq_true rfl) dL_law_776 ⟨Nat.le_of_ble_eq_true rfl, Nat.le_of_ble_eq_true rfl⟩ (fun r3 t H1 locs ht hB hj hS => ?_)
  obtain ⟨v5, v6, v7, v8, v9, v10, v11, ai12, al13, w14, w15, w16, w17, ⟨pr3_0, pr3_1, pr3_2, pr3_3, pr3_4, pr3_5, pr3_6, pr3_7, pr3_8, pr3_9, pr3_10, pr3_11⟩, hP1, -, hD1⟩ := hB
  rw [ht] at hP1
  obtain ⟨hP, hD⟩ := hj _ hP1 hD1
  clear ht hj hP1 hD1 hM
  generalize H1 = H4 at hP hS ⊢
  refine lv_pop hx hb dL_law_779 rfl ?_
  refine lv_aload_n hx hb dL_law_780 rfl (lv_at hl 1 rfl) ?_
  refine lv_aload_n hx hb dL_law_781 rfl (lv_at hl 3 rfl) ?_
  refine lv_iload_n hx hb dL_law_782 rfl (lv_at hl 0 rfl) ?_
  refine lv_iconst (v := 1) hx hb dL_law_783 (by decide) ?_
  refine v_iadd hx hb dL_law_784 _ rfl ?_
  refine lv_topi (fun z18 e_z18 => ?_)
  have g_z18 : z18.toInt = i.toInt + 1 := by rw [e_z18]; exact n_add (a := i.toInt) (b := 1) rfl (by decide +kernel) (by omega) (by omega)
  refine va_sld hx hb hX0 hbl hbA hS (j_in (a := z18.toInt) rfl (by omega) (by omega)) dL_law_785 ?_
  refine lv_topi (fun y19 e_y19 => ?_)
  have q_y19 : y2 = y19 := by rw [e_y2, e_y19, e_z1, e_z18]
  clear e_y19
  subst q_y19
  have hM := r060_X9_split l dC dI cI cJ cII cJJ H4.size 0 adm f9_size f9_equations f9_areSteps f9_foundMany f9_many f9_rank f9_freeMany f9_arePlans f9_planMany aim alm y2 (by omega) (by omega) (by omega) (by omega) (by omega) (by omega) (by omega) (by omega) (by omega) h26 h25
  refine k3V_i (q0 := 22) ⟨hx, hb, hml, hown, hts⟩ hK hP hD hS hA hX cv_RL_96 [0, 1, 2, 3, 4, 5, 6, 7, 8, 9, 10, 11, 12, 13, 14, 15, 16, 17, 18, 19, 20, 21, 22, 23, 24, 25, 26, 27] [28, 29, 30, 31, 32, 33, 34, 35, 36, 37, 38, 39, 40, 41, 42, 43, 44, 45, 46, 47, 48, 49, 50, 51, 52, 53, 54, 55, 56, 57, 58, 59, 60, 61, 62, 63, 64, 65, 66, 67, 68, 69, 70, 71, 72, 73, 74, 75, 76, 77, 78, 79, 80, 81, 82, 83, 84, 85, 86, 87, 88, 89, 90, 91] (wr := (WX cI cJ cII cJJ adx f3_unknowns f3_equations v5 v6 v7 v8 v9 v10 v11 f4_blockCount f4_blockLength f4_lastIsFree f4_stale ai12 al13 w14 w15 w16 w17)) rfl rfl rfl rfl (by decide) hM ⟨by decide +kernel, by decide +kernel⟩ rfl rfl (Or.inl rfl) (rest := []) rfl rfl rfl hl.1 rfl (Nat.le_of_ble_eq_true rfl) dL_law_786 ⟨Nat.le_of_ble_eq_true rfl, Nat.le_of_ble_eq_true rfl⟩ (fun r20 t H1 locs ht hB hj hS => ?_)
  obtain ⟨v22, v23, v24, v25, v26, ai27, al28, ⟨pr20_0, pr20_1, pr20_2, pr20_3, pr20_4, pr20_5, pr20_6, pr20_7, pr20_8⟩, hP1, -, hD1⟩ := hB
  rw [ht] at hP1
  obtain ⟨hP, hD⟩ := hj _ hP1 hD1
  clear ht hj hP1 hD1 hM
  generalize H1 = H21 at hP hS ⊢
  refine lv_pop hx hb dL_law_789 rfl ?_
  refine lv_goto (tgt := 1072) hx hb dL_law_790 (by decide) ?_
  obtain ⟨z, e_z⟩ : ∃ q : Int32, q = i + Int32.ofInt 5 := ⟨_, rfl⟩
  have g_z : z.toInt = i.toInt + 5 := by rw [e_z]; exact n_add (a := i.toInt) (b := 5) rfl (by decide +kernel) (by omega) (by omega)
  refine lv_iinc (v := z) (lv' := [(3, .int z), (2, .ref (adm 22)), (1, .ref (adx 0)), (0, .ref b)]) hx hb dL_law_1072 hl (k := 0) rfl e_z.symm (by decide) rfl (fun ls hl => ?_)
  refine lv_goto (tgt := 18) hx hb dL_law_1075 (by decide) ?_
  exact K z g_z f3_unknowns f3_equations v5 v6 v7 v8 v9 v10 v11 f4_blockCount f4_blockLength f4_lastIsFree f4_stale ai12 al13 w14 w15 w16 w17 f9_size f9_equations v22 v23 v24 v25 v26 f9_arePlans f9_planMany ai27 al28 _ _ _ (by omega) (by omega) (by omega) (by omega) (by omega) (by omega) (by omega) (by omega) (by omega) (by omega) (by omega) pr3_5 pr3_8 pr3_9 pr3_10 pr3_11 (by omega) (by omega) (by omega) (by omega) (by omega) (by omega) (by omega) (by omega) (by omega) pr20_6 pr20_5 (by omega) (by omega) (SDr_m (SDr_x h29 pr3_6 (by decide)) pr20_7 (by decide)) (TRr_m (TRr_x h30 pr3_6 (by decide)) pr20_7 (by decide)) hP hD hS hl
