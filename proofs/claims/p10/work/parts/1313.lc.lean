set_option maxRecDepth 100000 in
set_option maxHeartbeats 4000000 in
theorem lc_29 {p : Program} {e : Env} {s : State} {m : MethodId} {below : List Frame} {meth : Method} {c : Code} (l : Launch) {b L : Nat} {xs : Nat → Int32} (C0 : lw_At p s m meth c b L xs) (hL : L ≤ 2560) {dC : Nat → ClassId} {dI : Nat → Nat → Nat} {cI cJ cII cJJ : ClassId} {g : Nat} {adx adm : Nat → Nat} {i : Int32} (hi0 : 0 ≤ i.toInt) (hi1 : i.toInt + 5 ≤ (L : Int)) (K : ∀ z : Int32, z.toInt = i.toInt + 5 → LPd p l e s m below meth c b dC dI cI cJ cII cJJ adx adm z) (hK : va_K (dC, dI) vwCl (TY cI cJ cII cJJ) s) (hX : GXA 1 g (AA s) s) : ∀ (f3_unknowns f3_equations f2_roundSupports f2_stale f7_size f1_size f5_keptSize f5_aheadSize f0_solved f4_blockCount f4_blockLength f4_lastIsFree f4_stale : Int32) (aix : Nat → Nat → Int32) (alx : Nat → Nat → Int64) (w0 w1 w2 w3 : Nat) (f9_size f9_equations f9_areSteps f9_foundMany f9_many f9_rank f9_freeMany f9_arePlans f9_planMany : Int32) (aim : Nat → Nat → Int32) (alm : Nat → Nat → Int64) (H : Heap) (locs : List Loc) (ls : Array Slot), (1 ≤ f3_unknowns.toInt ∧ f3_unknowns.toInt ≤ 4) → (0 ≤ f3_equations.toInt ∧ f3_equations.toInt ≤ 3) → (0 ≤ f2_stale.toInt ∧ f2_stale.toInt ≤ 1) → (0 ≤ f7_size.toInt ∧ f7_size.toInt ≤ 256) → (0 ≤ f1_size.toInt ∧ f1_size.toInt ≤ 4) → (0 ≤ f5_keptSize.toInt ∧ f5_keptSize.toInt ≤ 128) → (0 ≤ f5_aheadSize.toInt ∧ f5_aheadSize.toInt ≤ 128) → (0 ≤ f4_blockCount.toInt ∧ f4_blockCount.toInt ≤ 9261) → (0 ≤ f4_blockLength.toInt ∧ f4_blockLength.toInt ≤ 21) → (0 ≤ f4_lastIsFree.toInt ∧ f4_lastIsFree.toInt ≤ 1) → (0 ≤ f4_stale.toInt ∧ f4_stale.toInt ≤ 1) → IAX aix → RWX adx w0 → RWX adx w1 → RWX adx w2 → RWX adx w3 → (1 ≤ f9_size.toInt ∧ f9_size.toInt ≤ 4) → (0 ≤ f9_equations.toInt ∧ f9_equations.toInt ≤ 3) → (0 ≤ f9_areSteps.toInt ∧ f9_areSteps.toInt ≤ 1) → (0 ≤ f9_foundMany.toInt ∧ f9_foundMany.toInt ≤ 99999) → (0 ≤ f9_many.toInt ∧ f9_many.toInt ≤ 6000) → (0 ≤ f9_rank.toInt ∧ f9_rank.toInt ≤ 3) → (0 ≤ f9_freeMany.toInt ∧ f9_freeMany.toInt ≤ 4) → (0 ≤ f9_arePlans.toInt ∧ f9_arePlans.toInt ≤ 1) → (0 ≤ f9_planMany.toInt ∧ f9_planMany.toInt ≤ 194481) → IAM aim → (f9_areSteps.toInt = 0 ∨ CIa aim f9_size f9_many.toInt) → f3_unknowns.toInt = f9_size.toInt → f3_equations.toInt = f9_equations.toInt → SDr aix aim f3_equations.toInt → TRr aix aim → va_P (dC, dI) vwCl ((WX cI cJ cII cJJ adx f3_unknowns f3_equations f2_roundSupports f2_stale f7_size f1_size f5_keptSize f5_aheadSize f0_solved f4_blockCount f4_blockLength f4_lastIsFree f4_stale aix alx w0 w1 w2 w3) ++ (WM cI cJ cII cJJ adm f9_size f9_equations f9_areSteps f9_foundMany f9_many f9_rank f9_freeMany f9_arePlans f9_planMany aim alm)) H → va_D (AA s) ((WX cI cJ cII cJJ adx f3_unknowns f3_equations f2_roundSupports f2_stale f7_size f1_size f5_keptSize f5_aheadSize f0_solved f4_blockCount f4_blockLength f4_lastIsFree f4_stale aix alx w0 w1 w2 w3) ++ (WM cI cJ cII cJJ adm f9_size f9_equations f9_areSteps f9_foundMany f9_many f9_rank f9_freeMany f9_arePlans f9_planMany aim alm)) → va_S (AA s) s.heap H locs → lv_has ls 4 [(3, .int i), (2, .ref (adm 22)), (1, .ref (adx 0)), (0, .ref b)] → W p l e room_1 s m #[Value.ref b] below meth c H locs 600000 7302250 (lw_Z below #[Value.ref b] s) (F0 m 1003 ls []) := by
  obtain ⟨hx, hb, hr, hml, hown, hts0, hX0, hbl, hlocks, hgv⟩ := id C0
  have hts : ∀ w ∈ TT, w.before #[Value.ref b] s = true := fun w h => hts0 w (TT_tbl h)
  have hA : ∀ q : Nat, s.heap.size ≤ q → AA s q := fun _ h => h
  have hbA : ¬ AA s b := Nat.not_le.mpr hbl
  have hown : s.vm.findClass RL = some m.cls := hown
  intro f3_unknowns f3_equations f2_roundSupports f2_stale f7_size f1_size f5_keptSize f5_aheadSize f0_solved f4_blockCount f4_blockLength f4_lastIsFree f4_stale aix alx w0 w1 w2 w3 f9_size f9_equations f9_areSteps f9_foundMany f9_many f9_rank f9_freeMany f9_arePlans f9_planMany aim alm H locs ls h0 h1 h2 h3 h4 h5 h6 h7 h8 h9 h10 h11 h12 h13 h14 h15 h16 h17 h18 h19 h20 h21 h22 h23 h24 h25 h26 h27 h28 h29 h30 hP hD hS hl
  refine lv_aload_n hx hb dL_law_1003 rfl (lv_at hl 2 rfl) ?_
  refine lv_aload_n hx hb dL_law_1004 rfl (lv_at hl 3 rfl) ?_
  refine lv_iload_n hx hb dL_law_1005 rfl (lv_at hl 0 rfl) ?_
  refine lv_iconst (v := 1) hx hb dL_law_1006 (by decide) ?_
  refine v_iadd hx hb dL_law_1007 _ rfl ?_
  refine lv_topi (fun z1 e_z1 => ?_)
  have g_z1 : z1.toInt = i.toInt + 1 := by rw [e_z1]; exact n_add (a := i.toInt) (b := 1) rfl (by decide +kernel) (by omega) (by omega)
  refine va_sld hx hb hX0 hbl hbA hS (j_in (a := z1.toInt) rfl (by omega) (by omega)) dL_law_1008 ?_
  refine lv_topi (fun y2 e_y2 => ?_)
  have hM := m131_X8_extreme l dC dI cI cJ cII cJJ H.size 0 adx f3_unknowns f3_equations f2_roundSupports f2_stale f7_size f1_size f5_keptSize f5_aheadSize f0_solved f4_blockCount f4_blockLength f4_lastIsFree f4_stale aix alx w0 w1 w2 w3 y2 (by omega) (by omega) (by omega) (by omega) (by omega) (by omega) (by omega) (by omega) (by omega) (by omega) (by omega) h11 h12 h13 h14 h15
  refine k3V_i (q0 := 0) ⟨hx, hb, hml, hown, hts⟩ hK hP hD hS hA hX cv_RL_138 [0, 1, 2, 3, 4, 5, 6, 7, 8, 9, 10, 11, 12, 13, 14, 15, 16, 17, 18, 19, 20, 21, 22, 23, 24, 25, 26, 27, 28, 29, 30, 31, 32, 33, 34, 35, 36, 37, 38, 39, 40, 41, 42, 43, 44, 45, 46, 47, 48, 49, 50, 51, 52, 53, 54, 55, 56, 57, 58, 59, 60, 61, 62, 63] [64, 65, 66, 67, 68, 69, 70, 71, 72, 73, 74, 75, 76, 77, 78, 79, 80, 81, 82, 83, 84, 85, 86, 87, 88, 89, 90, 91] (wr := (WM cI cJ cII cJJ adm f9_size f9_equations f9_areSteps f9_foundMany f9_many f9_rank f9_freeMany f9_arePlans f9_planMany aim alm)) rfl rfl rfl rfl (by decide) hM ⟨by decide +kernel, by decide +kernel⟩ rfl rfl (Or.inl rfl) (rest := []) rfl rfl rfl hl.1 rfl (Nat.le_of_ble_eq_true rfl) dL_law_1009 ⟨Nat.le_of_ble_eq_true rfl, Nat.le_of_ble_eq_true rfl⟩ (fun r3 t H1 locs ht hB hj hS => ?_)
  obtain ⟨v5, v6, v7, v8, ai9, ⟨pr3_0, pr3_1, pr3_2, pr3_3, pr3_4, pr3_5⟩, hP1, -, hD1⟩ := hB
  rw [ht] at hP1
  obtain ⟨hP, hD⟩ := hj _ hP1 hD1
  clear ht hj hP1 hD1 hM
  generalize H1 = H4 at hP hS ⊢
  refine lv_pop hx hb dL_law_1012 rfl ?_
  refine lv_aload_n hx hb dL_law_1013 rfl (lv_at hl 1 rfl) ?_
  refine lv_aload_n hx hb dL_law_1014 rfl (lv_at hl 3 rfl) ?_
  refine lv_iload_n hx hb dL_law_1015 rfl (lv_at hl 0 rfl) ?_
  refine lv_iconst (v := 1) hx hb dL_law_1016 (by decide) ?_
  refine v_iadd hx hb dL_law_1017 _ rfl ?_
  refine lv_topi (fun z10 e_z10 => ?_)
  have g_z10 : z10.toInt = i.toInt + 1 := by rw [e_z10]; exact n_add (a := i.toInt) (b := 1) rfl (by decide +kernel) (by omega) (by omega)
  refine va_sld hx hb hX0 hbl hbA hS (j_in (a := z10.toInt) rfl (by omega) (by omega)) dL_law_1018 ?_
  refine lv_topi (fun y11 e_y11 => ?_)
  have q_y11 : y2 = y11 := by rw [e_y2, e_y11, e_z1, e_z10]
  clear e_y11
  subst q_y11
  have hM := r075_X9_extreme l dC dI cI cJ cII cJJ H4.size 0 adm f9_size f9_equations f9_areSteps f9_foundMany f9_many f9_rank f9_freeMany f9_arePlans f9_planMany aim alm y2 (by omega) (by omega) (by omega) (by omega) (by omega) (by omega) (by omega) (by omega) (by omega) h26 h25
  refine k3V_i (q0 := 22) ⟨hx, hb, hml, hown, hts⟩ hK hP hD hS hA hX cv_RL_141 [0, 1, 2, 3, 4, 5, 6, 7, 8, 9, 10, 11, 12, 13, 14, 15, 16, 17, 18, 19, 20, 21, 22, 23, 24, 25, 26, 27] [28, 29, 30, 31, 32, 33, 34, 35, 36, 37, 38, 39, 40, 41, 42, 43, 44, 45, 46, 47, 48, 49, 50, 51, 52, 53, 54, 55, 56, 57, 58, 59, 60, 61, 62, 63, 64, 65, 66, 67, 68, 69, 70, 71, 72, 73, 74, 75, 76, 77, 78, 79, 80, 81, 82, 83, 84, 85, 86, 87, 88, 89, 90, 91] (wr := (WX cI cJ cII cJJ adx f3_unknowns f3_equations f2_roundSupports f2_stale f7_size f1_size f5_keptSize f5_aheadSize f0_solved v5 v6 v7 v8 ai9 alx w0 w1 w2 w3)) rfl rfl rfl rfl (by decide) hM ⟨by decide +kernel, by decide +kernel⟩ rfl rfl (Or.inl rfl) (rest := []) rfl rfl rfl hl.1 rfl (Nat.le_of_ble_eq_true rfl) dL_law_1019 ⟨Nat.le_of_ble_eq_true rfl, Nat.le_of_ble_eq_true rfl⟩ (fun r12 t H1 locs ht hB hj hS => ?_)
  obtain ⟨v14, v15, ai16, ⟨pr12_0, pr12_1, pr12_2, pr12_3, pr12_4, pr12_5⟩, hP1, -, hD1⟩ := hB
  rw [ht] at hP1
  obtain ⟨hP, hD⟩ := hj _ hP1 hD1
  clear ht hj hP1 hD1 hM
  generalize H1 = H13 at hP hS ⊢
  refine lv_pop hx hb dL_law_1022 rfl ?_
  refine lv_goto (tgt := 1072) hx hb dL_law_1023 (by decide) ?_
  obtain ⟨z, e_z⟩ : ∃ q : Int32, q = i + Int32.ofInt 5 := ⟨_, rfl⟩
  have g_z : z.toInt = i.toInt + 5 := by rw [e_z]; exact n_add (a := i.toInt) (b := 5) rfl (by decide +kernel) (by omega) (by omega)
  refine lv_iinc (v := z) (lv' := [(3, .int z), (2, .ref (adm 22)), (1, .ref (adx 0)), (0, .ref b)]) hx hb dL_law_1072 hl (k := 0) rfl e_z.symm (by decide) rfl (fun ls hl => ?_)
  refine lv_goto (tgt := 18) hx hb dL_law_1075 (by decide) ?_
  exact K z g_z f3_unknowns f3_equations f2_roundSupports f2_stale f7_size f1_size f5_keptSize f5_aheadSize f0_solved v5 v6 v7 v8 ai9 alx w0 w1 w2 w3 f9_size f9_equations f9_areSteps f9_foundMany f9_many f9_rank f9_freeMany v14 v15 ai16 alm _ _ _ (by omega) (by omega) (by omega) (by omega) (by omega) (by omega) (by omega) (by omega) (by omega) (by omega) (by omega) pr3_4 h12 h13 h14 h15 (by omega) (by omega) (by omega) (by omega) (by omega) (by omega) (by omega) (by omega) (by omega) pr12_4 pr12_3 (by omega) (by omega) (SDr_m (SDr_x h29 pr3_5 (by decide)) pr12_5 (by decide)) (TRr_m (TRr_x h30 pr3_5 (by decide)) pr12_5 (by decide)) hP hD hS hl
set_option maxRecDepth 100000 in
set_option maxHeartbeats 4000000 in
theorem lc_30 {p : Program} {e : Env} {s : State} {m : MethodId} {below : List Frame} {meth : Method} {c : Code} (l : Launch) {b L : Nat} {xs : Nat → Int32} (C0 : lw_At p s m meth c b L xs) (hL : L ≤ 2560) {dC : Nat → ClassId} {dI : Nat → Nat → Nat} {cI cJ cII cJJ : ClassId} {g : Nat} {adx adm : Nat → Nat} {i : Int32} (hi0 : 0 ≤ i.toInt) (hi1 : i.toInt + 5 ≤ (L : Int)) (K : ∀ z : Int32, z.toInt = i.toInt + 5 → LPd p l e s m below meth c b dC dI cI cJ cII cJJ adx adm z) (hK : va_K (dC, dI) vwCl (TY cI cJ cII cJJ) s) (hX : GXA 1 g (AA s) s) : ∀ (f3_unknowns f3_equations f2_roundSupports f2_stale f7_size f1_size f5_keptSize f5_aheadSize f0_solved f4_blockCount f4_blockLength f4_lastIsFree f4_stale : Int32) (aix : Nat → Nat → Int32) (alx : Nat → Nat → Int64) (w0 w1 w2 w3 : Nat) (f9_size f9_equations f9_areSteps f9_foundMany f9_many f9_rank f9_freeMany f9_arePlans f9_planMany : Int32) (aim : Nat → Nat → Int32) (alm : Nat → Nat → Int64) (H : Heap) (locs : List Loc) (ls : Array Slot), (1 ≤ f3_unknowns.toInt ∧ f3_unknowns.toInt ≤ 4) → (0 ≤ f3_equations.toInt ∧ f3_equations.toInt ≤ 3) → (0 ≤ f2_stale.toInt ∧ f2_stale.toInt ≤ 1) → (0 ≤ f7_size.toInt ∧ f7_size.toInt ≤ 256) → (0 ≤ f1_size.toInt ∧ f1_size.toInt ≤ 4) → (0 ≤ f5_keptSize.toInt ∧ f5_keptSize.toInt ≤ 128) → (0 ≤ f5_aheadSize.toInt ∧ f5_aheadSize.toInt ≤ 128) → (0 ≤ f4_blockCount.toInt ∧ f4_blockCount.toInt ≤ 9261) → (0 ≤ f4_blockLength.toInt ∧ f4_blockLength.toInt ≤ 21) → (0 ≤ f4_lastIsFree.toInt ∧ f4_lastIsFree.toInt ≤ 1) → (0 ≤ f4_stale.toInt ∧ f4_stale.toInt ≤ 1) → IAX aix → RWX adx w0 → RWX adx w1 → RWX adx w2 → RWX adx w3 → (1 ≤ f9_size.toInt ∧ f9_size.toInt ≤ 4) → (0 ≤ f9_equations.toInt ∧ f9_equations.toInt ≤ 3) → (0 ≤ f9_areSteps.toInt ∧ f9_areSteps.toInt ≤ 1) → (0 ≤ f9_foundMany.toInt ∧ f9_foundMany.toInt ≤ 99999) → (0 ≤ f9_many.toInt ∧ f9_many.toInt ≤ 6000) → (0 ≤ f9_rank.toInt ∧ f9_rank.toInt ≤ 3) → (0 ≤ f9_freeMany.toInt ∧ f9_freeMany.toInt ≤ 4) → (0 ≤ f9_arePlans.toInt ∧ f9_arePlans.toInt ≤ 1) → (0 ≤ f9_planMany.toInt ∧ f9_planMany.toInt ≤ 194481) → IAM aim → (f9_areSteps.toInt = 0 ∨ CIa aim f9_size f9_many.toInt) → f3_unknowns.toInt = f9_size.toInt → f3_equations.toInt = f9_equations.toInt → SDr aix aim f3_equations.toInt → TRr aix aim → va_P (dC, dI) vwCl ((WX cI cJ cII cJJ adx f3_unknowns f3_equations f2_roundSupports f2_stale f7_size f1_size f5_keptSize f5_aheadSize f0_solved f4_blockCount f4_blockLength f4_lastIsFree f4_stale aix alx w0 w1 w2 w3) ++ (WM cI cJ cII cJJ adm f9_size f9_equations f9_areSteps f9_foundMany f9_many f9_rank f9_freeMany f9_arePlans f9_planMany aim alm)) H → va_D (AA s) ((WX cI cJ cII cJJ adx f3_unknowns f3_equations f2_roundSupports f2_stale f7_size f1_size f5_keptSize f5_aheadSize f0_solved f4_blockCount f4_blockLength f4_lastIsFree f4_stale aix alx w0 w1 w2 w3) ++ (WM cI cJ cII cJJ adm f9_size f9_equations f9_areSteps f9_foundMany f9_many f9_rank f9_freeMany f9_arePlans f9_planMany aim alm)) → va_S (AA s) s.heap H locs → lv_has ls 4 [(3, .int i), (2, .ref (adm 22)), (1, .ref (adx 0)), (0, .ref b)] → W p l e room_1 s m #[Value.ref b] below meth c H locs 600000 7302250 (lw_Z below #[Value.ref b] s) (F0 m 1026 ls []) := by
  obtain ⟨hx, hb, hr, hml, hown, hts0, hX0, hbl, hlocks, hgv⟩ := id C0
  have hts : ∀ w ∈ TT, w.before #[Value.ref b] s = true := fun w h => hts0 w (TT_tbl h)
  have hA : ∀ q : Nat, s.heap.size ≤ q → AA s q := fun _ h => h
  have hbA : ¬ AA s b := Nat.not_le.mpr hbl
  have hown : s.vm.findClass RL = some m.cls := hown
  intro f3_unknowns f3_equations f2_roundSupports f2_stale f7_size f1_size f5_keptSize f5_aheadSize f0_solved f4_blockCount f4_blockLength f4_lastIsFree f4_stale aix alx w0 w1 w2 w3 f9_size f9_equations f9_areSteps f9_foundMany f9_many f9_rank f9_freeMany f9_arePlans f9_planMany aim alm H locs ls h0 h1 h2 h3 h4 h5 h6 h7 h8 h9 h10 h11 h12 h13 h14 h15 h16 h17 h18 h19 h20 h21 h22 h23 h24 h25 h26 h27 h28 h29 h30 hP hD hS hl
  refine lv_aload_n hx hb dL_law_1026 rfl (lv_at hl 2 rfl) ?_
  refine lv_aload_n hx hb dL_law_1027 rfl (lv_at hl 3 rfl) ?_
  refine lv_iload_n hx hb dL_law_1028 rfl (lv_at hl 0 rfl) ?_
  refine lv_iconst (v := 1) hx hb dL_law_1029 (by decide) ?_
  refine v_iadd hx hb dL_law_1030 _ rfl ?_
  refine lv_topi (fun z1 e_z1 => ?_)
  have g_z1 : z1.toInt = i.toInt + 1 := by rw [e_z1]; exact n_add (a := i.toInt) (b := 1) rfl (by decide +kernel) (by omega) (by omega)
  refine va_sld hx hb hX0 hbl hbA hS (j_in (a := z1.toInt) rfl (by omega) (by omega)) dL_law_1031 ?_
  refine lv_topi (fun y2 e_y2 => ?_)
  have hM := m178_X8_near l dC dI cI cJ cII cJJ H.size g adx f3_unknowns f3_equations f2_roundSupports f2_stale f7_size f1_size f5_keptSize f5_aheadSize f0_solved f4_blockCount f4_blockLength f4_lastIsFree f4_stale aix alx w0 w1 w2 w3 y2 (by omega) (by omega) (by omega) (by omega) (by omega) (by omega) (by omega) (by omega) (by omega) (by omega) (by omega) h11 h12 h13 h14 h15
  refine k3V_i (q0 := 0) ⟨hx, hb, hml, hown, hts⟩ hK hP hD hS hA hX cv_RL_142 [0, 1, 2, 3, 4, 5, 6, 7, 8, 9, 10, 11, 12, 13, 14, 15, 16, 17, 18, 19, 20, 21, 22, 23, 24, 25, 26, 27, 28, 29, 30, 31, 32, 33, 34, 35, 36, 37, 38, 39, 40, 41, 42, 43, 44, 45, 46, 47, 48, 49, 50, 51, 52, 53, 54, 55, 56, 57, 58, 59, 60, 61, 62, 63] [64, 65, 66, 67, 68, 69, 70, 71, 72, 73, 74, 75, 76, 77, 78, 79, 80, 81, 82, 83, 84, 85, 86, 87, 88, 89, 90, 91] (wr := (WM cI cJ cII cJJ adm f9_size f9_equations f9_areSteps f9_foundMany f9_many f9_rank f9_freeMany f9_arePlans f9_planMany aim alm)) rfl rfl rfl rfl (by decide) hM ⟨by decide +kernel, by decide +kernel⟩ rfl rfl (Or.inr ⟨rfl, rfl, rfl⟩) (rest := []) rfl rfl rfl hl.1 rfl (Nat.le_of_ble_eq_true rfl) dL_law_1032 ⟨Nat.le_of_ble_eq_true rfl, Nat.le_of_ble_eq_true rfl⟩ (fun r3 t H1 locs ht hB hj hS => ?_)
  obtain ⟨v5, v6, v7, v8, v9, v10, v11, v12, v13, v14, v15, ai16, al17, w18, w19, w20, w21, ⟨pr3_0, pr3_1, pr3_2, pr3_3, pr3_4, pr3_5, pr3_6, pr3_7, pr3_8, pr3_9, pr3_10, pr3_11, pr3_12, pr3_13, pr3_14, pr3_15⟩, hP1, -, hD1⟩ := hB
  rw [ht] at hP1
  obtain ⟨hP, hD⟩ := hj _ hP1 hD1
  clear ht hj hP1 hD1 hM
  generalize H1 = H4 at hP hS ⊢
  refine lv_pop hx hb dL_law_1035 rfl ?_
  refine lv_aload_n hx hb dL_law_1036 rfl (lv_at hl 1 rfl) ?_
  refine lv_aload_n hx hb dL_law_1037 rfl (lv_at hl 3 rfl) ?_
  refine lv_iload_n hx hb dL_law_1038 rfl (lv_at hl 0 rfl) ?_
  refine lv_iconst (v := 1) hx hb dL_law_1039 (by decide) ?_
  refine v_iadd hx hb dL_law_1040 _ rfl ?_
  refine lv_topi (fun z22 e_z22 => ?_)
  have g_z22 : z22.toInt = i.toInt + 1 := by rw [e_z22]; exact n_add (a := i.toInt) (b := 1) rfl (by decide +kernel) (by omega) (by omega)
  refine va_sld hx hb hX0 hbl hbA hS (j_in (a := z22.toInt) rfl (by omega) (by omega)) dL_law_1041 ?_
  refine lv_topi (fun y23 e_y23 => ?_)
  have q_y23 : y2 = y23 := by rw [e_y2, e_y23, e_z1, e_z22]
  clear e_y23
  subst q_y23
  have hM := r076_X9_near l dC dI cI cJ cII cJJ H4.size 0 adm f9_size f9_equations f9_areSteps f9_foundMany f9_many f9_rank f9_freeMany f9_arePlans f9_planMany aim alm y2 (by omega) (by omega) (by omega) (by omega) (by omega) (by omega) (by omega) (by omega) (by omega) h26 h25
  refine k3V_i (q0 := 22) ⟨hx, hb, hml, hown, hts⟩ hK hP hD hS hA hX cv_RL_145 [0, 1, 2, 3, 4, 5, 6, 7, 8, 9, 10, 11, 12, 13, 14, 15, 16, 17, 18, 19, 20, 21, 22, 23, 24, 25, 26, 27] [28, 29, 30, 31, 32, 33, 34, 35, 36, 37, 38, 39, 40, 41, 42, 43, 44, 45, 46, 47, 48, 49, 50, 51, 52, 53, 54, 55, 56, 57, 58, 59, 60, 61, 62, 63, 64, 65, 66, 67, 68, 69, 70, 71, 72, 73, 74, 75, 76, 77, 78, 79, 80, 81, 82, 83, 84, 85, 86, 87, 88, 89, 90, 91] (wr := (WX cI cJ cII cJJ adx f3_unknowns f3_equations v5 v6 v7 v8 v9 v10 v11 v12 v13 v14 v15 ai16 al17 w18 w19 w20 w21)) rfl rfl rfl rfl (by decide) hM ⟨by decide +kernel, by decide +kernel⟩ rfl rfl (Or.inl rfl) (rest := []) rfl rfl rfl hl.1 rfl (Nat.le_of_ble_eq_true rfl) dL_law_1042 ⟨Nat.le_of_ble_eq_true rfl, Nat.le_of_ble_eq_true rfl⟩ (fun r24 t H1 locs ht hB hj hS => ?_)
  obtain ⟨v26, v27, v28, v29, v30, v31, v32, ai33, al34, ⟨pr24_0, pr24_1, pr24_2, pr24_3, pr24_4, pr24_5, pr24_6, pr24_7, pr24_8, pr24_9, pr24_10⟩, hP1, -, hD1⟩ := hB
  rw [ht] at hP1
  obtain ⟨hP, hD⟩ := hj _ hP1 hD1
  clear ht hj hP1 hD1 hM
  generalize H1 = H25 at hP hS ⊢
  refine lv_pop hx hb dL_law_1045 rfl ?_
  refine lv_goto (tgt := 1072) hx hb dL_law_1046 (by decide) ?_
  obtain ⟨z, e_z⟩ : ∃ q : Int32, q = i + Int32.ofInt 5 := ⟨_, rfl⟩
  have g_z : z.toInt = i.toInt + 5 := by rw [e_z]; exact n_add (a := i.toInt) (b := 5) rfl (by decide +kernel) (by omega) (by omega)
  refine lv_iinc (v := z) (lv' := [(3, .int z), (2, .ref (adm 22)), (1, .ref (adx 0)), (0, .ref b)]) hx hb dL_law_1072 hl (k := 0) rfl e_z.symm (by decide) rfl (fun ls hl => ?_)
  refine lv_goto (tgt := 18) hx hb dL_law_1075 (by decide) ?_
  exact K z g_z f3_unknowns f3_equations v5 v6 v7 v8 v9 v10 v11 v12 v13 v14 v15 ai16 al17 w18 w19 w20 w21 f9_size f9_equations v26 v27 v28 v29 v30 v31 v32 ai33 al34 _ _ _ (by omega) (by omega) (by omega) (by omega) (by omega) (by omega) (by omega) (by omega) (by omega) (by omega) (by omega) pr3_9 pr3_12 pr3_13 pr3_14 pr3_15 (by omega) (by omega) (by omega) (by omega) (by omega) (by omega) (by omega) (by omega) (by omega) pr24_8 pr24_7 (by omega) (by omega) (SDr_m (SDr_x h29 pr3_10 (by decide)) pr24_9 (by decide)) (TRr_m (TRr_x h30 pr3_10 (by decide)) pr24_9 (by decide)) hP hD hS hl
set_option maxRecDepth 100000 in
set_option maxHeartbeats 4000000 in
theorem lc_31 {p : Program} {e : Env} {s : State} {m : MethodId} {below : List Frame} {meth : Method} {c : Code} (l : Launch) {b L : Nat} {xs : Nat → Int32} (C0 : lw_At p s m meth c b L xs) (hL : L ≤ 2560) {dC : Nat → ClassId} {dI : Nat → Nat → Nat} {cI cJ cII cJJ : ClassId} {g : Nat} {adx adm : Nat → Nat} {i : Int32} (hi0 : 0 ≤ i.toInt) (hi1 : i.toInt + 5 ≤ (L : Int)) (K : ∀ z : Int32, z.toInt = i.toInt + 5 → LPd p l e s m below meth c b dC dI cI cJ cII cJJ adx adm z) (hK : va_K (dC, dI) vwCl (TY cI cJ cII cJJ) s) (hX : GXA 1 g (AA s) s) : ∀ (f3_unknowns f3_equations f2_roundSupports f2_stale f7_size f1_size f5_keptSize f5_aheadSize f0_solved f4_blockCount f4_blockLength f4_lastIsFree f4_stale : Int32) (aix : Nat → Nat → Int32) (alx : Nat → Nat → Int64) (w0 w1 w2 w3 : Nat) (f9_size f9_equations f9_areSteps f9_foundMany f9_many f9_rank f9_freeMany f9_arePlans f9_planMany : Int32) (aim : Nat → Nat → Int32) (alm : Nat → Nat → Int64) (H : Heap) (locs : List Loc) (ls : Array Slot), (1 ≤ f3_unknowns.toInt ∧ f3_unknowns.toInt ≤ 4) → (0 ≤ f3_equations.toInt ∧ f3_equations.toInt ≤ 3) → (0 ≤ f2_stale.toInt ∧ f2_stale.toInt ≤ 1) → (0 ≤ f7_size.toInt ∧ f7_size.toInt ≤ 256) → (0 ≤ f1_size.toInt ∧ f1_size.toInt ≤ 4) → (0 ≤ f5_keptSize.toInt ∧ f5_keptSize.toInt ≤ 128) → (0 ≤ f5_aheadSize.toInt ∧ f5_aheadSize.toInt ≤ 128) → (0 ≤ f4_blockCount.toInt ∧ f4_blockCount.toInt ≤ 9261) → (0 ≤ f4_blockLength.toInt ∧ f4_blockLength.toInt ≤ 21) → (0 ≤ f4_lastIsFree.toInt ∧ f4_lastIsFree.toInt ≤ 1) → (0 ≤ f4_stale.toInt ∧ f4_stale.toInt ≤ 1) → IAX aix → RWX adx w0 → RWX adx w1 → RWX adx w2 → RWX adx w3 → (1 ≤ f9_size.toInt ∧ f9_size.toInt ≤ 4) → (0 ≤ f9_equations.toInt ∧ f9_equations.toInt ≤ 3) → (0 ≤ f9_areSteps.toInt ∧ f9_areSteps.toInt ≤ 1) → (0 ≤ f9_foundMany.toInt ∧ f9_foundMany.toInt ≤ 99999) → (0 ≤ f9_many.toInt ∧ f9_many.toInt ≤ 6000) → (0 ≤ f9_rank.toInt ∧ f9_rank.toInt ≤ 3) → (0 ≤ f9_freeMany.toInt ∧ f9_freeMany.toInt ≤ 4) → (0 ≤ f9_arePlans.toInt ∧ f9_arePlans.toInt ≤ 1) → (0 ≤ f9_planMany.toInt ∧ f9_planMany.toInt ≤ 194481) → IAM aim → (f9_areSteps.toInt = 0 ∨ CIa aim f9_size f9_many.toInt) → f3_unknowns.toInt = f9_size.toInt → f3_equations.toInt = f9_equations.toInt → SDr aix aim f3_equations.toInt → TRr aix aim → va_P (dC, dI) vwCl ((WX cI cJ cII cJJ adx f3_unknowns f3_equations f2_roundSupports f2_stale f7_size f1_size f5_keptSize f5_aheadSize f0_solved f4_blockCount f4_blockLength f4_lastIsFree f4_stale aix alx w0 w1 w2 w3) ++ (WM cI cJ cII cJJ adm f9_size f9_equations f9_areSteps f9_foundMany f9_many f9_rank f9_freeMany f9_arePlans f9_planMany aim alm)) H → va_D (AA s) ((WX cI cJ cII cJJ adx f3_unknowns f3_equations f2_roundSupports f2_stale f7_size f1_size f5_keptSize f5_aheadSize f0_solved f4_blockCount f4_blockLength f4_lastIsFree f4_stale aix alx w0 w1 w2 w3) ++ (WM cI cJ cII cJJ adm f9_size f9_equations f9_areSteps f9_foundMany f9_many f9_rank f9_freeMany f9_arePlans f9_planMany aim alm)) → va_S (AA s) s.heap H locs → lv_has ls 4 [(3, .int i), (2, .ref (adm 22)), (1, .ref (adx 0)), (0, .ref b)] → W p l e room_1 s m #[Value.ref b] below meth c H locs 600000 7302250 (lw_Z below #[Value.ref b] s) (F0 m 1049 ls []) := by
  obtain ⟨hx, hb, hr, hml, hown, hts0, hX0, hbl, hlocks, hgv⟩ := id C0
  have hts : ∀ w ∈ TT, w.before #[Value.ref b] s = true := fun w h => hts0 w (TT_tbl h)
  have hA : ∀ q : Nat, s.heap.size ≤ q → AA s q := fun _ h => h
  have hbA : ¬ AA s b := Nat.not_le.mpr hbl
  have hown : s.vm.findClass RL = some m.cls := hown
  intro f3_unknowns f3_equations f2_roundSupports f2_stale f7_size f1_size f5_keptSize f5_aheadSize f0_solved f4_blockCount f4_blockLength f4_lastIsFree f4_stale aix alx w0 w1 w2 w3 f9_size f9_equations f9_areSteps f9_foundMany f9_many f9_rank f9_freeMany f9_arePlans f9_planMany aim alm H locs ls h0 h1 h2 h3 h4 h5 h6 h7 h8 h9 h10 h11 h12 h13 h14 h15 h16 h17 h18 h19 h20 h21 h22 h23 h24 h25 h26 h27 h28 h29 h30 hP hD hS hl
  refine lv_aload_n hx hb dL_law_1049 rfl (lv_at hl 2 rfl) ?_
  refine lv_aload_n hx hb dL_law_1050 rfl (lv_at hl 3 rfl) ?_
  refine lv_iload_n hx hb dL_law_1051 rfl (lv_at hl 0 rfl) ?_
  refine lv_iconst (v := 1) hx hb dL_law_1052 (by decide) ?_
  refine v_iadd hx hb dL_law_1053 _ rfl ?_
  refine lv_topi (fun z1 e_z1 => ?_)
  have g_z1 : z1.toInt = i.toInt + 1 := by rw [e_z1]; exact n_add (a := i.toInt) (b := 1) rfl (by decide +kernel) (by omega) (by omega)
  refine va_sld hx hb hX0 hbl hbA hS (j_in (a := z1.toInt) rfl (by omega) (by omega)) dL_law_1054 ?_
  refine lv_topi (fun y2 e_y2 => ?_)
  have hM := m179_X8_count l dC dI cI cJ cII cJJ H.size g adx f3_unknowns f3_equations f2_roundSupports f2_stale f7_size f1_size f5_keptSize f5_aheadSize f0_solved f4_blockCount f4_blockLength f4_lastIsFree f4_stale aix alx w0 w1 w2 w3 y2 (by omega) (by omega) (by omega) (by omega) (by omega) (by omega) (by omega) (by omega) (by omega) (by omega) (by omega) h11 h12 h13 h14 h15
  refine k3V_i (q0 := 0) ⟨hx, hb, hml, hown, hts⟩ hK hP hD hS hA hX cv_RL_146 [0, 1, 2, 3, 4, 5, 6, 7, 8, 9, 10, 11, 12, 13, 14, 15, 16, 17, 18, 19, 20, 21, 22, 23, 24, 25, 26, 27, 28, 29, 30, 31, 32, 33, 34, 35, 36, 37, 38, 39, 40, 41, 42, 43, 44, 45, 46, 47, 48, 49, 50, 51, 52, 53, 54, 55, 56, 57, 58, 59, 60, 61, 62, 63] [64, 65, 66, 67, 68, 69, 70, 71, 72, 73, 74, 75, 76, 77, 78, 79, 80, 81, 82, 83, 84, 85, 86, 87, 88, 89, 90, 91] (wr := (WM cI cJ cII cJJ adm f9_size f9_equations f9_areSteps f9_foundMany f9_many f9_rank f9_freeMany f9_arePlans f9_planMany aim alm)) rfl rfl rfl rfl (by decide) hM ⟨by decide +kernel, by decide +kernel⟩ rfl rfl (Or.inr ⟨rfl, rfl, rfl⟩) (rest := []) rfl rfl rfl hl.1 rfl (Nat.le_of_ble_eq_true rfl) dL_law_1055 ⟨Nat.le_of_ble_eq_true rfl, Nat.le_of_ble_eq_true rfl⟩ (fun r3 t H1 locs ht hB hj hS => ?_)
  obtain ⟨v5, v6, v7, v8, v9, v10, v11, ai12, al13, w14, w15, w16, w17, ⟨pr3_0, pr3_1, pr3_2, pr3_3, pr3_4, pr3_5, pr3_6, pr3_7, pr3_8, pr3_9, pr3_10, pr3_11⟩, hP1, -, hD1⟩ := hB
  rw [ht] at hP1
  obtain ⟨hP, hD⟩ := hj _ hP1 hD1
  clear ht hj hP1 hD1 hM
  generalize H1 = H4 at hP hS ⊢
  refine lv_pop hx hb dL_law_1058 rfl ?_
  refine lv_aload_n hx hb dL_law_1059 rfl (lv_at hl 1 rfl) ?_
  refine lv_aload_n hx hb dL_law_1060 rfl (lv_at hl 3 rfl) ?_
  refine lv_iload_n hx hb dL_law_1061 rfl (lv_at hl 0 rfl) ?_
  refine lv_iconst (v := 1) hx hb dL_law_1062 (by decide) ?_
  refine v_iadd hx hb dL_law_1063 _ rfl ?_
  refine lv_topi (fun z18 e_z18 => ?_)
  have g_z18 : z18.toInt = i.toInt + 1 := by rw [e_z18]; exact n_add (a := i.toInt) (b := 1) rfl (by decide +kernel) (by omega) (by omega)
  refine va_sld hx hb hX0 hbl hbA hS (j_in (a := z18.toInt) rfl (by omega) (by omega)) dL_law_1064 ?_
  refine lv_topi (fun y19 e_y19 => ?_)
  have q_y19 : y2 = y19 := by rw [e_y2, e_y19, e_z1, e_z18]
  clear e_y19
  subst q_y19
  have hM := r077_X9_count l dC dI cI cJ cII cJJ H4.size 0 adm f9_size f9_equations f9_areSteps f9_foundMany f9_many f9_rank f9_freeMany f9_arePlans f9_planMany aim alm y2 (by omega) (by omega) (by omega) (by omega) (by omega) (by omega) (by omega) (by omega) (by omega) h26 h25
  refine k3V_i (q0 := 22) ⟨hx, hb, hml, hown, hts⟩ hK hP hD hS hA hX cv_RL_149 [0, 1, 2, 3, 4, 5, 6, 7, 8, 9, 10, 11, 12, 13, 14, 15, 16, 17, 18, 19, 20, 21, 22, 23, 24, 25, 26, 27] [28, 29, 30, 31, 32, 33, 34, 35, 36, 37, 38, 39, 40, 41, 42, 43, 44, 45, 46, 47, 48, 49, 50, 51, 52, 53, 54, 55, 56, 57, 58, 59, 60, 61, 62, 63, 64, 65, 66, 67, 68, 69, 70, 71, 72, 73, 74, 75, 76, 77, 78, 79, 80, 81, 82, 83, 84, 85, 86, 87, 88, 89, 90, 91] (wr := (WX cI cJ cII cJJ adx f3_unknowns f3_equations v5 v6 v7 v8 v9 v10 v11 f4_blockCount f4_blockLength f4_lastIsFree f4_stale ai12 al13 w14 w15 w16 w17)) rfl rfl rfl rfl (by decide) hM ⟨by decide +kernel, by decide +kernel⟩ rfl rfl (Or.inl rfl) (rest := []) rfl rfl rfl hl.1 rfl (Nat.le_of_ble_eq_true rfl) dL_law_1065 ⟨Nat.le_of_ble_eq_true rfl, Nat.le_of_ble_eq_true rfl⟩ (fun r20 t H1 locs ht hB hj hS => ?_)
  obtain ⟨v22, v23, v24, v25, v26, ai27, al28, ⟨pr20_0, pr20_1, pr20_2, pr20_3, pr20_4, pr20_5, pr20_6, pr20_7, pr20_8⟩, hP1, -, hD1⟩ := hB
  rw [ht] at hP1
  obtain ⟨hP, hD⟩ := hj _ hP1 hD1
  clear ht hj hP1 hD1 hM
  generalize H1 = H21 at hP hS ⊢
  refine lv_pop hx hb dL_law_1068 rfl ?_
  refine lv_goto (tgt := 1072) hx hb dL_law_1069 (by decide) ?_
  obtain ⟨z, e_z⟩ : ∃ q : Int32, q = i + Int32.ofInt 5 := ⟨_, rfl⟩
  have g_z : z.toInt = i.toInt + 5 := by rw [e_z]; exact n_add (a := i.toInt) (b := 5) rfl (by decide +kernel) (by omega) (by omega)
  refine lv_iinc (v := z) (lv' := [(3, .int z), (2, .ref (adm 22)), (1, .ref (adx 0)), (0, .ref b)]) hx hb dL_law_1072 hl (k := 0) rfl e_z.symm (by decide) rfl (fun ls hl => ?_)
  refine lv_goto (tgt := 18) hx hb dL_law_1075 (by decide) ?_
  exact K z g_z f3_unknowns f3_equations v5 v6 v7 v8 v9 v10 v11 f4_blockCount f4_blockLength f4_lastIsFree f4_stale ai12 al13 w14 w15 w16 w17 f9_size f9_equations v22 v23 v24 v25 v26 f9_arePlans f9_planMany ai27 al28 _ _ _ (by omega) (by omega) (by omega) (by omega) (by omega) (by omega) (by omega) (by omega) (by omega) (by omega) (by omega) pr3_5 pr3_8 pr3_9 pr3_10 pr3_11 (by omega) (by omega) (by omega) (by omega) (by omega) (by omega) (by omega) (by omega) (by omega) pr20_6 pr20_5 (by omega) (by omega) (SDr_m (SDr_x h29 pr3_6 (by decide)) pr20_7 (by decide)) (TRr_m (TRr_x h30 pr3_6 (by decide)) pr20_7 (by decide)) hP hD hS hl
