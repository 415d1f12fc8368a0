set_option maxRecDepth 100000 in
set_option maxHeartbeats 4000000 in
theorem lc_0 {p : Program} {e : Env} {s : State} {m : MethodId} {below : List Frame} {meth : Method} {c : Code} (l : Launch) {b L : Nat} {xs : Nat → Int32} (C0 : lw_At p s m meth c b L xs) (hL : L ≤ 2560) {dC : Nat → ClassId} {dI : Nat → Nat → Nat} {cI cJ cII cJJ : ClassId} {g : Nat} {adx adm : Nat → Nat} {i : Int32} (hi0 : 0 ≤ i.toInt) (hi1 : i.toInt + 5 ≤ (L : Int)) (K : ∀ z : Int32, z.toInt = i.toInt + 5 → LPd p l e s m below meth c b dC dI cI cJ cII cJJ adx adm z) (hK : va_K (dC, dI) vwCl (TY cI cJ cII cJJ) s) (hX : GXA 1 g (AA s) s) : ∀ (f3_unknowns f3_equations f2_roundSupports f2_stale f7_size f1_size f5_keptSize f5_aheadSize f0_solved f4_blockCount f4_blockLength f4_lastIsFree f4_stale : Int32) (aix : Nat → Nat → Int32) (alx : Nat → Nat → Int64) (w0 w1 w2 w3 : Nat) (f9_size f9_equations f9_areSteps f9_foundMany f9_many f9_rank f9_freeMany f9_arePlans f9_planMany : Int32) (aim : Nat → Nat → Int32) (alm : Nat → Nat → Int64) (H : Heap) (locs : List Loc) (ls : Array Slot), (1 ≤ f3_unknowns.toInt ∧ f3_unknowns.toInt ≤ 4) → (0 ≤ f3_equations.toInt ∧ f3_equations.toInt ≤ 3) → (0 ≤ f2_stale.toInt ∧ f2_stale.toInt ≤ 1) → (0 ≤ f7_size.toInt ∧ f7_size.toInt ≤ 256) → (0 ≤ f1_size.toInt ∧ f1_size.toInt ≤ 4) → (0 ≤ f5_keptSize.toInt ∧ f5_keptSize.toInt ≤ 128) → (0 ≤ f5_aheadSize.toInt ∧ f5_aheadSize.toInt ≤ 128) → (0 ≤ f4_blockCount.toInt ∧ f4_blockCount.toInt ≤ 9261) → (0 ≤ f4_blockLength.toInt ∧ f4_blockLength.toInt ≤ 21) → (0 ≤ f4_lastIsFree.toInt ∧ f4_lastIsFree.toInt ≤ 1) → (0 ≤ f4_stale.toInt ∧ f4_stale.toInt ≤ 1) → IAX aix → RWX adx w0 → RWX adx w1 → RWX adx w2 → RWX adx w3 → (1 ≤ f9_size.toInt ∧ f9_size.toInt ≤ 4) → (0 ≤ f9_equations.toInt ∧ f9_equations.toInt ≤ 3) → (0 ≤ f9_areSteps.toInt ∧ f9_areSteps.toInt ≤ 1) → (0 ≤ f9_foundMany.toInt ∧ f9_foundMany.toInt ≤ 99999) → (0 ≤ f9_many.toInt ∧ f9_many.toInt ≤ 6000) → (0 ≤ f9_rank.toInt ∧ f9_rank.toInt ≤ 3) → (0 ≤ f9_freeMany.toInt ∧ f9_freeMany.toInt ≤ 4) → (0 ≤ f9_arePlans.toInt ∧ f9_arePlans.toInt ≤ 1) → (0 ≤ f9_planMany.toInt ∧ f9_planMany.toInt ≤ 194481) → IAM aim → (f9_areSteps.toInt = 0 ∨ CIa aim f9_size f9_many.toInt) → f3_unknowns.toInt = f9_size.toInt → f3_equations.toInt = f9_equations.toInt → SDr aix aim f3_equations.toInt → TRr aix aim → va_P (dC, dI) vwCl ((WX cI cJ cII cJJ adx f3_unknowns f3_equations f2_roundSupports f2_stale f7_size f1_size f5_keptSize f5_aheadSize f0_solved f4_blockCount f4_blockLength f4_lastIsFree f4_stale aix alx w0 w1 w2 w3) ++ (WM cI cJ cII cJJ adm f9_size f9_equations f9_areSteps f9_foundMany f9_many f9_rank f9_freeMany f9_arePlans f9_planMany aim alm)) H → va_D (AA s) ((WX cI cJ cII cJJ adx f3_unknowns f3_equations f2_roundSupports f2_stale f7_size f1_size f5_keptSize f5_aheadSize f0_solved f4_blockCount f4_blockLength f4_lastIsFree f4_stale aix alx w0 w1 w2 w3) ++ (WM cI cJ cII cJJ adm f9_size f9_equations f9_areSteps f9_foundMany f9_many f9_rank f9_freeMany f9_arePlans f9_planMany aim alm)) → va_S (AA s) s.heap H locs → lv_has ls 4 [(3, .int i), (2, .ref (adm 22)), (1, .ref (adx 0)), (0, .ref b)] → W p l e room_1 s m #[Value.ref b] below meth c H locs 600000 7302250 (lw_Z below #[Value.ref b] s) (F0 m 176 ls []) := by
  obtain ⟨hx, hb, hr, hml, hown, hts0, hX0, hbl, hlocks, hgv⟩ := id C0
  have hts : ∀ w ∈ TT, w.before #[Value.ref b] s = true := fun w h => hts0 w (TT_tbl h)
  have hA : ∀ q : Nat, s.heap.size ≤ q → AA s q := fun _ h => h
  have hbA : ¬ AA s b := Nat.not_le.mpr hbl
  have hown : s.vm.findClass RL = some m.cls := hown
  intro f3_unknowns f3_equations f2_roundSupports f2_stale f7_size f1_size f5_keptSize f5_aheadSize f0_solved f4_blockCount f4_blockLength f4_lastIsFree f4_stale aix alx w0 w1 w2 w3 f9_size f9_equations f9_areSteps f9_foundMany f9_many f9_rank f9_freeMany f9_arePlans f9_planMany aim alm H locs ls h0 h1 h2 h3 h4 h5 h6 h7 h8 h9 h10 h11 h12 h13 h14 h15 h16 h17 h18 h19 h20 h21 h22 h23 h24 h25 h26 h27 h28 h29 h30 hP hD hS hl
  refine lv_aload_n hx hb dL_law_176 rfl (lv_at hl 2 rfl) ?_
  refine lv_aload_n hx hb dL_law_177 rfl (lv_at hl 3 rfl) ?_
  refine lv_iload_n hx hb dL_law_178 rfl (lv_at hl 0 rfl) ?_
  refine lv_iconst (v := 1) hx hb dL_law_179 (by decide) ?_
  refine v_iadd hx hb dL_law_180 _ rfl ?_
  refine lv_topi (fun z1 e_z1 => ?_)
  have g_z1 : z1.toInt = i.toInt + 1 := by rw [e_z1]; exact n_add (a := i.toInt) (b := 1) rfl (by decide +kernel) (by omega) (by omega)
  refine va_sld hx hb hX0 hbl hbA hS (j_in (a := z1.toInt) rfl (by omega) (by omega)) dL_law_181 ?_
  refine lv_topi (fun y2 e_y2 => ?_)
  have hM := m048_X8_works l dC dI cI cJ cII cJJ H.size 0 adx f3_unknowns f3_equations f2_roundSupports f2_stale f7_size f1_size f5_keptSize f5_aheadSize f0_solved f4_blockCount f4_blockLength f4_lastIsFree f4_stale aix alx w0 w1 w2 w3 y2 (by omega) (by omega) (by omega) (by omega) (by omega) (by omega) (by omega) (by omega) (by omega) (by omega) (by omega) h11 h12 h13 h14 h15
  refine k3V_i (q0 := 0) ⟨hx, hb, hml, hown, hts⟩ hK hP hD hS hA hX cv_RL_13 [0, 1, 2, 3, 4, 5, 6, 7, 8, 9, 10, 11, 12, 13, 14, 15, 16, 17, 18, 19, 20, 21, 22, 23, 24, 25, 26, 27, 28, 29, 30, 31, 32, 33, 34, 35, 36, 37, 38, 39, 40, 41, 42, 43, 44, 45, 46, 47, 48, 49, 50, 51, 52, 53, 54, 55, 56, 57, 58, 59, 60, 61, 62, 63] [64, 65, 66, 67, 68, 69, 70, 71, 72, 73, 74, 75, 76, 77, 78, 79, 80, 81, 82, 83, 84, 85, 86, 87, 88, 89, 90, 91] (wr := (WM cI cJ cII cJJ adm f9_size f9_equations f9_areSteps f9_foundMany f9_many f9_rank f9_freeMany f9_arePlans f9_planMany aim alm)) rfl rfl rfl rfl (by decide) hM ⟨by decide +kernel, by decide +kernel⟩ rfl rfl (Or.inl rfl) (rest := []) rfl rfl rfl hl.1 rfl (Nat.le_of_ble_eq_true rfl) dL_law_182 ⟨Nat.le_of_ble_eq_true rfl, Nat.le_of_ble_eq_true rfl⟩ (fun r3 t H1 locs ht hB hj hS => ?_)
  obtain ⟨v5, v6, v7, v8, ai9, ⟨pr3_0, pr3_1, pr3_2, pr3_3, pr3_4, pr3_5, pr3_6⟩, hP1, -, hD1⟩ := hB
  rw [ht] at hP1
  obtain ⟨hP, hD⟩ := hj _ hP1 hD1
  clear ht hj hP1 hD1 hM
  generalize H1 = H4 at hP hS ⊢
  refine lv_pop hx hb dL_law_185 rfl ?_
  refine lv_aload_n hx hb dL_law_186 rfl (lv_at hl 1 rfl) ?_
  refine lv_aload_n hx hb dL_law_187 rfl (lv_at hl 3 rfl) ?_
  refine lv_iload_n hx hb dL_law_188 rfl (lv_at hl 0 rfl) ?_
  refine lv_iconst (v := 1) hx hb dL_law_189 (by decide) ?_
  refine v_iadd hx hb dL_law_190 _ rfl ?_
  refine lv_topi (fun z10 e_z10 => ?_)
  have g_z10 : z10.toInt = i.toInt + 1 := by rw [e_z10]; exact n_add (a := i.toInt) (b := 1) rfl (by decide +kernel) (by omega) (by omega)
  refine va_sld hx hb hX0 hbl hbA hS (j_in (a := z10.toInt) rfl (by omega) (by omega)) dL_law_191 ?_
  refine lv_topi (fun y11 e_y11 => ?_)
  have q_y11 : y2 = y11 := by rw [e_y2, e_y11, e_z1, e_z10]
  clear e_y11
  subst q_y11
  have hM := r041_X9_works l dC dI cI cJ cII cJJ H4.size 0 adm f9_size f9_equations f9_areSteps f9_foundMany f9_many f9_rank f9_freeMany f9_arePlans f9_planMany aim alm y2 (by omega) (by omega) (by omega) (by omega) (by omega) (by omega) (by omega) (by omega) (by omega) h26 h25
  refine k3V_i (q0 := 22) ⟨hx, hb, hml, hown, hts⟩ hK hP hD hS hA hX cv_RL_17 [0, 1, 2, 3, 4, 5, 6, 7, 8, 9, 10, 11, 12, 13, 14, 15, 16, 17, 18, 19, 20, 21, 22, 23, 24, 25, 26, 27] [28, 29, 30, 31, 32, 33, 34, 35, 36, 37, 38, 39, 40, 41, 42, 43, 44, 45, 46, 47, 48, 49, 50, 51, 52, 53, 54, 55, 56, 57, 58, 59, 60, 61, 62, 63, 64, 65, 66, 67, 68, 69, 70, 71, 72, 73, 74, 75, 76, 77, 78, 79, 80, 81, 82, 83, 84, 85, 86, 87, 88, 89, 90, 91] (wr := (WX cI cJ cII cJJ adx v5 v6 f2_roundSupports v7 f7_size f1_size f5_keptSize f5_aheadSize f0_solved f4_blockCount f4_blockLength f4_lastIsFree v8 ai9 alx w0 w1 w2 w3)) rfl rfl rfl rfl (by decide) hM ⟨by decide +kernel, by decide +kernel⟩ rfl rfl (Or.inl rfl) (rest := []) rfl rfl rfl hl.1 rfl (Nat.le_of_ble_eq_true rfl) dL_law_192 ⟨Nat.le_of_ble_eq_true rfl, Nat.le_of_ble_eq_true rfl⟩ (fun r12 t H1 locs ht hB hj hS => ?_)
  obtain ⟨v14, v15, v16, v17, ai18, ⟨pr12_0, pr12_1, pr12_2, pr12_3, pr12_4, pr12_5, pr12_6, pr12_7, pr12_8⟩, hP1, -, hD1⟩ := hB
  rw [ht] at hP1
  obtain ⟨hP, hD⟩ := hj _ hP1 hD1
  clear ht hj hP1 hD1 hM
  generalize H1 = H13 at hP hS ⊢
  refine lv_pop hx hb dL_law_195 rfl ?_
  refine lv_goto (tgt := 1072) hx hb dL_law_196 (by decide) ?_
  obtain ⟨z, e_z⟩ : ∃ q : Int32, q = i + Int32.ofInt 5 := ⟨_, rfl⟩
  have g_z : z.toInt = i.toInt + 5 := by rw [e_z]; exact n_add (a := i.toInt) (b := 5) rfl (by decide +kernel) (by omega) (by omega)
  refine lv_iinc (v := z) (lv' := [(3, .int z), (2, .ref (adm 22)), (1, .ref (adx 0)), (0, .ref b)]) hx hb dL_law_1072 hl (k := 0) rfl e_z.symm (by decide) rfl (fun ls hl => ?_)
  refine lv_goto (tgt := 18) hx hb dL_law_1075 (by decide) ?_
  exact K z g_z v5 v6 f2_roundSupports v7 f7_size f1_size f5_keptSize f5_aheadSize f0_solved f4_blockCount f4_blockLength f4_lastIsFree v8 ai9 alx w0 w1 w2 w3 v14 v15 v16 f9_foundMany f9_many f9_rank f9_freeMany v17 f9_planMany ai18 alm _ _ _ (by omega) (by omega) (by omega) (by omega) (by omega) (by omega) (by omega) (by omega) (by omega) (by omega) (by omega) pr3_5 h12 h13 h14 h15 (by omega) (by omega) (by omega) (by omega) (by omega) (by omega) (by omega) (by omega) (by omega) pr12_7 pr12_5 (by omega) (by omega) (SDr_le (SDr_m (SDr_x h29 pr3_6 (by decide)) pr12_8 (by decide)) (by omega)) (TRr_m (TRr_x h30 pr3_6 (by decide)) pr12_8 (by decide)) hP hD hS hl
set_option maxRecDepth 100000 in
set_option maxHeartbeats 4000000 in
theorem lc_1 {p : Program} {e : Env} {s : State} {m : MethodId} {below : List Frame} {meth : Method} {c : Code} (l : Launch) {b L : Nat} {xs : Nat → Int32} (C0 : lw_At p s m meth c b L xs) (hL : L ≤ 2560) {dC : Nat → ClassId} {dI : Nat → Nat → Nat} {cI cJ cII cJJ : ClassId} {g : Nat} {adx adm : Nat → Nat} {i : Int32} (hi0 : 0 ≤ i.toInt) (hi1 : i.toInt + 5 ≤ (L : Int)) (K : ∀ z : Int32, z.toInt = i.toInt + 5 → LPd p l e s m below meth c b dC dI cI cJ cII cJJ adx adm z) (hK : va_K (dC, dI) vwCl (TY cI cJ cII cJJ) s) (hX : GXA 1 g (AA s) s) : ∀ (f3_unknowns f3_equations f2_roundSupports f2_stale f7_size f1_size f5_keptSize f5_aheadSize f0_solved f4_blockCount f4_blockLength f4_lastIsFree f4_stale : Int32) (aix : Nat → Nat → Int32) (alx : Nat → Nat → Int64) (w0 w1 w2 w3 : Nat) (f9_size f9_equations f9_areSteps f9_foundMany f9_many f9_rank f9_freeMany f9_arePlans f9_planMany : Int32) (aim : Nat → Nat → Int32) (alm : Nat → Nat → Int64) (H : Heap) (locs : List Loc) (ls : Array Slot), (1 ≤ f3_unknowns.toInt ∧ f3_unknowns.toInt ≤ 4) → (0 ≤ f3_equations.toInt ∧ f3_equations.toInt ≤ 3) → (0 ≤ f2_stale.toInt ∧ f2_stale.toInt ≤ 1) → (0 ≤ f7_size.toInt ∧ f7_size.toInt ≤ 256) → (0 ≤ f1_size.toInt ∧ f1_size.toInt ≤ 4) → (0 ≤ f5_keptSize.toInt ∧ f5_keptSize.toInt ≤ 128) → (0 ≤ f5_aheadSize.toInt ∧ f5_aheadSize.toInt ≤ 128) → (0 ≤ f4_blockCount.toInt ∧ f4_blockCount.toInt ≤ 9261) → (0 ≤ f4_blockLength.toInt ∧ f4_blockLength.toInt ≤ 21) → (0 ≤ f4_lastIsFree.toInt ∧ f4_lastIsFree.toInt ≤ 1) → (0 ≤ f4_stale.toInt ∧ f4_stale.toInt ≤ 1) → IAX aix → RWX adx w0 → RWX adx w1 → RWX adx w2 → RWX adx w3 → (1 ≤ f9_size.toInt ∧ f9_size.toInt ≤ 4) → (0 ≤ f9_equations.toInt ∧ f9_equations.toInt ≤ 3) → (0 ≤ f9_areSteps.toInt ∧ f9_areSteps.toInt ≤ 1) → (0 ≤ f9_foundMany.toInt ∧ f9_foundMany.toInt ≤ 99999) → (0 ≤ f9_many.toInt ∧ f9_many.toInt ≤ 6000) → (0 ≤ f9_rank.toInt ∧ f9_rank.toInt ≤ 3) → (0 ≤ f9_freeMany.toInt ∧ f9_freeMany.toInt ≤ 4) → (0 ≤ f9_arePlans.toInt ∧ f9_arePlans.toInt ≤ 1) → (0 ≤ f9_planMany.toInt ∧ f9_planMany.toInt ≤ 194481) → IAM aim → (f9_areSteps.toInt = 0 ∨ CIa aim f9_size f9_many.toInt) → f3_unknowns.toInt = f9_size.toInt → f3_equations.toInt = f9_equations.toInt → SDr aix aim f3_equations.toInt → TRr aix aim → va_P (dC, dI) vwCl ((WX cI cJ cII cJJ adx f3_unknowns f3_equations f2_roundSupports f2_stale f7_size f1_size f5_keptSize f5_aheadSize f0_solved f4_blockCount f4_blockLength f4_lastIsFree f4_stale aix alx w0 w1 w2 w3) ++ (WM cI cJ cII cJJ adm f9_size f9_equations f9_areSteps f9_foundMany f9_many f9_rank f9_freeMany f9_arePlans f9_planMany aim alm)) H → va_D (AA s) ((WX cI cJ cII cJJ adx f3_unknowns f3_equations f2_roundSupports f2_stale f7_size f1_size f5_keptSize f5_aheadSize f0_solved f4_blockCount f4_blockLength f4_lastIsFree f4_stale aix alx w0 w1 w2 w3) ++ (WM cI cJ cII cJJ adm f9_size f9_equations f9_areSteps f9_foundMany f9_many f9_rank f9_freeMany f9_arePlans f9_planMany aim alm)) → va_S (AA s) s.heap H locs → lv_has ls 4 [(3, .int i), (2, .ref (adm 22)), (1, .ref (adx 0)), (0, .ref b)] → W p l e room_1 s m #[Value.ref b] below meth c H locs 600000 7302250 (lw_Z below #[Value.ref b] s) (F0 m 199 ls []) := by
  obtain ⟨hx, hb, hr, hml, hown, hts0, hX0, hbl, hlocks, hgv⟩ := id C0
  have hts : ∀ w ∈ TT, w.before #[Value.ref b] s = true := fun w h => hts0 w (TT_tbl h)
  have hA : ∀ q : Nat, s.heap.size ≤ q → AA s q := fun _ h => h
  have hbA : ¬ AA s b := Nat.not_le.mpr hbl
  have hown : s.vm.findClass RL = some m.cls := hown
  intro f3_unknowns f3_equations f2_roundSupports f2_stale f7_size f1_size f5_keptSize f5_aheadSize f0_solved f4_blockCount f4_blockLength f4_lastIsFree f4_stale aix alx w0 w1 w2 w3 f9_size f9_equations f9_areSteps f9_foundMany f9_many f9_rank f9_freeMany f9_arePlans f9_planMany aim alm H locs ls h0 h1 h2 h3 h4 h5 h6 h7 h8 h9 h10 h11 h12 h13 h14 h15 h16 h17 h18 h19 h20 h21 h22 h23 h24 h25 h26 h27 h28 h29 h30 hP hD hS hl
  refine lv_aload_n hx hb dL_law_199 rfl (lv_at hl 2 rfl) ?_
  have hM := m049_X8_equation l dC dI cI cJ cII cJJ H.size 0 adx f3_unknowns f3_equations f2_roundSupports f2_stale f7_size f1_size f5_keptSize f5_aheadSize f0_solved f4_blockCount f4_blockLength f4_lastIsFree f4_stale aix alx w0 w1 w2 w3 (by omega) (by omega) (by omega) (by omega) (by omega) (by omega) (by omega) (by omega) (by omega) (by omega) (by omega) h11 h12 h13 h14 h15
  refine k3V_i (q0 := 0) ⟨hx, hb, hml, hown, hts⟩ hK hP hD hS hA hX cv_RL_18 [0, 1, 2, 3, 4, 5, 6, 7, 8, 9, 10, 11, 12, 13, 14, 15, 16, 17, 18, 19, 20, 21, 22, 23, 24, 25, 26, 27, 28, 29, 30, 31, 32, 33, 34, 35, 36, 37, 38, 39, 40, 41, 42, 43, 44, 45, 46, 47, 48, 49, 50, 51, 52, 53, 54, 55, 56, 57, 58, 59, 60, 61, 62, 63] [64, 65, 66, 67, 68, 69, 70, 71, 72, 73, 74, 75, 76, 77, 78, 79, 80, 81, 82, 83, 84, 85, 86, 87, 88, 89, 90, 91] (wr := (WM cI cJ cII cJJ adm f9_size f9_equations f9_areSteps f9_foundMany f9_many f9_rank f9_freeMany f9_arePlans f9_planMany aim alm)) rfl rfl rfl rfl (by decide) hM ⟨by decide +kernel, by decide +kernel⟩ rfl rfl (Or.inl rfl) (rest := []) rfl rfl rfl hl.1 rfl (Nat.le_of_ble_eq_true rfl) dL_law_200 ⟨Nat.le_of_ble_eq_true rfl, Nat.le_of_ble_eq_true rfl⟩ (fun r1 t H1 locs ht hB hj hS => ?_)
  obtain ⟨v3, v4, v5, ai6, ⟨pr1_0, pr1_1, pr1_2, pr1_3, pr1_4, pr1_5, pr1_6⟩, hP1, -, hD1⟩ := hB
  rw [ht] at hP1
  obtain ⟨hP, hD⟩ := hj _ hP1 hD1
  clear ht hj hP1 hD1 hM
  generalize H1 = H2 at hP hS ⊢
  refine lv_pop hx hb dL_law_203 rfl ?_
  refine lv_aload_n hx hb dL_law_204 rfl (lv_at hl 1 rfl) ?_
  have hM := r042_X9_equation l dC dI cI cJ cII cJJ H2.size 0 adm f9_size f9_equations f9_areSteps f9_foundMany f9_many f9_rank f9_freeMany f9_arePlans f9_planMany aim alm (by omega) (by omega) (by omega) (by omega) (by omega) (by omega) (by omega) (by omega) (by omega) h26 h25
  refine k3V_i (q0 := 22) ⟨hx, hb, hml, hown, hts⟩ hK hP hD hS hA hX cv_RL_22 [0, 1, 2, 3, 4, 5, 6, 7, 8, 9, 10, 11, 12, 13, 14, 15, 16, 17, 18, 19, 20, 21, 22, 23, 24, 25, 26, 27] [28, 29, 30, 31, 32, 33, 34, 35, 36, 37, 38, 39, 40, 41, 42, 43, 44, 45, 46, 47, 48, 49, 50, 51, 52, 53, 54, 55, 56, 57, 58, 59, 60, 61, 62, 63, 64, 65, 66, 67, 68, 69, 70, 71, 72, 73, 74, 75, 76, 77, 78, 79, 80, 81, 82, 83, 84, 85, 86, 87, 88, 89, 90, 91] (wr := (WX cI cJ cII cJJ adx f3_unknowns v3 f2_roundSupports v4 f7_size f1_size f5_keptSize f5_aheadSize f0_solved f4_blockCount f4_blockLength f4_lastIsFree v5 ai6 alx w0 w1 w2 w3)) rfl rfl rfl rfl (by decide) hM ⟨by decide +kernel, by decide +kernel⟩ rfl rfl (Or.inl rfl) (rest := []) rfl rfl rfl hl.1 rfl (Nat.le_of_ble_eq_true rfl) dL_law_205 ⟨Nat.le_of_ble_eq_true rfl, Nat.le_of_ble_eq_true rfl⟩ (fun r7 t H1 locs ht hB hj hS => ?_)
  obtain ⟨v9, v10, ai11, ⟨pr7_0, pr7_1, pr7_2, pr7_3, pr7_4, pr7_5, pr7_6, pr7_7⟩, hP1, -, hD1⟩ := hB
  rw [ht] at hP1
  obtain ⟨hP, hD⟩ := hj _ hP1 hD1
  clear ht hj hP1 hD1 hM
  generalize H1 = H8 at hP hS ⊢
  refine lv_pop hx hb dL_law_208 rfl ?_
  refine lv_goto (tgt := 1072) hx hb dL_law_209 (by decide) ?_
  obtain ⟨z, e_z⟩ : ∃ q : Int32, q = i + Int32.ofInt 5 := ⟨_, rfl⟩
  have g_z : z.toInt = i.toInt + 5 := by rw [e_z]; exact n_add (a := i.toInt) (b := 5) rfl (by decide +kernel) (by omega) (by omega)
  refine lv_iinc (v := z) (lv' := [(3, .int z), (2, .ref (adm 22)), (1, .ref (adx 0)), (0, .ref b)]) hx hb dL_law_1072 hl (k := 0) rfl e_z.symm (by decide) rfl (fun ls hl => ?_)
  refine lv_goto (tgt := 18) hx hb dL_law_1075 (by decide) ?_
  exact K z g_z f3_unknowns v3 f2_roundSupports v4 f7_size f1_size f5_keptSize f5_aheadSize f0_solved f4_blockCount f4_blockLength f4_lastIsFree v5 ai6 alx w0 w1 w2 w3 f9_size v9 f9_areSteps f9_foundMany f9_many f9_rank f9_freeMany v10 f9_planMany ai11 alm _ _ _ (by omega) (by omega) (by omega) (by omega) (by omega) (by omega) (by omega) (by omega) (by omega) (by omega) (by omega) pr1_5 h12 h13 h14 h15 (by omega) (by omega) (by omega) (by omega) (by omega) (by omega) (by omega) (by omega) (by omega) pr7_6 pr7_3 (by omega) (by omega) (SDr_eq h29 pr1_4 pr7_5 (by omega) (by omega) (by omega)) (TRr_m (TRr_x h30 pr1_6 (by decide)) pr7_7 (by decide)) hP hD hS hl
set_option maxRecDepth 100000 in
set_option maxHeartbeats 4000000 in
theorem lc_2 {p : Program} {e : Env} {s : State} {m : MethodId} {below : List Frame} {meth : Method} {c : Code} (l : Launch) {b L : Nat} {xs : Nat → Int32} (C0 : lw_At p s m meth c b L xs) (hL : L ≤ 2560) {dC : Nat → ClassId} {dI : Nat → Nat → Nat} {cI cJ cII cJJ : ClassId} {g : Nat} {adx adm : Nat → Nat} {i : Int32} (hi0 : 0 ≤ i.toInt) (hi1 : i.toInt + 5 ≤ (L : Int)) (K : ∀ z : Int32, z.toInt = i.toInt + 5 → LPd p l e s m below meth c b dC dI cI cJ cII cJJ adx adm z) (hK : va_K (dC, dI) vwCl (TY cI cJ cII cJJ) s) (hX : GXA 1 g (AA s) s) : ∀ (f3_unknowns f3_equations f2_roundSupports f2_stale f7_size f1_size f5_keptSize f5_aheadSize f0_solved f4_blockCount f4_blockLength f4_lastIsFree f4_stale : Int32) (aix : Nat → Nat → Int32) (alx : Nat → Nat → Int64) (w0 w1 w2 w3 : Nat) (f9_size f9_equations f9_areSteps f9_foundMany f9_many f9_rank f9_freeMany f9_arePlans f9_planMany : Int32) (aim : Nat → Nat → Int32) (alm : Nat → Nat → Int64) (H : Heap) (locs : List Loc) (ls : Array Slot), (1 ≤ f3_unknowns.toInt ∧ f3_unknowns.toInt ≤ 4) → (0 ≤ f3_equations.toInt ∧ f3_equations.toInt ≤ 3) → (0 ≤ f2_stale.toInt ∧ f2_stale.toInt ≤ 1) → (0 ≤ f7_size.toInt ∧ f7_size.toInt ≤ 256) → (0 ≤ f1_size.toInt ∧ f1_size.toInt ≤ 4) → (0 ≤ f5_keptSize.toInt ∧ f5_keptSize.toInt ≤ 128) → (0 ≤ f5_aheadSize.toInt ∧ f5_aheadSize.toInt ≤ 128) → (0 ≤ f4_blockCount.toInt ∧ f4_blockCount.toInt ≤ 9261) → (0 ≤ f4_blockLength.toInt ∧ f4_blockLength.toInt ≤ 21) → (0 ≤ f4_lastIsFree.toInt ∧ f4_lastIsFree.toInt ≤ 1) → (0 ≤ f4_stale.toInt ∧ f4_stale.toInt ≤ 1) → IAX aix → RWX adx w0 → RWX adx w1 → RWX adx w2 → RWX adx w3 → (1 ≤ f9_size.toInt ∧ f9_size.toInt ≤ 4) → (0 ≤ f9_equations.toInt ∧ f9_equations.toInt ≤ 3) → (0 ≤ f9_areSteps.toInt ∧ f9_areSteps.toInt ≤ 1) → (0 ≤ f9_foundMany.toInt ∧ f9_foundMany.toInt ≤ 99999) → (0 ≤ f9_many.toInt ∧ f9_many.toInt ≤ 6000) → (0 ≤ f9_rank.toInt ∧ f9_rank.toInt ≤ 3) → (0 ≤ f9_freeMany.toInt ∧ f9_freeMany.toInt ≤ 4) → (0 ≤ f9_arePlans.toInt ∧ f9_arePlans.toInt ≤ 1) → (0 ≤ f9_planMany.toInt ∧ f9_planMany.toInt ≤ 194481) → IAM aim → (f9_areSteps.toInt = 0 ∨ CIa aim f9_size f9_many.toInt) → f3_unknowns.toInt = f9_size.toInt → f3_equations.toInt = f9_equations.toInt → SDr aix aim f3_equations.toInt → TRr aix aim → va_P (dC, dI) vwCl ((WX cI cJ cII cJJ adx f3_unknowns f3_equations f2_roundSupports f2_stale f7_size f1_size f5_keptSize f5_aheadSize f0_solved f4_blockCount f4_blockLength f4_lastIsFree f4_stale aix alx w0 w1 w2 w3) ++ (WM cI cJ cII cJJ adm f9_size f9_equations f9_areSteps f9_foundMany f9_many f9_rank f9_freeMany f9_arePlans f9_planMany aim alm)) H → va_D (AA s) ((WX cI cJ cII cJJ adx f3_unknowns f3_equations f2_roundSupports f2_stale f7_size f1_size f5_keptSize f5_aheadSize f0_solved f4_blockCount f4_blockLength f4_lastIsFree f4_stale aix alx w0 w1 w2 w3) ++ (WM cI cJ cII cJJ adm f9_size f9_equations f9_areSteps f9_foundMany f9_many f9_rank f9_freeMany f9_arePlans f9_planMany aim alm)) → va_S (AA s) s.heap H locs → lv_has ls 4 [(3, .int i), (2, .ref (adm 22)), (1, .ref (adx 0)), (0, .ref b)] → W p l e room_1 s m #[Value.ref b] below meth c H locs 600000 7302250 (lw_Z below #[Value.ref b] s) (F0 m 212 ls []) := by
  obtain ⟨hx, hb, hr, hml, hown, hts0, hX0, hbl, hlocks, hgv⟩ := id C0
  have hts : ∀ w ∈ TT, w.before #[Value.ref b] s = true := fun w h => hts0 w (TT_tbl h)
  have hA : ∀ q : Nat, s.heap.size ≤ q → AA s q := fun _ h => h
  have hbA : ¬ AA s b := Nat.not_le.mpr hbl
  have hown : s.vm.findClass RL = some m.cls := hown
  intro f3_unknowns f3_equations f2_roundSupports f2_stale f7_size f1_size f5_keptSize f5_aheadSize f0_solved f4_blockCount f4_blockLength f4_lastIsFree f4_stale aix alx w0 w1 w2 w3 f9_size f9_equations f9_areSteps f9_foundMany f9_many f9_rank f9_freeMany f9_arePlans f9_planMany aim alm H locs ls h0 h1 h2 h3 h4 h5 h6 h7 h8 h9 h10 h11 h12 h13 h14 h15 h16 h17 h18 h19 h20 h21 h22 h23 h24 h25 h26 h27 h28 h29 h30 hP hD hS hl
  refine lv_aload_n hx hb dL_law_212 rfl (lv_at hl 2 rfl) ?_
  refine lv_aload_n hx hb dL_law_213 rfl (lv_at hl 3 rfl) ?_
  refine lv_iload_n hx hb dL_law_214 rfl (lv_at hl 0 rfl) ?_
  refine lv_iconst (v := 1) hx hb dL_law_215 (by decide) ?_
  refine v_iadd hx hb dL_law_216 _ rfl ?_
  refine lv_topi (fun z1 e_z1 => ?_)
  have g_z1 : z1.toInt = i.toInt + 1 := by rw [e_z1]; exact n_add (a := i.toInt) (b := 1) rfl (by decide +kernel) (by omega) (by omega)
  refine va_sld hx hb hX0 hbl hbA hS (j_in (a := z1.toInt) rfl (by omega) (by omega)) dL_law_217 ?_
  refine lv_topi (fun y2 e_y2 => ?_)
  refine lv_aload_n hx hb dL_law_218 rfl (lv_at hl 3 rfl) ?_
  refine lv_iload_n hx hb dL_law_219 rfl (lv_at hl 0 rfl) ?_
  refine lv_iconst (v := 2) hx hb dL_law_220 (by decide) ?_
  refine v_iadd hx hb dL_law_221 _ rfl ?_
  refine lv_topi (fun z3 e_z3 => ?_)
  have g_z3 : z3.toInt = i.toInt + 2 := by rw [e_z3]; exact n_add (a := i.toInt) (b := 2) rfl (by decide +kernel) (by omega) (by omega)
  refine va_sld hx hb hX0 hbl hbA hS (j_in (a := z3.toInt) rfl (by omega) (by omega)) dL_law_222 ?_
  refine lv_topi (fun y4 e_y4 => ?_)
  refine lv_aload_n hx hb dL_law_223 rfl (lv_at hl 3 rfl) ?_
  refine lv_iload_n hx hb dL_law_224 rfl (lv_at hl 0 rfl) ?_
  refine lv_iconst (v := 3) hx hb dL_law_225 (by decide) ?_
  refine v_iadd hx hb dL_law_226 _ rfl ?_
  refine lv_topi (fun z5 e_z5 => ?_)
  have g_z5 : z5.toInt = i.toInt + 3 := by rw [e_z5]; exact n_add (a := i.toInt) (b := 3) rfl (by decide +kernel) (by omega) (by omega)
  refine va_sld hx hb hX0 hbl hbA hS (j_in (a := z5.toInt) rfl (by omega) (by omega)) dL_law_227 ?_
  refine lv_topi (fun y6 e_y6 => ?_)
  have hM := m050_X8_put l dC dI cI cJ cII cJJ H.size 0 adx f3_unknowns f3_equations f2_roundSupports f2_stale f7_size f1_size f5_keptSize f5_aheadSize f0_solved f4_blockCount f4_blockLength f4_lastIsFree f4_stale aix alx w0 w1 w2 w3 y2 y4 y6 (by omega) (by omega) (by omega) (by omega) (by omega) (by omega) (by omega) (by omega) (by omega) (by omega) (by omega) h11 h12 h13 h14 h15
  refine k3V_i (q0 := 0) ⟨hx, hb, hml, hown, hts⟩ hK hP hD hS hA hX cv_RL_23 [0, 1, 2, 3, 4, 5, 6, 7, 8, 9, 10, 11, 12, 13, 14, 15, 16, 17, 18, 19, 20, 21, 22, 23, 24, 25, 26, 27, 28, 29, 30, 31, 32, 33, 34, 35, 36, 37, 38, 39, 40, 41, 42, 43, 44, 45, 46, 47, 48, 49, 50, 51, 52, 53, 54, 55, 56, 57, 58, 59, 60, 61, 62, 63] [64, 65, 66, 67, 68, 69, 70, 71, 72, 73, 74, 75, 76, 77, 78, 79, 80, 81, 82, 83, 84, 85, 86, 87, 88, 89, 90, 91] (wr := (WM cI cJ cII cJJ adm f9_size f9_equations f9_areSteps f9_foundMany f9_many f9_rank f9_freeMany f9_arePlans f9_planMany aim alm)) rfl rfl rfl rfl (by decide) hM ⟨by decide +kernel, by decide +kernel⟩ rfl rfl (Or.inl rfl) (rest := []) rfl rfl rfl hl.1 rfl (Nat.le_of_ble_eq_true rfl) dL_law_228 ⟨Nat.le_of_ble_eq_true rfl, Nat.le_of_ble_eq_true rfl⟩ (fun r7 t H1 locs ht hB hj hS => ?_)
  obtain ⟨v9, v10, ai11, ⟨pr7_0, pr7_1, pr7_2, pr7_3⟩, hP1, -, hD1⟩ := hB
  rw [ht] at hP1
  obtain ⟨hP, hD⟩ := hj _ hP1 hD1
  clear ht hj hP1 hD1 hM
  generalize H1 = H8 at hP hS ⊢
  refine lv_pop hx hb dL_law_231 rfl ?_
  refine lv_aload_n hx hb dL_law_232 rfl (lv_at hl 1 rfl) ?_
  refine lv_aload_n hx hb dL_law_233 rfl (lv_at hl 3 rfl) ?_
  refine lv_iload_n hx hb dL_law_234 rfl (lv_at hl 0 rfl) ?_
  refine lv_iconst (v := 1) hx hb dL_law_235 (by decide) ?_
  refine v_iadd hx hb dL_law_236 _ rfl ?_
  refine lv_topi (fun z12 e_z12 => ?_)
  have g_z12 : z12.toInt = i.toInt + 1 := by rw [e_z12]; exact n_add (a := i.toInt) (b := 1) rfl (by decide +kernel) (by omega) (by omega)
  refine va_sld hx hb hX0 hbl hbA hS (j_in (a := z12.toInt) rfl (by omega) (by omega)) dL_law_237 ?_
  refine lv_topi (fun y13 e_y13 => ?_)
  have q_y13 : y2 = y13 := by rw [e_y2, e_y13, e_z1, e_z12]
  clear e_y13
  subst q_y13
  refine lv_aload_n hx hb dL_law_238 rfl (lv_at hl 3 rfl) ?_
  refine lv_iload_n hx hb dL_law_239 rfl (lv_at hl 0 rfl) ?_
  refine lv_iconst (v := 2) hx hb dL_law_240 (by decide) ?_
  refine v_iadd hx hb dL_law_241 _ rfl ?_
  refine lv_topi (fun z14 e_z14 => ?_)
  have g_z14 : z14.toInt = i.toInt + 2 := by rw [e_z14]; exact n_add (a := i.toInt) (b := 2) rfl (by decide +kernel) (by omega) (by omega)
  refine va_sld hx hb hX0 hbl hbA hS (j_in (a := z14.toInt) rfl (by omega) (by omega)) dL_law_242 ?_
  refine lv_topi (fun y15 e_y15 => ?_)
  have q_y15 : y4 = y15 := by rw [e_y4, e_y15, e_z3, e_z14]
  clear e_y15
  subst q_y15
  refine lv_aload_n hx hb dL_law_243 rfl (lv_at hl 3 rfl) ?_
  refine lv_iload_n hx hb dL_law_244 rfl (lv_at hl 0 rfl) ?_
  refine lv_iconst (v := 3) hx hb dL_law_245 (by decide) ?_
  refine v_iadd hx hb dL_law_246 _ rfl ?_
  refine lv_topi (fun z16 e_z16 => ?_)
  have g_z16 : z16.toInt = i.toInt + 3 := by rw [e_z16]; exact n_add (a := i.toInt) (b := 3) rfl (by decide +kernel) (by omega) (by omega)
  refine va_sld hx hb hX0 hbl hbA hS (j_in (a := z16.toInt) rfl (by omega) (by omega)) dL_law_247 ?_
  refine lv_topi (fun y17 e_y17 => ?_)
  have q_y17 : y6 = y17 := by rw [e_y6, e_y17, e_z5, e_z16]
  clear e_y17
  subst q_y17
  have hM := r043_X9_put l dC dI cI cJ cII cJJ H8.size 0 adm f9_size f9_equations f9_areSteps f9_foundMany f9_many f9_rank f9_freeMany f9_arePlans f9_planMany aim alm y2 y4 y6 (by omega) (by omega) (by omega) (by omega) (by omega) (by omega) (by omega) (by omega) (by omega) h26 h25
  refine k3V_i (q0 := 22) ⟨hx, hb, hml, hown, hts⟩ hK hP hD hS hA hX cv_RL_27 [0, 1, 2, 3, 4, 5, 6, 7, 8, 9, 10, 11, 12, 13, 14, 15, 16, 17, 18, 19, 20, 21, 22, 23, 24, 25, 26, 27] [28, 29, 30, 31, 32, 33, 34, 35, 36, 37, 38, 39, 40, 41, 42, 43, 44, 45, 46, 47, 48, 49, 50, 51, 52, 53, 54, 55, 56, 57, 58, 59, 60, 61, 62, 63, 64, 65, 66, 67, 68, 69, 70, 71, 72, 73, 74, 75, 76, 77, 78, 79, 80, 81, 82, 83, 84, 85, 86, 87, 88, 89, 90, 91] (wr := (WX cI cJ cII cJJ adx f3_unknowns f3_equations f2_roundSupports v9 f7_size f1_size f5_keptSize f5_aheadSize f0_solved f4_blockCount f4_blockLength f4_lastIsFree v10 ai11 alx w0 w1 w2 w3)) rfl rfl rfl rfl (by decide) hM ⟨by decide +kernel, by decide +kernel⟩ rfl rfl (Or.inl rfl) (rest := []) rfl rfl rfl hl.1 rfl (Nat.le_of_ble_eq_true rfl) dL_law_248 ⟨Nat.le_of_ble_eq_true rfl, Nat.le_of_ble_eq_true rfl⟩ (fun r18 t H1 locs ht hB hj hS => ?_)
  obtain ⟨v20, v21, ai22, ⟨pr18_0, pr18_1, pr18_2, pr18_3, pr18_4, pr18_5⟩, hP1, -, hD1⟩ := hB
  rw [ht] at hP1
  obtain ⟨hP, hD⟩ := hj _ hP1 hD1
  clear ht hj hP1 hD1 hM
  generalize H1 = H19 at hP hS ⊢
  refine lv_pop hx hb dL_law_251 rfl ?_
  refine lv_goto (tgt := 1072) hx hb dL_law_252 (by decide) ?_
  obtain ⟨z, e_z⟩ : ∃ q : Int32, q = i + Int32.ofInt 5 := ⟨_, rfl⟩
  have g_z : z.toInt = i.toInt + 5 := by rw [e_z]; exact n_add (a := i.toInt) (b := 5) rfl (by decide +kernel) (by omega) (by omega)
  refine lv_iinc (v := z) (lv' := [(3, .int z), (2, .ref (adm 22)), (1, .ref (adx 0)), (0, .ref b)]) hx hb dL_law_1072 hl (k := 0) rfl e_z.symm (by decide) rfl (fun ls hl => ?_)
  refine lv_goto (tgt := 18) hx hb dL_law_1075 (by decide) ?_
  exact K z g_z f3_unknowns f3_equations f2_roundSupports v9 f7_size f1_size f5_keptSize f5_aheadSize f0_solved f4_blockCount f4_blockLength f4_lastIsFree v10 ai11 alx w0 w1 w2 w3 f9_size f9_equations v20 f9_foundMany f9_many f9_rank f9_freeMany v21 f9_planMany ai22 alm _ _ _ (by omega) (by omega) (by omega) (by omega) (by omega) (by omega) (by omega) (by omega) (by omega) (by omega) (by omega) pr7_2 h12 h13 h14 h15 (by omega) (by omega) (by omega) (by omega) (by omega) (by omega) (by omega) (by omega) (by omega) pr18_4 pr18_3 (by omega) (by omega) (SDr_m (SDr_x h29 pr7_3 (by decide)) pr18_5 (by decide)) (TRr_m (TRr_x h30 pr7_3 (by decide)) pr18_5 (by decide)) hP hD hS hl
set_option maxRecDepth 100000 in
set_option maxHeartbeats 4000000 in
theorem lc_3 {p : Program} {e : Env} {s : State} {m : MethodId} {below : List Frame} {meth : Method} {c : Code} (l : Launch) {b L : Nat} {xs : Nat → Int32} (C0 : lw_At p s m meth c b L xs) (hL : L ≤ 2560) {dC : Nat → ClassId} {dI : Nat → Nat → Nat} {cI cJ cII cJJ : ClassId} {g : Nat} {adx adm : Nat → Nat} {i : Int32} (hi0 : 0 ≤ i.toInt) (hi1 : i.toInt + 5 ≤ (L : Int)) (K : ∀ z : Int32, z.toInt = i.toInt + 5 → LPd p l e s m below meth c b dC dI cI cJ cII cJJ adx adm z) (hK : va_K (dC, dI) vwCl (TY cI cJ cII cJJ) s) (hX : GXA 1 g (AA s) s) : ∀ (f3_unknowns f3_equations f2_roundSupports f2_stale f7_size f1_size f5_keptSize f5_aheadSize f0_solved f4_blockCount f4_blockLength f4_lastIsFree f4_stale : Int32) (aix : Nat → Nat → Int32) (alx : Nat → Nat → Int64) (w0 w1 w2 w3 : Nat) (f9_size f9_equations f9_areSteps f9_foundMany f9_many f9_rank f9_freeMany f9_arePlans f9_planMany : Int32) (aim : Nat → Nat → Int32) (alm : Nat → Nat → Int64) (H : Heap) (locs : List Loc) (ls : Array Slot), (1 ≤ f3_unknowns.toInt ∧ f3_unknowns.toInt ≤ 4) → (0 ≤ f3_equations.toInt ∧ f3_equations.toInt ≤ 3) → (0 ≤ f2_stale.toInt ∧ f2_stale.toInt ≤ 1) → (0 ≤ f7_size.toInt ∧ f7_size.toInt ≤ 256) → (0 ≤ f1_size.toInt ∧ f1_size.toInt ≤ 4) → (0 ≤ f5_keptSize.toInt ∧ f5_keptSize.toInt ≤ 128) → (0 ≤ f5_aheadSize.toInt ∧ f5_aheadSize.toInt ≤ 128) → (0 ≤ f4_blockCount.toInt ∧ f4_blockCount.toInt ≤ 9261) → (0 ≤ f4_blockLength.toInt ∧ f4_blockLength.toInt ≤ 21) → (0 ≤ f4_lastIsFree.toInt ∧ f4_lastIsFree.toInt ≤ 1) → (0 ≤ f4_stale.toInt ∧ f4_stale.toInt ≤ 1) → IAX aix → RWX adx w0 → RWX adx w1 → RWX adx w2 → RWX adx w3 → (1 ≤ f9_size.toInt ∧ f9_size.toInt ≤ 4) → (0 ≤ f9_equations.toInt ∧ f9_equations.toInt ≤ 3) → (0 ≤ f9_areSteps.toInt ∧ f9_areSteps.toInt ≤ 1) → (0 ≤ f9_foundMany.toInt ∧ f9_foundMany.toInt ≤ 99999) → (0 ≤ f9_many.toInt ∧ f9_many.toInt ≤ 6000) → (0 ≤ f9_rank.toInt ∧ f9_rank.toInt ≤ 3) → (0 ≤ f9_freeMany.toInt ∧ f9_freeMany.toInt ≤ 4) → (0 ≤ f9_arePlans.toInt ∧ f9_arePlans.toInt ≤ 1) → (0 ≤ f9_planMany.toInt ∧ f9_planMany.toInt ≤ 194481) → IAM aim → (f9_areSteps.toInt = 0 ∨ CIa aim f9_size f9_many.toInt) → f3_unknowns.toInt = f9_size.toInt → f3_equations.toInt = f9_equations.toInt → SDr aix aim f3_equations.toInt → TRr aix aim → va_P (dC, dI) vwCl ((WX cI cJ cII cJJ adx f3_unknowns f3_equations f2_roundSupports f2_stale f7_size f1_size f5_keptSize f5_aheadSize f0_solved f4_blockCount f4_blockLength f4_lastIsFree f4_stale aix alx w0 w1 w2 w3) ++ (WM cI cJ cII cJJ adm f9_size f9_equations f9_areSteps f9_foundMany f9_many f9_rank f9_freeMany f9_arePlans f9_planMany aim alm)) H → va_D (AA s) ((WX cI cJ cII cJJ adx f3_unknowns f3_equations f2_roundSupports f2_stale f7_size f1_size f5_keptSize f5_aheadSize f0_solved f4_blockCount f4_blockLength f4_lastIsFree f4_stale aix alx w0 w1 w2 w3) ++ (WM cI cJ cII cJJ adm f9_size f9_equations f9_areSteps f9_foundMany f9_many f9_rank f9_freeMany f9_arePlans f9_planMany aim alm)) → va_S (AA s) s.heap H locs → lv_has ls 4 [(3, .int i), (2, .ref (adm 22)), (1, .ref (adx 0)), (0, .ref b)] → W p l e room_1 s m #[Value.ref b] below meth c H locs 600000 7302250 (lw_Z below #[Value.ref b] s) (F0 m 255 ls []) := by
  obtain ⟨hx, hb, hr, hml, hown, hts0, hX0, hbl, hlocks, hgv⟩ := id C0
  have hts : ∀ w ∈ TT, w.before #[Value.ref b] s = true := fun w h => hts0 w (TT_tbl h)
  have hA : ∀ q : Nat, s.heap.size ≤ q → AA s q := fun _ h => h
  have hbA : ¬ AA s b := Nat.not_le.mpr hbl
  have hown : s.vm.findClass RL = some m.cls := hown
  intro f3_unknowns f3_equations f2_roundSupports f2_stale f7_size f1_size f5_keptSize f5_aheadSize f0_solved f4_blockCount f4_blockLength f4_lastIsFree f4_stale aix alx w0 w1 w2 w3 f9_size f9_equations f9_areSteps f9_foundMany f9_many f9_rank f9_freeMany f9_arePlans f9_planMany aim alm H locs ls h0 h1 h2 h3 h4 h5 h6 h7 h8 h9 h10 h11 h12 h13 h14 h15 h16 h17 h18 h19 h20 h21 h22 h23 h24 h25 h26 h27 h28 h29 h30 hP hD hS hl
  refine lv_aload_n hx hb dL_law_255 rfl (lv_at hl 2 rfl) ?_
  refine lv_aload_n hx hb dL_law_256 rfl (lv_at hl 3 rfl) ?_
  refine lv_iload_n hx hb dL_law_257 rfl (lv_at hl 0 rfl) ?_
  refine lv_iconst (v := 1) hx hb dL_law_258 (by decide) ?_
  refine v_iadd hx hb dL_law_259 _ rfl ?_
  refine lv_topi (fun z1 e_z1 => ?_)
  have g_z1 : z1.toInt = i.toInt + 1 := by rw [e_z1]; exact n_add (a := i.toInt) (b := 1) rfl (by decide +kernel) (by omega) (by omega)
  refine va_sld hx hb hX0 hbl hbA hS (j_in (a := z1.toInt) rfl (by omega) (by omega)) dL_law_260 ?_
  refine lv_topi (fun y2 e_y2 => ?_)
  refine lv_aload_n hx hb dL_law_261 rfl (lv_at hl 3 rfl) ?_
  refine lv_iload_n hx hb dL_law_262 rfl (lv_at hl 0 rfl) ?_
  refine lv_iconst (v := 2) hx hb dL_law_263 (by decide) ?_
  refine v_iadd hx hb dL_law_264 _ rfl ?_
  refine lv_topi (fun z3 e_z3 => ?_)
  have g_z3 : z3.toInt = i.toInt + 2 := by rw [e_z3]; exact n_add (a := i.toInt) (b := 2) rfl (by decide +kernel) (by omega) (by omega)
  refine va_sld hx hb hX0 hbl hbA hS (j_in (a := z3.toInt) rfl (by omega) (by omega)) dL_law_265 ?_
  refine lv_topi (fun y4 e_y4 => ?_)
  have hM := m051_X8_right l dC dI cI cJ cII cJJ H.size 0 adx f3_unknowns f3_equations f2_roundSupports f2_stale f7_size f1_size f5_keptSize f5_aheadSize f0_solved f4_blockCount f4_blockLength f4_lastIsFree f4_stale aix alx w0 w1 w2 w3 y2 y4 (by omega) (by omega) (by omega) (by omega) (by omega) (by omega) (by omega) (by omega) (by omega) (by omega) (by omega) h11 h12 h13 h14 h15
  refine k3V_i (q0 := 0) ⟨hx, hb, hml, hown, hts⟩ hK hP hD hS hA hX cv_RL_28 [0, 1, 2, 3, 4, 5, 6, 7, 8, 9, 10, 11, 12, 13, 14, 15, 16, 17, 18, 19, 20, 21, 22, 23, 24, 25, 26, 27, 28, 29, 30, 31, 32, 33, 34, 35, 36, 37, 38, 39, 40, 41, 42, 43, 44, 45, 46, 47, 48, 49, 50, 51, 52, 53, 54, 55, 56, 57, 58, 59, 60, 61, 62, 63] [64, 65, 66, 67, 68, 69, 70, 71, 72, 73, 74, 75, 76, 77, 78, 79, 80, 81, 82, 83, 84, 85, 86, 87, 88, 89, 90, 91] (wr := (WM cI cJ cII cJJ adm f9_size f9_equations f9_areSteps f9_foundMany f9_many f9_rank f9_freeMany f9_arePlans f9_planMany aim alm)) rfl rfl rfl rfl (by decide) hM ⟨by decide +kernel, by decide +kernel⟩ rfl rfl (Or.inl rfl) (rest := []) rfl rfl rfl hl.1 rfl (Nat.le_of_ble_eq_true rfl) dL_law_266 ⟨Nat.le_of_ble_eq_true rfl, Nat.le_of_ble_eq_true rfl⟩ (fun r5 t H1 locs ht hB hj hS => ?_)
  obtain ⟨v7, ai8, ⟨pr5_0, pr5_1, pr5_2, pr5_3, pr5_4⟩, hP1, -, hD1⟩ := hB
  rw [ht] at hP1
  obtain ⟨hP, hD⟩ := hj _ hP1 hD1
  clear ht hj hP1 hD1 hM
  generalize H1 = H6 at hP hS ⊢
  refine lv_pop hx hb dL_law_269 rfl ?_
  refine lv_aload_n hx hb dL_law_270 rfl (lv_at hl 1 rfl) ?_
  refine lv_aload_n hx hb dL_law_271 rfl (lv_at hl 3 rfl) ?_
  refine lv_iload_n hx hb dL_law_272 rfl (lv_at hl 0 rfl) ?_
  refine lv_iconst (v := 1) hx hb dL_law_273 (by decide) ?_
  refine v_iadd hx hb dL_law_274 _ rfl ?_
  refine lv_topi (fun z9 e_z9 => ?_)
  have g_z9 : z9.toInt = i.toInt + 1 := by rw [e_z9]; exact n_add (a := i.toInt) (b := 1) rfl (by decide +kernel) (by omega) (by omega)
  refine va_sld hx hb hX0 hbl hbA hS (j_in (a := z9.toInt) rfl (by omega) (by omega)) dL_law_275 ?_
  refine lv_topi (fun y10 e_y10 => ?_)
  have q_y10 : y2 = y10 := by rw [e_y2, e_y10, e_z1, e_z9]
  clear e_y10
  subst q_y10
  refine lv_aload_n hx hb dL_law_276 rfl (lv_at hl 3 rfl) ?_
  refine lv_iload_n hx hb dL_law_277 rfl (lv_at hl 0 rfl) ?_
  refine lv_iconst (v := 2) hx hb dL_law_278 (by decide) ?_
  refine v_iadd hx hb dL_law_279 _ rfl ?_
  refine lv_topi (fun z11 e_z11 => ?_)
  have g_z11 : z11.toInt = i.toInt + 2 := by rw [e_z11]; exact n_add (a := i.toInt) (b := 2) rfl (by decide +kernel) (by omega) (by omega)
  refine va_sld hx hb hX0 hbl hbA hS (j_in (a := z11.toInt) rfl (by omega) (by omega)) dL_law_280 ?_
  refine lv_topi (fun y12 e_y12 => ?_)
  have q_y12 : y4 = y12 := by rw [e_y4, e_y12, e_z3, e_z11]
  clear e_y12
  subst q_y12
  have hM := r044_X9_right l dC dI cI cJ cII cJJ H6.size 0 adm f9_size f9_equations f9_areSteps f9_foundMany f9_many f9_rank f9_freeMany f9_arePlans f9_planMany aim alm y2 y4 (by omega) (by omega) (by omega) (by omega) (by omega) (by omega) (by omega) (by omega) (by omega) h26 h25
  refine k3V_i (q0 := 22) ⟨hx, hb, hml, hown, hts⟩ hK hP hD hS hA hX cv_RL_32 [0, 1, 2, 3, 4, 5, 6, 7, 8, 9, 10, 11, 12, 13, 14, 15, 16, 17, 18, 19, 20, 21, 22, 23, 24, 25, 26, 27] [28, 29, 30, 31, 32, 33, 34, 35, 36, 37, 38, 39, 40, 41, 42, 43, 44, 45, 46, 47, 48, 49, 50, 51, 52, 53, 54, 55, 56, 57, 58, 59, 60, 61, 62, 63, 64, 65, 66, 67, 68, 69, 70, 71, 72, 73, 74, 75, 76, 77, 78, 79, 80, 81, 82, 83, 84, 85, 86, 87, 88, 89, 90, 91] (wr := (WX cI cJ cII cJJ adx f3_unknowns f3_equations f2_roundSupports f2_stale f7_size f1_size f5_keptSize f5_aheadSize f0_solved f4_blockCount f4_blockLength f4_lastIsFree v7 ai8 alx w0 w1 w2 w3)) rfl rfl rfl rfl (by decide) hM ⟨by decide +kernel, by decide +kernel⟩ rfl rfl (Or.inl rfl) (rest := []) rfl rfl rfl hl.1 rfl (Nat.le_of_ble_eq_true rfl) dL_law_281 ⟨Nat.le_of_ble_eq_true rfl, Nat.le_of_ble_eq_true rfl⟩ (fun r13 t H1 locs ht hB hj hS => ?_)
  obtain ⟨v15, ai16, ⟨pr13_0, pr13_1, pr13_2, pr13_3, pr13_4, pr13_5⟩, hP1, -, hD1⟩ := hB
  rw [ht] at hP1
  obtain ⟨hP, hD⟩ := hj _ hP1 hD1
  clear ht hj hP1 hD1 hM
  generalize H1 = H14 at hP hS ⊢
  refine lv_pop hx hb dL_law_284 rfl ?_
  refine lv_goto (tgt := 1072) hx hb dL_law_285 (by decide) ?_
  obtain ⟨z, e_z⟩ : ∃ q : Int32, q = i + Int32.ofInt 5 := ⟨_, rfl⟩
  have g_z : z.toInt = i.toInt + 5 := by rw [e_z]; exact n_add (a := i.toInt) (b := 5) rfl (by decide +kernel) (by omega) (by omega)
  refine lv_iinc (v := z) (lv' := [(3, .int z), (2, .ref (adm 22)), (1, .ref (adx 0)), (0, .ref b)]) hx hb dL_law_1072 hl (k := 0) rfl e_z.symm (by decide) rfl (fun ls hl => ?_)
  refine lv_goto (tgt := 18) hx hb dL_law_1075 (by decide) ?_
  exact K z g_z f3_unknowns f3_equations f2_roundSupports f2_stale f7_size f1_size f5_keptSize f5_aheadSize f0_solved f4_blockCount f4_blockLength f4_lastIsFree v7 ai8 alx w0 w1 w2 w3 f9_size f9_equations f9_areSteps f9_foundMany f9_many f9_rank f9_freeMany v15 f9_planMany ai16 alm _ _ _ (by omega) (by omega) (by omega) (by omega) (by omega) (by omega) (by omega) (by omega) (by omega) (by omega) (by omega) pr5_3 h12 h13 h14 h15 (by omega) (by omega) (by omega) (by omega) (by omega) (by omega) (by omega) (by omega) (by omega) pr13_4 pr13_1 (by omega) (by omega) (SDr_rt h29 pr5_2 pr13_3 (by omega)) (TRr_m (TRr_x h30 pr5_4 (by decide)) pr13_5 (by decide)) hP hD hS hl
set_option maxRecDepth 100000 in
set_option maxHeartbeats 4000000 in
theorem lc_4 {p : Program} {e : Env} {s : State} {m : MethodId} {below : List Frame} {meth : Method} {c : Code} (l : Launch) {b L : Nat} {xs : Nat → Int32} (C0 : lw_At p s m meth c b L xs) (hL : L ≤ 2560) {dC : Nat → ClassId} {dI : Nat → Nat → Nat} {cI cJ cII cJJ : ClassId} {g : Nat} {adx adm : Nat → Nat} {i : Int32} (hi0 : 0 ≤ i.toInt) (hi1 : i.toInt + 5 ≤ (L : Int)) (K : ∀ z : Int32, z.toInt = i.toInt + 5 → LPd p l e s m below meth c b dC dI cI cJ cII cJJ adx adm z) (hK : va_K (dC, dI) vwCl (TY cI cJ cII cJJ) s) (hX : GXA 1 g (AA s) s) : ∀ (f3_unknowns f3_equations f2_roundSupports f2_stale f7_size f1_size f5_keptSize f5_aheadSize f0_solved f4_blockCount f4_blockLength f4_lastIsFree f4_stale : Int32) (aix : Nat → Nat → Int32) (alx : Nat → Nat → Int64) (w0 w1 w2 w3 : Nat) (f9_size f9_equations f9_areSteps f9_foundMany f9_many f9_rank f9_freeMany f9_arePlans f9_planMany : Int32) (aim : Nat → Nat → Int32) (alm : Nat → Nat → Int64) (H : Heap) (locs : List Loc) (ls : Array Slot), (1 ≤ f3_unknowns.toInt ∧ f3_unknowns.toInt ≤ 4) → (0 ≤ f3_equations.toInt ∧ f3_equations.toInt ≤ 3) → (0 ≤ f2_stale.toInt ∧ f2_stale.toInt ≤ 1) → (0 ≤ f7_size.toInt ∧ f7_size.toInt ≤ 256) → (0 ≤ f1_size.toInt ∧ f1_size.toInt ≤ 4) → (0 ≤ f5_keptSize.toInt ∧ f5_keptSize.toInt ≤ 128) → (0 ≤ f5_aheadSize.toInt ∧ f5_aheadSize.toInt ≤ 128) → (0 ≤ f4_blockCount.toInt ∧ f4_blockCount.toInt ≤ 9261) → (0 ≤ f4_blockLength.toInt ∧ f4_blockLength.toInt ≤ 21) → (0 ≤ f4_lastIsFree.toInt ∧ f4_lastIsFree.toInt ≤ 1) → (0 ≤ f4_stale.toInt ∧ f4_stale.toInt ≤ 1) → IAX aix → RWX adx w0 → RWX adx w1 → RWX adx w2 → RWX adx w3 → (1 ≤ f9_size.toInt ∧ f9_size.toInt ≤ 4) → (0 ≤ f9_equations.toInt ∧ f9_equations.toInt ≤ 3) → (0 ≤ f9_areSteps.toInt ∧ f9_areSteps.toInt ≤ 1) → (0 ≤ f9_foundMany.toInt ∧ f9_foundMany.toInt ≤ 99999) → (0 ≤ f9_many.toInt ∧ f9_many.toInt ≤ 6000) → (0 ≤ f9_rank.toInt ∧ f9_rank.toInt ≤ 3) → (0 ≤ f9_freeMany.toInt ∧ f9_freeMany.toInt ≤ 4) → (0 ≤ f9_arePlans.toInt ∧ f9_arePlans.toInt ≤ 1) → (0 ≤ f9_planMany.toInt ∧ f9_planMany.toInt ≤ 194481) → IAM aim → (f9_areSteps.toInt = 0 ∨ CIa aim f9_size f9_many.toInt) → f3_unknowns.toInt = f9_size.toInt → f3_equations.toInt = f9_equations.toInt → SDr aix aim f3_equations.toInt → TRr aix aim → va_P (dC, dI) vwCl ((WX cI cJ cII cJJ adx f3_unknowns f3_equations f2_roundSupports f2_stale f7_size f1_size f5_keptSize f5_aheadSize f0_solved f4_blockCount f4_blockLength f4_lastIsFree f4_stale aix alx w0 w1 w2 w3) ++ (WM cI cJ cII cJJ adm f9_size f9_equations f9_areSteps f9_foundMany f9_many f9_rank f9_freeMany f9_arePlans f9_planMany aim alm)) H → va_D (AA s) ((WX cI cJ cII cJJ adx f3_unknowns f3_equations f2_roundSupports f2_stale f7_size f1_size f5_keptSize f5_aheadSize f0_solved f4_blockCount f4_blockLength f4_lastIsFree f4_stale aix alx w0 w1 w2 w3) ++ (WM cI cJ cII cJJ adm f9_size f9_equations f9_areSteps f9_foundMany f9_many f9_rank f9_freeMany f9_arePlans f9_planMany aim alm)) → va_S (AA s) s.heap H locs → lv_has ls 4 [(3, .int i), (2, .ref (adm 22)), (1, .ref (adx 0)), (0, .ref b)] → W p l e room_1 s m #[Value.ref b] below meth c H locs 600000 7302250 (lw_Z below #[Value.ref b] s) (F0 m 288 ls []) := by
  obtain ⟨hx, hb, hr, hml, hown, hts0, hX0, hbl, hlocks, hgv⟩ := id C0
  have hts : ∀ w ∈ TT, w.before #[Value.ref b] s = true := fun w h => hts0 w (TT_tbl h)
  have hA : ∀ q : Nat, s.heap.size ≤ q → AA s q := fun _ h => h
  have hbA : ¬ AA s b := Nat.not_le.mpr hbl
  have hown : s.vm.findClass RL = some m.cls := hown
  intro f3_unknowns f3_equations f2_roundSupports f2_stale f7_size f1_size f5_keptSize f5_aheadSize f0_solved f4_blockCount f4_blockLength f4_lastIsFree f4_stale aix alx w0 w1 w2 w3 f9_size f9_equations f9_areSteps f9_foundMany f9_many f9_rank f9_freeMany f9_arePlans f9_planMany aim alm H locs ls h0 h1 h2 h3 h4 h5 h6 h7 h8 h9 h10 h11 h12 h13 h14 h15 h16 h17 h18 h19 h20 h21 h22 h23 h24 h25 h26 h27 h28 h29 h30 hP hD hS hl
  refine lv_aload_n hx hb dL_law_288 rfl (lv_at hl 2 rfl) ?_
  refine lv_aload_n hx hb dL_law_289 rfl (lv_at hl 3 rfl) ?_
  refine lv_iload_n hx hb dL_law_290 rfl (lv_at hl 0 rfl) ?_
  refine lv_iconst (v := 1) hx hb dL_law_291 (by decide) ?_
  refine v_iadd hx hb dL_law_292 _ rfl ?_
  refine lv_topi (fun z1 e_z1 => ?_)
  have g_z1 : z1.toInt = i.toInt + 1 := by rw [e_z1]; exact n_add (a := i.toInt) (b := 1) rfl (by decide +kernel) (by omega) (by omega)
  refine va_sld hx hb hX0 hbl hbA hS (j_in (a := z1.toInt) rfl (by omega) (by omega)) dL_law_293 ?_
  refine lv_topi (fun y2 e_y2 => ?_)
  refine lv_aload_n hx hb dL_law_294 rfl (lv_at hl 3 rfl) ?_
  refine lv_iload_n hx hb dL_law_295 rfl (lv_at hl 0 rfl) ?_
  refine lv_iconst (v := 2) hx hb dL_law_296 (by decide) ?_
  refine v_iadd hx hb dL_law_297 _ rfl ?_
  refine lv_topi (fun z3 e_z3 => ?_)
  have g_z3 : z3.toInt = i.toInt + 2 := by rw [e_z3]; exact n_add (a := i.toInt) (b := 2) rfl (by decide +kernel) (by omega) (by omega)
  refine va_sld hx hb hX0 hbl hbA hS (j_in (a := z3.toInt) rfl (by omega) (by omega)) dL_law_298 ?_
  refine lv_topi (fun y4 e_y4 => ?_)
  refine lv_aload_n hx hb dL_law_299 rfl (lv_at hl 3 rfl) ?_
  refine lv_iload_n hx hb dL_law_300 rfl (lv_at hl 0 rfl) ?_
  refine lv_iconst (v := 3) hx hb dL_law_301 (by decide) ?_
  refine v_iadd hx hb dL_law_302 _ rfl ?_
  refine lv_topi (fun z5 e_z5 => ?_)
  have g_z5 : z5.toInt = i.toInt + 3 := by rw [e_z5]; exact n_add (a := i.toInt) (b := 3) rfl (by decide +kernel) (by omega) (by omega)
  refine va_sld hx hb hX0 hbl hbA hS (j_in (a := z5.toInt) rfl (by omega) (by omega)) dL_law_303 ?_
  refine lv_topi (fun y6 e_y6 => ?_)
  have hM := m052_X8_bound l dC dI cI cJ cII cJJ H.size 0 adx f3_unknowns f3_equations f2_roundSupports f2_stale f7_size f1_size f5_keptSize f5_aheadSize f0_solved f4_blockCount f4_blockLength f4_lastIsFree f4_stale aix alx w0 w1 w2 w3 y2 y4 y6 (by omega) (by omega) (by omega) (by omega) (by omega) (by omega) (by omega) (by omega) (by omega) (by omega) (by omega) h11 h12 h13 h14 h15
  refine k3V_i (q0 := 0) ⟨hx, hb, hml, hown, hts⟩ hK hP hD hS hA hX cv_RL_33 [0, 1, 2, 3, 4, 5, 6, 7, 8, 9, 10, 11, 12, 13, 14, 15, 16, 17, 18, 19, 20, 21, 22, 23, 24, 25, 26, 27, 28, 29, 30, 31, 32, 33, 34, 35, 36, 37, 38, 39, 40, 41, 42, 43, 44, 45, 46, 47, 48, 49, 50, 51, 52, 53, 54, 55, 56, 57, 58, 59, 60, 61, 62, 63] [64, 65, 66, 67, 68, 69, 70, 71, 72, 73, 74, 75, 76, 77, 78, 79, 80, 81, 82, 83, 84, 85, 86, 87, 88, 89, 90, 91] (wr := (WM cI cJ cII cJJ adm f9_size f9_equations f9_areSteps f9_foundMany f9_many f9_rank f9_freeMany f9_arePlans f9_planMany aim alm)) rfl rfl rfl rfl (by decide) hM ⟨by decide +kernel, by decide +kernel⟩ rfl rfl (Or.inl rfl) (rest := []) rfl rfl rfl hl.1 rfl (Nat.le_of_ble_eq_true rfl) dL_law_304 ⟨Nat.le_of_ble_eq_true rfl, Nat.le_of_ble_eq_true rfl⟩ (fun r7 t H1 locs ht hB hj hS => ?_)
  obtain ⟨v9, ai10, ⟨pr7_0, pr7_1, pr7_2, pr7_3⟩, hP1, -, hD1⟩ := hB
  rw [ht] at hP1
  obtain ⟨hP, hD⟩ := hj _ hP1 hD1
  clear ht hj hP1 hD1 hM
  generalize H1 = H8 at hP hS ⊢
  refine lv_pop hx hb dL_law_307 rfl ?_
  refine lv_aload_n hx hb dL_law_308 rfl (lv_at hl 1 rfl) ?_
  refine lv_aload_n hx hb dL_law_309 rfl (lv_at hl 3 rfl) ?_
  refine lv_iload_n hx hb dL_law_310 rfl (lv_at hl 0 rfl) ?_
  refine lv_iconst (v := 1) hx hb dL_law_311 (by decide) ?_
  refine v_iadd hx hb dL_law_312 _ rfl ?_
  refine lv_topi (fun z11 e_z11 => ?_)
  have g_z11 : z11.toInt = i.toInt + 1 := by rw [e_z11]; exact n_add (a := i.toInt) (b := 1) rfl (by decide +kernel) (by omega) (by omega)
  refine va_sld hx hb hX0 hbl hbA hS (j_in (a := z11.toInt) rfl (by omega) (by omega)) dL_law_313 ?_
  refine lv_topi (fun y12 e_y12 => ?_)
  have q_y12 : y2 = y12 := by rw [e_y2, e_y12, e_z1, e_z11]
  clear e_y12
  subst q_y12
  refine lv_aload_n hx hb dL_law_314 rfl (lv_at hl 3 rfl) ?_
  refine lv_iload_n hx hb dL_law_315 rfl (lv_at hl 0 rfl) ?_
  refine lv_iconst (v := 2) hx hb dL_law_316 (by decide) ?_
  refine v_iadd hx hb dL_law_317 _ rfl ?_
  refine lv_topi (fun z13 e_z13 => ?_)
  have g_z13 : z13.toInt = i.toInt + 2 := by rw [e_z13]; exact n_add (a := i.toInt) (b := 2) rfl (by decide +kernel) (by omega) (by omega)
  refine va_sld hx hb hX0 hbl hbA hS (j_in (a := z13.toInt) rfl (by omega) (by omega)) dL_law_318 ?_
  refine lv_topi (fun y14 e_y14 => ?_)
  have q_y14 : y4 = y14 := by rw [e_y4, e_y14, e_z3, e_z13]
  clear e_y14
  subst q_y14
  refine lv_aload_n hx hb dL_law_319 rfl (lv_at hl 3 rfl) ?_
  refine lv_iload_n hx hb dL_law_320 rfl (lv_at hl 0 rfl) ?_
  refine lv_iconst (v := 3) hx hb dL_law_321 (by decide) ?_
  refine v_iadd hx hb dL_law_322 _ rfl ?_
  refine lv_topi (fun z15 e_z15 => ?_)
  have g_z15 : z15.toInt = i.toInt + 3 := by rw [e_z15]; exact n_add (a := i.toInt) (b := 3) rfl (by decide +kernel) (by omega) (by omega)
  refine va_sld hx hb hX0 hbl hbA hS (j_in (a := z15.toInt) rfl (by omega) (by omega)) dL_law_323 ?_
  refine lv_topi (fun y16 e_y16 => ?_)
  have q_y16 : y6 = y16 := by rw [e_y6, e_y16, e_z5, e_z15]
  clear e_y16
  subst q_y16
  have hM := r045_X9_bound l dC dI cI cJ cII cJJ H8.size 0 adm f9_size f9_equations f9_areSteps f9_foundMany f9_many f9_rank f9_freeMany f9_arePlans f9_planMany aim alm y2 y4 y6 (by omega) (by omega) (by omega) (by omega) (by omega) (by omega) (by omega) (by omega) (by omega) h26 h25
  refine k3V_i (q0 := 22) ⟨hx, hb, hml, hown, hts⟩ hK hP hD hS hA hX cv_RL_36 [0, 1, 2, 3, 4, 5, 6, 7, 8, 9, 10, 11, 12, 13, 14, 15, 16, 17, 18, 19, 20, 21, 22, 23, 24, 25, 26, 27] [28, 29, 30, 31, 32, 33, 34, 35, 36, 37, 38, 39, 40, 41, 42, 43, 44, 45, 46, 47, 48, 49, 50, 51, 52, 53, 54, 55, 56, 57, 58, 59, 60, 61, 62, 63, 64, 65, 66, 67, 68, 69, 70, 71, 72, 73, 74, 75, 76, 77, 78, 79, 80, 81, 82, 83, 84, 85, 86, 87, 88, 89, 90, 91] (wr := (WX cI cJ cII cJJ adx f3_unknowns f3_equations f2_roundSupports f2_stale f7_size f1_size f5_keptSize f5_aheadSize f0_solved f4_blockCount f4_blockLength f4_lastIsFree v9 ai10 alx w0 w1 w2 w3)) rfl rfl rfl rfl (by decide) hM ⟨by decide +kernel, by decide +kernel⟩ rfl rfl (Or.inl rfl) (rest := []) rfl rfl rfl hl.1 rfl (Nat.le_of_ble_eq_true rfl) dL_law_324 ⟨Nat.le_of_ble_eq_true rfl, Nat.le_of_ble_eq_true rfl⟩ (fun r17 t H1 locs ht hB hj hS => ?_)
  obtain ⟨v19, ai20, ⟨pr17_0, pr17_1, pr17_2, pr17_3, pr17_4, pr17_5⟩, hP1, -, hD1⟩ := hB
  rw [ht] at hP1
  obtain ⟨hP, hD⟩ := hj _ hP1 hD1
  clear ht hj hP1 hD1 hM
  generalize H1 = H18 at hP hS ⊢
  refine lv_pop hx hb dL_law_327 rfl ?_
  refine lv_goto (tgt := 1072) hx hb dL_law_328 (by decide) ?_
  obtain ⟨z, e_z⟩ : ∃ q : Int32, q = i + Int32.ofInt 5 := ⟨_, rfl⟩
  have g_z : z.toInt = i.toInt + 5 := by rw [e_z]; exact n_add (a := i.toInt) (b := 5) rfl (by decide +kernel) (by omega) (by omega)
  refine lv_iinc (v := z) (lv' := [(3, .int z), (2, .ref (adm 22)), (1, .ref (adx 0)), (0, .ref b)]) hx hb dL_law_1072 hl (k := 0) rfl e_z.symm (by decide) rfl (fun ls hl => ?_)
  refine lv_goto (tgt := 18) hx hb dL_law_1075 (by decide) ?_
  exact K z g_z f3_unknowns f3_equations f2_roundSupports f2_stale f7_size f1_size f5_keptSize f5_aheadSize f0_solved f4_blockCount f4_blockLength f4_lastIsFree v9 ai10 alx w0 w1 w2 w3 f9_size f9_equations f9_areSteps f9_foundMany f9_many f9_rank f9_freeMany v19 f9_planMany ai20 alm _ _ _ (by omega) (by omega) (by omega) (by omega) (by omega) (by omega) (by omega) (by omega) (by omega) (by omega) (by omega) pr7_2 h12 h13 h14 h15 (by omega) (by omega) (by omega) (by omega) (by omega) (by omega) (by omega) (by omega) (by omega) pr17_4 pr17_2 (by omega) (by omega) (SDr_m (SDr_x h29 pr7_3 (by decide)) pr17_5 (by decide)) (TRr_m (TRr_x h30 pr7_3 (by decide)) pr17_5 (by decide)) hP hD hS hl
set_option maxRecDepth 100000 in
set_option maxHeartbeats 4000000 in
theorem lc_5 {p : Program} {e : Env} {s : State} {m : MethodId} {below : List Frame} {meth : Method} {c : Code} (l : Launch) {b L : Nat} {xs : Nat → Int32} (C0 : lw_At p s m meth c b L xs) (hL : L ≤ 2560) {dC : Nat → ClassId} {dI : Nat → Nat → Nat} {cI cJ cII cJJ : ClassId} {g : Nat} {adx adm : Nat → Nat} {i : Int32} (hi0 : 0 ≤ i.toInt) (hi1 : i.toInt + 5 ≤ (L : Int)) (K : ∀ z : Int32, z.toInt = i.toInt + 5 → LPd p l e s m below meth c b dC dI cI cJ cII cJJ adx adm z) (hK : va_K (dC, dI) vwCl (TY cI cJ cII cJJ) s) (hX : GXA 1 g (AA s) s) : ∀ (f3_unknowns f3_equations f2_roundSupports f2_stale f7_size f1_size f5_keptSize f5_aheadSize f0_solved f4_blockCount f4_blockLength f4_lastIsFree f4_stale : Int32) (aix : Nat → Nat → Int32) (alx : Nat → Nat → Int64) (w0 w1 w2 w3 : Nat) (f9_size f9_equations f9_areSteps f9_foundMany f9_many f9_rank f9_freeMany f9_arePlans f9_planMany : Int32) (aim : Nat → Nat → Int32) (alm : Nat → Nat → Int64) (H : Heap) (locs : List Loc) (ls : Array Slot), (1 ≤ f3_unknowns.toInt ∧ f3_unknowns.toInt ≤ 4) → (0 ≤ f3_equations.toInt ∧ f3_equations.toInt ≤ 3) → (0 ≤ f2_stale.toInt ∧ f2_stale.toInt ≤ 1) → (0 ≤ f7_size.toInt ∧ f7_size.toInt ≤ 256) → (0 ≤ f1_size.toInt ∧ f1_size.toInt ≤ 4) → (0 ≤ f5_keptSize.toInt ∧ f5_keptSize.toInt ≤ 128) → (0 ≤ f5_aheadSize.toInt ∧ f5_aheadSize.toInt ≤ 128) → (0 ≤ f4_blockCount.toInt ∧ f4_blockCount.toInt ≤ 9261) → (0 ≤ f4_blockLength.toInt ∧ f4_blockLength.toInt ≤ 21) → (0 ≤ f4_lastIsFree.toInt ∧ f4_lastIsFree.toInt ≤ 1) → (0 ≤ f4_stale.toInt ∧ f4_stale.toInt ≤ 1) → IAX aix → RWX adx w0 → RWX adx w1 → RWX adx w2 → RWX adx w3 → (1 ≤ f9_size.toInt ∧ f9_size.toInt ≤ 4) → (0 ≤ f9_equations.toInt ∧ f9_equations.toInt ≤ 3) → (0 ≤ f9_areSteps.toInt ∧ f9_areSteps.toInt ≤ 1) → (0 ≤ f9_foundMany.toInt ∧ f9_foundMany.toInt ≤ 99999) → (0 ≤ f9_many.toInt ∧ f9_many.toInt ≤ 6000) → (0 ≤ f9_rank.toInt ∧ f9_rank.toInt ≤ 3) → (0 ≤ f9_freeMany.toInt ∧ f9_freeMany.toInt ≤ 4) → (0 ≤ f9_arePlans.toInt ∧ f9_arePlans.toInt ≤ 1) → (0 ≤ f9_planMany.toInt ∧ f9_planMany.toInt ≤ 194481) → IAM aim → (f9_areSteps.toInt = 0 ∨ CIa aim f9_size f9_many.toInt) → f3_unknowns.toInt = f9_size.toInt → f3_equations.toInt = f9_equations.toInt → SDr aix aim f3_equations.toInt → TRr aix aim → va_P (dC, dI) vwCl ((WX cI cJ cII cJJ adx f3_unknowns f3_equations f2_roundSupports f2_stale f7_size f1_size f5_keptSize f5_aheadSize f0_solved f4_blockCount f4_blockLength f4_lastIsFree f4_stale aix alx w0 w1 w2 w3) ++ (WM cI cJ cII cJJ adm f9_size f9_equations f9_areSteps f9_foundMany f9_many f9_rank f9_freeMany f9_arePlans f9_planMany aim alm)) H → va_D (AA s) ((WX cI cJ cII cJJ adx f3_unknowns f3_equations f2_roundSupports f2_stale f7_size f1_size f5_keptSize f5_aheadSize f0_solved f4_blockCount f4_blockLength f4_lastIsFree f4_stale aix alx w0 w1 w2 w3) ++ (WM cI cJ cII cJJ adm f9_size f9_equations f9_areSteps f9_foundMany f9_many f9_rank f9_freeMany f9_arePlans f9_planMany aim alm)) → va_S (AA s) s.heap H locs → lv_has ls 4 [(3, .int i), (2, .ref (adm 22)), (1, .ref (adx 0)), (0, .ref b)] → W p l e room_1 s m #[Value.ref b] below meth c H locs 600000 7302250 (lw_Z below #[Value.ref b] s) (F0 m 331 ls []) := by
  obtain ⟨hx, hb, hr, hml, hown, hts0, hX0, hbl, hlocks, hgv⟩ := id C0
  have hts : ∀ w ∈ TT, w.before #[Value.ref b] s = true := fun w h => hts0 w (TT_tbl h)
  have hA : ∀ q : Nat, s.heap.size ≤ q → AA s q := fun _ h => h
  have hbA : ¬ AA s b := Nat.not_le.mpr hbl
  have hown : s.vm.findClass RL = some m.cls := hown
  intro f3_unknowns f3_equations f2_roundSupports f2_stale f7_size f1_size f5_keptSize f5_aheadSize f0_solved f4_blockCount f4_blockLength f4_lastIsFree f4_stale aix alx w0 w1 w2 w3 f9_size f9_equations f9_areSteps f9_foundMany f9_many f9_rank f9_freeMany f9_arePlans f9_planMany aim alm H locs ls h0 h1 h2 h3 h4 h5 h6 h7 h8 h9 h10 h11 h12 h13 h14 h15 h16 h17 h18 h19 h20 h21 h22 h23 h24 h25 h26 h27 h28 h29 h30 hP hD hS hl
  refine lv_aload_n hx hb dL_law_331 rfl (lv_at hl 2 rfl) ?_
  refine lv_aload_n hx hb dL_law_332 rfl (lv_at hl 3 rfl) ?_
  refine lv_iload_n hx hb dL_law_333 rfl (lv_at hl 0 rfl) ?_
  refine lv_iconst (v := 1) hx hb dL_law_334 (by decide) ?_
  refine v_iadd hx hb dL_law_335 _ rfl ?_
  refine lv_topi (fun z1 e_z1 => ?_)
  have g_z1 : z1.toInt = i.toInt + 1 := by rw [e_z1]; exact n_add (a := i.toInt) (b := 1) rfl (by decide +kernel) (by omega) (by omega)
  refine va_sld hx hb hX0 hbl hbA hS (j_in (a := z1.toInt) rfl (by omega) (by omega)) dL_law_336 ?_
  refine lv_topi (fun y2 e_y2 => ?_)
  refine lv_aload_n hx hb dL_law_337 rfl (lv_at hl 3 rfl) ?_
  refine lv_iload_n hx hb dL_law_338 rfl (lv_at hl 0 rfl) ?_
  refine lv_iconst (v := 2) hx hb dL_law_339 (by decide) ?_
  refine v_iadd hx hb dL_law_340 _ rfl ?_
  refine lv_topi (fun z3 e_z3 => ?_)
  have g_z3 : z3.toInt = i.toInt + 2 := by rw [e_z3]; exact n_add (a := i.toInt) (b := 2) rfl (by decide +kernel) (by omega) (by omega)
  refine va_sld hx hb hX0 hbl hbA hS (j_in (a := z3.toInt) rfl (by omega) (by omega)) dL_law_341 ?_
  refine lv_topi (fun y4 e_y4 => ?_)
  refine lv_aload_n hx hb dL_law_342 rfl (lv_at hl 3 rfl) ?_
  refine lv_iload_n hx hb dL_law_343 rfl (lv_at hl 0 rfl) ?_
  refine lv_iconst (v := 3) hx hb dL_law_344 (by decide) ?_
  refine v_iadd hx hb dL_law_345 _ rfl ?_
  refine lv_topi (fun z5 e_z5 => ?_)
  have g_z5 : z5.toInt = i.toInt + 3 := by rw [e_z5]; exact n_add (a := i.toInt) (b := 3) rfl (by decide +kernel) (by omega) (by omega)
  refine va_sld hx hb hX0 hbl hbA hS (j_in (a := z5.toInt) rfl (by omega) (by omega)) dL_law_346 ?_
  refine lv_topi (fun y6 e_y6 => ?_)
  have hM := m053_X8_price l dC dI cI cJ cII cJJ H.size 0 adx f3_unknowns f3_equations f2_roundSupports f2_stale f7_size f1_size f5_keptSize f5_aheadSize f0_solved f4_blockCount f4_blockLength f4_lastIsFree f4_stale aix alx w0 w1 w2 w3 y2 y4 y6 (by omega) (by omega) (by omega) (by omega) (by omega) (by omega) (by omega) (by omega) (by omega) (by omega) (by omega) h11 h12 h13 h14 h15
  refine k3V_i (q0 := 0) ⟨hx, hb, hml, hown, hts⟩ hK hP hD hS hA hX cv_RL_37 [0, 1, 2, 3, 4, 5, 6, 7, 8, 9, 10, 11, 12, 13, 14, 15, 16, 17, 18, 19, 20, 21, 22, 23, 24, 25, 26, 27, 28, 29, 30, 31, 32, 33, 34, 35, 36, 37, 38, 39, 40, 41, 42, 43, 44, 45, 46, 47, 48, 49, 50, 51, 52, 53, 54, 55, 56, 57, 58, 59, 60, 61, 62, 63] [64, 65, 66, 67, 68, 69, 70, 71, 72, 73, 74, 75, 76, 77, 78, 79, 80, 81, 82, 83, 84, 85, 86, 87, 88, 89, 90, 91] (wr := (WM cI cJ cII cJJ adm f9_size f9_equations f9_areSteps f9_foundMany f9_many f9_rank f9_freeMany f9_arePlans f9_planMany aim alm)) rfl rfl rfl rfl (by decide) hM ⟨by decide +kernel, by decide +kernel⟩ rfl rfl (Or.inl rfl) (rest := []) rfl rfl rfl hl.1 rfl (Nat.le_of_ble_eq_true rfl) dL_law_347 ⟨Nat.le_of_ble_eq_true rfl, Nat.le_of_ble_eq_true rfl⟩ (fun r7 t H1 locs ht hB hj hS => ?_)
  obtain ⟨ai9, ⟨pr7_0, pr7_1, pr7_2⟩, hP1, -, hD1⟩ := hB
  rw [ht] at hP1
  obtain ⟨hP, hD⟩ := hj _ hP1 hD1
  clear ht hj hP1 hD1 hM
  generalize H1 = H8 at hP hS ⊢
  refine lv_pop hx hb dL_law_350 rfl ?_
  refine lv_aload_n hx hb dL_law_351 rfl (lv_at hl 1 rfl) ?_
  refine lv_aload_n hx hb dL_law_352 rfl (lv_at hl 3 rfl) ?_
  refine lv_iload_n hx hb dL_law_353 rfl (lv_at hl 0 rfl) ?_
  refine lv_iconst (v := 1) hx hb dL_law_354 (by decide) ?_
  refine v_iadd hx hb dL_law_355 _ rfl ?_
  refine lv_topi (fun z10 e_z10 => ?_)
  have g_z10 : z10.toInt = i.toInt + 1 := by rw [e_z10]; exact n_add (a := i.toInt) (b := 1) rfl (by decide +kernel) (by omega) (by omega)
  refine va_sld hx hb hX0 hbl hbA hS (j_in (a := z10.toInt) rfl (by omega) (by omega)) dL_law_356 ?_
  refine lv_topi (fun y11 e_y11 => ?_)
  have q_y11 : y2 = y11 := by rw [e_y2, e_y11, e_z1, e_z10]
  clear e_y11
  subst q_y11
  refine lv_aload_n hx hb dL_law_357 rfl (lv_at hl 3 rfl) ?_
  refine lv_iload_n hx hb dL_law_358 rfl (lv_at hl 0 rfl) ?_
  refine lv_iconst (v := 2) hx hb dL_law_359 (by decide) ?_
  refine v_iadd hx hb dL_law_360 _ rfl ?_
  refine lv_topi (fun z12 e_z12 => ?_)
  have g_z12 : z12.toInt = i.toInt + 2 := by rw [e_z12]; exact n_add (a := i.toInt) (b := 2) rfl (by decide +kernel) (by omega) (by omega)
  refine va_sld hx hb hX0 hbl hbA hS (j_in (a := z12.toInt) rfl (by omega) (by omega)) dL_law_361 ?_
  refine lv_topi (fun y13 e_y13 => ?_)
  have q_y13 : y4 = y13 := by rw [e_y4, e_y13, e_z3, e_z12]
  clear e_y13
  subst q_y13
  refine lv_aload_n hx hb dL_law_362 rfl (lv_at hl 3 rfl) ?_
  refine lv_iload_n hx hb dL_law_363 rfl (lv_at hl 0 rfl) ?_
  refine lv_iconst (v := 3) hx hb dL_law_364 (by decide) ?_
  refine v_iadd hx hb dL_law_365 _ rfl ?_
  refine lv_topi (fun z14 e_z14 => ?_)
  have g_z14 : z14.toInt = i.toInt + 3 := by rw [e_z14]; exact n_add (a := i.toInt) (b := 3) rfl (by decide +kernel) (by omega) (by omega)
  refine va_sld hx hb hX0 hbl hbA hS (j_in (a := z14.toInt) rfl (by omega) (by omega)) dL_law_366 ?_
  refine lv_topi (fun y15 e_y15 => ?_)
  have q_y15 : y6 = y15 := by rw [e_y6, e_y15, e_z5, e_z14]
  clear e_y15
  subst q_y15
  have hM := r046_X9_price l dC dI cI cJ cII cJJ H8.size 0 adm f9_size f9_equations f9_areSteps f9_foundMany f9_many f9_rank f9_freeMany f9_arePlans f9_planMany aim alm y2 y4 y6 (by omega) (by omega) (by omega) (by omega) (by omega) (by omega) (by omega) (by omega) (by omega) h26 h25
  refine k3V_i (q0 := 22) ⟨hx, hb, hml, hown, hts⟩ hK hP hD hS hA hX cv_RL_40 [0, 1, 2, 3, 4, 5, 6, 7, 8, 9, 10, 11, 12, 13, 14, 15, 16, 17, 18, 19, 20, 21, 22, 23, 24, 25, 26, 27] [28, 29, 30, 31, 32, 33, 34, 35, 36, 37, 38, 39, 40, 41, 42, 43, 44, 45, 46, 47, 48, 49, 50, 51, 52, 53, 54, 55, 56, 57, 58, 59, 60, 61, 62, 63, 64, 65, 66, 67, 68, 69, 70, 71, 72, 73, 74, 75, 76, 77, 78, 79, 80, 81, 82, 83, 84, 85, 86, 87, 88, 89, 90, 91] (wr := (WX cI cJ cII cJJ adx f3_unknowns f3_equations f2_roundSupports f2_stale f7_size f1_size f5_keptSize f5_aheadSize f0_solved f4_blockCount f4_blockLength f4_lastIsFree f4_stale ai9 alx w0 w1 w2 w3)) rfl rfl rfl rfl (by decide) hM ⟨by decide +kernel, by decide +kernel⟩ rfl rfl (Or.inl rfl) (rest := []) rfl rfl rfl hl.1 rfl (Nat.le_of_ble_eq_true rfl) dL_law_367 ⟨Nat.le_of_ble_eq_true rfl, Nat.le_of_ble_eq_true rfl⟩ (fun r16 t H1 locs ht hB hj hS => ?_)
  obtain ⟨ai18, ⟨pr16_0, pr16_1, pr16_2, pr16_3, pr16_4⟩, hP1, -, hD1⟩ := hB
  rw [ht] at hP1
  obtain ⟨hP, hD⟩ := hj _ hP1 hD1
  clear ht hj hP1 hD1 hM
  generalize H1 = H17 at hP hS ⊢
  refine lv_pop hx hb dL_law_370 rfl ?_
  refine lv_goto (tgt := 1072) hx hb dL_law_371 (by decide) ?_
  obtain ⟨z, e_z⟩ : ∃ q : Int32, q = i + Int32.ofInt 5 := ⟨_, rfl⟩
  have g_z : z.toInt = i.toInt + 5 := by rw [e_z]; exact n_add (a := i.toInt) (b := 5) rfl (by decide +kernel) (by omega) (by omega)
  refine lv_iinc (v := z) (lv' := [(3, .int z), (2, .ref (adm 22)), (1, .ref (adx 0)), (0, .ref b)]) hx hb dL_law_1072 hl (k := 0) rfl e_z.symm (by decide) rfl (fun ls hl => ?_)
  refine lv_goto (tgt := 18) hx hb dL_law_1075 (by decide) ?_
  exact K z g_z f3_unknowns f3_equations f2_roundSupports f2_stale f7_size f1_size f5_keptSize f5_aheadSize f0_solved f4_blockCount f4_blockLength f4_lastIsFree f4_stale ai9 alx w0 w1 w2 w3 f9_size f9_equations f9_areSteps f9_foundMany f9_many f9_rank f9_freeMany f9_arePlans f9_planMany ai18 alm _ _ _ (by omega) (by omega) (by omega) (by omega) (by omega) (by omega) (by omega) (by omega) (by omega) (by omega) (by omega) pr7_1 h12 h13 h14 h15 (by omega) (by omega) (by omega) (by omega) (by omega) (by omega) (by omega) (by omega) (by omega) pr16_3 pr16_1 (by omega) (by omega) (SDr_m (SDr_x h29 pr7_2 (by decide)) pr16_4 (by decide)) (TRr_m (TRr_x h30 pr7_2 (by decide)) pr16_4 (by decide)) hP hD hS hl
set_option maxRecDepth 100000 in
set_option maxHeartbeats 4000000 in
theorem lc_6 {p : Program} {e : Env} {s : State} {m : MethodId} {below : List Frame} {meth : Method} {c : Code} (l : Launch) {b L : Nat} {xs : Nat → Int32} (C0 : lw_At p s m meth c b L xs) (hL : L ≤ 2560) {dC : Nat → ClassId} {dI : Nat → Nat → Nat} {cI cJ cII cJJ : ClassId} {g : Nat} {adx adm : Nat → Nat} {i : Int32} (hi0 : 0 ≤ i.toInt) (hi1 : i.toInt + 5 ≤ (L : Int)) (K : ∀ z : Int32, z.toInt = i.toInt + 5 → LPd p l e s m below meth c b dC dI cI cJ cII cJJ adx adm z) (hK : va_K (dC, dI) vwCl (TY cI cJ cII cJJ) s) (hX : GXA 1 g (AA s) s) : ∀ (f3_unknowns f3_equations f2_roundSupports f2_stale f7_size f1_size f5_keptSize f5_aheadSize f0_solved f4_blockCount f4_blockLength f4_lastIsFree f4_stale : Int32) (aix : Nat → Nat → Int32) (alx : Nat → Nat → Int64) (w0 w1 w2 w3 : Nat) (f9_size f9_equations f9_areSteps f9_foundMany f9_many f9_rank f9_freeMany f9_arePlans f9_planMany : Int32) (aim : Nat → Nat → Int32) (alm : Nat → Nat → Int64) (H : Heap) (locs : List Loc) (ls : Array Slot), (1 ≤ f3_unknowns.toInt ∧ f3_unknowns.toInt ≤ 4) → (0 ≤ f3_equations.toInt ∧ f3_equations.toInt ≤ 3) → (0 ≤ f2_stale.toInt ∧ f2_stale.toInt ≤ 1) → (0 ≤ f7_size.toInt ∧ f7_size.toInt ≤ 256) → (0 ≤ f1_size.toInt ∧ f1_size.toInt ≤ 4) → (0 ≤ f5_keptSize.toInt ∧ f5_keptSize.toInt ≤ 128) → (0 ≤ f5_aheadSize.toInt ∧ f5_aheadSize.toInt ≤ 128) → (0 ≤ f4_blockCount.toInt ∧ f4_blockCount.toInt ≤ 9261) → (0 ≤ f4_blockLength.toInt ∧ f4_blockLength.toInt ≤ 21) → (0 ≤ f4_lastIsFree.toInt ∧ f4_lastIsFree.toInt ≤ 1) → (0 ≤ f4_stale.toInt ∧ f4_stale.toInt ≤ 1) → IAX aix → RWX adx w0 → RWX adx w1 → RWX adx w2 → RWX adx w3 → (1 ≤ f9_size.toInt ∧ f9_size.toInt ≤ 4) → (0 ≤ f9_equations.toInt ∧ f9_equations.toInt ≤ 3) → (0 ≤ f9_areSteps.toInt ∧ f9_areSteps.toInt ≤ 1) → (0 ≤ f9_foundMany.toInt ∧ f9_foundMany.toInt ≤ 99999) → (0 ≤ f9_many.toInt ∧ f9_many.toInt ≤ 6000) → (0 ≤ f9_rank.toInt ∧ f9_rank.toInt ≤ 3) → (0 ≤ f9_freeMany.toInt ∧ f9_freeMany.toInt ≤ 4) → (0 ≤ f9_arePlans.toInt ∧ f9_arePlans.toInt ≤ 1) → (0 ≤ f9_planMany.toInt ∧ f9_planMany.toInt ≤ 194481) → IAM aim → (f9_areSteps.toInt = 0 ∨ CIa aim f9_size f9_many.toInt) → f3_unknowns.toInt = f9_size.toInt → f3_equations.toInt = f9_equations.toInt → SDr aix aim f3_equations.toInt → TRr aix aim → va_P (dC, dI) vwCl ((WX cI cJ cII cJJ adx f3_unknowns f3_equations f2_roundSupports f2_stale f7_size f1_size f5_keptSize f5_aheadSize f0_solved f4_blockCount f4_blockLength f4_lastIsFree f4_stale aix alx w0 w1 w2 w3) ++ (WM cI cJ cII cJJ adm f9_size f9_equations f9_areSteps f9_foundMany f9_many f9_rank f9_freeMany f9_arePlans f9_planMany aim alm)) H → va_D (AA s) ((WX cI cJ cII cJJ adx f3_unknowns f3_equations f2_roundSupports f2_stale f7_size f1_size f5_keptSize f5_aheadSize f0_solved f4_blockCount f4_blockLength f4_lastIsFree f4_stale aix alx w0 w1 w2 w3) ++ (WM cI cJ cII cJJ adm f9_size f9_equations f9_areSteps f9_foundMany f9_many f9_rank f9_freeMany f9_arePlans f9_planMany aim alm)) → va_S (AA s) s.heap H locs → lv_has ls 4 [(3, .int i), (2, .ref (adm 22)), (1, .ref (adx 0)), (0, .ref b)] → W p l e room_1 s m #[Value.ref b] below meth c H locs 600000 7302250 (lw_Z below #[Value.ref b] s) (F0 m 374 ls []) := by
  obtain ⟨hx, hb, hr, hml, hown, hts0, hX0, hbl, hlocks, hgv⟩ := id C0
  have hts : ∀ w ∈ TT, w.before #[Value.ref b] s = true := fun w h => hts0 w (TT_tbl h)
  have hA : ∀ q : Nat, s.heap.size ≤ q → AA s q := fun _ h => h
  have hbA : ¬ AA s b := Nat.not_le.mpr hbl
  have hown : s.vm.findClass RL = some m.cls := hown
  intro f3_unknowns f3_equations f2_roundSupports f2_stale f7_size f1_size f5_keptSize f5_aheadSize f0_solved f4_blockCount f4_blockLength f4_lastIsFree f4_stale aix alx w0 w1 w2 w3 f9_size f9_equations f9_areSteps f9_foundMany f9_many f9_rank f9_freeMany f9_arePlans f9_planMany aim alm H locs ls h0 h1 h2 h3 h4 h5 h6 h7 h8 h9 h10 h11 h12 h13 h14 h15 h16 h17 h18 h19 h20 h21 h22 h23 h24 h25 h26 h27 h28 h29 h30 hP hD hS hl
  refine lv_aload_n hx hb dL_law_374 rfl (lv_at hl 2 rfl) ?_
  refine lv_aload_n hx hb dL_law_375 rfl (lv_at hl 3 rfl) ?_
  refine lv_iload_n hx hb dL_law_376 rfl (lv_at hl 0 rfl) ?_
  refine lv_iconst (v := 1) hx hb dL_law_377 (by decide) ?_
  refine v_iadd hx hb dL_law_378 _ rfl ?_
  refine lv_topi (fun z1 e_z1 => ?_)
  have g_z1 : z1.toInt = i.toInt + 1 := by rw [e_z1]; exact n_add (a := i.toInt) (b := 1) rfl (by decide +kernel) (by omega) (by omega)
  refine va_sld hx hb hX0 hbl hbA hS (j_in (a := z1.toInt) rfl (by omega) (by omega)) dL_law_379 ?_
  refine lv_topi (fun y2 e_y2 => ?_)
  refine lv_aload_n hx hb dL_law_380 rfl (lv_at hl 3 rfl) ?_
  refine lv_iload_n hx hb dL_law_381 rfl (lv_at hl 0 rfl) ?_
  refine lv_iconst (v := 2) hx hb dL_law_382 (by decide) ?_
  refine v_iadd hx hb dL_law_383 _ rfl ?_
  refine lv_topi (fun z3 e_z3 => ?_)
  have g_z3 : z3.toInt = i.toInt + 2 := by rw [e_z3]; exact n_add (a := i.toInt) (b := 2) rfl (by decide +kernel) (by omega) (by omega)
  refine va_sld hx hb hX0 hbl hbA hS (j_in (a := z3.toInt) rfl (by omega) (by omega)) dL_law_384 ?_
  refine lv_topi (fun y4 e_y4 => ?_)
  refine lv_aload_n hx hb dL_law_385 rfl (lv_at hl 3 rfl) ?_
  refine lv_iload_n hx hb dL_law_386 rfl (lv_at hl 0 rfl) ?_
  refine lv_iconst (v := 3) hx hb dL_law_387 (by decide) ?_
  refine v_iadd hx hb dL_law_388 _ rfl ?_
  refine lv_topi (fun z5 e_z5 => ?_)
  have g_z5 : z5.toInt = i.toInt + 3 := by rw [e_z5]; exact n_add (a := i.toInt) (b := 3) rfl (by decide +kernel) (by omega) (by omega)
  refine va_sld hx hb hX0 hbl hbA hS (j_in (a := z5.toInt) rfl (by omega) (by omega)) dL_law_389 ?_
  refine lv_topi (fun y6 e_y6 => ?_)
  have hM := m054_X8_tray l dC dI cI cJ cII cJJ H.size 0 adx f3_unknowns f3_equations f2_roundSupports f2_stale f7_size f1_size f5_keptSize f5_aheadSize f0_solved f4_blockCount f4_blockLength f4_lastIsFree f4_stale aix alx w0 w1 w2 w3 y2 y4 y6 (by omega) (by omega) (by omega) (by omega) (by omega) (by omega) (by omega) (by omega) (by omega) (by omega) (by omega) h11 h12 h13 h14 h15
  refine k3V_i (q0 := 0) ⟨hx, hb, hml, hown, hts⟩ hK hP hD hS hA hX cv_RL_41 [0, 1, 2, 3, 4, 5, 6, 7, 8, 9, 10, 11, 12, 13, 14, 15, 16, 17, 18, 19, 20, 21, 22, 23, 24, 25, 26, 27, 28, 29, 30, 31, 32, 33, 34, 35, 36, 37, 38, 39, 40, 41, 42, 43, 44, 45, 46, 47, 48, 49, 50, 51, 52, 53, 54, 55, 56, 57, 58, 59, 60, 61, 62, 63] [64, 65, 66, 67, 68, 69, 70, 71, 72, 73, 74, 75, 76, 77, 78, 79, 80, 81, 82, 83, 84, 85, 86, 87, 88, 89, 90, 91] (wr := (WM cI cJ cII cJJ adm f9_size f9_equations f9_areSteps f9_foundMany f9_many f9_rank f9_freeMany f9_arePlans f9_planMany aim alm)) rfl rfl rfl rfl (by decide) hM ⟨by decide +kernel, by decide +kernel⟩ rfl rfl (Or.inl rfl) (rest := []) rfl rfl rfl hl.1 rfl (Nat.le_of_ble_eq_true rfl) dL_law_390 ⟨Nat.le_of_ble_eq_true rfl, Nat.le_of_ble_eq_true rfl⟩ (fun r7 t H1 locs ht hB hj hS => ?_)
  obtain ⟨ai9, al10, ⟨pr7_0, pr7_1, pr7_2, pr7_3, pr7_4⟩, hP1, -, hD1⟩ := hB
  rw [ht] at hP1
  obtain ⟨hP, hD⟩ := hj _ hP1 hD1
  clear ht hj hP1 hD1 hM
  generalize H1 = H8 at hP hS ⊢
  refine lv_pop hx hb dL_law_393 rfl ?_
  refine lv_aload_n hx hb dL_law_394 rfl (lv_at hl 1 rfl) ?_
  refine lv_aload_n hx hb dL_law_395 rfl (lv_at hl 3 rfl) ?_
  refine lv_iload_n hx hb dL_law_396 rfl (lv_at hl 0 rfl) ?_
  refine lv_iconst (v := 1) hx hb dL_law_397 (by decide) ?_
  refine v_iadd hx hb dL_law_398 _ rfl ?_
  refine lv_topi (fun z11 e_z11 => ?_)
  have g_z11 : z11.toInt = i.toInt + 1 := by rw [e_z11]; exact n_add (a := i.toInt) (b := 1) rfl (by decide +kernel) (by omega) (by omega)
  refine va_sld hx hb hX0 hbl hbA hS (j_in (a := z11.toInt) rfl (by omega) (by omega)) dL_law_399 ?_
  refine lv_topi (fun y12 e_y12 => ?_)
  have q_y12 : y2 = y12 := by rw [e_y2, e_y12, e_z1, e_z11]
  clear e_y12
  subst q_y12
  refine lv_aload_n hx hb dL_law_400 rfl (lv_at hl 3 rfl) ?_
  refine lv_iload_n hx hb dL_law_401 rfl (lv_at hl 0 rfl) ?_
  refine lv_iconst (v := 2) hx hb dL_law_402 (by decide) ?_
  refine v_iadd hx hb dL_law_403 _ rfl ?_
  refine lv_topi (fun z13 e_z13 => ?_)
  have g_z13 : z13.toInt = i.toInt + 2 := by rw [e_z13]; exact n_add (a := i.toInt) (b := 2) rfl (by decide +kernel) (by omega) (by omega)
  refine va_sld hx hb hX0 hbl hbA hS (j_in (a := z13.toInt) rfl (by omega) (by omega)) dL_law_404 ?_
  refine lv_topi (fun y14 e_y14 => ?_)
  have q_y14 : y4 = y14 := by rw [e_y4, e_y14, e_z3, e_z13]
  clear e_y14
  subst q_y14
  refine lv_aload_n hx hb dL_law_405 rfl (lv_at hl 3 rfl) ?_
  refine lv_iload_n hx hb dL_law_406 rfl (lv_at hl 0 rfl) ?_
  refine lv_iconst (v := 3) hx hb dL_law_407 (by decide) ?_
  refine v_iadd hx hb dL_law_408 _ rfl ?_
  refine lv_topi (fun z15 e_z15 => ?_)
  have g_z15 : z15.toInt = i.toInt + 3 := by rw [e_z15]; exact n_add (a := i.toInt) (b := 3) rfl (by decide +kernel) (by omega) (by omega)
  refine va_sld hx hb hX0 hbl hbA hS (j_in (a := z15.toInt) rfl (by omega) (by omega)) dL_law_409 ?_
  refine lv_topi (fun y16 e_y16 => ?_)
  have q_y16 : y6 = y16 := by rw [e_y6, e_y16, e_z5, e_z15]
  clear e_y16
  subst q_y16
  have hM := r047_X9_tray l dC dI cI cJ cII cJJ H8.size 0 adm f9_size f9_equations f9_areSteps f9_foundMany f9_many f9_rank f9_freeMany f9_arePlans f9_planMany aim alm y2 y4 y6 (by omega) (by omega) (by omega) (by omega) (by omega) (by omega) (by omega) (by omega) (by omega) h26 h25
  refine k3V_i (q0 := 22) ⟨hx, hb, hml, hown, hts⟩ hK hP hD hS hA hX cv_RL_44 [0, 1, 2, 3, 4, 5, 6, 7, 8, 9, 10, 11, 12, 13, 14, 15, 16, 17, 18, 19, 20, 21, 22, 23, 24, 25, 26, 27] [28, 29, 30, 31, 32, 33, 34, 35, 36, 37, 38, 39, 40, 41, 42, 43, 44, 45, 46, 47, 48, 49, 50, 51, 52, 53, 54, 55, 56, 57, 58, 59, 60, 61, 62, 63, 64, 65, 66, 67, 68, 69, 70, 71, 72, 73, 74, 75, 76, 77, 78, 79, 80, 81, 82, 83, 84, 85, 86, 87, 88, 89, 90, 91] (wr := (WX cI cJ cII cJJ adx f3_unknowns f3_equations f2_roundSupports f2_stale f7_size f1_size f5_keptSize f5_aheadSize f0_solved f4_blockCount f4_blockLength f4_lastIsFree f4_stale ai9 al10 w0 w1 w2 w3)) rfl rfl rfl rfl (by decide) hM ⟨by decide +kernel, by decide +kernel⟩ rfl rfl (Or.inl rfl) (rest := []) rfl rfl rfl hl.1 rfl (Nat.le_of_ble_eq_true rfl) dL_law_410 ⟨Nat.le_of_ble_eq_true rfl, Nat.le_of_ble_eq_true rfl⟩ (fun r17 t H1 locs ht hB hj hS => ?_)
  obtain ⟨ai19, al20, ⟨pr17_0, pr17_1, pr17_2, pr17_3, pr17_4, pr17_5, pr17_6⟩, hP1, -, hD1⟩ := hB
  rw [ht] at hP1
  obtain ⟨hP, hD⟩ := hj _ hP1 hD1
  clear ht hj hP1 hD1 hM
  generalize H1 = H18 at hP hS ⊢
  refine lv_pop hx hb dL_law_413 rfl ?_
  refine lv_goto (tgt := 1072) hx hb dL_law_414 (by decide) ?_
  obtain ⟨z, e_z⟩ : ∃ q : Int32, q = i + Int32.ofInt 5 := ⟨_, rfl⟩
  have g_z : z.toInt = i.toInt + 5 := by rw [e_z]; exact n_add (a := i.toInt) (b := 5) rfl (by decide +kernel) (by omega) (by omega)
  refine lv_iinc (v := z) (lv' := [(3, .int z), (2, .ref (adm 22)), (1, .ref (adx 0)), (0, .ref b)]) hx hb dL_law_1072 hl (k := 0) rfl e_z.symm (by decide) rfl (fun ls hl => ?_)
  refine lv_goto (tgt := 18) hx hb dL_law_1075 (by decide) ?_
  exact K z g_z f3_unknowns f3_equations f2_roundSupports f2_stale f7_size f1_size f5_keptSize f5_aheadSize f0_solved f4_blockCount f4_blockLength f4_lastIsFree f4_stale ai9 al10 w0 w1 w2 w3 f9_size f9_equations f9_areSteps f9_foundMany f9_many f9_rank f9_freeMany f9_arePlans f9_planMany ai19 al20 _ _ _ (by omega) (by omega) (by omega) (by omega) (by omega) (by omega) (by omega) (by omega) (by omega) (by omega) (by omega) pr7_2 h12 h13 h14 h15 (by omega) (by omega) (by omega) (by omega) (by omega) (by omega) (by omega) (by omega) (by omega) pr17_4 pr17_1 (by omega) (by omega) (SDr_m (SDr_x h29 pr7_3 (by decide)) pr17_5 (by decide)) (TRr_tr h30 pr7_1 pr17_3) hP hD hS hl
set_option maxRecDepth 100000 in
set_option maxHeartbeats 4000000 in
theorem lc_7 {p : Program} {e : Env} {s : State} {m : MethodId} {below : List Frame} {meth : Method} {c : Code} (l : Launch) {b L : Nat} {xs : Nat → Int32} (C0 : lw_At p s m meth c b L xs) (hL : L ≤ 2560) {dC : Nat → ClassId} {dI : Nat → Nat → Nat} {cI cJ cII cJJ : ClassId} {g : Nat} {adx adm : Nat → Nat} {i : Int32} (hi0 : 0 ≤ i.toInt) (hi1 : i.toInt + 5 ≤ (L : Int)) (K : ∀ z : Int32, z.toInt = i.toInt + 5 → LPd p l e s m below meth c b dC dI cI cJ cII cJJ adx adm z) (hK : va_K (dC, dI) vwCl (TY cI cJ cII cJJ) s) (hX : GXA 1 g (AA s) s) : ∀ (f3_unknowns f3_equations f2_roundSupports f2_stale f7_size f1_size f5_keptSize f5_aheadSize f0_solved f4_blockCount f4_blockLength f4_lastIsFree f4_stale : Int32) (aix : Nat → Nat → Int32) (alx : Nat → Nat → Int64) (w0 w1 w2 w3 : Nat) (f9_size f9_equations f9_areSteps f9_foundMany f9_many f9_rank f9_freeMany f9_arePlans f9_planMany : Int32) (aim : Nat → Nat → Int32) (alm : Nat → Nat → Int64) (H : Heap) (locs : List Loc) (ls : Array Slot), (1 ≤ f3_unknowns.toInt ∧ f3_unknowns.toInt ≤ 4) → (0 ≤ f3_equations.toInt ∧ f3_equations.toInt ≤ 3) → (0 ≤ f2_stale.toInt ∧ f2_stale.toInt ≤ 1) → (0 ≤ f7_size.toInt ∧ f7_size.toInt ≤ 256) → (0 ≤ f1_size.toInt ∧ f1_size.toInt ≤ 4) → (0 ≤ f5_keptSize.toInt ∧ f5_keptSize.toInt ≤ 128) → (0 ≤ f5_aheadSize.toInt ∧ f5_aheadSize.toInt ≤ 128) → (0 ≤ f4_blockCount.toInt ∧ f4_blockCount.toInt ≤ 9261) → (0 ≤ f4_blockLength.toInt ∧ f4_blockLength.toInt ≤ 21) → (0 ≤ f4_lastIsFree.toInt ∧ f4_lastIsFree.toInt ≤ 1) → (0 ≤ f4_stale.toInt ∧ f4_stale.toInt ≤ 1) → IAX aix → RWX adx w0 → RWX adx w1 → RWX adx w2 → RWX adx w3 → (1 ≤ f9_size.toInt ∧ f9_size.toInt ≤ 4) → (0 ≤ f9_equations.toInt ∧ f9_equations.toInt ≤ 3) → (0 ≤ f9_areSteps.toInt ∧ f9_areSteps.toInt ≤ 1) → (0 ≤ f9_foundMany.toInt ∧ f9_foundMany.toInt ≤ 99999) → (0 ≤ f9_many.toInt ∧ f9_many.toInt ≤ 6000) → (0 ≤ f9_rank.toInt ∧ f9_rank.toInt ≤ 3) → (0 ≤ f9_freeMany.toInt ∧ f9_freeMany.toInt ≤ 4) → (0 ≤ f9_arePlans.toInt ∧ f9_arePlans.toInt ≤ 1) → (0 ≤ f9_planMany.toInt ∧ f9_planMany.toInt ≤ 194481) → IAM aim → (f9_areSteps.toInt = 0 ∨ CIa aim f9_size f9_many.toInt) → f3_unknowns.toInt = f9_size.toInt → f3_equations.toInt = f9_equations.toInt → SDr aix aim f3_equations.toInt → TRr aix aim → va_P (dC, dI) vwCl ((WX cI cJ cII cJJ adx f3_unknowns f3_equations f2_roundSupports f2_stale f7_size f1_size f5_keptSize f5_aheadSize f0_solved f4_blockCount f4_blockLength f4_lastIsFree f4_stale aix alx w0 w1 w2 w3) ++ (WM cI cJ cII cJJ adm f9_size f9_equations f9_areSteps f9_foundMany f9_many f9_rank f9_freeMany f9_arePlans f9_planMany aim alm)) H → va_D (AA s) ((WX cI cJ cII cJJ adx f3_unknowns f3_equations f2_roundSupports f2_stale f7_size f1_size f5_keptSize f5_aheadSize f0_solved f4_blockCount f4_blockLength f4_lastIsFree f4_stale aix alx w0 w1 w2 w3) ++ (WM cI cJ cII cJJ adm f9_size f9_equations f9_areSteps f9_foundMany f9_many f9_rank f9_freeMany f9_arePlans f9_planMany aim alm)) → va_S (AA s) s.heap H locs → lv_has ls 4 [(3, .int i), (2, .ref (adm 22)), (1, .ref (adx 0)), (0, .ref b)] → W p l e room_1 s m #[Value.ref b] below meth c H locs 600000 7302250 (lw_Z below #[Value.ref b] s) (F0 m 417 ls []) := by
  obtain ⟨hx, hb, hr, hml, hown, hts0, hX0, hbl, hlocks, hgv⟩ := id C0
  have hts : ∀ w ∈ TT, w.before #[Value.ref b] s = true := fun w h => hts0 w (TT_tbl h)
  have hA : ∀ q : Nat, s.heap.size ≤ q → AA s q := fun _ h => h
  have hbA : ¬ AA s b := Nat.not_le.mpr hbl
  have hown : s.vm.findClass RL = some m.cls := hown
  intro f3_unknowns f3_equations f2_roundSupports f2_stale f7_size f1_size f5_keptSize f5_aheadSize f0_solved f4_blockCount f4_blockLength f4_lastIsFree f4_stale aix alx w0 w1 w2 w3 f9_size f9_equations f9_areSteps f9_foundMany f9_many f9_rank f9_freeMany f9_arePlans f9_planMany aim alm H locs ls h0 h1 h2 h3 h4 h5 h6 h7 h8 h9 h10 h11 h12 h13 h14 h15 h16 h17 h18 h19 h20 h21 h22 h23 h24 h25 h26 h27 h28 h29 h30 hP hD hS hl
  refine lv_aload_n hx hb dL_law_417 rfl (lv_at hl 2 rfl) ?_
  refine lv_aload_n hx hb dL_law_418 rfl (lv_at hl 3 rfl) ?_
  refine lv_iload_n hx hb dL_law_419 rfl (lv_at hl 0 rfl) ?_
  refine lv_iconst (v := 1) hx hb dL_law_420 (by decide) ?_
  refine v_iadd hx hb dL_law_421 _ rfl ?_
  refine lv_topi (fun z1 e_z1 => ?_)
  have g_z1 : z1.toInt = i.toInt + 1 := by rw [e_z1]; exact n_add (a := i.toInt) (b := 1) rfl (by decide +kernel) (by omega) (by omega)
  refine va_sld hx hb hX0 hbl hbA hS (j_in (a := z1.toInt) rfl (by omega) (by omega)) dL_law_422 ?_
  refine lv_topi (fun y2 e_y2 => ?_)
  refine lv_aload_n hx hb dL_law_423 rfl (lv_at hl 3 rfl) ?_
  refine lv_iload_n hx hb dL_law_424 rfl (lv_at hl 0 rfl) ?_
  refine lv_iconst (v := 2) hx hb dL_law_425 (by decide) ?_
  refine v_iadd hx hb dL_law_426 _ rfl ?_
  refine lv_topi (fun z3 e_z3 => ?_)
  have g_z3 : z3.toInt = i.toInt + 2 := by rw [e_z3]; exact n_add (a := i.toInt) (b := 2) rfl (by decide +kernel) (by omega) (by omega)
  refine va_sld hx hb hX0 hbl hbA hS (j_in (a := z3.toInt) rfl (by omega) (by omega)) dL_law_427 ?_
  refine lv_topi (fun y4 e_y4 => ?_)
  refine lv_aload_n hx hb dL_law_428 rfl (lv_at hl 3 rfl) ?_
  refine lv_iload_n hx hb dL_law_429 rfl (lv_at hl 0 rfl) ?_
  refine lv_iconst (v := 3) hx hb dL_law_430 (by decide) ?_
  refine v_iadd hx hb dL_law_431 _ rfl ?_
  refine lv_topi (fun z5 e_z5 => ?_)
  have g_z5 : z5.toInt = i.toInt + 3 := by rw [e_z5]; exact n_add (a := i.toInt) (b := 3) rfl (by decide +kernel) (by omega) (by omega)
  refine va_sld hx hb hX0 hbl hbA hS (j_in (a := z5.toInt) rfl (by omega) (by omega)) dL_law_432 ?_
  refine lv_topi (fun y6 e_y6 => ?_)
  refine lv_i2l hx hb dL_law_433 rfl ?_
  refine lv_bipush (v := 32) hx hb dL_law_434 (by decide) ?_
  refine lv_lshl hx hb dL_law_436 rfl ?_
  refine lv_aload_n hx hb dL_law_437 rfl (lv_at hl 3 rfl) ?_
  refine lv_iload_n hx hb dL_law_438 rfl (lv_at hl 0 rfl) ?_
  refine lv_iconst (v := 4) hx hb dL_law_439 (by decide) ?_
  refine v_iadd hx hb dL_law_440 _ rfl ?_
  refine lv_topi (fun z7 e_z7 => ?_)
  have g_z7 : z7.toInt = i.toInt + 4 := by rw [e_z7]; exact n_add (a := i.toInt) (b := 4) rfl (by decide +kernel) (by omega) (by omega)
  refine va_sld hx hb hX0 hbl hbA hS (j_in (a := z7.toInt) rfl (by omega) (by omega)) dL_law_441 ?_
  refine lv_topi (fun y8 e_y8 => ?_)
  refine lv_i2l hx hb dL_law_442 rfl ?_
  refine lv_ldc2 (v := 4294967295) hx hb hown (hts _ k_1147) dL_law_443 ?_
  refine lv_land hx hb dL_law_446 ?_
  refine lv_lor hx hb dL_law_447 ?_
  refine lv_topl (fun yy9 e_yy9 => ?_)
  have hM := m055_X8_cell l dC dI cI cJ cII cJJ H.size 0 adx f3_unknowns f3_equations f2_roundSupports f2_stale f7_size f1_size f5_keptSize f5_aheadSize f0_solved f4_blockCount f4_blockLength f4_lastIsFree f4_stale aix alx w0 w1 w2 w3 y2 y4 yy9 (by omega) (by omega) (by omega) (by omega) (by omega) (by omega) (by omega) (by omega) (by omega) (by omega) (by omega) h11 h12 h13 h14 h15
  refine k3V_i (q0 := 0) ⟨hx, hb, hml, hown, hts⟩ hK hP hD hS hA hX cv_RL_47 [0, 1, 2, 3, 4, 5, 6, 7, 8, 9, 10, 11, 12, 13, 14, 15, 16, 17, 18, 19, 20, 21, 22, 23, 24, 25, 26, 27, 28, 29, 30, 31, 32, 33, 34, 35, 36, 37, 38, 39, 40, 41, 42, 43, 44, 45, 46, 47, 48, 49, 50, 51, 52, 53, 54, 55, 56, 57, 58, 59, 60, 61, 62, 63] [64, 65, 66, 67, 68, 69, 70, 71, 72, 73, 74, 75, 76, 77, 78, 79, 80, 81, 82, 83, 84, 85, 86, 87, 88, 89, 90, 91] (wr := (WM cI cJ cII cJJ adm f9_size f9_equations f9_areSteps f9_foundMany f9_many f9_rank f9_freeMany f9_arePlans f9_planMany aim alm)) rfl rfl rfl rfl (by decide) hM ⟨by decide +kernel, by decide +kernel⟩ rfl rfl (Or.inl rfl) (rest := []) rfl rfl rfl hl.1 rfl (Nat.le_of_ble_eq_true rfl) dL_law_448 ⟨Nat.le_of_ble_eq_true rfl, Nat.le_of_ble_eq_true rfl⟩ (fun r10 t H1 locs ht hB hj hS => ?_)
  obtain ⟨ai12, al13, ⟨pr10_0, pr10_1, pr10_2, pr10_3⟩, hP1, -, hD1⟩ := hB
  rw [ht] at hP1
  obtain ⟨hP, hD⟩ := hj _ hP1 hD1
  clear ht hj hP1 hD1 hM
  generalize H1 = H11 at hP hS ⊢
  refine lv_pop hx hb dL_law_451 rfl ?_
  refine lv_aload_n hx hb dL_law_452 rfl (lv_at hl 1 rfl) ?_
  refine lv_aload_n hx hb dL_law_453 rfl (lv_at hl 3 rfl) ?_
  refine lv_iload_n hx hb dL_law_454 rfl (lv_at hl 0 rfl) ?_
  refine lv_iconst (v := 1) hx hb dL_law_455 (by decide) ?_
  refine v_iadd hx hb dL_law_456 _ rfl ?_
  refine lv_topi (fun z14 e_z14 => ?_)
  have g_z14 : z14.toInt = i.toInt + 1 := by rw [e_z14]; exact n_add (a := i.toInt) (b := 1) rfl (by decide +kernel) (by omega) (by omega)
  refine va_sld hx hb hX0 hbl hbA hS (j_in (a := z14.toInt) rfl (by omega) (by omega)) dL_law_457 ?_
  refine lv_topi (fun y15 e_y15 => ?_)
  have q_y15 : y2 = y15 := by rw [e_y2, e_y15, e_z1, e_z14]
  clear e_y15
  subst q_y15
  refine lv_aload_n hx hb dL_law_458 rfl (lv_at hl 3 rfl) ?_
  refine lv_iload_n hx hb dL_law_459 rfl (lv_at hl 0 rfl) ?_
  refine lv_iconst (v := 2) hx hb dL_law_460 (by decide) ?_
  refine v_iadd hx hb dL_law_461 _ rfl ?_
  refine lv_topi (fun z16 e_z16 => ?_)
  have g_z16 : z16.toInt = i.toInt + 2 := by rw [e_z16]; exact n_add (a := i.toInt) (b := 2) rfl (by decide +kernel) (by omega) (by omega)
  refine va_sld hx hb hX0 hbl hbA hS (j_in (a := z16.toInt) rfl (by omega) (by omega)) dL_law_462 ?_
  refine lv_topi (fun y17 e_y17 => ?_)
  have q_y17 : y4 = y17 := by rw [e_y4, e_y17, e_z3, e_z16]
  clear e_y17
  subst q_y17
  refine lv_aload_n hx hb dL_law_463 rfl (lv_at hl 3 rfl) ?_
  refine lv_iload_n hx hb dL_law_464 rfl (lv_at hl 0 rfl) ?_
  refine lv_iconst (v := 3) hx hb dL_law_465 (by decide) ?_
  refine v_iadd hx hb dL_law_466 _ rfl ?_
  refine lv_topi (fun z18 e_z18 => ?_)
  have g_z18 : z18.toInt = i.toInt + 3 := by rw [e_z18]; exact n_add (a := i.toInt) (b := 3) rfl (by decide +kernel) (by omega) (by omega)
  refine va_sld hx hb hX0 hbl hbA hS (j_in (a := z18.toInt) rfl (by omega) (by omega)) dL_law_467 ?_
  refine lv_topi (fun y19 e_y19 => ?_)
  have q_y19 : y6 = y19 := by rw [e_y6, e_y19, e_z5, e_z18]
  clear e_y19
  subst q_y19
  refine lv_i2l hx hb dL_law_468 rfl ?_
  refine lv_bipush (v := 32) hx hb dL_law_469 (by decide) ?_
  refine lv_lshl hx hb dL_law_471 rfl ?_
  refine lv_aload_n hx hb dL_law_472 rfl (lv_at hl 3 rfl) ?_
  refine lv_iload_n hx hb dL_law_473 rfl (lv_at hl 0 rfl) ?_
  refine lv_iconst (v := 4) hx hb dL_law_474 (by decide) ?_
  refine v_iadd hx hb dL_law_475 _ rfl ?_
  refine lv_topi (fun z20 e_z20 => ?_)
  have g_z20 : z20.toInt = i.toInt + 4 := by rw [e_z20]; exact n_add (a := i.toInt) (b := 4) rfl (by decide +kernel) (by omega) (by omega)
  refine va_sld hx hb hX0 hbl hbA hS (j_in (a := z20.toInt) rfl (by omega) (by omega)) dL_law_476 ?_
  refine lv_topi (fun y21 e_y21 => ?_)
  have q_y21 : y8 = y21 := by rw [e_y8, e_y21, e_z7, e_z20]
  clear e_y21
  subst q_y21
  refine lv_i2l hx hb dL_law_477 rfl ?_
  refine lv_ldc2 (v := 4294967295) hx hb hown (hts _ k_1147) dL_law_478 ?_
  refine lv_land hx hb dL_law_481 ?_
  refine lv_lor hx hb dL_law_482 ?_
  refine lv_topl (fun yy22 e_yy22 => ?_)
  have hM := r048_X9_cell l dC dI cI cJ cII cJJ H11.size 0 adm f9_size f9_equations f9_areSteps f9_foundMany f9_many f9_rank f9_freeMany f9_arePlans f9_planMany aim alm y2 y4 yy22 (by omega) (by omega) (by omega) (by omega) (by omega) (by omega) (by omega) (by omega) (by omega) h26 h25
  refine k3V_i (q0 := 22) ⟨hx, hb, hml, hown, hts⟩ hK hP hD hS hA hX cv_RL_51 [0, 1, 2, 3, 4, 5, 6, 7, 8, 9, 10, 11, 12, 13, 14, 15, 16, 17, 18, 19, 20, 21, 22, 23, 24, 25, 26, 27] [28, 29, 30, 31, 32, 33, 34, 35, 36, 37, 38, 39, 40, 41, 42, 43, 44, 45, 46, 47, 48, 49, 50, 51, 52, 53, 54, 55, 56, 57, 58, 59, 60, 61, 62, 63, 64, 65, 66, 67, 68, 69, 70, 71, 72, 73, 74, 75, 76, 77, 78, 79, 80, 81, 82, 83, 84, 85, 86, 87, 88, 89, 90, 91] (wr := (WX cI cJ cII cJJ adx f3_unknowns f3_equations f2_roundSupports f2_stale f7_size f1_size f5_keptSize f5_aheadSize f0_solved f4_blockCount f4_blockLength f4_lastIsFree f4_stale ai12 al13 w0 w1 w2 w3)) rfl rfl rfl rfl (by decide) hM ⟨by decide +kernel, by decide +kernel⟩ rfl rfl (Or.inl rfl) (rest := []) rfl rfl rfl hl.1 rfl (Nat.le_of_ble_eq_true rfl) dL_law_483 ⟨Nat.le_of_ble_eq_true rfl, Nat.le_of_ble_eq_true rfl⟩ (fun r23 t H1 locs ht hB hj hS => ?_)
  obtain ⟨ai25, al26, ⟨pr23_0, pr23_1, pr23_2, pr23_3, pr23_4, pr23_5⟩, hP1, -, hD1⟩ := hB
  rw [ht] at hP1
  obtain ⟨hP, hD⟩ := hj _ hP1 hD1
  clear ht hj hP1 hD1 hM
  generalize H1 = H24 at hP hS ⊢
  refine lv_pop hx hb dL_law_486 rfl ?_
  refine lv_goto (tgt := 1072) hx hb dL_law_487 (by decide) ?_
  obtain ⟨z, e_z⟩ : ∃ q : Int32, q = i + Int32.ofInt 5 := ⟨_, rfl⟩
  have g_z : z.toInt = i.toInt + 5 := by rw [e_z]; exact n_add (a := i.toInt) (b := 5) rfl (by decide +kernel) (by omega) (by omega)
  refine lv_iinc (v := z) (lv' := [(3, .int z), (2, .ref (adm 22)), (1, .ref (adx 0)), (0, .ref b)]) hx hb dL_law_1072 hl (k := 0) rfl e_z.symm (by decide) rfl (fun ls hl => ?_)
  refine lv_goto (tgt := 18) hx hb dL_law_1075 (by decide) ?_
  exact K z g_z f3_unknowns f3_equations f2_roundSupports f2_stale f7_size f1_size f5_keptSize f5_aheadSize f0_solved f4_blockCount f4_blockLength f4_lastIsFree f4_stale ai12 al13 w0 w1 w2 w3 f9_size f9_equations f9_areSteps f9_foundMany f9_many f9_rank f9_freeMany f9_arePlans f9_planMany ai25 al26 _ _ _ (by omega) (by omega) (by omega) (by omega) (by omega) (by omega) (by omega) (by omega) (by omega) (by omega) (by omega) pr10_1 h12 h13 h14 h15 (by omega) (by omega) (by omega) (by omega) (by omega) (by omega) (by omega) (by omega) (by omega) pr23_3 pr23_1 (by omega) (by omega) (SDr_m (SDr_x h29 pr10_2 (by decide)) pr23_4 (by decide)) (TRr_m (TRr_x h30 pr10_2 (by decide)) pr23_4 (by decide)) hP hD hS hl
set_option maxRecDepth 100000 in
set_option maxHeartbeats 4000000 in
theorem lc_8 {p : Program} {e : Env} {s : State} {m : MethodId} {below : List Frame} {meth : Method} {c : Code} (l : Launch) {b L : Nat} {xs : Nat → Int32} (C0 : lw_At p s m meth c b L xs) (hL : L ≤ 2560) {dC : Nat → ClassId} {dI : Nat → Nat → Nat} {cI cJ cII cJJ : ClassId} {g : Nat} {adx adm : Nat → Nat} {i : Int32} (hi0 : 0 ≤ i.toInt) (hi1 : i.toInt + 5 ≤ (L : Int)) (K : ∀ z : Int32, z.toInt = i.toInt + 5 → LPd p l e s m below meth c b dC dI cI cJ cII cJJ adx adm z) (hK : va_K (dC, dI) vwCl (TY cI cJ cII cJJ) s) (hX : GXA 1 g (AA s) s) : ∀ (f3_unknowns f3_equations f2_roundSupports f2_stale f7_size f1_size f5_keptSize f5_aheadSize f0_solved f4_blockCount f4_blockLength f4_lastIsFree f4_stale : Int32) (aix : Nat → Nat → Int32) (alx : Nat → Nat → Int64) (w0 w1 w2 w3 : Nat) (f9_size f9_equations f9_areSteps f9_foundMany f9_many f9_rank f9_freeMany f9_arePlans f9_planMany : Int32) (aim : Nat → Nat → Int32) (alm : Nat → Nat → Int64) (H : Heap) (locs : List Loc) (ls : Array Slot), (1 ≤ f3_unknowns.toInt ∧ f3_unknowns.toInt ≤ 4) → (0 ≤ f3_equations.toInt ∧ f3_equations.toInt ≤ 3) → (0 ≤ f2_stale.toInt ∧ f2_stale.toInt ≤ 1) → (0 ≤ f7_size.toInt ∧ f7_size.toInt ≤ 256) → (0 ≤ f1_size.toInt ∧ f1_size.toInt ≤ 4) → (0 ≤ f5_keptSize.toInt ∧ f5_keptSize.toInt ≤ 128) → (0 ≤ f5_aheadSize.toInt ∧ f5_aheadSize.toInt ≤ 128) → (0 ≤ f4_blockCount.toInt ∧ f4_blockCount.toInt ≤ 9261) → (0 ≤ f4_blockLength.toInt ∧ f4_blockLength.toInt ≤ 21) → (0 ≤ f4_lastIsFree.toInt ∧ f4_lastIsFree.toInt ≤ 1) → (0 ≤ f4_stale.toInt ∧ f4_stale.toInt ≤ 1) → IAX aix → RWX adx w0 → RWX adx w1 → RWX adx w2 → RWX adx w3 → (1 ≤ f9_size.toInt ∧ f9_size.toInt ≤ 4) → (0 ≤ f9_equations.toInt ∧ f9_equations.toInt ≤ 3) → (0 ≤ f9_areSteps.toInt ∧ f9_areSteps.toInt ≤ 1) → (0 ≤ f9_foundMany.toInt ∧ f9_foundMany.toInt ≤ 99999) → (0 ≤ f9_many.toInt ∧ f9_many.toInt ≤ 6000) → (0 ≤ f9_rank.toInt ∧ f9_rank.toInt ≤ 3) → (0 ≤ f9_freeMany.toInt ∧ f9_freeMany.toInt ≤ 4) → (0 ≤ f9_arePlans.toInt ∧ f9_arePlans.toInt ≤ 1) → (0 ≤ f9_planMany.toInt ∧ f9_planMany.toInt ≤ 194481) → IAM aim → (f9_areSteps.toInt = 0 ∨ CIa aim f9_size f9_many.toInt) → f3_unknowns.toInt = f9_size.toInt → f3_equations.toInt = f9_equations.toInt → SDr aix aim f3_equations.toInt → TRr aix aim → va_P (dC, dI) vwCl ((WX cI cJ cII cJJ adx f3_unknowns f3_equations f2_roundSupports f2_stale f7_size f1_size f5_keptSize f5_aheadSize f0_solved f4_blockCount f4_blockLength f4_lastIsFree f4_stale aix alx w0 w1 w2 w3) ++ (WM cI cJ cII cJJ adm f9_size f9_equations f9_areSteps f9_foundMany f9_many f9_rank f9_freeMany f9_arePlans f9_planMany aim alm)) H → va_D (AA s) ((WX cI cJ cII cJJ adx f3_unknowns f3_equations f2_roundSupports f2_stale f7_size f1_size f5_keptSize f5_aheadSize f0_solved f4_blockCount f4_blockLength f4_lastIsFree f4_stale aix alx w0 w1 w2 w3) ++ (WM cI cJ cII cJJ adm f9_size f9_equations f9_areSteps f9_foundMany f9_many f9_rank f9_freeMany f9_arePlans f9_planMany aim alm)) → va_S (AA s) s.heap H locs → lv_has ls 4 [(3, .int i), (2, .ref (adm 22)), (1, .ref (adx 0)), (0, .ref b)] → W p l e room_1 s m #[Value.ref b] below meth c H locs 600000 7302250 (lw_Z below #[Value.ref b] s) (F0 m 490 ls []) := by
  obtain ⟨hx, hb, hr, hml, hown, hts0, hX0, hbl, hlocks, hgv⟩ := id C0
  have hts : ∀ w ∈ TT, w.before #[Value.ref b] s = true := fun w h => hts0 w (TT_tbl h)
  have hA : ∀ q : Nat, s.heap.size ≤ q → AA s q := fun _ h => h
  have hbA : ¬ AA s b := Nat.not_le.mpr hbl
  have hown : s.vm.findClass RL = some m.cls := hown
  intro f3_unknowns f3_equations f2_roundSupports f2_stale f7_size f1_size f5_keptSize f5_aheadSize f0_solved f4_blockCount f4_blockLength f4_lastIsFree f4_stale aix alx w0 w1 w2 w3 f9_size f9_equations f9_areSteps f9_foundMany f9_many f9_rank f9_freeMany f9_arePlans f9_planMany aim alm H locs ls h0 h1 h2 h3 h4 h5 h6 h7 h8 h9 h10 h11 h12 h13 h14 h15 h16 h17 h18 h19 h20 h21 h22 h23 h24 h25 h26 h27 h28 h29 h30 hP hD hS hl
  refine lv_aload_n hx hb dL_law_490 rfl (lv_at hl 2 rfl) ?_
  refine lv_aload_n hx hb dL_law_491 rfl (lv_at hl 3 rfl) ?_
  refine lv_iload_n hx hb dL_law_492 rfl (lv_at hl 0 rfl) ?_
  refine lv_iconst (v := 1) hx hb dL_law_493 (by decide) ?_
  refine v_iadd hx hb dL_law_494 _ rfl ?_
  refine lv_topi (fun z1 e_z1 => ?_)
  have g_z1 : z1.toInt = i.toInt + 1 := by rw [e_z1]; exact n_add (a := i.toInt) (b := 1) rfl (by decide +kernel) (by omega) (by omega)
  refine va_sld hx hb hX0 hbl hbA hS (j_in (a := z1.toInt) rfl (by omega) (by omega)) dL_law_495 ?_
  refine lv_topi (fun y2 e_y2 => ?_)
  refine lv_aload_n hx hb dL_law_496 rfl (lv_at hl 3 rfl) ?_
  refine lv_iload_n hx hb dL_law_497 rfl (lv_at hl 0 rfl) ?_
  refine lv_iconst (v := 2) hx hb dL_law_498 (by decide) ?_
  refine v_iadd hx hb dL_law_499 _ rfl ?_
  refine lv_topi (fun z3 e_z3 => ?_)
  have g_z3 : z3.toInt = i.toInt + 2 := by rw [e_z3]; exact n_add (a := i.toInt) (b := 2) rfl (by decide +kernel) (by omega) (by omega)
  refine va_sld hx hb hX0 hbl hbA hS (j_in (a := z3.toInt) rfl (by omega) (by omega)) dL_law_500 ?_
  refine lv_topi (fun y4 e_y4 => ?_)
  refine lv_aload_n hx hb dL_law_501 rfl (lv_at hl 3 rfl) ?_
  refine lv_iload_n hx hb dL_law_502 rfl (lv_at hl 0 rfl) ?_
  refine lv_iconst (v := 3) hx hb dL_law_503 (by decide) ?_
  refine v_iadd hx hb dL_law_504 _ rfl ?_
  refine lv_topi (fun z5 e_z5 => ?_)
  have g_z5 : z5.toInt = i.toInt + 3 := by rw [e_z5]; exact n_add (a := i.toInt) (b := 3) rfl (by decide +kernel) (by omega) (by omega)
  refine va_sld hx hb hX0 hbl hbA hS (j_in (a := z5.toInt) rfl (by omega) (by omega)) dL_law_505 ?_
  refine lv_topi (fun y6 e_y6 => ?_)
  refine lv_aload_n hx hb dL_law_506 rfl (lv_at hl 3 rfl) ?_
  refine lv_iload_n hx hb dL_law_507 rfl (lv_at hl 0 rfl) ?_
  refine lv_iconst (v := 4) hx hb dL_law_508 (by decide) ?_
  refine v_iadd hx hb dL_law_509 _ rfl ?_
  refine lv_topi (fun z7 e_z7 => ?_)
  have g_z7 : z7.toInt = i.toInt + 4 := by rw [e_z7]; exact n_add (a := i.toInt) (b := 4) rfl (by decide +kernel) (by omega) (by omega)
  refine va_sld hx hb hX0 hbl hbA hS (j_in (a := z7.toInt) rfl (by omega) (by omega)) dL_law_510 ?_
  refine lv_topi (fun y8 e_y8 => ?_)
  have hM := m132_X8_copy l dC dI cI cJ cII cJJ H.size 0 adx f3_unknowns f3_equations f2_roundSupports f2_stale f7_size f1_size f5_keptSize f5_aheadSize f0_solved f4_blockCount f4_blockLength f4_lastIsFree f4_stale aix alx w0 w1 w2 w3 y2 y4 y6 y8 (by omega) (by omega) (by omega) (by omega) (by omega) (by omega) (by omega) (by omega) (by omega) (by omega) (by omega) h11 h12 h13 h14 h15
  refine k3V_i (q0 := 0) ⟨hx, hb, hml, hown, hts⟩ hK hP hD hS hA hX cv_RL_52 [0, 1, 2, 3, 4, 5, 6, 7, 8, 9, 10, 11, 12, 13, 14, 15, 16, 17, 18, 19, 20, 21, 22, 23, 24, 25, 26, 27, 28, 29, 30, 31, 32, 33, 34, 35, 36, 37, 38, 39, 40, 41, 42, 43, 44, 45, 46, 47, 48, 49, 50, 51, 52, 53, 54, 55, 56, 57, 58, 59, 60, 61, 62, 63] [64, 65, 66, 67, 68, 69, 70, 71, 72, 73, 74, 75, 76, 77, 78, 79, 80, 81, 82, 83, 84, 85, 86, 87, 88, 89, 90, 91] (wr := (WM cI cJ cII cJJ adm f9_size f9_equations f9_areSteps f9_foundMany f9_many f9_rank f9_freeMany f9_arePlans f9_planMany aim alm)) rfl rfl rfl rfl (by decide) hM ⟨by decide +kernel, by decide +kernel⟩ rfl rfl (Or.inl rfl) (rest := []) rfl rfl rfl hl.1 rfl (Nat.le_of_ble_eq_true rfl) dL_law_511 ⟨Nat.le_of_ble_eq_true rfl, Nat.le_of_ble_eq_true rfl⟩ (fun r9 t H1 locs ht hB hj hS => ?_)
  obtain ⟨ai11, al12, ⟨pr9_0, pr9_1, pr9_2, pr9_3⟩, hP1, -, hD1⟩ := hB
  rw [ht] at hP1
  obtain ⟨hP, hD⟩ := hj _ hP1 hD1
  clear ht hj hP1 hD1 hM
  generalize H1 = H10 at hP hS ⊢
  refine lv_aload_n hx hb dL_law_514 rfl (lv_at hl 1 rfl) ?_
  refine lv_aload_n hx hb dL_law_515 rfl (lv_at hl 3 rfl) ?_
  refine lv_iload_n hx hb dL_law_516 rfl (lv_at hl 0 rfl) ?_
  refine lv_iconst (v := 1) hx hb dL_law_517 (by decide) ?_
  refine v_iadd hx hb dL_law_518 _ rfl ?_
  refine lv_topi (fun z13 e_z13 => ?_)
  have g_z13 : z13.toInt = i.toInt + 1 := by rw [e_z13]; exact n_add (a := i.toInt) (b := 1) rfl (by decide +kernel) (by omega) (by omega)
  refine va_sld hx hb hX0 hbl hbA hS (j_in (a := z13.toInt) rfl (by omega) (by omega)) dL_law_519 ?_
  refine lv_topi (fun y14 e_y14 => ?_)
  have q_y14 : y2 = y14 := by rw [e_y2, e_y14, e_z1, e_z13]
  clear e_y14
  subst q_y14
  refine lv_aload_n hx hb dL_law_520 rfl (lv_at hl 3 rfl) ?_
  refine lv_iload_n hx hb dL_law_521 rfl (lv_at hl 0 rfl) ?_
  refine lv_iconst (v := 2) hx hb dL_law_522 (by decide) ?_
  refine v_iadd hx hb dL_law_523 _ rfl ?_
  refine lv_topi (fun z15 e_z15 => ?_)
  have g_z15 : z15.toInt = i.toInt + 2 := by rw [e_z15]; exact n_add (a := i.toInt) (b := 2) rfl (by decide +kernel) (by omega) (by omega)
  refine va_sld hx hb hX0 hbl hbA hS (j_in (a := z15.toInt) rfl (by omega) (by omega)) dL_law_524 ?_
  refine lv_topi (fun y16 e_y16 => ?_)
  have q_y16 : y4 = y16 := by rw [e_y4, e_y16, e_z3, e_z15]
  clear e_y16
  subst q_y16
  refine lv_aload_n hx hb dL_law_525 rfl (lv_at hl 3 rfl) ?_
  refine lv_iload_n hx hb dL_law_526 rfl (lv_at hl 0 rfl) ?_
  refine lv_iconst (v := 3) hx hb dL_law_527 (by decide) ?_
  refine v_iadd hx hb dL_law_528 _ rfl ?_
  refine lv_topi (fun z17 e_z17 => ?_)
  have g_z17 : z17.toInt = i.toInt + 3 := by rw [e_z17]; exact n_add (a := i.toInt) (b := 3) rfl (by decide +kernel) (by omega) (by omega)
  refine va_sld hx hb hX0 hbl hbA hS (j_in (a := z17.toInt) rfl (by omega) (by omega)) dL_law_529 ?_
  refine lv_topi (fun y18 e_y18 => ?_)
  have q_y18 : y6 = y18 := by rw [e_y6, e_y18, e_z5, e_z17]
  clear e_y18
  subst q_y18
  refine lv_aload_n hx hb dL_law_530 rfl (lv_at hl 3 rfl) ?_
  refine lv_iload_n hx hb dL_law_531 rfl (lv_at hl 0 rfl) ?_
  refine lv_iconst (v := 4) hx hb dL_law_532 (by decide) ?_
  refine v_iadd hx hb dL_law_533 _ rfl ?_
  refine lv_topi (fun z19 e_z19 => ?_)
  have g_z19 : z19.toInt = i.toInt + 4 := by rw [e_z19]; exact n_add (a := i.toInt) (b := 4) rfl (by decide +kernel) (by omega) (by omega)
  refine va_sld hx hb hX0 hbl hbA hS (j_in (a := z19.toInt) rfl (by omega) (by omega)) dL_law_534 ?_
  refine lv_topi (fun y20 e_y20 => ?_)
  have q_y20 : y8 = y20 := by rw [e_y8, e_y20, e_z7, e_z19]
  clear e_y20
  subst q_y20
  have hM := r049_X9_copy l dC dI cI cJ cII cJJ H10.size 0 adm f9_size f9_equations f9_areSteps f9_foundMany f9_many f9_rank f9_freeMany f9_arePlans f9_planMany aim alm y2 y4 y6 y8 (by omega) (by omega) (by omega) (by omega) (by omega) (by omega) (by omega) (by omega) (by omega) h26 h25
  refine k3V_i (q0 := 22) ⟨hx, hb, hml, hown, hts⟩ hK hP hD hS hA hX cv_RL_56 [0, 1, 2, 3, 4, 5, 6, 7, 8, 9, 10, 11, 12, 13, 14, 15, 16, 17, 18, 19, 20, 21, 22, 23, 24, 25, 26, 27] [28, 29, 30, 31, 32, 33, 34, 35, 36, 37, 38, 39, 40, 41, 42, 43, 44, 45, 46, 47, 48, 49, 50, 51, 52, 53, 54, 55, 56, 57, 58, 59, 60, 61, 62, 63, 64, 65, 66, 67, 68, 69, 70, 71, 72, 73, 74, 75, 76, 77, 78, 79, 80, 81, 82, 83, 84, 85, 86, 87, 88, 89, 90, 91] (wr := (WX cI cJ cII cJJ adx f3_unknowns f3_equations f2_roundSupports f2_stale f7_size f1_size f5_keptSize f5_aheadSize f0_solved f4_blockCount f4_blockLength f4_lastIsFree f4_stale ai11 al12 w0 w1 w2 w3)) rfl rfl rfl rfl (by decide) hM ⟨by decide +kernel, by decide +kernel⟩ rfl rfl (Or.inl rfl) (rest := [.int r9]) rfl rfl rfl hl.1 rfl (Nat.le_of_ble_eq_true rfl) dL_law_535 ⟨Nat.le_of_ble_eq_true rfl, Nat.le_of_ble_eq_true rfl⟩ (fun r21 t H1 locs ht hB hj hS => ?_)
  obtain ⟨ai23, al24, ⟨pr21_0, pr21_1, pr21_2, pr21_3, pr21_4, pr21_5⟩, hP1, -, hD1⟩ := hB
  rw [ht] at hP1
  obtain ⟨hP, hD⟩ := hj _ hP1 hD1
  clear ht hj hP1 hD1 hM
  generalize H1 = H22 at hP hS ⊢
  have t_y2 : (0 ≤ y2.toInt ∧ y2.toInt < 4) → (((aim 3 y2.toInt.toNat).toInt < 0 ∧ (aix 59 y2.toInt.toNat).toInt = -1) ∨ (0 ≤ (aim 3 y2.toInt.toNat).toInt ∧ (aix 58 y2.toInt.toNat).toInt = (aim 3 y2.toInt.toNat).toInt ∧ (aix 59 y2.toInt.toNat).toInt = (aim 4 y2.toInt.toNat).toInt)) := fun q => h30 _ (by omega)
  have u_y2 := IAM_at4 h25 y2.toInt.toNat
  have t_y6 : (0 ≤ y6.toInt ∧ y6.toInt < 4) → (((aim 3 y6.toInt.toNat).toInt < 0 ∧ (aix 59 y6.toInt.toNat).toInt = -1) ∨ (0 ≤ (aim 3 y6.toInt.toNat).toInt ∧ (aix 58 y6.toInt.toNat).toInt = (aim 3 y6.toInt.toNat).toInt ∧ (aix 59 y6.toInt.toNat).toInt = (aim 4 y6.toInt.toNat).toInt)) := fun q => h30 _ (by omega)
  have u_y6 := IAM_at4 h25 y6.toInt.toNat
  refine t_icmp_eq hx hb dL_law_538 1072 (by decide) (q_eq (a := r9.toInt) (b := r21.toInt) rfl rfl (cmp_copy pr9_0 pr21_2 t_y2 u_y2 t_y6 u_y6)) ?_
  obtain ⟨z, e_z⟩ : ∃ q : Int32, q = i + Int32.ofInt 5 := ⟨_, rfl⟩
  have g_z : z.toInt = i.toInt + 5 := by rw [e_z]; exact n_add (a := i.toInt) (b := 5) rfl (by decide +kernel) (by omega) (by omega)
  refine lv_iinc (v := z) (lv' := [(3, .int z), (2, .ref (adm 22)), (1, .ref (adx 0)), (0, .ref b)]) hx hb dL_law_1072 hl (k := 0) rfl e_z.symm (by decide) rfl (fun ls hl => ?_)
  refine lv_goto (tgt := 18) hx hb dL_law_1075 (by decide) ?_
  exact K z g_z f3_unknowns f3_equations f2_roundSupports f2_stale f7_size f1_size f5_keptSize f5_aheadSize f0_solved f4_blockCount f4_blockLength f4_lastIsFree f4_stale ai11 al12 w0 w1 w2 w3 f9_size f9_equations f9_areSteps f9_foundMany f9_many f9_rank f9_freeMany f9_arePlans f9_planMany ai23 al24 _ _ _ (by omega) (by omega) (by omega) (by omega) (by omega) (by omega) (by omega) (by omega) (by omega) (by omega) (by omega) pr9_1 h12 h13 h14 h15 (by omega) (by omega) (by omega) (by omega) (by omega) (by omega) (by omega) (by omega) (by omega) pr21_3 pr21_1 (by omega) (by omega) (SDr_m (SDr_x h29 pr9_2 (by decide)) pr21_4 (by decide)) (TRr_m (TRr_x h30 pr9_2 (by decide)) pr21_4 (by decide)) hP hD hS hl
