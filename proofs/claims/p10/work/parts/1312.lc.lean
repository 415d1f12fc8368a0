set_option maxRecDepth 100000 in
set_option maxHeartbeats 4000000 in
theorem lc_19 {p : Program} {e : Env} {s : State} {m : MethodId} {below : List Frame} {meth : Method} {c : Code} (l : Launch) {b L : Nat} {xs : Nat → Int32} (C0 : lw_At p s m meth c b L xs) (hL : L ≤ 2560) {dC : Nat → ClassId} {dI : Nat → Nat → Nat} {cI cJ cII cJJ : ClassId} {g : Nat} {adx adm : Nat → Nat} {i : Int32} (hi0 : 0 ≤ i.toInt) (hi1 : i.toInt + 5 ≤ (L : Int)) (K : ∀ z : Int32, z.toInt = i.toInt + 5 → LPd p l e s m below meth c b dC dI cI cJ cII cJJ adx adm z) (hK : va_K (dC, dI) vwCl (TY cI cJ cII cJJ) s) (hX : GXA 1 g (AA s) s) : ∀ (f3_unknowns f3_equations f2_roundSupports f2_stale f7_size f1_size f5_keptSize f5_aheadSize f0_solved f4_blockCount f4_blockLength f4_lastIsFree f4_stale : Int32) (aix : Nat → Nat → Int32) (alx : Nat → Nat → Int64) (w0 w1 w2 w3 : Nat) (f9_size f9_equations f9_areSteps f9_foundMany f9_many f9_rank f9_freeMany f9_arePlans f9_planMany : Int32) (aim : Nat → Nat → Int32) (alm : Nat → Nat → Int64) (H : Heap) (locs : List Loc) (ls : Array Slot), (1 ≤ f3_unknowns.toInt ∧ f3_unknowns.toInt ≤ 4) → (0 ≤ f3_equations.toInt ∧ f3_equations.toInt ≤ 3) → (0 ≤ f2_stale.toInt ∧ f2_stale.toInt ≤ 1) → (0 ≤ f7_size.toInt ∧ f7_size.toInt ≤ 256) → (0 ≤ f1_size.toInt ∧ f1_size.toInt ≤ 4) → (0 ≤ f5_keptSize.toInt ∧ f5_keptSize.toInt ≤ 128) → (0 ≤ f5_aheadSize.toInt ∧ f5_aheadSize.toInt ≤ 128) → (0 ≤ f4_blockCount.toInt ∧ f4_blockCount.toInt ≤ 9261) → (0 ≤ f4_blockLength.toInt ∧ f4_blockLength.toInt ≤ 21) → (0 ≤ f4_lastIsFree.toInt ∧ f4_lastIsFree.toInt ≤ 1) → (0 ≤ f4_stale.toInt ∧ f4_stale.toInt ≤ 1) → IAX aix → RWX adx w0 → RWX adx w1 → RWX adx w2 → RWX adx w3 → (1 ≤ f9_size.toInt ∧ f9_size.toInt ≤ 4) → (0 ≤ f9_equations.toInt ∧ f9_equations.toInt ≤ 3) → (0 ≤ f9_areSteps.toInt ∧ f9_areSteps.toInt ≤ 1) → (0 ≤ f9_foundMany.toInt ∧ f9_foundMany.toInt ≤ 99999) → (0 ≤ f9_many.toInt ∧ f9_many.toInt ≤ 6000) → (0 ≤ f9_rank.toInt ∧ f9_rank.toInt ≤ 3) → (0 ≤ f9_freeMany.toInt ∧ f9_freeMany.toInt ≤ 4) → (0 ≤ f9_arePlans.toInt ∧ f9_arePlans.toInt ≤ 1) → (0 ≤ f9_planMany.toInt ∧ f9_planMany.toInt ≤ 194481) → IAM aim → (f9_areSteps.toInt = 0 ∨ CIa aim f9_size f9_many.toInt) → f3_unknowns.toInt = f9_size.toInt → f3_equations.toInt = f9_equations.toInt → SDr aix aim f3_equations.toInt → TRr aix aim → va_P (dC, dI) vwCl ((WX cI cJ cII cJJ adx f3_unknowns f3_equations f2_roundSupports f2_stale f7_size f1_size f5_keptSize f5_aheadSize f0_solved f4_blockCount f4_blockLength f4_lastIsFree f4_stale aix alx w0 w1 w2 w3) ++ (WM cI cJ cII cJJ adm f9_size f9_equations f9_areSteps f9_foundMany f9_many f9_rank f9_freeMany f9_arePlans f9_planMany aim alm)) H → va_D (AA s) ((WX cI cJ cII cJJ adx f3_unknowns f3_equations f2_roundSupports f2_stale f7_size f1_size f5_keptSize f5_aheadSize f0_solved f4_blockCount f4_blockLength f4_lastIsFree f4_stale aix alx w0 w1 w2 w3) ++ (WM cI cJ cII cJJ adm f9_size f9_equations f9_areSteps f9_foundMany f9_many f9_rank f9_freeMany f9_arePlans f9_planMany aim alm)) → va_S (AA s) s.heap H locs → lv_has ls 4 [(3, .int i), (2, .ref (adm 22)), (1, .ref (adx 0)), (0, .ref b)] → W p l e room_1 s m #[Value.ref b] below meth c H locs 600000 7302250 (lw_Z below #[Value.ref b] s) (F0 m 793 ls []) := by
  obtain ⟨hx, hb, hr, hml, hown, hts0, hX0, hbl, hlocks, hgv⟩ := id C0
  have hts : ∀ w ∈ TT, w.before #[Value.ref b] s = true := fun w h => hts0 w (TT_tbl h)
  have hA : ∀ q : Nat, s.heap.size ≤ q → AA s q := fun _ h => h
  have hbA : ¬ AA s b := Nat.not_le.mpr hbl
  have hown : s.vm.findClass RL = some m.cls := hown
  intro f3_unknowns f3_equations f2_roundSupports f2_stale f7_size f1_size f5_keptSize f5_aheadSize f0_solved f4_blockCount f4_blockLength f4_lastIsFree f4_stale aix alx w0 w1 w2 w3 f9_size f9_equations f9_areSteps f9_foundMany f9_many f9_rank f9_freeMany f9_arePlans f9_planMany aim alm H locs ls h0 h1 h2 h3 h4 h5 h6 h7 h8 h9 h10 h11 h12 h13 h14 h15 h16 h17 h18 h19 h20 h21 h22 h23 h24 h25 h26 h27 h28 h29 h30 hP hD hS hl
  refine lv_aload_n hx hb dL_law_793 rfl (lv_at hl 2 rfl) ?_
  refine lv_aload_n hx hb dL_law_794 rfl (lv_at hl 3 rfl) ?_
  refine lv_iload_n hx hb dL_law_795 rfl (lv_at hl 0 rfl) ?_
  refine lv_iconst (v := 1) hx hb dL_law_796 (by decide) ?_
  refine v_iadd hx hb dL_law_797 _ rfl ?_
  refine lv_topi (fun z1 e_z1 => ?_)
  have g_z1 : z1.toInt = i.toInt + 1 := by rw [e_z1]; exact n_add (a := i.toInt) (b := 1) rfl (by decide +kernel) (by omega) (by omega)
  refine va_sld hx hb hX0 hbl hbA hS (j_in (a := z1.toInt) rfl (by omega) (by omega)) dL_law_798 ?_
  refine lv_topi (fun y2 e_y2 => ?_)
  refine lv_aload_n hx hb dL_law_799 rfl (lv_at hl 3 rfl) ?_
  refine lv_iload_n hx hb dL_law_800 rfl (lv_at hl 0 rfl) ?_
  refine lv_iconst (v := 2) hx hb dL_law_801 (by decide) ?_
  refine v_iadd hx hb dL_law_802 _ rfl ?_
  refine lv_topi (fun z3 e_z3 => ?_)
  have g_z3 : z3.toInt = i.toInt + 2 := by rw [e_z3]; exact n_add (a := i.toInt) (b := 2) rfl (by decide +kernel) (by omega) (by omega)
  refine va_sld hx hb hX0 hbl hbA hS (j_in (a := z3.toInt) rfl (by omega) (by omega)) dL_law_803 ?_
  refine lv_topi (fun y4 e_y4 => ?_)
  have hM := m174_X8_add l dC dI cI cJ cII cJJ H.size g adx f3_unknowns f3_equations f2_roundSupports f2_stale f7_size f1_size f5_keptSize f5_aheadSize f0_solved f4_blockCount f4_blockLength f4_lastIsFree f4_stale aix alx w0 w1 w2 w3 y2 y4 (by omega) (by omega) (by omega) (by omega) (by omega) (by omega) (by omega) (by omega) (by omega) (by omega) (by omega) h11 h12 h13 h14 h15
  refine k3V_i (q0 := 0) ⟨hx, hb, hml, hown, hts⟩ hK hP hD hS hA hX cv_RL_97 [0, 1, 2, 3, 4, 5, 6, 7, 8, 9, 10, 11, 12, 13, 14, 15, 16, 17, 18, 19, 20, 21, 22, 23, 24, 25, 26, 27, 28, 29, 30, 31, 32, 33, 34, 35, 36, 37, 38, 39, 40, 41, 42, 43, 44, 45, 46, 47, 48, 49, 50, 51, 52, 53, 54, 55, 56, 57, 58, 59, 60, 61, 62, 63] [64, 65, 66, 67, 68, 69, 70, 71, 72, 73, 74, 75, 76, 77, 78, 79, 80, 81, 82, 83, 84, 85, 86, 87, 88, 89, 90, 91] (wr := (WM cI cJ cII cJJ adm f9_size f9_equations f9_areSteps f9_foundMany f9_many f9_rank f9_freeMany f9_arePlans f9_planMany aim alm)) rfl rfl rfl rfl (by decide) hM ⟨by decide +kernel, by decide +kernel⟩ rfl rfl (Or.inr ⟨rfl, rfl, rfl⟩) (rest := []) rfl rfl rfl hl.1 rfl (Nat.le_of_ble_eq_true rfl) dL_law_804 ⟨Nat.le_of_ble_eq_true rfl, Nat.le_of_ble_eq_true rfl⟩ (fun r5 t H1 locs ht hB hj hS => ?_)
  obtain ⟨v7, v8, v9, v10, v11, v12, v13, ai14, al15, w16, w17, w18, w19, ⟨pr5_0, pr5_1, pr5_2, pr5_3, pr5_4, pr5_5, pr5_6, pr5_7, pr5_8, pr5_9, pr5_10, pr5_11⟩, hP1, -, hD1⟩ := hB
  rw [ht] at hP1
  obtain ⟨hP, hD⟩ := hj _ hP1 hD1
  clear ht hj hP1 hD1 hM
  generalize H1 = H6 at hP hS ⊢
  refine lv_pop hx hb dL_law_807 rfl ?_
  refine lv_aload_n hx hb dL_law_808 rfl (lv_at hl 1 rfl) ?_
  refine lv_aload_n hx hb dL_law_809 rfl (lv_at hl 3 rfl) ?_
  refine lv_iload_n hx hb dL_law_810 rfl (lv_at hl 0 rfl) ?_
  refine lv_iconst (v := 1) hx hb dL_law_811 (by decide) ?_
  refine v_iadd hx hb dL_law_812 _ rfl ?_
  refine lv_topi (fun z20 e_z20 => ?_)
  have g_z20 : z20.toInt = i.toInt + 1 := by rw [e_z20]; exact n_add (a := i.toInt) (b := 1) rfl (by decide +kernel) (by omega) (by omega)
  refine va_sld hx hb hX0 hbl hbA hS (j_in (a := z20.toInt) rfl (by omega) (by omega)) dL_law_813 ?_
  refine lv_topi (fun y21 e_y21 => ?_)
  have q_y21 : y2 = y21 := by rw [e_y2, e_y21, e_z1, e_z20]
  clear e_y21
  subst q_y21
  refine lv_aload_n hx hb dL_law_814 rfl (lv_at hl 3 rfl) ?_
  refine lv_iload_n hx hb dL_law_815 rfl (lv_at hl 0 rfl) ?_
  refine lv_iconst (v := 2) hx hb dL_law_816 (by decide) ?_
  refine v_iadd hx hb dL_law_817 _ rfl ?_
  refine lv_topi (fun z22 e_z22 => ?_)
  have g_z22 : z22.toInt = i.toInt + 2 := by rw [e_z22]; exact n_add (a := i.toInt) (b := 2) rfl (by decide +kernel) (by omega) (by omega)
  refine va_sld hx hb hX0 hbl hbA hS (j_in (a := z22.toInt) rfl (by omega) (by omega)) dL_law_818 ?_
  refine lv_topi (fun y23 e_y23 => ?_)
  have q_y23 : y4 = y23 := by rw [e_y4, e_y23, e_z3, e_z22]
  clear e_y23
  subst q_y23
  have hM := r062_X9_add l dC dI cI cJ cII cJJ H6.size 0 adm f9_size f9_equations f9_areSteps f9_foundMany f9_many f9_rank f9_freeMany f9_arePlans f9_planMany aim alm y2 y4 (by omega) (by omega) (by omega) (by omega) (by omega) (by omega) (by omega) (by omega) (by omega) h26 h25
  refine k3V_i (q0 := 22) ⟨hx, hb, hml, hown, hts⟩ hK hP hD hS hA hX cv_RL_100 [0, 1, 2, 3, 4, 5, 6, 7, 8, 9, 10, 11, 12, 13, 14, 15, 16, 17, 18, 19, 20, 21, 22, 23, 24, 25, 26, 27] [28, 29, 30, 31, 32, 33, 34, 35, 36, 37, 38, 39, 40, 41, 42, 43, 44, 45, 46, 47, 48, 49, 50, 51, 52, 53, 54, 55, 56, 57, 58, 59, 60, 61, 62, 63, 64, 65, 66, 67, 68, 69, 70, 71, 72, 73, 74, 75, 76, 77, 78, 79, 80, 81, 82, 83, 84, 85, 86, 87, 88, 89, 90, 91] (wr := (WX cI cJ cII cJJ adx f3_unknowns f3_equations v7 v8 v9 v10 v11 v12 v13 f4_blockCount f4_blockLength f4_lastIsFree f4_stale ai14 al15 w16 w17 w18 w19)) rfl rfl rfl rfl (by decide) hM ⟨by decide +kernel, by decide +kernel⟩ rfl rfl (Or.inl rfl) (rest := []) rfl rfl rfl hl.1 rfl (Nat.le_of_ble_eq_true rfl) dL_law_819 ⟨Nat.le_of_ble_eq_true rfl, Nat.le_of_ble_eq_true rfl⟩ (fun r24 t H1 locs ht hB hj hS => ?_)
  obtain ⟨v26, v27, v28, v29, v30, ai31, al32, ⟨pr24_0, pr24_1, pr24_2, pr24_3, pr24_4, pr24_5, pr24_6, pr24_7, pr24_8, pr24_9⟩, hP1, -, hD1⟩ := hB
  rw [ht] at hP1
  obtain ⟨hP, hD⟩ := hj _ hP1 hD1
  clear ht hj hP1 hD1 hM
  generalize H1 = H25 at hP hS ⊢
  refine lv_pop hx hb dL_law_822 rfl ?_
  refine lv_goto (tgt := 1072) hx hb dL_law_823 (by decide) ?_
  obtain ⟨z, e_z⟩ : ∃ q : Int32, q = i + Int32.ofInt 5 := ⟨_, rfl⟩
  have g_z : z.toInt = i.toInt + 5 := by rw [e_z]; exact n_add (a := i.toInt) (b := 5) rfl (by decide +kernel) (by omega) (by omega)
  refine lv_iinc (v := z) (lv' := [(3, .int z), (2, .ref (adm 22)), (1, .ref (adx 0)), (0, .ref b)]) hx hb dL_law_1072 hl (k := 0) rfl e_z.symm (by decide) rfl (fun ls hl => ?_)
  refine lv_goto (tgt := 18) hx hb dL_law_1075 (by decide) ?_
  exact K z g_z f3_unknowns f3_equations v7 v8 v9 v10 v11 v12 v13 f4_blockCount f4_blockLength f4_lastIsFree f4_stale ai14 al15 w16 w17 w18 w19 f9_size f9_equations v26 v27 v28 v29 v30 f9_arePlans f9_planMany ai31 al32 _ _ _ (by omega) (by omega) (by omega) (by omega) (by omega) (by omega) (by omega) (by omega) (by omega) (by omega) (by omega) pr5_5 pr5_8 pr5_9 pr5_10 pr5_11 (by omega) (by omega) (by omega) (by omega) (by omega) (by omega) (by omega) (by omega) (by omega) pr24_7 pr24_6 (by omega) (by omega) (SDr_m (SDr_x h29 pr5_6 (by decide)) pr24_8 (by decide)) (TRr_m (TRr_x h30 pr5_6 (by decide)) pr24_8 (by decide)) hP hD hS hl
set_option maxRecDepth 100000 in
set_option maxHeartbeats 4000000 in
theorem lc_20 {p : Program} {e : Env} {s : State} {m : MethodId} {below : List Frame} {meth : Method} {c : Code} (l : Launch) {b L : Nat} {xs : Nat → Int32} (C0 : lw_At p s m meth c b L xs) (hL : L ≤ 2560) {dC : Nat → ClassId} {dI : Nat → Nat → Nat} {cI cJ cII cJJ : ClassId} {g : Nat} {adx adm : Nat → Nat} {i : Int32} (hi0 : 0 ≤ i.toInt) (hi1 : i.toInt + 5 ≤ (L : Int)) (K : ∀ z : Int32, z.toInt = i.toInt + 5 → LPd p l e s m below meth c b dC dI cI cJ cII cJJ adx adm z) (hK : va_K (dC, dI) vwCl (TY cI cJ cII cJJ) s) (hX : GXA 1 g (AA s) s) : ∀ (f3_unknowns f3_equations f2_roundSupports f2_stale f7_size f1_size f5_keptSize f5_aheadSize f0_solved f4_blockCount f4_blockLength f4_lastIsFree f4_stale : Int32) (aix : Nat → Nat → Int32) (alx : Nat → Nat → Int64) (w0 w1 w2 w3 : Nat) (f9_size f9_equations f9_areSteps f9_foundMany f9_many f9_rank f9_freeMany f9_arePlans f9_planMany : Int32) (aim : Nat → Nat → Int32) (alm : Nat → Nat → Int64) (H : Heap) (locs : List Loc) (ls : Array Slot), (1 ≤ f3_unknowns.toInt ∧ f3_unknowns.toInt ≤ 4) → (0 ≤ f3_equations.toInt ∧ f3_equations.toInt ≤ 3) → (0 ≤ f2_stale.toInt ∧ f2_stale.toInt ≤ 1) → (0 ≤ f7_size.toInt ∧ f7_size.toInt ≤ 256) → (0 ≤ f1_size.toInt ∧ f1_size.toInt ≤ 4) → (0 ≤ f5_keptSize.toInt ∧ f5_keptSize.toInt ≤ 128) → (0 ≤ f5_aheadSize.toInt ∧ f5_aheadSize.toInt ≤ 128) → (0 ≤ f4_blockCount.toInt ∧ f4_blockCount.toInt ≤ 9261) → (0 ≤ f4_blockLength.toInt ∧ f4_blockLength.toInt ≤ 21) → (0 ≤ f4_lastIsFree.toInt ∧ f4_lastIsFree.toInt ≤ 1) → (0 ≤ f4_stale.toInt ∧ f4_stale.toInt ≤ 1) → IAX aix → RWX adx w0 → RWX adx w1 → RWX adx w2 → RWX adx w3 → (1 ≤ f9_size.toInt ∧ f9_size.toInt ≤ 4) → (0 ≤ f9_equations.toInt ∧ f9_equations.toInt ≤ 3) → (0 ≤ f9_areSteps.toInt ∧ f9_areSteps.toInt ≤ 1) → (0 ≤ f9_foundMany.toInt ∧ f9_foundMany.toInt ≤ 99999) → (0 ≤ f9_many.toInt ∧ f9_many.toInt ≤ 6000) → (0 ≤ f9_rank.toInt ∧ f9_rank.toInt ≤ 3) → (0 ≤ f9_freeMany.toInt ∧ f9_freeMany.toInt ≤ 4) → (0 ≤ f9_arePlans.toInt ∧ f9_arePlans.toInt ≤ 1) → (0 ≤ f9_planMany.toInt ∧ f9_planMany.toInt ≤ 194481) → IAM aim → (f9_areSteps.toInt = 0 ∨ CIa aim f9_size f9_many.toInt) → f3_unknowns.toInt = f9_size.toInt → f3_equations.toInt = f9_equations.toInt → SDr aix aim f3_equations.toInt → TRr aix aim → va_P (dC, dI) vwCl ((WX cI cJ cII cJJ adx f3_unknowns f3_equations f2_roundSupports f2_stale f7_size f1_size f5_keptSize f5_aheadSize f0_solved f4_blockCount f4_blockLength f4_lastIsFree f4_stale aix alx w0 w1 w2 w3) ++ (WM cI cJ cII cJJ adm f9_size f9_equations f9_areSteps f9_foundMany f9_many f9_rank f9_freeMany f9_arePlans f9_planMany aim alm)) H → va_D (AA s) ((WX cI cJ cII cJJ adx f3_unknowns f3_equations f2_roundSupports f2_stale f7_size f1_size f5_keptSize f5_aheadSize f0_solved f4_blockCount f4_blockLength f4_lastIsFree f4_stale aix alx w0 w1 w2 w3) ++ (WM cI cJ cII cJJ adm f9_size f9_equations f9_areSteps f9_foundMany f9_many f9_rank f9_freeMany f9_arePlans f9_planMany aim alm)) → va_S (AA s) s.heap H locs → lv_has ls 4 [(3, .int i), (2, .ref (adm 22)), (1, .ref (adx 0)), (0, .ref b)] → W p l e room_1 s m #[Value.ref b] below meth c H locs 600000 7302250 (lw_Z below #[Value.ref b] s) (F0 m 826 ls []) := by
  obtain ⟨hx, hb, hr, hml, hown, hts0, hX0, hbl, hlocks, hgv⟩ := id C0
  have hts : ∀ w ∈ TT, w.before #[Value.ref b] s = true := fun w h => hts0 w (TT_tbl h)
  have hA : ∀ q : Nat, s.heap.size ≤ q → AA s q := fun _ h => h
  have hbA : ¬ AA s b := Nat.not_le.mpr hbl
  have hown : s.vm.findClass RL = some m.cls := hown
  intro f3_unknowns f3_equations f2_roundSupports f2_stale f7_size f1_size f5_keptSize f5_aheadSize f0_solved f4_blockCount f4_blockLength f4_lastIsFree f4_stale aix alx w0 w1 w2 w3 f9_size f9_equations f9_areSteps f9_foundMany f9_many f9_rank f9_freeMany f9_arePlans f9_planMany aim alm H locs ls h0 h1 h2 h3 h4 h5 h6 h7 h8 h9 h10 h11 h12 h13 h14 h15 h16 h17 h18 h19 h20 h21 h22 h23 h24 h25 h26 h27 h28 h29 h30 hP hD hS hl
  refine lv_aload_n hx hb dL_law_826 rfl (lv_at hl 2 rfl) ?_
  have hM := m060_X8_cost l dC dI cI cJ cII cJJ H.size 0 adx f3_unknowns f3_equations f2_roundSupports f2_stale f7_size f1_size f5_keptSize f5_aheadSize f0_solved f4_blockCount f4_blockLength f4_lastIsFree f4_stale aix alx w0 w1 w2 w3 (by omega) (by omega) (by omega) (by omega) (by omega) (by omega) (by omega) (by omega) (by omega) (by omega) (by omega) h11 h12 h13 h14 h15
  refine k3V_l (q0 := 0) ⟨hx, hb, hml, hown, hts⟩ hK hP hD hS hA hX cv_RL_101 [0, 1, 2, 3, 4, 5, 6, 7, 8, 9, 10, 11, 12, 13, 14, 15, 16, 17, 18, 19, 20, 21, 22, 23, 24, 25, 26, 27, 28, 29, 30, 31, 32, 33, 34, 35, 36, 37, 38, 39, 40, 41, 42, 43, 44, 45, 46, 47, 48, 49, 50, 51, 52, 53, 54, 55, 56, 57, 58, 59, 60, 61, 62, 63] [64, 65, 66, 67, 68, 69, 70, 71, 72, 73, 74, 75, 76, 77, 78, 79, 80, 81, 82, 83, 84, 85, 86, 87, 88, 89, 90, 91] (wr := (WM cI cJ cII cJJ adm f9_size f9_equations f9_areSteps f9_foundMany f9_many f9_rank f9_freeMany f9_arePlans f9_planMany aim alm)) rfl rfl rfl rfl (by decide) hM ⟨by decide +kernel, by decide +kernel⟩ rfl rfl (Or.inl rfl) (rest := []) rfl rfl rfl hl.1 rfl (Nat.le_of_ble_eq_true rfl) dL_law_827 ⟨Nat.le_of_ble_eq_true rfl, Nat.le_of_ble_eq_true rfl⟩ (fun r1 t H1 locs ht hB hj hS => ?_)
  obtain ⟨-, hP1, -, hD1⟩ := hB
  rw [ht] at hP1
  obtain ⟨hP, hD⟩ := hj _ hP1 hD1
  clear ht hj hP1 hD1 hM
  generalize H1 = H2 at hP hS ⊢
  refine lv_pop2_2 hx hb dL_law_830 rfl ?_
  refine lv_aload_n hx hb dL_law_831 rfl (lv_at hl 1 rfl) ?_
  have hM := r038_X9_cost l dC dI cI cJ cII cJJ H2.size 0 adm f9_size f9_equations f9_areSteps f9_foundMany f9_many f9_rank f9_freeMany f9_arePlans f9_planMany aim alm (by omega) (by omega) (by omega) (by omega) (by omega) (by omega) (by omega) (by omega) (by omega) h25
  refine k3V_l (q0 := 22) ⟨hx, hb, hml, hown, hts⟩ hK hP hD hS hA hX cv_RL_105 [0, 1, 2, 3, 4, 5, 6, 7, 8, 9, 10, 11, 12, 13, 14, 15, 16, 17, 18, 19, 20, 21, 22, 23, 24, 25, 26, 27] [28, 29, 30, 31, 32, 33, 34, 35, 36, 37, 38, 39, 40, 41, 42, 43, 44, 45, 46, 47, 48, 49, 50, 51, 52, 53, 54, 55, 56, 57, 58, 59, 60, 61, 62, 63, 64, 65, 66, 67, 68, 69, 70, 71, 72, 73, 74, 75, 76, 77, 78, 79, 80, 81, 82, 83, 84, 85, 86, 87, 88, 89, 90, 91] (wr := (WX cI cJ cII cJJ adx f3_unknowns f3_equations f2_roundSupports f2_stale f7_size f1_size f5_keptSize f5_aheadSize f0_solved f4_blockCount f4_blockLength f4_lastIsFree f4_stale aix alx w0 w1 w2 w3)) rfl rfl rfl rfl (by decide) hM ⟨by decide +kernel, by decide +kernel⟩ rfl rfl (Or.inl rfl) (rest := []) rfl rfl rfl hl.1 rfl (Nat.le_of_ble_eq_true rfl) dL_law_832 ⟨Nat.le_of_ble_eq_true rfl, Nat.le_of_ble_eq_true rfl⟩ (fun r3 t H1 locs ht hB hj hS => ?_)
  obtain ⟨pr3_0, hP1, -, hD1⟩ := hB
  rw [ht] at hP1
  obtain ⟨hP, hD⟩ := hj _ hP1 hD1
  clear ht hj hP1 hD1 hM
  generalize H1 = H4 at hP hS ⊢
  refine lv_pop2_2 hx hb dL_law_835 rfl ?_
  refine lv_goto (tgt := 1072) hx hb dL_law_836 (by decide) ?_
  obtain ⟨z, e_z⟩ : ∃ q : Int32, q = i + Int32.ofInt 5 := ⟨_, rfl⟩
  have g_z : z.toInt = i.toInt + 5 := by rw [e_z]; exact n_add (a := i.toInt) (b := 5) rfl (by decide +kernel) (by omega) (by omega)
  refine lv_iinc (v := z) (lv' := [(3, .int z), (2, .ref (adm 22)), (1, .ref (adx 0)), (0, .ref b)]) hx hb dL_law_1072 hl (k := 0) rfl e_z.symm (by decide) rfl (fun ls hl => ?_)
  refine lv_goto (tgt := 18) hx hb dL_law_1075 (by decide) ?_
  exact K z g_z f3_unknowns f3_equations f2_roundSupports f2_stale f7_size f1_size f5_keptSize f5_aheadSize f0_solved f4_blockCount f4_blockLength f4_lastIsFree f4_stale aix alx w0 w1 w2 w3 f9_size f9_equations f9_areSteps f9_foundMany f9_many f9_rank f9_freeMany f9_arePlans f9_planMany aim alm _ _ _ (by omega) (by omega) (by omega) (by omega) (by omega) (by omega) (by omega) (by omega) (by omega) (by omega) (by omega) h11 h12 h13 h14 h15 (by omega) (by omega) (by omega) (by omega) (by omega) (by omega) (by omega) (by omega) (by omega) h25 h26 (by omega) (by omega) h29 h30 hP hD hS hl
set_option maxRecDepth 100000 in
set_option maxHeartbeats 4000000 in
theorem lc_21 {p : Program} {e : Env} {s : State} {m : MethodId} {below : List Frame} {meth : Method} {c : Code} (l : Launch) {b L : Nat} {xs : Nat → Int32} (C0 : lw_At p s m meth c b L xs) (hL : L ≤ 2560) {dC : Nat → ClassId} {dI : Nat → Nat → Nat} {cI cJ cII cJJ : ClassId} {g : Nat} {adx adm : Nat → Nat} {i : Int32} (hi0 : 0 ≤ i.toInt) (hi1 : i.toInt + 5 ≤ (L : Int)) (K : ∀ z : Int32, z.toInt = i.toInt + 5 → LPd p l e s m below meth c b dC dI cI cJ cII cJJ adx adm z) (hK : va_K (dC, dI) vwCl (TY cI cJ cII cJJ) s) (hX : GXA 1 g (AA s) s) : ∀ (f3_unknowns f3_equations f2_roundSupports f2_stale f7_size f1_size f5_keptSize f5_aheadSize f0_solved f4_blockCount f4_blockLength f4_lastIsFree f4_stale : Int32) (aix : Nat → Nat → Int32) (alx : Nat → Nat → Int64) (w0 w1 w2 w3 : Nat) (f9_size f9_equations f9_areSteps f9_foundMany f9_many f9_rank f9_freeMany f9_arePlans f9_planMany : Int32) (aim : Nat → Nat → Int32) (alm : Nat → Nat → Int64) (H : Heap) (locs : List Loc) (ls : Array Slot), (1 ≤ f3_unknowns.toInt ∧ f3_unknowns.toInt ≤ 4) → (0 ≤ f3_equations.toInt ∧ f3_equations.toInt ≤ 3) → (0 ≤ f2_stale.toInt ∧ f2_stale.toInt ≤ 1) → (0 ≤ f7_size.toInt ∧ f7_size.toInt ≤ 256) → (0 ≤ f1_size.toInt ∧ f1_size.toInt ≤ 4) → (0 ≤ f5_keptSize.toInt ∧ f5_keptSize.toInt ≤ 128) → (0 ≤ f5_aheadSize.toInt ∧ f5_aheadSize.toInt ≤ 128) → (0 ≤ f4_blockCount.toInt ∧ f4_blockCount.toInt ≤ 9261) → (0 ≤ f4_blockLength.toInt ∧ f4_blockLength.toInt ≤ 21) → (0 ≤ f4_lastIsFree.toInt ∧ f4_lastIsFree.toInt ≤ 1) → (0 ≤ f4_stale.toInt ∧ f4_stale.toInt ≤ 1) → IAX aix → RWX adx w0 → RWX adx w1 → RWX adx w2 → RWX adx w3 → (1 ≤ f9_size.toInt ∧ f9_size.toInt ≤ 4) → (0 ≤ f9_equations.toInt ∧ f9_equations.toInt ≤ 3) → (0 ≤ f9_areSteps.toInt ∧ f9_areSteps.toInt ≤ 1) → (0 ≤ f9_foundMany.toInt ∧ f9_foundMany.toInt ≤ 99999) → (0 ≤ f9_many.toInt ∧ f9_many.toInt ≤ 6000) → (0 ≤ f9_rank.toInt ∧ f9_rank.toInt ≤ 3) → (0 ≤ f9_freeMany.toInt ∧ f9_freeMany.toInt ≤ 4) → (0 ≤ f9_arePlans.toInt ∧ f9_arePlans.toInt ≤ 1) → (0 ≤ f9_planMany.toInt ∧ f9_planMany.toInt ≤ 194481) → IAM aim → (f9_areSteps.toInt = 0 ∨ CIa aim f9_size f9_many.toInt) → f3_unknowns.toInt = f9_size.toInt → f3_equations.toInt = f9_equations.toInt → SDr aix aim f3_equations.toInt → TRr aix aim → va_P (dC, dI) vwCl ((WX cI cJ cII cJJ adx f3_unknowns f3_equations f2_roundSupports f2_stale f7_size f1_size f5_keptSize f5_aheadSize f0_solved f4_blockCount f4_blockLength f4_lastIsFree f4_stale aix alx w0 w1 w2 w3) ++ (WM cI cJ cII cJJ adm f9_size f9_equations f9_areSteps f9_foundMany f9_many f9_rank f9_freeMany f9_arePlans f9_planMany aim alm)) H → va_D (AA s) ((WX cI cJ cII cJJ adx f3_unknowns f3_equations f2_roundSupports f2_stale f7_size f1_size f5_keptSize f5_aheadSize f0_solved f4_blockCount f4_blockLength f4_lastIsFree f4_stale aix alx w0 w1 w2 w3) ++ (WM cI cJ cII cJJ adm f9_size f9_equations f9_areSteps f9_foundMany f9_many f9_rank f9_freeMany f9_arePlans f9_planMany aim alm)) → va_S (AA s) s.heap H locs → lv_has ls 4 [(3, .int i), (2, .ref (adm 22)), (1, .ref (adx 0)), (0, .ref b)] → W p l e room_1 s m #[Value.ref b] below meth c H locs 600000 7302250 (lw_Z below #[Value.ref b] s) (F0 m 839 ls []) := by
  obtain ⟨hx, hb, hr, hml, hown, hts0, hX0, hbl, hlocks, hgv⟩ := id C0
  have hts : ∀ w ∈ TT, w.before #[Value.ref b] s = true := fun w h => hts0 w (TT_tbl h)
  have hA : ∀ q : Nat, s.heap.size ≤ q → AA s q := fun _ h => h
  have hbA : ¬ AA s b := Nat.not_le.mpr hbl
  have hown : s.vm.findClass RL = some m.cls := hown
  intro f3_unknowns f3_equations f2_roundSupports f2_stale f7_size f1_size f5_keptSize f5_aheadSize f0_solved f4_blockCount f4_blockLength f4_lastIsFree f4_stale aix alx w0 w1 w2 w3 f9_size f9_equations f9_areSteps f9_foundMany f9_many f9_rank f9_freeMany f9_arePlans f9_planMany aim alm H locs ls h0 h1 h2 h3 h4 h5 h6 h7 h8 h9 h10 h11 h12 h13 h14 h15 h16 h17 h18 h19 h20 h21 h22 h23 h24 h25 h26 h27 h28 h29 h30 hP hD hS hl
  refine lv_aload_n hx hb dL_law_839 rfl (lv_at hl 2 rfl) ?_
  have hM := m175_X8_better l dC dI cI cJ cII cJJ H.size g adx f3_unknowns f3_equations f2_roundSupports f2_stale f7_size f1_size f5_keptSize f5_aheadSize f0_solved f4_blockCount f4_blockLength f4_lastIsFree f4_stale aix alx w0 w1 w2 w3 (by omega) (by omega) (by omega) (by omega) (by omega) (by omega) (by omega) (by omega) (by omega) (by omega) (by omega) h11 h12 h13 h14 h15
  refine k3V_i (q0 := 0) ⟨hx, hb, hml, hown, hts⟩ hK hP hD hS hA hX cv_RL_106 [0, 1, 2, 3, 4, 5, 6, 7, 8, 9, 10, 11, 12, 13, 14, 15, 16, 17, 18, 19, 20, 21, 22, 23, 24, 25, 26, 27, 28, 29, 30, 31, 32, 33, 34, 35, 36, 37, 38, 39, 40, 41, 42, 43, 44, 45, 46, 47, 48, 49, 50, 51, 52, 53, 54, 55, 56, 57, 58, 59, 60, 61, 62, 63] [64, 65, 66, 67, 68, 69, 70, 71, 72, 73, 74, 75, 76, 77, 78, 79, 80, 81, 82, 83, 84, 85, 86, 87, 88, 89, 90, 91] (wr := (WM cI cJ cII cJJ adm f9_size f9_equations f9_areSteps f9_foundMany f9_many f9_rank f9_freeMany f9_arePlans f9_planMany aim alm)) rfl rfl rfl rfl (by decide) hM ⟨by decide +kernel, by decide +kernel⟩ rfl rfl (Or.inr ⟨rfl, rfl, rfl⟩) (rest := []) rfl rfl rfl hl.1 rfl (Nat.le_of_ble_eq_true rfl) dL_law_840 ⟨Nat.le_of_ble_eq_true rfl, Nat.le_of_ble_eq_true rfl⟩ (fun r1 t H1 locs ht hB hj hS => ?_)
  obtain ⟨v3, v4, v5, v6, v7, v8, v9, ai10, al11, w12, w13, w14, w15, ⟨pr1_0, pr1_1, pr1_2, pr1_3, pr1_4, pr1_5, pr1_6, pr1_7, pr1_8, pr1_9, pr1_10, pr1_11⟩, hP1, -, hD1⟩ := hB
  rw [ht] at hP1
  obtain ⟨hP, hD⟩ := hj _ hP1 hD1
  clear ht hj hP1 hD1 hM
  generalize H1 = H2 at hP hS ⊢
  refine lv_pop hx hb dL_law_843 rfl ?_
  refine lv_aload_n hx hb dL_law_844 rfl (lv_at hl 1 rfl) ?_
  have hM := r063_X9_better l dC dI cI cJ cII cJJ H2.size 0 adm f9_size f9_equations f9_areSteps f9_foundMany f9_many f9_rank f9_freeMany f9_arePlans f9_planMany aim alm (by omega) (by omega) (by omega) (by omega) (by omega) (by omega) (by omega) (by omega) (by omega) h26 h25
  refine k3V_i (q0 := 22) ⟨hx, hb, hml, hown, hts⟩ hK hP hD hS hA hX cv_RL_109 [0, 1, 2, 3, 4, 5, 6, 7, 8, 9, 10, 11, 12, 13, 14, 15, 16, 17, 18, 19, 20, 21, 22, 23, 24, 25, 26, 27] [28, 29, 30, 31, 32, 33, 34, 35, 36, 37, 38, 39, 40, 41, 42, 43, 44, 45, 46, 47, 48, 49, 50, 51, 52, 53, 54, 55, 56, 57, 58, 59, 60, 61, 62, 63, 64, 65, 66, 67, 68, 69, 70, 71, 72, 73, 74, 75, 76, 77, 78, 79, 80, 81, 82, 83, 84, 85, 86, 87, 88, 89, 90, 91] (wr := (WX cI cJ cII cJJ adx f3_unknowns f3_equations v3 v4 v5 v6 v7 v8 v9 f4_blockCount f4_blockLength f4_lastIsFree f4_stale ai10 al11 w12 w13 w14 w15)) rfl rfl rfl rfl (by decide) hM ⟨by decide +kernel, by decide +kernel⟩ rfl rfl (Or.inl rfl) (rest := []) rfl rfl rfl hl.1 rfl (Nat.le_of_ble_eq_true rfl) dL_law_845 ⟨Nat.le_of_ble_eq_true rfl, Nat.le_of_ble_eq_true rfl⟩ (fun r16 t H1 locs ht hB hj hS => ?_)
  obtain ⟨v18, v19, v20, v21, v22, ai23, al24, ⟨pr16_0, pr16_1, pr16_2, pr16_3, pr16_4, pr16_5, pr16_6, pr16_7, pr16_8, pr16_9⟩, hP1, -, hD1⟩ := hB
  rw [ht] at hP1
  obtain ⟨hP, hD⟩ := hj _ hP1 hD1
  clear ht hj hP1 hD1 hM
  generalize H1 = H17 at hP hS ⊢
  refine lv_pop hx hb dL_law_848 rfl ?_
  refine lv_goto (tgt := 1072) hx hb dL_law_849 (by decide) ?_
  obtain ⟨z, e_z⟩ : ∃ q : Int32, q = i + Int32.ofInt 5 := ⟨_, rfl⟩
  have g_z : z.toInt = i.toInt + 5 := by rw [e_z]; exact n_add (a := i.toInt) (b := 5) rfl (by decide +kernel) (by omega) (by omega)
  refine lv_iinc (v := z) (lv' := [(3, .int z), (2, .ref (adm 22)), (1, .ref (adx 0)), (0, .ref b)]) hx hb dL_law_1072 hl (k := 0) rfl e_z.symm (by decide) rfl (fun ls hl => ?_)
  refine lv_goto (tgt := 18) hx hb dL_law_1075 (by decide) ?_
  exact K z g_z f3_unknowns f3_equations v3 v4 v5 v6 v7 v8 v9 f4_blockCount f4_blockLength f4_lastIsFree f4_stale ai10 al11 w12 w13 w14 w15 f9_size f9_equations v18 v19 v20 v21 v22 f9_arePlans f9_planMany ai23 al24 _ _ _ (by omega) (by omega) (by omega) (by omega) (by omega) (by omega) (by omega) (by omega) (by omega) (by omega) (by omega) pr1_5 pr1_8 pr1_9 pr1_10 pr1_11 (by omega) (by omega) (by omega) (by omega) (by omega) (by omega) (by omega) (by omega) (by omega) pr16_7 pr16_6 (by omega) (by omega) (SDr_m (SDr_x h29 pr1_6 (by decide)) pr16_8 (by decide)) (TRr_m (TRr_x h30 pr1_6 (by decide)) pr16_8 (by decide)) hP hD hS hl
set_option maxRecDepth 100000 in
set_option maxHeartbeats 4000000 in
theorem lc_22 {p : Program} {e : Env} {s : State} {m : MethodId} {below : List Frame} {meth : Method} {c : Code} (l : Launch) {b L : Nat} {xs : Nat → Int32} (C0 : lw_At p s m meth c b L xs) (hL : L ≤ 2560) {dC : Nat → ClassId} {dI : Nat → Nat → Nat} {cI cJ cII cJJ : ClassId} {g : Nat} {adx adm : Nat → Nat} {i : Int32} (hi0 : 0 ≤ i.toInt) (hi1 : i.toInt + 5 ≤ (L : Int)) (K : ∀ z : Int32, z.toInt = i.toInt + 5 → LPd p l e s m below meth c b dC dI cI cJ cII cJJ adx adm z) (hK : va_K (dC, dI) vwCl (TY cI cJ cII cJJ) s) (hX : GXA 1 g (AA s) s) : ∀ (f3_unknowns f3_equations f2_roundSupports f2_stale f7_size f1_size f5_keptSize f5_aheadSize f0_solved f4_blockCount f4_blockLength f4_lastIsFree f4_stale : Int32) (aix : Nat → Nat → Int32) (alx : Nat → Nat → Int64) (w0 w1 w2 w3 : Nat) (f9_size f9_equations f9_areSteps f9_foundMany f9_many f9_rank f9_freeMany f9_arePlans f9_planMany : Int32) (aim : Nat → Nat → Int32) (alm : Nat → Nat → Int64) (H : Heap) (locs : List Loc) (ls : Array Slot), (1 ≤ f3_unknowns.toInt ∧ f3_unknowns.toInt ≤ 4) → (0 ≤ f3_equations.toInt ∧ f3_equations.toInt ≤ 3) → (0 ≤ f2_stale.toInt ∧ f2_stale.toInt ≤ 1) → (0 ≤ f7_size.toInt ∧ f7_size.toInt ≤ 256) → (0 ≤ f1_size.toInt ∧ f1_size.toInt ≤ 4) → (0 ≤ f5_keptSize.toInt ∧ f5_keptSize.toInt ≤ 128) → (0 ≤ f5_aheadSize.toInt ∧ f5_aheadSize.toInt ≤ 128) → (0 ≤ f4_blockCount.toInt ∧ f4_blockCount.toInt ≤ 9261) → (0 ≤ f4_blockLength.toInt ∧ f4_blockLength.toInt ≤ 21) → (0 ≤ f4_lastIsFree.toInt ∧ f4_lastIsFree.toInt ≤ 1) → (0 ≤ f4_stale.toInt ∧ f4_stale.toInt ≤ 1) → IAX aix → RWX adx w0 → RWX adx w1 → RWX adx w2 → RWX adx w3 → (1 ≤ f9_size.toInt ∧ f9_size.toInt ≤ 4) → (0 ≤ f9_equations.toInt ∧ f9_equations.toInt ≤ 3) → (0 ≤ f9_areSteps.toInt ∧ f9_areSteps.toInt ≤ 1) → (0 ≤ f9_foundMany.toInt ∧ f9_foundMany.toInt ≤ 99999) → (0 ≤ f9_many.toInt ∧ f9_many.toInt ≤ 6000) → (0 ≤ f9_rank.toInt ∧ f9_rank.toInt ≤ 3) → (0 ≤ f9_freeMany.toInt ∧ f9_freeMany.toInt ≤ 4) → (0 ≤ f9_arePlans.toInt ∧ f9_arePlans.toInt ≤ 1) → (0 ≤ f9_planMany.toInt ∧ f9_planMany.toInt ≤ 194481) → IAM aim → (f9_areSteps.toInt = 0 ∨ CIa aim f9_size f9_many.toInt) → f3_unknowns.toInt = f9_size.toInt → f3_equations.toInt = f9_equations.toInt → SDr aix aim f3_equations.toInt → TRr aix aim → va_P (dC, dI) vwCl ((WX cI cJ cII cJJ adx f3_unknowns f3_equations f2_roundSupports f2_stale f7_size f1_size f5_keptSize f5_aheadSize f0_solved f4_blockCount f4_blockLength f4_lastIsFree f4_stale aix alx w0 w1 w2 w3) ++ (WM cI cJ cII cJJ adm f9_size f9_equations f9_areSteps f9_foundMany f9_many f9_rank f9_freeMany f9_arePlans f9_planMany aim alm)) H → va_D (AA s) ((WX cI cJ cII cJJ adx f3_unknowns f3_equations f2_roundSupports f2_stale f7_size f1_size f5_keptSize f5_aheadSize f0_solved f4_blockCount f4_blockLength f4_lastIsFree f4_stale aix alx w0 w1 w2 w3) ++ (WM cI cJ cII cJJ adm f9_size f9_equations f9_areSteps f9_foundMany f9_many f9_rank f9_freeMany f9_arePlans f9_planMany aim alm)) → va_S (AA s) s.heap H locs → lv_has ls 4 [(3, .int i), (2, .ref (adm 22)), (1, .ref (adx 0)), (0, .ref b)] → W p l e room_1 s m #[Value.ref b] below meth c H locs 600000 7302250 (lw_Z below #[Value.ref b] s) (F0 m 852 ls []) := by
  obtain ⟨hx, hb, hr, hml, hown, hts0, hX0, hbl, hlocks, hgv⟩ := id C0
  have hts : ∀ w ∈ TT, w.before #[Value.ref b] s = true := fun w h => hts0 w (TT_tbl h)
  have hA : ∀ q : Nat, s.heap.size ≤ q → AA s q := fun _ h => h
  have hbA : ¬ AA s b := Nat.not_le.mpr hbl
  have hown : s.vm.findClass RL = some m.cls := hown
  intro f3_unknowns f3_equations f2_roundSupports f2_stale f7_size f1_size f5_keptSize f5_aheadSize f0_solved f4_blockCount f4_blockLength f4_lastIsFree f4_stale aix alx w0 w1 w2 w3 f9_size f9_equations f9_areSteps f9_foundMany f9_many f9_rank f9_freeMany f9_arePlans f9_planMany aim alm H locs ls h0 h1 h2 h3 h4 h5 h6 h7 h8 h9 h10 h11 h12 h13 h14 h15 h16 h17 h18 h19 h20 h21 h22 h23 h24 h25 h26 h27 h28 h29 h30 hP hD hS hl
  refine lv_aload_n hx hb dL_law_852 rfl (lv_at hl 2 rfl) ?_
  have hM := m176_X8_best l dC dI cI cJ cII cJJ H.size g adx f3_unknowns f3_equations f2_roundSupports f2_stale f7_size f1_size f5_keptSize f5_aheadSize f0_solved f4_blockCount f4_blockLength f4_lastIsFree f4_stale aix alx w0 w1 w2 w3 (by omega) (by omega) (by omega) (by omega) (by omega) (by omega) (by omega) (by omega) (by omega) (by omega) (by omega) h11 h12 h13 h14 h15
  refine k3V_i (q0 := 0) ⟨hx, hb, hml, hown, hts⟩ hK hP hD hS hA hX cv_RL_110 [0, 1, 2, 3, 4, 5, 6, 7, 8, 9, 10, 11, 12, 13, 14, 15, 16, 17, 18, 19, 20, 21, 22, 23, 24, 25, 26, 27, 28, 29, 30, 31, 32, 33, 34, 35, 36, 37, 38, 39, 40, 41, 42, 43, 44, 45, 46, 47, 48, 49, 50, 51, 52, 53, 54, 55, 56, 57, 58, 59, 60, 61, 62, 63] [64, 65, 66, 67, 68, 69, 70, 71, 72, 73, 74, 75, 76, 77, 78, 79, 80, 81, 82, 83, 84, 85, 86, 87, 88, 89, 90, 91] (wr := (WM cI cJ cII cJJ adm f9_size f9_equations f9_areSteps f9_foundMany f9_many f9_rank f9_freeMany f9_arePlans f9_planMany aim alm)) rfl rfl rfl rfl (by decide) hM ⟨by decide +kernel, by decide +kernel⟩ rfl rfl (Or.inr ⟨rfl, rfl, rfl⟩) (rest := []) rfl rfl rfl hl.1 rfl (Nat.le_of_ble_eq_true rfl) dL_law_853 ⟨Nat.le_of_ble_eq_true rfl, Nat.le_of_ble_eq_true rfl⟩ (fun r1 t H1 locs ht hB hj hS => ?_)
  obtain ⟨v3, v4, v5, v6, v7, v8, v9, ai10, al11, w12, w13, w14, w15, ⟨pr1_0, pr1_1, pr1_2, pr1_3, pr1_4, pr1_5, pr1_6, pr1_7, pr1_8, pr1_9, pr1_10, pr1_11⟩, hP1, -, hD1⟩ := hB
  rw [ht] at hP1
  obtain ⟨hP, hD⟩ := hj _ hP1 hD1
  clear ht hj hP1 hD1 hM
  generalize H1 = H2 at hP hS ⊢
  refine lv_pop hx hb dL_law_856 rfl ?_
  refine lv_aload_n hx hb dL_law_857 rfl (lv_at hl 1 rfl) ?_
  have hM := r064_X9_best l dC dI cI cJ cII cJJ H2.size 0 adm f9_size f9_equations f9_areSteps f9_foundMany f9_many f9_rank f9_freeMany f9_arePlans f9_planMany aim alm (by omega) (by omega) (by omega) (by omega) (by omega) (by omega) (by omega) (by omega) (by omega) h26 h25
  refine k3V_i (q0 := 22) ⟨hx, hb, hml, hown, hts⟩ hK hP hD hS hA hX cv_RL_113 [0, 1, 2, 3, 4, 5, 6, 7, 8, 9, 10, 11, 12, 13, 14, 15, 16, 17, 18, 19, 20, 21, 22, 23, 24, 25, 26, 27] [28, 29, 30, 31, 32, 33, 34, 35, 36, 37, 38, 39, 40, 41, 42, 43, 44, 45, 46, 47, 48, 49, 50, 51, 52, 53, 54, 55, 56, 57, 58, 59, 60, 61, 62, 63, 64, 65, 66, 67, 68, 69, 70, 71, 72, 73, 74, 75, 76, 77, 78, 79, 80, 81, 82, 83, 84, 85, 86, 87, 88, 89, 90, 91] (wr := (WX cI cJ cII cJJ adx f3_unknowns f3_equations v3 v4 v5 v6 v7 v8 v9 f4_blockCount f4_blockLength f4_lastIsFree f4_stale ai10 al11 w12 w13 w14 w15)) rfl rfl rfl rfl (by decide) hM ⟨by decide +kernel, by decide +kernel⟩ rfl rfl (Or.inl rfl) (rest := []) rfl rfl rfl hl.1 rfl (Nat.le_of_ble_eq_true rfl) dL_law_858 ⟨Nat.le_of_ble_eq_true rfl, Nat.le_of_ble_eq_true rfl⟩ (fun r16 t H1 locs ht hB hj hS => ?_)
  obtain ⟨v18, v19, v20, v21, v22, ai23, al24, ⟨pr16_0, pr16_1, pr16_2, pr16_3, pr16_4, pr16_5, pr16_6, pr16_7, pr16_8⟩, hP1, -, hD1⟩ := hB
  rw [ht] at hP1
  obtain ⟨hP, hD⟩ := hj _ hP1 hD1
  clear ht hj hP1 hD1 hM
  generalize H1 = H17 at hP hS ⊢
  refine lv_pop hx hb dL_law_861 rfl ?_
  refine lv_goto (tgt := 1072) hx hb dL_law_862 (by decide) ?_
  obtain ⟨z, e_z⟩ : ∃ q : Int32, q = i + Int32.ofInt 5 := ⟨_, rfl⟩
  have g_z : z.toInt = i.toInt + 5 := by rw [e_z]; exact n_add (a := i.toInt) (b := 5) rfl (by decide +kernel) (by omega) (by omega)
  refine lv_iinc (v := z) (lv' := [(3, .int z), (2, .ref (adm 22)), (1, .ref (adx 0)), (0, .ref b)]) hx hb dL_law_1072 hl (k := 0) rfl e_z.symm (by decide) rfl (fun ls hl => ?_)
  refine lv_goto (tgt := 18) hx hb dL_law_1075 (by decide) ?_
  exact K z g_z f3_unknowns f3_equations v3 v4 v5 v6 v7 v8 v9 f4_blockCount f4_blockLength f4_lastIsFree f4_stale ai10 al11 w12 w13 w14 w15 f9_size f9_equations v18 v19 v20 v21 v22 f9_arePlans f9_planMany ai23 al24 _ _ _ (by omega) (by omega) (by omega) (by omega) (by omega) (by omega) (by omega) (by omega) (by omega) (by omega) (by omega) pr1_5 pr1_8 pr1_9 pr1_10 pr1_11 (by omega) (by omega) (by omega) (by omega) (by omega) (by omega) (by omega) (by omega) (by omega) pr16_6 pr16_5 (by omega) (by omega) (SDr_m (SDr_x h29 pr1_6 (by decide)) pr16_7 (by decide)) (TRr_m (TRr_x h30 pr1_6 (by decide)) pr16_7 (by decide)) hP hD hS hl
set_option maxRecDepth 100000 in
set_option maxHeartbeats 4000000 in
theorem lc_23 {p : Program} {e : Env} {s : State} {m : MethodId} {below : List Frame} {meth : Method} {c : Code} (l : Launch) {b L : Nat} {xs : Nat → Int32} (C0 : lw_At p s m meth c b L xs) (hL : L ≤ 2560) {dC : Nat → ClassId} {dI : Nat → Nat → Nat} {cI cJ cII cJJ : ClassId} {g : Nat} {adx adm : Nat → Nat} {i : Int32} (hi0 : 0 ≤ i.toInt) (hi1 : i.toInt + 5 ≤ (L : Int)) (K : ∀ z : Int32, z.toInt = i.toInt + 5 → LPd p l e s m below meth c b dC dI cI cJ cII cJJ adx adm z) (hK : va_K (dC, dI) vwCl (TY cI cJ cII cJJ) s) (hX : GXA 1 g (AA s) s) : ∀ (f3_unknowns f3_equations f2_roundSupports f2_stale f7_size f1_size f5_keptSize f5_aheadSize f0_solved f4_blockCount f4_blockLength f4_lastIsFree f4_stale : Int32) (aix : Nat → Nat → Int32) (alx : Nat → Nat → Int64) (w0 w1 w2 w3 : Nat) (f9_size f9_equations f9_areSteps f9_foundMany f9_many f9_rank f9_freeMany f9_arePlans f9_planMany : Int32) (aim : Nat → Nat → Int32) (alm : Nat → Nat → Int64) (H : Heap) (locs : List Loc) (ls : Array Slot), (1 ≤ f3_unknowns.toInt ∧ f3_unknowns.toInt ≤ 4) → (0 ≤ f3_equations.toInt ∧ f3_equations.toInt ≤ 3) → (0 ≤ f2_stale.toInt ∧ f2_stale.toInt ≤ 1) → (0 ≤ f7_size.toInt ∧ f7_size.toInt ≤ 256) → (0 ≤ f1_size.toInt ∧ f1_size.toInt ≤ 4) → (0 ≤ f5_keptSize.toInt ∧ f5_keptSize.toInt ≤ 128) → (0 ≤ f5_aheadSize.toInt ∧ f5_aheadSize.toInt ≤ 128) → (0 ≤ f4_blockCount.toInt ∧ f4_blockCount.toInt ≤ 9261) → (0 ≤ f4_blockLength.toInt ∧ f4_blockLength.toInt ≤ 21) → (0 ≤ f4_lastIsFree.toInt ∧ f4_lastIsFree.toInt ≤ 1) → (0 ≤ f4_stale.toInt ∧ f4_stale.toInt ≤ 1) → IAX aix → RWX adx w0 → RWX adx w1 → RWX adx w2 → RWX adx w3 → (1 ≤ f9_size.toInt ∧ f9_size.toInt ≤ 4) → (0 ≤ f9_equations.toInt ∧ f9_equations.toInt ≤ 3) → (0 ≤ f9_areSteps.toInt ∧ f9_areSteps.toInt ≤ 1) → (0 ≤ f9_foundMany.toInt ∧ f9_foundMany.toInt ≤ 99999) → (0 ≤ f9_many.toInt ∧ f9_many.toInt ≤ 6000) → (0 ≤ f9_rank.toInt ∧ f9_rank.toInt ≤ 3) → (0 ≤ f9_freeMany.toInt ∧ f9_freeMany.toInt ≤ 4) → (0 ≤ f9_arePlans.toInt ∧ f9_arePlans.toInt ≤ 1) → (0 ≤ f9_planMany.toInt ∧ f9_planMany.toInt ≤ 194481) → IAM aim → (f9_areSteps.toInt = 0 ∨ CIa aim f9_size f9_many.toInt) → f3_unknowns.toInt = f9_size.toInt → f3_equations.toInt = f9_equations.toInt → SDr aix aim f3_equations.toInt → TRr aix aim → va_P (dC, dI) vwCl ((WX cI cJ cII cJJ adx f3_unknowns f3_equations f2_roundSupports f2_stale f7_size f1_size f5_keptSize f5_aheadSize f0_solved f4_blockCount f4_blockLength f4_lastIsFree f4_stale aix alx w0 w1 w2 w3) ++ (WM cI cJ cII cJJ adm f9_size f9_equations f9_areSteps f9_foundMany f9_many f9_rank f9_freeMany f9_arePlans f9_planMany aim alm)) H → va_D (AA s) ((WX cI cJ cII cJJ adx f3_unknowns f3_equations f2_roundSupports f2_stale f7_size f1_size f5_keptSize f5_aheadSize f0_solved f4_blockCount f4_blockLength f4_lastIsFree f4_stale aix alx w0 w1 w2 w3) ++ (WM cI cJ cII cJJ adm f9_size f9_equations f9_areSteps f9_foundMany f9_many f9_rank f9_freeMany f9_arePlans f9_planMany aim alm)) → va_S (AA s) s.heap H locs → lv_has ls 4 [(3, .int i), (2, .ref (adm 22)), (1, .ref (adx 0)), (0, .ref b)] → W p l e room_1 s m #[Value.ref b] below meth c H locs 600000 7302250 (lw_Z below #[Value.ref b] s) (F0 m 865 ls []) := by
  obtain ⟨hx, hb, hr, hml, hown, hts0, hX0, hbl, hlocks, hgv⟩ := id C0
  have hts : ∀ w ∈ TT, w.before #[Value.ref b] s = true := fun w h => hts0 w (TT_tbl h)
  have hA : ∀ q : Nat, s.heap.size ≤ q → AA s q := fun _ h => h
  have hbA : ¬ AA s b := Nat.not_le.mpr hbl
  have hown : s.vm.findClass RL = some m.cls := hown
  intro f3_unknowns f3_equations f2_roundSupports f2_stale f7_size f1_size f5_keptSize f5_aheadSize f0_solved f4_blockCount f4_blockLength f4_lastIsFree f4_stale aix alx w0 w1 w2 w3 f9_size f9_equations f9_areSteps f9_foundMany f9_many f9_rank f9_freeMany f9_arePlans f9_planMany aim alm H locs ls h0 h1 h2 h3 h4 h5 h6 h7 h8 h9 h10 h11 h12 h13 h14 h15 h16 h17 h18 h19 h20 h21 h22 h23 h24 h25 h26 h27 h28 h29 h30 hP hD hS hl
  refine lv_aload_n hx hb dL_law_865 rfl (lv_at hl 2 rfl) ?_
  have hM := m122_X8_plans l dC dI cI cJ cII cJJ H.size 0 adx f3_unknowns f3_equations f2_roundSupports f2_stale f7_size f1_size f5_keptSize f5_aheadSize f0_solved f4_blockCount f4_blockLength f4_lastIsFree f4_stale aix alx w0 w1 w2 w3 (by omega) (by omega) (by omega) (by omega) (by omega) (by omega) (by omega) (by omega) (by omega) (by omega) (by omega) h11 h12 h13 h14 h15
  refine k3V_i (q0 := 0) ⟨hx, hb, hml, hown, hts⟩ hK hP hD hS hA hX cv_RL_114 [0, 1, 2, 3, 4, 5, 6, 7, 8, 9, 10, 11, 12, 13, 14, 15, 16, 17, 18, 19, 20, 21, 22, 23, 24, 25, 26, 27, 28, 29, 30, 31, 32, 33, 34, 35, 36, 37, 38, 39, 40, 41, 42, 43, 44, 45, 46, 47, 48, 49, 50, 51, 52, 53, 54, 55, 56, 57, 58, 59, 60, 61, 62, 63] [64, 65, 66, 67, 68, 69, 70, 71, 72, 73, 74, 75, 76, 77, 78, 79, 80, 81, 82, 83, 84, 85, 86, 87, 88, 89, 90, 91] (wr := (WM cI cJ cII cJJ adm f9_size f9_equations f9_areSteps f9_foundMany f9_many f9_rank f9_freeMany f9_arePlans f9_planMany aim alm)) rfl rfl rfl rfl (by decide) hM ⟨by decide +kernel, by decide +kernel⟩ rfl rfl (Or.inl rfl) (rest := []) rfl rfl rfl hl.1 rfl (Nat.le_of_ble_eq_true rfl) dL_law_866 ⟨Nat.le_of_ble_eq_true rfl, Nat.le_of_ble_eq_true rfl⟩ (fun r1 t H1 locs ht hB hj hS => ?_)
  obtain ⟨v3, v4, v5, v6, ai7, ⟨pr1_0, pr1_1, pr1_2, pr1_3, pr1_4, pr1_5, pr1_6⟩, hP1, -, hD1⟩ := hB
  rw [ht] at hP1
  obtain ⟨hP, hD⟩ := hj _ hP1 hD1
  clear ht hj hP1 hD1 hM
  generalize H1 = H2 at hP hS ⊢
  refine lv_pop hx hb dL_law_869 rfl ?_
  refine lv_aload_n hx hb dL_law_870 rfl (lv_at hl 1 rfl) ?_
  have hM := r065_X9_plans l dC dI cI cJ cII cJJ H2.size 0 adm f9_size f9_equations f9_areSteps f9_foundMany f9_many f9_rank f9_freeMany f9_arePlans f9_planMany aim alm (by omega) (by omega) (by omega) (by omega) (by omega) (by omega) (by omega) (by omega) (by omega) h26 h25
  refine k3V_i (q0 := 22) ⟨hx, hb, hml, hown, hts⟩ hK hP hD hS hA hX cv_RL_117 [0, 1, 2, 3, 4, 5, 6, 7, 8, 9, 10, 11, 12, 13, 14, 15, 16, 17, 18, 19, 20, 21, 22, 23, 24, 25, 26, 27] [28, 29, 30, 31, 32, 33, 34, 35, 36, 37, 38, 39, 40, 41, 42, 43, 44, 45, 46, 47, 48, 49, 50, 51, 52, 53, 54, 55, 56, 57, 58, 59, 60, 61, 62, 63, 64, 65, 66, 67, 68, 69, 70, 71, 72, 73, 74, 75, 76, 77, 78, 79, 80, 81, 82, 83, 84, 85, 86, 87, 88, 89, 90, 91] (wr := (WX cI cJ cII cJJ adx f3_unknowns f3_equations f2_roundSupports f2_stale f7_size f1_size f5_keptSize f5_aheadSize f0_solved v3 v4 v5 v6 ai7 alx w0 w1 w2 w3)) rfl rfl rfl rfl (by decide) hM ⟨by decide +kernel, by decide +kernel⟩ rfl rfl (Or.inl rfl) (rest := []) rfl rfl rfl hl.1 rfl (Nat.le_of_ble_eq_true rfl) dL_law_871 ⟨Nat.le_of_ble_eq_true rfl, Nat.le_of_ble_eq_true rfl⟩ (fun r8 t H1 locs ht hB hj hS => ?_)
  obtain ⟨v10, v11, ai12, ⟨pr8_0, pr8_1, pr8_2, pr8_3, pr8_4, pr8_5⟩, hP1, -, hD1⟩ := hB
  rw [ht] at hP1
  obtain ⟨hP, hD⟩ := hj _ hP1 hD1
  clear ht hj hP1 hD1 hM
  generalize H1 = H9 at hP hS ⊢
  refine lv_pop hx hb dL_law_874 rfl ?_
  refine lv_goto (tgt := 1072) hx hb dL_law_875 (by decide) ?_
  obtain ⟨z, e_z⟩ : ∃ q : Int32, q = i + Int32.ofInt 5 := ⟨_, rfl⟩
  have g_z : z.toInt = i.toInt + 5 := by rw [e_z]; exact n_add (a := i.toInt) (b := 5) rfl (by decide +kernel) (by omega) (by omega)
  refine lv_iinc (v := z) (lv' := [(3, .int z), (2, .ref (adm 22)), (1, .ref (adx 0)), (0, .ref b)]) hx hb dL_law_1072 hl (k := 0) rfl e_z.symm (by decide) rfl (fun ls hl => ?_)
  refine lv_goto (tgt := 18) hx hb dL_law_1075 (by decide) ?_
  exact K z g_z f3_unknowns f3_equations f2_roundSupports f2_stale f7_size f1_size f5_keptSize f5_aheadSize f0_solved v3 v4 v5 v6 ai7 alx w0 w1 w2 w3 f9_size f9_equations f9_areSteps f9_foundMany f9_many f9_rank f9_freeMany v10 v11 ai12 alm _ _ _ (by omega) (by omega) (by omega) (by omega) (by omega) (by omega) (by omega) (by omega) (by omega) (by omega) (by omega) pr1_5 h12 h13 h14 h15 (by omega) (by omega) (by omega) (by omega) (by omega) (by omega) (by omega) (by omega) (by omega) pr8_4 pr8_3 (by omega) (by omega) (SDr_m (SDr_x h29 pr1_6 (by decide)) pr8_5 (by decide)) (TRr_m (TRr_x h30 pr1_6 (by decide)) pr8_5 (by decide)) hP hD hS hl
set_option maxRecDepth 100000 in
set_option maxHeartbeats 4000000 in
theorem lc_24 {p : Program} {e : Env} {s : State} {m : MethodId} {below : List Frame} {meth : Method} {c : Code} (l : Launch) {b L : Nat} {xs : Nat → Int32} (C0 : lw_At p s m meth c b L xs) (hL : L ≤ 2560) {dC : Nat → ClassId} {dI : Nat → Nat → Nat} {cI cJ cII cJJ : ClassId} {g : Nat} {adx adm : Nat → Nat} {i : Int32} (hi0 : 0 ≤ i.toInt) (hi1 : i.toInt + 5 ≤ (L : Int)) (K : ∀ z : Int32, z.toInt = i.toInt + 5 → LPd p l e s m below meth c b dC dI cI cJ cII cJJ adx adm z) (hK : va_K (dC, dI) vwCl (TY cI cJ cII cJJ) s) (hX : GXA 1 g (AA s) s) : ∀ (f3_unknowns f3_equations f2_roundSupports f2_stale f7_size f1_size f5_keptSize f5_aheadSize f0_solved f4_blockCount f4_blockLength f4_lastIsFree f4_stale : Int32) (aix : Nat → Nat → Int32) (alx : Nat → Nat → Int64) (w0 w1 w2 w3 : Nat) (f9_size f9_equations f9_areSteps f9_foundMany f9_many f9_rank f9_freeMany f9_arePlans f9_planMany : Int32) (aim : Nat → Nat → Int32) (alm : Nat → Nat → Int64) (H : Heap) (locs : List Loc) (ls : Array Slot), (1 ≤ f3_unknowns.toInt ∧ f3_unknowns.toInt ≤ 4) → (0 ≤ f3_equations.toInt ∧ f3_equations.toInt ≤ 3) → (0 ≤ f2_stale.toInt ∧ f2_stale.toInt ≤ 1) → (0 ≤ f7_size.toInt ∧ f7_size.toInt ≤ 256) → (0 ≤ f1_size.toInt ∧ f1_size.toInt ≤ 4) → (0 ≤ f5_keptSize.toInt ∧ f5_keptSize.toInt ≤ 128) → (0 ≤ f5_aheadSize.toInt ∧ f5_aheadSize.toInt ≤ 128) → (0 ≤ f4_blockCount.toInt ∧ f4_blockCount.toInt ≤ 9261) → (0 ≤ f4_blockLength.toInt ∧ f4_blockLength.toInt ≤ 21) → (0 ≤ f4_lastIsFree.toInt ∧ f4_lastIsFree.toInt ≤ 1) → (0 ≤ f4_stale.toInt ∧ f4_stale.toInt ≤ 1) → IAX aix → RWX adx w0 → RWX adx w1 → RWX adx w2 → RWX adx w3 → (1 ≤ f9_size.toInt ∧ f9_size.toInt ≤ 4) → (0 ≤ f9_equations.toInt ∧ f9_equations.toInt ≤ 3) → (0 ≤ f9_areSteps.toInt ∧ f9_areSteps.toInt ≤ 1) → (0 ≤ f9_foundMany.toInt ∧ f9_foundMany.toInt ≤ 99999) → (0 ≤ f9_many.toInt ∧ f9_many.toInt ≤ 6000) → (0 ≤ f9_rank.toInt ∧ f9_rank.toInt ≤ 3) → (0 ≤ f9_freeMany.toInt ∧ f9_freeMany.toInt ≤ 4) → (0 ≤ f9_arePlans.toInt ∧ f9_arePlans.toInt ≤ 1) → (0 ≤ f9_planMany.toInt ∧ f9_planMany.toInt ≤ 194481) → IAM aim → (f9_areSteps.toInt = 0 ∨ CIa aim f9_size f9_many.toInt) → f3_unknowns.toInt = f9_size.toInt → f3_equations.toInt = f9_equations.toInt → SDr aix aim f3_equations.toInt → TRr aix aim → va_P (dC, dI) vwCl ((WX cI cJ cII cJJ adx f3_unknowns f3_equations f2_roundSupports f2_stale f7_size f1_size f5_keptSize f5_aheadSize f0_solved f4_blockCount f4_blockLength f4_lastIsFree f4_stale aix alx w0 w1 w2 w3) ++ (WM cI cJ cII cJJ adm f9_size f9_equations f9_areSteps f9_foundMany f9_many f9_rank f9_freeMany f9_arePlans f9_planMany aim alm)) H → va_D (AA s) ((WX cI cJ cII cJJ adx f3_unknowns f3_equations f2_roundSupports f2_stale f7_size f1_size f5_keptSize f5_aheadSize f0_solved f4_blockCount f4_blockLength f4_lastIsFree f4_stale aix alx w0 w1 w2 w3) ++ (WM cI cJ cII cJJ adm f9_size f9_equations f9_areSteps f9_foundMany f9_many f9_rank f9_freeMany f9_arePlans f9_planMany aim alm)) → va_S (AA s) s.heap H locs → lv_has ls 4 [(3, .int i), (2, .ref (adm 22)), (1, .ref (adx 0)), (0, .ref b)] → W p l e room_1 s m #[Value.ref b] below meth c H locs 600000 7302250 (lw_Z below #[Value.ref b] s) (F0 m 878 ls []) := by
  obtain ⟨hx, hb, hr, hml, hown, hts0, hX0, hbl, hlocks, hgv⟩ := id C0
  have hts : ∀ w ∈ TT, w.before #[Value.ref b] s = true := fun w h => hts0 w (TT_tbl h)
  have hA : ∀ q : Nat, s.heap.size ≤ q → AA s q := fun _ h => h
  have hbA : ¬ AA s b := Nat.not_le.mpr hbl
  have hown : s.vm.findClass RL = some m.cls := hown
  intro f3_unknowns f3_equations f2_roundSupports f2_stale f7_size f1_size f5_keptSize f5_aheadSize f0_solved f4_blockCount f4_blockLength f4_lastIsFree f4_stale aix alx w0 w1 w2 w3 f9_size f9_equations f9_areSteps f9_foundMany f9_many f9_rank f9_freeMany f9_arePlans f9_planMany aim alm H locs ls h0 h1 h2 h3 h4 h5 h6 h7 h8 h9 h10 h11 h12 h13 h14 h15 h16 h17 h18 h19 h20 h21 h22 h23 h24 h25 h26 h27 h28 h29 h30 hP hD hS hl
  refine lv_aload_n hx hb dL_law_878 rfl (lv_at hl 2 rfl) ?_
  refine lv_aload_n hx hb dL_law_879 rfl (lv_at hl 3 rfl) ?_
  refine lv_iload_n hx hb dL_law_880 rfl (lv_at hl 0 rfl) ?_
  refine lv_iconst (v := 1) hx hb dL_law_881 (by decide) ?_
  refine v_iadd hx hb dL_law_882 _ rfl ?_
  refine lv_topi (fun z1 e_z1 => ?_)
  have g_z1 : z1.toInt = i.toInt + 1 := by rw [e_z1]; exact n_add (a := i.toInt) (b := 1) rfl (by decide +kernel) (by omega) (by omega)
  refine va_sld hx hb hX0 hbl hbA hS (j_in (a := z1.toInt) rfl (by omega) (by omega)) dL_law_883 ?_
  refine lv_topi (fun y2 e_y2 => ?_)
  refine lv_aload_n hx hb dL_law_884 rfl (lv_at hl 3 rfl) ?_
  refine lv_iload_n hx hb dL_law_885 rfl (lv_at hl 0 rfl) ?_
  refine lv_iconst (v := 2) hx hb dL_law_886 (by decide) ?_
  refine v_iadd hx hb dL_law_887 _ rfl ?_
  refine lv_topi (fun z3 e_z3 => ?_)
  have g_z3 : z3.toInt = i.toInt + 2 := by rw [e_z3]; exact n_add (a := i.toInt) (b := 2) rfl (by decide +kernel) (by omega) (by omega)
  refine va_sld hx hb hX0 hbl hbA hS (j_in (a := z3.toInt) rfl (by omega) (by omega)) dL_law_888 ?_
  refine lv_topi (fun y4 e_y4 => ?_)
  have hM := m127_X8_plan l dC dI cI cJ cII cJJ H.size 0 adx f3_unknowns f3_equations f2_roundSupports f2_stale f7_size f1_size f5_keptSize f5_aheadSize f0_solved f4_blockCount f4_blockLength f4_lastIsFree f4_stale aix alx w0 w1 w2 w3 y2 y4 (by omega) (by omega) (by omega) (by omega) (by omega) (by omega) (by omega) (by omega) (by omega) (by omega) (by omega) h11 h12 h13 h14 h15
  refine k3V_i (q0 := 0) ⟨hx, hb, hml, hown, hts⟩ hK hP hD hS hA hX cv_RL_118 [0, 1, 2, 3, 4, 5, 6, 7, 8, 9, 10, 11, 12, 13, 14, 15, 16, 17, 18, 19, 20, 21, 22, 23, 24, 25, 26, 27, 28, 29, 30, 31, 32, 33, 34, 35, 36, 37, 38, 39, 40, 41, 42, 43, 44, 45, 46, 47, 48, 49, 50, 51, 52, 53, 54, 55, 56, 57, 58, 59, 60, 61, 62, 63] [64, 65, 66, 67, 68, 69, 70, 71, 72, 73, 74, 75, 76, 77, 78, 79, 80, 81, 82, 83, 84, 85, 86, 87, 88, 89, 90, 91] (wr := (WM cI cJ cII cJJ adm f9_size f9_equations f9_areSteps f9_foundMany f9_many f9_rank f9_freeMany f9_arePlans f9_planMany aim alm)) rfl rfl rfl rfl (by decide) hM ⟨by decide +kernel, by decide +kernel⟩ rfl rfl (Or.inl rfl) (rest := []) rfl rfl rfl hl.1 rfl (Nat.le_of_ble_eq_true rfl) dL_law_889 ⟨Nat.le_of_ble_eq_true rfl, Nat.le_of_ble_eq_true rfl⟩ (fun r5 t H1 locs ht hB hj hS => ?_)
  obtain ⟨v7, v8, v9, v10, ai11, ⟨pr5_0, pr5_1, pr5_2, pr5_3, pr5_4, pr5_5⟩, hP1, -, hD1⟩ := hB
  rw [ht] at hP1
  obtain ⟨hP, hD⟩ := hj _ hP1 hD1
  clear ht hj hP1 hD1 hM
  generalize H1 = H6 at hP hS ⊢
  refine lv_pop hx hb dL_law_892 rfl ?_
  refine lv_aload_n hx hb dL_law_893 rfl (lv_at hl 1 rfl) ?_
  refine lv_aload_n hx hb dL_law_894 rfl (lv_at hl 3 rfl) ?_
  refine lv_iload_n hx hb dL_law_895 rfl (lv_at hl 0 rfl) ?_
  refine lv_iconst (v := 1) hx hb dL_law_896 (by decide) ?_
  refine v_iadd hx hb dL_law_897 _ rfl ?_
  refine lv_topi (fun z12 e_z12 => ?_)
  have g_z12 : z12.toInt = i.toInt + 1 := by rw [e_z12]; exact n_add (a := i.toInt) (b := 1) rfl (by decide +kernel) (by omega) (by omega)
  refine va_sld hx hb hX0 hbl hbA hS (j_in (a := z12.toInt) rfl (by omega) (by omega)) dL_law_898 ?_
  refine lv_topi (fun y13 e_y13 => ?_)
  have q_y13 : y2 = y13 := by rw [e_y2, e_y13, e_z1, e_z12]
  clear e_y13
  subst q_y13
  refine lv_aload_n hx hb dL_law_899 rfl (lv_at hl 3 rfl) ?_
  refine lv_iload_n hx hb dL_law_900 rfl (lv_at hl 0 rfl) ?_
  refine lv_iconst (v := 2) hx hb dL_law_901 (by decide) ?_
  refine v_iadd hx hb dL_law_902 _ rfl ?_
  refine lv_topi (fun z14 e_z14 => ?_)
  have g_z14 : z14.toInt = i.toInt + 2 := by rw [e_z14]; exact n_add (a := i.toInt) (b := 2) rfl (by decide +kernel) (by omega) (by omega)
  refine va_sld hx hb hX0 hbl hbA hS (j_in (a := z14.toInt) rfl (by omega) (by omega)) dL_law_903 ?_
  refine lv_topi (fun y15 e_y15 => ?_)
  have q_y15 : y4 = y15 := by rw [e_y4, e_y15, e_z3, e_z14]
  clear e_y15
  subst q_y15
  have hM := r066_X9_plan l dC dI cI cJ cII cJJ H6.size 0 adm f9_size f9_equations f9_areSteps f9_foundMany f9_many f9_rank f9_freeMany f9_arePlans f9_planMany aim alm y2 y4 (by omega) (by omega) (by omega) (by omega) (by omega) (by omega) (by omega) (by omega) (by omega) h26 h25
  refine k3V_i (q0 := 22) ⟨hx, hb, hml, hown, hts⟩ hK hP hD hS hA hX cv_RL_121 [0, 1, 2, 3, 4, 5, 6, 7, 8, 9, 10, 11, 12, 13, 14, 15, 16, 17, 18, 19, 20, 21, 22, 23, 24, 25, 26, 27] [28, 29, 30, 31, 32, 33, 34, 35, 36, 37, 38, 39, 40, 41, 42, 43, 44, 45, 46, 47, 48, 49, 50, 51, 52, 53, 54, 55, 56, 57, 58, 59, 60, 61, 62, 63, 64, 65, 66, 67, 68, 69, 70, 71, 72, 73, 74, 75, 76, 77, 78, 79, 80, 81, 82, 83, 84, 85, 86, 87, 88, 89, 90, 91] (wr := (WX cI cJ cII cJJ adx f3_unknowns f3_equations f2_roundSupports f2_stale f7_size f1_size f5_keptSize f5_aheadSize f0_solved v7 v8 v9 v10 ai11 alx w0 w1 w2 w3)) rfl rfl rfl rfl (by decide) hM ⟨by decide +kernel, by decide +kernel⟩ rfl rfl (Or.inl rfl) (rest := []) rfl rfl rfl hl.1 rfl (Nat.le_of_ble_eq_true rfl) dL_law_904 ⟨Nat.le_of_ble_eq_true rfl, Nat.le_of_ble_eq_true rfl⟩ (fun r16 t H1 locs ht hB hj hS => ?_)
  obtain ⟨v18, v19, ai20, ⟨pr16_0, pr16_1, pr16_2, pr16_3, pr16_4⟩, hP1, -, hD1⟩ := hB
  rw [ht] at hP1
  obtain ⟨hP, hD⟩ := hj _ hP1 hD1
  clear ht hj hP1 hD1 hM
  generalize H1 = H17 at hP hS ⊢
  refine lv_pop hx hb dL_law_907 rfl ?_
  refine lv_goto (tgt := 1072) hx hb dL_law_908 (by decide) ?_
  obtain ⟨z, e_z⟩ : ∃ q : Int32, q = i + Int32.ofInt 5 := ⟨_, rfl⟩
  have g_z : z.toInt = i.toInt + 5 := by rw [e_z]; exact n_add (a := i.toInt) (b := 5) rfl (by decide +kernel) (by omega) (by omega)
  refine lv_iinc (v := z) (lv' := [(3, .int z), (2, .ref (adm 22)), (1, .ref (adx 0)), (0, .ref b)]) hx hb dL_law_1072 hl (k := 0) rfl e_z.symm (by decide) rfl (fun ls hl => ?_)
  refine lv_goto (tgt := 18) hx hb dL_law_1075 (by decide) ?_
  exact K z g_z f3_unknowns f3_equations f2_roundSupports f2_stale f7_size f1_size f5_keptSize f5_aheadSize f0_solved v7 v8 v9 v10 ai11 alx w0 w1 w2 w3 f9_size f9_equations f9_areSteps f9_foundMany f9_many f9_rank f9_freeMany v18 v19 ai20 alm _ _ _ (by omega) (by omega) (by omega) (by omega) (by omega) (by omega) (by omega) (by omega) (by omega) (by omega) (by omega) pr5_4 h12 h13 h14 h15 (by omega) (by omega) (by omega) (by omega) (by omega) (by omega) (by omega) (by omega) (by omega) pr16_3 pr16_2 (by omega) (by omega) (SDr_m (SDr_x h29 pr5_5 (by decide)) pr16_4 (by decide)) (TRr_m (TRr_x h30 pr5_5 (by decide)) pr16_4 (by decide)) hP hD hS hl
set_option maxRecDepth 100000 in
set_option maxHeartbeats 4000000 in
theorem lc_25 {p : Program} {e : Env} {s : State} {m : MethodId} {below : List Frame} {meth : Method} {c : Code} (l : Launch) {b L : Nat} {xs : Nat → Int32} (C0 : lw_At p s m meth c b L xs) (hL : L ≤ 2560) {dC : Nat → ClassId} {dI : Nat → Nat → Nat} {cI cJ cII cJJ : ClassId} {g : Nat} {adx adm : Nat → Nat} {i : Int32} (hi0 : 0 ≤ i.toInt) (hi1 : i.toInt + 5 ≤ (L : Int)) (K : ∀ z : Int32, z.toInt = i.toInt + 5 → LPd p l e s m below meth c b dC dI cI cJ cII cJJ adx adm z) (hK : va_K (dC, dI) vwCl (TY cI cJ cII cJJ) s) (hX : GXA 1 g (AA s) s) : ∀ (f3_unknowns f3_equations f2_roundSupports f2_stale f7_size f1_size f5_keptSize f5_aheadSize f0_solved f4_blockCount f4_blockLength f4_lastIsFree f4_stale : Int32) (aix : Nat → Nat → Int32) (alx : Nat → Nat → Int64) (w0 w1 w2 w3 : Nat) (f9_size f9_equations f9_areSteps f9_foundMany f9_many f9_rank f9_freeMany f9_arePlans f9_planMany : Int32) (aim : Nat → Nat → Int32) (alm : Nat → Nat → Int64) (H : Heap) (locs : List Loc) (ls : Array Slot), (1 ≤ f3_unknowns.toInt ∧ f3_unknowns.toInt ≤ 4) → (0 ≤ f3_equations.toInt ∧ f3_equations.toInt ≤ 3) → (0 ≤ f2_stale.toInt ∧ f2_stale.toInt ≤ 1) → (0 ≤ f7_size.toInt ∧ f7_size.toInt ≤ 256) → (0 ≤ f1_size.toInt ∧ f1_size.toInt ≤ 4) → (0 ≤ f5_keptSize.toInt ∧ f5_keptSize.toInt ≤ 128) → (0 ≤ f5_aheadSize.toInt ∧ f5_aheadSize.toInt ≤ 128) → (0 ≤ f4_blockCount.toInt ∧ f4_blockCount.toInt ≤ 9261) → (0 ≤ f4_blockLength.toInt ∧ f4_blockLength.toInt ≤ 21) → (0 ≤ f4_lastIsFree.toInt ∧ f4_lastIsFree.toInt ≤ 1) → (0 ≤ f4_stale.toInt ∧ f4_stale.toInt ≤ 1) → IAX aix → RWX adx w0 → RWX adx w1 → RWX adx w2 → RWX adx w3 → (1 ≤ f9_size.toInt ∧ f9_size.toInt ≤ 4) → (0 ≤ f9_equations.toInt ∧ f9_equations.toInt ≤ 3) → (0 ≤ f9_areSteps.toInt ∧ f9_areSteps.toInt ≤ 1) → (0 ≤ f9_foundMany.toInt ∧ f9_foundMany.toInt ≤ 99999) → (0 ≤ f9_many.toInt ∧ f9_many.toInt ≤ 6000) → (0 ≤ f9_rank.toInt ∧ f9_rank.toInt ≤ 3) → (0 ≤ f9_freeMany.toInt ∧ f9_freeMany.toInt ≤ 4) → (0 ≤ f9_arePlans.toInt ∧ f9_arePlans.toInt ≤ 1) → (0 ≤ f9_planMany.toInt ∧ f9_planMany.toInt ≤ 194481) → IAM aim → (f9_areSteps.toInt = 0 ∨ CIa aim f9_size f9_many.toInt) → f3_unknowns.toInt = f9_size.toInt → f3_equations.toInt = f9_equations.toInt → SDr aix aim f3_equations.toInt → TRr aix aim → va_P (dC, dI) vwCl ((WX cI cJ cII cJJ adx f3_unknowns f3_equations f2_roundSupports f2_stale f7_size f1_size f5_keptSize f5_aheadSize f0_solved f4_blockCount f4_blockLength f4_lastIsFree f4_stale aix alx w0 w1 w2 w3) ++ (WM cI cJ cII cJJ adm f9_size f9_equations f9_areSteps f9_foundMany f9_many f9_rank f9_freeMany f9_arePlans f9_planMany aim alm)) H → va_D (AA s) ((WX cI cJ cII cJJ adx f3_unknowns f3_equations f2_roundSupports f2_stale f7_size f1_size f5_keptSize f5_aheadSize f0_solved f4_blockCount f4_blockLength f4_lastIsFree f4_stale aix alx w0 w1 w2 w3) ++ (WM cI cJ cII cJJ adm f9_size f9_equations f9_areSteps f9_foundMany f9_many f9_rank f9_freeMany f9_arePlans f9_planMany aim alm)) → va_S (AA s) s.heap H locs → lv_has ls 4 [(3, .int i), (2, .ref (adm 22)), (1, .ref (adx 0)), (0, .ref b)] → W p l e room_1 s m #[Value.ref b] below meth c H locs 600000 7302250 (lw_Z below #[Value.ref b] s) (F0 m 911 ls []) := by
  obtain ⟨hx, hb, hr, hml, hown, hts0, hX0, hbl, hlocks, hgv⟩ := id C0
  have hts : ∀ w ∈ TT, w.before #[Value.ref b] s = true := fun w h => hts0 w (TT_tbl h)
  have hA : ∀ q : Nat, s.heap.size ≤ q → AA s q := fun _ h => h
  have hbA : ¬ AA s b := Nat.not_le.mpr hbl
  have hown : s.vm.findClass RL = some m.cls := hown
  intro f3_unknowns f3_equations f2_roundSupports f2_stale f7_size f1_size f5_keptSize f5_aheadSize f0_solved f4_blockCount f4_blockLength f4_lastIsFree f4_stale aix alx w0 w1 w2 w3 f9_size f9_equations f9_areSteps f9_foundMany f9_many f9_rank f9_freeMany f9_arePlans f9_planMany aim alm H locs ls h0 h1 h2 h3 h4 h5 h6 h7 h8 h9 h10 h11 h12 h13 h14 h15 h16 h17 h18 h19 h20 h21 h22 h23 h24 h25 h26 h27 h28 h29 h30 hP hD hS hl
  refine lv_aload_n hx hb dL_law_911 rfl (lv_at hl 2 rfl) ?_
  refine lv_aload_n hx hb dL_law_912 rfl (lv_at hl 3 rfl) ?_
  refine lv_iload_n hx hb dL_law_913 rfl (lv_at hl 0 rfl) ?_
  refine lv_iconst (v := 1) hx hb dL_law_914 (by decide) ?_
  refine v_iadd hx hb dL_law_915 _ rfl ?_
  refine lv_topi (fun z1 e_z1 => ?_)
  have g_z1 : z1.toInt = i.toInt + 1 := by rw [e_z1]; exact n_add (a := i.toInt) (b := 1) rfl (by decide +kernel) (by omega) (by omega)
  refine va_sld hx hb hX0 hbl hbA hS (j_in (a := z1.toInt) rfl (by omega) (by omega)) dL_law_916 ?_
  refine lv_topi (fun y2 e_y2 => ?_)
  have hM := m128_X8_take l dC dI cI cJ cII cJJ H.size 0 adx f3_unknowns f3_equations f2_roundSupports f2_stale f7_size f1_size f5_keptSize f5_aheadSize f0_solved f4_blockCount f4_blockLength f4_lastIsFree f4_stale aix alx w0 w1 w2 w3 y2 (by omega) (by omega) (by omega) (by omega) (by omega) (by omega) (by omega) (by omega) (by omega) (by omega) (by omega) h11 h12 h13 h14 h15
  refine k3V_i (q0 := 0) ⟨hx, hb, hml, hown, hts⟩ hK hP hD hS hA hX cv_RL_122 [0, 1, 2, 3, 4, 5, 6, 7, 8, 9, 10, 11, 12, 13, 14, 15, 16, 17, 18, 19, 20, 21, 22, 23, 24, 25, 26, 27, 28, 29, 30, 31, 32, 33, 34, 35, 36, 37, 38, 39, 40, 41, 42, 43, 44, 45, 46, 47, 48, 49, 50, 51, 52, 53, 54, 55, 56, 57, 58, 59, 60, 61, 62, 63] [64, 65, 66, 67, 68, 69, 70, 71, 72, 73, 74, 75, 76, 77, 78, 79, 80, 81, 82, 83, 84, 85, 86, 87, 88, 89, 90, 91] (wr := (WM cI cJ cII cJJ adm f9_size f9_equations f9_areSteps f9_foundMany f9_many f9_rank f9_freeMany f9_arePlans f9_planMany aim alm)) rfl rfl rfl rfl (by decide) hM ⟨by decide +kernel, by decide +kernel⟩ rfl rfl (Or.inl rfl) (rest := []) rfl rfl rfl hl.1 rfl (Nat.le_of_ble_eq_true rfl) dL_law_917 ⟨Nat.le_of_ble_eq_true rfl, Nat.le_of_ble_eq_true rfl⟩ (fun r3 t H1 locs ht hB hj hS => ?_)
  obtain ⟨v5, v6, v7, v8, ai9, ⟨pr3_0, pr3_1, pr3_2, pr3_3, pr3_4, pr3_5⟩, hP1, -, hD1⟩ := hB
  rw [ht] at hP1
  obtain ⟨hP, hD⟩ := hj _ hP1 hD1
  clear ht hj hP1 hD1 hM
  generalize H1 = H4 at hP hS ⊢
  refine lv_pop hx hb dL_law_920 rfl ?_
  refine lv_aload_n hx hb dL_law_921 rfl (lv_at hl 1 rfl) ?_
  refine lv_aload_n hx hb dL_law_922 rfl (lv_at hl 3 rfl) ?_
  refine lv_iload_n hx hb dL_law_923 rfl (lv_at hl 0 rfl) ?_
  refine lv_iconst (v := 1) hx hb dL_law_924 (by decide) ?_
  refine v_iadd hx hb dL_law_925 _ rfl ?_
  refine lv_topi (fun z10 e_z10 => ?_)
  have g_z10 : z10.toInt = i.toInt + 1 := by rw [e_z10]; exact n_add (a := i.toInt) (b := 1) rfl (by decide +kernel) (by omega) (by omega)
  refine va_sld hx hb hX0 hbl hbA hS (j_in (a := z10.toInt) rfl (by omega) (by omega)) dL_law_926 ?_
  refine lv_topi (fun y11 e_y11 => ?_)
  have q_y11 : y2 = y11 := by rw [e_y2, e_y11, e_z1, e_z10]
  clear e_y11
  subst q_y11
  have hM := r067_X9_take l dC dI cI cJ cII cJJ H4.size 0 adm f9_size f9_equations f9_areSteps f9_foundMany f9_many f9_rank f9_freeMany f9_arePlans f9_planMany aim alm y2 (by omega) (by omega) (by omega) (by omega) (by omega) (by omega) (by omega) (by omega) (by omega) h26 h25
  refine k3V_i (q0 := 22) ⟨hx, hb, hml, hown, hts⟩ hK hP hD hS hA hX cv_RL_125 [0, 1, 2, 3, 4, 5, 6, 7, 8, 9, 10, 11, 12, 13, 14, 15, 16, 17, 18, 19, 20, 21, 22, 23, 24, 25, 26, 27] [28, 29, 30, 31, 32, 33, 34, 35, 36, 37, 38, 39, 40, 41, 42, 43, 44, 45, 46, 47, 48, 49, 50, 51, 52, 53, 54, 55, 56, 57, 58, 59, 60, 61, 62, 63, 64, 65, 66, 67, 68, 69, 70, 71, 72, 73, 74, 75, 76, 77, 78, 79, 80, 81, 82, 83, 84, 85, 86, 87, 88, 89, 90, 91] (wr := (WX cI cJ cII cJJ adx f3_unknowns f3_equations f2_roundSupports f2_stale f7_size f1_size f5_keptSize f5_aheadSize f0_solved v5 v6 v7 v8 ai9 alx w0 w1 w2 w3)) rfl rfl rfl rfl (by decide) hM ⟨by decide +kernel, by decide +kernel⟩ rfl rfl (Or.inl rfl) (rest := []) rfl rfl rfl hl.1 rfl (Nat.le_of_ble_eq_true rfl) dL_law_927 ⟨Nat.le_of_ble_eq_true rfl, Nat.le_of_ble_eq_true rfl⟩ (fun r12 t H1 locs ht hB hj hS => ?_)
  obtain ⟨v14, v15, ai16, ⟨pr12_0, pr12_1, pr12_2, pr12_3, pr12_4, pr12_5⟩, hP1, -, hD1⟩ := hB
  rw [ht] at hP1
  obtain ⟨hP, hD⟩ := hj _ hP1 hD1
  clear ht hj hP1 hD1 hM
  generalize H1 = H13 at hP hS ⊢
  refine lv_pop hx hb dL_law_930 rfl ?_
  refine lv_goto (tgt := 1072) hx hb dL_law_931 (by decide) ?_
  obtain ⟨z, e_z⟩ : ∃ q : Int32, q = i + Int32.ofInt 5 := ⟨_, rfl⟩
  have g_z : z.toInt = i.toInt + 5 := by rw [e_z]; exact n_add (a := i.toInt) (b := 5) rfl (by decide +kernel) (by omega) (by omega)
  refine lv_iinc (v := z) (lv' := [(3, .int z), (2, .ref (adm 22)), (1, .ref (adx 0)), (0, .ref b)]) hx hb dL_law_1072 hl (k := 0) rfl e_z.symm (by decide) rfl (fun ls hl => ?_)
  refine lv_goto (tgt := 18) hx hb dL_law_1075 (by decide) ?_
  exact K z g_z f3_unknowns f3_equations f2_roundSupports f2_stale f7_size f1_size f5_keptSize f5_aheadSize f0_solved v5 v6 v7 v8 ai9 alx w0 w1 w2 w3 f9_size f9_equations f9_areSteps f9_foundMany f9_many f9_rank f9_freeMany v14 v15 ai16 alm _ _ _ (by omega) (by omega) (by omega) (by omega) (by omega) (by omega) (by omega) (by omega) (by omega) (by omega) (by omega) pr3_4 h12 h13 h14 h15 (by omega) (by omega) (by omega) (by omega) (by omega) (by omega) (by omega) (by omega) (by omega) pr12_4 pr12_3 (by omega) (by omega) (SDr_m (SDr_x h29 pr3_5 (by decide)) pr12_5 (by decide)) (TRr_m (TRr_x h30 pr3_5 (by decide)) pr12_5 (by decide)) hP hD hS hl
set_option maxRecDepth 100000 in
set_option maxHeartbeats 4000000 in
theorem lc_26 {p : Program} {e : Env} {s : State} {m : MethodId} {below : List Frame} {meth : Method} {c : Code} (l : Launch) {b L : Nat} {xs : Nat → Int32} (C0 : lw_At p s m meth c b L xs) (hL : L ≤ 2560) {dC : Nat → ClassId} {dI : Nat → Nat → Nat} {cI cJ cII cJJ : ClassId} {g : Nat} {adx adm : Nat → Nat} {i : Int32} (hi0 : 0 ≤ i.toInt) (hi1 : i.toInt + 5 ≤ (L : Int)) (K : ∀ z : Int32, z.toInt = i.toInt + 5 → LPd p l e s m below meth c b dC dI cI cJ cII cJJ adx adm z) (hK : va_K (dC, dI) vwCl (TY cI cJ cII cJJ) s) (hX : GXA 1 g (AA s) s) : ∀ (f3_unknowns f3_equations f2_roundSupports f2_stale f7_size f1_size f5_keptSize f5_aheadSize f0_solved f4_blockCount f4_blockLength f4_lastIsFree f4_stale : Int32) (aix : Nat → Nat → Int32) (alx : Nat → Nat → Int64) (w0 w1 w2 w3 : Nat) (f9_size f9_equations f9_areSteps f9_foundMany f9_many f9_rank f9_freeMany f9_arePlans f9_planMany : Int32) (aim : Nat → Nat → Int32) (alm : Nat → Nat → Int64) (H : Heap) (locs : List Loc) (ls : Array Slot), (1 ≤ f3_unknowns.toInt ∧ f3_unknowns.toInt ≤ 4) → (0 ≤ f3_equations.toInt ∧ f3_equations.toInt ≤ 3) → (0 ≤ f2_stale.toInt ∧ f2_stale.toInt ≤ 1) → (0 ≤ f7_size.toInt ∧ f7_size.toInt ≤ 256) → (0 ≤ f1_size.toInt ∧ f1_size.toInt ≤ 4) → (0 ≤ f5_keptSize.toInt ∧ f5_keptSize.toInt ≤ 128) → (0 ≤ f5_aheadSize.toInt ∧ f5_aheadSize.toInt ≤ 128) → (0 ≤ f4_blockCount.toInt ∧ f4_blockCount.toInt ≤ 9261) → (0 ≤ f4_blockLength.toInt ∧ f4_blockLength.toInt ≤ 21) → (0 ≤ f4_lastIsFree.toInt ∧ f4_lastIsFree.toInt ≤ 1) → (0 ≤ f4_stale.toInt ∧ f4_stale.toInt ≤ 1) → IAX aix → RWX adx w0 → RWX adx w1 → RWX adx w2 → RWX adx w3 → (1 ≤ f9_size.toInt ∧ f9_size.toInt ≤ 4) → (0 ≤ f9_equations.toInt ∧ f9_equations.toInt ≤ 3) → (0 ≤ f9_areSteps.toInt ∧ f9_areSteps.toInt ≤ 1) → (0 ≤ f9_foundMany.toInt ∧ f9_foundMany.toInt ≤ 99999) → (0 ≤ f9_many.toInt ∧ f9_many.toInt ≤ 6000) → (0 ≤ f9_rank.toInt ∧ f9_rank.toInt ≤ 3) → (0 ≤ f9_freeMany.toInt ∧ f9_freeMany.toInt ≤ 4) → (0 ≤ f9_arePlans.toInt ∧ f9_arePlans.toInt ≤ 1) → (0 ≤ f9_planMany.toInt ∧ f9_planMany.toInt ≤ 194481) → IAM aim → (f9_areSteps.toInt = 0 ∨ CIa aim f9_size f9_many.toInt) → f3_unknowns.toInt = f9_size.toInt → f3_equations.toInt = f9_equations.toInt → SDr aix aim f3_equations.toInt → TRr aix aim → va_P (dC, dI) vwCl ((WX cI cJ cII cJJ adx f3_unknowns f3_equations f2_roundSupports f2_stale f7_size f1_size f5_keptSize f5_aheadSize f0_solved f4_blockCount f4_blockLength f4_lastIsFree f4_stale aix alx w0 w1 w2 w3) ++ (WM cI cJ cII cJJ adm f9_size f9_equations f9_areSteps f9_foundMany f9_many f9_rank f9_freeMany f9_arePlans f9_planMany aim alm)) H → va_D (AA s) ((WX cI cJ cII cJJ adx f3_unknowns f3_equations f2_roundSupports f2_stale f7_size f1_size f5_keptSize f5_aheadSize f0_solved f4_blockCount f4_blockLength f4_lastIsFree f4_stale aix alx w0 w1 w2 w3) ++ (WM cI cJ cII cJJ adm f9_size f9_equations f9_areSteps f9_foundMany f9_many f9_rank f9_freeMany f9_arePlans f9_planMany aim alm)) → va_S (AA s) s.heap H locs → lv_has ls 4 [(3, .int i), (2, .ref (adm 22)), (1, .ref (adx 0)), (0, .ref b)] → W p l e room_1 s m #[Value.ref b] below meth c H locs 600000 7302250 (lw_Z below #[Value.ref b] s) (F0 m 934 ls []) := by
  obtain ⟨hx, hb, hr, hml, hown, hts0, hX0, hbl, hlocks, hgv⟩ := id C0
  have hts : ∀ w ∈ TT, w.before #[Value.ref b] s = true := fun w h => hts0 w (TT_tbl h)
  have hA : ∀ q : Nat, s.heap.size ≤ q → AA s q := fun _ h => h
  have hbA : ¬ AA s b := Nat.not_le.mpr hbl
  have hown : s.vm.findClass RL = some m.cls := hown
  intro f3_unknowns f3_equations f2_roundSupports f2_stale f7_size f1_size f5_keptSize f5_aheadSize f0_solved f4_blockCount f4_blockLength f4_lastIsFree f4_stale aix alx w0 w1 w2 w3 f9_size f9_equations f9_areSteps f9_foundMany f9_many f9_rank f9_freeMany f9_arePlans f9_planMany aim alm H locs ls h0 h1 h2 h3 h4 h5 h6 h7 h8 h9 h10 h11 h12 h13 h14 h15 h16 h17 h18 h19 h20 h21 h22 h23 h24 h25 h26 h27 h28 h29 h30 hP hD hS hl
  refine lv_aload_n hx hb dL_law_934 rfl (lv_at hl 2 rfl) ?_
  refine lv_aload_n hx hb dL_law_935 rfl (lv_at hl 3 rfl) ?_
  refine lv_iload_n hx hb dL_law_936 rfl (lv_at hl 0 rfl) ?_
  refine lv_iconst (v := 1) hx hb dL_law_937 (by decide) ?_
  refine v_iadd hx hb dL_law_938 _ rfl ?_
  refine lv_topi (fun z1 e_z1 => ?_)
  have g_z1 : z1.toInt = i.toInt + 1 := by rw [e_z1]; exact n_add (a := i.toInt) (b := 1) rfl (by decide +kernel) (by omega) (by omega)
  refine va_sld hx hb hX0 hbl hbA hS (j_in (a := z1.toInt) rfl (by omega) (by omega)) dL_law_939 ?_
  refine lv_topi (fun y2 e_y2 => ?_)
  have hM := m129_X8_less l dC dI cI cJ cII cJJ H.size 0 adx f3_unknowns f3_equations f2_roundSupports f2_stale f7_size f1_size f5_keptSize f5_aheadSize f0_solved f4_blockCount f4_blockLength f4_lastIsFree f4_stale aix alx w0 w1 w2 w3 y2 (by omega) (by omega) (by omega) (by omega) (by omega) (by omega) (by omega) (by omega) (by omega) (by omega) (by omega) h11 h12 h13 h14 h15
  refine k3V_i (q0 := 0) ⟨hx, hb, hml, hown, hts⟩ hK hP hD hS hA hX cv_RL_126 [0, 1, 2, 3, 4, 5, 6, 7, 8, 9, 10, 11, 12, 13, 14, 15, 16, 17, 18, 19, 20, 21, 22, 23, 24, 25, 26, 27, 28, 29, 30, 31, 32, 33, 34, 35, 36, 37, 38, 39, 40, 41, 42, 43, 44, 45, 46, 47, 48, 49, 50, 51, 52, 53, 54, 55, 56, 57, 58, 59, 60, 61, 62, 63] [64, 65, 66, 67, 68, 69, 70, 71, 72, 73, 74, 75, 76, 77, 78, 79, 80, 81, 82, 83, 84, 85, 86, 87, 88, 89, 90, 91] (wr := (WM cI cJ cII cJJ adm f9_size f9_equations f9_areSteps f9_foundMany f9_many f9_rank f9_freeMany f9_arePlans f9_planMany aim alm)) rfl rfl rfl rfl (by decide) hM ⟨by decide +kernel, by decide +kernel⟩ rfl rfl (Or.inl rfl) (rest := []) rfl rfl rfl hl.1 rfl (Nat.le_of_ble_eq_true rfl) dL_law_940 ⟨Nat.le_of_ble_eq_true rfl, Nat.le_of_ble_eq_true rfl⟩ (fun r3 t H1 locs ht hB hj hS => ?_)
  obtain ⟨v5, v6, v7, v8, ai9, al10, ⟨pr3_0, pr3_1, pr3_2, pr3_3, pr3_4, pr3_5, pr3_6⟩, hP1, -, hD1⟩ := hB
  rw [ht] at hP1
  obtain ⟨hP, hD⟩ := hj _ hP1 hD1
  clear ht hj hP1 hD1 hM
  generalize H1 = H4 at hP hS ⊢
  refine lv_pop hx hb dL_law_943 rfl ?_
  refine lv_aload_n hx hb dL_law_944 rfl (lv_at hl 1 rfl) ?_
  refine lv_aload_n hx hb dL_law_945 rfl (lv_at hl 3 rfl) ?_
  refine lv_iload_n hx hb dL_law_946 rfl (lv_at hl 0 rfl) ?_
  refine lv_iconst (v := 1) hx hb dL_law_947 (by decide) ?_
  refine v_iadd hx hb dL_law_948 _ rfl ?_
  refine lv_topi (fun z11 e_z11 => ?_)
  have g_z11 : z11.toInt = i.toInt + 1 := by rw [e_z11]; exact n_add (a := i.toInt) (b := 1) rfl (by decide +kernel) (by omega) (by omega)
  refine va_sld hx hb hX0 hbl hbA hS (j_in (a := z11.toInt) rfl (by omega) (by omega)) dL_law_949 ?_
  refine lv_topi (fun y12 e_y12 => ?_)
  have q_y12 : y2 = y12 := by rw [e_y2, e_y12, e_z1, e_z11]
  clear e_y12
  subst q_y12
  have hM := r069_X9_less l dC dI cI cJ cII cJJ H4.size 0 adm f9_size f9_equations f9_areSteps f9_foundMany f9_many f9_rank f9_freeMany f9_arePlans f9_planMany aim alm y2 (by omega) (by omega) (by omega) (by omega) (by omega) (by omega) (by omega) (by omega) (by omega) h26 h25
  refine k3V_i (q0 := 22) ⟨hx, hb, hml, hown, hts⟩ hK hP hD hS hA hX cv_RL_129 [0, 1, 2, 3, 4, 5, 6, 7, 8, 9, 10, 11, 12, 13, 14, 15, 16, 17, 18, 19, 20, 21, 22, 23, 24, 25, 26, 27] [28, 29, 30, 31, 32, 33, 34, 35, 36, 37, 38, 39, 40, 41, 42, 43, 44, 45, 46, 47, 48, 49, 50, 51, 52, 53, 54, 55, 56, 57, 58, 59, 60, 61, 62, 63, 64, 65, 66, 67, 68, 69, 70, 71, 72, 73, 74, 75, 76, 77, 78, 79, 80, 81, 82, 83, 84, 85, 86, 87, 88, 89, 90, 91] (wr := (WX cI cJ cII cJJ adx f3_unknowns f3_equations f2_roundSupports f2_stale f7_size f1_size f5_keptSize f5_aheadSize f0_solved v5 v6 v7 v8 ai9 al10 w0 w1 w2 w3)) rfl rfl rfl rfl (by decide) hM ⟨by decide +kernel, by decide +kernel⟩ rfl rfl (Or.inl rfl) (rest := []) rfl rfl rfl hl.1 rfl (Nat.le_of_ble_eq_true rfl) dL_law_950 ⟨Nat.le_of_ble_eq_true rfl, Nat.le_of_ble_eq_true rfl⟩ (fun r13 t H1 locs ht hB hj hS => ?_)
  obtain ⟨v15, v16, ai17, ⟨pr13_0, pr13_1, pr13_2, pr13_3, pr13_4, pr13_5⟩, hP1, -, hD1⟩ := hB
  rw [ht] at hP1
  obtain ⟨hP, hD⟩ := hj _ hP1 hD1
  clear ht hj hP1 hD1 hM
  generalize H1 = H14 at hP hS ⊢
  refine lv_pop hx hb dL_law_953 rfl ?_
  refine lv_goto (tgt := 1072) hx hb dL_law_954 (by decide) ?_
  obtain ⟨z, e_z⟩ : ∃ q : Int32, q = i + Int32.ofInt 5 := ⟨_, rfl⟩
  have g_z : z.toInt = i.toInt + 5 := by rw [e_z]; exact n_add (a := i.toInt) (b := 5) rfl (by decide +kernel) (by omega) (by omega)
  refine lv_iinc (v := z) (lv' := [(3, .int z), (2, .ref (adm 22)), (1, .ref (adx 0)), (0, .ref b)]) hx hb dL_law_1072 hl (k := 0) rfl e_z.symm (by decide) rfl (fun ls hl => ?_)
  refine lv_goto (tgt := 18) hx hb dL_law_1075 (by decide) ?_
  exact K z g_z f3_unknowns f3_equations f2_roundSupports f2_stale f7_size f1_size f5_keptSize f5_aheadSize f0_solved v5 v6 v7 v8 ai9 al10 w0 w1 w2 w3 f9_size f9_equations f9_areSteps f9_foundMany f9_many f9_rank f9_freeMany v15 v16 ai17 alm _ _ _ (by omega) (by omega) (by omega) (by omega) (by omega) (by omega) (by omega) (by omega) (by omega) (by omega) (by omega) pr3_4 h12 h13 h14 h15 (by omega) (by omega) (by omega) (by omega) (by omega) (by omega) (by omega) (by omega) (by omega) pr13_4 pr13_3 (by omega) (by omega) (SDr_m (SDr_x h29 pr3_5 (by decide)) pr13_5 (by decide)) (TRr_m (TRr_x h30 pr3_5 (by decide)) pr13_5 (by decide)) hP hD hS hl
set_option maxRecDepth 100000 in
set_option maxHeartbeats 4000000 in
theorem lc_27 {p : Program} {e : Env} {s : State} {m : MethodId} {below : List Frame} {meth : Method} {c : Code} (l : Launch) {b L : Nat} {xs : Nat → Int32} (C0 : lw_At p s m meth c b L xs) (hL : L ≤ 2560) {dC : Nat → ClassId} {dI : Nat → Nat → Nat} {cI cJ cII cJJ : ClassId} {g : Nat} {adx adm : Nat → Nat} {i : Int32} (hi0 : 0 ≤ i.toInt) (hi1 : i.toInt + 5 ≤ (L : Int)) (K : ∀ z : Int32, z.toInt = i.toInt + 5 → LPd p l e s m below meth c b dC dI cI cJ cII cJJ adx adm z) (hK : va_K (dC, dI) vwCl (TY cI cJ cII cJJ) s) (hX : GXA 1 g (AA s) s) : ∀ (f3_unknowns f3_equations f2_roundSupports f2_stale f7_size f1_size f5_keptSize f5_aheadSize f0_solved f4_blockCount f4_blockLength f4_lastIsFree f4_stale : Int32) (aix : Nat → Nat → Int32) (alx : Nat → Nat → Int64) (w0 w1 w2 w3 : Nat) (f9_size f9_equations f9_areSteps f9_foundMany f9_many f9_rank f9_freeMany f9_arePlans f9_planMany : Int32) (aim : Nat → Nat → Int32) (alm : Nat → Nat → Int64) (H : Heap) (locs : List Loc) (ls : Array Slot), (1 ≤ f3_unknowns.toInt ∧ f3_unknowns.toInt ≤ 4) → (0 ≤ f3_equations.toInt ∧ f3_equations.toInt ≤ 3) → (0 ≤ f2_stale.toInt ∧ f2_stale.toInt ≤ 1) → (0 ≤ f7_size.toInt ∧ f7_size.toInt ≤ 256) → (0 ≤ f1_size.toInt ∧ f1_size.toInt ≤ 4) → (0 ≤ f5_keptSize.toInt ∧ f5_keptSize.toInt ≤ 128) → (0 ≤ f5_aheadSize.toInt ∧ f5_aheadSize.toInt ≤ 128) → (0 ≤ f4_blockCount.toInt ∧ f4_blockCount.toInt ≤ 9261) → (0 ≤ f4_blockLength.toInt ∧ f4_blockLength.toInt ≤ 21) → (0 ≤ f4_lastIsFree.toInt ∧ f4_lastIsFree.toInt ≤ 1) → (0 ≤ f4_stale.toInt ∧ f4_stale.toInt ≤ 1) → IAX aix → RWX adx w0 → RWX adx w1 → RWX adx w2 → RWX adx w3 → (1 ≤ f9_size.toInt ∧ f9_size.toInt ≤ 4) → (0 ≤ f9_equations.toInt ∧ f9_equations.toInt ≤ 3) → (0 ≤ f9_areSteps.toInt ∧ f9_areSteps.toInt ≤ 1) → (0 ≤ f9_foundMany.toInt ∧ f9_foundMany.toInt ≤ 99999) → (0 ≤ f9_many.toInt ∧ f9_many.toInt ≤ 6000) → (0 ≤ f9_rank.toInt ∧ f9_rank.toInt ≤ 3) → (0 ≤ f9_freeMany.toInt ∧ f9_freeMany.toInt ≤ 4) → (0 ≤ f9_arePlans.toInt ∧ f9_arePlans.toInt ≤ 1) → (0 ≤ f9_planMany.toInt ∧ f9_planMany.toInt ≤ 194481) → IAM aim → (f9_areSteps.toInt = 0 ∨ CIa aim f9_size f9_many.toInt) → f3_unknowns.toInt = f9_size.toInt → f3_equations.toInt = f9_equations.toInt → SDr aix aim f3_equations.toInt → TRr aix aim → va_P (dC, dI) vwCl ((WX cI cJ cII cJJ adx f3_unknowns f3_equations f2_roundSupports f2_stale f7_size f1_size f5_keptSize f5_aheadSize f0_solved f4_blockCount f4_blockLength f4_lastIsFree f4_stale aix alx w0 w1 w2 w3) ++ (WM cI cJ cII cJJ adm f9_size f9_equations f9_areSteps f9_foundMany f9_many f9_rank f9_freeMany f9_arePlans f9_planMany aim alm)) H → va_D (AA s) ((WX cI cJ cII cJJ adx f3_unknowns f3_equations f2_roundSupports f2_stale f7_size f1_size f5_keptSize f5_aheadSize f0_solved f4_blockCount f4_blockLength f4_lastIsFree f4_stale aix alx w0 w1 w2 w3) ++ (WM cI cJ cII cJJ adm f9_size f9_equations f9_areSteps f9_foundMany f9_many f9_rank f9_freeMany f9_arePlans f9_planMany aim alm)) → va_S (AA s) s.heap H locs → lv_has ls 4 [(3, .int i), (2, .ref (adm 22)), (1, .ref (adx 0)), (0, .ref b)] → W p l e room_1 s m #[Value.ref b] below meth c H locs 600000 7302250 (lw_Z below #[Value.ref b] s) (F0 m 957 ls []) := by
  obtain ⟨hx, hb, hr, hml, hown, hts0, hX0, hbl, hlocks, hgv⟩ := id C0
  have hts : ∀ w ∈ TT, w.before #[Value.ref b] s = true := fun w h => hts0 w (TT_tbl h)
  have hA : ∀ q : Nat, s.heap.size ≤ q → AA s q := fun _ h => h
  have hbA : ¬ AA s b := Nat.not_le.mpr hbl
  have hown : s.vm.findClass RL = some m.cls := hown
  intro f3_unknowns f3_equations f2_roundSupports f2_stale f7_size f1_size f5_keptSize f5_aheadSize f0_solved f4_blockCount f4_blockLength f4_lastIsFree f4_stale aix alx w0 w1 w2 w3 f9_size f9_equations f9_areSteps f9_foundMany f9_many f9_rank f9_freeMany f9_arePlans f9_planMany aim alm H locs ls h0 h1 h2 h3 h4 h5 h6 h7 h8 h9 h10 h11 h12 h13 h14 h15 h16 h17 h18 h19 h20 h21 h22 h23 h24 h25 h26 h27 h28 h29 h30 hP hD hS hl
  refine lv_aload_n hx hb dL_law_957 rfl (lv_at hl 2 rfl) ?_
  have hM := m123_X8_find l dC dI cI cJ cII cJJ H.size 0 adx f3_unknowns f3_equations f2_roundSupports f2_stale f7_size f1_size f5_keptSize f5_aheadSize f0_solved f4_blockCount f4_blockLength f4_lastIsFree f4_stale aix alx w0 w1 w2 w3 (by omega) (by omega) (by omega) (by omega) (by omega) (by omega) (by omega) (by omega) (by omega) (by omega) (by omega) h11 h12 h13 h14 h15
  refine k3V_i (q0 := 0) ⟨hx, hb, hml, hown, hts⟩ hK hP hD hS hA hX cv_RL_130 [0, 1, 2, 3, 4, 5, 6, 7, 8, 9, 10, 11, 12, 13, 14, 15, 16, 17, 18, 19, 20, 21, 22, 23, 24, 25, 26, 27, 28, 29, 30, 31, 32, 33, 34, 35, 36, 37, 38, 39, 40, 41, 42, 43, 44, 45, 46, 47, 48, 49, 50, 51, 52, 53, 54, 55, 56, 57, 58, 59, 60, 61, 62, 63] [64, 65, 66, 67, 68, 69, 70, 71, 72, 73, 74, 75, 76, 77, 78, 79, 80, 81, 82, 83, 84, 85, 86, 87, 88, 89, 90, 91] (wr := (WM cI cJ cII cJJ adm f9_size f9_equations f9_areSteps f9_foundMany f9_many f9_rank f9_freeMany f9_arePlans f9_planMany aim alm)) rfl rfl rfl rfl (by decide) hM ⟨by decide +kernel, by decide +kernel⟩ rfl rfl (Or.inl rfl) (rest := []) rfl rfl rfl hl.1 rfl (Nat.le_of_ble_eq_true rfl) dL_law_958 ⟨Nat.le_of_ble_eq_true rfl, Nat.le_of_ble_eq_true rfl⟩ (fun r1 t H1 locs ht hB hj hS => ?_)
  obtain ⟨v3, v4, v5, v6, ai7, ⟨pr1_0, pr1_1, pr1_2, pr1_3, pr1_4, pr1_5⟩, hP1, -, hD1⟩ := hB
  rw [ht] at hP1
  obtain ⟨hP, hD⟩ := hj _ hP1 hD1
  clear ht hj hP1 hD1 hM
  generalize H1 = H2 at hP hS ⊢
  refine lv_pop hx hb dL_law_961 rfl ?_
  refine lv_aload_n hx hb dL_law_962 rfl (lv_at hl 1 rfl) ?_
  have hM := r070_X9_find l dC dI cI cJ cII cJJ H2.size 0 adm f9_size f9_equations f9_areSteps f9_foundMany f9_many f9_rank f9_freeMany f9_arePlans f9_planMany aim alm (by omega) (by omega) (by omega) (by omega) (by omega) (by omega) (by omega) (by omega) (by omega) h26 h25
  refine k3V_i (q0 := 22) ⟨hx, hb, hml, hown, hts⟩ hK hP hD hS hA hX cv_RL_133 [0, 1, 2, 3, 4, 5, 6, 7, 8, 9, 10, 11, 12, 13, 14, 15, 16, 17, 18, 19, 20, 21, 22, 23, 24, 25, 26, 27] [28, 29, 30, 31, 32, 33, 34, 35, 36, 37, 38, 39, 40, 41, 42, 43, 44, 45, 46, 47, 48, 49, 50, 51, 52, 53, 54, 55, 56, 57, 58, 59, 60, 61, 62, 63, 64, 65, 66, 67, 68, 69, 70, 71, 72, 73, 74, 75, 76, 77, 78, 79, 80, 81, 82, 83, 84, 85, 86, 87, 88, 89, 90, 91] (wr := (WX cI cJ cII cJJ adx f3_unknowns f3_equations f2_roundSupports f2_stale f7_size f1_size f5_keptSize f5_aheadSize f0_solved v3 v4 v5 v6 ai7 alx w0 w1 w2 w3)) rfl rfl rfl rfl (by decide) hM ⟨by decide +kernel, by decide +kernel⟩ rfl rfl (Or.inl rfl) (rest := []) rfl rfl rfl hl.1 rfl (Nat.le_of_ble_eq_true rfl) dL_law_963 ⟨Nat.le_of_ble_eq_true rfl, Nat.le_of_ble_eq_true rfl⟩ (fun r8 t H1 locs ht hB hj hS => ?_)
  obtain ⟨v10, v11, ai12, ⟨pr8_0, pr8_1, pr8_2, pr8_3, pr8_4, pr8_5⟩, hP1, -, hD1⟩ := hB
  rw [ht] at hP1
  obtain ⟨hP, hD⟩ := hj _ hP1 hD1
  clear ht hj hP1 hD1 hM
  generalize H1 = H9 at hP hS ⊢
  refine lv_pop hx hb dL_law_966 rfl ?_
  refine lv_goto (tgt := 1072) hx hb dL_law_967 (by decide) ?_
  obtain ⟨z, e_z⟩ : ∃ q : Int32, q = i + Int32.ofInt 5 := ⟨_, rfl⟩
  have g_z : z.toInt = i.toInt + 5 := by rw [e_z]; exact n_add (a := i.toInt) (b := 5) rfl (by decide +kernel) (by omega) (by omega)
  refine lv_iinc (v := z) (lv' := [(3, .int z), (2, .ref (adm 22)), (1, .ref (adx 0)), (0, .ref b)]) hx hb dL_law_1072 hl (k := 0) rfl e_z.symm (by decide) rfl (fun ls hl => ?_)
  refine lv_goto (tgt := 18) hx hb dL_law_1075 (by decide) ?_
  exact K z g_z f3_unknowns f3_equations f2_roundSupports f2_stale f7_size f1_size f5_keptSize f5_aheadSize f0_solved v3 v4 v5 v6 ai7 alx w0 w1 w2 w3 f9_size f9_equations f9_areSteps f9_foundMany f9_many f9_rank f9_freeMany v10 v11 ai12 alm _ _ _ (by omega) (by omega) (by omega) (by omega) (by omega) (by omega) (by omega) (by omega) (by omega) (by omega) (by omega) pr1_4 h12 h13 h14 h15 (by omega) (by omega) (by omega) (by omega) (by omega) (by omega) (by omega) (by omega) (by omega) pr8_4 pr8_3 (by omega) (by omega) (SDr_m (SDr_x h29 pr1_5 (by decide)) pr8_5 (by decide)) (TRr_m (TRr_x h30 pr1_5 (by decide)) pr8_5 (by decide)) hP hD hS hl
set_option maxRecDepth 100000 in
set_option maxHeartbeats 4000000 in
theorem lc_28 {p : Program} {e : Env} {s : State} {m : MethodId} {below : List Frame} {meth : Method} {c : Code} (l : Launch) {b L : Nat} {xs : Nat → Int32} (C0 : lw_At p s m meth c b L xs) (hL : L ≤ 2560) {dC : Nat → ClassId} {dI : Nat → Nat → Nat} {cI cJ cII cJJ : ClassId} {g : Nat} {adx adm : Nat → Nat} {i : Int32} (hi0 : 0 ≤ i.toInt) (hi1 : i.toInt + 5 ≤ (L : Int)) (K : ∀ z : Int32, z.toInt = i.toInt + 5 → LPd p l e s m below meth c b dC dI cI cJ cII cJJ adx adm z) (hK : va_K (dC, dI) vwCl (TY cI cJ cII cJJ) s) (hX : GXA 1 g (AA s) s) : ∀ (f3_unknowns f3_equations f2_roundSupports f2_stale f7_size f1_size f5_keptSize f5_aheadSize f0_solved f4_blockCount f4_blockLength f4_lastIsFree f4_stale : Int32) (aix : Nat → Nat → Int32) (alx : Nat → Nat → Int64) (w0 w1 w2 w3 : Nat) (f9_size f9_equations f9_areSteps f9_foundMany f9_many f9_rank f9_freeMany f9_arePlans f9_planMany : Int32) (aim : Nat → Nat → Int32) (alm : Nat → Nat → Int64) (H : Heap) (locs : List Loc) (ls : Array Slot), (1 ≤ f3_unknowns.toInt ∧ f3_unknowns.toInt ≤ 4) → (0 ≤ f3_equations.toInt ∧ f3_equations.toInt ≤ 3) → (0 ≤ f2_stale.toInt ∧ f2_stale.toInt ≤ 1) → (0 ≤ f7_size.toInt ∧ f7_size.toInt ≤ 256) → (0 ≤ f1_size.toInt ∧ f1_size.toInt ≤ 4) → (0 ≤ f5_keptSize.toInt ∧ f5_keptSize.toInt ≤ 128) → (0 ≤ f5_aheadSize.toInt ∧ f5_aheadSize.toInt ≤ 128) → (0 ≤ f4_blockCount.toInt ∧ f4_blockCount.toInt ≤ 9261) → (0 ≤ f4_blockLength.toInt ∧ f4_blockLength.toInt ≤ 21) → (0 ≤ f4_lastIsFree.toInt ∧ f4_lastIsFree.toInt ≤ 1) → (0 ≤ f4_stale.toInt ∧ f4_stale.toInt ≤ 1) → IAX aix → RWX adx w0 → RWX adx w1 → RWX adx w2 → RWX adx w3 → (1 ≤ f9_size.toInt ∧ f9_size.toInt ≤ 4) → (0 ≤ f9_equations.toInt ∧ f9_equations.toInt ≤ 3) → (0 ≤ f9_areSteps.toInt ∧ f9_areSteps.toInt ≤ 1) → (0 ≤ f9_foundMany.toInt ∧ f9_foundMany.toInt ≤ 99999) → (0 ≤ f9_many.toInt ∧ f9_many.toInt ≤ 6000) → (0 ≤ f9_rank.toInt ∧ f9_rank.toInt ≤ 3) → (0 ≤ f9_freeMany.toInt ∧ f9_freeMany.toInt ≤ 4) → (0 ≤ f9_arePlans.toInt ∧ f9_arePlans.toInt ≤ 1) → (0 ≤ f9_planMany.toInt ∧ f9_planMany.toInt ≤ 194481) → IAM aim → (f9_areSteps.toInt = 0 ∨ CIa aim f9_size f9_many.toInt) → f3_unknowns.toInt = f9_size.toInt → f3_equations.toInt = f9_equations.toInt → SDr aix aim f3_equations.toInt → TRr aix aim → va_P (dC, dI) vwCl ((WX cI cJ cII cJJ adx f3_unknowns f3_equations f2_roundSupports f2_stale f7_size f1_size f5_keptSize f5_aheadSize f0_solved f4_blockCount f4_blockLength f4_lastIsFree f4_stale aix alx w0 w1 w2 w3) ++ (WM cI cJ cII cJJ adm f9_size f9_equations f9_areSteps f9_foundMany f9_many f9_rank f9_freeMany f9_arePlans f9_planMany aim alm)) H → va_D (AA s) ((WX cI cJ cII cJJ adx f3_unknowns f3_equations f2_roundSupports f2_stale f7_size f1_size f5_keptSize f5_aheadSize f0_solved f4_blockCount f4_blockLength f4_lastIsFree f4_stale aix alx w0 w1 w2 w3) ++ (WM cI cJ cII cJJ adm f9_size f9_equations f9_areSteps f9_foundMany f9_many f9_rank f9_freeMany f9_arePlans f9_planMany aim alm)) → va_S (AA s) s.heap H locs → lv_has ls 4 [(3, .int i), (2, .ref (adm 22)), (1, .ref (adx 0)), (0, .ref b)] → W p l e room_1 s m #[Value.ref b] below meth c H locs 600000 7302250 (lw_Z below #[Value.ref b] s) (F0 m 970 ls []) := by
  obtain ⟨hx, hb, hr, hml, hown, hts0, hX0, hbl, hlocks, hgv⟩ := id C0
  have hts : ∀ w ∈ TT, w.before #[Value.ref b] s = true := fun w h => hts0 w (TT_tbl h)
  have hA : ∀ q : Nat, s.heap.size ≤ q → AA s q := fun _ h => h
  have hbA : ¬ AA s b := Nat.not_le.mpr hbl
  have hown : s.vm.findClass RL = some m.cls := hown
  intro f3_unknowns f3_equations f2_roundSupports f2_stale f7_size f1_size f5_keptSize f5_aheadSize f0_solved f4_blockCount f4_blockLength f4_lastIsFree f4_stale aix alx w0 w1 w2 w3 f9_size f9_equations f9_areSteps f9_foundMany f9_many f9_rank f9_freeMany f9_arePlans f9_planMany aim alm H locs ls h0 h1 h2 h3 h4 h5 h6 h7 h8 h9 h10 h11 h12 h13 h14 h15 h16 h17 h18 h19 h20 h21 h22 h23 h24 h25 h26 h27 h28 h29 h30 hP hD hS hl
  refine lv_aload_n hx hb dL_law_970 rfl (lv_at hl 2 rfl) ?_
  refine lv_aload_n hx hb dL_law_971 rfl (lv_at hl 3 rfl) ?_
  refine lv_iload_n hx hb dL_law_972 rfl (lv_at hl 0 rfl) ?_
  refine lv_iconst (v := 1) hx hb dL_law_973 (by decide) ?_
  refine v_iadd hx hb dL_law_974 _ rfl ?_
  refine lv_topi (fun z1 e_z1 => ?_)
  have g_z1 : z1.toInt = i.toInt + 1 := by rw [e_z1]; exact n_add (a := i.toInt) (b := 1) rfl (by decide +kernel) (by omega) (by omega)
  refine va_sld hx hb hX0 hbl hbA hS (j_in (a := z1.toInt) rfl (by omega) (by omega)) dL_law_975 ?_
  refine lv_topi (fun y2 e_y2 => ?_)
  refine lv_aload_n hx hb dL_law_976 rfl (lv_at hl 3 rfl) ?_
  refine lv_iload_n hx hb dL_law_977 rfl (lv_at hl 0 rfl) ?_
  refine lv_iconst (v := 2) hx hb dL_law_978 (by decide) ?_
  refine v_iadd hx hb dL_law_979 _ rfl ?_
  refine lv_topi (fun z3 e_z3 => ?_)
  have g_z3 : z3.toInt = i.toInt + 2 := by rw [e_z3]; exact n_add (a := i.toInt) (b := 2) rfl (by decide +kernel) (by omega) (by omega)
  refine va_sld hx hb hX0 hbl hbA hS (j_in (a := z3.toInt) rfl (by omega) (by omega)) dL_law_980 ?_
  refine lv_topi (fun y4 e_y4 => ?_)
  have hM := m130_X8_span l dC dI cI cJ cII cJJ H.size 0 adx f3_unknowns f3_equations f2_roundSupports f2_stale f7_size f1_size f5_keptSize f5_aheadSize f0_solved f4_blockCount f4_blockLength f4_lastIsFree f4_stale aix alx w0 w1 w2 w3 y2 y4 (by omega) (by omega) (by omega) (by omega) (by omega) (by omega) (by omega) (by omega) (by omega) (by omega) (by omega) h11 h12 h13 h14 h15
  refine k3V_i (q0 := 0) ⟨hx, hb, hml, hown, hts⟩ hK hP hD hS hA hX cv_RL_134 [0, 1, 2, 3, 4, 5, 6, 7, 8, 9, 10, 11, 12, 13, 14, 15, 16, 17, 18, 19, 20, 21, 22, 23, 24, 25, 26, 27, 28, 29, 30, 31, 32, 33, 34, 35, 36, 37, 38, 39, 40, 41, 42, 43, 44, 45, 46, 47, 48, 49, 50, 51, 52, 53, 54, 55, 56, 57, 58, 59, 60, 61, 62, 63] [64, 65, 66, 67, 68, 69, 70, 71, 72, 73, 74, 75, 76, 77, 78, 79, 80, 81, 82, 83, 84, 85, 86, 87, 88, 89, 90, 91] (wr := (WM cI cJ cII cJJ adm f9_size f9_equations f9_areSteps f9_foundMany f9_many f9_rank f9_freeMany f9_arePlans f9_planMany aim alm)) rfl rfl rfl rfl (by decide) hM ⟨by decide +kernel, by decide +kernel⟩ rfl rfl (Or.inl rfl) (rest := []) rfl rfl rfl hl.1 rfl (Nat.le_of_ble_eq_true rfl) dL_law_981 ⟨Nat.le_of_ble_eq_true rfl, Nat.le_of_ble_eq_true rfl⟩ (fun r5 t H1 locs ht hB hj hS => ?_)
  obtain ⟨v7, v8, v9, v10, ai11, ⟨pr5_0, pr5_1, pr5_2, pr5_3, pr5_4, pr5_5⟩, hP1, -, hD1⟩ := hB
  rw [ht] at hP1
  obtain ⟨hP, hD⟩ := hj _ hP1 hD1
  clear ht hj hP1 hD1 hM
  generalize H1 = H6 at hP hS ⊢
  refine lv_pop hx hb dL_law_984 rfl ?_
  refine lv_aload_n hx hb dL_law_985 rfl (lv_at hl 1 rfl) ?_
  refine lv_aload_n hx hb dL_law_986 rfl (lv_at hl 3 rfl) ?_
  refine lv_iload_n hx hb dL_law_987 rfl (lv_at hl 0 rfl) ?_
  refine lv_iconst (v := 1) hx hb dL_law_988 (by decide) ?_
  refine v_iadd hx hb dL_law_989 _ rfl ?_
  refine lv_topi (fun z12 e_z12 => ?_)
  have g_z12 : z12.toInt = i.toInt + 1 := by rw [e_z12]; exact n_add (a := i.toInt) (b := 1) rfl (by decide +kernel) (by omega) (by omega)
  refine va_sld hx hb hX0 hbl hbA hS (j_in (a := z12.toInt) rfl (by omega) (by omega)) dL_law_990 ?_
  refine lv_topi (fun y13 e_y13 => ?_)
  have q_y13 : y2 = y13 := by rw [e_y2, e_y13, e_z1, e_z12]
  clear e_y13
  subst q_y13
  refine lv_aload_n hx hb dL_law_991 rfl (lv_at hl 3 rfl) ?_
  refine lv_iload_n hx hb dL_law_992 rfl (lv_at hl 0 rfl) ?_
  refine lv_iconst (v := 2) hx hb dL_law_993 (by decide) ?_
  refine v_iadd hx hb dL_law_994 _ rfl ?_
  refine lv_topi (fun z14 e_z14 => ?_)
  have g_z14 : z14.toInt = i.toInt + 2 := by rw [e_z14]; exact n_add (a := i.toInt) (b := 2) rfl (by decide +kernel) (by omega) (by omega)
  refine va_sld hx hb hX0 hbl hbA hS (j_in (a := z14.toInt) rfl (by omega) (by omega)) dL_law_995 ?_
  refine lv_topi (fun y15 e_y15 => ?_)
  have q_y15 : y4 = y15 := by rw [e_y4, e_y15, e_z3, e_z14]
  clear e_y15
  subst q_y15
  have hM := r071_X9_span l dC dI cI cJ cII cJJ H6.size 0 adm f9_size f9_equations f9_areSteps f9_foundMany f9_many f9_rank f9_freeMany f9_arePlans f9_planMany aim alm y2 y4 (by omega) (by omega) (by omega) (by omega) (by omega) (by omega) (by omega) (by omega) (by omega) h26 h25
  refine k3V_i (q0 := 22) ⟨hx, hb, hml, hown, hts⟩ hK hP hD hS hA hX cv_RL_137 [0, 1, 2, 3, 4, 5, 6, 7, 8, 9, 10, 11, 12, 13, 14, 15, 16, 17, 18, 19, 20, 21, 22, 23, 24, 25, 26, 27] [28, 29, 30, 31, 32, 33, 34, 35, 36, 37, 38, 39, 40, 41, 42, 43, 44, 45, 46, 47, 48, 49, 50, 51, 52, 53, 54, 55, 56, 57, 58, 59, 60, 61, 62, 63, 64, 65, 66, 67, 68, 69, 70, 71, 72, 73, 74, 75, 76, 77, 78, 79, 80, 81, 82, 83, 84, 85, 86, 87, 88, 89, 90, 91] (wr := (WX cI cJ cII cJJ adx f3_unknowns f3_equations f2_roundSupports f2_stale f7_size f1_size f5_keptSize f5_aheadSize f0_solved v7 v8 v9 v10 ai11 alx w0 w1 w2 w3)) rfl rfl rfl rfl (by decide) hM ⟨by decide +kernel, by decide +kernel⟩ rfl rfl (Or.inl rfl) (rest := []) rfl rfl rfl hl.1 rfl (Nat.le_of_ble_eq_true rfl) dL_law_996 ⟨Nat.le_of_ble_eq_true rfl, Nat.le_of_ble_eq_true rfl⟩ (fun r16 t H1 locs ht hB hj hS => ?_)
  obtain ⟨v18, v19, ai20, ⟨pr16_0, pr16_1, pr16_2, pr16_3, pr16_4⟩, hP1, -, hD1⟩ := hB
  rw [ht] at hP1
  obtain ⟨hP, hD⟩ := hj _ hP1 hD1
  clear ht hj hP1 hD1 hM
  generalize H1 = H17 at hP hS ⊢
  refine lv_pop hx hb dL_law_999 rfl ?_
  refine lv_goto (tgt := 1072) hx hb dL_law_1000 (by decide) ?_
  obtain ⟨z, e_z⟩ : ∃ q : Int32, q = i + Int32.ofInt 5 := ⟨_, rfl⟩
  have g_z : z.toInt = i.toInt + 5 := by rw [e_z]; exact n_add (a := i.toInt) (b := 5) rfl (by decide +kernel) (by omega) (by omega)
  refine lv_iinc (v := z) (lv' := [(3, .int z), (2, .ref (adm 22)), (1, .ref (adx 0)), (0, .ref b)]) hx hb dL_law_1072 hl (k := 0) rfl e_z.symm (by decide) rfl (fun ls hl => ?_)
  refine lv_goto (tgt := 18) hx hb dL_law_1075 (by decide) ?_
  exact K z g_z f3_unknowns f3_equations f2_roundSupports f2_stale f7_size f1_size f5_keptSize f5_aheadSize f0_solved v7 v8 v9 v10 ai11 alx w0 w1 w2 w3 f9_size f9_equations f9_areSteps f9_foundMany f9_many f9_rank f9_freeMany v18 v19 ai20 alm _ _ _ (by omega) (by omega) (by omega) (by omega) (by omega) (by omega) (by omega) (by omega) (by omega) (by omega) (by omega) pr5_4 h12 h13 h14 h15 (by omega) (by omega) (by omega) (by omega) (by omega) (by omega) (by omega) (by omega) (by omega) pr16_3 pr16_2 (by omega) (by omega) (SDr_m (SDr_x h29 pr5_5 (by decide)) pr16_4 (by decide)) (TRr_m (TRr_x h30 pr5_5 (by decide)) pr16_4 (by decide)) hP hD hS hl
