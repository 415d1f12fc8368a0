set_option maxRecDepth 100000 in
set_option maxHeartbeats 4000000 in
theorem lr_20 {p : Program} {e : Env} {s : State} {m : MethodId} {below : List Frame} {meth : Method} {c : Code} (l : Launch) {b L : Nat} {xs : Nat → Int32} (C0 : lw_At p s m meth c b L xs) (hL : L = 5) {dC : Nat → ClassId} {dI : Nat → Nat → Nat} {cI cJ cII cJJ : ClassId} {g qx qm : Nat} {u v : Nat → Nat} {H : Heap} {locs : List Loc} {ls : Array Slot} (e_y0 : xs 1 = 0) (y1 : Int32) (h_y1 : -99 ≤ y1.toInt ∧ y1.toInt ≤ 99) (e_y1 : xs 2 = y1) (y2 : Int32) (h_y2 : 100 ≤ y2.toInt ∧ y2.toInt ≤ 2147483647) (e_y2 : xs 3 = y2) (hK : va_K (dC, dI) vwCl (TY cI cJ cII cJJ) s) (hX : GXA 1 g (AA s) s) (hP : va_P (dC, dI) vwCl (WLD cI cJ cII cJJ qx qm u v) H) (hD : va_D (AA s) (WLD cI cJ cII cJJ qx qm u v)) (hS : va_S (AA s) s.heap H locs) (hl : lv_has ls 4 [(3, .int 0), (2, .ref qm), (1, .ref qx), (0, .ref b)]) : W p l e room_1 s m #[Value.ref b] below meth c H locs 600000 7302250 (lw_Z below #[Value.ref b] s) (F0 m 331 ls []) := by
  obtain ⟨hx, hb, hr, hml, hown, hts0, hX0, hbl, hlocks, hgv⟩ := id C0
  have hts : ∀ w ∈ TT, w.before #[Value.ref b] s = true := fun w h => hts0 w (TT_tbl h)
  have hA : ∀ q : Nat, s.heap.size ≤ q → AA s q := fun _ h => h
  have hbA : ¬ AA s b := Nat.not_le.mpr hbl
  have hown : s.vm.findClass RL = some m.cls := hown
  subst hL
  refine lv_aload_n hx hb dL_law_331 rfl (lv_at hl 2 rfl) ?_
  refine lv_aload_n hx hb dL_law_332 rfl (lv_at hl 3 rfl) ?_
  refine lv_iload_n hx hb dL_law_333 rfl (lv_at hl 0 rfl) ?_
  refine lv_iconst (v := 1) hx hb dL_law_334 (by decide) ?_
  refine v_iadd hx hb dL_law_335 1 (by decide +kernel) ?_
  refine va_sld hx hb hX0 hbl hbA hS (vin (by decide +kernel)) dL_law_336 ?_
  refine tvi (v := 0) e_y0 ?_
  refine lv_aload_n hx hb dL_law_337 rfl (lv_at hl 3 rfl) ?_
  refine lv_iload_n hx hb dL_law_338 rfl (lv_at hl 0 rfl) ?_
  refine lv_iconst (v := 2) hx hb dL_law_339 (by decide) ?_
  refine v_iadd hx hb dL_law_340 2 (by decide +kernel) ?_
  refine va_sld hx hb hX0 hbl hbA hS (vin (by decide +kernel)) dL_law_341 ?_
  refine tvi (v := y1) e_y1 ?_
  refine lv_aload_n hx hb dL_law_342 rfl (lv_at hl 3 rfl) ?_
  refine lv_iload_n hx hb dL_law_343 rfl (lv_at hl 0 rfl) ?_
  refine lv_iconst (v := 3) hx hb dL_law_344 (by decide) ?_
  refine v_iadd hx hb dL_law_345 3 (by decide +kernel) ?_
  refine va_sld hx hb hX0 hbl hbA hS (vin (by decide +kernel)) dL_law_346 ?_
  refine tvi (v := y2) e_y2 ?_
  refine kV_i (q0 := 0) ⟨hx, hb, hml, hown, hts⟩ hK hP hD hS hA hX cv_RL_37 [0, 6, 63] [86, 66] (wr := [(qm, .inr (9, [.ref (v 0), .ref (v 1), .ref (v 2), .ref (v 3), .ref (v 4), .ref (v 5), .ref (v 6), .ref (v 7), .ref (v 8), .ref (v 9), .ref (v 10), .ref (v 11), .int 1, .int 0, .int 0, .ref (v 12), .ref (v 13), .ref (v 14), .ref (v 15), .ref (v 16), .ref (v 17), .int 0, .int 0, .ref (v 18), .ref (v 19), .ref (v 20), .ref (v 21), .int 0, .int 0, .ref (v 22), .ref (v 23), .ref (v 24), .ref (v 25), .int 0, .ref (v 26), .int 0])), ((v 7), .inl (cI, 8, .inl (tb [])))]) rfl rfl rfl rfl (by decide) (c047_X8_price l dC dI cI cJ cII cJJ H.size 0 qx (u 0) (u 62) (u 10) (u 28) (u 51) (u 59) (u 60) (u 61) (u 1) (u 5) (u 6) (u 7) (u 8) (u 9) y1 h_y1 y2 h_y2) ⟨by decide +kernel, by decide +kernel⟩ rfl rfl (Or.inl rfl) (rest := []) rfl rfl rfl hl.1 rfl (Nat.le_of_ble_eq_true rfl) dL_law_347 ⟨Nat.le_of_ble_eq_true rfl, Nat.le_of_ble_eq_true rfl⟩ (W' := [(qm, .inr (9, [.ref (v 0), .ref (v 1), .ref (v 2), .ref (v 3), .ref (v 4), .ref (v 5), .ref (v 6), .ref (v 7), .ref (v 8), .ref (v 9), .ref (v 10), .ref (v 11), .int 1, .int 0, .int 0, .ref (v 12), .ref (v 13), .ref (v 14), .ref (v 15), .ref (v 16), .ref (v 17), .int 0, .int 0, .ref (v 18), .ref (v 19), .ref (v 20), .ref (v 21), .int 0, .int 0, .ref (v 22), .ref (v 23), .ref (v 24), .ref (v 25), .int 0, .ref (v 26), .int 0])), ((v 7), .inl (cI, 8, .inl (tb [])))]) rfl (fun H locs hP hD hS => ?_)
  refine lv_aload_n hx hb dL_law_350 rfl (lv_at hl 1 rfl) ?_
  refine lv_aload_n hx hb dL_law_351 rfl (lv_at hl 3 rfl) ?_
  refine lv_iload_n hx hb dL_law_352 rfl (lv_at hl 0 rfl) ?_
  refine lv_iconst (v := 1) hx hb dL_law_353 (by decide) ?_
  refine v_iadd hx hb dL_law_354 1 (by decide +kernel) ?_
  refine va_sld hx hb hX0 hbl hbA hS (vin (by decide +kernel)) dL_law_355 ?_
  refine tvi (v := 0) e_y0 ?_
  refine lv_aload_n hx hb dL_law_356 rfl (lv_at hl 3 rfl) ?_
  refine lv_iload_n hx hb dL_law_357 rfl (lv_at hl 0 rfl) ?_
  refine lv_iconst (v := 2) hx hb dL_law_358 (by decide) ?_
  refine v_iadd hx hb dL_law_359 2 (by decide +kernel) ?_
  refine va_sld hx hb hX0 hbl hbA hS (vin (by decide +kernel)) dL_law_360 ?_
  refine tvi (v := y1) e_y1 ?_
  refine lv_aload_n hx hb dL_law_361 rfl (lv_at hl 3 rfl) ?_
  refine lv_iload_n hx hb dL_law_362 rfl (lv_at hl 0 rfl) ?_
  refine lv_iconst (v := 3) hx hb dL_law_363 (by decide) ?_
  refine v_iadd hx hb dL_law_364 3 (by decide +kernel) ?_
  refine va_sld hx hb hX0 hbl hbA hS (vin (by decide +kernel)) dL_law_365 ?_
  refine tvi (v := y2) e_y2 ?_
  refine kV_i (q0 := 0) ⟨hx, hb, hml, hown, hts⟩ hK hP hD hS hA hX cv_RL_40 [0, 1] [] (wr := []) rfl rfl rfl rfl (by decide) (c333_X9_price l dC dI cI cJ cII cJJ H.size 0 qm (v 7) (v 0) (v 1) (v 2) (v 3) (v 4) (v 5) (v 6) (v 8) (v 9) (v 10) (v 11) (v 12) (v 13) (v 14) (v 15) (v 16) (v 17) (v 18) (v 19) (v 20) (v 21) (v 22) (v 23) (v 24) (v 25) (v 26) y1 h_y1 y2 h_y2) ⟨by decide +kernel, by decide +kernel⟩ rfl rfl (Or.inl rfl) (rest := [.int (-6)]) rfl rfl rfl hl.1 rfl (Nat.le_of_ble_eq_true rfl) dL_law_366 ⟨Nat.le_of_ble_eq_true rfl, Nat.le_of_ble_eq_true rfl⟩ (W' := []) rfl (fun H locs hP hD hS => ?_)
  refine t_icmp_eq hx hb dL_law_369 1073 (by decide) rfl ?_
  exact law_end l C0 rfl hS hl
set_option maxRecDepth 100000 in
set_option maxHeartbeats 4000000 in
theorem lr_21 {p : Program} {e : Env} {s : State} {m : MethodId} {below : List Frame} {meth : Method} {c : Code} (l : Launch) {b L : Nat} {xs : Nat → Int32} (C0 : lw_At p s m meth c b L xs) (hL : L = 5) {dC : Nat → ClassId} {dI : Nat → Nat → Nat} {cI cJ cII cJJ : ClassId} {g qx qm : Nat} {u v : Nat → Nat} {H : Heap} {locs : List Loc} {ls : Array Slot} (e_y0 : xs 1 = 0) (y1 : Int32) (h_y1 : -99 ≤ y1.toInt ∧ y1.toInt ≤ 99) (e_y1 : xs 2 = y1) (y2 : Int32) (h_y2 : 0 ≤ y2.toInt ∧ y2.toInt ≤ 99) (e_y2 : xs 3 = y2) (hK : va_K (dC, dI) vwCl (TY cI cJ cII cJJ) s) (hX : GXA 1 g (AA s) s) (hP : va_P (dC, dI) vwCl (WLD cI cJ cII cJJ qx qm u v) H) (hD : va_D (AA s) (WLD cI cJ cII cJJ qx qm u v)) (hS : va_S (AA s) s.heap H locs) (hl : lv_has ls 4 [(3, .int 0), (2, .ref qm), (1, .ref qx), (0, .ref b)]) : W p l e room_1 s m #[Value.ref b] below meth c H locs 600000 7302250 (lw_Z below #[Value.ref b] s) (F0 m 331 ls []) := by
  obtain ⟨hx, hb, hr, hml, hown, hts0, hX0, hbl, hlocks, hgv⟩ := id C0
  have hts : ∀ w ∈ TT, w.before #[Value.ref b] s = true := fun w h => hts0 w (TT_tbl h)
  have hA : ∀ q : Nat, s.heap.size ≤ q → AA s q := fun _ h => h
  have hbA : ¬ AA s b := Nat.not_le.mpr hbl
  have hown : s.vm.findClass RL = some m.cls := hown
  subst hL
  refine lv_aload_n hx hb dL_law_331 rfl (lv_at hl 2 rfl) ?_
  refine lv_aload_n hx hb dL_law_332 rfl (lv_at hl 3 rfl) ?_
  refine lv_iload_n hx hb dL_law_333 rfl (lv_at hl 0 rfl) ?_
  refine lv_iconst (v := 1) hx hb dL_law_334 (by decide) ?_
  refine v_iadd hx hb dL_law_335 1 (by decide +kernel) ?_
  refine va_sld hx hb hX0 hbl hbA hS (vin (by decide +kernel)) dL_law_336 ?_
  refine tvi (v := 0) e_y0 ?_
  refine lv_aload_n hx hb dL_law_337 rfl (lv_at hl 3 rfl) ?_
  refine lv_iload_n hx hb dL_law_338 rfl (lv_at hl 0 rfl) ?_
  refine lv_iconst (v := 2) hx hb dL_law_339 (by decide) ?_
  refine v_iadd hx hb dL_law_340 2 (by decide +kernel) ?_
  refine va_sld hx hb hX0 hbl hbA hS (vin (by decide +kernel)) dL_law_341 ?_
  refine tvi (v := y1) e_y1 ?_
  refine lv_aload_n hx hb dL_law_342 rfl (lv_at hl 3 rfl) ?_
  refine lv_iload_n hx hb dL_law_343 rfl (lv_at hl 0 rfl) ?_
  refine lv_iconst (v := 3) hx hb dL_law_344 (by decide) ?_
  refine v_iadd hx hb dL_law_345 3 (by decide +kernel) ?_
  refine va_sld hx hb hX0 hbl hbA hS (vin (by decide +kernel)) dL_law_346 ?_
  refine tvi (v := y2) e_y2 ?_
  refine kV_i (q0 := 0) ⟨hx, hb, hml, hown, hts⟩ hK hP hD hS hA hX cv_RL_37 [0, 6, 9, 10] [86, 89, 90] (wr := [(qm, .inr (9, [.ref (v 0), .ref (v 1), .ref (v 2), .ref (v 3), .ref (v 4), .ref (v 5), .ref (v 6), .ref (v 7), .ref (v 8), .ref (v 9), .ref (v 10), .ref (v 11), .int 1, .int 0, .int 0, .ref (v 12), .ref (v 13), .ref (v 14), .ref (v 15), .ref (v 16), .ref (v 17), .int 0, .int 0, .ref (v 18), .ref (v 19), .ref (v 20), .ref (v 21), .int 0, .int 0, .ref (v 22), .ref (v 23), .ref (v 24), .ref (v 25), .int 0, .ref (v 26), .int 0])), ((v 4), .inl (cI, 4, .inl (tb [0, 0, 0, 0]))), ((v 5), .inl (cI, 4, .inl (tb [0, 0, 0, 0])))]) rfl rfl rfl rfl (by decide) (c048_X8_price l dC dI cI cJ cII cJJ H.size 0 qx (u 0) (u 8) (u 9) (u 10) (u 28) (u 51) (u 59) (u 60) (u 61) (u 62) (u 1) (u 5) (u 6) (u 7) y1 h_y1 y2 h_y2) ⟨by decide +kernel, by decide +kernel⟩ rfl rfl (Or.inl rfl) (rest := []) rfl rfl rfl hl.1 rfl (Nat.le_of_ble_eq_true rfl) dL_law_347 ⟨Nat.le_of_ble_eq_true rfl, Nat.le_of_ble_eq_true rfl⟩ (W' := [(qm, .inr (9, [.ref (v 0), .ref (v 1), .ref (v 2), .ref (v 3), .ref (v 4), .ref (v 5), .ref (v 6), .ref (v 7), .ref (v 8), .ref (v 9), .ref (v 10), .ref (v 11), .int 1, .int 0, .int 0, .ref (v 12), .ref (v 13), .ref (v 14), .ref (v 15), .ref (v 16), .ref (v 17), .int 0, .int 0, .ref (v 18), .ref (v 19), .ref (v 20), .ref (v 21), .int 0, .int 0, .ref (v 22), .ref (v 23), .ref (v 24), .ref (v 25), .int 0, .ref (v 26), .int 0])), ((v 4), .inl (cI, 4, .inl (tb [0, 0, 0, 0]))), ((v 5), .inl (cI, 4, .inl (tb [0, 0, 0, 0])))]) rfl (fun H locs hP hD hS => ?_)
  refine lv_aload_n hx hb dL_law_350 rfl (lv_at hl 1 rfl) ?_
  refine lv_aload_n hx hb dL_law_351 rfl (lv_at hl 3 rfl) ?_
  refine lv_iload_n hx hb dL_law_352 rfl (lv_at hl 0 rfl) ?_
  refine lv_iconst (v := 1) hx hb dL_law_353 (by decide) ?_
  refine v_iadd hx hb dL_law_354 1 (by decide +kernel) ?_
  refine va_sld hx hb hX0 hbl hbA hS (vin (by decide +kernel)) dL_law_355 ?_
  refine tvi (v := 0) e_y0 ?_
  refine lv_aload_n hx hb dL_law_356 rfl (lv_at hl 3 rfl) ?_
  refine lv_iload_n hx hb dL_law_357 rfl (lv_at hl 0 rfl) ?_
  refine lv_iconst (v := 2) hx hb dL_law_358 (by decide) ?_
  refine v_iadd hx hb dL_law_359 2 (by decide +kernel) ?_
  refine va_sld hx hb hX0 hbl hbA hS (vin (by decide +kernel)) dL_law_360 ?_
  refine tvi (v := y1) e_y1 ?_
  refine lv_aload_n hx hb dL_law_361 rfl (lv_at hl 3 rfl) ?_
  refine lv_iload_n hx hb dL_law_362 rfl (lv_at hl 0 rfl) ?_
  refine lv_iconst (v := 3) hx hb dL_law_363 (by decide) ?_
  refine v_iadd hx hb dL_law_364 3 (by decide +kernel) ?_
  refine va_sld hx hb hX0 hbl hbA hS (vin (by decide +kernel)) dL_law_365 ?_
  refine tvi (v := y2) e_y2 ?_
  refine kV_i (q0 := 0) ⟨hx, hb, hml, hown, hts⟩ hK hP hD hS hA hX cv_RL_40 [0, 1, 2] [] (wr := []) rfl rfl rfl rfl (by decide) (c334_X9_price l dC dI cI cJ cII cJJ H.size 0 qm (v 4) (v 5) (v 0) (v 1) (v 2) (v 3) (v 6) (v 7) (v 8) (v 9) (v 10) (v 11) (v 12) (v 13) (v 14) (v 15) (v 16) (v 17) (v 18) (v 19) (v 20) (v 21) (v 22) (v 23) (v 24) (v 25) (v 26) y1 h_y1 y2 h_y2) ⟨by decide +kernel, by decide +kernel⟩ rfl rfl (Or.inl rfl) (rest := [.int 1]) rfl rfl rfl hl.1 rfl (Nat.le_of_ble_eq_true rfl) dL_law_366 ⟨Nat.le_of_ble_eq_true rfl, Nat.le_of_ble_eq_true rfl⟩ (W' := []) rfl (fun H locs hP hD hS => ?_)
  refine t_icmp_eq hx hb dL_law_369 1073 (by decide) rfl ?_
  exact law_end l C0 rfl hS hl
set_option maxRecDepth 100000 in
set_option maxHeartbeats 4000000 in
theorem lc_5 {p : Program} {e : Env} {s : State} {m : MethodId} {below : List Frame} {meth : Method} {c : Code} (l : Launch) {b L : Nat} {xs : Nat → Int32} (C0 : lw_At p s m meth c b L xs) (hL : L = 5) {dC : Nat → ClassId} {dI : Nat → Nat → Nat} {cI cJ cII cJJ : ClassId} {g qx qm : Nat} {u v : Nat → Nat} {H : Heap} {locs : List Loc} {ls : Array Slot} (hK : va_K (dC, dI) vwCl (TY cI cJ cII cJJ) s) (hX : GXA 1 g (AA s) s) (hP : va_P (dC, dI) vwCl (WLD cI cJ cII cJJ qx qm u v) H) (hD : va_D (AA s) (WLD cI cJ cII cJJ qx qm u v)) (hS : va_S (AA s) s.heap H locs) (hl : lv_has ls 4 [(3, .int 0), (2, .ref qm), (1, .ref qx), (0, .ref b)]) : W p l e room_1 s m #[Value.ref b] below meth c H locs 600000 7302250 (lw_Z below #[Value.ref b] s) (F0 m 331 ls []) := by
  have q1 := s_any (xs 1)
  have q2 := s_any (xs 2)
  have q3 := s_any (xs 3)
  have key : ((xs 1).toInt ≤ -1) ∨ (1 ≤ (xs 1).toInt) ∨ ((xs 1).toInt = 0 ∧ (xs 2).toInt ≤ -100) ∨ ((xs 1).toInt = 0 ∧ -99 ≤ (xs 2).toInt ∧ (xs 3).toInt ≤ -1) ∨ ((xs 1).toInt = 0 ∧ 100 ≤ (xs 2).toInt ∧ 0 ≤ (xs 3).toInt) ∨ ((xs 1).toInt = 0 ∧ (-99 ≤ (xs 2).toInt ∧ (xs 2).toInt ≤ 99) ∧ 100 ≤ (xs 3).toInt) ∨ ((xs 1).toInt = 0 ∧ (-99 ≤ (xs 2).toInt ∧ (xs 2).toInt ≤ 99) ∧ (0 ≤ (xs 3).toInt ∧ (xs 3).toInt ≤ 99)) := by omega
  rcases key with h | h | h | h | h | h | h
  · exact lr_15 l C0 hL (xs 1) ⟨by omega, by omega⟩ rfl (xs 2) ⟨by omega, by omega⟩ rfl (xs 3) ⟨by omega, by omega⟩ rfl hK hX hP hD hS hl
  · exact lr_16 l C0 hL (xs 1) ⟨by omega, by omega⟩ rfl (xs 2) ⟨by omega, by omega⟩ rfl (xs 3) ⟨by omega, by omega⟩ rfl hK hX hP hD hS hl
  · exact lr_17 l C0 hL (Int32.toInt_inj.mp (by rw [show (0 : Int32).toInt = 0 from by decide +kernel]; omega)) (xs 2) ⟨by omega, by omega⟩ rfl (xs 3) ⟨by omega, by omega⟩ rfl hK hX hP hD hS hl
  · exact lr_18 l C0 hL (Int32.toInt_inj.mp (by rw [show (0 : Int32).toInt = 0 from by decide +kernel]; omega)) (xs 2) ⟨by omega, by omega⟩ rfl (xs 3) ⟨by omega, by omega⟩ rfl hK hX hP hD hS hl
  · exact lr_19 l C0 hL (Int32.toInt_inj.mp (by rw [show (0 : Int32).toInt = 0 from by decide +kernel]; omega)) (xs 2) ⟨by omega, by omega⟩ rfl (xs 3) ⟨by omega, by omega⟩ rfl hK hX hP hD hS hl
  · exact lr_20 l C0 hL (Int32.toInt_inj.mp (by rw [show (0 : Int32).toInt = 0 from by decide +kernel]; omega)) (xs 2) ⟨by omega, by omega⟩ rfl (xs 3) ⟨by omega, by omega⟩ rfl hK hX hP hD hS hl
  · exact lr_21 l C0 hL (Int32.toInt_inj.mp (by rw [show (0 : Int32).toInt = 0 from by decide +kernel]; omega)) (xs 2) ⟨by omega, by omega⟩ rfl (xs 3) ⟨by omega, by omega⟩ rfl hK hX hP hD hS hl
set_option maxRecDepth 100000 in
set_option maxHeartbeats 4000000 in
theorem lr_22 {p : Program} {e : Env} {s : State} {m : MethodId} {below : List Frame} {meth : Method} {c : Code} (l : Launch) {b L : Nat} {xs : Nat → Int32} (C0 : lw_At p s m meth c b L xs) (hL : L = 5) {dC : Nat → ClassId} {dI : Nat → Nat → Nat} {cI cJ cII cJJ : ClassId} {g qx qm : Nat} {u v : Nat → Nat} {H : Heap} {locs : List Loc} {ls : Array Slot} (y0 : Int32) (h_y0 : -2147483648 ≤ y0.toInt ∧ y0.toInt ≤ -1) (e_y0 : xs 1 = y0) (y1 : Int32) (h_y1 : -2147483648 ≤ y1.toInt ∧ y1.toInt ≤ 2147483647) (e_y1 : xs 2 = y1) (y2 : Int32) (h_y2 : -2147483648 ≤ y2.toInt ∧ y2.toInt ≤ 2147483647) (e_y2 : xs 3 = y2) (hK : va_K (dC, dI) vwCl (TY cI cJ cII cJJ) s) (hX : GXA 1 g (AA s) s) (hP : va_P (dC, dI) vwCl (WLD cI cJ cII cJJ qx qm u v) H) (hD : va_D (AA s) (WLD cI cJ cII cJJ qx qm u v)) (hS : va_S (AA s) s.heap H locs) (hl : lv_has ls 4 [(3, .int 0), (2, .ref qm), (1, .ref qx), (0, .ref b)]) : W p l e room_1 s m #[Value.ref b] below meth c H locs 600000 7302250 (lw_Z below #[Value.ref b] s) (F0 m 374 ls []) := by
  obtain ⟨hx, hb, hr, hml, hown, hts0, hX0, hbl, hlocks, hgv⟩ := id C0
  have hts : ∀ w ∈ TT, w.before #[Value.ref b] s = true := fun w h => hts0 w (TT_tbl h)
  have hA : ∀ q : Nat, s.heap.size ≤ q → AA s q := fun _ h => h
  have hbA : ¬ AA s b := Nat.not_le.mpr hbl
  have hown : s.vm.findClass RL = some m.cls := hown
  subst hL
  refine lv_aload_n hx hb dL_law_374 rfl (lv_at hl 2 rfl) ?_
  refine lv_aload_n hx hb dL_law_375 rfl (lv_at hl 3 rfl) ?_
  refine lv_iload_n hx hb dL_law_376 rfl (lv_at hl 0 rfl) ?_
  refine lv_iconst (v := 1) hx hb dL_law_377 (by decide) ?_
  refine v_iadd hx hb dL_law_378 1 (by decide +kernel) ?_
  refine va_sld hx hb hX0 hbl hbA hS (vin (by decide +kernel)) dL_law_379 ?_
  refine tvi (v := y0) e_y0 ?_
  refine lv_aload_n hx hb dL_law_380 rfl (lv_at hl 3 rfl) ?_
  refine lv_iload_n hx hb dL_law_381 rfl (lv_at hl 0 rfl) ?_
  refine lv_iconst (v := 2) hx hb dL_law_382 (by decide) ?_
  refine v_iadd hx hb dL_law_383 2 (by decide +kernel) ?_
  refine va_sld hx hb hX0 hbl hbA hS (vin (by decide +kernel)) dL_law_384 ?_
  refine tvi (v := y1) e_y1 ?_
  refine lv_aload_n hx hb dL_law_385 rfl (lv_at hl 3 rfl) ?_
  refine lv_iload_n hx hb dL_law_386 rfl (lv_at hl 0 rfl) ?_
  refine lv_iconst (v := 3) hx hb dL_law_387 (by decide) ?_
  refine v_iadd hx hb dL_law_388 3 (by decide +kernel) ?_
  refine va_sld hx hb hX0 hbl hbA hS (vin (by decide +kernel)) dL_law_389 ?_
  refine tvi (v := y2) e_y2 ?_
  refine kV_i (q0 := 0) ⟨hx, hb, hml, hown, hts⟩ hK hP hD hS hA hX cv_RL_41 [0, 52, 63] [86, 66] (wr := [(qm, .inr (9, [.ref (v 0), .ref (v 1), .ref (v 2), .ref (v 3), .ref (v 4), .ref (v 5), .ref (v 6), .ref (v 7), .ref (v 8), .ref (v 9), .ref (v 10), .ref (v 11), .int 1, .int 0, .int 0, .ref (v 12), .ref (v 13), .ref (v 14), .ref (v 15), .ref (v 16), .ref (v 17), .int 0, .int 0, .ref (v 18), .ref (v 19), .ref (v 20), .ref (v 21), .int 0, .int 0, .ref (v 22), .ref (v 23), .ref (v 24), .ref (v 25), .int 0, .ref (v 26), .int 0])), ((v 7), .inl (cI, 8, .inl (tb [])))]) rfl rfl rfl rfl (by decide) (c049_X8_tray l dC dI cI cJ cII cJJ H.size 0 qx (u 51) (u 62) (u 0) (u 10) (u 28) (u 59) (u 60) (u 61) (u 52) (u 57) (u 58) y0 h_y0 y1 h_y1 y2 h_y2) ⟨by decide +kernel, by decide +kernel⟩ rfl rfl (Or.inl rfl) (rest := []) rfl rfl rfl hl.1 rfl (Nat.le_of_ble_eq_true rfl) dL_law_390 ⟨Nat.le_of_ble_eq_true rfl, Nat.le_of_ble_eq_true rfl⟩ (W' := [(qm, .inr (9, [.ref (v 0), .ref (v 1), .ref (v 2), .ref (v 3), .ref (v 4), .ref (v 5), .ref (v 6), .ref (v 7), .ref (v 8), .ref (v 9), .ref (v 10), .ref (v 11), .int 1, .int 0, .int 0, .ref (v 12), .ref (v 13), .ref (v 14), .ref (v 15), .ref (v 16), .ref (v 17), .int 0, .int 0, .ref (v 18), .ref (v 19), .ref (v 20), .ref (v 21), .int 0, .int 0, .ref (v 22), .ref (v 23), .ref (v 24), .ref (v 25), .int 0, .ref (v 26), .int 0])), ((v 7), .inl (cI, 8, .inl (tb [])))]) rfl (fun H locs hP hD hS => ?_)
  refine lv_aload_n hx hb dL_law_393 rfl (lv_at hl 1 rfl) ?_
  refine lv_aload_n hx hb dL_law_394 rfl (lv_at hl 3 rfl) ?_
  refine lv_iload_n hx hb dL_law_395 rfl (lv_at hl 0 rfl) ?_
  refine lv_iconst (v := 1) hx hb dL_law_396 (by decide) ?_
  refine v_iadd hx hb dL_law_397 1 (by decide +kernel) ?_
  refine va_sld hx hb hX0 hbl hbA hS (vin (by decide +kernel)) dL_law_398 ?_
  refine tvi (v := y0) e_y0 ?_
  refine lv_aload_n hx hb dL_law_399 rfl (lv_at hl 3 rfl) ?_
  refine lv_iload_n hx hb dL_law_400 rfl (lv_at hl 0 rfl) ?_
  refine lv_iconst (v := 2) hx hb dL_law_401 (by decide) ?_
  refine v_iadd hx hb dL_law_402 2 (by decide +kernel) ?_
  refine va_sld hx hb hX0 hbl hbA hS (vin (by decide +kernel)) dL_law_403 ?_
  refine tvi (v := y1) e_y1 ?_
  refine lv_aload_n hx hb dL_law_404 rfl (lv_at hl 3 rfl) ?_
  refine lv_iload_n hx hb dL_law_405 rfl (lv_at hl 0 rfl) ?_
  refine lv_iconst (v := 3) hx hb dL_law_406 (by decide) ?_
  refine v_iadd hx hb dL_law_407 3 (by decide +kernel) ?_
  refine va_sld hx hb hX0 hbl hbA hS (vin (by decide +kernel)) dL_law_408 ?_
  refine tvi (v := y2) e_y2 ?_
  refine kV_i (q0 := 0) ⟨hx, hb, hml, hown, hts⟩ hK hP hD hS hA hX cv_RL_44 [0, 1] [] (wr := []) rfl rfl rfl rfl (by decide) (c335_X9_tray l dC dI cI cJ cII cJJ H.size 0 qm (v 7) (v 0) (v 1) (v 2) (v 3) (v 4) (v 5) (v 6) (v 8) (v 9) (v 10) (v 11) (v 12) (v 13) (v 14) (v 15) (v 16) (v 17) (v 18) (v 19) (v 20) (v 21) (v 22) (v 23) (v 24) (v 25) (v 26) y0 h_y0 y1 h_y1 y2 h_y2) ⟨by decide +kernel, by decide +kernel⟩ rfl rfl (Or.inl rfl) (rest := [.int (-1)]) rfl rfl rfl hl.1 rfl (Nat.le_of_ble_eq_true rfl) dL_law_409 ⟨Nat.le_of_ble_eq_true rfl, Nat.le_of_ble_eq_true rfl⟩ (W' := []) rfl (fun H locs hP hD hS => ?_)
  refine t_icmp_eq hx hb dL_law_412 1073 (by decide) rfl ?_
  exact law_end l C0 rfl hS hl
set_option maxRecDepth 100000 in
set_option maxHeartbeats 4000000 in
theorem lr_23 {p : Program} {e : Env} {s : State} {m : MethodId} {below : List Frame} {meth : Method} {c : Code} (l : Launch) {b L : Nat} {xs : Nat → Int32} (C0 : lw_At p s m meth c b L xs) (hL : L = 5) {dC : Nat → ClassId} {dI : Nat → Nat → Nat} {cI cJ cII cJJ : ClassId} {g qx qm : Nat} {u v : Nat → Nat} {H : Heap} {locs : List Loc} {ls : Array Slot} (y0 : Int32) (h_y0 : 4 ≤ y0.toInt ∧ y0.toInt ≤ 2147483647) (e_y0 : xs 1 = y0) (y1 : Int32) (h_y1 : -2147483648 ≤ y1.toInt ∧ y1.toInt ≤ 2147483647) (e_y1 : xs 2 = y1) (y2 : Int32) (h_y2 : -2147483648 ≤ y2.toInt ∧ y2.toInt ≤ 2147483647) (e_y2 : xs 3 = y2) (hK : va_K (dC, dI) vwCl (TY cI cJ cII cJJ) s) (hX : GXA 1 g (AA s) s) (hP : va_P (dC, dI) vwCl (WLD cI cJ cII cJJ qx qm u v) H) (hD : va_D (AA s) (WLD cI cJ cII cJJ qx qm u v)) (hS : va_S (AA s) s.heap H locs) (hl : lv_has ls 4 [(3, .int 0), (2, .ref qm), (1, .ref qx), (0, .ref b)]) : W p l e room_1 s m #[Value.ref b] below meth c H locs 600000 7302250 (lw_Z below #[Value.ref b] s) (F0 m 374 ls []) := by
  obtain ⟨hx, hb, hr, hml, hown, hts0, hX0, hbl, hlocks, hgv⟩ := id C0
  have hts : ∀ w ∈ TT, w.before #[Value.ref b] s = true := fun w h => hts0 w (TT_tbl h)
  have hA : ∀ q : Nat, s.heap.size ≤ q → AA s q := fun _ h => h
  have hbA : ¬ AA s b := Nat.not_le.mpr hbl
  have hown : s.vm.findClass RL = some m.cls := hown
  subst hL
  refine lv_aload_n hx hb dL_law_374 rfl (lv_at hl 2 rfl) ?_
  refine lv_aload_n hx hb dL_law_375 rfl (lv_at hl 3 rfl) ?_
  refine lv_iload_n hx hb dL_law_376 rfl (lv_at hl 0 rfl) ?_
  refine lv_iconst (v := 1) hx hb dL_law_377 (by decide) ?_
  refine v_iadd hx hb dL_law_378 1 (by decide +kernel) ?_
  refine va_sld hx hb hX0 hbl hbA hS (vin (by decide +kernel)) dL_law_379 ?_
  refine tvi (v := y0) e_y0 ?_
  refine lv_aload_n hx hb dL_law_380 rfl (lv_at hl 3 rfl) ?_
  refine lv_iload_n hx hb dL_law_381 rfl (lv_at hl 0 rfl) ?_
  refine lv_iconst (v := 2) hx hb dL_law_382 (by decide) ?_
  refine v_iadd hx hb dL_law_383 2 (by decide +kernel) ?_
  refine va_sld hx hb hX0 hbl hbA hS (vin (by decide +kernel)) dL_law_384 ?_
  refine tvi (v := y1) e_y1 ?_
  refine lv_aload_n hx hb dL_law_385 rfl (lv_at hl 3 rfl) ?_
  refine lv_iload_n hx hb dL_law_386 rfl (lv_at hl 0 rfl) ?_
  refine lv_iconst (v := 3) hx hb dL_law_387 (by decide) ?_
  refine v_iadd hx hb dL_law_388 3 (by decide +kernel) ?_
  refine va_sld hx hb hX0 hbl hbA hS (vin (by decide +kernel)) dL_law_389 ?_
  refine tvi (v := y2) e_y2 ?_
  refine kV_i (q0 := 0) ⟨hx, hb, hml, hown, hts⟩ hK hP hD hS hA hX cv_RL_41 [0, 52, 63] [86, 66] (wr := [(qm, .inr (9, [.ref (v 0), .ref (v 1), .ref (v 2), .ref (v 3), .ref (v 4), .ref (v 5), .ref (v 6), .ref (v 7), .ref (v 8), .ref (v 9), .ref (v 10), .ref (v 11), .int 1, .int 0, .int 0, .ref (v 12), .ref (v 13), .ref (v 14), .ref (v 15), .ref (v 16), .ref (v 17), .int 0, .int 0, .ref (v 18), .ref (v 19), .ref (v 20), .ref (v 21), .int 0, .int 0, .ref (v 22), .ref (v 23), .ref (v 24), .ref (v 25), .int 0, .ref (v 26), .int 0])), ((v 7), .inl (cI, 8, .inl (tb [])))]) rfl rfl rfl rfl (by decide) (c051_X8_tray l dC dI cI cJ cII cJJ H.size 0 qx (u 51) (u 62) (u 0) (u 10) (u 28) (u 59) (u 60) (u 61) (u 52) (u 57) (u 58) y0 h_y0 y1 h_y1 y2 h_y2) ⟨by decide +kernel, by decide +kernel⟩ rfl rfl (Or.inl rfl) (rest := []) rfl rfl rfl hl.1 rfl (Nat.le_of_ble_eq_true rfl) dL_law_390 ⟨Nat.le_of_ble_eq_true rfl, Nat.le_of_ble_eq_true rfl⟩ (W' := [(qm, .inr (9, [.ref (v 0), .ref (v 1), .ref (v 2), .ref (v 3), .ref (v 4), .ref (v 5), .ref (v 6), .ref (v 7), .ref (v 8), .ref (v 9), .ref (v 10), .ref (v 11), .int 1, .int 0, .int 0, .ref (v 12), .ref (v 13), .ref (v 14), .ref (v 15), .ref (v 16), .ref (v 17), .int 0, .int 0, .ref (v 18), .ref (v 19), .ref (v 20), .ref (v 21), .int 0, .int 0, .ref (v 22), .ref (v 23), .ref (v 24), .ref (v 25), .int 0, .ref (v 26), .int 0])), ((v 7), .inl (cI, 8, .inl (tb [])))]) rfl (fun H locs hP hD hS => ?_)
  refine lv_aload_n hx hb dL_law_393 rfl (lv_at hl 1 rfl) ?_
  refine lv_aload_n hx hb dL_law_394 rfl (lv_at hl 3 rfl) ?_
  refine lv_iload_n hx hb dL_law_395 rfl (lv_at hl 0 rfl) ?_
  refine lv_iconst (v := 1) hx hb dL_law_396 (by decide) ?_
  refine v_iadd hx hb dL_law_397 1 (by decide +kernel) ?_
  refine va_sld hx hb hX0 hbl hbA hS (vin (by decide +kernel)) dL_law_398 ?_
  refine tvi (v := y0) e_y0 ?_
  refine lv_aload_n hx hb dL_law_399 rfl (lv_at hl 3 rfl) ?_
  refine lv_iload_n hx hb dL_law_400 rfl (lv_at hl 0 rfl) ?_
  refine lv_iconst (v := 2) hx hb dL_law_401 (by decide) ?_
  refine v_iadd hx hb dL_law_402 2 (by decide +kernel) ?_
  refine va_sld hx hb hX0 hbl hbA hS (vin (by decide +kernel)) dL_law_403 ?_
  refine tvi (v := y1) e_y1 ?_
  refine lv_aload_n hx hb dL_law_404 rfl (lv_at hl 3 rfl) ?_
  refine lv_iload_n hx hb dL_law_405 rfl (lv_at hl 0 rfl) ?_
  refine lv_iconst (v := 3) hx hb dL_law_406 (by decide) ?_
  refine v_iadd hx hb dL_law_407 3 (by decide +kernel) ?_
  refine va_sld hx hb hX0 hbl hbA hS (vin (by decide +kernel)) dL_law_408 ?_
  refine tvi (v := y2) e_y2 ?_
  refine kV_i (q0 := 0) ⟨hx, hb, hml, hown, hts⟩ hK hP hD hS hA hX cv_RL_44 [0, 1] [] (wr := []) rfl rfl rfl rfl (by decide) (c337_X9_tray l dC dI cI cJ cII cJJ H.size 0 qm (v 7) (v 0) (v 1) (v 2) (v 3) (v 4) (v 5) (v 6) (v 8) (v 9) (v 10) (v 11) (v 12) (v 13) (v 14) (v 15) (v 16) (v 17) (v 18) (v 19) (v 20) (v 21) (v 22) (v 23) (v 24) (v 25) (v 26) y0 h_y0 y1 h_y1 y2 h_y2) ⟨by decide +kernel, by decide +kernel⟩ rfl rfl (Or.inl rfl) (rest := [.int (-1)]) rfl rfl rfl hl.1 rfl (Nat.le_of_ble_eq_true rfl) dL_law_409 ⟨Nat.le_of_ble_eq_true rfl, Nat.le_of_ble_eq_true rfl⟩ (W' := []) rfl (fun H locs hP hD hS => ?_)
  refine t_icmp_eq hx hb dL_law_412 1073 (by decide) rfl ?_
  exact law_end l C0 rfl hS hl
set_option maxRecDepth 100000 in
set_option maxHeartbeats 4000000 in
theorem lr_24 {p : Program} {e : Env} {s : State} {m : MethodId} {below : List Frame} {meth : Method} {c : Code} (l : Launch) {b L : Nat} {xs : Nat → Int32} (C0 : lw_At p s m meth c b L xs) (hL : L = 5) {dC : Nat → ClassId} {dI : Nat → Nat → Nat} {cI cJ cII cJJ : ClassId} {g qx qm : Nat} {u v : Nat → Nat} {H : Heap} {locs : List Loc} {ls : Array Slot} (y0 : Int32) (h_y0 : 0 ≤ y0.toInt ∧ y0.toInt ≤ 3) (e_y0 : xs 1 = y0) (y1 : Int32) (h_y1 : -2147483648 ≤ y1.toInt ∧ y1.toInt ≤ -1) (e_y1 : xs 2 = y1) (y2 : Int32) (h_y2 : -2147483648 ≤ y2.toInt ∧ y2.toInt ≤ 2147483647) (e_y2 : xs 3 = y2) (hK : va_K (dC, dI) vwCl (TY cI cJ cII cJJ) s) (hX : GXA 1 g (AA s) s) (hP : va_P (dC, dI) vwCl (WLD cI cJ cII cJJ qx qm u v) H) (hD : va_D (AA s) (WLD cI cJ cII cJJ qx qm u v)) (hS : va_S (AA s) s.heap H locs) (hl : lv_has ls 4 [(3, .int 0), (2, .ref qm), (1, .ref qx), (0, .ref b)]) : W p l e room_1 s m #[Value.ref b] below meth c H locs 600000 7302250 (lw_Z below #[Value.ref b] s) (F0 m 374 ls []) := by
  obtain ⟨hx, hb, hr, hml, hown, hts0, hX0, hbl, hlocks, hgv⟩ := id C0
  have hts : ∀ w ∈ TT, w.before #[Value.ref b] s = true := fun w h => hts0 w (TT_tbl h)
  have hA : ∀ q : Nat, s.heap.size ≤ q → AA s q := fun _ h => h
  have hbA : ¬ AA s b := Nat.not_le.mpr hbl
  have hown : s.vm.findClass RL = some m.cls := hown
  subst hL
  refine lv_aload_n hx hb dL_law_374 rfl (lv_at hl 2 rfl) ?_
  refine lv_aload_n hx hb dL_law_375 rfl (lv_at hl 3 rfl) ?_
  refine lv_iload_n hx hb dL_law_376 rfl (lv_at hl 0 rfl) ?_
  refine lv_iconst (v := 1) hx hb dL_law_377 (by decide) ?_
  refine v_iadd hx hb dL_law_378 1 (by decide +kernel) ?_
  refine va_sld hx hb hX0 hbl hbA hS (vin (by decide +kernel)) dL_law_379 ?_
  refine tvi (v := y0) e_y0 ?_
  refine lv_aload_n hx hb dL_law_380 rfl (lv_at hl 3 rfl) ?_
  refine lv_iload_n hx hb dL_law_381 rfl (lv_at hl 0 rfl) ?_
  refine lv_iconst (v := 2) hx hb dL_law_382 (by decide) ?_
  refine v_iadd hx hb dL_law_383 2 (by decide +kernel) ?_
  refine va_sld hx hb hX0 hbl hbA hS (vin (by decide +kernel)) dL_law_384 ?_
  refine tvi (v := y1) e_y1 ?_
  refine lv_aload_n hx hb dL_law_385 rfl (lv_at hl 3 rfl) ?_
  refine lv_iload_n hx hb dL_law_386 rfl (lv_at hl 0 rfl) ?_
  refine lv_iconst (v := 3) hx hb dL_law_387 (by decide) ?_
  refine v_iadd hx hb dL_law_388 3 (by decide +kernel) ?_
  refine va_sld hx hb hX0 hbl hbA hS (vin (by decide +kernel)) dL_law_389 ?_
  refine tvi (v := y2) e_y2 ?_
  refine kV_i (q0 := 0) ⟨hx, hb, hml, hown, hts⟩ hK hP hD hS hA hX cv_RL_41 [0, 52, 63] [86, 66] (wr := [(qm, .inr (9, [.ref (v 0), .ref (v 1), .ref (v 2), .ref (v 3), .ref (v 4), .ref (v 5), .ref (v 6), .ref (v 7), .ref (v 8), .ref (v 9), .ref (v 10), .ref (v 11), .int 1, .int 0, .int 0, .ref (v 12), .ref (v 13), .ref (v 14), .ref (v 15), .ref (v 16), .ref (v 17), .int 0, .int 0, .ref (v 18), .ref (v 19), .ref (v 20), .ref (v 21), .int 0, .int 0, .ref (v 22), .ref (v 23), .ref (v 24), .ref (v 25), .int 0, .ref (v 26), .int 0])), ((v 7), .inl (cI, 8, .inl (tb [])))]) rfl rfl rfl rfl (by decide) (c053_X8_tray l dC dI cI cJ cII cJJ H.size 0 qx (u 51) (u 62) (u 0) (u 10) (u 28) (u 59) (u 60) (u 61) (u 52) (u 57) (u 58) y0 h_y0 y1 h_y1 y2 h_y2) ⟨by decide +kernel, by decide +kernel⟩ rfl rfl (Or.inl rfl) (rest := []) rfl rfl rfl hl.1 rfl (Nat.le_of_ble_eq_true rfl) dL_law_390 ⟨Nat.le_of_ble_eq_true rfl, Nat.le_of_ble_eq_true rfl⟩ (W' := [(qm, .inr (9, [.ref (v 0), .ref (v 1), .ref (v 2), .ref (v 3), .ref (v 4), .ref (v 5), .ref (v 6), .ref (v 7), .ref (v 8), .ref (v 9), .ref (v 10), .ref (v 11), .int 1, .int 0, .int 0, .ref (v 12), .ref (v 13), .ref (v 14), .ref (v 15), .ref (v 16), .ref (v 17), .int 0, .int 0, .ref (v 18), .ref (v 19), .ref (v 20), .ref (v 21), .int 0, .int 0, .ref (v 22), .ref (v 23), .ref (v 24), .ref (v 25), .int 0, .ref (v 26), .int 0])), ((v 7), .inl (cI, 8, .inl (tb [])))]) rfl (fun H locs hP hD hS => ?_)
  refine lv_aload_n hx hb dL_law_393 rfl (lv_at hl 1 rfl) ?_
  refine lv_aload_n hx hb dL_law_394 rfl (lv_at hl 3 rfl) ?_
  refine lv_iload_n hx hb dL_law_395 rfl (lv_at hl 0 rfl) ?_
  refine lv_iconst (v := 1) hx hb dL_law_396 (by decide) ?_
  refine v_iadd hx hb dL_law_397 1 (by decide +kernel) ?_
  refine va_sld hx hb hX0 hbl hbA hS (vin (by decide +kernel)) dL_law_398 ?_
  refine tvi (v := y0) e_y0 ?_
  refine lv_aload_n hx hb dL_law_399 rfl (lv_at hl 3 rfl) ?_
  refine lv_iload_n hx hb dL_law_400 rfl (lv_at hl 0 rfl) ?_
  refine lv_iconst (v := 2) hx hb dL_law_401 (by decide) ?_
  refine v_iadd hx hb dL_law_402 2 (by decide +kernel) ?_
  refine va_sld hx hb hX0 hbl hbA hS (vin (by decide +kernel)) dL_law_403 ?_
  refine tvi (v := y1) e_y1 ?_
  refine lv_aload_n hx hb dL_law_404 rfl (lv_at hl 3 rfl) ?_
  refine lv_iload_n hx hb dL_law_405 rfl (lv_at hl 0 rfl) ?_
  refine lv_iconst (v := 3) hx hb dL_law_406 (by decide) ?_
  refine v_iadd hx hb dL_law_407 3 (by decide +kernel) ?_
  refine va_sld hx hb hX0 hbl hbA hS (vin (by decide +kernel)) dL_law_408 ?_
  refine tvi (v := y2) e_y2 ?_
  refine kV_i (q0 := 0) ⟨hx, hb, hml, hown, hts⟩ hK hP hD hS hA hX cv_RL_44 [0, 1] [] (wr := []) rfl rfl rfl rfl (by decide) (c339_X9_tray l dC dI cI cJ cII cJJ H.size 0 qm (v 7) (v 0) (v 1) (v 2) (v 3) (v 4) (v 5) (v 6) (v 8) (v 9) (v 10) (v 11) (v 12) (v 13) (v 14) (v 15) (v 16) (v 17) (v 18) (v 19) (v 20) (v 21) (v 22) (v 23) (v 24) (v 25) (v 26) y0 h_y0 y1 h_y1 y2 h_y2) ⟨by decide +kernel, by decide +kernel⟩ rfl rfl (Or.inl rfl) (rest := [.int (-2)]) rfl rfl rfl hl.1 rfl (Nat.le_of_ble_eq_true rfl) dL_law_409 ⟨Nat.le_of_ble_eq_true rfl, Nat.le_of_ble_eq_true rfl⟩ (W' := []) rfl (fun H locs hP hD hS => ?_)
  refine t_icmp_eq hx hb dL_law_412 1073 (by decide) rfl ?_
  exact law_end l C0 rfl hS hl
set_option maxRecDepth 100000 in
set_option maxHeartbeats 4000000 in
theorem lr_25 {p : Program} {e : Env} {s : State} {m : MethodId} {below : List Frame} {meth : Method} {c : Code} (l : Launch) {b L : Nat} {xs : Nat → Int32} (C0 : lw_At p s m meth c b L xs) (hL : L = 5) {dC : Nat → ClassId} {dI : Nat → Nat → Nat} {cI cJ cII cJJ : ClassId} {g qx qm : Nat} {u v : Nat → Nat} {H : Heap} {locs : List Loc} {ls : Array Slot} (y0 : Int32) (h_y0 : 0 ≤ y0.toInt ∧ y0.toInt ≤ 3) (e_y0 : xs 1 = y0) (y1 : Int32) (h_y1 : 4 ≤ y1.toInt ∧ y1.toInt ≤ 2147483647) (e_y1 : xs 2 = y1) (y2 : Int32) (h_y2 : -2147483648 ≤ y2.toInt ∧ y2.toInt ≤ 2147483647) (e_y2 : xs 3 = y2) (hK : va_K (dC, dI) vwCl (TY cI cJ cII cJJ) s) (hX : GXA 1 g (AA s) s) (hP : va_P (dC, dI) vwCl (WLD cI cJ cII cJJ qx qm u v) H) (hD : va_D (AA s) (WLD cI cJ cII cJJ qx qm u v)) (hS : va_S (AA s) s.heap H locs) (hl : lv_has ls 4 [(3, .int 0), (2, .ref qm), (1, .ref qx), (0, .ref b)]) : W p l e room_1 s m #[Value.ref b] below meth c H locs 600000 7302250 (lw_Z below #[Value.ref b] s) (F0 m 374 ls []) := by
  obtain ⟨hx, hb, hr, hml, hown, hts0, hX0, hbl, hlocks, hgv⟩ := id C0
  have hts : ∀ w ∈ TT, w.before #[Value.ref b] s = true := fun w h => hts0 w (TT_tbl h)
  have hA : ∀ q : Nat, s.heap.size ≤ q → AA s q := fun _ h => h
  have hbA : ¬ AA s b := Nat.not_le.mpr hbl
  have hown : s.vm.findClass RL = some m.cls := hown
  subst hL
  refine lv_aload_n hx hb dL_law_374 rfl (lv_at hl 2 rfl) ?_
  refine lv_aload_n hx hb dL_law_375 rfl (lv_at hl 3 rfl) ?_
  refine lv_iload_n hx hb dL_law_376 rfl (lv_at hl 0 rfl) ?_
  refine lv_iconst (v := 1) hx hb dL_law_377 (by decide) ?_
  refine v_iadd hx hb dL_law_378 1 (by decide +kernel) ?_
  refine va_sld hx hb hX0 hbl hbA hS (vin (by decide +kernel)) dL_law_379 ?_
  refine tvi (v := y0) e_y0 ?_
  refine lv_aload_n hx hb dL_law_380 rfl (lv_at hl 3 rfl) ?_
  refine lv_iload_n hx hb dL_law_381 rfl (lv_at hl 0 rfl) ?_
  refine lv_iconst (v := 2) hx hb dL_law_382 (by decide) ?_
  refine v_iadd hx hb dL_law_383 2 (by decide +kernel) ?_
  refine va_sld hx hb hX0 hbl hbA hS (vin (by decide +kernel)) dL_law_384 ?_
  refine tvi (v := y1) e_y1 ?_
  refine lv_aload_n hx hb dL_law_385 rfl (lv_at hl 3 rfl) ?_
  refine lv_iload_n hx hb dL_law_386 rfl (lv_at hl 0 rfl) ?_
  refine lv_iconst (v := 3) hx hb dL_law_387 (by decide) ?_
  refine v_iadd hx hb dL_law_388 3 (by decide +kernel) ?_
  refine va_sld hx hb hX0 hbl hbA hS (vin (by decide +kernel)) dL_law_389 ?_
  refine tvi (v := y2) e_y2 ?_
  refine kV_i (q0 := 0) ⟨hx, hb, hml, hown, hts⟩ hK hP hD hS hA hX cv_RL_41 [0, 52, 63] [86, 66] (wr := [(qm, .inr (9, [.ref (v 0), .ref (v 1), .ref (v 2), .ref (v 3), .ref (v 4), .ref (v 5), .ref (v 6), .ref (v 7), .ref (v 8), .ref (v 9), .ref (v 10), .ref (v 11), .int 1, .int 0, .int 0, .ref (v 12), .ref (v 13), .ref (v 14), .ref (v 15), .ref (v 16), .ref (v 17), .int 0, .int 0, .ref (v 18), .ref (v 19), .ref (v 20), .ref (v 21), .int 0, .int 0, .ref (v 22), .ref (v 23), .ref (v 24), .ref (v 25), .int 0, .ref (v 26), .int 0])), ((v 7), .inl (cI, 8, .inl (tb [])))]) rfl rfl rfl rfl (by decide) (c056_X8_tray l dC dI cI cJ cII cJJ H.size 0 qx (u 51) (u 62) (u 0) (u 10) (u 28) (u 59) (u 60) (u 61) (u 52) (u 57) (u 58) y0 h_y0 y1 h_y1 y2 h_y2) ⟨by decide +kernel, by decide +kernel⟩ rfl rfl (Or.inl rfl) (rest := []) rfl rfl rfl hl.1 rfl (Nat.le_of_ble_eq_true rfl) dL_law_390 ⟨Nat.le_of_ble_eq_true rfl, Nat.le_of_ble_eq_true rfl⟩ (W' := [(qm, .inr (9, [.ref (v 0), .ref (v 1), .ref (v 2), .ref (v 3), .ref (v 4), .ref (v 5), .ref (v 6), .ref (v 7), .ref (v 8), .ref (v 9), .ref (v 10), .ref (v 11), .int 1, .int 0, .int 0, .ref (v 12), .ref (v 13), .ref (v 14), .ref (v 15), .ref (v 16), .ref (v 17), .int 0, .int 0, .ref (v 18), .ref (v 19), .ref (v 20), .ref (v 21), .int 0, .int 0, .ref (v 22), .ref (v 23), .ref (v 24), .ref (v 25), .int 0, .ref (v 26), .int 0])), ((v 7), .inl (cI, 8, .inl (tb [])))]) rfl (fun H locs hP hD hS => ?_)
  refine lv_aload_n hx hb dL_law_393 rfl (lv_at hl 1 rfl) ?_
  refine lv_aload_n hx hb dL_law_394 rfl (lv_at hl 3 rfl) ?_
  refine lv_iload_n hx hb dL_law_395 rfl (lv_at hl 0 rfl) ?_
  refine lv_iconst (v := 1) hx hb dL_law_396 (by decide) ?_
  refine v_iadd hx hb dL_law_397 1 (by decide +kernel) ?_
  refine va_sld hx hb hX0 hbl hbA hS (vin (by decide +kernel)) dL_law_398 ?_
  refine tvi (v := y0) e_y0 ?_
  refine lv_aload_n hx hb dL_law_399 rfl (lv_at hl 3 rfl) ?_
  refine lv_iload_n hx hb dL_law_400 rfl (lv_at hl 0 rfl) ?_
  refine lv_iconst (v := 2) hx hb dL_law_401 (by decide) ?_
  refine v_iadd hx hb dL_law_402 2 (by decide +kernel) ?_
  refine va_sld hx hb hX0 hbl hbA hS (vin (by decide +kernel)) dL_law_403 ?_
  refine tvi (v := y1) e_y1 ?_
  refine lv_aload_n hx hb dL_law_404 rfl (lv_at hl 3 rfl) ?_
  refine lv_iload_n hx hb dL_law_405 rfl (lv_at hl 0 rfl) ?_
  refine lv_iconst (v := 3) hx hb dL_law_406 (by decide) ?_
  refine v_iadd hx hb dL_law_407 3 (by decide +kernel) ?_
  refine va_sld hx hb hX0 hbl hbA hS (vin (by decide +kernel)) dL_law_408 ?_
  refine tvi (v := y2) e_y2 ?_
  refine kV_i (q0 := 0) ⟨hx, hb, hml, hown, hts⟩ hK hP hD hS hA hX cv_RL_44 [0, 1] [] (wr := []) rfl rfl rfl rfl (by decide) (c342_X9_tray l dC dI cI cJ cII cJJ H.size 0 qm (v 7) (v 0) (v 1) (v 2) (v 3) (v 4) (v 5) (v 6) (v 8) (v 9) (v 10) (v 11) (v 12) (v 13) (v 14) (v 15) (v 16) (v 17) (v 18) (v 19) (v 20) (v 21) (v 22) (v 23) (v 24) (v 25) (v 26) y0 h_y0 y1 h_y1 y2 h_y2) ⟨by decide +kernel, by decide +kernel⟩ rfl rfl (Or.inl rfl) (rest := [.int (-2)]) rfl rfl rfl hl.1 rfl (Nat.le_of_ble_eq_true rfl) dL_law_409 ⟨Nat.le_of_ble_eq_true rfl, Nat.le_of_ble_eq_true rfl⟩ (W' := []) rfl (fun H locs hP hD hS => ?_)
  refine t_icmp_eq hx hb dL_law_412 1073 (by decide) rfl ?_
  exact law_end l C0 rfl hS hl
set_option maxRecDepth 100000 in
set_option maxHeartbeats 4000000 in
theorem lr_26 {p : Program} {e : Env} {s : State} {m : MethodId} {below : List Frame} {meth : Method} {c : Code} (l : Launch) {b L : Nat} {xs : Nat → Int32} (C0 : lw_At p s m meth c b L xs) (hL : L = 5) {dC : Nat → ClassId} {dI : Nat → Nat → Nat} {cI cJ cII cJJ : ClassId} {g qx qm : Nat} {u v : Nat → Nat} {H : Heap} {locs : List Loc} {ls : Array Slot} (y0 : Int32) (h_y0 : 0 ≤ y0.toInt ∧ y0.toInt ≤ 3) (e_y0 : xs 1 = y0) (y1 : Int32) (h_y1 : 0 ≤ y1.toInt ∧ y1.toInt ≤ 3) (e_y1 : xs 2 = y1) (y2 : Int32) (h_y2 : -2147483648 ≤ y2.toInt ∧ y2.toInt ≤ -1) (e_y2 : xs 3 = y2) (hK : va_K (dC, dI) vwCl (TY cI cJ cII cJJ) s) (hX : GXA 1 g (AA s) s) (hP : va_P (dC, dI) vwCl (WLD cI cJ cII cJJ qx qm u v) H) (hD : va_D (AA s) (WLD cI cJ cII cJJ qx qm u v)) (hS : va_S (AA s) s.heap H locs) (hl : lv_has ls 4 [(3, .int 0), (2, .ref qm), (1, .ref qx), (0, .ref b)]) : W p l e room_1 s m #[Value.ref b] below meth c H locs 600000 7302250 (lw_Z below #[Value.ref b] s) (F0 m 374 ls []) := by
  obtain ⟨hx, hb, hr, hml, hown, hts0, hX0, hbl, hlocks, hgv⟩ := id C0
  have hts : ∀ w ∈ TT, w.before #[Value.ref b] s = true := fun w h => hts0 w (TT_tbl h)
  have hA : ∀ q : Nat, s.heap.size ≤ q → AA s q := fun _ h => h
  have hbA : ¬ AA s b := Nat.not_le.mpr hbl
  have hown : s.vm.findClass RL = some m.cls := hown
  subst hL
  refine lv_aload_n hx hb dL_law_374 rfl (lv_at hl 2 rfl) ?_
  refine lv_aload_n hx hb dL_law_375 rfl (lv_at hl 3 rfl) ?_
  refine lv_iload_n hx hb dL_law_376 rfl (lv_at hl 0 rfl) ?_
  refine lv_iconst (v := 1) hx hb dL_law_377 (by decide) ?_
  refine v_iadd hx hb dL_law_378 1 (by decide +kernel) ?_
  refine va_sld hx hb hX0 hbl hbA hS (vin (by decide +kernel)) dL_law_379 ?_
  refine tvi (v := y0) e_y0 ?_
  refine lv_aload_n hx hb dL_law_380 rfl (lv_at hl 3 rfl) ?_
  refine lv_iload_n hx hb dL_law_381 rfl (lv_at hl 0 rfl) ?_
  refine lv_iconst (v := 2) hx hb dL_law_382 (by decide) ?_
  refine v_iadd hx hb dL_law_383 2 (by decide +kernel) ?_
  refine va_sld hx hb hX0 hbl hbA hS (vin (by decide +kernel)) dL_law_384 ?_
  refine tvi (v := y1) e_y1 ?_
  refine lv_aload_n hx hb dL_law_385 rfl (lv_at hl 3 rfl) ?_
  refine lv_iload_n hx hb dL_law_386 rfl (lv_at hl 0 rfl) ?_
  refine lv_iconst (v := 3) hx hb dL_law_387 (by decide) ?_
  refine v_iadd hx hb dL_law_388 3 (by decide +kernel) ?_
  refine va_sld hx hb hX0 hbl hbA hS (vin (by decide +kernel)) dL_law_389 ?_
  refine tvi (v := y2) e_y2 ?_
  refine kV_i (q0 := 0) ⟨hx, hb, hml, hown, hts⟩ hK hP hD hS hA hX cv_RL_41 [0, 52, 63] [86, 66] (wr := [(qm, .inr (9, [.ref (v 0), .ref (v 1), .ref (v 2), .ref (v 3), .ref (v 4), .ref (v 5), .ref (v 6), .ref (v 7), .ref (v 8), .ref (v 9), .ref (v 10), .ref (v 11), .int 1, .int 0, .int 0, .ref (v 12), .ref (v 13), .ref (v 14), .ref (v 15), .ref (v 16), .ref (v 17), .int 0, .int 0, .ref (v 18), .ref (v 19), .ref (v 20), .ref (v 21), .int 0, .int 0, .ref (v 22), .ref (v 23), .ref (v 24), .ref (v 25), .int 0, .ref (v 26), .int 0])), ((v 7), .inl (cI, 8, .inl (tb [])))]) rfl rfl rfl rfl (by decide) (c057_X8_tray l dC dI cI cJ cII cJJ H.size 0 qx (u 51) (u 62) (u 0) (u 10) (u 28) (u 59) (u 60) (u 61) (u 52) (u 57) (u 58) y0 h_y0 y1 h_y1 y2 h_y2) ⟨by decide +kernel, by decide +kernel⟩ rfl rfl (Or.inl rfl) (rest := []) rfl rfl rfl hl.1 rfl (Nat.le_of_ble_eq_true rfl) dL_law_390 ⟨Nat.le_of_ble_eq_true rfl, Nat.le_of_ble_eq_true rfl⟩ (W' := [(qm, .inr (9, [.ref (v 0), .ref (v 1), .ref (v 2), .ref (v 3), .ref (v 4), .ref (v 5), .ref (v 6), .ref (v 7), .ref (v 8), .ref (v 9), .ref (v 10), .ref (v 11), .int 1, .int 0, .int 0, .ref (v 12), .ref (v 13), .ref (v 14), .ref (v 15), .ref (v 16), .ref (v 17), .int 0, .int 0, .ref (v 18), .ref (v 19), .ref (v 20), .ref (v 21), .int 0, .int 0, .ref (v 22), .ref (v 23), .ref (v 24), .ref (v 25), .int 0, .ref (v 26), .int 0])), ((v 7), .inl (cI, 8, .inl (tb [])))]) rfl (fun H locs hP hD hS => ?_)
  refine lv_aload_n hx hb dL_law_393 rfl (lv_at hl 1 rfl) ?_
  refine lv_aload_n hx hb dL_law_394 rfl (lv_at hl 3 rfl) ?_
  refine lv_iload_n hx hb dL_law_395 rfl (lv_at hl 0 rfl) ?_
  refine lv_iconst (v := 1) hx hb dL_law_396 (by decide) ?_
  refine v_iadd hx hb dL_law_397 1 (by decide +kernel) ?_
  refine va_sld hx hb hX0 hbl hbA hS (vin (by decide +kernel)) dL_law_398 ?_
  refine tvi (v := y0) e_y0 ?_
  refine lv_aload_n hx hb dL_law_399 rfl (lv_at hl 3 rfl) ?_
  refine lv_iload_n hx hb dL_law_400 rfl (lv_at hl 0 rfl) ?_
  refine lv_iconst (v := 2) hx hb dL_law_401 (by decide) ?_
  refine v_iadd hx hb dL_law_402 2 (by decide +kernel) ?_
  refine va_sld hx hb hX0 hbl hbA hS (vin (by decide +kernel)) dL_law_403 ?_
  refine tvi (v := y1) e_y1 ?_
  refine lv_aload_n hx hb dL_law_404 rfl (lv_at hl 3 rfl) ?_
  refine lv_iload_n hx hb dL_law_405 rfl (lv_at hl 0 rfl) ?_
  refine lv_iconst (v := 3) hx hb dL_law_406 (by decide) ?_
  refine v_iadd hx hb dL_law_407 3 (by decide +kernel) ?_
  refine va_sld hx hb hX0 hbl hbA hS (vin (by decide +kernel)) dL_law_408 ?_
  refine tvi (v := y2) e_y2 ?_
  refine kV_i (q0 := 0) ⟨hx, hb, hml, hown, hts⟩ hK hP hD hS hA hX cv_RL_44 [0, 1] [] (wr := []) rfl rfl rfl rfl (by decide) (c343_X9_tray l dC dI cI cJ cII cJJ H.size 0 qm (v 7) (v 0) (v 1) (v 2) (v 3) (v 4) (v 5) (v 6) (v 8) (v 9) (v 10) (v 11) (v 12) (v 13) (v 14) (v 15) (v 16) (v 17) (v 18) (v 19) (v 20) (v 21) (v 22) (v 23) (v 24) (v 25) (v 26) y0 h_y0 y1 h_y1 y2 h_y2) ⟨by decide +kernel, by decide +kernel⟩ rfl rfl (Or.inl rfl) (rest := [.int (-4)]) rfl rfl rfl hl.1 rfl (Nat.le_of_ble_eq_true rfl) dL_law_409 ⟨Nat.le_of_ble_eq_true rfl, Nat.le_of_ble_eq_true rfl⟩ (W' := []) rfl (fun H locs hP hD hS => ?_)
  refine t_icmp_eq hx hb dL_law_412 1073 (by decide) rfl ?_
  exact law_end l C0 rfl hS hl
set_option maxRecDepth 100000 in
set_option maxHeartbeats 4000000 in
theorem lr_27 {p : Program} {e : Env} {s : State} {m : MethodId} {below : List Frame} {meth : Method} {c : Code} (l : Launch) {b L : Nat} {xs : Nat → Int32} (C0 : lw_At p s m meth c b L xs) (hL : L = 5) {dC : Nat → ClassId} {dI : Nat → Nat → Nat} {cI cJ cII cJJ : ClassId} {g qx qm : Nat} {u v : Nat → Nat} {H : Heap} {locs : List Loc} {ls : Array Slot} (y0 : Int32) (h_y0 : 0 ≤ y0.toInt ∧ y0.toInt ≤ 3) (e_y0 : xs 1 = y0) (y1 : Int32) (h_y1 : 0 ≤ y1.toInt ∧ y1.toInt ≤ 3) (e_y1 : xs 2 = y1) (y2 : Int32) (h_y2 : 21 ≤ y2.toInt ∧ y2.toInt ≤ 2147483647) (e_y2 : xs 3 = y2) (hK : va_K (dC, dI) vwCl (TY cI cJ cII cJJ) s) (hX : GXA 1 g (AA s) s) (hP : va_P (dC, dI) vwCl (WLD cI cJ cII cJJ qx qm u v) H) (hD : va_D (AA s) (WLD cI cJ cII cJJ qx qm u v)) (hS : va_S (AA s) s.heap H locs) (hl : lv_has ls 4 [(3, .int 0), (2, .ref qm), (1, .ref qx), (0, .ref b)]) : W p l e room_1 s m #[Value.ref b] below meth c H locs 600000 7302250 (lw_Z below #[Value.ref b] s) (F0 m 374 ls []) := by
  obtain ⟨hx, hb, hr, hml, hown, hts0, hX0, hbl, hlocks, hgv⟩ := id C0
  have hts : ∀ w ∈ TT, w.before #[Value.ref b] s = true := fun w h => hts0 w (TT_tbl h)
  have hA : ∀ q : Nat, s.heap.size ≤ q → AA s q := fun _ h => h
  have hbA : ¬ AA s b := Nat.not_le.mpr hbl
  have hown : s.vm.findClass RL = some m.cls := hown
  subst hL
  refine lv_aload_n hx hb dL_law_374 rfl (lv_at hl 2 rfl) ?_
  refine lv_aload_n hx hb dL_law_375 rfl (lv_at hl 3 rfl) ?_
  refine lv_iload_n hx hb dL_law_376 rfl (lv_at hl 0 rfl) ?_
  refine lv_iconst (v := 1) hx hb dL_law_377 (by decide) ?_
  refine v_iadd hx hb dL_law_378 1 (by decide +kernel) ?_
  refine va_sld hx hb hX0 hbl hbA hS (vin (by decide +kernel)) dL_law_379 ?_
  refine tvi (v := y0) e_y0 ?_
  refine lv_aload_n hx hb dL_law_380 rfl (lv_at hl 3 rfl) ?_
  refine lv_iload_n hx hb dL_law_381 rfl (lv_at hl 0 rfl) ?_
  refine lv_iconst (v := 2) hx hb dL_law_382 (by decide) ?_
  refine v_iadd hx hb dL_law_383 2 (by decide +kernel) ?_
  refine va_sld hx hb hX0 hbl hbA hS (vin (by decide +kernel)) dL_law_384 ?_
  refine tvi (v := y1) e_y1 ?_
  refine lv_aload_n hx hb dL_law_385 rfl (lv_at hl 3 rfl) ?_
  refine lv_iload_n hx hb dL_law_386 rfl (lv_at hl 0 rfl) ?_
  refine lv_iconst (v := 3) hx hb dL_law_387 (by decide) ?_
  refine v_iadd hx hb dL_law_388 3 (by decide +kernel) ?_
  refine va_sld hx hb hX0 hbl hbA hS (vin (by decide +kernel)) dL_law_389 ?_
  refine tvi (v := y2) e_y2 ?_
  refine kV_i (q0 := 0) ⟨hx, hb, hml, hown, hts⟩ hK hP hD hS hA hX cv_RL_41 [0, 52, 63] [86, 66] (wr := [(qm, .inr (9, [.ref (v 0), .ref (v 1), .ref (v 2), .ref (v 3), .ref (v 4), .ref (v 5), .ref (v 6), .ref (v 7), .ref (v 8), .ref (v 9), .ref (v 10), .ref (v 11), .int 1, .int 0, .int 0, .ref (v 12), .ref (v 13), .ref (v 14), .ref (v 15), .ref (v 16), .ref (v 17), .int 0, .int 0, .ref (v 18), .ref (v 19), .ref (v 20), .ref (v 21), .int 0, .int 0, .ref (v 22), .ref (v 23), .ref (v 24), .ref (v 25), .int 0, .ref (v 26), .int 0])), ((v 7), .inl (cI, 8, .inl (tb [])))]) rfl rfl rfl rfl (by decide) (c058_X8_tray l dC dI cI cJ cII cJJ H.size 0 qx (u 51) (u 62) (u 0) (u 10) (u 28) (u 59) (u 60) (u 61) (u 52) (u 57) (u 58) y0 h_y0 y1 h_y1 y2 h_y2) ⟨by decide +kernel, by decide +kernel⟩ rfl rfl (Or.inl rfl) (rest := []) rfl rfl rfl hl.1 rfl (Nat.le_of_ble_eq_true rfl) dL_law_390 ⟨Nat.le_of_ble_eq_true rfl, Nat.le_of_ble_eq_true rfl⟩ (W' := [(qm, .inr (9, [.ref (v 0), .ref (v 1), .ref (v 2), .ref (v 3), .ref (v 4), .ref (v 5), .ref (v 6), .ref (v 7), .ref (v 8), .ref (v 9), .ref (v 10), .ref (v 11), .int 1, .int 0, .int 0, .ref (v 12), .ref (v 13), .ref (v 14), .ref (v 15), .ref (v 16), .ref (v 17), .int 0, .int 0, .ref (v 18), .ref (v 19), .ref (v 20), .ref (v 21), .int 0, .int 0, .ref (v 22), .ref (v 23), .ref (v 24), .ref (v 25), .int 0, .ref (v 26), .int 0])), ((v 7), .inl (cI, 8, .inl (tb [])))]) rfl (fun H locs hP hD hS => ?_)
  refine lv_aload_n hx hb dL_law_393 rfl (lv_at hl 1 rfl) ?_
  refine lv_aload_n hx hb dL_law_394 rfl (lv_at hl 3 rfl) ?_
  refine lv_iload_n hx hb dL_law_395 rfl (lv_at hl 0 rfl) ?_
  refine lv_iconst (v := 1) hx hb dL_law_396 (by decide) ?_
  refine v_iadd hx hb dL_law_397 1 (by decide +kernel) ?_
  refine va_sld hx hb hX0 hbl hbA hS (vin (by decide +kernel)) dL_law_398 ?_
  refine tvi (v := y0) e_y0 ?_
  refine lv_aload_n hx hb dL_law_399 rfl (lv_at hl 3 rfl) ?_
  refine lv_iload_n hx hb dL_law_400 rfl (lv_at hl 0 rfl) ?_
  refine lv_iconst (v := 2) hx hb dL_law_401 (by decide) ?_
  refine v_iadd hx hb dL_law_402 2 (by decide +kernel) ?_
  refine va_sld hx hb hX0 hbl hbA hS (vin (by decide +kernel)) dL_law_403 ?_
  refine tvi (v := y1) e_y1 ?_
  refine lv_aload_n hx hb dL_law_404 rfl (lv_at hl 3 rfl) ?_
  refine lv_iload_n hx hb dL_law_405 rfl (lv_at hl 0 rfl) ?_
  refine lv_iconst (v := 3) hx hb dL_law_406 (by decide) ?_
  refine v_iadd hx hb dL_law_407 3 (by decide +kernel) ?_
  refine va_sld hx hb hX0 hbl hbA hS (vin (by decide +kernel)) dL_law_408 ?_
  refine tvi (v := y2) e_y2 ?_
  refine kV_i (q0 := 0) ⟨hx, hb, hml, hown, hts⟩ hK hP hD hS hA hX cv_RL_44 [0, 1] [] (wr := []) rfl rfl rfl rfl (by decide) (c344_X9_tray l dC dI cI cJ cII cJJ H.size 0 qm (v 7) (v 0) (v 1) (v 2) (v 3) (v 4) (v 5) (v 6) (v 8) (v 9) (v 10) (v 11) (v 12) (v 13) (v 14) (v 15) (v 16) (v 17) (v 18) (v 19) (v 20) (v 21) (v 22) (v 23) (v 24) (v 25) (v 26) y0 h_y0 y1 h_y1 y2 h_y2) ⟨by decide +kernel, by decide +kernel⟩ rfl rfl (Or.inl rfl) (rest := [.int (-6)]) rfl rfl rfl hl.1 rfl (Nat.le_of_ble_eq_true rfl) dL_law_409 ⟨Nat.le_of_ble_eq_true rfl, Nat.le_of_ble_eq_true rfl⟩ (W' := []) rfl (fun H locs hP hD hS => ?_)
  refine t_icmp_eq hx hb dL_law_412 1073 (by decide) rfl ?_
  exact law_end l C0 rfl hS hl
set_option maxRecDepth 100000 in
set_option maxHeartbeats 4000000 in
theorem lr_28 {p : Program} {e : Env} {s : State} {m : MethodId} {below : List Frame} {meth : Method} {c : Code} (l : Launch) {b L : Nat} {xs : Nat → Int32} (C0 : lw_At p s m meth c b L xs) (hL : L = 5) {dC : Nat → ClassId} {dI : Nat → Nat → Nat} {cI cJ cII cJJ : ClassId} {g qx qm : Nat} {u v : Nat → Nat} {H : Heap} {locs : List Loc} {ls : Array Slot} (e_y0 : xs 1 = 0) (y1 : Int32) (h_y1 : 0 ≤ y1.toInt ∧ y1.toInt ≤ 3) (e_y1 : xs 2 = y1) (y2 : Int32) (h_y2 : 0 ≤ y2.toInt ∧ y2.toInt ≤ 20) (e_y2 : xs 3 = y2) (hK : va_K (dC, dI) vwCl (TY cI cJ cII cJJ) s) (hX : GXA 1 g (AA s) s) (hP : va_P (dC, dI) vwCl (WLD cI cJ cII cJJ qx qm u v) H) (hD : va_D (AA s) (WLD cI cJ cII cJJ qx qm u v)) (hS : va_S (AA s) s.heap H locs) (hl : lv_has ls 4 [(3, .int 0), (2, .ref qm), (1, .ref qx), (0, .ref b)]) : W p l e room_1 s m #[Value.ref b] below meth c H locs 600000 7302250 (lw_Z below #[Value.ref b] s) (F0 m 374 ls []) := by
  obtain ⟨hx, hb, hr, hml, hown, hts0, hX0, hbl, hlocks, hgv⟩ := id C0
  have hts : ∀ w ∈ TT, w.before #[Value.ref b] s = true := fun w h => hts0 w (TT_tbl h)
  have hA : ∀ q : Nat, s.heap.size ≤ q → AA s q := fun _ h => h
  have hbA : ¬ AA s b := Nat.not_le.mpr hbl
  have hown : s.vm.findClass RL = some m.cls := hown
  subst hL
  refine lv_aload_n hx hb dL_law_374 rfl (lv_at hl 2 rfl) ?_
  refine lv_aload_n hx hb dL_law_375 rfl (lv_at hl 3 rfl) ?_
  refine lv_iload_n hx hb dL_law_376 rfl (lv_at hl 0 rfl) ?_
  refine lv_iconst (v := 1) hx hb dL_law_377 (by decide) ?_
  refine v_iadd hx hb dL_law_378 1 (by decide +kernel) ?_
  refine va_sld hx hb hX0 hbl hbA hS (vin (by decide +kernel)) dL_law_379 ?_
  refine tvi (v := 0) e_y0 ?_
  refine lv_aload_n hx hb dL_law_380 rfl (lv_at hl 3 rfl) ?_
  refine lv_iload_n hx hb dL_law_381 rfl (lv_at hl 0 rfl) ?_
  refine lv_iconst (v := 2) hx hb dL_law_382 (by decide) ?_
  refine v_iadd hx hb dL_law_383 2 (by decide +kernel) ?_
  refine va_sld hx hb hX0 hbl hbA hS (vin (by decide +kernel)) dL_law_384 ?_
  refine tvi (v := y1) e_y1 ?_
  refine lv_aload_n hx hb dL_law_385 rfl (lv_at hl 3 rfl) ?_
  refine lv_iload_n hx hb dL_law_386 rfl (lv_at hl 0 rfl) ?_
  refine lv_iconst (v := 3) hx hb dL_law_387 (by decide) ?_
  refine v_iadd hx hb dL_law_388 3 (by decide +kernel) ?_
  refine va_sld hx hb hX0 hbl hbA hS (vin (by decide +kernel)) dL_law_389 ?_
  refine tvi (v := y2) e_y2 ?_
  refine kV_i (q0 := 0) ⟨hx, hb, hml, hown, hts⟩ hK hP hD hS hA hX cv_RL_41 [0, 52, 58, 59, 53, 54] [86, 67, 68, 69] (wr := [(qm, .inr (9, [.ref (v 0), .ref (v 1), .ref (v 2), .ref (v 3), .ref (v 4), .ref (v 5), .ref (v 6), .ref (v 7), .ref (v 8), .ref (v 9), .ref (v 10), .ref (v 11), .int 1, .int 0, .int 0, .ref (v 12), .ref (v 13), .ref (v 14), .ref (v 15), .ref (v 16), .ref (v 17), .int 0, .int 0, .ref (v 18), .ref (v 19), .ref (v 20), .ref (v 21), .int 0, .int 0, .ref (v 22), .ref (v 23), .ref (v 24), .ref (v 25), .int 0, .ref (v 26), .int 0])), ((v 8), .inl (cI, 4, .inl (tb [(-1), (-1), (-1), (-1)]))), ((v 9), .inl (cI, 4, .inl (tb []))), ((v 10), .inl (cJ, 80, .inr (.inl (tbl []))))]) rfl rfl rfl rfl (by decide) (c059_X8_tray l dC dI cI cJ cII cJJ H.size 0 qx (u 51) (u 57) (u 58) (u 52) (u 53) (u 0) (u 10) (u 28) (u 59) (u 60) (u 61) (u 62) (u 54) (u 55) (u 56) y1 h_y1 y2 h_y2) ⟨by decide +kernel, by decide +kernel⟩ rfl rfl (Or.inl rfl) (rest := []) rfl rfl rfl hl.1 rfl (Nat.le_of_ble_eq_true rfl) dL_law_390 ⟨Nat.le_of_ble_eq_true rfl, Nat.le_of_ble_eq_true rfl⟩ (W' := [(qm, .inr (9, [.ref (v 0), .ref (v 1), .ref (v 2), .ref (v 3), .ref (v 4), .ref (v 5), .ref (v 6), .ref (v 7), .ref (v 8), .ref (v 9), .ref (v 10), .ref (v 11), .int 1, .int 0, .int 0, .ref (v 12), .ref (v 13), .ref (v 14), .ref (v 15), .ref (v 16), .ref (v 17), .int 0, .int 0, .ref (v 18), .ref (v 19), .ref (v 20), .ref (v 21), .int 0, .int 0, .ref (v 22), .ref (v 23), .ref (v 24), .ref (v 25), .int 0, .ref (v 26), .int 0])), ((v 8), .inl (cI, 4, .inl (tb [(-1), (-1), (-1), (-1)]))), ((v 9), .inl (cI, 4, .inl (tb []))), ((v 10), .inl (cJ, 80, .inr (.inl (tbl []))))]) rfl (fun H locs hP hD hS => ?_)
  refine lv_aload_n hx hb dL_law_393 rfl (lv_at hl 1 rfl) ?_
  refine lv_aload_n hx hb dL_law_394 rfl (lv_at hl 3 rfl) ?_
  refine lv_iload_n hx hb dL_law_395 rfl (lv_at hl 0 rfl) ?_
  refine lv_iconst (v := 1) hx hb dL_law_396 (by decide) ?_
  refine v_iadd hx hb dL_law_397 1 (by decide +kernel) ?_
  refine va_sld hx hb hX0 hbl hbA hS (vin (by decide +kernel)) dL_law_398 ?_
  refine tvi (v := 0) e_y0 ?_
  refine lv_aload_n hx hb dL_law_399 rfl (lv_at hl 3 rfl) ?_
  refine lv_iload_n hx hb dL_law_400 rfl (lv_at hl 0 rfl) ?_
  refine lv_iconst (v := 2) hx hb dL_law_401 (by decide) ?_
  refine v_iadd hx hb dL_law_402 2 (by decide +kernel) ?_
  refine va_sld hx hb hX0 hbl hbA hS (vin (by decide +kernel)) dL_law_403 ?_
  refine tvi (v := y1) e_y1 ?_
  refine lv_aload_n hx hb dL_law_404 rfl (lv_at hl 3 rfl) ?_
  refine lv_iload_n hx hb dL_law_405 rfl (lv_at hl 0 rfl) ?_
  refine lv_iconst (v := 3) hx hb dL_law_406 (by decide) ?_
  refine v_iadd hx hb dL_law_407 3 (by decide +kernel) ?_
  refine va_sld hx hb hX0 hbl hbA hS (vin (by decide +kernel)) dL_law_408 ?_
  refine tvi (v := y2) e_y2 ?_
  refine kV_i (q0 := 0) ⟨hx, hb, hml, hown, hts⟩ hK hP hD hS hA hX cv_RL_44 [0, 1, 2, 3] [] (wr := []) rfl rfl rfl rfl (by decide) (c345_X9_tray l dC dI cI cJ cII cJJ H.size 0 qm (v 8) (v 9) (v 10) (v 0) (v 1) (v 2) (v 3) (v 4) (v 5) (v 6) (v 7) (v 11) (v 12) (v 13) (v 14) (v 15) (v 16) (v 17) (v 18) (v 19) (v 20) (v 21) (v 22) (v 23) (v 24) (v 25) (v 26) y1 h_y1 y2 h_y2) ⟨by decide +kernel, by decide +kernel⟩ rfl rfl (Or.inl rfl) (rest := [.int 1]) rfl rfl rfl hl.1 rfl (Nat.le_of_ble_eq_true rfl) dL_law_409 ⟨Nat.le_of_ble_eq_true rfl, Nat.le_of_ble_eq_true rfl⟩ (W' := []) rfl (fun H locs hP hD hS => ?_)
  refine t_icmp_eq hx hb dL_law_412 1073 (by decide) rfl ?_
  exact law_end l C0 rfl hS hl
set_option maxRecDepth 100000 in
set_option maxHeartbeats 4000000 in
theorem lr_29 {p : Program} {e : Env} {s : State} {m : MethodId} {below : List Frame} {meth : Method} {c : Code} (l : Launch) {b L : Nat} {xs : Nat → Int32} (C0 : lw_At p s m meth c b L xs) (hL : L = 5) {dC : Nat → ClassId} {dI : Nat → Nat → Nat} {cI cJ cII cJJ : ClassId} {g qx qm : Nat} {u v : Nat → Nat} {H : Heap} {locs : List Loc} {ls : Array Slot} (e_y0 : xs 1 = 1) (y1 : Int32) (h_y1 : 0 ≤ y1.toInt ∧ y1.toInt ≤ 3) (e_y1 : xs 2 = y1) (y2 : Int32) (h_y2 : 0 ≤ y2.toInt ∧ y2.toInt ≤ 20) (e_y2 : xs 3 = y2) (hK : va_K (dC, dI) vwCl (TY cI cJ cII cJJ) s) (hX : GXA 1 g (AA s) s) (hP : va_P (dC, dI) vwCl (WLD cI cJ cII cJJ qx qm u v) H) (hD : va_D (AA s) (WLD cI cJ cII cJJ qx qm u v)) (hS : va_S (AA s) s.heap H locs) (hl : lv_has ls 4 [(3, .int 0), (2, .ref qm), (1, .ref qx), (0, .ref b)]) : W p l e room_1 s m #[Value.ref b] below meth c H locs 600000 7302250 (lw_Z below #[Value.ref b] s) (F0 m 374 ls []) := by
  obtain ⟨hx, hb, hr, hml, hown, hts0, hX0, hbl, hlocks, hgv⟩ := id C0
  have hts : ∀ w ∈ TT, w.before #[Value.ref b] s = true := fun w h => hts0 w (TT_tbl h)
  have hA : ∀ q : Nat, s.heap.size ≤ q → AA s q := fun _ h => h
  have hbA : ¬ AA s b := Nat.not_le.mpr hbl
  have hown : s.vm.findClass RL = some m.cls := hown
  subst hL
  refine lv_aload_n hx hb dL_law_374 rfl (lv_at hl 2 rfl) ?_
  refine lv_aload_n hx hb dL_law_375 rfl (lv_at hl 3 rfl) ?_
  refine lv_iload_n hx hb dL_law_376 rfl (lv_at hl 0 rfl) ?_
  refine lv_iconst (v := 1) hx hb dL_law_377 (by decide) ?_
  refine v_iadd hx hb dL_law_378 1 (by decide +kernel) ?_
  refine va_sld hx hb hX0 hbl hbA hS (vin (by decide +kernel)) dL_law_379 ?_
  refine tvi (v := 1) e_y0 ?_
  refine lv_aload_n hx hb dL_law_380 rfl (lv_at hl 3 rfl) ?_
  refine lv_iload_n hx hb dL_law_381 rfl (lv_at hl 0 rfl) ?_
  refine lv_iconst (v := 2) hx hb dL_law_382 (by decide) ?_
  refine v_iadd hx hb dL_law_383 2 (by decide +kernel) ?_
  refine va_sld hx hb hX0 hbl hbA hS (vin (by decide +kernel)) dL_law_384 ?_
  refine tvi (v := y1) e_y1 ?_
  refine lv_aload_n hx hb dL_law_385 rfl (lv_at hl 3 rfl) ?_
  refine lv_iload_n hx hb dL_law_386 rfl (lv_at hl 0 rfl) ?_
  refine lv_iconst (v := 3) hx hb dL_law_387 (by decide) ?_
  refine v_iadd hx hb dL_law_388 3 (by decide +kernel) ?_
  refine va_sld hx hb hX0 hbl hbA hS (vin (by decide +kernel)) dL_law_389 ?_
  refine tvi (v := y2) e_y2 ?_
  refine kV_i (q0 := 0) ⟨hx, hb, hml, hown, hts⟩ hK hP hD hS hA hX cv_RL_41 [0, 52, 58, 59, 53, 55] [86, 67, 68, 69] (wr := [(qm, .inr (9, [.ref (v 0), .ref (v 1), .ref (v 2), .ref (v 3), .ref (v 4), .ref (v 5), .ref (v 6), .ref (v 7), .ref (v 8), .ref (v 9), .ref (v 10), .ref (v 11), .int 1, .int 0, .int 0, .ref (v 12), .ref (v 13), .ref (v 14), .ref (v 15), .ref (v 16), .ref (v 17), .int 0, .int 0, .ref (v 18), .ref (v 19), .ref (v 20), .ref (v 21), .int 0, .int 0, .ref (v 22), .ref (v 23), .ref (v 24), .ref (v 25), .int 0, .ref (v 26), .int 0])), ((v 8), .inl (cI, 4, .inl (tb [(-1), (-1), (-1), (-1)]))), ((v 9), .inl (cI, 4, .inl (tb []))), ((v 10), .inl (cJ, 80, .inr (.inl (tbl []))))]) rfl rfl rfl rfl (by decide) (c063_X8_tray l dC dI cI cJ cII cJJ H.size 0 qx (u 51) (u 57) (u 58) (u 52) (u 54) (u 0) (u 10) (u 28) (u 59) (u 60) (u 61) (u 62) (u 53) (u 55) (u 56) y1 h_y1 y2 h_y2) ⟨by decide +kernel, by decide +kernel⟩ rfl rfl (Or.inl rfl) (rest := []) rfl rfl rfl hl.1 rfl (Nat.le_of_ble_eq_true rfl) dL_law_390 ⟨Nat.le_of_ble_eq_true rfl, Nat.le_of_ble_eq_true rfl⟩ (W' := [(qm, .inr (9, [.ref (v 0), .ref (v 1), .ref (v 2), .ref (v 3), .ref (v 4), .ref (v 5), .ref (v 6), .ref (v 7), .ref (v 8), .ref (v 9), .ref (v 10), .ref (v 11), .int 1, .int 0, .int 0, .ref (v 12), .ref (v 13), .ref (v 14), .ref (v 15), .ref (v 16), .ref (v 17), .int 0, .int 0, .ref (v 18), .ref (v 19), .ref (v 20), .ref (v 21), .int 0, .int 0, .ref (v 22), .ref (v 23), .ref (v 24), .ref (v 25), .int 0, .ref (v 26), .int 0])), ((v 8), .inl (cI, 4, .inl (tb [(-1), (-1), (-1), (-1)]))), ((v 9), .inl (cI, 4, .inl (tb []))), ((v 10), .inl (cJ, 80, .inr (.inl (tbl []))))]) rfl (fun H locs hP hD hS => ?_)
  refine lv_aload_n hx hb dL_law_393 rfl (lv_at hl 1 rfl) ?_
  refine lv_aload_n hx hb dL_law_394 rfl (lv_at hl 3 rfl) ?_
  refine lv_iload_n hx hb dL_law_395 rfl (lv_at hl 0 rfl) ?_
  refine lv_iconst (v := 1) hx hb dL_law_396 (by decide) ?_
  refine v_iadd hx hb dL_law_397 1 (by decide +kernel) ?_
  refine va_sld hx hb hX0 hbl hbA hS (vin (by decide +kernel)) dL_law_398 ?_
  refine tvi (v := 1) e_y0 ?_
  refine lv_aload_n hx hb dL_law_399 rfl (lv_at hl 3 rfl) ?_
  refine lv_iload_n hx hb dL_law_400 rfl (lv_at hl 0 rfl) ?_
  refine lv_iconst (v := 2) hx hb dL_law_401 (by decide) ?_
  refine v_iadd hx hb dL_law_402 2 (by decide +kernel) ?_
  refine va_sld hx hb hX0 hbl hbA hS (vin (by decide +kernel)) dL_law_403 ?_
  refine tvi (v := y1) e_y1 ?_
  refine lv_aload_n hx hb dL_law_404 rfl (lv_at hl 3 rfl) ?_
  refine lv_iload_n hx hb dL_law_405 rfl (lv_at hl 0 rfl) ?_
  refine lv_iconst (v := 3) hx hb dL_law_406 (by decide) ?_
  refine v_iadd hx hb dL_law_407 3 (by decide +kernel) ?_
  refine va_sld hx hb hX0 hbl hbA hS (vin (by decide +kernel)) dL_law_408 ?_
  refine tvi (v := y2) e_y2 ?_
  refine kV_i (q0 := 0) ⟨hx, hb, hml, hown, hts⟩ hK hP hD hS hA hX cv_RL_44 [0, 1, 2, 3] [] (wr := []) rfl rfl rfl rfl (by decide) (c347_X9_tray l dC dI cI cJ cII cJJ H.size 0 qm (v 8) (v 9) (v 10) (v 0) (v 1) (v 2) (v 3) (v 4) (v 5) (v 6) (v 7) (v 11) (v 12) (v 13) (v 14) (v 15) (v 16) (v 17) (v 18) (v 19) (v 20) (v 21) (v 22) (v 23) (v 24) (v 25) (v 26) y1 h_y1 y2 h_y2) ⟨by decide +kernel, by decide +kernel⟩ rfl rfl (Or.inl rfl) (rest := [.int 1]) rfl rfl rfl hl.1 rfl (Nat.le_of_ble_eq_true rfl) dL_law_409 ⟨Nat.le_of_ble_eq_true rfl, Nat.le_of_ble_eq_true rfl⟩ (W' := []) rfl (fun H locs hP hD hS => ?_)
  refine t_icmp_eq hx hb dL_law_412 1073 (by decide) rfl ?_
  exact law_end l C0 rfl hS hl
set_option maxRecDepth 100000 in
set_option maxHeartbeats 4000000 in
theorem lr_30 {p : Program} {e : Env} {s : State} {m : MethodId} {below : List Frame} {meth : Method} {c : Code} (l : Launch) {b L : Nat} {xs : Nat → Int32} (C0 : lw_At p s m meth c b L xs) (hL : L = 5) {dC : Nat → ClassId} {dI : Nat → Nat → Nat} {cI cJ cII cJJ : ClassId} {g qx qm : Nat} {u v : Nat → Nat} {H : Heap} {locs : List Loc} {ls : Array Slot} (e_y0 : xs 1 = 2) (y1 : Int32) (h_y1 : 0 ≤ y1.toInt ∧ y1.toInt ≤ 3) (e_y1 : xs 2 = y1) (y2 : Int32) (h_y2 : 0 ≤ y2.toInt ∧ y2.toInt ≤ 20) (e_y2 : xs 3 = y2) (hK : va_K (dC, dI) vwCl (TY cI cJ cII cJJ) s) (hX : GXA 1 g (AA s) s) (hP : va_P (dC, dI) vwCl (WLD cI cJ cII cJJ qx qm u v) H) (hD : va_D (AA s) (WLD cI cJ cII cJJ qx qm u v)) (hS : va_S (AA s) s.heap H locs) (hl : lv_has ls 4 [(3, .int 0), (2, .ref qm), (1, .ref qx), (0, .ref b)]) : W p l e room_1 s m #[Value.ref b] below meth c H locs 600000 7302250 (lw_Z below #[Value.ref b] s) (F0 m 374 ls []) := by
  obtain ⟨hx, hb, hr, hml, hown, hts0, hX0, hbl, hlocks, hgv⟩ := id C0
  have hts : ∀ w ∈ TT, w.before #[Value.ref b] s = true := fun w h => hts0 w (TT_tbl h)
  have hA : ∀ q : Nat, s.heap.size ≤ q → AA s q := fun _ h => h
  have hbA : ¬ AA s b := Nat.not_le.mpr hbl
  have hown : s.vm.findClass RL = some m.cls := hown
  subst hL
  refine lv_aload_n hx hb dL_law_374 rfl (lv_at hl 2 rfl) ?_
  refine lv_aload_n hx hb dL_law_375 rfl (lv_at hl 3 rfl) ?_
  refine lv_iload_n hx hb dL_law_376 rfl (lv_at hl 0 rfl) ?_
  refine lv_iconst (v := 1) hx hb dL_law_377 (by decide) ?_
  refine v_iadd hx hb dL_law_378 1 (by decide +kernel) ?_
  refine va_sld hx hb hX0 hbl hbA hS (vin (by decide +kernel)) dL_law_379 ?_
  refine tvi (v := 2) e_y0 ?_
  refine lv_aload_n hx hb dL_law_380 rfl (lv_at hl 3 rfl) ?_
  refine lv_iload_n hx hb dL_law_381 rfl (lv_at hl 0 rfl) ?_
  refine lv_iconst (v := 2) hx hb dL_law_382 (by decide) ?_
  refine v_iadd hx hb dL_law_383 2 (by decide +kernel) ?_
  refine va_sld hx hb hX0 hbl hbA hS (vin (by decide +kernel)) dL_law_384 ?_
  refine tvi (v := y1) e_y1 ?_
  refine lv_aload_n hx hb dL_law_385 rfl (lv_at hl 3 rfl) ?_
  refine lv_iload_n hx hb dL_law_386 rfl (lv_at hl 0 rfl) ?_
  refine lv_iconst (v := 3) hx hb dL_law_387 (by decide) ?_
  refine v_iadd hx hb dL_law_388 3 (by decide +kernel) ?_
  refine va_sld hx hb hX0 hbl hbA hS (vin (by decide +kernel)) dL_law_389 ?_
  refine tvi (v := y2) e_y2 ?_
  refine kV_i (q0 := 0) ⟨hx, hb, hml, hown, hts⟩ hK hP hD hS hA hX cv_RL_41 [0, 52, 58, 59, 53, 56] [86, 67, 68, 69] (wr := [(qm, .inr (9, [.ref (v 0), .ref (v 1), .ref (v 2), .ref (v 3), .ref (v 4), .ref (v 5), .ref (v 6), .ref (v 7), .ref (v 8), .ref (v 9), .ref (v 10), .ref (v 11), .int 1, .int 0, .int 0, .ref (v 12), .ref (v 13), .ref (v 14), .ref (v 15), .ref (v 16), .ref (v 17), .int 0, .int 0, .ref (v 18), .ref (v 19), .ref (v 20), .ref (v 21), .int 0, .int 0, .ref (v 22), .ref (v 23), .ref (v 24), .ref (v 25), .int 0, .ref (v 26), .int 0])), ((v 8), .inl (cI, 4, .inl (tb [(-1), (-1), (-1), (-1)]))), ((v 9), .inl (cI, 4, .inl (tb []))), ((v 10), .inl (cJ, 80, .inr (.inl (tbl []))))]) rfl rfl rfl rfl (by decide) (c066_X8_tray l dC dI cI cJ cII cJJ H.size 0 qx (u 51) (u 57) (u 58) (u 52) (u 55) (u 0) (u 10) (u 28) (u 59) (u 60) (u 61) (u 62) (u 53) (u 54) (u 56) y1 h_y1 y2 h_y2) ⟨by decide +kernel, by decide +kernel⟩ rfl rfl (Or.inl rfl) (rest := []) rfl rfl rfl hl.1 rfl (Nat.le_of_ble_eq_true rfl) dL_law_390 ⟨Nat.le_of_ble_eq_true rfl, Nat.le_of_ble_eq_true rfl⟩ (W' := [(qm, .inr (9, [.ref (v 0), .ref (v 1), .ref (v 2), .ref (v 3), .ref (v 4), .ref (v 5), .ref (v 6), .ref (v 7), .ref (v 8), .ref (v 9), .ref (v 10), .ref (v 11), .int 1, .int 0, .int 0, .ref (v 12), .ref (v 13), .ref (v 14), .ref (v 15), .ref (v 16), .ref (v 17), .int 0, .int 0, .ref (v 18), .ref (v 19), .ref (v 20), .ref (v 21), .int 0, .int 0, .ref (v 22), .ref (v 23), .ref (v 24), .ref (v 25), .int 0, .ref (v 26), .int 0])), ((v 8), .inl (cI, 4, .inl (tb [(-1), (-1), (-1), (-1)]))), ((v 9), .inl (cI, 4, .inl (tb []))), ((v 10), .inl (cJ, 80, .inr (.inl (tbl []))))]) rfl (fun H locs hP hD hS => ?_)
  refine lv_aload_n hx hb dL_law_393 rfl (lv_at hl 1 rfl) ?_
  refine lv_aload_n hx hb dL_law_394 rfl (lv_at hl 3 rfl) ?_
  refine lv_iload_n hx hb dL_law_395 rfl (lv_at hl 0 rfl) ?_
  refine lv_iconst (v := 1) hx hb dL_law_396 (by decide) ?_
  refine v_iadd hx hb dL_law_397 1 (by decide +kernel) ?_
  refine va_sld hx hb hX0 hbl hbA hS (vin (by decide +kernel)) dL_law_398 ?_
  refine tvi (v := 2) e_y0 ?_
  refine lv_aload_n hx hb dL_law_399 rfl (lv_at hl 3 rfl) ?_
  refine lv_iload_n hx hb dL_law_400 rfl (lv_at hl 0 rfl) ?_
  refine lv_iconst (v := 2) hx hb dL_law_401 (by decide) ?_
  refine v_iadd hx hb dL_law_402 2 (by decide +kernel) ?_
  refine va_sld hx hb hX0 hbl hbA hS (vin (by decide +kernel)) dL_law_403 ?_
  refine tvi (v := y1) e_y1 ?_
  refine lv_aload_n hx hb dL_law_404 rfl (lv_at hl 3 rfl) ?_
  refine lv_iload_n hx hb dL_law_405 rfl (lv_at hl 0 rfl) ?_
  refine lv_iconst (v := 3) hx hb dL_law_406 (by decide) ?_
  refine v_iadd hx hb dL_law_407 3 (by decide +kernel) ?_
  refine va_sld hx hb hX0 hbl hbA hS (vin (by decide +kernel)) dL_law_408 ?_
  refine tvi (v := y2) e_y2 ?_
  refine kV_i (q0 := 0) ⟨hx, hb, hml, hown, hts⟩ hK hP hD hS hA hX cv_RL_44 [0, 1, 2, 3] [] (wr := []) rfl rfl rfl rfl (by decide) (c349_X9_tray l dC dI cI cJ cII cJJ H.size 0 qm (v 8) (v 9) (v 10) (v 0) (v 1) (v 2) (v 3) (v 4) (v 5) (v 6) (v 7) (v 11) (v 12) (v 13) (v 14) (v 15) (v 16) (v 17) (v 18) (v 19) (v 20) (v 21) (v 22) (v 23) (v 24) (v 25) (v 26) y1 h_y1 y2 h_y2) ⟨by decide +kernel, by decide +kernel⟩ rfl rfl (Or.inl rfl) (rest := [.int 1]) rfl rfl rfl hl.1 rfl (Nat.le_of_ble_eq_true rfl) dL_law_409 ⟨Nat.le_of_ble_eq_true rfl, Nat.le_of_ble_eq_true rfl⟩ (W' := []) rfl (fun H locs hP hD hS => ?_)
  refine t_icmp_eq hx hb dL_law_412 1073 (by decide) rfl ?_
  exact law_end l C0 rfl hS hl
set_option maxRecDepth 100000 in
set_option maxHeartbeats 4000000 in
theorem lr_31 {p : Program} {e : Env} {s : State} {m : MethodId} {below : List Frame} {meth : Method} {c : Code} (l : Launch) {b L : Nat} {xs : Nat → Int32} (C0 : lw_At p s m meth c b L xs) (hL : L = 5) {dC : Nat → ClassId} {dI : Nat → Nat → Nat} {cI cJ cII cJJ : ClassId} {g qx qm : Nat} {u v : Nat → Nat} {H : Heap} {locs : List Loc} {ls : Array Slot} (e_y0 : xs 1 = 3) (y1 : Int32) (h_y1 : 0 ≤ y1.toInt ∧ y1.toInt ≤ 3) (e_y1 : xs 2 = y1) (y2 : Int32) (h_y2 : 0 ≤ y2.toInt ∧ y2.toInt ≤ 20) (e_y2 : xs 3 = y2) (hK : va_K (dC, dI) vwCl (TY cI cJ cII cJJ) s) (hX : GXA 1 g (AA s) s) (hP : va_P (dC, dI) vwCl (WLD cI cJ cII cJJ qx qm u v) H) (hD : va_D (AA s) (WLD cI cJ cII cJJ qx qm u v)) (hS : va_S (AA s) s.heap H locs) (hl : lv_has ls 4 [(3, .int 0), (2, .ref qm), (1, .ref qx), (0, .ref b)]) : W p l e room_1 s m #[Value.ref b] below meth c H locs 600000 7302250 (lw_Z below #[Value.ref b] s) (F0 m 374 ls []) := by
  obtain ⟨hx, hb, hr, hml, hown, hts0, hX0, hbl, hlocks, hgv⟩ := id C0
  have hts : ∀ w ∈ TT, w.before #[Value.ref b] s = true := fun w h => hts0 w (TT_tbl h)
  have hA : ∀ q : Nat, s.heap.size ≤ q → AA s q := fun _ h => h
  have hbA : ¬ AA s b := Nat.not_le.mpr hbl
  have hown : s.vm.findClass RL = some m.cls := hown
  subst hL
  refine lv_aload_n hx hb dL_law_374 rfl (lv_at hl 2 rfl) ?_
  refine lv_aload_n hx hb dL_law_375 rfl (lv_at hl 3 rfl) ?_
  refine lv_iload_n hx hb dL_law_376 rfl (lv_at hl 0 rfl) ?_
  refine lv_iconst (v := 1) hx hb dL_law_377 (by decide) ?_
  refine v_iadd hx hb dL_law_378 1 (by decide +kernel) ?_
  refine va_sld hx hb hX0 hbl hbA hS (vin (by decide +kernel)) dL_law_379 ?_
  refine tvi (v := 3) e_y0 ?_
  refine lv_aload_n hx hb dL_law_380 rfl (lv_at hl 3 rfl) ?_
  refine lv_iload_n hx hb dL_law_381 rfl (lv_at hl 0 rfl) ?_
  refine lv_iconst (v := 2) hx hb dL_law_382 (by decide) ?_
  refine v_iadd hx hb dL_law_383 2 (by decide +kernel) ?_
  refine va_sld hx hb hX0 hbl hbA hS (vin (by decide +kernel)) dL_law_384 ?_
  refine tvi (v := y1) e_y1 ?_
  refine lv_aload_n hx hb dL_law_385 rfl (lv_at hl 3 rfl) ?_
  refine lv_iload_n hx hb dL_law_386 rfl (lv_at hl 0 rfl) ?_
  refine lv_iconst (v := 3) hx hb dL_law_387 (by decide) ?_
  refine v_iadd hx hb dL_law_388 3 (by decide +kernel) ?_
  refine va_sld hx hb hX0 hbl hbA hS (vin (by decide +kernel)) dL_law_389 ?_
  refine tvi (v := y2) e_y2 ?_
  refine kV_i (q0 := 0) ⟨hx, hb, hml, hown, hts⟩ hK hP hD hS hA hX cv_RL_41 [0, 52, 58, 59, 53, 57] [86, 67, 68, 69] (wr := [(qm, .inr (9, [.ref (v 0), .ref (v 1), .ref (v 2), .ref (v 3), .ref (v 4), .ref (v 5), .ref (v 6), .ref (v 7), .ref (v 8), .ref (v 9), .ref (v 10), .ref (v 11), .int 1, .int 0, .int 0, .ref (v 12), .ref (v 13), .ref (v 14), .ref (v 15), .ref (v 16), .ref (v 17), .int 0, .int 0, .ref (v 18), .ref (v 19), .ref (v 20), .ref (v 21), .int 0, .int 0, .ref (v 22), .ref (v 23), .ref (v 24), .ref (v 25), .int 0, .ref (v 26), .int 0])), ((v 8), .inl (cI, 4, .inl (tb [(-1), (-1), (-1), (-1)]))), ((v 9), .inl (cI, 4, .inl (tb []))), ((v 10), .inl (cJ, 80, .inr (.inl (tbl []))))]) rfl rfl rfl rfl (by decide) (c069_X8_tray l dC dI cI cJ cII cJJ H.size 0 qx (u 51) (u 57) (u 58) (u 52) (u 56) (u 0) (u 10) (u 28) (u 59) (u 60) (u 61) (u 62) (u 53) (u 54) (u 55) y1 h_y1 y2 h_y2) ⟨by decide +kernel, by decide +kernel⟩ rfl rfl (Or.inl rfl) (rest := []) rfl rfl rfl hl.1 rfl (Nat.le_of_ble_eq_true rfl) dL_law_390 ⟨Nat.le_of_ble_eq_true rfl, Nat.le_of_ble_eq_true rfl⟩ (W' := [(qm, .inr (9, [.ref (v 0), .ref (v 1), .ref (v 2), .ref (v 3), .ref (v 4), .ref (v 5), .ref (v 6), .ref (v 7), .ref (v 8), .ref (v 9), .ref (v 10), .ref (v 11), .int 1, .int 0, .int 0, .ref (v 12), .ref (v 13), .ref (v 14), .ref (v 15), .ref (v 16), .ref (v 17), .int 0, .int 0, .ref (v 18), .ref (v 19), .ref (v 20), .ref (v 21), .int 0, .int 0, .ref (v 22), .ref (v 23), .ref (v 24), .ref (v 25), .int 0, .ref (v 26), .int 0])), ((v 8), .inl (cI, 4, .inl (tb [(-1), (-1), (-1), (-1)]))), ((v 9), .inl (cI, 4, .inl (tb []))), ((v 10), .inl (cJ, 80, .inr (.inl (tbl []))))]) rfl (fun H locs hP hD hS => ?_)
  refine lv_aload_n hx hb dL_law_393 rfl (lv_at hl 1 rfl) ?_
  refine lv_aload_n hx hb dL_law_394 rfl (lv_at hl 3 rfl) ?_
  refine lv_iload_n hx hb dL_law_395 rfl (lv_at hl 0 rfl) ?_
  refine lv_iconst (v := 1) hx hb dL_law_396 (by decide) ?_
  refine v_iadd hx hb dL_law_397 1 (by decide +kernel) ?_
  refine va_sld hx hb hX0 hbl hbA hS (vin (by decide +kernel)) dL_law_398 ?_
  refine tvi (v := 3) e_y0 ?_
  refine lv_aload_n hx hb dL_law_399 rfl (lv_at hl 3 rfl) ?_
  refine lv_iload_n hx hb dL_law_400 rfl (lv_at hl 0 rfl) ?_
  refine lv_iconst (v := 2) hx hb dL_law_401 (by decide) ?_
  refine v_iadd hx hb dL_law_402 2 (by decide +kernel) ?_
  refine va_sld hx hb hX0 hbl hbA hS (vin (by decide +kernel)) dL_law_403 ?_
  refine tvi (v := y1) e_y1 ?_
  refine lv_aload_n hx hb dL_law_404 rfl (lv_at hl 3 rfl) ?_
  refine lv_iload_n hx hb dL_law_405 rfl (lv_at hl 0 rfl) ?_
  refine lv_iconst (v := 3) hx hb dL_law_406 (by decide) ?_
  refine v_iadd hx hb dL_law_407 3 (by decide +kernel) ?_
  refine va_sld hx hb hX0 hbl hbA hS (vin (by decide +kernel)) dL_law_408 ?_
  refine tvi (v := y2) e_y2 ?_
  refine kV_i (q0 := 0) ⟨hx, hb, hml, hown, hts⟩ hK hP hD hS hA hX cv_RL_44 [0, 1, 2, 3] [] (wr := []) rfl rfl rfl rfl (by decide) (c351_X9_tray l dC dI cI cJ cII cJJ H.size 0 qm (v 8) (v 9) (v 10) (v 0) (v 1) (v 2) (v 3) (v 4) (v 5) (v 6) (v 7) (v 11) (v 12) (v 13) (v 14) (v 15) (v 16) (v 17) (v 18) (v 19) (v 20) (v 21) (v 22) (v 23) (v 24) (v 25) (v 26) y1 h_y1 y2 h_y2) ⟨by decide +kernel, by decide +kernel⟩ rfl rfl (Or.inl rfl) (rest := [.int 1]) rfl rfl rfl hl.1 rfl (Nat.le_of_ble_eq_true rfl) dL_law_409 ⟨Nat.le_of_ble_eq_true rfl, Nat.le_of_ble_eq_true rfl⟩ (W' := []) rfl (fun H locs hP hD hS => ?_)
  refine t_icmp_eq hx hb dL_law_412 1073 (by decide) rfl ?_
  exact law_end l C0 rfl hS hl
set_option maxRecDepth 100000 in
set_option maxHeartbeats 4000000 in
theorem lc_6 {p : Program} {e : Env} {s : State} {m : MethodId} {below : List Frame} {meth : Method} {c : Code} (l : Launch) {b L : Nat} {xs : Nat → Int32} (C0 : lw_At p s m meth c b L xs) (hL : L = 5) {dC : Nat → ClassId} {dI : Nat → Nat → Nat} {cI cJ cII cJJ : ClassId} {g qx qm : Nat} {u v : Nat → Nat} {H : Heap} {locs : List Loc} {ls : Array Slot} (hK : va_K (dC, dI) vwCl (TY cI cJ cII cJJ) s) (hX : GXA 1 g (AA s) s) (hP : va_P (dC, dI) vwCl (WLD cI cJ cII cJJ qx qm u v) H) (hD : va_D (AA s) (WLD cI cJ cII cJJ qx qm u v)) (hS : va_S (AA s) s.heap H locs) (hl : lv_has ls 4 [(3, .int 0), (2, .ref qm), (1, .ref qx), (0, .ref b)]) : W p l e room_1 s m #[Value.ref b] below meth c H locs 600000 7302250 (lw_Z below #[Value.ref b] s) (F0 m 374 ls []) := by
  have q1 := s_any (xs 1)
  have q2 := s_any (xs 2)
  have q3 := s_any (xs 3)
  have key : ((xs 1).toInt ≤ -1) ∨ (4 ≤ (xs 1).toInt) ∨ ((0 ≤ (xs 1).toInt ∧ (xs 1).toInt ≤ 3) ∧ (xs 2).toInt ≤ -1) ∨ ((0 ≤ (xs 1).toInt ∧ (xs 1).toInt ≤ 3) ∧ 4 ≤ (xs 2).toInt) ∨ ((0 ≤ (xs 1).toInt ∧ (xs 1).toInt ≤ 3) ∧ (0 ≤ (xs 2).toInt ∧ (xs 2).toInt ≤ 3) ∧ (xs 3).toInt ≤ -1) ∨ ((0 ≤ (xs 1).toInt ∧ (xs 1).toInt ≤ 3) ∧ (0 ≤ (xs 2).toInt ∧ (xs 2).toInt ≤ 3) ∧ 21 ≤ (xs 3).toInt) ∨ ((xs 1).toInt = 0 ∧ (0 ≤ (xs 2).toInt ∧ (xs 2).toInt ≤ 3) ∧ (0 ≤ (xs 3).toInt ∧ (xs 3).toInt ≤ 20)) ∨ ((xs 1).toInt = 1 ∧ (0 ≤ (xs 2).toInt ∧ (xs 2).toInt ≤ 3) ∧ (0 ≤ (xs 3).toInt ∧ (xs 3).toInt ≤ 20)) ∨ ((xs 1).toInt = 2 ∧ (0 ≤ (xs 2).toInt ∧ (xs 2).toInt ≤ 3) ∧ (0 ≤ (xs 3).toInt ∧ (xs 3).toInt ≤ 20)) ∨ ((xs 1).toInt = 3 ∧ (0 ≤ (xs 2).toInt ∧ (xs 2).toInt ≤ 3) ∧ (0 ≤ (xs 3).toInt ∧ (xs 3).toInt ≤ 20)) := by omega
  rcases key with h | h | h | h | h | h | h | h | h | h
  · exact lr_22 l C0 hL (xs 1) ⟨by omega, by omega⟩ rfl (xs 2) ⟨by omega, by omega⟩ rfl (xs 3) ⟨by omega, by omega⟩ rfl hK hX hP hD hS hl
  · exact lr_23 l C0 hL (xs 1) ⟨by omega, by omega⟩ rfl (xs 2) ⟨by omega, by omega⟩ rfl (xs 3) ⟨by omega, by omega⟩ rfl hK hX hP hD hS hl
  · exact lr_24 l C0 hL (xs 1) ⟨by omega, by omega⟩ rfl (xs 2) ⟨by omega, by omega⟩ rfl (xs 3) ⟨by omega, by omega⟩ rfl hK hX hP hD hS hl
  · exact lr_25 l C0 hL (xs 1) ⟨by omega, by omega⟩ rfl (xs 2) ⟨by omega, by omega⟩ rfl (xs 3) ⟨by omega, by omega⟩ rfl hK hX hP hD hS hl
  · exact lr_26 l C0 hL (xs 1) ⟨by omega, by omega⟩ rfl (xs 2) ⟨by omega, by omega⟩ rfl (xs 3) ⟨by omega, by omega⟩ rfl hK hX hP hD hS hl
  · exact lr_27 l C0 hL (xs 1) ⟨by omega, by omega⟩ rfl (xs 2) ⟨by omega, by omega⟩ rfl (xs 3) ⟨by omega, by omega⟩ rfl hK hX hP hD hS hl
  · exact lr_28 l C0 hL (Int32.toInt_inj.mp (by rw [show (0 : Int32).toInt = 0 from by decide +kernel]; omega)) (xs 2) ⟨by omega, by omega⟩ rfl (xs 3) ⟨by omega, by omega⟩ rfl hK hX hP hD hS hl
  · exact lr_29 l C0 hL (Int32.toInt_inj.mp (by rw [show (1 : Int32).toInt = 1 from by decide +kernel]; omega)) (xs 2) ⟨by omega, by omega⟩ rfl (xs 3) ⟨by omega, by omega⟩ rfl hK hX hP hD hS hl
  · exact lr_30 l C0 hL (Int32.toInt_inj.mp (by rw [show (2 : Int32).toInt = 2 from by decide +kernel]; omega)) (xs 2) ⟨by omega, by omega⟩ rfl (xs 3) ⟨by omega, by omega⟩ rfl hK hX hP hD hS hl
  · exact lr_31 l C0 hL (Int32.toInt_inj.mp (by rw [show (3 : Int32).toInt = 3 from by decide +kernel]; omega)) (xs 2) ⟨by omega, by omega⟩ rfl (xs 3) ⟨by omega, by omega⟩ rfl hK hX hP hD hS hl
set_option maxRecDepth 100000 in
set_option maxHeartbeats 4000000 in
theorem lr_32 {p : Program} {e : Env} {s : State} {m : MethodId} {below : List Frame} {meth : Method} {c : Code} (l : Launch) {b L : Nat} {xs : Nat → Int32} (C0 : lw_At p s m meth c b L xs) (hL : L = 5) {dC : Nat → ClassId} {dI : Nat → Nat → Nat} {cI cJ cII cJJ : ClassId} {g qx qm : Nat} {u v : Nat → Nat} {H : Heap} {locs : List Loc} {ls : Array Slot} (y0 : Int32) (h_y0 : -2147483648 ≤ y0.toInt ∧ y0.toInt ≤ -1) (e_y0 : xs 1 = y0) (y1 : Int32) (h_y1 : -2147483648 ≤ y1.toInt ∧ y1.toInt ≤ 2147483647) (e_y1 : xs 2 = y1) (y2 y2b : Int32) (e_y2 : xs 3 = y2) (e_y2b : xs 4 = y2b) (hK : va_K (dC, dI) vwCl (TY cI cJ cII cJJ) s) (hX : GXA 1 g (AA s) s) (hP : va_P (dC, dI) vwCl (WLD cI cJ cII cJJ qx qm u v) H) (hD : va_D (AA s) (WLD cI cJ cII cJJ qx qm u v)) (hS : va_S (AA s) s.heap H locs) (hl : lv_has ls 4 [(3, .int 0), (2, .ref qm), (1, .ref qx), (0, .ref b)]) : W p l e room_1 s m #[Value.ref b] below meth c H locs 600000 7302250 (lw_Z below #[Value.ref b] s) (F0 m 417 ls []) := by
  obtain ⟨hx, hb, hr, hml, hown, hts0, hX0, hbl, hlocks, hgv⟩ := id C0
  have hts : ∀ w ∈ TT, w.before #[Value.ref b] s = true := fun w h => hts0 w (TT_tbl h)
  have hA : ∀ q : Nat, s.heap.size ≤ q → AA s q := fun _ h => h
  have hbA : ¬ AA s b := Nat.not_le.mpr hbl
  have hown : s.vm.findClass RL = some m.cls := hown
  subst hL
  refine lv_aload_n hx hb dL_law_417 rfl (lv_at hl 2 rfl) ?_
  refine lv_aload_n hx hb dL_law_418 rfl (lv_at hl 3 rfl) ?_
  refine lv_iload_n hx hb dL_law_419 rfl (lv_at hl 0 rfl) ?_
  refine lv_iconst (v := 1) hx hb dL_law_420 (by decide) ?_
  refine v_iadd hx hb dL_law_421 1 (by decide +kernel) ?_
  refine va_sld hx hb hX0 hbl hbA hS (vin (by decide +kernel)) dL_law_422 ?_
  refine tvi (v := y0) e_y0 ?_
  refine lv_aload_n hx hb dL_law_423 rfl (lv_at hl 3 rfl) ?_
  refine lv_iload_n hx hb dL_law_424 rfl (lv_at hl 0 rfl) ?_
  refine lv_iconst (v := 2) hx hb dL_law_425 (by decide) ?_
  refine v_iadd hx hb dL_law_426 2 (by decide +kernel) ?_
  refine va_sld hx hb hX0 hbl hbA hS (vin (by decide +kernel)) dL_law_427 ?_
  refine tvi (v := y1) e_y1 ?_
  refine lv_aload_n hx hb dL_law_428 rfl (lv_at hl 3 rfl) ?_
  refine lv_iload_n hx hb dL_law_429 rfl (lv_at hl 0 rfl) ?_
  refine lv_iconst (v := 3) hx hb dL_law_430 (by decide) ?_
  refine v_iadd hx hb dL_law_431 3 (by decide +kernel) ?_
  refine va_sld hx hb hX0 hbl hbA hS (vin (by decide +kernel)) dL_law_432 ?_
  refine tvi (v := y2) e_y2 ?_
  refine lv_i2l hx hb dL_law_433 rfl ?_
  refine lv_bipush (v := 32) hx hb dL_law_434 (by decide) ?_
  refine lv_lshl hx hb dL_law_436 rfl ?_
  refine lv_aload_n hx hb dL_law_437 rfl (lv_at hl 3 rfl) ?_
  refine lv_iload_n hx hb dL_law_438 rfl (lv_at hl 0 rfl) ?_
  refine lv_iconst (v := 4) hx hb dL_law_439 (by decide) ?_
  refine v_iadd hx hb dL_law_440 4 (by decide +kernel) ?_
  refine va_sld hx hb hX0 hbl hbA hS (vin (by decide +kernel)) dL_law_441 ?_
  refine tvi (v := y2b) e_y2b ?_
  refine lv_i2l hx hb dL_law_442 rfl ?_
  refine lv_ldc2 (v := 4294967295) hx hb hown (hts _ k_1147) dL_law_443 ?_
  refine lv_land hx hb dL_law_446 ?_
  refine lv_lor hx hb dL_law_447 ?_
  refine lv_topl (fun w447 e_w447 => ?_)
  have h_w447 := s_anyl w447
  refine kV_i (q0 := 0) ⟨hx, hb, hml, hown, hts⟩ hK hP hD hS hA hX cv_RL_47 [0, 52, 63] [86, 66] (wr := [(qm, .inr (9, [.ref (v 0), .ref (v 1), .ref (v 2), .ref (v 3), .ref (v 4), .ref (v 5), .ref (v 6), .ref (v 7), .ref (v 8), .ref (v 9), .ref (v 10), .ref (v 11), .int 1, .int 0, .int 0, .ref (v 12), .ref (v 13), .ref (v 14), .ref (v 15), .ref (v 16), .ref (v 17), .int 0, .int 0, .ref (v 18), .ref (v 19), .ref (v 20), .ref (v 21), .int 0, .int 0, .ref (v 22), .ref (v 23), .ref (v 24), .ref (v 25), .int 0, .ref (v 26), .int 0])), ((v 7), .inl (cI, 8, .inl (tb [])))]) rfl rfl rfl rfl (by decide) (c072_X8_cell l dC dI cI cJ cII cJJ H.size 0 qx (u 51) (u 62) (u 0) (u 10) (u 28) (u 59) (u 60) (u 61) (u 52) (u 57) (u 58) y0 h_y0 y1 h_y1 w447 h_w447) ⟨by decide +kernel, by decide +kernel⟩ rfl rfl (Or.inl rfl) (rest := []) rfl rfl rfl hl.1 rfl (Nat.le_of_ble_eq_true rfl) dL_law_448 ⟨Nat.le_of_ble_eq_true rfl, Nat.le_of_ble_eq_true rfl⟩ (W' := [(qm, .inr (9, [.ref (v 0), .ref (v 1), .ref (v 2), .ref (v 3), .ref (v 4), .ref (v 5), .ref (v 6), .ref (v 7), .ref (v 8), .ref (v 9), .ref (v 10), .ref (v 11), .int 1, .int 0, .int 0, .ref (v 12), .ref (v 13), .ref (v 14), .ref (v 15), .ref (v 16), .ref (v 17), .int 0, .int 0, .ref (v 18), .ref (v 19), .ref (v 20), .ref (v 21), .int 0, .int 0, .ref (v 22), .ref (v 23), .ref (v 24), .ref (v 25), .int 0, .ref (v 26), .int 0])), ((v 7), .inl (cI, 8, .inl (tb [])))]) rfl (fun H locs hP hD hS => ?_)
  refine lv_aload_n hx hb dL_law_451 rfl (lv_at hl 1 rfl) ?_
  refine lv_aload_n hx hb dL_law_452 rfl (lv_at hl 3 rfl) ?_
  refine lv_iload_n hx hb dL_law_453 rfl (lv_at hl 0 rfl) ?_
  refine lv_iconst (v := 1) hx hb dL_law_454 (by decide) ?_
  refine v_iadd hx hb dL_law_455 1 (by decide +kernel) ?_
  refine va_sld hx hb hX0 hbl hbA hS (vin (by decide +kernel)) dL_law_456 ?_
  refine tvi (v := y0) e_y0 ?_
  refine lv_aload_n hx hb dL_law_457 rfl (lv_at hl 3 rfl) ?_
  refine lv_iload_n hx hb dL_law_458 rfl (lv_at hl 0 rfl) ?_
  refine lv_iconst (v := 2) hx hb dL_law_459 (by decide) ?_
  refine v_iadd hx hb dL_law_460 2 (by decide +kernel) ?_
  refine va_sld hx hb hX0 hbl hbA hS (vin (by decide +kernel)) dL_law_461 ?_
  refine tvi (v := y1) e_y1 ?_
  refine lv_aload_n hx hb dL_law_462 rfl (lv_at hl 3 rfl) ?_
  refine lv_iload_n hx hb dL_law_463 rfl (lv_at hl 0 rfl) ?_
  refine lv_iconst (v := 3) hx hb dL_law_464 (by decide) ?_
  refine v_iadd hx hb dL_law_465 3 (by decide +kernel) ?_
  refine va_sld hx hb hX0 hbl hbA hS (vin (by decide +kernel)) dL_law_466 ?_
  refine tvi (v := y2) e_y2 ?_
  refine lv_i2l hx hb dL_law_467 rfl ?_
  refine lv_bipush (v := 32) hx hb dL_law_468 (by decide) ?_
  refine lv_lshl hx hb dL_law_470 rfl ?_
  refine lv_aload_n hx hb dL_law_471 rfl (lv_at hl 3 rfl) ?_
  refine lv_iload_n hx hb dL_law_472 rfl (lv_at hl 0 rfl) ?_
  refine lv_iconst (v := 4) hx hb dL_law_473 (by decide) ?_
  refine v_iadd hx hb dL_law_474 4 (by decide +kernel) ?_
  refine va_sld hx hb hX0 hbl hbA hS (vin (by decide +kernel)) dL_law_475 ?_
  refine tvi (v := y2b) e_y2b ?_
  refine lv_i2l hx hb dL_law_476 rfl ?_
  refine lv_ldc2 (v := 4294967295) hx hb hown (hts _ k_1147) dL_law_477 ?_
  refine lv_land hx hb dL_law_480 ?_
  refine lv_lor hx hb dL_law_481 ?_
  refine lv_topl (fun w481 e_w481 => ?_)
  have h_w481 := s_anyl w481
  refine kV_i (q0 := 0) ⟨hx, hb, hml, hown, hts⟩ hK hP hD hS hA hX cv_RL_51 [0, 1] [] (wr := []) rfl rfl rfl rfl (by decide) (c353_X9_cell l dC dI cI cJ cII cJJ H.size 0 qm (v 7) (v 0) (v 1) (v 2) (v 3) (v 4) (v 5) (v 6) (v 8) (v 9) (v 10) (v 11) (v 12) (v 13) (v 14) (v 15) (v 16) (v 17) (v 18) (v 19) (v 20) (v 21) (v 22) (v 23) (v 24) (v 25) (v 26) y0 h_y0 y1 h_y1 w481 h_w481) ⟨by decide +kernel, by decide +kernel⟩ rfl rfl (Or.inl rfl) (rest := [.int (-1)]) rfl rfl rfl hl.1 rfl (Nat.le_of_ble_eq_true rfl) dL_law_482 ⟨Nat.le_of_ble_eq_true rfl, Nat.le_of_ble_eq_true rfl⟩ (W' := []) rfl (fun H locs hP hD hS => ?_)
  refine t_icmp_eq hx hb dL_law_485 1073 (by decide) rfl ?_
  exact law_end l C0 rfl hS hl
set_option maxRecDepth 100000 in
set_option maxHeartbeats 4000000 in
theorem lr_33 {p : Program} {e : Env} {s : State} {m : MethodId} {below : List Frame} {meth : Method} {c : Code} (l : Launch) {b L : Nat} {xs : Nat → Int32} (C0 : lw_At p s m meth c b L xs) (hL : L = 5) {dC : Nat → ClassId} {dI : Nat → Nat → Nat} {cI cJ cII cJJ : ClassId} {g qx qm : Nat} {u v : Nat → Nat} {H : Heap} {locs : List Loc} {ls : Array Slot} (y0 : Int32) (h_y0 : 4 ≤ y0.toInt ∧ y0.toInt ≤ 2147483647) (e_y0 : xs 1 = y0) (y1 : Int32) (h_y1 : -2147483648 ≤ y1.toInt ∧ y1.toInt ≤ 2147483647) (e_y1 : xs 2 = y1) (y2 y2b : Int32) (e_y2 : xs 3 = y2) (e_y2b : xs 4 = y2b) (hK : va_K (dC, dI) vwCl (TY cI cJ cII cJJ) s) (hX : GXA 1 g (AA s) s) (hP : va_P (dC, dI) vwCl (WLD cI cJ cII cJJ qx qm u v) H) (hD : va_D (AA s) (WLD cI cJ cII cJJ qx qm u v)) (hS : va_S (AA s) s.heap H locs) (hl : lv_has ls 4 [(3, .int 0), (2, .ref qm), (1, .ref qx), (0, .ref b)]) : W p l e room_1 s m #[Value.ref b] below meth c H locs 600000 7302250 (lw_Z below #[Value.ref b] s) (F0 m 417 ls []) := by
  obtain ⟨hx, hb, hr, hml, hown, hts0, hX0, hbl, hlocks, hgv⟩ := id C0
  have hts : ∀ w ∈ TT, w.before #[Value.ref b] s = true := fun w h => hts0 w (TT_tbl h)
  have hA : ∀ q : Nat, s.heap.size ≤ q → AA s q := fun _ h => h
  have hbA : ¬ AA s b := Nat.not_le.mpr hbl
  have hown : s.vm.findClass RL = some m.cls := hown
  subst hL
  refine lv_aload_n hx hb dL_law_417 rfl (lv_at hl 2 rfl) ?_
  refine lv_aload_n hx hb dL_law_418 rfl (lv_at hl 3 rfl) ?_
  refine lv_iload_n hx hb dL_law_419 rfl (lv_at hl 0 rfl) ?_
  refine lv_iconst (v := 1) hx hb dL_law_420 (by decide) ?_
  refine v_iadd hx hb dL_law_421 1 (by decide +kernel) ?_
  refine va_sld hx hb hX0 hbl hbA hS (vin (by decide +kernel)) dL_law_422 ?_
  refine tvi (v := y0) e_y0 ?_
  refine lv_aload_n hx hb dL_law_423 rfl (lv_at hl 3 rfl) ?_
  refine lv_iload_n hx hb dL_law_424 rfl (lv_at hl 0 rfl) ?_
  refine lv_iconst (v := 2) hx hb dL_law_425 (by decide) ?_
  refine v_iadd hx hb dL_law_426 2 (by decide +kernel) ?_
  refine va_sld hx hb hX0 hbl hbA hS (vin (by decide +kernel)) dL_law_427 ?_
  refine tvi (v := y1) e_y1 ?_
  refine lv_aload_n hx hb dL_law_428 rfl (lv_at hl 3 rfl) ?_
  refine lv_iload_n hx hb dL_law_429 rfl (lv_at hl 0 rfl) ?_
  refine lv_iconst (v := 3) hx hb dL_law_430 (by decide) ?_
  refine v_iadd hx hb dL_law_431 3 (by decide +kernel) ?_
  refine va_sld hx hb hX0 hbl hbA hS (vin (by decide +kernel)) dL_law_432 ?_
  refine tvi (v := y2) e_y2 ?_
  refine lv_i2l hx hb dL_law_433 rfl ?_
  refine lv_bipush (v := 32) hx hb dL_law_434 (by decide) ?_
  refine lv_lshl hx hb dL_law_436 rfl ?_
  refine lv_aload_n hx hb dL_law_437 rfl (lv_at hl 3 rfl) ?_
  refine lv_iload_n hx hb dL_law_438 rfl (lv_at hl 0 rfl) ?_
  refine lv_iconst (v := 4) hx hb dL_law_439 (by decide) ?_
  refine v_iadd hx hb dL_law_440 4 (by decide +kernel) ?_
  refine va_sld hx hb hX0 hbl hbA hS (vin (by decide +kernel)) dL_law_441 ?_
  refine tvi (v := y2b) e_y2b ?_
  refine lv_i2l hx hb dL_law_442 rfl ?_
  refine lv_ldc2 (v := 4294967295) hx hb hown (hts _ k_1147) dL_law_443 ?_
  refine lv_land hx hb dL_law_446 ?_
  refine lv_lor hx hb dL_law_447 ?_
  refine lv_topl (fun w447 e_w447 => ?_)
  have h_w447 := s_anyl w447
  refine kV_i (q0 := 0) ⟨hx, hb, hml, hown, hts⟩ hK hP hD hS hA hX cv_RL_47 [0, 52, 63] [86, 66] (wr := [(qm, .inr (9, [.ref (v 0), .ref (v 1), .ref (v 2), .ref (v 3), .ref (v 4), .ref (v 5), .ref (v 6), .ref (v 7), .ref (v 8), .ref (v 9), .ref (v 10), .ref (v 11), .int 1, .int 0, .int 0, .ref (v 12), .ref (v 13), .ref (v 14), .ref (v 15), .ref (v 16), .ref (v 17), .int 0, .int 0, .ref (v 18), .ref (v 19), .ref (v 20), .ref (v 21), .int 0, .int 0, .ref (v 22), .ref (v 23), .ref (v 24), .ref (v 25), .int 0, .ref (v 26), .int 0])), ((v 7), .inl (cI, 8, .inl (tb [])))]) rfl rfl rfl rfl (by decide) (c073_X8_cell l dC dI cI cJ cII cJJ H.size 0 qx (u 51) (u 62) (u 0) (u 10) (u 28) (u 59) (u 60) (u 61) (u 52) (u 57) (u 58) y0 h_y0 y1 h_y1 w447 h_w447) ⟨by decide +kernel, by decide +kernel⟩ rfl rfl (Or.inl rfl) (rest := []) rfl rfl rfl hl.1 rfl (Nat.le_of_ble_eq_true rfl) dL_law_448 ⟨Nat.le_of_ble_eq_true rfl, Nat.le_of_ble_eq_true rfl⟩ (W' := [(qm, .inr (9, [.ref (v 0), .ref (v 1), .ref (v 2), .ref (v 3), .ref (v 4), .ref (v 5), .ref (v 6), .ref (v 7), .ref (v 8), .ref (v 9), .ref (v 10), .ref (v 11), .int 1, .int 0, .int 0, .ref (v 12), .ref (v 13), .ref (v 14), .ref (v 15), .ref (v 16), .ref (v 17), .int 0, .int 0, .ref (v 18), .ref (v 19), .ref (v 20), .ref (v 21), .int 0, .int 0, .ref (v 22), .ref (v 23), .ref (v 24), .ref (v 25), .int 0, .ref (v 26), .int 0])), ((v 7), .inl (cI, 8, .inl (tb [])))]) rfl (fun H locs hP hD hS => ?_)
  refine lv_aload_n hx hb dL_law_451 rfl (lv_at hl 1 rfl) ?_
  refine lv_aload_n hx hb dL_law_452 rfl (lv_at hl 3 rfl) ?_
  refine lv_iload_n hx hb dL_law_453 rfl (lv_at hl 0 rfl) ?_
  refine lv_iconst (v := 1) hx hb dL_law_454 (by decide) ?_
  refine v_iadd hx hb dL_law_455 1 (by decide +kernel) ?_
  refine va_sld hx hb hX0 hbl hbA hS (vin (by decide +kernel)) dL_law_456 ?_
  refine tvi (v := y0) e_y0 ?_
  refine lv_aload_n hx hb dL_law_457 rfl (lv_at hl 3 rfl) ?_
  refine lv_iload_n hx hb dL_law_458 rfl (lv_at hl 0 rfl) ?_
  refine lv_iconst (v := 2) hx hb dL_law_459 (by decide) ?_
  refine v_iadd hx hb dL_law_460 2 (by decide +kernel) ?_
  refine va_sld hx hb hX0 hbl hbA hS (vin (by decide +kernel)) dL_law_461 ?_
  refine tvi (v := y1) e_y1 ?_
  refine lv_aload_n hx hb dL_law_462 rfl (lv_at hl 3 rfl) ?_
  refine lv_iload_n hx hb dL_law_463 rfl (lv_at hl 0 rfl) ?_
  refine lv_iconst (v := 3) hx hb dL_law_464 (by decide) ?_
  refine v_iadd hx hb dL_law_465 3 (by decide +kernel) ?_
  refine va_sld hx hb hX0 hbl hbA hS (vin (by decide +kernel)) dL_law_466 ?_
  refine tvi (v := y2) e_y2 ?_
  refine lv_i2l hx hb dL_law_467 rfl ?_
  refine lv_bipush (v := 32) hx hb dL_law_468 (by decide) ?_
  refine lv_lshl hx hb dL_law_470 rfl ?_
  refine lv_aload_n hx hb dL_law_471 rfl (lv_at hl 3 rfl) ?_
  refine lv_iload_n hx hb dL_law_472 rfl (lv_at hl 0 rfl) ?_
  refine lv_iconst (v := 4) hx hb dL_law_473 (by decide) ?_
  refine v_iadd hx hb dL_law_474 4 (by decide +kernel) ?_
  refine va_sld hx hb hX0 hbl hbA hS (vin (by decide +kernel)) dL_law_475 ?_
  refine tvi (v := y2b) e_y2b ?_
  refine lv_i2l hx hb dL_law_476 rfl ?_
  refine lv_ldc2 (v := 4294967295) hx hb hown (hts _ k_1147) dL_law_477 ?_
  refine lv_land hx hb dL_law_480 ?_
  refine lv_lor hx hb dL_law_481 ?_
  refine lv_topl (fun w481 e_w481 => ?_)
  have h_w481 := s_anyl w481
  refine kV_i (q0 := 0) ⟨hx, hb, hml, hown, hts⟩ hK hP hD hS hA hX cv_RL_51 [0, 1] [] (wr := []) rfl rfl rfl rfl (by decide) (c354_X9_cell l dC dI cI cJ cII cJJ H.size 0 qm (v 7) (v 0) (v 1) (v 2) (v 3) (v 4) (v 5) (v 6) (v 8) (v 9) (v 10) (v 11) (v 12) (v 13) (v 14) (v 15) (v 16) (v 17) (v 18) (v 19) (v 20) (v 21) (v 22) (v 23) (v 24) (v 25) (v 26) y0 h_y0 y1 h_y1 w481 h_w481) ⟨by decide +kernel, by decide +kernel⟩ rfl rfl (Or.inl rfl) (rest := [.int (-1)]) rfl rfl rfl hl.1 rfl (Nat.le_of_ble_eq_true rfl) dL_law_482 ⟨Nat.le_of_ble_eq_true rfl, Nat.le_of_ble_eq_true rfl⟩ (W' := []) rfl (fun H locs hP hD hS => ?_)
  refine t_icmp_eq hx hb dL_law_485 1073 (by decide) rfl ?_
  exact law_end l C0 rfl hS hl
set_option maxRecDepth 100000 in
set_option maxHeartbeats 4000000 in
theorem lr_34 {p : Program} {e : Env} {s : State} {m : MethodId} {below : List Frame} {meth : Method} {c : Code} (l : Launch) {b L : Nat} {xs : Nat → Int32} (C0 : lw_At p s m meth c b L xs) (hL : L = 5) {dC : Nat → ClassId} {dI : Nat → Nat → Nat} {cI cJ cII cJJ : ClassId} {g qx qm : Nat} {u v : Nat → Nat} {H : Heap} {locs : List Loc} {ls : Array Slot} (e_y0 : xs 1 = 0) (y1 : Int32) (h_y1 : -2147483648 ≤ y1.toInt ∧ y1.toInt ≤ 2147483647) (e_y1 : xs 2 = y1) (y2 y2b : Int32) (e_y2 : xs 3 = y2) (e_y2b : xs 4 = y2b) (hK : va_K (dC, dI) vwCl (TY cI cJ cII cJJ) s) (hX : GXA 1 g (AA s) s) (hP : va_P (dC, dI) vwCl (WLD cI cJ cII cJJ qx qm u v) H) (hD : va_D (AA s) (WLD cI cJ cII cJJ qx qm u v)) (hS : va_S (AA s) s.heap H locs) (hl : lv_has ls 4 [(3, .int 0), (2, .ref qm), (1, .ref qx), (0, .ref b)]) : W p l e room_1 s m #[Value.ref b] below meth c H locs 600000 7302250 (lw_Z below #[Value.ref b] s) (F0 m 417 ls []) := by
  obtain ⟨hx, hb, hr, hml, hown, hts0, hX0, hbl, hlocks, hgv⟩ := id C0
  have hts : ∀ w ∈ TT, w.before #[Value.ref b] s = true := fun w h => hts0 w (TT_tbl h)
  have hA : ∀ q : Nat, s.heap.size ≤ q → AA s q := fun _ h => h
  have hbA : ¬ AA s b := Nat.not_le.mpr hbl
  have hown : s.vm.findClass RL = some m.cls := hown
  subst hL
  refine lv_aload_n hx hb dL_law_417 rfl (lv_at hl 2 rfl) ?_
  refine lv_aload_n hx hb dL_law_418 rfl (lv_at hl 3 rfl) ?_
  refine lv_iload_n hx hb dL_law_419 rfl (lv_at hl 0 rfl) ?_
  refine lv_iconst (v := 1) hx hb dL_law_420 (by decide) ?_
  refine v_iadd hx hb dL_law_421 1 (by decide +kernel) ?_
  refine va_sld hx hb hX0 hbl hbA hS (vin (by decide +kernel)) dL_law_422 ?_
  refine tvi (v := 0) e_y0 ?_
  refine lv_aload_n hx hb dL_law_423 rfl (lv_at hl 3 rfl) ?_
  refine lv_iload_n hx hb dL_law_424 rfl (lv_at hl 0 rfl) ?_
  refine lv_iconst (v := 2) hx hb dL_law_425 (by decide) ?_
  refine v_iadd hx hb dL_law_426 2 (by decide +kernel) ?_
  refine va_sld hx hb hX0 hbl hbA hS (vin (by decide +kernel)) dL_law_427 ?_
  refine tvi (v := y1) e_y1 ?_
  refine lv_aload_n hx hb dL_law_428 rfl (lv_at hl 3 rfl) ?_
  refine lv_iload_n hx hb dL_law_429 rfl (lv_at hl 0 rfl) ?_
  refine lv_iconst (v := 3) hx hb dL_law_430 (by decide) ?_
  refine v_iadd hx hb dL_law_431 3 (by decide +kernel) ?_
  refine va_sld hx hb hX0 hbl hbA hS (vin (by decide +kernel)) dL_law_432 ?_
  refine tvi (v := y2) e_y2 ?_
  refine lv_i2l hx hb dL_law_433 rfl ?_
  refine lv_bipush (v := 32) hx hb dL_law_434 (by decide) ?_
  refine lv_lshl hx hb dL_law_436 rfl ?_
  refine lv_aload_n hx hb dL_law_437 rfl (lv_at hl 3 rfl) ?_
  refine lv_iload_n hx hb dL_law_438 rfl (lv_at hl 0 rfl) ?_
  refine lv_iconst (v := 4) hx hb dL_law_439 (by decide) ?_
  refine v_iadd hx hb dL_law_440 4 (by decide +kernel) ?_
  refine va_sld hx hb hX0 hbl hbA hS (vin (by decide +kernel)) dL_law_441 ?_
  refine tvi (v := y2b) e_y2b ?_
  refine lv_i2l hx hb dL_law_442 rfl ?_
  refine lv_ldc2 (v := 4294967295) hx hb hown (hts _ k_1147) dL_law_443 ?_
  refine lv_land hx hb dL_law_446 ?_
  refine lv_lor hx hb dL_law_447 ?_
  refine lv_topl (fun w447 e_w447 => ?_)
  have h_w447 := s_anyl w447
  refine kV_i (q0 := 0) ⟨hx, hb, hml, hown, hts⟩ hK hP hD hS hA hX cv_RL_47 [0, 52, 59, 63] [86, 67, 66] (wr := [(qm, .inr (9, [.ref (v 0), .ref (v 1), .ref (v 2), .ref (v 3), .ref (v 4), .ref (v 5), .ref (v 6), .ref (v 7), .ref (v 8), .ref (v 9), .ref (v 10), .ref (v 11), .int 1, .int 0, .int 0, .ref (v 12), .ref (v 13), .ref (v 14), .ref (v 15), .ref (v 16), .ref (v 17), .int 0, .int 0, .ref (v 18), .ref (v 19), .ref (v 20), .ref (v 21), .int 0, .int 0, .ref (v 22), .ref (v 23), .ref (v 24), .ref (v 25), .int 0, .ref (v 26), .int 0])), ((v 8), .inl (cI, 4, .inl (tb [(-1), (-1), (-1), (-1)]))), ((v 7), .inl (cI, 8, .inl (tb [])))]) rfl rfl rfl rfl (by decide) (c074_X8_cell l dC dI cI cJ cII cJJ H.size 0 qx (u 51) (u 58) (u 62) (u 0) (u 10) (u 28) (u 59) (u 60) (u 61) (u 52) (u 57) y1 h_y1 w447 h_w447) ⟨by decide +kernel, by decide +kernel⟩ rfl rfl (Or.inl rfl) (rest := []) rfl rfl rfl hl.1 rfl (Nat.le_of_ble_eq_true rfl) dL_law_448 ⟨Nat.le_of_ble_eq_true rfl, Nat.le_of_ble_eq_true rfl⟩ (W' := [(qm, .inr (9, [.ref (v 0), .ref (v 1), .ref (v 2), .ref (v 3), .ref (v 4), .ref (v 5), .ref (v 6), .ref (v 7), .ref (v 8), .ref (v 9), .ref (v 10), .ref (v 11), .int 1, .int 0, .int 0, .ref (v 12), .ref (v 13), .ref (v 14), .ref (v 15), .ref (v 16), .ref (v 17), .int 0, .int 0, .ref (v 18), .ref (v 19), .ref (v 20), .ref (v 21), .int 0, .int 0, .ref (v 22), .ref (v 23), .ref (v 24), .ref (v 25), .int 0, .ref (v 26), .int 0])), ((v 8), .inl (cI, 4, .inl (tb [(-1), (-1), (-1), (-1)]))), ((v 7), .inl (cI, 8, .inl (tb [])))]) rfl (fun H locs hP hD hS => ?_)
  refine lv_aload_n hx hb dL_law_451 rfl (lv_at hl 1 rfl) ?_
  refine lv_aload_n hx hb dL_law_452 rfl (lv_at hl 3 rfl) ?_
  refine lv_iload_n hx hb dL_law_453 rfl (lv_at hl 0 rfl) ?_
  refine lv_iconst (v := 1) hx hb dL_law_454 (by decide) ?_
  refine v_iadd hx hb dL_law_455 1 (by decide +kernel) ?_
  refine va_sld hx hb hX0 hbl hbA hS (vin (by decide +kernel)) dL_law_456 ?_
  refine tvi (v := 0) e_y0 ?_
  refine lv_aload_n hx hb dL_law_457 rfl (lv_at hl 3 rfl) ?_
  refine lv_iload_n hx hb dL_law_458 rfl (lv_at hl 0 rfl) ?_
  refine lv_iconst (v := 2) hx hb dL_law_459 (by decide) ?_
  refine v_iadd hx hb dL_law_460 2 (by decide +kernel) ?_
  refine va_sld hx hb hX0 hbl hbA hS (vin (by decide +kernel)) dL_law_461 ?_
  refine tvi (v := y1) e_y1 ?_
  refine lv_aload_n hx hb dL_law_462 rfl (lv_at hl 3 rfl) ?_
  refine lv_iload_n hx hb dL_law_463 rfl (lv_at hl 0 rfl) ?_
  refine lv_iconst (v := 3) hx hb dL_law_464 (by decide) ?_
  refine v_iadd hx hb dL_law_465 3 (by decide +kernel) ?_
  refine va_sld hx hb hX0 hbl hbA hS (vin (by decide +kernel)) dL_law_466 ?_
  refine tvi (v := y2) e_y2 ?_
  refine lv_i2l hx hb dL_law_467 rfl ?_
  refine lv_bipush (v := 32) hx hb dL_law_468 (by decide) ?_
  refine lv_lshl hx hb dL_law_470 rfl ?_
  refine lv_aload_n hx hb dL_law_471 rfl (lv_at hl 3 rfl) ?_
  refine lv_iload_n hx hb dL_law_472 rfl (lv_at hl 0 rfl) ?_
  refine lv_iconst (v := 4) hx hb dL_law_473 (by decide) ?_
  refine v_iadd hx hb dL_law_474 4 (by decide +kernel) ?_
  refine va_sld hx hb hX0 hbl hbA hS (vin (by decide +kernel)) dL_law_475 ?_
  refine tvi (v := y2b) e_y2b ?_
  refine lv_i2l hx hb dL_law_476 rfl ?_
  refine lv_ldc2 (v := 4294967295) hx hb hown (hts _ k_1147) dL_law_477 ?_
  refine lv_land hx hb dL_law_480 ?_
  refine lv_lor hx hb dL_law_481 ?_
  refine lv_topl (fun w481 e_w481 => ?_)
  have h_w481 := s_anyl w481
  refine kV_i (q0 := 0) ⟨hx, hb, hml, hown, hts⟩ hK hP hD hS hA hX cv_RL_51 [0, 1, 2] [] (wr := []) rfl rfl rfl rfl (by decide) (c355_X9_cell l dC dI cI cJ cII cJJ H.size 0 qm (v 8) (v 7) (v 0) (v 1) (v 2) (v 3) (v 4) (v 5) (v 6) (v 9) (v 10) (v 11) (v 12) (v 13) (v 14) (v 15) (v 16) (v 17) (v 18) (v 19) (v 20) (v 21) (v 22) (v 23) (v 24) (v 25) (v 26) y1 h_y1 w481 h_w481) ⟨by decide +kernel, by decide +kernel⟩ rfl rfl (Or.inl rfl) (rest := [.int (-7)]) rfl rfl rfl hl.1 rfl (Nat.le_of_ble_eq_true rfl) dL_law_482 ⟨Nat.le_of_ble_eq_true rfl, Nat.le_of_ble_eq_true rfl⟩ (W' := []) rfl (fun H locs hP hD hS => ?_)
  refine t_icmp_eq hx hb dL_law_485 1073 (by decide) rfl ?_
  exact law_end l C0 rfl hS hl
set_option maxRecDepth 100000 in
set_option maxHeartbeats 4000000 in
theorem lr_35 {p : Program} {e : Env} {s : State} {m : MethodId} {below : List Frame} {meth : Method} {c : Code} (l : Launch) {b L : Nat} {xs : Nat → Int32} (C0 : lw_At p s m meth c b L xs) (hL : L = 5) {dC : Nat → ClassId} {dI : Nat → Nat → Nat} {cI cJ cII cJJ : ClassId} {g qx qm : Nat} {u v : Nat → Nat} {H : Heap} {locs : List Loc} {ls : Array Slot} (e_y0 : xs 1 = 1) (y1 : Int32) (h_y1 : -2147483648 ≤ y1.toInt ∧ y1.toInt ≤ 2147483647) (e_y1 : xs 2 = y1) (y2 y2b : Int32) (e_y2 : xs 3 = y2) (e_y2b : xs 4 = y2b) (hK : va_K (dC, dI) vwCl (TY cI cJ cII cJJ) s) (hX : GXA 1 g (AA s) s) (hP : va_P (dC, dI) vwCl (WLD cI cJ cII cJJ qx qm u v) H) (hD : va_D (AA s) (WLD cI cJ cII cJJ qx qm u v)) (hS : va_S (AA s) s.heap H locs) (hl : lv_has ls 4 [(3, .int 0), (2, .ref qm), (1, .ref qx), (0, .ref b)]) : W p l e room_1 s m #[Value.ref b] below meth c H locs 600000 7302250 (lw_Z below #[Value.ref b] s) (F0 m 417 ls []) := by
  obtain ⟨hx, hb, hr, hml, hown, hts0, hX0, hbl, hlocks, hgv⟩ := id C0
  have hts : ∀ w ∈ TT, w.before #[Value.ref b] s = true := fun w h => hts0 w (TT_tbl h)
  have hA : ∀ q : Nat, s.heap.size ≤ q → AA s q := fun _ h => h
  have hbA : ¬ AA s b := Nat.not_le.mpr hbl
  have hown : s.vm.findClass RL = some m.cls := hown
  subst hL
  refine lv_aload_n hx hb dL_law_417 rfl (lv_at hl 2 rfl) ?_
  refine lv_aload_n hx hb dL_law_418 rfl (lv_at hl 3 rfl) ?_
  refine lv_iload_n hx hb dL_law_419 rfl (lv_at hl 0 rfl) ?_
  refine lv_iconst (v := 1) hx hb dL_law_420 (by decide) ?_
  refine v_iadd hx hb dL_law_421 1 (by decide +kernel) ?_
  refine va_sld hx hb hX0 hbl hbA hS (vin (by decide +kernel)) dL_law_422 ?_
  refine tvi (v := 1) e_y0 ?_
  refine lv_aload_n hx hb dL_law_423 rfl (lv_at hl 3 rfl) ?_
  refine lv_iload_n hx hb dL_law_424 rfl (lv_at hl 0 rfl) ?_
  refine lv_iconst (v := 2) hx hb dL_law_425 (by decide) ?_
  refine v_iadd hx hb dL_law_426 2 (by decide +kernel) ?_
  refine va_sld hx hb hX0 hbl hbA hS (vin (by decide +kernel)) dL_law_427 ?_
  refine tvi (v := y1) e_y1 ?_
  refine lv_aload_n hx hb dL_law_428 rfl (lv_at hl 3 rfl) ?_
  refine lv_iload_n hx hb dL_law_429 rfl (lv_at hl 0 rfl) ?_
  refine lv_iconst (v := 3) hx hb dL_law_430 (by decide) ?_
  refine v_iadd hx hb dL_law_431 3 (by decide +kernel) ?_
  refine va_sld hx hb hX0 hbl hbA hS (vin (by decide +kernel)) dL_law_432 ?_
  refine tvi (v := y2) e_y2 ?_
  refine lv_i2l hx hb dL_law_433 rfl ?_
  refine lv_bipush (v := 32) hx hb dL_law_434 (by decide) ?_
  refine lv_lshl hx hb dL_law_436 rfl ?_
  refine lv_aload_n hx hb dL_law_437 rfl (lv_at hl 3 rfl) ?_
  refine lv_iload_n hx hb dL_law_438 rfl (lv_at hl 0 rfl) ?_
  refine lv_iconst (v := 4) hx hb dL_law_439 (by decide) ?_
  refine v_iadd hx hb dL_law_440 4 (by decide +kernel) ?_
  refine va_sld hx hb hX0 hbl hbA hS (vin (by decide +kernel)) dL_law_441 ?_
  refine tvi (v := y2b) e_y2b ?_
  refine lv_i2l hx hb dL_law_442 rfl ?_
  refine lv_ldc2 (v := 4294967295) hx hb hown (hts _ k_1147) dL_law_443 ?_
  refine lv_land hx hb dL_law_446 ?_
  refine lv_lor hx hb dL_law_447 ?_
  refine lv_topl (fun w447 e_w447 => ?_)
  have h_w447 := s_anyl w447
  refine kV_i (q0 := 0) ⟨hx, hb, hml, hown, hts⟩ hK hP hD hS hA hX cv_RL_47 [0, 52, 59, 63] [86, 67, 66] (wr := [(qm, .inr (9, [.ref (v 0), .ref (v 1), .ref (v 2), .ref (v 3), .ref (v 4), .ref (v 5), .ref (v 6), .ref (v 7), .ref (v 8), .ref (v 9), .ref (v 10), .ref (v 11), .int 1, .int 0, .int 0, .ref (v 12), .ref (v 13), .ref (v 14), .ref (v 15), .ref (v 16), .ref (v 17), .int 0, .int 0, .ref (v 18), .ref (v 19), .ref (v 20), .ref (v 21), .int 0, .int 0, .ref (v 22), .ref (v 23), .ref (v 24), .ref (v 25), .int 0, .ref (v 26), .int 0])), ((v 8), .inl (cI, 4, .inl (tb [(-1), (-1), (-1), (-1)]))), ((v 7), .inl (cI, 8, .inl (tb [])))]) rfl rfl rfl rfl (by decide) (c077_X8_cell l dC dI cI cJ cII cJJ H.size 0 qx (u 51) (u 58) (u 62) (u 0) (u 10) (u 28) (u 59) (u 60) (u 61) (u 52) (u 57) y1 h_y1 w447 h_w447) ⟨by decide +kernel, by decide +kernel⟩ rfl rfl (Or.inl rfl) (rest := []) rfl rfl rfl hl.1 rfl (Nat.le_of_ble_eq_true rfl) dL_law_448 ⟨Nat.le_of_ble_eq_true rfl, Nat.le_of_ble_eq_true rfl⟩ (W' := [(qm, .inr (9, [.ref (v 0), .ref (v 1), .ref (v 2), .ref (v 3), .ref (v 4), .ref (v 5), .ref (v 6), .ref (v 7), .ref (v 8), .ref (v 9), .ref (v 10), .ref (v 11), .int 1, .int 0, .int 0, .ref (v 12), .ref (v 13), .ref (v 14), .ref (v 15), .ref (v 16), .ref (v 17), .int 0, .int 0, .ref (v 18), .ref (v 19), .ref (v 20), .ref (v 21), .int 0, .int 0, .ref (v 22), .ref (v 23), .ref (v 24), .ref (v 25), .int 0, .ref (v 26), .int 0])), ((v 8), .inl (cI, 4, .inl (tb [(-1), (-1), (-1), (-1)]))), ((v 7), .inl (cI, 8, .inl (tb [])))]) rfl (fun H locs hP hD hS => ?_)
  refine lv_aload_n hx hb dL_law_451 rfl (lv_at hl 1 rfl) ?_
  refine lv_aload_n hx hb dL_law_452 rfl (lv_at hl 3 rfl) ?_
  refine lv_iload_n hx hb dL_law_453 rfl (lv_at hl 0 rfl) ?_
  refine lv_iconst (v := 1) hx hb dL_law_454 (by decide) ?_
  refine v_iadd hx hb dL_law_455 1 (by decide +kernel) ?_
  refine va_sld hx hb hX0 hbl hbA hS (vin (by decide +kernel)) dL_law_456 ?_
  refine tvi (v := 1) e_y0 ?_
  refine lv_aload_n hx hb dL_law_457 rfl (lv_at hl 3 rfl) ?_
  refine lv_iload_n hx hb dL_law_458 rfl (lv_at hl 0 rfl) ?_
  refine lv_iconst (v := 2) hx hb dL_law_459 (by decide) ?_
  refine v_iadd hx hb dL_law_460 2 (by decide +kernel) ?_
  refine va_sld hx hb hX0 hbl hbA hS (vin (by decide +kernel)) dL_law_461 ?_
  refine tvi (v := y1) e_y1 ?_
  refine lv_aload_n hx hb dL_law_462 rfl (lv_at hl 3 rfl) ?_
  refine lv_iload_n hx hb dL_law_463 rfl (lv_at hl 0 rfl) ?_
  refine lv_iconst (v := 3) hx hb dL_law_464 (by decide) ?_
  refine v_iadd hx hb dL_law_465 3 (by decide +kernel) ?_
  refine va_sld hx hb hX0 hbl hbA hS (vin (by decide +kernel)) dL_law_466 ?_
  refine tvi (v := y2) e_y2 ?_
  refine lv_i2l hx hb dL_law_467 rfl ?_
  refine lv_bipush (v := 32) hx hb dL_law_468 (by decide) ?_
  refine lv_lshl hx hb dL_law_470 rfl ?_
  refine lv_aload_n hx hb dL_law_471 rfl (lv_at hl 3 rfl) ?_
  refine lv_iload_n hx hb dL_law_472 rfl (lv_at hl 0 rfl) ?_
  refine lv_iconst (v := 4) hx hb dL_law_473 (by decide) ?_
  refine v_iadd hx hb dL_law_474 4 (by decide +kernel) ?_
  refine va_sld hx hb hX0 hbl hbA hS (vin (by decide +kernel)) dL_law_475 ?_
  refine tvi (v := y2b) e_y2b ?_
  refine lv_i2l hx hb dL_law_476 rfl ?_
  refine lv_ldc2 (v := 4294967295) hx hb hown (hts _ k_1147) dL_law_477 ?_
  refine lv_land hx hb dL_law_480 ?_
  refine lv_lor hx hb dL_law_481 ?_
  refine lv_topl (fun w481 e_w481 => ?_)
  have h_w481 := s_anyl w481
  refine kV_i (q0 := 0) ⟨hx, hb, hml, hown, hts⟩ hK hP hD hS hA hX cv_RL_51 [0, 1, 2] [] (wr := []) rfl rfl rfl rfl (by decide) (c357_X9_cell l dC dI cI cJ cII cJJ H.size 0 qm (v 8) (v 7) (v 0) (v 1) (v 2) (v 3) (v 4) (v 5) (v 6) (v 9) (v 10) (v 11) (v 12) (v 13) (v 14) (v 15) (v 16) (v 17) (v 18) (v 19) (v 20) (v 21) (v 22) (v 23) (v 24) (v 25) (v 26) y1 h_y1 w481 h_w481) ⟨by decide +kernel, by decide +kernel⟩ rfl rfl (Or.inl rfl) (rest := [.int (-7)]) rfl rfl rfl hl.1 rfl (Nat.le_of_ble_eq_true rfl) dL_law_482 ⟨Nat.le_of_ble_eq_true rfl, Nat.le_of_ble_eq_true rfl⟩ (W' := []) rfl (fun H locs hP hD hS => ?_)
  refine t_icmp_eq hx hb dL_law_485 1073 (by decide) rfl ?_
  exact law_end l C0 rfl hS hl
