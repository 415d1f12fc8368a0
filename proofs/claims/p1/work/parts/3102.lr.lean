set_option maxRecDepth 100000 in
set_option maxHeartbeats 4000000 in
theorem lr_36 {p : Program} {e : Env} {s : State} {m : MethodId} {below : List Frame} {meth : Method} {c : Code} (l : Launch) {b L : Nat} {xs : Nat → Int32} (C0 : lw_At p s m meth c b L xs) (hL : L = 5) {dC : Nat → ClassId} {dI : Nat → Nat → Nat} {cI cJ cII cJJ : ClassId} {g qx qm : Nat} {u v : Nat → Nat} {H : Heap} {locs : List Loc} {ls : Array Slot} (e_y0 : xs 1 = 2) (y1 : Int32) (h_y1 : -2147483648 ≤ y1.toInt ∧ y1.toInt ≤ 2147483647) (e_y1 : xs 2 = y1) (y2 y2b : Int32) (e_y2 : xs 3 = y2) (e_y2b : xs 4 = y2b) (hK : va_K (dC, dI) vwCl (TY cI cJ cII cJJ) s) (hX : GXA 1 g (AA s) s) (hP : va_P (dC, dI) vwCl (WLD cI cJ cII cJJ qx qm u v) H) (hD : va_D (AA s) (WLD cI cJ cII cJJ qx qm u v)) (hS : va_S (AA s) s.heap H locs) (hl : lv_has ls 4 [(3, .int 0), (2, .ref qm), (1, .ref qx), (0, .ref b)]) : W p l e room_1 s m #[Value.ref b] below meth c H locs 600000 7302250 (lw_Z below #[Value.ref b] s) (F0 m 417 ls []) := by
  obtain ⟨hx, hb, hr, hml, hown, hts0, hX0, hbl, hlocks, hgv⟩ := id C0
  have hts : ∀ w ∈ TT, w.before #[Value.ref b] s = true := fun w h => hts0 w (TT_tbl h)
  have hA : ∀ q : Nat, s.heap.size ≤ q → AA s q := fun _ h => h
  have hbA : ¬ AA s b := Nat.not_le.mpr hbl
  have hown : s.vm.findClass RL = some m.cls := hown
  subst hL
  refine lv_aload_n hx hb dL_law_417 rfl (lv_at hl 2 rfl) ?_
  refine lv_aload_n hx hb dL_law_418 rfl (lv_at hl 3 rfl) ?_
  refine lv_iload_n hx hb dL_law_419 rfl (lv_at hl 0 rfl) ?_
  refine lv_iconst (v := 1) hx hb dL_law_420 (by decide) ?_
  refine v_iadd hx hb dL_law_421 1 (by decide +kernel) ?_
  refine va_sld hx hb hX0 hbl hbA hS (vin (by decide +kernel)) dL_law_422 ?_
  refine tvi (v := 2) e_y0 ?_
  refine lv_aload_n hx hb dL_law_423 rfl (lv_at hl 3 rfl) ?_
  refine lv_iload_n hx hb dL_law_424 rfl (lv_at hl 0 rfl) ?_
  refine lv_iconst (v := 2) hx hb dL_law_425 (by decide) ?_
  refine v_iadd hx hb dL_law_426 2 (by decide +kernel) ?_
  refine va_sld hx hb hX0 hbl hbA hS (vin (by decide +kernel)) dL_law_427 ?_
  refine tvi (v := y1) e_y1 ?_
  refine lv_aload_n hx hb dL_law_428 rfl (lv_at hl 3 rfl) ?_
  refine lv_iload_n hx hb dL_law_429 rfl (lv_at hl 0 rfl) ?_
  refine lv_iconst (v := 3) hx hb dL_law_430 (by decide) ?_
  refine v_iadd hx hb dL_law_431 3 (by decide +kernel) ?_
  refine va_sld hx hb hX0 hbl hbA hS (vin (by decide +kernel)) dL_law_432 ?_
  refine tvi (v := y2) e_y2 ?_
  refine lv_i2l hx hb dL_law_433 rfl ?_
  refine lv_bipush (v := 32) hx hb dL_law_434 (by decide) ?_
  refine lv_lshl hx hb dL_law_436 rfl ?_
  refine lv_aload_n hx hb dL_law_437 rfl (lv_at hl 3 rfl) ?_
  refine lv_iload_n hx hb dL_law_438 rfl (lv_at hl 0 rfl) ?_
  refine lv_iconst (v := 4) hx hb dL_law_439 (by decide) ?_
  refine v_iadd hx hb dL_law_440 4 (by decide +kernel) ?_
  refine va_sld hx hb hX0 hbl hbA hS (vin (by decide +kernel)) dL_law_441 ?_
  refine tvi (v := y2b) e_y2b ?_
  refine lv_i2l hx hb dL_law_442 rfl ?_
  refine lv_ldc2 (v := 4294967295) hx hb hown (hts _ k_1147) dL_law_443 ?_
  refine lv_land hx hb dL_law_446 ?_
  refine lv_lor hx hb dL_law_447 ?_
  refine lv_topl (fun w447 e_w447 => ?_)
  have h_w447 := s_anyl w447
  refine kV_i (q0 := 0) ⟨hx, hb, hml, hown, hts⟩ hK hP hD hS hA hX cv_RL_47 [0, 52, 59, 63] [86, 67, 66] (wr := [(qm, .inr (9, [.ref (v 0), .ref (v 1), .ref (v 2), .ref (v 3), .ref (v 4), .ref (v 5), .ref (v 6), .ref (v 7), .ref (v 8), .ref (v 9), .ref (v 10), .ref (v 11), .int 1, .int 0, .int 0, .ref (v 12), .ref (v 13), .ref (v 14), .ref (v 15), .ref (v 16), .ref (v 17), .int 0, .int 0, .ref (v 18), .ref (v 19), .ref (v 20), .ref (v 21), .int 0, .int 0, .ref (v 22), .ref (v 23), .ref (v 24), .ref (v 25), .int 0, .ref (v 26), .int 0])), ((v 8), .inl (cI, 4, .inl (tb [(-1), (-1), (-1), (-1)]))), ((v 7), .inl (cI, 8, .inl (tb [])))]) rfl rfl rfl rfl (by decide) (c079_X8_cell l dC dI cI cJ cII cJJ H.size 0 qx (u 51) (u 58) (u 62) (u 0) (u 10) (u 28) (u 59) (u 60) (u 61) (u 52) (u 57) y1 h_y1 w447 h_w447) ⟨by decide +kernel, by decide +kernel⟩ rfl rfl (Or.inl rfl) (rest := []) rfl rfl rfl hl.1 rfl (Nat.le_of_ble_eq_true rfl) dL_law_448 ⟨Nat.le_of_ble_eq_true rfl, Nat.le_of_ble_eq_true rfl⟩ (W' := [(qm, .inr (9, [.ref (v 0), .ref (v 1), .ref (v 2), .ref (v 3), .ref (v 4), .ref (v 5), .ref (v 6), .ref (v 7), .ref (v 8), .ref (v 9), .ref (v 10), .ref (v 11), .int 1, .int 0, .int 0, .ref (v 12), .ref (v 13), .ref (v 14), .ref (v 15), .ref (v 16), .ref (v 17), .int 0, .int 0, .ref (v 18), .ref (v 19), .ref (v 20), .ref (v 21), .int 0, .int 0, .ref (v 22), .ref (v 23), .ref (v 24), .ref (v 25), .int 0, .ref (v 26), .int 0])), ((v 8), .inl (cI, 4, .inl (tb [(-1), (-1), (-1), (-1)]))), ((v 7), .inl (cI, 8, .inl (tb [])))]) rfl (fun H locs hP hD hS => ?_)
  refine lv_aload_n hx hb dL_law_451 rfl (lv_at hl 1 rfl) ?_
  refine lv_aload_n hx hb dL_law_452 rfl (lv_at hl 3 rfl) ?_
  refine lv_iload_n hx hb dL_law_453 rfl (lv_at hl 0 rfl) ?_
  refine lv_iconst (v := 1) hx hb dL_law_454 (by decide) ?_
  refine v_iadd hx hb dL_law_455 1 (by decide +kernel) ?_
  refine va_sld hx hb hX0 hbl hbA hS (vin (by decide +kernel)) dL_law_456 ?_
  refine tvi (v := 2) e_y0 ?_
  refine lv_aload_n hx hb dL_law_457 rfl (lv_at hl 3 rfl) ?_
  refine lv_iload_n hx hb dL_law_458 rfl (lv_at hl 0 rfl) ?_
  refine lv_iconst (v := 2) hx hb dL_law_459 (by decide) ?_
  refine v_iadd hx hb dL_law_460 2 (by decide +kernel) ?_
  refine va_sld hx hb hX0 hbl hbA hS (vin (by decide +kernel)) dL_law_461 ?_
  refine tvi (v := y1) e_y1 ?_
  refine lv_aload_n hx hb dL_law_462 rfl (lv_at hl 3 rfl) ?_
  refine lv_iload_n hx hb dL_law_463 rfl (lv_at hl 0 rfl) ?_
  refine lv_iconst (v := 3) hx hb dL_law_464 (by decide) ?_
  refine v_iadd hx hb dL_law_465 3 (by decide +kernel) ?_
  refine va_sld hx hb hX0 hbl hbA hS (vin (by decide +kernel)) dL_law_466 ?_
  refine tvi (v := y2) e_y2 ?_
  refine lv_i2l hx hb dL_law_467 rfl ?_
  refine lv_bipush (v := 32) hx hb dL_law_468 (by decide) ?_
  refine lv_lshl hx hb dL_law_470 rfl ?_
  refine lv_aload_n hx hb dL_law_471 rfl (lv_at hl 3 rfl) ?_
  refine lv_iload_n hx hb dL_law_472 rfl (lv_at hl 0 rfl) ?_
  refine lv_iconst (v := 4) hx hb dL_law_473 (by decide) ?_
  refine v_iadd hx hb dL_law_474 4 (by decide +kernel) ?_
  refine va_sld hx hb hX0 hbl hbA hS (vin (by decide +kernel)) dL_law_475 ?_
  refine tvi (v := y2b) e_y2b ?_
  refine lv_i2l hx hb dL_law_476 rfl ?_
  refine lv_ldc2 (v := 4294967295) hx hb hown (hts _ k_1147) dL_law_477 ?_
  refine lv_land hx hb dL_law_480 ?_
  refine lv_lor hx hb dL_law_481 ?_
  refine lv_topl (fun w481 e_w481 => ?_)
  have h_w481 := s_anyl w481
  refine kV_i (q0 := 0) ⟨hx, hb, hml, hown, hts⟩ hK hP hD hS hA hX cv_RL_51 [0, 1, 2] [] (wr := []) rfl rfl rfl rfl (by decide) (c358_X9_cell l dC dI cI cJ cII cJJ H.size 0 qm (v 8) (v 7) (v 0) (v 1) (v 2) (v 3) (v 4) (v 5) (v 6) (v 9) (v 10) (v 11) (v 12) (v 13) (v 14) (v 15) (v 16) (v 17) (v 18) (v 19) (v 20) (v 21) (v 22) (v 23) (v 24) (v 25) (v 26) y1 h_y1 w481 h_w481) ⟨by decide +kernel, by decide +kernel⟩ rfl rfl (Or.inl rfl) (rest := [.int (-7)]) rfl rfl rfl hl.1 rfl (Nat.le_of_ble_eq_true rfl) dL_law_482 ⟨Nat.le_of_ble_eq_true rfl, Nat.le_of_ble_eq_true rfl⟩ (W' := []) rfl (fun H locs hP hD hS => ?_)
  refine t_icmp_eq hx hb dL_law_485 1073 (by decide) rfl ?_
  exact law_end l C0 rfl hS hl
set_option maxRecDepth 100000 in
set_option maxHeartbeats 4000000 in
theorem lr_37 {p : Program} {e : Env} {s : State} {m : MethodId} {below : List Frame} {meth : Method} {c : Code} (l : Launch) {b L : Nat} {xs : Nat → Int32} (C0 : lw_At p s m meth c b L xs) (hL : L = 5) {dC : Nat → ClassId} {dI : Nat → Nat → Nat} {cI cJ cII cJJ : ClassId} {g qx qm : Nat} {u v : Nat → Nat} {H : Heap} {locs : List Loc} {ls : Array Slot} (e_y0 : xs 1 = 3) (y1 : Int32) (h_y1 : -2147483648 ≤ y1.toInt ∧ y1.toInt ≤ 2147483647) (e_y1 : xs 2 = y1) (y2 y2b : Int32) (e_y2 : xs 3 = y2) (e_y2b : xs 4 = y2b) (hK : va_K (dC, dI) vwCl (TY cI cJ cII cJJ) s) (hX : GXA 1 g (AA s) s) (hP : va_P (dC, dI) vwCl (WLD cI cJ cII cJJ qx qm u v) H) (hD : va_D (AA s) (WLD cI cJ cII cJJ qx qm u v)) (hS : va_S (AA s) s.heap H locs) (hl : lv_has ls 4 [(3, .int 0), (2, .ref qm), (1, .ref qx), (0, .ref b)]) : W p l e room_1 s m #[Value.ref b] below meth c H locs 600000 7302250 (lw_Z below #[Value.ref b] s) (F0 m 417 ls []) := by
  obtain ⟨hx, hb, hr, hml, hown, hts0, hX0, hbl, hlocks, hgv⟩ := id C0
  have hts : ∀ w ∈ TT, w.before #[Value.ref b] s = true := fun w h => hts0 w (TT_tbl h)
  have hA : ∀ q : Nat, s.heap.size ≤ q → AA s q := fun _ h => h
  have hbA : ¬ AA s b := Nat.not_le.mpr hbl
  have hown : s.vm.findClass RL = some m.cls := hown
  subst hL
  refine lv_aload_n hx hb dL_law_417 rfl (lv_at hl 2 rfl) ?_
  refine lv_aload_n hx hb dL_law_418 rfl (lv_at hl 3 rfl) ?_
  refine lv_iload_n hx hb dL_law_419 rfl (lv_at hl 0 rfl) ?_
  refine lv_iconst (v := 1) hx hb dL_law_420 (by decide) ?_
  refine v_iadd hx hb dL_law_421 1 (by decide +kernel) ?_
  refine va_sld hx hb hX0 hbl hbA hS (vin (by decide +kernel)) dL_law_422 ?_
  refine tvi (v := 3) e_y0 ?_
  refine lv_aload_n hx hb dL_law_423 rfl (lv_at hl 3 rfl) ?_
  refine lv_iload_n hx hb dL_law_424 rfl (lv_at hl 0 rfl) ?_
  refine lv_iconst (v := 2) hx hb dL_law_425 (by decide) ?_
  refine v_iadd hx hb dL_law_426 2 (by decide +kernel) ?_
  refine va_sld hx hb hX0 hbl hbA hS (vin (by decide +kernel)) dL_law_427 ?_
  refine tvi (v := y1) e_y1 ?_
  refine lv_aload_n hx hb dL_law_428 rfl (lv_at hl 3 rfl) ?_
  refine lv_iload_n hx hb dL_law_429 rfl (lv_at hl 0 rfl) ?_
  refine lv_iconst (v := 3) hx hb dL_law_430 (by decide) ?_
  refine v_iadd hx hb dL_law_431 3 (by decide +kernel) ?_
  refine va_sld hx hb hX0 hbl hbA hS (vin (by decide +kernel)) dL_law_432 ?_
  refine tvi (v := y2) e_y2 ?_
  refine lv_i2l hx hb dL_law_433 rfl ?_
  refine lv_bipush (v := 32) hx hb dL_law_434 (by decide) ?_
  refine lv_lshl hx hb dL_law_436 rfl ?_
  refine lv_aload_n hx hb dL_law_437 rfl (lv_at hl 3 rfl) ?_
  refine lv_iload_n hx hb dL_law_438 rfl (lv_at hl 0 rfl) ?_
  refine lv_iconst (v := 4) hx hb dL_law_439 (by decide) ?_
  refine v_iadd hx hb dL_law_440 4 (by decide +kernel) ?_
  refine va_sld hx hb hX0 hbl hbA hS (vin (by decide +kernel)) dL_law_441 ?_
  refine tvi (v := y2b) e_y2b ?_
  refine lv_i2l hx hb dL_law_442 rfl ?_
  refine lv_ldc2 (v := 4294967295) hx hb hown (hts _ k_1147) dL_law_443 ?_
  refine lv_land hx hb dL_law_446 ?_
  refine lv_lor hx hb dL_law_447 ?_
  refine lv_topl (fun w447 e_w447 => ?_)
  have h_w447 := s_anyl w447
  refine kV_i (q0 := 0) ⟨hx, hb, hml, hown, hts⟩ hK hP hD hS hA hX cv_RL_47 [0, 52, 59, 63] [86, 67, 66] (wr := [(qm, .inr (9, [.ref (v 0), .ref (v 1), .ref (v 2), .ref (v 3), .ref (v 4), .ref (v 5), .ref (v 6), .ref (v 7), .ref (v 8), .ref (v 9), .ref (v 10), .ref (v 11), .int 1, .int 0, .int 0, .ref (v 12), .ref (v 13), .ref (v 14), .ref (v 15), .ref (v 16), .ref (v 17), .int 0, .int 0, .ref (v 18), .ref (v 19), .ref (v 20), .ref (v 21), .int 0, .int 0, .ref (v 22), .ref (v 23), .ref (v 24), .ref (v 25), .int 0, .ref (v 26), .int 0])), ((v 8), .inl (cI, 4, .inl (tb [(-1), (-1), (-1), (-1)]))), ((v 7), .inl (cI, 8, .inl (tb [])))]) rfl rfl rfl rfl (by decide) (c081_X8_cell l dC dI cI cJ cII cJJ H.size 0 qx (u 51) (u 58) (u 62) (u 0) (u 10) (u 28) (u 59) (u 60) (u 61) (u 52) (u 57) y1 h_y1 w447 h_w447) ⟨by decide +kernel, by decide +kernel⟩ rfl rfl (Or.inl rfl) (rest := []) rfl rfl rfl hl.1 rfl (Nat.le_of_ble_eq_true rfl) dL_law_448 ⟨Nat.le_of_ble_eq_true rfl, Nat.le_of_ble_eq_true rfl⟩ (W' := [(qm, .inr (9, [.ref (v 0), .ref (v 1), .ref (v 2), .ref (v 3), .ref (v 4), .ref (v 5), .ref (v 6), .ref (v 7), .ref (v 8), .ref (v 9), .ref (v 10), .ref (v 11), .int 1, .int 0, .int 0, .ref (v 12), .ref (v 13), .ref (v 14), .ref (v 15), .ref (v 16), .ref (v 17), .int 0, .int 0, .ref (v 18), .ref (v 19), .ref (v 20), .ref (v 21), .int 0, .int 0, .ref (v 22), .ref (v 23), .ref (v 24), .ref (v 25), .int 0, .ref (v 26), .int 0])), ((v 8), .inl (cI, 4, .inl (tb [(-1), (-1), (-1), (-1)]))), ((v 7), .inl (cI, 8, .inl (tb [])))]) rfl (fun H locs hP hD hS => ?_)
  refine lv_aload_n hx hb dL_law_451 rfl (lv_at hl 1 rfl) ?_
  refine lv_aload_n hx hb dL_law_452 rfl (lv_at hl 3 rfl) ?_
  refine lv_iload_n hx hb dL_law_453 rfl (lv_at hl 0 rfl) ?_
  refine lv_iconst (v := 1) hx hb dL_law_454 (by decide) ?_
  refine v_iadd hx hb dL_law_455 1 (by decide +kernel) ?_
  refine va_sld hx hb hX0 hbl hbA hS (vin (by decide +kernel)) dL_law_456 ?_
  refine tvi (v := 3) e_y0 ?_
  refine lv_aload_n hx hb dL_law_457 rfl (lv_at hl 3 rfl) ?_
  refine lv_iload_n hx hb dL_law_458 rfl (lv_at hl 0 rfl) ?_
  refine lv_iconst (v := 2) hx hb dL_law_459 (by decide) ?_
  refine v_iadd hx hb dL_law_460 2 (by decide +kernel) ?_
  refine va_sld hx hb hX0 hbl hbA hS (vin (by decide +kernel)) dL_law_461 ?_
  refine tvi (v := y1) e_y1 ?_
  refine lv_aload_n hx hb dL_law_462 rfl (lv_at hl 3 rfl) ?_
  refine lv_iload_n hx hb dL_law_463 rfl (lv_at hl 0 rfl) ?_
  refine lv_iconst (v := 3) hx hb dL_law_464 (by decide) ?_
  refine v_iadd hx hb dL_law_465 3 (by decide +kernel) ?_
  refine va_sld hx hb hX0 hbl hbA hS (vin (by decide +kernel)) dL_law_466 ?_
  refine tvi (v := y2) e_y2 ?_
  refine lv_i2l hx hb dL_law_467 rfl ?_
  refine lv_bipush (v := 32) hx hb dL_law_468 (by decide) ?_
  refine lv_lshl hx hb dL_law_470 rfl ?_
  refine lv_aload_n hx hb dL_law_471 rfl (lv_at hl 3 rfl) ?_
  refine lv_iload_n hx hb dL_law_472 rfl (lv_at hl 0 rfl) ?_
  refine lv_iconst (v := 4) hx hb dL_law_473 (by decide) ?_
  refine v_iadd hx hb dL_law_474 4 (by decide +kernel) ?_
  refine va_sld hx hb hX0 hbl hbA hS (vin (by decide +kernel)) dL_law_475 ?_
  refine tvi (v := y2b) e_y2b ?_
  refine lv_i2l hx hb dL_law_476 rfl ?_
  refine lv_ldc2 (v := 4294967295) hx hb hown (hts _ k_1147) dL_law_477 ?_
  refine lv_land hx hb dL_law_480 ?_
  refine lv_lor hx hb dL_law_481 ?_
  refine lv_topl (fun w481 e_w481 => ?_)
  have h_w481 := s_anyl w481
  refine kV_i (q0 := 0) ⟨hx, hb, hml, hown, hts⟩ hK hP hD hS hA hX cv_RL_51 [0, 1, 2] [] (wr := []) rfl rfl rfl rfl (by decide) (c359_X9_cell l dC dI cI cJ cII cJJ H.size 0 qm (v 8) (v 7) (v 0) (v 1) (v 2) (v 3) (v 4) (v 5) (v 6) (v 9) (v 10) (v 11) (v 12) (v 13) (v 14) (v 15) (v 16) (v 17) (v 18) (v 19) (v 20) (v 21) (v 22) (v 23) (v 24) (v 25) (v 26) y1 h_y1 w481 h_w481) ⟨by decide +kernel, by decide +kernel⟩ rfl rfl (Or.inl rfl) (rest := [.int (-7)]) rfl rfl rfl hl.1 rfl (Nat.le_of_ble_eq_true rfl) dL_law_482 ⟨Nat.le_of_ble_eq_true rfl, Nat.le_of_ble_eq_true rfl⟩ (W' := []) rfl (fun H locs hP hD hS => ?_)
  refine t_icmp_eq hx hb dL_law_485 1073 (by decide) rfl ?_
  exact law_end l C0 rfl hS hl
set_option maxRecDepth 100000 in
set_option maxHeartbeats 4000000 in
theorem lc_7 {p : Program} {e : Env} {s : State} {m : MethodId} {below : List Frame} {meth : Method} {c : Code} (l : Launch) {b L : Nat} {xs : Nat → Int32} (C0 : lw_At p s m meth c b L xs) (hL : L = 5) {dC : Nat → ClassId} {dI : Nat → Nat → Nat} {cI cJ cII cJJ : ClassId} {g qx qm : Nat} {u v : Nat → Nat} {H : Heap} {locs : List Loc} {ls : Array Slot} (hK : va_K (dC, dI) vwCl (TY cI cJ cII cJJ) s) (hX : GXA 1 g (AA s) s) (hP : va_P (dC, dI) vwCl (WLD cI cJ cII cJJ qx qm u v) H) (hD : va_D (AA s) (WLD cI cJ cII cJJ qx qm u v)) (hS : va_S (AA s) s.heap H locs) (hl : lv_has ls 4 [(3, .int 0), (2, .ref qm), (1, .ref qx), (0, .ref b)]) : W p l e room_1 s m #[Value.ref b] below meth c H locs 600000 7302250 (lw_Z below #[Value.ref b] s) (F0 m 417 ls []) := by
  have q1 := s_any (xs 1)
  have q2 := s_any (xs 2)
  have q3 := s_any (xs 3)
  have key : ((xs 1).toInt ≤ -1) ∨ (4 ≤ (xs 1).toInt) ∨ ((xs 1).toInt = 0) ∨ ((xs 1).toInt = 1) ∨ ((xs 1).toInt = 2) ∨ ((xs 1).toInt = 3) := by omega
  rcases key with h | h | h | h | h | h
  · exact lr_32 l C0 hL (xs 1) ⟨by omega, by omega⟩ rfl (xs 2) ⟨by omega, by omega⟩ rfl (xs 3) (xs 4) rfl rfl hK hX hP hD hS hl
  · exact lr_33 l C0 hL (xs 1) ⟨by omega, by omega⟩ rfl (xs 2) ⟨by omega, by omega⟩ rfl (xs 3) (xs 4) rfl rfl hK hX hP hD hS hl
  · exact lr_34 l C0 hL (Int32.toInt_inj.mp (by rw [show (0 : Int32).toInt = 0 from by decide +kernel]; omega)) (xs 2) ⟨by omega, by omega⟩ rfl (xs 3) (xs 4) rfl rfl hK hX hP hD hS hl
  · exact lr_35 l C0 hL (Int32.toInt_inj.mp (by rw [show (1 : Int32).toInt = 1 from by decide +kernel]; omega)) (xs 2) ⟨by omega, by omega⟩ rfl (xs 3) (xs 4) rfl rfl hK hX hP hD hS hl
  · exact lr_36 l C0 hL (Int32.toInt_inj.mp (by rw [show (2 : Int32).toInt = 2 from by decide +kernel]; omega)) (xs 2) ⟨by omega, by omega⟩ rfl (xs 3) (xs 4) rfl rfl hK hX hP hD hS hl
  · exact lr_37 l C0 hL (Int32.toInt_inj.mp (by rw [show (3 : Int32).toInt = 3 from by decide +kernel]; omega)) (xs 2) ⟨by omega, by omega⟩ rfl (xs 3) (xs 4) rfl rfl hK hX hP hD hS hl
set_option maxRecDepth 100000 in
set_option maxHeartbeats 4000000 in
theorem lr_38 {p : Program} {e : Env} {s : State} {m : MethodId} {below : List Frame} {meth : Method} {c : Code} (l : Launch) {b L : Nat} {xs : Nat → Int32} (C0 : lw_At p s m meth c b L xs) (hL : L = 5) {dC : Nat → ClassId} {dI : Nat → Nat → Nat} {cI cJ cII cJJ : ClassId} {g qx qm : Nat} {u v : Nat → Nat} {H : Heap} {locs : List Loc} {ls : Array Slot} (y0 : Int32) (h_y0 : -2147483648 ≤ y0.toInt ∧ y0.toInt ≤ -1) (e_y0 : xs 1 = y0) (y1 : Int32) (h_y1 : -2147483648 ≤ y1.toInt ∧ y1.toInt ≤ 2147483647) (e_y1 : xs 2 = y1) (y2 : Int32) (h_y2 : -2147483648 ≤ y2.toInt ∧ y2.toInt ≤ 2147483647) (e_y2 : xs 3 = y2) (y3 : Int32) (h_y3 : -2147483648 ≤ y3.toInt ∧ y3.toInt ≤ 2147483647) (e_y3 : xs 4 = y3) (hK : va_K (dC, dI) vwCl (TY cI cJ cII cJJ) s) (hX : GXA 1 g (AA s) s) (hP : va_P (dC, dI) vwCl (WLD cI cJ cII cJJ qx qm u v) H) (hD : va_D (AA s) (WLD cI cJ cII cJJ qx qm u v)) (hS : va_S (AA s) s.heap H locs) (hl : lv_has ls 4 [(3, .int 0), (2, .ref qm), (1, .ref qx), (0, .ref b)]) : W p l e room_1 s m #[Value.ref b] below meth c H locs 600000 7302250 (lw_Z below #[Value.ref b] s) (F0 m 490 ls []) := by
  obtain ⟨hx, hb, hr, hml, hown, hts0, hX0, hbl, hlocks, hgv⟩ := id C0
  have hts : ∀ w ∈ TT, w.before #[Value.ref b] s = true := fun w h => hts0 w (TT_tbl h)
  have hA : ∀ q : Nat, s.heap.size ≤ q → AA s q := fun _ h => h
  have hbA : ¬ AA s b := Nat.not_le.mpr hbl
  have hown : s.vm.findClass RL = some m.cls := hown
  subst hL
  refine lv_aload_n hx hb dL_law_490 rfl (lv_at hl 2 rfl) ?_
  refine lv_aload_n hx hb dL_law_491 rfl (lv_at hl 3 rfl) ?_
  refine lv_iload_n hx hb dL_law_492 rfl (lv_at hl 0 rfl) ?_
  refine lv_iconst (v := 1) hx hb dL_law_493 (by decide) ?_
  refine v_iadd hx hb dL_law_494 1 (by decide +kernel) ?_
  refine va_sld hx hb hX0 hbl hbA hS (vin (by decide +kernel)) dL_law_495 ?_
  refine tvi (v := y0) e_y0 ?_
  refine lv_aload_n hx hb dL_law_496 rfl (lv_at hl 3 rfl) ?_
  refine lv_iload_n hx hb dL_law_497 rfl (lv_at hl 0 rfl) ?_
  refine lv_iconst (v := 2) hx hb dL_law_498 (by decide) ?_
  refine v_iadd hx hb dL_law_499 2 (by decide +kernel) ?_
  refine va_sld hx hb hX0 hbl hbA hS (vin (by decide +kernel)) dL_law_500 ?_
  refine tvi (v := y1) e_y1 ?_
  refine lv_aload_n hx hb dL_law_501 rfl (lv_at hl 3 rfl) ?_
  refine lv_iload_n hx hb dL_law_502 rfl (lv_at hl 0 rfl) ?_
  refine lv_iconst (v := 3) hx hb dL_law_503 (by decide) ?_
  refine v_iadd hx hb dL_law_504 3 (by decide +kernel) ?_
  refine va_sld hx hb hX0 hbl hbA hS (vin (by decide +kernel)) dL_law_505 ?_
  refine tvi (v := y2) e_y2 ?_
  refine lv_aload_n hx hb dL_law_506 rfl (lv_at hl 3 rfl) ?_
  refine lv_iload_n hx hb dL_law_507 rfl (lv_at hl 0 rfl) ?_
  refine lv_iconst (v := 4) hx hb dL_law_508 (by decide) ?_
  refine v_iadd hx hb dL_law_509 4 (by decide +kernel) ?_
  refine va_sld hx hb hX0 hbl hbA hS (vin (by decide +kernel)) dL_law_510 ?_
  refine tvi (v := y3) e_y3 ?_
  refine kV_i (q0 := 0) ⟨hx, hb, hml, hown, hts⟩ hK hP hD hS hA hX cv_RL_52 [0, 52, 63] [86, 66] (wr := [(qm, .inr (9, [.ref (v 0), .ref (v 1), .ref (v 2), .ref (v 3), .ref (v 4), .ref (v 5), .ref (v 6), .ref (v 7), .ref (v 8), .ref (v 9), .ref (v 10), .ref (v 11), .int 1, .int 0, .int 0, .ref (v 12), .ref (v 13), .ref (v 14), .ref (v 15), .ref (v 16), .ref (v 17), .int 0, .int 0, .ref (v 18), .ref (v 19), .ref (v 20), .ref (v 21), .int 0, .int 0, .ref (v 22), .ref (v 23), .ref (v 24), .ref (v 25), .int 0, .ref (v 26), .int 0])), ((v 7), .inl (cI, 8, .inl (tb [])))]) rfl rfl rfl rfl (by decide) (c083_X8_copy l dC dI cI cJ cII cJJ H.size 0 qx (u 51) (u 62) (u 0) (u 10) (u 28) (u 59) (u 60) (u 61) (u 52) (u 57) (u 58) y0 h_y0 y1 h_y1 y2 h_y2 y3 h_y3) ⟨by decide +kernel, by decide +kernel⟩ rfl rfl (Or.inl rfl) (rest := []) rfl rfl rfl hl.1 rfl (Nat.le_of_ble_eq_true rfl) dL_law_511 ⟨Nat.le_of_ble_eq_true rfl, Nat.le_of_ble_eq_true rfl⟩ (W' := [(qm, .inr (9, [.ref (v 0), .ref (v 1), .ref (v 2), .ref (v 3), .ref (v 4), .ref (v 5), .ref (v 6), .ref (v 7), .ref (v 8), .ref (v 9), .ref (v 10), .ref (v 11), .int 1, .int 0, .int 0, .ref (v 12), .ref (v 13), .ref (v 14), .ref (v 15), .ref (v 16), .ref (v 17), .int 0, .int 0, .ref (v 18), .ref (v 19), .ref (v 20), .ref (v 21), .int 0, .int 0, .ref (v 22), .ref (v 23), .ref (v 24), .ref (v 25), .int 0, .ref (v 26), .int 0])), ((v 7), .inl (cI, 8, .inl (tb [])))]) rfl (fun H locs hP hD hS => ?_)
  refine lv_aload_n hx hb dL_law_514 rfl (lv_at hl 1 rfl) ?_
  refine lv_aload_n hx hb dL_law_515 rfl (lv_at hl 3 rfl) ?_
  refine lv_iload_n hx hb dL_law_516 rfl (lv_at hl 0 rfl) ?_
  refine lv_iconst (v := 1) hx hb dL_law_517 (by decide) ?_
  refine v_iadd hx hb dL_law_518 1 (by decide +kernel) ?_
  refine va_sld hx hb hX0 hbl hbA hS (vin (by decide +kernel)) dL_law_519 ?_
  refine tvi (v := y0) e_y0 ?_
  refine lv_aload_n hx hb dL_law_520 rfl (lv_at hl 3 rfl) ?_
  refine lv_iload_n hx hb dL_law_521 rfl (lv_at hl 0 rfl) ?_
  refine lv_iconst (v := 2) hx hb dL_law_522 (by decide) ?_
  refine v_iadd hx hb dL_law_523 2 (by decide +kernel) ?_
  refine va_sld hx hb hX0 hbl hbA hS (vin (by decide +kernel)) dL_law_524 ?_
  refine tvi (v := y1) e_y1 ?_
  refine lv_aload_n hx hb dL_law_525 rfl (lv_at hl 3 rfl) ?_
  refine lv_iload_n hx hb dL_law_526 rfl (lv_at hl 0 rfl) ?_
  refine lv_iconst (v := 3) hx hb dL_law_527 (by decide) ?_
  refine v_iadd hx hb dL_law_528 3 (by decide +kernel) ?_
  refine va_sld hx hb hX0 hbl hbA hS (vin (by decide +kernel)) dL_law_529 ?_
  refine tvi (v := y2) e_y2 ?_
  refine lv_aload_n hx hb dL_law_530 rfl (lv_at hl 3 rfl) ?_
  refine lv_iload_n hx hb dL_law_531 rfl (lv_at hl 0 rfl) ?_
  refine lv_iconst (v := 4) hx hb dL_law_532 (by decide) ?_
  refine v_iadd hx hb dL_law_533 4 (by decide +kernel) ?_
  refine va_sld hx hb hX0 hbl hbA hS (vin (by decide +kernel)) dL_law_534 ?_
  refine tvi (v := y3) e_y3 ?_
  refine kV_i (q0 := 0) ⟨hx, hb, hml, hown, hts⟩ hK hP hD hS hA hX cv_RL_56 [0, 1] [] (wr := []) rfl rfl rfl rfl (by decide) (c360_X9_copy l dC dI cI cJ cII cJJ H.size 0 qm (v 7) (v 0) (v 1) (v 2) (v 3) (v 4) (v 5) (v 6) (v 8) (v 9) (v 10) (v 11) (v 12) (v 13) (v 14) (v 15) (v 16) (v 17) (v 18) (v 19) (v 20) (v 21) (v 22) (v 23) (v 24) (v 25) (v 26) y0 h_y0 y1 h_y1 y2 h_y2 y3 h_y3) ⟨by decide +kernel, by decide +kernel⟩ rfl rfl (Or.inl rfl) (rest := [.int (-1)]) rfl rfl rfl hl.1 rfl (Nat.le_of_ble_eq_true rfl) dL_law_535 ⟨Nat.le_of_ble_eq_true rfl, Nat.le_of_ble_eq_true rfl⟩ (W' := []) rfl (fun H locs hP hD hS => ?_)
  refine t_icmp_eq hx hb dL_law_538 1073 (by decide) rfl ?_
  exact law_end l C0 rfl hS hl
set_option maxRecDepth 100000 in
set_option maxHeartbeats 4000000 in
theorem lr_39 {p : Program} {e : Env} {s : State} {m : MethodId} {below : List Frame} {meth : Method} {c : Code} (l : Launch) {b L : Nat} {xs : Nat → Int32} (C0 : lw_At p s m meth c b L xs) (hL : L = 5) {dC : Nat → ClassId} {dI : Nat → Nat → Nat} {cI cJ cII cJJ : ClassId} {g qx qm : Nat} {u v : Nat → Nat} {H : Heap} {locs : List Loc} {ls : Array Slot} (y0 : Int32) (h_y0 : 4 ≤ y0.toInt ∧ y0.toInt ≤ 2147483647) (e_y0 : xs 1 = y0) (y1 : Int32) (h_y1 : -2147483648 ≤ y1.toInt ∧ y1.toInt ≤ 2147483647) (e_y1 : xs 2 = y1) (y2 : Int32) (h_y2 : -2147483648 ≤ y2.toInt ∧ y2.toInt ≤ 2147483647) (e_y2 : xs 3 = y2) (y3 : Int32) (h_y3 : -2147483648 ≤ y3.toInt ∧ y3.toInt ≤ 2147483647) (e_y3 : xs 4 = y3) (hK : va_K (dC, dI) vwCl (TY cI cJ cII cJJ) s) (hX : GXA 1 g (AA s) s) (hP : va_P (dC, dI) vwCl (WLD cI cJ cII cJJ qx qm u v) H) (hD : va_D (AA s) (WLD cI cJ cII cJJ qx qm u v)) (hS : va_S (AA s) s.heap H locs) (hl : lv_has ls 4 [(3, .int 0), (2, .ref qm), (1, .ref qx), (0, .ref b)]) : W p l e room_1 s m #[Value.ref b] below meth c H locs 600000 7302250 (lw_Z below #[Value.ref b] s) (F0 m 490 ls []) := by
  obtain ⟨hx, hb, hr, hml, hown, hts0, hX0, hbl, hlocks, hgv⟩ := id C0
  have hts : ∀ w ∈ TT, w.before #[Value.ref b] s = true := fun w h => hts0 w (TT_tbl h)
  have hA : ∀ q : Nat, s.heap.size ≤ q → AA s q := fun _ h => h
  have hbA : ¬ AA s b := Nat.not_le.mpr hbl
  have hown : s.vm.findClass RL = some m.cls := hown
  subst hL
  refine lv_aload_n hx hb dL_law_490 rfl (lv_at hl 2 rfl) ?_
  refine lv_aload_n hx hb dL_law_491 rfl (lv_at hl 3 rfl) ?_
  refine lv_iload_n hx hb dL_law_492 rfl (lv_at hl 0 rfl) ?_
  refine lv_iconst (v := 1) hx hb dL_law_493 (by decide) ?_
  refine v_iadd hx hb dL_law_494 1 (by decide +kernel) ?_
  refine va_sld hx hb hX0 hbl hbA hS (vin (by decide +kernel)) dL_law_495 ?_
  refine tvi (v := y0) e_y0 ?_
  refine lv_aload_n hx hb dL_law_496 rfl (lv_at hl 3 rfl) ?_
  refine lv_iload_n hx hb dL_law_497 rfl (lv_at hl 0 rfl) ?_
  refine lv_iconst (v := 2) hx hb dL_law_498 (by decide) ?_
  refine v_iadd hx hb dL_law_499 2 (by decide +kernel) ?_
  refine va_sld hx hb hX0 hbl hbA hS (vin (by decide +kernel)) dL_law_500 ?_
  refine tvi (v := y1) e_y1 ?_
  refine lv_aload_n hx hb dL_law_501 rfl (lv_at hl 3 rfl) ?_
  refine lv_iload_n hx hb dL_law_502 rfl (lv_at hl 0 rfl) ?_
  refine lv_iconst (v := 3) hx hb dL_law_503 (by decide) ?_
  refine v_iadd hx hb dL_law_504 3 (by decide +kernel) ?_
  refine va_sld hx hb hX0 hbl hbA hS (vin (by decide +kernel)) dL_law_505 ?_
  refine tvi (v := y2) e_y2 ?_
  refine lv_aload_n hx hb dL_law_506 rfl (lv_at hl 3 rfl) ?_
  refine lv_iload_n hx hb dL_law_507 rfl (lv_at hl 0 rfl) ?_
  refine lv_iconst (v := 4) hx hb dL_law_508 (by decide) ?_
  refine v_iadd hx hb dL_law_509 4 (by decide +kernel) ?_
  refine va_sld hx hb hX0 hbl hbA hS (vin (by decide +kernel)) dL_law_510 ?_
  refine tvi (v := y3) e_y3 ?_
  refine kV_i (q0 := 0) ⟨hx, hb, hml, hown, hts⟩ hK hP hD hS hA hX cv_RL_52 [0, 52, 63] [86, 66] (wr := [(qm, .inr (9, [.ref (v 0), .ref (v 1), .ref (v 2), .ref (v 3), .ref (v 4), .ref (v 5), .ref (v 6), .ref (v 7), .ref (v 8), .ref (v 9), .ref (v 10), .ref (v 11), .int 1, .int 0, .int 0, .ref (v 12), .ref (v 13), .ref (v 14), .ref (v 15), .ref (v 16), .ref (v 17), .int 0, .int 0, .ref (v 18), .ref (v 19), .ref (v 20), .ref (v 21), .int 0, .int 0, .ref (v 22), .ref (v 23), .ref (v 24), .ref (v 25), .int 0, .ref (v 26), .int 0])), ((v 7), .inl (cI, 8, .inl (tb [])))]) rfl rfl rfl rfl (by decide) (c084_X8_copy l dC dI cI cJ cII cJJ H.size 0 qx (u 51) (u 62) (u 0) (u 10) (u 28) (u 59) (u 60) (u 61) (u 52) (u 57) (u 58) y0 h_y0 y1 h_y1 y2 h_y2 y3 h_y3) ⟨by decide +kernel, by decide +kernel⟩ rfl rfl (Or.inl rfl) (rest := []) rfl rfl rfl hl.1 rfl (Nat.le_of_ble_eq_true rfl) dL_law_511 ⟨Nat.le_of_ble_eq_true rfl, Nat.le_of_ble_eq_true rfl⟩ (W' := [(qm, .inr (9, [.ref (v 0), .ref (v 1), .ref (v 2), .ref (v 3), .ref (v 4), .ref (v 5), .ref (v 6), .ref (v 7), .ref (v 8), .ref (v 9), .ref (v 10), .ref (v 11), .int 1, .int 0, .int 0, .ref (v 12), .ref (v 13), .ref (v 14), .ref (v 15), .ref (v 16), .ref (v 17), .int 0, .int 0, .ref (v 18), .ref (v 19), .ref (v 20), .ref (v 21), .int 0, .int 0, .ref (v 22), .ref (v 23), .ref (v 24), .ref (v 25), .int 0, .ref (v 26), .int 0])), ((v 7), .inl (cI, 8, .inl (tb [])))]) rfl (fun H locs hP hD hS => ?_)
  refine lv_aload_n hx hb dL_law_514 rfl (lv_at hl 1 rfl) ?_
  refine lv_aload_n hx hb dL_law_515 rfl (lv_at hl 3 rfl) ?_
  refine lv_iload_n hx hb dL_law_516 rfl (lv_at hl 0 rfl) ?_
  refine lv_iconst (v := 1) hx hb dL_law_517 (by decide) ?_
  refine v_iadd hx hb dL_law_518 1 (by decide +kernel) ?_
  refine va_sld hx hb hX0 hbl hbA hS (vin (by decide +kernel)) dL_law_519 ?_
  refine tvi (v := y0) e_y0 ?_
  refine lv_aload_n hx hb dL_law_520 rfl (lv_at hl 3 rfl) ?_
  refine lv_iload_n hx hb dL_law_521 rfl (lv_at hl 0 rfl) ?_
  refine lv_iconst (v := 2) hx hb dL_law_522 (by decide) ?_
  refine v_iadd hx hb dL_law_523 2 (by decide +kernel) ?_
  refine va_sld hx hb hX0 hbl hbA hS (vin (by decide +kernel)) dL_law_524 ?_
  refine tvi (v := y1) e_y1 ?_
  refine lv_aload_n hx hb dL_law_525 rfl (lv_at hl 3 rfl) ?_
  refine lv_iload_n hx hb dL_law_526 rfl (lv_at hl 0 rfl) ?_
  refine lv_iconst (v := 3) hx hb dL_law_527 (by decide) ?_
  refine v_iadd hx hb dL_law_528 3 (by decide +kernel) ?_
  refine va_sld hx hb hX0 hbl hbA hS (vin (by decide +kernel)) dL_law_529 ?_
  refine tvi (v := y2) e_y2 ?_
  refine lv_aload_n hx hb dL_law_530 rfl (lv_at hl 3 rfl) ?_
  refine lv_iload_n hx hb dL_law_531 rfl (lv_at hl 0 rfl) ?_
  refine lv_iconst (v := 4) hx hb dL_law_532 (by decide) ?_
  refine v_iadd hx hb dL_law_533 4 (by decide +kernel) ?_
  refine va_sld hx hb hX0 hbl hbA hS (vin (by decide +kernel)) dL_law_534 ?_
  refine tvi (v := y3) e_y3 ?_
  refine kV_i (q0 := 0) ⟨hx, hb, hml, hown, hts⟩ hK hP hD hS hA hX cv_RL_56 [0, 1] [] (wr := []) rfl rfl rfl rfl (by decide) (c361_X9_copy l dC dI cI cJ cII cJJ H.size 0 qm (v 7) (v 0) (v 1) (v 2) (v 3) (v 4) (v 5) (v 6) (v 8) (v 9) (v 10) (v 11) (v 12) (v 13) (v 14) (v 15) (v 16) (v 17) (v 18) (v 19) (v 20) (v 21) (v 22) (v 23) (v 24) (v 25) (v 26) y0 h_y0 y1 h_y1 y2 h_y2 y3 h_y3) ⟨by decide +kernel, by decide +kernel⟩ rfl rfl (Or.inl rfl) (rest := [.int (-1)]) rfl rfl rfl hl.1 rfl (Nat.le_of_ble_eq_true rfl) dL_law_535 ⟨Nat.le_of_ble_eq_true rfl, Nat.le_of_ble_eq_true rfl⟩ (W' := []) rfl (fun H locs hP hD hS => ?_)
  refine t_icmp_eq hx hb dL_law_538 1073 (by decide) rfl ?_
  exact law_end l C0 rfl hS hl
set_option maxRecDepth 100000 in
set_option maxHeartbeats 4000000 in
theorem lr_40 {p : Program} {e : Env} {s : State} {m : MethodId} {below : List Frame} {meth : Method} {c : Code} (l : Launch) {b L : Nat} {xs : Nat → Int32} (C0 : lw_At p s m meth c b L xs) (hL : L = 5) {dC : Nat → ClassId} {dI : Nat → Nat → Nat} {cI cJ cII cJJ : ClassId} {g qx qm : Nat} {u v : Nat → Nat} {H : Heap} {locs : List Loc} {ls : Array Slot} (y0 : Int32) (h_y0 : 0 ≤ y0.toInt ∧ y0.toInt ≤ 3) (e_y0 : xs 1 = y0) (y1 : Int32) (h_y1 : -2147483648 ≤ y1.toInt ∧ y1.toInt ≤ 2147483647) (e_y1 : xs 2 = y1) (y2 : Int32) (h_y2 : -2147483648 ≤ y2.toInt ∧ y2.toInt ≤ -1) (e_y2 : xs 3 = y2) (y3 : Int32) (h_y3 : -2147483648 ≤ y3.toInt ∧ y3.toInt ≤ 2147483647) (e_y3 : xs 4 = y3) (hK : va_K (dC, dI) vwCl (TY cI cJ cII cJJ) s) (hX : GXA 1 g (AA s) s) (hP : va_P (dC, dI) vwCl (WLD cI cJ cII cJJ qx qm u v) H) (hD : va_D (AA s) (WLD cI cJ cII cJJ qx qm u v)) (hS : va_S (AA s) s.heap H locs) (hl : lv_has ls 4 [(3, .int 0), (2, .ref qm), (1, .ref qx), (0, .ref b)]) : W p l e room_1 s m #[Value.ref b] below meth c H locs 600000 7302250 (lw_Z below #[Value.ref b] s) (F0 m 490 ls []) := by
  obtain ⟨hx, hb, hr, hml, hown, hts0, hX0, hbl, hlocks, hgv⟩ := id C0
  have hts : ∀ w ∈ TT, w.before #[Value.ref b] s = true := fun w h => hts0 w (TT_tbl h)
  have hA : ∀ q : Nat, s.heap.size ≤ q → AA s q := fun _ h => h
  have hbA : ¬ AA s b := Nat.not_le.mpr hbl
  have hown : s.vm.findClass RL = some m.cls := hown
  subst hL
  refine lv_aload_n hx hb dL_law_490 rfl (lv_at hl 2 rfl) ?_
  refine lv_aload_n hx hb dL_law_491 rfl (lv_at hl 3 rfl) ?_
  refine lv_iload_n hx hb dL_law_492 rfl (lv_at hl 0 rfl) ?_
  refine lv_iconst (v := 1) hx hb dL_law_493 (by decide) ?_
  refine v_iadd hx hb dL_law_494 1 (by decide +kernel) ?_
  refine va_sld hx hb hX0 hbl hbA hS (vin (by decide +kernel)) dL_law_495 ?_
  refine tvi (v := y0) e_y0 ?_
  refine lv_aload_n hx hb dL_law_496 rfl (lv_at hl 3 rfl) ?_
  refine lv_iload_n hx hb dL_law_497 rfl (lv_at hl 0 rfl) ?_
  refine lv_iconst (v := 2) hx hb dL_law_498 (by decide) ?_
  refine v_iadd hx hb dL_law_499 2 (by decide +kernel) ?_
  refine va_sld hx hb hX0 hbl hbA hS (vin (by decide +kernel)) dL_law_500 ?_
  refine tvi (v := y1) e_y1 ?_
  refine lv_aload_n hx hb dL_law_501 rfl (lv_at hl 3 rfl) ?_
  refine lv_iload_n hx hb dL_law_502 rfl (lv_at hl 0 rfl) ?_
  refine lv_iconst (v := 3) hx hb dL_law_503 (by decide) ?_
  refine v_iadd hx hb dL_law_504 3 (by decide +kernel) ?_
  refine va_sld hx hb hX0 hbl hbA hS (vin (by decide +kernel)) dL_law_505 ?_
  refine tvi (v := y2) e_y2 ?_
  refine lv_aload_n hx hb dL_law_506 rfl (lv_at hl 3 rfl) ?_
  refine lv_iload_n hx hb dL_law_507 rfl (lv_at hl 0 rfl) ?_
  refine lv_iconst (v := 4) hx hb dL_law_508 (by decide) ?_
  refine v_iadd hx hb dL_law_509 4 (by decide +kernel) ?_
  refine va_sld hx hb hX0 hbl hbA hS (vin (by decide +kernel)) dL_law_510 ?_
  refine tvi (v := y3) e_y3 ?_
  refine kV_i (q0 := 0) ⟨hx, hb, hml, hown, hts⟩ hK hP hD hS hA hX cv_RL_52 [0, 52, 63] [86, 66] (wr := [(qm, .inr (9, [.ref (v 0), .ref (v 1), .ref (v 2), .ref (v 3), .ref (v 4), .ref (v 5), .ref (v 6), .ref (v 7), .ref (v 8), .ref (v 9), .ref (v 10), .ref (v 11), .int 1, .int 0, .int 0, .ref (v 12), .ref (v 13), .ref (v 14), .ref (v 15), .ref (v 16), .ref (v 17), .int 0, .int 0, .ref (v 18), .ref (v 19), .ref (v 20), .ref (v 21), .int 0, .int 0, .ref (v 22), .ref (v 23), .ref (v 24), .ref (v 25), .int 0, .ref (v 26), .int 0])), ((v 7), .inl (cI, 8, .inl (tb [])))]) rfl rfl rfl rfl (by decide) (c085_X8_copy l dC dI cI cJ cII cJJ H.size 0 qx (u 51) (u 62) (u 0) (u 10) (u 28) (u 59) (u 60) (u 61) (u 52) (u 57) (u 58) y0 h_y0 y1 h_y1 y2 h_y2 y3 h_y3) ⟨by decide +kernel, by decide +kernel⟩ rfl rfl (Or.inl rfl) (rest := []) rfl rfl rfl hl.1 rfl (Nat.le_of_ble_eq_true rfl) dL_law_511 ⟨Nat.le_of_ble_eq_true rfl, Nat.le_of_ble_eq_true rfl⟩ (W' := [(qm, .inr (9, [.ref (v 0), .ref (v 1), .ref (v 2), .ref (v 3), .ref (v 4), .ref (v 5), .ref (v 6), .ref (v 7), .ref (v 8), .ref (v 9), .ref (v 10), .ref (v 11), .int 1, .int 0, .int 0, .ref (v 12), .ref (v 13), .ref (v 14), .ref (v 15), .ref (v 16), .ref (v 17), .int 0, .int 0, .ref (v 18), .ref (v 19), .ref (v 20), .ref (v 21), .int 0, .int 0, .ref (v 22), .ref (v 23), .ref (v 24), .ref (v 25), .int 0, .ref (v 26), .int 0])), ((v 7), .inl (cI, 8, .inl (tb [])))]) rfl (fun H locs hP hD hS => ?_)
  refine lv_aload_n hx hb dL_law_514 rfl (lv_at hl 1 rfl) ?_
  refine lv_aload_n hx hb dL_law_515 rfl (lv_at hl 3 rfl) ?_
  refine lv_iload_n hx hb dL_law_516 rfl (lv_at hl 0 rfl) ?_
  refine lv_iconst (v := 1) hx hb dL_law_517 (by decide) ?_
  refine v_iadd hx hb dL_law_518 1 (by decide +kernel) ?_
  refine va_sld hx hb hX0 hbl hbA hS (vin (by decide +kernel)) dL_law_519 ?_
  refine tvi (v := y0) e_y0 ?_
  refine lv_aload_n hx hb dL_law_520 rfl (lv_at hl 3 rfl) ?_
  refine lv_iload_n hx hb dL_law_521 rfl (lv_at hl 0 rfl) ?_
  refine lv_iconst (v := 2) hx hb dL_law_522 (by decide) ?_
  refine v_iadd hx hb dL_law_523 2 (by decide +kernel) ?_
  refine va_sld hx hb hX0 hbl hbA hS (vin (by decide +kernel)) dL_law_524 ?_
  refine tvi (v := y1) e_y1 ?_
  refine lv_aload_n hx hb dL_law_525 rfl (lv_at hl 3 rfl) ?_
  refine lv_iload_n hx hb dL_law_526 rfl (lv_at hl 0 rfl) ?_
  refine lv_iconst (v := 3) hx hb dL_law_527 (by decide) ?_
  refine v_iadd hx hb dL_law_528 3 (by decide +kernel) ?_
  refine va_sld hx hb hX0 hbl hbA hS (vin (by decide +kernel)) dL_law_529 ?_
  refine tvi (v := y2) e_y2 ?_
  refine lv_aload_n hx hb dL_law_530 rfl (lv_at hl 3 rfl) ?_
  refine lv_iload_n hx hb dL_law_531 rfl (lv_at hl 0 rfl) ?_
  refine lv_iconst (v := 4) hx hb dL_law_532 (by decide) ?_
  refine v_iadd hx hb dL_law_533 4 (by decide +kernel) ?_
  refine va_sld hx hb hX0 hbl hbA hS (vin (by decide +kernel)) dL_law_534 ?_
  refine tvi (v := y3) e_y3 ?_
  refine kV_i (q0 := 0) ⟨hx, hb, hml, hown, hts⟩ hK hP hD hS hA hX cv_RL_56 [0, 1] [] (wr := []) rfl rfl rfl rfl (by decide) (c362_X9_copy l dC dI cI cJ cII cJJ H.size 0 qm (v 7) (v 0) (v 1) (v 2) (v 3) (v 4) (v 5) (v 6) (v 8) (v 9) (v 10) (v 11) (v 12) (v 13) (v 14) (v 15) (v 16) (v 17) (v 18) (v 19) (v 20) (v 21) (v 22) (v 23) (v 24) (v 25) (v 26) y0 h_y0 y1 h_y1 y2 h_y2 y3 h_y3) ⟨by decide +kernel, by decide +kernel⟩ rfl rfl (Or.inl rfl) (rest := [.int (-1)]) rfl rfl rfl hl.1 rfl (Nat.le_of_ble_eq_true rfl) dL_law_535 ⟨Nat.le_of_ble_eq_true rfl, Nat.le_of_ble_eq_true rfl⟩ (W' := []) rfl (fun H locs hP hD hS => ?_)
  refine t_icmp_eq hx hb dL_law_538 1073 (by decide) rfl ?_
  exact law_end l C0 rfl hS hl
set_option maxRecDepth 100000 in
set_option maxHeartbeats 4000000 in
theorem lr_41 {p : Program} {e : Env} {s : State} {m : MethodId} {below : List Frame} {meth : Method} {c : Code} (l : Launch) {b L : Nat} {xs : Nat → Int32} (C0 : lw_At p s m meth c b L xs) (hL : L = 5) {dC : Nat → ClassId} {dI : Nat → Nat → Nat} {cI cJ cII cJJ : ClassId} {g qx qm : Nat} {u v : Nat → Nat} {H : Heap} {locs : List Loc} {ls : Array Slot} (y0 : Int32) (h_y0 : 0 ≤ y0.toInt ∧ y0.toInt ≤ 3) (e_y0 : xs 1 = y0) (y1 : Int32) (h_y1 : -2147483648 ≤ y1.toInt ∧ y1.toInt ≤ 2147483647) (e_y1 : xs 2 = y1) (y2 : Int32) (h_y2 : 4 ≤ y2.toInt ∧ y2.toInt ≤ 2147483647) (e_y2 : xs 3 = y2) (y3 : Int32) (h_y3 : -2147483648 ≤ y3.toInt ∧ y3.toInt ≤ 2147483647) (e_y3 : xs 4 = y3) (hK : va_K (dC, dI) vwCl (TY cI cJ cII cJJ) s) (hX : GXA 1 g (AA s) s) (hP : va_P (dC, dI) vwCl (WLD cI cJ cII cJJ qx qm u v) H) (hD : va_D (AA s) (WLD cI cJ cII cJJ qx qm u v)) (hS : va_S (AA s) s.heap H locs) (hl : lv_has ls 4 [(3, .int 0), (2, .ref qm), (1, .ref qx), (0, .ref b)]) : W p l e room_1 s m #[Value.ref b] below meth c H locs 600000 7302250 (lw_Z below #[Value.ref b] s) (F0 m 490 ls []) := by
  obtain ⟨hx, hb, hr, hml, hown, hts0, hX0, hbl, hlocks, hgv⟩ := id C0
  have hts : ∀ w ∈ TT, w.before #[Value.ref b] s = true := fun w h => hts0 w (TT_tbl h)
  have hA : ∀ q : Nat, s.heap.size ≤ q → AA s q := fun _ h => h
  have hbA : ¬ AA s b := Nat.not_le.mpr hbl
  have hown : s.vm.findClass RL = some m.cls := hown
  subst hL
  refine lv_aload_n hx hb dL_law_490 rfl (lv_at hl 2 rfl) ?_
  refine lv_aload_n hx hb dL_law_491 rfl (lv_at hl 3 rfl) ?_
  refine lv_iload_n hx hb dL_law_492 rfl (lv_at hl 0 rfl) ?_
  refine lv_iconst (v := 1) hx hb dL_law_493 (by decide) ?_
  refine v_iadd hx hb dL_law_494 1 (by decide +kernel) ?_
  refine va_sld hx hb hX0 hbl hbA hS (vin (by decide +kernel)) dL_law_495 ?_
  refine tvi (v := y0) e_y0 ?_
  refine lv_aload_n hx hb dL_law_496 rfl (lv_at hl 3 rfl) ?_
  refine lv_iload_n hx hb dL_law_497 rfl (lv_at hl 0 rfl) ?_
  refine lv_iconst (v := 2) hx hb dL_law_498 (by decide) ?_
  refine v_iadd hx hb dL_law_499 2 (by decide +kernel) ?_
  refine va_sld hx hb hX0 hbl hbA hS (vin (by decide +kernel)) dL_law_500 ?_
  refine tvi (v := y1) e_y1 ?_
  refine lv_aload_n hx hb dL_law_501 rfl (lv_at hl 3 rfl) ?_
  refine lv_iload_n hx hb dL_law_502 rfl (lv_at hl 0 rfl) ?_
  refine lv_iconst (v := 3) hx hb dL_law_503 (by decide) ?_
  refine v_iadd hx hb dL_law_504 3 (by decide +kernel) ?_
  refine va_sld hx hb hX0 hbl hbA hS (vin (by decide +kernel)) dL_law_505 ?_
  refine tvi (v := y2) e_y2 ?_
  refine lv_aload_n hx hb dL_law_506 rfl (lv_at hl 3 rfl) ?_
  refine lv_iload_n hx hb dL_law_507 rfl (lv_at hl 0 rfl) ?_
  refine lv_iconst (v := 4) hx hb dL_law_508 (by decide) ?_
  refine v_iadd hx hb dL_law_509 4 (by decide +kernel) ?_
  refine va_sld hx hb hX0 hbl hbA hS (vin (by decide +kernel)) dL_law_510 ?_
  refine tvi (v := y3) e_y3 ?_
  refine kV_i (q0 := 0) ⟨hx, hb, hml, hown, hts⟩ hK hP hD hS hA hX cv_RL_52 [0, 52, 63] [86, 66] (wr := [(qm, .inr (9, [.ref (v 0), .ref (v 1), .ref (v 2), .ref (v 3), .ref (v 4), .ref (v 5), .ref (v 6), .ref (v 7), .ref (v 8), .ref (v 9), .ref (v 10), .ref (v 11), .int 1, .int 0, .int 0, .ref (v 12), .ref (v 13), .ref (v 14), .ref (v 15), .ref (v 16), .ref (v 17), .int 0, .int 0, .ref (v 18), .ref (v 19), .ref (v 20), .ref (v 21), .int 0, .int 0, .ref (v 22), .ref (v 23), .ref (v 24), .ref (v 25), .int 0, .ref (v 26), .int 0])), ((v 7), .inl (cI, 8, .inl (tb [])))]) rfl rfl rfl rfl (by decide) (c086_X8_copy l dC dI cI cJ cII cJJ H.size 0 qx (u 51) (u 62) (u 0) (u 10) (u 28) (u 59) (u 60) (u 61) (u 52) (u 57) (u 58) y0 h_y0 y1 h_y1 y2 h_y2 y3 h_y3) ⟨by decide +kernel, by decide +kernel⟩ rfl rfl (Or.inl rfl) (rest := []) rfl rfl rfl hl.1 rfl (Nat.le_of_ble_eq_true rfl) dL_law_511 ⟨Nat.le_of_ble_eq_true rfl, Nat.le_of_ble_eq_true rfl⟩ (W' := [(qm, .inr (9, [.ref (v 0), .ref (v 1), .ref (v 2), .ref (v 3), .ref (v 4), .ref (v 5), .ref (v 6), .ref (v 7), .ref (v 8), .ref (v 9), .ref (v 10), .ref (v 11), .int 1, .int 0, .int 0, .ref (v 12), .ref (v 13), .ref (v 14), .ref (v 15), .ref (v 16), .ref (v 17), .int 0, .int 0, .ref (v 18), .ref (v 19), .ref (v 20), .ref (v 21), .int 0, .int 0, .ref (v 22), .ref (v 23), .ref (v 24), .ref (v 25), .int 0, .ref (v 26), .int 0])), ((v 7), .inl (cI, 8, .inl (tb [])))]) rfl (fun H locs hP hD hS => ?_)
  refine lv_aload_n hx hb dL_law_514 rfl (lv_at hl 1 rfl) ?_
  refine lv_aload_n hx hb dL_law_515 rfl (lv_at hl 3 rfl) ?_
  refine lv_iload_n hx hb dL_law_516 rfl (lv_at hl 0 rfl) ?_
  refine lv_iconst (v := 1) hx hb dL_law_517 (by decide) ?_
  refine v_iadd hx hb dL_law_518 1 (by decide +kernel) ?_
  refine va_sld hx hb hX0 hbl hbA hS (vin (by decide +kernel)) dL_law_519 ?_
  refine tvi (v := y0) e_y0 ?_
  refine lv_aload_n hx hb dL_law_520 rfl (lv_at hl 3 rfl) ?_
  refine lv_iload_n hx hb dL_law_521 rfl (lv_at hl 0 rfl) ?_
  refine lv_iconst (v := 2) hx hb dL_law_522 (by decide) ?_
  refine v_iadd hx hb dL_law_523 2 (by decide +kernel) ?_
  refine va_sld hx hb hX0 hbl hbA hS (vin (by decide +kernel)) dL_law_524 ?_
  refine tvi (v := y1) e_y1 ?_
  refine lv_aload_n hx hb dL_law_525 rfl (lv_at hl 3 rfl) ?_
  refine lv_iload_n hx hb dL_law_526 rfl (lv_at hl 0 rfl) ?_
  refine lv_iconst (v := 3) hx hb dL_law_527 (by decide) ?_
  refine v_iadd hx hb dL_law_528 3 (by decide +kernel) ?_
  refine va_sld hx hb hX0 hbl hbA hS (vin (by decide +kernel)) dL_law_529 ?_
  refine tvi (v := y2) e_y2 ?_
  refine lv_aload_n hx hb dL_law_530 rfl (lv_at hl 3 rfl) ?_
  refine lv_iload_n hx hb dL_law_531 rfl (lv_at hl 0 rfl) ?_
  refine lv_iconst (v := 4) hx hb dL_law_532 (by decide) ?_
  refine v_iadd hx hb dL_law_533 4 (by decide +kernel) ?_
  refine va_sld hx hb hX0 hbl hbA hS (vin (by decide +kernel)) dL_law_534 ?_
  refine tvi (v := y3) e_y3 ?_
  refine kV_i (q0 := 0) ⟨hx, hb, hml, hown, hts⟩ hK hP hD hS hA hX cv_RL_56 [0, 1] [] (wr := []) rfl rfl rfl rfl (by decide) (c363_X9_copy l dC dI cI cJ cII cJJ H.size 0 qm (v 7) (v 0) (v 1) (v 2) (v 3) (v 4) (v 5) (v 6) (v 8) (v 9) (v 10) (v 11) (v 12) (v 13) (v 14) (v 15) (v 16) (v 17) (v 18) (v 19) (v 20) (v 21) (v 22) (v 23) (v 24) (v 25) (v 26) y0 h_y0 y1 h_y1 y2 h_y2 y3 h_y3) ⟨by decide +kernel, by decide +kernel⟩ rfl rfl (Or.inl rfl) (rest := [.int (-1)]) rfl rfl rfl hl.1 rfl (Nat.le_of_ble_eq_true rfl) dL_law_535 ⟨Nat.le_of_ble_eq_true rfl, Nat.le_of_ble_eq_true rfl⟩ (W' := []) rfl (fun H locs hP hD hS => ?_)
  refine t_icmp_eq hx hb dL_law_538 1073 (by decide) rfl ?_
  exact law_end l C0 rfl hS hl
set_option maxRecDepth 100000 in
set_option maxHeartbeats 4000000 in
theorem lr_42 {p : Program} {e : Env} {s : State} {m : MethodId} {below : List Frame} {meth : Method} {c : Code} (l : Launch) {b L : Nat} {xs : Nat → Int32} (C0 : lw_At p s m meth c b L xs) (hL : L = 5) {dC : Nat → ClassId} {dI : Nat → Nat → Nat} {cI cJ cII cJJ : ClassId} {g qx qm : Nat} {u v : Nat → Nat} {H : Heap} {locs : List Loc} {ls : Array Slot} (e_y0 : xs 1 = 0) (y1 : Int32) (h_y1 : -2147483648 ≤ y1.toInt ∧ y1.toInt ≤ 2147483647) (e_y1 : xs 2 = y1) (y2 : Int32) (h_y2 : 0 ≤ y2.toInt ∧ y2.toInt ≤ 3) (e_y2 : xs 3 = y2) (y3 : Int32) (h_y3 : -2147483648 ≤ y3.toInt ∧ y3.toInt ≤ 2147483647) (e_y3 : xs 4 = y3) (hK : va_K (dC, dI) vwCl (TY cI cJ cII cJJ) s) (hX : GXA 1 g (AA s) s) (hP : va_P (dC, dI) vwCl (WLD cI cJ cII cJJ qx qm u v) H) (hD : va_D (AA s) (WLD cI cJ cII cJJ qx qm u v)) (hS : va_S (AA s) s.heap H locs) (hl : lv_has ls 4 [(3, .int 0), (2, .ref qm), (1, .ref qx), (0, .ref b)]) : W p l e room_1 s m #[Value.ref b] below meth c H locs 600000 7302250 (lw_Z below #[Value.ref b] s) (F0 m 490 ls []) := by
  obtain ⟨hx, hb, hr, hml, hown, hts0, hX0, hbl, hlocks, hgv⟩ := id C0
  have hts : ∀ w ∈ TT, w.before #[Value.ref b] s = true := fun w h => hts0 w (TT_tbl h)
  have hA : ∀ q : Nat, s.heap.size ≤ q → AA s q := fun _ h => h
  have hbA : ¬ AA s b := Nat.not_le.mpr hbl
  have hown : s.vm.findClass RL = some m.cls := hown
  subst hL
  refine lv_aload_n hx hb dL_law_490 rfl (lv_at hl 2 rfl) ?_
  refine lv_aload_n hx hb dL_law_491 rfl (lv_at hl 3 rfl) ?_
  refine lv_iload_n hx hb dL_law_492 rfl (lv_at hl 0 rfl) ?_
  refine lv_iconst (v := 1) hx hb dL_law_493 (by decide) ?_
  refine v_iadd hx hb dL_law_494 1 (by decide +kernel) ?_
  refine va_sld hx hb hX0 hbl hbA hS (vin (by decide +kernel)) dL_law_495 ?_
  refine tvi (v := 0) e_y0 ?_
  refine lv_aload_n hx hb dL_law_496 rfl (lv_at hl 3 rfl) ?_
  refine lv_iload_n hx hb dL_law_497 rfl (lv_at hl 0 rfl) ?_
  refine lv_iconst (v := 2) hx hb dL_law_498 (by decide) ?_
  refine v_iadd hx hb dL_law_499 2 (by decide +kernel) ?_
  refine va_sld hx hb hX0 hbl hbA hS (vin (by decide +kernel)) dL_law_500 ?_
  refine tvi (v := y1) e_y1 ?_
  refine lv_aload_n hx hb dL_law_501 rfl (lv_at hl 3 rfl) ?_
  refine lv_iload_n hx hb dL_law_502 rfl (lv_at hl 0 rfl) ?_
  refine lv_iconst (v := 3) hx hb dL_law_503 (by decide) ?_
  refine v_iadd hx hb dL_law_504 3 (by decide +kernel) ?_
  refine va_sld hx hb hX0 hbl hbA hS (vin (by decide +kernel)) dL_law_505 ?_
  refine tvi (v := y2) e_y2 ?_
  refine lv_aload_n hx hb dL_law_506 rfl (lv_at hl 3 rfl) ?_
  refine lv_iload_n hx hb dL_law_507 rfl (lv_at hl 0 rfl) ?_
  refine lv_iconst (v := 4) hx hb dL_law_508 (by decide) ?_
  refine v_iadd hx hb dL_law_509 4 (by decide +kernel) ?_
  refine va_sld hx hb hX0 hbl hbA hS (vin (by decide +kernel)) dL_law_510 ?_
  refine tvi (v := y3) e_y3 ?_
  refine kV_i (q0 := 0) ⟨hx, hb, hml, hown, hts⟩ hK hP hD hS hA hX cv_RL_52 [0, 52, 59, 63] [86, 67, 66] (wr := [(qm, .inr (9, [.ref (v 0), .ref (v 1), .ref (v 2), .ref (v 3), .ref (v 4), .ref (v 5), .ref (v 6), .ref (v 7), .ref (v 8), .ref (v 9), .ref (v 10), .ref (v 11), .int 1, .int 0, .int 0, .ref (v 12), .ref (v 13), .ref (v 14), .ref (v 15), .ref (v 16), .ref (v 17), .int 0, .int 0, .ref (v 18), .ref (v 19), .ref (v 20), .ref (v 21), .int 0, .int 0, .ref (v 22), .ref (v 23), .ref (v 24), .ref (v 25), .int 0, .ref (v 26), .int 0])), ((v 8), .inl (cI, 4, .inl (tb [(-1), (-1), (-1), (-1)]))), ((v 7), .inl (cI, 8, .inl (tb [])))]) rfl rfl rfl rfl (by decide) (c087_X8_copy l dC dI cI cJ cII cJJ H.size 0 qx (u 51) (u 58) (u 62) (u 0) (u 10) (u 28) (u 59) (u 60) (u 61) (u 52) (u 57) y1 h_y1 y2 h_y2 y3 h_y3) ⟨by decide +kernel, by decide +kernel⟩ rfl rfl (Or.inl rfl) (rest := []) rfl rfl rfl hl.1 rfl (Nat.le_of_ble_eq_true rfl) dL_law_511 ⟨Nat.le_of_ble_eq_true rfl, Nat.le_of_ble_eq_true rfl⟩ (W' := [(qm, .inr (9, [.ref (v 0), .ref (v 1), .ref (v 2), .ref (v 3), .ref (v 4), .ref (v 5), .ref (v 6), .ref (v 7), .ref (v 8), .ref (v 9), .ref (v 10), .ref (v 11), .int 1, .int 0, .int 0, .ref (v 12), .ref (v 13), .ref (v 14), .ref (v 15), .ref (v 16), .ref (v 17), .int 0, .int 0, .ref (v 18), .ref (v 19), .ref (v 20), .ref (v 21), .int 0, .int 0, .ref (v 22), .ref (v 23), .ref (v 24), .ref (v 25), .int 0, .ref (v 26), .int 0])), ((v 8), .inl (cI, 4, .inl (tb [(-1), (-1), (-1), (-1)]))), ((v 7), .inl (cI, 8, .inl (tb [])))]) rfl (fun H locs hP hD hS => ?_)
  refine lv_aload_n hx hb dL_law_514 rfl (lv_at hl 1 rfl) ?_
  refine lv_aload_n hx hb dL_law_515 rfl (lv_at hl 3 rfl) ?_
  refine lv_iload_n hx hb dL_law_516 rfl (lv_at hl 0 rfl) ?_
  refine lv_iconst (v := 1) hx hb dL_law_517 (by decide) ?_
  refine v_iadd hx hb dL_law_518 1 (by decide +kernel) ?_
  refine va_sld hx hb hX0 hbl hbA hS (vin (by decide +kernel)) dL_law_519 ?_
  refine tvi (v := 0) e_y0 ?_
  refine lv_aload_n hx hb dL_law_520 rfl (lv_at hl 3 rfl) ?_
  refine lv_iload_n hx hb dL_law_521 rfl (lv_at hl 0 rfl) ?_
  refine lv_iconst (v := 2) hx hb dL_law_522 (by decide) ?_
  refine v_iadd hx hb dL_law_523 2 (by decide +kernel) ?_
  refine va_sld hx hb hX0 hbl hbA hS (vin (by decide +kernel)) dL_law_524 ?_
  refine tvi (v := y1) e_y1 ?_
  refine lv_aload_n hx hb dL_law_525 rfl (lv_at hl 3 rfl) ?_
  refine lv_iload_n hx hb dL_law_526 rfl (lv_at hl 0 rfl) ?_
  refine lv_iconst (v := 3) hx hb dL_law_527 (by decide) ?_
  refine v_iadd hx hb dL_law_528 3 (by decide +kernel) ?_
  refine va_sld hx hb hX0 hbl hbA hS (vin (by decide +kernel)) dL_law_529 ?_
  refine tvi (v := y2) e_y2 ?_
  refine lv_aload_n hx hb dL_law_530 rfl (lv_at hl 3 rfl) ?_
  refine lv_iload_n hx hb dL_law_531 rfl (lv_at hl 0 rfl) ?_
  refine lv_iconst (v := 4) hx hb dL_law_532 (by decide) ?_
  refine v_iadd hx hb dL_law_533 4 (by decide +kernel) ?_
  refine va_sld hx hb hX0 hbl hbA hS (vin (by decide +kernel)) dL_law_534 ?_
  refine tvi (v := y3) e_y3 ?_
  refine kV_i (q0 := 0) ⟨hx, hb, hml, hown, hts⟩ hK hP hD hS hA hX cv_RL_56 [0, 1, 2] [] (wr := []) rfl rfl rfl rfl (by decide) (c364_X9_copy l dC dI cI cJ cII cJJ H.size 0 qm (v 8) (v 7) (v 0) (v 1) (v 2) (v 3) (v 4) (v 5) (v 6) (v 9) (v 10) (v 11) (v 12) (v 13) (v 14) (v 15) (v 16) (v 17) (v 18) (v 19) (v 20) (v 21) (v 22) (v 23) (v 24) (v 25) (v 26) y1 h_y1 y2 h_y2 y3 h_y3) ⟨by decide +kernel, by decide +kernel⟩ rfl rfl (Or.inl rfl) (rest := [.int (-7)]) rfl rfl rfl hl.1 rfl (Nat.le_of_ble_eq_true rfl) dL_law_535 ⟨Nat.le_of_ble_eq_true rfl, Nat.le_of_ble_eq_true rfl⟩ (W' := []) rfl (fun H locs hP hD hS => ?_)
  refine t_icmp_eq hx hb dL_law_538 1073 (by decide) rfl ?_
  exact law_end l C0 rfl hS hl
set_option maxRecDepth 100000 in
set_option maxHeartbeats 4000000 in
theorem lr_43 {p : Program} {e : Env} {s : State} {m : MethodId} {below : List Frame} {meth : Method} {c : Code} (l : Launch) {b L : Nat} {xs : Nat → Int32} (C0 : lw_At p s m meth c b L xs) (hL : L = 5) {dC : Nat → ClassId} {dI : Nat → Nat → Nat} {cI cJ cII cJJ : ClassId} {g qx qm : Nat} {u v : Nat → Nat} {H : Heap} {locs : List Loc} {ls : Array Slot} (e_y0 : xs 1 = 1) (y1 : Int32) (h_y1 : -2147483648 ≤ y1.toInt ∧ y1.toInt ≤ 2147483647) (e_y1 : xs 2 = y1) (y2 : Int32) (h_y2 : 0 ≤ y2.toInt ∧ y2.toInt ≤ 3) (e_y2 : xs 3 = y2) (y3 : Int32) (h_y3 : -2147483648 ≤ y3.toInt ∧ y3.toInt ≤ 2147483647) (e_y3 : xs 4 = y3) (hK : va_K (dC, dI) vwCl (TY cI cJ cII cJJ) s) (hX : GXA 1 g (AA s) s) (hP : va_P (dC, dI) vwCl (WLD cI cJ cII cJJ qx qm u v) H) (hD : va_D (AA s) (WLD cI cJ cII cJJ qx qm u v)) (hS : va_S (AA s) s.heap H locs) (hl : lv_has ls 4 [(3, .int 0), (2, .ref qm), (1, .ref qx), (0, .ref b)]) : W p l e room_1 s m #[Value.ref b] below meth c H locs 600000 7302250 (lw_Z below #[Value.ref b] s) (F0 m 490 ls []) := by
  obtain ⟨hx, hb, hr, hml, hown, hts0, hX0, hbl, hlocks, hgv⟩ := id C0
  have hts : ∀ w ∈ TT, w.before #[Value.ref b] s = true := fun w h => hts0 w (TT_tbl h)
  have hA : ∀ q : Nat, s.heap.size ≤ q → AA s q := fun _ h => h
  have hbA : ¬ AA s b := Nat.not_le.mpr hbl
  have hown : s.vm.findClass RL = some m.cls := hown
  subst hL
  refine lv_aload_n hx hb dL_law_490 rfl (lv_at hl 2 rfl) ?_
  refine lv_aload_n hx hb dL_law_491 rfl (lv_at hl 3 rfl) ?_
  refine lv_iload_n hx hb dL_law_492 rfl (lv_at hl 0 rfl) ?_
  refine lv_iconst (v := 1) hx hb dL_law_493 (by decide) ?_
  refine v_iadd hx hb dL_law_494 1 (by decide +kernel) ?_
  refine va_sld hx hb hX0 hbl hbA hS (vin (by decide +kernel)) dL_law_495 ?_
  refine tvi (v := 1) e_y0 ?_
  refine lv_aload_n hx hb dL_law_496 rfl (lv_at hl 3 rfl) ?_
  refine lv_iload_n hx hb dL_law_497 rfl (lv_at hl 0 rfl) ?_
  refine lv_iconst (v := 2) hx hb dL_law_498 (by decide) ?_
  refine v_iadd hx hb dL_law_499 2 (by decide +kernel) ?_
  refine va_sld hx hb hX0 hbl hbA hS (vin (by decide +kernel)) dL_law_500 ?_
  refine tvi (v := y1) e_y1 ?_
  refine lv_aload_n hx hb dL_law_501 rfl (lv_at hl 3 rfl) ?_
  refine lv_iload_n hx hb dL_law_502 rfl (lv_at hl 0 rfl) ?_
  refine lv_iconst (v := 3) hx hb dL_law_503 (by decide) ?_
  refine v_iadd hx hb dL_law_504 3 (by decide +kernel) ?_
  refine va_sld hx hb hX0 hbl hbA hS (vin (by decide +kernel)) dL_law_505 ?_
  refine tvi (v := y2) e_y2 ?_
  refine lv_aload_n hx hb dL_law_506 rfl (lv_at hl 3 rfl) ?_
  refine lv_iload_n hx hb dL_law_507 rfl (lv_at hl 0 rfl) ?_
  refine lv_iconst (v := 4) hx hb dL_law_508 (by decide) ?_
  refine v_iadd hx hb dL_law_509 4 (by decide +kernel) ?_
  refine va_sld hx hb hX0 hbl hbA hS (vin (by decide +kernel)) dL_law_510 ?_
  refine tvi (v := y3) e_y3 ?_
  refine kV_i (q0 := 0) ⟨hx, hb, hml, hown, hts⟩ hK hP hD hS hA hX cv_RL_52 [0, 52, 59, 63] [86, 67, 66] (wr := [(qm, .inr (9, [.ref (v 0), .ref (v 1), .ref (v 2), .ref (v 3), .ref (v 4), .ref (v 5), .ref (v 6), .ref (v 7), .ref (v 8), .ref (v 9), .ref (v 10), .ref (v 11), .int 1, .int 0, .int 0, .ref (v 12), .ref (v 13), .ref (v 14), .ref (v 15), .ref (v 16), .ref (v 17), .int 0, .int 0, .ref (v 18), .ref (v 19), .ref (v 20), .ref (v 21), .int 0, .int 0, .ref (v 22), .ref (v 23), .ref (v 24), .ref (v 25), .int 0, .ref (v 26), .int 0])), ((v 8), .inl (cI, 4, .inl (tb [(-1), (-1), (-1), (-1)]))), ((v 7), .inl (cI, 8, .inl (tb [])))]) rfl rfl rfl rfl (by decide) (c088_X8_copy l dC dI cI cJ cII cJJ H.size 0 qx (u 51) (u 58) (u 62) (u 0) (u 10) (u 28) (u 59) (u 60) (u 61) (u 52) (u 57) y1 h_y1 y2 h_y2 y3 h_y3) ⟨by decide +kernel, by decide +kernel⟩ rfl rfl (Or.inl rfl) (rest := []) rfl rfl rfl hl.1 rfl (Nat.le_of_ble_eq_true rfl) dL_law_511 ⟨Nat.le_of_ble_eq_true rfl, Nat.le_of_ble_eq_true rfl⟩ (W' := [(qm, .inr (9, [.ref (v 0), .ref (v 1), .ref (v 2), .ref (v 3), .ref (v 4), .ref (v 5), .ref (v 6), .ref (v 7), .ref (v 8), .ref (v 9), .ref (v 10), .ref (v 11), .int 1, .int 0, .int 0, .ref (v 12), .ref (v 13), .ref (v 14), .ref (v 15), .ref (v 16), .ref (v 17), .int 0, .int 0, .ref (v 18), .ref (v 19), .ref (v 20), .ref (v 21), .int 0, .int 0, .ref (v 22), .ref (v 23), .ref (v 24), .ref (v 25), .int 0, .ref (v 26), .int 0])), ((v 8), .inl (cI, 4, .inl (tb [(-1), (-1), (-1), (-1)]))), ((v 7), .inl (cI, 8, .inl (tb [])))]) rfl (fun H locs hP hD hS => ?_)
  refine lv_aload_n hx hb dL_law_514 rfl (lv_at hl 1 rfl) ?_
  refine lv_aload_n hx hb dL_law_515 rfl (lv_at hl 3 rfl) ?_
  refine lv_iload_n hx hb dL_law_516 rfl (lv_at hl 0 rfl) ?_
  refine lv_iconst (v := 1) hx hb dL_law_517 (by decide) ?_
  refine v_iadd hx hb dL_law_518 1 (by decide +kernel) ?_
  refine va_sld hx hb hX0 hbl hbA hS (vin (by decide +kernel)) dL_law_519 ?_
  refine tvi (v := 1) e_y0 ?_
  refine lv_aload_n hx hb dL_law_520 rfl (lv_at hl 3 rfl) ?_
  refine lv_iload_n hx hb dL_law_521 rfl (lv_at hl 0 rfl) ?_
  refine lv_iconst (v := 2) hx hb dL_law_522 (by decide) ?_
  refine v_iadd hx hb dL_law_523 2 (by decide +kernel) ?_
  refine va_sld hx hb hX0 hbl hbA hS (vin (by decide +kernel)) dL_law_524 ?_
  refine tvi (v := y1) e_y1 ?_
  refine lv_aload_n hx hb dL_law_525 rfl (lv_at hl 3 rfl) ?_
  refine lv_iload_n hx hb dL_law_526 rfl (lv_at hl 0 rfl) ?_
  refine lv_iconst (v := 3) hx hb dL_law_527 (by decide) ?_
  refine v_iadd hx hb dL_law_528 3 (by decide +kernel) ?_
  refine va_sld hx hb hX0 hbl hbA hS (vin (by decide +kernel)) dL_law_529 ?_
  refine tvi (v := y2) e_y2 ?_
  refine lv_aload_n hx hb dL_law_530 rfl (lv_at hl 3 rfl) ?_
  refine lv_iload_n hx hb dL_law_531 rfl (lv_at hl 0 rfl) ?_
  refine lv_iconst (v := 4) hx hb dL_law_532 (by decide) ?_
  refine v_iadd hx hb dL_law_533 4 (by decide +kernel) ?_
  refine va_sld hx hb hX0 hbl hbA hS (vin (by decide +kernel)) dL_law_534 ?_
  refine tvi (v := y3) e_y3 ?_
  refine kV_i (q0 := 0) ⟨hx, hb, hml, hown, hts⟩ hK hP hD hS hA hX cv_RL_56 [0, 1, 2] [] (wr := []) rfl rfl rfl rfl (by decide) (c365_X9_copy l dC dI cI cJ cII cJJ H.size 0 qm (v 8) (v 7) (v 0) (v 1) (v 2) (v 3) (v 4) (v 5) (v 6) (v 9) (v 10) (v 11) (v 12) (v 13) (v 14) (v 15) (v 16) (v 17) (v 18) (v 19) (v 20) (v 21) (v 22) (v 23) (v 24) (v 25) (v 26) y1 h_y1 y2 h_y2 y3 h_y3) ⟨by decide +kernel, by decide +kernel⟩ rfl rfl (Or.inl rfl) (rest := [.int (-7)]) rfl rfl rfl hl.1 rfl (Nat.le_of_ble_eq_true rfl) dL_law_535 ⟨Nat.le_of_ble_eq_true rfl, Nat.le_of_ble_eq_true rfl⟩ (W' := []) rfl (fun H locs hP hD hS => ?_)
  refine t_icmp_eq hx hb dL_law_538 1073 (by decide) rfl ?_
  exact law_end l C0 rfl hS hl
set_option maxRecDepth 100000 in
set_option maxHeartbeats 4000000 in
theorem lr_44 {p : Program} {e : Env} {s : State} {m : MethodId} {below : List Frame} {meth : Method} {c : Code} (l : Launch) {b L : Nat} {xs : Nat → Int32} (C0 : lw_At p s m meth c b L xs) (hL : L = 5) {dC : Nat → ClassId} {dI : Nat → Nat → Nat} {cI cJ cII cJJ : ClassId} {g qx qm : Nat} {u v : Nat → Nat} {H : Heap} {locs : List Loc} {ls : Array Slot} (e_y0 : xs 1 = 2) (y1 : Int32) (h_y1 : -2147483648 ≤ y1.toInt ∧ y1.toInt ≤ 2147483647) (e_y1 : xs 2 = y1) (y2 : Int32) (h_y2 : 0 ≤ y2.toInt ∧ y2.toInt ≤ 3) (e_y2 : xs 3 = y2) (y3 : Int32) (h_y3 : -2147483648 ≤ y3.toInt ∧ y3.toInt ≤ 2147483647) (e_y3 : xs 4 = y3) (hK : va_K (dC, dI) vwCl (TY cI cJ cII cJJ) s) (hX : GXA 1 g (AA s) s) (hP : va_P (dC, dI) vwCl (WLD cI cJ cII cJJ qx qm u v) H) (hD : va_D (AA s) (WLD cI cJ cII cJJ qx qm u v)) (hS : va_S (AA s) s.heap H locs) (hl : lv_has ls 4 [(3, .int 0), (2, .ref qm), (1, .ref qx), (0, .ref b)]) : W p l e room_1 s m #[Value.ref b] below meth c H locs 600000 7302250 (lw_Z below #[Value.ref b] s) (F0 m 490 ls []) := by
  obtain ⟨hx, hb, hr, hml, hown, hts0, hX0, hbl, hlocks, hgv⟩ := id C0
  have hts : ∀ w ∈ TT, w.before #[Value.ref b] s = true := fun w h => hts0 w (TT_tbl h)
  have hA : ∀ q : Nat, s.heap.size ≤ q → AA s q := fun _ h => h
  have hbA : ¬ AA s b := Nat.not_le.mpr hbl
  have hown : s.vm.findClass RL = some m.cls := hown
  subst hL
  refine lv_aload_n hx hb dL_law_490 rfl (lv_at hl 2 rfl) ?_
  refine lv_aload_n hx hb dL_law_491 rfl (lv_at hl 3 rfl) ?_
  refine lv_iload_n hx hb dL_law_492 rfl (lv_at hl 0 rfl) ?_
  refine lv_iconst (v := 1) hx hb dL_law_493 (by decide) ?_
  refine v_iadd hx hb dL_law_494 1 (by decide +kernel) ?_
  refine va_sld hx hb hX0 hbl hbA hS (vin (by decide +kernel)) dL_law_495 ?_
  refine tvi (v := 2) e_y0 ?_
  refine lv_aload_n hx hb dL_law_496 rfl (lv_at hl 3 rfl) ?_
  refine lv_iload_n hx hb dL_law_497 rfl (lv_at hl 0 rfl) ?_
  refine lv_iconst (v := 2) hx hb dL_law_498 (by decide) ?_
  refine v_iadd hx hb dL_law_499 2 (by decide +kernel) ?_
  refine va_sld hx hb hX0 hbl hbA hS (vin (by decide +kernel)) dL_law_500 ?_
  refine tvi (v := y1) e_y1 ?_
  refine lv_aload_n hx hb dL_law_501 rfl (lv_at hl 3 rfl) ?_
  refine lv_iload_n hx hb dL_law_502 rfl (lv_at hl 0 rfl) ?_
  refine lv_iconst (v := 3) hx hb dL_law_503 (by decide) ?_
  refine v_iadd hx hb dL_law_504 3 (by decide +kernel) ?_
  refine va_sld hx hb hX0 hbl hbA hS (vin (by decide +kernel)) dL_law_505 ?_
  refine tvi (v := y2) e_y2 ?_
  refine lv_aload_n hx hb dL_law_506 rfl (lv_at hl 3 rfl) ?_
  refine lv_iload_n hx hb dL_law_507 rfl (lv_at hl 0 rfl) ?_
  refine lv_iconst (v := 4) hx hb dL_law_508 (by decide) ?_
  refine v_iadd hx hb dL_law_509 4 (by decide +kernel) ?_
  refine va_sld hx hb hX0 hbl hbA hS (vin (by decide +kernel)) dL_law_510 ?_
  refine tvi (v := y3) e_y3 ?_
  refine kV_i (q0 := 0) ⟨hx, hb, hml, hown, hts⟩ hK hP hD hS hA hX cv_RL_52 [0, 52, 59, 63] [86, 67, 66] (wr := [(qm, .inr (9, [.ref (v 0), .ref (v 1), .ref (v 2), .ref (v 3), .ref (v 4), .ref (v 5), .ref (v 6), .ref (v 7), .ref (v 8), .ref (v 9), .ref (v 10), .ref (v 11), .int 1, .int 0, .int 0, .ref (v 12), .ref (v 13), .ref (v 14), .ref (v 15), .ref (v 16), .ref (v 17), .int 0, .int 0, .ref (v 18), .ref (v 19), .ref (v 20), .ref (v 21), .int 0, .int 0, .ref (v 22), .ref (v 23), .ref (v 24), .ref (v 25), .int 0, .ref (v 26), .int 0])), ((v 8), .inl (cI, 4, .inl (tb [(-1), (-1), (-1), (-1)]))), ((v 7), .inl (cI, 8, .inl (tb [])))]) rfl rfl rfl rfl (by decide) (c089_X8_copy l dC dI cI cJ cII cJJ H.size 0 qx (u 51) (u 58) (u 62) (u 0) (u 10) (u 28) (u 59) (u 60) (u 61) (u 52) (u 57) y1 h_y1 y2 h_y2 y3 h_y3) ⟨by decide +kernel, by decide +kernel⟩ rfl rfl (Or.inl rfl) (rest := []) rfl rfl rfl hl.1 rfl (Nat.le_of_ble_eq_true rfl) dL_law_511 ⟨Nat.le_of_ble_eq_true rfl, Nat.le_of_ble_eq_true rfl⟩ (W' := [(qm, .inr (9, [.ref (v 0), .ref (v 1), .ref (v 2), .ref (v 3), .ref (v 4), .ref (v 5), .ref (v 6), .ref (v 7), .ref (v 8), .ref (v 9), .ref (v 10), .ref (v 11), .int 1, .int 0, .int 0, .ref (v 12), .ref (v 13), .ref (v 14), .ref (v 15), .ref (v 16), .ref (v 17), .int 0, .int 0, .ref (v 18), .ref (v 19), .ref (v 20), .ref (v 21), .int 0, .int 0, .ref (v 22), .ref (v 23), .ref (v 24), .ref (v 25), .int 0, .ref (v 26), .int 0])), ((v 8), .inl (cI, 4, .inl (tb [(-1), (-1), (-1), (-1)]))), ((v 7), .inl (cI, 8, .inl (tb [])))]) rfl (fun H locs hP hD hS => ?_)
  refine lv_aload_n hx hb dL_law_514 rfl (lv_at hl 1 rfl) ?_
  refine lv_aload_n hx hb dL_law_515 rfl (lv_at hl 3 rfl) ?_
  refine lv_iload_n hx hb dL_law_516 rfl (lv_at hl 0 rfl) ?_
  refine lv_iconst (v := 1) hx hb dL_law_517 (by decide) ?_
  refine v_iadd hx hb dL_law_518 1 (by decide +kernel) ?_
  refine va_sld hx hb hX0 hbl hbA hS (vin (by decide +kernel)) dL_law_519 ?_
  refine tvi (v := 2) e_y0 ?_
  refine lv_aload_n hx hb dL_law_520 rfl (lv_at hl 3 rfl) ?_
  refine lv_iload_n hx hb dL_law_521 rfl (lv_at hl 0 rfl) ?_
  refine lv_iconst (v := 2) hx hb dL_law_522 (by decide) ?_
  refine v_iadd hx hb dL_law_523 2 (by decide +kernel) ?_
  refine va_sld hx hb hX0 hbl hbA hS (vin (by decide +kernel)) dL_law_524 ?_
  refine tvi (v := y1) e_y1 ?_
  refine lv_aload_n hx hb dL_law_525 rfl (lv_at hl 3 rfl) ?_
  refine lv_iload_n hx hb dL_law_526 rfl (lv_at hl 0 rfl) ?_
  refine lv_iconst (v := 3) hx hb dL_law_527 (by decide) ?_
  refine v_iadd hx hb dL_law_528 3 (by decide +kernel) ?_
  refine va_sld hx hb hX0 hbl hbA hS (vin (by decide +kernel)) dL_law_529 ?_
  refine tvi (v := y2) e_y2 ?_
  refine lv_aload_n hx hb dL_law_530 rfl (lv_at hl 3 rfl) ?_
  refine lv_iload_n hx hb dL_law_531 rfl (lv_at hl 0 rfl) ?_
  refine lv_iconst (v := 4) hx hb dL_law_532 (by decide) ?_
  refine v_iadd hx hb dL_law_533 4 (by decide +kernel) ?_
  refine va_sld hx hb hX0 hbl hbA hS (vin (by decide +kernel)) dL_law_534 ?_
  refine tvi (v := y3) e_y3 ?_
  refine kV_i (q0 := 0) ⟨hx, hb, hml, hown, hts⟩ hK hP hD hS hA hX cv_RL_56 [0, 1, 2] [] (wr := []) rfl rfl rfl rfl (by decide) (c366_X9_copy l dC dI cI cJ cII cJJ H.size 0 qm (v 8) (v 7) (v 0) (v 1) (v 2) (v 3) (v 4) (v 5) (v 6) (v 9) (v 10) (v 11) (v 12) (v 13) (v 14) (v 15) (v 16) (v 17) (v 18) (v 19) (v 20) (v 21) (v 22) (v 23) (v 24) (v 25) (v 26) y1 h_y1 y2 h_y2 y3 h_y3) ⟨by decide +kernel, by decide +kernel⟩ rfl rfl (Or.inl rfl) (rest := [.int (-7)]) rfl rfl rfl hl.1 rfl (Nat.le_of_ble_eq_true rfl) dL_law_535 ⟨Nat.le_of_ble_eq_true rfl, Nat.le_of_ble_eq_true rfl⟩ (W' := []) rfl (fun H locs hP hD hS => ?_)
  refine t_icmp_eq hx hb dL_law_538 1073 (by decide) rfl ?_
  exact law_end l C0 rfl hS hl
set_option maxRecDepth 100000 in
set_option maxHeartbeats 4000000 in
theorem lr_45 {p : Program} {e : Env} {s : State} {m : MethodId} {below : List Frame} {meth : Method} {c : Code} (l : Launch) {b L : Nat} {xs : Nat → Int32} (C0 : lw_At p s m meth c b L xs) (hL : L = 5) {dC : Nat → ClassId} {dI : Nat → Nat → Nat} {cI cJ cII cJJ : ClassId} {g qx qm : Nat} {u v : Nat → Nat} {H : Heap} {locs : List Loc} {ls : Array Slot} (e_y0 : xs 1 = 3) (y1 : Int32) (h_y1 : -2147483648 ≤ y1.toInt ∧ y1.toInt ≤ 2147483647) (e_y1 : xs 2 = y1) (y2 : Int32) (h_y2 : 0 ≤ y2.toInt ∧ y2.toInt ≤ 3) (e_y2 : xs 3 = y2) (y3 : Int32) (h_y3 : -2147483648 ≤ y3.toInt ∧ y3.toInt ≤ 2147483647) (e_y3 : xs 4 = y3) (hK : va_K (dC, dI) vwCl (TY cI cJ cII cJJ) s) (hX : GXA 1 g (AA s) s) (hP : va_P (dC, dI) vwCl (WLD cI cJ cII cJJ qx qm u v) H) (hD : va_D (AA s) (WLD cI cJ cII cJJ qx qm u v)) (hS : va_S (AA s) s.heap H locs) (hl : lv_has ls 4 [(3, .int 0), (2, .ref qm), (1, .ref qx), (0, .ref b)]) : W p l e room_1 s m #[Value.ref b] below meth c H locs 600000 7302250 (lw_Z below #[Value.ref b] s) (F0 m 490 ls []) := by
  obtain ⟨hx, hb, hr, hml, hown, hts0, hX0, hbl, hlocks, hgv⟩ := id C0
  have hts : ∀ w ∈ TT, w.before #[Value.ref b] s = true := fun w h => hts0 w (TT_tbl h)
  have hA : ∀ q : Nat, s.heap.size ≤ q → AA s q := fun _ h => h
  have hbA : ¬ AA s b := Nat.not_le.mpr hbl
  have hown : s.vm.findClass RL = some m.cls := hown
  subst hL
  refine lv_aload_n hx hb dL_law_490 rfl (lv_at hl 2 rfl) ?_
  refine lv_aload_n hx hb dL_law_491 rfl (lv_at hl 3 rfl) ?_
  refine lv_iload_n hx hb dL_law_492 rfl (lv_at hl 0 rfl) ?_
  refine lv_iconst (v := 1) hx hb dL_law_493 (by decide) ?_
  refine v_iadd hx hb dL_law_494 1 (by decide +kernel) ?_
  refine va_sld hx hb hX0 hbl hbA hS (vin (by decide +kernel)) dL_law_495 ?_
  refine tvi (v := 3) e_y0 ?_
  refine lv_aload_n hx hb dL_law_496 rfl (lv_at hl 3 rfl) ?_
  refine lv_iload_n hx hb dL_law_497 rfl (lv_at hl 0 rfl) ?_
  refine lv_iconst (v := 2) hx hb dL_law_498 (by decide) ?_
  refine v_iadd hx hb dL_law_499 2 (by decide +kernel) ?_
  refine va_sld hx hb hX0 hbl hbA hS (vin (by decide +kernel)) dL_law_500 ?_
  refine tvi (v := y1) e_y1 ?_
  refine lv_aload_n hx hb dL_law_501 rfl (lv_at hl 3 rfl) ?_
  refine lv_iload_n hx hb dL_law_502 rfl (lv_at hl 0 rfl) ?_
  refine lv_iconst (v := 3) hx hb dL_law_503 (by decide) ?_
  refine v_iadd hx hb dL_law_504 3 (by decide +kernel) ?_
  refine va_sld hx hb hX0 hbl hbA hS (vin (by decide +kernel)) dL_law_505 ?_
  refine tvi (v := y2) e_y2 ?_
  refine lv_aload_n hx hb dL_law_506 rfl (lv_at hl 3 rfl) ?_
  refine lv_iload_n hx hb dL_law_507 rfl (lv_at hl 0 rfl) ?_
  refine lv_iconst (v := 4) hx hb dL_law_508 (by decide) ?_
  refine v_iadd hx hb dL_law_509 4 (by decide +kernel) ?_
  refine va_sld hx hb hX0 hbl hbA hS (vin (by decide +kernel)) dL_law_510 ?_
  refine tvi (v := y3) e_y3 ?_
  refine kV_i (q0 := 0) ⟨hx, hb, hml, hown, hts⟩ hK hP hD hS hA hX cv_RL_52 [0, 52, 59, 63] [86, 67, 66] (wr := [(qm, .inr (9, [.ref (v 0), .ref (v 1), .ref (v 2), .ref (v 3), .ref (v 4), .ref (v 5), .ref (v 6), .ref (v 7), .ref (v 8), .ref (v 9), .ref (v 10), .ref (v 11), .int 1, .int 0, .int 0, .ref (v 12), .ref (v 13), .ref (v 14), .ref (v 15), .ref (v 16), .ref (v 17), .int 0, .int 0, .ref (v 18), .ref (v 19), .ref (v 20), .ref (v 21), .int 0, .int 0, .ref (v 22), .ref (v 23), .ref (v 24), .ref (v 25), .int 0, .ref (v 26), .int 0])), ((v 8), .inl (cI, 4, .inl (tb [(-1), (-1), (-1), (-1)]))), ((v 7), .inl (cI, 8, .inl (tb [])))]) rfl rfl rfl rfl (by decide) (c090_X8_copy l dC dI cI cJ cII cJJ H.size 0 qx (u 51) (u 58) (u 62) (u 0) (u 10) (u 28) (u 59) (u 60) (u 61) (u 52) (u 57) y1 h_y1 y2 h_y2 y3 h_y3) ⟨by decide +kernel, by decide +kernel⟩ rfl rfl (Or.inl rfl) (rest := []) rfl rfl rfl hl.1 rfl (Nat.le_of_ble_eq_true rfl) dL_law_511 ⟨Nat.le_of_ble_eq_true rfl, Nat.le_of_ble_eq_true rfl⟩ (W' := [(qm, .inr (9, [.ref (v 0), .ref (v 1), .ref (v 2), .ref (v 3), .ref (v 4), .ref (v 5), .ref (v 6), .ref (v 7), .ref (v 8), .ref (v 9), .ref (v 10), .ref (v 11), .int 1, .int 0, .int 0, .ref (v 12), .ref (v 13), .ref (v 14), .ref (v 15), .ref (v 16), .ref (v 17), .int 0, .int 0, .ref (v 18), .ref (v 19), .ref (v 20), .ref (v 21), .int 0, .int 0, .ref (v 22), .ref (v 23), .ref (v 24), .ref (v 25), .int 0, .ref (v 26), .int 0])), ((v 8), .inl (cI, 4, .inl (tb [(-1), (-1), (-1), (-1)]))), ((v 7), .inl (cI, 8, .inl (tb [])))]) rfl (fun H locs hP hD hS => ?_)
  refine lv_aload_n hx hb dL_law_514 rfl (lv_at hl 1 rfl) ?_
  refine lv_aload_n hx hb dL_law_515 rfl (lv_at hl 3 rfl) ?_
  refine lv_iload_n hx hb dL_law_516 rfl (lv_at hl 0 rfl) ?_
  refine lv_iconst (v := 1) hx hb dL_law_517 (by decide) ?_
  refine v_iadd hx hb dL_law_518 1 (by decide +kernel) ?_
  refine va_sld hx hb hX0 hbl hbA hS (vin (by decide +kernel)) dL_law_519 ?_
  refine tvi (v := 3) e_y0 ?_
  refine lv_aload_n hx hb dL_law_520 rfl (lv_at hl 3 rfl) ?_
  refine lv_iload_n hx hb dL_law_521 rfl (lv_at hl 0 rfl) ?_
  refine lv_iconst (v := 2) hx hb dL_law_522 (by decide) ?_
  refine v_iadd hx hb dL_law_523 2 (by decide +kernel) ?_
  refine va_sld hx hb hX0 hbl hbA hS (vin (by decide +kernel)) dL_law_524 ?_
  refine tvi (v := y1) e_y1 ?_
  refine lv_aload_n hx hb dL_law_525 rfl (lv_at hl 3 rfl) ?_
  refine lv_iload_n hx hb dL_law_526 rfl (lv_at hl 0 rfl) ?_
  refine lv_iconst (v := 3) hx hb dL_law_527 (by decide) ?_
  refine v_iadd hx hb dL_law_528 3 (by decide +kernel) ?_
  refine va_sld hx hb hX0 hbl hbA hS (vin (by decide +kernel)) dL_law_529 ?_
  refine tvi (v := y2) e_y2 ?_
  refine lv_aload_n hx hb dL_law_530 rfl (lv_at hl 3 rfl) ?_
  refine lv_iload_n hx hb dL_law_531 rfl (lv_at hl 0 rfl) ?_
  refine lv_iconst (v := 4) hx hb dL_law_532 (by decide) ?_
  refine v_iadd hx hb dL_law_533 4 (by decide +kernel) ?_
  refine va_sld hx hb hX0 hbl hbA hS (vin (by decide +kernel)) dL_law_534 ?_
  refine tvi (v := y3) e_y3 ?_
  refine kV_i (q0 := 0) ⟨hx, hb, hml, hown, hts⟩ hK hP hD hS hA hX cv_RL_56 [0, 1, 2] [] (wr := []) rfl rfl rfl rfl (by decide) (c367_X9_copy l dC dI cI cJ cII cJJ H.size 0 qm (v 8) (v 7) (v 0) (v 1) (v 2) (v 3) (v 4) (v 5) (v 6) (v 9) (v 10) (v 11) (v 12) (v 13) (v 14) (v 15) (v 16) (v 17) (v 18) (v 19) (v 20) (v 21) (v 22) (v 23) (v 24) (v 25) (v 26) y1 h_y1 y2 h_y2 y3 h_y3) ⟨by decide +kernel, by decide +kernel⟩ rfl rfl (Or.inl rfl) (rest := [.int (-7)]) rfl rfl rfl hl.1 rfl (Nat.le_of_ble_eq_true rfl) dL_law_535 ⟨Nat.le_of_ble_eq_true rfl, Nat.le_of_ble_eq_true rfl⟩ (W' := []) rfl (fun H locs hP hD hS => ?_)
  refine t_icmp_eq hx hb dL_law_538 1073 (by decide) rfl ?_
  exact law_end l C0 rfl hS hl
set_option maxRecDepth 100000 in
set_option maxHeartbeats 4000000 in
theorem lc_8 {p : Program} {e : Env} {s : State} {m : MethodId} {below : List Frame} {meth : Method} {c : Code} (l : Launch) {b L : Nat} {xs : Nat → Int32} (C0 : lw_At p s m meth c b L xs) (hL : L = 5) {dC : Nat → ClassId} {dI : Nat → Nat → Nat} {cI cJ cII cJJ : ClassId} {g qx qm : Nat} {u v : Nat → Nat} {H : Heap} {locs : List Loc} {ls : Array Slot} (hK : va_K (dC, dI) vwCl (TY cI cJ cII cJJ) s) (hX : GXA 1 g (AA s) s) (hP : va_P (dC, dI) vwCl (WLD cI cJ cII cJJ qx qm u v) H) (hD : va_D (AA s) (WLD cI cJ cII cJJ qx qm u v)) (hS : va_S (AA s) s.heap H locs) (hl : lv_has ls 4 [(3, .int 0), (2, .ref qm), (1, .ref qx), (0, .ref b)]) : W p l e room_1 s m #[Value.ref b] below meth c H locs 600000 7302250 (lw_Z below #[Value.ref b] s) (F0 m 490 ls []) := by
  have q1 := s_any (xs 1)
  have q2 := s_any (xs 2)
  have q3 := s_any (xs 3)
  have q4 := s_any (xs 4)
  have key : ((xs 1).toInt ≤ -1) ∨ (4 ≤ (xs 1).toInt) ∨ ((0 ≤ (xs 1).toInt ∧ (xs 1).toInt ≤ 3) ∧ (xs 3).toInt ≤ -1) ∨ ((0 ≤ (xs 1).toInt ∧ (xs 1).toInt ≤ 3) ∧ 4 ≤ (xs 3).toInt) ∨ ((xs 1).toInt = 0 ∧ (0 ≤ (xs 3).toInt ∧ (xs 3).toInt ≤ 3)) ∨ ((xs 1).toInt = 1 ∧ (0 ≤ (xs 3).toInt ∧ (xs 3).toInt ≤ 3)) ∨ ((xs 1).toInt = 2 ∧ (0 ≤ (xs 3).toInt ∧ (xs 3).toInt ≤ 3)) ∨ ((xs 1).toInt = 3 ∧ (0 ≤ (xs 3).toInt ∧ (xs 3).toInt ≤ 3)) := by omega
  rcases key with h | h | h | h | h | h | h | h
  · exact lr_38 l C0 hL (xs 1) ⟨by omega, by omega⟩ rfl (xs 2) ⟨by omega, by omega⟩ rfl (xs 3) ⟨by omega, by omega⟩ rfl (xs 4) ⟨by omega, by omega⟩ rfl hK hX hP hD hS hl
  · exact lr_39 l C0 hL (xs 1) ⟨by omega, by omega⟩ rfl (xs 2) ⟨by omega, by omega⟩ rfl (xs 3) ⟨by omega, by omega⟩ rfl (xs 4) ⟨by omega, by omega⟩ rfl hK hX hP hD hS hl
  · exact lr_40 l C0 hL (xs 1) ⟨by omega, by omega⟩ rfl (xs 2) ⟨by omega, by omega⟩ rfl (xs 3) ⟨by omega, by omega⟩ rfl (xs 4) ⟨by omega, by omega⟩ rfl hK hX hP hD hS hl
  · exact lr_41 l C0 hL (xs 1) ⟨by omega, by omega⟩ rfl (xs 2) ⟨by omega, by omega⟩ rfl (xs 3) ⟨by omega, by omega⟩ rfl (xs 4) ⟨by omega, by omega⟩ rfl hK hX hP hD hS hl
  · exact lr_42 l C0 hL (Int32.toInt_inj.mp (by rw [show (0 : Int32).toInt = 0 from by decide +kernel]; omega)) (xs 2) ⟨by omega, by omega⟩ rfl (xs 3) ⟨by omega, by omega⟩ rfl (xs 4) ⟨by omega, by omega⟩ rfl hK hX hP hD hS hl
  · exact lr_43 l C0 hL (Int32.toInt_inj.mp (by rw [show (1 : Int32).toInt = 1 from by decide +kernel]; omega)) (xs 2) ⟨by omega, by omega⟩ rfl (xs 3) ⟨by omega, by omega⟩ rfl (xs 4) ⟨by omega, by omega⟩ rfl hK hX hP hD hS hl
  · exact lr_44 l C0 hL (Int32.toInt_inj.mp (by rw [show (2 : Int32).toInt = 2 from by decide +kernel]; omega)) (xs 2) ⟨by omega, by omega⟩ rfl (xs 3) ⟨by omega, by omega⟩ rfl (xs 4) ⟨by omega, by omega⟩ rfl hK hX hP hD hS hl
  · exact lr_45 l C0 hL (Int32.toInt_inj.mp (by rw [show (3 : Int32).toInt = 3 from by decide +kernel]; omega)) (xs 2) ⟨by omega, by omega⟩ rfl (xs 3) ⟨by omega, by omega⟩ rfl (xs 4) ⟨by omega, by omega⟩ rfl hK hX hP hD hS hl
set_option maxRecDepth 100000 in
set_option maxHeartbeats 4000000 in
theorem lr_46 {p : Program} {e : Env} {s : State} {m : MethodId} {below : List Frame} {meth : Method} {c : Code} (l : Launch) {b L : Nat} {xs : Nat → Int32} (C0 : lw_At p s m meth c b L xs) (hL : L = 5) {dC : Nat → ClassId} {dI : Nat → Nat → Nat} {cI cJ cII cJJ : ClassId} {g qx qm : Nat} {u v : Nat → Nat} {H : Heap} {locs : List Loc} {ls : Array Slot} (y0 : Int32) (h_y0 : -2147483648 ≤ y0.toInt ∧ y0.toInt ≤ 2147483647) (e_y0 : xs 1 = y0) (y1 : Int32) (h_y1 : -2147483648 ≤ y1.toInt ∧ y1.toInt ≤ -1) (e_y1 : xs 2 = y1) (y2 : Int32) (h_y2 : -2147483648 ≤ y2.toInt ∧ y2.toInt ≤ 2147483647) (e_y2 : xs 3 = y2) (hK : va_K (dC, dI) vwCl (TY cI cJ cII cJJ) s) (hX : GXA 1 g (AA s) s) (hP : va_P (dC, dI) vwCl (WLD cI cJ cII cJJ qx qm u v) H) (hD : va_D (AA s) (WLD cI cJ cII cJJ qx qm u v)) (hS : va_S (AA s) s.heap H locs) (hl : lv_has ls 4 [(3, .int 0), (2, .ref qm), (1, .ref qx), (0, .ref b)]) : W p l e room_1 s m #[Value.ref b] below meth c H locs 600000 7302250 (lw_Z below #[Value.ref b] s) (F0 m 543 ls []) := by
  obtain ⟨hx, hb, hr, hml, hown, hts0, hX0, hbl, hlocks, hgv⟩ := id C0
  have hts : ∀ w ∈ TT, w.before #[Value.ref b] s = true := fun w h => hts0 w (TT_tbl h)
  have hA : ∀ q : Nat, s.heap.size ≤ q → AA s q := fun _ h => h
  have hbA : ¬ AA s b := Nat.not_le.mpr hbl
  have hown : s.vm.findClass RL = some m.cls := hown
  subst hL
  refine lv_aload_n hx hb dL_law_543 rfl (lv_at hl 2 rfl) ?_
  refine lv_aload_n hx hb dL_law_544 rfl (lv_at hl 3 rfl) ?_
  refine lv_iload_n hx hb dL_law_545 rfl (lv_at hl 0 rfl) ?_
  refine lv_iconst (v := 1) hx hb dL_law_546 (by decide) ?_
  refine v_iadd hx hb dL_law_547 1 (by decide +kernel) ?_
  refine va_sld hx hb hX0 hbl hbA hS (vin (by decide +kernel)) dL_law_548 ?_
  refine tvi (v := y0) e_y0 ?_
  refine lv_aload_n hx hb dL_law_549 rfl (lv_at hl 3 rfl) ?_
  refine lv_iload_n hx hb dL_law_550 rfl (lv_at hl 0 rfl) ?_
  refine lv_iconst (v := 2) hx hb dL_law_551 (by decide) ?_
  refine v_iadd hx hb dL_law_552 2 (by decide +kernel) ?_
  refine va_sld hx hb hX0 hbl hbA hS (vin (by decide +kernel)) dL_law_553 ?_
  refine tvi (v := y1) e_y1 ?_
  refine lv_aload_n hx hb dL_law_554 rfl (lv_at hl 3 rfl) ?_
  refine lv_iload_n hx hb dL_law_555 rfl (lv_at hl 0 rfl) ?_
  refine lv_iconst (v := 3) hx hb dL_law_556 (by decide) ?_
  refine v_iadd hx hb dL_law_557 3 (by decide +kernel) ?_
  refine va_sld hx hb hX0 hbl hbA hS (vin (by decide +kernel)) dL_law_558 ?_
  refine tvi (v := y2) e_y2 ?_
  refine kV_i (q0 := 0) ⟨hx, hb, hml, hown, hts⟩ hK hP hD hS hA hX cv_RL_57 [0, 52, 63] [86, 66] (wr := [(qm, .inr (9, [.ref (v 0), .ref (v 1), .ref (v 2), .ref (v 3), .ref (v 4), .ref (v 5), .ref (v 6), .ref (v 7), .ref (v 8), .ref (v 9), .ref (v 10), .ref (v 11), .int 1, .int 0, .int 0, .ref (v 12), .ref (v 13), .ref (v 14), .ref (v 15), .ref (v 16), .ref (v 17), .int 0, .int 0, .ref (v 18), .ref (v 19), .ref (v 20), .ref (v 21), .int 0, .int 0, .ref (v 22), .ref (v 23), .ref (v 24), .ref (v 25), .int 0, .ref (v 26), .int 0])), ((v 7), .inl (cI, 8, .inl (tb [])))]) rfl rfl rfl rfl (by decide) (c091_X8_lay l dC dI cI cJ cII cJJ H.size 0 qx (u 51) (u 62) (u 0) (u 10) (u 28) (u 59) (u 60) (u 61) (u 52) (u 57) (u 58) y0 h_y0 y1 h_y1 y2 h_y2) ⟨by decide +kernel, by decide +kernel⟩ rfl rfl (Or.inl rfl) (rest := []) rfl rfl rfl hl.1 rfl (Nat.le_of_ble_eq_true rfl) dL_law_559 ⟨Nat.le_of_ble_eq_true rfl, Nat.le_of_ble_eq_true rfl⟩ (W' := [(qm, .inr (9, [.ref (v 0), .ref (v 1), .ref (v 2), .ref (v 3), .ref (v 4), .ref (v 5), .ref (v 6), .ref (v 7), .ref (v 8), .ref (v 9), .ref (v 10), .ref (v 11), .int 1, .int 0, .int 0, .ref (v 12), .ref (v 13), .ref (v 14), .ref (v 15), .ref (v 16), .ref (v 17), .int 0, .int 0, .ref (v 18), .ref (v 19), .ref (v 20), .ref (v 21), .int 0, .int 0, .ref (v 22), .ref (v 23), .ref (v 24), .ref (v 25), .int 0, .ref (v 26), .int 0])), ((v 7), .inl (cI, 8, .inl (tb [])))]) rfl (fun H locs hP hD hS => ?_)
  refine lv_aload_n hx hb dL_law_562 rfl (lv_at hl 1 rfl) ?_
  refine lv_aload_n hx hb dL_law_563 rfl (lv_at hl 3 rfl) ?_
  refine lv_iload_n hx hb dL_law_564 rfl (lv_at hl 0 rfl) ?_
  refine lv_iconst (v := 1) hx hb dL_law_565 (by decide) ?_
  refine v_iadd hx hb dL_law_566 1 (by decide +kernel) ?_
  refine va_sld hx hb hX0 hbl hbA hS (vin (by decide +kernel)) dL_law_567 ?_
  refine tvi (v := y0) e_y0 ?_
  refine lv_aload_n hx hb dL_law_568 rfl (lv_at hl 3 rfl) ?_
  refine lv_iload_n hx hb dL_law_569 rfl (lv_at hl 0 rfl) ?_
  refine lv_iconst (v := 2) hx hb dL_law_570 (by decide) ?_
  refine v_iadd hx hb dL_law_571 2 (by decide +kernel) ?_
  refine va_sld hx hb hX0 hbl hbA hS (vin (by decide +kernel)) dL_law_572 ?_
  refine tvi (v := y1) e_y1 ?_
  refine lv_aload_n hx hb dL_law_573 rfl (lv_at hl 3 rfl) ?_
  refine lv_iload_n hx hb dL_law_574 rfl (lv_at hl 0 rfl) ?_
  refine lv_iconst (v := 3) hx hb dL_law_575 (by decide) ?_
  refine v_iadd hx hb dL_law_576 3 (by decide +kernel) ?_
  refine va_sld hx hb hX0 hbl hbA hS (vin (by decide +kernel)) dL_law_577 ?_
  refine tvi (v := y2) e_y2 ?_
  refine kV_i (q0 := 0) ⟨hx, hb, hml, hown, hts⟩ hK hP hD hS hA hX cv_RL_60 [0, 1] [] (wr := []) rfl rfl rfl rfl (by decide) (c368_X9_lay l dC dI cI cJ cII cJJ H.size 0 qm (v 7) (v 0) (v 1) (v 2) (v 3) (v 4) (v 5) (v 6) (v 8) (v 9) (v 10) (v 11) (v 12) (v 13) (v 14) (v 15) (v 16) (v 17) (v 18) (v 19) (v 20) (v 21) (v 22) (v 23) (v 24) (v 25) (v 26) y0 h_y0 y1 h_y1 y2 h_y2) ⟨by decide +kernel, by decide +kernel⟩ rfl rfl (Or.inl rfl) (rest := [.int (-1)]) rfl rfl rfl hl.1 rfl (Nat.le_of_ble_eq_true rfl) dL_law_578 ⟨Nat.le_of_ble_eq_true rfl, Nat.le_of_ble_eq_true rfl⟩ (W' := []) rfl (fun H locs hP hD hS => ?_)
  refine t_icmp_eq hx hb dL_law_581 1073 (by decide) rfl ?_
  exact law_end l C0 rfl hS hl
set_option maxRecDepth 100000 in
set_option maxHeartbeats 4000000 in
theorem lr_47 {p : Program} {e : Env} {s : State} {m : MethodId} {below : List Frame} {meth : Method} {c : Code} (l : Launch) {b L : Nat} {xs : Nat → Int32} (C0 : lw_At p s m meth c b L xs) (hL : L = 5) {dC : Nat → ClassId} {dI : Nat → Nat → Nat} {cI cJ cII cJJ : ClassId} {g qx qm : Nat} {u v : Nat → Nat} {H : Heap} {locs : List Loc} {ls : Array Slot} (y0 : Int32) (h_y0 : -2147483648 ≤ y0.toInt ∧ y0.toInt ≤ 2147483647) (e_y0 : xs 1 = y0) (y1 : Int32) (h_y1 : 4 ≤ y1.toInt ∧ y1.toInt ≤ 2147483647) (e_y1 : xs 2 = y1) (y2 : Int32) (h_y2 : -2147483648 ≤ y2.toInt ∧ y2.toInt ≤ 2147483647) (e_y2 : xs 3 = y2) (hK : va_K (dC, dI) vwCl (TY cI cJ cII cJJ) s) (hX : GXA 1 g (AA s) s) (hP : va_P (dC, dI) vwCl (WLD cI cJ cII cJJ qx qm u v) H) (hD : va_D (AA s) (WLD cI cJ cII cJJ qx qm u v)) (hS : va_S (AA s) s.heap H locs) (hl : lv_has ls 4 [(3, .int 0), (2, .ref qm), (1, .ref qx), (0, .ref b)]) : W p l e room_1 s m #[Value.ref b] below meth c H locs 600000 7302250 (lw_Z below #[Value.ref b] s) (F0 m 543 ls []) := by
  obtain ⟨hx, hb, hr, hml, hown, hts0, hX0, hbl, hlocks, hgv⟩ := id C0
  have hts : ∀ w ∈ TT, w.before #[Value.ref b] s = true := fun w h => hts0 w (TT_tbl h)
  have hA : ∀ q : Nat, s.heap.size ≤ q → AA s q := fun _ h => h
  have hbA : ¬ AA s b := Nat.not_le.mpr hbl
  have hown : s.vm.findClass RL = some m.cls := hown
  subst hL
  refine lv_aload_n hx hb dL_law_543 rfl (lv_at hl 2 rfl) ?_
  refine lv_aload_n hx hb dL_law_544 rfl (lv_at hl 3 rfl) ?_
  refine lv_iload_n hx hb dL_law_545 rfl (lv_at hl 0 rfl) ?_
  refine lv_iconst (v := 1) hx hb dL_law_546 (by decide) ?_
  refine v_iadd hx hb dL_law_547 1 (by decide +kernel) ?_
  refine va_sld hx hb hX0 hbl hbA hS (vin (by decide +kernel)) dL_law_548 ?_
  refine tvi (v := y0) e_y0 ?_
  refine lv_aload_n hx hb dL_law_549 rfl (lv_at hl 3 rfl) ?_
  refine lv_iload_n hx hb dL_law_550 rfl (lv_at hl 0 rfl) ?_
  refine lv_iconst (v := 2) hx hb dL_law_551 (by decide) ?_
  refine v_iadd hx hb dL_law_552 2 (by decide +kernel) ?_
  refine va_sld hx hb hX0 hbl hbA hS (vin (by decide +kernel)) dL_law_553 ?_
  refine tvi (v := y1) e_y1 ?_
  refine lv_aload_n hx hb dL_law_554 rfl (lv_at hl 3 rfl) ?_
  refine lv_iload_n hx hb dL_law_555 rfl (lv_at hl 0 rfl) ?_
  refine lv_iconst (v := 3) hx hb dL_law_556 (by decide) ?_
  refine v_iadd hx hb dL_law_557 3 (by decide +kernel) ?_
  refine va_sld hx hb hX0 hbl hbA hS (vin (by decide +kernel)) dL_law_558 ?_
  refine tvi (v := y2) e_y2 ?_
  refine kV_i (q0 := 0) ⟨hx, hb, hml, hown, hts⟩ hK hP hD hS hA hX cv_RL_57 [0, 52, 63] [86, 66] (wr := [(qm, .inr (9, [.ref (v 0), .ref (v 1), .ref (v 2), .ref (v 3), .ref (v 4), .ref (v 5), .ref (v 6), .ref (v 7), .ref (v 8), .ref (v 9), .ref (v 10), .ref (v 11), .int 1, .int 0, .int 0, .ref (v 12), .ref (v 13), .ref (v 14), .ref (v 15), .ref (v 16), .ref (v 17), .int 0, .int 0, .ref (v 18), .ref (v 19), .ref (v 20), .ref (v 21), .int 0, .int 0, .ref (v 22), .ref (v 23), .ref (v 24), .ref (v 25), .int 0, .ref (v 26), .int 0])), ((v 7), .inl (cI, 8, .inl (tb [])))]) rfl rfl rfl rfl (by decide) (c092_X8_lay l dC dI cI cJ cII cJJ H.size 0 qx (u 51) (u 62) (u 0) (u 10) (u 28) (u 59) (u 60) (u 61) (u 52) (u 57) (u 58) y0 h_y0 y1 h_y1 y2 h_y2) ⟨by decide +kernel, by decide +kernel⟩ rfl rfl (Or.inl rfl) (rest := []) rfl rfl rfl hl.1 rfl (Nat.le_of_ble_eq_true rfl) dL_law_559 ⟨Nat.le_of_ble_eq_true rfl, Nat.le_of_ble_eq_true rfl⟩ (W' := [(qm, .inr (9, [.ref (v 0), .ref (v 1), .ref (v 2), .ref (v 3), .ref (v 4), .ref (v 5), .ref (v 6), .ref (v 7), .ref (v 8), .ref (v 9), .ref (v 10), .ref (v 11), .int 1, .int 0, .int 0, .ref (v 12), .ref (v 13), .ref (v 14), .ref (v 15), .ref (v 16), .ref (v 17), .int 0, .int 0, .ref (v 18), .ref (v 19), .ref (v 20), .ref (v 21), .int 0, .int 0, .ref (v 22), .ref (v 23), .ref (v 24), .ref (v 25), .int 0, .ref (v 26), .int 0])), ((v 7), .inl (cI, 8, .inl (tb [])))]) rfl (fun H locs hP hD hS => ?_)
  refine lv_aload_n hx hb dL_law_562 rfl (lv_at hl 1 rfl) ?_
  refine lv_aload_n hx hb dL_law_563 rfl (lv_at hl 3 rfl) ?_
  refine lv_iload_n hx hb dL_law_564 rfl (lv_at hl 0 rfl) ?_
  refine lv_iconst (v := 1) hx hb dL_law_565 (by decide) ?_
  refine v_iadd hx hb dL_law_566 1 (by decide +kernel) ?_
  refine va_sld hx hb hX0 hbl hbA hS (vin (by decide +kernel)) dL_law_567 ?_
  refine tvi (v := y0) e_y0 ?_
  refine lv_aload_n hx hb dL_law_568 rfl (lv_at hl 3 rfl) ?_
  refine lv_iload_n hx hb dL_law_569 rfl (lv_at hl 0 rfl) ?_
  refine lv_iconst (v := 2) hx hb dL_law_570 (by decide) ?_
  refine v_iadd hx hb dL_law_571 2 (by decide +kernel) ?_
  refine va_sld hx hb hX0 hbl hbA hS (vin (by decide +kernel)) dL_law_572 ?_
  refine tvi (v := y1) e_y1 ?_
  refine lv_aload_n hx hb dL_law_573 rfl (lv_at hl 3 rfl) ?_
  refine lv_iload_n hx hb dL_law_574 rfl (lv_at hl 0 rfl) ?_
  refine lv_iconst (v := 3) hx hb dL_law_575 (by decide) ?_
  refine v_iadd hx hb dL_law_576 3 (by decide +kernel) ?_
  refine va_sld hx hb hX0 hbl hbA hS (vin (by decide +kernel)) dL_law_577 ?_
  refine tvi (v := y2) e_y2 ?_
  refine kV_i (q0 := 0) ⟨hx, hb, hml, hown, hts⟩ hK hP hD hS hA hX cv_RL_60 [0, 1] [] (wr := []) rfl rfl rfl rfl (by decide) (c369_X9_lay l dC dI cI cJ cII cJJ H.size 0 qm (v 7) (v 0) (v 1) (v 2) (v 3) (v 4) (v 5) (v 6) (v 8) (v 9) (v 10) (v 11) (v 12) (v 13) (v 14) (v 15) (v 16) (v 17) (v 18) (v 19) (v 20) (v 21) (v 22) (v 23) (v 24) (v 25) (v 26) y0 h_y0 y1 h_y1 y2 h_y2) ⟨by decide +kernel, by decide +kernel⟩ rfl rfl (Or.inl rfl) (rest := [.int (-1)]) rfl rfl rfl hl.1 rfl (Nat.le_of_ble_eq_true rfl) dL_law_578 ⟨Nat.le_of_ble_eq_true rfl, Nat.le_of_ble_eq_true rfl⟩ (W' := []) rfl (fun H locs hP hD hS => ?_)
  refine t_icmp_eq hx hb dL_law_581 1073 (by decide) rfl ?_
  exact law_end l C0 rfl hS hl
set_option maxRecDepth 100000 in
set_option maxHeartbeats 4000000 in
theorem lr_48 {p : Program} {e : Env} {s : State} {m : MethodId} {below : List Frame} {meth : Method} {c : Code} (l : Launch) {b L : Nat} {xs : Nat → Int32} (C0 : lw_At p s m meth c b L xs) (hL : L = 5) {dC : Nat → ClassId} {dI : Nat → Nat → Nat} {cI cJ cII cJJ : ClassId} {g qx qm : Nat} {u v : Nat → Nat} {H : Heap} {locs : List Loc} {ls : Array Slot} (y0 : Int32) (h_y0 : -2147483648 ≤ y0.toInt ∧ y0.toInt ≤ -1) (e_y0 : xs 1 = y0) (y1 : Int32) (h_y1 : 0 ≤ y1.toInt ∧ y1.toInt ≤ 3) (e_y1 : xs 2 = y1) (y2 : Int32) (h_y2 : -2147483648 ≤ y2.toInt ∧ y2.toInt ≤ 2147483647) (e_y2 : xs 3 = y2) (hK : va_K (dC, dI) vwCl (TY cI cJ cII cJJ) s) (hX : GXA 1 g (AA s) s) (hP : va_P (dC, dI) vwCl (WLD cI cJ cII cJJ qx qm u v) H) (hD : va_D (AA s) (WLD cI cJ cII cJJ qx qm u v)) (hS : va_S (AA s) s.heap H locs) (hl : lv_has ls 4 [(3, .int 0), (2, .ref qm), (1, .ref qx), (0, .ref b)]) : W p l e room_1 s m #[Value.ref b] below meth c H locs 600000 7302250 (lw_Z below #[Value.ref b] s) (F0 m 543 ls []) := by
  obtain ⟨hx, hb, hr, hml, hown, hts0, hX0, hbl, hlocks, hgv⟩ := id C0
  have hts : ∀ w ∈ TT, w.before #[Value.ref b] s = true := fun w h => hts0 w (TT_tbl h)
  have hA : ∀ q : Nat, s.heap.size ≤ q → AA s q := fun _ h => h
  have hbA : ¬ AA s b := Nat.not_le.mpr hbl
  have hown : s.vm.findClass RL = some m.cls := hown
  subst hL
  refine lv_aload_n hx hb dL_law_543 rfl (lv_at hl 2 rfl) ?_
  refine lv_aload_n hx hb dL_law_544 rfl (lv_at hl 3 rfl) ?_
  refine lv_iload_n hx hb dL_law_545 rfl (lv_at hl 0 rfl) ?_
  refine lv_iconst (v := 1) hx hb dL_law_546 (by decide) ?_
  refine v_iadd hx hb dL_law_547 1 (by decide +kernel) ?_
  refine va_sld hx hb hX0 hbl hbA hS (vin (by decide +kernel)) dL_law_548 ?_
  refine tvi (v := y0) e_y0 ?_
  refine lv_aload_n hx hb dL_law_549 rfl (lv_at hl 3 rfl) ?_
  refine lv_iload_n hx hb dL_law_550 rfl (lv_at hl 0 rfl) ?_
  refine lv_iconst (v := 2) hx hb dL_law_551 (by decide) ?_
  refine v_iadd hx hb dL_law_552 2 (by decide +kernel) ?_
  refine va_sld hx hb hX0 hbl hbA hS (vin (by decide +kernel)) dL_law_553 ?_
  refine tvi (v := y1) e_y1 ?_
  refine lv_aload_n hx hb dL_law_554 rfl (lv_at hl 3 rfl) ?_
  refine lv_iload_n hx hb dL_law_555 rfl (lv_at hl 0 rfl) ?_
  refine lv_iconst (v := 3) hx hb dL_law_556 (by decide) ?_
  refine v_iadd hx hb dL_law_557 3 (by decide +kernel) ?_
  refine va_sld hx hb hX0 hbl hbA hS (vin (by decide +kernel)) dL_law_558 ?_
  refine tvi (v := y2) e_y2 ?_
  refine kV_i (q0 := 0) ⟨hx, hb, hml, hown, hts⟩ hK hP hD hS hA hX cv_RL_57 [0, 52, 6, 63] [86, 66] (wr := [(qm, .inr (9, [.ref (v 0), .ref (v 1), .ref (v 2), .ref (v 3), .ref (v 4), .ref (v 5), .ref (v 6), .ref (v 7), .ref (v 8), .ref (v 9), .ref (v 10), .ref (v 11), .int 1, .int 0, .int 0, .ref (v 12), .ref (v 13), .ref (v 14), .ref (v 15), .ref (v 16), .ref (v 17), .int 0, .int 0, .ref (v 18), .ref (v 19), .ref (v 20), .ref (v 21), .int 0, .int 0, .ref (v 22), .ref (v 23), .ref (v 24), .ref (v 25), .int 0, .ref (v 26), .int 0])), ((v 7), .inl (cI, 8, .inl (tb [])))]) rfl rfl rfl rfl (by decide) (c093_X8_lay l dC dI cI cJ cII cJJ H.size 0 qx (u 51) (u 0) (u 62) (u 10) (u 28) (u 59) (u 60) (u 61) (u 52) (u 57) (u 58) (u 1) (u 5) (u 6) (u 7) (u 8) (u 9) y0 h_y0 y1 h_y1 y2 h_y2) ⟨by decide +kernel, by decide +kernel⟩ rfl rfl (Or.inl rfl) (rest := []) rfl rfl rfl hl.1 rfl (Nat.le_of_ble_eq_true rfl) dL_law_559 ⟨Nat.le_of_ble_eq_true rfl, Nat.le_of_ble_eq_true rfl⟩ (W' := [(qm, .inr (9, [.ref (v 0), .ref (v 1), .ref (v 2), .ref (v 3), .ref (v 4), .ref (v 5), .ref (v 6), .ref (v 7), .ref (v 8), .ref (v 9), .ref (v 10), .ref (v 11), .int 1, .int 0, .int 0, .ref (v 12), .ref (v 13), .ref (v 14), .ref (v 15), .ref (v 16), .ref (v 17), .int 0, .int 0, .ref (v 18), .ref (v 19), .ref (v 20), .ref (v 21), .int 0, .int 0, .ref (v 22), .ref (v 23), .ref (v 24), .ref (v 25), .int 0, .ref (v 26), .int 0])), ((v 7), .inl (cI, 8, .inl (tb [])))]) rfl (fun H locs hP hD hS => ?_)
  refine lv_aload_n hx hb dL_law_562 rfl (lv_at hl 1 rfl) ?_
  refine lv_aload_n hx hb dL_law_563 rfl (lv_at hl 3 rfl) ?_
  refine lv_iload_n hx hb dL_law_564 rfl (lv_at hl 0 rfl) ?_
  refine lv_iconst (v := 1) hx hb dL_law_565 (by decide) ?_
  refine v_iadd hx hb dL_law_566 1 (by decide +kernel) ?_
  refine va_sld hx hb hX0 hbl hbA hS (vin (by decide +kernel)) dL_law_567 ?_
  refine tvi (v := y0) e_y0 ?_
  refine lv_aload_n hx hb dL_law_568 rfl (lv_at hl 3 rfl) ?_
  refine lv_iload_n hx hb dL_law_569 rfl (lv_at hl 0 rfl) ?_
  refine lv_iconst (v := 2) hx hb dL_law_570 (by decide) ?_
  refine v_iadd hx hb dL_law_571 2 (by decide +kernel) ?_
  refine va_sld hx hb hX0 hbl hbA hS (vin (by decide +kernel)) dL_law_572 ?_
  refine tvi (v := y1) e_y1 ?_
  refine lv_aload_n hx hb dL_law_573 rfl (lv_at hl 3 rfl) ?_
  refine lv_iload_n hx hb dL_law_574 rfl (lv_at hl 0 rfl) ?_
  refine lv_iconst (v := 3) hx hb dL_law_575 (by decide) ?_
  refine v_iadd hx hb dL_law_576 3 (by decide +kernel) ?_
  refine va_sld hx hb hX0 hbl hbA hS (vin (by decide +kernel)) dL_law_577 ?_
  refine tvi (v := y2) e_y2 ?_
  refine kV_i (q0 := 0) ⟨hx, hb, hml, hown, hts⟩ hK hP hD hS hA hX cv_RL_60 [0, 1] [] (wr := []) rfl rfl rfl rfl (by decide) (c370_X9_lay l dC dI cI cJ cII cJJ H.size 0 qm (v 7) (v 0) (v 1) (v 2) (v 3) (v 4) (v 5) (v 6) (v 8) (v 9) (v 10) (v 11) (v 12) (v 13) (v 14) (v 15) (v 16) (v 17) (v 18) (v 19) (v 20) (v 21) (v 22) (v 23) (v 24) (v 25) (v 26) y0 h_y0 y1 h_y1 y2 h_y2) ⟨by decide +kernel, by decide +kernel⟩ rfl rfl (Or.inl rfl) (rest := [.int (-1)]) rfl rfl rfl hl.1 rfl (Nat.le_of_ble_eq_true rfl) dL_law_578 ⟨Nat.le_of_ble_eq_true rfl, Nat.le_of_ble_eq_true rfl⟩ (W' := []) rfl (fun H locs hP hD hS => ?_)
  refine t_icmp_eq hx hb dL_law_581 1073 (by decide) rfl ?_
  exact law_end l C0 rfl hS hl
set_option maxRecDepth 100000 in
set_option maxHeartbeats 4000000 in
theorem lr_49 {p : Program} {e : Env} {s : State} {m : MethodId} {below : List Frame} {meth : Method} {c : Code} (l : Launch) {b L : Nat} {xs : Nat → Int32} (C0 : lw_At p s m meth c b L xs) (hL : L = 5) {dC : Nat → ClassId} {dI : Nat → Nat → Nat} {cI cJ cII cJJ : ClassId} {g qx qm : Nat} {u v : Nat → Nat} {H : Heap} {locs : List Loc} {ls : Array Slot} (y0 : Int32) (h_y0 : 0 ≤ y0.toInt ∧ y0.toInt ≤ 2147483647) (e_y0 : xs 1 = y0) (y1 : Int32) (h_y1 : 0 ≤ y1.toInt ∧ y1.toInt ≤ 3) (e_y1 : xs 2 = y1) (y2 : Int32) (h_y2 : -2147483648 ≤ y2.toInt ∧ y2.toInt ≤ 2147483647) (e_y2 : xs 3 = y2) (hK : va_K (dC, dI) vwCl (TY cI cJ cII cJJ) s) (hX : GXA 1 g (AA s) s) (hP : va_P (dC, dI) vwCl (WLD cI cJ cII cJJ qx qm u v) H) (hD : va_D (AA s) (WLD cI cJ cII cJJ qx qm u v)) (hS : va_S (AA s) s.heap H locs) (hl : lv_has ls 4 [(3, .int 0), (2, .ref qm), (1, .ref qx), (0, .ref b)]) : W p l e room_1 s m #[Value.ref b] below meth c H locs 600000 7302250 (lw_Z below #[Value.ref b] s) (F0 m 543 ls []) := by
  obtain ⟨hx, hb, hr, hml, hown, hts0, hX0, hbl, hlocks, hgv⟩ := id C0
  have hts : ∀ w ∈ TT, w.before #[Value.ref b] s = true := fun w h => hts0 w (TT_tbl h)
  have hA : ∀ q : Nat, s.heap.size ≤ q → AA s q := fun _ h => h
  have hbA : ¬ AA s b := Nat.not_le.mpr hbl
  have hown : s.vm.findClass RL = some m.cls := hown
  subst hL
  refine lv_aload_n hx hb dL_law_543 rfl (lv_at hl 2 rfl) ?_
  refine lv_aload_n hx hb dL_law_544 rfl (lv_at hl 3 rfl) ?_
  refine lv_iload_n hx hb dL_law_545 rfl (lv_at hl 0 rfl) ?_
  refine lv_iconst (v := 1) hx hb dL_law_546 (by decide) ?_
  refine v_iadd hx hb dL_law_547 1 (by decide +kernel) ?_
  refine va_sld hx hb hX0 hbl hbA hS (vin (by decide +kernel)) dL_law_548 ?_
  refine tvi (v := y0) e_y0 ?_
  refine lv_aload_n hx hb dL_law_549 rfl (lv_at hl 3 rfl) ?_
  refine lv_iload_n hx hb dL_law_550 rfl (lv_at hl 0 rfl) ?_
  refine lv_iconst (v := 2) hx hb dL_law_551 (by decide) ?_
  refine v_iadd hx hb dL_law_552 2 (by decide +kernel) ?_
  refine va_sld hx hb hX0 hbl hbA hS (vin (by decide +kernel)) dL_law_553 ?_
  refine tvi (v := y1) e_y1 ?_
  refine lv_aload_n hx hb dL_law_554 rfl (lv_at hl 3 rfl) ?_
  refine lv_iload_n hx hb dL_law_555 rfl (lv_at hl 0 rfl) ?_
  refine lv_iconst (v := 3) hx hb dL_law_556 (by decide) ?_
  refine v_iadd hx hb dL_law_557 3 (by decide +kernel) ?_
  refine va_sld hx hb hX0 hbl hbA hS (vin (by decide +kernel)) dL_law_558 ?_
  refine tvi (v := y2) e_y2 ?_
  refine kV_i (q0 := 0) ⟨hx, hb, hml, hown, hts⟩ hK hP hD hS hA hX cv_RL_57 [0, 52, 6, 63] [86, 66] (wr := [(qm, .inr (9, [.ref (v 0), .ref (v 1), .ref (v 2), .ref (v 3), .ref (v 4), .ref (v 5), .ref (v 6), .ref (v 7), .ref (v 8), .ref (v 9), .ref (v 10), .ref (v 11), .int 1, .int 0, .int 0, .ref (v 12), .ref (v 13), .ref (v 14), .ref (v 15), .ref (v 16), .ref (v 17), .int 0, .int 0, .ref (v 18), .ref (v 19), .ref (v 20), .ref (v 21), .int 0, .int 0, .ref (v 22), .ref (v 23), .ref (v 24), .ref (v 25), .int 0, .ref (v 26), .int 0])), ((v 7), .inl (cI, 8, .inl (tb [])))]) rfl rfl rfl rfl (by decide) (c094_X8_lay l dC dI cI cJ cII cJJ H.size 0 qx (u 51) (u 0) (u 62) (u 10) (u 28) (u 59) (u 60) (u 61) (u 52) (u 57) (u 58) (u 1) (u 5) (u 6) (u 7) (u 8) (u 9) y0 h_y0 y1 h_y1 y2 h_y2) ⟨by decide +kernel, by decide +kernel⟩ rfl rfl (Or.inl rfl) (rest := []) rfl rfl rfl hl.1 rfl (Nat.le_of_ble_eq_true rfl) dL_law_559 ⟨Nat.le_of_ble_eq_true rfl, Nat.le_of_ble_eq_true rfl⟩ (W' := [(qm, .inr (9, [.ref (v 0), .ref (v 1), .ref (v 2), .ref (v 3), .ref (v 4), .ref (v 5), .ref (v 6), .ref (v 7), .ref (v 8), .ref (v 9), .ref (v 10), .ref (v 11), .int 1, .int 0, .int 0, .ref (v 12), .ref (v 13), .ref (v 14), .ref (v 15), .ref (v 16), .ref (v 17), .int 0, .int 0, .ref (v 18), .ref (v 19), .ref (v 20), .ref (v 21), .int 0, .int 0, .ref (v 22), .ref (v 23), .ref (v 24), .ref (v 25), .int 0, .ref (v 26), .int 0])), ((v 7), .inl (cI, 8, .inl (tb [])))]) rfl (fun H locs hP hD hS => ?_)
  refine lv_aload_n hx hb dL_law_562 rfl (lv_at hl 1 rfl) ?_
  refine lv_aload_n hx hb dL_law_563 rfl (lv_at hl 3 rfl) ?_
  refine lv_iload_n hx hb dL_law_564 rfl (lv_at hl 0 rfl) ?_
  refine lv_iconst (v := 1) hx hb dL_law_565 (by decide) ?_
  refine v_iadd hx hb dL_law_566 1 (by decide +kernel) ?_
  refine va_sld hx hb hX0 hbl hbA hS (vin (by decide +kernel)) dL_law_567 ?_
  refine tvi (v := y0) e_y0 ?_
  refine lv_aload_n hx hb dL_law_568 rfl (lv_at hl 3 rfl) ?_
  refine lv_iload_n hx hb dL_law_569 rfl (lv_at hl 0 rfl) ?_
  refine lv_iconst (v := 2) hx hb dL_law_570 (by decide) ?_
  refine v_iadd hx hb dL_law_571 2 (by decide +kernel) ?_
  refine va_sld hx hb hX0 hbl hbA hS (vin (by decide +kernel)) dL_law_572 ?_
  refine tvi (v := y1) e_y1 ?_
  refine lv_aload_n hx hb dL_law_573 rfl (lv_at hl 3 rfl) ?_
  refine lv_iload_n hx hb dL_law_574 rfl (lv_at hl 0 rfl) ?_
  refine lv_iconst (v := 3) hx hb dL_law_575 (by decide) ?_
  refine v_iadd hx hb dL_law_576 3 (by decide +kernel) ?_
  refine va_sld hx hb hX0 hbl hbA hS (vin (by decide +kernel)) dL_law_577 ?_
  refine tvi (v := y2) e_y2 ?_
  refine kV_i (q0 := 0) ⟨hx, hb, hml, hown, hts⟩ hK hP hD hS hA hX cv_RL_60 [0, 1] [] (wr := []) rfl rfl rfl rfl (by decide) (c371_X9_lay l dC dI cI cJ cII cJJ H.size 0 qm (v 7) (v 0) (v 1) (v 2) (v 3) (v 4) (v 5) (v 6) (v 8) (v 9) (v 10) (v 11) (v 12) (v 13) (v 14) (v 15) (v 16) (v 17) (v 18) (v 19) (v 20) (v 21) (v 22) (v 23) (v 24) (v 25) (v 26) y0 h_y0 y1 h_y1 y2 h_y2) ⟨by decide +kernel, by decide +kernel⟩ rfl rfl (Or.inl rfl) (rest := [.int (-1)]) rfl rfl rfl hl.1 rfl (Nat.le_of_ble_eq_true rfl) dL_law_578 ⟨Nat.le_of_ble_eq_true rfl, Nat.le_of_ble_eq_true rfl⟩ (W' := []) rfl (fun H locs hP hD hS => ?_)
  refine t_icmp_eq hx hb dL_law_581 1073 (by decide) rfl ?_
  exact law_end l C0 rfl hS hl
set_option maxRecDepth 100000 in
set_option maxHeartbeats 4000000 in
theorem lc_9 {p : Program} {e : Env} {s : State} {m : MethodId} {below : List Frame} {meth : Method} {c : Code} (l : Launch) {b L : Nat} {xs : Nat → Int32} (C0 : lw_At p s m meth c b L xs) (hL : L = 5) {dC : Nat → ClassId} {dI : Nat → Nat → Nat} {cI cJ cII cJJ : ClassId} {g qx qm : Nat} {u v : Nat → Nat} {H : Heap} {locs : List Loc} {ls : Array Slot} (hK : va_K (dC, dI) vwCl (TY cI cJ cII cJJ) s) (hX : GXA 1 g (AA s) s) (hP : va_P (dC, dI) vwCl (WLD cI cJ cII cJJ qx qm u v) H) (hD : va_D (AA s) (WLD cI cJ cII cJJ qx qm u v)) (hS : va_S (AA s) s.heap H locs) (hl : lv_has ls 4 [(3, .int 0), (2, .ref qm), (1, .ref qx), (0, .ref b)]) : W p l e room_1 s m #[Value.ref b] below meth c H locs 600000 7302250 (lw_Z below #[Value.ref b] s) (F0 m 543 ls []) := by
  have q1 := s_any (xs 1)
  have q2 := s_any (xs 2)
  have q3 := s_any (xs 3)
  have key : ((xs 2).toInt ≤ -1) ∨ (4 ≤ (xs 2).toInt) ∨ ((xs 1).toInt ≤ -1 ∧ (0 ≤ (xs 2).toInt ∧ (xs 2).toInt ≤ 3)) ∨ (0 ≤ (xs 1).toInt ∧ (0 ≤ (xs 2).toInt ∧ (xs 2).toInt ≤ 3)) := by omega
  rcases key with h | h | h | h
  · exact lr_46 l C0 hL (xs 1) ⟨by omega, by omega⟩ rfl (xs 2) ⟨by omega, by omega⟩ rfl (xs 3) ⟨by omega, by omega⟩ rfl hK hX hP hD hS hl
  · exact lr_47 l C0 hL (xs 1) ⟨by omega, by omega⟩ rfl (xs 2) ⟨by omega, by omega⟩ rfl (xs 3) ⟨by omega, by omega⟩ rfl hK hX hP hD hS hl
  · exact lr_48 l C0 hL (xs 1) ⟨by omega, by omega⟩ rfl (xs 2) ⟨by omega, by omega⟩ rfl (xs 3) ⟨by omega, by omega⟩ rfl hK hX hP hD hS hl
  · exact lr_49 l C0 hL (xs 1) ⟨by omega, by omega⟩ rfl (xs 2) ⟨by omega, by omega⟩ rfl (xs 3) ⟨by omega, by omega⟩ rfl hK hX hP hD hS hl
set_option maxRecDepth 100000 in
set_option maxHeartbeats 4000000 in
theorem lr_50 {p : Program} {e : Env} {s : State} {m : MethodId} {below : List Frame} {meth : Method} {c : Code} (l : Launch) {b L : Nat} {xs : Nat → Int32} (C0 : lw_At p s m meth c b L xs) (hL : L = 5) {dC : Nat → ClassId} {dI : Nat → Nat → Nat} {cI cJ cII cJJ : ClassId} {g qx qm : Nat} {u v : Nat → Nat} {H : Heap} {locs : List Loc} {ls : Array Slot} (hK : va_K (dC, dI) vwCl (TY cI cJ cII cJJ) s) (hX : GXA 1 g (AA s) s) (hP : va_P (dC, dI) vwCl (WLD cI cJ cII cJJ qx qm u v) H) (hD : va_D (AA s) (WLD cI cJ cII cJJ qx qm u v)) (hS : va_S (AA s) s.heap H locs) (hl : lv_has ls 4 [(3, .int 0), (2, .ref qm), (1, .ref qx), (0, .ref b)]) : W p l e room_1 s m #[Value.ref b] below meth c H locs 600000 7302250 (lw_Z below #[Value.ref b] s) (F0 m 586 ls []) := by
  obtain ⟨hx, hb, hr, hml, hown, hts0, hX0, hbl, hlocks, hgv⟩ := id C0
  have hts : ∀ w ∈ TT, w.before #[Value.ref b] s = true := fun w h => hts0 w (TT_tbl h)
  have hA : ∀ q : Nat, s.heap.size ≤ q → AA s q := fun _ h => h
  have hbA : ¬ AA s b := Nat.not_le.mpr hbl
  have hown : s.vm.findClass RL = some m.cls := hown
  subst hL
  refine lv_aload_n hx hb dL_law_586 rfl (lv_at hl 2 rfl) ?_
  refine kV_i (q0 := 0) ⟨hx, hb, hml, hown, hts⟩ hK hP hD hS hA hX cv_RL_61 [0, 11, 12, 14, 6, 15, 16, 17, 18, 19, 22, 24, 23, 13] [86, 78, 77, 79, 80, 71, 72, 73, 74, 75, 76] (wr := [(qm, .inr (9, [.ref (v 0), .ref (v 1), .ref (v 2), .ref (v 3), .ref (v 4), .ref (v 5), .ref (v 6), .ref (v 7), .ref (v 8), .ref (v 9), .ref (v 10), .ref (v 11), .int 1, .int 0, .int 0, .ref (v 12), .ref (v 13), .ref (v 14), .ref (v 15), .ref (v 16), .ref (v 17), .int 0, .int 0, .ref (v 18), .ref (v 19), .ref (v 20), .ref (v 21), .int 0, .int 0, .ref (v 22), .ref (v 23), .ref (v 24), .ref (v 25), .int 0, .ref (v 26), .int 0])), ((v 19), .inl (cI, 3, .inl (tb []))), ((v 18), .inl (cI, 3, .inl (tb []))), ((v 20), .inl (cI, 4, .inl (tb []))), ((v 21), .inl (cI, 4, .inl (tb []))), ((v 12), .inl (cI, 400000, .inl (tb []))), ((v 13), .inl (cI, 100000, .inl (tb []))), ((v 14), .inl (cI, 6001, .inl (tb []))), ((v 15), .inl (cI, 100000, .inl (tb []))), ((v 16), .inl (cI, 24000, .inl (tb []))), ((v 17), .inl (cI, 6000, .inl (tb [])))]) rfl rfl rfl rfl (by decide) (c095_X8_least l dC dI cI cJ cII cJJ H.size g qx (u 10) (u 11) (u 13) (u 0) (u 14) (u 15) (u 16) (u 17) (u 18) (u 21) (u 23) (u 22) (u 12) (u 28) (u 51) (u 59) (u 60) (u 61) (u 62) (u 24) (u 19) (u 20) (u 1) (u 5) (u 6) (u 7) (u 8) (u 9)) ⟨by decide +kernel, by decide +kernel⟩ rfl rfl (Or.inr ⟨rfl, rfl, rfl⟩) (rest := []) rfl rfl rfl hl.1 rfl (Nat.le_of_ble_eq_true rfl) dL_law_587 ⟨Nat.le_of_ble_eq_true rfl, Nat.le_of_ble_eq_true rfl⟩ (W' := [(qm, .inr (9, [.ref (v 0), .ref (v 1), .ref (v 2), .ref (v 3), .ref (v 4), .ref (v 5), .ref (v 6), .ref (v 7), .ref (v 8), .ref (v 9), .ref (v 10), .ref (v 11), .int 1, .int 0, .int 0, .ref (v 12), .ref (v 13), .ref (v 14), .ref (v 15), .ref (v 16), .ref (v 17), .int 0, .int 0, .ref (v 18), .ref (v 19), .ref (v 20), .ref (v 21), .int 0, .int 0, .ref (v 22), .ref (v 23), .ref (v 24), .ref (v 25), .int 0, .ref (v 26), .int 0])), ((v 19), .inl (cI, 3, .inl (tb []))), ((v 18), .inl (cI, 3, .inl (tb []))), ((v 20), .inl (cI, 4, .inl (tb []))), ((v 21), .inl (cI, 4, .inl (tb []))), ((v 12), .inl (cI, 400000, .inl (tb []))), ((v 13), .inl (cI, 100000, .inl (tb []))), ((v 14), .inl (cI, 6001, .inl (tb []))), ((v 15), .inl (cI, 100000, .inl (tb []))), ((v 16), .inl (cI, 24000, .inl (tb []))), ((v 17), .inl (cI, 6000, .inl (tb [])))]) rfl (fun H locs hP hD hS => ?_)
  refine lv_aload_n hx hb dL_law_590 rfl (lv_at hl 1 rfl) ?_
  refine kV_i (q0 := 0) ⟨hx, hb, hml, hown, hts⟩ hK hP hD hS hA hX cv_RL_64 [0, 1, 2, 3, 4, 5, 6, 7, 8, 9, 10] [] (wr := []) rfl rfl rfl rfl (by decide) (c372_X9_least l dC dI cI cJ cII cJJ H.size 0 qm (v 19) (v 18) (v 20) (v 21) (v 12) (v 13) (v 14) (v 15) (v 16) (v 17) (v 0) (v 1) (v 2) (v 3) (v 4) (v 5) (v 6) (v 7) (v 8) (v 9) (v 10) (v 11) (v 22) (v 23) (v 24) (v 25) (v 26)) ⟨by decide +kernel, by decide +kernel⟩ rfl rfl (Or.inl rfl) (rest := [.int 2]) rfl rfl rfl hl.1 rfl (Nat.le_of_ble_eq_true rfl) dL_law_591 ⟨Nat.le_of_ble_eq_true rfl, Nat.le_of_ble_eq_true rfl⟩ (W' := []) rfl (fun H locs hP hD hS => ?_)
  refine t_icmp_eq hx hb dL_law_594 1073 (by decide) rfl ?_
  exact law_end l C0 rfl hS hl
