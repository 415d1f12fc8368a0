set_option maxRecDepth 100000 in
set_option maxHeartbeats 4000000 in
theorem lr_78 {p : Program} {e : Env} {s : State} {m : MethodId} {below : List Frame} {meth : Method} {c : Code} (l : Launch) {b L : Nat} {xs : Nat → Int32} (C0 : lw_At p s m meth c b L xs) (hL : L = 5) {dC : Nat → ClassId} {dI : Nat → Nat → Nat} {cI cJ cII cJJ : ClassId} {g qx qm : Nat} {u v : Nat → Nat} {H : Heap} {locs : List Loc} {ls : Array Slot} (e_y0 : xs 1 = 0) (hK : va_K (dC, dI) vwCl (TY cI cJ cII cJJ) s) (hX : GXA 1 g (AA s) s) (hP : va_P (dC, dI) vwCl (WLD cI cJ cII cJJ qx qm u v) H) (hD : va_D (AA s) (WLD cI cJ cII cJJ qx qm u v)) (hS : va_S (AA s) s.heap H locs) (hl : lv_has ls 4 [(3, .int 0), (2, .ref qm), (1, .ref qx), (0, .ref b)]) : W p l e room_1 s m #[Value.ref b] below meth c H locs 600000 7302250 (lw_Z below #[Value.ref b] s) (F0 m 747 ls []) := by
  obtain ⟨hx, hb, hr, hml, hown, hts0, hX0, hbl, hlocks, hgv⟩ := id C0
  have hts : ∀ w ∈ TT, w.before #[Value.ref b] s = true := fun w h => hts0 w (TT_tbl h)
  have hA : ∀ q : Nat, s.heap.size ≤ q → AA s q := fun _ h => h
  have hbA : ¬ AA s b := Nat.not_le.mpr hbl
  have hown : s.vm.findClass RL = some m.cls := hown
  subst hL
  refine lv_aload_n hx hb dL_law_747 rfl (lv_at hl 2 rfl) ?_
  refine lv_aload_n hx hb dL_law_748 rfl (lv_at hl 3 rfl) ?_
  refine lv_iload_n hx hb dL_law_749 rfl (lv_at hl 0 rfl) ?_
  refine lv_iconst (v := 1) hx hb dL_law_750 (by decide) ?_
  refine v_iadd hx hb dL_law_751 1 (by decide +kernel) ?_
  refine va_sld hx hb hX0 hbl hbA hS (vin (by decide +kernel)) dL_law_752 ?_
  refine tvi (v := 0) e_y0 ?_
  refine kV_i (q0 := 0) ⟨hx, hb, hml, hown, hts⟩ hK hP hD hS hA hX cv_RL_89 [0, 11, 12, 14, 6, 15, 16, 17, 18, 19, 22, 24, 23, 13, 60] [86, 78, 77, 79, 80, 71, 72, 73, 74, 75, 76, 91, 83] (wr := [(qm, .inr (9, [.ref (v 0), .ref (v 1), .ref (v 2), .ref (v 3), .ref (v 4), .ref (v 5), .ref (v 6), .ref (v 7), .ref (v 8), .ref (v 9), .ref (v 10), .ref (v 11), .int 1, .int 0, .int 0, .ref (v 12), .ref (v 13), .ref (v 14), .ref (v 15), .ref (v 16), .ref (v 17), .int 0, .int 0, .ref (v 18), .ref (v 19), .ref (v 20), .ref (v 21), .int 0, .int 0, .ref (v 22), .ref (v 23), .ref (v 24), .ref (v 25), .int 0, .ref (v 26), .int 0])), ((v 19), .inl (cI, 3, .inl (tb []))), ((v 18), .inl (cI, 3, .inl (tb []))), ((v 20), .inl (cI, 4, .inl (tb []))), ((v 21), .inl (cI, 4, .inl (tb []))), ((v 12), .inl (cI, 400000, .inl (tb []))), ((v 13), .inl (cI, 100000, .inl (tb []))), ((v 14), .inl (cI, 6001, .inl (tb []))), ((v 15), .inl (cI, 100000, .inl (tb []))), ((v 16), .inl (cI, 24000, .inl (tb []))), ((v 17), .inl (cI, 6000, .inl (tb []))), ((v 6), .inl (cI, 4, .inl (tb [0, 0, 0, 0]))), ((v 24), .inl (cI, 4, .inl (tb [])))]) rfl rfl rfl rfl (by decide) (c175_X8_fits l dC dI cI cJ cII cJJ H.size g qx (u 10) (u 11) (u 13) (u 0) (u 14) (u 15) (u 16) (u 17) (u 18) (u 21) (u 23) (u 22) (u 12) (u 59) (u 28) (u 51) (u 60) (u 61) (u 62) (u 24) (u 19) (u 20) (u 1) (u 5) (u 6) (u 7) (u 8) (u 9)) ⟨by decide +kernel, by decide +kernel⟩ rfl rfl (Or.inr ⟨rfl, rfl, rfl⟩) (rest := []) rfl rfl rfl hl.1 rfl (Nat.le_of_ble_eq_true rfl) dL_law_753 ⟨Nat.le_of_ble_eq_true rfl, Nat.le_of_ble_eq_true rfl⟩ (W' := [(qm, .inr (9, [.ref (v 0), .ref (v 1), .ref (v 2), .ref (v 3), .ref (v 4), .ref (v 5), .ref (v 6), .ref (v 7), .ref (v 8), .ref (v 9), .ref (v 10), .ref (v 11), .int 1, .int 0, .int 0, .ref (v 12), .ref (v 13), .ref (v 14), .ref (v 15), .ref (v 16), .ref (v 17), .int 0, .int 0, .ref (v 18), .ref (v 19), .ref (v 20), .ref (v 21), .int 0, .int 0, .ref (v 22), .ref (v 23), .ref (v 24), .ref (v 25), .int 0, .ref (v 26), .int 0])), ((v 19), .inl (cI, 3, .inl (tb []))), ((v 18), .inl (cI, 3, .inl (tb []))), ((v 20), .inl (cI, 4, .inl (tb []))), ((v 21), .inl (cI, 4, .inl (tb []))), ((v 12), .inl (cI, 400000, .inl (tb []))), ((v 13), .inl (cI, 100000, .inl (tb []))), ((v 14), .inl (cI, 6001, .inl (tb []))), ((v 15), .inl (cI, 100000, .inl (tb []))), ((v 16), .inl (cI, 24000, .inl (tb []))), ((v 17), .inl (cI, 6000, .inl (tb []))), ((v 6), .inl (cI, 4, .inl (tb [0, 0, 0, 0]))), ((v 24), .inl (cI, 4, .inl (tb [])))]) rfl (fun H locs hP hD hS => ?_)
  refine lv_aload_n hx hb dL_law_756 rfl (lv_at hl 1 rfl) ?_
  refine lv_aload_n hx hb dL_law_757 rfl (lv_at hl 3 rfl) ?_
  refine lv_iload_n hx hb dL_law_758 rfl (lv_at hl 0 rfl) ?_
  refine lv_iconst (v := 1) hx hb dL_law_759 (by decide) ?_
  refine v_iadd hx hb dL_law_760 1 (by decide +kernel) ?_
  refine va_sld hx hb hX0 hbl hbA hS (vin (by decide +kernel)) dL_law_761 ?_
  refine tvi (v := 0) e_y0 ?_
  refine kV_i (q0 := 0) ⟨hx, hb, hml, hown, hts⟩ hK hP hD hS hA hX cv_RL_92 [0, 1, 2, 3, 4, 5, 6, 7, 8, 9, 10, 11, 12] [] (wr := []) rfl rfl rfl rfl (by decide) (c430_X9_fits l dC dI cI cJ cII cJJ H.size 0 qm (v 19) (v 18) (v 20) (v 21) (v 12) (v 13) (v 14) (v 15) (v 16) (v 17) (v 6) (v 24) (v 0) (v 1) (v 2) (v 3) (v 4) (v 5) (v 7) (v 8) (v 9) (v 10) (v 11) (v 22) (v 23) (v 25) (v 26)) ⟨by decide +kernel, by decide +kernel⟩ rfl rfl (Or.inl rfl) (rest := [.int 0]) rfl rfl rfl hl.1 rfl (Nat.le_of_ble_eq_true rfl) dL_law_762 ⟨Nat.le_of_ble_eq_true rfl, Nat.le_of_ble_eq_true rfl⟩ (W' := []) rfl (fun H locs hP hD hS => ?_)
  refine t_icmp_eq hx hb dL_law_765 1073 (by decide) rfl ?_
  exact law_end l C0 rfl hS hl
set_option maxRecDepth 100000 in
set_option maxHeartbeats 4000000 in
theorem lr_79 {p : Program} {e : Env} {s : State} {m : MethodId} {below : List Frame} {meth : Method} {c : Code} (l : Launch) {b L : Nat} {xs : Nat → Int32} (C0 : lw_At p s m meth c b L xs) (hL : L = 5) {dC : Nat → ClassId} {dI : Nat → Nat → Nat} {cI cJ cII cJJ : ClassId} {g qx qm : Nat} {u v : Nat → Nat} {H : Heap} {locs : List Loc} {ls : Array Slot} (e_y0 : xs 1 = 1) (hK : va_K (dC, dI) vwCl (TY cI cJ cII cJJ) s) (hX : GXA 1 g (AA s) s) (hP : va_P (dC, dI) vwCl (WLD cI cJ cII cJJ qx qm u v) H) (hD : va_D (AA s) (WLD cI cJ cII cJJ qx qm u v)) (hS : va_S (AA s) s.heap H locs) (hl : lv_has ls 4 [(3, .int 0), (2, .ref qm), (1, .ref qx), (0, .ref b)]) : W p l e room_1 s m #[Value.ref b] below meth c H locs 600000 7302250 (lw_Z below #[Value.ref b] s) (F0 m 747 ls []) := by
  obtain ⟨hx, hb, hr, hml, hown, hts0, hX0, hbl, hlocks, hgv⟩ := id C0
  have hts : ∀ w ∈ TT, w.before #[Value.ref b] s = true := fun w h => hts0 w (TT_tbl h)
  have hA : ∀ q : Nat, s.heap.size ≤ q → AA s q := fun _ h => h
  have hbA : ¬ AA s b := Nat.not_le.mpr hbl
  have hown : s.vm.findClass RL = some m.cls := hown
  subst hL
  refine lv_aload_n hx hb dL_law_747 rfl (lv_at hl 2 rfl) ?_
  refine lv_aload_n hx hb dL_law_748 rfl (lv_at hl 3 rfl) ?_
  refine lv_iload_n hx hb dL_law_749 rfl (lv_at hl 0 rfl) ?_
  refine lv_iconst (v := 1) hx hb dL_law_750 (by decide) ?_
  refine v_iadd hx hb dL_law_751 1 (by decide +kernel) ?_
  refine va_sld hx hb hX0 hbl hbA hS (vin (by decide +kernel)) dL_law_752 ?_
  refine tvi (v := 1) e_y0 ?_
  refine kV_i (q0 := 0) ⟨hx, hb, hml, hown, hts⟩ hK hP hD hS hA hX cv_RL_89 [0, 11, 12, 14, 6, 15, 16, 17, 18, 19, 22, 24, 23, 13, 60] [86, 78, 77, 79, 80, 71, 72, 73, 74, 75, 76, 91, 83] (wr := [(qm, .inr (9, [.ref (v 0), .ref (v 1), .ref (v 2), .ref (v 3), .ref (v 4), .ref (v 5), .ref (v 6), .ref (v 7), .ref (v 8), .ref (v 9), .ref (v 10), .ref (v 11), .int 1, .int 0, .int 0, .ref (v 12), .ref (v 13), .ref (v 14), .ref (v 15), .ref (v 16), .ref (v 17), .int 0, .int 0, .ref (v 18), .ref (v 19), .ref (v 20), .ref (v 21), .int 0, .int 0, .ref (v 22), .ref (v 23), .ref (v 24), .ref (v 25), .int 0, .ref (v 26), .int 0])), ((v 19), .inl (cI, 3, .inl (tb []))), ((v 18), .inl (cI, 3, .inl (tb []))), ((v 20), .inl (cI, 4, .inl (tb []))), ((v 21), .inl (cI, 4, .inl (tb []))), ((v 12), .inl (cI, 400000, .inl (tb []))), ((v 13), .inl (cI, 100000, .inl (tb []))), ((v 14), .inl (cI, 6001, .inl (tb []))), ((v 15), .inl (cI, 100000, .inl (tb []))), ((v 16), .inl (cI, 24000, .inl (tb []))), ((v 17), .inl (cI, 6000, .inl (tb []))), ((v 6), .inl (cI, 4, .inl (tb [0, 0, 0, 0]))), ((v 24), .inl (cI, 4, .inl (tb [])))]) rfl rfl rfl rfl (by decide) (c177_X8_fits l dC dI cI cJ cII cJJ H.size g qx (u 10) (u 11) (u 13) (u 0) (u 14) (u 15) (u 16) (u 17) (u 18) (u 21) (u 23) (u 22) (u 12) (u 59) (u 28) (u 51) (u 60) (u 61) (u 62) (u 24) (u 19) (u 20) (u 1) (u 5) (u 6) (u 7) (u 8) (u 9)) ⟨by decide +kernel, by decide +kernel⟩ rfl rfl (Or.inr ⟨rfl, rfl, rfl⟩) (rest := []) rfl rfl rfl hl.1 rfl (Nat.le_of_ble_eq_true rfl) dL_law_753 ⟨Nat.le_of_ble_eq_true rfl, Nat.le_of_ble_eq_true rfl⟩ (W' := [(qm, .inr (9, [.ref (v 0), .ref (v 1), .ref (v 2), .ref (v 3), .ref (v 4), .ref (v 5), .ref (v 6), .ref (v 7), .ref (v 8), .ref (v 9), .ref (v 10), .ref (v 11), .int 1, .int 0, .int 0, .ref (v 12), .ref (v 13), .ref (v 14), .ref (v 15), .ref (v 16), .ref (v 17), .int 0, .int 0, .ref (v 18), .ref (v 19), .ref (v 20), .ref (v 21), .int 0, .int 0, .ref (v 22), .ref (v 23), .ref (v 24), .ref (v 25), .int 0, .ref (v 26), .int 0])), ((v 19), .inl (cI, 3, .inl (tb []))), ((v 18), .inl (cI, 3, .inl (tb []))), ((v 20), .inl (cI, 4, .inl (tb []))), ((v 21), .inl (cI, 4, .inl (tb []))), ((v 12), .inl (cI, 400000, .inl (tb []))), ((v 13), .inl (cI, 100000, .inl (tb []))), ((v 14), .inl (cI, 6001, .inl (tb []))), ((v 15), .inl (cI, 100000, .inl (tb []))), ((v 16), .inl (cI, 24000, .inl (tb []))), ((v 17), .inl (cI, 6000, .inl (tb []))), ((v 6), .inl (cI, 4, .inl (tb [0, 0, 0, 0]))), ((v 24), .inl (cI, 4, .inl (tb [])))]) rfl (fun H locs hP hD hS => ?_)
  refine lv_aload_n hx hb dL_law_756 rfl (lv_at hl 1 rfl) ?_
  refine lv_aload_n hx hb dL_law_757 rfl (lv_at hl 3 rfl) ?_
  refine lv_iload_n hx hb dL_law_758 rfl (lv_at hl 0 rfl) ?_
  refine lv_iconst (v := 1) hx hb dL_law_759 (by decide) ?_
  refine v_iadd hx hb dL_law_760 1 (by decide +kernel) ?_
  refine va_sld hx hb hX0 hbl hbA hS (vin (by decide +kernel)) dL_law_761 ?_
  refine tvi (v := 1) e_y0 ?_
  refine kV_i (q0 := 0) ⟨hx, hb, hml, hown, hts⟩ hK hP hD hS hA hX cv_RL_92 [0, 1, 2, 3, 4, 5, 6, 7, 8, 9, 10, 11, 12] [] (wr := []) rfl rfl rfl rfl (by decide) (c433_X9_fits l dC dI cI cJ cII cJJ H.size 0 qm (v 19) (v 18) (v 20) (v 21) (v 12) (v 13) (v 14) (v 15) (v 16) (v 17) (v 6) (v 24) (v 0) (v 1) (v 2) (v 3) (v 4) (v 5) (v 7) (v 8) (v 9) (v 10) (v 11) (v 22) (v 23) (v 25) (v 26)) ⟨by decide +kernel, by decide +kernel⟩ rfl rfl (Or.inl rfl) (rest := [.int 0]) rfl rfl rfl hl.1 rfl (Nat.le_of_ble_eq_true rfl) dL_law_762 ⟨Nat.le_of_ble_eq_true rfl, Nat.le_of_ble_eq_true rfl⟩ (W' := []) rfl (fun H locs hP hD hS => ?_)
  refine t_icmp_eq hx hb dL_law_765 1073 (by decide) rfl ?_
  exact law_end l C0 rfl hS hl
set_option maxRecDepth 100000 in
set_option maxHeartbeats 4000000 in
theorem lc_17 {p : Program} {e : Env} {s : State} {m : MethodId} {below : List Frame} {meth : Method} {c : Code} (l : Launch) {b L : Nat} {xs : Nat → Int32} (C0 : lw_At p s m meth c b L xs) (hL : L = 5) {dC : Nat → ClassId} {dI : Nat → Nat → Nat} {cI cJ cII cJJ : ClassId} {g qx qm : Nat} {u v : Nat → Nat} {H : Heap} {locs : List Loc} {ls : Array Slot} (hK : va_K (dC, dI) vwCl (TY cI cJ cII cJJ) s) (hX : GXA 1 g (AA s) s) (hP : va_P (dC, dI) vwCl (WLD cI cJ cII cJJ qx qm u v) H) (hD : va_D (AA s) (WLD cI cJ cII cJJ qx qm u v)) (hS : va_S (AA s) s.heap H locs) (hl : lv_has ls 4 [(3, .int 0), (2, .ref qm), (1, .ref qx), (0, .ref b)]) : W p l e room_1 s m #[Value.ref b] below meth c H locs 600000 7302250 (lw_Z below #[Value.ref b] s) (F0 m 747 ls []) := by
  have q1 := s_any (xs 1)
  have key : ((xs 1).toInt ≤ -1) ∨ (2 ≤ (xs 1).toInt) ∨ ((xs 1).toInt = 0) ∨ ((xs 1).toInt = 1) := by omega
  rcases key with h | h | h | h
  · exact lr_76 l C0 hL (xs 1) ⟨by omega, by omega⟩ rfl hK hX hP hD hS hl
  · exact lr_77 l C0 hL (xs 1) ⟨by omega, by omega⟩ rfl hK hX hP hD hS hl
  · exact lr_78 l C0 hL (Int32.toInt_inj.mp (by rw [show (0 : Int32).toInt = 0 from by decide +kernel]; omega)) hK hX hP hD hS hl
  · exact lr_79 l C0 hL (Int32.toInt_inj.mp (by rw [show (1 : Int32).toInt = 1 from by decide +kernel]; omega)) hK hX hP hD hS hl
set_option maxRecDepth 100000 in
set_option maxHeartbeats 4000000 in
theorem lr_80 {p : Program} {e : Env} {s : State} {m : MethodId} {below : List Frame} {meth : Method} {c : Code} (l : Launch) {b L : Nat} {xs : Nat → Int32} (C0 : lw_At p s m meth c b L xs) (hL : L = 5) {dC : Nat → ClassId} {dI : Nat → Nat → Nat} {cI cJ cII cJJ : ClassId} {g qx qm : Nat} {u v : Nat → Nat} {H : Heap} {locs : List Loc} {ls : Array Slot} (y0 : Int32) (h_y0 : -2147483648 ≤ y0.toInt ∧ y0.toInt ≤ -1) (e_y0 : xs 1 = y0) (hK : va_K (dC, dI) vwCl (TY cI cJ cII cJJ) s) (hX : GXA 1 g (AA s) s) (hP : va_P (dC, dI) vwCl (WLD cI cJ cII cJJ qx qm u v) H) (hD : va_D (AA s) (WLD cI cJ cII cJJ qx qm u v)) (hS : va_S (AA s) s.heap H locs) (hl : lv_has ls 4 [(3, .int 0), (2, .ref qm), (1, .ref qx), (0, .ref b)]) : W p l e room_1 s m #[Value.ref b] below meth c H locs 600000 7302250 (lw_Z below #[Value.ref b] s) (F0 m 770 ls []) := by
  obtain ⟨hx, hb, hr, hml, hown, hts0, hX0, hbl, hlocks, hgv⟩ := id C0
  have hts : ∀ w ∈ TT, w.before #[Value.ref b] s = true := fun w h => hts0 w (TT_tbl h)
  have hA : ∀ q : Nat, s.heap.size ≤ q → AA s q := fun _ h => h
  have hbA : ¬ AA s b := Nat.not_le.mpr hbl
  have hown : s.vm.findClass RL = some m.cls := hown
  subst hL
  refine lv_aload_n hx hb dL_law_770 rfl (lv_at hl 2 rfl) ?_
  refine lv_aload_n hx hb dL_law_771 rfl (lv_at hl 3 rfl) ?_
  refine lv_iload_n hx hb dL_law_772 rfl (lv_at hl 0 rfl) ?_
  refine lv_iconst (v := 1) hx hb dL_law_773 (by decide) ?_
  refine v_iadd hx hb dL_law_774 1 (by decide +kernel) ?_
  refine va_sld hx hb hX0 hbl hbA hS (vin (by decide +kernel)) dL_law_775 ?_
  refine tvi (v := y0) e_y0 ?_
  refine kV_i (q0 := 0) ⟨hx, hb, hml, hown, hts⟩ hK hP hD hS hA hX cv_RL_93 [0, 11, 12, 14, 6, 15, 16, 17, 18, 19, 22, 24, 23, 13, 63] [86, 78, 77, 79, 80, 71, 72, 73, 74, 75, 76, 66] (wr := [(qm, .inr (9, [.ref (v 0), .ref (v 1), .ref (v 2), .ref (v 3), .ref (v 4), .ref (v 5), .ref (v 6), .ref (v 7), .ref (v 8), .ref (v 9), .ref (v 10), .ref (v 11), .int 1, .int 0, .int 0, .ref (v 12), .ref (v 13), .ref (v 14), .ref (v 15), .ref (v 16), .ref (v 17), .int 0, .int 0, .ref (v 18), .ref (v 19), .ref (v 20), .ref (v 21), .int 0, .int 0, .ref (v 22), .ref (v 23), .ref (v 24), .ref (v 25), .int 0, .ref (v 26), .int 0])), ((v 19), .inl (cI, 3, .inl (tb []))), ((v 18), .inl (cI, 3, .inl (tb []))), ((v 20), .inl (cI, 4, .inl (tb []))), ((v 21), .inl (cI, 4, .inl (tb []))), ((v 12), .inl (cI, 400000, .inl (tb []))), ((v 13), .inl (cI, 100000, .inl (tb []))), ((v 14), .inl (cI, 6001, .inl (tb []))), ((v 15), .inl (cI, 100000, .inl (tb []))), ((v 16), .inl (cI, 24000, .inl (tb []))), ((v 17), .inl (cI, 6000, .inl (tb []))), ((v 7), .inl (cI, 8, .inl (tb [])))]) rfl rfl rfl rfl (by decide) (c179_X8_split l dC dI cI cJ cII cJJ H.size g qx (u 10) (u 11) (u 13) (u 0) (u 14) (u 15) (u 16) (u 17) (u 18) (u 21) (u 23) (u 22) (u 12) (u 62) (u 28) (u 51) (u 59) (u 60) (u 61) (u 24) (u 19) (u 20) (u 1) (u 5) (u 6) (u 7) (u 8) (u 9) y0 h_y0) ⟨by decide +kernel, by decide +kernel⟩ rfl rfl (Or.inr ⟨rfl, rfl, rfl⟩) (rest := []) rfl rfl rfl hl.1 rfl (Nat.le_of_ble_eq_true rfl) dL_law_776 ⟨Nat.le_of_ble_eq_true rfl, Nat.le_of_ble_eq_true rfl⟩ (W' := [(qm, .inr (9, [.ref (v 0), .ref (v 1), .ref (v 2), .ref (v 3), .ref (v 4), .ref (v 5), .ref (v 6), .ref (v 7), .ref (v 8), .ref (v 9), .ref (v 10), .ref (v 11), .int 1, .int 0, .int 0, .ref (v 12), .ref (v 13), .ref (v 14), .ref (v 15), .ref (v 16), .ref (v 17), .int 0, .int 0, .ref (v 18), .ref (v 19), .ref (v 20), .ref (v 21), .int 0, .int 0, .ref (v 22), .ref (v 23), .ref (v 24), .ref (v 25), .int 0, .ref (v 26), .int 0])), ((v 19), .inl (cI, 3, .inl (tb []))), ((v 18), .inl (cI, 3, .inl (tb []))), ((v 20), .inl (cI, 4, .inl (tb []))), ((v 21), .inl (cI, 4, .inl (tb []))), ((v 12), .inl (cI, 400000, .inl (tb []))), ((v 13), .inl (cI, 100000, .inl (tb []))), ((v 14), .inl (cI, 6001, .inl (tb []))), ((v 15), .inl (cI, 100000, .inl (tb []))), ((v 16), .inl (cI, 24000, .inl (tb []))), ((v 17), .inl (cI, 6000, .inl (tb []))), ((v 7), .inl (cI, 8, .inl (tb [])))]) rfl (fun H locs hP hD hS => ?_)
  refine lv_aload_n hx hb dL_law_779 rfl (lv_at hl 1 rfl) ?_
  refine lv_aload_n hx hb dL_law_780 rfl (lv_at hl 3 rfl) ?_
  refine lv_iload_n hx hb dL_law_781 rfl (lv_at hl 0 rfl) ?_
  refine lv_iconst (v := 1) hx hb dL_law_782 (by decide) ?_
  refine v_iadd hx hb dL_law_783 1 (by decide +kernel) ?_
  refine va_sld hx hb hX0 hbl hbA hS (vin (by decide +kernel)) dL_law_784 ?_
  refine tvi (v := y0) e_y0 ?_
  refine kV_i (q0 := 0) ⟨hx, hb, hml, hown, hts⟩ hK hP hD hS hA hX cv_RL_96 [0, 1, 2, 3, 4, 5, 6, 7, 8, 9, 10, 11] [] (wr := []) rfl rfl rfl rfl (by decide) (c435_X9_split l dC dI cI cJ cII cJJ H.size 0 qm (v 19) (v 18) (v 20) (v 21) (v 12) (v 13) (v 14) (v 15) (v 16) (v 17) (v 7) (v 0) (v 1) (v 2) (v 3) (v 4) (v 5) (v 6) (v 8) (v 9) (v 10) (v 11) (v 22) (v 23) (v 24) (v 25) (v 26) y0 h_y0) ⟨by decide +kernel, by decide +kernel⟩ rfl rfl (Or.inl rfl) (rest := [.int (-1)]) rfl rfl rfl hl.1 rfl (Nat.le_of_ble_eq_true rfl) dL_law_785 ⟨Nat.le_of_ble_eq_true rfl, Nat.le_of_ble_eq_true rfl⟩ (W' := []) rfl (fun H locs hP hD hS => ?_)
  refine t_icmp_eq hx hb dL_law_788 1073 (by decide) rfl ?_
  exact law_end l C0 rfl hS hl
set_option maxRecDepth 100000 in
set_option maxHeartbeats 4000000 in
theorem lr_81 {p : Program} {e : Env} {s : State} {m : MethodId} {below : List Frame} {meth : Method} {c : Code} (l : Launch) {b L : Nat} {xs : Nat → Int32} (C0 : lw_At p s m meth c b L xs) (hL : L = 5) {dC : Nat → ClassId} {dI : Nat → Nat → Nat} {cI cJ cII cJJ : ClassId} {g qx qm : Nat} {u v : Nat → Nat} {H : Heap} {locs : List Loc} {ls : Array Slot} (y0 : Int32) (h_y0 : 2 ≤ y0.toInt ∧ y0.toInt ≤ 2147483647) (e_y0 : xs 1 = y0) (hK : va_K (dC, dI) vwCl (TY cI cJ cII cJJ) s) (hX : GXA 1 g (AA s) s) (hP : va_P (dC, dI) vwCl (WLD cI cJ cII cJJ qx qm u v) H) (hD : va_D (AA s) (WLD cI cJ cII cJJ qx qm u v)) (hS : va_S (AA s) s.heap H locs) (hl : lv_has ls 4 [(3, .int 0), (2, .ref qm), (1, .ref qx), (0, .ref b)]) : W p l e room_1 s m #[Value.ref b] below meth c H locs 600000 7302250 (lw_Z below #[Value.ref b] s) (F0 m 770 ls []) := by
  obtain ⟨hx, hb, hr, hml, hown, hts0, hX0, hbl, hlocks, hgv⟩ := id C0
  have hts : ∀ w ∈ TT, w.before #[Value.ref b] s = true := fun w h => hts0 w (TT_tbl h)
  have hA : ∀ q : Nat, s.heap.size ≤ q → AA s q := fun _ h => h
  have hbA : ¬ AA s b := Nat.not_le.mpr hbl
  have hown : s.vm.findClass RL = some m.cls := hown
  subst hL
  refine lv_aload_n hx hb dL_law_770 rfl (lv_at hl 2 rfl) ?_
  refine lv_aload_n hx hb dL_law_771 rfl (lv_at hl 3 rfl) ?_
  refine lv_iload_n hx hb dL_law_772 rfl (lv_at hl 0 rfl) ?_
  refine lv_iconst (v := 1) hx hb dL_law_773 (by decide) ?_
  refine v_iadd hx hb dL_law_774 1 (by decide +kernel) ?_
  refine va_sld hx hb hX0 hbl hbA hS (vin (by decide +kernel)) dL_law_775 ?_
  refine tvi (v := y0) e_y0 ?_
  refine kV_i (q0 := 0) ⟨hx, hb, hml, hown, hts⟩ hK hP hD hS hA hX cv_RL_93 [0, 11, 12, 14, 6, 15, 16, 17, 18, 19, 22, 24, 23, 13, 63] [86, 78, 77, 79, 80, 71, 72, 73, 74, 75, 76, 66] (wr := [(qm, .inr (9, [.ref (v 0), .ref (v 1), .ref (v 2), .ref (v 3), .ref (v 4), .ref (v 5), .ref (v 6), .ref (v 7), .ref (v 8), .ref (v 9), .ref (v 10), .ref (v 11), .int 1, .int 0, .int 0, .ref (v 12), .ref (v 13), .ref (v 14), .ref (v 15), .ref (v 16), .ref (v 17), .int 0, .int 0, .ref (v 18), .ref (v 19), .ref (v 20), .ref (v 21), .int 0, .int 0, .ref (v 22), .ref (v 23), .ref (v 24), .ref (v 25), .int 0, .ref (v 26), .int 0])), ((v 19), .inl (cI, 3, .inl (tb []))), ((v 18), .inl (cI, 3, .inl (tb []))), ((v 20), .inl (cI, 4, .inl (tb []))), ((v 21), .inl (cI, 4, .inl (tb []))), ((v 12), .inl (cI, 400000, .inl (tb []))), ((v 13), .inl (cI, 100000, .inl (tb []))), ((v 14), .inl (cI, 6001, .inl (tb []))), ((v 15), .inl (cI, 100000, .inl (tb []))), ((v 16), .inl (cI, 24000, .inl (tb []))), ((v 17), .inl (cI, 6000, .inl (tb []))), ((v 7), .inl (cI, 8, .inl (tb [])))]) rfl rfl rfl rfl (by decide) (c180_X8_split l dC dI cI cJ cII cJJ H.size g qx (u 10) (u 11) (u 13) (u 0) (u 14) (u 15) (u 16) (u 17) (u 18) (u 21) (u 23) (u 22) (u 12) (u 62) (u 28) (u 51) (u 59) (u 60) (u 61) (u 24) (u 19) (u 20) (u 1) (u 5) (u 6) (u 7) (u 8) (u 9) y0 h_y0) ⟨by decide +kernel, by decide +kernel⟩ rfl rfl (Or.inr ⟨rfl, rfl, rfl⟩) (rest := []) rfl rfl rfl hl.1 rfl (Nat.le_of_ble_eq_true rfl) dL_law_776 ⟨Nat.le_of_ble_eq_true rfl, Nat.le_of_ble_eq_true rfl⟩ (W' := [(qm, .inr (9, [.ref (v 0), .ref (v 1), .ref (v 2), .ref (v 3), .ref (v 4), .ref (v 5), .ref (v 6), .ref (v 7), .ref (v 8), .ref (v 9), .ref (v 10), .ref (v 11), .int 1, .int 0, .int 0, .ref (v 12), .ref (v 13), .ref (v 14), .ref (v 15), .ref (v 16), .ref (v 17), .int 0, .int 0, .ref (v 18), .ref (v 19), .ref (v 20), .ref (v 21), .int 0, .int 0, .ref (v 22), .ref (v 23), .ref (v 24), .ref (v 25), .int 0, .ref (v 26), .int 0])), ((v 19), .inl (cI, 3, .inl (tb []))), ((v 18), .inl (cI, 3, .inl (tb []))), ((v 20), .inl (cI, 4, .inl (tb []))), ((v 21), .inl (cI, 4, .inl (tb []))), ((v 12), .inl (cI, 400000, .inl (tb []))), ((v 13), .inl (cI, 100000, .inl (tb []))), ((v 14), .inl (cI, 6001, .inl (tb []))), ((v 15), .inl (cI, 100000, .inl (tb []))), ((v 16), .inl (cI, 24000, .inl (tb []))), ((v 17), .inl (cI, 6000, .inl (tb []))), ((v 7), .inl (cI, 8, .inl (tb [])))]) rfl (fun H locs hP hD hS => ?_)
  refine lv_aload_n hx hb dL_law_779 rfl (lv_at hl 1 rfl) ?_
  refine lv_aload_n hx hb dL_law_780 rfl (lv_at hl 3 rfl) ?_
  refine lv_iload_n hx hb dL_law_781 rfl (lv_at hl 0 rfl) ?_
  refine lv_iconst (v := 1) hx hb dL_law_782 (by decide) ?_
  refine v_iadd hx hb dL_law_783 1 (by decide +kernel) ?_
  refine va_sld hx hb hX0 hbl hbA hS (vin (by decide +kernel)) dL_law_784 ?_
  refine tvi (v := y0) e_y0 ?_
  refine kV_i (q0 := 0) ⟨hx, hb, hml, hown, hts⟩ hK hP hD hS hA hX cv_RL_96 [0, 1, 2, 3, 4, 5, 6, 7, 8, 9, 10, 11] [] (wr := []) rfl rfl rfl rfl (by decide) (c436_X9_split l dC dI cI cJ cII cJJ H.size 0 qm (v 19) (v 18) (v 20) (v 21) (v 12) (v 13) (v 14) (v 15) (v 16) (v 17) (v 7) (v 0) (v 1) (v 2) (v 3) (v 4) (v 5) (v 6) (v 8) (v 9) (v 10) (v 11) (v 22) (v 23) (v 24) (v 25) (v 26) y0 h_y0) ⟨by decide +kernel, by decide +kernel⟩ rfl rfl (Or.inl rfl) (rest := [.int (-1)]) rfl rfl rfl hl.1 rfl (Nat.le_of_ble_eq_true rfl) dL_law_785 ⟨Nat.le_of_ble_eq_true rfl, Nat.le_of_ble_eq_true rfl⟩ (W' := []) rfl (fun H locs hP hD hS => ?_)
  refine t_icmp_eq hx hb dL_law_788 1073 (by decide) rfl ?_
  exact law_end l C0 rfl hS hl
set_option maxRecDepth 100000 in
set_option maxHeartbeats 4000000 in
theorem lr_82 {p : Program} {e : Env} {s : State} {m : MethodId} {below : List Frame} {meth : Method} {c : Code} (l : Launch) {b L : Nat} {xs : Nat → Int32} (C0 : lw_At p s m meth c b L xs) (hL : L = 5) {dC : Nat → ClassId} {dI : Nat → Nat → Nat} {cI cJ cII cJJ : ClassId} {g qx qm : Nat} {u v : Nat → Nat} {H : Heap} {locs : List Loc} {ls : Array Slot} (e_y0 : xs 1 = 0) (hK : va_K (dC, dI) vwCl (TY cI cJ cII cJJ) s) (hX : GXA 1 g (AA s) s) (hP : va_P (dC, dI) vwCl (WLD cI cJ cII cJJ qx qm u v) H) (hD : va_D (AA s) (WLD cI cJ cII cJJ qx qm u v)) (hS : va_S (AA s) s.heap H locs) (hl : lv_has ls 4 [(3, .int 0), (2, .ref qm), (1, .ref qx), (0, .ref b)]) : W p l e room_1 s m #[Value.ref b] below meth c H locs 600000 7302250 (lw_Z below #[Value.ref b] s) (F0 m 770 ls []) := by
  obtain ⟨hx, hb, hr, hml, hown, hts0, hX0, hbl, hlocks, hgv⟩ := id C0
  have hts : ∀ w ∈ TT, w.before #[Value.ref b] s = true := fun w h => hts0 w (TT_tbl h)
  have hA : ∀ q : Nat, s.heap.size ≤ q → AA s q := fun _ h => h
  have hbA : ¬ AA s b := Nat.not_le.mpr hbl
  have hown : s.vm.findClass RL = some m.cls := hown
  subst hL
  refine lv_aload_n hx hb dL_law_770 rfl (lv_at hl 2 rfl) ?_
  refine lv_aload_n hx hb dL_law_771 rfl (lv_at hl 3 rfl) ?_
  refine lv_iload_n hx hb dL_law_772 rfl (lv_at hl 0 rfl) ?_
  refine lv_iconst (v := 1) hx hb dL_law_773 (by decide) ?_
  refine v_iadd hx hb dL_law_774 1 (by decide +kernel) ?_
  refine va_sld hx hb hX0 hbl hbA hS (vin (by decide +kernel)) dL_law_775 ?_
  refine tvi (v := 0) e_y0 ?_
  refine kV_i (q0 := 0) ⟨hx, hb, hml, hown, hts⟩ hK hP hD hS hA hX cv_RL_93 [0, 11, 12, 14, 6, 15, 16, 17, 18, 19, 22, 24, 23, 13, 60, 63] [86, 78, 77, 79, 80, 71, 72, 73, 74, 75, 76, 91, 66] (wr := [(qm, .inr (9, [.ref (v 0), .ref (v 1), .ref (v 2), .ref (v 3), .ref (v 4), .ref (v 5), .ref (v 6), .ref (v 7), .ref (v 8), .ref (v 9), .ref (v 10), .ref (v 11), .int 1, .int 0, .int 0, .ref (v 12), .ref (v 13), .ref (v 14), .ref (v 15), .ref (v 16), .ref (v 17), .int 0, .int 0, .ref (v 18), .ref (v 19), .ref (v 20), .ref (v 21), .int 0, .int 0, .ref (v 22), .ref (v 23), .ref (v 24), .ref (v 25), .int 0, .ref (v 26), .int 0])), ((v 19), .inl (cI, 3, .inl (tb []))), ((v 18), .inl (cI, 3, .inl (tb []))), ((v 20), .inl (cI, 4, .inl (tb []))), ((v 21), .inl (cI, 4, .inl (tb []))), ((v 12), .inl (cI, 400000, .inl (tb []))), ((v 13), .inl (cI, 100000, .inl (tb []))), ((v 14), .inl (cI, 6001, .inl (tb []))), ((v 15), .inl (cI, 100000, .inl (tb []))), ((v 16), .inl (cI, 24000, .inl (tb []))), ((v 17), .inl (cI, 6000, .inl (tb []))), ((v 6), .inl (cI, 4, .inl (tb [0, 0, 0, 0]))), ((v 7), .inl (cI, 8, .inl (tb [])))]) rfl rfl rfl rfl (by decide) (c181_X8_split l dC dI cI cJ cII cJJ H.size g qx (u 10) (u 11) (u 13) (u 0) (u 14) (u 15) (u 16) (u 17) (u 18) (u 21) (u 23) (u 22) (u 12) (u 59) (u 62) (u 28) (u 51) (u 60) (u 61) (u 24) (u 19) (u 20) (u 1) (u 5) (u 6) (u 7) (u 8) (u 9)) ⟨by decide +kernel, by decide +kernel⟩ rfl rfl (Or.inr ⟨rfl, rfl, rfl⟩) (rest := []) rfl rfl rfl hl.1 rfl (Nat.le_of_ble_eq_true rfl) dL_law_776 ⟨Nat.le_of_ble_eq_true rfl, Nat.le_of_ble_eq_true rfl⟩ (W' := [(qm, .inr (9, [.ref (v 0), .ref (v 1), .ref (v 2), .ref (v 3), .ref (v 4), .ref (v 5), .ref (v 6), .ref (v 7), .ref (v 8), .ref (v 9), .ref (v 10), .ref (v 11), .int 1, .int 0, .int 0, .ref (v 12), .ref (v 13), .ref (v 14), .ref (v 15), .ref (v 16), .ref (v 17), .int 0, .int 0, .ref (v 18), .ref (v 19), .ref (v 20), .ref (v 21), .int 0, .int 0, .ref (v 22), .ref (v 23), .ref (v 24), .ref (v 25), .int 0, .ref (v 26), .int 0])), ((v 19), .inl (cI, 3, .inl (tb []))), ((v 18), .inl (cI, 3, .inl (tb []))), ((v 20), .inl (cI, 4, .inl (tb []))), ((v 21), .inl (cI, 4, .inl (tb []))), ((v 12), .inl (cI, 400000, .inl (tb []))), ((v 13), .inl (cI, 100000, .inl (tb []))), ((v 14), .inl (cI, 6001, .inl (tb []))), ((v 15), .inl (cI, 100000, .inl (tb []))), ((v 16), .inl (cI, 24000, .inl (tb []))), ((v 17), .inl (cI, 6000, .inl (tb []))), ((v 6), .inl (cI, 4, .inl (tb [0, 0, 0, 0]))), ((v 7), .inl (cI, 8, .inl (tb [])))]) rfl (fun H locs hP hD hS => ?_)
  refine lv_aload_n hx hb dL_law_779 rfl (lv_at hl 1 rfl) ?_
  refine lv_aload_n hx hb dL_law_780 rfl (lv_at hl 3 rfl) ?_
  refine lv_iload_n hx hb dL_law_781 rfl (lv_at hl 0 rfl) ?_
  refine lv_iconst (v := 1) hx hb dL_law_782 (by decide) ?_
  refine v_iadd hx hb dL_law_783 1 (by decide +kernel) ?_
  refine va_sld hx hb hX0 hbl hbA hS (vin (by decide +kernel)) dL_law_784 ?_
  refine tvi (v := 0) e_y0 ?_
  refine kV_i (q0 := 0) ⟨hx, hb, hml, hown, hts⟩ hK hP hD hS hA hX cv_RL_96 [0, 1, 2, 3, 4, 5, 6, 7, 8, 9, 10, 11, 12] [] (wr := []) rfl rfl rfl rfl (by decide) (c437_X9_split l dC dI cI cJ cII cJJ H.size 0 qm (v 19) (v 18) (v 20) (v 21) (v 12) (v 13) (v 14) (v 15) (v 16) (v 17) (v 6) (v 7) (v 0) (v 1) (v 2) (v 3) (v 4) (v 5) (v 8) (v 9) (v 10) (v 11) (v 22) (v 23) (v 24) (v 25) (v 26)) ⟨by decide +kernel, by decide +kernel⟩ rfl rfl (Or.inl rfl) (rest := [.int (-5)]) rfl rfl rfl hl.1 rfl (Nat.le_of_ble_eq_true rfl) dL_law_785 ⟨Nat.le_of_ble_eq_true rfl, Nat.le_of_ble_eq_true rfl⟩ (W' := []) rfl (fun H locs hP hD hS => ?_)
  refine t_icmp_eq hx hb dL_law_788 1073 (by decide) rfl ?_
  exact law_end l C0 rfl hS hl
set_option maxRecDepth 100000 in
set_option maxHeartbeats 4000000 in
theorem lr_83 {p : Program} {e : Env} {s : State} {m : MethodId} {below : List Frame} {meth : Method} {c : Code} (l : Launch) {b L : Nat} {xs : Nat → Int32} (C0 : lw_At p s m meth c b L xs) (hL : L = 5) {dC : Nat → ClassId} {dI : Nat → Nat → Nat} {cI cJ cII cJJ : ClassId} {g qx qm : Nat} {u v : Nat → Nat} {H : Heap} {locs : List Loc} {ls : Array Slot} (e_y0 : xs 1 = 1) (hK : va_K (dC, dI) vwCl (TY cI cJ cII cJJ) s) (hX : GXA 1 g (AA s) s) (hP : va_P (dC, dI) vwCl (WLD cI cJ cII cJJ qx qm u v) H) (hD : va_D (AA s) (WLD cI cJ cII cJJ qx qm u v)) (hS : va_S (AA s) s.heap H locs) (hl : lv_has ls 4 [(3, .int 0), (2, .ref qm), (1, .ref qx), (0, .ref b)]) : W p l e room_1 s m #[Value.ref b] below meth c H locs 600000 7302250 (lw_Z below #[Value.ref b] s) (F0 m 770 ls []) := by
  obtain ⟨hx, hb, hr, hml, hown, hts0, hX0, hbl, hlocks, hgv⟩ := id C0
  have hts : ∀ w ∈ TT, w.before #[Value.ref b] s = true := fun w h => hts0 w (TT_tbl h)
  have hA : ∀ q : Nat, s.heap.size ≤ q → AA s q := fun _ h => h
  have hbA : ¬ AA s b := Nat.not_le.mpr hbl
  have hown : s.vm.findClass RL = some m.cls := hown
  subst hL
  refine lv_aload_n hx hb dL_law_770 rfl (lv_at hl 2 rfl) ?_
  refine lv_aload_n hx hb dL_law_771 rfl (lv_at hl 3 rfl) ?_
  refine lv_iload_n hx hb dL_law_772 rfl (lv_at hl 0 rfl) ?_
  refine lv_iconst (v := 1) hx hb dL_law_773 (by decide) ?_
  refine v_iadd hx hb dL_law_774 1 (by decide +kernel) ?_
  refine va_sld hx hb hX0 hbl hbA hS (vin (by decide +kernel)) dL_law_775 ?_
  refine tvi (v := 1) e_y0 ?_
  refine kV_i (q0 := 0) ⟨hx, hb, hml, hown, hts⟩ hK hP hD hS hA hX cv_RL_93 [0, 11, 12, 14, 6, 15, 16, 17, 18, 19, 22, 24, 23, 13, 60, 63] [86, 78, 77, 79, 80, 71, 72, 73, 74, 75, 76, 91, 66] (wr := [(qm, .inr (9, [.ref (v 0), .ref (v 1), .ref (v 2), .ref (v 3), .ref (v 4), .ref (v 5), .ref (v 6), .ref (v 7), .ref (v 8), .ref (v 9), .ref (v 10), .ref (v 11), .int 1, .int 0, .int 0, .ref (v 12), .ref (v 13), .ref (v 14), .ref (v 15), .ref (v 16), .ref (v 17), .int 0, .int 0, .ref (v 18), .ref (v 19), .ref (v 20), .ref (v 21), .int 0, .int 0, .ref (v 22), .ref (v 23), .ref (v 24), .ref (v 25), .int 0, .ref (v 26), .int 0])), ((v 19), .inl (cI, 3, .inl (tb []))), ((v 18), .inl (cI, 3, .inl (tb []))), ((v 20), .inl (cI, 4, .inl (tb []))), ((v 21), .inl (cI, 4, .inl (tb []))), ((v 12), .inl (cI, 400000, .inl (tb []))), ((v 13), .inl (cI, 100000, .inl (tb []))), ((v 14), .inl (cI, 6001, .inl (tb []))), ((v 15), .inl (cI, 100000, .inl (tb []))), ((v 16), .inl (cI, 24000, .inl (tb []))), ((v 17), .inl (cI, 6000, .inl (tb []))), ((v 6), .inl (cI, 4, .inl (tb [0, 0, 0, 0]))), ((v 7), .inl (cI, 8, .inl (tb [])))]) rfl rfl rfl rfl (by decide) (c183_X8_split l dC dI cI cJ cII cJJ H.size g qx (u 10) (u 11) (u 13) (u 0) (u 14) (u 15) (u 16) (u 17) (u 18) (u 21) (u 23) (u 22) (u 12) (u 59) (u 62) (u 28) (u 51) (u 60) (u 61) (u 24) (u 19) (u 20) (u 1) (u 5) (u 6) (u 7) (u 8) (u 9)) ⟨by decide +kernel, by decide +kernel⟩ rfl rfl (Or.inr ⟨rfl, rfl, rfl⟩) (rest := []) rfl rfl rfl hl.1 rfl (Nat.le_of_ble_eq_true rfl) dL_law_776 ⟨Nat.le_of_ble_eq_true rfl, Nat.le_of_ble_eq_true rfl⟩ (W' := [(qm, .inr (9, [.ref (v 0), .ref (v 1), .ref (v 2), .ref (v 3), .ref (v 4), .ref (v 5), .ref (v 6), .ref (v 7), .ref (v 8), .ref (v 9), .ref (v 10), .ref (v 11), .int 1, .int 0, .int 0, .ref (v 12), .ref (v 13), .ref (v 14), .ref (v 15), .ref (v 16), .ref (v 17), .int 0, .int 0, .ref (v 18), .ref (v 19), .ref (v 20), .ref (v 21), .int 0, .int 0, .ref (v 22), .ref (v 23), .ref (v 24), .ref (v 25), .int 0, .ref (v 26), .int 0])), ((v 19), .inl (cI, 3, .inl (tb []))), ((v 18), .inl (cI, 3, .inl (tb []))), ((v 20), .inl (cI, 4, .inl (tb []))), ((v 21), .inl (cI, 4, .inl (tb []))), ((v 12), .inl (cI, 400000, .inl (tb []))), ((v 13), .inl (cI, 100000, .inl (tb []))), ((v 14), .inl (cI, 6001, .inl (tb []))), ((v 15), .inl (cI, 100000, .inl (tb []))), ((v 16), .inl (cI, 24000, .inl (tb []))), ((v 17), .inl (cI, 6000, .inl (tb []))), ((v 6), .inl (cI, 4, .inl (tb [0, 0, 0, 0]))), ((v 7), .inl (cI, 8, .inl (tb [])))]) rfl (fun H locs hP hD hS => ?_)
  refine lv_aload_n hx hb dL_law_779 rfl (lv_at hl 1 rfl) ?_
  refine lv_aload_n hx hb dL_law_780 rfl (lv_at hl 3 rfl) ?_
  refine lv_iload_n hx hb dL_law_781 rfl (lv_at hl 0 rfl) ?_
  refine lv_iconst (v := 1) hx hb dL_law_782 (by decide) ?_
  refine v_iadd hx hb dL_law_783 1 (by decide +kernel) ?_
  refine va_sld hx hb hX0 hbl hbA hS (vin (by decide +kernel)) dL_law_784 ?_
  refine tvi (v := 1) e_y0 ?_
  refine kV_i (q0 := 0) ⟨hx, hb, hml, hown, hts⟩ hK hP hD hS hA hX cv_RL_96 [0, 1, 2, 3, 4, 5, 6, 7, 8, 9, 10, 11, 12] [] (wr := []) rfl rfl rfl rfl (by decide) (c440_X9_split l dC dI cI cJ cII cJJ H.size 0 qm (v 19) (v 18) (v 20) (v 21) (v 12) (v 13) (v 14) (v 15) (v 16) (v 17) (v 6) (v 7) (v 0) (v 1) (v 2) (v 3) (v 4) (v 5) (v 8) (v 9) (v 10) (v 11) (v 22) (v 23) (v 24) (v 25) (v 26)) ⟨by decide +kernel, by decide +kernel⟩ rfl rfl (Or.inl rfl) (rest := [.int (-5)]) rfl rfl rfl hl.1 rfl (Nat.le_of_ble_eq_true rfl) dL_law_785 ⟨Nat.le_of_ble_eq_true rfl, Nat.le_of_ble_eq_true rfl⟩ (W' := []) rfl (fun H locs hP hD hS => ?_)
  refine t_icmp_eq hx hb dL_law_788 1073 (by decide) rfl ?_
  exact law_end l C0 rfl hS hl
set_option maxRecDepth 100000 in
set_option maxHeartbeats 4000000 in
theorem lc_18 {p : Program} {e : Env} {s : State} {m : MethodId} {below : List Frame} {meth : Method} {c : Code} (l : Launch) {b L : Nat} {xs : Nat → Int32} (C0 : lw_At p s m meth c b L xs) (hL : L = 5) {dC : Nat → ClassId} {dI : Nat → Nat → Nat} {cI cJ cII cJJ : ClassId} {g qx qm : Nat} {u v : Nat → Nat} {H : Heap} {locs : List Loc} {ls : Array Slot} (hK : va_K (dC, dI) vwCl (TY cI cJ cII cJJ) s) (hX : GXA 1 g (AA s) s) (hP : va_P (dC, dI) vwCl (WLD cI cJ cII cJJ qx qm u v) H) (hD : va_D (AA s) (WLD cI cJ cII cJJ qx qm u v)) (hS : va_S (AA s) s.heap H locs) (hl : lv_has ls 4 [(3, .int 0), (2, .ref qm), (1, .ref qx), (0, .ref b)]) : W p l e room_1 s m #[Value.ref b] below meth c H locs 600000 7302250 (lw_Z below #[Value.ref b] s) (F0 m 770 ls []) := by
  have q1 := s_any (xs 1)
  have key : ((xs 1).toInt ≤ -1) ∨ (2 ≤ (xs 1).toInt) ∨ ((xs 1).toInt = 0) ∨ ((xs 1).toInt = 1) := by omega
  rcases key with h | h | h | h
  · exact lr_80 l C0 hL (xs 1) ⟨by omega, by omega⟩ rfl hK hX hP hD hS hl
  · exact lr_81 l C0 hL (xs 1) ⟨by omega, by omega⟩ rfl hK hX hP hD hS hl
  · exact lr_82 l C0 hL (Int32.toInt_inj.mp (by rw [show (0 : Int32).toInt = 0 from by decide +kernel]; omega)) hK hX hP hD hS hl
  · exact lr_83 l C0 hL (Int32.toInt_inj.mp (by rw [show (1 : Int32).toInt = 1 from by decide +kernel]; omega)) hK hX hP hD hS hl
set_option maxRecDepth 100000 in
set_option maxHeartbeats 4000000 in
theorem lr_84 {p : Program} {e : Env} {s : State} {m : MethodId} {below : List Frame} {meth : Method} {c : Code} (l : Launch) {b L : Nat} {xs : Nat → Int32} (C0 : lw_At p s m meth c b L xs) (hL : L = 5) {dC : Nat → ClassId} {dI : Nat → Nat → Nat} {cI cJ cII cJJ : ClassId} {g qx qm : Nat} {u v : Nat → Nat} {H : Heap} {locs : List Loc} {ls : Array Slot} (y0 : Int32) (h_y0 : -2147483648 ≤ y0.toInt ∧ y0.toInt ≤ -1) (e_y0 : xs 1 = y0) (y1 : Int32) (h_y1 : -2147483648 ≤ y1.toInt ∧ y1.toInt ≤ 2147483647) (e_y1 : xs 2 = y1) (hK : va_K (dC, dI) vwCl (TY cI cJ cII cJJ) s) (hX : GXA 1 g (AA s) s) (hP : va_P (dC, dI) vwCl (WLD cI cJ cII cJJ qx qm u v) H) (hD : va_D (AA s) (WLD cI cJ cII cJJ qx qm u v)) (hS : va_S (AA s) s.heap H locs) (hl : lv_has ls 4 [(3, .int 0), (2, .ref qm), (1, .ref qx), (0, .ref b)]) : W p l e room_1 s m #[Value.ref b] below meth c H locs 600000 7302250 (lw_Z below #[Value.ref b] s) (F0 m 793 ls []) := by
  obtain ⟨hx, hb, hr, hml, hown, hts0, hX0, hbl, hlocks, hgv⟩ := id C0
  have hts : ∀ w ∈ TT, w.before #[Value.ref b] s = true := fun w h => hts0 w (TT_tbl h)
  have hA : ∀ q : Nat, s.heap.size ≤ q → AA s q := fun _ h => h
  have hbA : ¬ AA s b := Nat.not_le.mpr hbl
  have hown : s.vm.findClass RL = some m.cls := hown
  subst hL
  refine lv_aload_n hx hb dL_law_793 rfl (lv_at hl 2 rfl) ?_
  refine lv_aload_n hx hb dL_law_794 rfl (lv_at hl 3 rfl) ?_
  refine lv_iload_n hx hb dL_law_795 rfl (lv_at hl 0 rfl) ?_
  refine lv_iconst (v := 1) hx hb dL_law_796 (by decide) ?_
  refine v_iadd hx hb dL_law_797 1 (by decide +kernel) ?_
  refine va_sld hx hb hX0 hbl hbA hS (vin (by decide +kernel)) dL_law_798 ?_
  refine tvi (v := y0) e_y0 ?_
  refine lv_aload_n hx hb dL_law_799 rfl (lv_at hl 3 rfl) ?_
  refine lv_iload_n hx hb dL_law_800 rfl (lv_at hl 0 rfl) ?_
  refine lv_iconst (v := 2) hx hb dL_law_801 (by decide) ?_
  refine v_iadd hx hb dL_law_802 2 (by decide +kernel) ?_
  refine va_sld hx hb hX0 hbl hbA hS (vin (by decide +kernel)) dL_law_803 ?_
  refine tvi (v := y1) e_y1 ?_
  refine kV_i (q0 := 0) ⟨hx, hb, hml, hown, hts⟩ hK hP hD hS hA hX cv_RL_97 [0, 11, 12, 14, 6, 15, 16, 17, 18, 19, 22, 24, 23, 13, 63] [86, 78, 77, 79, 80, 71, 72, 73, 74, 75, 76, 66] (wr := [(qm, .inr (9, [.ref (v 0), .ref (v 1), .ref (v 2), .ref (v 3), .ref (v 4), .ref (v 5), .ref (v 6), .ref (v 7), .ref (v 8), .ref (v 9), .ref (v 10), .ref (v 11), .int 1, .int 0, .int 0, .ref (v 12), .ref (v 13), .ref (v 14), .ref (v 15), .ref (v 16), .ref (v 17), .int 0, .int 0, .ref (v 18), .ref (v 19), .ref (v 20), .ref (v 21), .int 0, .int 0, .ref (v 22), .ref (v 23), .ref (v 24), .ref (v 25), .int 0, .ref (v 26), .int 0])), ((v 19), .inl (cI, 3, .inl (tb []))), ((v 18), .inl (cI, 3, .inl (tb []))), ((v 20), .inl (cI, 4, .inl (tb []))), ((v 21), .inl (cI, 4, .inl (tb []))), ((v 12), .inl (cI, 400000, .inl (tb []))), ((v 13), .inl (cI, 100000, .inl (tb []))), ((v 14), .inl (cI, 6001, .inl (tb []))), ((v 15), .inl (cI, 100000, .inl (tb []))), ((v 16), .inl (cI, 24000, .inl (tb []))), ((v 17), .inl (cI, 6000, .inl (tb []))), ((v 7), .inl (cI, 8, .inl (tb [])))]) rfl rfl rfl rfl (by decide) (c184_X8_add l dC dI cI cJ cII cJJ H.size g qx (u 10) (u 11) (u 13) (u 0) (u 14) (u 15) (u 16) (u 17) (u 18) (u 21) (u 23) (u 22) (u 12) (u 62) (u 28) (u 51) (u 59) (u 60) (u 61) (u 24) (u 19) (u 20) (u 1) (u 5) (u 6) (u 7) (u 8) (u 9) y0 h_y0 y1 h_y1) ⟨by decide +kernel, by decide +kernel⟩ rfl rfl (Or.inr ⟨rfl, rfl, rfl⟩) (rest := []) rfl rfl rfl hl.1 rfl (Nat.le_of_ble_eq_true rfl) dL_law_804 ⟨Nat.le_of_ble_eq_true rfl, Nat.le_of_ble_eq_true rfl⟩ (W' := [(qm, .inr (9, [.ref (v 0), .ref (v 1), .ref (v 2), .ref (v 3), .ref (v 4), .ref (v 5), .ref (v 6), .ref (v 7), .ref (v 8), .ref (v 9), .ref (v 10), .ref (v 11), .int 1, .int 0, .int 0, .ref (v 12), .ref (v 13), .ref (v 14), .ref (v 15), .ref (v 16), .ref (v 17), .int 0, .int 0, .ref (v 18), .ref (v 19), .ref (v 20), .ref (v 21), .int 0, .int 0, .ref (v 22), .ref (v 23), .ref (v 24), .ref (v 25), .int 0, .ref (v 26), .int 0])), ((v 19), .inl (cI, 3, .inl (tb []))), ((v 18), .inl (cI, 3, .inl (tb []))), ((v 20), .inl (cI, 4, .inl (tb []))), ((v 21), .inl (cI, 4, .inl (tb []))), ((v 12), .inl (cI, 400000, .inl (tb []))), ((v 13), .inl (cI, 100000, .inl (tb []))), ((v 14), .inl (cI, 6001, .inl (tb []))), ((v 15), .inl (cI, 100000, .inl (tb []))), ((v 16), .inl (cI, 24000, .inl (tb []))), ((v 17), .inl (cI, 6000, .inl (tb []))), ((v 7), .inl (cI, 8, .inl (tb [])))]) rfl (fun H locs hP hD hS => ?_)
  refine lv_aload_n hx hb dL_law_807 rfl (lv_at hl 1 rfl) ?_
  refine lv_aload_n hx hb dL_law_808 rfl (lv_at hl 3 rfl) ?_
  refine lv_iload_n hx hb dL_law_809 rfl (lv_at hl 0 rfl) ?_
  refine lv_iconst (v := 1) hx hb dL_law_810 (by decide) ?_
  refine v_iadd hx hb dL_law_811 1 (by decide +kernel) ?_
  refine va_sld hx hb hX0 hbl hbA hS (vin (by decide +kernel)) dL_law_812 ?_
  refine tvi (v := y0) e_y0 ?_
  refine lv_aload_n hx hb dL_law_813 rfl (lv_at hl 3 rfl) ?_
  refine lv_iload_n hx hb dL_law_814 rfl (lv_at hl 0 rfl) ?_
  refine lv_iconst (v := 2) hx hb dL_law_815 (by decide) ?_
  refine v_iadd hx hb dL_law_816 2 (by decide +kernel) ?_
  refine va_sld hx hb hX0 hbl hbA hS (vin (by decide +kernel)) dL_law_817 ?_
  refine tvi (v := y1) e_y1 ?_
  refine kV_i (q0 := 0) ⟨hx, hb, hml, hown, hts⟩ hK hP hD hS hA hX cv_RL_100 [0, 1, 2, 3, 4, 5, 6, 7, 8, 9, 10, 11] [] (wr := []) rfl rfl rfl rfl (by decide) (c441_X9_add l dC dI cI cJ cII cJJ H.size 0 qm (v 19) (v 18) (v 20) (v 21) (v 12) (v 13) (v 14) (v 15) (v 16) (v 17) (v 7) (v 0) (v 1) (v 2) (v 3) (v 4) (v 5) (v 6) (v 8) (v 9) (v 10) (v 11) (v 22) (v 23) (v 24) (v 25) (v 26) y0 h_y0 y1 h_y1) ⟨by decide +kernel, by decide +kernel⟩ rfl rfl (Or.inl rfl) (rest := [.int (-1)]) rfl rfl rfl hl.1 rfl (Nat.le_of_ble_eq_true rfl) dL_law_818 ⟨Nat.le_of_ble_eq_true rfl, Nat.le_of_ble_eq_true rfl⟩ (W' := []) rfl (fun H locs hP hD hS => ?_)
  refine t_icmp_eq hx hb dL_law_821 1073 (by decide) rfl ?_
  exact law_end l C0 rfl hS hl
set_option maxRecDepth 100000 in
set_option maxHeartbeats 4000000 in
theorem lr_85 {p : Program} {e : Env} {s : State} {m : MethodId} {below : List Frame} {meth : Method} {c : Code} (l : Launch) {b L : Nat} {xs : Nat → Int32} (C0 : lw_At p s m meth c b L xs) (hL : L = 5) {dC : Nat → ClassId} {dI : Nat → Nat → Nat} {cI cJ cII cJJ : ClassId} {g qx qm : Nat} {u v : Nat → Nat} {H : Heap} {locs : List Loc} {ls : Array Slot} (y0 : Int32) (h_y0 : 2 ≤ y0.toInt ∧ y0.toInt ≤ 2147483647) (e_y0 : xs 1 = y0) (y1 : Int32) (h_y1 : -2147483648 ≤ y1.toInt ∧ y1.toInt ≤ 2147483647) (e_y1 : xs 2 = y1) (hK : va_K (dC, dI) vwCl (TY cI cJ cII cJJ) s) (hX : GXA 1 g (AA s) s) (hP : va_P (dC, dI) vwCl (WLD cI cJ cII cJJ qx qm u v) H) (hD : va_D (AA s) (WLD cI cJ cII cJJ qx qm u v)) (hS : va_S (AA s) s.heap H locs) (hl : lv_has ls 4 [(3, .int 0), (2, .ref qm), (1, .ref qx), (0, .ref b)]) : W p l e room_1 s m #[Value.ref b] below meth c H locs 600000 7302250 (lw_Z below #[Value.ref b] s) (F0 m 793 ls []) := by
  obtain ⟨hx, hb, hr, hml, hown, hts0, hX0, hbl, hlocks, hgv⟩ := id C0
  have hts : ∀ w ∈ TT, w.before #[Value.ref b] s = true := fun w h => hts0 w (TT_tbl h)
  have hA : ∀ q : Nat, s.heap.size ≤ q → AA s q := fun _ h => h
  have hbA : ¬ AA s b := Nat.not_le.mpr hbl
  have hown : s.vm.findClass RL = some m.cls := hown
  subst hL
  refine lv_aload_n hx hb dL_law_793 rfl (lv_at hl 2 rfl) ?_
  refine lv_aload_n hx hb dL_law_794 rfl (lv_at hl 3 rfl) ?_
  refine lv_iload_n hx hb dL_law_795 rfl (lv_at hl 0 rfl) ?_
  refine lv_iconst (v := 1) hx hb dL_law_796 (by decide) ?_
  refine v_iadd hx hb dL_law_797 1 (by decide +kernel) ?_
  refine va_sld hx hb hX0 hbl hbA hS (vin (by decide +kernel)) dL_law_798 ?_
  refine tvi (v := y0) e_y0 ?_
  refine lv_aload_n hx hb dL_law_799 rfl (lv_at hl 3 rfl) ?_
  refine lv_iload_n hx hb dL_law_800 rfl (lv_at hl 0 rfl) ?_
  refine lv_iconst (v := 2) hx hb dL_law_801 (by decide) ?_
  refine v_iadd hx hb dL_law_802 2 (by decide +kernel) ?_
  refine va_sld hx hb hX0 hbl hbA hS (vin (by decide +kernel)) dL_law_803 ?_
  refine tvi (v := y1) e_y1 ?_
  refine kV_i (q0 := 0) ⟨hx, hb, hml, hown, hts⟩ hK hP hD hS hA hX cv_RL_97 [0, 11, 12, 14, 6, 15, 16, 17, 18, 19, 22, 24, 23, 13, 63] [86, 78, 77, 79, 80, 71, 72, 73, 74, 75, 76, 66] (wr := [(qm, .inr (9, [.ref (v 0), .ref (v 1), .ref (v 2), .ref (v 3), .ref (v 4), .ref (v 5), .ref (v 6), .ref (v 7), .ref (v 8), .ref (v 9), .ref (v 10), .ref (v 11), .int 1, .int 0, .int 0, .ref (v 12), .ref (v 13), .ref (v 14), .ref (v 15), .ref (v 16), .ref (v 17), .int 0, .int 0, .ref (v 18), .ref (v 19), .ref (v 20), .ref (v 21), .int 0, .int 0, .ref (v 22), .ref (v 23), .ref (v 24), .ref (v 25), .int 0, .ref (v 26), .int 0])), ((v 19), .inl (cI, 3, .inl (tb []))), ((v 18), .inl (cI, 3, .inl (tb []))), ((v 20), .inl (cI, 4, .inl (tb []))), ((v 21), .inl (cI, 4, .inl (tb []))), ((v 12), .inl (cI, 400000, .inl (tb []))), ((v 13), .inl (cI, 100000, .inl (tb []))), ((v 14), .inl (cI, 6001, .inl (tb []))), ((v 15), .inl (cI, 100000, .inl (tb []))), ((v 16), .inl (cI, 24000, .inl (tb []))), ((v 17), .inl (cI, 6000, .inl (tb []))), ((v 7), .inl (cI, 8, .inl (tb [])))]) rfl rfl rfl rfl (by decide) (c185_X8_add l dC dI cI cJ cII cJJ H.size g qx (u 10) (u 11) (u 13) (u 0) (u 14) (u 15) (u 16) (u 17) (u 18) (u 21) (u 23) (u 22) (u 12) (u 62) (u 28) (u 51) (u 59) (u 60) (u 61) (u 24) (u 19) (u 20) (u 1) (u 5) (u 6) (u 7) (u 8) (u 9) y0 h_y0 y1 h_y1) ⟨by decide +kernel, by decide +kernel⟩ rfl rfl (Or.inr ⟨rfl, rfl, rfl⟩) (rest := []) rfl rfl rfl hl.1 rfl (Nat.le_of_ble_eq_true rfl) dL_law_804 ⟨Nat.le_of_ble_eq_true rfl, Nat.le_of_ble_eq_true rfl⟩ (W' := [(qm, .inr (9, [.ref (v 0), .ref (v 1), .ref (v 2), .ref (v 3), .ref (v 4), .ref (v 5), .ref (v 6), .ref (v 7), .ref (v 8), .ref (v 9), .ref (v 10), .ref (v 11), .int 1, .int 0, .int 0, .ref (v 12), .ref (v 13), .ref (v 14), .ref (v 15), .ref (v 16), .ref (v 17), .int 0, .int 0, .ref (v 18), .ref (v 19), .ref (v 20), .ref (v 21), .int 0, .int 0, .ref (v 22), .ref (v 23), .ref (v 24), .ref (v 25), .int 0, .ref (v 26), .int 0])), ((v 19), .inl (cI, 3, .inl (tb []))), ((v 18), .inl (cI, 3, .inl (tb []))), ((v 20), .inl (cI, 4, .inl (tb []))), ((v 21), .inl (cI, 4, .inl (tb []))), ((v 12), .inl (cI, 400000, .inl (tb []))), ((v 13), .inl (cI, 100000, .inl (tb []))), ((v 14), .inl (cI, 6001, .inl (tb []))), ((v 15), .inl (cI, 100000, .inl (tb []))), ((v 16), .inl (cI, 24000, .inl (tb []))), ((v 17), .inl (cI, 6000, .inl (tb []))), ((v 7), .inl (cI, 8, .inl (tb [])))]) rfl (fun H locs hP hD hS => ?_)
  refine lv_aload_n hx hb dL_law_807 rfl (lv_at hl 1 rfl) ?_
  refine lv_aload_n hx hb dL_law_808 rfl (lv_at hl 3 rfl) ?_
  refine lv_iload_n hx hb dL_law_809 rfl (lv_at hl 0 rfl) ?_
  refine lv_iconst (v := 1) hx hb dL_law_810 (by decide) ?_
  refine v_iadd hx hb dL_law_811 1 (by decide +kernel) ?_
  refine va_sld hx hb hX0 hbl hbA hS (vin (by decide +kernel)) dL_law_812 ?_
  refine tvi (v := y0) e_y0 ?_
  refine lv_aload_n hx hb dL_law_813 rfl (lv_at hl 3 rfl) ?_
  refine lv_iload_n hx hb dL_law_814 rfl (lv_at hl 0 rfl) ?_
  refine lv_iconst (v := 2) hx hb dL_law_815 (by decide) ?_
  refine v_iadd hx hb dL_law_816 2 (by decide +kernel) ?_
  refine va_sld hx hb hX0 hbl hbA hS (vin (by decide +kernel)) dL_law_817 ?_
  refine tvi (v := y1) e_y1 ?_
  refine kV_i (q0 := 0) ⟨hx, hb, hml, hown, hts⟩ hK hP hD hS hA hX cv_RL_100 [0, 1, 2, 3, 4, 5, 6, 7, 8, 9, 10, 11] [] (wr := []) rfl rfl rfl rfl (by decide) (c442_X9_add l dC dI cI cJ cII cJJ H.size 0 qm (v 19) (v 18) (v 20) (v 21) (v 12) (v 13) (v 14) (v 15) (v 16) (v 17) (v 7) (v 0) (v 1) (v 2) (v 3) (v 4) (v 5) (v 6) (v 8) (v 9) (v 10) (v 11) (v 22) (v 23) (v 24) (v 25) (v 26) y0 h_y0 y1 h_y1) ⟨by decide +kernel, by decide +kernel⟩ rfl rfl (Or.inl rfl) (rest := [.int (-1)]) rfl rfl rfl hl.1 rfl (Nat.le_of_ble_eq_true rfl) dL_law_818 ⟨Nat.le_of_ble_eq_true rfl, Nat.le_of_ble_eq_true rfl⟩ (W' := []) rfl (fun H locs hP hD hS => ?_)
  refine t_icmp_eq hx hb dL_law_821 1073 (by decide) rfl ?_
  exact law_end l C0 rfl hS hl
set_option maxRecDepth 100000 in
set_option maxHeartbeats 4000000 in
theorem lr_86 {p : Program} {e : Env} {s : State} {m : MethodId} {below : List Frame} {meth : Method} {c : Code} (l : Launch) {b L : Nat} {xs : Nat → Int32} (C0 : lw_At p s m meth c b L xs) (hL : L = 5) {dC : Nat → ClassId} {dI : Nat → Nat → Nat} {cI cJ cII cJJ : ClassId} {g qx qm : Nat} {u v : Nat → Nat} {H : Heap} {locs : List Loc} {ls : Array Slot} (e_y0 : xs 1 = 0) (y1 : Int32) (h_y1 : -2147483648 ≤ y1.toInt ∧ y1.toInt ≤ -10001) (e_y1 : xs 2 = y1) (hK : va_K (dC, dI) vwCl (TY cI cJ cII cJJ) s) (hX : GXA 1 g (AA s) s) (hP : va_P (dC, dI) vwCl (WLD cI cJ cII cJJ qx qm u v) H) (hD : va_D (AA s) (WLD cI cJ cII cJJ qx qm u v)) (hS : va_S (AA s) s.heap H locs) (hl : lv_has ls 4 [(3, .int 0), (2, .ref qm), (1, .ref qx), (0, .ref b)]) : W p l e room_1 s m #[Value.ref b] below meth c H locs 600000 7302250 (lw_Z below #[Value.ref b] s) (F0 m 793 ls []) := by
  obtain ⟨hx, hb, hr, hml, hown, hts0, hX0, hbl, hlocks, hgv⟩ := id C0
  have hts : ∀ w ∈ TT, w.before #[Value.ref b] s = true := fun w h => hts0 w (TT_tbl h)
  have hA : ∀ q : Nat, s.heap.size ≤ q → AA s q := fun _ h => h
  have hbA : ¬ AA s b := Nat.not_le.mpr hbl
  have hown : s.vm.findClass RL = some m.cls := hown
  subst hL
  refine lv_aload_n hx hb dL_law_793 rfl (lv_at hl 2 rfl) ?_
  refine lv_aload_n hx hb dL_law_794 rfl (lv_at hl 3 rfl) ?_
  refine lv_iload_n hx hb dL_law_795 rfl (lv_at hl 0 rfl) ?_
  refine lv_iconst (v := 1) hx hb dL_law_796 (by decide) ?_
  refine v_iadd hx hb dL_law_797 1 (by decide +kernel) ?_
  refine va_sld hx hb hX0 hbl hbA hS (vin (by decide +kernel)) dL_law_798 ?_
  refine tvi (v := 0) e_y0 ?_
  refine lv_aload_n hx hb dL_law_799 rfl (lv_at hl 3 rfl) ?_
  refine lv_iload_n hx hb dL_law_800 rfl (lv_at hl 0 rfl) ?_
  refine lv_iconst (v := 2) hx hb dL_law_801 (by decide) ?_
  refine v_iadd hx hb dL_law_802 2 (by decide +kernel) ?_
  refine va_sld hx hb hX0 hbl hbA hS (vin (by decide +kernel)) dL_law_803 ?_
  refine tvi (v := y1) e_y1 ?_
  refine kV_i (q0 := 0) ⟨hx, hb, hml, hown, hts⟩ hK hP hD hS hA hX cv_RL_97 [0, 11, 12, 14, 6, 15, 16, 17, 18, 19, 22, 24, 23, 13, 60, 62, 63] [86, 78, 77, 79, 80, 71, 72, 73, 74, 75, 76, 91, 66] (wr := [(qm, .inr (9, [.ref (v 0), .ref (v 1), .ref (v 2), .ref (v 3), .ref (v 4), .ref (v 5), .ref (v 6), .ref (v 7), .ref (v 8), .ref (v 9), .ref (v 10), .ref (v 11), .int 1, .int 0, .int 0, .ref (v 12), .ref (v 13), .ref (v 14), .ref (v 15), .ref (v 16), .ref (v 17), .int 0, .int 0, .ref (v 18), .ref (v 19), .ref (v 20), .ref (v 21), .int 0, .int 0, .ref (v 22), .ref (v 23), .ref (v 24), .ref (v 25), .int 0, .ref (v 26), .int 0])), ((v 19), .inl (cI, 3, .inl (tb []))), ((v 18), .inl (cI, 3, .inl (tb []))), ((v 20), .inl (cI, 4, .inl (tb []))), ((v 21), .inl (cI, 4, .inl (tb []))), ((v 12), .inl (cI, 400000, .inl (tb []))), ((v 13), .inl (cI, 100000, .inl (tb []))), ((v 14), .inl (cI, 6001, .inl (tb []))), ((v 15), .inl (cI, 100000, .inl (tb []))), ((v 16), .inl (cI, 24000, .inl (tb []))), ((v 17), .inl (cI, 6000, .inl (tb []))), ((v 6), .inl (cI, 4, .inl (tb [0, 0, 0, 0]))), ((v 7), .inl (cI, 8, .inl (tb [])))]) rfl rfl rfl rfl (by decide) (c186_X8_add l dC dI cI cJ cII cJJ H.size g qx (u 10) (u 11) (u 13) (u 0) (u 14) (u 15) (u 16) (u 17) (u 18) (u 21) (u 23) (u 22) (u 12) (u 59) (u 61) (u 62) (u 28) (u 51) (u 60) (u 24) (u 19) (u 20) (u 1) (u 5) (u 6) (u 7) (u 8) (u 9) y1 h_y1) ⟨by decide +kernel, by decide +kernel⟩ rfl rfl (Or.inr ⟨rfl, rfl, rfl⟩) (rest := []) rfl rfl rfl hl.1 rfl (Nat.le_of_ble_eq_true rfl) dL_law_804 ⟨Nat.le_of_ble_eq_true rfl, Nat.le_of_ble_eq_true rfl⟩ (W' := [(qm, .inr (9, [.ref (v 0), .ref (v 1), .ref (v 2), .ref (v 3), .ref (v 4), .ref (v 5), .ref (v 6), .ref (v 7), .ref (v 8), .ref (v 9), .ref (v 10), .ref (v 11), .int 1, .int 0, .int 0, .ref (v 12), .ref (v 13), .ref (v 14), .ref (v 15), .ref (v 16), .ref (v 17), .int 0, .int 0, .ref (v 18), .ref (v 19), .ref (v 20), .ref (v 21), .int 0, .int 0, .ref (v 22), .ref (v 23), .ref (v 24), .ref (v 25), .int 0, .ref (v 26), .int 0])), ((v 19), .inl (cI, 3, .inl (tb []))), ((v 18), .inl (cI, 3, .inl (tb []))), ((v 20), .inl (cI, 4, .inl (tb []))), ((v 21), .inl (cI, 4, .inl (tb []))), ((v 12), .inl (cI, 400000, .inl (tb []))), ((v 13), .inl (cI, 100000, .inl (tb []))), ((v 14), .inl (cI, 6001, .inl (tb []))), ((v 15), .inl (cI, 100000, .inl (tb []))), ((v 16), .inl (cI, 24000, .inl (tb []))), ((v 17), .inl (cI, 6000, .inl (tb []))), ((v 6), .inl (cI, 4, .inl (tb [0, 0, 0, 0]))), ((v 7), .inl (cI, 8, .inl (tb [])))]) rfl (fun H locs hP hD hS => ?_)
  refine lv_aload_n hx hb dL_law_807 rfl (lv_at hl 1 rfl) ?_
  refine lv_aload_n hx hb dL_law_808 rfl (lv_at hl 3 rfl) ?_
  refine lv_iload_n hx hb dL_law_809 rfl (lv_at hl 0 rfl) ?_
  refine lv_iconst (v := 1) hx hb dL_law_810 (by decide) ?_
  refine v_iadd hx hb dL_law_811 1 (by decide +kernel) ?_
  refine va_sld hx hb hX0 hbl hbA hS (vin (by decide +kernel)) dL_law_812 ?_
  refine tvi (v := 0) e_y0 ?_
  refine lv_aload_n hx hb dL_law_813 rfl (lv_at hl 3 rfl) ?_
  refine lv_iload_n hx hb dL_law_814 rfl (lv_at hl 0 rfl) ?_
  refine lv_iconst (v := 2) hx hb dL_law_815 (by decide) ?_
  refine v_iadd hx hb dL_law_816 2 (by decide +kernel) ?_
  refine va_sld hx hb hX0 hbl hbA hS (vin (by decide +kernel)) dL_law_817 ?_
  refine tvi (v := y1) e_y1 ?_
  refine kV_i (q0 := 0) ⟨hx, hb, hml, hown, hts⟩ hK hP hD hS hA hX cv_RL_100 [0, 1, 2, 3, 4, 5, 6, 7, 8, 9, 10, 11, 12] [] (wr := []) rfl rfl rfl rfl (by decide) (c443_X9_add l dC dI cI cJ cII cJJ H.size 0 qm (v 19) (v 18) (v 20) (v 21) (v 12) (v 13) (v 14) (v 15) (v 16) (v 17) (v 6) (v 7) (v 0) (v 1) (v 2) (v 3) (v 4) (v 5) (v 8) (v 9) (v 10) (v 11) (v 22) (v 23) (v 24) (v 25) (v 26) y1 h_y1) ⟨by decide +kernel, by decide +kernel⟩ rfl rfl (Or.inl rfl) (rest := [.int (-6)]) rfl rfl rfl hl.1 rfl (Nat.le_of_ble_eq_true rfl) dL_law_818 ⟨Nat.le_of_ble_eq_true rfl, Nat.le_of_ble_eq_true rfl⟩ (W' := []) rfl (fun H locs hP hD hS => ?_)
  refine t_icmp_eq hx hb dL_law_821 1073 (by decide) rfl ?_
  exact law_end l C0 rfl hS hl
set_option maxRecDepth 100000 in
set_option maxHeartbeats 4000000 in
theorem lr_87 {p : Program} {e : Env} {s : State} {m : MethodId} {below : List Frame} {meth : Method} {c : Code} (l : Launch) {b L : Nat} {xs : Nat → Int32} (C0 : lw_At p s m meth c b L xs) (hL : L = 5) {dC : Nat → ClassId} {dI : Nat → Nat → Nat} {cI cJ cII cJJ : ClassId} {g qx qm : Nat} {u v : Nat → Nat} {H : Heap} {locs : List Loc} {ls : Array Slot} (e_y0 : xs 1 = 0) (y1 : Int32) (h_y1 : 10001 ≤ y1.toInt ∧ y1.toInt ≤ 2147483647) (e_y1 : xs 2 = y1) (hK : va_K (dC, dI) vwCl (TY cI cJ cII cJJ) s) (hX : GXA 1 g (AA s) s) (hP : va_P (dC, dI) vwCl (WLD cI cJ cII cJJ qx qm u v) H) (hD : va_D (AA s) (WLD cI cJ cII cJJ qx qm u v)) (hS : va_S (AA s) s.heap H locs) (hl : lv_has ls 4 [(3, .int 0), (2, .ref qm), (1, .ref qx), (0, .ref b)]) : W p l e room_1 s m #[Value.ref b] below meth c H locs 600000 7302250 (lw_Z below #[Value.ref b] s) (F0 m 793 ls []) := by
  obtain ⟨hx, hb, hr, hml, hown, hts0, hX0, hbl, hlocks, hgv⟩ := id C0
  have hts : ∀ w ∈ TT, w.before #[Value.ref b] s = true := fun w h => hts0 w (TT_tbl h)
  have hA : ∀ q : Nat, s.heap.size ≤ q → AA s q := fun _ h => h
  have hbA : ¬ AA s b := Nat.not_le.mpr hbl
  have hown : s.vm.findClass RL = some m.cls := hown
  subst hL
  refine lv_aload_n hx hb dL_law_793 rfl (lv_at hl 2 rfl) ?_
  refine lv_aload_n hx hb dL_law_794 rfl (lv_at hl 3 rfl) ?_
  refine lv_iload_n hx hb dL_law_795 rfl (lv_at hl 0 rfl) ?_
  refine lv_iconst (v := 1) hx hb dL_law_796 (by decide) ?_
  refine v_iadd hx hb dL_law_797 1 (by decide +kernel) ?_
  refine va_sld hx hb hX0 hbl hbA hS (vin (by decide +kernel)) dL_law_798 ?_
  refine tvi (v := 0) e_y0 ?_
  refine lv_aload_n hx hb dL_law_799 rfl (lv_at hl 3 rfl) ?_
  refine lv_iload_n hx hb dL_law_800 rfl (lv_at hl 0 rfl) ?_
  refine lv_iconst (v := 2) hx hb dL_law_801 (by decide) ?_
  refine v_iadd hx hb dL_law_802 2 (by decide +kernel) ?_
  refine va_sld hx hb hX0 hbl hbA hS (vin (by decide +kernel)) dL_law_803 ?_
  refine tvi (v := y1) e_y1 ?_
  refine kV_i (q0 := 0) ⟨hx, hb, hml, hown, hts⟩ hK hP hD hS hA hX cv_RL_97 [0, 11, 12, 14, 6, 15, 16, 17, 18, 19, 22, 24, 23, 13, 60, 62, 63] [86, 78, 77, 79, 80, 71, 72, 73, 74, 75, 76, 91, 66] (wr := [(qm, .inr (9, [.ref (v 0), .ref (v 1), .ref (v 2), .ref (v 3), .ref (v 4), .ref (v 5), .ref (v 6), .ref (v 7), .ref (v 8), .ref (v 9), .ref (v 10), .ref (v 11), .int 1, .int 0, .int 0, .ref (v 12), .ref (v 13), .ref (v 14), .ref (v 15), .ref (v 16), .ref (v 17), .int 0, .int 0, .ref (v 18), .ref (v 19), .ref (v 20), .ref (v 21), .int 0, .int 0, .ref (v 22), .ref (v 23), .ref (v 24), .ref (v 25), .int 0, .ref (v 26), .int 0])), ((v 19), .inl (cI, 3, .inl (tb []))), ((v 18), .inl (cI, 3, .inl (tb []))), ((v 20), .inl (cI, 4, .inl (tb []))), ((v 21), .inl (cI, 4, .inl (tb []))), ((v 12), .inl (cI, 400000, .inl (tb []))), ((v 13), .inl (cI, 100000, .inl (tb []))), ((v 14), .inl (cI, 6001, .inl (tb []))), ((v 15), .inl (cI, 100000, .inl (tb []))), ((v 16), .inl (cI, 24000, .inl (tb []))), ((v 17), .inl (cI, 6000, .inl (tb []))), ((v 6), .inl (cI, 4, .inl (tb [0, 0, 0, 0]))), ((v 7), .inl (cI, 8, .inl (tb [])))]) rfl rfl rfl rfl (by decide) (c188_X8_add l dC dI cI cJ cII cJJ H.size g qx (u 10) (u 11) (u 13) (u 0) (u 14) (u 15) (u 16) (u 17) (u 18) (u 21) (u 23) (u 22) (u 12) (u 59) (u 61) (u 62) (u 28) (u 51) (u 60) (u 24) (u 19) (u 20) (u 1) (u 5) (u 6) (u 7) (u 8) (u 9) y1 h_y1) ⟨by decide +kernel, by decide +kernel⟩ rfl rfl (Or.inr ⟨rfl, rfl, rfl⟩) (rest := []) rfl rfl rfl hl.1 rfl (Nat.le_of_ble_eq_true rfl) dL_law_804 ⟨Nat.le_of_ble_eq_true rfl, Nat.le_of_ble_eq_true rfl⟩ (W' := [(qm, .inr (9, [.ref (v 0), .ref (v 1), .ref (v 2), .ref (v 3), .ref (v 4), .ref (v 5), .ref (v 6), .ref (v 7), .ref (v 8), .ref (v 9), .ref (v 10), .ref (v 11), .int 1, .int 0, .int 0, .ref (v 12), .ref (v 13), .ref (v 14), .ref (v 15), .ref (v 16), .ref (v 17), .int 0, .int 0, .ref (v 18), .ref (v 19), .ref (v 20), .ref (v 21), .int 0, .int 0, .ref (v 22), .ref (v 23), .ref (v 24), .ref (v 25), .int 0, .ref (v 26), .int 0])), ((v 19), .inl (cI, 3, .inl (tb []))), ((v 18), .inl (cI, 3, .inl (tb []))), ((v 20), .inl (cI, 4, .inl (tb []))), ((v 21), .inl (cI, 4, .inl (tb []))), ((v 12), .inl (cI, 400000, .inl (tb []))), ((v 13), .inl (cI, 100000, .inl (tb []))), ((v 14), .inl (cI, 6001, .inl (tb []))), ((v 15), .inl (cI, 100000, .inl (tb []))), ((v 16), .inl (cI, 24000, .inl (tb []))), ((v 17), .inl (cI, 6000, .inl (tb []))), ((v 6), .inl (cI, 4, .inl (tb [0, 0, 0, 0]))), ((v 7), .inl (cI, 8, .inl (tb [])))]) rfl (fun H locs hP hD hS => ?_)
  refine lv_aload_n hx hb dL_law_807 rfl (lv_at hl 1 rfl) ?_
  refine lv_aload_n hx hb dL_law_808 rfl (lv_at hl 3 rfl) ?_
  refine lv_iload_n hx hb dL_law_809 rfl (lv_at hl 0 rfl) ?_
  refine lv_iconst (v := 1) hx hb dL_law_810 (by decide) ?_
  refine v_iadd hx hb dL_law_811 1 (by decide +kernel) ?_
  refine va_sld hx hb hX0 hbl hbA hS (vin (by decide +kernel)) dL_law_812 ?_
  refine tvi (v := 0) e_y0 ?_
  refine lv_aload_n hx hb dL_law_813 rfl (lv_at hl 3 rfl) ?_
  refine lv_iload_n hx hb dL_law_814 rfl (lv_at hl 0 rfl) ?_
  refine lv_iconst (v := 2) hx hb dL_law_815 (by decide) ?_
  refine v_iadd hx hb dL_law_816 2 (by decide +kernel) ?_
  refine va_sld hx hb hX0 hbl hbA hS (vin (by decide +kernel)) dL_law_817 ?_
  refine tvi (v := y1) e_y1 ?_
  refine kV_i (q0 := 0) ⟨hx, hb, hml, hown, hts⟩ hK hP hD hS hA hX cv_RL_100 [0, 1, 2, 3, 4, 5, 6, 7, 8, 9, 10, 11, 12] [] (wr := []) rfl rfl rfl rfl (by decide) (c446_X9_add l dC dI cI cJ cII cJJ H.size 0 qm (v 19) (v 18) (v 20) (v 21) (v 12) (v 13) (v 14) (v 15) (v 16) (v 17) (v 6) (v 7) (v 0) (v 1) (v 2) (v 3) (v 4) (v 5) (v 8) (v 9) (v 10) (v 11) (v 22) (v 23) (v 24) (v 25) (v 26) y1 h_y1) ⟨by decide +kernel, by decide +kernel⟩ rfl rfl (Or.inl rfl) (rest := [.int (-4)]) rfl rfl rfl hl.1 rfl (Nat.le_of_ble_eq_true rfl) dL_law_818 ⟨Nat.le_of_ble_eq_true rfl, Nat.le_of_ble_eq_true rfl⟩ (W' := []) rfl (fun H locs hP hD hS => ?_)
  refine t_icmp_eq hx hb dL_law_821 1073 (by decide) rfl ?_
  exact law_end l C0 rfl hS hl
set_option maxRecDepth 100000 in
set_option maxHeartbeats 4000000 in
theorem lr_88 {p : Program} {e : Env} {s : State} {m : MethodId} {below : List Frame} {meth : Method} {c : Code} (l : Launch) {b L : Nat} {xs : Nat → Int32} (C0 : lw_At p s m meth c b L xs) (hL : L = 5) {dC : Nat → ClassId} {dI : Nat → Nat → Nat} {cI cJ cII cJJ : ClassId} {g qx qm : Nat} {u v : Nat → Nat} {H : Heap} {locs : List Loc} {ls : Array Slot} (e_y0 : xs 1 = 0) (y1 : Int32) (h_y1 : -10000 ≤ y1.toInt ∧ y1.toInt ≤ 10000) (e_y1 : xs 2 = y1) (hK : va_K (dC, dI) vwCl (TY cI cJ cII cJJ) s) (hX : GXA 1 g (AA s) s) (hP : va_P (dC, dI) vwCl (WLD cI cJ cII cJJ qx qm u v) H) (hD : va_D (AA s) (WLD cI cJ cII cJJ qx qm u v)) (hS : va_S (AA s) s.heap H locs) (hl : lv_has ls 4 [(3, .int 0), (2, .ref qm), (1, .ref qx), (0, .ref b)]) : W p l e room_1 s m #[Value.ref b] below meth c H locs 600000 7302250 (lw_Z below #[Value.ref b] s) (F0 m 793 ls []) := by
  obtain ⟨hx, hb, hr, hml, hown, hts0, hX0, hbl, hlocks, hgv⟩ := id C0
  have hts : ∀ w ∈ TT, w.before #[Value.ref b] s = true := fun w h => hts0 w (TT_tbl h)
  have hA : ∀ q : Nat, s.heap.size ≤ q → AA s q := fun _ h => h
  have hbA : ¬ AA s b := Nat.not_le.mpr hbl
  have hown : s.vm.findClass RL = some m.cls := hown
  subst hL
  refine lv_aload_n hx hb dL_law_793 rfl (lv_at hl 2 rfl) ?_
  refine lv_aload_n hx hb dL_law_794 rfl (lv_at hl 3 rfl) ?_
  refine lv_iload_n hx hb dL_law_795 rfl (lv_at hl 0 rfl) ?_
  refine lv_iconst (v := 1) hx hb dL_law_796 (by decide) ?_
  refine v_iadd hx hb dL_law_797 1 (by decide +kernel) ?_
  refine va_sld hx hb hX0 hbl hbA hS (vin (by decide +kernel)) dL_law_798 ?_
  refine tvi (v := 0) e_y0 ?_
  refine lv_aload_n hx hb dL_law_799 rfl (lv_at hl 3 rfl) ?_
  refine lv_iload_n hx hb dL_law_800 rfl (lv_at hl 0 rfl) ?_
  refine lv_iconst (v := 2) hx hb dL_law_801 (by decide) ?_
  refine v_iadd hx hb dL_law_802 2 (by decide +kernel) ?_
  refine va_sld hx hb hX0 hbl hbA hS (vin (by decide +kernel)) dL_law_803 ?_
  refine tvi (v := y1) e_y1 ?_
  refine kV_i (q0 := 0) ⟨hx, hb, hml, hown, hts⟩ hK hP hD hS hA hX cv_RL_97 [0, 11, 12, 14, 6, 15, 16, 17, 18, 19, 22, 24, 23, 13, 60, 62] [86, 78, 77, 79, 80, 71, 72, 73, 74, 75, 76, 91] (wr := [(qm, .inr (9, [.ref (v 0), .ref (v 1), .ref (v 2), .ref (v 3), .ref (v 4), .ref (v 5), .ref (v 6), .ref (v 7), .ref (v 8), .ref (v 9), .ref (v 10), .ref (v 11), .int 1, .int 0, .int 0, .ref (v 12), .ref (v 13), .ref (v 14), .ref (v 15), .ref (v 16), .ref (v 17), .int 0, .int 0, .ref (v 18), .ref (v 19), .ref (v 20), .ref (v 21), .int 0, .int 0, .ref (v 22), .ref (v 23), .ref (v 24), .ref (v 25), .int 0, .ref (v 26), .int 0])), ((v 19), .inl (cI, 3, .inl (tb []))), ((v 18), .inl (cI, 3, .inl (tb []))), ((v 20), .inl (cI, 4, .inl (tb []))), ((v 21), .inl (cI, 4, .inl (tb []))), ((v 12), .inl (cI, 400000, .inl (tb []))), ((v 13), .inl (cI, 100000, .inl (tb []))), ((v 14), .inl (cI, 6001, .inl (tb []))), ((v 15), .inl (cI, 100000, .inl (tb []))), ((v 16), .inl (cI, 24000, .inl (tb []))), ((v 17), .inl (cI, 6000, .inl (tb []))), ((v 6), .inl (cI, 4, .inl (tb [0, 0, 0, 0])))]) rfl rfl rfl rfl (by decide) (c190_X8_add l dC dI cI cJ cII cJJ H.size g qx (u 10) (u 11) (u 13) (u 0) (u 14) (u 15) (u 16) (u 17) (u 18) (u 21) (u 23) (u 22) (u 12) (u 59) (u 61) (u 28) (u 51) (u 60) (u 62) (u 24) (u 19) (u 20) (u 1) (u 5) (u 6) (u 7) (u 8) (u 9) y1 h_y1) ⟨by decide +kernel, by decide +kernel⟩ rfl rfl (Or.inr ⟨rfl, rfl, rfl⟩) (rest := []) rfl rfl rfl hl.1 rfl (Nat.le_of_ble_eq_true rfl) dL_law_804 ⟨Nat.le_of_ble_eq_true rfl, Nat.le_of_ble_eq_true rfl⟩ (W' := [(qm, .inr (9, [.ref (v 0), .ref (v 1), .ref (v 2), .ref (v 3), .ref (v 4), .ref (v 5), .ref (v 6), .ref (v 7), .ref (v 8), .ref (v 9), .ref (v 10), .ref (v 11), .int 1, .int 0, .int 0, .ref (v 12), .ref (v 13), .ref (v 14), .ref (v 15), .ref (v 16), .ref (v 17), .int 0, .int 0, .ref (v 18), .ref (v 19), .ref (v 20), .ref (v 21), .int 0, .int 0, .ref (v 22), .ref (v 23), .ref (v 24), .ref (v 25), .int 0, .ref (v 26), .int 0])), ((v 19), .inl (cI, 3, .inl (tb []))), ((v 18), .inl (cI, 3, .inl (tb []))), ((v 20), .inl (cI, 4, .inl (tb []))), ((v 21), .inl (cI, 4, .inl (tb []))), ((v 12), .inl (cI, 400000, .inl (tb []))), ((v 13), .inl (cI, 100000, .inl (tb []))), ((v 14), .inl (cI, 6001, .inl (tb []))), ((v 15), .inl (cI, 100000, .inl (tb []))), ((v 16), .inl (cI, 24000, .inl (tb []))), ((v 17), .inl (cI, 6000, .inl (tb []))), ((v 6), .inl (cI, 4, .inl (tb [0, 0, 0, 0])))]) rfl (fun H locs hP hD hS => ?_)
  refine lv_aload_n hx hb dL_law_807 rfl (lv_at hl 1 rfl) ?_
  refine lv_aload_n hx hb dL_law_808 rfl (lv_at hl 3 rfl) ?_
  refine lv_iload_n hx hb dL_law_809 rfl (lv_at hl 0 rfl) ?_
  refine lv_iconst (v := 1) hx hb dL_law_810 (by decide) ?_
  refine v_iadd hx hb dL_law_811 1 (by decide +kernel) ?_
  refine va_sld hx hb hX0 hbl hbA hS (vin (by decide +kernel)) dL_law_812 ?_
  refine tvi (v := 0) e_y0 ?_
  refine lv_aload_n hx hb dL_law_813 rfl (lv_at hl 3 rfl) ?_
  refine lv_iload_n hx hb dL_law_814 rfl (lv_at hl 0 rfl) ?_
  refine lv_iconst (v := 2) hx hb dL_law_815 (by decide) ?_
  refine v_iadd hx hb dL_law_816 2 (by decide +kernel) ?_
  refine va_sld hx hb hX0 hbl hbA hS (vin (by decide +kernel)) dL_law_817 ?_
  refine tvi (v := y1) e_y1 ?_
  refine kV_i (q0 := 0) ⟨hx, hb, hml, hown, hts⟩ hK hP hD hS hA hX cv_RL_100 [0, 1, 2, 3, 4, 5, 6, 7, 8, 9, 10, 11] [] (wr := []) rfl rfl rfl rfl (by decide) (c449_X9_add l dC dI cI cJ cII cJJ H.size 0 qm (v 19) (v 18) (v 20) (v 21) (v 12) (v 13) (v 14) (v 15) (v 16) (v 17) (v 6) (v 0) (v 1) (v 2) (v 3) (v 4) (v 5) (v 7) (v 8) (v 9) (v 10) (v 11) (v 22) (v 23) (v 24) (v 25) (v 26) y1 h_y1) ⟨by decide +kernel, by decide +kernel⟩ rfl rfl (Or.inl rfl) (rest := [.int 1]) rfl rfl rfl hl.1 rfl (Nat.le_of_ble_eq_true rfl) dL_law_818 ⟨Nat.le_of_ble_eq_true rfl, Nat.le_of_ble_eq_true rfl⟩ (W' := []) rfl (fun H locs hP hD hS => ?_)
  refine t_icmp_eq hx hb dL_law_821 1073 (by decide) rfl ?_
  exact law_end l C0 rfl hS hl
set_option maxRecDepth 100000 in
set_option maxHeartbeats 4000000 in
theorem lr_89 {p : Program} {e : Env} {s : State} {m : MethodId} {below : List Frame} {meth : Method} {c : Code} (l : Launch) {b L : Nat} {xs : Nat → Int32} (C0 : lw_At p s m meth c b L xs) (hL : L = 5) {dC : Nat → ClassId} {dI : Nat → Nat → Nat} {cI cJ cII cJJ : ClassId} {g qx qm : Nat} {u v : Nat → Nat} {H : Heap} {locs : List Loc} {ls : Array Slot} (e_y0 : xs 1 = 1) (y1 : Int32) (h_y1 : -2147483648 ≤ y1.toInt ∧ y1.toInt ≤ -10001) (e_y1 : xs 2 = y1) (hK : va_K (dC, dI) vwCl (TY cI cJ cII cJJ) s) (hX : GXA 1 g (AA s) s) (hP : va_P (dC, dI) vwCl (WLD cI cJ cII cJJ qx qm u v) H) (hD : va_D (AA s) (WLD cI cJ cII cJJ qx qm u v)) (hS : va_S (AA s) s.heap H locs) (hl : lv_has ls 4 [(3, .int 0), (2, .ref qm), (1, .ref qx), (0, .ref b)]) : W p l e room_1 s m #[Value.ref b] below meth c H locs 600000 7302250 (lw_Z below #[Value.ref b] s) (F0 m 793 ls []) := by
  obtain ⟨hx, hb, hr, hml, hown, hts0, hX0, hbl, hlocks, hgv⟩ := id C0
  have hts : ∀ w ∈ TT, w.before #[Value.ref b] s = true := fun w h => hts0 w (TT_tbl h)
  have hA : ∀ q : Nat, s.heap.size ≤ q → AA s q := fun _ h => h
  have hbA : ¬ AA s b := Nat.not_le.mpr hbl
  have hown : s.vm.findClass RL = some m.cls := hown
  subst hL
  refine lv_aload_n hx hb dL_law_793 rfl (lv_at hl 2 rfl) ?_
  refine lv_aload_n hx hb dL_law_794 rfl (lv_at hl 3 rfl) ?_
  refine lv_iload_n hx hb dL_law_795 rfl (lv_at hl 0 rfl) ?_
  refine lv_iconst (v := 1) hx hb dL_law_796 (by decide) ?_
  refine v_iadd hx hb dL_law_797 1 (by decide +kernel) ?_
  refine va_sld hx hb hX0 hbl hbA hS (vin (by decide +kernel)) dL_law_798 ?_
  refine tvi (v := 1) e_y0 ?_
  refine lv_aload_n hx hb dL_law_799 rfl (lv_at hl 3 rfl) ?_
  refine lv_iload_n hx hb dL_law_800 rfl (lv_at hl 0 rfl) ?_
  refine lv_iconst (v := 2) hx hb dL_law_801 (by decide) ?_
  refine v_iadd hx hb dL_law_802 2 (by decide +kernel) ?_
  refine va_sld hx hb hX0 hbl hbA hS (vin (by decide +kernel)) dL_law_803 ?_
  refine tvi (v := y1) e_y1 ?_
  refine kV_i (q0 := 0) ⟨hx, hb, hml, hown, hts⟩ hK hP hD hS hA hX cv_RL_97 [0, 11, 12, 14, 6, 15, 16, 17, 18, 19, 22, 24, 23, 13, 60, 62, 63] [86, 78, 77, 79, 80, 71, 72, 73, 74, 75, 76, 91, 66] (wr := [(qm, .inr (9, [.ref (v 0), .ref (v 1), .ref (v 2), .ref (v 3), .ref (v 4), .ref (v 5), .ref (v 6), .ref (v 7), .ref (v 8), .ref (v 9), .ref (v 10), .ref (v 11), .int 1, .int 0, .int 0, .ref (v 12), .ref (v 13), .ref (v 14), .ref (v 15), .ref (v 16), .ref (v 17), .int 0, .int 0, .ref (v 18), .ref (v 19), .ref (v 20), .ref (v 21), .int 0, .int 0, .ref (v 22), .ref (v 23), .ref (v 24), .ref (v 25), .int 0, .ref (v 26), .int 0])), ((v 19), .inl (cI, 3, .inl (tb []))), ((v 18), .inl (cI, 3, .inl (tb []))), ((v 20), .inl (cI, 4, .inl (tb []))), ((v 21), .inl (cI, 4, .inl (tb []))), ((v 12), .inl (cI, 400000, .inl (tb []))), ((v 13), .inl (cI, 100000, .inl (tb []))), ((v 14), .inl (cI, 6001, .inl (tb []))), ((v 15), .inl (cI, 100000, .inl (tb []))), ((v 16), .inl (cI, 24000, .inl (tb []))), ((v 17), .inl (cI, 6000, .inl (tb []))), ((v 6), .inl (cI, 4, .inl (tb [0, 0, 0, 0]))), ((v 7), .inl (cI, 8, .inl (tb [])))]) rfl rfl rfl rfl (by decide) (c192_X8_add l dC dI cI cJ cII cJJ H.size g qx (u 10) (u 11) (u 13) (u 0) (u 14) (u 15) (u 16) (u 17) (u 18) (u 21) (u 23) (u 22) (u 12) (u 59) (u 61) (u 62) (u 28) (u 51) (u 60) (u 24) (u 19) (u 20) (u 1) (u 5) (u 6) (u 7) (u 8) (u 9) y1 h_y1) ⟨by decide +kernel, by decide +kernel⟩ rfl rfl (Or.inr ⟨rfl, rfl, rfl⟩) (rest := []) rfl rfl rfl hl.1 rfl (Nat.le_of_ble_eq_true rfl) dL_law_804 ⟨Nat.le_of_ble_eq_true rfl, Nat.le_of_ble_eq_true rfl⟩ (W' := [(qm, .inr (9, [.ref (v 0), .ref (v 1), .ref (v 2), .ref (v 3), .ref (v 4), .ref (v 5), .ref (v 6), .ref (v 7), .ref (v 8), .ref (v 9), .ref (v 10), .ref (v 11), .int 1, .int 0, .int 0, .ref (v 12), .ref (v 13), .ref (v 14), .ref (v 15), .ref (v 16), .ref (v 17), .int 0, .int 0, .ref (v 18), .ref (v 19), .ref (v 20), .ref (v 21), .int 0, .int 0, .ref (v 22), .ref (v 23), .ref (v 24), .ref (v 25), .int 0, .ref (v 26), .int 0])), ((v 19), .inl (cI, 3, .inl (tb []))), ((v 18), .inl (cI, 3, .inl (tb []))), ((v 20), .inl (cI, 4, .inl (tb []))), ((v 21), .inl (cI, 4, .inl (tb []))), ((v 12), .inl (cI, 400000, .inl (tb []))), ((v 13), .inl (cI, 100000, .inl (tb []))), ((v 14), .inl (cI, 6001, .inl (tb []))), ((v 15), .inl (cI, 100000, .inl (tb []))), ((v 16), .inl (cI, 24000, .inl (tb []))), ((v 17), .inl (cI, 6000, .inl (tb []))), ((v 6), .inl (cI, 4, .inl (tb [0, 0, 0, 0]))), ((v 7), .inl (cI, 8, .inl (tb [])))]) rfl (fun H locs hP hD hS => ?_)
  refine lv_aload_n hx hb dL_law_807 rfl (lv_at hl 1 rfl) ?_
  refine lv_aload_n hx hb dL_law_808 rfl (lv_at hl 3 rfl) ?_
  refine lv_iload_n hx hb dL_law_809 rfl (lv_at hl 0 rfl) ?_
  refine lv_iconst (v := 1) hx hb dL_law_810 (by decide) ?_
  refine v_iadd hx hb dL_law_811 1 (by decide +kernel) ?_
  refine va_sld hx hb hX0 hbl hbA hS (vin (by decide +kernel)) dL_law_812 ?_
  refine tvi (v := 1) e_y0 ?_
  refine lv_aload_n hx hb dL_law_813 rfl (lv_at hl 3 rfl) ?_
  refine lv_iload_n hx hb dL_law_814 rfl (lv_at hl 0 rfl) ?_
  refine lv_iconst (v := 2) hx hb dL_law_815 (by decide) ?_
  refine v_iadd hx hb dL_law_816 2 (by decide +kernel) ?_
  refine va_sld hx hb hX0 hbl hbA hS (vin (by decide +kernel)) dL_law_817 ?_
  refine tvi (v := y1) e_y1 ?_
  refine kV_i (q0 := 0) ⟨hx, hb, hml, hown, hts⟩ hK hP hD hS hA hX cv_RL_100 [0, 1, 2, 3, 4, 5, 6, 7, 8, 9, 10, 11, 12] [] (wr := []) rfl rfl rfl rfl (by decide) (c451_X9_add l dC dI cI cJ cII cJJ H.size 0 qm (v 19) (v 18) (v 20) (v 21) (v 12) (v 13) (v 14) (v 15) (v 16) (v 17) (v 6) (v 7) (v 0) (v 1) (v 2) (v 3) (v 4) (v 5) (v 8) (v 9) (v 10) (v 11) (v 22) (v 23) (v 24) (v 25) (v 26) y1 h_y1) ⟨by decide +kernel, by decide +kernel⟩ rfl rfl (Or.inl rfl) (rest := [.int (-4)]) rfl rfl rfl hl.1 rfl (Nat.le_of_ble_eq_true rfl) dL_law_818 ⟨Nat.le_of_ble_eq_true rfl, Nat.le_of_ble_eq_true rfl⟩ (W' := []) rfl (fun H locs hP hD hS => ?_)
  refine t_icmp_eq hx hb dL_law_821 1073 (by decide) rfl ?_
  exact law_end l C0 rfl hS hl
set_option maxRecDepth 100000 in
set_option maxHeartbeats 4000000 in
theorem lr_90 {p : Program} {e : Env} {s : State} {m : MethodId} {below : List Frame} {meth : Method} {c : Code} (l : Launch) {b L : Nat} {xs : Nat → Int32} (C0 : lw_At p s m meth c b L xs) (hL : L = 5) {dC : Nat → ClassId} {dI : Nat → Nat → Nat} {cI cJ cII cJJ : ClassId} {g qx qm : Nat} {u v : Nat → Nat} {H : Heap} {locs : List Loc} {ls : Array Slot} (e_y0 : xs 1 = 1) (y1 : Int32) (h_y1 : 10001 ≤ y1.toInt ∧ y1.toInt ≤ 2147483647) (e_y1 : xs 2 = y1) (hK : va_K (dC, dI) vwCl (TY cI cJ cII cJJ) s) (hX : GXA 1 g (AA s) s) (hP : va_P (dC, dI) vwCl (WLD cI cJ cII cJJ qx qm u v) H) (hD : va_D (AA s) (WLD cI cJ cII cJJ qx qm u v)) (hS : va_S (AA s) s.heap H locs) (hl : lv_has ls 4 [(3, .int 0), (2, .ref qm), (1, .ref qx), (0, .ref b)]) : W p l e room_1 s m #[Value.ref b] below meth c H locs 600000 7302250 (lw_Z below #[Value.ref b] s) (F0 m 793 ls []) := by
  obtain ⟨hx, hb, hr, hml, hown, hts0, hX0, hbl, hlocks, hgv⟩ := id C0
  have hts : ∀ w ∈ TT, w.before #[Value.ref b] s = true := fun w h => hts0 w (TT_tbl h)
  have hA : ∀ q : Nat, s.heap.size ≤ q → AA s q := fun _ h => h
  have hbA : ¬ AA s b := Nat.not_le.mpr hbl
  have hown : s.vm.findClass RL = some m.cls := hown
  subst hL
  refine lv_aload_n hx hb dL_law_793 rfl (lv_at hl 2 rfl) ?_
  refine lv_aload_n hx hb dL_law_794 rfl (lv_at hl 3 rfl) ?_
  refine lv_iload_n hx hb dL_law_795 rfl (lv_at hl 0 rfl) ?_
  refine lv_iconst (v := 1) hx hb dL_law_796 (by decide) ?_
  refine v_iadd hx hb dL_law_797 1 (by decide +kernel) ?_
  refine va_sld hx hb hX0 hbl hbA hS (vin (by decide +kernel)) dL_law_798 ?_
  refine tvi (v := 1) e_y0 ?_
  refine lv_aload_n hx hb dL_law_799 rfl (lv_at hl 3 rfl) ?_
  refine lv_iload_n hx hb dL_law_800 rfl (lv_at hl 0 rfl) ?_
  refine lv_iconst (v := 2) hx hb dL_law_801 (by decide) ?_
  refine v_iadd hx hb dL_law_802 2 (by decide +kernel) ?_
  refine va_sld hx hb hX0 hbl hbA hS (vin (by decide +kernel)) dL_law_803 ?_
  refine tvi (v := y1) e_y1 ?_
  refine kV_i (q0 := 0) ⟨hx, hb, hml, hown, hts⟩ hK hP hD hS hA hX cv_RL_97 [0, 11, 12, 14, 6, 15, 16, 17, 18, 19, 22, 24, 23, 13, 60, 62, 63] [86, 78, 77, 79, 80, 71, 72, 73, 74, 75, 76, 91, 66] (wr := [(qm, .inr (9, [.ref (v 0), .ref (v 1), .ref (v 2), .ref (v 3), .ref (v 4), .ref (v 5), .ref (v 6), .ref (v 7), .ref (v 8), .ref (v 9), .ref (v 10), .ref (v 11), .int 1, .int 0, .int 0, .ref (v 12), .ref (v 13), .ref (v 14), .ref (v 15), .ref (v 16), .ref (v 17), .int 0, .int 0, .ref (v 18), .ref (v 19), .ref (v 20), .ref (v 21), .int 0, .int 0, .ref (v 22), .ref (v 23), .ref (v 24), .ref (v 25), .int 0, .ref (v 26), .int 0])), ((v 19), .inl (cI, 3, .inl (tb []))), ((v 18), .inl (cI, 3, .inl (tb []))), ((v 20), .inl (cI, 4, .inl (tb []))), ((v 21), .inl (cI, 4, .inl (tb []))), ((v 12), .inl (cI, 400000, .inl (tb []))), ((v 13), .inl (cI, 100000, .inl (tb []))), ((v 14), .inl (cI, 6001, .inl (tb []))), ((v 15), .inl (cI, 100000, .inl (tb []))), ((v 16), .inl (cI, 24000, .inl (tb []))), ((v 17), .inl (cI, 6000, .inl (tb []))), ((v 6), .inl (cI, 4, .inl (tb [0, 0, 0, 0]))), ((v 7), .inl (cI, 8, .inl (tb [])))]) rfl rfl rfl rfl (by decide) (c194_X8_add l dC dI cI cJ cII cJJ H.size g qx (u 10) (u 11) (u 13) (u 0) (u 14) (u 15) (u 16) (u 17) (u 18) (u 21) (u 23) (u 22) (u 12) (u 59) (u 61) (u 62) (u 28) (u 51) (u 60) (u 24) (u 19) (u 20) (u 1) (u 5) (u 6) (u 7) (u 8) (u 9) y1 h_y1) ⟨by decide +kernel, by decide +kernel⟩ rfl rfl (Or.inr ⟨rfl, rfl, rfl⟩) (rest := []) rfl rfl rfl hl.1 rfl (Nat.le_of_ble_eq_true rfl) dL_law_804 ⟨Nat.le_of_ble_eq_true rfl, Nat.le_of_ble_eq_true rfl⟩ (W' := [(qm, .inr (9, [.ref (v 0), .ref (v 1), .ref (v 2), .ref (v 3), .ref (v 4), .ref (v 5), .ref (v 6), .ref (v 7), .ref (v 8), .ref (v 9), .ref (v 10), .ref (v 11), .int 1, .int 0, .int 0, .ref (v 12), .ref (v 13), .ref (v 14), .ref (v 15), .ref (v 16), .ref (v 17), .int 0, .int 0, .ref (v 18), .ref (v 19), .ref (v 20), .ref (v 21), .int 0, .int 0, .ref (v 22), .ref (v 23), .ref (v 24), .ref (v 25), .int 0, .ref (v 26), .int 0])), ((v 19), .inl (cI, 3, .inl (tb []))), ((v 18), .inl (cI, 3, .inl (tb []))), ((v 20), .inl (cI, 4, .inl (tb []))), ((v 21), .inl (cI, 4, .inl (tb []))), ((v 12), .inl (cI, 400000, .inl (tb []))), ((v 13), .inl (cI, 100000, .inl (tb []))), ((v 14), .inl (cI, 6001, .inl (tb []))), ((v 15), .inl (cI, 100000, .inl (tb []))), ((v 16), .inl (cI, 24000, .inl (tb []))), ((v 17), .inl (cI, 6000, .inl (tb []))), ((v 6), .inl (cI, 4, .inl (tb [0, 0, 0, 0]))), ((v 7), .inl (cI, 8, .inl (tb [])))]) rfl (fun H locs hP hD hS => ?_)
  refine lv_aload_n hx hb dL_law_807 rfl (lv_at hl 1 rfl) ?_
  refine lv_aload_n hx hb dL_law_808 rfl (lv_at hl 3 rfl) ?_
  refine lv_iload_n hx hb dL_law_809 rfl (lv_at hl 0 rfl) ?_
  refine lv_iconst (v := 1) hx hb dL_law_810 (by decide) ?_
  refine v_iadd hx hb dL_law_811 1 (by decide +kernel) ?_
  refine va_sld hx hb hX0 hbl hbA hS (vin (by decide +kernel)) dL_law_812 ?_
  refine tvi (v := 1) e_y0 ?_
  refine lv_aload_n hx hb dL_law_813 rfl (lv_at hl 3 rfl) ?_
  refine lv_iload_n hx hb dL_law_814 rfl (lv_at hl 0 rfl) ?_
  refine lv_iconst (v := 2) hx hb dL_law_815 (by decide) ?_
  refine v_iadd hx hb dL_law_816 2 (by decide +kernel) ?_
  refine va_sld hx hb hX0 hbl hbA hS (vin (by decide +kernel)) dL_law_817 ?_
  refine tvi (v := y1) e_y1 ?_
  refine kV_i (q0 := 0) ⟨hx, hb, hml, hown, hts⟩ hK hP hD hS hA hX cv_RL_100 [0, 1, 2, 3, 4, 5, 6, 7, 8, 9, 10, 11, 12] [] (wr := []) rfl rfl rfl rfl (by decide) (c453_X9_add l dC dI cI cJ cII cJJ H.size 0 qm (v 19) (v 18) (v 20) (v 21) (v 12) (v 13) (v 14) (v 15) (v 16) (v 17) (v 6) (v 7) (v 0) (v 1) (v 2) (v 3) (v 4) (v 5) (v 8) (v 9) (v 10) (v 11) (v 22) (v 23) (v 24) (v 25) (v 26) y1 h_y1) ⟨by decide +kernel, by decide +kernel⟩ rfl rfl (Or.inl rfl) (rest := [.int (-6)]) rfl rfl rfl hl.1 rfl (Nat.le_of_ble_eq_true rfl) dL_law_818 ⟨Nat.le_of_ble_eq_true rfl, Nat.le_of_ble_eq_true rfl⟩ (W' := []) rfl (fun H locs hP hD hS => ?_)
  refine t_icmp_eq hx hb dL_law_821 1073 (by decide) rfl ?_
  exact law_end l C0 rfl hS hl
set_option maxRecDepth 100000 in
set_option maxHeartbeats 4000000 in
theorem lr_91 {p : Program} {e : Env} {s : State} {m : MethodId} {below : List Frame} {meth : Method} {c : Code} (l : Launch) {b L : Nat} {xs : Nat → Int32} (C0 : lw_At p s m meth c b L xs) (hL : L = 5) {dC : Nat → ClassId} {dI : Nat → Nat → Nat} {cI cJ cII cJJ : ClassId} {g qx qm : Nat} {u v : Nat → Nat} {H : Heap} {locs : List Loc} {ls : Array Slot} (e_y0 : xs 1 = 1) (y1 : Int32) (h_y1 : -10000 ≤ y1.toInt ∧ y1.toInt ≤ 10000) (e_y1 : xs 2 = y1) (hK : va_K (dC, dI) vwCl (TY cI cJ cII cJJ) s) (hX : GXA 1 g (AA s) s) (hP : va_P (dC, dI) vwCl (WLD cI cJ cII cJJ qx qm u v) H) (hD : va_D (AA s) (WLD cI cJ cII cJJ qx qm u v)) (hS : va_S (AA s) s.heap H locs) (hl : lv_has ls 4 [(3, .int 0), (2, .ref qm), (1, .ref qx), (0, .ref b)]) : W p l e room_1 s m #[Value.ref b] below meth c H locs 600000 7302250 (lw_Z below #[Value.ref b] s) (F0 m 793 ls []) := by
  obtain ⟨hx, hb, hr, hml, hown, hts0, hX0, hbl, hlocks, hgv⟩ := id C0
  have hts : ∀ w ∈ TT, w.before #[Value.ref b] s = true := fun w h => hts0 w (TT_tbl h)
  have hA : ∀ q : Nat, s.heap.size ≤ q → AA s q := fun _ h => h
  have hbA : ¬ AA s b := Nat.not_le.mpr hbl
  have hown : s.vm.findClass RL = some m.cls := hown
  subst hL
  refine lv_aload_n hx hb dL_law_793 rfl (lv_at hl 2 rfl) ?_
  refine lv_aload_n hx hb dL_law_794 rfl (lv_at hl 3 rfl) ?_
  refine lv_iload_n hx hb dL_law_795 rfl (lv_at hl 0 rfl) ?_
  refine lv_iconst (v := 1) hx hb dL_law_796 (by decide) ?_
  refine v_iadd hx hb dL_law_797 1 (by decide +kernel) ?_
  refine va_sld hx hb hX0 hbl hbA hS (vin (by decide +kernel)) dL_law_798 ?_
  refine tvi (v := 1) e_y0 ?_
  refine lv_aload_n hx hb dL_law_799 rfl (lv_at hl 3 rfl) ?_
  refine lv_iload_n hx hb dL_law_800 rfl (lv_at hl 0 rfl) ?_
  refine lv_iconst (v := 2) hx hb dL_law_801 (by decide) ?_
  refine v_iadd hx hb dL_law_802 2 (by decide +kernel) ?_
  refine va_sld hx hb hX0 hbl hbA hS (vin (by decide +kernel)) dL_law_803 ?_
  refine tvi (v := y1) e_y1 ?_
  refine kV_i (q0 := 0) ⟨hx, hb, hml, hown, hts⟩ hK hP hD hS hA hX cv_RL_97 [0, 11, 12, 14, 6, 15, 16, 17, 18, 19, 22, 24, 23, 13, 60, 62] [86, 78, 77, 79, 80, 71, 72, 73, 74, 75, 76, 91] (wr := [(qm, .inr (9, [.ref (v 0), .ref (v 1), .ref (v 2), .ref (v 3), .ref (v 4), .ref (v 5), .ref (v 6), .ref (v 7), .ref (v 8), .ref (v 9), .ref (v 10), .ref (v 11), .int 1, .int 0, .int 0, .ref (v 12), .ref (v 13), .ref (v 14), .ref (v 15), .ref (v 16), .ref (v 17), .int 0, .int 0, .ref (v 18), .ref (v 19), .ref (v 20), .ref (v 21), .int 0, .int 0, .ref (v 22), .ref (v 23), .ref (v 24), .ref (v 25), .int 0, .ref (v 26), .int 0])), ((v 19), .inl (cI, 3, .inl (tb []))), ((v 18), .inl (cI, 3, .inl (tb []))), ((v 20), .inl (cI, 4, .inl (tb []))), ((v 21), .inl (cI, 4, .inl (tb []))), ((v 12), .inl (cI, 400000, .inl (tb []))), ((v 13), .inl (cI, 100000, .inl (tb []))), ((v 14), .inl (cI, 6001, .inl (tb []))), ((v 15), .inl (cI, 100000, .inl (tb []))), ((v 16), .inl (cI, 24000, .inl (tb []))), ((v 17), .inl (cI, 6000, .inl (tb []))), ((v 6), .inl (cI, 4, .inl (tb [0, 0, 0, 0])))]) rfl rfl rfl rfl (by decide) (c196_X8_add l dC dI cI cJ cII cJJ H.size g qx (u 10) (u 11) (u 13) (u 0) (u 14) (u 15) (u 16) (u 17) (u 18) (u 21) (u 23) (u 22) (u 12) (u 59) (u 61) (u 28) (u 51) (u 60) (u 62) (u 24) (u 19) (u 20) (u 1) (u 5) (u 6) (u 7) (u 8) (u 9) y1 h_y1) ⟨by decide +kernel, by decide +kernel⟩ rfl rfl (Or.inr ⟨rfl, rfl, rfl⟩) (rest := []) rfl rfl rfl hl.1 rfl (Nat.le_of_ble_eq_true rfl) dL_law_804 ⟨Nat.le_of_ble_eq_true rfl, Nat.le_of_ble_eq_true rfl⟩ (W' := [(qm, .inr (9, [.ref (v 0), .ref (v 1), .ref (v 2), .ref (v 3), .ref (v 4), .ref (v 5), .ref (v 6), .ref (v 7), .ref (v 8), .ref (v 9), .ref (v 10), .ref (v 11), .int 1, .int 0, .int 0, .ref (v 12), .ref (v 13), .ref (v 14), .ref (v 15), .ref (v 16), .ref (v 17), .int 0, .int 0, .ref (v 18), .ref (v 19), .ref (v 20), .ref (v 21), .int 0, .int 0, .ref (v 22), .ref (v 23), .ref (v 24), .ref (v 25), .int 0, .ref (v 26), .int 0])), ((v 19), .inl (cI, 3, .inl (tb []))), ((v 18), .inl (cI, 3, .inl (tb []))), ((v 20), .inl (cI, 4, .inl (tb []))), ((v 21), .inl (cI, 4, .inl (tb []))), ((v 12), .inl (cI, 400000, .inl (tb []))), ((v 13), .inl (cI, 100000, .inl (tb []))), ((v 14), .inl (cI, 6001, .inl (tb []))), ((v 15), .inl (cI, 100000, .inl (tb []))), ((v 16), .inl (cI, 24000, .inl (tb []))), ((v 17), .inl (cI, 6000, .inl (tb []))), ((v 6), .inl (cI, 4, .inl (tb [0, 0, 0, 0])))]) rfl (fun H locs hP hD hS => ?_)
  refine lv_aload_n hx hb dL_law_807 rfl (lv_at hl 1 rfl) ?_
  refine lv_aload_n hx hb dL_law_808 rfl (lv_at hl 3 rfl) ?_
  refine lv_iload_n hx hb dL_law_809 rfl (lv_at hl 0 rfl) ?_
  refine lv_iconst (v := 1) hx hb dL_law_810 (by decide) ?_
  refine v_iadd hx hb dL_law_811 1 (by decide +kernel) ?_
  refine va_sld hx hb hX0 hbl hbA hS (vin (by decide +kernel)) dL_law_812 ?_
  refine tvi (v := 1) e_y0 ?_
  refine lv_aload_n hx hb dL_law_813 rfl (lv_at hl 3 rfl) ?_
  refine lv_iload_n hx hb dL_law_814 rfl (lv_at hl 0 rfl) ?_
  refine lv_iconst (v := 2) hx hb dL_law_815 (by decide) ?_
  refine v_iadd hx hb dL_law_816 2 (by decide +kernel) ?_
  refine va_sld hx hb hX0 hbl hbA hS (vin (by decide +kernel)) dL_law_817 ?_
  refine tvi (v := y1) e_y1 ?_
  refine kV_i (q0 := 0) ⟨hx, hb, hml, hown, hts⟩ hK hP hD hS hA hX cv_RL_100 [0, 1, 2, 3, 4, 5, 6, 7, 8, 9, 10, 11] [] (wr := []) rfl rfl rfl rfl (by decide) (c455_X9_add l dC dI cI cJ cII cJJ H.size 0 qm (v 19) (v 18) (v 20) (v 21) (v 12) (v 13) (v 14) (v 15) (v 16) (v 17) (v 6) (v 0) (v 1) (v 2) (v 3) (v 4) (v 5) (v 7) (v 8) (v 9) (v 10) (v 11) (v 22) (v 23) (v 24) (v 25) (v 26) y1 h_y1) ⟨by decide +kernel, by decide +kernel⟩ rfl rfl (Or.inl rfl) (rest := [.int 1]) rfl rfl rfl hl.1 rfl (Nat.le_of_ble_eq_true rfl) dL_law_818 ⟨Nat.le_of_ble_eq_true rfl, Nat.le_of_ble_eq_true rfl⟩ (W' := []) rfl (fun H locs hP hD hS => ?_)
  refine t_icmp_eq hx hb dL_law_821 1073 (by decide) rfl ?_
  exact law_end l C0 rfl hS hl
set_option maxRecDepth 100000 in
set_option maxHeartbeats 4000000 in
theorem lc_19 {p : Program} {e : Env} {s : State} {m : MethodId} {below : List Frame} {meth : Method} {c : Code} (l : Launch) {b L : Nat} {xs : Nat → Int32} (C0 : lw_At p s m meth c b L xs) (hL : L = 5) {dC : Nat → ClassId} {dI : Nat → Nat → Nat} {cI cJ cII cJJ : ClassId} {g qx qm : Nat} {u v : Nat → Nat} {H : Heap} {locs : List Loc} {ls : Array Slot} (hK : va_K (dC, dI) vwCl (TY cI cJ cII cJJ) s) (hX : GXA 1 g (AA s) s) (hP : va_P (dC, dI) vwCl (WLD cI cJ cII cJJ qx qm u v) H) (hD : va_D (AA s) (WLD cI cJ cII cJJ qx qm u v)) (hS : va_S (AA s) s.heap H locs) (hl : lv_has ls 4 [(3, .int 0), (2, .ref qm), (1, .ref qx), (0, .ref b)]) : W p l e room_1 s m #[Value.ref b] below meth c H locs 600000 7302250 (lw_Z below #[Value.ref b] s) (F0 m 793 ls []) := by
  have q1 := s_any (xs 1)
  have q2 := s_any (xs 2)
  have key : ((xs 1).toInt ≤ -1) ∨ (2 ≤ (xs 1).toInt) ∨ ((xs 1).toInt = 0 ∧ (xs 2).toInt ≤ -10001) ∨ ((xs 1).toInt = 0 ∧ 10001 ≤ (xs 2).toInt) ∨ ((xs 1).toInt = 0 ∧ (-10000 ≤ (xs 2).toInt ∧ (xs 2).toInt ≤ 10000)) ∨ ((xs 1).toInt = 1 ∧ (xs 2).toInt ≤ -10001) ∨ ((xs 1).toInt = 1 ∧ 10001 ≤ (xs 2).toInt) ∨ ((xs 1).toInt = 1 ∧ (-10000 ≤ (xs 2).toInt ∧ (xs 2).toInt ≤ 10000)) := by omega
  rcases key with h | h | h | h | h | h | h | h
  · exact lr_84 l C0 hL (xs 1) ⟨by omega, by omega⟩ rfl (xs 2) ⟨by omega, by omega⟩ rfl hK hX hP hD hS hl
  · exact lr_85 l C0 hL (xs 1) ⟨by omega, by omega⟩ rfl (xs 2) ⟨by omega, by omega⟩ rfl hK hX hP hD hS hl
  · exact lr_86 l C0 hL (Int32.toInt_inj.mp (by rw [show (0 : Int32).toInt = 0 from by decide +kernel]; omega)) (xs 2) ⟨by omega, by omega⟩ rfl hK hX hP hD hS hl
  · exact lr_87 l C0 hL (Int32.toInt_inj.mp (by rw [show (0 : Int32).toInt = 0 from by decide +kernel]; omega)) (xs 2) ⟨by omega, by omega⟩ rfl hK hX hP hD hS hl
  · exact lr_88 l C0 hL (Int32.toInt_inj.mp (by rw [show (0 : Int32).toInt = 0 from by decide +kernel]; omega)) (xs 2) ⟨by omega, by omega⟩ rfl hK hX hP hD hS hl
  · exact lr_89 l C0 hL (Int32.toInt_inj.mp (by rw [show (1 : Int32).toInt = 1 from by decide +kernel]; omega)) (xs 2) ⟨by omega, by omega⟩ rfl hK hX hP hD hS hl
  · exact lr_90 l C0 hL (Int32.toInt_inj.mp (by rw [show (1 : Int32).toInt = 1 from by decide +kernel]; omega)) (xs 2) ⟨by omega, by omega⟩ rfl hK hX hP hD hS hl
  · exact lr_91 l C0 hL (Int32.toInt_inj.mp (by rw [show (1 : Int32).toInt = 1 from by decide +kernel]; omega)) (xs 2) ⟨by omega, by omega⟩ rfl hK hX hP hD hS hl
set_option maxRecDepth 100000 in
set_option maxHeartbeats 4000000 in
theorem lr_92 {p : Program} {e : Env} {s : State} {m : MethodId} {below : List Frame} {meth : Method} {c : Code} (l : Launch) {b L : Nat} {xs : Nat → Int32} (C0 : lw_At p s m meth c b L xs) (hL : L = 5) {dC : Nat → ClassId} {dI : Nat → Nat → Nat} {cI cJ cII cJJ : ClassId} {g qx qm : Nat} {u v : Nat → Nat} {H : Heap} {locs : List Loc} {ls : Array Slot} (hK : va_K (dC, dI) vwCl (TY cI cJ cII cJJ) s) (hX : GXA 1 g (AA s) s) (hP : va_P (dC, dI) vwCl (WLD cI cJ cII cJJ qx qm u v) H) (hD : va_D (AA s) (WLD cI cJ cII cJJ qx qm u v)) (hS : va_S (AA s) s.heap H locs) (hl : lv_has ls 4 [(3, .int 0), (2, .ref qm), (1, .ref qx), (0, .ref b)]) : W p l e room_1 s m #[Value.ref b] below meth c H locs 600000 7302250 (lw_Z below #[Value.ref b] s) (F0 m 826 ls []) := by
  obtain ⟨hx, hb, hr, hml, hown, hts0, hX0, hbl, hlocks, hgv⟩ := id C0
  have hts : ∀ w ∈ TT, w.before #[Value.ref b] s = true := fun w h => hts0 w (TT_tbl h)
  have hA : ∀ q : Nat, s.heap.size ≤ q → AA s q := fun _ h => h
  have hbA : ¬ AA s b := Nat.not_le.mpr hbl
  have hown : s.vm.findClass RL = some m.cls := hown
  subst hL
  refine lv_aload_n hx hb dL_law_826 rfl (lv_at hl 2 rfl) ?_
  refine kV_l (q0 := 0) ⟨hx, hb, hml, hown, hts⟩ hK hP hD hS hA hX cv_RL_101 [0, 6, 60, 10, 9] [86, 89, 91, 90] (wr := [(qm, .inr (9, [.ref (v 0), .ref (v 1), .ref (v 2), .ref (v 3), .ref (v 4), .ref (v 5), .ref (v 6), .ref (v 7), .ref (v 8), .ref (v 9), .ref (v 10), .ref (v 11), .int 1, .int 0, .int 0, .ref (v 12), .ref (v 13), .ref (v 14), .ref (v 15), .ref (v 16), .ref (v 17), .int 0, .int 0, .ref (v 18), .ref (v 19), .ref (v 20), .ref (v 21), .int 0, .int 0, .ref (v 22), .ref (v 23), .ref (v 24), .ref (v 25), .int 0, .ref (v 26), .int 0])), ((v 4), .inl (cI, 4, .inl (tb [0, 0, 0, 0]))), ((v 6), .inl (cI, 4, .inl (tb [0, 0, 0, 0]))), ((v 5), .inl (cI, 4, .inl (tb [0, 0, 0, 0])))]) rfl rfl rfl rfl (by decide) (c197_X8_cost l dC dI cI cJ cII cJJ H.size 0 qx (u 0) (u 59) (u 9) (u 8) (u 10) (u 28) (u 51) (u 60) (u 61) (u 62) (u 1) (u 5) (u 6) (u 7)) ⟨by decide +kernel, by decide +kernel⟩ rfl rfl (Or.inl rfl) (rest := []) rfl rfl rfl hl.1 rfl (Nat.le_of_ble_eq_true rfl) dL_law_827 ⟨Nat.le_of_ble_eq_true rfl, Nat.le_of_ble_eq_true rfl⟩ (W' := [(qm, .inr (9, [.ref (v 0), .ref (v 1), .ref (v 2), .ref (v 3), .ref (v 4), .ref (v 5), .ref (v 6), .ref (v 7), .ref (v 8), .ref (v 9), .ref (v 10), .ref (v 11), .int 1, .int 0, .int 0, .ref (v 12), .ref (v 13), .ref (v 14), .ref (v 15), .ref (v 16), .ref (v 17), .int 0, .int 0, .ref (v 18), .ref (v 19), .ref (v 20), .ref (v 21), .int 0, .int 0, .ref (v 22), .ref (v 23), .ref (v 24), .ref (v 25), .int 0, .ref (v 26), .int 0])), ((v 4), .inl (cI, 4, .inl (tb [0, 0, 0, 0]))), ((v 6), .inl (cI, 4, .inl (tb [0, 0, 0, 0]))), ((v 5), .inl (cI, 4, .inl (tb [0, 0, 0, 0])))]) rfl (fun H locs hP hD hS => ?_)
  refine lv_aload_n hx hb dL_law_830 rfl (lv_at hl 1 rfl) ?_
  refine kV_l (q0 := 0) ⟨hx, hb, hml, hown, hts⟩ hK hP hD hS hA hX cv_RL_105 [0, 1, 2, 3] [] (wr := []) rfl rfl rfl rfl (by decide) (c457_X9_cost l dC dI cI cJ cII cJJ H.size 0 qm (v 4) (v 6) (v 5) (v 0) (v 1) (v 2) (v 3) (v 7) (v 8) (v 9) (v 10) (v 11) (v 12) (v 13) (v 14) (v 15) (v 16) (v 17) (v 18) (v 19) (v 20) (v 21) (v 22) (v 23) (v 24) (v 25) (v 26)) ⟨by decide +kernel, by decide +kernel⟩ rfl rfl (Or.inl rfl) (rest := [.long 0]) rfl rfl rfl hl.1 rfl (Nat.le_of_ble_eq_true rfl) dL_law_831 ⟨Nat.le_of_ble_eq_true rfl, Nat.le_of_ble_eq_true rfl⟩ (W' := []) rfl (fun H locs hP hD hS => ?_)
  refine v_lcmp hx hb dL_law_834 0 (by decide +kernel) ?_
  refine t_if_eq hx hb dL_law_835 1073 (by decide) rfl ?_
  exact law_end l C0 rfl hS hl
set_option maxRecDepth 100000 in
set_option maxHeartbeats 4000000 in
theorem lc_20 {p : Program} {e : Env} {s : State} {m : MethodId} {below : List Frame} {meth : Method} {c : Code} (l : Launch) {b L : Nat} {xs : Nat → Int32} (C0 : lw_At p s m meth c b L xs) (hL : L = 5) {dC : Nat → ClassId} {dI : Nat → Nat → Nat} {cI cJ cII cJJ : ClassId} {g qx qm : Nat} {u v : Nat → Nat} {H : Heap} {locs : List Loc} {ls : Array Slot} (hK : va_K (dC, dI) vwCl (TY cI cJ cII cJJ) s) (hX : GXA 1 g (AA s) s) (hP : va_P (dC, dI) vwCl (WLD cI cJ cII cJJ qx qm u v) H) (hD : va_D (AA s) (WLD cI cJ cII cJJ qx qm u v)) (hS : va_S (AA s) s.heap H locs) (hl : lv_has ls 4 [(3, .int 0), (2, .ref qm), (1, .ref qx), (0, .ref b)]) : W p l e room_1 s m #[Value.ref b] below meth c H locs 600000 7302250 (lw_Z below #[Value.ref b] s) (F0 m 826 ls []) := by
  exact lr_92 l C0 hL  hK hX hP hD hS hl
set_option maxRecDepth 100000 in
set_option maxHeartbeats 4000000 in
theorem lr_93 {p : Program} {e : Env} {s : State} {m : MethodId} {below : List Frame} {meth : Method} {c : Code} (l : Launch) {b L : Nat} {xs : Nat → Int32} (C0 : lw_At p s m meth c b L xs) (hL : L = 5) {dC : Nat → ClassId} {dI : Nat → Nat → Nat} {cI cJ cII cJJ : ClassId} {g qx qm : Nat} {u v : Nat → Nat} {H : Heap} {locs : List Loc} {ls : Array Slot} (hK : va_K (dC, dI) vwCl (TY cI cJ cII cJJ) s) (hX : GXA 1 g (AA s) s) (hP : va_P (dC, dI) vwCl (WLD cI cJ cII cJJ qx qm u v) H) (hD : va_D (AA s) (WLD cI cJ cII cJJ qx qm u v)) (hS : va_S (AA s) s.heap H locs) (hl : lv_has ls 4 [(3, .int 0), (2, .ref qm), (1, .ref qx), (0, .ref b)]) : W p l e room_1 s m #[Value.ref b] below meth c H locs 600000 7302250 (lw_Z below #[Value.ref b] s) (F0 m 840 ls []) := by
  obtain ⟨hx, hb, hr, hml, hown, hts0, hX0, hbl, hlocks, hgv⟩ := id C0
  have hts : ∀ w ∈ TT, w.before #[Value.ref b] s = true := fun w h => hts0 w (TT_tbl h)
  have hA : ∀ q : Nat, s.heap.size ≤ q → AA s q := fun _ h => h
  have hbA : ¬ AA s b := Nat.not_le.mpr hbl
  have hown : s.vm.findClass RL = some m.cls := hown
  subst hL
  refine lv_aload_n hx hb dL_law_840 rfl (lv_at hl 2 rfl) ?_
  refine kV_i (q0 := 0) ⟨hx, hb, hml, hown, hts⟩ hK hP hD hS hA hX cv_RL_106 [0, 6, 60, 7, 8, 11, 12, 14, 15, 16, 17, 18, 19, 22, 24, 23, 13, 9, 10] [86, 87, 91, 88, 78, 77, 79, 80, 71, 72, 73, 74, 75, 76, 89, 90, 84] (wr := [(qm, .inr (9, [.ref (v 0), .ref (v 1), .ref (v 2), .ref (v 3), .ref (v 4), .ref (v 5), .ref (v 6), .ref (v 7), .ref (v 8), .ref (v 9), .ref (v 10), .ref (v 11), .int 1, .int 0, .int 0, .ref (v 12), .ref (v 13), .ref (v 14), .ref (v 15), .ref (v 16), .ref (v 17), .int 0, .int 0, .ref (v 18), .ref (v 19), .ref (v 20), .ref (v 21), .int 0, .int 0, .ref (v 22), .ref (v 23), .ref (v 24), .ref (v 25), .int 0, .ref (v 26), .int 0])), ((v 2), .inl (cI, 4, .inl (tb [0, 0, 0, 0]))), ((v 6), .inl (cI, 4, .inl (tb [0, 0, 0, 0]))), ((v 3), .inl (cI, 4, .inl (tb [10, 10, 10, 10]))), ((v 19), .inl (cI, 3, .inl (tb []))), ((v 18), .inl (cI, 3, .inl (tb []))), ((v 20), .inl (cI, 4, .inl (tb []))), ((v 21), .inl (cI, 4, .inl (tb []))), ((v 12), .inl (cI, 400000, .inl (tb []))), ((v 13), .inl (cI, 100000, .inl (tb []))), ((v 14), .inl (cI, 6001, .inl (tb []))), ((v 15), .inl (cI, 100000, .inl (tb []))), ((v 16), .inl (cI, 24000, .inl (tb []))), ((v 17), .inl (cI, 6000, .inl (tb []))), ((v 4), .inl (cI, 4, .inl (tb [0, 0, 0, 0]))), ((v 5), .inl (cI, 4, .inl (tb [0, 0, 0, 0]))), ((v 25), .inl (cI, 4, .inl (tb [])))]) rfl rfl rfl rfl (by decide) (c200_X8_better l dC dI cI cJ cII cJJ H.size g qx (u 0) (u 59) (u 6) (u 7) (u 10) (u 11) (u 13) (u 14) (u 15) (u 16) (u 17) (u 18) (u 21) (u 23) (u 22) (u 12) (u 8) (u 9) (u 28) (u 51) (u 60) (u 61) (u 62) (u 1) (u 5) (u 24) (u 19) (u 20)) ⟨by decide +kernel, by decide +kernel⟩ rfl rfl (Or.inr ⟨rfl, rfl, rfl⟩) (rest := []) rfl rfl rfl hl.1 rfl (Nat.le_of_ble_eq_true rfl) dL_law_841 ⟨Nat.le_of_ble_eq_true rfl, Nat.le_of_ble_eq_true rfl⟩ (W' := [(qm, .inr (9, [.ref (v 0), .ref (v 1), .ref (v 2), .ref (v 3), .ref (v 4), .ref (v 5), .ref (v 6), .ref (v 7), .ref (v 8), .ref (v 9), .ref (v 10), .ref (v 11), .int 1, .int 0, .int 0, .ref (v 12), .ref (v 13), .ref (v 14), .ref (v 15), .ref (v 16), .ref (v 17), .int 0, .int 0, .ref (v 18), .ref (v 19), .ref (v 20), .ref (v 21), .int 0, .int 0, .ref (v 22), .ref (v 23), .ref (v 24), .ref (v 25), .int 0, .ref (v 26), .int 0])), ((v 2), .inl (cI, 4, .inl (tb [0, 0, 0, 0]))), ((v 6), .inl (cI, 4, .inl (tb [0, 0, 0, 0]))), ((v 3), .inl (cI, 4, .inl (tb [10, 10, 10, 10]))), ((v 19), .inl (cI, 3, .inl (tb []))), ((v 18), .inl (cI, 3, .inl (tb []))), ((v 20), .inl (cI, 4, .inl (tb []))), ((v 21), .inl (cI, 4, .inl (tb []))), ((v 12), .inl (cI, 400000, .inl (tb []))), ((v 13), .inl (cI, 100000, .inl (tb []))), ((v 14), .inl (cI, 6001, .inl (tb []))), ((v 15), .inl (cI, 100000, .inl (tb []))), ((v 16), .inl (cI, 24000, .inl (tb []))), ((v 17), .inl (cI, 6000, .inl (tb []))), ((v 4), .inl (cI, 4, .inl (tb [0, 0, 0, 0]))), ((v 5), .inl (cI, 4, .inl (tb [0, 0, 0, 0]))), ((v 25), .inl (cI, 4, .inl (tb [])))]) rfl (fun H locs hP hD hS => ?_)
  refine lv_aload_n hx hb dL_law_844 rfl (lv_at hl 1 rfl) ?_
  refine kV_i (q0 := 0) ⟨hx, hb, hml, hown, hts⟩ hK hP hD hS hA hX cv_RL_109 [0, 1, 2, 3, 4, 5, 6, 7, 8, 9, 10, 11, 12, 13, 14, 15, 16] [] (wr := []) rfl rfl rfl rfl (by decide) (c459_X9_better l dC dI cI cJ cII cJJ H.size 0 qm (v 2) (v 6) (v 3) (v 19) (v 18) (v 20) (v 21) (v 12) (v 13) (v 14) (v 15) (v 16) (v 17) (v 4) (v 5) (v 25) (v 0) (v 1) (v 7) (v 8) (v 9) (v 10) (v 11) (v 22) (v 23) (v 24) (v 26)) ⟨by decide +kernel, by decide +kernel⟩ rfl rfl (Or.inl rfl) (rest := [.int (-99999)]) rfl rfl rfl hl.1 rfl (Nat.le_of_ble_eq_true rfl) dL_law_845 ⟨Nat.le_of_ble_eq_true rfl, Nat.le_of_ble_eq_true rfl⟩ (W' := []) rfl (fun H locs hP hD hS => ?_)
  refine t_icmp_eq hx hb dL_law_848 1073 (by decide) rfl ?_
  exact law_end l C0 rfl hS hl
set_option maxRecDepth 100000 in
set_option maxHeartbeats 4000000 in
theorem lc_21 {p : Program} {e : Env} {s : State} {m : MethodId} {below : List Frame} {meth : Method} {c : Code} (l : Launch) {b L : Nat} {xs : Nat → Int32} (C0 : lw_At p s m meth c b L xs) (hL : L = 5) {dC : Nat → ClassId} {dI : Nat → Nat → Nat} {cI cJ cII cJJ : ClassId} {g qx qm : Nat} {u v : Nat → Nat} {H : Heap} {locs : List Loc} {ls : Array Slot} (hK : va_K (dC, dI) vwCl (TY cI cJ cII cJJ) s) (hX : GXA 1 g (AA s) s) (hP : va_P (dC, dI) vwCl (WLD cI cJ cII cJJ qx qm u v) H) (hD : va_D (AA s) (WLD cI cJ cII cJJ qx qm u v)) (hS : va_S (AA s) s.heap H locs) (hl : lv_has ls 4 [(3, .int 0), (2, .ref qm), (1, .ref qx), (0, .ref b)]) : W p l e room_1 s m #[Value.ref b] below meth c H locs 600000 7302250 (lw_Z below #[Value.ref b] s) (F0 m 840 ls []) := by
  exact lr_93 l C0 hL  hK hX hP hD hS hl
set_option maxRecDepth 100000 in
set_option maxHeartbeats 4000000 in
theorem lr_94 {p : Program} {e : Env} {s : State} {m : MethodId} {below : List Frame} {meth : Method} {c : Code} (l : Launch) {b L : Nat} {xs : Nat → Int32} (C0 : lw_At p s m meth c b L xs) (hL : L = 5) {dC : Nat → ClassId} {dI : Nat → Nat → Nat} {cI cJ cII cJJ : ClassId} {g qx qm : Nat} {u v : Nat → Nat} {H : Heap} {locs : List Loc} {ls : Array Slot} (hK : va_K (dC, dI) vwCl (TY cI cJ cII cJJ) s) (hX : GXA 1 g (AA s) s) (hP : va_P (dC, dI) vwCl (WLD cI cJ cII cJJ qx qm u v) H) (hD : va_D (AA s) (WLD cI cJ cII cJJ qx qm u v)) (hS : va_S (AA s) s.heap H locs) (hl : lv_has ls 4 [(3, .int 0), (2, .ref qm), (1, .ref qx), (0, .ref b)]) : W p l e room_1 s m #[Value.ref b] below meth c H locs 600000 7302250 (lw_Z below #[Value.ref b] s) (F0 m 853 ls []) := by
  obtain ⟨hx, hb, hr, hml, hown, hts0, hX0, hbl, hlocks, hgv⟩ := id C0
  have hts : ∀ w ∈ TT, w.before #[Value.ref b] s = true := fun w h => hts0 w (TT_tbl h)
  have hA : ∀ q : Nat, s.heap.size ≤ q → AA s q := fun _ h => h
  have hbA : ¬ AA s b := Nat.not_le.mpr hbl
  have hown : s.vm.findClass RL = some m.cls := hown
  subst hL
  refine lv_aload_n hx hb dL_law_853 rfl (lv_at hl 2 rfl) ?_
  refine kV_i (q0 := 0) ⟨hx, hb, hml, hown, hts⟩ hK hP hD hS hA hX cv_RL_110 [0, 6, 60, 7, 8, 11, 12, 14, 15, 16, 17, 18, 19, 22, 24, 23, 13, 9, 10] [86, 87, 91, 88, 78, 77, 79, 80, 71, 72, 73, 74, 75, 76, 89, 90, 84] (wr := [(qm, .inr (9, [.ref (v 0), .ref (v 1), .ref (v 2), .ref (v 3), .ref (v 4), .ref (v 5), .ref (v 6), .ref (v 7), .ref (v 8), .ref (v 9), .ref (v 10), .ref (v 11), .int 1, .int 0, .int 0, .ref (v 12), .ref (v 13), .ref (v 14), .ref (v 15), .ref (v 16), .ref (v 17), .int 0, .int 0, .ref (v 18), .ref (v 19), .ref (v 20), .ref (v 21), .int 0, .int 0, .ref (v 22), .ref (v 23), .ref (v 24), .ref (v 25), .int 0, .ref (v 26), .int 0])), ((v 2), .inl (cI, 4, .inl (tb [0, 0, 0, 0]))), ((v 6), .inl (cI, 4, .inl (tb [0, 0, 0, 0]))), ((v 3), .inl (cI, 4, .inl (tb [10, 10, 10, 10]))), ((v 19), .inl (cI, 3, .inl (tb []))), ((v 18), .inl (cI, 3, .inl (tb []))), ((v 20), .inl (cI, 4, .inl (tb []))), ((v 21), .inl (cI, 4, .inl (tb []))), ((v 12), .inl (cI, 400000, .inl (tb []))), ((v 13), .inl (cI, 100000, .inl (tb []))), ((v 14), .inl (cI, 6001, .inl (tb []))), ((v 15), .inl (cI, 100000, .inl (tb []))), ((v 16), .inl (cI, 24000, .inl (tb []))), ((v 17), .inl (cI, 6000, .inl (tb []))), ((v 4), .inl (cI, 4, .inl (tb [0, 0, 0, 0]))), ((v 5), .inl (cI, 4, .inl (tb [0, 0, 0, 0]))), ((v 25), .inl (cI, 4, .inl (tb [])))]) rfl rfl rfl rfl (by decide) (c206_X8_best l dC dI cI cJ cII cJJ H.size g qx (u 0) (u 59) (u 6) (u 7) (u 10) (u 11) (u 13) (u 14) (u 15) (u 16) (u 17) (u 18) (u 21) (u 23) (u 22) (u 12) (u 8) (u 9) (u 28) (u 51) (u 60) (u 61) (u 62) (u 1) (u 5) (u 24) (u 19) (u 20)) ⟨by decide +kernel, by decide +kernel⟩ rfl rfl (Or.inr ⟨rfl, rfl, rfl⟩) (rest := []) rfl rfl rfl hl.1 rfl (Nat.le_of_ble_eq_true rfl) dL_law_854 ⟨Nat.le_of_ble_eq_true rfl, Nat.le_of_ble_eq_true rfl⟩ (W' := [(qm, .inr (9, [.ref (v 0), .ref (v 1), .ref (v 2), .ref (v 3), .ref (v 4), .ref (v 5), .ref (v 6), .ref (v 7), .ref (v 8), .ref (v 9), .ref (v 10), .ref (v 11), .int 1, .int 0, .int 0, .ref (v 12), .ref (v 13), .ref (v 14), .ref (v 15), .ref (v 16), .ref (v 17), .int 0, .int 0, .ref (v 18), .ref (v 19), .ref (v 20), .ref (v 21), .int 0, .int 0, .ref (v 22), .ref (v 23), .ref (v 24), .ref (v 25), .int 0, .ref (v 26), .int 0])), ((v 2), .inl (cI, 4, .inl (tb [0, 0, 0, 0]))), ((v 6), .inl (cI, 4, .inl (tb [0, 0, 0, 0]))), ((v 3), .inl (cI, 4, .inl (tb [10, 10, 10, 10]))), ((v 19), .inl (cI, 3, .inl (tb []))), ((v 18), .inl (cI, 3, .inl (tb []))), ((v 20), .inl (cI, 4, .inl (tb []))), ((v 21), .inl (cI, 4, .inl (tb []))), ((v 12), .inl (cI, 400000, .inl (tb []))), ((v 13), .inl (cI, 100000, .inl (tb []))), ((v 14), .inl (cI, 6001, .inl (tb []))), ((v 15), .inl (cI, 100000, .inl (tb []))), ((v 16), .inl (cI, 24000, .inl (tb []))), ((v 17), .inl (cI, 6000, .inl (tb []))), ((v 4), .inl (cI, 4, .inl (tb [0, 0, 0, 0]))), ((v 5), .inl (cI, 4, .inl (tb [0, 0, 0, 0]))), ((v 25), .inl (cI, 4, .inl (tb [])))]) rfl (fun H locs hP hD hS => ?_)
  refine lv_aload_n hx hb dL_law_857 rfl (lv_at hl 1 rfl) ?_
  refine kV_i (q0 := 0) ⟨hx, hb, hml, hown, hts⟩ hK hP hD hS hA hX cv_RL_113 [0, 1, 2, 3, 4, 5, 6, 7, 8, 9, 10, 11, 12, 13, 14, 15, 16] [] (wr := []) rfl rfl rfl rfl (by decide) (c513_X9_best l dC dI cI cJ cII cJJ H.size 0 qm (v 2) (v 6) (v 3) (v 19) (v 18) (v 20) (v 21) (v 12) (v 13) (v 14) (v 15) (v 16) (v 17) (v 4) (v 5) (v 25) (v 0) (v 1) (v 7) (v 8) (v 9) (v 10) (v 11) (v 22) (v 23) (v 24) (v 26)) ⟨by decide +kernel, by decide +kernel⟩ rfl rfl (Or.inl rfl) (rest := [.int 0]) rfl rfl rfl hl.1 rfl (Nat.le_of_ble_eq_true rfl) dL_law_858 ⟨Nat.le_of_ble_eq_true rfl, Nat.le_of_ble_eq_true rfl⟩ (W' := []) rfl (fun H locs hP hD hS => ?_)
  refine t_icmp_eq hx hb dL_law_861 1073 (by decide) rfl ?_
  exact law_end l C0 rfl hS hl
set_option maxRecDepth 100000 in
set_option maxHeartbeats 4000000 in
theorem lc_22 {p : Program} {e : Env} {s : State} {m : MethodId} {below : List Frame} {meth : Method} {c : Code} (l : Launch) {b L : Nat} {xs : Nat → Int32} (C0 : lw_At p s m meth c b L xs) (hL : L = 5) {dC : Nat → ClassId} {dI : Nat → Nat → Nat} {cI cJ cII cJJ : ClassId} {g qx qm : Nat} {u v : Nat → Nat} {H : Heap} {locs : List Loc} {ls : Array Slot} (hK : va_K (dC, dI) vwCl (TY cI cJ cII cJJ) s) (hX : GXA 1 g (AA s) s) (hP : va_P (dC, dI) vwCl (WLD cI cJ cII cJJ qx qm u v) H) (hD : va_D (AA s) (WLD cI cJ cII cJJ qx qm u v)) (hS : va_S (AA s) s.heap H locs) (hl : lv_has ls 4 [(3, .int 0), (2, .ref qm), (1, .ref qx), (0, .ref b)]) : W p l e room_1 s m #[Value.ref b] below meth c H locs 600000 7302250 (lw_Z below #[Value.ref b] s) (F0 m 853 ls []) := by
  exact lr_94 l C0 hL  hK hX hP hD hS hl
set_option maxRecDepth 100000 in
set_option maxHeartbeats 4000000 in
theorem lr_95 {p : Program} {e : Env} {s : State} {m : MethodId} {below : List Frame} {meth : Method} {c : Code} (l : Launch) {b L : Nat} {xs : Nat → Int32} (C0 : lw_At p s m meth c b L xs) (hL : L = 5) {dC : Nat → ClassId} {dI : Nat → Nat → Nat} {cI cJ cII cJJ : ClassId} {g qx qm : Nat} {u v : Nat → Nat} {H : Heap} {locs : List Loc} {ls : Array Slot} (hK : va_K (dC, dI) vwCl (TY cI cJ cII cJJ) s) (hX : GXA 1 g (AA s) s) (hP : va_P (dC, dI) vwCl (WLD cI cJ cII cJJ qx qm u v) H) (hD : va_D (AA s) (WLD cI cJ cII cJJ qx qm u v)) (hS : va_S (AA s) s.heap H locs) (hl : lv_has ls 4 [(3, .int 0), (2, .ref qm), (1, .ref qx), (0, .ref b)]) : W p l e room_1 s m #[Value.ref b] below meth c H locs 600000 7302250 (lw_Z below #[Value.ref b] s) (F0 m 866 ls []) := by
  obtain ⟨hx, hb, hr, hml, hown, hts0, hX0, hbl, hlocks, hgv⟩ := id C0
  have hts : ∀ w ∈ TT, w.before #[Value.ref b] s = true := fun w h => hts0 w (TT_tbl h)
  have hA : ∀ q : Nat, s.heap.size ≤ q → AA s q := fun _ h => h
  have hbA : ¬ AA s b := Nat.not_le.mpr hbl
  have hown : s.vm.findClass RL = some m.cls := hown
  subst hL
  refine lv_aload_n hx hb dL_law_866 rfl (lv_at hl 2 rfl) ?_
  refine kV_i (q0 := 0) ⟨hx, hb, hml, hown, hts⟩ hK hP hD hS hA hX cv_RL_114 [0, 29, 6, 8, 7, 32, 33, 30] [86, 87, 88, 84, 85] (wr := [(qm, .inr (9, [.ref (v 0), .ref (v 1), .ref (v 2), .ref (v 3), .ref (v 4), .ref (v 5), .ref (v 6), .ref (v 7), .ref (v 8), .ref (v 9), .ref (v 10), .ref (v 11), .int 1, .int 0, .int 0, .ref (v 12), .ref (v 13), .ref (v 14), .ref (v 15), .ref (v 16), .ref (v 17), .int 0, .int 0, .ref (v 18), .ref (v 19), .ref (v 20), .ref (v 21), .int 0, .int 0, .ref (v 22), .ref (v 23), .ref (v 24), .ref (v 25), .int 0, .ref (v 26), .int 0])), ((v 2), .inl (cI, 4, .inl (tb [0, 0, 0, 0]))), ((v 3), .inl (cI, 4, .inl (tb [10, 10, 10, 10]))), ((v 25), .inl (cI, 4, .inl (tb []))), ((v 26), .inl (cI, 777924, .inl (tb [])))]) rfl rfl rfl rfl (by decide) (c207_X8_plans l dC dI cI cJ cII cJJ H.size 0 qx (u 28) (u 0) (u 7) (u 6) (u 31) (u 32) (u 29) (u 10) (u 51) (u 59) (u 60) (u 61) (u 62) (u 30) (u 33) (u 39) (u 45) (u 1) (u 5) (u 8) (u 9)) ⟨by decide +kernel, by decide +kernel⟩ rfl rfl (Or.inl rfl) (rest := []) rfl rfl rfl hl.1 rfl (Nat.le_of_ble_eq_true rfl) dL_law_867 ⟨Nat.le_of_ble_eq_true rfl, Nat.le_of_ble_eq_true rfl⟩ (W' := [(qm, .inr (9, [.ref (v 0), .ref (v 1), .ref (v 2), .ref (v 3), .ref (v 4), .ref (v 5), .ref (v 6), .ref (v 7), .ref (v 8), .ref (v 9), .ref (v 10), .ref (v 11), .int 1, .int 0, .int 0, .ref (v 12), .ref (v 13), .ref (v 14), .ref (v 15), .ref (v 16), .ref (v 17), .int 0, .int 0, .ref (v 18), .ref (v 19), .ref (v 20), .ref (v 21), .int 0, .int 0, .ref (v 22), .ref (v 23), .ref (v 24), .ref (v 25), .int 0, .ref (v 26), .int 0])), ((v 2), .inl (cI, 4, .inl (tb [0, 0, 0, 0]))), ((v 3), .inl (cI, 4, .inl (tb [10, 10, 10, 10]))), ((v 25), .inl (cI, 4, .inl (tb []))), ((v 26), .inl (cI, 777924, .inl (tb [])))]) rfl (fun H locs hP hD hS => ?_)
  refine lv_aload_n hx hb dL_law_870 rfl (lv_at hl 1 rfl) ?_
  refine kV_i (q0 := 0) ⟨hx, hb, hml, hown, hts⟩ hK hP hD hS hA hX cv_RL_117 [0, 1, 2, 3, 4] [] (wr := []) rfl rfl rfl rfl (by decide) (c514_X9_plans l dC dI cI cJ cII cJJ H.size 0 qm (v 2) (v 3) (v 25) (v 26) (v 0) (v 1) (v 4) (v 5) (v 6) (v 7) (v 8) (v 9) (v 10) (v 11) (v 12) (v 13) (v 14) (v 15) (v 16) (v 17) (v 18) (v 19) (v 20) (v 21) (v 22) (v 23) (v 24)) ⟨by decide +kernel, by decide +kernel⟩ rfl rfl (Or.inl rfl) (rest := [.int 11]) rfl rfl rfl hl.1 rfl (Nat.le_of_ble_eq_true rfl) dL_law_871 ⟨Nat.le_of_ble_eq_true rfl, Nat.le_of_ble_eq_true rfl⟩ (W' := []) rfl (fun H locs hP hD hS => ?_)
  refine t_icmp_eq hx hb dL_law_874 1073 (by decide) rfl ?_
  exact law_end l C0 rfl hS hl
set_option maxRecDepth 100000 in
set_option maxHeartbeats 4000000 in
theorem lc_23 {p : Program} {e : Env} {s : State} {m : MethodId} {below : List Frame} {meth : Method} {c : Code} (l : Launch) {b L : Nat} {xs : Nat → Int32} (C0 : lw_At p s m meth c b L xs) (hL : L = 5) {dC : Nat → ClassId} {dI : Nat → Nat → Nat} {cI cJ cII cJJ : ClassId} {g qx qm : Nat} {u v : Nat → Nat} {H : Heap} {locs : List Loc} {ls : Array Slot} (hK : va_K (dC, dI) vwCl (TY cI cJ cII cJJ) s) (hX : GXA 1 g (AA s) s) (hP : va_P (dC, dI) vwCl (WLD cI cJ cII cJJ qx qm u v) H) (hD : va_D (AA s) (WLD cI cJ cII cJJ qx qm u v)) (hS : va_S (AA s) s.heap H locs) (hl : lv_has ls 4 [(3, .int 0), (2, .ref qm), (1, .ref qx), (0, .ref b)]) : W p l e room_1 s m #[Value.ref b] below meth c H locs 600000 7302250 (lw_Z below #[Value.ref b] s) (F0 m 866 ls []) := by
  exact lr_95 l C0 hL  hK hX hP hD hS hl
set_option maxRecDepth 100000 in
set_option maxHeartbeats 4000000 in
theorem lr_96 {p : Program} {e : Env} {s : State} {m : MethodId} {below : List Frame} {meth : Method} {c : Code} (l : Launch) {b L : Nat} {xs : Nat → Int32} (C0 : lw_At p s m meth c b L xs) (hL : L = 5) {dC : Nat → ClassId} {dI : Nat → Nat → Nat} {cI cJ cII cJJ : ClassId} {g qx qm : Nat} {u v : Nat → Nat} {H : Heap} {locs : List Loc} {ls : Array Slot} (y0 : Int32) (h_y0 : -2147483648 ≤ y0.toInt ∧ y0.toInt ≤ -1) (e_y0 : xs 1 = y0) (y1 : Int32) (h_y1 : -2147483648 ≤ y1.toInt ∧ y1.toInt ≤ 2147483647) (e_y1 : xs 2 = y1) (hK : va_K (dC, dI) vwCl (TY cI cJ cII cJJ) s) (hX : GXA 1 g (AA s) s) (hP : va_P (dC, dI) vwCl (WLD cI cJ cII cJJ qx qm u v) H) (hD : va_D (AA s) (WLD cI cJ cII cJJ qx qm u v)) (hS : va_S (AA s) s.heap H locs) (hl : lv_has ls 4 [(3, .int 0), (2, .ref qm), (1, .ref qx), (0, .ref b)]) : W p l e room_1 s m #[Value.ref b] below meth c H locs 600000 7302250 (lw_Z below #[Value.ref b] s) (F0 m 879 ls []) := by
  obtain ⟨hx, hb, hr, hml, hown, hts0, hX0, hbl, hlocks, hgv⟩ := id C0
  have hts : ∀ w ∈ TT, w.before #[Value.ref b] s = true := fun w h => hts0 w (TT_tbl h)
  have hA : ∀ q : Nat, s.heap.size ≤ q → AA s q := fun _ h => h
  have hbA : ¬ AA s b := Nat.not_le.mpr hbl
  have hown : s.vm.findClass RL = some m.cls := hown
  subst hL
  refine lv_aload_n hx hb dL_law_879 rfl (lv_at hl 2 rfl) ?_
  refine lv_aload_n hx hb dL_law_880 rfl (lv_at hl 3 rfl) ?_
  refine lv_iload_n hx hb dL_law_881 rfl (lv_at hl 0 rfl) ?_
  refine lv_iconst (v := 1) hx hb dL_law_882 (by decide) ?_
  refine v_iadd hx hb dL_law_883 1 (by decide +kernel) ?_
  refine va_sld hx hb hX0 hbl hbA hS (vin (by decide +kernel)) dL_law_884 ?_
  refine tvi (v := y0) e_y0 ?_
  refine lv_aload_n hx hb dL_law_885 rfl (lv_at hl 3 rfl) ?_
  refine lv_iload_n hx hb dL_law_886 rfl (lv_at hl 0 rfl) ?_
  refine lv_iconst (v := 2) hx hb dL_law_887 (by decide) ?_
  refine v_iadd hx hb dL_law_888 2 (by decide +kernel) ?_
  refine va_sld hx hb hX0 hbl hbA hS (vin (by decide +kernel)) dL_law_889 ?_
  refine tvi (v := y1) e_y1 ?_
  refine kV_i (q0 := 0) ⟨hx, hb, hml, hown, hts⟩ hK hP hD hS hA hX cv_RL_118 [0, 29, 6, 8, 7, 32, 33, 30] [86, 87, 88, 84, 85] (wr := [(qm, .inr (9, [.ref (v 0), .ref (v 1), .ref (v 2), .ref (v 3), .ref (v 4), .ref (v 5), .ref (v 6), .ref (v 7), .ref (v 8), .ref (v 9), .ref (v 10), .ref (v 11), .int 1, .int 0, .int 0, .ref (v 12), .ref (v 13), .ref (v 14), .ref (v 15), .ref (v 16), .ref (v 17), .int 0, .int 0, .ref (v 18), .ref (v 19), .ref (v 20), .ref (v 21), .int 0, .int 0, .ref (v 22), .ref (v 23), .ref (v 24), .ref (v 25), .int 0, .ref (v 26), .int 0])), ((v 2), .inl (cI, 4, .inl (tb [0, 0, 0, 0]))), ((v 3), .inl (cI, 4, .inl (tb [10, 10, 10, 10]))), ((v 25), .inl (cI, 4, .inl (tb []))), ((v 26), .inl (cI, 777924, .inl (tb [])))]) rfl rfl rfl rfl (by decide) (c215_X8_plan l dC dI cI cJ cII cJJ H.size 0 qx (u 28) (u 0) (u 7) (u 6) (u 31) (u 32) (u 29) (u 10) (u 51) (u 59) (u 60) (u 61) (u 62) (u 30) (u 33) (u 39) (u 45) (u 1) (u 5) (u 8) (u 9) y0 h_y0 y1 h_y1) ⟨by decide +kernel, by decide +kernel⟩ rfl rfl (Or.inl rfl) (rest := []) rfl rfl rfl hl.1 rfl (Nat.le_of_ble_eq_true rfl) dL_law_890 ⟨Nat.le_of_ble_eq_true rfl, Nat.le_of_ble_eq_true rfl⟩ (W' := [(qm, .inr (9, [.ref (v 0), .ref (v 1), .ref (v 2), .ref (v 3), .ref (v 4), .ref (v 5), .ref (v 6), .ref (v 7), .ref (v 8), .ref (v 9), .ref (v 10), .ref (v 11), .int 1, .int 0, .int 0, .ref (v 12), .ref (v 13), .ref (v 14), .ref (v 15), .ref (v 16), .ref (v 17), .int 0, .int 0, .ref (v 18), .ref (v 19), .ref (v 20), .ref (v 21), .int 0, .int 0, .ref (v 22), .ref (v 23), .ref (v 24), .ref (v 25), .int 0, .ref (v 26), .int 0])), ((v 2), .inl (cI, 4, .inl (tb [0, 0, 0, 0]))), ((v 3), .inl (cI, 4, .inl (tb [10, 10, 10, 10]))), ((v 25), .inl (cI, 4, .inl (tb []))), ((v 26), .inl (cI, 777924, .inl (tb [])))]) rfl (fun H locs hP hD hS => ?_)
  refine lv_aload_n hx hb dL_law_893 rfl (lv_at hl 1 rfl) ?_
  refine lv_aload_n hx hb dL_law_894 rfl (lv_at hl 3 rfl) ?_
  refine lv_iload_n hx hb dL_law_895 rfl (lv_at hl 0 rfl) ?_
  refine lv_iconst (v := 1) hx hb dL_law_896 (by decide) ?_
  refine v_iadd hx hb dL_law_897 1 (by decide +kernel) ?_
  refine va_sld hx hb hX0 hbl hbA hS (vin (by decide +kernel)) dL_law_898 ?_
  refine tvi (v := y0) e_y0 ?_
  refine lv_aload_n hx hb dL_law_899 rfl (lv_at hl 3 rfl) ?_
  refine lv_iload_n hx hb dL_law_900 rfl (lv_at hl 0 rfl) ?_
  refine lv_iconst (v := 2) hx hb dL_law_901 (by decide) ?_
  refine v_iadd hx hb dL_law_902 2 (by decide +kernel) ?_
  refine va_sld hx hb hX0 hbl hbA hS (vin (by decide +kernel)) dL_law_903 ?_
  refine tvi (v := y1) e_y1 ?_
  refine kV_i (q0 := 0) ⟨hx, hb, hml, hown, hts⟩ hK hP hD hS hA hX cv_RL_121 [0, 1, 2, 3, 4] [] (wr := []) rfl rfl rfl rfl (by decide) (c539_X9_plan l dC dI cI cJ cII cJJ H.size 0 qm (v 2) (v 3) (v 25) (v 26) (v 0) (v 1) (v 4) (v 5) (v 6) (v 7) (v 8) (v 9) (v 10) (v 11) (v 12) (v 13) (v 14) (v 15) (v 16) (v 17) (v 18) (v 19) (v 20) (v 21) (v 22) (v 23) (v 24) y0 h_y0 y1 h_y1) ⟨by decide +kernel, by decide +kernel⟩ rfl rfl (Or.inl rfl) (rest := [.int (-99999)]) rfl rfl rfl hl.1 rfl (Nat.le_of_ble_eq_true rfl) dL_law_904 ⟨Nat.le_of_ble_eq_true rfl, Nat.le_of_ble_eq_true rfl⟩ (W' := []) rfl (fun H locs hP hD hS => ?_)
  refine t_icmp_eq hx hb dL_law_907 1073 (by decide) rfl ?_
  exact law_end l C0 rfl hS hl
set_option maxRecDepth 100000 in
set_option maxHeartbeats 4000000 in
theorem lr_97 {p : Program} {e : Env} {s : State} {m : MethodId} {below : List Frame} {meth : Method} {c : Code} (l : Launch) {b L : Nat} {xs : Nat → Int32} (C0 : lw_At p s m meth c b L xs) (hL : L = 5) {dC : Nat → ClassId} {dI : Nat → Nat → Nat} {cI cJ cII cJJ : ClassId} {g qx qm : Nat} {u v : Nat → Nat} {H : Heap} {locs : List Loc} {ls : Array Slot} (y0 : Int32) (h_y0 : 11 ≤ y0.toInt ∧ y0.toInt ≤ 2147483647) (e_y0 : xs 1 = y0) (y1 : Int32) (h_y1 : -2147483648 ≤ y1.toInt ∧ y1.toInt ≤ 2147483647) (e_y1 : xs 2 = y1) (hK : va_K (dC, dI) vwCl (TY cI cJ cII cJJ) s) (hX : GXA 1 g (AA s) s) (hP : va_P (dC, dI) vwCl (WLD cI cJ cII cJJ qx qm u v) H) (hD : va_D (AA s) (WLD cI cJ cII cJJ qx qm u v)) (hS : va_S (AA s) s.heap H locs) (hl : lv_has ls 4 [(3, .int 0), (2, .ref qm), (1, .ref qx), (0, .ref b)]) : W p l e room_1 s m #[Value.ref b] below meth c H locs 600000 7302250 (lw_Z below #[Value.ref b] s) (F0 m 879 ls []) := by
  obtain ⟨hx, hb, hr, hml, hown, hts0, hX0, hbl, hlocks, hgv⟩ := id C0
  have hts : ∀ w ∈ TT, w.before #[Value.ref b] s = true := fun w h => hts0 w (TT_tbl h)
  have hA : ∀ q : Nat, s.heap.size ≤ q → AA s q := fun _ h => h
  have hbA : ¬ AA s b := Nat.not_le.mpr hbl
  have hown : s.vm.findClass RL = some m.cls := hown
  subst hL
  refine lv_aload_n hx hb dL_law_879 rfl (lv_at hl 2 rfl) ?_
  refine lv_aload_n hx hb dL_law_880 rfl (lv_at hl 3 rfl) ?_
  refine lv_iload_n hx hb dL_law_881 rfl (lv_at hl 0 rfl) ?_
  refine lv_iconst (v := 1) hx hb dL_law_882 (by decide) ?_
  refine v_iadd hx hb dL_law_883 1 (by decide +kernel) ?_
  refine va_sld hx hb hX0 hbl hbA hS (vin (by decide +kernel)) dL_law_884 ?_
  refine tvi (v := y0) e_y0 ?_
  refine lv_aload_n hx hb dL_law_885 rfl (lv_at hl 3 rfl) ?_
  refine lv_iload_n hx hb dL_law_886 rfl (lv_at hl 0 rfl) ?_
  refine lv_iconst (v := 2) hx hb dL_law_887 (by decide) ?_
  refine v_iadd hx hb dL_law_888 2 (by decide +kernel) ?_
  refine va_sld hx hb hX0 hbl hbA hS (vin (by decide +kernel)) dL_law_889 ?_
  refine tvi (v := y1) e_y1 ?_
  refine kV_i (q0 := 0) ⟨hx, hb, hml, hown, hts⟩ hK hP hD hS hA hX cv_RL_118 [0, 29, 6, 8, 7, 32, 33, 30] [86, 87, 88, 84, 85] (wr := [(qm, .inr (9, [.ref (v 0), .ref (v 1), .ref (v 2), .ref (v 3), .ref (v 4), .ref (v 5), .ref (v 6), .ref (v 7), .ref (v 8), .ref (v 9), .ref (v 10), .ref (v 11), .int 1, .int 0, .int 0, .ref (v 12), .ref (v 13), .ref (v 14), .ref (v 15), .ref (v 16), .ref (v 17), .int 0, .int 0, .ref (v 18), .ref (v 19), .ref (v 20), .ref (v 21), .int 0, .int 0, .ref (v 22), .ref (v 23), .ref (v 24), .ref (v 25), .int 0, .ref (v 26), .int 0])), ((v 2), .inl (cI, 4, .inl (tb [0, 0, 0, 0]))), ((v 3), .inl (cI, 4, .inl (tb [10, 10, 10, 10]))), ((v 25), .inl (cI, 4, .inl (tb []))), ((v 26), .inl (cI, 777924, .inl (tb [])))]) rfl rfl rfl rfl (by decide) (c217_X8_plan l dC dI cI cJ cII cJJ H.size 0 qx (u 28) (u 0) (u 7) (u 6) (u 31) (u 32) (u 29) (u 10) (u 51) (u 59) (u 60) (u 61) (u 62) (u 30) (u 33) (u 39) (u 45) (u 1) (u 5) (u 8) (u 9) y0 h_y0 y1 h_y1) ⟨by decide +kernel, by decide +kernel⟩ rfl rfl (Or.inl rfl) (rest := []) rfl rfl rfl hl.1 rfl (Nat.le_of_ble_eq_true rfl) dL_law_890 ⟨Nat.le_of_ble_eq_true rfl, Nat.le_of_ble_eq_true rfl⟩ (W' := [(qm, .inr (9, [.ref (v 0), .ref (v 1), .ref (v 2), .ref (v 3), .ref (v 4), .ref (v 5), .ref (v 6), .ref (v 7), .ref (v 8), .ref (v 9), .ref (v 10), .ref (v 11), .int 1, .int 0, .int 0, .ref (v 12), .ref (v 13), .ref (v 14), .ref (v 15), .ref (v 16), .ref (v 17), .int 0, .int 0, .ref (v 18), .ref (v 19), .ref (v 20), .ref (v 21), .int 0, .int 0, .ref (v 22), .ref (v 23), .ref (v 24), .ref (v 25), .int 0, .ref (v 26), .int 0])), ((v 2), .inl (cI, 4, .inl (tb [0, 0, 0, 0]))), ((v 3), .inl (cI, 4, .inl (tb [10, 10, 10, 10]))), ((v 25), .inl (cI, 4, .inl (tb []))), ((v 26), .inl (cI, 777924, .inl (tb [])))]) rfl (fun H locs hP hD hS => ?_)
  refine lv_aload_n hx hb dL_law_893 rfl (lv_at hl 1 rfl) ?_
  refine lv_aload_n hx hb dL_law_894 rfl (lv_at hl 3 rfl) ?_
  refine lv_iload_n hx hb dL_law_895 rfl (lv_at hl 0 rfl) ?_
  refine lv_iconst (v := 1) hx hb dL_law_896 (by decide) ?_
  refine v_iadd hx hb dL_law_897 1 (by decide +kernel) ?_
  refine va_sld hx hb hX0 hbl hbA hS (vin (by decide +kernel)) dL_law_898 ?_
  refine tvi (v := y0) e_y0 ?_
  refine lv_aload_n hx hb dL_law_899 rfl (lv_at hl 3 rfl) ?_
  refine lv_iload_n hx hb dL_law_900 rfl (lv_at hl 0 rfl) ?_
  refine lv_iconst (v := 2) hx hb dL_law_901 (by decide) ?_
  refine v_iadd hx hb dL_law_902 2 (by decide +kernel) ?_
  refine va_sld hx hb hX0 hbl hbA hS (vin (by decide +kernel)) dL_law_903 ?_
  refine tvi (v := y1) e_y1 ?_
  refine kV_i (q0 := 0) ⟨hx, hb, hml, hown, hts⟩ hK hP hD hS hA hX cv_RL_121 [0, 1, 2, 3, 4] [] (wr := []) rfl rfl rfl rfl (by decide) (c541_X9_plan l dC dI cI cJ cII cJJ H.size 0 qm (v 2) (v 3) (v 25) (v 26) (v 0) (v 1) (v 4) (v 5) (v 6) (v 7) (v 8) (v 9) (v 10) (v 11) (v 12) (v 13) (v 14) (v 15) (v 16) (v 17) (v 18) (v 19) (v 20) (v 21) (v 22) (v 23) (v 24) y0 h_y0 y1 h_y1) ⟨by decide +kernel, by decide +kernel⟩ rfl rfl (Or.inl rfl) (rest := [.int (-99999)]) rfl rfl rfl hl.1 rfl (Nat.le_of_ble_eq_true rfl) dL_law_904 ⟨Nat.le_of_ble_eq_true rfl, Nat.le_of_ble_eq_true rfl⟩ (W' := []) rfl (fun H locs hP hD hS => ?_)
  refine t_icmp_eq hx hb dL_law_907 1073 (by decide) rfl ?_
  exact law_end l C0 rfl hS hl
set_option maxRecDepth 100000 in
set_option maxHeartbeats 4000000 in
theorem lr_98 {p : Program} {e : Env} {s : State} {m : MethodId} {below : List Frame} {meth : Method} {c : Code} (l : Launch) {b L : Nat} {xs : Nat → Int32} (C0 : lw_At p s m meth c b L xs) (hL : L = 5) {dC : Nat → ClassId} {dI : Nat → Nat → Nat} {cI cJ cII cJJ : ClassId} {g qx qm : Nat} {u v : Nat → Nat} {H : Heap} {locs : List Loc} {ls : Array Slot} (y0 : Int32) (h_y0 : 0 ≤ y0.toInt ∧ y0.toInt ≤ 10) (e_y0 : xs 1 = y0) (y1 : Int32) (h_y1 : -2147483648 ≤ y1.toInt ∧ y1.toInt ≤ -1) (e_y1 : xs 2 = y1) (hK : va_K (dC, dI) vwCl (TY cI cJ cII cJJ) s) (hX : GXA 1 g (AA s) s) (hP : va_P (dC, dI) vwCl (WLD cI cJ cII cJJ qx qm u v) H) (hD : va_D (AA s) (WLD cI cJ cII cJJ qx qm u v)) (hS : va_S (AA s) s.heap H locs) (hl : lv_has ls 4 [(3, .int 0), (2, .ref qm), (1, .ref qx), (0, .ref b)]) : W p l e room_1 s m #[Value.ref b] below meth c H locs 600000 7302250 (lw_Z below #[Value.ref b] s) (F0 m 879 ls []) := by
  obtain ⟨hx, hb, hr, hml, hown, hts0, hX0, hbl, hlocks, hgv⟩ := id C0
  have hts : ∀ w ∈ TT, w.before #[Value.ref b] s = true := fun w h => hts0 w (TT_tbl h)
  have hA : ∀ q : Nat, s.heap.size ≤ q → AA s q := fun _ h => h
  have hbA : ¬ AA s b := Nat.not_le.mpr hbl
  have hown : s.vm.findClass RL = some m.cls := hown
  subst hL
  refine lv_aload_n hx hb dL_law_879 rfl (lv_at hl 2 rfl) ?_
  refine lv_aload_n hx hb dL_law_880 rfl (lv_at hl 3 rfl) ?_
  refine lv_iload_n hx hb dL_law_881 rfl (lv_at hl 0 rfl) ?_
  refine lv_iconst (v := 1) hx hb dL_law_882 (by decide) ?_
  refine v_iadd hx hb dL_law_883 1 (by decide +kernel) ?_
  refine va_sld hx hb hX0 hbl hbA hS (vin (by decide +kernel)) dL_law_884 ?_
  refine tvi (v := y0) e_y0 ?_
  refine lv_aload_n hx hb dL_law_885 rfl (lv_at hl 3 rfl) ?_
  refine lv_iload_n hx hb dL_law_886 rfl (lv_at hl 0 rfl) ?_
  refine lv_iconst (v := 2) hx hb dL_law_887 (by decide) ?_
  refine v_iadd hx hb dL_law_888 2 (by decide +kernel) ?_
  refine va_sld hx hb hX0 hbl hbA hS (vin (by decide +kernel)) dL_law_889 ?_
  refine tvi (v := y1) e_y1 ?_
  refine kV_i (q0 := 0) ⟨hx, hb, hml, hown, hts⟩ hK hP hD hS hA hX cv_RL_118 [0, 29, 6, 8, 7, 32, 33, 30] [86, 87, 88, 84, 85] (wr := [(qm, .inr (9, [.ref (v 0), .ref (v 1), .ref (v 2), .ref (v 3), .ref (v 4), .ref (v 5), .ref (v 6), .ref (v 7), .ref (v 8), .ref (v 9), .ref (v 10), .ref (v 11), .int 1, .int 0, .int 0, .ref (v 12), .ref (v 13), .ref (v 14), .ref (v 15), .ref (v 16), .ref (v 17), .int 0, .int 0, .ref (v 18), .ref (v 19), .ref (v 20), .ref (v 21), .int 0, .int 0, .ref (v 22), .ref (v 23), .ref (v 24), .ref (v 25), .int 0, .ref (v 26), .int 0])), ((v 2), .inl (cI, 4, .inl (tb [0, 0, 0, 0]))), ((v 3), .inl (cI, 4, .inl (tb [10, 10, 10, 10]))), ((v 25), .inl (cI, 4, .inl (tb []))), ((v 26), .inl (cI, 777924, .inl (tb [])))]) rfl rfl rfl rfl (by decide) (c219_X8_plan l dC dI cI cJ cII cJJ H.size 0 qx (u 28) (u 0) (u 7) (u 6) (u 31) (u 32) (u 29) (u 10) (u 51) (u 59) (u 60) (u 61) (u 62) (u 30) (u 33) (u 39) (u 45) (u 1) (u 5) (u 8) (u 9) y0 h_y0 y1 h_y1) ⟨by decide +kernel, by decide +kernel⟩ rfl rfl (Or.inl rfl) (rest := []) rfl rfl rfl hl.1 rfl (Nat.le_of_ble_eq_true rfl) dL_law_890 ⟨Nat.le_of_ble_eq_true rfl, Nat.le_of_ble_eq_true rfl⟩ (W' := [(qm, .inr (9, [.ref (v 0), .ref (v 1), .ref (v 2), .ref (v 3), .ref (v 4), .ref (v 5), .ref (v 6), .ref (v 7), .ref (v 8), .ref (v 9), .ref (v 10), .ref (v 11), .int 1, .int 0, .int 0, .ref (v 12), .ref (v 13), .ref (v 14), .ref (v 15), .ref (v 16), .ref (v 17), .int 0, .int 0, .ref (v 18), .ref (v 19), .ref (v 20), .ref (v 21), .int 0, .int 0, .ref (v 22), .ref (v 23), .ref (v 24), .ref (v 25), .int 0, .ref (v 26), .int 0])), ((v 2), .inl (cI, 4, .inl (tb [0, 0, 0, 0]))), ((v 3), .inl (cI, 4, .inl (tb [10, 10, 10, 10]))), ((v 25), .inl (cI, 4, .inl (tb []))), ((v 26), .inl (cI, 777924, .inl (tb [])))]) rfl (fun H locs hP hD hS => ?_)
  refine lv_aload_n hx hb dL_law_893 rfl (lv_at hl 1 rfl) ?_
  refine lv_aload_n hx hb dL_law_894 rfl (lv_at hl 3 rfl) ?_
  refine lv_iload_n hx hb dL_law_895 rfl (lv_at hl 0 rfl) ?_
  refine lv_iconst (v := 1) hx hb dL_law_896 (by decide) ?_
  refine v_iadd hx hb dL_law_897 1 (by decide +kernel) ?_
  refine va_sld hx hb hX0 hbl hbA hS (vin (by decide +kernel)) dL_law_898 ?_
  refine tvi (v := y0) e_y0 ?_
  refine lv_aload_n hx hb dL_law_899 rfl (lv_at hl 3 rfl) ?_
  refine lv_iload_n hx hb dL_law_900 rfl (lv_at hl 0 rfl) ?_
  refine lv_iconst (v := 2) hx hb dL_law_901 (by decide) ?_
  refine v_iadd hx hb dL_law_902 2 (by decide +kernel) ?_
  refine va_sld hx hb hX0 hbl hbA hS (vin (by decide +kernel)) dL_law_903 ?_
  refine tvi (v := y1) e_y1 ?_
  refine kV_i (q0 := 0) ⟨hx, hb, hml, hown, hts⟩ hK hP hD hS hA hX cv_RL_121 [0, 1, 2, 3, 4] [] (wr := []) rfl rfl rfl rfl (by decide) (c543_X9_plan l dC dI cI cJ cII cJJ H.size 0 qm (v 2) (v 3) (v 25) (v 26) (v 0) (v 1) (v 4) (v 5) (v 6) (v 7) (v 8) (v 9) (v 10) (v 11) (v 12) (v 13) (v 14) (v 15) (v 16) (v 17) (v 18) (v 19) (v 20) (v 21) (v 22) (v 23) (v 24) y0 h_y0 y1 h_y1) ⟨by decide +kernel, by decide +kernel⟩ rfl rfl (Or.inl rfl) (rest := [.int (-99999)]) rfl rfl rfl hl.1 rfl (Nat.le_of_ble_eq_true rfl) dL_law_904 ⟨Nat.le_of_ble_eq_true rfl, Nat.le_of_ble_eq_true rfl⟩ (W' := []) rfl (fun H locs hP hD hS => ?_)
  refine t_icmp_eq hx hb dL_law_907 1073 (by decide) rfl ?_
  exact law_end l C0 rfl hS hl
set_option maxRecDepth 100000 in
set_option maxHeartbeats 4000000 in
theorem lr_99 {p : Program} {e : Env} {s : State} {m : MethodId} {below : List Frame} {meth : Method} {c : Code} (l : Launch) {b L : Nat} {xs : Nat → Int32} (C0 : lw_At p s m meth c b L xs) (hL : L = 5) {dC : Nat → ClassId} {dI : Nat → Nat → Nat} {cI cJ cII cJJ : ClassId} {g qx qm : Nat} {u v : Nat → Nat} {H : Heap} {locs : List Loc} {ls : Array Slot} (y0 : Int32) (h_y0 : 0 ≤ y0.toInt ∧ y0.toInt ≤ 10) (e_y0 : xs 1 = y0) (y1 : Int32) (h_y1 : 1 ≤ y1.toInt ∧ y1.toInt ≤ 2147483647) (e_y1 : xs 2 = y1) (hK : va_K (dC, dI) vwCl (TY cI cJ cII cJJ) s) (hX : GXA 1 g (AA s) s) (hP : va_P (dC, dI) vwCl (WLD cI cJ cII cJJ qx qm u v) H) (hD : va_D (AA s) (WLD cI cJ cII cJJ qx qm u v)) (hS : va_S (AA s) s.heap H locs) (hl : lv_has ls 4 [(3, .int 0), (2, .ref qm), (1, .ref qx), (0, .ref b)]) : W p l e room_1 s m #[Value.ref b] below meth c H locs 600000 7302250 (lw_Z below #[Value.ref b] s) (F0 m 879 ls []) := by
  obtain ⟨hx, hb, hr, hml, hown, hts0, hX0, hbl, hlocks, hgv⟩ := id C0
  have hts : ∀ w ∈ TT, w.before #[Value.ref b] s = true := fun w h => hts0 w (TT_tbl h)
  have hA : ∀ q : Nat, s.heap.size ≤ q → AA s q := fun _ h => h
  have hbA : ¬ AA s b := Nat.not_le.mpr hbl
  have hown : s.vm.findClass RL = some m.cls := hown
  subst hL
  refine lv_aload_n hx hb dL_law_879 rfl (lv_at hl 2 rfl) ?_
  refine lv_aload_n hx hb dL_law_880 rfl (lv_at hl 3 rfl) ?_
  refine lv_iload_n hx hb dL_law_881 rfl (lv_at hl 0 rfl) ?_
  refine lv_iconst (v := 1) hx hb dL_law_882 (by decide) ?_
  refine v_iadd hx hb dL_law_883 1 (by decide +kernel) ?_
  refine va_sld hx hb hX0 hbl hbA hS (vin (by decide +kernel)) dL_law_884 ?_
  refine tvi (v := y0) e_y0 ?_
  refine lv_aload_n hx hb dL_law_885 rfl (lv_at hl 3 rfl) ?_
  refine lv_iload_n hx hb dL_law_886 rfl (lv_at hl 0 rfl) ?_
  refine lv_iconst (v := 2) hx hb dL_law_887 (by decide) ?_
  refine v_iadd hx hb dL_law_888 2 (by decide +kernel) ?_
  refine va_sld hx hb hX0 hbl hbA hS (vin (by decide +kernel)) dL_law_889 ?_
  refine tvi (v := y1) e_y1 ?_
  refine kV_i (q0 := 0) ⟨hx, hb, hml, hown, hts⟩ hK hP hD hS hA hX cv_RL_118 [0, 29, 6, 8, 7, 32, 33, 30] [86, 87, 88, 84, 85] (wr := [(qm, .inr (9, [.ref (v 0), .ref (v 1), .ref (v 2), .ref (v 3), .ref (v 4), .ref (v 5), .ref (v 6), .ref (v 7), .ref (v 8), .ref (v 9), .ref (v 10), .ref (v 11), .int 1, .int 0, .int 0, .ref (v 12), .ref (v 13), .ref (v 14), .ref (v 15), .ref (v 16), .ref (v 17), .int 0, .int 0, .ref (v 18), .ref (v 19), .ref (v 20), .ref (v 21), .int 0, .int 0, .ref (v 22), .ref (v 23), .ref (v 24), .ref (v 25), .int 0, .ref (v 26), .int 0])), ((v 2), .inl (cI, 4, .inl (tb [0, 0, 0, 0]))), ((v 3), .inl (cI, 4, .inl (tb [10, 10, 10, 10]))), ((v 25), .inl (cI, 4, .inl (tb []))), ((v 26), .inl (cI, 777924, .inl (tb [])))]) rfl rfl rfl rfl (by decide) (c221_X8_plan l dC dI cI cJ cII cJJ H.size 0 qx (u 28) (u 0) (u 7) (u 6) (u 31) (u 32) (u 29) (u 10) (u 51) (u 59) (u 60) (u 61) (u 62) (u 30) (u 33) (u 39) (u 45) (u 1) (u 5) (u 8) (u 9) y0 h_y0 y1 h_y1) ⟨by decide +kernel, by decide +kernel⟩ rfl rfl (Or.inl rfl) (rest := []) rfl rfl rfl hl.1 rfl (Nat.le_of_ble_eq_true rfl) dL_law_890 ⟨Nat.le_of_ble_eq_true rfl, Nat.le_of_ble_eq_true rfl⟩ (W' := [(qm, .inr (9, [.ref (v 0), .ref (v 1), .ref (v 2), .ref (v 3), .ref (v 4), .ref (v 5), .ref (v 6), .ref (v 7), .ref (v 8), .ref (v 9), .ref (v 10), .ref (v 11), .int 1, .int 0, .int 0, .ref (v 12), .ref (v 13), .ref (v 14), .ref (v 15), .ref (v 16), .ref (v 17), .int 0, .int 0, .ref (v 18), .ref (v 19), .ref (v 20), .ref (v 21), .int 0, .int 0, .ref (v 22), .ref (v 23), .ref (v 24), .ref (v 25), .int 0, .ref (v 26), .int 0])), ((v 2), .inl (cI, 4, .inl (tb [0, 0, 0, 0]))), ((v 3), .inl (cI, 4, .inl (tb [10, 10, 10, 10]))), ((v 25), .inl (cI, 4, .inl (tb []))), ((v 26), .inl (cI, 777924, .inl (tb [])))]) rfl (fun H locs hP hD hS => ?_)
  refine lv_aload_n hx hb dL_law_893 rfl (lv_at hl 1 rfl) ?_
  refine lv_aload_n hx hb dL_law_894 rfl (lv_at hl 3 rfl) ?_
  refine lv_iload_n hx hb dL_law_895 rfl (lv_at hl 0 rfl) ?_
  refine lv_iconst (v := 1) hx hb dL_law_896 (by decide) ?_
  refine v_iadd hx hb dL_law_897 1 (by decide +kernel) ?_
  refine va_sld hx hb hX0 hbl hbA hS (vin (by decide +kernel)) dL_law_898 ?_
  refine tvi (v := y0) e_y0 ?_
  refine lv_aload_n hx hb dL_law_899 rfl (lv_at hl 3 rfl) ?_
  refine lv_iload_n hx hb dL_law_900 rfl (lv_at hl 0 rfl) ?_
  refine lv_iconst (v := 2) hx hb dL_law_901 (by decide) ?_
  refine v_iadd hx hb dL_law_902 2 (by decide +kernel) ?_
  refine va_sld hx hb hX0 hbl hbA hS (vin (by decide +kernel)) dL_law_903 ?_
  refine tvi (v := y1) e_y1 ?_
  refine kV_i (q0 := 0) ⟨hx, hb, hml, hown, hts⟩ hK hP hD hS hA hX cv_RL_121 [0, 1, 2, 3, 4] [] (wr := []) rfl rfl rfl rfl (by decide) (c545_X9_plan l dC dI cI cJ cII cJJ H.size 0 qm (v 2) (v 3) (v 25) (v 26) (v 0) (v 1) (v 4) (v 5) (v 6) (v 7) (v 8) (v 9) (v 10) (v 11) (v 12) (v 13) (v 14) (v 15) (v 16) (v 17) (v 18) (v 19) (v 20) (v 21) (v 22) (v 23) (v 24) y0 h_y0 y1 h_y1) ⟨by decide +kernel, by decide +kernel⟩ rfl rfl (Or.inl rfl) (rest := [.int (-99999)]) rfl rfl rfl hl.1 rfl (Nat.le_of_ble_eq_true rfl) dL_law_904 ⟨Nat.le_of_ble_eq_true rfl, Nat.le_of_ble_eq_true rfl⟩ (W' := []) rfl (fun H locs hP hD hS => ?_)
  refine t_icmp_eq hx hb dL_law_907 1073 (by decide) rfl ?_
  exact law_end l C0 rfl hS hl
set_option maxRecDepth 100000 in
set_option maxHeartbeats 4000000 in
theorem lr_100 {p : Program} {e : Env} {s : State} {m : MethodId} {below : List Frame} {meth : Method} {c : Code} (l : Launch) {b L : Nat} {xs : Nat → Int32} (C0 : lw_At p s m meth c b L xs) (hL : L = 5) {dC : Nat → ClassId} {dI : Nat → Nat → Nat} {cI cJ cII cJJ : ClassId} {g qx qm : Nat} {u v : Nat → Nat} {H : Heap} {locs : List Loc} {ls : Array Slot} (y0 : Int32) (h_y0 : 0 ≤ y0.toInt ∧ y0.toInt ≤ 10) (e_y0 : xs 1 = y0) (e_y1 : xs 2 = 0) (hK : va_K (dC, dI) vwCl (TY cI cJ cII cJJ) s) (hX : GXA 1 g (AA s) s) (hP : va_P (dC, dI) vwCl (WLD cI cJ cII cJJ qx qm u v) H) (hD : va_D (AA s) (WLD cI cJ cII cJJ qx qm u v)) (hS : va_S (AA s) s.heap H locs) (hl : lv_has ls 4 [(3, .int 0), (2, .ref qm), (1, .ref qx), (0, .ref b)]) : W p l e room_1 s m #[Value.ref b] below meth c H locs 600000 7302250 (lw_Z below #[Value.ref b] s) (F0 m 879 ls []) := by
  obtain ⟨hx, hb, hr, hml, hown, hts0, hX0, hbl, hlocks, hgv⟩ := id C0
  have hts : ∀ w ∈ TT, w.before #[Value.ref b] s = true := fun w h => hts0 w (TT_tbl h)
  have hA : ∀ q : Nat, s.heap.size ≤ q → AA s q := fun _ h => h
  have hbA : ¬ AA s b := Nat.not_le.mpr hbl
  have hown : s.vm.findClass RL = some m.cls := hown
  subst hL
  refine lv_aload_n hx hb dL_law_879 rfl (lv_at hl 2 rfl) ?_
  refine lv_aload_n hx hb dL_law_880 rfl (lv_at hl 3 rfl) ?_
  refine lv_iload_n hx hb dL_law_881 rfl (lv_at hl 0 rfl) ?_
  refine lv_iconst (v := 1) hx hb dL_law_882 (by decide) ?_
  refine v_iadd hx hb dL_law_883 1 (by decide +kernel) ?_
  refine va_sld hx hb hX0 hbl hbA hS (vin (by decide +kernel)) dL_law_884 ?_
  refine tvi (v := y0) e_y0 ?_
  refine lv_aload_n hx hb dL_law_885 rfl (lv_at hl 3 rfl) ?_
  refine lv_iload_n hx hb dL_law_886 rfl (lv_at hl 0 rfl) ?_
  refine lv_iconst (v := 2) hx hb dL_law_887 (by decide) ?_
  refine v_iadd hx hb dL_law_888 2 (by decide +kernel) ?_
  refine va_sld hx hb hX0 hbl hbA hS (vin (by decide +kernel)) dL_law_889 ?_
  refine tvi (v := 0) e_y1 ?_
  refine kV_i (q0 := 0) ⟨hx, hb, hml, hown, hts⟩ hK hP hD hS hA hX cv_RL_118 [0, 29, 6, 8, 7, 32, 33, 30, 61] [86, 87, 88, 84, 85] (wr := [(qm, .inr (9, [.ref (v 0), .ref (v 1), .ref (v 2), .ref (v 3), .ref (v 4), .ref (v 5), .ref (v 6), .ref (v 7), .ref (v 8), .ref (v 9), .ref (v 10), .ref (v 11), .int 1, .int 0, .int 0, .ref (v 12), .ref (v 13), .ref (v 14), .ref (v 15), .ref (v 16), .ref (v 17), .int 0, .int 0, .ref (v 18), .ref (v 19), .ref (v 20), .ref (v 21), .int 0, .int 0, .ref (v 22), .ref (v 23), .ref (v 24), .ref (v 25), .int 0, .ref (v 26), .int 0])), ((v 2), .inl (cI, 4, .inl (tb [0, 0, 0, 0]))), ((v 3), .inl (cI, 4, .inl (tb [10, 10, 10, 10]))), ((v 25), .inl (cI, 4, .inl (tb []))), ((v 26), .inl (cI, 777924, .inl (tb [])))]) rfl rfl rfl rfl (by decide) (c222_X8_plan l dC dI cI cJ cII cJJ H.size 0 qx (u 28) (u 0) (u 7) (u 6) (u 31) (u 32) (u 29) (u 60) (u 10) (u 51) (u 59) (u 61) (u 62) (u 30) (u 33) (u 39) (u 45) (u 1) (u 5) (u 8) (u 9) y0 h_y0) ⟨by decide +kernel, by decide +kernel⟩ rfl rfl (Or.inl rfl) (rest := []) rfl rfl rfl hl.1 rfl (Nat.le_of_ble_eq_true rfl) dL_law_890 ⟨Nat.le_of_ble_eq_true rfl, Nat.le_of_ble_eq_true rfl⟩ (W' := [(qm, .inr (9, [.ref (v 0), .ref (v 1), .ref (v 2), .ref (v 3), .ref (v 4), .ref (v 5), .ref (v 6), .ref (v 7), .ref (v 8), .ref (v 9), .ref (v 10), .ref (v 11), .int 1, .int 0, .int 0, .ref (v 12), .ref (v 13), .ref (v 14), .ref (v 15), .ref (v 16), .ref (v 17), .int 0, .int 0, .ref (v 18), .ref (v 19), .ref (v 20), .ref (v 21), .int 0, .int 0, .ref (v 22), .ref (v 23), .ref (v 24), .ref (v 25), .int 0, .ref (v 26), .int 0])), ((v 2), .inl (cI, 4, .inl (tb [0, 0, 0, 0]))), ((v 3), .inl (cI, 4, .inl (tb [10, 10, 10, 10]))), ((v 25), .inl (cI, 4, .inl (tb []))), ((v 26), .inl (cI, 777924, .inl (tb [])))]) rfl (fun H locs hP hD hS => ?_)
  refine lv_aload_n hx hb dL_law_893 rfl (lv_at hl 1 rfl) ?_
  refine lv_aload_n hx hb dL_law_894 rfl (lv_at hl 3 rfl) ?_
  refine lv_iload_n hx hb dL_law_895 rfl (lv_at hl 0 rfl) ?_
  refine lv_iconst (v := 1) hx hb dL_law_896 (by decide) ?_
  refine v_iadd hx hb dL_law_897 1 (by decide +kernel) ?_
  refine va_sld hx hb hX0 hbl hbA hS (vin (by decide +kernel)) dL_law_898 ?_
  refine tvi (v := y0) e_y0 ?_
  refine lv_aload_n hx hb dL_law_899 rfl (lv_at hl 3 rfl) ?_
  refine lv_iload_n hx hb dL_law_900 rfl (lv_at hl 0 rfl) ?_
  refine lv_iconst (v := 2) hx hb dL_law_901 (by decide) ?_
  refine v_iadd hx hb dL_law_902 2 (by decide +kernel) ?_
  refine va_sld hx hb hX0 hbl hbA hS (vin (by decide +kernel)) dL_law_903 ?_
  refine tvi (v := 0) e_y1 ?_
  refine kV_i (q0 := 0) ⟨hx, hb, hml, hown, hts⟩ hK hP hD hS hA hX cv_RL_121 [0, 1, 2, 3, 4] [] (wr := []) rfl rfl rfl rfl (by decide) (c546_X9_plan l dC dI cI cJ cII cJJ H.size 0 qm (v 2) (v 3) (v 25) (v 26) (v 0) (v 1) (v 4) (v 5) (v 6) (v 7) (v 8) (v 9) (v 10) (v 11) (v 12) (v 13) (v 14) (v 15) (v 16) (v 17) (v 18) (v 19) (v 20) (v 21) (v 22) (v 23) (v 24) y0 h_y0) ⟨by decide +kernel, by decide +kernel⟩ rfl rfl (Or.inl rfl) (rest := [.int y0]) rfl rfl rfl hl.1 rfl (Nat.le_of_ble_eq_true rfl) dL_law_904 ⟨Nat.le_of_ble_eq_true rfl, Nat.le_of_ble_eq_true rfl⟩ (W' := []) rfl (fun H locs hP hD hS => ?_)
  refine t_icmp_eq hx hb dL_law_907 1073 (by decide) rfl ?_
  exact law_end l C0 rfl hS hl
set_option maxRecDepth 100000 in
set_option maxHeartbeats 4000000 in
theorem lc_24 {p : Program} {e : Env} {s : State} {m : MethodId} {below : List Frame} {meth : Method} {c : Code} (l : Launch) {b L : Nat} {xs : Nat → Int32} (C0 : lw_At p s m meth c b L xs) (hL : L = 5) {dC : Nat → ClassId} {dI : Nat → Nat → Nat} {cI cJ cII cJJ : ClassId} {g qx qm : Nat} {u v : Nat → Nat} {H : Heap} {locs : List Loc} {ls : Array Slot} (hK : va_K (dC, dI) vwCl (TY cI cJ cII cJJ) s) (hX : GXA 1 g (AA s) s) (hP : va_P (dC, dI) vwCl (WLD cI cJ cII cJJ qx qm u v) H) (hD : va_D (AA s) (WLD cI cJ cII cJJ qx qm u v)) (hS : va_S (AA s) s.heap H locs) (hl : lv_has ls 4 [(3, .int 0), (2, .ref qm), (1, .ref qx), (0, .ref b)]) : W p l e room_1 s m #[Value.ref b] below meth c H locs 600000 7302250 (lw_Z below #[Value.ref b] s) (F0 m 879 ls []) := by
  have q1 := s_any (xs 1)
  have q2 := s_any (xs 2)
  have key : ((xs 1).toInt ≤ -1) ∨ (11 ≤ (xs 1).toInt) ∨ ((0 ≤ (xs 1).toInt ∧ (xs 1).toInt ≤ 10) ∧ (xs 2).toInt ≤ -1) ∨ ((0 ≤ (xs 1).toInt ∧ (xs 1).toInt ≤ 10) ∧ 1 ≤ (xs 2).toInt) ∨ ((0 ≤ (xs 1).toInt ∧ (xs 1).toInt ≤ 10) ∧ (xs 2).toInt = 0) := by omega
  rcases key with h | h | h | h | h
  · exact lr_96 l C0 hL (xs 1) ⟨by omega, by omega⟩ rfl (xs 2) ⟨by omega, by omega⟩ rfl hK hX hP hD hS hl
  · exact lr_97 l C0 hL (xs 1) ⟨by omega, by omega⟩ rfl (xs 2) ⟨by omega, by omega⟩ rfl hK hX hP hD hS hl
  · exact lr_98 l C0 hL (xs 1) ⟨by omega, by omega⟩ rfl (xs 2) ⟨by omega, by omega⟩ rfl hK hX hP hD hS hl
  · exact lr_99 l C0 hL (xs 1) ⟨by omega, by omega⟩ rfl (xs 2) ⟨by omega, by omega⟩ rfl hK hX hP hD hS hl
  · exact lr_100 l C0 hL (xs 1) ⟨by omega, by omega⟩ rfl (Int32.toInt_inj.mp (by rw [show (0 : Int32).toInt = 0 from by decide +kernel]; omega)) hK hX hP hD hS hl
set_option maxRecDepth 100000 in
set_option maxHeartbeats 4000000 in
theorem lr_101 {p : Program} {e : Env} {s : State} {m : MethodId} {below : List Frame} {meth : Method} {c : Code} (l : Launch) {b L : Nat} {xs : Nat → Int32} (C0 : lw_At p s m meth c b L xs) (hL : L = 5) {dC : Nat → ClassId} {dI : Nat → Nat → Nat} {cI cJ cII cJJ : ClassId} {g qx qm : Nat} {u v : Nat → Nat} {H : Heap} {locs : List Loc} {ls : Array Slot} (y0 : Int32) (h_y0 : -2147483648 ≤ y0.toInt ∧ y0.toInt ≤ -1) (e_y0 : xs 1 = y0) (hK : va_K (dC, dI) vwCl (TY cI cJ cII cJJ) s) (hX : GXA 1 g (AA s) s) (hP : va_P (dC, dI) vwCl (WLD cI cJ cII cJJ qx qm u v) H) (hD : va_D (AA s) (WLD cI cJ cII cJJ qx qm u v)) (hS : va_S (AA s) s.heap H locs) (hl : lv_has ls 4 [(3, .int 0), (2, .ref qm), (1, .ref qx), (0, .ref b)]) : W p l e room_1 s m #[Value.ref b] below meth c H locs 600000 7302250 (lw_Z below #[Value.ref b] s) (F0 m 912 ls []) := by
  obtain ⟨hx, hb, hr, hml, hown, hts0, hX0, hbl, hlocks, hgv⟩ := id C0
  have hts : ∀ w ∈ TT, w.before #[Value.ref b] s = true := fun w h => hts0 w (TT_tbl h)
  have hA : ∀ q : Nat, s.heap.size ≤ q → AA s q := fun _ h => h
  have hbA : ¬ AA s b := Nat.not_le.mpr hbl
  have hown : s.vm.findClass RL = some m.cls := hown
  subst hL
  refine lv_aload_n hx hb dL_law_912 rfl (lv_at hl 2 rfl) ?_
  refine lv_aload_n hx hb dL_law_913 rfl (lv_at hl 3 rfl) ?_
  refine lv_iload_n hx hb dL_law_914 rfl (lv_at hl 0 rfl) ?_
  refine lv_iconst (v := 1) hx hb dL_law_915 (by decide) ?_
  refine v_iadd hx hb dL_law_916 1 (by decide +kernel) ?_
  refine va_sld hx hb hX0 hbl hbA hS (vin (by decide +kernel)) dL_law_917 ?_
  refine tvi (v := y0) e_y0 ?_
  refine kV_i (q0 := 0) ⟨hx, hb, hml, hown, hts⟩ hK hP hD hS hA hX cv_RL_122 [0, 29, 6, 8, 7, 32, 33, 30, 63] [86, 87, 88, 84, 85, 66] (wr := [(qm, .inr (9, [.ref (v 0), .ref (v 1), .ref (v 2), .ref (v 3), .ref (v 4), .ref (v 5), .ref (v 6), .ref (v 7), .ref (v 8), .ref (v 9), .ref (v 10), .ref (v 11), .int 1, .int 0, .int 0, .ref (v 12), .ref (v 13), .ref (v 14), .ref (v 15), .ref (v 16), .ref (v 17), .int 0, .int 0, .ref (v 18), .ref (v 19), .ref (v 20), .ref (v 21), .int 0, .int 0, .ref (v 22), .ref (v 23), .ref (v 24), .ref (v 25), .int 0, .ref (v 26), .int 0])), ((v 2), .inl (cI, 4, .inl (tb [0, 0, 0, 0]))), ((v 3), .inl (cI, 4, .inl (tb [10, 10, 10, 10]))), ((v 25), .inl (cI, 4, .inl (tb []))), ((v 26), .inl (cI, 777924, .inl (tb []))), ((v 7), .inl (cI, 8, .inl (tb [])))]) rfl rfl rfl rfl (by decide) (c225_X8_take l dC dI cI cJ cII cJJ H.size 0 qx (u 28) (u 0) (u 7) (u 6) (u 31) (u 32) (u 29) (u 62) (u 10) (u 51) (u 59) (u 60) (u 61) (u 30) (u 33) (u 39) (u 45) (u 1) (u 5) (u 8) (u 9) y0 h_y0) ⟨by decide +kernel, by decide +kernel⟩ rfl rfl (Or.inl rfl) (rest := []) rfl rfl rfl hl.1 rfl (Nat.le_of_ble_eq_true rfl) dL_law_918 ⟨Nat.le_of_ble_eq_true rfl, Nat.le_of_ble_eq_true rfl⟩ (W' := [(qm, .inr (9, [.ref (v 0), .ref (v 1), .ref (v 2), .ref (v 3), .ref (v 4), .ref (v 5), .ref (v 6), .ref (v 7), .ref (v 8), .ref (v 9), .ref (v 10), .ref (v 11), .int 1, .int 0, .int 0, .ref (v 12), .ref (v 13), .ref (v 14), .ref (v 15), .ref (v 16), .ref (v 17), .int 0, .int 0, .ref (v 18), .ref (v 19), .ref (v 20), .ref (v 21), .int 0, .int 0, .ref (v 22), .ref (v 23), .ref (v 24), .ref (v 25), .int 0, .ref (v 26), .int 0])), ((v 2), .inl (cI, 4, .inl (tb [0, 0, 0, 0]))), ((v 3), .inl (cI, 4, .inl (tb [10, 10, 10, 10]))), ((v 25), .inl (cI, 4, .inl (tb []))), ((v 26), .inl (cI, 777924, .inl (tb []))), ((v 7), .inl (cI, 8, .inl (tb [])))]) rfl (fun H locs hP hD hS => ?_)
  refine lv_aload_n hx hb dL_law_921 rfl (lv_at hl 1 rfl) ?_
  refine lv_aload_n hx hb dL_law_922 rfl (lv_at hl 3 rfl) ?_
  refine lv_iload_n hx hb dL_law_923 rfl (lv_at hl 0 rfl) ?_
  refine lv_iconst (v := 1) hx hb dL_law_924 (by decide) ?_
  refine v_iadd hx hb dL_law_925 1 (by decide +kernel) ?_
  refine va_sld hx hb hX0 hbl hbA hS (vin (by decide +kernel)) dL_law_926 ?_
  refine tvi (v := y0) e_y0 ?_
  refine kV_i (q0 := 0) ⟨hx, hb, hml, hown, hts⟩ hK hP hD hS hA hX cv_RL_125 [0, 1, 2, 3, 4, 5] [] (wr := []) rfl rfl rfl rfl (by decide) (c547_X9_take l dC dI cI cJ cII cJJ H.size 0 qm (v 2) (v 3) (v 25) (v 26) (v 7) (v 0) (v 1) (v 4) (v 5) (v 6) (v 8) (v 9) (v 10) (v 11) (v 12) (v 13) (v 14) (v 15) (v 16) (v 17) (v 18) (v 19) (v 20) (v 21) (v 22) (v 23) (v 24) y0 h_y0) ⟨by decide +kernel, by decide +kernel⟩ rfl rfl (Or.inl rfl) (rest := [.int (-1)]) rfl rfl rfl hl.1 rfl (Nat.le_of_ble_eq_true rfl) dL_law_927 ⟨Nat.le_of_ble_eq_true rfl, Nat.le_of_ble_eq_true rfl⟩ (W' := []) rfl (fun H locs hP hD hS => ?_)
  refine t_icmp_eq hx hb dL_law_930 1073 (by decide) rfl ?_
  exact law_end l C0 rfl hS hl
set_option maxRecDepth 100000 in
set_option maxHeartbeats 4000000 in
theorem lr_102 {p : Program} {e : Env} {s : State} {m : MethodId} {below : List Frame} {meth : Method} {c : Code} (l : Launch) {b L : Nat} {xs : Nat → Int32} (C0 : lw_At p s m meth c b L xs) (hL : L = 5) {dC : Nat → ClassId} {dI : Nat → Nat → Nat} {cI cJ cII cJJ : ClassId} {g qx qm : Nat} {u v : Nat → Nat} {H : Heap} {locs : List Loc} {ls : Array Slot} (y0 : Int32) (h_y0 : 11 ≤ y0.toInt ∧ y0.toInt ≤ 2147483647) (e_y0 : xs 1 = y0) (hK : va_K (dC, dI) vwCl (TY cI cJ cII cJJ) s) (hX : GXA 1 g (AA s) s) (hP : va_P (dC, dI) vwCl (WLD cI cJ cII cJJ qx qm u v) H) (hD : va_D (AA s) (WLD cI cJ cII cJJ qx qm u v)) (hS : va_S (AA s) s.heap H locs) (hl : lv_has ls 4 [(3, .int 0), (2, .ref qm), (1, .ref qx), (0, .ref b)]) : W p l e room_1 s m #[Value.ref b] below meth c H locs 600000 7302250 (lw_Z below #[Value.ref b] s) (F0 m 912 ls []) := by
  obtain ⟨hx, hb, hr, hml, hown, hts0, hX0, hbl, hlocks, hgv⟩ := id C0
  have hts : ∀ w ∈ TT, w.before #[Value.ref b] s = true := fun w h => hts0 w (TT_tbl h)
  have hA : ∀ q : Nat, s.heap.size ≤ q → AA s q := fun _ h => h
  have hbA : ¬ AA s b := Nat.not_le.mpr hbl
  have hown : s.vm.findClass RL = some m.cls := hown
  subst hL
  refine lv_aload_n hx hb dL_law_912 rfl (lv_at hl 2 rfl) ?_
  refine lv_aload_n hx hb dL_law_913 rfl (lv_at hl 3 rfl) ?_
  refine lv_iload_n hx hb dL_law_914 rfl (lv_at hl 0 rfl) ?_
  refine lv_iconst (v := 1) hx hb dL_law_915 (by decide) ?_
  refine v_iadd hx hb dL_law_916 1 (by decide +kernel) ?_
  refine va_sld hx hb hX0 hbl hbA hS (vin (by decide +kernel)) dL_law_917 ?_
  refine tvi (v := y0) e_y0 ?_
  refine kV_i (q0 := 0) ⟨hx, hb, hml, hown, hts⟩ hK hP hD hS hA hX cv_RL_122 [0, 29, 6, 8, 7, 32, 33, 30, 63] [86, 87, 88, 84, 85, 66] (wr := [(qm, .inr (9, [.ref (v 0), .ref (v 1), .ref (v 2), .ref (v 3), .ref (v 4), .ref (v 5), .ref (v 6), .ref (v 7), .ref (v 8), .ref (v 9), .ref (v 10), .ref (v 11), .int 1, .int 0, .int 0, .ref (v 12), .ref (v 13), .ref (v 14), .ref (v 15), .ref (v 16), .ref (v 17), .int 0, .int 0, .ref (v 18), .ref (v 19), .ref (v 20), .ref (v 21), .int 0, .int 0, .ref (v 22), .ref (v 23), .ref (v 24), .ref (v 25), .int 0, .ref (v 26), .int 0])), ((v 2), .inl (cI, 4, .inl (tb [0, 0, 0, 0]))), ((v 3), .inl (cI, 4, .inl (tb [10, 10, 10, 10]))), ((v 25), .inl (cI, 4, .inl (tb []))), ((v 26), .inl (cI, 777924, .inl (tb []))), ((v 7), .inl (cI, 8, .inl (tb [])))]) rfl rfl rfl rfl (by decide) (c226_X8_take l dC dI cI cJ cII cJJ H.size 0 qx (u 28) (u 0) (u 7) (u 6) (u 31) (u 32) (u 29) (u 62) (u 10) (u 51) (u 59) (u 60) (u 61) (u 30) (u 33) (u 39) (u 45) (u 1) (u 5) (u 8) (u 9) y0 h_y0) ⟨by decide +kernel, by decide +kernel⟩ rfl rfl (Or.inl rfl) (rest := []) rfl rfl rfl hl.1 rfl (Nat.le_of_ble_eq_true rfl) dL_law_918 ⟨Nat.le_of_ble_eq_true rfl, Nat.le_of_ble_eq_true rfl⟩ (W' := [(qm, .inr (9, [.ref (v 0), .ref (v 1), .ref (v 2), .ref (v 3), .ref (v 4), .ref (v 5), .ref (v 6), .ref (v 7), .ref (v 8), .ref (v 9), .ref (v 10), .ref (v 11), .int 1, .int 0, .int 0, .ref (v 12), .ref (v 13), .ref (v 14), .ref (v 15), .ref (v 16), .ref (v 17), .int 0, .int 0, .ref (v 18), .ref (v 19), .ref (v 20), .ref (v 21), .int 0, .int 0, .ref (v 22), .ref (v 23), .ref (v 24), .ref (v 25), .int 0, .ref (v 26), .int 0])), ((v 2), .inl (cI, 4, .inl (tb [0, 0, 0, 0]))), ((v 3), .inl (cI, 4, .inl (tb [10, 10, 10, 10]))), ((v 25), .inl (cI, 4, .inl (tb []))), ((v 26), .inl (cI, 777924, .inl (tb []))), ((v 7), .inl (cI, 8, .inl (tb [])))]) rfl (fun H locs hP hD hS => ?_)
  refine lv_aload_n hx hb dL_law_921 rfl (lv_at hl 1 rfl) ?_
  refine lv_aload_n hx hb dL_law_922 rfl (lv_at hl 3 rfl) ?_
  refine lv_iload_n hx hb dL_law_923 rfl (lv_at hl 0 rfl) ?_
  refine lv_iconst (v := 1) hx hb dL_law_924 (by decide) ?_
  refine v_iadd hx hb dL_law_925 1 (by decide +kernel) ?_
  refine va_sld hx hb hX0 hbl hbA hS (vin (by decide +kernel)) dL_law_926 ?_
  refine tvi (v := y0) e_y0 ?_
  refine kV_i (q0 := 0) ⟨hx, hb, hml, hown, hts⟩ hK hP hD hS hA hX cv_RL_125 [0, 1, 2, 3, 4, 5] [] (wr := []) rfl rfl rfl rfl (by decide) (c549_X9_take l dC dI cI cJ cII cJJ H.size 0 qm (v 2) (v 3) (v 25) (v 26) (v 7) (v 0) (v 1) (v 4) (v 5) (v 6) (v 8) (v 9) (v 10) (v 11) (v 12) (v 13) (v 14) (v 15) (v 16) (v 17) (v 18) (v 19) (v 20) (v 21) (v 22) (v 23) (v 24) y0 h_y0) ⟨by decide +kernel, by decide +kernel⟩ rfl rfl (Or.inl rfl) (rest := [.int (-1)]) rfl rfl rfl hl.1 rfl (Nat.le_of_ble_eq_true rfl) dL_law_927 ⟨Nat.le_of_ble_eq_true rfl, Nat.le_of_ble_eq_true rfl⟩ (W' := []) rfl (fun H locs hP hD hS => ?_)
  refine t_icmp_eq hx hb dL_law_930 1073 (by decide) rfl ?_
  exact law_end l C0 rfl hS hl
set_option maxRecDepth 100000 in
set_option maxHeartbeats 4000000 in
theorem lr_103 {p : Program} {e : Env} {s : State} {m : MethodId} {below : List Frame} {meth : Method} {c : Code} (l : Launch) {b L : Nat} {xs : Nat → Int32} (C0 : lw_At p s m meth c b L xs) (hL : L = 5) {dC : Nat → ClassId} {dI : Nat → Nat → Nat} {cI cJ cII cJJ : ClassId} {g qx qm : Nat} {u v : Nat → Nat} {H : Heap} {locs : List Loc} {ls : Array Slot} (y0 : Int32) (h_y0 : 0 ≤ y0.toInt ∧ y0.toInt ≤ 10) (e_y0 : xs 1 = y0) (hK : va_K (dC, dI) vwCl (TY cI cJ cII cJJ) s) (hX : GXA 1 g (AA s) s) (hP : va_P (dC, dI) vwCl (WLD cI cJ cII cJJ qx qm u v) H) (hD : va_D (AA s) (WLD cI cJ cII cJJ qx qm u v)) (hS : va_S (AA s) s.heap H locs) (hl : lv_has ls 4 [(3, .int 0), (2, .ref qm), (1, .ref qx), (0, .ref b)]) : W p l e room_1 s m #[Value.ref b] below meth c H locs 600000 7302250 (lw_Z below #[Value.ref b] s) (F0 m 912 ls []) := by
  obtain ⟨hx, hb, hr, hml, hown, hts0, hX0, hbl, hlocks, hgv⟩ := id C0
  have hts : ∀ w ∈ TT, w.before #[Value.ref b] s = true := fun w h => hts0 w (TT_tbl h)
  have hA : ∀ q : Nat, s.heap.size ≤ q → AA s q := fun _ h => h
  have hbA : ¬ AA s b := Nat.not_le.mpr hbl
  have hown : s.vm.findClass RL = some m.cls := hown
  subst hL
  refine lv_aload_n hx hb dL_law_912 rfl (lv_at hl 2 rfl) ?_
  refine lv_aload_n hx hb dL_law_913 rfl (lv_at hl 3 rfl) ?_
  refine lv_iload_n hx hb dL_law_914 rfl (lv_at hl 0 rfl) ?_
  refine lv_iconst (v := 1) hx hb dL_law_915 (by decide) ?_
  refine v_iadd hx hb dL_law_916 1 (by decide +kernel) ?_
  refine va_sld hx hb hX0 hbl hbA hS (vin (by decide +kernel)) dL_law_917 ?_
  refine tvi (v := y0) e_y0 ?_
  refine kV_i (q0 := 0) ⟨hx, hb, hml, hown, hts⟩ hK hP hD hS hA hX cv_RL_122 [0, 29, 6, 8, 7, 32, 33, 30, 60] [86, 87, 88, 84, 85, 91] (wr := [(qm, .inr (9, [.ref (v 0), .ref (v 1), .ref (v 2), .ref (v 3), .ref (v 4), .ref (v 5), .ref (v 6), .ref (v 7), .ref (v 8), .ref (v 9), .ref (v 10), .ref (v 11), .int 1, .int 0, .int 0, .ref (v 12), .ref (v 13), .ref (v 14), .ref (v 15), .ref (v 16), .ref (v 17), .int 0, .int 0, .ref (v 18), .ref (v 19), .ref (v 20), .ref (v 21), .int 0, .int 0, .ref (v 22), .ref (v 23), .ref (v 24), .ref (v 25), .int 0, .ref (v 26), .int 0])), ((v 2), .inl (cI, 4, .inl (tb [0, 0, 0, 0]))), ((v 3), .inl (cI, 4, .inl (tb [10, 10, 10, 10]))), ((v 25), .inl (cI, 4, .inl (tb []))), ((v 26), .inl (cI, 777924, .inl (tb []))), ((v 6), .inl (cI, 4, .inl (tb [0, 0, 0, 0])))]) rfl rfl rfl rfl (by decide) (c227_X8_take l dC dI cI cJ cII cJJ H.size 0 qx (u 28) (u 0) (u 7) (u 6) (u 31) (u 32) (u 29) (u 59) (u 10) (u 51) (u 60) (u 61) (u 62) (u 30) (u 33) (u 39) (u 45) (u 1) (u 5) (u 8) (u 9) y0 h_y0) ⟨by decide +kernel, by decide +kernel⟩ rfl rfl (Or.inl rfl) (rest := []) rfl rfl rfl hl.1 rfl (Nat.le_of_ble_eq_true rfl) dL_law_918 ⟨Nat.le_of_ble_eq_true rfl, Nat.le_of_ble_eq_true rfl⟩ (W' := [(qm, .inr (9, [.ref (v 0), .ref (v 1), .ref (v 2), .ref (v 3), .ref (v 4), .ref (v 5), .ref (v 6), .ref (v 7), .ref (v 8), .ref (v 9), .ref (v 10), .ref (v 11), .int 1, .int 0, .int 0, .ref (v 12), .ref (v 13), .ref (v 14), .ref (v 15), .ref (v 16), .ref (v 17), .int 0, .int 0, .ref (v 18), .ref (v 19), .ref (v 20), .ref (v 21), .int 0, .int 0, .ref (v 22), .ref (v 23), .ref (v 24), .ref (v 25), .int 0, .ref (v 26), .int 0])), ((v 2), .inl (cI, 4, .inl (tb [0, 0, 0, 0]))), ((v 3), .inl (cI, 4, .inl (tb [10, 10, 10, 10]))), ((v 25), .inl (cI, 4, .inl (tb []))), ((v 26), .inl (cI, 777924, .inl (tb []))), ((v 6), .inl (cI, 4, .inl (tb [0, 0, 0, 0])))]) rfl (fun H locs hP hD hS => ?_)
  refine lv_aload_n hx hb dL_law_921 rfl (lv_at hl 1 rfl) ?_
  refine lv_aload_n hx hb dL_law_922 rfl (lv_at hl 3 rfl) ?_
  refine lv_iload_n hx hb dL_law_923 rfl (lv_at hl 0 rfl) ?_
  refine lv_iconst (v := 1) hx hb dL_law_924 (by decide) ?_
  refine v_iadd hx hb dL_law_925 1 (by decide +kernel) ?_
  refine va_sld hx hb hX0 hbl hbA hS (vin (by decide +kernel)) dL_law_926 ?_
  refine tvi (v := y0) e_y0 ?_
  refine kV_i (q0 := 0) ⟨hx, hb, hml, hown, hts⟩ hK hP hD hS hA hX cv_RL_125 [0, 1, 2, 3, 4, 5] [] (wr := []) rfl rfl rfl rfl (by decide) (c550_X9_take l dC dI cI cJ cII cJJ H.size 0 qm (v 2) (v 3) (v 25) (v 26) (v 6) (v 0) (v 1) (v 4) (v 5) (v 7) (v 8) (v 9) (v 10) (v 11) (v 12) (v 13) (v 14) (v 15) (v 16) (v 17) (v 18) (v 19) (v 20) (v 21) (v 22) (v 23) (v 24) y0 h_y0) ⟨by decide +kernel, by decide +kernel⟩ rfl rfl (Or.inl rfl) (rest := [.int 1]) rfl rfl rfl hl.1 rfl (Nat.le_of_ble_eq_true rfl) dL_law_927 ⟨Nat.le_of_ble_eq_true rfl, Nat.le_of_ble_eq_true rfl⟩ (W' := []) rfl (fun H locs hP hD hS => ?_)
  refine t_icmp_eq hx hb dL_law_930 1073 (by decide) rfl ?_
  exact law_end l C0 rfl hS hl
set_option maxRecDepth 100000 in
set_option maxHeartbeats 4000000 in
theorem lc_25 {p : Program} {e : Env} {s : State} {m : MethodId} {below : List Frame} {meth : Method} {c : Code} (l : Launch) {b L : Nat} {xs : Nat → Int32} (C0 : lw_At p s m meth c b L xs) (hL : L = 5) {dC : Nat → ClassId} {dI : Nat → Nat → Nat} {cI cJ cII cJJ : ClassId} {g qx qm : Nat} {u v : Nat → Nat} {H : Heap} {locs : List Loc} {ls : Array Slot} (hK : va_K (dC, dI) vwCl (TY cI cJ cII cJJ) s) (hX : GXA 1 g (AA s) s) (hP : va_P (dC, dI) vwCl (WLD cI cJ cII cJJ qx qm u v) H) (hD : va_D (AA s) (WLD cI cJ cII cJJ qx qm u v)) (hS : va_S (AA s) s.heap H locs) (hl : lv_has ls 4 [(3, .int 0), (2, .ref qm), (1, .ref qx), (0, .ref b)]) : W p l e room_1 s m #[Value.ref b] below meth c H locs 600000 7302250 (lw_Z below #[Value.ref b] s) (F0 m 912 ls []) := by
  have q1 := s_any (xs 1)
  have key : ((xs 1).toInt ≤ -1) ∨ (11 ≤ (xs 1).toInt) ∨ ((0 ≤ (xs 1).toInt ∧ (xs 1).toInt ≤ 10)) := by omega
  rcases key with h | h | h
  · exact lr_101 l C0 hL (xs 1) ⟨by omega, by omega⟩ rfl hK hX hP hD hS hl
  · exact lr_102 l C0 hL (xs 1) ⟨by omega, by omega⟩ rfl hK hX hP hD hS hl
  · exact lr_103 l C0 hL (xs 1) ⟨by omega, by omega⟩ rfl hK hX hP hD hS hl
set_option maxRecDepth 100000 in
set_option maxHeartbeats 4000000 in
theorem lr_104 {p : Program} {e : Env} {s : State} {m : MethodId} {below : List Frame} {meth : Method} {c : Code} (l : Launch) {b L : Nat} {xs : Nat → Int32} (C0 : lw_At p s m meth c b L xs) (hL : L = 5) {dC : Nat → ClassId} {dI : Nat → Nat → Nat} {cI cJ cII cJJ : ClassId} {g qx qm : Nat} {u v : Nat → Nat} {H : Heap} {locs : List Loc} {ls : Array Slot} (y0 : Int32) (h_y0 : -2147483648 ≤ y0.toInt ∧ y0.toInt ≤ -1) (e_y0 : xs 1 = y0) (hK : va_K (dC, dI) vwCl (TY cI cJ cII cJJ) s) (hX : GXA 1 g (AA s) s) (hP : va_P (dC, dI) vwCl (WLD cI cJ cII cJJ qx qm u v) H) (hD : va_D (AA s) (WLD cI cJ cII cJJ qx qm u v)) (hS : va_S (AA s) s.heap H locs) (hl : lv_has ls 4 [(3, .int 0), (2, .ref qm), (1, .ref qx), (0, .ref b)]) : W p l e room_1 s m #[Value.ref b] below meth c H locs 600000 7302250 (lw_Z below #[Value.ref b] s) (F0 m 935 ls []) := by
  obtain ⟨hx, hb, hr, hml, hown, hts0, hX0, hbl, hlocks, hgv⟩ := id C0
  have hts : ∀ w ∈ TT, w.before #[Value.ref b] s = true := fun w h => hts0 w (TT_tbl h)
  have hA : ∀ q : Nat, s.heap.size ≤ q → AA s q := fun _ h => h
  have hbA : ¬ AA s b := Nat.not_le.mpr hbl
  have hown : s.vm.findClass RL = some m.cls := hown
  subst hL
  refine lv_aload_n hx hb dL_law_935 rfl (lv_at hl 2 rfl) ?_
  refine lv_aload_n hx hb dL_law_936 rfl (lv_at hl 3 rfl) ?_
  refine lv_iload_n hx hb dL_law_937 rfl (lv_at hl 0 rfl) ?_
  refine lv_iconst (v := 1) hx hb dL_law_938 (by decide) ?_
  refine v_iadd hx hb dL_law_939 1 (by decide +kernel) ?_
  refine va_sld hx hb hX0 hbl hbA hS (vin (by decide +kernel)) dL_law_940 ?_
  refine tvi (v := y0) e_y0 ?_
  refine kV_i (q0 := 0) ⟨hx, hb, hml, hown, hts⟩ hK hP hD hS hA hX cv_RL_126 [0, 29, 6, 8, 7, 32, 33, 30, 63] [86, 87, 88, 84, 85, 66] (wr := [(qm, .inr (9, [.ref (v 0), .ref (v 1), .ref (v 2), .ref (v 3), .ref (v 4), .ref (v 5), .ref (v 6), .ref (v 7), .ref (v 8), .ref (v 9), .ref (v 10), .ref (v 11), .int 1, .int 0, .int 0, .ref (v 12), .ref (v 13), .ref (v 14), .ref (v 15), .ref (v 16), .ref (v 17), .int 0, .int 0, .ref (v 18), .ref (v 19), .ref (v 20), .ref (v 21), .int 0, .int 0, .ref (v 22), .ref (v 23), .ref (v 24), .ref (v 25), .int 0, .ref (v 26), .int 0])), ((v 2), .inl (cI, 4, .inl (tb [0, 0, 0, 0]))), ((v 3), .inl (cI, 4, .inl (tb [10, 10, 10, 10]))), ((v 25), .inl (cI, 4, .inl (tb []))), ((v 26), .inl (cI, 777924, .inl (tb []))), ((v 7), .inl (cI, 8, .inl (tb [])))]) rfl rfl rfl rfl (by decide) (c228_X8_less l dC dI cI cJ cII cJJ H.size 0 qx (u 28) (u 0) (u 7) (u 6) (u 31) (u 32) (u 29) (u 62) (u 10) (u 51) (u 59) (u 60) (u 61) (u 30) (u 33) (u 39) (u 45) (u 1) (u 5) (u 8) (u 9) y0 h_y0) ⟨by decide +kernel, by decide +kernel⟩ rfl rfl (Or.inl rfl) (rest := []) rfl rfl rfl hl.1 rfl (Nat.le_of_ble_eq_true rfl) dL_law_941 ⟨Nat.le_of_ble_eq_true rfl, Nat.le_of_ble_eq_true rfl⟩ (W' := [(qm, .inr (9, [.ref (v 0), .ref (v 1), .ref (v 2), .ref (v 3), .ref (v 4), .ref (v 5), .ref (v 6), .ref (v 7), .ref (v 8), .ref (v 9), .ref (v 10), .ref (v 11), .int 1, .int 0, .int 0, .ref (v 12), .ref (v 13), .ref (v 14), .ref (v 15), .ref (v 16), .ref (v 17), .int 0, .int 0, .ref (v 18), .ref (v 19), .ref (v 20), .ref (v 21), .int 0, .int 0, .ref (v 22), .ref (v 23), .ref (v 24), .ref (v 25), .int 0, .ref (v 26), .int 0])), ((v 2), .inl (cI, 4, .inl (tb [0, 0, 0, 0]))), ((v 3), .inl (cI, 4, .inl (tb [10, 10, 10, 10]))), ((v 25), .inl (cI, 4, .inl (tb []))), ((v 26), .inl (cI, 777924, .inl (tb []))), ((v 7), .inl (cI, 8, .inl (tb [])))]) rfl (fun H locs hP hD hS => ?_)
  refine lv_aload_n hx hb dL_law_944 rfl (lv_at hl 1 rfl) ?_
  refine lv_aload_n hx hb dL_law_945 rfl (lv_at hl 3 rfl) ?_
  refine lv_iload_n hx hb dL_law_946 rfl (lv_at hl 0 rfl) ?_
  refine lv_iconst (v := 1) hx hb dL_law_947 (by decide) ?_
  refine v_iadd hx hb dL_law_948 1 (by decide +kernel) ?_
  refine va_sld hx hb hX0 hbl hbA hS (vin (by decide +kernel)) dL_law_949 ?_
  refine tvi (v := y0) e_y0 ?_
  refine kV_i (q0 := 0) ⟨hx, hb, hml, hown, hts⟩ hK hP hD hS hA hX cv_RL_129 [0, 1, 2, 3, 4, 5] [] (wr := []) rfl rfl rfl rfl (by decide) (c551_X9_less l dC dI cI cJ cII cJJ H.size 0 qm (v 2) (v 3) (v 25) (v 26) (v 7) (v 0) (v 1) (v 4) (v 5) (v 6) (v 8) (v 9) (v 10) (v 11) (v 12) (v 13) (v 14) (v 15) (v 16) (v 17) (v 18) (v 19) (v 20) (v 21) (v 22) (v 23) (v 24) y0 h_y0) ⟨by decide +kernel, by decide +kernel⟩ rfl rfl (Or.inl rfl) (rest := [.int (-1)]) rfl rfl rfl hl.1 rfl (Nat.le_of_ble_eq_true rfl) dL_law_950 ⟨Nat.le_of_ble_eq_true rfl, Nat.le_of_ble_eq_true rfl⟩ (W' := []) rfl (fun H locs hP hD hS => ?_)
  refine t_icmp_eq hx hb dL_law_953 1073 (by decide) rfl ?_
  exact law_end l C0 rfl hS hl
set_option maxRecDepth 100000 in
set_option maxHeartbeats 4000000 in
theorem lr_105 {p : Program} {e : Env} {s : State} {m : MethodId} {below : List Frame} {meth : Method} {c : Code} (l : Launch) {b L : Nat} {xs : Nat → Int32} (C0 : lw_At p s m meth c b L xs) (hL : L = 5) {dC : Nat → ClassId} {dI : Nat → Nat → Nat} {cI cJ cII cJJ : ClassId} {g qx qm : Nat} {u v : Nat → Nat} {H : Heap} {locs : List Loc} {ls : Array Slot} (y0 : Int32) (h_y0 : 11 ≤ y0.toInt ∧ y0.toInt ≤ 2147483647) (e_y0 : xs 1 = y0) (hK : va_K (dC, dI) vwCl (TY cI cJ cII cJJ) s) (hX : GXA 1 g (AA s) s) (hP : va_P (dC, dI) vwCl (WLD cI cJ cII cJJ qx qm u v) H) (hD : va_D (AA s) (WLD cI cJ cII cJJ qx qm u v)) (hS : va_S (AA s) s.heap H locs) (hl : lv_has ls 4 [(3, .int 0), (2, .ref qm), (1, .ref qx), (0, .ref b)]) : W p l e room_1 s m #[Value.ref b] below meth c H locs 600000 7302250 (lw_Z below #[Value.ref b] s) (F0 m 935 ls []) := by
  obtain ⟨hx, hb, hr, hml, hown, hts0, hX0, hbl, hlocks, hgv⟩ := id C0
  have hts : ∀ w ∈ TT, w.before #[Value.ref b] s = true := fun w h => hts0 w (TT_tbl h)
  have hA : ∀ q : Nat, s.heap.size ≤ q → AA s q := fun _ h => h
  have hbA : ¬ AA s b := Nat.not_le.mpr hbl
  have hown : s.vm.findClass RL = some m.cls := hown
  subst hL
  refine lv_aload_n hx hb dL_law_935 rfl (lv_at hl 2 rfl) ?_
  refine lv_aload_n hx hb dL_law_936 rfl (lv_at hl 3 rfl) ?_
  refine lv_iload_n hx hb dL_law_937 rfl (lv_at hl 0 rfl) ?_
  refine lv_iconst (v := 1) hx hb dL_law_938 (by decide) ?_
  refine v_iadd hx hb dL_law_939 1 (by decide +kernel) ?_
  refine va_sld hx hb hX0 hbl hbA hS (vin (by decide +kernel)) dL_law_940 ?_
  refine tvi (v := y0) e_y0 ?_
  refine kV_i (q0 := 0) ⟨hx, hb, hml, hown, hts⟩ hK hP hD hS hA hX cv_RL_126 [0, 29, 6, 8, 7, 32, 33, 30, 63] [86, 87, 88, 84, 85, 66] (wr := [(qm, .inr (9, [.ref (v 0), .ref (v 1), .ref (v 2), .ref (v 3), .ref (v 4), .ref (v 5), .ref (v 6), .ref (v 7), .ref (v 8), .ref (v 9), .ref (v 10), .ref (v 11), .int 1, .int 0, .int 0, .ref (v 12), .ref (v 13), .ref (v 14), .ref (v 15), .ref (v 16), .ref (v 17), .int 0, .int 0, .ref (v 18), .ref (v 19), .ref (v 20), .ref (v 21), .int 0, .int 0, .ref (v 22), .ref (v 23), .ref (v 24), .ref (v 25), .int 0, .ref (v 26), .int 0])), ((v 2), .inl (cI, 4, .inl (tb [0, 0, 0, 0]))), ((v 3), .inl (cI, 4, .inl (tb [10, 10, 10, 10]))), ((v 25), .inl (cI, 4, .inl (tb []))), ((v 26), .inl (cI, 777924, .inl (tb []))), ((v 7), .inl (cI, 8, .inl (tb [])))]) rfl rfl rfl rfl (by decide) (c229_X8_less l dC dI cI cJ cII cJJ H.size 0 qx (u 28) (u 0) (u 7) (u 6) (u 31) (u 32) (u 29) (u 62) (u 10) (u 51) (u 59) (u 60) (u 61) (u 30) (u 33) (u 39) (u 45) (u 1) (u 5) (u 8) (u 9) y0 h_y0) ⟨by decide +kernel, by decide +kernel⟩ rfl rfl (Or.inl rfl) (rest := []) rfl rfl rfl hl.1 rfl (Nat.le_of_ble_eq_true rfl) dL_law_941 ⟨Nat.le_of_ble_eq_true rfl, Nat.le_of_ble_eq_true rfl⟩ (W' := [(qm, .inr (9, [.ref (v 0), .ref (v 1), .ref (v 2), .ref (v 3), .ref (v 4), .ref (v 5), .ref (v 6), .ref (v 7), .ref (v 8), .ref (v 9), .ref (v 10), .ref (v 11), .int 1, .int 0, .int 0, .ref (v 12), .ref (v 13), .ref (v 14), .ref (v 15), .ref (v 16), .ref (v 17), .int 0, .int 0, .ref (v 18), .ref (v 19), .ref (v 20), .ref (v 21), .int 0, .int 0, .ref (v 22), .ref (v 23), .ref (v 24), .ref (v 25), .int 0, .ref (v 26), .int 0])), ((v 2), .inl (cI, 4, .inl (tb [0, 0, 0, 0]))), ((v 3), .inl (cI, 4, .inl (tb [10, 10, 10, 10]))), ((v 25), .inl (cI, 4, .inl (tb []))), ((v 26), .inl (cI, 777924, .inl (tb []))), ((v 7), .inl (cI, 8, .inl (tb [])))]) rfl (fun H locs hP hD hS => ?_)
  refine lv_aload_n hx hb dL_law_944 rfl (lv_at hl 1 rfl) ?_
  refine lv_aload_n hx hb dL_law_945 rfl (lv_at hl 3 rfl) ?_
  refine lv_iload_n hx hb dL_law_946 rfl (lv_at hl 0 rfl) ?_
  refine lv_iconst (v := 1) hx hb dL_law_947 (by decide) ?_
  refine v_iadd hx hb dL_law_948 1 (by decide +kernel) ?_
  refine va_sld hx hb hX0 hbl hbA hS (vin (by decide +kernel)) dL_law_949 ?_
  refine tvi (v := y0) e_y0 ?_
  refine kV_i (q0 := 0) ⟨hx, hb, hml, hown, hts⟩ hK hP hD hS hA hX cv_RL_129 [0, 1, 2, 3, 4, 5] [] (wr := []) rfl rfl rfl rfl (by decide) (c552_X9_less l dC dI cI cJ cII cJJ H.size 0 qm (v 2) (v 3) (v 25) (v 26) (v 7) (v 0) (v 1) (v 4) (v 5) (v 6) (v 8) (v 9) (v 10) (v 11) (v 12) (v 13) (v 14) (v 15) (v 16) (v 17) (v 18) (v 19) (v 20) (v 21) (v 22) (v 23) (v 24) y0 h_y0) ⟨by decide +kernel, by decide +kernel⟩ rfl rfl (Or.inl rfl) (rest := [.int (-1)]) rfl rfl rfl hl.1 rfl (Nat.le_of_ble_eq_true rfl) dL_law_950 ⟨Nat.le_of_ble_eq_true rfl, Nat.le_of_ble_eq_true rfl⟩ (W' := []) rfl (fun H locs hP hD hS => ?_)
  refine t_icmp_eq hx hb dL_law_953 1073 (by decide) rfl ?_
  exact law_end l C0 rfl hS hl
set_option maxRecDepth 100000 in
set_option maxHeartbeats 4000000 in
theorem lr_106 {p : Program} {e : Env} {s : State} {m : MethodId} {below : List Frame} {meth : Method} {c : Code} (l : Launch) {b L : Nat} {xs : Nat → Int32} (C0 : lw_At p s m meth c b L xs) (hL : L = 5) {dC : Nat → ClassId} {dI : Nat → Nat → Nat} {cI cJ cII cJJ : ClassId} {g qx qm : Nat} {u v : Nat → Nat} {H : Heap} {locs : List Loc} {ls : Array Slot} (y0 : Int32) (h_y0 : 0 ≤ y0.toInt ∧ y0.toInt ≤ 10) (e_y0 : xs 1 = y0) (hK : va_K (dC, dI) vwCl (TY cI cJ cII cJJ) s) (hX : GXA 1 g (AA s) s) (hP : va_P (dC, dI) vwCl (WLD cI cJ cII cJJ qx qm u v) H) (hD : va_D (AA s) (WLD cI cJ cII cJJ qx qm u v)) (hS : va_S (AA s) s.heap H locs) (hl : lv_has ls 4 [(3, .int 0), (2, .ref qm), (1, .ref qx), (0, .ref b)]) : W p l e room_1 s m #[Value.ref b] below meth c H locs 600000 7302250 (lw_Z below #[Value.ref b] s) (F0 m 935 ls []) := by
  obtain ⟨hx, hb, hr, hml, hown, hts0, hX0, hbl, hlocks, hgv⟩ := id C0
  have hts : ∀ w ∈ TT, w.before #[Value.ref b] s = true := fun w h => hts0 w (TT_tbl h)
  have hA : ∀ q : Nat, s.heap.size ≤ q → AA s q := fun _ h => h
  have hbA : ¬ AA s b := Nat.not_le.mpr hbl
  have hown : s.vm.findClass RL = some m.cls := hown
  subst hL
  refine lv_aload_n hx hb dL_law_935 rfl (lv_at hl 2 rfl) ?_
  refine lv_aload_n hx hb dL_law_936 rfl (lv_at hl 3 rfl) ?_
  refine lv_iload_n hx hb dL_law_937 rfl (lv_at hl 0 rfl) ?_
  refine lv_iconst (v := 1) hx hb dL_law_938 (by decide) ?_
  refine v_iadd hx hb dL_law_939 1 (by decide +kernel) ?_
  refine va_sld hx hb hX0 hbl hbA hS (vin (by decide +kernel)) dL_law_940 ?_
  refine tvi (v := y0) e_y0 ?_
  refine kV_i (q0 := 0) ⟨hx, hb, hml, hown, hts⟩ hK hP hD hS hA hX cv_RL_126 [0, 29, 6, 8, 7, 32, 33, 30, 61, 60, 62] [86, 87, 88, 84, 85, 91] (wr := [(qm, .inr (9, [.ref (v 0), .ref (v 1), .ref (v 2), .ref (v 3), .ref (v 4), .ref (v 5), .ref (v 6), .ref (v 7), .ref (v 8), .ref (v 9), .ref (v 10), .ref (v 11), .int 1, .int 0, .int 0, .ref (v 12), .ref (v 13), .ref (v 14), .ref (v 15), .ref (v 16), .ref (v 17), .int 0, .int 0, .ref (v 18), .ref (v 19), .ref (v 20), .ref (v 21), .int 0, .int 0, .ref (v 22), .ref (v 23), .ref (v 24), .ref (v 25), .int 0, .ref (v 26), .int 0])), ((v 2), .inl (cI, 4, .inl (tb [0, 0, 0, 0]))), ((v 3), .inl (cI, 4, .inl (tb [10, 10, 10, 10]))), ((v 25), .inl (cI, 4, .inl (tb []))), ((v 26), .inl (cI, 777924, .inl (tb []))), ((v 6), .inl (cI, 4, .inl (tb [0, 0, 0, 0])))]) rfl rfl rfl rfl (by decide) (c230_X8_less l dC dI cI cJ cII cJJ H.size 0 qx (u 28) (u 0) (u 7) (u 6) (u 31) (u 32) (u 29) (u 60) (u 59) (u 61) (u 10) (u 51) (u 62) (u 30) (u 33) (u 39) (u 45) (u 1) (u 5) (u 8) (u 9) y0 h_y0) ⟨by decide +kernel, by decide +kernel⟩ rfl rfl (Or.inl rfl) (rest := []) rfl rfl rfl hl.1 rfl (Nat.le_of_ble_eq_true rfl) dL_law_941 ⟨Nat.le_of_ble_eq_true rfl, Nat.le_of_ble_eq_true rfl⟩ (W' := [(qm, .inr (9, [.ref (v 0), .ref (v 1), .ref (v 2), .ref (v 3), .ref (v 4), .ref (v 5), .ref (v 6), .ref (v 7), .ref (v 8), .ref (v 9), .ref (v 10), .ref (v 11), .int 1, .int 0, .int 0, .ref (v 12), .ref (v 13), .ref (v 14), .ref (v 15), .ref (v 16), .ref (v 17), .int 0, .int 0, .ref (v 18), .ref (v 19), .ref (v 20), .ref (v 21), .int 0, .int 0, .ref (v 22), .ref (v 23), .ref (v 24), .ref (v 25), .int 0, .ref (v 26), .int 0])), ((v 2), .inl (cI, 4, .inl (tb [0, 0, 0, 0]))), ((v 3), .inl (cI, 4, .inl (tb [10, 10, 10, 10]))), ((v 25), .inl (cI, 4, .inl (tb []))), ((v 26), .inl (cI, 777924, .inl (tb []))), ((v 6), .inl (cI, 4, .inl (tb [0, 0, 0, 0])))]) rfl (fun H locs hP hD hS => ?_)
  refine lv_aload_n hx hb dL_law_944 rfl (lv_at hl 1 rfl) ?_
  refine lv_aload_n hx hb dL_law_945 rfl (lv_at hl 3 rfl) ?_
  refine lv_iload_n hx hb dL_law_946 rfl (lv_at hl 0 rfl) ?_
  refine lv_iconst (v := 1) hx hb dL_law_947 (by decide) ?_
  refine v_iadd hx hb dL_law_948 1 (by decide +kernel) ?_
  refine va_sld hx hb hX0 hbl hbA hS (vin (by decide +kernel)) dL_law_949 ?_
  refine tvi (v := y0) e_y0 ?_
  refine kV_i (q0 := 0) ⟨hx, hb, hml, hown, hts⟩ hK hP hD hS hA hX cv_RL_129 [0, 1, 2, 3, 4, 5] [] (wr := []) rfl rfl rfl rfl (by decide) (c553_X9_less l dC dI cI cJ cII cJJ H.size 0 qm (v 2) (v 3) (v 25) (v 26) (v 6) (v 0) (v 1) (v 4) (v 5) (v 7) (v 8) (v 9) (v 10) (v 11) (v 12) (v 13) (v 14) (v 15) (v 16) (v 17) (v 18) (v 19) (v 20) (v 21) (v 22) (v 23) (v 24) y0 h_y0) ⟨by decide +kernel, by decide +kernel⟩ rfl rfl (Or.inl rfl) (rest := [.int 1]) rfl rfl rfl hl.1 rfl (Nat.le_of_ble_eq_true rfl) dL_law_950 ⟨Nat.le_of_ble_eq_true rfl, Nat.le_of_ble_eq_true rfl⟩ (W' := []) rfl (fun H locs hP hD hS => ?_)
  refine t_icmp_eq hx hb dL_law_953 1073 (by decide) rfl ?_
  exact law_end l C0 rfl hS hl
