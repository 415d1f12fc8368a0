set_option maxRecDepth 100000 in
set_option maxHeartbeats 4000000 in
theorem lr_0 {p : Program} {e : Env} {s : State} {m : MethodId} {below : List Frame} {meth : Method} {c : Code} (l : Launch) {b L : Nat} {xs : Nat → Int32} (C0 : lw_At p s m meth c b L xs) (hL : L = 5) {dC : Nat → ClassId} {dI : Nat → Nat → Nat} {cI cJ cII cJJ : ClassId} {g qx qm : Nat} {u v : Nat → Nat} {H : Heap} {locs : List Loc} {ls : Array Slot} (y0 : Int32) (h_y0 : -2147483648 ≤ y0.toInt ∧ y0.toInt ≤ 0) (e_y0 : xs 1 = y0) (hK : va_K (dC, dI) vwCl (TY cI cJ cII cJJ) s) (hX : GXA 1 g (AA s) s) (hP : va_P (dC, dI) vwCl (WLD cI cJ cII cJJ qx qm u v) H) (hD : va_D (AA s) (WLD cI cJ cII cJJ qx qm u v)) (hS : va_S (AA s) s.heap H locs) (hl : lv_has ls 4 [(3, .int 0), (2, .ref qm), (1, .ref qx), (0, .ref b)]) : W p l e room_1 s m #[Value.ref b] below meth c H locs 600000 7302250 (lw_Z below #[Value.ref b] s) (F0 m 176 ls []) := by
  obtain ⟨hx, hb, hr, hml, hown, hts0, hX0, hbl, hlocks, hgv⟩ := id C0
  have hts : ∀ w ∈ TT, w.before #[Value.ref b] s = true := fun w h => hts0 w (TT_tbl h)
  have hA : ∀ q : Nat, s.heap.size ≤ q → AA s q := fun _ h => h
  have hbA : ¬ AA s b := Nat.not_le.mpr hbl
  have hown : s.vm.findClass RL = some m.cls := hown
  subst hL
  refine lv_aload_n hx hb dL_law_176 rfl (lv_at hl 2 rfl) ?_
  refine lv_aload_n hx hb dL_law_177 rfl (lv_at hl 3 rfl) ?_
  refine lv_iload_n hx hb dL_law_178 rfl (lv_at hl 0 rfl) ?_
  refine lv_iconst (v := 1) hx hb dL_law_179 (by decide) ?_
  refine v_iadd hx hb dL_law_180 1 (by decide +kernel) ?_
  refine va_sld hx hb hX0 hbl hbA hS (vin (by decide +kernel)) dL_law_181 ?_
  refine tvi (v := y0) e_y0 ?_
  refine kV_i (q0 := 0) ⟨hx, hb, hml, hown, hts⟩ hK hP hD hS hA hX cv_RL_13 [0, 63] [86, 66] (wr := [(qm, .inr (9, [.ref (v 0), .ref (v 1), .ref (v 2), .ref (v 3), .ref (v 4), .ref (v 5), .ref (v 6), .ref (v 7), .ref (v 8), .ref (v 9), .ref (v 10), .ref (v 11), .int 1, .int 0, .int 0, .ref (v 12), .ref (v 13), .ref (v 14), .ref (v 15), .ref (v 16), .ref (v 17), .int 0, .int 0, .ref (v 18), .ref (v 19), .ref (v 20), .ref (v 21), .int 0, .int 0, .ref (v 22), .ref (v 23), .ref (v 24), .ref (v 25), .int 0, .ref (v 26), .int 0])), ((v 7), .inl (cI, 8, .inl (tb [])))]) rfl rfl rfl rfl (by decide) (c014_X8_works l dC dI cI cJ cII cJJ H.size 0 qx (u 62) (u 0) (u 10) (u 28) (u 51) (u 59) (u 60) (u 61) y0 h_y0) ⟨by decide +kernel, by decide +kernel⟩ rfl rfl (Or.inl rfl) (rest := []) rfl rfl rfl hl.1 rfl (Nat.le_of_ble_eq_true rfl) dL_law_182 ⟨Nat.le_of_ble_eq_true rfl, Nat.le_of_ble_eq_true rfl⟩ (W' := [(qm, .inr (9, [.ref (v 0), .ref (v 1), .ref (v 2), .ref (v 3), .ref (v 4), .ref (v 5), .ref (v 6), .ref (v 7), .ref (v 8), .ref (v 9), .ref (v 10), .ref (v 11), .int 1, .int 0, .int 0, .ref (v 12), .ref (v 13), .ref (v 14), .ref (v 15), .ref (v 16), .ref (v 17), .int 0, .int 0, .ref (v 18), .ref (v 19), .ref (v 20), .ref (v 21), .int 0, .int 0, .ref (v 22), .ref (v 23), .ref (v 24), .ref (v 25), .int 0, .ref (v 26), .int 0])), ((v 7), .inl (cI, 8, .inl (tb [])))]) rfl (fun H locs hP hD hS => ?_)
  refine lv_aload_n hx hb dL_law_185 rfl (lv_at hl 1 rfl) ?_
  refine lv_aload_n hx hb dL_law_186 rfl (lv_at hl 3 rfl) ?_
  refine lv_iload_n hx hb dL_law_187 rfl (lv_at hl 0 rfl) ?_
  refine lv_iconst (v := 1) hx hb dL_law_188 (by decide) ?_
  refine v_iadd hx hb dL_law_189 1 (by decide +kernel) ?_
  refine va_sld hx hb hX0 hbl hbA hS (vin (by decide +kernel)) dL_law_190 ?_
  refine tvi (v := y0) e_y0 ?_
  refine kV_i (q0 := 0) ⟨hx, hb, hml, hown, hts⟩ hK hP hD hS hA hX cv_RL_17 [0, 1] [] (wr := []) rfl rfl rfl rfl (by decide) (c304_X9_works l dC dI cI cJ cII cJJ H.size 0 qm (v 7) (v 0) (v 1) (v 2) (v 3) (v 4) (v 5) (v 6) (v 8) (v 9) (v 10) (v 11) (v 12) (v 13) (v 14) (v 15) (v 16) (v 17) (v 18) (v 19) (v 20) (v 21) (v 22) (v 23) (v 24) (v 25) (v 26) y0 h_y0) ⟨by decide +kernel, by decide +kernel⟩ rfl rfl (Or.inl rfl) (rest := [.int (-4)]) rfl rfl rfl hl.1 rfl (Nat.le_of_ble_eq_true rfl) dL_law_191 ⟨Nat.le_of_ble_eq_true rfl, Nat.le_of_ble_eq_true rfl⟩ (W' := []) rfl (fun H locs hP hD hS => ?_)
  refine t_icmp_eq hx hb dL_law_194 1073 (by decide) rfl ?_
  exact law_end l C0 rfl hS hl
set_option maxRecDepth 100000 in
set_option maxHeartbeats 4000000 in
theorem lr_1 {p : Program} {e : Env} {s : State} {m : MethodId} {below : List Frame} {meth : Method} {c : Code} (l : Launch) {b L : Nat} {xs : Nat → Int32} (C0 : lw_At p s m meth c b L xs) (hL : L = 5) {dC : Nat → ClassId} {dI : Nat → Nat → Nat} {cI cJ cII cJJ : ClassId} {g qx qm : Nat} {u v : Nat → Nat} {H : Heap} {locs : List Loc} {ls : Array Slot} (y0 : Int32) (h_y0 : 5 ≤ y0.toInt ∧ y0.toInt ≤ 2147483647) (e_y0 : xs 1 = y0) (hK : va_K (dC, dI) vwCl (TY cI cJ cII cJJ) s) (hX : GXA 1 g (AA s) s) (hP : va_P (dC, dI) vwCl (WLD cI cJ cII cJJ qx qm u v) H) (hD : va_D (AA s) (WLD cI cJ cII cJJ qx qm u v)) (hS : va_S (AA s) s.heap H locs) (hl : lv_has ls 4 [(3, .int 0), (2, .ref qm), (1, .ref qx), (0, .ref b)]) : W p l e room_1 s m #[Value.ref b] below meth c H locs 600000 7302250 (lw_Z below #[Value.ref b] s) (F0 m 176 ls []) := by
  obtain ⟨hx, hb, hr, hml, hown, hts0, hX0, hbl, hlocks, hgv⟩ := id C0
  have hts : ∀ w ∈ TT, w.before #[Value.ref b] s = true := fun w h => hts0 w (TT_tbl h)
  have hA : ∀ q : Nat, s.heap.size ≤ q → AA s q := fun _ h => h
  have hbA : ¬ AA s b := Nat.not_le.mpr hbl
  have hown : s.vm.findClass RL = some m.cls := hown
  subst hL
  refine lv_aload_n hx hb dL_law_176 rfl (lv_at hl 2 rfl) ?_
  refine lv_aload_n hx hb dL_law_177 rfl (lv_at hl 3 rfl) ?_
  refine lv_iload_n hx hb dL_law_178 rfl (lv_at hl 0 rfl) ?_
  refine lv_iconst (v := 1) hx hb dL_law_179 (by decide) ?_
  refine v_iadd hx hb dL_law_180 1 (by decide +kernel) ?_
  refine va_sld hx hb hX0 hbl hbA hS (vin (by decide +kernel)) dL_law_181 ?_
  refine tvi (v := y0) e_y0 ?_
  refine kV_i (q0 := 0) ⟨hx, hb, hml, hown, hts⟩ hK hP hD hS hA hX cv_RL_13 [0, 63] [86, 66] (wr := [(qm, .inr (9, [.ref (v 0), .ref (v 1), .ref (v 2), .ref (v 3), .ref (v 4), .ref (v 5), .ref (v 6), .ref (v 7), .ref (v 8), .ref (v 9), .ref (v 10), .ref (v 11), .int 1, .int 0, .int 0, .ref (v 12), .ref (v 13), .ref (v 14), .ref (v 15), .ref (v 16), .ref (v 17), .int 0, .int 0, .ref (v 18), .ref (v 19), .ref (v 20), .ref (v 21), .int 0, .int 0, .ref (v 22), .ref (v 23), .ref (v 24), .ref (v 25), .int 0, .ref (v 26), .int 0])), ((v 7), .inl (cI, 8, .inl (tb [])))]) rfl rfl rfl rfl (by decide) (c016_X8_works l dC dI cI cJ cII cJJ H.size 0 qx (u 62) (u 0) (u 10) (u 28) (u 51) (u 59) (u 60) (u 61) y0 h_y0) ⟨by decide +kernel, by decide +kernel⟩ rfl rfl (Or.inl rfl) (rest := []) rfl rfl rfl hl.1 rfl (Nat.le_of_ble_eq_true rfl) dL_law_182 ⟨Nat.le_of_ble_eq_true rfl, Nat.le_of_ble_eq_true rfl⟩ (W' := [(qm, .inr (9, [.ref (v 0), .ref (v 1), .ref (v 2), .ref (v 3), .ref (v 4), .ref (v 5), .ref (v 6), .ref (v 7), .ref (v 8), .ref (v 9), .ref (v 10), .ref (v 11), .int 1, .int 0, .int 0, .ref (v 12), .ref (v 13), .ref (v 14), .ref (v 15), .ref (v 16), .ref (v 17), .int 0, .int 0, .ref (v 18), .ref (v 19), .ref (v 20), .ref (v 21), .int 0, .int 0, .ref (v 22), .ref (v 23), .ref (v 24), .ref (v 25), .int 0, .ref (v 26), .int 0])), ((v 7), .inl (cI, 8, .inl (tb [])))]) rfl (fun H locs hP hD hS => ?_)
  refine lv_aload_n hx hb dL_law_185 rfl (lv_at hl 1 rfl) ?_
  refine lv_aload_n hx hb dL_law_186 rfl (lv_at hl 3 rfl) ?_
  refine lv_iload_n hx hb dL_law_187 rfl (lv_at hl 0 rfl) ?_
  refine lv_iconst (v := 1) hx hb dL_law_188 (by decide) ?_
  refine v_iadd hx hb dL_law_189 1 (by decide +kernel) ?_
  refine va_sld hx hb hX0 hbl hbA hS (vin (by decide +kernel)) dL_law_190 ?_
  refine tvi (v := y0) e_y0 ?_
  refine kV_i (q0 := 0) ⟨hx, hb, hml, hown, hts⟩ hK hP hD hS hA hX cv_RL_17 [0, 1] [] (wr := []) rfl rfl rfl rfl (by decide) (c306_X9_works l dC dI cI cJ cII cJJ H.size 0 qm (v 7) (v 0) (v 1) (v 2) (v 3) (v 4) (v 5) (v 6) (v 8) (v 9) (v 10) (v 11) (v 12) (v 13) (v 14) (v 15) (v 16) (v 17) (v 18) (v 19) (v 20) (v 21) (v 22) (v 23) (v 24) (v 25) (v 26) y0 h_y0) ⟨by decide +kernel, by decide +kernel⟩ rfl rfl (Or.inl rfl) (rest := [.int (-6)]) rfl rfl rfl hl.1 rfl (Nat.le_of_ble_eq_true rfl) dL_law_191 ⟨Nat.le_of_ble_eq_true rfl, Nat.le_of_ble_eq_true rfl⟩ (W' := []) rfl (fun H locs hP hD hS => ?_)
  refine t_icmp_eq hx hb dL_law_194 1073 (by decide) rfl ?_
  exact law_end l C0 rfl hS hl
set_option maxRecDepth 100000 in
set_option maxHeartbeats 4000000 in
theorem lr_2 {p : Program} {e : Env} {s : State} {m : MethodId} {below : List Frame} {meth : Method} {c : Code} (l : Launch) {b L : Nat} {xs : Nat → Int32} (C0 : lw_At p s m meth c b L xs) (hL : L = 5) {dC : Nat → ClassId} {dI : Nat → Nat → Nat} {cI cJ cII cJJ : ClassId} {g qx qm : Nat} {u v : Nat → Nat} {H : Heap} {locs : List Loc} {ls : Array Slot} (y0 : Int32) (h_y0 : 1 ≤ y0.toInt ∧ y0.toInt ≤ 4) (e_y0 : xs 1 = y0) (hK : va_K (dC, dI) vwCl (TY cI cJ cII cJJ) s) (hX : GXA 1 g (AA s) s) (hP : va_P (dC, dI) vwCl (WLD cI cJ cII cJJ qx qm u v) H) (hD : va_D (AA s) (WLD cI cJ cII cJJ qx qm u v)) (hS : va_S (AA s) s.heap H locs) (hl : lv_has ls 4 [(3, .int 0), (2, .ref qm), (1, .ref qx), (0, .ref b)]) : W p l e room_1 s m #[Value.ref b] below meth c H locs 600000 7302250 (lw_Z below #[Value.ref b] s) (F0 m 176 ls []) := by
  obtain ⟨hx, hb, hr, hml, hown, hts0, hX0, hbl, hlocks, hgv⟩ := id C0
  have hts : ∀ w ∈ TT, w.before #[Value.ref b] s = true := fun w h => hts0 w (TT_tbl h)
  have hA : ∀ q : Nat, s.heap.size ≤ q → AA s q := fun _ h => h
  have hbA : ¬ AA s b := Nat.not_le.mpr hbl
  have hown : s.vm.findClass RL = some m.cls := hown
  subst hL
  refine lv_aload_n hx hb dL_law_176 rfl (lv_at hl 2 rfl) ?_
  refine lv_aload_n hx hb dL_law_177 rfl (lv_at hl 3 rfl) ?_
  refine lv_iload_n hx hb dL_law_178 rfl (lv_at hl 0 rfl) ?_
  refine lv_iconst (v := 1) hx hb dL_law_179 (by decide) ?_
  refine v_iadd hx hb dL_law_180 1 (by decide +kernel) ?_
  refine va_sld hx hb hX0 hbl hbA hS (vin (by decide +kernel)) dL_law_181 ?_
  refine tvi (v := y0) e_y0 ?_
  refine kV_i (q0 := 0) ⟨hx, hb, hml, hown, hts⟩ hK hP hD hS hA hX cv_RL_13 [0, 6, 7, 8, 9, 10, 60, 11, 29] [86, 87, 88, 89, 90, 91] (wr := [(qm, .inr (9, [.ref (v 0), .ref (v 1), .ref (v 2), .ref (v 3), .ref (v 4), .ref (v 5), .ref (v 6), .ref (v 7), .ref (v 8), .ref (v 9), .ref (v 10), .ref (v 11), .int 1, .int 0, .int 0, .ref (v 12), .ref (v 13), .ref (v 14), .ref (v 15), .ref (v 16), .ref (v 17), .int 0, .int 0, .ref (v 18), .ref (v 19), .ref (v 20), .ref (v 21), .int 0, .int 0, .ref (v 22), .ref (v 23), .ref (v 24), .ref (v 25), .int 0, .ref (v 26), .int 0])), ((v 2), .inl (cI, 4, .inl (tb [0, 0, 0, 0]))), ((v 3), .inl (cI, 4, .inl (tb [10, 10, 10, 10]))), ((v 4), .inl (cI, 4, .inl (tb [0, 0, 0, 0]))), ((v 5), .inl (cI, 4, .inl (tb [0, 0, 0, 0]))), ((v 6), .inl (cI, 4, .inl (tb [0, 0, 0, 0])))]) rfl rfl rfl rfl (by decide) (c018_X8_works l dC dI cI cJ cII cJJ H.size 0 qx (u 0) (u 6) (u 7) (u 8) (u 9) (u 59) (u 10) (u 28) (u 51) (u 60) (u 61) (u 62) (u 1) (u 5) (u 11) (u 13) (u 21) (u 24) (u 29) (u 30) (u 31) (u 32) (u 33) (u 39) (u 45) y0 h_y0) ⟨by decide +kernel, by decide +kernel⟩ rfl rfl (Or.inl rfl) (rest := []) rfl rfl rfl hl.1 rfl (Nat.le_of_ble_eq_true rfl) dL_law_182 ⟨Nat.le_of_ble_eq_true rfl, Nat.le_of_ble_eq_true rfl⟩ (W' := [(qm, .inr (9, [.ref (v 0), .ref (v 1), .ref (v 2), .ref (v 3), .ref (v 4), .ref (v 5), .ref (v 6), .ref (v 7), .ref (v 8), .ref (v 9), .ref (v 10), .ref (v 11), .int 1, .int 0, .int 0, .ref (v 12), .ref (v 13), .ref (v 14), .ref (v 15), .ref (v 16), .ref (v 17), .int 0, .int 0, .ref (v 18), .ref (v 19), .ref (v 20), .ref (v 21), .int 0, .int 0, .ref (v 22), .ref (v 23), .ref (v 24), .ref (v 25), .int 0, .ref (v 26), .int 0])), ((v 2), .inl (cI, 4, .inl (tb [0, 0, 0, 0]))), ((v 3), .inl (cI, 4, .inl (tb [10, 10, 10, 10]))), ((v 4), .inl (cI, 4, .inl (tb [0, 0, 0, 0]))), ((v 5), .inl (cI, 4, .inl (tb [0, 0, 0, 0]))), ((v 6), .inl (cI, 4, .inl (tb [0, 0, 0, 0])))]) rfl (fun H locs hP hD hS => ?_)
  refine lv_aload_n hx hb dL_law_185 rfl (lv_at hl 1 rfl) ?_
  refine lv_aload_n hx hb dL_law_186 rfl (lv_at hl 3 rfl) ?_
  refine lv_iload_n hx hb dL_law_187 rfl (lv_at hl 0 rfl) ?_
  refine lv_iconst (v := 1) hx hb dL_law_188 (by decide) ?_
  refine v_iadd hx hb dL_law_189 1 (by decide +kernel) ?_
  refine va_sld hx hb hX0 hbl hbA hS (vin (by decide +kernel)) dL_law_190 ?_
  refine tvi (v := y0) e_y0 ?_
  refine kV_i (q0 := 0) ⟨hx, hb, hml, hown, hts⟩ hK hP hD hS hA hX cv_RL_17 [0, 1, 2, 3, 4, 5] [] (wr := []) rfl rfl rfl rfl (by decide) (c308_X9_works l dC dI cI cJ cII cJJ H.size 0 qm (v 2) (v 3) (v 4) (v 5) (v 6) (v 0) (v 1) (v 7) (v 8) (v 9) (v 10) (v 11) (v 12) (v 13) (v 14) (v 15) (v 16) (v 17) (v 18) (v 19) (v 20) (v 21) (v 22) (v 23) (v 24) (v 25) (v 26) y0 h_y0) ⟨by decide +kernel, by decide +kernel⟩ rfl rfl (Or.inl rfl) (rest := [.int 1]) rfl rfl rfl hl.1 rfl (Nat.le_of_ble_eq_true rfl) dL_law_191 ⟨Nat.le_of_ble_eq_true rfl, Nat.le_of_ble_eq_true rfl⟩ (W' := []) rfl (fun H locs hP hD hS => ?_)
  refine t_icmp_eq hx hb dL_law_194 1073 (by decide) rfl ?_
  exact law_end l C0 rfl hS hl
set_option maxRecDepth 100000 in
set_option maxHeartbeats 4000000 in
theorem lc_0 {p : Program} {e : Env} {s : State} {m : MethodId} {below : List Frame} {meth : Method} {c : Code} (l : Launch) {b L : Nat} {xs : Nat → Int32} (C0 : lw_At p s m meth c b L xs) (hL : L = 5) {dC : Nat → ClassId} {dI : Nat → Nat → Nat} {cI cJ cII cJJ : ClassId} {g qx qm : Nat} {u v : Nat → Nat} {H : Heap} {locs : List Loc} {ls : Array Slot} (hK : va_K (dC, dI) vwCl (TY cI cJ cII cJJ) s) (hX : GXA 1 g (AA s) s) (hP : va_P (dC, dI) vwCl (WLD cI cJ cII cJJ qx qm u v) H) (hD : va_D (AA s) (WLD cI cJ cII cJJ qx qm u v)) (hS : va_S (AA s) s.heap H locs) (hl : lv_has ls 4 [(3, .int 0), (2, .ref qm), (1, .ref qx), (0, .ref b)]) : W p l e room_1 s m #[Value.ref b] below meth c H locs 600000 7302250 (lw_Z below #[Value.ref b] s) (F0 m 176 ls []) := by
  have q1 := s_any (xs 1)
  have key : ((xs 1).toInt ≤ 0) ∨ (5 ≤ (xs 1).toInt) ∨ ((1 ≤ (xs 1).toInt ∧ (xs 1).toInt ≤ 4)) := by omega
  rcases key with h | h | h
  · exact lr_0 l C0 hL (xs 1) ⟨by omega, by omega⟩ rfl hK hX hP hD hS hl
  · exact lr_1 l C0 hL (xs 1) ⟨by omega, by omega⟩ rfl hK hX hP hD hS hl
  · exact lr_2 l C0 hL (xs 1) ⟨by omega, by omega⟩ rfl hK hX hP hD hS hl
set_option maxRecDepth 100000 in
set_option maxHeartbeats 4000000 in
theorem lr_3 {p : Program} {e : Env} {s : State} {m : MethodId} {below : List Frame} {meth : Method} {c : Code} (l : Launch) {b L : Nat} {xs : Nat → Int32} (C0 : lw_At p s m meth c b L xs) (hL : L = 5) {dC : Nat → ClassId} {dI : Nat → Nat → Nat} {cI cJ cII cJJ : ClassId} {g qx qm : Nat} {u v : Nat → Nat} {H : Heap} {locs : List Loc} {ls : Array Slot} (hK : va_K (dC, dI) vwCl (TY cI cJ cII cJJ) s) (hX : GXA 1 g (AA s) s) (hP : va_P (dC, dI) vwCl (WLD cI cJ cII cJJ qx qm u v) H) (hD : va_D (AA s) (WLD cI cJ cII cJJ qx qm u v)) (hS : va_S (AA s) s.heap H locs) (hl : lv_has ls 4 [(3, .int 0), (2, .ref qm), (1, .ref qx), (0, .ref b)]) : W p l e room_1 s m #[Value.ref b] below meth c H locs 600000 7302250 (lw_Z below #[Value.ref b] s) (F0 m 199 ls []) := by
  obtain ⟨hx, hb, hr, hml, hown, hts0, hX0, hbl, hlocks, hgv⟩ := id C0
  have hts : ∀ w ∈ TT, w.before #[Value.ref b] s = true := fun w h => hts0 w (TT_tbl h)
  have hA : ∀ q : Nat, s.heap.size ≤ q → AA s q := fun _ h => h
  have hbA : ¬ AA s b := Nat.not_le.mpr hbl
  have hown : s.vm.findClass RL = some m.cls := hown
  subst hL
  refine lv_aload_n hx hb dL_law_199 rfl (lv_at hl 2 rfl) ?_
  refine kV_i (q0 := 0) ⟨hx, hb, hml, hown, hts⟩ hK hP hD hS hA hX cv_RL_18 [0, 6, 11, 29, 1, 2, 5] [86, 64, 65] (wr := [(qm, .inr (9, [.ref (v 0), .ref (v 1), .ref (v 2), .ref (v 3), .ref (v 4), .ref (v 5), .ref (v 6), .ref (v 7), .ref (v 8), .ref (v 9), .ref (v 10), .ref (v 11), .int 1, .int 0, .int 0, .ref (v 12), .ref (v 13), .ref (v 14), .ref (v 15), .ref (v 16), .ref (v 17), .int 0, .int 0, .ref (v 18), .ref (v 19), .ref (v 20), .ref (v 21), .int 0, .int 0, .ref (v 22), .ref (v 23), .ref (v 24), .ref (v 25), .int 0, .ref (v 26), .int 0])), ((v 0), .inl (cI, 12, .inl (tb []))), ((v 1), .inl (cI, 3, .inl (tb [])))]) rfl rfl rfl rfl (by decide) (c023_X8_equation l dC dI cI cJ cII cJJ H.size 0 qx (u 0) (u 10) (u 28) (u 1) (u 2) (u 5) (u 51) (u 59) (u 60) (u 61) (u 62) (u 6) (u 7) (u 8) (u 9) (u 11) (u 13) (u 21) (u 24) (u 29) (u 30) (u 31) (u 32) (u 33) (u 39) (u 45) (u 3) (u 4)) ⟨by decide +kernel, by decide +kernel⟩ rfl rfl (Or.inl rfl) (rest := []) rfl rfl rfl hl.1 rfl (Nat.le_of_ble_eq_true rfl) dL_law_200 ⟨Nat.le_of_ble_eq_true rfl, Nat.le_of_ble_eq_true rfl⟩ (W' := [(qm, .inr (9, [.ref (v 0), .ref (v 1), .ref (v 2), .ref (v 3), .ref (v 4), .ref (v 5), .ref (v 6), .ref (v 7), .ref (v 8), .ref (v 9), .ref (v 10), .ref (v 11), .int 1, .int 0, .int 0, .ref (v 12), .ref (v 13), .ref (v 14), .ref (v 15), .ref (v 16), .ref (v 17), .int 0, .int 0, .ref (v 18), .ref (v 19), .ref (v 20), .ref (v 21), .int 0, .int 0, .ref (v 22), .ref (v 23), .ref (v 24), .ref (v 25), .int 0, .ref (v 26), .int 0])), ((v 0), .inl (cI, 12, .inl (tb []))), ((v 1), .inl (cI, 3, .inl (tb [])))]) rfl (fun H locs hP hD hS => ?_)
  refine lv_aload_n hx hb dL_law_203 rfl (lv_at hl 1 rfl) ?_
  refine kV_i (q0 := 0) ⟨hx, hb, hml, hown, hts⟩ hK hP hD hS hA hX cv_RL_22 [0, 1, 2] [] (wr := []) rfl rfl rfl rfl (by decide) (c310_X9_equation l dC dI cI cJ cII cJJ H.size 0 qm (v 0) (v 1) (v 2) (v 3) (v 4) (v 5) (v 6) (v 7) (v 8) (v 9) (v 10) (v 11) (v 12) (v 13) (v 14) (v 15) (v 16) (v 17) (v 18) (v 19) (v 20) (v 21) (v 22) (v 23) (v 24) (v 25) (v 26)) ⟨by decide +kernel, by decide +kernel⟩ rfl rfl (Or.inl rfl) (rest := [.int 0]) rfl rfl rfl hl.1 rfl (Nat.le_of_ble_eq_true rfl) dL_law_204 ⟨Nat.le_of_ble_eq_true rfl, Nat.le_of_ble_eq_true rfl⟩ (W' := []) rfl (fun H locs hP hD hS => ?_)
  refine t_icmp_eq hx hb dL_law_207 1073 (by decide) rfl ?_
  exact law_end l C0 rfl hS hl
set_option maxRecDepth 100000 in
set_option maxHeartbeats 4000000 in
theorem lc_1 {p : Program} {e : Env} {s : State} {m : MethodId} {below : List Frame} {meth : Method} {c : Code} (l : Launch) {b L : Nat} {xs : Nat → Int32} (C0 : lw_At p s m meth c b L xs) (hL : L = 5) {dC : Nat → ClassId} {dI : Nat → Nat → Nat} {cI cJ cII cJJ : ClassId} {g qx qm : Nat} {u v : Nat → Nat} {H : Heap} {locs : List Loc} {ls : Array Slot} (hK : va_K (dC, dI) vwCl (TY cI cJ cII cJJ) s) (hX : GXA 1 g (AA s) s) (hP : va_P (dC, dI) vwCl (WLD cI cJ cII cJJ qx qm u v) H) (hD : va_D (AA s) (WLD cI cJ cII cJJ qx qm u v)) (hS : va_S (AA s) s.heap H locs) (hl : lv_has ls 4 [(3, .int 0), (2, .ref qm), (1, .ref qx), (0, .ref b)]) : W p l e room_1 s m #[Value.ref b] below meth c H locs 600000 7302250 (lw_Z below #[Value.ref b] s) (F0 m 199 ls []) := by
  exact lr_3 l C0 hL  hK hX hP hD hS hl
set_option maxRecDepth 100000 in
set_option maxHeartbeats 4000000 in
theorem lr_4 {p : Program} {e : Env} {s : State} {m : MethodId} {below : List Frame} {meth : Method} {c : Code} (l : Launch) {b L : Nat} {xs : Nat → Int32} (C0 : lw_At p s m meth c b L xs) (hL : L = 5) {dC : Nat → ClassId} {dI : Nat → Nat → Nat} {cI cJ cII cJJ : ClassId} {g qx qm : Nat} {u v : Nat → Nat} {H : Heap} {locs : List Loc} {ls : Array Slot} (y0 : Int32) (h_y0 : -2147483648 ≤ y0.toInt ∧ y0.toInt ≤ -1) (e_y0 : xs 1 = y0) (y1 : Int32) (h_y1 : -2147483648 ≤ y1.toInt ∧ y1.toInt ≤ 2147483647) (e_y1 : xs 2 = y1) (y2 : Int32) (h_y2 : -2147483648 ≤ y2.toInt ∧ y2.toInt ≤ 2147483647) (e_y2 : xs 3 = y2) (hK : va_K (dC, dI) vwCl (TY cI cJ cII cJJ) s) (hX : GXA 1 g (AA s) s) (hP : va_P (dC, dI) vwCl (WLD cI cJ cII cJJ qx qm u v) H) (hD : va_D (AA s) (WLD cI cJ cII cJJ qx qm u v)) (hS : va_S (AA s) s.heap H locs) (hl : lv_has ls 4 [(3, .int 0), (2, .ref qm), (1, .ref qx), (0, .ref b)]) : W p l e room_1 s m #[Value.ref b] below meth c H locs 600000 7302250 (lw_Z below #[Value.ref b] s) (F0 m 212 ls []) := by
  obtain ⟨hx, hb, hr, hml, hown, hts0, hX0, hbl, hlocks, hgv⟩ := id C0
  have hts : ∀ w ∈ TT, w.before #[Value.ref b] s = true := fun w h => hts0 w (TT_tbl h)
  have hA : ∀ q : Nat, s.heap.size ≤ q → AA s q := fun _ h => h
  have hbA : ¬ AA s b := Nat.not_le.mpr hbl
  have hown : s.vm.findClass RL = some m.cls := hown
  subst hL
  refine lv_aload_n hx hb dL_law_212 rfl (lv_at hl 2 rfl) ?_
  refine lv_aload_n hx hb dL_law_213 rfl (lv_at hl 3 rfl) ?_
  refine lv_iload_n hx hb dL_law_214 rfl (lv_at hl 0 rfl) ?_
  refine lv_iconst (v := 1) hx hb dL_law_215 (by decide) ?_
  refine v_iadd hx hb dL_law_216 1 (by decide +kernel) ?_
  refine va_sld hx hb hX0 hbl hbA hS (vin (by decide +kernel)) dL_law_217 ?_
  refine tvi (v := y0) e_y0 ?_
  refine lv_aload_n hx hb dL_law_218 rfl (lv_at hl 3 rfl) ?_
  refine lv_iload_n hx hb dL_law_219 rfl (lv_at hl 0 rfl) ?_
  refine lv_iconst (v := 2) hx hb dL_law_220 (by decide) ?_
  refine v_iadd hx hb dL_law_221 2 (by decide +kernel) ?_
  refine va_sld hx hb hX0 hbl hbA hS (vin (by decide +kernel)) dL_law_222 ?_
  refine tvi (v := y1) e_y1 ?_
  refine lv_aload_n hx hb dL_law_223 rfl (lv_at hl 3 rfl) ?_
  refine lv_iload_n hx hb dL_law_224 rfl (lv_at hl 0 rfl) ?_
  refine lv_iconst (v := 3) hx hb dL_law_225 (by decide) ?_
  refine v_iadd hx hb dL_law_226 3 (by decide +kernel) ?_
  refine va_sld hx hb hX0 hbl hbA hS (vin (by decide +kernel)) dL_law_227 ?_
  refine tvi (v := y2) e_y2 ?_
  refine kV_i (q0 := 0) ⟨hx, hb, hml, hown, hts⟩ hK hP hD hS hA hX cv_RL_23 [0, 6, 63] [86, 66] (wr := [(qm, .inr (9, [.ref (v 0), .ref (v 1), .ref (v 2), .ref (v 3), .ref (v 4), .ref (v 5), .ref (v 6), .ref (v 7), .ref (v 8), .ref (v 9), .ref (v 10), .ref (v 11), .int 1, .int 0, .int 0, .ref (v 12), .ref (v 13), .ref (v 14), .ref (v 15), .ref (v 16), .ref (v 17), .int 0, .int 0, .ref (v 18), .ref (v 19), .ref (v 20), .ref (v 21), .int 0, .int 0, .ref (v 22), .ref (v 23), .ref (v 24), .ref (v 25), .int 0, .ref (v 26), .int 0])), ((v 7), .inl (cI, 8, .inl (tb [])))]) rfl rfl rfl rfl (by decide) (c025_X8_put l dC dI cI cJ cII cJJ H.size 0 qx (u 0) (u 62) (u 10) (u 28) (u 51) (u 59) (u 60) (u 61) (u 1) (u 5) (u 6) (u 7) (u 8) (u 9) y0 h_y0 y1 h_y1 y2 h_y2) ⟨by decide +kernel, by decide +kernel⟩ rfl rfl (Or.inl rfl) (rest := []) rfl rfl rfl hl.1 rfl (Nat.le_of_ble_eq_true rfl) dL_law_228 ⟨Nat.le_of_ble_eq_true rfl, Nat.le_of_ble_eq_true rfl⟩ (W' := [(qm, .inr (9, [.ref (v 0), .ref (v 1), .ref (v 2), .ref (v 3), .ref (v 4), .ref (v 5), .ref (v 6), .ref (v 7), .ref (v 8), .ref (v 9), .ref (v 10), .ref (v 11), .int 1, .int 0, .int 0, .ref (v 12), .ref (v 13), .ref (v 14), .ref (v 15), .ref (v 16), .ref (v 17), .int 0, .int 0, .ref (v 18), .ref (v 19), .ref (v 20), .ref (v 21), .int 0, .int 0, .ref (v 22), .ref (v 23), .ref (v 24), .ref (v 25), .int 0, .ref (v 26), .int 0])), ((v 7), .inl (cI, 8, .inl (tb [])))]) rfl (fun H locs hP hD hS => ?_)
  refine lv_aload_n hx hb dL_law_231 rfl (lv_at hl 1 rfl) ?_
  refine lv_aload_n hx hb dL_law_232 rfl (lv_at hl 3 rfl) ?_
  refine lv_iload_n hx hb dL_law_233 rfl (lv_at hl 0 rfl) ?_
  refine lv_iconst (v := 1) hx hb dL_law_234 (by decide) ?_
  refine v_iadd hx hb dL_law_235 1 (by decide +kernel) ?_
  refine va_sld hx hb hX0 hbl hbA hS (vin (by decide +kernel)) dL_law_236 ?_
  refine tvi (v := y0) e_y0 ?_
  refine lv_aload_n hx hb dL_law_237 rfl (lv_at hl 3 rfl) ?_
  refine lv_iload_n hx hb dL_law_238 rfl (lv_at hl 0 rfl) ?_
  refine lv_iconst (v := 2) hx hb dL_law_239 (by decide) ?_
  refine v_iadd hx hb dL_law_240 2 (by decide +kernel) ?_
  refine va_sld hx hb hX0 hbl hbA hS (vin (by decide +kernel)) dL_law_241 ?_
  refine tvi (v := y1) e_y1 ?_
  refine lv_aload_n hx hb dL_law_242 rfl (lv_at hl 3 rfl) ?_
  refine lv_iload_n hx hb dL_law_243 rfl (lv_at hl 0 rfl) ?_
  refine lv_iconst (v := 3) hx hb dL_law_244 (by decide) ?_
  refine v_iadd hx hb dL_law_245 3 (by decide +kernel) ?_
  refine va_sld hx hb hX0 hbl hbA hS (vin (by decide +kernel)) dL_law_246 ?_
  refine tvi (v := y2) e_y2 ?_
  refine kV_i (q0 := 0) ⟨hx, hb, hml, hown, hts⟩ hK hP hD hS hA hX cv_RL_27 [0, 1] [] (wr := []) rfl rfl rfl rfl (by decide) (c311_X9_put l dC dI cI cJ cII cJJ H.size 0 qm (v 7) (v 0) (v 1) (v 2) (v 3) (v 4) (v 5) (v 6) (v 8) (v 9) (v 10) (v 11) (v 12) (v 13) (v 14) (v 15) (v 16) (v 17) (v 18) (v 19) (v 20) (v 21) (v 22) (v 23) (v 24) (v 25) (v 26) y0 h_y0 y1 h_y1 y2 h_y2) ⟨by decide +kernel, by decide +kernel⟩ rfl rfl (Or.inl rfl) (rest := [.int (-1)]) rfl rfl rfl hl.1 rfl (Nat.le_of_ble_eq_true rfl) dL_law_247 ⟨Nat.le_of_ble_eq_true rfl, Nat.le_of_ble_eq_true rfl⟩ (W' := []) rfl (fun H locs hP hD hS => ?_)
  refine t_icmp_eq hx hb dL_law_250 1073 (by decide) rfl ?_
  exact law_end l C0 rfl hS hl
set_option maxRecDepth 100000 in
set_option maxHeartbeats 4000000 in
theorem lr_5 {p : Program} {e : Env} {s : State} {m : MethodId} {below : List Frame} {meth : Method} {c : Code} (l : Launch) {b L : Nat} {xs : Nat → Int32} (C0 : lw_At p s m meth c b L xs) (hL : L = 5) {dC : Nat → ClassId} {dI : Nat → Nat → Nat} {cI cJ cII cJJ : ClassId} {g qx qm : Nat} {u v : Nat → Nat} {H : Heap} {locs : List Loc} {ls : Array Slot} (y0 : Int32) (h_y0 : 0 ≤ y0.toInt ∧ y0.toInt ≤ 2147483647) (e_y0 : xs 1 = y0) (y1 : Int32) (h_y1 : -2147483648 ≤ y1.toInt ∧ y1.toInt ≤ 2147483647) (e_y1 : xs 2 = y1) (y2 : Int32) (h_y2 : -2147483648 ≤ y2.toInt ∧ y2.toInt ≤ 2147483647) (e_y2 : xs 3 = y2) (hK : va_K (dC, dI) vwCl (TY cI cJ cII cJJ) s) (hX : GXA 1 g (AA s) s) (hP : va_P (dC, dI) vwCl (WLD cI cJ cII cJJ qx qm u v) H) (hD : va_D (AA s) (WLD cI cJ cII cJJ qx qm u v)) (hS : va_S (AA s) s.heap H locs) (hl : lv_has ls 4 [(3, .int 0), (2, .ref qm), (1, .ref qx), (0, .ref b)]) : W p l e room_1 s m #[Value.ref b] below meth c H locs 600000 7302250 (lw_Z below #[Value.ref b] s) (F0 m 212 ls []) := by
  obtain ⟨hx, hb, hr, hml, hown, hts0, hX0, hbl, hlocks, hgv⟩ := id C0
  have hts : ∀ w ∈ TT, w.before #[Value.ref b] s = true := fun w h => hts0 w (TT_tbl h)
  have hA : ∀ q : Nat, s.heap.size ≤ q → AA s q := fun _ h => h
  have hbA : ¬ AA s b := Nat.not_le.mpr hbl
  have hown : s.vm.findClass RL = some m.cls := hown
  subst hL
  refine lv_aload_n hx hb dL_law_212 rfl (lv_at hl 2 rfl) ?_
  refine lv_aload_n hx hb dL_law_213 rfl (lv_at hl 3 rfl) ?_
  refine lv_iload_n hx hb dL_law_214 rfl (lv_at hl 0 rfl) ?_
  refine lv_iconst (v := 1) hx hb dL_law_215 (by decide) ?_
  refine v_iadd hx hb dL_law_216 1 (by decide +kernel) ?_
  refine va_sld hx hb hX0 hbl hbA hS (vin (by decide +kernel)) dL_law_217 ?_
  refine tvi (v := y0) e_y0 ?_
  refine lv_aload_n hx hb dL_law_218 rfl (lv_at hl 3 rfl) ?_
  refine lv_iload_n hx hb dL_law_219 rfl (lv_at hl 0 rfl) ?_
  refine lv_iconst (v := 2) hx hb dL_law_220 (by decide) ?_
  refine v_iadd hx hb dL_law_221 2 (by decide +kernel) ?_
  refine va_sld hx hb hX0 hbl hbA hS (vin (by decide +kernel)) dL_law_222 ?_
  refine tvi (v := y1) e_y1 ?_
  refine lv_aload_n hx hb dL_law_223 rfl (lv_at hl 3 rfl) ?_
  refine lv_iload_n hx hb dL_law_224 rfl (lv_at hl 0 rfl) ?_
  refine lv_iconst (v := 3) hx hb dL_law_225 (by decide) ?_
  refine v_iadd hx hb dL_law_226 3 (by decide +kernel) ?_
  refine va_sld hx hb hX0 hbl hbA hS (vin (by decide +kernel)) dL_law_227 ?_
  refine tvi (v := y2) e_y2 ?_
  refine kV_i (q0 := 0) ⟨hx, hb, hml, hown, hts⟩ hK hP hD hS hA hX cv_RL_23 [0, 6, 63] [86, 66] (wr := [(qm, .inr (9, [.ref (v 0), .ref (v 1), .ref (v 2), .ref (v 3), .ref (v 4), .ref (v 5), .ref (v 6), .ref (v 7), .ref (v 8), .ref (v 9), .ref (v 10), .ref (v 11), .int 1, .int 0, .int 0, .ref (v 12), .ref (v 13), .ref (v 14), .ref (v 15), .ref (v 16), .ref (v 17), .int 0, .int 0, .ref (v 18), .ref (v 19), .ref (v 20), .ref (v 21), .int 0, .int 0, .ref (v 22), .ref (v 23), .ref (v 24), .ref (v 25), .int 0, .ref (v 26), .int 0])), ((v 7), .inl (cI, 8, .inl (tb [])))]) rfl rfl rfl rfl (by decide) (c028_X8_put l dC dI cI cJ cII cJJ H.size 0 qx (u 0) (u 62) (u 10) (u 28) (u 51) (u 59) (u 60) (u 61) (u 1) (u 5) (u 6) (u 7) (u 8) (u 9) y0 h_y0 y1 h_y1 y2 h_y2) ⟨by decide +kernel, by decide +kernel⟩ rfl rfl (Or.inl rfl) (rest := []) rfl rfl rfl hl.1 rfl (Nat.le_of_ble_eq_true rfl) dL_law_228 ⟨Nat.le_of_ble_eq_true rfl, Nat.le_of_ble_eq_true rfl⟩ (W' := [(qm, .inr (9, [.ref (v 0), .ref (v 1), .ref (v 2), .ref (v 3), .ref (v 4), .ref (v 5), .ref (v 6), .ref (v 7), .ref (v 8), .ref (v 9), .ref (v 10), .ref (v 11), .int 1, .int 0, .int 0, .ref (v 12), .ref (v 13), .ref (v 14), .ref (v 15), .ref (v 16), .ref (v 17), .int 0, .int 0, .ref (v 18), .ref (v 19), .ref (v 20), .ref (v 21), .int 0, .int 0, .ref (v 22), .ref (v 23), .ref (v 24), .ref (v 25), .int 0, .ref (v 26), .int 0])), ((v 7), .inl (cI, 8, .inl (tb [])))]) rfl (fun H locs hP hD hS => ?_)
  refine lv_aload_n hx hb dL_law_231 rfl (lv_at hl 1 rfl) ?_
  refine lv_aload_n hx hb dL_law_232 rfl (lv_at hl 3 rfl) ?_
  refine lv_iload_n hx hb dL_law_233 rfl (lv_at hl 0 rfl) ?_
  refine lv_iconst (v := 1) hx hb dL_law_234 (by decide) ?_
  refine v_iadd hx hb dL_law_235 1 (by decide +kernel) ?_
  refine va_sld hx hb hX0 hbl hbA hS (vin (by decide +kernel)) dL_law_236 ?_
  refine tvi (v := y0) e_y0 ?_
  refine lv_aload_n hx hb dL_law_237 rfl (lv_at hl 3 rfl) ?_
  refine lv_iload_n hx hb dL_law_238 rfl (lv_at hl 0 rfl) ?_
  refine lv_iconst (v := 2) hx hb dL_law_239 (by decide) ?_
  refine v_iadd hx hb dL_law_240 2 (by decide +kernel) ?_
  refine va_sld hx hb hX0 hbl hbA hS (vin (by decide +kernel)) dL_law_241 ?_
  refine tvi (v := y1) e_y1 ?_
  refine lv_aload_n hx hb dL_law_242 rfl (lv_at hl 3 rfl) ?_
  refine lv_iload_n hx hb dL_law_243 rfl (lv_at hl 0 rfl) ?_
  refine lv_iconst (v := 3) hx hb dL_law_244 (by decide) ?_
  refine v_iadd hx hb dL_law_245 3 (by decide +kernel) ?_
  refine va_sld hx hb hX0 hbl hbA hS (vin (by decide +kernel)) dL_law_246 ?_
  refine tvi (v := y2) e_y2 ?_
  refine kV_i (q0 := 0) ⟨hx, hb, hml, hown, hts⟩ hK hP hD hS hA hX cv_RL_27 [0, 1] [] (wr := []) rfl rfl rfl rfl (by decide) (c314_X9_put l dC dI cI cJ cII cJJ H.size 0 qm (v 7) (v 0) (v 1) (v 2) (v 3) (v 4) (v 5) (v 6) (v 8) (v 9) (v 10) (v 11) (v 12) (v 13) (v 14) (v 15) (v 16) (v 17) (v 18) (v 19) (v 20) (v 21) (v 22) (v 23) (v 24) (v 25) (v 26) y0 h_y0 y1 h_y1 y2 h_y2) ⟨by decide +kernel, by decide +kernel⟩ rfl rfl (Or.inl rfl) (rest := [.int (-1)]) rfl rfl rfl hl.1 rfl (Nat.le_of_ble_eq_true rfl) dL_law_247 ⟨Nat.le_of_ble_eq_true rfl, Nat.le_of_ble_eq_true rfl⟩ (W' := []) rfl (fun H locs hP hD hS => ?_)
  refine t_icmp_eq hx hb dL_law_250 1073 (by decide) rfl ?_
  exact law_end l C0 rfl hS hl
set_option maxRecDepth 100000 in
set_option maxHeartbeats 4000000 in
theorem lc_2 {p : Program} {e : Env} {s : State} {m : MethodId} {below : List Frame} {meth : Method} {c : Code} (l : Launch) {b L : Nat} {xs : Nat → Int32} (C0 : lw_At p s m meth c b L xs) (hL : L = 5) {dC : Nat → ClassId} {dI : Nat → Nat → Nat} {cI cJ cII cJJ : ClassId} {g qx qm : Nat} {u v : Nat → Nat} {H : Heap} {locs : List Loc} {ls : Array Slot} (hK : va_K (dC, dI) vwCl (TY cI cJ cII cJJ) s) (hX : GXA 1 g (AA s) s) (hP : va_P (dC, dI) vwCl (WLD cI cJ cII cJJ qx qm u v) H) (hD : va_D (AA s) (WLD cI cJ cII cJJ qx qm u v)) (hS : va_S (AA s) s.heap H locs) (hl : lv_has ls 4 [(3, .int 0), (2, .ref qm), (1, .ref qx), (0, .ref b)]) : W p l e room_1 s m #[Value.ref b] below meth c H locs 600000 7302250 (lw_Z below #[Value.ref b] s) (F0 m 212 ls []) := by
  have q1 := s_any (xs 1)
  have q2 := s_any (xs 2)
  have q3 := s_any (xs 3)
  have key : ((xs 1).toInt ≤ -1) ∨ (0 ≤ (xs 1).toInt) := by omega
  rcases key with h | h
  · exact lr_4 l C0 hL (xs 1) ⟨by omega, by omega⟩ rfl (xs 2) ⟨by omega, by omega⟩ rfl (xs 3) ⟨by omega, by omega⟩ rfl hK hX hP hD hS hl
  · exact lr_5 l C0 hL (xs 1) ⟨by omega, by omega⟩ rfl (xs 2) ⟨by omega, by omega⟩ rfl (xs 3) ⟨by omega, by omega⟩ rfl hK hX hP hD hS hl
set_option maxRecDepth 100000 in
set_option maxHeartbeats 4000000 in
theorem lr_6 {p : Program} {e : Env} {s : State} {m : MethodId} {below : List Frame} {meth : Method} {c : Code} (l : Launch) {b L : Nat} {xs : Nat → Int32} (C0 : lw_At p s m meth c b L xs) (hL : L = 5) {dC : Nat → ClassId} {dI : Nat → Nat → Nat} {cI cJ cII cJJ : ClassId} {g qx qm : Nat} {u v : Nat → Nat} {H : Heap} {locs : List Loc} {ls : Array Slot} (y0 : Int32) (h_y0 : -2147483648 ≤ y0.toInt ∧ y0.toInt ≤ -1) (e_y0 : xs 1 = y0) (y1 : Int32) (h_y1 : -2147483648 ≤ y1.toInt ∧ y1.toInt ≤ 2147483647) (e_y1 : xs 2 = y1) (hK : va_K (dC, dI) vwCl (TY cI cJ cII cJJ) s) (hX : GXA 1 g (AA s) s) (hP : va_P (dC, dI) vwCl (WLD cI cJ cII cJJ qx qm u v) H) (hD : va_D (AA s) (WLD cI cJ cII cJJ qx qm u v)) (hS : va_S (AA s) s.heap H locs) (hl : lv_has ls 4 [(3, .int 0), (2, .ref qm), (1, .ref qx), (0, .ref b)]) : W p l e room_1 s m #[Value.ref b] below meth c H locs 600000 7302250 (lw_Z below #[Value.ref b] s) (F0 m 255 ls []) := by
  obtain ⟨hx, hb, hr, hml, hown, hts0, hX0, hbl, hlocks, hgv⟩ := id C0
  have hts : ∀ w ∈ TT, w.before #[Value.ref b] s = true := fun w h => hts0 w (TT_tbl h)
  have hA : ∀ q : Nat, s.heap.size ≤ q → AA s q := fun _ h => h
  have hbA : ¬ AA s b := Nat.not_le.mpr hbl
  have hown : s.vm.findClass RL = some m.cls := hown
  subst hL
  refine lv_aload_n hx hb dL_law_255 rfl (lv_at hl 2 rfl) ?_
  refine lv_aload_n hx hb dL_law_256 rfl (lv_at hl 3 rfl) ?_
  refine lv_iload_n hx hb dL_law_257 rfl (lv_at hl 0 rfl) ?_
  refine lv_iconst (v := 1) hx hb dL_law_258 (by decide) ?_
  refine v_iadd hx hb dL_law_259 1 (by decide +kernel) ?_
  refine va_sld hx hb hX0 hbl hbA hS (vin (by decide +kernel)) dL_law_260 ?_
  refine tvi (v := y0) e_y0 ?_
  refine lv_aload_n hx hb dL_law_261 rfl (lv_at hl 3 rfl) ?_
  refine lv_iload_n hx hb dL_law_262 rfl (lv_at hl 0 rfl) ?_
  refine lv_iconst (v := 2) hx hb dL_law_263 (by decide) ?_
  refine v_iadd hx hb dL_law_264 2 (by decide +kernel) ?_
  refine va_sld hx hb hX0 hbl hbA hS (vin (by decide +kernel)) dL_law_265 ?_
  refine tvi (v := y1) e_y1 ?_
  refine kV_i (q0 := 0) ⟨hx, hb, hml, hown, hts⟩ hK hP hD hS hA hX cv_RL_28 [0, 6, 63] [86, 66] (wr := [(qm, .inr (9, [.ref (v 0), .ref (v 1), .ref (v 2), .ref (v 3), .ref (v 4), .ref (v 5), .ref (v 6), .ref (v 7), .ref (v 8), .ref (v 9), .ref (v 10), .ref (v 11), .int 1, .int 0, .int 0, .ref (v 12), .ref (v 13), .ref (v 14), .ref (v 15), .ref (v 16), .ref (v 17), .int 0, .int 0, .ref (v 18), .ref (v 19), .ref (v 20), .ref (v 21), .int 0, .int 0, .ref (v 22), .ref (v 23), .ref (v 24), .ref (v 25), .int 0, .ref (v 26), .int 0])), ((v 7), .inl (cI, 8, .inl (tb [])))]) rfl rfl rfl rfl (by decide) (c030_X8_right l dC dI cI cJ cII cJJ H.size 0 qx (u 0) (u 62) (u 10) (u 28) (u 51) (u 59) (u 60) (u 61) (u 1) (u 5) (u 6) (u 7) (u 8) (u 9) y0 h_y0 y1 h_y1) ⟨by decide +kernel, by decide +kernel⟩ rfl rfl (Or.inl rfl) (rest := []) rfl rfl rfl hl.1 rfl (Nat.le_of_ble_eq_true rfl) dL_law_266 ⟨Nat.le_of_ble_eq_true rfl, Nat.le_of_ble_eq_true rfl⟩ (W' := [(qm, .inr (9, [.ref (v 0), .ref (v 1), .ref (v 2), .ref (v 3), .ref (v 4), .ref (v 5), .ref (v 6), .ref (v 7), .ref (v 8), .ref (v 9), .ref (v 10), .ref (v 11), .int 1, .int 0, .int 0, .ref (v 12), .ref (v 13), .ref (v 14), .ref (v 15), .ref (v 16), .ref (v 17), .int 0, .int 0, .ref (v 18), .ref (v 19), .ref (v 20), .ref (v 21), .int 0, .int 0, .ref (v 22), .ref (v 23), .ref (v 24), .ref (v 25), .int 0, .ref (v 26), .int 0])), ((v 7), .inl (cI, 8, .inl (tb [])))]) rfl (fun H locs hP hD hS => ?_)
  refine lv_aload_n hx hb dL_law_269 rfl (lv_at hl 1 rfl) ?_
  refine lv_aload_n hx hb dL_law_270 rfl (lv_at hl 3 rfl) ?_
  refine lv_iload_n hx hb dL_law_271 rfl (lv_at hl 0 rfl) ?_
  refine lv_iconst (v := 1) hx hb dL_law_272 (by decide) ?_
  refine v_iadd hx hb dL_law_273 1 (by decide +kernel) ?_
  refine va_sld hx hb hX0 hbl hbA hS (vin (by decide +kernel)) dL_law_274 ?_
  refine tvi (v := y0) e_y0 ?_
  refine lv_aload_n hx hb dL_law_275 rfl (lv_at hl 3 rfl) ?_
  refine lv_iload_n hx hb dL_law_276 rfl (lv_at hl 0 rfl) ?_
  refine lv_iconst (v := 2) hx hb dL_law_277 (by decide) ?_
  refine v_iadd hx hb dL_law_278 2 (by decide +kernel) ?_
  refine va_sld hx hb hX0 hbl hbA hS (vin (by decide +kernel)) dL_law_279 ?_
  refine tvi (v := y1) e_y1 ?_
  refine kV_i (q0 := 0) ⟨hx, hb, hml, hown, hts⟩ hK hP hD hS hA hX cv_RL_32 [0, 1] [] (wr := []) rfl rfl rfl rfl (by decide) (c316_X9_right l dC dI cI cJ cII cJJ H.size 0 qm (v 7) (v 0) (v 1) (v 2) (v 3) (v 4) (v 5) (v 6) (v 8) (v 9) (v 10) (v 11) (v 12) (v 13) (v 14) (v 15) (v 16) (v 17) (v 18) (v 19) (v 20) (v 21) (v 22) (v 23) (v 24) (v 25) (v 26) y0 h_y0 y1 h_y1) ⟨by decide +kernel, by decide +kernel⟩ rfl rfl (Or.inl rfl) (rest := [.int (-1)]) rfl rfl rfl hl.1 rfl (Nat.le_of_ble_eq_true rfl) dL_law_280 ⟨Nat.le_of_ble_eq_true rfl, Nat.le_of_ble_eq_true rfl⟩ (W' := []) rfl (fun H locs hP hD hS => ?_)
  refine t_icmp_eq hx hb dL_law_283 1073 (by decide) rfl ?_
  exact law_end l C0 rfl hS hl
set_option maxRecDepth 100000 in
set_option maxHeartbeats 4000000 in
theorem lr_7 {p : Program} {e : Env} {s : State} {m : MethodId} {below : List Frame} {meth : Method} {c : Code} (l : Launch) {b L : Nat} {xs : Nat → Int32} (C0 : lw_At p s m meth c b L xs) (hL : L = 5) {dC : Nat → ClassId} {dI : Nat → Nat → Nat} {cI cJ cII cJJ : ClassId} {g qx qm : Nat} {u v : Nat → Nat} {H : Heap} {locs : List Loc} {ls : Array Slot} (y0 : Int32) (h_y0 : 0 ≤ y0.toInt ∧ y0.toInt ≤ 2147483647) (e_y0 : xs 1 = y0) (y1 : Int32) (h_y1 : -2147483648 ≤ y1.toInt ∧ y1.toInt ≤ 2147483647) (e_y1 : xs 2 = y1) (hK : va_K (dC, dI) vwCl (TY cI cJ cII cJJ) s) (hX : GXA 1 g (AA s) s) (hP : va_P (dC, dI) vwCl (WLD cI cJ cII cJJ qx qm u v) H) (hD : va_D (AA s) (WLD cI cJ cII cJJ qx qm u v)) (hS : va_S (AA s) s.heap H locs) (hl : lv_has ls 4 [(3, .int 0), (2, .ref qm), (1, .ref qx), (0, .ref b)]) : W p l e room_1 s m #[Value.ref b] below meth c H locs 600000 7302250 (lw_Z below #[Value.ref b] s) (F0 m 255 ls []) := by
  obtain ⟨hx, hb, hr, hml, hown, hts0, hX0, hbl, hlocks, hgv⟩ := id C0
  have hts : ∀ w ∈ TT, w.before #[Value.ref b] s = true := fun w h => hts0 w (TT_tbl h)
  have hA : ∀ q : Nat, s.heap.size ≤ q → AA s q := fun _ h => h
  have hbA : ¬ AA s b := Nat.not_le.mpr hbl
  have hown : s.vm.findClass RL = some m.cls := hown
  subst hL
  refine lv_aload_n hx hb dL_law_255 rfl (lv_at hl 2 rfl) ?_
  refine lv_aload_n hx hb dL_law_256 rfl (lv_at hl 3 rfl) ?_
  refine lv_iload_n hx hb dL_law_257 rfl (lv_at hl 0 rfl) ?_
  refine lv_iconst (v := 1) hx hb dL_law_258 (by decide) ?_
  refine v_iadd hx hb dL_law_259 1 (by decide +kernel) ?_
  refine va_sld hx hb hX0 hbl hbA hS (vin (by decide +kernel)) dL_law_260 ?_
  refine tvi (v := y0) e_y0 ?_
  refine lv_aload_n hx hb dL_law_261 rfl (lv_at hl 3 rfl) ?_
  refine lv_iload_n hx hb dL_law_262 rfl (lv_at hl 0 rfl) ?_
  refine lv_iconst (v := 2) hx hb dL_law_263 (by decide) ?_
  refine v_iadd hx hb dL_law_264 2 (by decide +kernel) ?_
  refine va_sld hx hb hX0 hbl hbA hS (vin (by decide +kernel)) dL_law_265 ?_
  refine tvi (v := y1) e_y1 ?_
  refine kV_i (q0 := 0) ⟨hx, hb, hml, hown, hts⟩ hK hP hD hS hA hX cv_RL_28 [0, 6, 63] [86, 66] (wr := [(qm, .inr (9, [.ref (v 0), .ref (v 1), .ref (v 2), .ref (v 3), .ref (v 4), .ref (v 5), .ref (v 6), .ref (v 7), .ref (v 8), .ref (v 9), .ref (v 10), .ref (v 11), .int 1, .int 0, .int 0, .ref (v 12), .ref (v 13), .ref (v 14), .ref (v 15), .ref (v 16), .ref (v 17), .int 0, .int 0, .ref (v 18), .ref (v 19), .ref (v 20), .ref (v 21), .int 0, .int 0, .ref (v 22), .ref (v 23), .ref (v 24), .ref (v 25), .int 0, .ref (v 26), .int 0])), ((v 7), .inl (cI, 8, .inl (tb [])))]) rfl rfl rfl rfl (by decide) (c031_X8_right l dC dI cI cJ cII cJJ H.size 0 qx (u 0) (u 62) (u 10) (u 28) (u 51) (u 59) (u 60) (u 61) (u 1) (u 5) (u 6) (u 7) (u 8) (u 9) y0 h_y0 y1 h_y1) ⟨by decide +kernel, by decide +kernel⟩ rfl rfl (Or.inl rfl) (rest := []) rfl rfl rfl hl.1 rfl (Nat.le_of_ble_eq_true rfl) dL_law_266 ⟨Nat.le_of_ble_eq_true rfl, Nat.le_of_ble_eq_true rfl⟩ (W' := [(qm, .inr (9, [.ref (v 0), .ref (v 1), .ref (v 2), .ref (v 3), .ref (v 4), .ref (v 5), .ref (v 6), .ref (v 7), .ref (v 8), .ref (v 9), .ref (v 10), .ref (v 11), .int 1, .int 0, .int 0, .ref (v 12), .ref (v 13), .ref (v 14), .ref (v 15), .ref (v 16), .ref (v 17), .int 0, .int 0, .ref (v 18), .ref (v 19), .ref (v 20), .ref (v 21), .int 0, .int 0, .ref (v 22), .ref (v 23), .ref (v 24), .ref (v 25), .int 0, .ref (v 26), .int 0])), ((v 7), .inl (cI, 8, .inl (tb [])))]) rfl (fun H locs hP hD hS => ?_)
  refine lv_aload_n hx hb dL_law_269 rfl (lv_at hl 1 rfl) ?_
  refine lv_aload_n hx hb dL_law_270 rfl (lv_at hl 3 rfl) ?_
  refine lv_iload_n hx hb dL_law_271 rfl (lv_at hl 0 rfl) ?_
  refine lv_iconst (v := 1) hx hb dL_law_272 (by decide) ?_
  refine v_iadd hx hb dL_law_273 1 (by decide +kernel) ?_
  refine va_sld hx hb hX0 hbl hbA hS (vin (by decide +kernel)) dL_law_274 ?_
  refine tvi (v := y0) e_y0 ?_
  refine lv_aload_n hx hb dL_law_275 rfl (lv_at hl 3 rfl) ?_
  refine lv_iload_n hx hb dL_law_276 rfl (lv_at hl 0 rfl) ?_
  refine lv_iconst (v := 2) hx hb dL_law_277 (by decide) ?_
  refine v_iadd hx hb dL_law_278 2 (by decide +kernel) ?_
  refine va_sld hx hb hX0 hbl hbA hS (vin (by decide +kernel)) dL_law_279 ?_
  refine tvi (v := y1) e_y1 ?_
  refine kV_i (q0 := 0) ⟨hx, hb, hml, hown, hts⟩ hK hP hD hS hA hX cv_RL_32 [0, 1] [] (wr := []) rfl rfl rfl rfl (by decide) (c317_X9_right l dC dI cI cJ cII cJJ H.size 0 qm (v 7) (v 0) (v 1) (v 2) (v 3) (v 4) (v 5) (v 6) (v 8) (v 9) (v 10) (v 11) (v 12) (v 13) (v 14) (v 15) (v 16) (v 17) (v 18) (v 19) (v 20) (v 21) (v 22) (v 23) (v 24) (v 25) (v 26) y0 h_y0 y1 h_y1) ⟨by decide +kernel, by decide +kernel⟩ rfl rfl (Or.inl rfl) (rest := [.int (-1)]) rfl rfl rfl hl.1 rfl (Nat.le_of_ble_eq_true rfl) dL_law_280 ⟨Nat.le_of_ble_eq_true rfl, Nat.le_of_ble_eq_true rfl⟩ (W' := []) rfl (fun H locs hP hD hS => ?_)
  refine t_icmp_eq hx hb dL_law_283 1073 (by decide) rfl ?_
  exact law_end l C0 rfl hS hl
set_option maxRecDepth 100000 in
set_option maxHeartbeats 4000000 in
theorem lc_3 {p : Program} {e : Env} {s : State} {m : MethodId} {below : List Frame} {meth : Method} {c : Code} (l : Launch) {b L : Nat} {xs : Nat → Int32} (C0 : lw_At p s m meth c b L xs) (hL : L = 5) {dC : Nat → ClassId} {dI : Nat → Nat → Nat} {cI cJ cII cJJ : ClassId} {g qx qm : Nat} {u v : Nat → Nat} {H : Heap} {locs : List Loc} {ls : Array Slot} (hK : va_K (dC, dI) vwCl (TY cI cJ cII cJJ) s) (hX : GXA 1 g (AA s) s) (hP : va_P (dC, dI) vwCl (WLD cI cJ cII cJJ qx qm u v) H) (hD : va_D (AA s) (WLD cI cJ cII cJJ qx qm u v)) (hS : va_S (AA s) s.heap H locs) (hl : lv_has ls 4 [(3, .int 0), (2, .ref qm), (1, .ref qx), (0, .ref b)]) : W p l e room_1 s m #[Value.ref b] below meth c H locs 600000 7302250 (lw_Z below #[Value.ref b] s) (F0 m 255 ls []) := by
  have q1 := s_any (xs 1)
  have q2 := s_any (xs 2)
  have key : ((xs 1).toInt ≤ -1) ∨ (0 ≤ (xs 1).toInt) := by omega
  rcases key with h | h
  · exact lr_6 l C0 hL (xs 1) ⟨by omega, by omega⟩ rfl (xs 2) ⟨by omega, by omega⟩ rfl hK hX hP hD hS hl
  · exact lr_7 l C0 hL (xs 1) ⟨by omega, by omega⟩ rfl (xs 2) ⟨by omega, by omega⟩ rfl hK hX hP hD hS hl
set_option maxRecDepth 100000 in
set_option maxHeartbeats 4000000 in
theorem lr_8 {p : Program} {e : Env} {s : State} {m : MethodId} {below : List Frame} {meth : Method} {c : Code} (l : Launch) {b L : Nat} {xs : Nat → Int32} (C0 : lw_At p s m meth c b L xs) (hL : L = 5) {dC : Nat → ClassId} {dI : Nat → Nat → Nat} {cI cJ cII cJJ : ClassId} {g qx qm : Nat} {u v : Nat → Nat} {H : Heap} {locs : List Loc} {ls : Array Slot} (y0 : Int32) (h_y0 : -2147483648 ≤ y0.toInt ∧ y0.toInt ≤ -1) (e_y0 : xs 1 = y0) (y1 : Int32) (h_y1 : -2147483648 ≤ y1.toInt ∧ y1.toInt ≤ 2147483647) (e_y1 : xs 2 = y1) (y2 : Int32) (h_y2 : -2147483648 ≤ y2.toInt ∧ y2.toInt ≤ 2147483647) (e_y2 : xs 3 = y2) (hK : va_K (dC, dI) vwCl (TY cI cJ cII cJJ) s) (hX : GXA 1 g (AA s) s) (hP : va_P (dC, dI) vwCl (WLD cI cJ cII cJJ qx qm u v) H) (hD : va_D (AA s) (WLD cI cJ cII cJJ qx qm u v)) (hS : va_S (AA s) s.heap H locs) (hl : lv_has ls 4 [(3, .int 0), (2, .ref qm), (1, .ref qx), (0, .ref b)]) : W p l e room_1 s m #[Value.ref b] below meth c H locs 600000 7302250 (lw_Z below #[Value.ref b] s) (F0 m 288 ls []) := by
  obtain ⟨hx, hb, hr, hml, hown, hts0, hX0, hbl, hlocks, hgv⟩ := id C0
  have hts : ∀ w ∈ TT, w.before #[Value.ref b] s = true := fun w h => hts0 w (TT_tbl h)
  have hA : ∀ q : Nat, s.heap.size ≤ q → AA s q := fun _ h => h
  have hbA : ¬ AA s b := Nat.not_le.mpr hbl
  have hown : s.vm.findClass RL = some m.cls := hown
  subst hL
  refine lv_aload_n hx hb dL_law_288 rfl (lv_at hl 2 rfl) ?_
  refine lv_aload_n hx hb dL_law_289 rfl (lv_at hl 3 rfl) ?_
  refine lv_iload_n hx hb dL_law_290 rfl (lv_at hl 0 rfl) ?_
  refine lv_iconst (v := 1) hx hb dL_law_291 (by decide) ?_
  refine v_iadd hx hb dL_law_292 1 (by decide +kernel) ?_
  refine va_sld hx hb hX0 hbl hbA hS (vin (by decide +kernel)) dL_law_293 ?_
  refine tvi (v := y0) e_y0 ?_
  refine lv_aload_n hx hb dL_law_294 rfl (lv_at hl 3 rfl) ?_
  refine lv_iload_n hx hb dL_law_295 rfl (lv_at hl 0 rfl) ?_
  refine lv_iconst (v := 2) hx hb dL_law_296 (by decide) ?_
  refine v_iadd hx hb dL_law_297 2 (by decide +kernel) ?_
  refine va_sld hx hb hX0 hbl hbA hS (vin (by decide +kernel)) dL_law_298 ?_
  refine tvi (v := y1) e_y1 ?_
  refine lv_aload_n hx hb dL_law_299 rfl (lv_at hl 3 rfl) ?_
  refine lv_iload_n hx hb dL_law_300 rfl (lv_at hl 0 rfl) ?_
  refine lv_iconst (v := 3) hx hb dL_law_301 (by decide) ?_
  refine v_iadd hx hb dL_law_302 3 (by decide +kernel) ?_
  refine va_sld hx hb hX0 hbl hbA hS (vin (by decide +kernel)) dL_law_303 ?_
  refine tvi (v := y2) e_y2 ?_
  refine kV_i (q0 := 0) ⟨hx, hb, hml, hown, hts⟩ hK hP hD hS hA hX cv_RL_33 [0, 6, 63] [86, 66] (wr := [(qm, .inr (9, [.ref (v 0), .ref (v 1), .ref (v 2), .ref (v 3), .ref (v 4), .ref (v 5), .ref (v 6), .ref (v 7), .ref (v 8), .ref (v 9), .ref (v 10), .ref (v 11), .int 1, .int 0, .int 0, .ref (v 12), .ref (v 13), .ref (v 14), .ref (v 15), .ref (v 16), .ref (v 17), .int 0, .int 0, .ref (v 18), .ref (v 19), .ref (v 20), .ref (v 21), .int 0, .int 0, .ref (v 22), .ref (v 23), .ref (v 24), .ref (v 25), .int 0, .ref (v 26), .int 0])), ((v 7), .inl (cI, 8, .inl (tb [])))]) rfl rfl rfl rfl (by decide) (c032_X8_bound l dC dI cI cJ cII cJJ H.size 0 qx (u 0) (u 62) (u 10) (u 28) (u 51) (u 59) (u 60) (u 61) (u 1) (u 5) (u 6) (u 7) (u 8) (u 9) y0 h_y0 y1 h_y1 y2 h_y2) ⟨by decide +kernel, by decide +kernel⟩ rfl rfl (Or.inl rfl) (rest := []) rfl rfl rfl hl.1 rfl (Nat.le_of_ble_eq_true rfl) dL_law_304 ⟨Nat.le_of_ble_eq_true rfl, Nat.le_of_ble_eq_true rfl⟩ (W' := [(qm, .inr (9, [.ref (v 0), .ref (v 1), .ref (v 2), .ref (v 3), .ref (v 4), .ref (v 5), .ref (v 6), .ref (v 7), .ref (v 8), .ref (v 9), .ref (v 10), .ref (v 11), .int 1, .int 0, .int 0, .ref (v 12), .ref (v 13), .ref (v 14), .ref (v 15), .ref (v 16), .ref (v 17), .int 0, .int 0, .ref (v 18), .ref (v 19), .ref (v 20), .ref (v 21), .int 0, .int 0, .ref (v 22), .ref (v 23), .ref (v 24), .ref (v 25), .int 0, .ref (v 26), .int 0])), ((v 7), .inl (cI, 8, .inl (tb [])))]) rfl (fun H locs hP hD hS => ?_)
  refine lv_aload_n hx hb dL_law_307 rfl (lv_at hl 1 rfl) ?_
  refine lv_aload_n hx hb dL_law_308 rfl (lv_at hl 3 rfl) ?_
  refine lv_iload_n hx hb dL_law_309 rfl (lv_at hl 0 rfl) ?_
  refine lv_iconst (v := 1) hx hb dL_law_310 (by decide) ?_
  refine v_iadd hx hb dL_law_311 1 (by decide +kernel) ?_
  refine va_sld hx hb hX0 hbl hbA hS (vin (by decide +kernel)) dL_law_312 ?_
  refine tvi (v := y0) e_y0 ?_
  refine lv_aload_n hx hb dL_law_313 rfl (lv_at hl 3 rfl) ?_
  refine lv_iload_n hx hb dL_law_314 rfl (lv_at hl 0 rfl) ?_
  refine lv_iconst (v := 2) hx hb dL_law_315 (by decide) ?_
  refine v_iadd hx hb dL_law_316 2 (by decide +kernel) ?_
  refine va_sld hx hb hX0 hbl hbA hS (vin (by decide +kernel)) dL_law_317 ?_
  refine tvi (v := y1) e_y1 ?_
  refine lv_aload_n hx hb dL_law_318 rfl (lv_at hl 3 rfl) ?_
  refine lv_iload_n hx hb dL_law_319 rfl (lv_at hl 0 rfl) ?_
  refine lv_iconst (v := 3) hx hb dL_law_320 (by decide) ?_
  refine v_iadd hx hb dL_law_321 3 (by decide +kernel) ?_
  refine va_sld hx hb hX0 hbl hbA hS (vin (by decide +kernel)) dL_law_322 ?_
  refine tvi (v := y2) e_y2 ?_
  refine kV_i (q0 := 0) ⟨hx, hb, hml, hown, hts⟩ hK hP hD hS hA hX cv_RL_36 [0, 1] [] (wr := []) rfl rfl rfl rfl (by decide) (c318_X9_bound l dC dI cI cJ cII cJJ H.size 0 qm (v 7) (v 0) (v 1) (v 2) (v 3) (v 4) (v 5) (v 6) (v 8) (v 9) (v 10) (v 11) (v 12) (v 13) (v 14) (v 15) (v 16) (v 17) (v 18) (v 19) (v 20) (v 21) (v 22) (v 23) (v 24) (v 25) (v 26) y0 h_y0 y1 h_y1 y2 h_y2) ⟨by decide +kernel, by decide +kernel⟩ rfl rfl (Or.inl rfl) (rest := [.int (-1)]) rfl rfl rfl hl.1 rfl (Nat.le_of_ble_eq_true rfl) dL_law_323 ⟨Nat.le_of_ble_eq_true rfl, Nat.le_of_ble_eq_true rfl⟩ (W' := []) rfl (fun H locs hP hD hS => ?_)
  refine t_icmp_eq hx hb dL_law_326 1073 (by decide) rfl ?_
  exact law_end l C0 rfl hS hl
set_option maxRecDepth 100000 in
set_option maxHeartbeats 4000000 in
theorem lr_9 {p : Program} {e : Env} {s : State} {m : MethodId} {below : List Frame} {meth : Method} {c : Code} (l : Launch) {b L : Nat} {xs : Nat → Int32} (C0 : lw_At p s m meth c b L xs) (hL : L = 5) {dC : Nat → ClassId} {dI : Nat → Nat → Nat} {cI cJ cII cJJ : ClassId} {g qx qm : Nat} {u v : Nat → Nat} {H : Heap} {locs : List Loc} {ls : Array Slot} (y0 : Int32) (h_y0 : 1 ≤ y0.toInt ∧ y0.toInt ≤ 2147483647) (e_y0 : xs 1 = y0) (y1 : Int32) (h_y1 : -2147483648 ≤ y1.toInt ∧ y1.toInt ≤ 2147483647) (e_y1 : xs 2 = y1) (y2 : Int32) (h_y2 : -2147483648 ≤ y2.toInt ∧ y2.toInt ≤ 2147483647) (e_y2 : xs 3 = y2) (hK : va_K (dC, dI) vwCl (TY cI cJ cII cJJ) s) (hX : GXA 1 g (AA s) s) (hP : va_P (dC, dI) vwCl (WLD cI cJ cII cJJ qx qm u v) H) (hD : va_D (AA s) (WLD cI cJ cII cJJ qx qm u v)) (hS : va_S (AA s) s.heap H locs) (hl : lv_has ls 4 [(3, .int 0), (2, .ref qm), (1, .ref qx), (0, .ref b)]) : W p l e room_1 s m #[Value.ref b] below meth c H locs 600000 7302250 (lw_Z below #[Value.ref b] s) (F0 m 288 ls []) := by
  obtain ⟨hx, hb, hr, hml, hown, hts0, hX0, hbl, hlocks, hgv⟩ := id C0
  have hts : ∀ w ∈ TT, w.before #[Value.ref b] s = true := fun w h => hts0 w (TT_tbl h)
  have hA : ∀ q : Nat, s.heap.size ≤ q → AA s q := fun _ h => h
  have hbA : ¬ AA s b := Nat.not_le.mpr hbl
  have hown : s.vm.findClass RL = some m.cls := hown
  subst hL
  refine lv_aload_n hx hb dL_law_288 rfl (lv_at hl 2 rfl) ?_
  refine lv_aload_n hx hb dL_law_289 rfl (lv_at hl 3 rfl) ?_
  refine lv_iload_n hx hb dL_law_290 rfl (lv_at hl 0 rfl) ?_
  refine lv_iconst (v := 1) hx hb dL_law_291 (by decide) ?_
  refine v_iadd hx hb dL_law_292 1 (by decide +kernel) ?_
  refine va_sld hx hb hX0 hbl hbA hS (vin (by decide +kernel)) dL_law_293 ?_
  refine tvi (v := y0) e_y0 ?_
  refine lv_aload_n hx hb dL_law_294 rfl (lv_at hl 3 rfl) ?_
  refine lv_iload_n hx hb dL_law_295 rfl (lv_at hl 0 rfl) ?_
  refine lv_iconst (v := 2) hx hb dL_law_296 (by decide) ?_
  refine v_iadd hx hb dL_law_297 2 (by decide +kernel) ?_
  refine va_sld hx hb hX0 hbl hbA hS (vin (by decide +kernel)) dL_law_298 ?_
  refine tvi (v := y1) e_y1 ?_
  refine lv_aload_n hx hb dL_law_299 rfl (lv_at hl 3 rfl) ?_
  refine lv_iload_n hx hb dL_law_300 rfl (lv_at hl 0 rfl) ?_
  refine lv_iconst (v := 3) hx hb dL_law_301 (by decide) ?_
  refine v_iadd hx hb dL_law_302 3 (by decide +kernel) ?_
  refine va_sld hx hb hX0 hbl hbA hS (vin (by decide +kernel)) dL_law_303 ?_
  refine tvi (v := y2) e_y2 ?_
  refine kV_i (q0 := 0) ⟨hx, hb, hml, hown, hts⟩ hK hP hD hS hA hX cv_RL_33 [0, 6, 63] [86, 66] (wr := [(qm, .inr (9, [.ref (v 0), .ref (v 1), .ref (v 2), .ref (v 3), .ref (v 4), .ref (v 5), .ref (v 6), .ref (v 7), .ref (v 8), .ref (v 9), .ref (v 10), .ref (v 11), .int 1, .int 0, .int 0, .ref (v 12), .ref (v 13), .ref (v 14), .ref (v 15), .ref (v 16), .ref (v 17), .int 0, .int 0, .ref (v 18), .ref (v 19), .ref (v 20), .ref (v 21), .int 0, .int 0, .ref (v 22), .ref (v 23), .ref (v 24), .ref (v 25), .int 0, .ref (v 26), .int 0])), ((v 7), .inl (cI, 8, .inl (tb [])))]) rfl rfl rfl rfl (by decide) (c034_X8_bound l dC dI cI cJ cII cJJ H.size 0 qx (u 0) (u 62) (u 10) (u 28) (u 51) (u 59) (u 60) (u 61) (u 1) (u 5) (u 6) (u 7) (u 8) (u 9) y0 h_y0 y1 h_y1 y2 h_y2) ⟨by decide +kernel, by decide +kernel⟩ rfl rfl (Or.inl rfl) (rest := []) rfl rfl rfl hl.1 rfl (Nat.le_of_ble_eq_true rfl) dL_law_304 ⟨Nat.le_of_ble_eq_true rfl, Nat.le_of_ble_eq_true rfl⟩ (W' := [(qm, .inr (9, [.ref (v 0), .ref (v 1), .ref (v 2), .ref (v 3), .ref (v 4), .ref (v 5), .ref (v 6), .ref (v 7), .ref (v 8), .ref (v 9), .ref (v 10), .ref (v 11), .int 1, .int 0, .int 0, .ref (v 12), .ref (v 13), .ref (v 14), .ref (v 15), .ref (v 16), .ref (v 17), .int 0, .int 0, .ref (v 18), .ref (v 19), .ref (v 20), .ref (v 21), .int 0, .int 0, .ref (v 22), .ref (v 23), .ref (v 24), .ref (v 25), .int 0, .ref (v 26), .int 0])), ((v 7), .inl (cI, 8, .inl (tb [])))]) rfl (fun H locs hP hD hS => ?_)
  refine lv_aload_n hx hb dL_law_307 rfl (lv_at hl 1 rfl) ?_
  refine lv_aload_n hx hb dL_law_308 rfl (lv_at hl 3 rfl) ?_
  refine lv_iload_n hx hb dL_law_309 rfl (lv_at hl 0 rfl) ?_
  refine lv_iconst (v := 1) hx hb dL_law_310 (by decide) ?_
  refine v_iadd hx hb dL_law_311 1 (by decide +kernel) ?_
  refine va_sld hx hb hX0 hbl hbA hS (vin (by decide +kernel)) dL_law_312 ?_
  refine tvi (v := y0) e_y0 ?_
  refine lv_aload_n hx hb dL_law_313 rfl (lv_at hl 3 rfl) ?_
  refine lv_iload_n hx hb dL_law_314 rfl (lv_at hl 0 rfl) ?_
  refine lv_iconst (v := 2) hx hb dL_law_315 (by decide) ?_
  refine v_iadd hx hb dL_law_316 2 (by decide +kernel) ?_
  refine va_sld hx hb hX0 hbl hbA hS (vin (by decide +kernel)) dL_law_317 ?_
  refine tvi (v := y1) e_y1 ?_
  refine lv_aload_n hx hb dL_law_318 rfl (lv_at hl 3 rfl) ?_
  refine lv_iload_n hx hb dL_law_319 rfl (lv_at hl 0 rfl) ?_
  refine lv_iconst (v := 3) hx hb dL_law_320 (by decide) ?_
  refine v_iadd hx hb dL_law_321 3 (by decide +kernel) ?_
  refine va_sld hx hb hX0 hbl hbA hS (vin (by decide +kernel)) dL_law_322 ?_
  refine tvi (v := y2) e_y2 ?_
  refine kV_i (q0 := 0) ⟨hx, hb, hml, hown, hts⟩ hK hP hD hS hA hX cv_RL_36 [0, 1] [] (wr := []) rfl rfl rfl rfl (by decide) (c320_X9_bound l dC dI cI cJ cII cJJ H.size 0 qm (v 7) (v 0) (v 1) (v 2) (v 3) (v 4) (v 5) (v 6) (v 8) (v 9) (v 10) (v 11) (v 12) (v 13) (v 14) (v 15) (v 16) (v 17) (v 18) (v 19) (v 20) (v 21) (v 22) (v 23) (v 24) (v 25) (v 26) y0 h_y0 y1 h_y1 y2 h_y2) ⟨by decide +kernel, by decide +kernel⟩ rfl rfl (Or.inl rfl) (rest := [.int (-1)]) rfl rfl rfl hl.1 rfl (Nat.le_of_ble_eq_true rfl) dL_law_323 ⟨Nat.le_of_ble_eq_true rfl, Nat.le_of_ble_eq_true rfl⟩ (W' := []) rfl (fun H locs hP hD hS => ?_)
  refine t_icmp_eq hx hb dL_law_326 1073 (by decide) rfl ?_
  exact law_end l C0 rfl hS hl
set_option maxRecDepth 100000 in
set_option maxHeartbeats 4000000 in
theorem lr_10 {p : Program} {e : Env} {s : State} {m : MethodId} {below : List Frame} {meth : Method} {c : Code} (l : Launch) {b L : Nat} {xs : Nat → Int32} (C0 : lw_At p s m meth c b L xs) (hL : L = 5) {dC : Nat → ClassId} {dI : Nat → Nat → Nat} {cI cJ cII cJJ : ClassId} {g qx qm : Nat} {u v : Nat → Nat} {H : Heap} {locs : List Loc} {ls : Array Slot} (e_y0 : xs 1 = 0) (y1 : Int32) (h_y1 : -2147483648 ≤ y1.toInt ∧ y1.toInt ≤ -11) (e_y1 : xs 2 = y1) (y2 : Int32) (h_y2 : -2147483648 ≤ y2.toInt ∧ y2.toInt ≤ 2147483647) (e_y2 : xs 3 = y2) (hK : va_K (dC, dI) vwCl (TY cI cJ cII cJJ) s) (hX : GXA 1 g (AA s) s) (hP : va_P (dC, dI) vwCl (WLD cI cJ cII cJJ qx qm u v) H) (hD : va_D (AA s) (WLD cI cJ cII cJJ qx qm u v)) (hS : va_S (AA s) s.heap H locs) (hl : lv_has ls 4 [(3, .int 0), (2, .ref qm), (1, .ref qx), (0, .ref b)]) : W p l e room_1 s m #[Value.ref b] below meth c H locs 600000 7302250 (lw_Z below #[Value.ref b] s) (F0 m 288 ls []) := by
  obtain ⟨hx, hb, hr, hml, hown, hts0, hX0, hbl, hlocks, hgv⟩ := id C0
  have hts : ∀ w ∈ TT, w.before #[Value.ref b] s = true := fun w h => hts0 w (TT_tbl h)
  have hA : ∀ q : Nat, s.heap.size ≤ q → AA s q := fun _ h => h
  have hbA : ¬ AA s b := Nat.not_le.mpr hbl
  have hown : s.vm.findClass RL = some m.cls := hown
  subst hL
  refine lv_aload_n hx hb dL_law_288 rfl (lv_at hl 2 rfl) ?_
  refine lv_aload_n hx hb dL_law_289 rfl (lv_at hl 3 rfl) ?_
  refine lv_iload_n hx hb dL_law_290 rfl (lv_at hl 0 rfl) ?_
  refine lv_iconst (v := 1) hx hb dL_law_291 (by decide) ?_
  refine v_iadd hx hb dL_law_292 1 (by decide +kernel) ?_
  refine va_sld hx hb hX0 hbl hbA hS (vin (by decide +kernel)) dL_law_293 ?_
  refine tvi (v := 0) e_y0 ?_
  refine lv_aload_n hx hb dL_law_294 rfl (lv_at hl 3 rfl) ?_
  refine lv_iload_n hx hb dL_law_295 rfl (lv_at hl 0 rfl) ?_
  refine lv_iconst (v := 2) hx hb dL_law_296 (by decide) ?_
  refine v_iadd hx hb dL_law_297 2 (by decide +kernel) ?_
  refine va_sld hx hb hX0 hbl hbA hS (vin (by decide +kernel)) dL_law_298 ?_
  refine tvi (v := y1) e_y1 ?_
  refine lv_aload_n hx hb dL_law_299 rfl (lv_at hl 3 rfl) ?_
  refine lv_iload_n hx hb dL_law_300 rfl (lv_at hl 0 rfl) ?_
  refine lv_iconst (v := 3) hx hb dL_law_301 (by decide) ?_
  refine v_iadd hx hb dL_law_302 3 (by decide +kernel) ?_
  refine va_sld hx hb hX0 hbl hbA hS (vin (by decide +kernel)) dL_law_303 ?_
  refine tvi (v := y2) e_y2 ?_
  refine kV_i (q0 := 0) ⟨hx, hb, hml, hown, hts⟩ hK hP hD hS hA hX cv_RL_33 [0, 6, 63] [86, 66] (wr := [(qm, .inr (9, [.ref (v 0), .ref (v 1), .ref (v 2), .ref (v 3), .ref (v 4), .ref (v 5), .ref (v 6), .ref (v 7), .ref (v 8), .ref (v 9), .ref (v 10), .ref (v 11), .int 1, .int 0, .int 0, .ref (v 12), .ref (v 13), .ref (v 14), .ref (v 15), .ref (v 16), .ref (v 17), .int 0, .int 0, .ref (v 18), .ref (v 19), .ref (v 20), .ref (v 21), .int 0, .int 0, .ref (v 22), .ref (v 23), .ref (v 24), .ref (v 25), .int 0, .ref (v 26), .int 0])), ((v 7), .inl (cI, 8, .inl (tb [])))]) rfl rfl rfl rfl (by decide) (c036_X8_bound l dC dI cI cJ cII cJJ H.size 0 qx (u 0) (u 62) (u 10) (u 28) (u 51) (u 59) (u 60) (u 61) (u 1) (u 5) (u 6) (u 7) (u 8) (u 9) y1 h_y1 y2 h_y2) ⟨by decide +kernel, by decide +kernel⟩ rfl rfl (Or.inl rfl) (rest := []) rfl rfl rfl hl.1 rfl (Nat.le_of_ble_eq_true rfl) dL_law_304 ⟨Nat.le_of_ble_eq_true rfl, Nat.le_of_ble_eq_true rfl⟩ (W' := [(qm, .inr (9, [.ref (v 0), .ref (v 1), .ref (v 2), .ref (v 3), .ref (v 4), .ref (v 5), .ref (v 6), .ref (v 7), .ref (v 8), .ref (v 9), .ref (v 10), .ref (v 11), .int 1, .int 0, .int 0, .ref (v 12), .ref (v 13), .ref (v 14), .ref (v 15), .ref (v 16), .ref (v 17), .int 0, .int 0, .ref (v 18), .ref (v 19), .ref (v 20), .ref (v 21), .int 0, .int 0, .ref (v 22), .ref (v 23), .ref (v 24), .ref (v 25), .int 0, .ref (v 26), .int 0])), ((v 7), .inl (cI, 8, .inl (tb [])))]) rfl (fun H locs hP hD hS => ?_)
  refine lv_aload_n hx hb dL_law_307 rfl (lv_at hl 1 rfl) ?_
  refine lv_aload_n hx hb dL_law_308 rfl (lv_at hl 3 rfl) ?_
  refine lv_iload_n hx hb dL_law_309 rfl (lv_at hl 0 rfl) ?_
  refine lv_iconst (v := 1) hx hb dL_law_310 (by decide) ?_
  refine v_iadd hx hb dL_law_311 1 (by decide +kernel) ?_
  refine va_sld hx hb hX0 hbl hbA hS (vin (by decide +kernel)) dL_law_312 ?_
  refine tvi (v := 0) e_y0 ?_
  refine lv_aload_n hx hb dL_law_313 rfl (lv_at hl 3 rfl) ?_
  refine lv_iload_n hx hb dL_law_314 rfl (lv_at hl 0 rfl) ?_
  refine lv_iconst (v := 2) hx hb dL_law_315 (by decide) ?_
  refine v_iadd hx hb dL_law_316 2 (by decide +kernel) ?_
  refine va_sld hx hb hX0 hbl hbA hS (vin (by decide +kernel)) dL_law_317 ?_
  refine tvi (v := y1) e_y1 ?_
  refine lv_aload_n hx hb dL_law_318 rfl (lv_at hl 3 rfl) ?_
  refine lv_iload_n hx hb dL_law_319 rfl (lv_at hl 0 rfl) ?_
  refine lv_iconst (v := 3) hx hb dL_law_320 (by decide) ?_
  refine v_iadd hx hb dL_law_321 3 (by decide +kernel) ?_
  refine va_sld hx hb hX0 hbl hbA hS (vin (by decide +kernel)) dL_law_322 ?_
  refine tvi (v := y2) e_y2 ?_
  refine kV_i (q0 := 0) ⟨hx, hb, hml, hown, hts⟩ hK hP hD hS hA hX cv_RL_36 [0, 1] [] (wr := []) rfl rfl rfl rfl (by decide) (c322_X9_bound l dC dI cI cJ cII cJJ H.size 0 qm (v 7) (v 0) (v 1) (v 2) (v 3) (v 4) (v 5) (v 6) (v 8) (v 9) (v 10) (v 11) (v 12) (v 13) (v 14) (v 15) (v 16) (v 17) (v 18) (v 19) (v 20) (v 21) (v 22) (v 23) (v 24) (v 25) (v 26) y1 h_y1 y2 h_y2) ⟨by decide +kernel, by decide +kernel⟩ rfl rfl (Or.inl rfl) (rest := [.int (-4)]) rfl rfl rfl hl.1 rfl (Nat.le_of_ble_eq_true rfl) dL_law_323 ⟨Nat.le_of_ble_eq_true rfl, Nat.le_of_ble_eq_true rfl⟩ (W' := []) rfl (fun H locs hP hD hS => ?_)
  refine t_icmp_eq hx hb dL_law_326 1073 (by decide) rfl ?_
  exact law_end l C0 rfl hS hl
set_option maxRecDepth 100000 in
set_option maxHeartbeats 4000000 in
theorem lr_11 {p : Program} {e : Env} {s : State} {m : MethodId} {below : List Frame} {meth : Method} {c : Code} (l : Launch) {b L : Nat} {xs : Nat → Int32} (C0 : lw_At p s m meth c b L xs) (hL : L = 5) {dC : Nat → ClassId} {dI : Nat → Nat → Nat} {cI cJ cII cJJ : ClassId} {g qx qm : Nat} {u v : Nat → Nat} {H : Heap} {locs : List Loc} {ls : Array Slot} (e_y0 : xs 1 = 0) (y1 : Int32) (h_y1 : -10 ≤ y1.toInt ∧ y1.toInt ≤ 2147483647) (e_y1 : xs 2 = y1) (y2 : Int32) (h_y2 : -2147483648 ≤ y2.toInt ∧ y2.toInt ≤ -11) (e_y2 : xs 3 = y2) (hK : va_K (dC, dI) vwCl (TY cI cJ cII cJJ) s) (hX : GXA 1 g (AA s) s) (hP : va_P (dC, dI) vwCl (WLD cI cJ cII cJJ qx qm u v) H) (hD : va_D (AA s) (WLD cI cJ cII cJJ qx qm u v)) (hS : va_S (AA s) s.heap H locs) (hl : lv_has ls 4 [(3, .int 0), (2, .ref qm), (1, .ref qx), (0, .ref b)]) : W p l e room_1 s m #[Value.ref b] below meth c H locs 600000 7302250 (lw_Z below #[Value.ref b] s) (F0 m 288 ls []) := by
  obtain ⟨hx, hb, hr, hml, hown, hts0, hX0, hbl, hlocks, hgv⟩ := id C0
  have hts : ∀ w ∈ TT, w.before #[Value.ref b] s = true := fun w h => hts0 w (TT_tbl h)
  have hA : ∀ q : Nat, s.heap.size ≤ q → AA s q := fun _ h => h
  have hbA : ¬ AA s b := Nat.not_le.mpr hbl
  have hown : s.vm.findClass RL = some m.cls := hown
  subst hL
  refine lv_aload_n hx hb dL_law_288 rfl (lv_at hl 2 rfl) ?_
  refine lv_aload_n hx hb dL_law_289 rfl (lv_at hl 3 rfl) ?_
  refine lv_iload_n hx hb dL_law_290 rfl (lv_at hl 0 rfl) ?_
  refine lv_iconst (v := 1) hx hb dL_law_291 (by decide) ?_
  refine v_iadd hx hb dL_law_292 1 (by decide +kernel) ?_
  refine va_sld hx hb hX0 hbl hbA hS (vin (by decide +kernel)) dL_law_293 ?_
  refine tvi (v := 0) e_y0 ?_
  refine lv_aload_n hx hb dL_law_294 rfl (lv_at hl 3 rfl) ?_
  refine lv_iload_n hx hb dL_law_295 rfl (lv_at hl 0 rfl) ?_
  refine lv_iconst (v := 2) hx hb dL_law_296 (by decide) ?_
  refine v_iadd hx hb dL_law_297 2 (by decide +kernel) ?_
  refine va_sld hx hb hX0 hbl hbA hS (vin (by decide +kernel)) dL_law_298 ?_
  refine tvi (v := y1) e_y1 ?_
  refine lv_aload_n hx hb dL_law_299 rfl (lv_at hl 3 rfl) ?_
  refine lv_iload_n hx hb dL_law_300 rfl (lv_at hl 0 rfl) ?_
  refine lv_iconst (v := 3) hx hb dL_law_301 (by decide) ?_
  refine v_iadd hx hb dL_law_302 3 (by decide +kernel) ?_
  refine va_sld hx hb hX0 hbl hbA hS (vin (by decide +kernel)) dL_law_303 ?_
  refine tvi (v := y2) e_y2 ?_
  refine kV_i (q0 := 0) ⟨hx, hb, hml, hown, hts⟩ hK hP hD hS hA hX cv_RL_33 [0, 6, 63] [86, 66] (wr := [(qm, .inr (9, [.ref (v 0), .ref (v 1), .ref (v 2), .ref (v 3), .ref (v 4), .ref (v 5), .ref (v 6), .ref (v 7), .ref (v 8), .ref (v 9), .ref (v 10), .ref (v 11), .int 1, .int 0, .int 0, .ref (v 12), .ref (v 13), .ref (v 14), .ref (v 15), .ref (v 16), .ref (v 17), .int 0, .int 0, .ref (v 18), .ref (v 19), .ref (v 20), .ref (v 21), .int 0, .int 0, .ref (v 22), .ref (v 23), .ref (v 24), .ref (v 25), .int 0, .ref (v 26), .int 0])), ((v 7), .inl (cI, 8, .inl (tb [])))]) rfl rfl rfl rfl (by decide) (c038_X8_bound l dC dI cI cJ cII cJJ H.size 0 qx (u 0) (u 62) (u 10) (u 28) (u 51) (u 59) (u 60) (u 61) (u 1) (u 5) (u 6) (u 7) (u 8) (u 9) y1 h_y1 y2 h_y2) ⟨by decide +kernel, by decide +kernel⟩ rfl rfl (Or.inl rfl) (rest := []) rfl rfl rfl hl.1 rfl (Nat.le_of_ble_eq_true rfl) dL_law_304 ⟨Nat.le_of_ble_eq_true rfl, Nat.le_of_ble_eq_true rfl⟩ (W' := [(qm, .inr (9, [.ref (v 0), .ref (v 1), .ref (v 2), .ref (v 3), .ref (v 4), .ref (v 5), .ref (v 6), .ref (v 7), .ref (v 8), .ref (v 9), .ref (v 10), .ref (v 11), .int 1, .int 0, .int 0, .ref (v 12), .ref (v 13), .ref (v 14), .ref (v 15), .ref (v 16), .ref (v 17), .int 0, .int 0, .ref (v 18), .ref (v 19), .ref (v 20), .ref (v 21), .int 0, .int 0, .ref (v 22), .ref (v 23), .ref (v 24), .ref (v 25), .int 0, .ref (v 26), .int 0])), ((v 7), .inl (cI, 8, .inl (tb [])))]) rfl (fun H locs hP hD hS => ?_)
  refine lv_aload_n hx hb dL_law_307 rfl (lv_at hl 1 rfl) ?_
  refine lv_aload_n hx hb dL_law_308 rfl (lv_at hl 3 rfl) ?_
  refine lv_iload_n hx hb dL_law_309 rfl (lv_at hl 0 rfl) ?_
  refine lv_iconst (v := 1) hx hb dL_law_310 (by decide) ?_
  refine v_iadd hx hb dL_law_311 1 (by decide +kernel) ?_
  refine va_sld hx hb hX0 hbl hbA hS (vin (by decide +kernel)) dL_law_312 ?_
  refine tvi (v := 0) e_y0 ?_
  refine lv_aload_n hx hb dL_law_313 rfl (lv_at hl 3 rfl) ?_
  refine lv_iload_n hx hb dL_law_314 rfl (lv_at hl 0 rfl) ?_
  refine lv_iconst (v := 2) hx hb dL_law_315 (by decide) ?_
  refine v_iadd hx hb dL_law_316 2 (by decide +kernel) ?_
  refine va_sld hx hb hX0 hbl hbA hS (vin (by decide +kernel)) dL_law_317 ?_
  refine tvi (v := y1) e_y1 ?_
  refine lv_aload_n hx hb dL_law_318 rfl (lv_at hl 3 rfl) ?_
  refine lv_iload_n hx hb dL_law_319 rfl (lv_at hl 0 rfl) ?_
  refine lv_iconst (v := 3) hx hb dL_law_320 (by decide) ?_
  refine v_iadd hx hb dL_law_321 3 (by decide +kernel) ?_
  refine va_sld hx hb hX0 hbl hbA hS (vin (by decide +kernel)) dL_law_322 ?_
  refine tvi (v := y2) e_y2 ?_
  refine kV_i (q0 := 0) ⟨hx, hb, hml, hown, hts⟩ hK hP hD hS hA hX cv_RL_36 [0, 1] [] (wr := []) rfl rfl rfl rfl (by decide) (c324_X9_bound l dC dI cI cJ cII cJJ H.size 0 qm (v 7) (v 0) (v 1) (v 2) (v 3) (v 4) (v 5) (v 6) (v 8) (v 9) (v 10) (v 11) (v 12) (v 13) (v 14) (v 15) (v 16) (v 17) (v 18) (v 19) (v 20) (v 21) (v 22) (v 23) (v 24) (v 25) (v 26) y1 h_y1 y2 h_y2) ⟨by decide +kernel, by decide +kernel⟩ rfl rfl (Or.inl rfl) (rest := [.int (-4)]) rfl rfl rfl hl.1 rfl (Nat.le_of_ble_eq_true rfl) dL_law_323 ⟨Nat.le_of_ble_eq_true rfl, Nat.le_of_ble_eq_true rfl⟩ (W' := []) rfl (fun H locs hP hD hS => ?_)
  refine t_icmp_eq hx hb dL_law_326 1073 (by decide) rfl ?_
  exact law_end l C0 rfl hS hl
set_option maxRecDepth 100000 in
set_option maxHeartbeats 4000000 in
theorem lr_12 {p : Program} {e : Env} {s : State} {m : MethodId} {below : List Frame} {meth : Method} {c : Code} (l : Launch) {b L : Nat} {xs : Nat → Int32} (C0 : lw_At p s m meth c b L xs) (hL : L = 5) {dC : Nat → ClassId} {dI : Nat → Nat → Nat} {cI cJ cII cJJ : ClassId} {g qx qm : Nat} {u v : Nat → Nat} {H : Heap} {locs : List Loc} {ls : Array Slot} (e_y0 : xs 1 = 0) (y1 : Int32) (h_y1 : 11 ≤ y1.toInt ∧ y1.toInt ≤ 2147483647) (e_y1 : xs 2 = y1) (y2 : Int32) (h_y2 : -10 ≤ y2.toInt ∧ y2.toInt ≤ 2147483647) (e_y2 : xs 3 = y2) (hK : va_K (dC, dI) vwCl (TY cI cJ cII cJJ) s) (hX : GXA 1 g (AA s) s) (hP : va_P (dC, dI) vwCl (WLD cI cJ cII cJJ qx qm u v) H) (hD : va_D (AA s) (WLD cI cJ cII cJJ qx qm u v)) (hS : va_S (AA s) s.heap H locs) (hl : lv_has ls 4 [(3, .int 0), (2, .ref qm), (1, .ref qx), (0, .ref b)]) : W p l e room_1 s m #[Value.ref b] below meth c H locs 600000 7302250 (lw_Z below #[Value.ref b] s) (F0 m 288 ls []) := by
  obtain ⟨hx, hb, hr, hml, hown, hts0, hX0, hbl, hlocks, hgv⟩ := id C0
  have hts : ∀ w ∈ TT, w.before #[Value.ref b] s = true := fun w h => hts0 w (TT_tbl h)
  have hA : ∀ q : Nat, s.heap.size ≤ q → AA s q := fun _ h => h
  have hbA : ¬ AA s b := Nat.not_le.mpr hbl
  have hown : s.vm.findClass RL = some m.cls := hown
  subst hL
  refine lv_aload_n hx hb dL_law_288 rfl (lv_at hl 2 rfl) ?_
  refine lv_aload_n hx hb dL_law_289 rfl (lv_at hl 3 rfl) ?_
  refine lv_iload_n hx hb dL_law_290 rfl (lv_at hl 0 rfl) ?_
  refine lv_iconst (v := 1) hx hb dL_law_291 (by decide) ?_
  refine v_iadd hx hb dL_law_292 1 (by decide +kernel) ?_
  refine va_sld hx hb hX0 hbl hbA hS (vin (by decide +kernel)) dL_law_293 ?_
  refine tvi (v := 0) e_y0 ?_
  refine lv_aload_n hx hb dL_law_294 rfl (lv_at hl 3 rfl) ?_
  refine lv_iload_n hx hb dL_law_295 rfl (lv_at hl 0 rfl) ?_
  refine lv_iconst (v := 2) hx hb dL_law_296 (by decide) ?_
  refine v_iadd hx hb dL_law_297 2 (by decide +kernel) ?_
  refine va_sld hx hb hX0 hbl hbA hS (vin (by decide +kernel)) dL_law_298 ?_
  refine tvi (v := y1) e_y1 ?_
  refine lv_aload_n hx hb dL_law_299 rfl (lv_at hl 3 rfl) ?_
  refine lv_iload_n hx hb dL_law_300 rfl (lv_at hl 0 rfl) ?_
  refine lv_iconst (v := 3) hx hb dL_law_301 (by decide) ?_
  refine v_iadd hx hb dL_law_302 3 (by decide +kernel) ?_
  refine va_sld hx hb hX0 hbl hbA hS (vin (by decide +kernel)) dL_law_303 ?_
  refine tvi (v := y2) e_y2 ?_
  refine kV_i (q0 := 0) ⟨hx, hb, hml, hown, hts⟩ hK hP hD hS hA hX cv_RL_33 [0, 6, 63] [86, 66] (wr := [(qm, .inr (9, [.ref (v 0), .ref (v 1), .ref (v 2), .ref (v 3), .ref (v 4), .ref (v 5), .ref (v 6), .ref (v 7), .ref (v 8), .ref (v 9), .ref (v 10), .ref (v 11), .int 1, .int 0, .int 0, .ref (v 12), .ref (v 13), .ref (v 14), .ref (v 15), .ref (v 16), .ref (v 17), .int 0, .int 0, .ref (v 18), .ref (v 19), .ref (v 20), .ref (v 21), .int 0, .int 0, .ref (v 22), .ref (v 23), .ref (v 24), .ref (v 25), .int 0, .ref (v 26), .int 0])), ((v 7), .inl (cI, 8, .inl (tb [])))]) rfl rfl rfl rfl (by decide) (c039_X8_bound l dC dI cI cJ cII cJJ H.size 0 qx (u 0) (u 62) (u 10) (u 28) (u 51) (u 59) (u 60) (u 61) (u 1) (u 5) (u 6) (u 7) (u 8) (u 9) y1 h_y1 y2 h_y2) ⟨by decide +kernel, by decide +kernel⟩ rfl rfl (Or.inl rfl) (rest := []) rfl rfl rfl hl.1 rfl (Nat.le_of_ble_eq_true rfl) dL_law_304 ⟨Nat.le_of_ble_eq_true rfl, Nat.le_of_ble_eq_true rfl⟩ (W' := [(qm, .inr (9, [.ref (v 0), .ref (v 1), .ref (v 2), .ref (v 3), .ref (v 4), .ref (v 5), .ref (v 6), .ref (v 7), .ref (v 8), .ref (v 9), .ref (v 10), .ref (v 11), .int 1, .int 0, .int 0, .ref (v 12), .ref (v 13), .ref (v 14), .ref (v 15), .ref (v 16), .ref (v 17), .int 0, .int 0, .ref (v 18), .ref (v 19), .ref (v 20), .ref (v 21), .int 0, .int 0, .ref (v 22), .ref (v 23), .ref (v 24), .ref (v 25), .int 0, .ref (v 26), .int 0])), ((v 7), .inl (cI, 8, .inl (tb [])))]) rfl (fun H locs hP hD hS => ?_)
  refine lv_aload_n hx hb dL_law_307 rfl (lv_at hl 1 rfl) ?_
  refine lv_aload_n hx hb dL_law_308 rfl (lv_at hl 3 rfl) ?_
  refine lv_iload_n hx hb dL_law_309 rfl (lv_at hl 0 rfl) ?_
  refine lv_iconst (v := 1) hx hb dL_law_310 (by decide) ?_
  refine v_iadd hx hb dL_law_311 1 (by decide +kernel) ?_
  refine va_sld hx hb hX0 hbl hbA hS (vin (by decide +kernel)) dL_law_312 ?_
  refine tvi (v := 0) e_y0 ?_
  refine lv_aload_n hx hb dL_law_313 rfl (lv_at hl 3 rfl) ?_
  refine lv_iload_n hx hb dL_law_314 rfl (lv_at hl 0 rfl) ?_
  refine lv_iconst (v := 2) hx hb dL_law_315 (by decide) ?_
  refine v_iadd hx hb dL_law_316 2 (by decide +kernel) ?_
  refine va_sld hx hb hX0 hbl hbA hS (vin (by decide +kernel)) dL_law_317 ?_
  refine tvi (v := y1) e_y1 ?_
  refine lv_aload_n hx hb dL_law_318 rfl (lv_at hl 3 rfl) ?_
  refine lv_iload_n hx hb dL_law_319 rfl (lv_at hl 0 rfl) ?_
  refine lv_iconst (v := 3) hx hb dL_law_320 (by decide) ?_
  refine v_iadd hx hb dL_law_321 3 (by decide +kernel) ?_
  refine va_sld hx hb hX0 hbl hbA hS (vin (by decide +kernel)) dL_law_322 ?_
  refine tvi (v := y2) e_y2 ?_
  refine kV_i (q0 := 0) ⟨hx, hb, hml, hown, hts⟩ hK hP hD hS hA hX cv_RL_36 [0, 1] [] (wr := []) rfl rfl rfl rfl (by decide) (c325_X9_bound l dC dI cI cJ cII cJJ H.size 0 qm (v 7) (v 0) (v 1) (v 2) (v 3) (v 4) (v 5) (v 6) (v 8) (v 9) (v 10) (v 11) (v 12) (v 13) (v 14) (v 15) (v 16) (v 17) (v 18) (v 19) (v 20) (v 21) (v 22) (v 23) (v 24) (v 25) (v 26) y1 h_y1 y2 h_y2) ⟨by decide +kernel, by decide +kernel⟩ rfl rfl (Or.inl rfl) (rest := [.int (-6)]) rfl rfl rfl hl.1 rfl (Nat.le_of_ble_eq_true rfl) dL_law_323 ⟨Nat.le_of_ble_eq_true rfl, Nat.le_of_ble_eq_true rfl⟩ (W' := []) rfl (fun H locs hP hD hS => ?_)
  refine t_icmp_eq hx hb dL_law_326 1073 (by decide) rfl ?_
  exact law_end l C0 rfl hS hl
set_option maxRecDepth 100000 in
set_option maxHeartbeats 4000000 in
theorem lr_13 {p : Program} {e : Env} {s : State} {m : MethodId} {below : List Frame} {meth : Method} {c : Code} (l : Launch) {b L : Nat} {xs : Nat → Int32} (C0 : lw_At p s m meth c b L xs) (hL : L = 5) {dC : Nat → ClassId} {dI : Nat → Nat → Nat} {cI cJ cII cJJ : ClassId} {g qx qm : Nat} {u v : Nat → Nat} {H : Heap} {locs : List Loc} {ls : Array Slot} (e_y0 : xs 1 = 0) (y1 : Int32) (h_y1 : -10 ≤ y1.toInt ∧ y1.toInt ≤ 10) (e_y1 : xs 2 = y1) (y2 : Int32) (h_y2 : 11 ≤ y2.toInt ∧ y2.toInt ≤ 2147483647) (e_y2 : xs 3 = y2) (hK : va_K (dC, dI) vwCl (TY cI cJ cII cJJ) s) (hX : GXA 1 g (AA s) s) (hP : va_P (dC, dI) vwCl (WLD cI cJ cII cJJ qx qm u v) H) (hD : va_D (AA s) (WLD cI cJ cII cJJ qx qm u v)) (hS : va_S (AA s) s.heap H locs) (hl : lv_has ls 4 [(3, .int 0), (2, .ref qm), (1, .ref qx), (0, .ref b)]) : W p l e room_1 s m #[Value.ref b] below meth c H locs 600000 7302250 (lw_Z below #[Value.ref b] s) (F0 m 288 ls []) := by
  obtain ⟨hx, hb, hr, hml, hown, hts0, hX0, hbl, hlocks, hgv⟩ := id C0
  have hts : ∀ w ∈ TT, w.before #[Value.ref b] s = true := fun w h => hts0 w (TT_tbl h)
  have hA : ∀ q : Nat, s.heap.size ≤ q → AA s q := fun _ h => h
  have hbA : ¬ AA s b := Nat.not_le.mpr hbl
  have hown : s.vm.findClass RL = some m.cls := hown
  subst hL
  refine lv_aload_n hx hb dL_law_288 rfl (lv_at hl 2 rfl) ?_
  refine lv_aload_n hx hb dL_law_289 rfl (lv_at hl 3 rfl) ?_
  refine lv_iload_n hx hb dL_law_290 rfl (lv_at hl 0 rfl) ?_
  refine lv_iconst (v := 1) hx hb dL_law_291 (by decide) ?_
  refine v_iadd hx hb dL_law_292 1 (by decide +kernel) ?_
  refine va_sld hx hb hX0 hbl hbA hS (vin (by decide +kernel)) dL_law_293 ?_
  refine tvi (v := 0) e_y0 ?_
  refine lv_aload_n hx hb dL_law_294 rfl (lv_at hl 3 rfl) ?_
  refine lv_iload_n hx hb dL_law_295 rfl (lv_at hl 0 rfl) ?_
  refine lv_iconst (v := 2) hx hb dL_law_296 (by decide) ?_
  refine v_iadd hx hb dL_law_297 2 (by decide +kernel) ?_
  refine va_sld hx hb hX0 hbl hbA hS (vin (by decide +kernel)) dL_law_298 ?_
  refine tvi (v := y1) e_y1 ?_
  refine lv_aload_n hx hb dL_law_299 rfl (lv_at hl 3 rfl) ?_
  refine lv_iload_n hx hb dL_law_300 rfl (lv_at hl 0 rfl) ?_
  refine lv_iconst (v := 3) hx hb dL_law_301 (by decide) ?_
  refine v_iadd hx hb dL_law_302 3 (by decide +kernel) ?_
  refine va_sld hx hb hX0 hbl hbA hS (vin (by decide +kernel)) dL_law_303 ?_
  refine tvi (v := y2) e_y2 ?_
  refine kV_i (q0 := 0) ⟨hx, hb, hml, hown, hts⟩ hK hP hD hS hA hX cv_RL_33 [0, 6, 63] [86, 66] (wr := [(qm, .inr (9, [.ref (v 0), .ref (v 1), .ref (v 2), .ref (v 3), .ref (v 4), .ref (v 5), .ref (v 6), .ref (v 7), .ref (v 8), .ref (v 9), .ref (v 10), .ref (v 11), .int 1, .int 0, .int 0, .ref (v 12), .ref (v 13), .ref (v 14), .ref (v 15), .ref (v 16), .ref (v 17), .int 0, .int 0, .ref (v 18), .ref (v 19), .ref (v 20), .ref (v 21), .int 0, .int 0, .ref (v 22), .ref (v 23), .ref (v 24), .ref (v 25), .int 0, .ref (v 26), .int 0])), ((v 7), .inl (cI, 8, .inl (tb [])))]) rfl rfl rfl rfl (by decide) (c040_X8_bound l dC dI cI cJ cII cJJ H.size 0 qx (u 0) (u 62) (u 10) (u 28) (u 51) (u 59) (u 60) (u 61) (u 1) (u 5) (u 6) (u 7) (u 8) (u 9) y1 h_y1 y2 h_y2) ⟨by decide +kernel, by decide +kernel⟩ rfl rfl (Or.inl rfl) (rest := []) rfl rfl rfl hl.1 rfl (Nat.le_of_ble_eq_true rfl) dL_law_304 ⟨Nat.le_of_ble_eq_true rfl, Nat.le_of_ble_eq_true rfl⟩ (W' := [(qm, .inr (9, [.ref (v 0), .ref (v 1), .ref (v 2), .ref (v 3), .ref (v 4), .ref (v 5), .ref (v 6), .ref (v 7), .ref (v 8), .ref (v 9), .ref (v 10), .ref (v 11), .int 1, .int 0, .int 0, .ref (v 12), .ref (v 13), .ref (v 14), .ref (v 15), .ref (v 16), .ref (v 17), .int 0, .int 0, .ref (v 18), .ref (v 19), .ref (v 20), .ref (v 21), .int 0, .int 0, .ref (v 22), .ref (v 23), .ref (v 24), .ref (v 25), .int 0, .ref (v 26), .int 0])), ((v 7), .inl (cI, 8, .inl (tb [])))]) rfl (fun H locs hP hD hS => ?_)
  refine lv_aload_n hx hb dL_law_307 rfl (lv_at hl 1 rfl) ?_
  refine lv_aload_n hx hb dL_law_308 rfl (lv_at hl 3 rfl) ?_
  refine lv_iload_n hx hb dL_law_309 rfl (lv_at hl 0 rfl) ?_
  refine lv_iconst (v := 1) hx hb dL_law_310 (by decide) ?_
  refine v_iadd hx hb dL_law_311 1 (by decide +kernel) ?_
  refine va_sld hx hb hX0 hbl hbA hS (vin (by decide +kernel)) dL_law_312 ?_
  refine tvi (v := 0) e_y0 ?_
  refine lv_aload_n hx hb dL_law_313 rfl (lv_at hl 3 rfl) ?_
  refine lv_iload_n hx hb dL_law_314 rfl (lv_at hl 0 rfl) ?_
  refine lv_iconst (v := 2) hx hb dL_law_315 (by decide) ?_
  refine v_iadd hx hb dL_law_316 2 (by decide +kernel) ?_
  refine va_sld hx hb hX0 hbl hbA hS (vin (by decide +kernel)) dL_law_317 ?_
  refine tvi (v := y1) e_y1 ?_
  refine lv_aload_n hx hb dL_law_318 rfl (lv_at hl 3 rfl) ?_
  refine lv_iload_n hx hb dL_law_319 rfl (lv_at hl 0 rfl) ?_
  refine lv_iconst (v := 3) hx hb dL_law_320 (by decide) ?_
  refine v_iadd hx hb dL_law_321 3 (by decide +kernel) ?_
  refine va_sld hx hb hX0 hbl hbA hS (vin (by decide +kernel)) dL_law_322 ?_
  refine tvi (v := y2) e_y2 ?_
  refine kV_i (q0 := 0) ⟨hx, hb, hml, hown, hts⟩ hK hP hD hS hA hX cv_RL_36 [0, 1] [] (wr := []) rfl rfl rfl rfl (by decide) (c326_X9_bound l dC dI cI cJ cII cJJ H.size 0 qm (v 7) (v 0) (v 1) (v 2) (v 3) (v 4) (v 5) (v 6) (v 8) (v 9) (v 10) (v 11) (v 12) (v 13) (v 14) (v 15) (v 16) (v 17) (v 18) (v 19) (v 20) (v 21) (v 22) (v 23) (v 24) (v 25) (v 26) y1 h_y1 y2 h_y2) ⟨by decide +kernel, by decide +kernel⟩ rfl rfl (Or.inl rfl) (rest := [.int (-6)]) rfl rfl rfl hl.1 rfl (Nat.le_of_ble_eq_true rfl) dL_law_323 ⟨Nat.le_of_ble_eq_true rfl, Nat.le_of_ble_eq_true rfl⟩ (W' := []) rfl (fun H locs hP hD hS => ?_)
  refine t_icmp_eq hx hb dL_law_326 1073 (by decide) rfl ?_
  exact law_end l C0 rfl hS hl
set_option maxRecDepth 100000 in
set_option maxHeartbeats 4000000 in
theorem lr_14 {p : Program} {e : Env} {s : State} {m : MethodId} {below : List Frame} {meth : Method} {c : Code} (l : Launch) {b L : Nat} {xs : Nat → Int32} (C0 : lw_At p s m meth c b L xs) (hL : L = 5) {dC : Nat → ClassId} {dI : Nat → Nat → Nat} {cI cJ cII cJJ : ClassId} {g qx qm : Nat} {u v : Nat → Nat} {H : Heap} {locs : List Loc} {ls : Array Slot} (e_y0 : xs 1 = 0) (y1 : Int32) (h_y1 : -10 ≤ y1.toInt ∧ y1.toInt ≤ 10) (e_y1 : xs 2 = y1) (y2 : Int32) (h_y2 : -10 ≤ y2.toInt ∧ y2.toInt ≤ 10) (e_y2 : xs 3 = y2) (hK : va_K (dC, dI) vwCl (TY cI cJ cII cJJ) s) (hX : GXA 1 g (AA s) s) (hP : va_P (dC, dI) vwCl (WLD cI cJ cII cJJ qx qm u v) H) (hD : va_D (AA s) (WLD cI cJ cII cJJ qx qm u v)) (hS : va_S (AA s) s.heap H locs) (hl : lv_has ls 4 [(3, .int 0), (2, .ref qm), (1, .ref qx), (0, .ref b)]) : W p l e room_1 s m #[Value.ref b] below meth c H locs 600000 7302250 (lw_Z below #[Value.ref b] s) (F0 m 288 ls []) := by
  obtain ⟨hx, hb, hr, hml, hown, hts0, hX0, hbl, hlocks, hgv⟩ := id C0
  have hts : ∀ w ∈ TT, w.before #[Value.ref b] s = true := fun w h => hts0 w (TT_tbl h)
  have hA : ∀ q : Nat, s.heap.size ≤ q → AA s q := fun _ h => h
  have hbA : ¬ AA s b := Nat.not_le.mpr hbl
  have hown : s.vm.findClass RL = some m.cls := hown
  subst hL
  refine lv_aload_n hx hb dL_law_288 rfl (lv_at hl 2 rfl) ?_
  refine lv_aload_n hx hb dL_law_289 rfl (lv_at hl 3 rfl) ?_
  refine lv_iload_n hx hb dL_law_290 rfl (lv_at hl 0 rfl) ?_
  refine lv_iconst (v := 1) hx hb dL_law_291 (by decide) ?_
  refine v_iadd hx hb dL_law_292 1 (by decide +kernel) ?_
  refine va_sld hx hb hX0 hbl hbA hS (vin (by decide +kernel)) dL_law_293 ?_
  refine tvi (v := 0) e_y0 ?_
  refine lv_aload_n hx hb dL_law_294 rfl (lv_at hl 3 rfl) ?_
  refine lv_iload_n hx hb dL_law_295 rfl (lv_at hl 0 rfl) ?_
  refine lv_iconst (v := 2) hx hb dL_law_296 (by decide) ?_
  refine v_iadd hx hb dL_law_297 2 (by decide +kernel) ?_
  refine va_sld hx hb hX0 hbl hbA hS (vin (by decide +kernel)) dL_law_298 ?_
  refine tvi (v := y1) e_y1 ?_
  refine lv_aload_n hx hb dL_law_299 rfl (lv_at hl 3 rfl) ?_
  refine lv_iload_n hx hb dL_law_300 rfl (lv_at hl 0 rfl) ?_
  refine lv_iconst (v := 3) hx hb dL_law_301 (by decide) ?_
  refine v_iadd hx hb dL_law_302 3 (by decide +kernel) ?_
  refine va_sld hx hb hX0 hbl hbA hS (vin (by decide +kernel)) dL_law_303 ?_
  refine tvi (v := y2) e_y2 ?_
  refine kV_i (q0 := 0) ⟨hx, hb, hml, hown, hts⟩ hK hP hD hS hA hX cv_RL_33 [0, 6, 7, 8, 29] [86, 87, 88] (wr := [(qm, .inr (9, [.ref (v 0), .ref (v 1), .ref (v 2), .ref (v 3), .ref (v 4), .ref (v 5), .ref (v 6), .ref (v 7), .ref (v 8), .ref (v 9), .ref (v 10), .ref (v 11), .int 1, .int 0, .int 0, .ref (v 12), .ref (v 13), .ref (v 14), .ref (v 15), .ref (v 16), .ref (v 17), .int 0, .int 0, .ref (v 18), .ref (v 19), .ref (v 20), .ref (v 21), .int 0, .int 0, .ref (v 22), .ref (v 23), .ref (v 24), .ref (v 25), .int 0, .ref (v 26), .int 0])), ((v 2), .inl (cI, 4, .inl (tb [0, 0, 0, 0]))), ((v 3), .inl (cI, 4, .inl (tb [10, 10, 10, 10])))]) rfl rfl rfl rfl (by decide) (c041_X8_bound l dC dI cI cJ cII cJJ H.size 0 qx (u 0) (u 6) (u 7) (u 28) (u 10) (u 51) (u 59) (u 60) (u 61) (u 62) (u 1) (u 5) (u 8) (u 9) (u 29) (u 30) (u 31) (u 32) (u 33) (u 39) (u 45) y1 h_y1 y2 h_y2) ⟨by decide +kernel, by decide +kernel⟩ rfl rfl (Or.inl rfl) (rest := []) rfl rfl rfl hl.1 rfl (Nat.le_of_ble_eq_true rfl) dL_law_304 ⟨Nat.le_of_ble_eq_true rfl, Nat.le_of_ble_eq_true rfl⟩ (W' := [(qm, .inr (9, [.ref (v 0), .ref (v 1), .ref (v 2), .ref (v 3), .ref (v 4), .ref (v 5), .ref (v 6), .ref (v 7), .ref (v 8), .ref (v 9), .ref (v 10), .ref (v 11), .int 1, .int 0, .int 0, .ref (v 12), .ref (v 13), .ref (v 14), .ref (v 15), .ref (v 16), .ref (v 17), .int 0, .int 0, .ref (v 18), .ref (v 19), .ref (v 20), .ref (v 21), .int 0, .int 0, .ref (v 22), .ref (v 23), .ref (v 24), .ref (v 25), .int 0, .ref (v 26), .int 0])), ((v 2), .inl (cI, 4, .inl (tb [0, 0, 0, 0]))), ((v 3), .inl (cI, 4, .inl (tb [10, 10, 10, 10])))]) rfl (fun H locs hP hD hS => ?_)
  refine lv_aload_n hx hb dL_law_307 rfl (lv_at hl 1 rfl) ?_
  refine lv_aload_n hx hb dL_law_308 rfl (lv_at hl 3 rfl) ?_
  refine lv_iload_n hx hb dL_law_309 rfl (lv_at hl 0 rfl) ?_
  refine lv_iconst (v := 1) hx hb dL_law_310 (by decide) ?_
  refine v_iadd hx hb dL_law_311 1 (by decide +kernel) ?_
  refine va_sld hx hb hX0 hbl hbA hS (vin (by decide +kernel)) dL_law_312 ?_
  refine tvi (v := 0) e_y0 ?_
  refine lv_aload_n hx hb dL_law_313 rfl (lv_at hl 3 rfl) ?_
  refine lv_iload_n hx hb dL_law_314 rfl (lv_at hl 0 rfl) ?_
  refine lv_iconst (v := 2) hx hb dL_law_315 (by decide) ?_
  refine v_iadd hx hb dL_law_316 2 (by decide +kernel) ?_
  refine va_sld hx hb hX0 hbl hbA hS (vin (by decide +kernel)) dL_law_317 ?_
  refine tvi (v := y1) e_y1 ?_
  refine lv_aload_n hx hb dL_law_318 rfl (lv_at hl 3 rfl) ?_
  refine lv_iload_n hx hb dL_law_319 rfl (lv_at hl 0 rfl) ?_
  refine lv_iconst (v := 3) hx hb dL_law_320 (by decide) ?_
  refine v_iadd hx hb dL_law_321 3 (by decide +kernel) ?_
  refine va_sld hx hb hX0 hbl hbA hS (vin (by decide +kernel)) dL_law_322 ?_
  refine tvi (v := y2) e_y2 ?_
  refine kV_i (q0 := 0) ⟨hx, hb, hml, hown, hts⟩ hK hP hD hS hA hX cv_RL_36 [0, 1, 2] [] (wr := []) rfl rfl rfl rfl (by decide) (c327_X9_bound l dC dI cI cJ cII cJJ H.size 0 qm (v 2) (v 3) (v 0) (v 1) (v 4) (v 5) (v 6) (v 7) (v 8) (v 9) (v 10) (v 11) (v 12) (v 13) (v 14) (v 15) (v 16) (v 17) (v 18) (v 19) (v 20) (v 21) (v 22) (v 23) (v 24) (v 25) (v 26) y1 h_y1 y2 h_y2) ⟨by decide +kernel, by decide +kernel⟩ rfl rfl (Or.inl rfl) (rest := [.int 1]) rfl rfl rfl hl.1 rfl (Nat.le_of_ble_eq_true rfl) dL_law_323 ⟨Nat.le_of_ble_eq_true rfl, Nat.le_of_ble_eq_true rfl⟩ (W' := []) rfl (fun H locs hP hD hS => ?_)
  refine t_icmp_eq hx hb dL_law_326 1073 (by decide) rfl ?_
  exact law_end l C0 rfl hS hl
set_option maxRecDepth 100000 in
set_option maxHeartbeats 4000000 in
theorem lc_4 {p : Program} {e : Env} {s : State} {m : MethodId} {below : List Frame} {meth : Method} {c : Code} (l : Launch) {b L : Nat} {xs : Nat → Int32} (C0 : lw_At p s m meth c b L xs) (hL : L = 5) {dC : Nat → ClassId} {dI : Nat → Nat → Nat} {cI cJ cII cJJ : ClassId} {g qx qm : Nat} {u v : Nat → Nat} {H : Heap} {locs : List Loc} {ls : Array Slot} (hK : va_K (dC, dI) vwCl (TY cI cJ cII cJJ) s) (hX : GXA 1 g (AA s) s) (hP : va_P (dC, dI) vwCl (WLD cI cJ cII cJJ qx qm u v) H) (hD : va_D (AA s) (WLD cI cJ cII cJJ qx qm u v)) (hS : va_S (AA s) s.heap H locs) (hl : lv_has ls 4 [(3, .int 0), (2, .ref qm), (1, .ref qx), (0, .ref b)]) : W p l e room_1 s m #[Value.ref b] below meth c H locs 600000 7302250 (lw_Z below #[Value.ref b] s) (F0 m 288 ls []) := by
  have q1 := s_any (xs 1)
  have q2 := s_any (xs 2)
  have q3 := s_any (xs 3)
  have key : ((xs 1).toInt ≤ -1) ∨ (1 ≤ (xs 1).toInt) ∨ ((xs 1).toInt = 0 ∧ (xs 2).toInt ≤ -11) ∨ ((xs 1).toInt = 0 ∧ -10 ≤ (xs 2).toInt ∧ (xs 3).toInt ≤ -11) ∨ ((xs 1).toInt = 0 ∧ 11 ≤ (xs 2).toInt ∧ -10 ≤ (xs 3).toInt) ∨ ((xs 1).toInt = 0 ∧ (-10 ≤ (xs 2).toInt ∧ (xs 2).toInt ≤ 10) ∧ 11 ≤ (xs 3).toInt) ∨ ((xs 1).toInt = 0 ∧ (-10 ≤ (xs 2).toInt ∧ (xs 2).toInt ≤ 10) ∧ (-10 ≤ (xs 3).toInt ∧ (xs 3).toInt ≤ 10)) := by omega
  rcases key with h | h | h | h | h | h | h
  · exact lr_8 l C0 hL (xs 1) ⟨by omega, by omega⟩ rfl (xs 2) ⟨by omega, by omega⟩ rfl (xs 3) ⟨by omega, by omega⟩ rfl hK hX hP hD hS hl
  · exact lr_9 l C0 hL (xs 1) ⟨by omega, by omega⟩ rfl (xs 2) ⟨by omega, by omega⟩ rfl (xs 3) ⟨by omega, by omega⟩ rfl hK hX hP hD hS hl
  · exact lr_10 l C0 hL (Int32.toInt_inj.mp (by rw [show (0 : Int32).toInt = 0 from by decide +kernel]; omega)) (xs 2) ⟨by omega, by omega⟩ rfl (xs 3) ⟨by omega, by omega⟩ rfl hK hX hP hD hS hl
  · exact lr_11 l C0 hL (Int32.toInt_inj.mp (by rw [show (0 : Int32).toInt = 0 from by decide +kernel]; omega)) (xs 2) ⟨by omega, by omega⟩ rfl (xs 3) ⟨by omega, by omega⟩ rfl hK hX hP hD hS hl
  · exact lr_12 l C0 hL (Int32.toInt_inj.mp (by rw [show (0 : Int32).toInt = 0 from by decide +kernel]; omega)) (xs 2) ⟨by omega, by omega⟩ rfl (xs 3) ⟨by omega, by omega⟩ rfl hK hX hP hD hS hl
  · exact lr_13 l C0 hL (Int32.toInt_inj.mp (by rw [show (0 : Int32).toInt = 0 from by decide +kernel]; omega)) (xs 2) ⟨by omega, by omega⟩ rfl (xs 3) ⟨by omega, by omega⟩ rfl hK hX hP hD hS hl
  · exact lr_14 l C0 hL (Int32.toInt_inj.mp (by rw [show (0 : Int32).toInt = 0 from by decide +kernel]; omega)) (xs 2) ⟨by omega, by omega⟩ rfl (xs 3) ⟨by omega, by omega⟩ rfl hK hX hP hD hS hl
set_option maxRecDepth 100000 in
set_option maxHeartbeats 4000000 in
theorem lr_15 {p : Program} {e : Env} {s : State} {m : MethodId} {below : List Frame} {meth : Method} {c : Code} (l : Launch) {b L : Nat} {xs : Nat → Int32} (C0 : lw_At p s m meth c b L xs) (hL : L = 5) {dC : Nat → ClassId} {dI : Nat → Nat → Nat} {cI cJ cII cJJ : ClassId} {g qx qm : Nat} {u v : Nat → Nat} {H : Heap} {locs : List Loc} {ls : Array Slot} (y0 : Int32) (h_y0 : -2147483648 ≤ y0.toInt ∧ y0.toInt ≤ -1) (e_y0 : xs 1 = y0) (y1 : Int32) (h_y1 : -2147483648 ≤ y1.toInt ∧ y1.toInt ≤ 2147483647) (e_y1 : xs 2 = y1) (y2 : Int32) (h_y2 : -2147483648 ≤ y2.toInt ∧ y2.toInt ≤ 2147483647) (e_y2 : xs 3 = y2) (hK : va_K (dC, dI) vwCl (TY cI cJ cII cJJ) s) (hX : GXA 1 g (AA s) s) (hP : va_P (dC, dI) vwCl (WLD cI cJ cII cJJ qx qm u v) H) (hD : va_D (AA s) (WLD cI cJ cII cJJ qx qm u v)) (hS : va_S (AA s) s.heap H locs) (hl : lv_has ls 4 [(3, .int 0), (2, .ref qm), (1, .ref qx), (0, .ref b)]) : W p l e room_1 s m #[Value.ref b] below meth c H locs 600000 7302250 (lw_Z below #[Value.ref b] s) (F0 m 331 ls []) := by
  obtain ⟨hx, hb, hr, hml, hown, hts0, hX0, hbl, hlocks, hgv⟩ := id C0
  have hts : ∀ w ∈ TT, w.before #[Value.ref b] s = true := fun w h => hts0 w (TT_tbl h)
  have hA : ∀ q : Nat, s.heap.size ≤ q → AA s q := fun _ h => h
  have hbA : ¬ AA s b := Nat.not_le.mpr hbl
  have hown : s.vm.findClass RL = some m.cls := hown
  subst hL
  refine lv_aload_n hx hb dL_law_331 rfl (lv_at hl 2 rfl) ?_
  refine lv_aload_n hx hb dL_law_332 rfl (lv_at hl 3 rfl) ?_
  refine lv_iload_n hx hb dL_law_333 rfl (lv_at hl 0 rfl) ?_
  refine lv_iconst (v := 1) hx hb dL_law_334 (by decide) ?_
  refine v_iadd hx hb dL_law_335 1 (by decide +kernel) ?_
  refine va_sld hx hb hX0 hbl hbA hS (vin (by decide +kernel)) dL_law_336 ?_
  refine tvi (v := y0) e_y0 ?_
  refine lv_aload_n hx hb dL_law_337 rfl (lv_at hl 3 rfl) ?_
  refine lv_iload_n hx hb dL_law_338 rfl (lv_at hl 0 rfl) ?_
  refine lv_iconst (v := 2) hx hb dL_law_339 (by decide) ?_
  refine v_iadd hx hb dL_law_340 2 (by decide +kernel) ?_
  refine va_sld hx hb hX0 hbl hbA hS (vin (by decide +kernel)) dL_law_341 ?_
  refine tvi (v := y1) e_y1 ?_
  refine lv_aload_n hx hb dL_law_342 rfl (lv_at hl 3 rfl) ?_
  refine lv_iload_n hx hb dL_law_343 rfl (lv_at hl 0 rfl) ?_
  refine lv_iconst (v := 3) hx hb dL_law_344 (by decide) ?_
  refine v_iadd hx hb dL_law_345 3 (by decide +kernel) ?_
  refine va_sld hx hb hX0 hbl hbA hS (vin (by decide +kernel)) dL_law_346 ?_
  refine tvi (v := y2) e_y2 ?_
  refine kV_i (q0 := 0) ⟨hx, hb, hml, hown, hts⟩ hK hP hD hS hA hX cv_RL_37 [0, 6, 63] [86, 66] (wr := [(qm, .inr (9, [.ref (v 0), .ref (v 1), .ref (v 2), .ref (v 3), .ref (v 4), .ref (v 5), .ref (v 6), .ref (v 7), .ref (v 8), .ref (v 9), .ref (v 10), .ref (v 11), .int 1, .int 0, .int 0, .ref (v 12), .ref (v 13), .ref (v 14), .ref (v 15), .ref (v 16), .ref (v 17), .int 0, .int 0, .ref (v 18), .ref (v 19), .ref (v 20), .ref (v 21), .int 0, .int 0, .ref (v 22), .ref (v 23), .ref (v 24), .ref (v 25), .int 0, .ref (v 26), .int 0])), ((v 7), .inl (cI, 8, .inl (tb [])))]) rfl rfl rfl rfl (by decide) (c042_X8_price l dC dI cI cJ cII cJJ H.size 0 qx (u 0) (u 62) (u 10) (u 28) (u 51) (u 59) (u 60) (u 61) (u 1) (u 5) (u 6) (u 7) (u 8) (u 9) y0 h_y0 y1 h_y1 y2 h_y2) ⟨by decide +kernel, by decide +kernel⟩ rfl rfl (Or.inl rfl) (rest := []) rfl rfl rfl hl.1 rfl (Nat.le_of_ble_eq_true rfl) dL_law_347 ⟨Nat.le_of_ble_eq_true rfl, Nat.le_of_ble_eq_true rfl⟩ (W' := [(qm, .inr (9, [.ref (v 0), .ref (v 1), .ref (v 2), .ref (v 3), .ref (v 4), .ref (v 5), .ref (v 6), .ref (v 7), .ref (v 8), .ref (v 9), .ref (v 10), .ref (v 11), .int 1, .int 0, .int 0, .ref (v 12), .ref (v 13), .ref (v 14), .ref (v 15), .ref (v 16), .ref (v 17), .int 0, .int 0, .ref (v 18), .ref (v 19), .ref (v 20), .ref (v 21), .int 0, .int 0, .ref (v 22), .ref (v 23), .ref (v 24), .ref (v 25), .int 0, .ref (v 26), .int 0])), ((v 7), .inl (cI, 8, .inl (tb [])))]) rfl (fun H locs hP hD hS => ?_)
  refine lv_aload_n hx hb dL_law_350 rfl (lv_at hl 1 rfl) ?_
  refine lv_aload_n hx hb dL_law_351 rfl (lv_at hl 3 rfl) ?_
  refine lv_iload_n hx hb dL_law_352 rfl (lv_at hl 0 rfl) ?_
  refine lv_iconst (v := 1) hx hb dL_law_353 (by decide) ?_
  refine v_iadd hx hb dL_law_354 1 (by decide +kernel) ?_
  refine va_sld hx hb hX0 hbl hbA hS (vin (by decide +kernel)) dL_law_355 ?_
  refine tvi (v := y0) e_y0 ?_
  refine lv_aload_n hx hb dL_law_356 rfl (lv_at hl 3 rfl) ?_
  refine lv_iload_n hx hb dL_law_357 rfl (lv_at hl 0 rfl) ?_
  refine lv_iconst (v := 2) hx hb dL_law_358 (by decide) ?_
  refine v_iadd hx hb dL_law_359 2 (by decide +kernel) ?_
  refine va_sld hx hb hX0 hbl hbA hS (vin (by decide +kernel)) dL_law_360 ?_
  refine tvi (v := y1) e_y1 ?_
  refine lv_aload_n hx hb dL_law_361 rfl (lv_at hl 3 rfl) ?_
  refine lv_iload_n hx hb dL_law_362 rfl (lv_at hl 0 rfl) ?_
  refine lv_iconst (v := 3) hx hb dL_law_363 (by decide) ?_
  refine v_iadd hx hb dL_law_364 3 (by decide +kernel) ?_
  refine va_sld hx hb hX0 hbl hbA hS (vin (by decide +kernel)) dL_law_365 ?_
  refine tvi (v := y2) e_y2 ?_
  refine kV_i (q0 := 0) ⟨hx, hb, hml, hown, hts⟩ hK hP hD hS hA hX cv_RL_40 [0, 1] [] (wr := []) rfl rfl rfl rfl (by decide) (c328_X9_price l dC dI cI cJ cII cJJ H.size 0 qm (v 7) (v 0) (v 1) (v 2) (v 3) (v 4) (v 5) (v 6) (v 8) (v 9) (v 10) (v 11) (v 12) (v 13) (v 14) (v 15) (v 16) (v 17) (v 18) (v 19) (v 20) (v 21) (v 22) (v 23) (v 24) (v 25) (v 26) y0 h_y0 y1 h_y1 y2 h_y2) ⟨by decide +kernel, by decide +kernel⟩ rfl rfl (Or.inl rfl) (rest := [.int (-1)]) rfl rfl rfl hl.1 rfl (Nat.le_of_ble_eq_true rfl) dL_law_366 ⟨Nat.le_of_ble_eq_true rfl, Nat.le_of_ble_eq_true rfl⟩ (W' := []) rfl (fun H locs hP hD hS => ?_)
  refine t_icmp_eq hx hb dL_law_369 1073 (by decide) rfl ?_
  exact law_end l C0 rfl hS hl
set_option maxRecDepth 100000 in
set_option maxHeartbeats 4000000 in
theorem lr_16 {p : Program} {e : Env} {s : State} {m : MethodId} {below : List Frame} {meth : Method} {c : Code} (l : Launch) {b L : Nat} {xs : Nat → Int32} (C0 : lw_At p s m meth c b L xs) (hL : L = 5) {dC : Nat → ClassId} {dI : Nat → Nat → Nat} {cI cJ cII cJJ : ClassId} {g qx qm : Nat} {u v : Nat → Nat} {H : Heap} {locs : List Loc} {ls : Array Slot} (y0 : Int32) (h_y0 : 1 ≤ y0.toInt ∧ y0.toInt ≤ 2147483647) (e_y0 : xs 1 = y0) (y1 : Int32) (h_y1 : -2147483648 ≤ y1.toInt ∧ y1.toInt ≤ 2147483647) (e_y1 : xs 2 = y1) (y2 : Int32) (h_y2 : -2147483648 ≤ y2.toInt ∧ y2.toInt ≤ 2147483647) (e_y2 : xs 3 = y2) (hK : va_K (dC, dI) vwCl (TY cI cJ cII cJJ) s) (hX : GXA 1 g (AA s) s) (hP : va_P (dC, dI) vwCl (WLD cI cJ cII cJJ qx qm u v) H) (hD : va_D (AA s) (WLD cI cJ cII cJJ qx qm u v)) (hS : va_S (AA s) s.heap H locs) (hl : lv_has ls 4 [(3, .int 0), (2, .ref qm), (1, .ref qx), (0, .ref b)]) : W p l e room_1 s m #[Value.ref b] below meth c H locs 600000 7302250 (lw_Z below #[Value.ref b] s) (F0 m 331 ls []) := by
  obtain ⟨hx, hb, hr, hml, hown, hts0, hX0, hbl, hlocks, hgv⟩ := id C0
  have hts : ∀ w ∈ TT, w.before #[Value.ref b] s = true := fun w h => hts0 w (TT_tbl h)
  have hA : ∀ q : Nat, s.heap.size ≤ q → AA s q := fun _ h => h
  have hbA : ¬ AA s b := Nat.not_le.mpr hbl
  have hown : s.vm.findClass RL = some m.cls := hown
  subst hL
  refine lv_aload_n hx hb dL_law_331 rfl (lv_at hl 2 rfl) ?_
  refine lv_aload_n hx hb dL_law_332 rfl (lv_at hl 3 rfl) ?_
  refine lv_iload_n hx hb dL_law_333 rfl (lv_at hl 0 rfl) ?_
  refine lv_iconst (v := 1) hx hb dL_law_334 (by decide) ?_
  refine v_iadd hx hb dL_law_335 1 (by decide +kernel) ?_
  refine va_sld hx hb hX0 hbl hbA hS (vin (by decide +kernel)) dL_law_336 ?_
  refine tvi (v := y0) e_y0 ?_
  refine lv_aload_n hx hb dL_law_337 rfl (lv_at hl 3 rfl) ?_
  refine lv_iload_n hx hb dL_law_338 rfl (lv_at hl 0 rfl) ?_
  refine lv_iconst (v := 2) hx hb dL_law_339 (by decide) ?_
  refine v_iadd hx hb dL_law_340 2 (by decide +kernel) ?_
  refine va_sld hx hb hX0 hbl hbA hS (vin (by decide +kernel)) dL_law_341 ?_
  refine tvi (v := y1) e_y1 ?_
  refine lv_aload_n hx hb dL_law_342 rfl (lv_at hl 3 rfl) ?_
  refine lv_iload_n hx hb dL_law_343 rfl (lv_at hl 0 rfl) ?_
  refine lv_iconst (v := 3) hx hb dL_law_344 (by decide) ?_
  refine v_iadd hx hb dL_law_345 3 (by decide +kernel) ?_
  refine va_sld hx hb hX0 hbl hbA hS (vin (by decide +kernel)) dL_law_346 ?_
  refine tvi (v := y2) e_y2 ?_
  refine kV_i (q0 := 0) ⟨hx, hb, hml, hown, hts⟩ hK hP hD hS hA hX cv_RL_37 [0, 6, 63] [86, 66] (wr := [(qm, .inr (9, [.ref (v 0), .ref (v 1), .ref (v 2), .ref (v 3), .ref (v 4), .ref (v 5), .ref (v 6), .ref (v 7), .ref (v 8), .ref (v 9), .ref (v 10), .ref (v 11), .int 1, .int 0, .int 0, .ref (v 12), .ref (v 13), .ref (v 14), .ref (v 15), .ref (v 16), .ref (v 17), .int 0, .int 0, .ref (v 18), .ref (v 19), .ref (v 20), .ref (v 21), .int 0, .int 0, .ref (v 22), .ref (v 23), .ref (v 24), .ref (v 25), .int 0, .ref (v 26), .int 0])), ((v 7), .inl (cI, 8, .inl (tb [])))]) rfl rfl rfl rfl (by decide) (c043_X8_price l dC dI cI cJ cII cJJ H.size 0 qx (u 0) (u 62) (u 10) (u 28) (u 51) (u 59) (u 60) (u 61) (u 1) (u 5) (u 6) (u 7) (u 8) (u 9) y0 h_y0 y1 h_y1 y2 h_y2) ⟨by decide +kernel, by decide +kernel⟩ rfl rfl (Or.inl rfl) (rest := []) rfl rfl rfl hl.1 rfl (Nat.le_of_ble_eq_true rfl) dL_law_347 ⟨Nat.le_of_ble_eq_true rfl, Nat.le_of_ble_eq_true rfl⟩ (W' := [(qm, .inr (9, [.ref (v 0), .ref (v 1), .ref (v 2), .ref (v 3), .ref (v 4), .ref (v 5), .ref (v 6), .ref (v 7), .ref (v 8), .ref (v 9), .ref (v 10), .ref (v 11), .int 1, .int 0, .int 0, .ref (v 12), .ref (v 13), .ref (v 14), .ref (v 15), .ref (v 16), .ref (v 17), .int 0, .int 0, .ref (v 18), .ref (v 19), .ref (v 20), .ref (v 21), .int 0, .int 0, .ref (v 22), .ref (v 23), .ref (v 24), .ref (v 25), .int 0, .ref (v 26), .int 0])), ((v 7), .inl (cI, 8, .inl (tb [])))]) rfl (fun H locs hP hD hS => ?_)
  refine lv_aload_n hx hb dL_law_350 rfl (lv_at hl 1 rfl) ?_
  refine lv_aload_n hx hb dL_law_351 rfl (lv_at hl 3 rfl) ?_
  refine lv_iload_n hx hb dL_law_352 rfl (lv_at hl 0 rfl) ?_
  refine lv_iconst (v := 1) hx hb dL_law_353 (by decide) ?_
  refine v_iadd hx hb dL_law_354 1 (by decide +kernel) ?_
  refine va_sld hx hb hX0 hbl hbA hS (vin (by decide +kernel)) dL_law_355 ?_
  refine tvi (v := y0) e_y0 ?_
  refine lv_aload_n hx hb dL_law_356 rfl (lv_at hl 3 rfl) ?_
  refine lv_iload_n hx hb dL_law_357 rfl (lv_at hl 0 rfl) ?_
  refine lv_iconst (v := 2) hx hb dL_law_358 (by decide) ?_
  refine v_iadd hx hb dL_law_359 2 (by decide +kernel) ?_
  refine va_sld hx hb hX0 hbl hbA hS (vin (by decide +kernel)) dL_law_360 ?_
  refine tvi (v := y1) e_y1 ?_
  refine lv_aload_n hx hb dL_law_361 rfl (lv_at hl 3 rfl) ?_
  refine lv_iload_n hx hb dL_law_362 rfl (lv_at hl 0 rfl) ?_
  refine lv_iconst (v := 3) hx hb dL_law_363 (by decide) ?_
  refine v_iadd hx hb dL_law_364 3 (by decide +kernel) ?_
  refine va_sld hx hb hX0 hbl hbA hS (vin (by decide +kernel)) dL_law_365 ?_
  refine tvi (v := y2) e_y2 ?_
  refine kV_i (q0 := 0) ⟨hx, hb, hml, hown, hts⟩ hK hP hD hS hA hX cv_RL_40 [0, 1] [] (wr := []) rfl rfl rfl rfl (by decide) (c329_X9_price l dC dI cI cJ cII cJJ H.size 0 qm (v 7) (v 0) (v 1) (v 2) (v 3) (v 4) (v 5) (v 6) (v 8) (v 9) (v 10) (v 11) (v 12) (v 13) (v 14) (v 15) (v 16) (v 17) (v 18) (v 19) (v 20) (v 21) (v 22) (v 23) (v 24) (v 25) (v 26) y0 h_y0 y1 h_y1 y2 h_y2) ⟨by decide +kernel, by decide +kernel⟩ rfl rfl (Or.inl rfl) (rest := [.int (-1)]) rfl rfl rfl hl.1 rfl (Nat.le_of_ble_eq_true rfl) dL_law_366 ⟨Nat.le_of_ble_eq_true rfl, Nat.le_of_ble_eq_true rfl⟩ (W' := []) rfl (fun H locs hP hD hS => ?_)
  refine t_icmp_eq hx hb dL_law_369 1073 (by decide) rfl ?_
  exact law_end l C0 rfl hS hl
set_option maxRecDepth 100000 in
set_option maxHeartbeats 4000000 in
theorem lr_17 {p : Program} {e : Env} {s : State} {m : MethodId} {below : List Frame} {meth : Method} {c : Code} (l : Launch) {b L : Nat} {xs : Nat → Int32} (C0 : lw_At p s m meth c b L xs) (hL : L = 5) {dC : Nat → ClassId} {dI : Nat → Nat → Nat} {cI cJ cII cJJ : ClassId} {g qx qm : Nat} {u v : Nat → Nat} {H : Heap} {locs : List Loc} {ls : Array Slot} (e_y0 : xs 1 = 0) (y1 : Int32) (h_y1 : -2147483648 ≤ y1.toInt ∧ y1.toInt ≤ -100) (e_y1 : xs 2 = y1) (y2 : Int32) (h_y2 : -2147483648 ≤ y2.toInt ∧ y2.toInt ≤ 2147483647) (e_y2 : xs 3 = y2) (hK : va_K (dC, dI) vwCl (TY cI cJ cII cJJ) s) (hX : GXA 1 g (AA s) s) (hP : va_P (dC, dI) vwCl (WLD cI cJ cII cJJ qx qm u v) H) (hD : va_D (AA s) (WLD cI cJ cII cJJ qx qm u v)) (hS : va_S (AA s) s.heap H locs) (hl : lv_has ls 4 [(3, .int 0), (2, .ref qm), (1, .ref qx), (0, .ref b)]) : W p l e room_1 s m #[Value.ref b] below meth c H locs 600000 7302250 (lw_Z below #[Value.ref b] s) (F0 m 331 ls []) := by
  obtain ⟨hx, hb, hr, hml, hown, hts0, hX0, hbl, hlocks, hgv⟩ := id C0
  have hts : ∀ w ∈ TT, w.before #[Value.ref b] s = true := fun w h => hts0 w (TT_tbl h)
  have hA : ∀ q : Nat, s.heap.size ≤ q → AA s q := fun _ h => h
  have hbA : ¬ AA s b := Nat.not_le.mpr hbl
  have hown : s.vm.findClass RL = some m.cls := hown
  subst hL
  refine lv_aload_n hx hb dL_law_331 rfl (lv_at hl 2 rfl) ?_
  refine lv_aload_n hx hb dL_law_332 rfl (lv_at hl 3 rfl) ?_
  refine lv_iload_n hx hb dL_law_333 rfl (lv_at hl 0 rfl) ?_
  refine lv_iconst (v := 1) hx hb dL_law_334 (by decide) ?_
  refine v_iadd hx hb dL_law_335 1 (by decide +kernel) ?_
  refine va_sld hx hb hX0 hbl hbA hS (vin (by decide +kernel)) dL_law_336 ?_
  refine tvi (v := 0) e_y0 ?_
  refine lv_aload_n hx hb dL_law_337 rfl (lv_at hl 3 rfl) ?_
  refine lv_iload_n hx hb dL_law_338 rfl (lv_at hl 0 rfl) ?_
  refine lv_iconst (v := 2) hx hb dL_law_339 (by decide) ?_
  refine v_iadd hx hb dL_law_340 2 (by decide +kernel) ?_
  refine va_sld hx hb hX0 hbl hbA hS (vin (by decide +kernel)) dL_law_341 ?_
  refine tvi (v := y1) e_y1 ?_
  refine lv_aload_n hx hb dL_law_342 rfl (lv_at hl 3 rfl) ?_
  refine lv_iload_n hx hb dL_law_343 rfl (lv_at hl 0 rfl) ?_
  refine lv_iconst (v := 3) hx hb dL_law_344 (by decide) ?_
  refine v_iadd hx hb dL_law_345 3 (by decide +kernel) ?_
  refine va_sld hx hb hX0 hbl hbA hS (vin (by decide +kernel)) dL_law_346 ?_
  refine tvi (v := y2) e_y2 ?_
  refine kV_i (q0 := 0) ⟨hx, hb, hml, hown, hts⟩ hK hP hD hS hA hX cv_RL_37 [0, 6, 63] [86, 66] (wr := [(qm, .inr (9, [.ref (v 0), .ref (v 1), .ref (v 2), .ref (v 3), .ref (v 4), .ref (v 5), .ref (v 6), .ref (v 7), .ref (v 8), .ref (v 9), .ref (v 10), .ref (v 11), .int 1, .int 0, .int 0, .ref (v 12), .ref (v 13), .ref (v 14), .ref (v 15), .ref (v 16), .ref (v 17), .int 0, .int 0, .ref (v 18), .ref (v 19), .ref (v 20), .ref (v 21), .int 0, .int 0, .ref (v 22), .ref (v 23), .ref (v 24), .ref (v 25), .int 0, .ref (v 26), .int 0])), ((v 7), .inl (cI, 8, .inl (tb [])))]) rfl rfl rfl rfl (by decide) (c044_X8_price l dC dI cI cJ cII cJJ H.size 0 qx (u 0) (u 62) (u 10) (u 28) (u 51) (u 59) (u 60) (u 61) (u 1) (u 5) (u 6) (u 7) (u 8) (u 9) y1 h_y1 y2 h_y2) ⟨by decide +kernel, by decide +kernel⟩ rfl rfl (Or.inl rfl) (rest := []) rfl rfl rfl hl.1 rfl (Nat.le_of_ble_eq_true rfl) dL_law_347 ⟨Nat.le_of_ble_eq_true rfl, Nat.le_of_ble_eq_true rfl⟩ (W' := [(qm, .inr (9, [.ref (v 0), .ref (v 1), .ref (v 2), .ref (v 3), .ref (v 4), .ref (v 5), .ref (v 6), .ref (v 7), .ref (v 8), .ref (v 9), .ref (v 10), .ref (v 11), .int 1, .int 0, .int 0, .ref (v 12), .ref (v 13), .ref (v 14), .ref (v 15), .ref (v 16), .ref (v 17), .int 0, .int 0, .ref (v 18), .ref (v 19), .ref (v 20), .ref (v 21), .int 0, .int 0, .ref (v 22), .ref (v 23), .ref (v 24), .ref (v 25), .int 0, .ref (v 26), .int 0])), ((v 7), .inl (cI, 8, .inl (tb [])))]) rfl (fun H locs hP hD hS => ?_)
  refine lv_aload_n hx hb dL_law_350 rfl (lv_at hl 1 rfl) ?_
  refine lv_aload_n hx hb dL_law_351 rfl (lv_at hl 3 rfl) ?_
  refine lv_iload_n hx hb dL_law_352 rfl (lv_at hl 0 rfl) ?_
  refine lv_iconst (v := 1) hx hb dL_law_353 (by decide) ?_
  refine v_iadd hx hb dL_law_354 1 (by decide +kernel) ?_
  refine va_sld hx hb hX0 hbl hbA hS (vin (by decide +kernel)) dL_law_355 ?_
  refine tvi (v := 0) e_y0 ?_
  refine lv_aload_n hx hb dL_law_356 rfl (lv_at hl 3 rfl) ?_
  refine lv_iload_n hx hb dL_law_357 rfl (lv_at hl 0 rfl) ?_
  refine lv_iconst (v := 2) hx hb dL_law_358 (by decide) ?_
  refine v_iadd hx hb dL_law_359 2 (by decide +kernel) ?_
  refine va_sld hx hb hX0 hbl hbA hS (vin (by decide +kernel)) dL_law_360 ?_
  refine tvi (v := y1) e_y1 ?_
  refine lv_aload_n hx hb dL_law_361 rfl (lv_at hl 3 rfl) ?_
  refine lv_iload_n hx hb dL_law_362 rfl (lv_at hl 0 rfl) ?_
  refine lv_iconst (v := 3) hx hb dL_law_363 (by decide) ?_
  refine v_iadd hx hb dL_law_364 3 (by decide +kernel) ?_
  refine va_sld hx hb hX0 hbl hbA hS (vin (by decide +kernel)) dL_law_365 ?_
  refine tvi (v := y2) e_y2 ?_
  refine kV_i (q0 := 0) ⟨hx, hb, hml, hown, hts⟩ hK hP hD hS hA hX cv_RL_40 [0, 1] [] (wr := []) rfl rfl rfl rfl (by decide) (c330_X9_price l dC dI cI cJ cII cJJ H.size 0 qm (v 7) (v 0) (v 1) (v 2) (v 3) (v 4) (v 5) (v 6) (v 8) (v 9) (v 10) (v 11) (v 12) (v 13) (v 14) (v 15) (v 16) (v 17) (v 18) (v 19) (v 20) (v 21) (v 22) (v 23) (v 24) (v 25) (v 26) y1 h_y1 y2 h_y2) ⟨by decide +kernel, by decide +kernel⟩ rfl rfl (Or.inl rfl) (rest := [.int (-4)]) rfl rfl rfl hl.1 rfl (Nat.le_of_ble_eq_true rfl) dL_law_366 ⟨Nat.le_of_ble_eq_true rfl, Nat.le_of_ble_eq_true rfl⟩ (W' := []) rfl (fun H locs hP hD hS => ?_)
  refine t_icmp_eq hx hb dL_law_369 1073 (by decide) rfl ?_
  exact law_end l C0 rfl hS hl
set_option maxRecDepth 100000 in
set_option maxHeartbeats 4000000 in
theorem lr_18 {p : Program} {e : Env} {s : State} {m : MethodId} {below : List Frame} {meth : Method} {c : Code} (l : Launch) {b L : Nat} {xs : Nat → Int32} (C0 : lw_At p s m meth c b L xs) (hL : L = 5) {dC : Nat → ClassId} {dI : Nat → Nat → Nat} {cI cJ cII cJJ : ClassId} {g qx qm : Nat} {u v : Nat → Nat} {H : Heap} {locs : List Loc} {ls : Array Slot} (e_y0 : xs 1 = 0) (y1 : Int32) (h_y1 : -99 ≤ y1.toInt ∧ y1.toInt ≤ 2147483647) (e_y1 : xs 2 = y1) (y2 : Int32) (h_y2 : -2147483648 ≤ y2.toInt ∧ y2.toInt ≤ -1) (e_y2 : xs 3 = y2) (hK : va_K (dC, dI) vwCl (TY cI cJ cII cJJ) s) (hX : GXA 1 g (AA s) s) (hP : va_P (dC, dI) vwCl (WLD cI cJ cII cJJ qx qm u v) H) (hD : va_D (AA s) (WLD cI cJ cII cJJ qx qm u v)) (hS : va_S (AA s) s.heap H locs) (hl : lv_has ls 4 [(3, .int 0), (2, .ref qm), (1, .ref qx), (0, .ref b)]) : W p l e room_1 s m #[Value.ref b] below meth c H locs 600000 7302250 (lw_Z below #[Value.ref b] s) (F0 m 331 ls []) := by
  obtain ⟨hx, hb, hr, hml, hown, hts0, hX0, hbl, hlocks, hgv⟩ := id C0
  have hts : ∀ w ∈ TT, w.before #[Value.ref b] s = true := fun w h => hts0 w (TT_tbl h)
  have hA : ∀ q : Nat, s.heap.size ≤ q → AA s q := fun _ h => h
  have hbA : ¬ AA s b := Nat.not_le.mpr hbl
  have hown : s.vm.findClass RL = some m.cls := hown
  subst hL
  refine lv_aload_n hx hb dL_law_331 rfl (lv_at hl 2 rfl) ?_
  refine lv_aload_n hx hb dL_law_332 rfl (lv_at hl 3 rfl) ?_
  refine lv_iload_n hx hb dL_law_333 rfl (lv_at hl 0 rfl) ?_
  refine lv_iconst (v := 1) hx hb dL_law_334 (by decide) ?_
  refine v_iadd hx hb dL_law_335 1 (by decide +kernel) ?_
  refine va_sld hx hb hX0 hbl hbA hS (vin (by decide +kernel)) dL_law_336 ?_
  refine tvi (v := 0) e_y0 ?_
  refine lv_aload_n hx hb dL_law_337 rfl (lv_at hl 3 rfl) ?_
  refine lv_iload_n hx hb dL_law_338 rfl (lv_at hl 0 rfl) ?_
  refine lv_iconst (v := 2) hx hb dL_law_339 (by decide) ?_
  refine v_iadd hx hb dL_law_340 2 (by decide +kernel) ?_
  refine va_sld hx hb hX0 hbl hbA hS (vin (by decide +kernel)) dL_law_341 ?_
  refine tvi (v := y1) e_y1 ?_
  refine lv_aload_n hx hb dL_law_342 rfl (lv_at hl 3 rfl) ?_
  refine lv_iload_n hx hb dL_law_343 rfl (lv_at hl 0 rfl) ?_
  refine lv_iconst (v := 3) hx hb dL_law_344 (by decide) ?_
  refine v_iadd hx hb dL_law_345 3 (by decide +kernel) ?_
  refine va_sld hx hb hX0 hbl hbA hS (vin (by decide +kernel)) dL_law_346 ?_
  refine tvi (v := y2) e_y2 ?_
  refine kV_i (q0 := 0) ⟨hx, hb, hml, hown, hts⟩ hK hP hD hS hA hX cv_RL_37 [0, 6, 63] [86, 66] (wr := [(qm, .inr (9, [.ref (v 0), .ref (v 1), .ref (v 2), .ref (v 3), .ref (v 4), .ref (v 5), .ref (v 6), .ref (v 7), .ref (v 8), .ref (v 9), .ref (v 10), .ref (v 11), .int 1, .int 0, .int 0, .ref (v 12), .ref (v 13), .ref (v 14), .ref (v 15), .ref (v 16), .ref (v 17), .int 0, .int 0, .ref (v 18), .ref (v 19), .ref (v 20), .ref (v 21), .int 0, .int 0, .ref (v 22), .ref (v 23), .ref (v 24), .ref (v 25), .int 0, .ref (v 26), .int 0])), ((v 7), .inl (cI, 8, .inl (tb [])))]) rfl rfl rfl rfl (by decide) (c045_X8_price l dC dI cI cJ cII cJJ H.size 0 qx (u 0) (u 62) (u 10) (u 28) (u 51) (u 59) (u 60) (u 61) (u 1) (u 5) (u 6) (u 7) (u 8) (u 9) y1 h_y1 y2 h_y2) ⟨by decide +kernel, by decide +kernel⟩ rfl rfl (Or.inl rfl) (rest := []) rfl rfl rfl hl.1 rfl (Nat.le_of_ble_eq_true rfl) dL_law_347 ⟨Nat.le_of_ble_eq_true rfl, Nat.le_of_ble_eq_true rfl⟩ (W' := [(qm, .inr (9, [.ref (v 0), .ref (v 1), .ref (v 2), .ref (v 3), .ref (v 4), .ref (v 5), .ref (v 6), .ref (v 7), .ref (v 8), .ref (v 9), .ref (v 10), .ref (v 11), .int 1, .int 0, .int 0, .ref (v 12), .ref (v 13), .ref (v 14), .ref (v 15), .ref (v 16), .ref (v 17), .int 0, .int 0, .ref (v 18), .ref (v 19), .ref (v 20), .ref (v 21), .int 0, .int 0, .ref (v 22), .ref (v 23), .ref (v 24), .ref (v 25), .int 0, .ref (v 26), .int 0])), ((v 7), .inl (cI, 8, .inl (tb [])))]) rfl (fun H locs hP hD hS => ?_)
  refine lv_aload_n hx hb dL_law_350 rfl (lv_at hl 1 rfl) ?_
  refine lv_aload_n hx hb dL_law_351 rfl (lv_at hl 3 rfl) ?_
  refine lv_iload_n hx hb dL_law_352 rfl (lv_at hl 0 rfl) ?_
  refine lv_iconst (v := 1) hx hb dL_law_353 (by decide) ?_
  refine v_iadd hx hb dL_law_354 1 (by decide +kernel) ?_
  refine va_sld hx hb hX0 hbl hbA hS (vin (by decide +kernel)) dL_law_355 ?_
  refine tvi (v := 0) e_y0 ?_
  refine lv_aload_n hx hb dL_law_356 rfl (lv_at hl 3 rfl) ?_
  refine lv_iload_n hx hb dL_law_357 rfl (lv_at hl 0 rfl) ?_
  refine lv_iconst (v := 2) hx hb dL_law_358 (by decide) ?_
  refine v_iadd hx hb dL_law_359 2 (by decide +kernel) ?_
  refine va_sld hx hb hX0 hbl hbA hS (vin (by decide +kernel)) dL_law_360 ?_
  refine tvi (v := y1) e_y1 ?_
  refine lv_aload_n hx hb dL_law_361 rfl (lv_at hl 3 rfl) ?_
  refine lv_iload_n hx hb dL_law_362 rfl (lv_at hl 0 rfl) ?_
  refine lv_iconst (v := 3) hx hb dL_law_363 (by decide) ?_
  refine v_iadd hx hb dL_law_364 3 (by decide +kernel) ?_
  refine va_sld hx hb hX0 hbl hbA hS (vin (by decide +kernel)) dL_law_365 ?_
  refine tvi (v := y2) e_y2 ?_
  refine kV_i (q0 := 0) ⟨hx, hb, hml, hown, hts⟩ hK hP hD hS hA hX cv_RL_40 [0, 1] [] (wr := []) rfl rfl rfl rfl (by decide) (c331_X9_price l dC dI cI cJ cII cJJ H.size 0 qm (v 7) (v 0) (v 1) (v 2) (v 3) (v 4) (v 5) (v 6) (v 8) (v 9) (v 10) (v 11) (v 12) (v 13) (v 14) (v 15) (v 16) (v 17) (v 18) (v 19) (v 20) (v 21) (v 22) (v 23) (v 24) (v 25) (v 26) y1 h_y1 y2 h_y2) ⟨by decide +kernel, by decide +kernel⟩ rfl rfl (Or.inl rfl) (rest := [.int (-4)]) rfl rfl rfl hl.1 rfl (Nat.le_of_ble_eq_true rfl) dL_law_366 ⟨Nat.le_of_ble_eq_true rfl, Nat.le_of_ble_eq_true rfl⟩ (W' := []) rfl (fun H locs hP hD hS => ?_)
  refine t_icmp_eq hx hb dL_law_369 1073 (by decide) rfl ?_
  exact law_end l C0 rfl hS hl
set_option maxRecDepth 100000 in
set_option maxHeartbeats 4000000 in
theorem lr_19 {p : Program} {e : Env} {s : State} {m : MethodId} {below : List Frame} {meth : Method} {c : Code} (l : Launch) {b L : Nat} {xs : Nat → Int32} (C0 : lw_At p s m meth c b L xs) (hL : L = 5) {dC : Nat → ClassId} {dI : Nat → Nat → Nat} {cI cJ cII cJJ : ClassId} {g qx qm : Nat} {u v : Nat → Nat} {H : Heap} {locs : List Loc} {ls : Array Slot} (e_y0 : xs 1 = 0) (y1 : Int32) (h_y1 : 100 ≤ y1.toInt ∧ y1.toInt ≤ 2147483647) (e_y1 : xs 2 = y1) (y2 : Int32) (h_y2 : 0 ≤ y2.toInt ∧ y2.toInt ≤ 2147483647) (e_y2 : xs 3 = y2) (hK : va_K (dC, dI) vwCl (TY cI cJ cII cJJ) s) (hX : GXA 1 g (AA s) s) (hP : va_P (dC, dI) vwCl (WLD cI cJ cII cJJ qx qm u v) H) (hD : va_D (AA s) (WLD cI cJ cII cJJ qx qm u v)) (hS : va_S (AA s) s.heap H locs) (hl : lv_has ls 4 [(3, .int 0), (2, .ref qm), (1, .ref qx), (0, .ref b)]) : W p l e room_1 s m #[Value.ref b] below meth c H locs 600000 7302250 (lw_Z below #[Value.ref b] s) (F0 m 331 ls []) := by
  obtain ⟨hx, hb, hr, hml, hown, hts0, hX0, hbl, hlocks, hgv⟩ := id C0
  have hts : ∀ w ∈ TT, w.before #[Value.ref b] s = true := fun w h => hts0 w (TT_tbl h)
  have hA : ∀ q : Nat, s.heap.size ≤ q → AA s q := fun _ h => h
  have hbA : ¬ AA s b := Nat.not_le.mpr hbl
  have hown : s.vm.findClass RL = some m.cls := hown
  subst hL
  refine lv_aload_n hx hb dL_law_331 rfl (lv_at hl 2 rfl) ?_
  refine lv_aload_n hx hb dL_law_332 rfl (lv_at hl 3 rfl) ?_
  refine lv_iload_n hx hb dL_law_333 rfl (lv_at hl 0 rfl) ?_
  refine lv_iconst (v := 1) hx hb dL_law_334 (by decide) ?_
  refine v_iadd hx hb dL_law_335 1 (by decide +kernel) ?_
  refine va_sld hx hb hX0 hbl hbA hS (vin (by decide +kernel)) dL_law_336 ?_
  refine tvi (v := 0) e_y0 ?_
  refine lv_aload_n hx hb dL_law_337 rfl (lv_at hl 3 rfl) ?_
  refine lv_iload_n hx hb dL_law_338 rfl (lv_at hl 0 rfl) ?_
  refine lv_iconst (v := 2) hx hb dL_law_339 (by decide) ?_
  refine v_iadd hx hb dL_law_340 2 (by decide +kernel) ?_
  refine va_sld hx hb hX0 hbl hbA hS (vin (by decide +kernel)) dL_law_341 ?_
  refine tvi (v := y1) e_y1 ?_
  refine lv_aload_n hx hb dL_law_342 rfl (lv_at hl 3 rfl) ?_
  refine lv_iload_n hx hb dL_law_343 rfl (lv_at hl 0 rfl) ?_
  refine lv_iconst (v := 3) hx hb dL_law_344 (by decide) ?_
  refine v_iadd hx hb dL_law_345 3 (by decide +kernel) ?_
  refine va_sld hx hb hX0 hbl hbA hS (vin (by decide +kernel)) dL_law_346 ?_
  refine tvi (v := y2) e_y2 ?_
  refine kV_i (q0 := 0) ⟨hx, hb, hml, hown, hts⟩ hK hP hD hS hA hX cv_RL_37 [0, 6, 63] [86, 66] (wr := [(qm, .inr (9, [.ref (v 0), .ref (v 1), .ref (v 2), .ref (v 3), .ref (v 4), .ref (v 5), .ref (v 6), .ref (v 7), .ref (v 8), .ref (v 9), .ref (v 10), .ref (v 11), .int 1, .int 0, .int 0, .ref (v 12), .ref (v 13), .ref (v 14), .ref (v 15), .ref (v 16), .ref (v 17), .int 0, .int 0, .ref (v 18), .ref (v 19), .ref (v 20), .ref (v 21), .int 0, .int 0, .ref (v 22), .ref (v 23), .ref (v 24), .ref (v 25), .int 0, .ref (v 26), .int 0])), ((v 7), .inl (cI, 8, .inl (tb [])))]) rfl rfl rfl rfl (by decide) (c046_X8_price l dC dI cI cJ cII cJJ H.size 0 qx (u 0) (u 62) (u 10) (u 28) (u 51) (u 59) (u 60) (u 61) (u 1) (u 5) (u 6) (u 7) (u 8) (u 9) y1 h_y1 y2 h_y2) ⟨by decide +kernel, by decide +kernel⟩ rfl rfl (Or.inl rfl) (rest := []) rfl rfl rfl hl.1 rfl (Nat.le_of_ble_eq_true rfl) dL_law_347 ⟨Nat.le_of_ble_eq_true rfl, Nat.le_of_ble_eq_true rfl⟩ (W' := [(qm, .inr (9, [.ref (v 0), .ref (v 1), .ref (v 2), .ref (v 3), .ref (v 4), .ref (v 5), .ref (v 6), .ref (v 7), .ref (v 8), .ref (v 9), .ref (v 10), .ref (v 11), .int 1, .int 0, .int 0, .ref (v 12), .ref (v 13), .ref (v 14), .ref (v 15), .ref (v 16), .ref (v 17), .int 0, .int 0, .ref (v 18), .ref (v 19), .ref (v 20), .ref (v 21), .int 0, .int 0, .ref (v 22), .ref (v 23), .ref (v 24), .ref (v 25), .int 0, .ref (v 26), .int 0])), ((v 7), .inl (cI, 8, .inl (tb [])))]) rfl (fun H locs hP hD hS => ?_)
  refine lv_aload_n hx hb dL_law_350 rfl (lv_at hl 1 rfl) ?_
  refine lv_aload_n hx hb dL_law_351 rfl (lv_at hl 3 rfl) ?_
  refine lv_iload_n hx hb dL_law_352 rfl (lv_at hl 0 rfl) ?_
  refine lv_iconst (v := 1) hx hb dL_law_353 (by decide) ?_
  refine v_iadd hx hb dL_law_354 1 (by decide +kernel) ?_
  refine va_sld hx hb hX0 hbl hbA hS (vin (by decide +kernel)) dL_law_355 ?_
  refine tvi (v := 0) e_y0 ?_
  refine lv_aload_n hx hb dL_law_356 rfl (lv_at hl 3 rfl) ?_
  refine lv_iload_n hx hb dL_law_357 rfl (lv_at hl 0 rfl) ?_
  refine lv_iconst (v := 2) hx hb dL_law_358 (by decide) ?_
  refine v_iadd hx hb dL_law_359 2 (by decide +kernel) ?_
  refine va_sld hx hb hX0 hbl hbA hS (vin (by decide +kernel)) dL_law_360 ?_
  refine tvi (v := y1) e_y1 ?_
  refine lv_aload_n hx hb dL_law_361 rfl (lv_at hl 3 rfl) ?_
  refine lv_iload_n hx hb dL_law_362 rfl (lv_at hl 0 rfl) ?_
  refine lv_iconst (v := 3) hx hb dL_law_363 (by decide) ?_
  refine v_iadd hx hb dL_law_364 3 (by decide +kernel) ?_
  refine va_sld hx hb hX0 hbl hbA hS (vin (by decide +kernel)) dL_law_365 ?_
  refine tvi (v := y2) e_y2 ?_
  refine kV_i (q0 := 0) ⟨hx, hb, hml, hown, hts⟩ hK hP hD hS hA hX cv_RL_40 [0, 1] [] (wr := []) rfl rfl rfl rfl (by decide) (c332_X9_price l dC dI cI cJ cII cJJ H.size 0 qm (v 7) (v 0) (v 1) (v 2) (v 3) (v 4) (v 5) (v 6) (v 8) (v 9) (v 10) (v 11) (v 12) (v 13) (v 14) (v 15) (v 16) (v 17) (v 18) (v 19) (v 20) (v 21) (v 22) (v 23) (v 24) (v 25) (v 26) y1 h_y1 y2 h_y2) ⟨by decide +kernel, by decide +kernel⟩ rfl rfl (Or.inl rfl) (rest := [.int (-6)]) rfl rfl rfl hl.1 rfl (Nat.le_of_ble_eq_true rfl) dL_law_366 ⟨Nat.le_of_ble_eq_true rfl, Nat.le_of_ble_eq_true rfl⟩ (W' := []) rfl (fun H locs hP hD hS => ?_)
  refine t_icmp_eq hx hb dL_law_369 1073 (by decide) rfl ?_
  exact law_end l C0 rfl hS hl
