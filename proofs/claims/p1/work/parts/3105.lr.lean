set_option maxRecDepth 100000 in
set_option maxHeartbeats 4000000 in
theorem lc_26 {p : Program} {e : Env} {s : State} {m : MethodId} {below : List Frame} {meth : Method} {c : Code} (l : Launch) {b L : Nat} {xs : Nat → Int32} (C0 : lw_At p s m meth c b L xs) (hL : L = 5) {dC : Nat → ClassId} {dI : Nat → Nat → Nat} {cI cJ cII cJJ : ClassId} {g qx qm : Nat} {u v : Nat → Nat} {H : Heap} {locs : List Loc} {ls : Array Slot} (hK : va_K (dC, dI) vwCl (TY cI cJ cII cJJ) s) (hX : GXA 1 g (AA s) s) (hP : va_P (dC, dI) vwCl (WLD cI cJ cII cJJ qx qm u v) H) (hD : va_D (AA s) (WLD cI cJ cII cJJ qx qm u v)) (hS : va_S (AA s) s.heap H locs) (hl : lv_has ls 4 [(3, .int 0), (2, .ref qm), (1, .ref qx), (0, .ref b)]) : W p l e room_1 s m #[Value.ref b] below meth c H locs 600000 7302250 (lw_Z below #[Value.ref b] s) (F0 m 935 ls []) := by
  have q1 := s_any (xs 1)
  have key : ((xs 1).toInt ≤ -1) ∨ (11 ≤ (xs 1).toInt) ∨ ((0 ≤ (xs 1).toInt ∧ (xs 1).toInt ≤ 10)) := by omega
  rcases key with h | h | h
  · exact lr_104 l C0 hL (xs 1) ⟨by omega, by omega⟩ rfl hK hX hP hD hS hl
  · exact lr_105 l C0 hL (xs 1) ⟨by omega, by omega⟩ rfl hK hX hP hD hS hl
  · exact lr_106 l C0 hL (xs 1) ⟨by omega, by omega⟩ rfl hK hX hP hD hS hl
set_option maxRecDepth 100000 in
set_option maxHeartbeats 4000000 in
theorem lr_107 {p : Program} {e : Env} {s : State} {m : MethodId} {below : List Frame} {meth : Method} {c : Code} (l : Launch) {b L : Nat} {xs : Nat → Int32} (C0 : lw_At p s m meth c b L xs) (hL : L = 5) {dC : Nat → ClassId} {dI : Nat → Nat → Nat} {cI cJ cII cJJ : ClassId} {g qx qm : Nat} {u v : Nat → Nat} {H : Heap} {locs : List Loc} {ls : Array Slot} (hK : va_K (dC, dI) vwCl (TY cI cJ cII cJJ) s) (hX : GXA 1 g (AA s) s) (hP : va_P (dC, dI) vwCl (WLD cI cJ cII cJJ qx qm u v) H) (hD : va_D (AA s) (WLD cI cJ cII cJJ qx qm u v)) (hS : va_S (AA s) s.heap H locs) (hl : lv_has ls 4 [(3, .int 0), (2, .ref qm), (1, .ref qx), (0, .ref b)]) : W p l e room_1 s m #[Value.ref b] below meth c H locs 600000 7302250 (lw_Z below #[Value.ref b] s) (F0 m 958 ls []) := by
  obtain ⟨hx, hb, hr, hml, hown, hts0, hX0, hbl, hlocks, hgv⟩ := id C0
  have hts : ∀ w ∈ TT, w.before #[Value.ref b] s = true := fun w h => hts0 w (TT_tbl h)
  have hA : ∀ q : Nat, s.heap.size ≤ q → AA s q := fun _ h => h
  have hbA : ¬ AA s b := Nat.not_le.mpr hbl
  have hown : s.vm.findClass RL = some m.cls := hown
  subst hL
  refine lv_aload_n hx hb dL_law_958 rfl (lv_at hl 2 rfl) ?_
  refine kV_i (q0 := 0) ⟨hx, hb, hml, hown, hts⟩ hK hP hD hS hA hX cv_RL_130 [0, 6, 60, 7, 8, 29, 32, 33, 30] [86, 87, 91, 88, 84, 85] (wr := [(qm, .inr (9, [.ref (v 0), .ref (v 1), .ref (v 2), .ref (v 3), .ref (v 4), .ref (v 5), .ref (v 6), .ref (v 7), .ref (v 8), .ref (v 9), .ref (v 10), .ref (v 11), .int 1, .int 0, .int 0, .ref (v 12), .ref (v 13), .ref (v 14), .ref (v 15), .ref (v 16), .ref (v 17), .int 0, .int 0, .ref (v 18), .ref (v 19), .ref (v 20), .ref (v 21), .int 0, .int 0, .ref (v 22), .ref (v 23), .ref (v 24), .ref (v 25), .int 0, .ref (v 26), .int 0])), ((v 2), .inl (cI, 4, .inl (tb [0, 0, 0, 0]))), ((v 6), .inl (cI, 4, .inl (tb [0, 0, 0, 0]))), ((v 3), .inl (cI, 4, .inl (tb [10, 10, 10, 10]))), ((v 25), .inl (cI, 4, .inl (tb []))), ((v 26), .inl (cI, 777924, .inl (tb [])))]) rfl rfl rfl rfl (by decide) (c232_X8_find l dC dI cI cJ cII cJJ H.size 0 qx (u 0) (u 59) (u 6) (u 7) (u 28) (u 31) (u 32) (u 29) (u 10) (u 51) (u 60) (u 61) (u 62) (u 1) (u 5) (u 8) (u 9) (u 30) (u 33) (u 39) (u 45)) ⟨by decide +kernel, by decide +kernel⟩ rfl rfl (Or.inl rfl) (rest := []) rfl rfl rfl hl.1 rfl (Nat.le_of_ble_eq_true rfl) dL_law_959 ⟨Nat.le_of_ble_eq_true rfl, Nat.le_of_ble_eq_true rfl⟩ (W' := [(qm, .inr (9, [.ref (v 0), .ref (v 1), .ref (v 2), .ref (v 3), .ref (v 4), .ref (v 5), .ref (v 6), .ref (v 7), .ref (v 8), .ref (v 9), .ref (v 10), .ref (v 11), .int 1, .int 0, .int 0, .ref (v 12), .ref (v 13), .ref (v 14), .ref (v 15), .ref (v 16), .ref (v 17), .int 0, .int 0, .ref (v 18), .ref (v 19), .ref (v 20), .ref (v 21), .int 0, .int 0, .ref (v 22), .ref (v 23), .ref (v 24), .ref (v 25), .int 0, .ref (v 26), .int 0])), ((v 2), .inl (cI, 4, .inl (tb [0, 0, 0, 0]))), ((v 6), .inl (cI, 4, .inl (tb [0, 0, 0, 0]))), ((v 3), .inl (cI, 4, .inl (tb [10, 10, 10, 10]))), ((v 25), .inl (cI, 4, .inl (tb []))), ((v 26), .inl (cI, 777924, .inl (tb [])))]) rfl (fun H locs hP hD hS => ?_)
  refine lv_aload_n hx hb dL_law_962 rfl (lv_at hl 1 rfl) ?_
  refine kV_i (q0 := 0) ⟨hx, hb, hml, hown, hts⟩ hK hP hD hS hA hX cv_RL_133 [0, 1, 2, 3, 4, 5] [] (wr := []) rfl rfl rfl rfl (by decide) (c555_X9_find l dC dI cI cJ cII cJJ H.size 0 qm (v 2) (v 6) (v 3) (v 25) (v 26) (v 0) (v 1) (v 4) (v 5) (v 7) (v 8) (v 9) (v 10) (v 11) (v 12) (v 13) (v 14) (v 15) (v 16) (v 17) (v 18) (v 19) (v 20) (v 21) (v 22) (v 23) (v 24)) ⟨by decide +kernel, by decide +kernel⟩ rfl rfl (Or.inl rfl) (rest := [.int 0]) rfl rfl rfl hl.1 rfl (Nat.le_of_ble_eq_true rfl) dL_law_963 ⟨Nat.le_of_ble_eq_true rfl, Nat.le_of_ble_eq_true rfl⟩ (W' := []) rfl (fun H locs hP hD hS => ?_)
  refine t_icmp_eq hx hb dL_law_966 1073 (by decide) rfl ?_
  exact law_end l C0 rfl hS hl
set_option maxRecDepth 100000 in
set_option maxHeartbeats 4000000 in
theorem lc_27 {p : Program} {e : Env} {s : State} {m : MethodId} {below : List Frame} {meth : Method} {c : Code} (l : Launch) {b L : Nat} {xs : Nat → Int32} (C0 : lw_At p s m meth c b L xs) (hL : L = 5) {dC : Nat → ClassId} {dI : Nat → Nat → Nat} {cI cJ cII cJJ : ClassId} {g qx qm : Nat} {u v : Nat → Nat} {H : Heap} {locs : List Loc} {ls : Array Slot} (hK : va_K (dC, dI) vwCl (TY cI cJ cII cJJ) s) (hX : GXA 1 g (AA s) s) (hP : va_P (dC, dI) vwCl (WLD cI cJ cII cJJ qx qm u v) H) (hD : va_D (AA s) (WLD cI cJ cII cJJ qx qm u v)) (hS : va_S (AA s) s.heap H locs) (hl : lv_has ls 4 [(3, .int 0), (2, .ref qm), (1, .ref qx), (0, .ref b)]) : W p l e room_1 s m #[Value.ref b] below meth c H locs 600000 7302250 (lw_Z below #[Value.ref b] s) (F0 m 958 ls []) := by
  exact lr_107 l C0 hL  hK hX hP hD hS hl
set_option maxRecDepth 100000 in
set_option maxHeartbeats 4000000 in
theorem lr_108 {p : Program} {e : Env} {s : State} {m : MethodId} {below : List Frame} {meth : Method} {c : Code} (l : Launch) {b L : Nat} {xs : Nat → Int32} (C0 : lw_At p s m meth c b L xs) (hL : L = 5) {dC : Nat → ClassId} {dI : Nat → Nat → Nat} {cI cJ cII cJJ : ClassId} {g qx qm : Nat} {u v : Nat → Nat} {H : Heap} {locs : List Loc} {ls : Array Slot} (y0 : Int32) (h_y0 : -2147483648 ≤ y0.toInt ∧ y0.toInt ≤ -1) (e_y0 : xs 1 = y0) (y1 : Int32) (h_y1 : -2147483648 ≤ y1.toInt ∧ y1.toInt ≤ 2147483647) (e_y1 : xs 2 = y1) (hK : va_K (dC, dI) vwCl (TY cI cJ cII cJJ) s) (hX : GXA 1 g (AA s) s) (hP : va_P (dC, dI) vwCl (WLD cI cJ cII cJJ qx qm u v) H) (hD : va_D (AA s) (WLD cI cJ cII cJJ qx qm u v)) (hS : va_S (AA s) s.heap H locs) (hl : lv_has ls 4 [(3, .int 0), (2, .ref qm), (1, .ref qx), (0, .ref b)]) : W p l e room_1 s m #[Value.ref b] below meth c H locs 600000 7302250 (lw_Z below #[Value.ref b] s) (F0 m 971 ls []) := by
  obtain ⟨hx, hb, hr, hml, hown, hts0, hX0, hbl, hlocks, hgv⟩ := id C0
  have hts : ∀ w ∈ TT, w.before #[Value.ref b] s = true := fun w h => hts0 w (TT_tbl h)
  have hA : ∀ q : Nat, s.heap.size ≤ q → AA s q := fun _ h => h
  have hbA : ¬ AA s b := Nat.not_le.mpr hbl
  have hown : s.vm.findClass RL = some m.cls := hown
  subst hL
  refine lv_aload_n hx hb dL_law_971 rfl (lv_at hl 2 rfl) ?_
  refine lv_aload_n hx hb dL_law_972 rfl (lv_at hl 3 rfl) ?_
  refine lv_iload_n hx hb dL_law_973 rfl (lv_at hl 0 rfl) ?_
  refine lv_iconst (v := 1) hx hb dL_law_974 (by decide) ?_
  refine v_iadd hx hb dL_law_975 1 (by decide +kernel) ?_
  refine va_sld hx hb hX0 hbl hbA hS (vin (by decide +kernel)) dL_law_976 ?_
  refine tvi (v := y0) e_y0 ?_
  refine lv_aload_n hx hb dL_law_977 rfl (lv_at hl 3 rfl) ?_
  refine lv_iload_n hx hb dL_law_978 rfl (lv_at hl 0 rfl) ?_
  refine lv_iconst (v := 2) hx hb dL_law_979 (by decide) ?_
  refine v_iadd hx hb dL_law_980 2 (by decide +kernel) ?_
  refine va_sld hx hb hX0 hbl hbA hS (vin (by decide +kernel)) dL_law_981 ?_
  refine tvi (v := y1) e_y1 ?_
  refine kV_i (q0 := 0) ⟨hx, hb, hml, hown, hts⟩ hK hP hD hS hA hX cv_RL_134 [0, 29, 6, 8, 7, 32, 33, 30] [86, 87, 88, 84, 85] (wr := [(qm, .inr (9, [.ref (v 0), .ref (v 1), .ref (v 2), .ref (v 3), .ref (v 4), .ref (v 5), .ref (v 6), .ref (v 7), .ref (v 8), .ref (v 9), .ref (v 10), .ref (v 11), .int 1, .int 0, .int 0, .ref (v 12), .ref (v 13), .ref (v 14), .ref (v 15), .ref (v 16), .ref (v 17), .int 0, .int 0, .ref (v 18), .ref (v 19), .ref (v 20), .ref (v 21), .int 0, .int 0, .ref (v 22), .ref (v 23), .ref (v 24), .ref (v 25), .int 0, .ref (v 26), .int 0])), ((v 2), .inl (cI, 4, .inl (tb [0, 0, 0, 0]))), ((v 3), .inl (cI, 4, .inl (tb [10, 10, 10, 10]))), ((v 25), .inl (cI, 4, .inl (tb []))), ((v 26), .inl (cI, 777924, .inl (tb [])))]) rfl rfl rfl rfl (by decide) (c235_X8_span l dC dI cI cJ cII cJJ H.size 0 qx (u 28) (u 0) (u 7) (u 6) (u 31) (u 32) (u 29) (u 10) (u 51) (u 59) (u 60) (u 61) (u 62) (u 30) (u 33) (u 39) (u 45) (u 1) (u 5) (u 8) (u 9) y0 h_y0 y1 h_y1) ⟨by decide +kernel, by decide +kernel⟩ rfl rfl (Or.inl rfl) (rest := []) rfl rfl rfl hl.1 rfl (Nat.le_of_ble_eq_true rfl) dL_law_982 ⟨Nat.le_of_ble_eq_true rfl, Nat.le_of_ble_eq_true rfl⟩ (W' := [(qm, .inr (9, [.ref (v 0), .ref (v 1), .ref (v 2), .ref (v 3), .ref (v 4), .ref (v 5), .ref (v 6), .ref (v 7), .ref (v 8), .ref (v 9), .ref (v 10), .ref (v 11), .int 1, .int 0, .int 0, .ref (v 12), .ref (v 13), .ref (v 14), .ref (v 15), .ref (v 16), .ref (v 17), .int 0, .int 0, .ref (v 18), .ref (v 19), .ref (v 20), .ref (v 21), .int 0, .int 0, .ref (v 22), .ref (v 23), .ref (v 24), .ref (v 25), .int 0, .ref (v 26), .int 0])), ((v 2), .inl (cI, 4, .inl (tb [0, 0, 0, 0]))), ((v 3), .inl (cI, 4, .inl (tb [10, 10, 10, 10]))), ((v 25), .inl (cI, 4, .inl (tb []))), ((v 26), .inl (cI, 777924, .inl (tb [])))]) rfl (fun H locs hP hD hS => ?_)
  refine lv_aload_n hx hb dL_law_985 rfl (lv_at hl 1 rfl) ?_
  refine lv_aload_n hx hb dL_law_986 rfl (lv_at hl 3 rfl) ?_
  refine lv_iload_n hx hb dL_law_987 rfl (lv_at hl 0 rfl) ?_
  refine lv_iconst (v := 1) hx hb dL_law_988 (by decide) ?_
  refine v_iadd hx hb dL_law_989 1 (by decide +kernel) ?_
  refine va_sld hx hb hX0 hbl hbA hS (vin (by decide +kernel)) dL_law_990 ?_
  refine tvi (v := y0) e_y0 ?_
  refine lv_aload_n hx hb dL_law_991 rfl (lv_at hl 3 rfl) ?_
  refine lv_iload_n hx hb dL_law_992 rfl (lv_at hl 0 rfl) ?_
  refine lv_iconst (v := 2) hx hb dL_law_993 (by decide) ?_
  refine v_iadd hx hb dL_law_994 2 (by decide +kernel) ?_
  refine va_sld hx hb hX0 hbl hbA hS (vin (by decide +kernel)) dL_law_995 ?_
  refine tvi (v := y1) e_y1 ?_
  refine kV_i (q0 := 0) ⟨hx, hb, hml, hown, hts⟩ hK hP hD hS hA hX cv_RL_137 [0, 1, 2, 3, 4] [] (wr := []) rfl rfl rfl rfl (by decide) (c556_X9_span l dC dI cI cJ cII cJJ H.size 0 qm (v 2) (v 3) (v 25) (v 26) (v 0) (v 1) (v 4) (v 5) (v 6) (v 7) (v 8) (v 9) (v 10) (v 11) (v 12) (v 13) (v 14) (v 15) (v 16) (v 17) (v 18) (v 19) (v 20) (v 21) (v 22) (v 23) (v 24) y0 h_y0 y1 h_y1) ⟨by decide +kernel, by decide +kernel⟩ rfl rfl (Or.inl rfl) (rest := [.int (-99999)]) rfl rfl rfl hl.1 rfl (Nat.le_of_ble_eq_true rfl) dL_law_996 ⟨Nat.le_of_ble_eq_true rfl, Nat.le_of_ble_eq_true rfl⟩ (W' := []) rfl (fun H locs hP hD hS => ?_)
  refine t_icmp_eq hx hb dL_law_999 1073 (by decide) rfl ?_
  exact law_end l C0 rfl hS hl
set_option maxRecDepth 100000 in
set_option maxHeartbeats 4000000 in
theorem lr_109 {p : Program} {e : Env} {s : State} {m : MethodId} {below : List Frame} {meth : Method} {c : Code} (l : Launch) {b L : Nat} {xs : Nat → Int32} (C0 : lw_At p s m meth c b L xs) (hL : L = 5) {dC : Nat → ClassId} {dI : Nat → Nat → Nat} {cI cJ cII cJJ : ClassId} {g qx qm : Nat} {u v : Nat → Nat} {H : Heap} {locs : List Loc} {ls : Array Slot} (y0 : Int32) (h_y0 : 1 ≤ y0.toInt ∧ y0.toInt ≤ 2147483647) (e_y0 : xs 1 = y0) (y1 : Int32) (h_y1 : -2147483648 ≤ y1.toInt ∧ y1.toInt ≤ 2147483647) (e_y1 : xs 2 = y1) (hK : va_K (dC, dI) vwCl (TY cI cJ cII cJJ) s) (hX : GXA 1 g (AA s) s) (hP : va_P (dC, dI) vwCl (WLD cI cJ cII cJJ qx qm u v) H) (hD : va_D (AA s) (WLD cI cJ cII cJJ qx qm u v)) (hS : va_S (AA s) s.heap H locs) (hl : lv_has ls 4 [(3, .int 0), (2, .ref qm), (1, .ref qx), (0, .ref b)]) : W p l e room_1 s m #[Value.ref b] below meth c H locs 600000 7302250 (lw_Z below #[Value.ref b] s) (F0 m 971 ls []) := by
  obtain ⟨hx, hb, hr, hml, hown, hts0, hX0, hbl, hlocks, hgv⟩ := id C0
  have hts : ∀ w ∈ TT, w.before #[Value.ref b] s = true := fun w h => hts0 w (TT_tbl h)
  have hA : ∀ q : Nat, s.heap.size ≤ q → AA s q := fun _ h => h
  have hbA : ¬ AA s b := Nat.not_le.mpr hbl
  have hown : s.vm.findClass RL = some m.cls := hown
  subst hL
  refine lv_aload_n hx hb dL_law_971 rfl (lv_at hl 2 rfl) ?_
  refine lv_aload_n hx hb dL_law_972 rfl (lv_at hl 3 rfl) ?_
  refine lv_iload_n hx hb dL_law_973 rfl (lv_at hl 0 rfl) ?_
  refine lv_iconst (v := 1) hx hb dL_law_974 (by decide) ?_
  refine v_iadd hx hb dL_law_975 1 (by decide +kernel) ?_
  refine va_sld hx hb hX0 hbl hbA hS (vin (by decide +kernel)) dL_law_976 ?_
  refine tvi (v := y0) e_y0 ?_
  refine lv_aload_n hx hb dL_law_977 rfl (lv_at hl 3 rfl) ?_
  refine lv_iload_n hx hb dL_law_978 rfl (lv_at hl 0 rfl) ?_
  refine lv_iconst (v := 2) hx hb dL_law_979 (by decide) ?_
  refine v_iadd hx hb dL_law_980 2 (by decide +kernel) ?_
  refine va_sld hx hb hX0 hbl hbA hS (vin (by decide +kernel)) dL_law_981 ?_
  refine tvi (v := y1) e_y1 ?_
  refine kV_i (q0 := 0) ⟨hx, hb, hml, hown, hts⟩ hK hP hD hS hA hX cv_RL_134 [0, 29, 6, 8, 7, 32, 33, 30] [86, 87, 88, 84, 85] (wr := [(qm, .inr (9, [.ref (v 0), .ref (v 1), .ref (v 2), .ref (v 3), .ref (v 4), .ref (v 5), .ref (v 6), .ref (v 7), .ref (v 8), .ref (v 9), .ref (v 10), .ref (v 11), .int 1, .int 0, .int 0, .ref (v 12), .ref (v 13), .ref (v 14), .ref (v 15), .ref (v 16), .ref (v 17), .int 0, .int 0, .ref (v 18), .ref (v 19), .ref (v 20), .ref (v 21), .int 0, .int 0, .ref (v 22), .ref (v 23), .ref (v 24), .ref (v 25), .int 0, .ref (v 26), .int 0])), ((v 2), .inl (cI, 4, .inl (tb [0, 0, 0, 0]))), ((v 3), .inl (cI, 4, .inl (tb [10, 10, 10, 10]))), ((v 25), .inl (cI, 4, .inl (tb []))), ((v 26), .inl (cI, 777924, .inl (tb [])))]) rfl rfl rfl rfl (by decide) (c236_X8_span l dC dI cI cJ cII cJJ H.size 0 qx (u 28) (u 0) (u 7) (u 6) (u 31) (u 32) (u 29) (u 10) (u 51) (u 59) (u 60) (u 61) (u 62) (u 30) (u 33) (u 39) (u 45) (u 1) (u 5) (u 8) (u 9) y0 h_y0 y1 h_y1) ⟨by decide +kernel, by decide +kernel⟩ rfl rfl (Or.inl rfl) (rest := []) rfl rfl rfl hl.1 rfl (Nat.le_of_ble_eq_true rfl) dL_law_982 ⟨Nat.le_of_ble_eq_true rfl, Nat.le_of_ble_eq_true rfl⟩ (W' := [(qm, .inr (9, [.ref (v 0), .ref (v 1), .ref (v 2), .ref (v 3), .ref (v 4), .ref (v 5), .ref (v 6), .ref (v 7), .ref (v 8), .ref (v 9), .ref (v 10), .ref (v 11), .int 1, .int 0, .int 0, .ref (v 12), .ref (v 13), .ref (v 14), .ref (v 15), .ref (v 16), .ref (v 17), .int 0, .int 0, .ref (v 18), .ref (v 19), .ref (v 20), .ref (v 21), .int 0, .int 0, .ref (v 22), .ref (v 23), .ref (v 24), .ref (v 25), .int 0, .ref (v 26), .int 0])), ((v 2), .inl (cI, 4, .inl (tb [0, 0, 0, 0]))), ((v 3), .inl (cI, 4, .inl (tb [10, 10, 10, 10]))), ((v 25), .inl (cI, 4, .inl (tb []))), ((v 26), .inl (cI, 777924, .inl (tb [])))]) rfl (fun H locs hP hD hS => ?_)
  refine lv_aload_n hx hb dL_law_985 rfl (lv_at hl 1 rfl) ?_
  refine lv_aload_n hx hb dL_law_986 rfl (lv_at hl 3 rfl) ?_
  refine lv_iload_n hx hb dL_law_987 rfl (lv_at hl 0 rfl) ?_
  refine lv_iconst (v := 1) hx hb dL_law_988 (by decide) ?_
  refine v_iadd hx hb dL_law_989 1 (by decide +kernel) ?_
  refine va_sld hx hb hX0 hbl hbA hS (vin (by decide +kernel)) dL_law_990 ?_
  refine tvi (v := y0) e_y0 ?_
  refine lv_aload_n hx hb dL_law_991 rfl (lv_at hl 3 rfl) ?_
  refine lv_iload_n hx hb dL_law_992 rfl (lv_at hl 0 rfl) ?_
  refine lv_iconst (v := 2) hx hb dL_law_993 (by decide) ?_
  refine v_iadd hx hb dL_law_994 2 (by decide +kernel) ?_
  refine va_sld hx hb hX0 hbl hbA hS (vin (by decide +kernel)) dL_law_995 ?_
  refine tvi (v := y1) e_y1 ?_
  refine kV_i (q0 := 0) ⟨hx, hb, hml, hown, hts⟩ hK hP hD hS hA hX cv_RL_137 [0, 1, 2, 3, 4] [] (wr := []) rfl rfl rfl rfl (by decide) (c557_X9_span l dC dI cI cJ cII cJJ H.size 0 qm (v 2) (v 3) (v 25) (v 26) (v 0) (v 1) (v 4) (v 5) (v 6) (v 7) (v 8) (v 9) (v 10) (v 11) (v 12) (v 13) (v 14) (v 15) (v 16) (v 17) (v 18) (v 19) (v 20) (v 21) (v 22) (v 23) (v 24) y0 h_y0 y1 h_y1) ⟨by decide +kernel, by decide +kernel⟩ rfl rfl (Or.inl rfl) (rest := [.int (-99999)]) rfl rfl rfl hl.1 rfl (Nat.le_of_ble_eq_true rfl) dL_law_996 ⟨Nat.le_of_ble_eq_true rfl, Nat.le_of_ble_eq_true rfl⟩ (W' := []) rfl (fun H locs hP hD hS => ?_)
  refine t_icmp_eq hx hb dL_law_999 1073 (by decide) rfl ?_
  exact law_end l C0 rfl hS hl
set_option maxRecDepth 100000 in
set_option maxHeartbeats 4000000 in
theorem lr_110 {p : Program} {e : Env} {s : State} {m : MethodId} {below : List Frame} {meth : Method} {c : Code} (l : Launch) {b L : Nat} {xs : Nat → Int32} (C0 : lw_At p s m meth c b L xs) (hL : L = 5) {dC : Nat → ClassId} {dI : Nat → Nat → Nat} {cI cJ cII cJJ : ClassId} {g qx qm : Nat} {u v : Nat → Nat} {H : Heap} {locs : List Loc} {ls : Array Slot} (e_y0 : xs 1 = 0) (y1 : Int32) (h_y1 : -2147483648 ≤ y1.toInt ∧ y1.toInt ≤ -1) (e_y1 : xs 2 = y1) (hK : va_K (dC, dI) vwCl (TY cI cJ cII cJJ) s) (hX : GXA 1 g (AA s) s) (hP : va_P (dC, dI) vwCl (WLD cI cJ cII cJJ qx qm u v) H) (hD : va_D (AA s) (WLD cI cJ cII cJJ qx qm u v)) (hS : va_S (AA s) s.heap H locs) (hl : lv_has ls 4 [(3, .int 0), (2, .ref qm), (1, .ref qx), (0, .ref b)]) : W p l e room_1 s m #[Value.ref b] below meth c H locs 600000 7302250 (lw_Z below #[Value.ref b] s) (F0 m 971 ls []) := by
  obtain ⟨hx, hb, hr, hml, hown, hts0, hX0, hbl, hlocks, hgv⟩ := id C0
  have hts : ∀ w ∈ TT, w.before #[Value.ref b] s = true := fun w h => hts0 w (TT_tbl h)
  have hA : ∀ q : Nat, s.heap.size ≤ q → AA s q := fun _ h => h
  have hbA : ¬ AA s b := Nat.not_le.mpr hbl
  have hown : s.vm.findClass RL = some m.cls := hown
  subst hL
  refine lv_aload_n hx hb dL_law_971 rfl (lv_at hl 2 rfl) ?_
  refine lv_aload_n hx hb dL_law_972 rfl (lv_at hl 3 rfl) ?_
  refine lv_iload_n hx hb dL_law_973 rfl (lv_at hl 0 rfl) ?_
  refine lv_iconst (v := 1) hx hb dL_law_974 (by decide) ?_
  refine v_iadd hx hb dL_law_975 1 (by decide +kernel) ?_
  refine va_sld hx hb hX0 hbl hbA hS (vin (by decide +kernel)) dL_law_976 ?_
  refine tvi (v := 0) e_y0 ?_
  refine lv_aload_n hx hb dL_law_977 rfl (lv_at hl 3 rfl) ?_
  refine lv_iload_n hx hb dL_law_978 rfl (lv_at hl 0 rfl) ?_
  refine lv_iconst (v := 2) hx hb dL_law_979 (by decide) ?_
  refine v_iadd hx hb dL_law_980 2 (by decide +kernel) ?_
  refine va_sld hx hb hX0 hbl hbA hS (vin (by decide +kernel)) dL_law_981 ?_
  refine tvi (v := y1) e_y1 ?_
  refine kV_i (q0 := 0) ⟨hx, hb, hml, hown, hts⟩ hK hP hD hS hA hX cv_RL_134 [0, 29, 6, 8, 7, 32, 33, 30] [86, 87, 88, 84, 85] (wr := [(qm, .inr (9, [.ref (v 0), .ref (v 1), .ref (v 2), .ref (v 3), .ref (v 4), .ref (v 5), .ref (v 6), .ref (v 7), .ref (v 8), .ref (v 9), .ref (v 10), .ref (v 11), .int 1, .int 0, .int 0, .ref (v 12), .ref (v 13), .ref (v 14), .ref (v 15), .ref (v 16), .ref (v 17), .int 0, .int 0, .ref (v 18), .ref (v 19), .ref (v 20), .ref (v 21), .int 0, .int 0, .ref (v 22), .ref (v 23), .ref (v 24), .ref (v 25), .int 0, .ref (v 26), .int 0])), ((v 2), .inl (cI, 4, .inl (tb [0, 0, 0, 0]))), ((v 3), .inl (cI, 4, .inl (tb [10, 10, 10, 10]))), ((v 25), .inl (cI, 4, .inl (tb []))), ((v 26), .inl (cI, 777924, .inl (tb [])))]) rfl rfl rfl rfl (by decide) (c237_X8_span l dC dI cI cJ cII cJJ H.size 0 qx (u 28) (u 0) (u 7) (u 6) (u 31) (u 32) (u 29) (u 10) (u 51) (u 59) (u 60) (u 61) (u 62) (u 30) (u 33) (u 39) (u 45) (u 1) (u 5) (u 8) (u 9) y1 h_y1) ⟨by decide +kernel, by decide +kernel⟩ rfl rfl (Or.inl rfl) (rest := []) rfl rfl rfl hl.1 rfl (Nat.le_of_ble_eq_true rfl) dL_law_982 ⟨Nat.le_of_ble_eq_true rfl, Nat.le_of_ble_eq_true rfl⟩ (W' := [(qm, .inr (9, [.ref (v 0), .ref (v 1), .ref (v 2), .ref (v 3), .ref (v 4), .ref (v 5), .ref (v 6), .ref (v 7), .ref (v 8), .ref (v 9), .ref (v 10), .ref (v 11), .int 1, .int 0, .int 0, .ref (v 12), .ref (v 13), .ref (v 14), .ref (v 15), .ref (v 16), .ref (v 17), .int 0, .int 0, .ref (v 18), .ref (v 19), .ref (v 20), .ref (v 21), .int 0, .int 0, .ref (v 22), .ref (v 23), .ref (v 24), .ref (v 25), .int 0, .ref (v 26), .int 0])), ((v 2), .inl (cI, 4, .inl (tb [0, 0, 0, 0]))), ((v 3), .inl (cI, 4, .inl (tb [10, 10, 10, 10]))), ((v 25), .inl (cI, 4, .inl (tb []))), ((v 26), .inl (cI, 777924, .inl (tb [])))]) rfl (fun H locs hP hD hS => ?_)
  refine lv_aload_n hx hb dL_law_985 rfl (lv_at hl 1 rfl) ?_
  refine lv_aload_n hx hb dL_law_986 rfl (lv_at hl 3 rfl) ?_
  refine lv_iload_n hx hb dL_law_987 rfl (lv_at hl 0 rfl) ?_
  refine lv_iconst (v := 1) hx hb dL_law_988 (by decide) ?_
  refine v_iadd hx hb dL_law_989 1 (by decide +kernel) ?_
  refine va_sld hx hb hX0 hbl hbA hS (vin (by decide +kernel)) dL_law_990 ?_
  refine tvi (v := 0) e_y0 ?_
  refine lv_aload_n hx hb dL_law_991 rfl (lv_at hl 3 rfl) ?_
  refine lv_iload_n hx hb dL_law_992 rfl (lv_at hl 0 rfl) ?_
  refine lv_iconst (v := 2) hx hb dL_law_993 (by decide) ?_
  refine v_iadd hx hb dL_law_994 2 (by decide +kernel) ?_
  refine va_sld hx hb hX0 hbl hbA hS (vin (by decide +kernel)) dL_law_995 ?_
  refine tvi (v := y1) e_y1 ?_
  refine kV_i (q0 := 0) ⟨hx, hb, hml, hown, hts⟩ hK hP hD hS hA hX cv_RL_137 [0, 1, 2, 3, 4] [] (wr := []) rfl rfl rfl rfl (by decide) (c558_X9_span l dC dI cI cJ cII cJJ H.size 0 qm (v 2) (v 3) (v 25) (v 26) (v 0) (v 1) (v 4) (v 5) (v 6) (v 7) (v 8) (v 9) (v 10) (v 11) (v 12) (v 13) (v 14) (v 15) (v 16) (v 17) (v 18) (v 19) (v 20) (v 21) (v 22) (v 23) (v 24) y1 h_y1) ⟨by decide +kernel, by decide +kernel⟩ rfl rfl (Or.inl rfl) (rest := [.int (-99999)]) rfl rfl rfl hl.1 rfl (Nat.le_of_ble_eq_true rfl) dL_law_996 ⟨Nat.le_of_ble_eq_true rfl, Nat.le_of_ble_eq_true rfl⟩ (W' := []) rfl (fun H locs hP hD hS => ?_)
  refine t_icmp_eq hx hb dL_law_999 1073 (by decide) rfl ?_
  exact law_end l C0 rfl hS hl
set_option maxRecDepth 100000 in
set_option maxHeartbeats 4000000 in
theorem lr_111 {p : Program} {e : Env} {s : State} {m : MethodId} {below : List Frame} {meth : Method} {c : Code} (l : Launch) {b L : Nat} {xs : Nat → Int32} (C0 : lw_At p s m meth c b L xs) (hL : L = 5) {dC : Nat → ClassId} {dI : Nat → Nat → Nat} {cI cJ cII cJJ : ClassId} {g qx qm : Nat} {u v : Nat → Nat} {H : Heap} {locs : List Loc} {ls : Array Slot} (e_y0 : xs 1 = 0) (y1 : Int32) (h_y1 : 2 ≤ y1.toInt ∧ y1.toInt ≤ 2147483647) (e_y1 : xs 2 = y1) (hK : va_K (dC, dI) vwCl (TY cI cJ cII cJJ) s) (hX : GXA 1 g (AA s) s) (hP : va_P (dC, dI) vwCl (WLD cI cJ cII cJJ qx qm u v) H) (hD : va_D (AA s) (WLD cI cJ cII cJJ qx qm u v)) (hS : va_S (AA s) s.heap H locs) (hl : lv_has ls 4 [(3, .int 0), (2, .ref qm), (1, .ref qx), (0, .ref b)]) : W p l e room_1 s m #[Value.ref b] below meth c H locs 600000 7302250 (lw_Z below #[Value.ref b] s) (F0 m 971 ls []) := by
  obtain ⟨hx, hb, hr, hml, hown, hts0, hX0, hbl, hlocks, hgv⟩ := id C0
  have hts : ∀ w ∈ TT, w.before #[Value.ref b] s = true := fun w h => hts0 w (TT_tbl h)
  have hA : ∀ q : Nat, s.heap.size ≤ q → AA s q := fun _ h => h
  have hbA : ¬ AA s b := Nat.not_le.mpr hbl
  have hown : s.vm.findClass RL = some m.cls := hown
  subst hL
  refine lv_aload_n hx hb dL_law_971 rfl (lv_at hl 2 rfl) ?_
  refine lv_aload_n hx hb dL_law_972 rfl (lv_at hl 3 rfl) ?_
  refine lv_iload_n hx hb dL_law_973 rfl (lv_at hl 0 rfl) ?_
  refine lv_iconst (v := 1) hx hb dL_law_974 (by decide) ?_
  refine v_iadd hx hb dL_law_975 1 (by decide +kernel) ?_
  refine va_sld hx hb hX0 hbl hbA hS (vin (by decide +kernel)) dL_law_976 ?_
  refine tvi (v := 0) e_y0 ?_
  refine lv_aload_n hx hb dL_law_977 rfl (lv_at hl 3 rfl) ?_
  refine lv_iload_n hx hb dL_law_978 rfl (lv_at hl 0 rfl) ?_
  refine lv_iconst (v := 2) hx hb dL_law_979 (by decide) ?_
  refine v_iadd hx hb dL_law_980 2 (by decide +kernel) ?_
  refine va_sld hx hb hX0 hbl hbA hS (vin (by decide +kernel)) dL_law_981 ?_
  refine tvi (v := y1) e_y1 ?_
  refine kV_i (q0 := 0) ⟨hx, hb, hml, hown, hts⟩ hK hP hD hS hA hX cv_RL_134 [0, 29, 6, 8, 7, 32, 33, 30] [86, 87, 88, 84, 85] (wr := [(qm, .inr (9, [.ref (v 0), .ref (v 1), .ref (v 2), .ref (v 3), .ref (v 4), .ref (v 5), .ref (v 6), .ref (v 7), .ref (v 8), .ref (v 9), .ref (v 10), .ref (v 11), .int 1, .int 0, .int 0, .ref (v 12), .ref (v 13), .ref (v 14), .ref (v 15), .ref (v 16), .ref (v 17), .int 0, .int 0, .ref (v 18), .ref (v 19), .ref (v 20), .ref (v 21), .int 0, .int 0, .ref (v 22), .ref (v 23), .ref (v 24), .ref (v 25), .int 0, .ref (v 26), .int 0])), ((v 2), .inl (cI, 4, .inl (tb [0, 0, 0, 0]))), ((v 3), .inl (cI, 4, .inl (tb [10, 10, 10, 10]))), ((v 25), .inl (cI, 4, .inl (tb []))), ((v 26), .inl (cI, 777924, .inl (tb [])))]) rfl rfl rfl rfl (by decide) (c238_X8_span l dC dI cI cJ cII cJJ H.size 0 qx (u 28) (u 0) (u 7) (u 6) (u 31) (u 32) (u 29) (u 10) (u 51) (u 59) (u 60) (u 61) (u 62) (u 30) (u 33) (u 39) (u 45) (u 1) (u 5) (u 8) (u 9) y1 h_y1) ⟨by decide +kernel, by decide +kernel⟩ rfl rfl (Or.inl rfl) (rest := []) rfl rfl rfl hl.1 rfl (Nat.le_of_ble_eq_true rfl) dL_law_982 ⟨Nat.le_of_ble_eq_true rfl, Nat.le_of_ble_eq_true rfl⟩ (W' := [(qm, .inr (9, [.ref (v 0), .ref (v 1), .ref (v 2), .ref (v 3), .ref (v 4), .ref (v 5), .ref (v 6), .ref (v 7), .ref (v 8), .ref (v 9), .ref (v 10), .ref (v 11), .int 1, .int 0, .int 0, .ref (v 12), .ref (v 13), .ref (v 14), .ref (v 15), .ref (v 16), .ref (v 17), .int 0, .int 0, .ref (v 18), .ref (v 19), .ref (v 20), .ref (v 21), .int 0, .int 0, .ref (v 22), .ref (v 23), .ref (v 24), .ref (v 25), .int 0, .ref (v 26), .int 0])), ((v 2), .inl (cI, 4, .inl (tb [0, 0, 0, 0]))), ((v 3), .inl (cI, 4, .inl (tb [10, 10, 10, 10]))), ((v 25), .inl (cI, 4, .inl (tb []))), ((v 26), .inl (cI, 777924, .inl (tb [])))]) rfl (fun H locs hP hD hS => ?_)
  refine lv_aload_n hx hb dL_law_985 rfl (lv_at hl 1 rfl) ?_
  refine lv_aload_n hx hb dL_law_986 rfl (lv_at hl 3 rfl) ?_
  refine lv_iload_n hx hb dL_law_987 rfl (lv_at hl 0 rfl) ?_
  refine lv_iconst (v := 1) hx hb dL_law_988 (by decide) ?_
  refine v_iadd hx hb dL_law_989 1 (by decide +kernel) ?_
  refine va_sld hx hb hX0 hbl hbA hS (vin (by decide +kernel)) dL_law_990 ?_
  refine tvi (v := 0) e_y0 ?_
  refine lv_aload_n hx hb dL_law_991 rfl (lv_at hl 3 rfl) ?_
  refine lv_iload_n hx hb dL_law_992 rfl (lv_at hl 0 rfl) ?_
  refine lv_iconst (v := 2) hx hb dL_law_993 (by decide) ?_
  refine v_iadd hx hb dL_law_994 2 (by decide +kernel) ?_
  refine va_sld hx hb hX0 hbl hbA hS (vin (by decide +kernel)) dL_law_995 ?_
  refine tvi (v := y1) e_y1 ?_
  refine kV_i (q0 := 0) ⟨hx, hb, hml, hown, hts⟩ hK hP hD hS hA hX cv_RL_137 [0, 1, 2, 3, 4] [] (wr := []) rfl rfl rfl rfl (by decide) (c559_X9_span l dC dI cI cJ cII cJJ H.size 0 qm (v 2) (v 3) (v 25) (v 26) (v 0) (v 1) (v 4) (v 5) (v 6) (v 7) (v 8) (v 9) (v 10) (v 11) (v 12) (v 13) (v 14) (v 15) (v 16) (v 17) (v 18) (v 19) (v 20) (v 21) (v 22) (v 23) (v 24) y1 h_y1) ⟨by decide +kernel, by decide +kernel⟩ rfl rfl (Or.inl rfl) (rest := [.int (-99999)]) rfl rfl rfl hl.1 rfl (Nat.le_of_ble_eq_true rfl) dL_law_996 ⟨Nat.le_of_ble_eq_true rfl, Nat.le_of_ble_eq_true rfl⟩ (W' := []) rfl (fun H locs hP hD hS => ?_)
  refine t_icmp_eq hx hb dL_law_999 1073 (by decide) rfl ?_
  exact law_end l C0 rfl hS hl
set_option maxRecDepth 100000 in
set_option maxHeartbeats 4000000 in
theorem lr_112 {p : Program} {e : Env} {s : State} {m : MethodId} {below : List Frame} {meth : Method} {c : Code} (l : Launch) {b L : Nat} {xs : Nat → Int32} (C0 : lw_At p s m meth c b L xs) (hL : L = 5) {dC : Nat → ClassId} {dI : Nat → Nat → Nat} {cI cJ cII cJJ : ClassId} {g qx qm : Nat} {u v : Nat → Nat} {H : Heap} {locs : List Loc} {ls : Array Slot} (e_y0 : xs 1 = 0) (e_y1 : xs 2 = 0) (hK : va_K (dC, dI) vwCl (TY cI cJ cII cJJ) s) (hX : GXA 1 g (AA s) s) (hP : va_P (dC, dI) vwCl (WLD cI cJ cII cJJ qx qm u v) H) (hD : va_D (AA s) (WLD cI cJ cII cJJ qx qm u v)) (hS : va_S (AA s) s.heap H locs) (hl : lv_has ls 4 [(3, .int 0), (2, .ref qm), (1, .ref qx), (0, .ref b)]) : W p l e room_1 s m #[Value.ref b] below meth c H locs 600000 7302250 (lw_Z below #[Value.ref b] s) (F0 m 971 ls []) := by
  obtain ⟨hx, hb, hr, hml, hown, hts0, hX0, hbl, hlocks, hgv⟩ := id C0
  have hts : ∀ w ∈ TT, w.before #[Value.ref b] s = true := fun w h => hts0 w (TT_tbl h)
  have hA : ∀ q : Nat, s.heap.size ≤ q → AA s q := fun _ h => h
  have hbA : ¬ AA s b := Nat.not_le.mpr hbl
  have hown : s.vm.findClass RL = some m.cls := hown
  subst hL
  refine lv_aload_n hx hb dL_law_971 rfl (lv_at hl 2 rfl) ?_
  refine lv_aload_n hx hb dL_law_972 rfl (lv_at hl 3 rfl) ?_
  refine lv_iload_n hx hb dL_law_973 rfl (lv_at hl 0 rfl) ?_
  refine lv_iconst (v := 1) hx hb dL_law_974 (by decide) ?_
  refine v_iadd hx hb dL_law_975 1 (by decide +kernel) ?_
  refine va_sld hx hb hX0 hbl hbA hS (vin (by decide +kernel)) dL_law_976 ?_
  refine tvi (v := 0) e_y0 ?_
  refine lv_aload_n hx hb dL_law_977 rfl (lv_at hl 3 rfl) ?_
  refine lv_iload_n hx hb dL_law_978 rfl (lv_at hl 0 rfl) ?_
  refine lv_iconst (v := 2) hx hb dL_law_979 (by decide) ?_
  refine v_iadd hx hb dL_law_980 2 (by decide +kernel) ?_
  refine va_sld hx hb hX0 hbl hbA hS (vin (by decide +kernel)) dL_law_981 ?_
  refine tvi (v := 0) e_y1 ?_
  refine kV_i (q0 := 0) ⟨hx, hb, hml, hown, hts⟩ hK hP hD hS hA hX cv_RL_134 [0, 29, 6, 8, 7, 32, 33, 30] [86, 87, 88, 84, 85] (wr := [(qm, .inr (9, [.ref (v 0), .ref (v 1), .ref (v 2), .ref (v 3), .ref (v 4), .ref (v 5), .ref (v 6), .ref (v 7), .ref (v 8), .ref (v 9), .ref (v 10), .ref (v 11), .int 1, .int 0, .int 0, .ref (v 12), .ref (v 13), .ref (v 14), .ref (v 15), .ref (v 16), .ref (v 17), .int 0, .int 0, .ref (v 18), .ref (v 19), .ref (v 20), .ref (v 21), .int 0, .int 0, .ref (v 22), .ref (v 23), .ref (v 24), .ref (v 25), .int 0, .ref (v 26), .int 0])), ((v 2), .inl (cI, 4, .inl (tb [0, 0, 0, 0]))), ((v 3), .inl (cI, 4, .inl (tb [10, 10, 10, 10]))), ((v 25), .inl (cI, 4, .inl (tb []))), ((v 26), .inl (cI, 777924, .inl (tb [])))]) rfl rfl rfl rfl (by decide) (c239_X8_span l dC dI cI cJ cII cJJ H.size 0 qx (u 28) (u 0) (u 7) (u 6) (u 31) (u 32) (u 29) (u 10) (u 51) (u 59) (u 60) (u 61) (u 62) (u 30) (u 33) (u 39) (u 45) (u 1) (u 5) (u 8) (u 9)) ⟨by decide +kernel, by decide +kernel⟩ rfl rfl (Or.inl rfl) (rest := []) rfl rfl rfl hl.1 rfl (Nat.le_of_ble_eq_true rfl) dL_law_982 ⟨Nat.le_of_ble_eq_true rfl, Nat.le_of_ble_eq_true rfl⟩ (W' := [(qm, .inr (9, [.ref (v 0), .ref (v 1), .ref (v 2), .ref (v 3), .ref (v 4), .ref (v 5), .ref (v 6), .ref (v 7), .ref (v 8), .ref (v 9), .ref (v 10), .ref (v 11), .int 1, .int 0, .int 0, .ref (v 12), .ref (v 13), .ref (v 14), .ref (v 15), .ref (v 16), .ref (v 17), .int 0, .int 0, .ref (v 18), .ref (v 19), .ref (v 20), .ref (v 21), .int 0, .int 0, .ref (v 22), .ref (v 23), .ref (v 24), .ref (v 25), .int 0, .ref (v 26), .int 0])), ((v 2), .inl (cI, 4, .inl (tb [0, 0, 0, 0]))), ((v 3), .inl (cI, 4, .inl (tb [10, 10, 10, 10]))), ((v 25), .inl (cI, 4, .inl (tb []))), ((v 26), .inl (cI, 777924, .inl (tb [])))]) rfl (fun H locs hP hD hS => ?_)
  refine lv_aload_n hx hb dL_law_985 rfl (lv_at hl 1 rfl) ?_
  refine lv_aload_n hx hb dL_law_986 rfl (lv_at hl 3 rfl) ?_
  refine lv_iload_n hx hb dL_law_987 rfl (lv_at hl 0 rfl) ?_
  refine lv_iconst (v := 1) hx hb dL_law_988 (by decide) ?_
  refine v_iadd hx hb dL_law_989 1 (by decide +kernel) ?_
  refine va_sld hx hb hX0 hbl hbA hS (vin (by decide +kernel)) dL_law_990 ?_
  refine tvi (v := 0) e_y0 ?_
  refine lv_aload_n hx hb dL_law_991 rfl (lv_at hl 3 rfl) ?_
  refine lv_iload_n hx hb dL_law_992 rfl (lv_at hl 0 rfl) ?_
  refine lv_iconst (v := 2) hx hb dL_law_993 (by decide) ?_
  refine v_iadd hx hb dL_law_994 2 (by decide +kernel) ?_
  refine va_sld hx hb hX0 hbl hbA hS (vin (by decide +kernel)) dL_law_995 ?_
  refine tvi (v := 0) e_y1 ?_
  refine kV_i (q0 := 0) ⟨hx, hb, hml, hown, hts⟩ hK hP hD hS hA hX cv_RL_137 [0, 1, 2, 3, 4] [] (wr := []) rfl rfl rfl rfl (by decide) (c560_X9_span l dC dI cI cJ cII cJJ H.size 0 qm (v 2) (v 3) (v 25) (v 26) (v 0) (v 1) (v 4) (v 5) (v 6) (v 7) (v 8) (v 9) (v 10) (v 11) (v 12) (v 13) (v 14) (v 15) (v 16) (v 17) (v 18) (v 19) (v 20) (v 21) (v 22) (v 23) (v 24)) ⟨by decide +kernel, by decide +kernel⟩ rfl rfl (Or.inl rfl) (rest := [.int 0]) rfl rfl rfl hl.1 rfl (Nat.le_of_ble_eq_true rfl) dL_law_996 ⟨Nat.le_of_ble_eq_true rfl, Nat.le_of_ble_eq_true rfl⟩ (W' := []) rfl (fun H locs hP hD hS => ?_)
  refine t_icmp_eq hx hb dL_law_999 1073 (by decide) rfl ?_
  exact law_end l C0 rfl hS hl
set_option maxRecDepth 100000 in
set_option maxHeartbeats 4000000 in
theorem lr_113 {p : Program} {e : Env} {s : State} {m : MethodId} {below : List Frame} {meth : Method} {c : Code} (l : Launch) {b L : Nat} {xs : Nat → Int32} (C0 : lw_At p s m meth c b L xs) (hL : L = 5) {dC : Nat → ClassId} {dI : Nat → Nat → Nat} {cI cJ cII cJJ : ClassId} {g qx qm : Nat} {u v : Nat → Nat} {H : Heap} {locs : List Loc} {ls : Array Slot} (e_y0 : xs 1 = 0) (e_y1 : xs 2 = 1) (hK : va_K (dC, dI) vwCl (TY cI cJ cII cJJ) s) (hX : GXA 1 g (AA s) s) (hP : va_P (dC, dI) vwCl (WLD cI cJ cII cJJ qx qm u v) H) (hD : va_D (AA s) (WLD cI cJ cII cJJ qx qm u v)) (hS : va_S (AA s) s.heap H locs) (hl : lv_has ls 4 [(3, .int 0), (2, .ref qm), (1, .ref qx), (0, .ref b)]) : W p l e room_1 s m #[Value.ref b] below meth c H locs 600000 7302250 (lw_Z below #[Value.ref b] s) (F0 m 971 ls []) := by
  obtain ⟨hx, hb, hr, hml, hown, hts0, hX0, hbl, hlocks, hgv⟩ := id C0
  have hts : ∀ w ∈ TT, w.before #[Value.ref b] s = true := fun w h => hts0 w (TT_tbl h)
  have hA : ∀ q : Nat, s.heap.size ≤ q → AA s q := fun _ h => h
  have hbA : ¬ AA s b := Nat.not_le.mpr hbl
  have hown : s.vm.findClass RL = some m.cls := hown
  subst hL
  refine lv_aload_n hx hb dL_law_971 rfl (lv_at hl 2 rfl) ?_
  refine lv_aload_n hx hb dL_law_972 rfl (lv_at hl 3 rfl) ?_
  refine lv_iload_n hx hb dL_law_973 rfl (lv_at hl 0 rfl) ?_
  refine lv_iconst (v := 1) hx hb dL_law_974 (by decide) ?_
  refine v_iadd hx hb dL_law_975 1 (by decide +kernel) ?_
  refine va_sld hx hb hX0 hbl hbA hS (vin (by decide +kernel)) dL_law_976 ?_
  refine tvi (v := 0) e_y0 ?_
  refine lv_aload_n hx hb dL_law_977 rfl (lv_at hl 3 rfl) ?_
  refine lv_iload_n hx hb dL_law_978 rfl (lv_at hl 0 rfl) ?_
  refine lv_iconst (v := 2) hx hb dL_law_979 (by decide) ?_
  refine v_iadd hx hb dL_law_980 2 (by decide +kernel) ?_
  refine va_sld hx hb hX0 hbl hbA hS (vin (by decide +kernel)) dL_law_981 ?_
  refine tvi (v := 1) e_y1 ?_
  refine kV_i (q0 := 0) ⟨hx, hb, hml, hown, hts⟩ hK hP hD hS hA hX cv_RL_134 [0, 29, 6, 8, 7, 32, 33, 30] [86, 87, 88, 84, 85] (wr := [(qm, .inr (9, [.ref (v 0), .ref (v 1), .ref (v 2), .ref (v 3), .ref (v 4), .ref (v 5), .ref (v 6), .ref (v 7), .ref (v 8), .ref (v 9), .ref (v 10), .ref (v 11), .int 1, .int 0, .int 0, .ref (v 12), .ref (v 13), .ref (v 14), .ref (v 15), .ref (v 16), .ref (v 17), .int 0, .int 0, .ref (v 18), .ref (v 19), .ref (v 20), .ref (v 21), .int 0, .int 0, .ref (v 22), .ref (v 23), .ref (v 24), .ref (v 25), .int 0, .ref (v 26), .int 0])), ((v 2), .inl (cI, 4, .inl (tb [0, 0, 0, 0]))), ((v 3), .inl (cI, 4, .inl (tb [10, 10, 10, 10]))), ((v 25), .inl (cI, 4, .inl (tb []))), ((v 26), .inl (cI, 777924, .inl (tb [])))]) rfl rfl rfl rfl (by decide) (c242_X8_span l dC dI cI cJ cII cJJ H.size 0 qx (u 28) (u 0) (u 7) (u 6) (u 31) (u 32) (u 29) (u 10) (u 51) (u 59) (u 60) (u 61) (u 62) (u 30) (u 33) (u 39) (u 45) (u 1) (u 5) (u 8) (u 9)) ⟨by decide +kernel, by decide +kernel⟩ rfl rfl (Or.inl rfl) (rest := []) rfl rfl rfl hl.1 rfl (Nat.le_of_ble_eq_true rfl) dL_law_982 ⟨Nat.le_of_ble_eq_true rfl, Nat.le_of_ble_eq_true rfl⟩ (W' := [(qm, .inr (9, [.ref (v 0), .ref (v 1), .ref (v 2), .ref (v 3), .ref (v 4), .ref (v 5), .ref (v 6), .ref (v 7), .ref (v 8), .ref (v 9), .ref (v 10), .ref (v 11), .int 1, .int 0, .int 0, .ref (v 12), .ref (v 13), .ref (v 14), .ref (v 15), .ref (v 16), .ref (v 17), .int 0, .int 0, .ref (v 18), .ref (v 19), .ref (v 20), .ref (v 21), .int 0, .int 0, .ref (v 22), .ref (v 23), .ref (v 24), .ref (v 25), .int 0, .ref (v 26), .int 0])), ((v 2), .inl (cI, 4, .inl (tb [0, 0, 0, 0]))), ((v 3), .inl (cI, 4, .inl (tb [10, 10, 10, 10]))), ((v 25), .inl (cI, 4, .inl (tb []))), ((v 26), .inl (cI, 777924, .inl (tb [])))]) rfl (fun H locs hP hD hS => ?_)
  refine lv_aload_n hx hb dL_law_985 rfl (lv_at hl 1 rfl) ?_
  refine lv_aload_n hx hb dL_law_986 rfl (lv_at hl 3 rfl) ?_
  refine lv_iload_n hx hb dL_law_987 rfl (lv_at hl 0 rfl) ?_
  refine lv_iconst (v := 1) hx hb dL_law_988 (by decide) ?_
  refine v_iadd hx hb dL_law_989 1 (by decide +kernel) ?_
  refine va_sld hx hb hX0 hbl hbA hS (vin (by decide +kernel)) dL_law_990 ?_
  refine tvi (v := 0) e_y0 ?_
  refine lv_aload_n hx hb dL_law_991 rfl (lv_at hl 3 rfl) ?_
  refine lv_iload_n hx hb dL_law_992 rfl (lv_at hl 0 rfl) ?_
  refine lv_iconst (v := 2) hx hb dL_law_993 (by decide) ?_
  refine v_iadd hx hb dL_law_994 2 (by decide +kernel) ?_
  refine va_sld hx hb hX0 hbl hbA hS (vin (by decide +kernel)) dL_law_995 ?_
  refine tvi (v := 1) e_y1 ?_
  refine kV_i (q0 := 0) ⟨hx, hb, hml, hown, hts⟩ hK hP hD hS hA hX cv_RL_137 [0, 1, 2, 3, 4] [] (wr := []) rfl rfl rfl rfl (by decide) (c561_X9_span l dC dI cI cJ cII cJJ H.size 0 qm (v 2) (v 3) (v 25) (v 26) (v 0) (v 1) (v 4) (v 5) (v 6) (v 7) (v 8) (v 9) (v 10) (v 11) (v 12) (v 13) (v 14) (v 15) (v 16) (v 17) (v 18) (v 19) (v 20) (v 21) (v 22) (v 23) (v 24)) ⟨by decide +kernel, by decide +kernel⟩ rfl rfl (Or.inl rfl) (rest := [.int 10]) rfl rfl rfl hl.1 rfl (Nat.le_of_ble_eq_true rfl) dL_law_996 ⟨Nat.le_of_ble_eq_true rfl, Nat.le_of_ble_eq_true rfl⟩ (W' := []) rfl (fun H locs hP hD hS => ?_)
  refine t_icmp_eq hx hb dL_law_999 1073 (by decide) rfl ?_
  exact law_end l C0 rfl hS hl
set_option maxRecDepth 100000 in
set_option maxHeartbeats 4000000 in
theorem lc_28 {p : Program} {e : Env} {s : State} {m : MethodId} {below : List Frame} {meth : Method} {c : Code} (l : Launch) {b L : Nat} {xs : Nat → Int32} (C0 : lw_At p s m meth c b L xs) (hL : L = 5) {dC : Nat → ClassId} {dI : Nat → Nat → Nat} {cI cJ cII cJJ : ClassId} {g qx qm : Nat} {u v : Nat → Nat} {H : Heap} {locs : List Loc} {ls : Array Slot} (hK : va_K (dC, dI) vwCl (TY cI cJ cII cJJ) s) (hX : GXA 1 g (AA s) s) (hP : va_P (dC, dI) vwCl (WLD cI cJ cII cJJ qx qm u v) H) (hD : va_D (AA s) (WLD cI cJ cII cJJ qx qm u v)) (hS : va_S (AA s) s.heap H locs) (hl : lv_has ls 4 [(3, .int 0), (2, .ref qm), (1, .ref qx), (0, .ref b)]) : W p l e room_1 s m #[Value.ref b] below meth c H locs 600000 7302250 (lw_Z below #[Value.ref b] s) (F0 m 971 ls []) := by
  have q1 := s_any (xs 1)
  have q2 := s_any (xs 2)
  have key : ((xs 1).toInt ≤ -1) ∨ (1 ≤ (xs 1).toInt) ∨ ((xs 1).toInt = 0 ∧ (xs 2).toInt ≤ -1) ∨ ((xs 1).toInt = 0 ∧ 2 ≤ (xs 2).toInt) ∨ ((xs 1).toInt = 0 ∧ (xs 2).toInt = 0) ∨ ((xs 1).toInt = 0 ∧ (xs 2).toInt = 1) := by omega
  rcases key with h | h | h | h | h | h
  · exact lr_108 l C0 hL (xs 1) ⟨by omega, by omega⟩ rfl (xs 2) ⟨by omega, by omega⟩ rfl hK hX hP hD hS hl
  · exact lr_109 l C0 hL (xs 1) ⟨by omega, by omega⟩ rfl (xs 2) ⟨by omega, by omega⟩ rfl hK hX hP hD hS hl
  · exact lr_110 l C0 hL (Int32.toInt_inj.mp (by rw [show (0 : Int32).toInt = 0 from by decide +kernel]; omega)) (xs 2) ⟨by omega, by omega⟩ rfl hK hX hP hD hS hl
  · exact lr_111 l C0 hL (Int32.toInt_inj.mp (by rw [show (0 : Int32).toInt = 0 from by decide +kernel]; omega)) (xs 2) ⟨by omega, by omega⟩ rfl hK hX hP hD hS hl
  · exact lr_112 l C0 hL (Int32.toInt_inj.mp (by rw [show (0 : Int32).toInt = 0 from by decide +kernel]; omega)) (Int32.toInt_inj.mp (by rw [show (0 : Int32).toInt = 0 from by decide +kernel]; omega)) hK hX hP hD hS hl
  · exact lr_113 l C0 hL (Int32.toInt_inj.mp (by rw [show (0 : Int32).toInt = 0 from by decide +kernel]; omega)) (Int32.toInt_inj.mp (by rw [show (1 : Int32).toInt = 1 from by decide +kernel]; omega)) hK hX hP hD hS hl
set_option maxRecDepth 100000 in
set_option maxHeartbeats 4000000 in
theorem lr_114 {p : Program} {e : Env} {s : State} {m : MethodId} {below : List Frame} {meth : Method} {c : Code} (l : Launch) {b L : Nat} {xs : Nat → Int32} (C0 : lw_At p s m meth c b L xs) (hL : L = 5) {dC : Nat → ClassId} {dI : Nat → Nat → Nat} {cI cJ cII cJJ : ClassId} {g qx qm : Nat} {u v : Nat → Nat} {H : Heap} {locs : List Loc} {ls : Array Slot} (y0 : Int32) (h_y0 : -2147483648 ≤ y0.toInt ∧ y0.toInt ≤ -1) (e_y0 : xs 1 = y0) (hK : va_K (dC, dI) vwCl (TY cI cJ cII cJJ) s) (hX : GXA 1 g (AA s) s) (hP : va_P (dC, dI) vwCl (WLD cI cJ cII cJJ qx qm u v) H) (hD : va_D (AA s) (WLD cI cJ cII cJJ qx qm u v)) (hS : va_S (AA s) s.heap H locs) (hl : lv_has ls 4 [(3, .int 0), (2, .ref qm), (1, .ref qx), (0, .ref b)]) : W p l e room_1 s m #[Value.ref b] below meth c H locs 600000 7302250 (lw_Z below #[Value.ref b] s) (F0 m 1004 ls []) := by
  obtain ⟨hx, hb, hr, hml, hown, hts0, hX0, hbl, hlocks, hgv⟩ := id C0
  have hts : ∀ w ∈ TT, w.before #[Value.ref b] s = true := fun w h => hts0 w (TT_tbl h)
  have hA : ∀ q : Nat, s.heap.size ≤ q → AA s q := fun _ h => h
  have hbA : ¬ AA s b := Nat.not_le.mpr hbl
  have hown : s.vm.findClass RL = some m.cls := hown
  subst hL
  refine lv_aload_n hx hb dL_law_1004 rfl (lv_at hl 2 rfl) ?_
  refine lv_aload_n hx hb dL_law_1005 rfl (lv_at hl 3 rfl) ?_
  refine lv_iload_n hx hb dL_law_1006 rfl (lv_at hl 0 rfl) ?_
  refine lv_iconst (v := 1) hx hb dL_law_1007 (by decide) ?_
  refine v_iadd hx hb dL_law_1008 1 (by decide +kernel) ?_
  refine va_sld hx hb hX0 hbl hbA hS (vin (by decide +kernel)) dL_law_1009 ?_
  refine tvi (v := y0) e_y0 ?_
  refine kV_i (q0 := 0) ⟨hx, hb, hml, hown, hts⟩ hK hP hD hS hA hX cv_RL_138 [0, 29, 6, 8, 7, 32, 33, 30] [86, 87, 88, 84, 85] (wr := [(qm, .inr (9, [.ref (v 0), .ref (v 1), .ref (v 2), .ref (v 3), .ref (v 4), .ref (v 5), .ref (v 6), .ref (v 7), .ref (v 8), .ref (v 9), .ref (v 10), .ref (v 11), .int 1, .int 0, .int 0, .ref (v 12), .ref (v 13), .ref (v 14), .ref (v 15), .ref (v 16), .ref (v 17), .int 0, .int 0, .ref (v 18), .ref (v 19), .ref (v 20), .ref (v 21), .int 0, .int 0, .ref (v 22), .ref (v 23), .ref (v 24), .ref (v 25), .int 0, .ref (v 26), .int 0])), ((v 2), .inl (cI, 4, .inl (tb [0, 0, 0, 0]))), ((v 3), .inl (cI, 4, .inl (tb [10, 10, 10, 10]))), ((v 25), .inl (cI, 4, .inl (tb []))), ((v 26), .inl (cI, 777924, .inl (tb [])))]) rfl rfl rfl rfl (by decide) (c244_X8_extreme l dC dI cI cJ cII cJJ H.size 0 qx (u 28) (u 0) (u 7) (u 6) (u 31) (u 32) (u 29) (u 10) (u 51) (u 59) (u 60) (u 61) (u 62) (u 30) (u 33) (u 39) (u 45) (u 1) (u 5) (u 8) (u 9) y0 h_y0) ⟨by decide +kernel, by decide +kernel⟩ rfl rfl (Or.inl rfl) (rest := []) rfl rfl rfl hl.1 rfl (Nat.le_of_ble_eq_true rfl) dL_law_1010 ⟨Nat.le_of_ble_eq_true rfl, Nat.le_of_ble_eq_true rfl⟩ (W' := [(qm, .inr (9, [.ref (v 0), .ref (v 1), .ref (v 2), .ref (v 3), .ref (v 4), .ref (v 5), .ref (v 6), .ref (v 7), .ref (v 8), .ref (v 9), .ref (v 10), .ref (v 11), .int 1, .int 0, .int 0, .ref (v 12), .ref (v 13), .ref (v 14), .ref (v 15), .ref (v 16), .ref (v 17), .int 0, .int 0, .ref (v 18), .ref (v 19), .ref (v 20), .ref (v 21), .int 0, .int 0, .ref (v 22), .ref (v 23), .ref (v 24), .ref (v 25), .int 0, .ref (v 26), .int 0])), ((v 2), .inl (cI, 4, .inl (tb [0, 0, 0, 0]))), ((v 3), .inl (cI, 4, .inl (tb [10, 10, 10, 10]))), ((v 25), .inl (cI, 4, .inl (tb []))), ((v 26), .inl (cI, 777924, .inl (tb [])))]) rfl (fun H locs hP hD hS => ?_)
  refine lv_aload_n hx hb dL_law_1013 rfl (lv_at hl 1 rfl) ?_
  refine lv_aload_n hx hb dL_law_1014 rfl (lv_at hl 3 rfl) ?_
  refine lv_iload_n hx hb dL_law_1015 rfl (lv_at hl 0 rfl) ?_
  refine lv_iconst (v := 1) hx hb dL_law_1016 (by decide) ?_
  refine v_iadd hx hb dL_law_1017 1 (by decide +kernel) ?_
  refine va_sld hx hb hX0 hbl hbA hS (vin (by decide +kernel)) dL_law_1018 ?_
  refine tvi (v := y0) e_y0 ?_
  refine kV_i (q0 := 0) ⟨hx, hb, hml, hown, hts⟩ hK hP hD hS hA hX cv_RL_141 [0, 1, 2, 3, 4] [] (wr := []) rfl rfl rfl rfl (by decide) (c562_X9_extreme l dC dI cI cJ cII cJJ H.size 0 qm (v 2) (v 3) (v 25) (v 26) (v 0) (v 1) (v 4) (v 5) (v 6) (v 7) (v 8) (v 9) (v 10) (v 11) (v 12) (v 13) (v 14) (v 15) (v 16) (v 17) (v 18) (v 19) (v 20) (v 21) (v 22) (v 23) (v 24) y0 h_y0) ⟨by decide +kernel, by decide +kernel⟩ rfl rfl (Or.inl rfl) (rest := [.int (-2)]) rfl rfl rfl hl.1 rfl (Nat.le_of_ble_eq_true rfl) dL_law_1019 ⟨Nat.le_of_ble_eq_true rfl, Nat.le_of_ble_eq_true rfl⟩ (W' := []) rfl (fun H locs hP hD hS => ?_)
  refine t_icmp_eq hx hb dL_law_1022 1073 (by decide) rfl ?_
  exact law_end l C0 rfl hS hl
set_option maxRecDepth 100000 in
set_option maxHeartbeats 4000000 in
theorem lr_115 {p : Program} {e : Env} {s : State} {m : MethodId} {below : List Frame} {meth : Method} {c : Code} (l : Launch) {b L : Nat} {xs : Nat → Int32} (C0 : lw_At p s m meth c b L xs) (hL : L = 5) {dC : Nat → ClassId} {dI : Nat → Nat → Nat} {cI cJ cII cJJ : ClassId} {g qx qm : Nat} {u v : Nat → Nat} {H : Heap} {locs : List Loc} {ls : Array Slot} (y0 : Int32) (h_y0 : 2 ≤ y0.toInt ∧ y0.toInt ≤ 2147483647) (e_y0 : xs 1 = y0) (hK : va_K (dC, dI) vwCl (TY cI cJ cII cJJ) s) (hX : GXA 1 g (AA s) s) (hP : va_P (dC, dI) vwCl (WLD cI cJ cII cJJ qx qm u v) H) (hD : va_D (AA s) (WLD cI cJ cII cJJ qx qm u v)) (hS : va_S (AA s) s.heap H locs) (hl : lv_has ls 4 [(3, .int 0), (2, .ref qm), (1, .ref qx), (0, .ref b)]) : W p l e room_1 s m #[Value.ref b] below meth c H locs 600000 7302250 (lw_Z below #[Value.ref b] s) (F0 m 1004 ls []) := by
  obtain ⟨hx, hb, hr, hml, hown, hts0, hX0, hbl, hlocks, hgv⟩ := id C0
  have hts : ∀ w ∈ TT, w.before #[Value.ref b] s = true := fun w h => hts0 w (TT_tbl h)
  have hA : ∀ q : Nat, s.heap.size ≤ q → AA s q := fun _ h => h
  have hbA : ¬ AA s b := Nat.not_le.mpr hbl
  have hown : s.vm.findClass RL = some m.cls := hown
  subst hL
  refine lv_aload_n hx hb dL_law_1004 rfl (lv_at hl 2 rfl) ?_
  refine lv_aload_n hx hb dL_law_1005 rfl (lv_at hl 3 rfl) ?_
  refine lv_iload_n hx hb dL_law_1006 rfl (lv_at hl 0 rfl) ?_
  refine lv_iconst (v := 1) hx hb dL_law_1007 (by decide) ?_
  refine v_iadd hx hb dL_law_1008 1 (by decide +kernel) ?_
  refine va_sld hx hb hX0 hbl hbA hS (vin (by decide +kernel)) dL_law_1009 ?_
  refine tvi (v := y0) e_y0 ?_
  refine kV_i (q0 := 0) ⟨hx, hb, hml, hown, hts⟩ hK hP hD hS hA hX cv_RL_138 [0, 29, 6, 8, 7, 32, 33, 30] [86, 87, 88, 84, 85] (wr := [(qm, .inr (9, [.ref (v 0), .ref (v 1), .ref (v 2), .ref (v 3), .ref (v 4), .ref (v 5), .ref (v 6), .ref (v 7), .ref (v 8), .ref (v 9), .ref (v 10), .ref (v 11), .int 1, .int 0, .int 0, .ref (v 12), .ref (v 13), .ref (v 14), .ref (v 15), .ref (v 16), .ref (v 17), .int 0, .int 0, .ref (v 18), .ref (v 19), .ref (v 20), .ref (v 21), .int 0, .int 0, .ref (v 22), .ref (v 23), .ref (v 24), .ref (v 25), .int 0, .ref (v 26), .int 0])), ((v 2), .inl (cI, 4, .inl (tb [0, 0, 0, 0]))), ((v 3), .inl (cI, 4, .inl (tb [10, 10, 10, 10]))), ((v 25), .inl (cI, 4, .inl (tb []))), ((v 26), .inl (cI, 777924, .inl (tb [])))]) rfl rfl rfl rfl (by decide) (c245_X8_extreme l dC dI cI cJ cII cJJ H.size 0 qx (u 28) (u 0) (u 7) (u 6) (u 31) (u 32) (u 29) (u 10) (u 51) (u 59) (u 60) (u 61) (u 62) (u 30) (u 33) (u 39) (u 45) (u 1) (u 5) (u 8) (u 9) y0 h_y0) ⟨by decide +kernel, by decide +kernel⟩ rfl rfl (Or.inl rfl) (rest := []) rfl rfl rfl hl.1 rfl (Nat.le_of_ble_eq_true rfl) dL_law_1010 ⟨Nat.le_of_ble_eq_true rfl, Nat.le_of_ble_eq_true rfl⟩ (W' := [(qm, .inr (9, [.ref (v 0), .ref (v 1), .ref (v 2), .ref (v 3), .ref (v 4), .ref (v 5), .ref (v 6), .ref (v 7), .ref (v 8), .ref (v 9), .ref (v 10), .ref (v 11), .int 1, .int 0, .int 0, .ref (v 12), .ref (v 13), .ref (v 14), .ref (v 15), .ref (v 16), .ref (v 17), .int 0, .int 0, .ref (v 18), .ref (v 19), .ref (v 20), .ref (v 21), .int 0, .int 0, .ref (v 22), .ref (v 23), .ref (v 24), .ref (v 25), .int 0, .ref (v 26), .int 0])), ((v 2), .inl (cI, 4, .inl (tb [0, 0, 0, 0]))), ((v 3), .inl (cI, 4, .inl (tb [10, 10, 10, 10]))), ((v 25), .inl (cI, 4, .inl (tb []))), ((v 26), .inl (cI, 777924, .inl (tb [])))]) rfl (fun H locs hP hD hS => ?_)
  refine lv_aload_n hx hb dL_law_1013 rfl (lv_at hl 1 rfl) ?_
  refine lv_aload_n hx hb dL_law_1014 rfl (lv_at hl 3 rfl) ?_
  refine lv_iload_n hx hb dL_law_1015 rfl (lv_at hl 0 rfl) ?_
  refine lv_iconst (v := 1) hx hb dL_law_1016 (by decide) ?_
  refine v_iadd hx hb dL_law_1017 1 (by decide +kernel) ?_
  refine va_sld hx hb hX0 hbl hbA hS (vin (by decide +kernel)) dL_law_1018 ?_
  refine tvi (v := y0) e_y0 ?_
  refine kV_i (q0 := 0) ⟨hx, hb, hml, hown, hts⟩ hK hP hD hS hA hX cv_RL_141 [0, 1, 2, 3, 4] [] (wr := []) rfl rfl rfl rfl (by decide) (c563_X9_extreme l dC dI cI cJ cII cJJ H.size 0 qm (v 2) (v 3) (v 25) (v 26) (v 0) (v 1) (v 4) (v 5) (v 6) (v 7) (v 8) (v 9) (v 10) (v 11) (v 12) (v 13) (v 14) (v 15) (v 16) (v 17) (v 18) (v 19) (v 20) (v 21) (v 22) (v 23) (v 24) y0 h_y0) ⟨by decide +kernel, by decide +kernel⟩ rfl rfl (Or.inl rfl) (rest := [.int (-2)]) rfl rfl rfl hl.1 rfl (Nat.le_of_ble_eq_true rfl) dL_law_1019 ⟨Nat.le_of_ble_eq_true rfl, Nat.le_of_ble_eq_true rfl⟩ (W' := []) rfl (fun H locs hP hD hS => ?_)
  refine t_icmp_eq hx hb dL_law_1022 1073 (by decide) rfl ?_
  exact law_end l C0 rfl hS hl
set_option maxRecDepth 100000 in
set_option maxHeartbeats 4000000 in
theorem lr_116 {p : Program} {e : Env} {s : State} {m : MethodId} {below : List Frame} {meth : Method} {c : Code} (l : Launch) {b L : Nat} {xs : Nat → Int32} (C0 : lw_At p s m meth c b L xs) (hL : L = 5) {dC : Nat → ClassId} {dI : Nat → Nat → Nat} {cI cJ cII cJJ : ClassId} {g qx qm : Nat} {u v : Nat → Nat} {H : Heap} {locs : List Loc} {ls : Array Slot} (e_y0 : xs 1 = 0) (hK : va_K (dC, dI) vwCl (TY cI cJ cII cJJ) s) (hX : GXA 1 g (AA s) s) (hP : va_P (dC, dI) vwCl (WLD cI cJ cII cJJ qx qm u v) H) (hD : va_D (AA s) (WLD cI cJ cII cJJ qx qm u v)) (hS : va_S (AA s) s.heap H locs) (hl : lv_has ls 4 [(3, .int 0), (2, .ref qm), (1, .ref qx), (0, .ref b)]) : W p l e room_1 s m #[Value.ref b] below meth c H locs 600000 7302250 (lw_Z below #[Value.ref b] s) (F0 m 1004 ls []) := by
  obtain ⟨hx, hb, hr, hml, hown, hts0, hX0, hbl, hlocks, hgv⟩ := id C0
  have hts : ∀ w ∈ TT, w.before #[Value.ref b] s = true := fun w h => hts0 w (TT_tbl h)
  have hA : ∀ q : Nat, s.heap.size ≤ q → AA s q := fun _ h => h
  have hbA : ¬ AA s b := Nat.not_le.mpr hbl
  have hown : s.vm.findClass RL = some m.cls := hown
  subst hL
  refine lv_aload_n hx hb dL_law_1004 rfl (lv_at hl 2 rfl) ?_
  refine lv_aload_n hx hb dL_law_1005 rfl (lv_at hl 3 rfl) ?_
  refine lv_iload_n hx hb dL_law_1006 rfl (lv_at hl 0 rfl) ?_
  refine lv_iconst (v := 1) hx hb dL_law_1007 (by decide) ?_
  refine v_iadd hx hb dL_law_1008 1 (by decide +kernel) ?_
  refine va_sld hx hb hX0 hbl hbA hS (vin (by decide +kernel)) dL_law_1009 ?_
  refine tvi (v := 0) e_y0 ?_
  refine kV_i (q0 := 0) ⟨hx, hb, hml, hown, hts⟩ hK hP hD hS hA hX cv_RL_138 [0, 29, 6, 8, 7, 32, 33, 30, 31, 10, 9] [86, 87, 88, 84, 85, 89, 90] (wr := [(qm, .inr (9, [.ref (v 0), .ref (v 1), .ref (v 2), .ref (v 3), .ref (v 4), .ref (v 5), .ref (v 6), .ref (v 7), .ref (v 8), .ref (v 9), .ref (v 10), .ref (v 11), .int 1, .int 0, .int 0, .ref (v 12), .ref (v 13), .ref (v 14), .ref (v 15), .ref (v 16), .ref (v 17), .int 0, .int 0, .ref (v 18), .ref (v 19), .ref (v 20), .ref (v 21), .int 0, .int 0, .ref (v 22), .ref (v 23), .ref (v 24), .ref (v 25), .int 0, .ref (v 26), .int 0])), ((v 2), .inl (cI, 4, .inl (tb [0, 0, 0, 0]))), ((v 3), .inl (cI, 4, .inl (tb [10, 10, 10, 10]))), ((v 25), .inl (cI, 4, .inl (tb []))), ((v 26), .inl (cI, 777924, .inl (tb []))), ((v 4), .inl (cI, 4, .inl (tb [0, 0, 0, 0]))), ((v 5), .inl (cI, 4, .inl (tb [0, 0, 0, 0])))]) rfl rfl rfl rfl (by decide) (c246_X8_extreme l dC dI cI cJ cII cJJ H.size 0 qx (u 28) (u 0) (u 7) (u 6) (u 31) (u 32) (u 29) (u 30) (u 9) (u 8) (u 10) (u 51) (u 59) (u 60) (u 61) (u 62) (u 33) (u 39) (u 45) (u 1) (u 5)) ⟨by decide +kernel, by decide +kernel⟩ rfl rfl (Or.inl rfl) (rest := []) rfl rfl rfl hl.1 rfl (Nat.le_of_ble_eq_true rfl) dL_law_1010 ⟨Nat.le_of_ble_eq_true rfl, Nat.le_of_ble_eq_true rfl⟩ (W' := [(qm, .inr (9, [.ref (v 0), .ref (v 1), .ref (v 2), .ref (v 3), .ref (v 4), .ref (v 5), .ref (v 6), .ref (v 7), .ref (v 8), .ref (v 9), .ref (v 10), .ref (v 11), .int 1, .int 0, .int 0, .ref (v 12), .ref (v 13), .ref (v 14), .ref (v 15), .ref (v 16), .ref (v 17), .int 0, .int 0, .ref (v 18), .ref (v 19), .ref (v 20), .ref (v 21), .int 0, .int 0, .ref (v 22), .ref (v 23), .ref (v 24), .ref (v 25), .int 0, .ref (v 26), .int 0])), ((v 2), .inl (cI, 4, .inl (tb [0, 0, 0, 0]))), ((v 3), .inl (cI, 4, .inl (tb [10, 10, 10, 10]))), ((v 25), .inl (cI, 4, .inl (tb []))), ((v 26), .inl (cI, 777924, .inl (tb []))), ((v 4), .inl (cI, 4, .inl (tb [0, 0, 0, 0]))), ((v 5), .inl (cI, 4, .inl (tb [0, 0, 0, 0])))]) rfl (fun H locs hP hD hS => ?_)
  refine lv_aload_n hx hb dL_law_1013 rfl (lv_at hl 1 rfl) ?_
  refine lv_aload_n hx hb dL_law_1014 rfl (lv_at hl 3 rfl) ?_
  refine lv_iload_n hx hb dL_law_1015 rfl (lv_at hl 0 rfl) ?_
  refine lv_iconst (v := 1) hx hb dL_law_1016 (by decide) ?_
  refine v_iadd hx hb dL_law_1017 1 (by decide +kernel) ?_
  refine va_sld hx hb hX0 hbl hbA hS (vin (by decide +kernel)) dL_law_1018 ?_
  refine tvi (v := 0) e_y0 ?_
  refine kV_i (q0 := 0) ⟨hx, hb, hml, hown, hts⟩ hK hP hD hS hA hX cv_RL_141 [0, 1, 2, 3, 4, 5, 6] [] (wr := []) rfl rfl rfl rfl (by decide) (c564_X9_extreme l dC dI cI cJ cII cJJ H.size 0 qm (v 2) (v 3) (v 25) (v 26) (v 4) (v 5) (v 0) (v 1) (v 6) (v 7) (v 8) (v 9) (v 10) (v 11) (v 12) (v 13) (v 14) (v 15) (v 16) (v 17) (v 18) (v 19) (v 20) (v 21) (v 22) (v 23) (v 24)) ⟨by decide +kernel, by decide +kernel⟩ rfl rfl (Or.inl rfl) (rest := [.int 0]) rfl rfl rfl hl.1 rfl (Nat.le_of_ble_eq_true rfl) dL_law_1019 ⟨Nat.le_of_ble_eq_true rfl, Nat.le_of_ble_eq_true rfl⟩ (W' := []) rfl (fun H locs hP hD hS => ?_)
  refine t_icmp_eq hx hb dL_law_1022 1073 (by decide) rfl ?_
  exact law_end l C0 rfl hS hl
set_option maxRecDepth 100000 in
set_option maxHeartbeats 4000000 in
theorem lr_117 {p : Program} {e : Env} {s : State} {m : MethodId} {below : List Frame} {meth : Method} {c : Code} (l : Launch) {b L : Nat} {xs : Nat → Int32} (C0 : lw_At p s m meth c b L xs) (hL : L = 5) {dC : Nat → ClassId} {dI : Nat → Nat → Nat} {cI cJ cII cJJ : ClassId} {g qx qm : Nat} {u v : Nat → Nat} {H : Heap} {locs : List Loc} {ls : Array Slot} (e_y0 : xs 1 = 1) (hK : va_K (dC, dI) vwCl (TY cI cJ cII cJJ) s) (hX : GXA 1 g (AA s) s) (hP : va_P (dC, dI) vwCl (WLD cI cJ cII cJJ qx qm u v) H) (hD : va_D (AA s) (WLD cI cJ cII cJJ qx qm u v)) (hS : va_S (AA s) s.heap H locs) (hl : lv_has ls 4 [(3, .int 0), (2, .ref qm), (1, .ref qx), (0, .ref b)]) : W p l e room_1 s m #[Value.ref b] below meth c H locs 600000 7302250 (lw_Z below #[Value.ref b] s) (F0 m 1004 ls []) := by
  obtain ⟨hx, hb, hr, hml, hown, hts0, hX0, hbl, hlocks, hgv⟩ := id C0
  have hts : ∀ w ∈ TT, w.before #[Value.ref b] s = true := fun w h => hts0 w (TT_tbl h)
  have hA : ∀ q : Nat, s.heap.size ≤ q → AA s q := fun _ h => h
  have hbA : ¬ AA s b := Nat.not_le.mpr hbl
  have hown : s.vm.findClass RL = some m.cls := hown
  subst hL
  refine lv_aload_n hx hb dL_law_1004 rfl (lv_at hl 2 rfl) ?_
  refine lv_aload_n hx hb dL_law_1005 rfl (lv_at hl 3 rfl) ?_
  refine lv_iload_n hx hb dL_law_1006 rfl (lv_at hl 0 rfl) ?_
  refine lv_iconst (v := 1) hx hb dL_law_1007 (by decide) ?_
  refine v_iadd hx hb dL_law_1008 1 (by decide +kernel) ?_
  refine va_sld hx hb hX0 hbl hbA hS (vin (by decide +kernel)) dL_law_1009 ?_
  refine tvi (v := 1) e_y0 ?_
  refine kV_i (q0 := 0) ⟨hx, hb, hml, hown, hts⟩ hK hP hD hS hA hX cv_RL_138 [0, 29, 6, 8, 7, 32, 33, 30, 31, 10, 9] [86, 87, 88, 84, 85, 89, 90] (wr := [(qm, .inr (9, [.ref (v 0), .ref (v 1), .ref (v 2), .ref (v 3), .ref (v 4), .ref (v 5), .ref (v 6), .ref (v 7), .ref (v 8), .ref (v 9), .ref (v 10), .ref (v 11), .int 1, .int 0, .int 0, .ref (v 12), .ref (v 13), .ref (v 14), .ref (v 15), .ref (v 16), .ref (v 17), .int 0, .int 0, .ref (v 18), .ref (v 19), .ref (v 20), .ref (v 21), .int 0, .int 0, .ref (v 22), .ref (v 23), .ref (v 24), .ref (v 25), .int 0, .ref (v 26), .int 0])), ((v 2), .inl (cI, 4, .inl (tb [0, 0, 0, 0]))), ((v 3), .inl (cI, 4, .inl (tb [10, 10, 10, 10]))), ((v 25), .inl (cI, 4, .inl (tb []))), ((v 26), .inl (cI, 777924, .inl (tb []))), ((v 4), .inl (cI, 4, .inl (tb [0, 0, 0, 0]))), ((v 5), .inl (cI, 4, .inl (tb [0, 0, 0, 0])))]) rfl rfl rfl rfl (by decide) (c261_X8_extreme l dC dI cI cJ cII cJJ H.size 0 qx (u 28) (u 0) (u 7) (u 6) (u 31) (u 32) (u 29) (u 30) (u 9) (u 8) (u 10) (u 51) (u 59) (u 60) (u 61) (u 62) (u 33) (u 39) (u 45) (u 1) (u 5)) ⟨by decide +kernel, by decide +kernel⟩ rfl rfl (Or.inl rfl) (rest := []) rfl rfl rfl hl.1 rfl (Nat.le_of_ble_eq_true rfl) dL_law_1010 ⟨Nat.le_of_ble_eq_true rfl, Nat.le_of_ble_eq_true rfl⟩ (W' := [(qm, .inr (9, [.ref (v 0), .ref (v 1), .ref (v 2), .ref (v 3), .ref (v 4), .ref (v 5), .ref (v 6), .ref (v 7), .ref (v 8), .ref (v 9), .ref (v 10), .ref (v 11), .int 1, .int 0, .int 0, .ref (v 12), .ref (v 13), .ref (v 14), .ref (v 15), .ref (v 16), .ref (v 17), .int 0, .int 0, .ref (v 18), .ref (v 19), .ref (v 20), .ref (v 21), .int 0, .int 0, .ref (v 22), .ref (v 23), .ref (v 24), .ref (v 25), .int 0, .ref (v 26), .int 0])), ((v 2), .inl (cI, 4, .inl (tb [0, 0, 0, 0]))), ((v 3), .inl (cI, 4, .inl (tb [10, 10, 10, 10]))), ((v 25), .inl (cI, 4, .inl (tb []))), ((v 26), .inl (cI, 777924, .inl (tb []))), ((v 4), .inl (cI, 4, .inl (tb [0, 0, 0, 0]))), ((v 5), .inl (cI, 4, .inl (tb [0, 0, 0, 0])))]) rfl (fun H locs hP hD hS => ?_)
  refine lv_aload_n hx hb dL_law_1013 rfl (lv_at hl 1 rfl) ?_
  refine lv_aload_n hx hb dL_law_1014 rfl (lv_at hl 3 rfl) ?_
  refine lv_iload_n hx hb dL_law_1015 rfl (lv_at hl 0 rfl) ?_
  refine lv_iconst (v := 1) hx hb dL_law_1016 (by decide) ?_
  refine v_iadd hx hb dL_law_1017 1 (by decide +kernel) ?_
  refine va_sld hx hb hX0 hbl hbA hS (vin (by decide +kernel)) dL_law_1018 ?_
  refine tvi (v := 1) e_y0 ?_
  refine kV_i (q0 := 0) ⟨hx, hb, hml, hown, hts⟩ hK hP hD hS hA hX cv_RL_141 [0, 1, 2, 3, 4, 5, 6] [] (wr := []) rfl rfl rfl rfl (by decide) (c576_X9_extreme l dC dI cI cJ cII cJJ H.size 0 qm (v 2) (v 3) (v 25) (v 26) (v 4) (v 5) (v 0) (v 1) (v 6) (v 7) (v 8) (v 9) (v 10) (v 11) (v 12) (v 13) (v 14) (v 15) (v 16) (v 17) (v 18) (v 19) (v 20) (v 21) (v 22) (v 23) (v 24)) ⟨by decide +kernel, by decide +kernel⟩ rfl rfl (Or.inl rfl) (rest := [.int 0]) rfl rfl rfl hl.1 rfl (Nat.le_of_ble_eq_true rfl) dL_law_1019 ⟨Nat.le_of_ble_eq_true rfl, Nat.le_of_ble_eq_true rfl⟩ (W' := []) rfl (fun H locs hP hD hS => ?_)
  refine t_icmp_eq hx hb dL_law_1022 1073 (by decide) rfl ?_
  exact law_end l C0 rfl hS hl
set_option maxRecDepth 100000 in
set_option maxHeartbeats 4000000 in
theorem lc_29 {p : Program} {e : Env} {s : State} {m : MethodId} {below : List Frame} {meth : Method} {c : Code} (l : Launch) {b L : Nat} {xs : Nat → Int32} (C0 : lw_At p s m meth c b L xs) (hL : L = 5) {dC : Nat → ClassId} {dI : Nat → Nat → Nat} {cI cJ cII cJJ : ClassId} {g qx qm : Nat} {u v : Nat → Nat} {H : Heap} {locs : List Loc} {ls : Array Slot} (hK : va_K (dC, dI) vwCl (TY cI cJ cII cJJ) s) (hX : GXA 1 g (AA s) s) (hP : va_P (dC, dI) vwCl (WLD cI cJ cII cJJ qx qm u v) H) (hD : va_D (AA s) (WLD cI cJ cII cJJ qx qm u v)) (hS : va_S (AA s) s.heap H locs) (hl : lv_has ls 4 [(3, .int 0), (2, .ref qm), (1, .ref qx), (0, .ref b)]) : W p l e room_1 s m #[Value.ref b] below meth c H locs 600000 7302250 (lw_Z below #[Value.ref b] s) (F0 m 1004 ls []) := by
  have q1 := s_any (xs 1)
  have key : ((xs 1).toInt ≤ -1) ∨ (2 ≤ (xs 1).toInt) ∨ ((xs 1).toInt = 0) ∨ ((xs 1).toInt = 1) := by omega
  rcases key with h | h | h | h
  · exact lr_114 l C0 hL (xs 1) ⟨by omega, by omega⟩ rfl hK hX hP hD hS hl
  · exact lr_115 l C0 hL (xs 1) ⟨by omega, by omega⟩ rfl hK hX hP hD hS hl
  · exact lr_116 l C0 hL (Int32.toInt_inj.mp (by rw [show (0 : Int32).toInt = 0 from by decide +kernel]; omega)) hK hX hP hD hS hl
  · exact lr_117 l C0 hL (Int32.toInt_inj.mp (by rw [show (1 : Int32).toInt = 1 from by decide +kernel]; omega)) hK hX hP hD hS hl
set_option maxRecDepth 100000 in
set_option maxHeartbeats 4000000 in
theorem lr_118 {p : Program} {e : Env} {s : State} {m : MethodId} {below : List Frame} {meth : Method} {c : Code} (l : Launch) {b L : Nat} {xs : Nat → Int32} (C0 : lw_At p s m meth c b L xs) (hL : L = 5) {dC : Nat → ClassId} {dI : Nat → Nat → Nat} {cI cJ cII cJJ : ClassId} {g qx qm : Nat} {u v : Nat → Nat} {H : Heap} {locs : List Loc} {ls : Array Slot} (y0 : Int32) (h_y0 : -2147483648 ≤ y0.toInt ∧ y0.toInt ≤ -1) (e_y0 : xs 1 = y0) (hK : va_K (dC, dI) vwCl (TY cI cJ cII cJJ) s) (hX : GXA 1 g (AA s) s) (hP : va_P (dC, dI) vwCl (WLD cI cJ cII cJJ qx qm u v) H) (hD : va_D (AA s) (WLD cI cJ cII cJJ qx qm u v)) (hS : va_S (AA s) s.heap H locs) (hl : lv_has ls 4 [(3, .int 0), (2, .ref qm), (1, .ref qx), (0, .ref b)]) : W p l e room_1 s m #[Value.ref b] below meth c H locs 600000 7302250 (lw_Z below #[Value.ref b] s) (F0 m 1027 ls []) := by
  obtain ⟨hx, hb, hr, hml, hown, hts0, hX0, hbl, hlocks, hgv⟩ := id C0
  have hts : ∀ w ∈ TT, w.before #[Value.ref b] s = true := fun w h => hts0 w (TT_tbl h)
  have hA : ∀ q : Nat, s.heap.size ≤ q → AA s q := fun _ h => h
  have hbA : ¬ AA s b := Nat.not_le.mpr hbl
  have hown : s.vm.findClass RL = some m.cls := hown
  subst hL
  refine lv_aload_n hx hb dL_law_1027 rfl (lv_at hl 2 rfl) ?_
  refine lv_aload_n hx hb dL_law_1028 rfl (lv_at hl 3 rfl) ?_
  refine lv_iload_n hx hb dL_law_1029 rfl (lv_at hl 0 rfl) ?_
  refine lv_iconst (v := 1) hx hb dL_law_1030 (by decide) ?_
  refine v_iadd hx hb dL_law_1031 1 (by decide +kernel) ?_
  refine va_sld hx hb hX0 hbl hbA hS (vin (by decide +kernel)) dL_law_1032 ?_
  refine tvi (v := y0) e_y0 ?_
  refine kV_i (q0 := 0) ⟨hx, hb, hml, hown, hts⟩ hK hP hD hS hA hX cv_RL_142 [0, 29, 6, 8, 7, 32, 33, 30, 63] [86, 87, 88, 84, 85, 66] (wr := [(qm, .inr (9, [.ref (v 0), .ref (v 1), .ref (v 2), .ref (v 3), .ref (v 4), .ref (v 5), .ref (v 6), .ref (v 7), .ref (v 8), .ref (v 9), .ref (v 10), .ref (v 11), .int 1, .int 0, .int 0, .ref (v 12), .ref (v 13), .ref (v 14), .ref (v 15), .ref (v 16), .ref (v 17), .int 0, .int 0, .ref (v 18), .ref (v 19), .ref (v 20), .ref (v 21), .int 0, .int 0, .ref (v 22), .ref (v 23), .ref (v 24), .ref (v 25), .int 0, .ref (v 26), .int 0])), ((v 2), .inl (cI, 4, .inl (tb [0, 0, 0, 0]))), ((v 3), .inl (cI, 4, .inl (tb [10, 10, 10, 10]))), ((v 25), .inl (cI, 4, .inl (tb []))), ((v 26), .inl (cI, 777924, .inl (tb []))), ((v 7), .inl (cI, 8, .inl (tb [])))]) rfl rfl rfl rfl (by decide) (c264_X8_near l dC dI cI cJ cII cJJ H.size 0 qx (u 28) (u 0) (u 7) (u 6) (u 31) (u 32) (u 29) (u 62) (u 10) (u 51) (u 59) (u 60) (u 61) (u 30) (u 33) (u 39) (u 45) (u 1) (u 5) (u 8) (u 9) y0 h_y0) ⟨by decide +kernel, by decide +kernel⟩ rfl rfl (Or.inl rfl) (rest := []) rfl rfl rfl hl.1 rfl (Nat.le_of_ble_eq_true rfl) dL_law_1033 ⟨Nat.le_of_ble_eq_true rfl, Nat.le_of_ble_eq_true rfl⟩ (W' := [(qm, .inr (9, [.ref (v 0), .ref (v 1), .ref (v 2), .ref (v 3), .ref (v 4), .ref (v 5), .ref (v 6), .ref (v 7), .ref (v 8), .ref (v 9), .ref (v 10), .ref (v 11), .int 1, .int 0, .int 0, .ref (v 12), .ref (v 13), .ref (v 14), .ref (v 15), .ref (v 16), .ref (v 17), .int 0, .int 0, .ref (v 18), .ref (v 19), .ref (v 20), .ref (v 21), .int 0, .int 0, .ref (v 22), .ref (v 23), .ref (v 24), .ref (v 25), .int 0, .ref (v 26), .int 0])), ((v 2), .inl (cI, 4, .inl (tb [0, 0, 0, 0]))), ((v 3), .inl (cI, 4, .inl (tb [10, 10, 10, 10]))), ((v 25), .inl (cI, 4, .inl (tb []))), ((v 26), .inl (cI, 777924, .inl (tb []))), ((v 7), .inl (cI, 8, .inl (tb [])))]) rfl (fun H locs hP hD hS => ?_)
  refine lv_aload_n hx hb dL_law_1036 rfl (lv_at hl 1 rfl) ?_
  refine lv_aload_n hx hb dL_law_1037 rfl (lv_at hl 3 rfl) ?_
  refine lv_iload_n hx hb dL_law_1038 rfl (lv_at hl 0 rfl) ?_
  refine lv_iconst (v := 1) hx hb dL_law_1039 (by decide) ?_
  refine v_iadd hx hb dL_law_1040 1 (by decide +kernel) ?_
  refine va_sld hx hb hX0 hbl hbA hS (vin (by decide +kernel)) dL_law_1041 ?_
  refine tvi (v := y0) e_y0 ?_
  refine kV_i (q0 := 0) ⟨hx, hb, hml, hown, hts⟩ hK hP hD hS hA hX cv_RL_145 [0, 1, 2, 3, 4, 5] [] (wr := []) rfl rfl rfl rfl (by decide) (c577_X9_near l dC dI cI cJ cII cJJ H.size 0 qm (v 2) (v 3) (v 25) (v 26) (v 7) (v 0) (v 1) (v 4) (v 5) (v 6) (v 8) (v 9) (v 10) (v 11) (v 12) (v 13) (v 14) (v 15) (v 16) (v 17) (v 18) (v 19) (v 20) (v 21) (v 22) (v 23) (v 24) y0 h_y0) ⟨by decide +kernel, by decide +kernel⟩ rfl rfl (Or.inl rfl) (rest := [.int (-1)]) rfl rfl rfl hl.1 rfl (Nat.le_of_ble_eq_true rfl) dL_law_1042 ⟨Nat.le_of_ble_eq_true rfl, Nat.le_of_ble_eq_true rfl⟩ (W' := []) rfl (fun H locs hP hD hS => ?_)
  refine t_icmp_eq hx hb dL_law_1045 1073 (by decide) rfl ?_
  exact law_end l C0 rfl hS hl
set_option maxRecDepth 100000 in
set_option maxHeartbeats 4000000 in
theorem lr_119 {p : Program} {e : Env} {s : State} {m : MethodId} {below : List Frame} {meth : Method} {c : Code} (l : Launch) {b L : Nat} {xs : Nat → Int32} (C0 : lw_At p s m meth c b L xs) (hL : L = 5) {dC : Nat → ClassId} {dI : Nat → Nat → Nat} {cI cJ cII cJJ : ClassId} {g qx qm : Nat} {u v : Nat → Nat} {H : Heap} {locs : List Loc} {ls : Array Slot} (y0 : Int32) (h_y0 : 11 ≤ y0.toInt ∧ y0.toInt ≤ 2147483647) (e_y0 : xs 1 = y0) (hK : va_K (dC, dI) vwCl (TY cI cJ cII cJJ) s) (hX : GXA 1 g (AA s) s) (hP : va_P (dC, dI) vwCl (WLD cI cJ cII cJJ qx qm u v) H) (hD : va_D (AA s) (WLD cI cJ cII cJJ qx qm u v)) (hS : va_S (AA s) s.heap H locs) (hl : lv_has ls 4 [(3, .int 0), (2, .ref qm), (1, .ref qx), (0, .ref b)]) : W p l e room_1 s m #[Value.ref b] below meth c H locs 600000 7302250 (lw_Z below #[Value.ref b] s) (F0 m 1027 ls []) := by
  obtain ⟨hx, hb, hr, hml, hown, hts0, hX0, hbl, hlocks, hgv⟩ := id C0
  have hts : ∀ w ∈ TT, w.before #[Value.ref b] s = true := fun w h => hts0 w (TT_tbl h)
  have hA : ∀ q : Nat, s.heap.size ≤ q → AA s q := fun _ h => h
  have hbA : ¬ AA s b := Nat.not_le.mpr hbl
  have hown : s.vm.findClass RL = some m.cls := hown
  subst hL
  refine lv_aload_n hx hb dL_law_1027 rfl (lv_at hl 2 rfl) ?_
  refine lv_aload_n hx hb dL_law_1028 rfl (lv_at hl 3 rfl) ?_
  refine lv_iload_n hx hb dL_law_1029 rfl (lv_at hl 0 rfl) ?_
  refine lv_iconst (v := 1) hx hb dL_law_1030 (by decide) ?_
  refine v_iadd hx hb dL_law_1031 1 (by decide +kernel) ?_
  refine va_sld hx hb hX0 hbl hbA hS (vin (by decide +kernel)) dL_law_1032 ?_
  refine tvi (v := y0) e_y0 ?_
  refine kV_i (q0 := 0) ⟨hx, hb, hml, hown, hts⟩ hK hP hD hS hA hX cv_RL_142 [0, 29, 6, 8, 7, 32, 33, 30, 63] [86, 87, 88, 84, 85, 66] (wr := [(qm, .inr (9, [.ref (v 0), .ref (v 1), .ref (v 2), .ref (v 3), .ref (v 4), .ref (v 5), .ref (v 6), .ref (v 7), .ref (v 8), .ref (v 9), .ref (v 10), .ref (v 11), .int 1, .int 0, .int 0, .ref (v 12), .ref (v 13), .ref (v 14), .ref (v 15), .ref (v 16), .ref (v 17), .int 0, .int 0, .ref (v 18), .ref (v 19), .ref (v 20), .ref (v 21), .int 0, .int 0, .ref (v 22), .ref (v 23), .ref (v 24), .ref (v 25), .int 0, .ref (v 26), .int 0])), ((v 2), .inl (cI, 4, .inl (tb [0, 0, 0, 0]))), ((v 3), .inl (cI, 4, .inl (tb [10, 10, 10, 10]))), ((v 25), .inl (cI, 4, .inl (tb []))), ((v 26), .inl (cI, 777924, .inl (tb []))), ((v 7), .inl (cI, 8, .inl (tb [])))]) rfl rfl rfl rfl (by decide) (c265_X8_near l dC dI cI cJ cII cJJ H.size 0 qx (u 28) (u 0) (u 7) (u 6) (u 31) (u 32) (u 29) (u 62) (u 10) (u 51) (u 59) (u 60) (u 61) (u 30) (u 33) (u 39) (u 45) (u 1) (u 5) (u 8) (u 9) y0 h_y0) ⟨by decide +kernel, by decide +kernel⟩ rfl rfl (Or.inl rfl) (rest := []) rfl rfl rfl hl.1 rfl (Nat.le_of_ble_eq_true rfl) dL_law_1033 ⟨Nat.le_of_ble_eq_true rfl, Nat.le_of_ble_eq_true rfl⟩ (W' := [(qm, .inr (9, [.ref (v 0), .ref (v 1), .ref (v 2), .ref (v 3), .ref (v 4), .ref (v 5), .ref (v 6), .ref (v 7), .ref (v 8), .ref (v 9), .ref (v 10), .ref (v 11), .int 1, .int 0, .int 0, .ref (v 12), .ref (v 13), .ref (v 14), .ref (v 15), .ref (v 16), .ref (v 17), .int 0, .int 0, .ref (v 18), .ref (v 19), .ref (v 20), .ref (v 21), .int 0, .int 0, .ref (v 22), .ref (v 23), .ref (v 24), .ref (v 25), .int 0, .ref (v 26), .int 0])), ((v 2), .inl (cI, 4, .inl (tb [0, 0, 0, 0]))), ((v 3), .inl (cI, 4, .inl (tb [10, 10, 10, 10]))), ((v 25), .inl (cI, 4, .inl (tb []))), ((v 26), .inl (cI, 777924, .inl (tb []))), ((v 7), .inl (cI, 8, .inl (tb [])))]) rfl (fun H locs hP hD hS => ?_)
  refine lv_aload_n hx hb dL_law_1036 rfl (lv_at hl 1 rfl) ?_
  refine lv_aload_n hx hb dL_law_1037 rfl (lv_at hl 3 rfl) ?_
  refine lv_iload_n hx hb dL_law_1038 rfl (lv_at hl 0 rfl) ?_
  refine lv_iconst (v := 1) hx hb dL_law_1039 (by decide) ?_
  refine v_iadd hx hb dL_law_1040 1 (by decide +kernel) ?_
  refine va_sld hx hb hX0 hbl hbA hS (vin (by decide +kernel)) dL_law_1041 ?_
  refine tvi (v := y0) e_y0 ?_
  refine kV_i (q0 := 0) ⟨hx, hb, hml, hown, hts⟩ hK hP hD hS hA hX cv_RL_145 [0, 1, 2, 3, 4, 5] [] (wr := []) rfl rfl rfl rfl (by decide) (c578_X9_near l dC dI cI cJ cII cJJ H.size 0 qm (v 2) (v 3) (v 25) (v 26) (v 7) (v 0) (v 1) (v 4) (v 5) (v 6) (v 8) (v 9) (v 10) (v 11) (v 12) (v 13) (v 14) (v 15) (v 16) (v 17) (v 18) (v 19) (v 20) (v 21) (v 22) (v 23) (v 24) y0 h_y0) ⟨by decide +kernel, by decide +kernel⟩ rfl rfl (Or.inl rfl) (rest := [.int (-1)]) rfl rfl rfl hl.1 rfl (Nat.le_of_ble_eq_true rfl) dL_law_1042 ⟨Nat.le_of_ble_eq_true rfl, Nat.le_of_ble_eq_true rfl⟩ (W' := []) rfl (fun H locs hP hD hS => ?_)
  refine t_icmp_eq hx hb dL_law_1045 1073 (by decide) rfl ?_
  exact law_end l C0 rfl hS hl
set_option maxRecDepth 100000 in
set_option maxHeartbeats 4000000 in
theorem lr_120 {p : Program} {e : Env} {s : State} {m : MethodId} {below : List Frame} {meth : Method} {c : Code} (l : Launch) {b L : Nat} {xs : Nat → Int32} (C0 : lw_At p s m meth c b L xs) (hL : L = 5) {dC : Nat → ClassId} {dI : Nat → Nat → Nat} {cI cJ cII cJJ : ClassId} {g qx qm : Nat} {u v : Nat → Nat} {H : Heap} {locs : List Loc} {ls : Array Slot} (e_y0 : xs 1 = 0) (hK : va_K (dC, dI) vwCl (TY cI cJ cII cJJ) s) (hX : GXA 1 g (AA s) s) (hP : va_P (dC, dI) vwCl (WLD cI cJ cII cJJ qx qm u v) H) (hD : va_D (AA s) (WLD cI cJ cII cJJ qx qm u v)) (hS : va_S (AA s) s.heap H locs) (hl : lv_has ls 4 [(3, .int 0), (2, .ref qm), (1, .ref qx), (0, .ref b)]) : W p l e room_1 s m #[Value.ref b] below meth c H locs 600000 7302250 (lw_Z below #[Value.ref b] s) (F0 m 1027 ls []) := by
  obtain ⟨hx, hb, hr, hml, hown, hts0, hX0, hbl, hlocks, hgv⟩ := id C0
  have hts : ∀ w ∈ TT, w.before #[Value.ref b] s = true := fun w h => hts0 w (TT_tbl h)
  have hA : ∀ q : Nat, s.heap.size ≤ q → AA s q := fun _ h => h
  have hbA : ¬ AA s b := Nat.not_le.mpr hbl
  have hown : s.vm.findClass RL = some m.cls := hown
  subst hL
  refine lv_aload_n hx hb dL_law_1027 rfl (lv_at hl 2 rfl) ?_
  refine lv_aload_n hx hb dL_law_1028 rfl (lv_at hl 3 rfl) ?_
  refine lv_iload_n hx hb dL_law_1029 rfl (lv_at hl 0 rfl) ?_
  refine lv_iconst (v := 1) hx hb dL_law_1030 (by decide) ?_
  refine v_iadd hx hb dL_law_1031 1 (by decide +kernel) ?_
  refine va_sld hx hb hX0 hbl hbA hS (vin (by decide +kernel)) dL_law_1032 ?_
  refine tvi (v := 0) e_y0 ?_
  refine kV_i (q0 := 0) ⟨hx, hb, hml, hown, hts⟩ hK hP hD hS hA hX cv_RL_142 [0, 29, 6, 8, 7, 32, 33, 30, 61, 11, 12, 14, 15, 16, 17, 18, 19, 22, 24, 23, 13] [86, 87, 88, 84, 85, 78, 77, 79, 80, 71, 72, 73, 74, 75, 76] (wr := [(qm, .inr (9, [.ref (v 0), .ref (v 1), .ref (v 2), .ref (v 3), .ref (v 4), .ref (v 5), .ref (v 6), .ref (v 7), .ref (v 8), .ref (v 9), .ref (v 10), .ref (v 11), .int 1, .int 0, .int 0, .ref (v 12), .ref (v 13), .ref (v 14), .ref (v 15), .ref (v 16), .ref (v 17), .int 0, .int 0, .ref (v 18), .ref (v 19), .ref (v 20), .ref (v 21), .int 0, .int 0, .ref (v 22), .ref (v 23), .ref (v 24), .ref (v 25), .int 0, .ref (v 26), .int 0])), ((v 2), .inl (cI, 4, .inl (tb [0, 0, 0, 0]))), ((v 3), .inl (cI, 4, .inl (tb [10, 10, 10, 10]))), ((v 25), .inl (cI, 4, .inl (tb []))), ((v 26), .inl (cI, 777924, .inl (tb []))), ((v 19), .inl (cI, 3, .inl (tb []))), ((v 18), .inl (cI, 3, .inl (tb []))), ((v 20), .inl (cI, 4, .inl (tb []))), ((v 21), .inl (cI, 4, .inl (tb []))), ((v 12), .inl (cI, 400000, .inl (tb []))), ((v 13), .inl (cI, 100000, .inl (tb []))), ((v 14), .inl (cI, 6001, .inl (tb []))), ((v 15), .inl (cI, 100000, .inl (tb []))), ((v 16), .inl (cI, 24000, .inl (tb []))), ((v 17), .inl (cI, 6000, .inl (tb [])))]) rfl rfl rfl rfl (by decide) (c266_X8_near l dC dI cI cJ cII cJJ H.size g qx (u 28) (u 0) (u 7) (u 6) (u 31) (u 32) (u 29) (u 60) (u 10) (u 11) (u 13) (u 14) (u 15) (u 16) (u 17) (u 18) (u 21) (u 23) (u 22) (u 12) (u 51) (u 59) (u 61) (u 62) (u 30) (u 33) (u 39) (u 45) (u 1) (u 5) (u 8) (u 9) (u 24) (u 19) (u 20)) ⟨by decide +kernel, by decide +kernel⟩ rfl rfl (Or.inr ⟨rfl, rfl, rfl⟩) (rest := []) rfl rfl rfl hl.1 rfl (Nat.le_of_ble_eq_true rfl) dL_law_1033 ⟨Nat.le_of_ble_eq_true rfl, Nat.le_of_ble_eq_true rfl⟩ (W' := [(qm, .inr (9, [.ref (v 0), .ref (v 1), .ref (v 2), .ref (v 3), .ref (v 4), .ref (v 5), .ref (v 6), .ref (v 7), .ref (v 8), .ref (v 9), .ref (v 10), .ref (v 11), .int 1, .int 0, .int 0, .ref (v 12), .ref (v 13), .ref (v 14), .ref (v 15), .ref (v 16), .ref (v 17), .int 0, .int 0, .ref (v 18), .ref (v 19), .ref (v 20), .ref (v 21), .int 0, .int 0, .ref (v 22), .ref (v 23), .ref (v 24), .ref (v 25), .int 0, .ref (v 26), .int 0])), ((v 2), .inl (cI, 4, .inl (tb [0, 0, 0, 0]))), ((v 3), .inl (cI, 4, .inl (tb [10, 10, 10, 10]))), ((v 25), .inl (cI, 4, .inl (tb []))), ((v 26), .inl (cI, 777924, .inl (tb []))), ((v 19), .inl (cI, 3, .inl (tb []))), ((v 18), .inl (cI, 3, .inl (tb []))), ((v 20), .inl (cI, 4, .inl (tb []))), ((v 21), .inl (cI, 4, .inl (tb []))), ((v 12), .inl (cI, 400000, .inl (tb []))), ((v 13), .inl (cI, 100000, .inl (tb []))), ((v 14), .inl (cI, 6001, .inl (tb []))), ((v 15), .inl (cI, 100000, .inl (tb []))), ((v 16), .inl (cI, 24000, .inl (tb []))), ((v 17), .inl (cI, 6000, .inl (tb [])))]) rfl (fun H locs hP hD hS => ?_)
  refine lv_aload_n hx hb dL_law_1036 rfl (lv_at hl 1 rfl) ?_
  refine lv_aload_n hx hb dL_law_1037 rfl (lv_at hl 3 rfl) ?_
  refine lv_iload_n hx hb dL_law_1038 rfl (lv_at hl 0 rfl) ?_
  refine lv_iconst (v := 1) hx hb dL_law_1039 (by decide) ?_
  refine v_iadd hx hb dL_law_1040 1 (by decide +kernel) ?_
  refine va_sld hx hb hX0 hbl hbA hS (vin (by decide +kernel)) dL_law_1041 ?_
  refine tvi (v := 0) e_y0 ?_
  refine kV_i (q0 := 0) ⟨hx, hb, hml, hown, hts⟩ hK hP hD hS hA hX cv_RL_145 [0, 1, 2, 3, 4, 5, 6, 7, 8, 9, 10, 11, 12, 13, 14] [] (wr := []) rfl rfl rfl rfl (by decide) (c579_X9_near l dC dI cI cJ cII cJJ H.size 0 qm (v 2) (v 3) (v 25) (v 26) (v 19) (v 18) (v 20) (v 21) (v 12) (v 13) (v 14) (v 15) (v 16) (v 17) (v 0) (v 1) (v 4) (v 5) (v 6) (v 7) (v 8) (v 9) (v 10) (v 11) (v 22) (v 23) (v 24)) ⟨by decide +kernel, by decide +kernel⟩ rfl rfl (Or.inl rfl) (rest := [.int 1]) rfl rfl rfl hl.1 rfl (Nat.le_of_ble_eq_true rfl) dL_law_1042 ⟨Nat.le_of_ble_eq_true rfl, Nat.le_of_ble_eq_true rfl⟩ (W' := []) rfl (fun H locs hP hD hS => ?_)
  refine t_icmp_eq hx hb dL_law_1045 1073 (by decide) rfl ?_
  exact law_end l C0 rfl hS hl
set_option maxRecDepth 100000 in
set_option maxHeartbeats 4000000 in
theorem lr_121 {p : Program} {e : Env} {s : State} {m : MethodId} {below : List Frame} {meth : Method} {c : Code} (l : Launch) {b L : Nat} {xs : Nat → Int32} (C0 : lw_At p s m meth c b L xs) (hL : L = 5) {dC : Nat → ClassId} {dI : Nat → Nat → Nat} {cI cJ cII cJJ : ClassId} {g qx qm : Nat} {u v : Nat → Nat} {H : Heap} {locs : List Loc} {ls : Array Slot} (y0 : Int32) (h_y0 : 1 ≤ y0.toInt ∧ y0.toInt ≤ 9) (e_y0 : xs 1 = y0) (hK : va_K (dC, dI) vwCl (TY cI cJ cII cJJ) s) (hX : GXA 1 g (AA s) s) (hP : va_P (dC, dI) vwCl (WLD cI cJ cII cJJ qx qm u v) H) (hD : va_D (AA s) (WLD cI cJ cII cJJ qx qm u v)) (hS : va_S (AA s) s.heap H locs) (hl : lv_has ls 4 [(3, .int 0), (2, .ref qm), (1, .ref qx), (0, .ref b)]) : W p l e room_1 s m #[Value.ref b] below meth c H locs 600000 7302250 (lw_Z below #[Value.ref b] s) (F0 m 1027 ls []) := by
  obtain ⟨hx, hb, hr, hml, hown, hts0, hX0, hbl, hlocks, hgv⟩ := id C0
  have hts : ∀ w ∈ TT, w.before #[Value.ref b] s = true := fun w h => hts0 w (TT_tbl h)
  have hA : ∀ q : Nat, s.heap.size ≤ q → AA s q := fun _ h => h
  have hbA : ¬ AA s b := Nat.not_le.mpr hbl
  have hown : s.vm.findClass RL = some m.cls := hown
  subst hL
  refine lv_aload_n hx hb dL_law_1027 rfl (lv_at hl 2 rfl) ?_
  refine lv_aload_n hx hb dL_law_1028 rfl (lv_at hl 3 rfl) ?_
  refine lv_iload_n hx hb dL_law_1029 rfl (lv_at hl 0 rfl) ?_
  refine lv_iconst (v := 1) hx hb dL_law_1030 (by decide) ?_
  refine v_iadd hx hb dL_law_1031 1 (by decide +kernel) ?_
  refine va_sld hx hb hX0 hbl hbA hS (vin (by decide +kernel)) dL_law_1032 ?_
  refine tvi (v := y0) e_y0 ?_
  refine kV_i (q0 := 0) ⟨hx, hb, hml, hown, hts⟩ hK hP hD hS hA hX cv_RL_142 [0, 29, 6, 8, 7, 32, 33, 30, 61, 11, 12, 14, 15, 16, 17, 18, 19, 22, 24, 23, 13] [86, 87, 88, 84, 85, 78, 77, 79, 80, 71, 72, 73, 74, 75, 76] (wr := [(qm, .inr (9, [.ref (v 0), .ref (v 1), .ref (v 2), .ref (v 3), .ref (v 4), .ref (v 5), .ref (v 6), .ref (v 7), .ref (v 8), .ref (v 9), .ref (v 10), .ref (v 11), .int 1, .int 0, .int 0, .ref (v 12), .ref (v 13), .ref (v 14), .ref (v 15), .ref (v 16), .ref (v 17), .int 0, .int 0, .ref (v 18), .ref (v 19), .ref (v 20), .ref (v 21), .int 0, .int 0, .ref (v 22), .ref (v 23), .ref (v 24), .ref (v 25), .int 0, .ref (v 26), .int 0])), ((v 2), .inl (cI, 4, .inl (tb [0, 0, 0, 0]))), ((v 3), .inl (cI, 4, .inl (tb [10, 10, 10, 10]))), ((v 25), .inl (cI, 4, .inl (tb []))), ((v 26), .inl (cI, 777924, .inl (tb []))), ((v 19), .inl (cI, 3, .inl (tb []))), ((v 18), .inl (cI, 3, .inl (tb []))), ((v 20), .inl (cI, 4, .inl (tb []))), ((v 21), .inl (cI, 4, .inl (tb []))), ((v 12), .inl (cI, 400000, .inl (tb []))), ((v 13), .inl (cI, 100000, .inl (tb []))), ((v 14), .inl (cI, 6001, .inl (tb []))), ((v 15), .inl (cI, 100000, .inl (tb []))), ((v 16), .inl (cI, 24000, .inl (tb []))), ((v 17), .inl (cI, 6000, .inl (tb [])))]) rfl rfl rfl rfl (by decide) (c271_X8_near l dC dI cI cJ cII cJJ H.size g qx (u 28) (u 0) (u 7) (u 6) (u 31) (u 32) (u 29) (u 60) (u 10) (u 11) (u 13) (u 14) (u 15) (u 16) (u 17) (u 18) (u 21) (u 23) (u 22) (u 12) (u 51) (u 59) (u 61) (u 62) (u 30) (u 33) (u 39) (u 45) (u 1) (u 5) (u 8) (u 9) (u 24) (u 19) (u 20) y0 h_y0) ⟨by decide +kernel, by decide +kernel⟩ rfl rfl (Or.inr ⟨rfl, rfl, rfl⟩) (rest := []) rfl rfl rfl hl.1 rfl (Nat.le_of_ble_eq_true rfl) dL_law_1033 ⟨Nat.le_of_ble_eq_true rfl, Nat.le_of_ble_eq_true rfl⟩ (W' := [(qm, .inr (9, [.ref (v 0), .ref (v 1), .ref (v 2), .ref (v 3), .ref (v 4), .ref (v 5), .ref (v 6), .ref (v 7), .ref (v 8), .ref (v 9), .ref (v 10), .ref (v 11), .int 1, .int 0, .int 0, .ref (v 12), .ref (v 13), .ref (v 14), .ref (v 15), .ref (v 16), .ref (v 17), .int 0, .int 0, .ref (v 18), .ref (v 19), .ref (v 20), .ref (v 21), .int 0, .int 0, .ref (v 22), .ref (v 23), .ref (v 24), .ref (v 25), .int 0, .ref (v 26), .int 0])), ((v 2), .inl (cI, 4, .inl (tb [0, 0, 0, 0]))), ((v 3), .inl (cI, 4, .inl (tb [10, 10, 10, 10]))), ((v 25), .inl (cI, 4, .inl (tb []))), ((v 26), .inl (cI, 777924, .inl (tb []))), ((v 19), .inl (cI, 3, .inl (tb []))), ((v 18), .inl (cI, 3, .inl (tb []))), ((v 20), .inl (cI, 4, .inl (tb []))), ((v 21), .inl (cI, 4, .inl (tb []))), ((v 12), .inl (cI, 400000, .inl (tb []))), ((v 13), .inl (cI, 100000, .inl (tb []))), ((v 14), .inl (cI, 6001, .inl (tb []))), ((v 15), .inl (cI, 100000, .inl (tb []))), ((v 16), .inl (cI, 24000, .inl (tb []))), ((v 17), .inl (cI, 6000, .inl (tb [])))]) rfl (fun H locs hP hD hS => ?_)
  refine lv_aload_n hx hb dL_law_1036 rfl (lv_at hl 1 rfl) ?_
  refine lv_aload_n hx hb dL_law_1037 rfl (lv_at hl 3 rfl) ?_
  refine lv_iload_n hx hb dL_law_1038 rfl (lv_at hl 0 rfl) ?_
  refine lv_iconst (v := 1) hx hb dL_law_1039 (by decide) ?_
  refine v_iadd hx hb dL_law_1040 1 (by decide +kernel) ?_
  refine va_sld hx hb hX0 hbl hbA hS (vin (by decide +kernel)) dL_law_1041 ?_
  refine tvi (v := y0) e_y0 ?_
  refine kV_i (q0 := 0) ⟨hx, hb, hml, hown, hts⟩ hK hP hD hS hA hX cv_RL_145 [0, 1, 2, 3, 4, 5, 6, 7, 8, 9, 10, 11, 12, 13, 14] [] (wr := []) rfl rfl rfl rfl (by decide) (c601_X9_near l dC dI cI cJ cII cJJ H.size 0 qm (v 2) (v 3) (v 25) (v 26) (v 19) (v 18) (v 20) (v 21) (v 12) (v 13) (v 14) (v 15) (v 16) (v 17) (v 0) (v 1) (v 4) (v 5) (v 6) (v 7) (v 8) (v 9) (v 10) (v 11) (v 22) (v 23) (v 24) y0 h_y0) ⟨by decide +kernel, by decide +kernel⟩ rfl rfl (Or.inl rfl) (rest := [.int 2]) rfl rfl rfl hl.1 rfl (Nat.le_of_ble_eq_true rfl) dL_law_1042 ⟨Nat.le_of_ble_eq_true rfl, Nat.le_of_ble_eq_true rfl⟩ (W' := []) rfl (fun H locs hP hD hS => ?_)
  refine t_icmp_eq hx hb dL_law_1045 1073 (by decide) rfl ?_
  exact law_end l C0 rfl hS hl
set_option maxRecDepth 100000 in
set_option maxHeartbeats 4000000 in
theorem lr_122 {p : Program} {e : Env} {s : State} {m : MethodId} {below : List Frame} {meth : Method} {c : Code} (l : Launch) {b L : Nat} {xs : Nat → Int32} (C0 : lw_At p s m meth c b L xs) (hL : L = 5) {dC : Nat → ClassId} {dI : Nat → Nat → Nat} {cI cJ cII cJJ : ClassId} {g qx qm : Nat} {u v : Nat → Nat} {H : Heap} {locs : List Loc} {ls : Array Slot} (e_y0 : xs 1 = 10) (hK : va_K (dC, dI) vwCl (TY cI cJ cII cJJ) s) (hX : GXA 1 g (AA s) s) (hP : va_P (dC, dI) vwCl (WLD cI cJ cII cJJ qx qm u v) H) (hD : va_D (AA s) (WLD cI cJ cII cJJ qx qm u v)) (hS : va_S (AA s) s.heap H locs) (hl : lv_has ls 4 [(3, .int 0), (2, .ref qm), (1, .ref qx), (0, .ref b)]) : W p l e room_1 s m #[Value.ref b] below meth c H locs 600000 7302250 (lw_Z below #[Value.ref b] s) (F0 m 1027 ls []) := by
  obtain ⟨hx, hb, hr, hml, hown, hts0, hX0, hbl, hlocks, hgv⟩ := id C0
  have hts : ∀ w ∈ TT, w.before #[Value.ref b] s = true := fun w h => hts0 w (TT_tbl h)
  have hA : ∀ q : Nat, s.heap.size ≤ q → AA s q := fun _ h => h
  have hbA : ¬ AA s b := Nat.not_le.mpr hbl
  have hown : s.vm.findClass RL = some m.cls := hown
  subst hL
  refine lv_aload_n hx hb dL_law_1027 rfl (lv_at hl 2 rfl) ?_
  refine lv_aload_n hx hb dL_law_1028 rfl (lv_at hl 3 rfl) ?_
  refine lv_iload_n hx hb dL_law_1029 rfl (lv_at hl 0 rfl) ?_
  refine lv_iconst (v := 1) hx hb dL_law_1030 (by decide) ?_
  refine v_iadd hx hb dL_law_1031 1 (by decide +kernel) ?_
  refine va_sld hx hb hX0 hbl hbA hS (vin (by decide +kernel)) dL_law_1032 ?_
  refine tvi (v := 10) e_y0 ?_
  refine kV_i (q0 := 0) ⟨hx, hb, hml, hown, hts⟩ hK hP hD hS hA hX cv_RL_142 [0, 29, 6, 8, 7, 32, 33, 30, 61, 11, 12, 14, 15, 16, 17, 18, 19, 22, 24, 23, 13] [86, 87, 88, 84, 85, 78, 77, 79, 80, 71, 72, 73, 74, 75, 76] (wr := [(qm, .inr (9, [.ref (v 0), .ref (v 1), .ref (v 2), .ref (v 3), .ref (v 4), .ref (v 5), .ref (v 6), .ref (v 7), .ref (v 8), .ref (v 9), .ref (v 10), .ref (v 11), .int 1, .int 0, .int 0, .ref (v 12), .ref (v 13), .ref (v 14), .ref (v 15), .ref (v 16), .ref (v 17), .int 0, .int 0, .ref (v 18), .ref (v 19), .ref (v 20), .ref (v 21), .int 0, .int 0, .ref (v 22), .ref (v 23), .ref (v 24), .ref (v 25), .int 0, .ref (v 26), .int 0])), ((v 2), .inl (cI, 4, .inl (tb [0, 0, 0, 0]))), ((v 3), .inl (cI, 4, .inl (tb [10, 10, 10, 10]))), ((v 25), .inl (cI, 4, .inl (tb []))), ((v 26), .inl (cI, 777924, .inl (tb []))), ((v 19), .inl (cI, 3, .inl (tb []))), ((v 18), .inl (cI, 3, .inl (tb []))), ((v 20), .inl (cI, 4, .inl (tb []))), ((v 21), .inl (cI, 4, .inl (tb []))), ((v 12), .inl (cI, 400000, .inl (tb []))), ((v 13), .inl (cI, 100000, .inl (tb []))), ((v 14), .inl (cI, 6001, .inl (tb []))), ((v 15), .inl (cI, 100000, .inl (tb []))), ((v 16), .inl (cI, 24000, .inl (tb []))), ((v 17), .inl (cI, 6000, .inl (tb [])))]) rfl rfl rfl rfl (by decide) (c276_X8_near l dC dI cI cJ cII cJJ H.size g qx (u 28) (u 0) (u 7) (u 6) (u 31) (u 32) (u 29) (u 60) (u 10) (u 11) (u 13) (u 14) (u 15) (u 16) (u 17) (u 18) (u 21) (u 23) (u 22) (u 12) (u 51) (u 59) (u 61) (u 62) (u 30) (u 33) (u 39) (u 45) (u 1) (u 5) (u 8) (u 9) (u 24) (u 19) (u 20)) ⟨by decide +kernel, by decide +kernel⟩ rfl rfl (Or.inr ⟨rfl, rfl, rfl⟩) (rest := []) rfl rfl rfl hl.1 rfl (Nat.le_of_ble_eq_true rfl) dL_law_1033 ⟨Nat.le_of_ble_eq_true rfl, Nat.le_of_ble_eq_true rfl⟩ (W' := [(qm, .inr (9, [.ref (v 0), .ref (v 1), .ref (v 2), .ref (v 3), .ref (v 4), .ref (v 5), .ref (v 6), .ref (v 7), .ref (v 8), .ref (v 9), .ref (v 10), .ref (v 11), .int 1, .int 0, .int 0, .ref (v 12), .ref (v 13), .ref (v 14), .ref (v 15), .ref (v 16), .ref (v 17), .int 0, .int 0, .ref (v 18), .ref (v 19), .ref (v 20), .ref (v 21), .int 0, .int 0, .ref (v 22), .ref (v 23), .ref (v 24), .ref (v 25), .int 0, .ref (v 26), .int 0])), ((v 2), .inl (cI, 4, .inl (tb [0, 0, 0, 0]))), ((v 3), .inl (cI, 4, .inl (tb [10, 10, 10, 10]))), ((v 25), .inl (cI, 4, .inl (tb []))), ((v 26), .inl (cI, 777924, .inl (tb []))), ((v 19), .inl (cI, 3, .inl (tb []))), ((v 18), .inl (cI, 3, .inl (tb []))), ((v 20), .inl (cI, 4, .inl (tb []))), ((v 21), .inl (cI, 4, .inl (tb []))), ((v 12), .inl (cI, 400000, .inl (tb []))), ((v 13), .inl (cI, 100000, .inl (tb []))), ((v 14), .inl (cI, 6001, .inl (tb []))), ((v 15), .inl (cI, 100000, .inl (tb []))), ((v 16), .inl (cI, 24000, .inl (tb []))), ((v 17), .inl (cI, 6000, .inl (tb [])))]) rfl (fun H locs hP hD hS => ?_)
  refine lv_aload_n hx hb dL_law_1036 rfl (lv_at hl 1 rfl) ?_
  refine lv_aload_n hx hb dL_law_1037 rfl (lv_at hl 3 rfl) ?_
  refine lv_iload_n hx hb dL_law_1038 rfl (lv_at hl 0 rfl) ?_
  refine lv_iconst (v := 1) hx hb dL_law_1039 (by decide) ?_
  refine v_iadd hx hb dL_law_1040 1 (by decide +kernel) ?_
  refine va_sld hx hb hX0 hbl hbA hS (vin (by decide +kernel)) dL_law_1041 ?_
  refine tvi (v := 10) e_y0 ?_
  refine kV_i (q0 := 0) ⟨hx, hb, hml, hown, hts⟩ hK hP hD hS hA hX cv_RL_145 [0, 1, 2, 3, 4, 5, 6, 7, 8, 9, 10, 11, 12, 13, 14] [] (wr := []) rfl rfl rfl rfl (by decide) (c605_X9_near l dC dI cI cJ cII cJJ H.size 0 qm (v 2) (v 3) (v 25) (v 26) (v 19) (v 18) (v 20) (v 21) (v 12) (v 13) (v 14) (v 15) (v 16) (v 17) (v 0) (v 1) (v 4) (v 5) (v 6) (v 7) (v 8) (v 9) (v 10) (v 11) (v 22) (v 23) (v 24)) ⟨by decide +kernel, by decide +kernel⟩ rfl rfl (Or.inl rfl) (rest := [.int 1]) rfl rfl rfl hl.1 rfl (Nat.le_of_ble_eq_true rfl) dL_law_1042 ⟨Nat.le_of_ble_eq_true rfl, Nat.le_of_ble_eq_true rfl⟩ (W' := []) rfl (fun H locs hP hD hS => ?_)
  refine t_icmp_eq hx hb dL_law_1045 1073 (by decide) rfl ?_
  exact law_end l C0 rfl hS hl
set_option maxRecDepth 100000 in
set_option maxHeartbeats 4000000 in
theorem lc_30 {p : Program} {e : Env} {s : State} {m : MethodId} {below : List Frame} {meth : Method} {c : Code} (l : Launch) {b L : Nat} {xs : Nat → Int32} (C0 : lw_At p s m meth c b L xs) (hL : L = 5) {dC : Nat → ClassId} {dI : Nat → Nat → Nat} {cI cJ cII cJJ : ClassId} {g qx qm : Nat} {u v : Nat → Nat} {H : Heap} {locs : List Loc} {ls : Array Slot} (hK : va_K (dC, dI) vwCl (TY cI cJ cII cJJ) s) (hX : GXA 1 g (AA s) s) (hP : va_P (dC, dI) vwCl (WLD cI cJ cII cJJ qx qm u v) H) (hD : va_D (AA s) (WLD cI cJ cII cJJ qx qm u v)) (hS : va_S (AA s) s.heap H locs) (hl : lv_has ls 4 [(3, .int 0), (2, .ref qm), (1, .ref qx), (0, .ref b)]) : W p l e room_1 s m #[Value.ref b] below meth c H locs 600000 7302250 (lw_Z below #[Value.ref b] s) (F0 m 1027 ls []) := by
  have q1 := s_any (xs 1)
  have key : ((xs 1).toInt ≤ -1) ∨ (11 ≤ (xs 1).toInt) ∨ ((xs 1).toInt = 0) ∨ ((1 ≤ (xs 1).toInt ∧ (xs 1).toInt ≤ 9)) ∨ ((xs 1).toInt = 10) := by omega
  rcases key with h | h | h | h | h
  · exact lr_118 l C0 hL (xs 1) ⟨by omega, by omega⟩ rfl hK hX hP hD hS hl
  · exact lr_119 l C0 hL (xs 1) ⟨by omega, by omega⟩ rfl hK hX hP hD hS hl
  · exact lr_120 l C0 hL (Int32.toInt_inj.mp (by rw [show (0 : Int32).toInt = 0 from by decide +kernel]; omega)) hK hX hP hD hS hl
  · exact lr_121 l C0 hL (xs 1) ⟨by omega, by omega⟩ rfl hK hX hP hD hS hl
  · exact lr_122 l C0 hL (Int32.toInt_inj.mp (by rw [show (10 : Int32).toInt = 10 from by decide +kernel]; omega)) hK hX hP hD hS hl
set_option maxRecDepth 100000 in
set_option maxHeartbeats 4000000 in
theorem lr_123 {p : Program} {e : Env} {s : State} {m : MethodId} {below : List Frame} {meth : Method} {c : Code} (l : Launch) {b L : Nat} {xs : Nat → Int32} (C0 : lw_At p s m meth c b L xs) (hL : L = 5) {dC : Nat → ClassId} {dI : Nat → Nat → Nat} {cI cJ cII cJJ : ClassId} {g qx qm : Nat} {u v : Nat → Nat} {H : Heap} {locs : List Loc} {ls : Array Slot} (y0 : Int32) (h_y0 : -2147483648 ≤ y0.toInt ∧ y0.toInt ≤ -1) (e_y0 : xs 1 = y0) (hK : va_K (dC, dI) vwCl (TY cI cJ cII cJJ) s) (hX : GXA 1 g (AA s) s) (hP : va_P (dC, dI) vwCl (WLD cI cJ cII cJJ qx qm u v) H) (hD : va_D (AA s) (WLD cI cJ cII cJJ qx qm u v)) (hS : va_S (AA s) s.heap H locs) (hl : lv_has ls 4 [(3, .int 0), (2, .ref qm), (1, .ref qx), (0, .ref b)]) : W p l e room_1 s m #[Value.ref b] below meth c H locs 600000 7302250 (lw_Z below #[Value.ref b] s) (F0 m 1050 ls []) := by
  obtain ⟨hx, hb, hr, hml, hown, hts0, hX0, hbl, hlocks, hgv⟩ := id C0
  have hts : ∀ w ∈ TT, w.before #[Value.ref b] s = true := fun w h => hts0 w (TT_tbl h)
  have hA : ∀ q : Nat, s.heap.size ≤ q → AA s q := fun _ h => h
  have hbA : ¬ AA s b := Nat.not_le.mpr hbl
  have hown : s.vm.findClass RL = some m.cls := hown
  subst hL
  refine lv_aload_n hx hb dL_law_1050 rfl (lv_at hl 2 rfl) ?_
  refine lv_aload_n hx hb dL_law_1051 rfl (lv_at hl 3 rfl) ?_
  refine lv_iload_n hx hb dL_law_1052 rfl (lv_at hl 0 rfl) ?_
  refine lv_iconst (v := 1) hx hb dL_law_1053 (by decide) ?_
  refine v_iadd hx hb dL_law_1054 1 (by decide +kernel) ?_
  refine va_sld hx hb hX0 hbl hbA hS (vin (by decide +kernel)) dL_law_1055 ?_
  refine tvi (v := y0) e_y0 ?_
  refine kV_i (q0 := 0) ⟨hx, hb, hml, hown, hts⟩ hK hP hD hS hA hX cv_RL_146 [0] [86] (wr := [(qm, .inr (9, [.ref (v 0), .ref (v 1), .ref (v 2), .ref (v 3), .ref (v 4), .ref (v 5), .ref (v 6), .ref (v 7), .ref (v 8), .ref (v 9), .ref (v 10), .ref (v 11), .int 1, .int 0, .int 0, .ref (v 12), .ref (v 13), .ref (v 14), .ref (v 15), .ref (v 16), .ref (v 17), .int 0, .int 0, .ref (v 18), .ref (v 19), .ref (v 20), .ref (v 21), .int 0, .int 0, .ref (v 22), .ref (v 23), .ref (v 24), .ref (v 25), .int 0, .ref (v 26), .int 0]))]) rfl rfl rfl rfl (by decide) (c281_X8_count l dC dI cI cJ cII cJJ H.size 0 qx (u 0) (u 10) (u 28) (u 51) (u 59) (u 60) (u 61) (u 62) y0 h_y0) ⟨by decide +kernel, by decide +kernel⟩ rfl rfl (Or.inl rfl) (rest := []) rfl rfl rfl hl.1 rfl (Nat.le_of_ble_eq_true rfl) dL_law_1056 ⟨Nat.le_of_ble_eq_true rfl, Nat.le_of_ble_eq_true rfl⟩ (W' := [(qm, .inr (9, [.ref (v 0), .ref (v 1), .ref (v 2), .ref (v 3), .ref (v 4), .ref (v 5), .ref (v 6), .ref (v 7), .ref (v 8), .ref (v 9), .ref (v 10), .ref (v 11), .int 1, .int 0, .int 0, .ref (v 12), .ref (v 13), .ref (v 14), .ref (v 15), .ref (v 16), .ref (v 17), .int 0, .int 0, .ref (v 18), .ref (v 19), .ref (v 20), .ref (v 21), .int 0, .int 0, .ref (v 22), .ref (v 23), .ref (v 24), .ref (v 25), .int 0, .ref (v 26), .int 0]))]) rfl (fun H locs hP hD hS => ?_)
  refine lv_aload_n hx hb dL_law_1059 rfl (lv_at hl 1 rfl) ?_
  refine lv_aload_n hx hb dL_law_1060 rfl (lv_at hl 3 rfl) ?_
  refine lv_iload_n hx hb dL_law_1061 rfl (lv_at hl 0 rfl) ?_
  refine lv_iconst (v := 1) hx hb dL_law_1062 (by decide) ?_
  refine v_iadd hx hb dL_law_1063 1 (by decide +kernel) ?_
  refine va_sld hx hb hX0 hbl hbA hS (vin (by decide +kernel)) dL_law_1064 ?_
  refine tvi (v := y0) e_y0 ?_
  refine kV_i (q0 := 0) ⟨hx, hb, hml, hown, hts⟩ hK hP hD hS hA hX cv_RL_149 [0] [] (wr := []) rfl rfl rfl rfl (by decide) (c609_X9_count l dC dI cI cJ cII cJJ H.size 0 qm (v 0) (v 1) (v 2) (v 3) (v 4) (v 5) (v 6) (v 7) (v 8) (v 9) (v 10) (v 11) (v 12) (v 13) (v 14) (v 15) (v 16) (v 17) (v 18) (v 19) (v 20) (v 21) (v 22) (v 23) (v 24) (v 25) (v 26) y0 h_y0) ⟨by decide +kernel, by decide +kernel⟩ rfl rfl (Or.inl rfl) (rest := [.int (-99999)]) rfl rfl rfl hl.1 rfl (Nat.le_of_ble_eq_true rfl) dL_law_1065 ⟨Nat.le_of_ble_eq_true rfl, Nat.le_of_ble_eq_true rfl⟩ (W' := []) rfl (fun H locs hP hD hS => ?_)
  refine t_icmp_eq hx hb dL_law_1068 1073 (by decide) rfl ?_
  exact law_end l C0 rfl hS hl
set_option maxRecDepth 100000 in
set_option maxHeartbeats 4000000 in
theorem lr_124 {p : Program} {e : Env} {s : State} {m : MethodId} {below : List Frame} {meth : Method} {c : Code} (l : Launch) {b L : Nat} {xs : Nat → Int32} (C0 : lw_At p s m meth c b L xs) (hL : L = 5) {dC : Nat → ClassId} {dI : Nat → Nat → Nat} {cI cJ cII cJJ : ClassId} {g qx qm : Nat} {u v : Nat → Nat} {H : Heap} {locs : List Loc} {ls : Array Slot} (e_y0 : xs 1 = 0) (hK : va_K (dC, dI) vwCl (TY cI cJ cII cJJ) s) (hX : GXA 1 g (AA s) s) (hP : va_P (dC, dI) vwCl (WLD cI cJ cII cJJ qx qm u v) H) (hD : va_D (AA s) (WLD cI cJ cII cJJ qx qm u v)) (hS : va_S (AA s) s.heap H locs) (hl : lv_has ls 4 [(3, .int 0), (2, .ref qm), (1, .ref qx), (0, .ref b)]) : W p l e room_1 s m #[Value.ref b] below meth c H locs 600000 7302250 (lw_Z below #[Value.ref b] s) (F0 m 1050 ls []) := by
  obtain ⟨hx, hb, hr, hml, hown, hts0, hX0, hbl, hlocks, hgv⟩ := id C0
  have hts : ∀ w ∈ TT, w.before #[Value.ref b] s = true := fun w h => hts0 w (TT_tbl h)
  have hA : ∀ q : Nat, s.heap.size ≤ q → AA s q := fun _ h => h
  have hbA : ¬ AA s b := Nat.not_le.mpr hbl
  have hown : s.vm.findClass RL = some m.cls := hown
  subst hL
  refine lv_aload_n hx hb dL_law_1050 rfl (lv_at hl 2 rfl) ?_
  refine lv_aload_n hx hb dL_law_1051 rfl (lv_at hl 3 rfl) ?_
  refine lv_iload_n hx hb dL_law_1052 rfl (lv_at hl 0 rfl) ?_
  refine lv_iconst (v := 1) hx hb dL_law_1053 (by decide) ?_
  refine v_iadd hx hb dL_law_1054 1 (by decide +kernel) ?_
  refine va_sld hx hb hX0 hbl hbA hS (vin (by decide +kernel)) dL_law_1055 ?_
  refine tvi (v := 0) e_y0 ?_
  refine kV_i (q0 := 0) ⟨hx, hb, hml, hown, hts⟩ hK hP hD hS hA hX cv_RL_146 [0, 6] [86] (wr := [(qm, .inr (9, [.ref (v 0), .ref (v 1), .ref (v 2), .ref (v 3), .ref (v 4), .ref (v 5), .ref (v 6), .ref (v 7), .ref (v 8), .ref (v 9), .ref (v 10), .ref (v 11), .int 1, .int 0, .int 0, .ref (v 12), .ref (v 13), .ref (v 14), .ref (v 15), .ref (v 16), .ref (v 17), .int 0, .int 0, .ref (v 18), .ref (v 19), .ref (v 20), .ref (v 21), .int 0, .int 0, .ref (v 22), .ref (v 23), .ref (v 24), .ref (v 25), .int 0, .ref (v 26), .int 0]))]) rfl rfl rfl rfl (by decide) (c282_X8_count l dC dI cI cJ cII cJJ H.size 0 qx (u 0) (u 10) (u 28) (u 51) (u 59) (u 60) (u 61) (u 62) (u 1) (u 5) (u 6) (u 7) (u 8) (u 9)) ⟨by decide +kernel, by decide +kernel⟩ rfl rfl (Or.inl rfl) (rest := []) rfl rfl rfl hl.1 rfl (Nat.le_of_ble_eq_true rfl) dL_law_1056 ⟨Nat.le_of_ble_eq_true rfl, Nat.le_of_ble_eq_true rfl⟩ (W' := [(qm, .inr (9, [.ref (v 0), .ref (v 1), .ref (v 2), .ref (v 3), .ref (v 4), .ref (v 5), .ref (v 6), .ref (v 7), .ref (v 8), .ref (v 9), .ref (v 10), .ref (v 11), .int 1, .int 0, .int 0, .ref (v 12), .ref (v 13), .ref (v 14), .ref (v 15), .ref (v 16), .ref (v 17), .int 0, .int 0, .ref (v 18), .ref (v 19), .ref (v 20), .ref (v 21), .int 0, .int 0, .ref (v 22), .ref (v 23), .ref (v 24), .ref (v 25), .int 0, .ref (v 26), .int 0]))]) rfl (fun H locs hP hD hS => ?_)
  refine lv_aload_n hx hb dL_law_1059 rfl (lv_at hl 1 rfl) ?_
  refine lv_aload_n hx hb dL_law_1060 rfl (lv_at hl 3 rfl) ?_
  refine lv_iload_n hx hb dL_law_1061 rfl (lv_at hl 0 rfl) ?_
  refine lv_iconst (v := 1) hx hb dL_law_1062 (by decide) ?_
  refine v_iadd hx hb dL_law_1063 1 (by decide +kernel) ?_
  refine va_sld hx hb hX0 hbl hbA hS (vin (by decide +kernel)) dL_law_1064 ?_
  refine tvi (v := 0) e_y0 ?_
  refine kV_i (q0 := 0) ⟨hx, hb, hml, hown, hts⟩ hK hP hD hS hA hX cv_RL_149 [0] [] (wr := []) rfl rfl rfl rfl (by decide) (c610_X9_count l dC dI cI cJ cII cJJ H.size 0 qm (v 0) (v 1) (v 2) (v 3) (v 4) (v 5) (v 6) (v 7) (v 8) (v 9) (v 10) (v 11) (v 12) (v 13) (v 14) (v 15) (v 16) (v 17) (v 18) (v 19) (v 20) (v 21) (v 22) (v 23) (v 24) (v 25) (v 26)) ⟨by decide +kernel, by decide +kernel⟩ rfl rfl (Or.inl rfl) (rest := [.int 1]) rfl rfl rfl hl.1 rfl (Nat.le_of_ble_eq_true rfl) dL_law_1065 ⟨Nat.le_of_ble_eq_true rfl, Nat.le_of_ble_eq_true rfl⟩ (W' := []) rfl (fun H locs hP hD hS => ?_)
  refine t_icmp_eq hx hb dL_law_1068 1073 (by decide) rfl ?_
  exact law_end l C0 rfl hS hl
set_option maxRecDepth 100000 in
set_option maxHeartbeats 4000000 in
theorem lr_125 {p : Program} {e : Env} {s : State} {m : MethodId} {below : List Frame} {meth : Method} {c : Code} (l : Launch) {b L : Nat} {xs : Nat → Int32} (C0 : lw_At p s m meth c b L xs) (hL : L = 5) {dC : Nat → ClassId} {dI : Nat → Nat → Nat} {cI cJ cII cJJ : ClassId} {g qx qm : Nat} {u v : Nat → Nat} {H : Heap} {locs : List Loc} {ls : Array Slot} (e_y0 : xs 1 = 1) (hK : va_K (dC, dI) vwCl (TY cI cJ cII cJJ) s) (hX : GXA 1 g (AA s) s) (hP : va_P (dC, dI) vwCl (WLD cI cJ cII cJJ qx qm u v) H) (hD : va_D (AA s) (WLD cI cJ cII cJJ qx qm u v)) (hS : va_S (AA s) s.heap H locs) (hl : lv_has ls 4 [(3, .int 0), (2, .ref qm), (1, .ref qx), (0, .ref b)]) : W p l e room_1 s m #[Value.ref b] below meth c H locs 600000 7302250 (lw_Z below #[Value.ref b] s) (F0 m 1050 ls []) := by
  obtain ⟨hx, hb, hr, hml, hown, hts0, hX0, hbl, hlocks, hgv⟩ := id C0
  have hts : ∀ w ∈ TT, w.before #[Value.ref b] s = true := fun w h => hts0 w (TT_tbl h)
  have hA : ∀ q : Nat, s.heap.size ≤ q → AA s q := fun _ h => h
  have hbA : ¬ AA s b := Nat.not_le.mpr hbl
  have hown : s.vm.findClass RL = some m.cls := hown
  subst hL
  refine lv_aload_n hx hb dL_law_1050 rfl (lv_at hl 2 rfl) ?_
  refine lv_aload_n hx hb dL_law_1051 rfl (lv_at hl 3 rfl) ?_
  refine lv_iload_n hx hb dL_law_1052 rfl (lv_at hl 0 rfl) ?_
  refine lv_iconst (v := 1) hx hb dL_law_1053 (by decide) ?_
  refine v_iadd hx hb dL_law_1054 1 (by decide +kernel) ?_
  refine va_sld hx hb hX0 hbl hbA hS (vin (by decide +kernel)) dL_law_1055 ?_
  refine tvi (v := 1) e_y0 ?_
  refine kV_i (q0 := 0) ⟨hx, hb, hml, hown, hts⟩ hK hP hD hS hA hX cv_RL_146 [0, 6] [86] (wr := [(qm, .inr (9, [.ref (v 0), .ref (v 1), .ref (v 2), .ref (v 3), .ref (v 4), .ref (v 5), .ref (v 6), .ref (v 7), .ref (v 8), .ref (v 9), .ref (v 10), .ref (v 11), .int 1, .int 0, .int 0, .ref (v 12), .ref (v 13), .ref (v 14), .ref (v 15), .ref (v 16), .ref (v 17), .int 0, .int 0, .ref (v 18), .ref (v 19), .ref (v 20), .ref (v 21), .int 0, .int 0, .ref (v 22), .ref (v 23), .ref (v 24), .ref (v 25), .int 0, .ref (v 26), .int 0]))]) rfl rfl rfl rfl (by decide) (c283_X8_count l dC dI cI cJ cII cJJ H.size 0 qx (u 0) (u 10) (u 28) (u 51) (u 59) (u 60) (u 61) (u 62) (u 1) (u 5) (u 6) (u 7) (u 8) (u 9)) ⟨by decide +kernel, by decide +kernel⟩ rfl rfl (Or.inl rfl) (rest := []) rfl rfl rfl hl.1 rfl (Nat.le_of_ble_eq_true rfl) dL_law_1056 ⟨Nat.le_of_ble_eq_true rfl, Nat.le_of_ble_eq_true rfl⟩ (W' := [(qm, .inr (9, [.ref (v 0), .ref (v 1), .ref (v 2), .ref (v 3), .ref (v 4), .ref (v 5), .ref (v 6), .ref (v 7), .ref (v 8), .ref (v 9), .ref (v 10), .ref (v 11), .int 1, .int 0, .int 0, .ref (v 12), .ref (v 13), .ref (v 14), .ref (v 15), .ref (v 16), .ref (v 17), .int 0, .int 0, .ref (v 18), .ref (v 19), .ref (v 20), .ref (v 21), .int 0, .int 0, .ref (v 22), .ref (v 23), .ref (v 24), .ref (v 25), .int 0, .ref (v 26), .int 0]))]) rfl (fun H locs hP hD hS => ?_)
  refine lv_aload_n hx hb dL_law_1059 rfl (lv_at hl 1 rfl) ?_
  refine lv_aload_n hx hb dL_law_1060 rfl (lv_at hl 3 rfl) ?_
  refine lv_iload_n hx hb dL_law_1061 rfl (lv_at hl 0 rfl) ?_
  refine lv_iconst (v := 1) hx hb dL_law_1062 (by decide) ?_
  refine v_iadd hx hb dL_law_1063 1 (by decide +kernel) ?_
  refine va_sld hx hb hX0 hbl hbA hS (vin (by decide +kernel)) dL_law_1064 ?_
  refine tvi (v := 1) e_y0 ?_
  refine kV_i (q0 := 0) ⟨hx, hb, hml, hown, hts⟩ hK hP hD hS hA hX cv_RL_149 [0] [] (wr := []) rfl rfl rfl rfl (by decide) (c611_X9_count l dC dI cI cJ cII cJJ H.size 0 qm (v 0) (v 1) (v 2) (v 3) (v 4) (v 5) (v 6) (v 7) (v 8) (v 9) (v 10) (v 11) (v 12) (v 13) (v 14) (v 15) (v 16) (v 17) (v 18) (v 19) (v 20) (v 21) (v 22) (v 23) (v 24) (v 25) (v 26)) ⟨by decide +kernel, by decide +kernel⟩ rfl rfl (Or.inl rfl) (rest := [.int 0]) rfl rfl rfl hl.1 rfl (Nat.le_of_ble_eq_true rfl) dL_law_1065 ⟨Nat.le_of_ble_eq_true rfl, Nat.le_of_ble_eq_true rfl⟩ (W' := []) rfl (fun H locs hP hD hS => ?_)
  refine t_icmp_eq hx hb dL_law_1068 1073 (by decide) rfl ?_
  exact law_end l C0 rfl hS hl
set_option maxRecDepth 100000 in
set_option maxHeartbeats 4000000 in
theorem lr_126 {p : Program} {e : Env} {s : State} {m : MethodId} {below : List Frame} {meth : Method} {c : Code} (l : Launch) {b L : Nat} {xs : Nat → Int32} (C0 : lw_At p s m meth c b L xs) (hL : L = 5) {dC : Nat → ClassId} {dI : Nat → Nat → Nat} {cI cJ cII cJJ : ClassId} {g qx qm : Nat} {u v : Nat → Nat} {H : Heap} {locs : List Loc} {ls : Array Slot} (e_y0 : xs 1 = 2) (hK : va_K (dC, dI) vwCl (TY cI cJ cII cJJ) s) (hX : GXA 1 g (AA s) s) (hP : va_P (dC, dI) vwCl (WLD cI cJ cII cJJ qx qm u v) H) (hD : va_D (AA s) (WLD cI cJ cII cJJ qx qm u v)) (hS : va_S (AA s) s.heap H locs) (hl : lv_has ls 4 [(3, .int 0), (2, .ref qm), (1, .ref qx), (0, .ref b)]) : W p l e room_1 s m #[Value.ref b] below meth c H locs 600000 7302250 (lw_Z below #[Value.ref b] s) (F0 m 1050 ls []) := by
  obtain ⟨hx, hb, hr, hml, hown, hts0, hX0, hbl, hlocks, hgv⟩ := id C0
  have hts : ∀ w ∈ TT, w.before #[Value.ref b] s = true := fun w h => hts0 w (TT_tbl h)
  have hA : ∀ q : Nat, s.heap.size ≤ q → AA s q := fun _ h => h
  have hbA : ¬ AA s b := Nat.not_le.mpr hbl
  have hown : s.vm.findClass RL = some m.cls := hown
  subst hL
  refine lv_aload_n hx hb dL_law_1050 rfl (lv_at hl 2 rfl) ?_
  refine lv_aload_n hx hb dL_law_1051 rfl (lv_at hl 3 rfl) ?_
  refine lv_iload_n hx hb dL_law_1052 rfl (lv_at hl 0 rfl) ?_
  refine lv_iconst (v := 1) hx hb dL_law_1053 (by decide) ?_
  refine v_iadd hx hb dL_law_1054 1 (by decide +kernel) ?_
  refine va_sld hx hb hX0 hbl hbA hS (vin (by decide +kernel)) dL_law_1055 ?_
  refine tvi (v := 2) e_y0 ?_
  refine kV_i (q0 := 0) ⟨hx, hb, hml, hown, hts⟩ hK hP hD hS hA hX cv_RL_146 [0, 11, 12, 14, 6, 15, 16, 17, 18, 19, 22, 24, 23, 13] [86, 78, 77, 79, 80, 71, 72, 73, 74, 75, 76] (wr := [(qm, .inr (9, [.ref (v 0), .ref (v 1), .ref (v 2), .ref (v 3), .ref (v 4), .ref (v 5), .ref (v 6), .ref (v 7), .ref (v 8), .ref (v 9), .ref (v 10), .ref (v 11), .int 1, .int 0, .int 0, .ref (v 12), .ref (v 13), .ref (v 14), .ref (v 15), .ref (v 16), .ref (v 17), .int 0, .int 0, .ref (v 18), .ref (v 19), .ref (v 20), .ref (v 21), .int 0, .int 0, .ref (v 22), .ref (v 23), .ref (v 24), .ref (v 25), .int 0, .ref (v 26), .int 0])), ((v 19), .inl (cI, 3, .inl (tb []))), ((v 18), .inl (cI, 3, .inl (tb []))), ((v 20), .inl (cI, 4, .inl (tb []))), ((v 21), .inl (cI, 4, .inl (tb []))), ((v 12), .inl (cI, 400000, .inl (tb []))), ((v 13), .inl (cI, 100000, .inl (tb []))), ((v 14), .inl (cI, 6001, .inl (tb []))), ((v 15), .inl (cI, 100000, .inl (tb []))), ((v 16), .inl (cI, 24000, .inl (tb []))), ((v 17), .inl (cI, 6000, .inl (tb [])))]) rfl rfl rfl rfl (by decide) (c284_X8_count l dC dI cI cJ cII cJJ H.size g qx (u 10) (u 11) (u 13) (u 0) (u 14) (u 15) (u 16) (u 17) (u 18) (u 21) (u 23) (u 22) (u 12) (u 28) (u 51) (u 59) (u 60) (u 61) (u 62) (u 24) (u 19) (u 20) (u 1) (u 5) (u 6) (u 7) (u 8) (u 9)) ⟨by decide +kernel, by decide +kernel⟩ rfl rfl (Or.inr ⟨rfl, rfl, rfl⟩) (rest := []) rfl rfl rfl hl.1 rfl (Nat.le_of_ble_eq_true rfl) dL_law_1056 ⟨Nat.le_of_ble_eq_true rfl, Nat.le_of_ble_eq_true rfl⟩ (W' := [(qm, .inr (9, [.ref (v 0), .ref (v 1), .ref (v 2), .ref (v 3), .ref (v 4), .ref (v 5), .ref (v 6), .ref (v 7), .ref (v 8), .ref (v 9), .ref (v 10), .ref (v 11), .int 1, .int 0, .int 0, .ref (v 12), .ref (v 13), .ref (v 14), .ref (v 15), .ref (v 16), .ref (v 17), .int 0, .int 0, .ref (v 18), .ref (v 19), .ref (v 20), .ref (v 21), .int 0, .int 0, .ref (v 22), .ref (v 23), .ref (v 24), .ref (v 25), .int 0, .ref (v 26), .int 0])), ((v 19), .inl (cI, 3, .inl (tb []))), ((v 18), .inl (cI, 3, .inl (tb []))), ((v 20), .inl (cI, 4, .inl (tb []))), ((v 21), .inl (cI, 4, .inl (tb []))), ((v 12), .inl (cI, 400000, .inl (tb []))), ((v 13), .inl (cI, 100000, .inl (tb []))), ((v 14), .inl (cI, 6001, .inl (tb []))), ((v 15), .inl (cI, 100000, .inl (tb []))), ((v 16), .inl (cI, 24000, .inl (tb []))), ((v 17), .inl (cI, 6000, .inl (tb [])))]) rfl (fun H locs hP hD hS => ?_)
  refine lv_aload_n hx hb dL_law_1059 rfl (lv_at hl 1 rfl) ?_
  refine lv_aload_n hx hb dL_law_1060 rfl (lv_at hl 3 rfl) ?_
  refine lv_iload_n hx hb dL_law_1061 rfl (lv_at hl 0 rfl) ?_
  refine lv_iconst (v := 1) hx hb dL_law_1062 (by decide) ?_
  refine v_iadd hx hb dL_law_1063 1 (by decide +kernel) ?_
  refine va_sld hx hb hX0 hbl hbA hS (vin (by decide +kernel)) dL_law_1064 ?_
  refine tvi (v := 2) e_y0 ?_
  refine kV_i (q0 := 0) ⟨hx, hb, hml, hown, hts⟩ hK hP hD hS hA hX cv_RL_149 [0, 1, 2, 3, 4, 5, 6, 7, 8, 9, 10] [] (wr := []) rfl rfl rfl rfl (by decide) (c612_X9_count l dC dI cI cJ cII cJJ H.size 0 qm (v 19) (v 18) (v 20) (v 21) (v 12) (v 13) (v 14) (v 15) (v 16) (v 17) (v 0) (v 1) (v 2) (v 3) (v 4) (v 5) (v 6) (v 7) (v 8) (v 9) (v 10) (v 11) (v 22) (v 23) (v 24) (v 25) (v 26)) ⟨by decide +kernel, by decide +kernel⟩ rfl rfl (Or.inl rfl) (rest := [.int 0]) rfl rfl rfl hl.1 rfl (Nat.le_of_ble_eq_true rfl) dL_law_1065 ⟨Nat.le_of_ble_eq_true rfl, Nat.le_of_ble_eq_true rfl⟩ (W' := []) rfl (fun H locs hP hD hS => ?_)
  refine t_icmp_eq hx hb dL_law_1068 1073 (by decide) rfl ?_
  exact law_end l C0 rfl hS hl
set_option maxRecDepth 100000 in
set_option maxHeartbeats 4000000 in
theorem lr_127 {p : Program} {e : Env} {s : State} {m : MethodId} {below : List Frame} {meth : Method} {c : Code} (l : Launch) {b L : Nat} {xs : Nat → Int32} (C0 : lw_At p s m meth c b L xs) (hL : L = 5) {dC : Nat → ClassId} {dI : Nat → Nat → Nat} {cI cJ cII cJJ : ClassId} {g qx qm : Nat} {u v : Nat → Nat} {H : Heap} {locs : List Loc} {ls : Array Slot} (e_y0 : xs 1 = 3) (hK : va_K (dC, dI) vwCl (TY cI cJ cII cJJ) s) (hX : GXA 1 g (AA s) s) (hP : va_P (dC, dI) vwCl (WLD cI cJ cII cJJ qx qm u v) H) (hD : va_D (AA s) (WLD cI cJ cII cJJ qx qm u v)) (hS : va_S (AA s) s.heap H locs) (hl : lv_has ls 4 [(3, .int 0), (2, .ref qm), (1, .ref qx), (0, .ref b)]) : W p l e room_1 s m #[Value.ref b] below meth c H locs 600000 7302250 (lw_Z below #[Value.ref b] s) (F0 m 1050 ls []) := by
  obtain ⟨hx, hb, hr, hml, hown, hts0, hX0, hbl, hlocks, hgv⟩ := id C0
  have hts : ∀ w ∈ TT, w.before #[Value.ref b] s = true := fun w h => hts0 w (TT_tbl h)
  have hA : ∀ q : Nat, s.heap.size ≤ q → AA s q := fun _ h => h
  have hbA : ¬ AA s b := Nat.not_le.mpr hbl
  have hown : s.vm.findClass RL = some m.cls := hown
  subst hL
  refine lv_aload_n hx hb dL_law_1050 rfl (lv_at hl 2 rfl) ?_
  refine lv_aload_n hx hb dL_law_1051 rfl (lv_at hl 3 rfl) ?_
  refine lv_iload_n hx hb dL_law_1052 rfl (lv_at hl 0 rfl) ?_
  refine lv_iconst (v := 1) hx hb dL_law_1053 (by decide) ?_
  refine v_iadd hx hb dL_law_1054 1 (by decide +kernel) ?_
  refine va_sld hx hb hX0 hbl hbA hS (vin (by decide +kernel)) dL_law_1055 ?_
  refine tvi (v := 3) e_y0 ?_
  refine kV_i (q0 := 0) ⟨hx, hb, hml, hown, hts⟩ hK hP hD hS hA hX cv_RL_146 [0, 11, 12, 14, 6, 15, 16, 17, 18, 19, 22, 24, 23, 13] [86, 78, 77, 79, 80, 71, 72, 73, 74, 75, 76] (wr := [(qm, .inr (9, [.ref (v 0), .ref (v 1), .ref (v 2), .ref (v 3), .ref (v 4), .ref (v 5), .ref (v 6), .ref (v 7), .ref (v 8), .ref (v 9), .ref (v 10), .ref (v 11), .int 1, .int 0, .int 0, .ref (v 12), .ref (v 13), .ref (v 14), .ref (v 15), .ref (v 16), .ref (v 17), .int 0, .int 0, .ref (v 18), .ref (v 19), .ref (v 20), .ref (v 21), .int 0, .int 0, .ref (v 22), .ref (v 23), .ref (v 24), .ref (v 25), .int 0, .ref (v 26), .int 0])), ((v 19), .inl (cI, 3, .inl (tb []))), ((v 18), .inl (cI, 3, .inl (tb []))), ((v 20), .inl (cI, 4, .inl (tb []))), ((v 21), .inl (cI, 4, .inl (tb []))), ((v 12), .inl (cI, 400000, .inl (tb []))), ((v 13), .inl (cI, 100000, .inl (tb []))), ((v 14), .inl (cI, 6001, .inl (tb []))), ((v 15), .inl (cI, 100000, .inl (tb []))), ((v 16), .inl (cI, 24000, .inl (tb []))), ((v 17), .inl (cI, 6000, .inl (tb [])))]) rfl rfl rfl rfl (by decide) (c286_X8_count l dC dI cI cJ cII cJJ H.size g qx (u 10) (u 11) (u 13) (u 0) (u 14) (u 15) (u 16) (u 17) (u 18) (u 21) (u 23) (u 22) (u 12) (u 28) (u 51) (u 59) (u 60) (u 61) (u 62) (u 24) (u 19) (u 20) (u 1) (u 5) (u 6) (u 7) (u 8) (u 9)) ⟨by decide +kernel, by decide +kernel⟩ rfl rfl (Or.inr ⟨rfl, rfl, rfl⟩) (rest := []) rfl rfl rfl hl.1 rfl (Nat.le_of_ble_eq_true rfl) dL_law_1056 ⟨Nat.le_of_ble_eq_true rfl, Nat.le_of_ble_eq_true rfl⟩ (W' := [(qm, .inr (9, [.ref (v 0), .ref (v 1), .ref (v 2), .ref (v 3), .ref (v 4), .ref (v 5), .ref (v 6), .ref (v 7), .ref (v 8), .ref (v 9), .ref (v 10), .ref (v 11), .int 1, .int 0, .int 0, .ref (v 12), .ref (v 13), .ref (v 14), .ref (v 15), .ref (v 16), .ref (v 17), .int 0, .int 0, .ref (v 18), .ref (v 19), .ref (v 20), .ref (v 21), .int 0, .int 0, .ref (v 22), .ref (v 23), .ref (v 24), .ref (v 25), .int 0, .ref (v 26), .int 0])), ((v 19), .inl (cI, 3, .inl (tb []))), ((v 18), .inl (cI, 3, .inl (tb []))), ((v 20), .inl (cI, 4, .inl (tb []))), ((v 21), .inl (cI, 4, .inl (tb []))), ((v 12), .inl (cI, 400000, .inl (tb []))), ((v 13), .inl (cI, 100000, .inl (tb []))), ((v 14), .inl (cI, 6001, .inl (tb []))), ((v 15), .inl (cI, 100000, .inl (tb []))), ((v 16), .inl (cI, 24000, .inl (tb []))), ((v 17), .inl (cI, 6000, .inl (tb [])))]) rfl (fun H locs hP hD hS => ?_)
  refine lv_aload_n hx hb dL_law_1059 rfl (lv_at hl 1 rfl) ?_
  refine lv_aload_n hx hb dL_law_1060 rfl (lv_at hl 3 rfl) ?_
  refine lv_iload_n hx hb dL_law_1061 rfl (lv_at hl 0 rfl) ?_
  refine lv_iconst (v := 1) hx hb dL_law_1062 (by decide) ?_
  refine v_iadd hx hb dL_law_1063 1 (by decide +kernel) ?_
  refine va_sld hx hb hX0 hbl hbA hS (vin (by decide +kernel)) dL_law_1064 ?_
  refine tvi (v := 3) e_y0 ?_
  refine kV_i (q0 := 0) ⟨hx, hb, hml, hown, hts⟩ hK hP hD hS hA hX cv_RL_149 [0, 1, 2, 3, 4, 5, 6, 7, 8, 9, 10] [] (wr := []) rfl rfl rfl rfl (by decide) (c613_X9_count l dC dI cI cJ cII cJJ H.size 0 qm (v 19) (v 18) (v 20) (v 21) (v 12) (v 13) (v 14) (v 15) (v 16) (v 17) (v 0) (v 1) (v 2) (v 3) (v 4) (v 5) (v 6) (v 7) (v 8) (v 9) (v 10) (v 11) (v 22) (v 23) (v 24) (v 25) (v 26)) ⟨by decide +kernel, by decide +kernel⟩ rfl rfl (Or.inl rfl) (rest := [.int 0]) rfl rfl rfl hl.1 rfl (Nat.le_of_ble_eq_true rfl) dL_law_1065 ⟨Nat.le_of_ble_eq_true rfl, Nat.le_of_ble_eq_true rfl⟩ (W' := []) rfl (fun H locs hP hD hS => ?_)
  refine t_icmp_eq hx hb dL_law_1068 1073 (by decide) rfl ?_
  exact law_end l C0 rfl hS hl
set_option maxRecDepth 100000 in
set_option maxHeartbeats 4000000 in
theorem lr_128 {p : Program} {e : Env} {s : State} {m : MethodId} {below : List Frame} {meth : Method} {c : Code} (l : Launch) {b L : Nat} {xs : Nat → Int32} (C0 : lw_At p s m meth c b L xs) (hL : L = 5) {dC : Nat → ClassId} {dI : Nat → Nat → Nat} {cI cJ cII cJJ : ClassId} {g qx qm : Nat} {u v : Nat → Nat} {H : Heap} {locs : List Loc} {ls : Array Slot} (e_y0 : xs 1 = 4) (hK : va_K (dC, dI) vwCl (TY cI cJ cII cJJ) s) (hX : GXA 1 g (AA s) s) (hP : va_P (dC, dI) vwCl (WLD cI cJ cII cJJ qx qm u v) H) (hD : va_D (AA s) (WLD cI cJ cII cJJ qx qm u v)) (hS : va_S (AA s) s.heap H locs) (hl : lv_has ls 4 [(3, .int 0), (2, .ref qm), (1, .ref qx), (0, .ref b)]) : W p l e room_1 s m #[Value.ref b] below meth c H locs 600000 7302250 (lw_Z below #[Value.ref b] s) (F0 m 1050 ls []) := by
  obtain ⟨hx, hb, hr, hml, hown, hts0, hX0, hbl, hlocks, hgv⟩ := id C0
  have hts : ∀ w ∈ TT, w.before #[Value.ref b] s = true := fun w h => hts0 w (TT_tbl h)
  have hA : ∀ q : Nat, s.heap.size ≤ q → AA s q := fun _ h => h
  have hbA : ¬ AA s b := Nat.not_le.mpr hbl
  have hown : s.vm.findClass RL = some m.cls := hown
  subst hL
  refine lv_aload_n hx hb dL_law_1050 rfl (lv_at hl 2 rfl) ?_
  refine lv_aload_n hx hb dL_law_1051 rfl (lv_at hl 3 rfl) ?_
  refine lv_iload_n hx hb dL_law_1052 rfl (lv_at hl 0 rfl) ?_
  refine lv_iconst (v := 1) hx hb dL_law_1053 (by decide) ?_
  refine v_iadd hx hb dL_law_1054 1 (by decide +kernel) ?_
  refine va_sld hx hb hX0 hbl hbA hS (vin (by decide +kernel)) dL_law_1055 ?_
  refine tvi (v := 4) e_y0 ?_
  refine kV_i (q0 := 0) ⟨hx, hb, hml, hown, hts⟩ hK hP hD hS hA hX cv_RL_146 [0, 11, 12, 14, 6, 15, 16, 17, 18, 19, 22, 24, 23, 13] [86, 78, 77, 79, 80, 71, 72, 73, 74, 75, 76] (wr := [(qm, .inr (9, [.ref (v 0), .ref (v 1), .ref (v 2), .ref (v 3), .ref (v 4), .ref (v 5), .ref (v 6), .ref (v 7), .ref (v 8), .ref (v 9), .ref (v 10), .ref (v 11), .int 1, .int 0, .int 0, .ref (v 12), .ref (v 13), .ref (v 14), .ref (v 15), .ref (v 16), .ref (v 17), .int 0, .int 0, .ref (v 18), .ref (v 19), .ref (v 20), .ref (v 21), .int 0, .int 0, .ref (v 22), .ref (v 23), .ref (v 24), .ref (v 25), .int 0, .ref (v 26), .int 0])), ((v 19), .inl (cI, 3, .inl (tb []))), ((v 18), .inl (cI, 3, .inl (tb []))), ((v 20), .inl (cI, 4, .inl (tb []))), ((v 21), .inl (cI, 4, .inl (tb []))), ((v 12), .inl (cI, 400000, .inl (tb []))), ((v 13), .inl (cI, 100000, .inl (tb []))), ((v 14), .inl (cI, 6001, .inl (tb []))), ((v 15), .inl (cI, 100000, .inl (tb []))), ((v 16), .inl (cI, 24000, .inl (tb []))), ((v 17), .inl (cI, 6000, .inl (tb [])))]) rfl rfl rfl rfl (by decide) (c288_X8_count l dC dI cI cJ cII cJJ H.size g qx (u 10) (u 11) (u 13) (u 0) (u 14) (u 15) (u 16) (u 17) (u 18) (u 21) (u 23) (u 22) (u 12) (u 28) (u 51) (u 59) (u 60) (u 61) (u 62) (u 24) (u 19) (u 20) (u 1) (u 5) (u 6) (u 7) (u 8) (u 9)) ⟨by decide +kernel, by decide +kernel⟩ rfl rfl (Or.inr ⟨rfl, rfl, rfl⟩) (rest := []) rfl rfl rfl hl.1 rfl (Nat.le_of_ble_eq_true rfl) dL_law_1056 ⟨Nat.le_of_ble_eq_true rfl, Nat.le_of_ble_eq_true rfl⟩ (W' := [(qm, .inr (9, [.ref (v 0), .ref (v 1), .ref (v 2), .ref (v 3), .ref (v 4), .ref (v 5), .ref (v 6), .ref (v 7), .ref (v 8), .ref (v 9), .ref (v 10), .ref (v 11), .int 1, .int 0, .int 0, .ref (v 12), .ref (v 13), .ref (v 14), .ref (v 15), .ref (v 16), .ref (v 17), .int 0, .int 0, .ref (v 18), .ref (v 19), .ref (v 20), .ref (v 21), .int 0, .int 0, .ref (v 22), .ref (v 23), .ref (v 24), .ref (v 25), .int 0, .ref (v 26), .int 0])), ((v 19), .inl (cI, 3, .inl (tb []))), ((v 18), .inl (cI, 3, .inl (tb []))), ((v 20), .inl (cI, 4, .inl (tb []))), ((v 21), .inl (cI, 4, .inl (tb []))), ((v 12), .inl (cI, 400000, .inl (tb []))), ((v 13), .inl (cI, 100000, .inl (tb []))), ((v 14), .inl (cI, 6001, .inl (tb []))), ((v 15), .inl (cI, 100000, .inl (tb []))), ((v 16), .inl (cI, 24000, .inl (tb []))), ((v 17), .inl (cI, 6000, .inl (tb [])))]) rfl (fun H locs hP hD hS => ?_)
  refine lv_aload_n hx hb dL_law_1059 rfl (lv_at hl 1 rfl) ?_
  refine lv_aload_n hx hb dL_law_1060 rfl (lv_at hl 3 rfl) ?_
  refine lv_iload_n hx hb dL_law_1061 rfl (lv_at hl 0 rfl) ?_
  refine lv_iconst (v := 1) hx hb dL_law_1062 (by decide) ?_
  refine v_iadd hx hb dL_law_1063 1 (by decide +kernel) ?_
  refine va_sld hx hb hX0 hbl hbA hS (vin (by decide +kernel)) dL_law_1064 ?_
  refine tvi (v := 4) e_y0 ?_
  refine kV_i (q0 := 0) ⟨hx, hb, hml, hown, hts⟩ hK hP hD hS hA hX cv_RL_149 [0, 1, 2, 3, 4, 5, 6, 7, 8, 9, 10] [] (wr := []) rfl rfl rfl rfl (by decide) (c614_X9_count l dC dI cI cJ cII cJJ H.size 0 qm (v 19) (v 18) (v 20) (v 21) (v 12) (v 13) (v 14) (v 15) (v 16) (v 17) (v 0) (v 1) (v 2) (v 3) (v 4) (v 5) (v 6) (v 7) (v 8) (v 9) (v 10) (v 11) (v 22) (v 23) (v 24) (v 25) (v 26)) ⟨by decide +kernel, by decide +kernel⟩ rfl rfl (Or.inl rfl) (rest := [.int 2]) rfl rfl rfl hl.1 rfl (Nat.le_of_ble_eq_true rfl) dL_law_1065 ⟨Nat.le_of_ble_eq_true rfl, Nat.le_of_ble_eq_true rfl⟩ (W' := []) rfl (fun H locs hP hD hS => ?_)
  refine t_icmp_eq hx hb dL_law_1068 1073 (by decide) rfl ?_
  exact law_end l C0 rfl hS hl
set_option maxRecDepth 100000 in
set_option maxHeartbeats 4000000 in
theorem lr_129 {p : Program} {e : Env} {s : State} {m : MethodId} {below : List Frame} {meth : Method} {c : Code} (l : Launch) {b L : Nat} {xs : Nat → Int32} (C0 : lw_At p s m meth c b L xs) (hL : L = 5) {dC : Nat → ClassId} {dI : Nat → Nat → Nat} {cI cJ cII cJJ : ClassId} {g qx qm : Nat} {u v : Nat → Nat} {H : Heap} {locs : List Loc} {ls : Array Slot} (e_y0 : xs 1 = 5) (hK : va_K (dC, dI) vwCl (TY cI cJ cII cJJ) s) (hX : GXA 1 g (AA s) s) (hP : va_P (dC, dI) vwCl (WLD cI cJ cII cJJ qx qm u v) H) (hD : va_D (AA s) (WLD cI cJ cII cJJ qx qm u v)) (hS : va_S (AA s) s.heap H locs) (hl : lv_has ls 4 [(3, .int 0), (2, .ref qm), (1, .ref qx), (0, .ref b)]) : W p l e room_1 s m #[Value.ref b] below meth c H locs 600000 7302250 (lw_Z below #[Value.ref b] s) (F0 m 1050 ls []) := by
  obtain ⟨hx, hb, hr, hml, hown, hts0, hX0, hbl, hlocks, hgv⟩ := id C0
  have hts : ∀ w ∈ TT, w.before #[Value.ref b] s = true := fun w h => hts0 w (TT_tbl h)
  have hA : ∀ q : Nat, s.heap.size ≤ q → AA s q := fun _ h => h
  have hbA : ¬ AA s b := Nat.not_le.mpr hbl
  have hown : s.vm.findClass RL = some m.cls := hown
  subst hL
  refine lv_aload_n hx hb dL_law_1050 rfl (lv_at hl 2 rfl) ?_
  refine lv_aload_n hx hb dL_law_1051 rfl (lv_at hl 3 rfl) ?_
  refine lv_iload_n hx hb dL_law_1052 rfl (lv_at hl 0 rfl) ?_
  refine lv_iconst (v := 1) hx hb dL_law_1053 (by decide) ?_
  refine v_iadd hx hb dL_law_1054 1 (by decide +kernel) ?_
  refine va_sld hx hb hX0 hbl hbA hS (vin (by decide +kernel)) dL_law_1055 ?_
  refine tvi (v := 5) e_y0 ?_
  refine kV_i (q0 := 0) ⟨hx, hb, hml, hown, hts⟩ hK hP hD hS hA hX cv_RL_146 [0, 52, 59] [86, 67] (wr := [(qm, .inr (9, [.ref (v 0), .ref (v 1), .ref (v 2), .ref (v 3), .ref (v 4), .ref (v 5), .ref (v 6), .ref (v 7), .ref (v 8), .ref (v 9), .ref (v 10), .ref (v 11), .int 1, .int 0, .int 0, .ref (v 12), .ref (v 13), .ref (v 14), .ref (v 15), .ref (v 16), .ref (v 17), .int 0, .int 0, .ref (v 18), .ref (v 19), .ref (v 20), .ref (v 21), .int 0, .int 0, .ref (v 22), .ref (v 23), .ref (v 24), .ref (v 25), .int 0, .ref (v 26), .int 0])), ((v 8), .inl (cI, 4, .inl (tb [(-1), (-1), (-1), (-1)])))]) rfl rfl rfl rfl (by decide) (c290_X8_count l dC dI cI cJ cII cJJ H.size 0 qx (u 51) (u 58) (u 0) (u 10) (u 28) (u 59) (u 60) (u 61) (u 62) (u 52) (u 57)) ⟨by decide +kernel, by decide +kernel⟩ rfl rfl (Or.inl rfl) (rest := []) rfl rfl rfl hl.1 rfl (Nat.le_of_ble_eq_true rfl) dL_law_1056 ⟨Nat.le_of_ble_eq_true rfl, Nat.le_of_ble_eq_true rfl⟩ (W' := [(qm, .inr (9, [.ref (v 0), .ref (v 1), .ref (v 2), .ref (v 3), .ref (v 4), .ref (v 5), .ref (v 6), .ref (v 7), .ref (v 8), .ref (v 9), .ref (v 10), .ref (v 11), .int 1, .int 0, .int 0, .ref (v 12), .ref (v 13), .ref (v 14), .ref (v 15), .ref (v 16), .ref (v 17), .int 0, .int 0, .ref (v 18), .ref (v 19), .ref (v 20), .ref (v 21), .int 0, .int 0, .ref (v 22), .ref (v 23), .ref (v 24), .ref (v 25), .int 0, .ref (v 26), .int 0])), ((v 8), .inl (cI, 4, .inl (tb [(-1), (-1), (-1), (-1)])))]) rfl (fun H locs hP hD hS => ?_)
  refine lv_aload_n hx hb dL_law_1059 rfl (lv_at hl 1 rfl) ?_
  refine lv_aload_n hx hb dL_law_1060 rfl (lv_at hl 3 rfl) ?_
  refine lv_iload_n hx hb dL_law_1061 rfl (lv_at hl 0 rfl) ?_
  refine lv_iconst (v := 1) hx hb dL_law_1062 (by decide) ?_
  refine v_iadd hx hb dL_law_1063 1 (by decide +kernel) ?_
  refine va_sld hx hb hX0 hbl hbA hS (vin (by decide +kernel)) dL_law_1064 ?_
  refine tvi (v := 5) e_y0 ?_
  refine kV_i (q0 := 0) ⟨hx, hb, hml, hown, hts⟩ hK hP hD hS hA hX cv_RL_149 [0, 1] [] (wr := []) rfl rfl rfl rfl (by decide) (c615_X9_count l dC dI cI cJ cII cJJ H.size 0 qm (v 8) (v 0) (v 1) (v 2) (v 3) (v 4) (v 5) (v 6) (v 7) (v 9) (v 10) (v 11) (v 12) (v 13) (v 14) (v 15) (v 16) (v 17) (v 18) (v 19) (v 20) (v 21) (v 22) (v 23) (v 24) (v 25) (v 26)) ⟨by decide +kernel, by decide +kernel⟩ rfl rfl (Or.inl rfl) (rest := [.int 0]) rfl rfl rfl hl.1 rfl (Nat.le_of_ble_eq_true rfl) dL_law_1065 ⟨Nat.le_of_ble_eq_true rfl, Nat.le_of_ble_eq_true rfl⟩ (W' := []) rfl (fun H locs hP hD hS => ?_)
  refine t_icmp_eq hx hb dL_law_1068 1073 (by decide) rfl ?_
  exact law_end l C0 rfl hS hl
set_option maxRecDepth 100000 in
set_option maxHeartbeats 4000000 in
theorem lr_130 {p : Program} {e : Env} {s : State} {m : MethodId} {below : List Frame} {meth : Method} {c : Code} (l : Launch) {b L : Nat} {xs : Nat → Int32} (C0 : lw_At p s m meth c b L xs) (hL : L = 5) {dC : Nat → ClassId} {dI : Nat → Nat → Nat} {cI cJ cII cJJ : ClassId} {g qx qm : Nat} {u v : Nat → Nat} {H : Heap} {locs : List Loc} {ls : Array Slot} (e_y0 : xs 1 = 6) (hK : va_K (dC, dI) vwCl (TY cI cJ cII cJJ) s) (hX : GXA 1 g (AA s) s) (hP : va_P (dC, dI) vwCl (WLD cI cJ cII cJJ qx qm u v) H) (hD : va_D (AA s) (WLD cI cJ cII cJJ qx qm u v)) (hS : va_S (AA s) s.heap H locs) (hl : lv_has ls 4 [(3, .int 0), (2, .ref qm), (1, .ref qx), (0, .ref b)]) : W p l e room_1 s m #[Value.ref b] below meth c H locs 600000 7302250 (lw_Z below #[Value.ref b] s) (F0 m 1050 ls []) := by
  obtain ⟨hx, hb, hr, hml, hown, hts0, hX0, hbl, hlocks, hgv⟩ := id C0
  have hts : ∀ w ∈ TT, w.before #[Value.ref b] s = true := fun w h => hts0 w (TT_tbl h)
  have hA : ∀ q : Nat, s.heap.size ≤ q → AA s q := fun _ h => h
  have hbA : ¬ AA s b := Nat.not_le.mpr hbl
  have hown : s.vm.findClass RL = some m.cls := hown
  subst hL
  refine lv_aload_n hx hb dL_law_1050 rfl (lv_at hl 2 rfl) ?_
  refine lv_aload_n hx hb dL_law_1051 rfl (lv_at hl 3 rfl) ?_
  refine lv_iload_n hx hb dL_law_1052 rfl (lv_at hl 0 rfl) ?_
  refine lv_iconst (v := 1) hx hb dL_law_1053 (by decide) ?_
  refine v_iadd hx hb dL_law_1054 1 (by decide +kernel) ?_
  refine va_sld hx hb hX0 hbl hbA hS (vin (by decide +kernel)) dL_law_1055 ?_
  refine tvi (v := 6) e_y0 ?_
  refine kV_i (q0 := 0) ⟨hx, hb, hml, hown, hts⟩ hK hP hD hS hA hX cv_RL_146 [0, 6, 60] [86, 78, 77, 79, 80, 71, 72, 73, 74, 75, 76, 91] (wr := [(qm, .inr (9, [.ref (v 0), .ref (v 1), .ref (v 2), .ref (v 3), .ref (v 4), .ref (v 5), .ref (v 6), .ref (v 7), .ref (v 8), .ref (v 9), .ref (v 10), .ref (v 11), .int 1, .int 0, .int 0, .ref (v 12), .ref (v 13), .ref (v 14), .ref (v 15), .ref (v 16), .ref (v 17), .int 0, .int 0, .ref (v 18), .ref (v 19), .ref (v 20), .ref (v 21), .int 0, .int 0, .ref (v 22), .ref (v 23), .ref (v 24), .ref (v 25), .int 0, .ref (v 26), .int 0])), ((v 19), .inl (cI, 3, .inl (tb []))), ((v 18), .inl (cI, 3, .inl (tb []))), ((v 20), .inl (cI, 4, .inl (tb []))), ((v 21), .inl (cI, 4, .inl (tb []))), ((v 12), .inl (cI, 400000, .inl (tb []))), ((v 13), .inl (cI, 100000, .inl (tb []))), ((v 14), .inl (cI, 6001, .inl (tb []))), ((v 15), .inl (cI, 100000, .inl (tb []))), ((v 16), .inl (cI, 24000, .inl (tb []))), ((v 17), .inl (cI, 6000, .inl (tb []))), ((v 6), .inl (cI, 4, .inl (tb [0, 0, 0, 0])))]) rfl rfl rfl rfl (by decide) (c292_X8_count l dC dI cI cJ cII cJJ H.size 0 qx (u 0) (u 59) (u 10) (u 28) (u 51) (u 60) (u 61) (u 62) (u 1) (u 5) (u 6) (u 7) (u 8) (u 9)) ⟨by decide +kernel, by decide +kernel⟩ rfl rfl (Or.inl rfl) (rest := []) rfl rfl rfl hl.1 rfl (Nat.le_of_ble_eq_true rfl) dL_law_1056 ⟨Nat.le_of_ble_eq_true rfl, Nat.le_of_ble_eq_true rfl⟩ (W' := [(qm, .inr (9, [.ref (v 0), .ref (v 1), .ref (v 2), .ref (v 3), .ref (v 4), .ref (v 5), .ref (v 6), .ref (v 7), .ref (v 8), .ref (v 9), .ref (v 10), .ref (v 11), .int 1, .int 0, .int 0, .ref (v 12), .ref (v 13), .ref (v 14), .ref (v 15), .ref (v 16), .ref (v 17), .int 0, .int 0, .ref (v 18), .ref (v 19), .ref (v 20), .ref (v 21), .int 0, .int 0, .ref (v 22), .ref (v 23), .ref (v 24), .ref (v 25), .int 0, .ref (v 26), .int 0])), ((v 19), .inl (cI, 3, .inl (tb []))), ((v 18), .inl (cI, 3, .inl (tb []))), ((v 20), .inl (cI, 4, .inl (tb []))), ((v 21), .inl (cI, 4, .inl (tb []))), ((v 12), .inl (cI, 400000, .inl (tb []))), ((v 13), .inl (cI, 100000, .inl (tb []))), ((v 14), .inl (cI, 6001, .inl (tb []))), ((v 15), .inl (cI, 100000, .inl (tb []))), ((v 16), .inl (cI, 24000, .inl (tb []))), ((v 17), .inl (cI, 6000, .inl (tb []))), ((v 6), .inl (cI, 4, .inl (tb [0, 0, 0, 0])))]) rfl (fun H locs hP hD hS => ?_)
  refine lv_aload_n hx hb dL_law_1059 rfl (lv_at hl 1 rfl) ?_
  refine lv_aload_n hx hb dL_law_1060 rfl (lv_at hl 3 rfl) ?_
  refine lv_iload_n hx hb dL_law_1061 rfl (lv_at hl 0 rfl) ?_
  refine lv_iconst (v := 1) hx hb dL_law_1062 (by decide) ?_
  refine v_iadd hx hb dL_law_1063 1 (by decide +kernel) ?_
  refine va_sld hx hb hX0 hbl hbA hS (vin (by decide +kernel)) dL_law_1064 ?_
  refine tvi (v := 6) e_y0 ?_
  refine kV_i (q0 := 0) ⟨hx, hb, hml, hown, hts⟩ hK hP hD hS hA hX cv_RL_149 [0, 1, 2, 3, 4, 5, 6, 7, 8, 9, 10, 11] [] (wr := []) rfl rfl rfl rfl (by decide) (c616_X9_count l dC dI cI cJ cII cJJ H.size 0 qm (v 19) (v 18) (v 20) (v 21) (v 12) (v 13) (v 14) (v 15) (v 16) (v 17) (v 6) (v 0) (v 1) (v 2) (v 3) (v 4) (v 5) (v 7) (v 8) (v 9) (v 10) (v 11) (v 22) (v 23) (v 24) (v 25) (v 26)) ⟨by decide +kernel, by decide +kernel⟩ rfl rfl (Or.inl rfl) (rest := [.int 0]) rfl rfl rfl hl.1 rfl (Nat.le_of_ble_eq_true rfl) dL_law_1065 ⟨Nat.le_of_ble_eq_true rfl, Nat.le_of_ble_eq_true rfl⟩ (W' := []) rfl (fun H locs hP hD hS => ?_)
  refine t_icmp_eq hx hb dL_law_1068 1073 (by decide) rfl ?_
  exact law_end l C0 rfl hS hl
set_option maxRecDepth 100000 in
set_option maxHeartbeats 4000000 in
theorem lr_131 {p : Program} {e : Env} {s : State} {m : MethodId} {below : List Frame} {meth : Method} {c : Code} (l : Launch) {b L : Nat} {xs : Nat → Int32} (C0 : lw_At p s m meth c b L xs) (hL : L = 5) {dC : Nat → ClassId} {dI : Nat → Nat → Nat} {cI cJ cII cJJ : ClassId} {g qx qm : Nat} {u v : Nat → Nat} {H : Heap} {locs : List Loc} {ls : Array Slot} (y0 : Int32) (h_y0 : 7 ≤ y0.toInt ∧ y0.toInt ≤ 10) (e_y0 : xs 1 = y0) (hK : va_K (dC, dI) vwCl (TY cI cJ cII cJJ) s) (hX : GXA 1 g (AA s) s) (hP : va_P (dC, dI) vwCl (WLD cI cJ cII cJJ qx qm u v) H) (hD : va_D (AA s) (WLD cI cJ cII cJJ qx qm u v)) (hS : va_S (AA s) s.heap H locs) (hl : lv_has ls 4 [(3, .int 0), (2, .ref qm), (1, .ref qx), (0, .ref b)]) : W p l e room_1 s m #[Value.ref b] below meth c H locs 600000 7302250 (lw_Z below #[Value.ref b] s) (F0 m 1050 ls []) := by
  obtain ⟨hx, hb, hr, hml, hown, hts0, hX0, hbl, hlocks, hgv⟩ := id C0
  have hts : ∀ w ∈ TT, w.before #[Value.ref b] s = true := fun w h => hts0 w (TT_tbl h)
  have hA : ∀ q : Nat, s.heap.size ≤ q → AA s q := fun _ h => h
  have hbA : ¬ AA s b := Nat.not_le.mpr hbl
  have hown : s.vm.findClass RL = some m.cls := hown
  subst hL
  refine lv_aload_n hx hb dL_law_1050 rfl (lv_at hl 2 rfl) ?_
  refine lv_aload_n hx hb dL_law_1051 rfl (lv_at hl 3 rfl) ?_
  refine lv_iload_n hx hb dL_law_1052 rfl (lv_at hl 0 rfl) ?_
  refine lv_iconst (v := 1) hx hb dL_law_1053 (by decide) ?_
  refine v_iadd hx hb dL_law_1054 1 (by decide +kernel) ?_
  refine va_sld hx hb hX0 hbl hbA hS (vin (by decide +kernel)) dL_law_1055 ?_
  refine tvi (v := y0) e_y0 ?_
  refine kV_i (q0 := 0) ⟨hx, hb, hml, hown, hts⟩ hK hP hD hS hA hX cv_RL_146 [0] [86] (wr := [(qm, .inr (9, [.ref (v 0), .ref (v 1), .ref (v 2), .ref (v 3), .ref (v 4), .ref (v 5), .ref (v 6), .ref (v 7), .ref (v 8), .ref (v 9), .ref (v 10), .ref (v 11), .int 1, .int 0, .int 0, .ref (v 12), .ref (v 13), .ref (v 14), .ref (v 15), .ref (v 16), .ref (v 17), .int 0, .int 0, .ref (v 18), .ref (v 19), .ref (v 20), .ref (v 21), .int 0, .int 0, .ref (v 22), .ref (v 23), .ref (v 24), .ref (v 25), .int 0, .ref (v 26), .int 0]))]) rfl rfl rfl rfl (by decide) (c293_X8_count l dC dI cI cJ cII cJJ H.size 0 qx (u 0) (u 10) (u 28) (u 51) (u 59) (u 60) (u 61) (u 62) y0 h_y0) ⟨by decide +kernel, by decide +kernel⟩ rfl rfl (Or.inl rfl) (rest := []) rfl rfl rfl hl.1 rfl (Nat.le_of_ble_eq_true rfl) dL_law_1056 ⟨Nat.le_of_ble_eq_true rfl, Nat.le_of_ble_eq_true rfl⟩ (W' := [(qm, .inr (9, [.ref (v 0), .ref (v 1), .ref (v 2), .ref (v 3), .ref (v 4), .ref (v 5), .ref (v 6), .ref (v 7), .ref (v 8), .ref (v 9), .ref (v 10), .ref (v 11), .int 1, .int 0, .int 0, .ref (v 12), .ref (v 13), .ref (v 14), .ref (v 15), .ref (v 16), .ref (v 17), .int 0, .int 0, .ref (v 18), .ref (v 19), .ref (v 20), .ref (v 21), .int 0, .int 0, .ref (v 22), .ref (v 23), .ref (v 24), .ref (v 25), .int 0, .ref (v 26), .int 0]))]) rfl (fun H locs hP hD hS => ?_)
  refine lv_aload_n hx hb dL_law_1059 rfl (lv_at hl 1 rfl) ?_
  refine lv_aload_n hx hb dL_law_1060 rfl (lv_at hl 3 rfl) ?_
  refine lv_iload_n hx hb dL_law_1061 rfl (lv_at hl 0 rfl) ?_
  refine lv_iconst (v := 1) hx hb dL_law_1062 (by decide) ?_
  refine v_iadd hx hb dL_law_1063 1 (by decide +kernel) ?_
  refine va_sld hx hb hX0 hbl hbA hS (vin (by decide +kernel)) dL_law_1064 ?_
  refine tvi (v := y0) e_y0 ?_
  refine kV_i (q0 := 0) ⟨hx, hb, hml, hown, hts⟩ hK hP hD hS hA hX cv_RL_149 [0] [] (wr := []) rfl rfl rfl rfl (by decide) (c617_X9_count l dC dI cI cJ cII cJJ H.size 0 qm (v 0) (v 1) (v 2) (v 3) (v 4) (v 5) (v 6) (v 7) (v 8) (v 9) (v 10) (v 11) (v 12) (v 13) (v 14) (v 15) (v 16) (v 17) (v 18) (v 19) (v 20) (v 21) (v 22) (v 23) (v 24) (v 25) (v 26) y0 h_y0) ⟨by decide +kernel, by decide +kernel⟩ rfl rfl (Or.inl rfl) (rest := [.int (-99999)]) rfl rfl rfl hl.1 rfl (Nat.le_of_ble_eq_true rfl) dL_law_1065 ⟨Nat.le_of_ble_eq_true rfl, Nat.le_of_ble_eq_true rfl⟩ (W' := []) rfl (fun H locs hP hD hS => ?_)
  refine t_icmp_eq hx hb dL_law_1068 1073 (by decide) rfl ?_
  exact law_end l C0 rfl hS hl
set_option maxRecDepth 100000 in
set_option maxHeartbeats 4000000 in
theorem lr_132 {p : Program} {e : Env} {s : State} {m : MethodId} {below : List Frame} {meth : Method} {c : Code} (l : Launch) {b L : Nat} {xs : Nat → Int32} (C0 : lw_At p s m meth c b L xs) (hL : L = 5) {dC : Nat → ClassId} {dI : Nat → Nat → Nat} {cI cJ cII cJJ : ClassId} {g qx qm : Nat} {u v : Nat → Nat} {H : Heap} {locs : List Loc} {ls : Array Slot} (e_y0 : xs 1 = 11) (hK : va_K (dC, dI) vwCl (TY cI cJ cII cJJ) s) (hX : GXA 1 g (AA s) s) (hP : va_P (dC, dI) vwCl (WLD cI cJ cII cJJ qx qm u v) H) (hD : va_D (AA s) (WLD cI cJ cII cJJ qx qm u v)) (hS : va_S (AA s) s.heap H locs) (hl : lv_has ls 4 [(3, .int 0), (2, .ref qm), (1, .ref qx), (0, .ref b)]) : W p l e room_1 s m #[Value.ref b] below meth c H locs 600000 7302250 (lw_Z below #[Value.ref b] s) (F0 m 1050 ls []) := by
  obtain ⟨hx, hb, hr, hml, hown, hts0, hX0, hbl, hlocks, hgv⟩ := id C0
  have hts : ∀ w ∈ TT, w.before #[Value.ref b] s = true := fun w h => hts0 w (TT_tbl h)
  have hA : ∀ q : Nat, s.heap.size ≤ q → AA s q := fun _ h => h
  have hbA : ¬ AA s b := Nat.not_le.mpr hbl
  have hown : s.vm.findClass RL = some m.cls := hown
  subst hL
  refine lv_aload_n hx hb dL_law_1050 rfl (lv_at hl 2 rfl) ?_
  refine lv_aload_n hx hb dL_law_1051 rfl (lv_at hl 3 rfl) ?_
  refine lv_iload_n hx hb dL_law_1052 rfl (lv_at hl 0 rfl) ?_
  refine lv_iconst (v := 1) hx hb dL_law_1053 (by decide) ?_
  refine v_iadd hx hb dL_law_1054 1 (by decide +kernel) ?_
  refine va_sld hx hb hX0 hbl hbA hS (vin (by decide +kernel)) dL_law_1055 ?_
  refine tvi (v := 11) e_y0 ?_
  refine kV_i (q0 := 0) ⟨hx, hb, hml, hown, hts⟩ hK hP hD hS hA hX cv_RL_146 [0, 63] [86, 66] (wr := [(qm, .inr (9, [.ref (v 0), .ref (v 1), .ref (v 2), .ref (v 3), .ref (v 4), .ref (v 5), .ref (v 6), .ref (v 7), .ref (v 8), .ref (v 9), .ref (v 10), .ref (v 11), .int 1, .int 0, .int 0, .ref (v 12), .ref (v 13), .ref (v 14), .ref (v 15), .ref (v 16), .ref (v 17), .int 0, .int 0, .ref (v 18), .ref (v 19), .ref (v 20), .ref (v 21), .int 0, .int 0, .ref (v 22), .ref (v 23), .ref (v 24), .ref (v 25), .int 0, .ref (v 26), .int 0])), ((v 7), .inl (cI, 8, .inl (tb [])))]) rfl rfl rfl rfl (by decide) (c294_X8_count l dC dI cI cJ cII cJJ H.size 0 qx (u 62) (u 0) (u 10) (u 28) (u 51) (u 59) (u 60) (u 61)) ⟨by decide +kernel, by decide +kernel⟩ rfl rfl (Or.inl rfl) (rest := []) rfl rfl rfl hl.1 rfl (Nat.le_of_ble_eq_true rfl) dL_law_1056 ⟨Nat.le_of_ble_eq_true rfl, Nat.le_of_ble_eq_true rfl⟩ (W' := [(qm, .inr (9, [.ref (v 0), .ref (v 1), .ref (v 2), .ref (v 3), .ref (v 4), .ref (v 5), .ref (v 6), .ref (v 7), .ref (v 8), .ref (v 9), .ref (v 10), .ref (v 11), .int 1, .int 0, .int 0, .ref (v 12), .ref (v 13), .ref (v 14), .ref (v 15), .ref (v 16), .ref (v 17), .int 0, .int 0, .ref (v 18), .ref (v 19), .ref (v 20), .ref (v 21), .int 0, .int 0, .ref (v 22), .ref (v 23), .ref (v 24), .ref (v 25), .int 0, .ref (v 26), .int 0])), ((v 7), .inl (cI, 8, .inl (tb [])))]) rfl (fun H locs hP hD hS => ?_)
  refine lv_aload_n hx hb dL_law_1059 rfl (lv_at hl 1 rfl) ?_
  refine lv_aload_n hx hb dL_law_1060 rfl (lv_at hl 3 rfl) ?_
  refine lv_iload_n hx hb dL_law_1061 rfl (lv_at hl 0 rfl) ?_
  refine lv_iconst (v := 1) hx hb dL_law_1062 (by decide) ?_
  refine v_iadd hx hb dL_law_1063 1 (by decide +kernel) ?_
  refine va_sld hx hb hX0 hbl hbA hS (vin (by decide +kernel)) dL_law_1064 ?_
  refine tvi (v := 11) e_y0 ?_
  refine kV_i (q0 := 0) ⟨hx, hb, hml, hown, hts⟩ hK hP hD hS hA hX cv_RL_149 [0, 1] [] (wr := []) rfl rfl rfl rfl (by decide) (c618_X9_count l dC dI cI cJ cII cJJ H.size 0 qm (v 7) (v 0) (v 1) (v 2) (v 3) (v 4) (v 5) (v 6) (v 8) (v 9) (v 10) (v 11) (v 12) (v 13) (v 14) (v 15) (v 16) (v 17) (v 18) (v 19) (v 20) (v 21) (v 22) (v 23) (v 24) (v 25) (v 26)) ⟨by decide +kernel, by decide +kernel⟩ rfl rfl (Or.inl rfl) (rest := [.int 0]) rfl rfl rfl hl.1 rfl (Nat.le_of_ble_eq_true rfl) dL_law_1065 ⟨Nat.le_of_ble_eq_true rfl, Nat.le_of_ble_eq_true rfl⟩ (W' := []) rfl (fun H locs hP hD hS => ?_)
  refine t_icmp_eq hx hb dL_law_1068 1073 (by decide) rfl ?_
  exact law_end l C0 rfl hS hl
set_option maxRecDepth 100000 in
set_option maxHeartbeats 4000000 in
theorem lr_133 {p : Program} {e : Env} {s : State} {m : MethodId} {below : List Frame} {meth : Method} {c : Code} (l : Launch) {b L : Nat} {xs : Nat → Int32} (C0 : lw_At p s m meth c b L xs) (hL : L = 5) {dC : Nat → ClassId} {dI : Nat → Nat → Nat} {cI cJ cII cJJ : ClassId} {g qx qm : Nat} {u v : Nat → Nat} {H : Heap} {locs : List Loc} {ls : Array Slot} (e_y0 : xs 1 = 12) (hK : va_K (dC, dI) vwCl (TY cI cJ cII cJJ) s) (hX : GXA 1 g (AA s) s) (hP : va_P (dC, dI) vwCl (WLD cI cJ cII cJJ qx qm u v) H) (hD : va_D (AA s) (WLD cI cJ cII cJJ qx qm u v)) (hS : va_S (AA s) s.heap H locs) (hl : lv_has ls 4 [(3, .int 0), (2, .ref qm), (1, .ref qx), (0, .ref b)]) : W p l e room_1 s m #[Value.ref b] below meth c H locs 600000 7302250 (lw_Z below #[Value.ref b] s) (F0 m 1050 ls []) := by
  obtain ⟨hx, hb, hr, hml, hown, hts0, hX0, hbl, hlocks, hgv⟩ := id C0
  have hts : ∀ w ∈ TT, w.before #[Value.ref b] s = true := fun w h => hts0 w (TT_tbl h)
  have hA : ∀ q : Nat, s.heap.size ≤ q → AA s q := fun _ h => h
  have hbA : ¬ AA s b := Nat.not_le.mpr hbl
  have hown : s.vm.findClass RL = some m.cls := hown
  subst hL
  refine lv_aload_n hx hb dL_law_1050 rfl (lv_at hl 2 rfl) ?_
  refine lv_aload_n hx hb dL_law_1051 rfl (lv_at hl 3 rfl) ?_
  refine lv_iload_n hx hb dL_law_1052 rfl (lv_at hl 0 rfl) ?_
  refine lv_iconst (v := 1) hx hb dL_law_1053 (by decide) ?_
  refine v_iadd hx hb dL_law_1054 1 (by decide +kernel) ?_
  refine va_sld hx hb hX0 hbl hbA hS (vin (by decide +kernel)) dL_law_1055 ?_
  refine tvi (v := 12) e_y0 ?_
  refine kV_i (q0 := 0) ⟨hx, hb, hml, hown, hts⟩ hK hP hD hS hA hX cv_RL_146 [0, 63] [86, 66] (wr := [(qm, .inr (9, [.ref (v 0), .ref (v 1), .ref (v 2), .ref (v 3), .ref (v 4), .ref (v 5), .ref (v 6), .ref (v 7), .ref (v 8), .ref (v 9), .ref (v 10), .ref (v 11), .int 1, .int 0, .int 0, .ref (v 12), .ref (v 13), .ref (v 14), .ref (v 15), .ref (v 16), .ref (v 17), .int 0, .int 0, .ref (v 18), .ref (v 19), .ref (v 20), .ref (v 21), .int 0, .int 0, .ref (v 22), .ref (v 23), .ref (v 24), .ref (v 25), .int 0, .ref (v 26), .int 0])), ((v 7), .inl (cI, 8, .inl (tb [])))]) rfl rfl rfl rfl (by decide) (c295_X8_count l dC dI cI cJ cII cJJ H.size 0 qx (u 62) (u 0) (u 10) (u 28) (u 51) (u 59) (u 60) (u 61)) ⟨by decide +kernel, by decide +kernel⟩ rfl rfl (Or.inl rfl) (rest := []) rfl rfl rfl hl.1 rfl (Nat.le_of_ble_eq_true rfl) dL_law_1056 ⟨Nat.le_of_ble_eq_true rfl, Nat.le_of_ble_eq_true rfl⟩ (W' := [(qm, .inr (9, [.ref (v 0), .ref (v 1), .ref (v 2), .ref (v 3), .ref (v 4), .ref (v 5), .ref (v 6), .ref (v 7), .ref (v 8), .ref (v 9), .ref (v 10), .ref (v 11), .int 1, .int 0, .int 0, .ref (v 12), .ref (v 13), .ref (v 14), .ref (v 15), .ref (v 16), .ref (v 17), .int 0, .int 0, .ref (v 18), .ref (v 19), .ref (v 20), .ref (v 21), .int 0, .int 0, .ref (v 22), .ref (v 23), .ref (v 24), .ref (v 25), .int 0, .ref (v 26), .int 0])), ((v 7), .inl (cI, 8, .inl (tb [])))]) rfl (fun H locs hP hD hS => ?_)
  refine lv_aload_n hx hb dL_law_1059 rfl (lv_at hl 1 rfl) ?_
  refine lv_aload_n hx hb dL_law_1060 rfl (lv_at hl 3 rfl) ?_
  refine lv_iload_n hx hb dL_law_1061 rfl (lv_at hl 0 rfl) ?_
  refine lv_iconst (v := 1) hx hb dL_law_1062 (by decide) ?_
  refine v_iadd hx hb dL_law_1063 1 (by decide +kernel) ?_
  refine va_sld hx hb hX0 hbl hbA hS (vin (by decide +kernel)) dL_law_1064 ?_
  refine tvi (v := 12) e_y0 ?_
  refine kV_i (q0 := 0) ⟨hx, hb, hml, hown, hts⟩ hK hP hD hS hA hX cv_RL_149 [0, 1] [] (wr := []) rfl rfl rfl rfl (by decide) (c619_X9_count l dC dI cI cJ cII cJJ H.size 0 qm (v 7) (v 0) (v 1) (v 2) (v 3) (v 4) (v 5) (v 6) (v 8) (v 9) (v 10) (v 11) (v 12) (v 13) (v 14) (v 15) (v 16) (v 17) (v 18) (v 19) (v 20) (v 21) (v 22) (v 23) (v 24) (v 25) (v 26)) ⟨by decide +kernel, by decide +kernel⟩ rfl rfl (Or.inl rfl) (rest := [.int 0]) rfl rfl rfl hl.1 rfl (Nat.le_of_ble_eq_true rfl) dL_law_1065 ⟨Nat.le_of_ble_eq_true rfl, Nat.le_of_ble_eq_true rfl⟩ (W' := []) rfl (fun H locs hP hD hS => ?_)
  refine t_icmp_eq hx hb dL_law_1068 1073 (by decide) rfl ?_
  exact law_end l C0 rfl hS hl
set_option maxRecDepth 100000 in
set_option maxHeartbeats 4000000 in
theorem lr_134 {p : Program} {e : Env} {s : State} {m : MethodId} {below : List Frame} {meth : Method} {c : Code} (l : Launch) {b L : Nat} {xs : Nat → Int32} (C0 : lw_At p s m meth c b L xs) (hL : L = 5) {dC : Nat → ClassId} {dI : Nat → Nat → Nat} {cI cJ cII cJJ : ClassId} {g qx qm : Nat} {u v : Nat → Nat} {H : Heap} {locs : List Loc} {ls : Array Slot} (e_y0 : xs 1 = 13) (hK : va_K (dC, dI) vwCl (TY cI cJ cII cJJ) s) (hX : GXA 1 g (AA s) s) (hP : va_P (dC, dI) vwCl (WLD cI cJ cII cJJ qx qm u v) H) (hD : va_D (AA s) (WLD cI cJ cII cJJ qx qm u v)) (hS : va_S (AA s) s.heap H locs) (hl : lv_has ls 4 [(3, .int 0), (2, .ref qm), (1, .ref qx), (0, .ref b)]) : W p l e room_1 s m #[Value.ref b] below meth c H locs 600000 7302250 (lw_Z below #[Value.ref b] s) (F0 m 1050 ls []) := by
  obtain ⟨hx, hb, hr, hml, hown, hts0, hX0, hbl, hlocks, hgv⟩ := id C0
  have hts : ∀ w ∈ TT, w.before #[Value.ref b] s = true := fun w h => hts0 w (TT_tbl h)
  have hA : ∀ q : Nat, s.heap.size ≤ q → AA s q := fun _ h => h
  have hbA : ¬ AA s b := Nat.not_le.mpr hbl
  have hown : s.vm.findClass RL = some m.cls := hown
  subst hL
  refine lv_aload_n hx hb dL_law_1050 rfl (lv_at hl 2 rfl) ?_
  refine lv_aload_n hx hb dL_law_1051 rfl (lv_at hl 3 rfl) ?_
  refine lv_iload_n hx hb dL_law_1052 rfl (lv_at hl 0 rfl) ?_
  refine lv_iconst (v := 1) hx hb dL_law_1053 (by decide) ?_
  refine v_iadd hx hb dL_law_1054 1 (by decide +kernel) ?_
  refine va_sld hx hb hX0 hbl hbA hS (vin (by decide +kernel)) dL_law_1055 ?_
  refine tvi (v := 13) e_y0 ?_
  refine kV_i (q0 := 0) ⟨hx, hb, hml, hown, hts⟩ hK hP hD hS hA hX cv_RL_146 [0, 63] [86, 66] (wr := [(qm, .inr (9, [.ref (v 0), .ref (v 1), .ref (v 2), .ref (v 3), .ref (v 4), .ref (v 5), .ref (v 6), .ref (v 7), .ref (v 8), .ref (v 9), .ref (v 10), .ref (v 11), .int 1, .int 0, .int 0, .ref (v 12), .ref (v 13), .ref (v 14), .ref (v 15), .ref (v 16), .ref (v 17), .int 0, .int 0, .ref (v 18), .ref (v 19), .ref (v 20), .ref (v 21), .int 0, .int 0, .ref (v 22), .ref (v 23), .ref (v 24), .ref (v 25), .int 0, .ref (v 26), .int 0])), ((v 7), .inl (cI, 8, .inl (tb [])))]) rfl rfl rfl rfl (by decide) (c296_X8_count l dC dI cI cJ cII cJJ H.size 0 qx (u 62) (u 0) (u 10) (u 28) (u 51) (u 59) (u 60) (u 61)) ⟨by decide +kernel, by decide +kernel⟩ rfl rfl (Or.inl rfl) (rest := []) rfl rfl rfl hl.1 rfl (Nat.le_of_ble_eq_true rfl) dL_law_1056 ⟨Nat.le_of_ble_eq_true rfl, Nat.le_of_ble_eq_true rfl⟩ (W' := [(qm, .inr (9, [.ref (v 0), .ref (v 1), .ref (v 2), .ref (v 3), .ref (v 4), .ref (v 5), .ref (v 6), .ref (v 7), .ref (v 8), .ref (v 9), .ref (v 10), .ref (v 11), .int 1, .int 0, .int 0, .ref (v 12), .ref (v 13), .ref (v 14), .ref (v 15), .ref (v 16), .ref (v 17), .int 0, .int 0, .ref (v 18), .ref (v 19), .ref (v 20), .ref (v 21), .int 0, .int 0, .ref (v 22), .ref (v 23), .ref (v 24), .ref (v 25), .int 0, .ref (v 26), .int 0])), ((v 7), .inl (cI, 8, .inl (tb [])))]) rfl (fun H locs hP hD hS => ?_)
  refine lv_aload_n hx hb dL_law_1059 rfl (lv_at hl 1 rfl) ?_
  refine lv_aload_n hx hb dL_law_1060 rfl (lv_at hl 3 rfl) ?_
  refine lv_iload_n hx hb dL_law_1061 rfl (lv_at hl 0 rfl) ?_
  refine lv_iconst (v := 1) hx hb dL_law_1062 (by decide) ?_
  refine v_iadd hx hb dL_law_1063 1 (by decide +kernel) ?_
  refine va_sld hx hb hX0 hbl hbA hS (vin (by decide +kernel)) dL_law_1064 ?_
  refine tvi (v := 13) e_y0 ?_
  refine kV_i (q0 := 0) ⟨hx, hb, hml, hown, hts⟩ hK hP hD hS hA hX cv_RL_149 [0, 1] [] (wr := []) rfl rfl rfl rfl (by decide) (c620_X9_count l dC dI cI cJ cII cJJ H.size 0 qm (v 7) (v 0) (v 1) (v 2) (v 3) (v 4) (v 5) (v 6) (v 8) (v 9) (v 10) (v 11) (v 12) (v 13) (v 14) (v 15) (v 16) (v 17) (v 18) (v 19) (v 20) (v 21) (v 22) (v 23) (v 24) (v 25) (v 26)) ⟨by decide +kernel, by decide +kernel⟩ rfl rfl (Or.inl rfl) (rest := [.int 0]) rfl rfl rfl hl.1 rfl (Nat.le_of_ble_eq_true rfl) dL_law_1065 ⟨Nat.le_of_ble_eq_true rfl, Nat.le_of_ble_eq_true rfl⟩ (W' := []) rfl (fun H locs hP hD hS => ?_)
  refine t_icmp_eq hx hb dL_law_1068 1073 (by decide) rfl ?_
  exact law_end l C0 rfl hS hl
set_option maxRecDepth 100000 in
set_option maxHeartbeats 4000000 in
theorem lr_135 {p : Program} {e : Env} {s : State} {m : MethodId} {below : List Frame} {meth : Method} {c : Code} (l : Launch) {b L : Nat} {xs : Nat → Int32} (C0 : lw_At p s m meth c b L xs) (hL : L = 5) {dC : Nat → ClassId} {dI : Nat → Nat → Nat} {cI cJ cII cJJ : ClassId} {g qx qm : Nat} {u v : Nat → Nat} {H : Heap} {locs : List Loc} {ls : Array Slot} (e_y0 : xs 1 = 14) (hK : va_K (dC, dI) vwCl (TY cI cJ cII cJJ) s) (hX : GXA 1 g (AA s) s) (hP : va_P (dC, dI) vwCl (WLD cI cJ cII cJJ qx qm u v) H) (hD : va_D (AA s) (WLD cI cJ cII cJJ qx qm u v)) (hS : va_S (AA s) s.heap H locs) (hl : lv_has ls 4 [(3, .int 0), (2, .ref qm), (1, .ref qx), (0, .ref b)]) : W p l e room_1 s m #[Value.ref b] below meth c H locs 600000 7302250 (lw_Z below #[Value.ref b] s) (F0 m 1050 ls []) := by
  obtain ⟨hx, hb, hr, hml, hown, hts0, hX0, hbl, hlocks, hgv⟩ := id C0
  have hts : ∀ w ∈ TT, w.before #[Value.ref b] s = true := fun w h => hts0 w (TT_tbl h)
  have hA : ∀ q : Nat, s.heap.size ≤ q → AA s q := fun _ h => h
  have hbA : ¬ AA s b := Nat.not_le.mpr hbl
  have hown : s.vm.findClass RL = some m.cls := hown
  subst hL
  refine lv_aload_n hx hb dL_law_1050 rfl (lv_at hl 2 rfl) ?_
  refine lv_aload_n hx hb dL_law_1051 rfl (lv_at hl 3 rfl) ?_
  refine lv_iload_n hx hb dL_law_1052 rfl (lv_at hl 0 rfl) ?_
  refine lv_iconst (v := 1) hx hb dL_law_1053 (by decide) ?_
  refine v_iadd hx hb dL_law_1054 1 (by decide +kernel) ?_
  refine va_sld hx hb hX0 hbl hbA hS (vin (by decide +kernel)) dL_law_1055 ?_
  refine tvi (v := 14) e_y0 ?_
  refine kV_i (q0 := 0) ⟨hx, hb, hml, hown, hts⟩ hK hP hD hS hA hX cv_RL_146 [0, 63] [86, 66] (wr := [(qm, .inr (9, [.ref (v 0), .ref (v 1), .ref (v 2), .ref (v 3), .ref (v 4), .ref (v 5), .ref (v 6), .ref (v 7), .ref (v 8), .ref (v 9), .ref (v 10), .ref (v 11), .int 1, .int 0, .int 0, .ref (v 12), .ref (v 13), .ref (v 14), .ref (v 15), .ref (v 16), .ref (v 17), .int 0, .int 0, .ref (v 18), .ref (v 19), .ref (v 20), .ref (v 21), .int 0, .int 0, .ref (v 22), .ref (v 23), .ref (v 24), .ref (v 25), .int 0, .ref (v 26), .int 0])), ((v 7), .inl (cI, 8, .inl (tb [])))]) rfl rfl rfl rfl (by decide) (c297_X8_count l dC dI cI cJ cII cJJ H.size 0 qx (u 62) (u 0) (u 10) (u 28) (u 51) (u 59) (u 60) (u 61)) ⟨by decide +kernel, by decide +kernel⟩ rfl rfl (Or.inl rfl) (rest := []) rfl rfl rfl hl.1 rfl (Nat.le_of_ble_eq_true rfl) dL_law_1056 ⟨Nat.le_of_ble_eq_true rfl, Nat.le_of_ble_eq_true rfl⟩ (W' := [(qm, .inr (9, [.ref (v 0), .ref (v 1), .ref (v 2), .ref (v 3), .ref (v 4), .ref (v 5), .ref (v 6), .ref (v 7), .ref (v 8), .ref (v 9), .ref (v 10), .ref (v 11), .int 1, .int 0, .int 0, .ref (v 12), .ref (v 13), .ref (v 14), .ref (v 15), .ref (v 16), .ref (v 17), .int 0, .int 0, .ref (v 18), .ref (v 19), .ref (v 20), .ref (v 21), .int 0, .int 0, .ref (v 22), .ref (v 23), .ref (v 24), .ref (v 25), .int 0, .ref (v 26), .int 0])), ((v 7), .inl (cI, 8, .inl (tb [])))]) rfl (fun H locs hP hD hS => ?_)
  refine lv_aload_n hx hb dL_law_1059 rfl (lv_at hl 1 rfl) ?_
  refine lv_aload_n hx hb dL_law_1060 rfl (lv_at hl 3 rfl) ?_
  refine lv_iload_n hx hb dL_law_1061 rfl (lv_at hl 0 rfl) ?_
  refine lv_iconst (v := 1) hx hb dL_law_1062 (by decide) ?_
  refine v_iadd hx hb dL_law_1063 1 (by decide +kernel) ?_
  refine va_sld hx hb hX0 hbl hbA hS (vin (by decide +kernel)) dL_law_1064 ?_
  refine tvi (v := 14) e_y0 ?_
  refine kV_i (q0 := 0) ⟨hx, hb, hml, hown, hts⟩ hK hP hD hS hA hX cv_RL_149 [0, 1] [] (wr := []) rfl rfl rfl rfl (by decide) (c621_X9_count l dC dI cI cJ cII cJJ H.size 0 qm (v 7) (v 0) (v 1) (v 2) (v 3) (v 4) (v 5) (v 6) (v 8) (v 9) (v 10) (v 11) (v 12) (v 13) (v 14) (v 15) (v 16) (v 17) (v 18) (v 19) (v 20) (v 21) (v 22) (v 23) (v 24) (v 25) (v 26)) ⟨by decide +kernel, by decide +kernel⟩ rfl rfl (Or.inl rfl) (rest := [.int 0]) rfl rfl rfl hl.1 rfl (Nat.le_of_ble_eq_true rfl) dL_law_1065 ⟨Nat.le_of_ble_eq_true rfl, Nat.le_of_ble_eq_true rfl⟩ (W' := []) rfl (fun H locs hP hD hS => ?_)
  refine t_icmp_eq hx hb dL_law_1068 1073 (by decide) rfl ?_
  exact law_end l C0 rfl hS hl
set_option maxRecDepth 100000 in
set_option maxHeartbeats 4000000 in
theorem lr_136 {p : Program} {e : Env} {s : State} {m : MethodId} {below : List Frame} {meth : Method} {c : Code} (l : Launch) {b L : Nat} {xs : Nat → Int32} (C0 : lw_At p s m meth c b L xs) (hL : L = 5) {dC : Nat → ClassId} {dI : Nat → Nat → Nat} {cI cJ cII cJJ : ClassId} {g qx qm : Nat} {u v : Nat → Nat} {H : Heap} {locs : List Loc} {ls : Array Slot} (e_y0 : xs 1 = 15) (hK : va_K (dC, dI) vwCl (TY cI cJ cII cJJ) s) (hX : GXA 1 g (AA s) s) (hP : va_P (dC, dI) vwCl (WLD cI cJ cII cJJ qx qm u v) H) (hD : va_D (AA s) (WLD cI cJ cII cJJ qx qm u v)) (hS : va_S (AA s) s.heap H locs) (hl : lv_has ls 4 [(3, .int 0), (2, .ref qm), (1, .ref qx), (0, .ref b)]) : W p l e room_1 s m #[Value.ref b] below meth c H locs 600000 7302250 (lw_Z below #[Value.ref b] s) (F0 m 1050 ls []) := by
  obtain ⟨hx, hb, hr, hml, hown, hts0, hX0, hbl, hlocks, hgv⟩ := id C0
  have hts : ∀ w ∈ TT, w.before #[Value.ref b] s = true := fun w h => hts0 w (TT_tbl h)
  have hA : ∀ q : Nat, s.heap.size ≤ q → AA s q := fun _ h => h
  have hbA : ¬ AA s b := Nat.not_le.mpr hbl
  have hown : s.vm.findClass RL = some m.cls := hown
  subst hL
  refine lv_aload_n hx hb dL_law_1050 rfl (lv_at hl 2 rfl) ?_
  refine lv_aload_n hx hb dL_law_1051 rfl (lv_at hl 3 rfl) ?_
  refine lv_iload_n hx hb dL_law_1052 rfl (lv_at hl 0 rfl) ?_
  refine lv_iconst (v := 1) hx hb dL_law_1053 (by decide) ?_
  refine v_iadd hx hb dL_law_1054 1 (by decide +kernel) ?_
  refine va_sld hx hb hX0 hbl hbA hS (vin (by decide +kernel)) dL_law_1055 ?_
  refine tvi (v := 15) e_y0 ?_
  refine kV_i (q0 := 0) ⟨hx, hb, hml, hown, hts⟩ hK hP hD hS hA hX cv_RL_146 [0, 63] [86, 66] (wr := [(qm, .inr (9, [.ref (v 0), .ref (v 1), .ref (v 2), .ref (v 3), .ref (v 4), .ref (v 5), .ref (v 6), .ref (v 7), .ref (v 8), .ref (v 9), .ref (v 10), .ref (v 11), .int 1, .int 0, .int 0, .ref (v 12), .ref (v 13), .ref (v 14), .ref (v 15), .ref (v 16), .ref (v 17), .int 0, .int 0, .ref (v 18), .ref (v 19), .ref (v 20), .ref (v 21), .int 0, .int 0, .ref (v 22), .ref (v 23), .ref (v 24), .ref (v 25), .int 0, .ref (v 26), .int 0])), ((v 7), .inl (cI, 8, .inl (tb [])))]) rfl rfl rfl rfl (by decide) (c298_X8_count l dC dI cI cJ cII cJJ H.size 0 qx (u 62) (u 0) (u 10) (u 28) (u 51) (u 59) (u 60) (u 61)) ⟨by decide +kernel, by decide +kernel⟩ rfl rfl (Or.inl rfl) (rest := []) rfl rfl rfl hl.1 rfl (Nat.le_of_ble_eq_true rfl) dL_law_1056 ⟨Nat.le_of_ble_eq_true rfl, Nat.le_of_ble_eq_true rfl⟩ (W' := [(qm, .inr (9, [.ref (v 0), .ref (v 1), .ref (v 2), .ref (v 3), .ref (v 4), .ref (v 5), .ref (v 6), .ref (v 7), .ref (v 8), .ref (v 9), .ref (v 10), .ref (v 11), .int 1, .int 0, .int 0, .ref (v 12), .ref (v 13), .ref (v 14), .ref (v 15), .ref (v 16), .ref (v 17), .int 0, .int 0, .ref (v 18), .ref (v 19), .ref (v 20), .ref (v 21), .int 0, .int 0, .ref (v 22), .ref (v 23), .ref (v 24), .ref (v 25), .int 0, .ref (v 26), .int 0])), ((v 7), .inl (cI, 8, .inl (tb [])))]) rfl (fun H locs hP hD hS => ?_)
  refine lv_aload_n hx hb dL_law_1059 rfl (lv_at hl 1 rfl) ?_
  refine lv_aload_n hx hb dL_law_1060 rfl (lv_at hl 3 rfl) ?_
  refine lv_iload_n hx hb dL_law_1061 rfl (lv_at hl 0 rfl) ?_
  refine lv_iconst (v := 1) hx hb dL_law_1062 (by decide) ?_
  refine v_iadd hx hb dL_law_1063 1 (by decide +kernel) ?_
  refine va_sld hx hb hX0 hbl hbA hS (vin (by decide +kernel)) dL_law_1064 ?_
  refine tvi (v := 15) e_y0 ?_
  refine kV_i (q0 := 0) ⟨hx, hb, hml, hown, hts⟩ hK hP hD hS hA hX cv_RL_149 [0, 1] [] (wr := []) rfl rfl rfl rfl (by decide) (c622_X9_count l dC dI cI cJ cII cJJ H.size 0 qm (v 7) (v 0) (v 1) (v 2) (v 3) (v 4) (v 5) (v 6) (v 8) (v 9) (v 10) (v 11) (v 12) (v 13) (v 14) (v 15) (v 16) (v 17) (v 18) (v 19) (v 20) (v 21) (v 22) (v 23) (v 24) (v 25) (v 26)) ⟨by decide +kernel, by decide +kernel⟩ rfl rfl (Or.inl rfl) (rest := [.int 0]) rfl rfl rfl hl.1 rfl (Nat.le_of_ble_eq_true rfl) dL_law_1065 ⟨Nat.le_of_ble_eq_true rfl, Nat.le_of_ble_eq_true rfl⟩ (W' := []) rfl (fun H locs hP hD hS => ?_)
  refine t_icmp_eq hx hb dL_law_1068 1073 (by decide) rfl ?_
  exact law_end l C0 rfl hS hl
set_option maxRecDepth 100000 in
set_option maxHeartbeats 4000000 in
theorem lr_137 {p : Program} {e : Env} {s : State} {m : MethodId} {below : List Frame} {meth : Method} {c : Code} (l : Launch) {b L : Nat} {xs : Nat → Int32} (C0 : lw_At p s m meth c b L xs) (hL : L = 5) {dC : Nat → ClassId} {dI : Nat → Nat → Nat} {cI cJ cII cJJ : ClassId} {g qx qm : Nat} {u v : Nat → Nat} {H : Heap} {locs : List Loc} {ls : Array Slot} (e_y0 : xs 1 = 16) (hK : va_K (dC, dI) vwCl (TY cI cJ cII cJJ) s) (hX : GXA 1 g (AA s) s) (hP : va_P (dC, dI) vwCl (WLD cI cJ cII cJJ qx qm u v) H) (hD : va_D (AA s) (WLD cI cJ cII cJJ qx qm u v)) (hS : va_S (AA s) s.heap H locs) (hl : lv_has ls 4 [(3, .int 0), (2, .ref qm), (1, .ref qx), (0, .ref b)]) : W p l e room_1 s m #[Value.ref b] below meth c H locs 600000 7302250 (lw_Z below #[Value.ref b] s) (F0 m 1050 ls []) := by
  obtain ⟨hx, hb, hr, hml, hown, hts0, hX0, hbl, hlocks, hgv⟩ := id C0
  have hts : ∀ w ∈ TT, w.before #[Value.ref b] s = true := fun w h => hts0 w (TT_tbl h)
  have hA : ∀ q : Nat, s.heap.size ≤ q → AA s q := fun _ h => h
  have hbA : ¬ AA s b := Nat.not_le.mpr hbl
  have hown : s.vm.findClass RL = some m.cls := hown
  subst hL
  refine lv_aload_n hx hb dL_law_1050 rfl (lv_at hl 2 rfl) ?_
  refine lv_aload_n hx hb dL_law_1051 rfl (lv_at hl 3 rfl) ?_
  refine lv_iload_n hx hb dL_law_1052 rfl (lv_at hl 0 rfl) ?_
  refine lv_iconst (v := 1) hx hb dL_law_1053 (by decide) ?_
  refine v_iadd hx hb dL_law_1054 1 (by decide +kernel) ?_
  refine va_sld hx hb hX0 hbl hbA hS (vin (by decide +kernel)) dL_law_1055 ?_
  refine tvi (v := 16) e_y0 ?_
  refine kV_i (q0 := 0) ⟨hx, hb, hml, hown, hts⟩ hK hP hD hS hA hX cv_RL_146 [0, 63] [86, 66] (wr := [(qm, .inr (9, [.ref (v 0), .ref (v 1), .ref (v 2), .ref (v 3), .ref (v 4), .ref (v 5), .ref (v 6), .ref (v 7), .ref (v 8), .ref (v 9), .ref (v 10), .ref (v 11), .int 1, .int 0, .int 0, .ref (v 12), .ref (v 13), .ref (v 14), .ref (v 15), .ref (v 16), .ref (v 17), .int 0, .int 0, .ref (v 18), .ref (v 19), .ref (v 20), .ref (v 21), .int 0, .int 0, .ref (v 22), .ref (v 23), .ref (v 24), .ref (v 25), .int 0, .ref (v 26), .int 0])), ((v 7), .inl (cI, 8, .inl (tb [])))]) rfl rfl rfl rfl (by decide) (c299_X8_count l dC dI cI cJ cII cJJ H.size 0 qx (u 62) (u 0) (u 10) (u 28) (u 51) (u 59) (u 60) (u 61)) ⟨by decide +kernel, by decide +kernel⟩ rfl rfl (Or.inl rfl) (rest := []) rfl rfl rfl hl.1 rfl (Nat.le_of_ble_eq_true rfl) dL_law_1056 ⟨Nat.le_of_ble_eq_true rfl, Nat.le_of_ble_eq_true rfl⟩ (W' := [(qm, .inr (9, [.ref (v 0), .ref (v 1), .ref (v 2), .ref (v 3), .ref (v 4), .ref (v 5), .ref (v 6), .ref (v 7), .ref (v 8), .ref (v 9), .ref (v 10), .ref (v 11), .int 1, .int 0, .int 0, .ref (v 12), .ref (v 13), .ref (v 14), .ref (v 15), .ref (v 16), .ref (v 17), .int 0, .int 0, .ref (v 18), .ref (v 19), .ref (v 20), .ref (v 21), .int 0, .int 0, .ref (v 22), .ref (v 23), .ref (v 24), .ref (v 25), .int 0, .ref (v 26), .int 0])), ((v 7), .inl (cI, 8, .inl (tb [])))]) rfl (fun H locs hP hD hS => ?_)
  refine lv_aload_n hx hb dL_law_1059 rfl (lv_at hl 1 rfl) ?_
  refine lv_aload_n hx hb dL_law_1060 rfl (lv_at hl 3 rfl) ?_
  refine lv_iload_n hx hb dL_law_1061 rfl (lv_at hl 0 rfl) ?_
  refine lv_iconst (v := 1) hx hb dL_law_1062 (by decide) ?_
  refine v_iadd hx hb dL_law_1063 1 (by decide +kernel) ?_
  refine va_sld hx hb hX0 hbl hbA hS (vin (by decide +kernel)) dL_law_1064 ?_
  refine tvi (v := 16) e_y0 ?_
  refine kV_i (q0 := 0) ⟨hx, hb, hml, hown, hts⟩ hK hP hD hS hA hX cv_RL_149 [0, 1] [] (wr := []) rfl rfl rfl rfl (by decide) (c623_X9_count l dC dI cI cJ cII cJJ H.size 0 qm (v 7) (v 0) (v 1) (v 2) (v 3) (v 4) (v 5) (v 6) (v 8) (v 9) (v 10) (v 11) (v 12) (v 13) (v 14) (v 15) (v 16) (v 17) (v 18) (v 19) (v 20) (v 21) (v 22) (v 23) (v 24) (v 25) (v 26)) ⟨by decide +kernel, by decide +kernel⟩ rfl rfl (Or.inl rfl) (rest := [.int 0]) rfl rfl rfl hl.1 rfl (Nat.le_of_ble_eq_true rfl) dL_law_1065 ⟨Nat.le_of_ble_eq_true rfl, Nat.le_of_ble_eq_true rfl⟩ (W' := []) rfl (fun H locs hP hD hS => ?_)
  refine t_icmp_eq hx hb dL_law_1068 1073 (by decide) rfl ?_
  exact law_end l C0 rfl hS hl
