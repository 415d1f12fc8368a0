set_option maxHeartbeats 4000000 in
set_option maxRecDepth 100000 in
theorem whole_start {p : Program} {e : Env} {s : State} {m : MethodId} {below : List Frame} {meth : Method} {c : Code} (l : Launch) {b L : Nat} {xs : Nat → Int32} (hL : L ≤ 5) (C0 : lw_At p s m meth c b L xs) : W p l e room_1 s m #[Value.ref b] below meth c s.heap [] 0 0 (lw_Z below #[Value.ref b] s) (entryFrame m ([Value.ref b] : List Value).toArray 4) := by
  obtain ⟨hx, hb, hr, hml, hown, hts0, hX0, hbl, hlocks, hgv⟩ := id C0
  have hts : ∀ w ∈ TT, w.before #[Value.ref b] s = true := fun w h => hts0 w (TT_tbl h)
  have hA : ∀ q : Nat, s.heap.size ≤ q → AA s q := fun _ h => h
  have hbA : ¬ AA s b := Nat.not_le.mpr hbl
  have hown : s.vm.findClass RL = some m.cls := hown
  obtain ⟨c0, iS0, hKn0⟩ := u_known (C := RX0) (T := TX0) (N := 6) (n := 6) hts inX0 (hts _ k_151)
  obtain ⟨c1, iS1, hKn1⟩ := u_known (C := RX1) (T := TX1) (N := 4) (n := 4) hts inX1 (hts _ k_109)
  obtain ⟨c2, iS2, hKn2⟩ := u_known (C := RX2) (T := TX2) (N := 7) (n := 7) hts inX2 (hts _ k_89)
  obtain ⟨c3, iS3, hKn3⟩ := u_known (C := RX3) (T := TX3) (N := 8) (n := 8) hts inX3 (hts _ k_23)
  obtain ⟨c4, iS4, hKn4⟩ := u_known (C := RX4) (T := TX4) (N := 12) (n := 12) hts inX4 (hts _ k_199)
  obtain ⟨c5, iS5, hKn5⟩ := u_known (C := RX5) (T := TX5) (N := 4) (n := 4) hts inX5 (hts _ k_132)
  obtain ⟨c6, iS6, hKn6⟩ := u_known (C := RX6) (T := TX6) (N := 3) (n := 3) hts inX6 (hts _ k_244)
  obtain ⟨c7, iS7, hKn7⟩ := u_known (C := RX7) (T := TX7) (N := 2) (n := 2) hts inX7 (hts _ k_95)
  obtain ⟨c8, iS8, hKn8⟩ := u_known (C := RX8) (T := TX8) (N := 8) (n := 8) hts inX8 (hts _ k_15)
  obtain ⟨c9, iS9, hKn9⟩ := u_known (C := RX9) (T := TX9) (N := 36) (n := 36) hts inX9 (hts _ k_783)
  obtain ⟨dC, dI, hKc⟩ : ∃ (dC : Nat → ClassId) (dI : Nat → Nat → Nat), ∀ (k : Nat) (q : vw_C), vwCl[k]? = some q → u_Kn s q.1 q.2.1 q.2.2 (dC k) (dI k) := by
    refine ⟨fun k => [c0, c1, c2, c3, c4, c5, c6, c7, c8, c9].getD k c0, fun k => [iS0, iS1, iS2, iS3, iS4, iS5, iS6, iS7, iS8, iS9].getD k iS0, ?_⟩
    intro k q hq
    match k, hq with
    | 0, hq => cases hq; exact hKn0
    | 1, hq => cases hq; exact hKn1
    | 2, hq => cases hq; exact hKn2
    | 3, hq => cases hq; exact hKn3
    | 4, hq => cases hq; exact hKn4
    | 5, hq => cases hq; exact hKn5
    | 6, hq => cases hq; exact hKn6
    | 7, hq => cases hq; exact hKn7
    | 8, hq => cases hq; exact hKn8
    | 9, hq => cases hq; exact hKn9
    | k + 10, hq => simp [vwCl] at hq
  have mem : ∀ (k : Nat) (w : Cond), tables_1[k]? = some w → w.before #[Value.ref b] s = true := fun k w h => hts0 w (List.mem_append_right _ (List.mem_of_getElem? h))
  obtain ⟨cI, kcI, compI, f1, f2, f3⟩ := Cond.arrayClass_spec (hts _ k_87)
  obtain ⟨cJ, kcJ, compJ, j1, j2, j3⟩ := Cond.arrayClass_spec (hts _ k_107)
  have hAOI : va_AOA .int s := mem 29 (.arrayOver (.array .int)) (by decide +kernel)
  have hAOJ : va_AOA .long s := mem 115 (.arrayOver (.array .long)) (by decide +kernel)
  obtain ⟨compII, cII, kII, g1, g2, g3, g4, g5⟩ := arrayOverA_spec hAOI
  obtain ⟨compJJ, cJJ, kJJ, m1, m2, m3, m4, m5⟩ := arrayOverA_spec hAOJ
  have hK : va_K (dC, dI) vwCl (TY cI cJ cII cJJ) s := by
    refine ⟨hKc, fun k q h => ?_⟩
    match k, h with
    | 0, h => cases h; exact ⟨fun n z => ⟨fun k h => (by cases h), kcI, f2, compI, f3⟩, f1⟩
    | 1, h => cases h; exact ⟨fun n z => ⟨fun k h => (by cases h), kcJ, j2, compJ, j3⟩, j1⟩
    | 2, h => cases h; exact ⟨fun n z => ⟨fun k h => (by cases h), kII, g3, compII, g4⟩, g5⟩
    | 3, h => cases h; exact ⟨fun n z => ⟨fun k h => (by cases h), kJJ, m3, compJJ, m4⟩, m5⟩
    | k + 4, h => simp [TY] at h
  have hX2 : GXA 2 0 (AA s) s := ⟨hAOI, hAOJ, va_Nw.of rfl (mem 96 (.methodLinkNest RX2 11 yX7_init RX8) (by decide +kernel)), va_Nw.of rfl (mem 110 (.methodLinkNest RX2 20 yX1_init RX8) (by decide +kernel)), va_Nw.of rfl (mem 133 (.methodLinkNest RX2 27 yX5_init RX8) (by decide +kernel))⟩
  have hAs : ∀ a : Nat, a < s.heap.size → ¬ AA s a := fun a h => Nat.not_le.mpr h
  have hs := flat_of_before _ hgv
  have hGa : (Cond.arrayOf (Term.static "StepWorks$VectorList" "GAPS" "[I") .int).before #[Value.ref b] s = true := hs _ (by decide +kernel)
  have hGl : (Cond.eq (.length (Term.static "StepWorks$VectorList" "GAPS" "[I")) (.int 5)).before #[Value.ref b] s = true := hs _ (by decide +kernel)
  have hG0 : (Cond.eq (.elem (Term.static "StepWorks$VectorList" "GAPS" "[I") (.int 0)) (.int 57)).before #[Value.ref b] s = true := hs _ (by decide +kernel)
  have hG1 : (Cond.eq (.elem (Term.static "StepWorks$VectorList" "GAPS" "[I") (.int 1)) (.int 23)).before #[Value.ref b] s = true := hs _ (by decide +kernel)
  have hG2 : (Cond.eq (.elem (Term.static "StepWorks$VectorList" "GAPS" "[I") (.int 2)) (.int 10)).before #[Value.ref b] s = true := hs _ (by decide +kernel)
  have hG3 : (Cond.eq (.elem (Term.static "StepWorks$VectorList" "GAPS" "[I") (.int 3)) (.int 4)).before #[Value.ref b] s = true := hs _ (by decide +kernel)
  have hG4 : (Cond.eq (.elem (Term.static "StepWorks$VectorList" "GAPS" "[I") (.int 4)) (.int 1)).before #[Value.ref b] s = true := hs _ (by decide +kernel)
  obtain ⟨g, hg1, hg2⟩ := va_Tof (tm := (Term.static "StepWorks$VectorList" "GAPS" "[I")) (ty := .int) (N := 5) (f := fun j => .int (tb [57, 23, 10, 4, 1] j)) (A := AA s) (by decide) hGa (va_eqt hGl) (fun j hj => by
    match j, hj with
    | 0, _ => exact va_eqt hG0
    | 1, _ => exact va_eqt hG1
    | 2, _ => exact va_eqt hG2
    | 3, _ => exact va_eqt hG3
    | 4, _ => exact va_eqt hG4
    | k + 5, hj => exact absurd hj (by omega)) hAs
  have hX1 : GXA 1 g (AA s) s := ⟨va_Zof (mem 505 (.laysStatic "StepWorks$VectorList" "GAPS" "[I") (by decide +kernel)) (hts _ k_5) hg1 hAs, hg2⟩
  have hS : va_S (AA s) s.heap s.heap [] := va_S.rf
  have hP : va_P (dC, dI) vwCl [] s.heap := fun k q h => by simp at h
  have hD : va_D (AA s) [] := ⟨fun i j p q h => by simp at h, fun k q h => by simp at h⟩
  have hl := lv_entry ([.ref b]) (n := 4) (Nat.le_of_ble_eq_true rfl)
  rw [lg_entry_eq]
  generalize (lg_sl ([.ref b]) ++ List.replicate (4 - (lg_sl ([.ref b])).length) Slot.unset).toArray = ls at hl ⊢
  have hl : lv_has ls 4 [(0, .ref b)] := hl
  refine nw_o hx hb hts inX8 tyX8_ok hown k_14 k_15 k_1 hK hP hD hS hA rfl [.null, .null, .null, .null, .null, .null, .null, .null] (by decide +kernel) (Nat.le_of_ble_eq_true rfl) (Nat.le_of_ble_eq_true rfl) dL_law_0 (Wq := fun qx => [(qx, .inr (8, [.null, .null, .null, .null, .null, .null, .null, .null]))]) (fun _ => rfl) (fun qx H hP hD hS => ?_)
  refine lv_dup hx hb dL_law_3 rfl ?_
  refine kI ⟨hx, hb, hml, hown, hts⟩ hK hP hD hS hA hX2 ci_RL_9 [0] [] (wr := []) rfl rfl rfl rfl (by decide) (c001_X8_init l dC dI cI cJ cII cJJ H.size 0 qx) ⟨by decide +kernel, by decide +kernel⟩ rfl rfl (Or.inr ⟨rfl, rfl⟩) (rest := [.ref qx]) rfl hl.1 rfl (Nat.le_of_ble_eq_true rfl) dL_law_4 ⟨Nat.le_of_ble_eq_true rfl, Nat.le_of_ble_eq_true rfl⟩ (Wf := fun u => [(qx, .inr (8, [.ref (u 0), .ref (u 10), .ref (u 28), .ref (u 51), .ref (u 59), .ref (u 60), .ref (u 61), .ref (u 62)])), ((u 1), .inl (cII, 3, .inr (.inr (.inr (.inr (tr [(u 2), (u 3), (u 4)])))))), ((u 2), .inl (cI, 4, .inl (tb []))), ((u 3), .inl (cI, 4, .inl (tb []))), ((u 4), .inl (cI, 4, .inl (tb []))), ((u 5), .inl (cI, 3, .inl (tb []))), ((u 0), .inr (3, [.int 1, .int 0, .ref (u 1), .ref (u 5), .ref (u 6), .ref (u 7), .ref (u 8), .ref (u 9)])), ((u 6), .inl (cI, 4, .inl (tb [0, 0, 0, 0]))), ((u 7), .inl (cI, 4, .inl (tb [10, 10, 10, 10]))), ((u 8), .inl (cI, 4, .inl (tb [0, 0, 0, 0]))), ((u 9), .inl (cI, 4, .inl (tb [0, 0, 0, 0]))), ((u 10), .inr (2, [.ref (u 0), .ref (u 11), .ref (u 13), .ref (u 21), .ref (u 24), .int 0, .int 1])), ((u 11), .inr (7, [.ref (u 12), .int 0])), ((u 12), .inl (cJ, 256, .inr (.inl (tbl [])))), ((u 13), .inr (1, [.ref (u 14), .ref (u 19), .ref (u 20), .int 0])), ((u 14), .inl (cJJ, 4, .inr (.inr (.inr (.inr (tr [(u 15), (u 16), (u 17), (u 18)])))))), ((u 15), .inl (cJ, 4, .inr (.inl (tbl [])))), ((u 16), .inl (cJ, 4, .inr (.inl (tbl [])))), ((u 17), .inl (cJ, 4, .inr (.inl (tbl [])))), ((u 18), .inl (cJ, 4, .inr (.inl (tbl [])))), ((u 19), .inl (cJ, 4, .inr (.inl (tbl [])))), ((u 20), .inl (cI, 4, .inl (tb []))), ((u 21), .inr (5, [.ref (u 22), .ref (u 23), .int 0, .int 0])), ((u 22), .inl (cI, 512, .inl (tb []))), ((u 23), .inl (cI, 512, .inl (tb []))), ((u 24), .inr (0, [.ref (u 0), .ref (u 11), .ref (u 25), .ref (u 26), .ref (u 27), .int 0])), ((u 25), .inl (cI, 4, .inl (tb []))), ((u 26), .inl (cI, 4, .inl (tb []))), ((u 27), .inl (cI, 4, .inl (tb []))), ((u 28), .inr (4, [.ref (u 0), .ref (u 29), .ref (u 30), .ref (u 31), .ref (u 32), .ref (u 33), .ref (u 39), .ref (u 45), .int 0, .int 0, .int 0, .int 1])), ((u 29), .inl (cI, 9261, .inl (tb []))), ((u 30), .inl (cI, 4, .inl (tb []))), ((u 31), .inl (cI, 4, .inl (tb []))), ((u 32), .inl (cI, 4, .inl (tb []))), ((u 33), .inl (cII, 5, .inr (.inr (.inr (.inr (tr [(u 34), (u 35), (u 36), (u 37), (u 38)])))))), ((u 34), .inl (cI, 3, .inl (tb []))), ((u 35), .inl (cI, 3, .inl (tb []))), ((u 36), .inl (cI, 3, .inl (tb []))), ((u 37), .inl (cI, 3, .inl (tb []))), ((u 38), .inl (cI, 3, .inl (tb []))), ((u 39), .inl (cII, 5, .inr (.inr (.inr (.inr (tr [(u 40), (u 41), (u 42), (u 43), (u 44)])))))), ((u 40), .inl (cI, 3, .inl (tb []))), ((u 41), .inl (cI, 3, .inl (tb []))), ((u 42), .inl (cI, 3, .inl (tb []))), ((u 43), .inl (cI, 3, .inl (tb []))), ((u 44), .inl (cI, 3, .inl (tb []))), ((u 45), .inl (cII, 5, .inr (.inr (.inr (.inr (tr [(u 46), (u 47), (u 48), (u 49), (u 50)])))))), ((u 46), .inl (cI, 3, .inl (tb []))), ((u 47), .inl (cI, 3, .inl (tb []))), ((u 48), .inl (cI, 3, .inl (tb []))), ((u 49), .inl (cI, 3, .inl (tb []))), ((u 50), .inl (cI, 3, .inl (tb []))), ((u 51), .inr (6, [.ref (u 52), .ref (u 57), .ref (u 58)])), ((u 52), .inl (cJJ, 4, .inr (.inr (.inr (.inr (tr [(u 53), (u 54), (u 55), (u 56)])))))), ((u 53), .inl (cJ, 20, .inr (.inl (tbl [])))), ((u 54), .inl (cJ, 20, .inr (.inl (tbl [])))), ((u 55), .inl (cJ, 20, .inr (.inl (tbl [])))), ((u 56), .inl (cJ, 20, .inr (.inl (tbl [])))), ((u 57), .inl (cI, 4, .inl (tb []))), ((u 58), .inl (cI, 4, .inl (tb [(-1), (-1), (-1), (-1)]))), ((u 59), .inl (cI, 4, .inl (tb []))), ((u 60), .inl (cI, 4, .inl (tb []))), ((u 61), .inl (cJ, 4, .inr (.inl (tbl [])))), ((u 62), .inl (cI, 8, .inl (tb [])))]) (fun _ => rfl) (fun u H locs hP hD hS => ?_)
  refine lv_astore_n (lv' := [(1, .ref qx), (0, .ref b)]) hx hb dL_law_7 rfl hl (by decide) rfl (fun ls hl => ?_)
  refine nw_o hx hb hts inX9 tyX9_ok hown k_782 k_783 k_11 hK hP hD hS hA rfl [.null, .null, .null, .null, .null, .null, .null, .null, .null, .null, .null, .null, .int 0, .int 0, .int 0, .null, .null, .null, .null, .null, .null, .int 0, .int 0, .null, .null, .null, .null, .int 0, .int 0, .null, .null, .null, .null, .int 0, .null, .int 0] (by decide +kernel) (Nat.le_of_ble_eq_true rfl) (Nat.le_of_ble_eq_true rfl) dL_law_8 (Wq := fun qm => [(qx, .inr (8, [.ref (u 0), .ref (u 10), .ref (u 28), .ref (u 51), .ref (u 59), .ref (u 60), .ref (u 61), .ref (u 62)])), ((u 1), .inl (cII, 3, .inr (.inr (.inr (.inr (tr [(u 2), (u 3), (u 4)])))))), ((u 2), .inl (cI, 4, .inl (tb []))), ((u 3), .inl (cI, 4, .inl (tb []))), ((u 4), .inl (cI, 4, .inl (tb []))), ((u 5), .inl (cI, 3, .inl (tb []))), ((u 0), .inr (3, [.int 1, .int 0, .ref (u 1), .ref (u 5), .ref (u 6), .ref (u 7), .ref (u 8), .ref (u 9)])), ((u 6), .inl (cI, 4, .inl (tb [0, 0, 0, 0]))), ((u 7), .inl (cI, 4, .inl (tb [10, 10, 10, 10]))), ((u 8), .inl (cI, 4, .inl (tb [0, 0, 0, 0]))), ((u 9), .inl (cI, 4, .inl (tb [0, 0, 0, 0]))), ((u 10), .inr (2, [.ref (u 0), .ref (u 11), .ref (u 13), .ref (u 21), .ref (u 24), .int 0, .int 1])), ((u 11), .inr (7, [.ref (u 12), .int 0])), ((u 12), .inl (cJ, 256, .inr (.inl (tbl [])))), ((u 13), .inr (1, [.ref (u 14), .ref (u 19), .ref (u 20), .int 0])), ((u 14), .inl (cJJ, 4, .inr (.inr (.inr (.inr (tr [(u 15), (u 16), (u 17), (u 18)])))))), ((u 15), .inl (cJ, 4, .inr (.inl (tbl [])))), ((u 16), .inl (cJ, 4, .inr (.inl (tbl [])))), ((u 17), .inl (cJ, 4, .inr (.inl (tbl [])))), ((u 18), .inl (cJ, 4, .inr (.inl (tbl [])))), ((u 19), .inl (cJ, 4, .inr (.inl (tbl [])))), ((u 20), .inl (cI, 4, .inl (tb []))), ((u 21), .inr (5, [.ref (u 22), .ref (u 23), .int 0, .int 0])), ((u 22), .inl (cI, 512, .inl (tb []))), ((u 23), .inl (cI, 512, .inl (tb []))), ((u 24), .inr (0, [.ref (u 0), .ref (u 11), .ref (u 25), .ref (u 26), .ref (u 27), .int 0])), ((u 25), .inl (cI, 4, .inl (tb []))), ((u 26), .inl (cI, 4, .inl (tb []))), ((u 27), .inl (cI, 4, .inl (tb []))), ((u 28), .inr (4, [.ref (u 0), .ref (u 29), .ref (u 30), .ref (u 31), .ref (u 32), .ref (u 33), .ref (u 39), .ref (u 45), .int 0, .int 0, .int 0, .int 1])), ((u 29), .inl (cI, 9261, .inl (tb []))), ((u 30), .inl (cI, 4, .inl (tb []))), ((u 31), .inl (cI, 4, .inl (tb []))), ((u 32), .inl (cI, 4, .inl (tb []))), ((u 33), .inl (cII, 5, .inr (.inr (.inr (.inr (tr [(u 34), (u 35), (u 36), (u 37), (u 38)])))))), ((u 34), .inl (cI, 3, .inl (tb []))), ((u 35), .inl (cI, 3, .inl (tb []))), ((u 36), .inl (cI, 3, .inl (tb []))), ((u 37), .inl (cI, 3, .inl (tb []))), ((u 38), .inl (cI, 3, .inl (tb []))), ((u 39), .inl (cII, 5, .inr (.inr (.inr (.inr (tr [(u 40), (u 41), (u 42), (u 43), (u 44)])))))), ((u 40), .inl (cI, 3, .inl (tb []))), ((u 41), .inl (cI, 3, .inl (tb []))), ((u 42), .inl (cI, 3, .inl (tb []))), ((u 43), .inl (cI, 3, .inl (tb []))), ((u 44), .inl (cI, 3, .inl (tb []))), ((u 45), .inl (cII, 5, .inr (.inr (.inr (.inr (tr [(u 46), (u 47), (u 48), (u 49), (u 50)])))))), ((u 46), .inl (cI, 3, .inl (tb []))), ((u 47), .inl (cI, 3, .inl (tb []))), ((u 48), .inl (cI, 3, .inl (tb []))), ((u 49), .inl (cI, 3, .inl (tb []))), ((u 50), .inl (cI, 3, .inl (tb []))), ((u 51), .inr (6, [.ref (u 52), .ref (u 57), .ref (u 58)])), ((u 52), .inl (cJJ, 4, .inr (.inr (.inr (.inr (tr [(u 53), (u 54), (u 55), (u 56)])))))), ((u 53), .inl (cJ, 20, .inr (.inl (tbl [])))), ((u 54), .inl (cJ, 20, .inr (.inl (tbl [])))), ((u 55), .inl (cJ, 20, .inr (.inl (tbl [])))), ((u 56), .inl (cJ, 20, .inr (.inl (tbl [])))), ((u 57), .inl (cI, 4, .inl (tb []))), ((u 58), .inl (cI, 4, .inl (tb [(-1), (-1), (-1), (-1)]))), ((u 59), .inl (cI, 4, .inl (tb []))), ((u 60), .inl (cI, 4, .inl (tb []))), ((u 61), .inl (cJ, 4, .inr (.inl (tbl [])))), ((u 62), .inl (cI, 8, .inl (tb []))), (qm, .inr (9, [.null, .null, .null, .null, .null, .null, .null, .null, .null, .null, .null, .null, .int 0, .int 0, .int 0, .null, .null, .null, .null, .null, .null, .int 0, .int 0, .null, .null, .null, .null, .int 0, .int 0, .null, .null, .null, .null, .int 0, .null, .int 0]))]) (fun _ => rfl) (fun qm H hP hD hS => ?_)
  refine lv_dup hx hb dL_law_11 rfl ?_
  refine kI ⟨hx, hb, hml, hown, hts⟩ hK hP hD hS hA hX2 ci_RL_12 [64] [0, 1, 2, 3, 4, 5, 6, 7, 8, 9, 10, 11, 12, 13, 14, 15, 16, 17, 18, 19, 20, 21, 22, 23, 24, 25, 26, 27, 28, 29, 30, 31, 32, 33, 34, 35, 36, 37, 38, 39, 40, 41, 42, 43, 44, 45, 46, 47, 48, 49, 50, 51, 52, 53, 54, 55, 56, 57, 58, 59, 60, 61, 62, 63] (wr := [(qx, .inr (8, [.ref (u 0), .ref (u 10), .ref (u 28), .ref (u 51), .ref (u 59), .ref (u 60), .ref (u 61), .ref (u 62)])), ((u 1), .inl (cII, 3, .inr (.inr (.inr (.inr (tr [(u 2), (u 3), (u 4)])))))), ((u 2), .inl (cI, 4, .inl (tb []))), ((u 3), .inl (cI, 4, .inl (tb []))), ((u 4), .inl (cI, 4, .inl (tb []))), ((u 5), .inl (cI, 3, .inl (tb []))), ((u 0), .inr (3, [.int 1, .int 0, .ref (u 1), .ref (u 5), .ref (u 6), .ref (u 7), .ref (u 8), .ref (u 9)])), ((u 6), .inl (cI, 4, .inl (tb [0, 0, 0, 0]))), ((u 7), .inl (cI, 4, .inl (tb [10, 10, 10, 10]))), ((u 8), .inl (cI, 4, .inl (tb [0, 0, 0, 0]))), ((u 9), .inl (cI, 4, .inl (tb [0, 0, 0, 0]))), ((u 10), .inr (2, [.ref (u 0), .ref (u 11), .ref (u 13), .ref (u 21), .ref (u 24), .int 0, .int 1])), ((u 11), .inr (7, [.ref (u 12), .int 0])), ((u 12), .inl (cJ, 256, .inr (.inl (tbl [])))), ((u 13), .inr (1, [.ref (u 14), .ref (u 19), .ref (u 20), .int 0])), ((u 14), .inl (cJJ, 4, .inr (.inr (.inr (.inr (tr [(u 15), (u 16), (u 17), (u 18)])))))), ((u 15), .inl (cJ, 4, .inr (.inl (tbl [])))), ((u 16), .inl (cJ, 4, .inr (.inl (tbl [])))), ((u 17), .inl (cJ, 4, .inr (.inl (tbl [])))), ((u 18), .inl (cJ, 4, .inr (.inl (tbl [])))), ((u 19), .inl (cJ, 4, .inr (.inl (tbl [])))), ((u 20), .inl (cI, 4, .inl (tb []))), ((u 21), .inr (5, [.ref (u 22), .ref (u 23), .int 0, .int 0])), ((u 22), .inl (cI, 512, .inl (tb []))), ((u 23), .inl (cI, 512, .inl (tb []))), ((u 24), .inr (0, [.ref (u 0), .ref (u 11), .ref (u 25), .ref (u 26), .ref (u 27), .int 0])), ((u 25), .inl (cI, 4, .inl (tb []))), ((u 26), .inl (cI, 4, .inl (tb []))), ((u 27), .inl (cI, 4, .inl (tb []))), ((u 28), .inr (4, [.ref (u 0), .ref (u 29), .ref (u 30), .ref (u 31), .ref (u 32), .ref (u 33), .ref (u 39), .ref (u 45), .int 0, .int 0, .int 0, .int 1])), ((u 29), .inl (cI, 9261, .inl (tb []))), ((u 30), .inl (cI, 4, .inl (tb []))), ((u 31), .inl (cI, 4, .inl (tb []))), ((u 32), .inl (cI, 4, .inl (tb []))), ((u 33), .inl (cII, 5, .inr (.inr (.inr (.inr (tr [(u 34), (u 35), (u 36), (u 37), (u 38)])))))), ((u 34), .inl (cI, 3, .inl (tb []))), ((u 35), .inl (cI, 3, .inl (tb []))), ((u 36), .inl (cI, 3, .inl (tb []))), ((u 37), .inl (cI, 3, .inl (tb []))), ((u 38), .inl (cI, 3, .inl (tb []))), ((u 39), .inl (cII, 5, .inr (.inr (.inr (.inr (tr [(u 40), (u 41), (u 42), (u 43), (u 44)])))))), ((u 40), .inl (cI, 3, .inl (tb []))), ((u 41), .inl (cI, 3, .inl (tb []))), ((u 42), .inl (cI, 3, .inl (tb []))), ((u 43), .inl (cI, 3, .inl (tb []))), ((u 44), .inl (cI, 3, .inl (tb []))), ((u 45), .inl (cII, 5, .inr (.inr (.inr (.inr (tr [(u 46), (u 47), (u 48), (u 49), (u 50)])))))), ((u 46), .inl (cI, 3, .inl (tb []))), ((u 47), .inl (cI, 3, .inl (tb []))), ((u 48), .inl (cI, 3, .inl (tb []))), ((u 49), .inl (cI, 3, .inl (tb []))), ((u 50), .inl (cI, 3, .inl (tb []))), ((u 51), .inr (6, [.ref (u 52), .ref (u 57), .ref (u 58)])), ((u 52), .inl (cJJ, 4, .inr (.inr (.inr (.inr (tr [(u 53), (u 54), (u 55), (u 56)])))))), ((u 53), .inl (cJ, 20, .inr (.inl (tbl [])))), ((u 54), .inl (cJ, 20, .inr (.inl (tbl [])))), ((u 55), .inl (cJ, 20, .inr (.inl (tbl [])))), ((u 56), .inl (cJ, 20, .inr (.inl (tbl [])))), ((u 57), .inl (cI, 4, .inl (tb []))), ((u 58), .inl (cI, 4, .inl (tb [(-1), (-1), (-1), (-1)]))), ((u 59), .inl (cI, 4, .inl (tb []))), ((u 60), .inl (cI, 4, .inl (tb []))), ((u 61), .inl (cJ, 4, .inr (.inl (tbl [])))), ((u 62), .inl (cI, 8, .inl (tb [])))]) rfl rfl rfl rfl (by decide) (c302_X9_init l dC dI cI cJ cII cJJ H.size 0 qm) ⟨by decide +kernel, by decide +kernel⟩ rfl rfl (Or.inl rfl) (rest := [.ref qm]) rfl hl.1 rfl (Nat.le_of_ble_eq_true rfl) dL_law_12 ⟨Nat.le_of_ble_eq_true rfl, Nat.le_of_ble_eq_true rfl⟩ (Wf := fun v => WLD cI cJ cII cJJ qx qm u v) (fun _ => rfl) (fun v H locs hP hD hS => ?_)
  refine lv_astore_n (lv' := [(2, .ref qm), (1, .ref qx), (0, .ref b)]) hx hb dL_law_15 rfl hl (by decide) rfl (fun ls hl => ?_)
  refine lv_iconst (v := 0) hx hb dL_law_16 (by decide) ?_
  refine lv_istore_n (lv' := [(3, .int 0), (2, .ref qm), (1, .ref qx), (0, .ref b)]) hx hb dL_law_17 rfl hl (by decide) rfl (fun ls hl => ?_)
  refine W.widen (k := 600000) (n := 7302250) (Nat.le_of_ble_eq_true rfl) (Nat.le_of_ble_eq_true rfl) ?_
  refine lv_iload_n hx hb dL_law_18 rfl (lv_at hl 0 rfl) ?_
  refine lv_aload_n hx hb dL_law_19 rfl (lv_at hl 3 rfl) ?_
  refine va_slen hx hb hX0 hbl hbA hS dL_law_20 ?_
  refine lv_iconst (v := 5) hx hb dL_law_21 (by decide) ?_
  rcases (show L = 5 ∨ L = 0 ∨ L = 1 ∨ L = 2 ∨ L = 3 ∨ L = 4 by omega) with h5 | h5
  · refine v_isub hx hb dL_law_22 0 (by rw [h5]; decide +kernel) ?_
    refine f_icmp_gt hx hb dL_law_23 1079 (by decide) (by decide +kernel) ?_
    refine lv_aload_n hx hb dL_law_26 rfl (lv_at hl 3 rfl) ?_
    refine lv_iload_n hx hb dL_law_27 rfl (lv_at hl 0 rfl) ?_
    refine va_sld hx hb hX0 hbl hbA hS (by rw [h5]; exact vin (by decide +kernel)) dL_law_28 ?_
    refine lv_bipush (v := 31) hx hb dL_law_29 (by decide) ?_
    obtain ⟨j, hj, ej⟩ := pk_andE (xs (0 : Int32).toNatClampNeg) (m := 31) 5 (by decide +kernel)
    refine v_iand hx hb dL_law_31 (nI j) ej ?_
    have hj : j < 32 := hj
    clear ej
    rcases (show j = 0 ∨ j = 1 ∨ j = 2 ∨ j = 3 ∨ j = 4 ∨ j = 5 ∨ j = 6 ∨ j = 7 ∨ j = 8 ∨ j = 9 ∨ j = 10 ∨ j = 11 ∨ j = 12 ∨ j = 13 ∨ j = 14 ∨ j = 15 ∨ j = 16 ∨ j = 17 ∨ j = 18 ∨ j = 19 ∨ j = 20 ∨ j = 21 ∨ j = 22 ∨ j = 23 ∨ j = 24 ∨ j = 25 ∨ j = 26 ∨ j = 27 ∨ j = 28 ∨ j = 29 ∨ j = 30 ∨ j = 31 by omega) with rfl | rfl | rfl | rfl | rfl | rfl | rfl | rfl | rfl | rfl | rfl | rfl | rfl | rfl | rfl | rfl | rfl | rfl | rfl | rfl | rfl | rfl | rfl | rfl | rfl | rfl | rfl | rfl | rfl | rfl | rfl | rfl
    · refine lv_tableIn (off := 144) (tgt := 176) hx hb dL_law_32 (by decide +kernel) (by decide +kernel) (by decide +kernel) (by decide) ?_
      exact lc_0 l C0 h5 hK hX1 hP hD hS hl
    · refine lv_tableIn (off := 167) (tgt := 199) hx hb dL_law_32 (by decide +kernel) (by decide +kernel) (by decide +kernel) (by decide) ?_
      exact lc_1 l C0 h5 hK hX1 hP hD hS hl
    · refine lv_tableIn (off := 180) (tgt := 212) hx hb dL_law_32 (by decide +kernel) (by decide +kernel) (by decide +kernel) (by decide) ?_
      exact lc_2 l C0 h5 hK hX1 hP hD hS hl
    · refine lv_tableIn (off := 223) (tgt := 255) hx hb dL_law_32 (by decide +kernel) (by decide +kernel) (by decide +kernel) (by decide) ?_
      exact lc_3 l C0 h5 hK hX1 hP hD hS hl
    · refine lv_tableIn (off := 256) (tgt := 288) hx hb dL_law_32 (by decide +kernel) (by decide +kernel) (by decide +kernel) (by decide) ?_
      exact lc_4 l C0 h5 hK hX1 hP hD hS hl
    · refine lv_tableIn (off := 299) (tgt := 331) hx hb dL_law_32 (by decide +kernel) (by decide +kernel) (by decide +kernel) (by decide) ?_
      exact lc_5 l C0 h5 hK hX1 hP hD hS hl
    · refine lv_tableIn (off := 342) (tgt := 374) hx hb dL_law_32 (by decide +kernel) (by decide +kernel) (by decide +kernel) (by decide) ?_
      exact lc_6 l C0 h5 hK hX1 hP hD hS hl
    · refine lv_tableIn (off := 385) (tgt := 417) hx hb dL_law_32 (by decide +kernel) (by decide +kernel) (by decide +kernel) (by decide) ?_
      exact lc_7 l C0 h5 hK hX1 hP hD hS hl
    · refine lv_tableIn (off := 458) (tgt := 490) hx hb dL_law_32 (by decide +kernel) (by decide +kernel) (by decide +kernel) (by decide) ?_
      exact lc_8 l C0 h5 hK hX1 hP hD hS hl
    · refine lv_tableIn (off := 511) (tgt := 543) hx hb dL_law_32 (by decide +kernel) (by decide +kernel) (by decide +kernel) (by decide) ?_
      exact lc_9 l C0 h5 hK hX1 hP hD hS hl
    · refine lv_tableIn (off := 554) (tgt := 586) hx hb dL_law_32 (by decide +kernel) (by decide +kernel) (by decide +kernel) (by decide) ?_
      exact lc_10 l C0 h5 hK hX1 hP hD hS hl
    · refine lv_tableIn (off := 567) (tgt := 599) hx hb dL_law_32 (by decide +kernel) (by decide +kernel) (by decide +kernel) (by decide) ?_
      exact lc_11 l C0 h5 hK hX1 hP hD hS hl
    · refine lv_tableIn (off := 600) (tgt := 632) hx hb dL_law_32 (by decide +kernel) (by decide +kernel) (by decide +kernel) (by decide) ?_
      exact lc_12 l C0 h5 hK hX1 hP hD hS hl
    · refine lv_tableIn (off := 623) (tgt := 655) hx hb dL_law_32 (by decide +kernel) (by decide +kernel) (by decide +kernel) (by decide) ?_
      exact lc_13 l C0 h5 hK hX1 hP hD hS hl
    · refine lv_tableIn (off := 646) (tgt := 678) hx hb dL_law_32 (by decide +kernel) (by decide +kernel) (by decide +kernel) (by decide) ?_
      exact lc_14 l C0 h5 hK hX1 hP hD hS hl
    · refine lv_tableIn (off := 679) (tgt := 711) hx hb dL_law_32 (by decide +kernel) (by decide +kernel) (by decide +kernel) (by decide) ?_
      exact lc_15 l C0 h5 hK hX1 hP hD hS hl
    · refine lv_tableIn (off := 702) (tgt := 734) hx hb dL_law_32 (by decide +kernel) (by decide +kernel) (by decide +kernel) (by decide) ?_
      exact lc_16 l C0 h5 hK hX1 hP hD hS hl
    · refine lv_tableIn (off := 715) (tgt := 747) hx hb dL_law_32 (by decide +kernel) (by decide +kernel) (by decide +kernel) (by decide) ?_
      exact lc_17 l C0 h5 hK hX1 hP hD hS hl
    · refine lv_tableIn (off := 738) (tgt := 770) hx hb dL_law_32 (by decide +kernel) (by decide +kernel) (by decide +kernel) (by decide) ?_
      exact lc_18 l C0 h5 hK hX1 hP hD hS hl
    · refine lv_tableIn (off := 761) (tgt := 793) hx hb dL_law_32 (by decide +kernel) (by decide +kernel) (by decide +kernel) (by decide) ?_
      exact lc_19 l C0 h5 hK hX1 hP hD hS hl
    · refine lv_tableIn (off := 794) (tgt := 826) hx hb dL_law_32 (by decide +kernel) (by decide +kernel) (by decide +kernel) (by decide) ?_
      exact lc_20 l C0 h5 hK hX1 hP hD hS hl
    · refine lv_tableIn (off := 808) (tgt := 840) hx hb dL_law_32 (by decide +kernel) (by decide +kernel) (by decide +kernel) (by decide) ?_
      exact lc_21 l C0 h5 hK hX1 hP hD hS hl
    · refine lv_tableIn (off := 821) (tgt := 853) hx hb dL_law_32 (by decide +kernel) (by decide +kernel) (by decide +kernel) (by decide) ?_
      exact lc_22 l C0 h5 hK hX1 hP hD hS hl
    · refine lv_tableIn (off := 834) (tgt := 866) hx hb dL_law_32 (by decide +kernel) (by decide +kernel) (by decide +kernel) (by decide) ?_
      exact lc_23 l C0 h5 hK hX1 hP hD hS hl
    · refine lv_tableIn (off := 847) (tgt := 879) hx hb dL_law_32 (by decide +kernel) (by decide +kernel) (by decide +kernel) (by decide) ?_
      exact lc_24 l C0 h5 hK hX1 hP hD hS hl
    · refine lv_tableIn (off := 880) (tgt := 912) hx hb dL_law_32 (by decide +kernel) (by decide +kernel) (by decide +kernel) (by decide) ?_
      exact lc_25 l C0 h5 hK hX1 hP hD hS hl
    · refine lv_tableIn (off := 903) (tgt := 935) hx hb dL_law_32 (by decide +kernel) (by decide +kernel) (by decide +kernel) (by decide) ?_
      exact lc_26 l C0 h5 hK hX1 hP hD hS hl
    · refine lv_tableIn (off := 926) (tgt := 958) hx hb dL_law_32 (by decide +kernel) (by decide +kernel) (by decide +kernel) (by decide) ?_
      exact lc_27 l C0 h5 hK hX1 hP hD hS hl
    · refine lv_tableIn (off := 939) (tgt := 971) hx hb dL_law_32 (by decide +kernel) (by decide +kernel) (by decide +kernel) (by decide) ?_
      exact lc_28 l C0 h5 hK hX1 hP hD hS hl
    · refine lv_tableIn (off := 972) (tgt := 1004) hx hb dL_law_32 (by decide +kernel) (by decide +kernel) (by decide +kernel) (by decide) ?_
      exact lc_29 l C0 h5 hK hX1 hP hD hS hl
    · refine lv_tableIn (off := 995) (tgt := 1027) hx hb dL_law_32 (by decide +kernel) (by decide +kernel) (by decide +kernel) (by decide) ?_
      exact lc_30 l C0 h5 hK hX1 hP hD hS hl
    · refine lv_tableIn (off := 1018) (tgt := 1050) hx hb dL_law_32 (by decide +kernel) (by decide +kernel) (by decide +kernel) (by decide) ?_
      exact lc_31 l C0 h5 hK hX1 hP hD hS hl
  · refine lv_topi (fun z hz => ?_)
    refine v_isub hx hb dL_law_22 _ rfl ?_
    refine t_icmp_gt hx hb dL_law_23 1079 (by decide) (by rw [hz]; rcases h5 with h | h | h | h | h <;> (rw [h]; decide +kernel)) ?_
    refine lv_iconst (v := 1) hx hb dL_law_1079 (by decide) ?_
    refine va_forget (fun q hq => hS.2.2 q hq) ?_
    exact lw_ret hx hb hr hlocks dL_law_1080
