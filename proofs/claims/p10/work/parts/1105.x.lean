def Q_m051_X8_right (dC : Nat → ClassId) (dI : Nat → Nat → Nat) (cI cJ cII cJJ : ClassId) (ad : Nat → Nat) (f3_unknowns f3_equations f2_roundSupports f2_stale f7_size f1_size f5_keptSize f5_aheadSize f0_solved f4_blockCount f4_blockLength f4_lastIsFree : Int32) (ai0 : Nat → Nat → Int32) (al : Nat → Nat → Int64) (w0 w1 w2 w3 : Nat) (x1 : Int32) (x2 : Int32) : (Nat → Prop) → Array Value → State → Outcome → State → Prop := fun A => QI (fun r t => ∃ (n_f4_stale : Int32), ∃ (n_ai : Nat → Nat → Int32), ((0 ≤ n_f4_stale.toInt ∧ n_f4_stale.toInt ≤ 1) ∧ ((¬ (0 ≤ x1.toInt ∧ x1.toInt < f3_equations.toInt) ∧ r.toInt = -1) ∨ ((0 ≤ x1.toInt ∧ x1.toInt < f3_equations.toInt) ∧ x2.toInt < -200 ∧ r.toInt = -4) ∨ ((0 ≤ x1.toInt ∧ x1.toInt < f3_equations.toInt) ∧ 200 < x2.toInt ∧ r.toInt = -6) ∨ ((0 ≤ x1.toInt ∧ x1.toInt < f3_equations.toInt) ∧ (-200 ≤ x2.toInt ∧ x2.toInt ≤ 200) ∧ r.toInt = (ai0 5 x1.toInt.toNat).toInt)) ∧ (((0 ≤ x1.toInt ∧ x1.toInt < f3_equations.toInt) ∧ (-200 ≤ x2.toInt ∧ x2.toInt ≤ 200) ∧ n_ai 5 = upd (ai0 5) x1.toInt.toNat x2) ∨ (¬ ((0 ≤ x1.toInt ∧ x1.toInt < f3_equations.toInt) ∧ (-200 ≤ x2.toInt ∧ x2.toInt ≤ 200)) ∧ n_ai 5 = ai0 5)) ∧ IAX n_ai ∧ FR [5, 63] ai0 n_ai) ∧ WO dC dI (TY cI cJ cII cJJ) (WX cI cJ cII cJJ ad f3_unknowns f3_equations f2_roundSupports f2_stale f7_size f1_size f5_keptSize f5_aheadSize f0_solved f4_blockCount f4_blockLength f4_lastIsFree n_f4_stale n_ai al w0 w1 w2 w3) A t) A
set_option maxRecDepth 100000 in
set_option maxHeartbeats 4000000 in
theorem m051_X8_right_b89 {p : Program} {l : Launch} {e : Env} {s : State} {m : MethodId} {args : Array Value} {below : List Frame} {meth : Method} {c : Code} {A : Nat → Prop} {dC : Nat → ClassId} {dI : Nat → Nat → Nat} {cI cJ cII cJJ : ClassId} {ad : Nat → Nat} {g : Nat} {f3_unknowns f3_equations f2_roundSupports f2_stale f7_size f1_size f5_keptSize f5_aheadSize f0_solved f4_blockCount f4_blockLength f4_lastIsFree : Int32} {ai0 : Nat → Nat → Int32} {al : Nat → Nat → Int64} {w0 w1 w2 w3 : Nat} {x1 : Int32} {x2 : Int32} (C : Cx p c s m meth args A dC dI (TY cI cJ cII cJJ) cX8_right (some .int) 4 RX8 0 g) : ∀ (L3 S0 f4_stale : Int32) (ai : Nat → Nat → Int32) (H : Heap) (locs : List Loc) (ls : Array Slot), (0 ≤ S0.toInt ∧ S0.toInt ≤ 1) → (1 ≤ f3_unknowns.toInt ∧ f3_unknowns.toInt ≤ 4) → (0 ≤ f3_equations.toInt ∧ f3_equations.toInt ≤ 3) → (0 ≤ f2_stale.toInt ∧ f2_stale.toInt ≤ 1) → (0 ≤ f7_size.toInt ∧ f7_size.toInt ≤ 256) → (0 ≤ f1_size.toInt ∧ f1_size.toInt ≤ 4) → (0 ≤ f5_keptSize.toInt ∧ f5_keptSize.toInt ≤ 128) → (0 ≤ f5_aheadSize.toInt ∧ f5_aheadSize.toInt ≤ 128) → (0 ≤ f4_blockCount.toInt ∧ f4_blockCount.toInt ≤ 9261) → (0 ≤ f4_blockLength.toInt ∧ f4_blockLength.toInt ≤ 21) → (0 ≤ f4_lastIsFree.toInt ∧ f4_lastIsFree.toInt ≤ 1) → (0 ≤ f4_stale.toInt ∧ f4_stale.toInt ≤ 1) → (0 ≤ x1.toInt ∧ x1.toInt ≤ 2) → (-200 ≤ x2.toInt ∧ x2.toInt ≤ 200) → (0 ≤ x1.toInt ∧ x1.toInt < f3_equations.toInt) → (-200 ≤ x2.toInt ∧ x2.toInt ≤ 200) → ai 5 = upd (ai0 5) x1.toInt.toNat x2 → L3.toInt = (ai0 5 x1.toInt.toNat).toInt → IAX ai → FR [5, 63] ai0 ai → RWX ad w0 → RWX ad w1 → RWX ad w2 → RWX ad w3 → va_P (dC, dI) vwCl (WX cI cJ cII cJJ ad f3_unknowns f3_equations f2_roundSupports f2_stale f7_size f1_size f5_keptSize f5_aheadSize f0_solved f4_blockCount f4_blockLength f4_lastIsFree f4_stale ai al w0 w1 w2 w3) H → va_D A (WX cI cJ cII cJJ ad f3_unknowns f3_equations f2_roundSupports f2_stale f7_size f1_size f5_keptSize f5_aheadSize f0_solved f4_blockCount f4_blockLength f4_lastIsFree f4_stale ai al w0 w1 w2 w3) → va_S A s.heap H locs → lv_has ls 4 [(0, .ref (ad 0)), (1, .int x1), (2, .int x2), (3, .int L3)] → W p l e ({ frames := 3, cells := 0, slots := 0, locals := 140 } : Room) s m args below meth c H locs 0 0 (MQ below (Q_m051_X8_right dC dI cI cJ cII cJJ ad f3_unknowns f3_equations f2_roundSupports f2_stale f7_size f1_size f5_keptSize f5_aheadSize f0_solved f4_blockCount f4_blockLength f4_lastIsFree ai0 al w0 w1 w2 w3 x1 x2 A) args s 0 0 A) (F0 m 89 ls [.int S0, .ref (ad 29)]) := by
  obtain ⟨hx, hb, hr, hml, hown, hts, hk, hA, hK, hX⟩ := id C
  intro L3 S0 f4_stale ai H locs ls h0 h1 h2 h3 h4 h5 h6 h7 h8 h9 h10 h11 h12 h13 h14 h15 h16 h17 hI hF hw_w0 hw_w1 hw_w2 hw_w3 hP hD hS hl
  have ra_L3 := s_any L3
  refine pf (k := 11) hx hb hts inX4 tyX4_ok nmX4 hown hK hP hD hS k_217 rfl (by decide) rfl rfl 29 rfl (nb_n (a := S0.toInt) rfl (by omega) (by omega)) (nb_f (a := S0.toInt) rfl (by omega) (by omega)) (Nat.le_of_ble_eq_true rfl) dX8_right_89 (W' := (WX cI cJ cII cJJ ad f3_unknowns f3_equations f2_roundSupports f2_stale f7_size f1_size f5_keptSize f5_aheadSize f0_solved f4_blockCount f4_blockLength f4_lastIsFree S0 ai al w0 w1 w2 w3)) rfl (fun H_1 locs_1 hP_1 hD_1 hS_1 => ?_)
  refine lv_iload_n hx hb dX8_right_92 rfl (lv_at hl 3 rfl) ?_
  exact r2_i hx hb hr hk hS_1 dX8_right_93 (fun t ht hW => ⟨S0, ai, ⟨(by first | omega | decide | exact Or.inl (by decide) | exact Or.inr (by decide) | exact Or.inr (by omega)), (by first | omega | decide | exact Or.inl (by decide) | exact Or.inr (by decide) | exact Or.inr (by omega)), (Or.inl ⟨by omega, by omega, h16⟩), hI, hF⟩, by rw [ht]; exact hP_1, va_K.moved hW.alike hK, hD_1⟩)
set_option maxRecDepth 100000 in
set_option maxHeartbeats 4000000 in
theorem m051_X8_right_b84 {p : Program} {l : Launch} {e : Env} {s : State} {m : MethodId} {args : Array Value} {below : List Frame} {meth : Method} {c : Code} {A : Nat → Prop} {dC : Nat → ClassId} {dI : Nat → Nat → Nat} {cI cJ cII cJJ : ClassId} {ad : Nat → Nat} {g : Nat} {f3_unknowns f3_equations f2_roundSupports f2_stale f7_size f1_size f5_keptSize f5_aheadSize f0_solved f4_blockCount f4_blockLength f4_lastIsFree : Int32} {ai0 : Nat → Nat → Int32} {al : Nat → Nat → Int64} {w0 w1 w2 w3 : Nat} {x1 : Int32} {x2 : Int32} (C : Cx p c s m meth args A dC dI (TY cI cJ cII cJJ) cX8_right (some .int) 4 RX8 0 g) : ∀ (L3 f4_stale : Int32) (ai : Nat → Nat → Int32) (H : Heap) (locs : List Loc) (ls : Array Slot), (1 ≤ f3_unknowns.toInt ∧ f3_unknowns.toInt ≤ 4) → (0 ≤ f3_equations.toInt ∧ f3_equations.toInt ≤ 3) → (0 ≤ f2_stale.toInt ∧ f2_stale.toInt ≤ 1) → (0 ≤ f7_size.toInt ∧ f7_size.toInt ≤ 256) → (0 ≤ f1_size.toInt ∧ f1_size.toInt ≤ 4) → (0 ≤ f5_keptSize.toInt ∧ f5_keptSize.toInt ≤ 128) → (0 ≤ f5_aheadSize.toInt ∧ f5_aheadSize.toInt ≤ 128) → (0 ≤ f4_blockCount.toInt ∧ f4_blockCount.toInt ≤ 9261) → (0 ≤ f4_blockLength.toInt ∧ f4_blockLength.toInt ≤ 21) → (0 ≤ f4_lastIsFree.toInt ∧ f4_lastIsFree.toInt ≤ 1) → (0 ≤ f4_stale.toInt ∧ f4_stale.toInt ≤ 1) → (0 ≤ x1.toInt ∧ x1.toInt ≤ 2) → (-200 ≤ x2.toInt ∧ x2.toInt ≤ 200) → (0 ≤ x1.toInt ∧ x1.toInt < f3_equations.toInt) → (-200 ≤ x2.toInt ∧ x2.toInt ≤ 200) → ai 5 = upd (ai0 5) x1.toInt.toNat x2 → L3.toInt = (ai0 5 x1.toInt.toNat).toInt → IAX ai → FR [5, 63] ai0 ai → RWX ad w0 → RWX ad w1 → RWX ad w2 → RWX ad w3 → va_P (dC, dI) vwCl (WX cI cJ cII cJJ ad f3_unknowns f3_equations f2_roundSupports f2_stale f7_size f1_size f5_keptSize f5_aheadSize f0_solved f4_blockCount f4_blockLength f4_lastIsFree f4_stale ai al w0 w1 w2 w3) H → va_D A (WX cI cJ cII cJJ ad f3_unknowns f3_equations f2_roundSupports f2_stale f7_size f1_size f5_keptSize f5_aheadSize f0_solved f4_blockCount f4_blockLength f4_lastIsFree f4_stale ai al w0 w1 w2 w3) → va_S A s.heap H locs → lv_has ls 4 [(0, .ref (ad 0)), (1, .int x1), (2, .int x2), (3, .int L3)] → W p l e ({ frames := 3, cells := 0, slots := 0, locals := 140 } : Room) s m args below meth c H locs 0 0 (MQ below (Q_m051_X8_right dC dI cI cJ cII cJJ ad f3_unknowns f3_equations f2_roundSupports f2_stale f7_size f1_size f5_keptSize f5_aheadSize f0_solved f4_blockCount f4_blockLength f4_lastIsFree ai0 al w0 w1 w2 w3 x1 x2 A) args s 0 0 A) (F0 m 84 ls [.ref (ad 29)]) := by
  obtain ⟨hx, hb, hr, hml, hown, hts, hk, hA, hK, hX⟩ := id C
  intro L3 f4_stale ai H locs ls h0 h1 h2 h3 h4 h5 h6 h7 h8 h9 h10 h11 h12 h13 h14 h15 h16 hI hF hw_w0 hw_w1 hw_w2 hw_w3 hP hD hS hl
  have ra_L3 := s_any L3
  refine lv_iconst (v := 1) hx hb dX8_right_84 (by decide) ?_
  refine lv_goto (tgt := 89) hx hb dX8_right_85 (by decide) ?_
  exact m051_X8_right_b89 C  L3 1 f4_stale ai _ _ _ (by first | omega | decide | (have ka0 := (by decide +kernel : (1 : Int32).toInt = 1); omega)) (by first | omega | decide | (have ka0 := (by decide +kernel : (1 : Int32).toInt = 1); omega)) (by first | omega | decide | (have ka0 := (by decide +kernel : (1 : Int32).toInt = 1); omega)) (by first | omega | decide | (have ka0 := (by decide +kernel : (1 : Int32).toInt = 1); omega)) (by first | omega | decide | (have ka0 := (by decide +kernel : (1 : Int32).toInt = 1); omega)) (by first | omega | decide | (have ka0 := (by decide +kernel : (1 : Int32).toInt = 1); omega)) (by first | omega | decide | (have ka0 := (by decide +kernel : (1 : Int32).toInt = 1); omega)) (by first | omega | decide | (have ka0 := (by decide +kernel : (1 : Int32).toInt = 1); omega)) (by first | omega | decide | (have ka0 := (by decide +kernel : (1 : Int32).toInt = 1); omega)) (by first | omega | decide | (have ka0 := (by decide +kernel : (1 : Int32).toInt = 1); omega)) (by first | omega | decide | (have ka0 := (by decide +kernel : (1 : Int32).toInt = 1); omega)) (by first | omega | decide | (have ka0 := (by decide +kernel : (1 : Int32).toInt = 1); omega)) (by first | omega | decide | (have ka0 := (by decide +kernel : (1 : Int32).toInt = 1); omega)) (by first | omega | decide | (have ka0 := (by decide +kernel : (1 : Int32).toInt = 1); omega)) (by first | omega | decide | (have ka0 := (by decide +kernel : (1 : Int32).toInt = 1); omega)) (by first | omega | decide | (have ka0 := (by decide +kernel : (1 : Int32).toInt = 1); omega)) h15 (by first | omega | decide | (have ka0 := (by decide +kernel : (1 : Int32).toInt = 1); omega)) hI hF hw_w0 hw_w1 hw_w2 hw_w3 hP hD hS (lv_sub hl [0, 1, 2, 3] rfl)
set_option maxRecDepth 100000 in
set_option maxHeartbeats 4000000 in
theorem m051_X8_right (l : Launch) (dC : Nat → ClassId) (dI : Nat → Nat → Nat) (cI cJ cII cJJ : ClassId) (sz g : Nat) (ad : Nat → Nat) (f3_unknowns f3_equations f2_roundSupports f2_stale f7_size f1_size f5_keptSize f5_aheadSize f0_solved f4_blockCount f4_blockLength f4_lastIsFree f4_stale : Int32) (ai : Nat → Nat → Int32) (al : Nat → Nat → Int64) (w0 w1 w2 w3 : Nat) (x1 : Int32) (x2 : Int32) (h_f3_unknowns : (1 ≤ f3_unknowns.toInt ∧ f3_unknowns.toInt ≤ 4)) (h_f3_equations : (0 ≤ f3_equations.toInt ∧ f3_equations.toInt ≤ 3)) (h_f2_stale : (0 ≤ f2_stale.toInt ∧ f2_stale.toInt ≤ 1)) (h_f7_size : (0 ≤ f7_size.toInt ∧ f7_size.toInt ≤ 256)) (h_f1_size : (0 ≤ f1_size.toInt ∧ f1_size.toInt ≤ 4)) (h_f5_keptSize : (0 ≤ f5_keptSize.toInt ∧ f5_keptSize.toInt ≤ 128)) (h_f5_aheadSize : (0 ≤ f5_aheadSize.toInt ∧ f5_aheadSize.toInt ≤ 128)) (h_f4_blockCount : (0 ≤ f4_blockCount.toInt ∧ f4_blockCount.toInt ≤ 9261)) (h_f4_blockLength : (0 ≤ f4_blockLength.toInt ∧ f4_blockLength.toInt ≤ 21)) (h_f4_lastIsFree : (0 ≤ f4_lastIsFree.toInt ∧ f4_lastIsFree.toInt ≤ 1)) (h_f4_stale : (0 ≤ f4_stale.toInt ∧ f4_stale.toInt ≤ 1)) (hI : IAX ai) (hw_w0 : RWX ad w0) (hw_w1 : RWX ad w1) (hw_w2 : RWX ad w2) (hw_w3 : RWX ad w3) : Met l yX8_right (.code yX8_right cX8_right 4 (some .int) :: TT) ({ frames := 3, cells := 0, slots := 0, locals := 140 } : Room) (PcS dC dI (TY cI cJ cII cJJ) [.ref (ad 0), .int x1, .int x2] (WX cI cJ cII cJJ ad f3_unknowns f3_equations f2_roundSupports f2_stale f7_size f1_size f5_keptSize f5_aheadSize f0_solved f4_blockCount f4_blockLength f4_lastIsFree f4_stale ai al w0 w1 w2 w3) sz 0 g) (Q_m051_X8_right dC dI cI cJ cII cJJ ad f3_unknowns f3_equations f2_roundSupports f2_stale f7_size f1_size f5_keptSize f5_aheadSize f0_solved f4_blockCount f4_blockLength f4_lastIsFree ai al w0 w1 w2 w3 x1 x2 (va_A (WX cI cJ cII cJJ ad f3_unknowns f3_equations f2_roundSupports f2_stale f7_size f1_size f5_keptSize f5_aheadSize f0_solved f4_blockCount f4_blockLength f4_lastIsFree f4_stale ai al w0 w1 w2 w3) sz)) 0 0 (va_A (WX cI cJ cII cJJ ad f3_unknowns f3_equations f2_roundSupports f2_stale f7_size f1_size f5_keptSize f5_aheadSize f0_solved f4_blockCount f4_blockLength f4_lastIsFree f4_stale ai al w0 w1 w2 w3) sz) := by
  refine SM.of (y := yX8_right) (maxL := 4) (av := [.ref (ad 0), .int x1, .int x2]) (Q_m051_X8_right dC dI cI cJ cII cJJ ad f3_unknowns f3_equations f2_roundSupports f2_stale f7_size f1_size f5_keptSize f5_aheadSize f0_solved f4_blockCount f4_blockLength f4_lastIsFree ai al w0 w1 w2 w3 x1 x2) (by decide +kernel) (Nat.le_of_ble_eq_true rfl) (fun p e s m below meth c A ls hx hb hr hml hown hts hk hnm hA hK hP hD hS hX hl => ?_)
  have C : Cx p c s m meth (([.ref (ad 0), .int x1, .int x2] : List Value).toArray) A dC dI (TY cI cJ cII cJJ) cX8_right (some .int) 4 RX8 0 g := ⟨hx, hb, hr, hml, hown, hts, hk, hA, hK, hX⟩
  have hown : s.vm.findClass RX8 = some m.cls := hown
  have hl : lv_has ls 4 [(0, .ref (ad 0)), (1, .int x1), (2, .int x2)] := hl
  obtain ⟨H, hH⟩ : ∃ q, q = s.heap := ⟨_, rfl⟩
  rw [← hH] at hP
  have hS : va_S A s.heap H [] := by rw [hH]; exact hS
  rw [← hH]
  have hF := FR_refl [5, 63] ai
  have ra_x1 := s_any x1
  have ra_x2 := s_any x2
  refine lv_aload_n hx hb dX8_right_0 rfl (lv_at hl 0 rfl) ?_
  refine gf (k := 0) hx hb hts inX8 hown hK hP k_264 rfl (by decide) rfl 0 rfl (.ref (ad 6)) rfl dX8_right_1 ?_
  refine lv_iload_n hx hb dX8_right_4 rfl (lv_at hl 1 rfl) ?_
  have hM := m002_X3_hasEquation l dC dI cI cJ cII cJJ H.size 0 ad f3_unknowns f3_equations f2_roundSupports f2_stale f7_size f1_size f5_keptSize f5_aheadSize f0_solved f4_blockCount f4_blockLength f4_lastIsFree f4_stale ai al w0 w1 w2 w3 x1 (by omega) (by omega) (by omega) (by omega) (by omega) (by omega) (by omega) (by omega) (by omega) (by omega) (by omega) hI hw_w0 hw_w1 hw_w2 hw_w3
  refine k2V_i (q0 := 6) ⟨hx, hb, hml, hown, hts⟩ hK hP hD hS hA hX cv_RX8_78 hM ⟨by decide +kernel, by decide +kernel⟩ rfl rfl (Or.inl rfl) (rest := []) rfl rfl rfl hl.1 rfl (Nat.le_of_ble_eq_true rfl) dX8_right_5 ⟨Nat.le_of_ble_eq_true rfl, Nat.le_of_ble_eq_true rfl⟩ (fun r1 t H1 locs_1 ht hB hS_1 hFc => ?_)
  obtain ⟨⟨gpr1_0, gpr1_1⟩, hP_2, -, hD_2⟩ := hB
  rw [ht] at hP_2
  have hD_3 := hD_2.weaken (B := A) (fun k q _ h9 => hFc q.1 h9)
  clear ht
  generalize H1 = H_4 at hP_2 hS_1 ⊢
  refine lv_if_ne (tgt := 17) hx hb dX8_right_8 (by decide) (fun c2 => ?_) (fun c2 => ?_)
  · have c2 := j_ne (a := r1.toInt) (b := 0) rfl (by decide +kernel) c2
    refine lv_iload_n hx hb dX8_right_17 rfl (lv_at hl 2 rfl) ?_
    refine lv_sipush (v := (-200)) hx hb dX8_right_18 (by decide) ?_
    refine lv_icmp_ge (tgt := 31) hx hb dX8_right_21 (by decide) (fun c3 => ?_) (fun c3 => ?_)
    · have c3 := j_le (a := (-200)) (b := x2.toInt) (by decide +kernel) rfl c3
      refine lv_iload_n hx hb dX8_right_31 rfl (lv_at hl 2 rfl) ?_
      refine lv_sipush (v := 200) hx hb dX8_right_32 (by decide) ?_
      refine lv_icmp_le (tgt := 45) hx hb dX8_right_35 (by decide) (fun c4 => ?_) (fun c4 => ?_)
      · have c4 := j_le (a := x2.toInt) (b := 200) rfl (by decide +kernel) c4
        refine lv_aload_n hx hb dX8_right_45 rfl (lv_at hl 0 rfl) ?_
        refine gf (k := 0) hx hb hts inX8 hown hK hP_2 k_264 rfl (by decide) rfl 0 rfl (.ref (ad 6)) rfl dX8_right_46 ?_
        refine gf (k := 3) hx hb hts inX3 hown hK hP_2 k_54 rfl (by decide) rfl 6 rfl (.ref (ad 5)) rfl dX8_right_49 ?_
        refine lv_iload_n hx hb dX8_right_52 rfl (lv_at hl 1 rfl) ?_
        refine va_iald hx hb hK hP_2 5 0 rfl rfl (j_in (a := x1.toInt) rfl (by omega) (by omega)) dX8_right_53 ?_
        refine lv_topi (fun z5 e_z5 => ?_)
        have k_z5 : z5.toInt = (ai 5 x1.toInt.toNat).toInt := by rw [e_z5]; rfl
        refine lv_istore_n (lv' := [(3, .int z5), (0, .ref (ad 0)), (1, .int x1), (2, .int x2)]) hx hb dX8_right_54 rfl hl (by decide) rfl (fun ls_5 hl_5 => ?_)
        refine lv_aload_n hx hb dX8_right_55 rfl (lv_at hl_5 1 rfl) ?_
        refine gf (k := 0) hx hb hts inX8 hown hK hP_2 k_264 rfl (by decide) rfl 0 rfl (.ref (ad 6)) rfl dX8_right_56 ?_
        refine gf (k := 3) hx hb hts inX3 hown hK hP_2 k_54 rfl (by decide) rfl 6 rfl (.ref (ad 5)) rfl dX8_right_59 ?_
        refine lv_iload_n hx hb dX8_right_62 rfl (lv_at hl_5 2 rfl) ?_
        refine lv_iload_n hx hb dX8_right_63 rfl (lv_at hl_5 3 rfl) ?_
        refine va_iast hx hb hK hP_2 hD_3 hS_1 5 0 rfl rfl (j_in (a := x1.toInt) rfl (by omega) (by omega)) dX8_right_64 (fun H_6 locs_6 hP_6 hD_6 hS_6 => ?_)
        obtain ⟨ai6, e_ai6⟩ : ∃ q : Nat → Nat → Int32, q = va_up ai 5 (upd (ai 5) x1.toNatClampNeg x2) := ⟨_, rfl⟩
        have hF_7 := FR_st hF e_ai6 (by decide)
        have hI_8 : IAX ai6 := by rw [e_ai6]; exact hI
        have hP_9 : va_P (dC, dI) vwCl (WX cI cJ cII cJJ ad f3_unknowns f3_equations f2_roundSupports f2_stale f7_size f1_size f5_keptSize f5_aheadSize f0_solved f4_blockCount f4_blockLength f4_lastIsFree f4_stale ai6 al w0 w1 w2 w3) H_6 := by rw [e_ai6]; exact hP_6
        have hD_10 : va_D A (WX cI cJ cII cJJ ad f3_unknowns f3_equations f2_roundSupports f2_stale f7_size f1_size f5_keptSize f5_aheadSize f0_solved f4_blockCount f4_blockLength f4_lastIsFree f4_stale ai6 al w0 w1 w2 w3) := by rw [e_ai6]; exact hD_6
        refine lv_aload_n hx hb dX8_right_65 rfl (lv_at hl_5 1 rfl) ?_
        refine gf (k := 2) hx hb hts inX8 hown hK hP_9 k_266 rfl (by decide) rfl 0 rfl (.ref (ad 29)) rfl dX8_right_66 ?_
        refine lv_aload_n hx hb dX8_right_69 rfl (lv_at hl_5 1 rfl) ?_
        refine gf (k := 2) hx hb hts inX8 hown hK hP_9 k_266 rfl (by decide) rfl 0 rfl (.ref (ad 29)) rfl dX8_right_70 ?_
        refine gf (k := 11) hx hb hts inX4 hown hK hP_9 k_217 rfl (by decide) rfl 29 rfl (.int f4_stale) rfl dX8_right_73 ?_
        refine lv_if_ne (tgt := 84) hx hb dX8_right_76 (by decide) (fun c7 => ?_) (fun c7 => ?_)
        · have c7 := j_ne (a := f4_stale.toInt) (b := 0) rfl (by decide +kernel) c7
          exact m051_X8_right_b84 C  z5 f4_stale ai6 _ _ _ (by omega) (by omega) (by omega) (by omega) (by omega) (by omega) (by omega) (by omega) (by omega) (by omega) (by omega) (by omega) (by omega) (by omega) (by omega) (up_self e_ai6) (by omega) hI_8 hF_7 hw_w0 hw_w1 hw_w2 hw_w3 hP_9 hD_10 hS_6 (lv_sub hl_5 [1, 2, 3, 0] rfl)
        · have c7 := j_eq (a := f4_stale.toInt) (b := 0) rfl (by decide +kernel) c7
          refine lv_iload_n hx hb dX8_right_79 rfl (lv_at hl_5 0 rfl) ?_
          refine lv_iload_n hx hb dX8_right_80 rfl (lv_at hl_5 3 rfl) ?_
          refine lv_icmp_eq (tgt := 88) hx hb dX8_right_81 (by decide) (fun c8 => ?_) (fun c8 => ?_)
          · have c8 := j_eq (a := z5.toInt) (b := x2.toInt) rfl rfl c8
            refine lv_iconst (v := 0) hx hb dX8_right_88 (by decide) ?_
            exact m051_X8_right_b89 C  z5 0 f4_stale ai6 _ _ _ (by first | omega | decide | (have ka0 := (by decide +kernel : (0 : Int32).toInt = 0); omega)) (by first | omega | decide | (have ka0 := (by decide +kernel : (0 : Int32).toInt = 0); omega)) (by first | omega | decide | (have ka0 := (by decide +kernel : (0 : Int32).toInt = 0); omega)) (by first | omega | decide | (have ka0 := (by decide +kernel : (0 : Int32).toInt = 0); omega)) (by first | omega | decide | (have ka0 := (by decide +kernel : (0 : Int32).toInt = 0); omega)) (by first | omega | decide | (have ka0 := (by decide +kernel : (0 : Int32).toInt = 0); omega)) (by first | omega | decide | (have ka0 := (by decide +kernel : (0 : Int32).toInt = 0); omega)) (by first | omega | decide | (have ka0 := (by decide +kernel : (0 : Int32).toInt = 0); omega)) (by first | omega | decide | (have ka0 := (by decide +kernel : (0 : Int32).toInt = 0); omega)) (by first | omega | decide | (have ka0 := (by decide +kernel : (0 : Int32).toInt = 0); omega)) (by first | omega | decide | (have ka0 := (by decide +kernel : (0 : Int32).toInt = 0); omega)) (by first | omega | decide | (have ka0 := (by decide +kernel : (0 : Int32).toInt = 0); omega)) (by first | omega | decide | (have ka0 := (by decide +kernel : (0 : Int32).toInt = 0); omega)) (by first | omega | decide | (have ka0 := (by decide +kernel : (0 : Int32).toInt = 0); omega)) (by first | omega | decide | (have ka0 := (by decide +kernel : (0 : Int32).toInt = 0); omega)) (by first | omega | decide | (have ka0 := (by decide +kernel : (0 : Int32).toInt = 0); omega)) (up_self e_ai6) (by first | omega | decide | (have ka0 := (by decide +kernel : (0 : Int32).toInt = 0); omega)) hI_8 hF_7 hw_w0 hw_w1 hw_w2 hw_w3 hP_9 hD_10 hS_6 (lv_sub hl_5 [1, 2, 3, 0] rfl)
          · have c8 := j_ne (a := z5.toInt) (b := x2.toInt) rfl rfl c8
            exact m051_X8_right_b84 C  z5 f4_stale ai6 _ _ _ (by omega) (by omega) (by omega) (by omega) (by omega) (by omega) (by omega) (by omega) (by omega) (by omega) (by omega) (by omega) (by omega) (by omega) (by omega) (up_self e_ai6) (by omega) hI_8 hF_7 hw_w0 hw_w1 hw_w2 hw_w3 hP_9 hD_10 hS_6 (lv_sub hl_5 [1, 2, 3, 0] rfl)
      · have c4 := j_nle (a := x2.toInt) (b := 200) rfl (by decide +kernel) c4
        refine lv_aload_n hx hb dX8_right_38 rfl (lv_at hl 0 rfl) ?_
        refine lv_bipush (v := (-6)) hx hb dX8_right_39 (by decide) ?_
        have kcm6 : ((-6) : Int32).toInt = (-6) := by decide +kernel
        have hM := m003_X8_refuse l dC dI cI cJ cII cJJ H_4.size 0 ad f3_unknowns f3_equations f2_roundSupports f2_stale f7_size f1_size f5_keptSize f5_aheadSize f0_solved f4_blockCount f4_blockLength f4_lastIsFree f4_stale ai al w0 w1 w2 w3 (-6) (by omega) (by omega) (by omega) (by omega) (by omega) (by omega) (by omega) (by omega) (by omega) (by omega) (by omega) hI hw_w0 hw_w1 hw_w2 hw_w3
        refine k2V_i (q0 := 0) ⟨hx, hb, hml, hown, hts⟩ hK hP_2 hD_3 hS_1 hA hX cv_RX8_53 hM ⟨by decide +kernel, by decide +kernel⟩ rfl rfl (Or.inl rfl) (rest := []) rfl rfl rfl hl.1 rfl (Nat.le_of_ble_eq_true rfl) dX8_right_41 ⟨Nat.le_of_ble_eq_true rfl, Nat.le_of_ble_eq_true rfl⟩ (fun r9 t H1 locs_11 ht hB hS_11 hFc => ?_)
        obtain ⟨ai10, ⟨gpr9_0, hI_12, hFr_r9⟩, hP_12, -, hD_12⟩ := hB
        have hF_13 := FR_tr hF hFr_r9 (by decide)
        rw [ht] at hP_12
        have hD_14 := hD_12.weaken (B := A) (fun k q _ h9 => hFc q.1 h9)
        clear ht
        generalize H1 = H_15 at hP_12 hS_11 ⊢
        exact r2_i hx hb hr hk hS_11 dX8_right_44 (fun t ht hW => ⟨f4_stale, ai10, ⟨(by first | omega | decide | exact Or.inl (by decide) | exact Or.inr (by decide) | exact Or.inr (by omega)), (by first | omega | decide | exact Or.inl (by decide) | exact Or.inr (by decide) | exact Or.inr (by omega)), (Or.inr ⟨by omega, hFr_r9 5 (by decide)⟩), hI_12, hF_13⟩, by rw [ht]; exact hP_12, va_K.moved hW.alike hK, hD_14⟩)
    · have c3 := j_nle (a := (-200)) (b := x2.toInt) (by decide +kernel) rfl c3
      refine lv_aload_n hx hb dX8_right_24 rfl (lv_at hl 0 rfl) ?_
      refine lv_bipush (v := (-4)) hx hb dX8_right_25 (by decide) ?_
      have kcm4 : ((-4) : Int32).toInt = (-4) := by decide +kernel
      have hM := m003_X8_refuse l dC dI cI cJ cII cJJ H_4.size 0 ad f3_unknowns f3_equations f2_roundSupports f2_stale f7_size f1_size f5_keptSize f5_aheadSize f0_solved f4_blockCount f4_blockLength f4_lastIsFree f4_stale ai al w0 w1 w2 w3 (-4) (by omega) (by omega) (by omega) (by omega) (by omega) (by omega) (by omega) (by omega) (by omega) (by omega) (by omega) hI hw_w0 hw_w1 hw_w2 hw_w3
      refine k2V_i (q0 := 0) ⟨hx, hb, hml, hown, hts⟩ hK hP_2 hD_3 hS_1 hA hX cv_RX8_53 hM ⟨by decide +kernel, by decide +kernel⟩ rfl rfl (Or.inl rfl) (rest := []) rfl rfl rfl hl.1 rfl (Nat.le_of_ble_eq_true rfl) dX8_right_27 ⟨Nat.le_of_ble_eq_true rfl, Nat.le_of_ble_eq_true rfl⟩ (fun r11 t H1 locs_16 ht hB hS_16 hFc => ?_)
      obtain ⟨ai12, ⟨gpr11_0, hI_17, hFr_r11⟩, hP_17, -, hD_17⟩ := hB
      have hF_18 := FR_tr hF hFr_r11 (by decide)
      rw [ht] at hP_17
      have hD_19 := hD_17.weaken (B := A) (fun k q _ h9 => hFc q.1 h9)
      clear ht
      generalize H1 = H_20 at hP_17 hS_16 ⊢
      exact r2_i hx hb hr hk hS_16 dX8_right_30 (fun t ht hW => ⟨f4_stale, ai12, ⟨(by first | omega | decide | exact Or.inl (by decide) | exact Or.inr (by decide) | exact Or.inr (by omega)), (by first | omega | decide | exact Or.inl (by decide) | exact Or.inr (by decide) | exact Or.inr (by omega)), (Or.inr ⟨by omega, hFr_r11 5 (by decide)⟩), hI_17, hF_18⟩, by rw [ht]; exact hP_17, va_K.moved hW.alike hK, hD_19⟩)
  · have c2 := j_eq (a := r1.toInt) (b := 0) rfl (by decide +kernel) c2
    refine lv_aload_n hx hb dX8_right_11 rfl (lv_at hl 0 rfl) ?_
    refine lv_iconst (v := (-1)) hx hb dX8_right_12 (by decide) ?_
    have kcm1 : ((-1) : Int32).toInt = (-1) := by decide +kernel
    have hM := m003_X8_refuse l dC dI cI cJ cII cJJ H_4.size 0 ad f3_unknowns f3_equations f2_roundSupports f2_stale f7_size f1_size f5_keptSize f5_aheadSize f0_solved f4_blockCount f4_blockLength f4_lastIsFree f4_stale ai al w0 w1 w2 w3 (-1) (by omega) (by omega) (by omega) (by omega) (by omega) (by omega) (by omega) (by omega) (by omega) (by omega) (by omega) hI hw_w0 hw_w1 hw_w2 hw_w3
    refine k2V_i (q0 := 0) ⟨hx, hb, hml, hown, hts⟩ hK hP_2 hD_3 hS_1 hA hX cv_RX8_53 hM ⟨by decide +kernel, by decide +kernel⟩ rfl rfl (Or.inl rfl) (rest := []) rfl rfl rfl hl.1 rfl (Nat.le_of_ble_eq_true rfl) dX8_right_13 ⟨Nat.le_of_ble_eq_true rfl, Nat.le_of_ble_eq_true rfl⟩ (fun r13 t H1 locs_21 ht hB hS_21 hFc => ?_)
    obtain ⟨ai14, ⟨gpr13_0, hI_22, hFr_r13⟩, hP_22, -, hD_22⟩ := hB
    have hF_23 := FR_tr hF hFr_r13 (by decide)
    rw [ht] at hP_22
    have hD_24 := hD_22.weaken (B := A) (fun k q _ h9 => hFc q.1 h9)
    clear ht
    generalize H1 = H_25 at hP_22 hS_21 ⊢
    exact r2_i hx hb hr hk hS_21 dX8_right_16 (fun t ht hW => ⟨f4_stale, ai14, ⟨(by first | omega | decide | exact Or.inl (by decide) | exact Or.inr (by decide) | exact Or.inr (by omega)), (by first | omega | decide | exact Or.inl (by decide) | exact Or.inr (by decide) | exact Or.inr (by omega)), (Or.inr ⟨by omega, hFr_r13 5 (by decide)⟩), hI_22, hF_23⟩, by rw [ht]; exact hP_22, va_K.moved hW.alike hK, hD_24⟩)
def Q_m052_X8_bound (dC : Nat → ClassId) (dI : Nat → Nat → Nat) (cI cJ cII cJJ : ClassId) (ad : Nat → Nat) (f3_unknowns f3_equations f2_roundSupports f2_stale f7_size f1_size f5_keptSize f5_aheadSize f0_solved f4_blockCount f4_blockLength f4_lastIsFree : Int32) (ai0 : Nat → Nat → Int32) (al : Nat → Nat → Int64) (w0 w1 w2 w3 : Nat) (x1 : Int32) (x2 : Int32) (x3 : Int32) : (Nat → Prop) → Array Value → State → Outcome → State → Prop := fun A => QI (fun r t => ∃ (n_f4_stale : Int32), ∃ (n_ai : Nat → Nat → Int32), ((0 ≤ n_f4_stale.toInt ∧ n_f4_stale.toInt ≤ 1) ∧ ((¬ (0 ≤ x1.toInt ∧ x1.toInt < f3_unknowns.toInt) ∧ r.toInt = -1) ∨ ((0 ≤ x1.toInt ∧ x1.toInt < f3_unknowns.toInt) ∧ (x2.toInt < -10 ∨ x3.toInt < -10) ∧ r.toInt = -4) ∨ ((0 ≤ x1.toInt ∧ x1.toInt < f3_unknowns.toInt) ∧ -10 ≤ x2.toInt ∧ -10 ≤ x3.toInt ∧ (10 < x2.toInt ∨ 10 < x3.toInt) ∧ r.toInt = -6) ∨ ((0 ≤ x1.toInt ∧ x1.toInt < f3_unknowns.toInt) ∧ -10 ≤ x2.toInt ∧ -10 ≤ x3.toInt ∧ x2.toInt ≤ 10 ∧ x3.toInt ≤ 10 ∧ r.toInt = 1)) ∧ IAX n_ai ∧ FR [7, 8, 63] ai0 n_ai) ∧ WO dC dI (TY cI cJ cII cJJ) (WX cI cJ cII cJJ ad f3_unknowns f3_equations f2_roundSupports f2_stale f7_size f1_size f5_keptSize f5_aheadSize f0_solved f4_blockCount f4_blockLength f4_lastIsFree n_f4_stale n_ai al w0 w1 w2 w3) A t) A
set_option maxRecDepth 100000 in
set_option maxHeartbeats 4000000 in
theorem m052_X8_bound_b48 {p : Program} {l : Launch} {e : Env} {s : State} {m : MethodId} {args : Array Value} {below : List Frame} {meth : Method} {c : Code} {A : Nat → Prop} {dC : Nat → ClassId} {dI : Nat → Nat → Nat} {cI cJ cII cJJ : ClassId} {ad : Nat → Nat} {g : Nat} {f3_unknowns f3_equations f2_roundSupports f2_stale f7_size f1_size f5_keptSize f5_aheadSize f0_solved f4_blockCount f4_blockLength f4_lastIsFree : Int32} {ai0 : Nat → Nat → Int32} {al : Nat → Nat → Int64} {w0 w1 w2 w3 : Nat} {x1 : Int32} {x2 : Int32} {x3 : Int32} (C : Cx p c s m meth args A dC dI (TY cI cJ cII cJJ) cX8_bound (some .int) 4 RX8 0 g) : ∀ (f4_stale : Int32) (ai : Nat → Nat → Int32) (H : Heap) (locs : List Loc) (ls : Array Slot), (1 ≤ f3_unknowns.toInt ∧ f3_unknowns.toInt ≤ 4) → (0 ≤ f3_equations.toInt ∧ f3_equations.toInt ≤ 3) → (0 ≤ f2_stale.toInt ∧ f2_stale.toInt ≤ 1) → (0 ≤ f7_size.toInt ∧ f7_size.toInt ≤ 256) → (0 ≤ f1_size.toInt ∧ f1_size.toInt ≤ 4) → (0 ≤ f5_keptSize.toInt ∧ f5_keptSize.toInt ≤ 128) → (0 ≤ f5_aheadSize.toInt ∧ f5_aheadSize.toInt ≤ 128) → (0 ≤ f4_blockCount.toInt ∧ f4_blockCount.toInt ≤ 9261) → (0 ≤ f4_blockLength.toInt ∧ f4_blockLength.toInt ≤ 21) → (0 ≤ f4_lastIsFree.toInt ∧ f4_lastIsFree.toInt ≤ 1) → (0 ≤ f4_stale.toInt ∧ f4_stale.toInt ≤ 1) → (0 ≤ x1.toInt ∧ x1.toInt ≤ 3) → -10 ≤ x2.toInt → -10 ≤ x3.toInt → (0 ≤ x1.toInt ∧ x1.toInt < f3_unknowns.toInt) → (10 < x2.toInt ∨ 10 < x3.toInt) → (-10 ≤ x2.toInt ∧ -10 ≤ x3.toInt) → IAX ai → FR [7, 8, 63] ai0 ai → RWX ad w0 → RWX ad w1 → RWX ad w2 → RWX ad w3 → va_P (dC, dI) vwCl (WX cI cJ cII cJJ ad f3_unknowns f3_equations f2_roundSupports f2_stale f7_size f1_size f5_keptSize f5_aheadSize f0_solved f4_blockCount f4_blockLength f4_lastIsFree f4_stale ai al w0 w1 w2 w3) H → va_D A (WX cI cJ cII cJJ ad f3_unknowns f3_equations f2_roundSupports f2_stale f7_size f1_size f5_keptSize f5_aheadSize f0_solved f4_blockCount f4_blockLength f4_lastIsFree f4_stale ai al w0 w1 w2 w3) → va_S A s.heap H locs → lv_has ls 4 [(0, .ref (ad 0)), (1, .int x1), (2, .int x2), (3, .int x3)] → W p l e ({ frames := 3, cells := 0, slots := 0, locals := 140 } : Room) s m args below meth c H locs 0 0 (MQ below (Q_m052_X8_bound dC dI cI cJ cII cJJ ad f3_unknowns f3_equations f2_roundSupports f2_stale f7_size f1_size f5_keptSize f5_aheadSize f0_solved f4_blockCount f4_blockLength f4_lastIsFree ai0 al w0 w1 w2 w3 x1 x2 x3 A) args s 0 0 A) (F0 m 48 ls []) := by
  obtain ⟨hx, hb, hr, hml, hown, hts, hk, hA, hK, hX⟩ := id C
  intro f4_stale ai H locs ls h0 h1 h2 h3 h4 h5 h6 h7 h8 h9 h10 h11 h12 h13 h14 h15 h16 hI hF hw_w0 hw_w1 hw_w2 hw_w3 hP hD hS hl
  refine lv_aload_n hx hb dX8_bound_48 rfl (lv_at hl 0 rfl) ?_
  refine lv_bipush (v := (-6)) hx hb dX8_bound_49 (by decide) ?_
  have kcm6 : ((-6) : Int32).toInt = (-6) := by decide +kernel
  have hM := m003_X8_refuse l dC dI cI cJ cII cJJ H.size 0 ad f3_unknowns f3_equations f2_roundSupports f2_stale f7_size f1_size f5_keptSize f5_aheadSize f0_solved f4_blockCount f4_blockLength f4_lastIsFree f4_stale ai al w0 w1 w2 w3 (-6) (by omega) (by omega) (by omega) (by omega) (by omega) (by omega) (by omega) (by omega) (by omega) (by omega) (by omega) hI hw_w0 hw_w1 hw_w2 hw_w3
  refine k2V_i (q0 := 0) ⟨hx, hb, hml, hown, hts⟩ hK hP hD hS hA hX cv_RX8_53 hM ⟨by decide +kernel, by decide +kernel⟩ rfl rfl (Or.inl rfl) (rest := []) rfl rfl rfl hl.1 rfl (Nat.le_of_ble_eq_true rfl) dX8_bound_51 ⟨Nat.le_of_ble_eq_true rfl, Nat.le_of_ble_eq_true rfl⟩ (fun r1 t H1 locs_1 ht hB hS_1 hFc => ?_)
  obtain ⟨ai2, ⟨gpr1_0, hI_2, hFr_r1⟩, hP_2, -, hD_2⟩ := hB
  have hF_3 := FR_tr hF hFr_r1 (by decide)
  rw [ht] at hP_2
  have hD_4 := hD_2.weaken (B := A) (fun k q _ h9 => hFc q.1 h9)
  clear ht
  generalize H1 = H_5 at hP_2 hS_1 ⊢
  exact r2_i hx hb hr hk hS_1 dX8_bound_54 (fun t ht hW => ⟨f4_stale, ai2, ⟨(by first | omega | decide | exact Or.inl (by decide) | exact Or.inr (by decide) | exact Or.inr (by omega)), (by first | omega | decide | exact Or.inl (by decide) | exact Or.inr (by decide) | exact Or.inr (by omega)), hI_2, hF_3⟩, by rw [ht]; exact hP_2, va_K.moved hW.alike hK, hD_4⟩)
set_option maxRecDepth 100000 in
set_option maxHeartbeats 4000000 in
theorem m052_X8_bound_b29 {p : Program} {l : Launch} {e : Env} {s : State} {m : MethodId} {args : Array Value} {below : List Frame} {meth : Method} {c : Code} {A : Nat → Prop} {dC : Nat → ClassId} {dI : Nat → Nat → Nat} {cI cJ cII cJJ : ClassId} {ad : Nat → Nat} {g : Nat} {f3_unknowns f3_equations f2_roundSupports f2_stale f7_size f1_size f5_keptSize f5_aheadSize f0_solved f4_blockCount f4_blockLength f4_lastIsFree : Int32} {ai0 : Nat → Nat → Int32} {al : Nat → Nat → Int64} {w0 w1 w2 w3 : Nat} {x1 : Int32} {x2 : Int32} {x3 : Int32} (C : Cx p c s m meth args A dC dI (TY cI cJ cII cJJ) cX8_bound (some .int) 4 RX8 0 g) : ∀ (f4_stale : Int32) (ai : Nat → Nat → Int32) (H : Heap) (locs : List Loc) (ls : Array Slot), (1 ≤ f3_unknowns.toInt ∧ f3_unknowns.toInt ≤ 4) → (0 ≤ f3_equations.toInt ∧ f3_equations.toInt ≤ 3) → (0 ≤ f2_stale.toInt ∧ f2_stale.toInt ≤ 1) → (0 ≤ f7_size.toInt ∧ f7_size.toInt ≤ 256) → (0 ≤ f1_size.toInt ∧ f1_size.toInt ≤ 4) → (0 ≤ f5_keptSize.toInt ∧ f5_keptSize.toInt ≤ 128) → (0 ≤ f5_aheadSize.toInt ∧ f5_aheadSize.toInt ≤ 128) → (0 ≤ f4_blockCount.toInt ∧ f4_blockCount.toInt ≤ 9261) → (0 ≤ f4_blockLength.toInt ∧ f4_blockLength.toInt ≤ 21) → (0 ≤ f4_lastIsFree.toInt ∧ f4_lastIsFree.toInt ≤ 1) → (0 ≤ f4_stale.toInt ∧ f4_stale.toInt ≤ 1) → (0 ≤ x1.toInt ∧ x1.toInt ≤ 3) → (0 ≤ x1.toInt ∧ x1.toInt < f3_unknowns.toInt) → (x2.toInt < -10 ∨ x3.toInt < -10) → IAX ai → FR [7, 8, 63] ai0 ai → RWX ad w0 → RWX ad w1 → RWX ad w2 → RWX ad w3 → va_P (dC, dI) vwCl (WX cI cJ cII cJJ ad f3_unknowns f3_equations f2_roundSupports f2_stale f7_size f1_size f5_keptSize f5_aheadSize f0_solved f4_blockCount f4_blockLength f4_lastIsFree f4_stale ai al w0 w1 w2 w3) H → va_D A (WX cI cJ cII cJJ ad f3_unknowns f3_equations f2_roundSupports f2_stale f7_size f1_size f5_keptSize f5_aheadSize f0_solved f4_blockCount f4_blockLength f4_lastIsFree f4_stale ai al w0 w1 w2 w3) → va_S A s.heap H locs → lv_has ls 4 [(0, .ref (ad 0)), (1, .int x1), (2, .int x2), (3, .int x3)] → W p l e ({ frames := 3, cells := 0, slots := 0, locals := 140 } : Room) s m args below meth c H locs 0 0 (MQ below (Q_m052_X8_bound dC dI cI cJ cII cJJ ad f3_unknowns f3_equations f2_roundSupports f2_stale f7_size f1_size f5_keptSize f5_aheadSize f0_solved f4_blockCount f4_blockLength f4_lastIsFree ai0 al w0 w1 w2 w3 x1 x2 x3 A) args s 0 0 A) (F0 m 29 ls []) := by
  obtain ⟨hx, hb, hr, hml, hown, hts, hk, hA, hK, hX⟩ := id C
  intro f4_stale ai H locs ls h0 h1 h2 h3 h4 h5 h6 h7 h8 h9 h10 h11 h12 h13 hI hF hw_w0 hw_w1 hw_w2 hw_w3 hP hD hS hl
  refine lv_aload_n hx hb dX8_bound_29 rfl (lv_at hl 0 rfl) ?_
  refine lv_bipush (v := (-4)) hx hb dX8_bound_30 (by decide) ?_
  have kcm4 : ((-4) : Int32).toInt = (-4) := by decide +kernel
  have hM := m003_X8_refuse l dC dI cI cJ cII cJJ H.size 0 ad f3_unknowns f3_equations f2_roundSupports f2_stale f7_size f1_size f5_keptSize f5_aheadSize f0_solved f4_blockCount f4_blockLength f4_lastIsFree f4_stale ai al w0 w1 w2 w3 (-4) (by omega) (by omega) (by omega) (by omega) (by omega) (by omega) (by omega) (by omega) (by omega) (by omega) (by omega) hI hw_w0 hw_w1 hw_w2 hw_w3
  refine k2V_i (q0 := 0) ⟨hx, hb, hml, hown, hts⟩ hK hP hD hS hA hX cv_RX8_53 hM ⟨by decide +kernel, by decide +kernel⟩ rfl rfl (Or.inl rfl) (rest := []) rfl rfl rfl hl.1 rfl (Nat.le_of_ble_eq_true rfl) dX8_bound_32 ⟨Nat.le_of_ble_eq_true rfl, Nat.le_of_ble_eq_true rfl⟩ (fun r1 t H1 locs_1 ht hB hS_1 hFc => ?_)
  obtain ⟨ai2, ⟨gpr1_0, hI_2, hFr_r1⟩, hP_2, -, hD_2⟩ := hB
  have hF_3 := FR_tr hF hFr_r1 (by decide)
  rw [ht] at hP_2
  have hD_4 := hD_2.weaken (B := A) (fun k q _ h9 => hFc q.1 h9)
  clear ht
  generalize H1 = H_5 at hP_2 hS_1 ⊢
  exact r2_i hx hb hr hk hS_1 dX8_bound_35 (fun t ht hW => ⟨f4_stale, ai2, ⟨(by first | omega | decide | exact Or.inl (by decide) | exact Or.inr (by decide) | exact Or.inr (by omega)), (by first | omega | decide | exact Or.inl (by decide) | exact Or.inr (by decide) | exact Or.inr (by omega)), hI_2, hF_3⟩, by rw [ht]; exact hP_2, va_K.moved hW.alike hK, hD_4⟩)
set_option maxRecDepth 100000 in
set_option maxHeartbeats 4000000 in
theorem m052_X8_bound (l : Launch) (dC : Nat → ClassId) (dI : Nat → Nat → Nat) (cI cJ cII cJJ : ClassId) (sz g : Nat) (ad : Nat → Nat) (f3_unknowns f3_equations f2_roundSupports f2_stale f7_size f1_size f5_keptSize f5_aheadSize f0_solved f4_blockCount f4_blockLength f4_lastIsFree f4_stale : Int32) (ai : Nat → Nat → Int32) (al : Nat → Nat → Int64) (w0 w1 w2 w3 : Nat) (x1 : Int32) (x2 : Int32) (x3 : Int32) (h_f3_unknowns : (1 ≤ f3_unknowns.toInt ∧ f3_unknowns.toInt ≤ 4)) (h_f3_equations : (0 ≤ f3_equations.toInt ∧ f3_equations.toInt ≤ 3)) (h_f2_stale : (0 ≤ f2_stale.toInt ∧ f2_stale.toInt ≤ 1)) (h_f7_size : (0 ≤ f7_size.toInt ∧ f7_size.toInt ≤ 256)) (h_f1_size : (0 ≤ f1_size.toInt ∧ f1_size.toInt ≤ 4)) (h_f5_keptSize : (0 ≤ f5_keptSize.toInt ∧ f5_keptSize.toInt ≤ 128)) (h_f5_aheadSize : (0 ≤ f5_aheadSize.toInt ∧ f5_aheadSize.toInt ≤ 128)) (h_f4_blockCount : (0 ≤ f4_blockCount.toInt ∧ f4_blockCount.toInt ≤ 9261)) (h_f4_blockLength : (0 ≤ f4_blockLength.toInt ∧ f4_blockLength.toInt ≤ 21)) (h_f4_lastIsFree : (0 ≤ f4_lastIsFree.toInt ∧ f4_lastIsFree.toInt ≤ 1)) (h_f4_stale : (0 ≤ f4_stale.toInt ∧ f4_stale.toInt ≤ 1)) (hI : IAX ai) (hw_w0 : RWX ad w0) (hw_w1 : RWX ad w1) (hw_w2 : RWX ad w2) (hw_w3 : RWX ad w3) : Met l yX8_bound (.code yX8_bound cX8_bound 4 (some .int) :: TT) ({ frames := 3, cells := 0, slots := 0, locals := 140 } : Room) (PcS dC dI (TY cI cJ cII cJJ) [.ref (ad 0), .int x1, .int x2, .int x3] (WX cI cJ cII cJJ ad f3_unknowns f3_equations f2_roundSupports f2_stale f7_size f1_size f5_keptSize f5_aheadSize f0_solved f4_blockCount f4_blockLength f4_lastIsFree f4_stale ai al w0 w1 w2 w3) sz 0 g) (Q_m052_X8_bound dC dI cI cJ cII cJJ ad f3_unknowns f3_equations f2_roundSupports f2_stale f7_size f1_size f5_keptSize f5_aheadSize f0_solved f4_blockCount f4_blockLength f4_lastIsFree ai al w0 w1 w2 w3 x1 x2 x3 (va_A (WX cI cJ cII cJJ ad f3_unknowns f3_equations f2_roundSupports f2_stale f7_size f1_size f5_keptSize f5_aheadSize f0_solved f4_blockCount f4_blockLength f4_lastIsFree f4_stale ai al w0 w1 w2 w3) sz)) 0 0 (va_A (WX cI cJ cII cJJ ad f3_unknowns f3_equations f2_roundSupports f2_stale f7_size f1_size f5_keptSize f5_aheadSize f0_solved f4_blockCount f4_blockLength f4_lastIsFree f4_stale ai al w0 w1 w2 w3) sz) := by
  refine SM.of (y := yX8_bound) (maxL := 4) (av := [.ref (ad 0), .int x1, .int x2, .int x3]) (Q_m052_X8_bound dC dI cI cJ cII cJJ ad f3_unknowns f3_equations f2_roundSupports f2_stale f7_size f1_size f5_keptSize f5_aheadSize f0_solved f4_blockCount f4_blockLength f4_lastIsFree ai al w0 w1 w2 w3 x1 x2 x3) (by decide +kernel) (Nat.le_of_ble_eq_true rfl) (fun p e s m below meth c A ls hx hb hr hml hown hts hk hnm hA hK hP hD hS hX hl => ?_)
  have C : Cx p c s m meth (([.ref (ad 0), .int x1, .int x2, .int x3] : List Value).toArray) A dC dI (TY cI cJ cII cJJ) cX8_bound (some .int) 4 RX8 0 g := ⟨hx, hb, hr, hml, hown, hts, hk, hA, hK, hX⟩
  have hown : s.vm.findClass RX8 = some m.cls := hown
  have hl : lv_has ls 4 [(0, .ref (ad 0)), (1, .int x1), (2, .int x2), (3, .int x3)] := hl
  obtain ⟨H, hH⟩ : ∃ q, q = s.heap := ⟨_, rfl⟩
  rw [← hH] at hP
  have hS : va_S A s.heap H [] := by rw [hH]; exact hS
  rw [← hH]
  have hF := FR_refl [7, 8, 63] ai
  have ra_x1 := s_any x1
  have ra_x2 := s_any x2
  have ra_x3 := s_any x3
  refine lv_aload_n hx hb dX8_bound_0 rfl (lv_at hl 0 rfl) ?_
  refine gf (k := 0) hx hb hts inX8 hown hK hP k_264 rfl (by decide) rfl 0 rfl (.ref (ad 6)) rfl dX8_bound_1 ?_
  refine lv_iload_n hx hb dX8_bound_4 rfl (lv_at hl 1 rfl) ?_
  have hM := m001_X3_hasUnknown l dC dI cI cJ cII cJJ H.size 0 ad f3_unknowns f3_equations f2_roundSupports f2_stale f7_size f1_size f5_keptSize f5_aheadSize f0_solved f4_blockCount f4_blockLength f4_lastIsFree f4_stale ai al w0 w1 w2 w3 x1 (by omega) (by omega) (by omega) (by omega) (by omega) (by omega) (by omega) (by omega) (by omega) (by omega) (by omega) hI hw_w0 hw_w1 hw_w2 hw_w3
  refine k2V_i (q0 := 6) ⟨hx, hb, hml, hown, hts⟩ hK hP hD hS hA hX cv_RX8_82 hM ⟨by decide +kernel, by decide +kernel⟩ rfl rfl (Or.inl rfl) (rest := []) rfl rfl rfl hl.1 rfl (Nat.le_of_ble_eq_true rfl) dX8_bound_5 ⟨Nat.le_of_ble_eq_true rfl, Nat.le_of_ble_eq_true rfl⟩ (fun r1 t H1 locs_1 ht hB hS_1 hFc => ?_)
  obtain ⟨⟨gpr1_0, gpr1_1⟩, hP_2, -, hD_2⟩ := hB
  rw [ht] at hP_2
  have hD_3 := hD_2.weaken (B := A) (fun k q _ h9 => hFc q.1 h9)
  clear ht
  generalize H1 = H_4 at hP_2 hS_1 ⊢
  refine lv_if_ne (tgt := 17) hx hb dX8_bound_8 (by decide) (fun c2 => ?_) (fun c2 => ?_)
  · have c2 := j_ne (a := r1.toInt) (b := 0) rfl (by decide +kernel) c2
    refine lv_iload_n hx hb dX8_bound_17 rfl (lv_at hl 2 rfl) ?_
    refine lv_bipush (v := (-10)) hx hb dX8_bound_18 (by decide) ?_
    refine lv_icmp_lt (tgt := 29) hx hb dX8_bound_20 (by decide) (fun c3 => ?_) (fun c3 => ?_)
    · have c3 := j_lt (a := x2.toInt) (b := (-10)) rfl (by decide +kernel) c3
      exact m052_X8_bound_b29 C  f4_stale ai _ _ _ (by omega) (by omega) (by omega) (by omega) (by omega) (by omega) (by omega) (by omega) (by omega) (by omega) (by omega) (by omega) (by omega) (by omega) hI hF hw_w0 hw_w1 hw_w2 hw_w3 hP_2 hD_3 hS_1 (lv_sub hl [0, 1, 2, 3] rfl)
    · have c3 := j_nlt (a := x2.toInt) (b := (-10)) rfl (by decide +kernel) c3
      refine lv_iload_n hx hb dX8_bound_23 rfl (lv_at hl 3 rfl) ?_
      refine lv_bipush (v := (-10)) hx hb dX8_bound_24 (by decide) ?_
      refine lv_icmp_ge (tgt := 36) hx hb dX8_bound_26 (by decide) (fun c4 => ?_) (fun c4 => ?_)
      · have c4 := j_le (a := (-10)) (b := x3.toInt) (by decide +kernel) rfl c4
        refine lv_iload_n hx hb dX8_bound_36 rfl (lv_at hl 2 rfl) ?_
        refine lv_bipush (v := 10) hx hb dX8_bound_37 (by decide) ?_
        refine lv_icmp_gt (tgt := 48) hx hb dX8_bound_39 (by decide) (fun c5 => ?_) (fun c5 => ?_)
        · have c5 := j_lt (a := 10) (b := x2.toInt) (by decide +kernel) rfl c5
          exact m052_X8_bound_b48 C  f4_stale ai _ _ _ (by omega) (by omega) (by omega) (by omega) (by omega) (by omega) (by omega) (by omega) (by omega) (by omega) (by omega) (by omega) (by omega) (by omega) (by omega) (by omega) (by omega) hI hF hw_w0 hw_w1 hw_w2 hw_w3 hP_2 hD_3 hS_1 (lv_sub hl [0, 1, 2, 3] rfl)
        · have c5 := j_nlt (a := 10) (b := x2.toInt) (by decide +kernel) rfl c5
          refine lv_iload_n hx hb dX8_bound_42 rfl (lv_at hl 3 rfl) ?_
          refine lv_bipush (v := 10) hx hb dX8_bound_43 (by decide) ?_
          refine lv_icmp_le (tgt := 55) hx hb dX8_bound_45 (by decide) (fun c6 => ?_) (fun c6 => ?_)
          · have c6 := j_le (a := x3.toInt) (b := 10) rfl (by decide +kernel) c6
            refine lv_aload_n hx hb dX8_bound_55 rfl (lv_at hl 0 rfl) ?_
            refine gf (k := 0) hx hb hts inX8 hown hK hP_2 k_264 rfl (by decide) rfl 0 rfl (.ref (ad 6)) rfl dX8_bound_56 ?_
            refine gf (k := 4) hx hb hts inX3 hown hK hP_2 k_58 rfl (by decide) rfl 6 rfl (.ref (ad 7)) rfl dX8_bound_59 ?_
            refine lv_iload_n hx hb dX8_bound_62 rfl (lv_at hl 1 rfl) ?_
            refine lv_iload_n hx hb dX8_bound_63 rfl (lv_at hl 2 rfl) ?_
            refine va_iast hx hb hK hP_2 hD_3 hS_1 7 0 rfl rfl (j_in (a := x1.toInt) rfl (by omega) (by omega)) dX8_bound_64 (fun H_5 locs_5 hP_5 hD_5 hS_5 => ?_)
            obtain ⟨ai7, e_ai7⟩ : ∃ q : Nat → Nat → Int32, q = va_up ai 7 (upd (ai 7) x1.toNatClampNeg x2) := ⟨_, rfl⟩
            have hF_6 := FR_st hF e_ai7 (by decide)
            have hI_7 : IAX ai7 := by rw [e_ai7]; exact IAX_st7 hI (a := x2.toInt) rfl (by omega) (by omega)
            have hP_8 : va_P (dC, dI) vwCl (WX cI cJ cII cJJ ad f3_unknowns f3_equations f2_roundSupports f2_stale f7_size f1_size f5_keptSize f5_aheadSize f0_solved f4_blockCount f4_blockLength f4_lastIsFree f4_stale ai7 al w0 w1 w2 w3) H_5 := by rw [e_ai7]; exact hP_5
            have hD_9 : va_D A (WX cI cJ cII cJJ ad f3_unknowns f3_equations f2_roundSupports f2_stale f7_size f1_size f5_keptSize f5_aheadSize f0_solved f4_blockCount f4_blockLength f4_lastIsFree f4_stale ai7 al w0 w1 w2 w3) := by rw [e_ai7]; exact hD_5
            refine lv_aload_n hx hb dX8_bound_65 rfl (lv_at hl 0 rfl) ?_
            refine gf (k := 0) hx hb hts inX8 hown hK hP_8 k_264 rfl (by decide) rfl 0 rfl (.ref (ad 6)) rfl dX8_bound_66 ?_
            refine gf (k := 5) hx hb hts inX3 hown hK hP_8 k_62 rfl (by decide) rfl 6 rfl (.ref (ad 8)) rfl dX8_bound_69 ?_
            refine lv_iload_n hx hb dX8_bound_72 rfl (lv_at hl 1 rfl) ?_
            refine lv_iload_n hx hb dX8_bound_73 rfl (lv_at hl 3 rfl) ?_
            refine va_iast hx hb hK hP_8 hD_9 hS_5 8 0 rfl rfl (j_in (a := x1.toInt) rfl (by omega) (by omega)) dX8_bound_74 (fun H_10 locs_10 hP_10 hD_10 hS_10 => ?_)
            obtain ⟨ai8, e_ai8⟩ : ∃ q : Nat → Nat → Int32, q = va_up ai7 8 (upd (ai7 8) x1.toNatClampNeg x3) := ⟨_, rfl⟩
            have hF_11 := FR_st hF_6 e_ai8 (by decide)
            have hI_12 : IAX ai8 := by rw [e_ai8]; exact IAX_st8 hI_7 (a := x3.toInt) rfl (by omega) (by omega)
            have hP_13 : va_P (dC, dI) vwCl (WX cI cJ cII cJJ ad f3_unknowns f3_equations f2_roundSupports f2_stale f7_size f1_size f5_keptSize f5_aheadSize f0_solved f4_blockCount f4_blockLength f4_lastIsFree f4_stale ai8 al w0 w1 w2 w3) H_10 := by rw [e_ai8]; exact hP_10
            have hD_14 : va_D A (WX cI cJ cII cJJ ad f3_unknowns f3_equations f2_roundSupports f2_stale f7_size f1_size f5_keptSize f5_aheadSize f0_solved f4_blockCount f4_blockLength f4_lastIsFree f4_stale ai8 al w0 w1 w2 w3) := by rw [e_ai8]; exact hD_10
            refine lv_aload_n hx hb dX8_bound_75 rfl (lv_at hl 0 rfl) ?_
            refine gf (k := 2) hx hb hts inX8 hown hK hP_13 k_266 rfl (by decide) rfl 0 rfl (.ref (ad 29)) rfl dX8_bound_76 ?_
            refine lv_iconst (v := 1) hx hb dX8_bound_79 (by decide) ?_
            refine pf (k := 11) hx hb hts inX4 tyX4_ok nmX4 hown hK hP_13 hD_14 hS_10 k_217 rfl (by decide) rfl rfl 29 rfl rfl rfl (Nat.le_of_ble_eq_true rfl) dX8_bound_80 (W' := (WX cI cJ cII cJJ ad f3_unknowns f3_equations f2_roundSupports f2_stale f7_size f1_size f5_keptSize f5_aheadSize f0_solved f4_blockCount f4_blockLength f4_lastIsFree 1 ai8 al w0 w1 w2 w3)) rfl (fun H_15 locs_15 hP_15 hD_15 hS_15 => ?_)
            refine lv_iconst (v := 1) hx hb dX8_bound_83 (by decide) ?_
            exact r2_i hx hb hr hk hS_15 dX8_bound_84 (fun t ht hW => ⟨1, ai8, ⟨(by first | omega | decide | exact Or.inl (by decide) | exact Or.inr (by decide) | exact Or.inr (by omega)), (by have kr1 : (1 : Int32).toInt = 1 := (by decide); first | omega | decide | exact Or.inl (by decide) | exact Or.inr (by decide) | exact Or.inr (by omega)), hI_12, hF_11⟩, by rw [ht]; exact hP_15, va_K.moved hW.alike hK, hD_15⟩)
          · have c6 := j_nle (a := x3.toInt) (b := 10) rfl (by decide +kernel) c6
            exact m052_X8_bound_b48 C  f4_stale ai _ _ _ (by omega) (by omega) (by omega) (by omega) (by omega) (by omega) (by omega) (by omega) (by omega) (by omega) (by omega) (by omega) (by omega) (by omega) (by omega) (by omega) (by omega) hI hF hw_w0 hw_w1 hw_w2 hw_w3 hP_2 hD_3 hS_1 (lv_sub hl [0, 1, 2, 3] rfl)
      · have c4 := j_nle (a := (-10)) (b := x3.toInt) (by decide +kernel) rfl c4
        exact m052_X8_bound_b29 C  f4_stale ai _ _ _ (by omega) (by omega) (by omega) (by omega) (by omega) (by omega) (by omega) (by omega) (by omega) (by omega) (by omega) (by omega) (by omega) (by omega) hI hF hw_w0 hw_w1 hw_w2 hw_w3 hP_2 hD_3 hS_1 (lv_sub hl [0, 1, 2, 3] rfl)
  · have c2 := j_eq (a := r1.toInt) (b := 0) rfl (by decide +kernel) c2
    refine lv_aload_n hx hb dX8_bound_11 rfl (lv_at hl 0 rfl) ?_
    refine lv_iconst (v := (-1)) hx hb dX8_bound_12 (by decide) ?_
    have kcm1 : ((-1) : Int32).toInt = (-1) := by decide +kernel
    have hM := m003_X8_refuse l dC dI cI cJ cII cJJ H_4.size 0 ad f3_unknowns f3_equations f2_roundSupports f2_stale f7_size f1_size f5_keptSize f5_aheadSize f0_solved f4_blockCount f4_blockLength f4_lastIsFree f4_stale ai al w0 w1 w2 w3 (-1) (by omega) (by omega) (by omega) (by omega) (by omega) (by omega) (by omega) (by omega) (by omega) (by omega) (by omega) hI hw_w0 hw_w1 hw_w2 hw_w3
    refine k2V_i (q0 := 0) ⟨hx, hb, hml, hown, hts⟩ hK hP_2 hD_3 hS_1 hA hX cv_RX8_53 hM ⟨by decide +kernel, by decide +kernel⟩ rfl rfl (Or.inl rfl) (rest := []) rfl rfl rfl hl.1 rfl (Nat.le_of_ble_eq_true rfl) dX8_bound_13 ⟨Nat.le_of_ble_eq_true rfl, Nat.le_of_ble_eq_true rfl⟩ (fun r9 t H1 locs_16 ht hB hS_16 hFc => ?_)
    obtain ⟨ai10, ⟨gpr9_0, hI_17, hFr_r9⟩, hP_17, -, hD_17⟩ := hB
    have hF_18 := FR_tr hF hFr_r9 (by decide)
    rw [ht] at hP_17
    have hD_19 := hD_17.weaken (B := A) (fun k q _ h9 => hFc q.1 h9)
    clear ht
    generalize H1 = H_20 at hP_17 hS_16 ⊢
    exact r2_i hx hb hr hk hS_16 dX8_bound_16 (fun t ht hW => ⟨f4_stale, ai10, ⟨(by first | omega | decide | exact Or.inl (by decide) | exact Or.inr (by decide) | exact Or.inr (by omega)), (by first | omega | decide | exact Or.inl (by decide) | exact Or.inr (by decide) | exact Or.inr (by omega)), hI_17, hF_18⟩, by rw [ht]; exact hP_17, va_K.moved hW.alike hK, hD_19⟩)
def Q_m053_X8_price (dC : Nat → ClassId) (dI : Nat → Nat → Nat) (cI cJ cII cJJ : ClassId) (ad : Nat → Nat) (f3_unknowns f3_equations f2_roundSupports f2_stale f7_size f1_size f5_keptSize f5_aheadSize f0_solved f4_blockCount f4_blockLength f4_lastIsFree f4_stale : Int32) (ai0 : Nat → Nat → Int32) (al : Nat → Nat → Int64) (w0 w1 w2 w3 : Nat) (x1 : Int32) (x2 : Int32) (x3 : Int32) : (Nat → Prop) → Array Value → State → Outcome → State → Prop := fun A => QI (fun r t => ∃ (n_ai : Nat → Nat → Int32), (((¬ (0 ≤ x1.toInt ∧ x1.toInt < f3_unknowns.toInt) ∧ r.toInt = -1) ∨ ((0 ≤ x1.toInt ∧ x1.toInt < f3_unknowns.toInt) ∧ (x2.toInt < -99 ∨ x3.toInt < 0) ∧ r.toInt = -4) ∨ ((0 ≤ x1.toInt ∧ x1.toInt < f3_unknowns.toInt) ∧ -99 ≤ x2.toInt ∧ 0 ≤ x3.toInt ∧ (99 < x2.toInt ∨ 99 < x3.toInt) ∧ r.toInt = -6) ∨ ((0 ≤ x1.toInt ∧ x1.toInt < f3_unknowns.toInt) ∧ -99 ≤ x2.toInt ∧ 0 ≤ x3.toInt ∧ x2.toInt ≤ 99 ∧ x3.toInt ≤ 99 ∧ r.toInt = 1)) ∧ IAX n_ai ∧ FR [9, 10, 63] ai0 n_ai) ∧ WO dC dI (TY cI cJ cII cJJ) (WX cI cJ cII cJJ ad f3_unknowns f3_equations f2_roundSupports f2_stale f7_size f1_size f5_keptSize f5_aheadSize f0_solved f4_blockCount f4_blockLength f4_lastIsFree f4_stale n_ai al w0 w1 w2 w3) A t) A
set_option maxRecDepth 100000 in
set_option maxHeartbeats 4000000 in
theorem m053_X8_price_b46 {p : Program} {l : Launch} {e : Env} {s : State} {m : MethodId} {args : Array Value} {below : List Frame} {meth : Method} {c : Code} {A : Nat → Prop} {dC : Nat → ClassId} {dI : Nat → Nat → Nat} {cI cJ cII cJJ : ClassId} {ad : Nat → Nat} {g : Nat} {f3_unknowns f3_equations f2_roundSupports f2_stale f7_size f1_size f5_keptSize f5_aheadSize f0_solved f4_blockCount f4_blockLength f4_lastIsFree f4_stale : Int32} {ai0 : Nat → Nat → Int32} {al : Nat → Nat → Int64} {w0 w1 w2 w3 : Nat} {x1 : Int32} {x2 : Int32} {x3 : Int32} (C : Cx p c s m meth args A dC dI (TY cI cJ cII cJJ) cX8_price (some .int) 4 RX8 0 g) : ∀ (ai : Nat → Nat → Int32) (H : Heap) (locs : List Loc) (ls : Array Slot), (1 ≤ f3_unknowns.toInt ∧ f3_unknowns.toInt ≤ 4) → (0 ≤ f3_equations.toInt ∧ f3_equations.toInt ≤ 3) → (0 ≤ f2_stale.toInt ∧ f2_stale.toInt ≤ 1) → (0 ≤ f7_size.toInt ∧ f7_size.toInt ≤ 256) → (0 ≤ f1_size.toInt ∧ f1_size.toInt ≤ 4) → (0 ≤ f5_keptSize.toInt ∧ f5_keptSize.toInt ≤ 128) → (0 ≤ f5_aheadSize.toInt ∧ f5_aheadSize.toInt ≤ 128) → (0 ≤ f4_blockCount.toInt ∧ f4_blockCount.toInt ≤ 9261) → (0 ≤ f4_blockLength.toInt ∧ f4_blockLength.toInt ≤ 21) → (0 ≤ f4_lastIsFree.toInt ∧ f4_lastIsFree.toInt ≤ 1) → (0 ≤ f4_stale.toInt ∧ f4_stale.toInt ≤ 1) → (0 ≤ x1.toInt ∧ x1.toInt ≤ 3) → -99 ≤ x2.toInt → 0 ≤ x3.toInt → (0 ≤ x1.toInt ∧ x1.toInt < f3_unknowns.toInt) → (99 < x2.toInt ∨ 99 < x3.toInt) → (-99 ≤ x2.toInt ∧ 0 ≤ x3.toInt) → IAX ai → FR [9, 10, 63] ai0 ai → RWX ad w0 → RWX ad w1 → RWX ad w2 → RWX ad w3 → va_P (dC, dI) vwCl (WX cI cJ cII cJJ ad f3_unknowns f3_equations f2_roundSupports f2_stale f7_size f1_size f5_keptSize f5_aheadSize f0_solved f4_blockCount f4_blockLength f4_lastIsFree f4_stale ai al w0 w1 w2 w3) H → va_D A (WX cI cJ cII cJJ ad f3_unknowns f3_equations f2_roundSupports f2_stale f7_size f1_size f5_keptSize f5_aheadSize f0_solved f4_blockCount f4_blockLength f4_lastIsFree f4_stale ai al w0 w1 w2 w3) → va_S A s.heap H locs → lv_has ls 4 [(0, .ref (ad 0)), (1, .int x1), (2, .int x2), (3, .int x3)] → W p l e ({ frames := 3, cells := 0, slots := 0, locals := 140 } : Room) s m args below meth c H locs 0 0 (MQ below (Q_m053_X8_price dC dI cI cJ cII cJJ ad f3_unknowns f3_equations f2_roundSupports f2_stale f7_size f1_size f5_keptSize f5_aheadSize f0_solved f4_blockCount f4_blockLength f4_lastIsFree f4_stale ai0 al w0 w1 w2 w3 x1 x2 x3 A) args s 0 0 A) (F0 m 46 ls []) := by
  obtain ⟨hx, hb, hr, hml, hown, hts, hk, hA, hK, hX⟩ := id C
  intro ai H locs ls h0 h1 h2 h3 h4 h5 h6 h7 h8 h9 h10 h11 h12 h13 h14 h15 h16 hI hF hw_w0 hw_w1 hw_w2 hw_w3 hP hD hS hl
  refine lv_aload_n hx hb dX8_price_46 rfl (lv_at hl 0 rfl) ?_
  refine lv_bipush (v := (-6)) hx hb dX8_price_47 (by decide) ?_
  have kcm6 : ((-6) : Int32).toInt = (-6) := by decide +kernel
  have hM := m003_X8_refuse l dC dI cI cJ cII cJJ H.size 0 ad f3_unknowns f3_equations f2_roundSupports f2_stale f7_size f1_size f5_keptSize f5_aheadSize f0_solved f4_blockCount f4_blockLength f4_lastIsFree f4_stale ai al w0 w1 w2 w3 (-6) (by omega) (by omega) (by omega) (by omega) (by omega) (by omega) (by omega) (by omega) (by omega) (by omega) (by omega) hI hw_w0 hw_w1 hw_w2 hw_w3
  refine k2V_i (q0 := 0) ⟨hx, hb, hml, hown, hts⟩ hK hP hD hS hA hX cv_RX8_53 hM ⟨by decide +kernel, by decide +kernel⟩ rfl rfl (Or.inl rfl) (rest := []) rfl rfl rfl hl.1 rfl (Nat.le_of_ble_eq_true rfl) dX8_price_49 ⟨Nat.le_of_ble_eq_true rfl, Nat.le_of_ble_eq_true rfl⟩ (fun r1 t H1 locs_1 ht hB hS_1 hFc => ?_)
  obtain ⟨ai2, ⟨gpr1_0, hI_2, hFr_r1⟩, hP_2, -, hD_2⟩ := hB
  have hF_3 := FR_tr hF hFr_r1 (by decide)
  rw [ht] at hP_2
  have hD_4 := hD_2.weaken (B := A) (fun k q _ h9 => hFc q.1 h9)
  clear ht
  generalize H1 = H_5 at hP_2 hS_1 ⊢
  exact r2_i hx hb hr hk hS_1 dX8_price_52 (fun t ht hW => ⟨ai2, ⟨(by first | omega | decide | exact Or.inl (by decide) | exact Or.inr (by decide) | exact Or.inr (by omega)), hI_2, hF_3⟩, by rw [ht]; exact hP_2, va_K.moved hW.alike hK, hD_4⟩)
set_option maxRecDepth 100000 in
set_option maxHeartbeats 4000000 in
theorem m053_X8_price_b27 {p : Program} {l : Launch} {e : Env} {s : State} {m : MethodId} {args : Array Value} {below : List Frame} {meth : Method} {c : Code} {A : Nat → Prop} {dC : Nat → ClassId} {dI : Nat → Nat → Nat} {cI cJ cII cJJ : ClassId} {ad : Nat → Nat} {g : Nat} {f3_unknowns f3_equations f2_roundSupports f2_stale f7_size f1_size f5_keptSize f5_aheadSize f0_solved f4_blockCount f4_blockLength f4_lastIsFree f4_stale : Int32} {ai0 : Nat → Nat → Int32} {al : Nat → Nat → Int64} {w0 w1 w2 w3 : Nat} {x1 : Int32} {x2 : Int32} {x3 : Int32} (C : Cx p c s m meth args A dC dI (TY cI cJ cII cJJ) cX8_price (some .int) 4 RX8 0 g) : ∀ (ai : Nat → Nat → Int32) (H : Heap) (locs : List Loc) (ls : Array Slot), (1 ≤ f3_unknowns.toInt ∧ f3_unknowns.toInt ≤ 4) → (0 ≤ f3_equations.toInt ∧ f3_equations.toInt ≤ 3) → (0 ≤ f2_stale.toInt ∧ f2_stale.toInt ≤ 1) → (0 ≤ f7_size.toInt ∧ f7_size.toInt ≤ 256) → (0 ≤ f1_size.toInt ∧ f1_size.toInt ≤ 4) → (0 ≤ f5_keptSize.toInt ∧ f5_keptSize.toInt ≤ 128) → (0 ≤ f5_aheadSize.toInt ∧ f5_aheadSize.toInt ≤ 128) → (0 ≤ f4_blockCount.toInt ∧ f4_blockCount.toInt ≤ 9261) → (0 ≤ f4_blockLength.toInt ∧ f4_blockLength.toInt ≤ 21) → (0 ≤ f4_lastIsFree.toInt ∧ f4_lastIsFree.toInt ≤ 1) → (0 ≤ f4_stale.toInt ∧ f4_stale.toInt ≤ 1) → (0 ≤ x1.toInt ∧ x1.toInt ≤ 3) → (0 ≤ x1.toInt ∧ x1.toInt < f3_unknowns.toInt) → (x2.toInt < -99 ∨ x3.toInt < 0) → IAX ai → FR [9, 10, 63] ai0 ai → RWX ad w0 → RWX ad w1 → RWX ad w2 → RWX ad w3 → va_P (dC, dI) vwCl (WX cI cJ cII cJJ ad f3_unknowns f3_equations f2_roundSupports f2_stale f7_size f1_size f5_keptSize f5_aheadSize f0_solved f4_blockCount f4_blockLength f4_lastIsFree f4_stale ai al w0 w1 w2 w3) H → va_D A (WX cI cJ cII cJJ ad f3_unknowns f3_equations f2_roundSupports f2_stale f7_size f1_size f5_keptSize f5_aheadSize f0_solved f4_blockCount f4_blockLength f4_lastIsFree f4_stale ai al w0 w1 w2 w3) → va_S A s.heap H locs → lv_has ls 4 [(0, .ref (ad 0)), (1, .int x1), (2, .int x2), (3, .int x3)] → W p l e ({ frames := 3, cells := 0, slots := 0, locals := 140 } : Room) s m args below meth c H locs 0 0 (MQ below (Q_m053_X8_price dC dI cI cJ cII cJJ ad f3_unknowns f3_equations f2_roundSupports f2_stale f7_size f1_size f5_keptSize f5_aheadSize f0_solved f4_blockCount f4_blockLength f4_lastIsFree f4_stale ai0 al w0 w1 w2 w3 x1 x2 x3 A) args s 0 0 A) (F0 m 27 ls []) := by
  obtain ⟨hx, hb, hr, hml, hown, hts, hk, hA, hK, hX⟩ := id C
  intro ai H locs ls h0 h1 h2 h3 h4 h5 h6 h7 h8 h9 h10 h11 h12 h13 hI hF hw_w0 hw_w1 hw_w2 hw_w3 hP hD hS hl
  refine lv_aload_n hx hb dX8_price_27 rfl (lv_at hl 0 rfl) ?_
  refine lv_bipush (v := (-4)) hx hb dX8_price_28 (by decide) ?_
  have kcm4 : ((-4) : Int32).toInt = (-4) := by decide +kernel
  have hM := m003_X8_refuse l dC dI cI cJ cII cJJ H.size 0 ad f3_unknowns f3_equations f2_roundSupports f2_stale f7_size f1_size f5_keptSize f5_aheadSize f0_solved f4_blockCount f4_blockLength f4_lastIsFree f4_stale ai al w0 w1 w2 w3 (-4) (by omega) (by omega) (by omega) (by omega) (by omega) (by omega) (by omega) (by omega) (by omega) (by omega) (by omega) hI hw_w0 hw_w1 hw_w2 hw_w3
  refine k2V_i (q0 := 0) ⟨hx, hb, hml, hown, hts⟩ hK hP hD hS hA hX cv_RX8_53 hM ⟨by decide +kernel, by decide +kernel⟩ rfl rfl (Or.inl rfl) (rest := []) rfl rfl rfl hl.1 rfl (Nat.le_of_ble_eq_true rfl) dX8_price_30 ⟨Nat.le_of_ble_eq_true rfl, Nat.le_of_ble_eq_true rfl⟩ (fun r1 t H1 locs_1 ht hB hS_1 hFc => ?_)
  obtain ⟨ai2, ⟨gpr1_0, hI_2, hFr_r1⟩, hP_2, -, hD_2⟩ := hB
  have hF_3 := FR_tr hF hFr_r1 (by decide)
  rw [ht] at hP_2
  have hD_4 := hD_2.weaken (B := A) (fun k q _ h9 => hFc q.1 h9)
  clear ht
  generalize H1 = H_5 at hP_2 hS_1 ⊢
  exact r2_i hx hb hr hk hS_1 dX8_price_33 (fun t ht hW => ⟨ai2, ⟨(by first | omega | decide | exact Or.inl (by decide) | exact Or.inr (by decide) | exact Or.inr (by omega)), hI_2, hF_3⟩, by rw [ht]; exact hP_2, va_K.moved hW.alike hK, hD_4⟩)
set_option maxRecDepth 100000 in
set_option maxHeartbeats 4000000 in
theorem m053_X8_price (l : Launch) (dC : Nat → ClassId) (dI : Nat → Nat → Nat) (cI cJ cII cJJ : ClassId) (sz g : Nat) (ad : Nat → Nat) (f3_unknowns f3_equations f2_roundSupports f2_stale f7_size f1_size f5_keptSize f5_aheadSize f0_solved f4_blockCount f4_blockLength f4_lastIsFree f4_stale : Int32) (ai : Nat → Nat → Int32) (al : Nat → Nat → Int64) (w0 w1 w2 w3 : Nat) (x1 : Int32) (x2 : Int32) (x3 : Int32) (h_f3_unknowns : (1 ≤ f3_unknowns.toInt ∧ f3_unknowns.toInt ≤ 4)) (h_f3_equations : (0 ≤ f3_equations.toInt ∧ f3_equations.toInt ≤ 3)) (h_f2_stale : (0 ≤ f2_stale.toInt ∧ f2_stale.toInt ≤ 1)) (h_f7_size : (0 ≤ f7_size.toInt ∧ f7_size.toInt ≤ 256)) (h_f1_size : (0 ≤ f1_size.toInt ∧ f1_size.toInt ≤ 4)) (h_f5_keptSize : (0 ≤ f5_keptSize.toInt ∧ f5_keptSize.toInt ≤ 128)) (h_f5_aheadSize : (0 ≤ f5_aheadSize.toInt ∧ f5_aheadSize.toInt ≤ 128)) (h_f4_blockCount : (0 ≤ f4_blockCount.toInt ∧ f4_blockCount.toInt ≤ 9261)) (h_f4_blockLength : (0 ≤ f4_blockLength.toInt ∧ f4_blockLength.toInt ≤ 21)) (h_f4_lastIsFree : (0 ≤ f4_lastIsFree.toInt ∧ f4_lastIsFree.toInt ≤ 1)) (h_f4_stale : (0 ≤ f4_stale.toInt ∧ f4_stale.toInt ≤ 1)) (hI : IAX ai) (hw_w0 : RWX ad w0) (hw_w1 : RWX ad w1) (hw_w2 : RWX ad w2) (hw_w3 : RWX ad w3) : Met l yX8_price (.code yX8_price cX8_price 4 (some .int) :: TT) ({ frames := 3, cells := 0, slots := 0, locals := 140 } : Room) (PcS dC dI (TY cI cJ cII cJJ) [.ref (ad 0), .int x1, .int x2, .int x3] (WX cI cJ cII cJJ ad f3_unknowns f3_equations f2_roundSupports f2_stale f7_size f1_size f5_keptSize f5_aheadSize f0_solved f4_blockCount f4_blockLength f4_lastIsFree f4_stale ai al w0 w1 w2 w3) sz 0 g) (Q_m053_X8_price dC dI cI cJ cII cJJ ad f3_unknowns f3_equations f2_roundSupports f2_stale f7_size f1_size f5_keptSize f5_aheadSize f0_solved f4_blockCount f4_blockLength f4_lastIsFree f4_stale ai al w0 w1 w2 w3 x1 x2 x3 (va_A (WX cI cJ cII cJJ ad f3_unknowns f3_equations f2_roundSupports f2_stale f7_size f1_size f5_keptSize f5_aheadSize f0_solved f4_blockCount f4_blockLength f4_lastIsFree f4_stale ai al w0 w1 w2 w3) sz)) 0 0 (va_A (WX cI cJ cII cJJ ad f3_unknowns f3_equations f2_roundSupports f2_stale f7_size f1_size f5_keptSize f5_aheadSize f0_solved f4_blockCount f4_blockLength f4_lastIsFree f4_stale ai al w0 w1 w2 w3) sz) := by
  refine SM.of (y := yX8_price) (maxL := 4) (av := [.ref (ad 0), .int x1, .int x2, .int x3]) (Q_m053_X8_price dC dI cI cJ cII cJJ ad f3_unknowns f3_equations f2_roundSupports f2_stale f7_size f1_size f5_keptSize f5_aheadSize f0_solved f4_blockCount f4_blockLength f4_lastIsFree f4_stale ai al w0 w1 w2 w3 x1 x2 x3) (by decide +kernel) (Nat.le_of_ble_eq_true rfl) (fun p e s m below meth c A ls hx hb hr hml hown hts hk hnm hA hK hP hD hS hX hl => ?_)
  have C : Cx p c s m meth (([.ref (ad 0), .int x1, .int x2, .int x3] : List Value).toArray) A dC dI (TY cI cJ cII cJJ) cX8_price (some .int) 4 RX8 0 g := ⟨hx, hb, hr, hml, hown, hts, hk, hA, hK, hX⟩
  have hown : s.vm.findClass RX8 = some m.cls := hown
  have hl : lv_has ls 4 [(0, .ref (ad 0)), (1, .int x1), (2, .int x2), (3, .int x3)] := hl
  obtain ⟨H, hH⟩ : ∃ q, q = s.heap := ⟨_, rfl⟩
  rw [← hH] at hP
  have hS : va_S A s.heap H [] := by rw [hH]; exact hS
  rw [← hH]
  have hF := FR_refl [9, 10, 63] ai
  have ra_x1 := s_any x1
  have ra_x2 := s_any x2
  have ra_x3 := s_any x3
  refine lv_aload_n hx hb dX8_price_0 rfl (lv_at hl 0 rfl) ?_
  refine gf (k := 0) hx hb hts inX8 hown hK hP k_264 rfl (by decide) rfl 0 rfl (.ref (ad 6)) rfl dX8_price_1 ?_
  refine lv_iload_n hx hb dX8_price_4 rfl (lv_at hl 1 rfl) ?_
  have hM := m001_X3_hasUnknown l dC dI cI cJ cII cJJ H.size 0 ad f3_unknowns f3_equations f2_roundSupports f2_stale f7_size f1_size f5_keptSize f5_aheadSize f0_solved f4_blockCount f4_blockLength f4_lastIsFree f4_stale ai al w0 w1 w2 w3 x1 (by omega) (by omega) (by omega) (by omega) (by omega) (by omega) (by omega) (by omega) (by omega) (by omega) (by omega) hI hw_w0 hw_w1 hw_w2 hw_w3
  refine k2V_i (q0 := 6) ⟨hx, hb, hml, hown, hts⟩ hK hP hD hS hA hX cv_RX8_82 hM ⟨by decide +kernel, by decide +kernel⟩ rfl rfl (Or.inl rfl) (rest := []) rfl rfl rfl hl.1 rfl (Nat.le_of_ble_eq_true rfl) dX8_price_5 ⟨Nat.le_of_ble_eq_true rfl, Nat.le_of_ble_eq_true rfl⟩ (fun r1 t H1 locs_1 ht hB hS_1 hFc => ?_)
  obtain ⟨⟨gpr1_0, gpr1_1⟩, hP_2, -, hD_2⟩ := hB
  rw [ht] at hP_2
  have hD_3 := hD_2.weaken (B := A) (fun k q _ h9 => hFc q.1 h9)
  clear ht
  generalize H1 = H_4 at hP_2 hS_1 ⊢
  refine lv_if_ne (tgt := 17) hx hb dX8_price_8 (by decide) (fun c2 => ?_) (fun c2 => ?_)
  · have c2 := j_ne (a := r1.toInt) (b := 0) rfl (by decide +kernel) c2
    refine lv_iload_n hx hb dX8_price_17 rfl (lv_at hl 2 rfl) ?_
    refine lv_bipush (v := (-99)) hx hb dX8_price_18 (by decide) ?_
    refine lv_icmp_lt (tgt := 27) hx hb dX8_price_20 (by decide) (fun c3 => ?_) (fun c3 => ?_)
    · have c3 := j_lt (a := x2.toInt) (b := (-99)) rfl (by decide +kernel) c3
      exact m053_X8_price_b27 C  ai _ _ _ (by omega) (by omega) (by omega) (by omega) (by omega) (by omega) (by omega) (by omega) (by omega) (by omega) (by omega) (by omega) (by omega) (by omega) hI hF hw_w0 hw_w1 hw_w2 hw_w3 hP_2 hD_3 hS_1 (lv_sub hl [0, 1, 2, 3] rfl)
    · have c3 := j_nlt (a := x2.toInt) (b := (-99)) rfl (by decide +kernel) c3
      refine lv_iload_n hx hb dX8_price_23 rfl (lv_at hl 3 rfl) ?_
      refine lv_if_ge (tgt := 34) hx hb dX8_price_24 (by decide) (fun c4 => ?_) (fun c4 => ?_)
      · have c4 := j_le (a := 0) (b := x3.toInt) (by decide +kernel) rfl c4
        refine lv_iload_n hx hb dX8_price_34 rfl (lv_at hl 2 rfl) ?_
        refine lv_bipush (v := 99) hx hb dX8_price_35 (by decide) ?_
        refine lv_icmp_gt (tgt := 46) hx hb dX8_price_37 (by decide) (fun c5 => ?_) (fun c5 => ?_)
        · have c5 := j_lt (a := 99) (b := x2.toInt) (by decide +kernel) rfl c5
          exact m053_X8_price_b46 C  ai _ _ _ (by omega) (by omega) (by omega) (by omega) (by omega) (by omega) (by omega) (by omega) (by omega) (by omega) (by omega) (by omega) (by omega) (by omega) (by omega) (by omega) (by omega) hI hF hw_w0 hw_w1 hw_w2 hw_w3 hP_2 hD_3 hS_1 (lv_sub hl [0, 1, 2, 3] rfl)
        · have c5 := j_nlt (a := 99) (b := x2.toInt) (by decide +kernel) rfl c5
          refine lv_iload_n hx hb dX8_price_40 rfl (lv_at hl 3 rfl) ?_
          refine lv_bipush (v := 99) hx hb dX8_price_41 (by decide) ?_
          refine lv_icmp_le (tgt := 53) hx hb dX8_price_43 (by decide) (fun c6 => ?_) (fun c6 => ?_)
          · have c6 := j_le (a := x3.toInt) (b := 99) rfl (by decide +kernel) c6
            refine lv_aload_n hx hb dX8_price_53 rfl (lv_at hl 0 rfl) ?_
            refine gf (k := 0) hx hb hts inX8 hown hK hP_2 k_264 rfl (by decide) rfl 0 rfl (.ref (ad 6)) rfl dX8_price_54 ?_
            refine gf (k := 6) hx hb hts inX3 hown hK hP_2 k_65 rfl (by decide) rfl 6 rfl (.ref (ad 9)) rfl dX8_price_57 ?_
            refine lv_iload_n hx hb dX8_price_60 rfl (lv_at hl 1 rfl) ?_
            refine lv_iload_n hx hb dX8_price_61 rfl (lv_at hl 2 rfl) ?_
            refine va_iast hx hb hK hP_2 hD_3 hS_1 9 0 rfl rfl (j_in (a := x1.toInt) rfl (by omega) (by omega)) dX8_price_62 (fun H_5 locs_5 hP_5 hD_5 hS_5 => ?_)
            obtain ⟨ai7, e_ai7⟩ : ∃ q : Nat → Nat → Int32, q = va_up ai 9 (upd (ai 9) x1.toNatClampNeg x2) := ⟨_, rfl⟩
            have hF_6 := FR_st hF e_ai7 (by decide)
            have hI_7 : IAX ai7 := by rw [e_ai7]; exact hI
            have hP_8 : va_P (dC, dI) vwCl (WX cI cJ cII cJJ ad f3_unknowns f3_equations f2_roundSupports f2_stale f7_size f1_size f5_keptSize f5_aheadSize f0_solved f4_blockCount f4_blockLength f4_lastIsFree f4_stale ai7 al w0 w1 w2 w3) H_5 := by rw [e_ai7]; exact hP_5
            have hD_9 : va_D A (WX cI cJ cII cJJ ad f3_unknowns f3_equations f2_roundSupports f2_stale f7_size f1_size f5_keptSize f5_aheadSize f0_solved f4_blockCount f4_blockLength f4_lastIsFree f4_stale ai7 al w0 w1 w2 w3) := by rw [e_ai7]; exact hD_5
            refine lv_aload_n hx hb dX8_price_63 rfl (lv_at hl 0 rfl) ?_
            refine gf (k := 0) hx hb hts inX8 hown hK hP_8 k_264 rfl (by decide) rfl 0 rfl (.ref (ad 6)) rfl dX8_price_64 ?_
            refine gf (k := 7) hx hb hts inX3 hown hK hP_8 k_68 rfl (by decide) rfl 6 rfl (.ref (ad 10)) rfl dX8_price_67 ?_
            refine lv_iload_n hx hb dX8_price_70 rfl (lv_at hl 1 rfl) ?_
            refine lv_iload_n hx hb dX8_price_71 rfl (lv_at hl 3 rfl) ?_
            refine va_iast hx hb hK hP_8 hD_9 hS_5 10 0 rfl rfl (j_in (a := x1.toInt) rfl (by omega) (by omega)) dX8_price_72 (fun H_10 locs_10 hP_10 hD_10 hS_10 => ?_)
            obtain ⟨ai8, e_ai8⟩ : ∃ q : Nat → Nat → Int32, q = va_up ai7 10 (upd (ai7 10) x1.toNatClampNeg x3) := ⟨_, rfl⟩
            have hF_11 := FR_st hF_6 e_ai8 (by decide)
            have hI_12 : IAX ai8 := by rw [e_ai8]; exact hI_7
            have hP_13 : va_P (dC, dI) vwCl (WX cI cJ cII cJJ ad f3_unknowns f3_equations f2_roundSupports f2_stale f7_size f1_size f5_keptSize f5_aheadSize f0_solved f4_blockCount f4_blockLength f4_lastIsFree f4_stale ai8 al w0 w1 w2 w3) H_10 := by rw [e_ai8]; exact hP_10
            have hD_14 : va_D A (WX cI cJ cII cJJ ad f3_unknowns f3_equations f2_roundSupports f2_stale f7_size f1_size f5_keptSize f5_aheadSize f0_solved f4_blockCount f4_blockLength f4_lastIsFree f4_stale ai8 al w0 w1 w2 w3) := by rw [e_ai8]; exact hD_10
            refine lv_iconst (v := 1) hx hb dX8_price_73 (by decide) ?_
            exact r2_i hx hb hr hk hS_10 dX8_price_74 (fun t ht hW => ⟨ai8, ⟨(by have kr1 : (1 : Int32).toInt = 1 := (by decide); first | omega | decide | exact Or.inl (by decide) | exact Or.inr (by decide) | exact Or.inr (by omega)), hI_12, hF_11⟩, by rw [ht]; exact hP_13, va_K.moved hW.alike hK, hD_14⟩)
          · have c6 := j_nle (a := x3.toInt) (b := 99) rfl (by decide +kernel) c6
            exact m053_X8_price_b46 C  ai _ _ _ (by omega) (by omega) (by omega) (by omega) (by omega) (by omega) (by omega) (by omega) (by omega) (by omega) (by omega) (by omega) (by omega) (by omega) (by omega) (by omega) (by omega) hI hF hw_w0 hw_w1 hw_w2 hw_w3 hP_2 hD_3 hS_1 (lv_sub hl [0, 1, 2, 3] rfl)
      · have c4 := j_nle (a := 0) (b := x3.toInt) (by decide +kernel) rfl c4
        exact m053_X8_price_b27 C  ai _ _ _ (by omega) (by omega) (by omega) (by omega) (by omega) (by omega) (by omega) (by omega) (by omega) (by omega) (by omega) (by omega) (by omega) (by omega) hI hF hw_w0 hw_w1 hw_w2 hw_w3 hP_2 hD_3 hS_1 (lv_sub hl [0, 1, 2, 3] rfl)
  · have c2 := j_eq (a := r1.toInt) (b := 0) rfl (by decide +kernel) c2
    refine lv_aload_n hx hb dX8_price_11 rfl (lv_at hl 0 rfl) ?_
    refine lv_iconst (v := (-1)) hx hb dX8_price_12 (by decide) ?_
    have kcm1 : ((-1) : Int32).toInt = (-1) := by decide +kernel
    have hM := m003_X8_refuse l dC dI cI cJ cII cJJ H_4.size 0 ad f3_unknowns f3_equations f2_roundSupports f2_stale f7_size f1_size f5_keptSize f5_aheadSize f0_solved f4_blockCount f4_blockLength f4_lastIsFree f4_stale ai al w0 w1 w2 w3 (-1) (by omega) (by omega) (by omega) (by omega) (by omega) (by omega) (by omega) (by omega) (by omega) (by omega) (by omega) hI hw_w0 hw_w1 hw_w2 hw_w3
    refine k2V_i (q0 := 0) ⟨hx, hb, hml, hown, hts⟩ hK hP_2 hD_3 hS_1 hA hX cv_RX8_53 hM ⟨by decide +kernel, by decide +kernel⟩ rfl rfl (Or.inl rfl) (rest := []) rfl rfl rfl hl.1 rfl (Nat.le_of_ble_eq_true rfl) dX8_price_13 ⟨Nat.le_of_ble_eq_true rfl, Nat.le_of_ble_eq_true rfl⟩ (fun r9 t H1 locs_15 ht hB hS_15 hFc => ?_)
    obtain ⟨ai10, ⟨gpr9_0, hI_16, hFr_r9⟩, hP_16, -, hD_16⟩ := hB
    have hF_17 := FR_tr hF hFr_r9 (by decide)
    rw [ht] at hP_16
    have hD_18 := hD_16.weaken (B := A) (fun k q _ h9 => hFc q.1 h9)
    clear ht
    generalize H1 = H_19 at hP_16 hS_15 ⊢
    exact r2_i hx hb hr hk hS_15 dX8_price_16 (fun t ht hW => ⟨ai10, ⟨(by first | omega | decide | exact Or.inl (by decide) | exact Or.inr (by decide) | exact Or.inr (by omega)), hI_16, hF_17⟩, by rw [ht]; exact hP_16, va_K.moved hW.alike hK, hD_18⟩)
def Q_m054_X8_tray (dC : Nat → ClassId) (dI : Nat → Nat → Nat) (cI cJ cII cJJ : ClassId) (ad : Nat → Nat) (f3_unknowns f3_equations f2_roundSupports f2_stale f7_size f1_size f5_keptSize f5_aheadSize f0_solved f4_blockCount f4_blockLength f4_lastIsFree f4_stale : Int32) (ai0 : Nat → Nat → Int32) (al0 : Nat → Nat → Int64) (w0 w1 w2 w3 : Nat) (x1 : Int32) (x2 : Int32) (x3 : Int32) : (Nat → Prop) → Array Value → State → Outcome → State → Prop := fun A => QI (fun r t => ∃ (n_ai : Nat → Nat → Int32), ∃ (n_al : Nat → Nat → Int64), (((¬ (0 ≤ x1.toInt ∧ x1.toInt < 4) ∧ r.toInt = -1) ∨ ((0 ≤ x1.toInt ∧ x1.toInt < 4) ∧ ¬ (0 ≤ x2.toInt ∧ x2.toInt < 4) ∧ r.toInt = -2) ∨ ((0 ≤ x1.toInt ∧ x1.toInt < 4) ∧ (0 ≤ x2.toInt ∧ x2.toInt < 4) ∧ x3.toInt < 0 ∧ r.toInt = -4) ∨ ((0 ≤ x1.toInt ∧ x1.toInt < 4) ∧ (0 ≤ x2.toInt ∧ x2.toInt < 4) ∧ 20 < x3.toInt ∧ r.toInt = -6) ∨ ((0 ≤ x1.toInt ∧ x1.toInt < 4) ∧ (0 ≤ x2.toInt ∧ x2.toInt < 4) ∧ 0 ≤ x3.toInt ∧ x3.toInt ≤ 20 ∧ r.toInt = 1)) ∧ ((((0 ≤ x1.toInt ∧ x1.toInt < 4) ∧ (0 ≤ x2.toInt ∧ x2.toInt < 4) ∧ 0 ≤ x3.toInt ∧ x3.toInt ≤ 20) ∧ n_ai 58 = upd (ai0 58) x1.toInt.toNat x2 ∧ n_ai 59 = upd (ai0 59) x1.toInt.toNat x3) ∨ (¬ ((0 ≤ x1.toInt ∧ x1.toInt < 4) ∧ (0 ≤ x2.toInt ∧ x2.toInt < 4) ∧ 0 ≤ x3.toInt ∧ x3.toInt ≤ 20) ∧ n_ai 58 = ai0 58 ∧ n_ai 59 = ai0 59)) ∧ IAX n_ai ∧ FR [58, 59, 63] ai0 n_ai ∧ FL [54, 55, 56, 57] al0 n_al) ∧ WO dC dI (TY cI cJ cII cJJ) (WX cI cJ cII cJJ ad f3_unknowns f3_equations f2_roundSupports f2_stale f7_size f1_size f5_keptSize f5_aheadSize f0_solved f4_blockCount f4_blockLength f4_lastIsFree f4_stale n_ai n_al w0 w1 w2 w3) A t) A
set_option maxRecDepth 100000 in
set_option maxHeartbeats 4000000 in
theorem m054_X8_tray_b26 {p : Program} {l : Launch} {e : Env} {s : State} {m : MethodId} {args : Array Value} {below : List Frame} {meth : Method} {c : Code} {A : Nat → Prop} {dC : Nat → ClassId} {dI : Nat → Nat → Nat} {cI cJ cII cJJ : ClassId} {ad : Nat → Nat} {g : Nat} {f3_unknowns f3_equations f2_roundSupports f2_stale f7_size f1_size f5_keptSize f5_aheadSize f0_solved f4_blockCount f4_blockLength f4_lastIsFree f4_stale : Int32} {ai0 : Nat → Nat → Int32} {al0 : Nat → Nat → Int64} {w0 w1 w2 w3 : Nat} {x1 : Int32} {x2 : Int32} {x3 : Int32} (C : Cx p c s m meth args A dC dI (TY cI cJ cII cJJ) cX8_tray (some .int) 4 RX8 0 g) : ∀ (ai : Nat → Nat → Int32) (al : Nat → Nat → Int64) (H : Heap) (locs : List Loc) (ls : Array Slot), (1 ≤ f3_unknowns.toInt ∧ f3_unknowns.toInt ≤ 4) → (0 ≤ f3_equations.toInt ∧ f3_equations.toInt ≤ 3) → (0 ≤ f2_stale.toInt ∧ f2_stale.toInt ≤ 1) → (0 ≤ f7_size.toInt ∧ f7_size.toInt ≤ 256) → (0 ≤ f1_size.toInt ∧ f1_size.toInt ≤ 4) → (0 ≤ f5_keptSize.toInt ∧ f5_keptSize.toInt ≤ 128) → (0 ≤ f5_aheadSize.toInt ∧ f5_aheadSize.toInt ≤ 128) → (0 ≤ f4_blockCount.toInt ∧ f4_blockCount.toInt ≤ 9261) → (0 ≤ f4_blockLength.toInt ∧ f4_blockLength.toInt ≤ 21) → (0 ≤ f4_lastIsFree.toInt ∧ f4_lastIsFree.toInt ≤ 1) → (0 ≤ f4_stale.toInt ∧ f4_stale.toInt ≤ 1) → (0 ≤ x1.toInt ∧ x1.toInt ≤ 3) → (0 ≤ x1.toInt ∧ x1.toInt < 4) → ¬ (0 ≤ x2.toInt ∧ x2.toInt < 4) → ai = ai0 → IAX ai → FR [58, 59, 63] ai0 ai → FL [54, 55, 56, 57] al0 al → RWX ad w0 → RWX ad w1 → RWX ad w2 → RWX ad w3 → va_P (dC, dI) vwCl (WX cI cJ cII cJJ ad f3_unknowns f3_equations f2_roundSupports f2_stale f7_size f1_size f5_keptSize f5_aheadSize f0_solved f4_blockCount f4_blockLength f4_lastIsFree f4_stale ai al w0 w1 w2 w3) H → va_D A (WX cI cJ cII cJJ ad f3_unknowns f3_equations f2_roundSupports f2_stale f7_size f1_size f5_keptSize f5_aheadSize f0_solved f4_blockCount f4_blockLength f4_lastIsFree f4_stale ai al w0 w1 w2 w3) → va_S A s.heap H locs → lv_has ls 4 [(0, .ref (ad 0)), (1, .int x1), (2, .int x2), (3, .int x3)] → W p l e ({ frames := 4, cells := 0, slots := 0, locals := 200 } : Room) s m args below meth c H locs 0 0 (MQ below (Q_m054_X8_tray dC dI cI cJ cII cJJ ad f3_unknowns f3_equations f2_roundSupports f2_stale f7_size f1_size f5_keptSize f5_aheadSize f0_solved f4_blockCount f4_blockLength f4_lastIsFree f4_stale ai0 al0 w0 w1 w2 w3 x1 x2 x3 A) args s 0 0 A) (F0 m 26 ls []) := by
  obtain ⟨hx, hb, hr, hml, hown, hts, hk, hA, hK, hX⟩ := id C
  intro ai al H locs ls h0 h1 h2 h3 h4 h5 h6 h7 h8 h9 h10 h11 h12 h13 h14 hI hF hG hw_w0 hw_w1 hw_w2 hw_w3 hP hD hS hl
  refine lv_aload_n hx hb dX8_tray_26 rfl (lv_at hl 0 rfl) ?_
  refine lv_bipush (v := (-2)) hx hb dX8_tray_27 (by decide) ?_
  have kcm2 : ((-2) : Int32).toInt = (-2) := by decide +kernel
  have hM := m003_X8_refuse l dC dI cI cJ cII cJJ H.size 0 ad f3_unknowns f3_equations f2_roundSupports f2_stale f7_size f1_size f5_keptSize f5_aheadSize f0_solved f4_blockCount f4_blockLength f4_lastIsFree f4_stale ai al w0 w1 w2 w3 (-2) (by omega) (by omega) (by omega) (by omega) (by omega) (by omega) (by omega) (by omega) (by omega) (by omega) (by omega) hI hw_w0 hw_w1 hw_w2 hw_w3
  refine k2V_i (q0 := 0) ⟨hx, hb, hml, hown, hts⟩ hK hP hD hS hA hX cv_RX8_53 hM ⟨by decide +kernel, by decide +kernel⟩ rfl rfl (Or.inl rfl) (rest := []) rfl rfl rfl hl.1 rfl (Nat.le_of_ble_eq_true rfl) dX8_tray_29 ⟨Nat.le_of_ble_eq_true rfl, Nat.le_of_ble_eq_true rfl⟩ (fun r1 t H1 locs_1 ht hB hS_1 hFc => ?_)
  obtain ⟨ai2, ⟨gpr1_0, hI_2, hFr_r1⟩, hP_2, -, hD_2⟩ := hB
  have hF_3 := FR_tr hF hFr_r1 (by decide)
  rw [ht] at hP_2
  have hD_4 := hD_2.weaken (B := A) (fun k q _ h9 => hFc q.1 h9)
  clear ht
  generalize H1 = H_5 at hP_2 hS_1 ⊢
  exact r2_i hx hb hr hk hS_1 dX8_tray_32 (fun t ht hW => ⟨ai2, al, ⟨(by first | omega | decide | exact Or.inl (by decide) | exact Or.inr (by decide) | exact Or.inr (by omega)), (Or.inr ⟨by omega, by rw [hFr_r1 58 (by decide), h14], by rw [hFr_r1 59 (by decide), h14]⟩), hI_2, hF_3, hG⟩, by rw [ht]; exact hP_2, va_K.moved hW.alike hK, hD_4⟩)
set_option maxRecDepth 100000 in
set_option maxHeartbeats 4000000 in
theorem m054_X8_tray (l : Launch) (dC : Nat → ClassId) (dI : Nat → Nat → Nat) (cI cJ cII cJJ : ClassId) (sz g : Nat) (ad : Nat → Nat) (f3_unknowns f3_equations f2_roundSupports f2_stale f7_size f1_size f5_keptSize f5_aheadSize f0_solved f4_blockCount f4_blockLength f4_lastIsFree f4_stale : Int32) (ai : Nat → Nat → Int32) (al : Nat → Nat → Int64) (w0 w1 w2 w3 : Nat) (x1 : Int32) (x2 : Int32) (x3 : Int32) (h_f3_unknowns : (1 ≤ f3_unknowns.toInt ∧ f3_unknowns.toInt ≤ 4)) (h_f3_equations : (0 ≤ f3_equations.toInt ∧ f3_equations.toInt ≤ 3)) (h_f2_stale : (0 ≤ f2_stale.toInt ∧ f2_stale.toInt ≤ 1)) (h_f7_size : (0 ≤ f7_size.toInt ∧ f7_size.toInt ≤ 256)) (h_f1_size : (0 ≤ f1_size.toInt ∧ f1_size.toInt ≤ 4)) (h_f5_keptSize : (0 ≤ f5_keptSize.toInt ∧ f5_keptSize.toInt ≤ 128)) (h_f5_aheadSize : (0 ≤ f5_aheadSize.toInt ∧ f5_aheadSize.toInt ≤ 128)) (h_f4_blockCount : (0 ≤ f4_blockCount.toInt ∧ f4_blockCount.toInt ≤ 9261)) (h_f4_blockLength : (0 ≤ f4_blockLength.toInt ∧ f4_blockLength.toInt ≤ 21)) (h_f4_lastIsFree : (0 ≤ f4_lastIsFree.toInt ∧ f4_lastIsFree.toInt ≤ 1)) (h_f4_stale : (0 ≤ f4_stale.toInt ∧ f4_stale.toInt ≤ 1)) (hI : IAX ai) (hw_w0 : RWX ad w0) (hw_w1 : RWX ad w1) (hw_w2 : RWX ad w2) (hw_w3 : RWX ad w3) : Met l yX8_tray (.code yX8_tray cX8_tray 4 (some .int) :: TT) ({ frames := 4, cells := 0, slots := 0, locals := 200 } : Room) (PcS dC dI (TY cI cJ cII cJJ) [.ref (ad 0), .int x1, .int x2, .int x3] (WX cI cJ cII cJJ ad f3_unknowns f3_equations f2_roundSupports f2_stale f7_size f1_size f5_keptSize f5_aheadSize f0_solved f4_blockCount f4_blockLength f4_lastIsFree f4_stale ai al w0 w1 w2 w3) sz 0 g) (Q_m054_X8_tray dC dI cI cJ cII cJJ ad f3_unknowns f3_equations f2_roundSupports f2_stale f7_size f1_size f5_keptSize f5_aheadSize f0_solved f4_blockCount f4_blockLength f4_lastIsFree f4_stale ai al w0 w1 w2 w3 x1 x2 x3 (va_A (WX cI cJ cII cJJ ad f3_unknowns f3_equations f2_roundSupports f2_stale f7_size f1_size f5_keptSize f5_aheadSize f0_solved f4_blockCount f4_blockLength f4_lastIsFree f4_stale ai al w0 w1 w2 w3) sz)) 0 0 (va_A (WX cI cJ cII cJJ ad f3_unknowns f3_equations f2_roundSupports f2_stale f7_size f1_size f5_keptSize f5_aheadSize f0_solved f4_blockCount f4_blockLength f4_lastIsFree f4_stale ai al w0 w1 w2 w3) sz) := by
  refine SM.of (y := yX8_tray) (maxL := 4) (av := [.ref (ad 0), .int x1, .int x2, .int x3]) (Q_m054_X8_tray dC dI cI cJ cII cJJ ad f3_unknowns f3_equations f2_roundSupports f2_stale f7_size f1_size f5_keptSize f5_aheadSize f0_solved f4_blockCount f4_blockLength f4_lastIsFree f4_stale ai al w0 w1 w2 w3 x1 x2 x3) (by decide +kernel) (Nat.le_of_ble_eq_true rfl) (fun p e s m below meth c A ls hx hb hr hml hown hts hk hnm hA hK hP hD hS hX hl => ?_)
  have C : Cx p c s m meth (([.ref (ad 0), .int x1, .int x2, .int x3] : List Value).toArray) A dC dI (TY cI cJ cII cJJ) cX8_tray (some .int) 4 RX8 0 g := ⟨hx, hb, hr, hml, hown, hts, hk, hA, hK, hX⟩
  have hown : s.vm.findClass RX8 = some m.cls := hown
  have hl : lv_has ls 4 [(0, .ref (ad 0)), (1, .int x1), (2, .int x2), (3, .int x3)] := hl
  obtain ⟨H, hH⟩ : ∃ q, q = s.heap := ⟨_, rfl⟩
  rw [← hH] at hP
  have hS : va_S A s.heap H [] := by rw [hH]; exact hS
  rw [← hH]
  have hF := FR_refl [58, 59, 63] ai
  have hG := FL_refl [54, 55, 56, 57] al
  have ra_x1 := s_any x1
  have ra_x2 := s_any x2
  have ra_x3 := s_any x3
  refine lv_aload_n hx hb dX8_tray_0 rfl (lv_at hl 0 rfl) ?_
  refine gf (k := 3) hx hb hts inX8 hown hK hP k_267 rfl (by decide) rfl 0 rfl (.ref (ad 52)) rfl dX8_tray_1 ?_
  refine lv_iload_n hx hb dX8_tray_4 rfl (lv_at hl 1 rfl) ?_
  have hM := m024_X6_isTray l dC dI cI cJ cII cJJ H.size 0 ad f3_unknowns f3_equations f2_roundSupports f2_stale f7_size f1_size f5_keptSize f5_aheadSize f0_solved f4_blockCount f4_blockLength f4_lastIsFree f4_stale ai al w0 w1 w2 w3 x1 (by omega) (by omega) (by omega) (by omega) (by omega) (by omega) (by omega) (by omega) (by omega) (by omega) (by omega) hI hw_w0 hw_w1 hw_w2 hw_w3
  refine k2V_i (q0 := 52) ⟨hx, hb, hml, hown, hts⟩ hK hP hD hS hA hX cv_RX8_112 hM ⟨by decide +kernel, by decide +kernel⟩ rfl rfl (Or.inl rfl) (rest := []) rfl rfl rfl hl.1 rfl (Nat.le_of_ble_eq_true rfl) dX8_tray_5 ⟨Nat.le_of_ble_eq_true rfl, Nat.le_of_ble_eq_true rfl⟩ (fun r1 t H1 locs_1 ht hB hS_1 hFc => ?_)
  obtain ⟨⟨gpr1_0, gpr1_1⟩, hP_2, -, hD_2⟩ := hB
  rw [ht] at hP_2
  have hD_3 := hD_2.weaken (B := A) (fun k q _ h9 => hFc q.1 h9)
  clear ht
  generalize H1 = H_4 at hP_2 hS_1 ⊢
  refine lv_if_ne (tgt := 17) hx hb dX8_tray_8 (by decide) (fun c2 => ?_) (fun c2 => ?_)
  · have c2 := j_ne (a := r1.toInt) (b := 0) rfl (by decide +kernel) c2
    refine lv_iload_n hx hb dX8_tray_17 rfl (lv_at hl 2 rfl) ?_
    refine lv_if_lt (tgt := 26) hx hb dX8_tray_18 (by decide) (fun c3 => ?_) (fun c3 => ?_)
    · have c3 := j_lt (a := x2.toInt) (b := 0) rfl (by decide +kernel) c3
      exact m054_X8_tray_b26 C  ai al _ _ _ (by omega) (by omega) (by omega) (by omega) (by omega) (by omega) (by omega) (by omega) (by omega) (by omega) (by omega) (by omega) (by omega) (by omega) rfl hI hF hG hw_w0 hw_w1 hw_w2 hw_w3 hP_2 hD_3 hS_1 (lv_sub hl [0, 1, 2, 3] rfl)
    · have c3 := j_nlt (a := x2.toInt) (b := 0) rfl (by decide +kernel) c3
      refine lv_iload_n hx hb dX8_tray_21 rfl (lv_at hl 2 rfl) ?_
      refine lv_iconst (v := 3) hx hb dX8_tray_22 (by decide) ?_
      refine lv_icmp_le (tgt := 33) hx hb dX8_tray_23 (by decide) (fun c4 => ?_) (fun c4 => ?_)
      · have c4 := j_le (a := x2.toInt) (b := 3) rfl (by decide +kernel) c4
        refine lv_iload_n hx hb dX8_tray_33 rfl (lv_at hl 3 rfl) ?_
        refine lv_if_ge (tgt := 44) hx hb dX8_tray_34 (by decide) (fun c5 => ?_) (fun c5 => ?_)
        · have c5 := j_le (a := 0) (b := x3.toInt) (by decide +kernel) rfl c5
          refine lv_iload_n hx hb dX8_tray_44 rfl (lv_at hl 3 rfl) ?_
          refine lv_bipush (v := 20) hx hb dX8_tray_45 (by decide) ?_
          refine lv_icmp_le (tgt := 57) hx hb dX8_tray_47 (by decide) (fun c6 => ?_) (fun c6 => ?_)
          · have c6 := j_le (a := x3.toInt) (b := 20) rfl (by decide +kernel) c6
            refine lv_aload_n hx hb dX8_tray_57 rfl (lv_at hl 0 rfl) ?_
            refine gf (k := 3) hx hb hts inX8 hown hK hP_2 k_267 rfl (by decide) rfl 0 rfl (.ref (ad 52)) rfl dX8_tray_58 ?_
            refine lv_iload_n hx hb dX8_tray_61 rfl (lv_at hl 1 rfl) ?_
            refine lv_iload_n hx hb dX8_tray_62 rfl (lv_at hl 2 rfl) ?_
            refine lv_iload_n hx hb dX8_tray_63 rfl (lv_at hl 3 rfl) ?_
            have hM := m031_X6_layOut l dC dI cI cJ cII cJJ H_4.size 0 ad f3_unknowns f3_equations f2_roundSupports f2_stale f7_size f1_size f5_keptSize f5_aheadSize f0_solved f4_blockCount f4_blockLength f4_lastIsFree f4_stale ai al w0 w1 w2 w3 x1 x2 x3 (by omega) (by omega) (by omega) (by omega) (by omega) (by omega) (by omega) (by omega) (by omega) (by omega) (by omega) (by omega) (by omega) hI hw_w0 hw_w1 hw_w2 hw_w3
            refine k2V_v (q0 := 52) ⟨hx, hb, hml, hown, hts⟩ hK hP_2 hD_3 hS_1 hA hX cv_RX8_115 hM ⟨by decide +kernel, by decide +kernel⟩ rfl rfl (Or.inl rfl) (rest := []) rfl rfl rfl hl.1 rfl (Nat.le_of_ble_eq_true rfl) dX8_tray_64 ⟨Nat.le_of_ble_eq_true rfl, Nat.le_of_ble_eq_true rfl⟩ (fun t H1 locs_5 ht hB hS_5 hFc => ?_)
            obtain ⟨ai8, al9, ⟨gpr7_0, gpr7_1, hI_6, hFr_r7, hGr_r7⟩, hP_6, -, hD_6⟩ := hB
            have hF_7 := FR_tr hF hFr_r7 (by decide)
            have hG_8 := FL_tr hG hGr_r7 (by decide)
            rw [ht] at hP_6
            have hD_9 := hD_6.weaken (B := A) (fun k q _ h9 => hFc q.1 h9)
            clear ht
            generalize H1 = H_10 at hP_6 hS_5 ⊢
            refine lv_iconst (v := 1) hx hb dX8_tray_67 (by decide) ?_
            exact r2_i hx hb hr hk hS_5 dX8_tray_68 (fun t ht hW => ⟨ai8, al9, ⟨(by have kr1 : (1 : Int32).toInt = 1 := (by decide); first | omega | decide | exact Or.inl (by decide) | exact Or.inr (by decide) | exact Or.inr (by omega)), (Or.inl ⟨by omega, gpr7_0, gpr7_1⟩), hI_6, hF_7, hG_8⟩, by rw [ht]; exact hP_6, va_K.moved hW.alike hK, hD_9⟩)
          · have c6 := j_nle (a := x3.toInt) (b := 20) rfl (by decide +kernel) c6
            refine lv_aload_n hx hb dX8_tray_50 rfl (lv_at hl 0 rfl) ?_
            refine lv_bipush (v := (-6)) hx hb dX8_tray_51 (by decide) ?_
            have kcm6 : ((-6) : Int32).toInt = (-6) := by decide +kernel
            have hM := m003_X8_refuse l dC dI cI cJ cII cJJ H_4.size 0 ad f3_unknowns f3_equations f2_roundSupports f2_stale f7_size f1_size f5_keptSize f5_aheadSize f0_solved f4_blockCount f4_blockLength f4_lastIsFree f4_stale ai al w0 w1 w2 w3 (-6) (by omega) (by omega) (by omega) (by omega) (by omega) (by omega) (by omega) (by omega) (by omega) (by omega) (by omega) hI hw_w0 hw_w1 hw_w2 hw_w3
            refine k2V_i (q0 := 0) ⟨hx, hb, hml, hown, hts⟩ hK hP_2 hD_3 hS_1 hA hX cv_RX8_53 hM ⟨by decide +kernel, by decide +kernel⟩ rfl rfl (Or.inl rfl) (rest := []) rfl rfl rfl hl.1 rfl (Nat.le_of_ble_eq_true rfl) dX8_tray_53 ⟨Nat.le_of_ble_eq_true rfl, Nat.le_of_ble_eq_true rfl⟩ (fun r10 t H1 locs_11 ht hB hS_11 hFc => ?_)
            obtain ⟨ai11, ⟨gpr10_0, hI_12, hFr_r10⟩, hP_12, -, hD_12⟩ := hB
            have hF_13 := FR_tr hF hFr_r10 (by decide)
            rw [ht] at hP_12
            have hD_14 := hD_12.weaken (B := A) (fun k q _ h9 => hFc q.1 h9)
            clear ht
            generalize H1 = H_15 at hP_12 hS_11 ⊢
            exact r2_i hx hb hr hk hS_11 dX8_tray_56 (fun t ht hW => ⟨ai11, al, ⟨(by first | omega | decide | exact Or.inl (by decide) | exact Or.inr (by decide) | exact Or.inr (by omega)), (Or.inr ⟨by omega, hFr_r10 58 (by decide), hFr_r10 59 (by decide)⟩), hI_12, hF_13, hG⟩, by rw [ht]; exact hP_12, va_K.moved hW.alike hK, hD_14⟩)
        · have c5 := j_nle (a := 0) (b := x3.toInt) (by decide +kernel) rfl c5
          refine lv_aload_n hx hb dX8_tray_37 rfl (lv_at hl 0 rfl) ?_
          refine lv_bipush (v := (-4)) hx hb dX8_tray_38 (by decide) ?_
          have kcm4 : ((-4) : Int32).toInt = (-4) := by decide +kernel
          have hM := m003_X8_refuse l dC dI cI cJ cII cJJ H_4.size 0 ad f3_unknowns f3_equations f2_roundSupports f2_stale f7_size f1_size f5_keptSize f5_aheadSize f0_solved f4_blockCount f4_blockLength f4_lastIsFree f4_stale ai al w0 w1 w2 w3 (-4) (by omega) (by omega) (by omega) (by omega) (by omega) (by omega) (by omega) (by omega) (by omega) (by omega) (by omega) hI hw_w0 hw_w1 hw_w2 hw_w3
          refine k2V_i (q0 := 0) ⟨hx, hb, hml, hown, hts⟩ hK hP_2 hD_3 hS_1 hA hX cv_RX8_53 hM ⟨by decide +kernel, by decide +kernel⟩ rfl rfl (Or.inl rfl) (rest := []) rfl rfl rfl hl.1 rfl (Nat.le_of_ble_eq_true rfl) dX8_tray_40 ⟨Nat.le_of_ble_eq_true rfl, Nat.le_of_ble_eq_true rfl⟩ (fun r12 t H1 locs_16 ht hB hS_16 hFc => ?_)
          obtain ⟨ai13, ⟨gpr12_0, hI_17, hFr_r12⟩, hP_17, -, hD_17⟩ := hB
          have hF_18 := FR_tr hF hFr_r12 (by decide)
          rw [ht] at hP_17
          have hD_19 := hD_17.weaken (B := A) (fun k q _ h9 => hFc q.1 h9)
          clear ht
          generalize H1 = H_20 at hP_17 hS_16 ⊢
          exact r2_i hx hb hr hk hS_16 dX8_tray_43 (fun t ht hW => ⟨ai13, al, ⟨(by first | omega | decide | exact Or.inl (by decide) | exact Or.inr (by decide) | exact Or.inr (by omega)), (Or.inr ⟨by omega, hFr_r12 58 (by decide), hFr_r12 59 (by decide)⟩), hI_17, hF_18, hG⟩, by rw [ht]; exact hP_17, va_K.moved hW.alike hK, hD_19⟩)
      · have c4 := j_nle (a := x2.toInt) (b := 3) rfl (by decide +kernel) c4
        exact m054_X8_tray_b26 C  ai al _ _ _ (by omega) (by omega) (by omega) (by omega) (by omega) (by omega) (by omega) (by omega) (by omega) (by omega) (by omega) (by omega) (by omega) (by omega) rfl hI hF hG hw_w0 hw_w1 hw_w2 hw_w3 hP_2 hD_3 hS_1 (lv_sub hl [0, 1, 2, 3] rfl)
  · have c2 := j_eq (a := r1.toInt) (b := 0) rfl (by decide +kernel) c2
    refine lv_aload_n hx hb dX8_tray_11 rfl (lv_at hl 0 rfl) ?_
    refine lv_iconst (v := (-1)) hx hb dX8_tray_12 (by decide) ?_
    have kcm1 : ((-1) : Int32).toInt = (-1) := by decide +kernel
    have hM := m003_X8_refuse l dC dI cI cJ cII cJJ H_4.size 0 ad f3_unknowns f3_equations f2_roundSupports f2_stale f7_size f1_size f5_keptSize f5_aheadSize f0_solved f4_blockCount f4_blockLength f4_lastIsFree f4_stale ai al w0 w1 w2 w3 (-1) (by omega) (by omega) (by omega) (by omega) (by omega) (by omega) (by omega) (by omega) (by omega) (by omega) (by omega) hI hw_w0 hw_w1 hw_w2 hw_w3
    refine k2V_i (q0 := 0) ⟨hx, hb, hml, hown, hts⟩ hK hP_2 hD_3 hS_1 hA hX cv_RX8_53 hM ⟨by decide +kernel, by decide +kernel⟩ rfl rfl (Or.inl rfl) (rest := []) rfl rfl rfl hl.1 rfl (Nat.le_of_ble_eq_true rfl) dX8_tray_13 ⟨Nat.le_of_ble_eq_true rfl, Nat.le_of_ble_eq_true rfl⟩ (fun r14 t H1 locs_21 ht hB hS_21 hFc => ?_)
    obtain ⟨ai15, ⟨gpr14_0, hI_22, hFr_r14⟩, hP_22, -, hD_22⟩ := hB
    have hF_23 := FR_tr hF hFr_r14 (by decide)
    rw [ht] at hP_22
    have hD_24 := hD_22.weaken (B := A) (fun k q _ h9 => hFc q.1 h9)
    clear ht
    generalize H1 = H_25 at hP_22 hS_21 ⊢
    exact r2_i hx hb hr hk hS_21 dX8_tray_16 (fun t ht hW => ⟨ai15, al, ⟨(by first | omega | decide | exact Or.inl (by decide) | exact Or.inr (by decide) | exact Or.inr (by omega)), (Or.inr ⟨by omega, hFr_r14 58 (by decide), hFr_r14 59 (by decide)⟩), hI_22, hF_23, hG⟩, by rw [ht]; exact hP_22, va_K.moved hW.alike hK, hD_24⟩)
def Q_m055_X8_cell (dC : Nat → ClassId) (dI : Nat → Nat → Nat) (cI cJ cII cJJ : ClassId) (ad : Nat → Nat) (f3_unknowns f3_equations f2_roundSupports f2_stale f7_size f1_size f5_keptSize f5_aheadSize f0_solved f4_blockCount f4_blockLength f4_lastIsFree f4_stale : Int32) (ai0 : Nat → Nat → Int32) (al0 : Nat → Nat → Int64) (w0 w1 w2 w3 : Nat) (x1 : Int32) (x2 : Int32) (y3 : Int64) : (Nat → Prop) → Array Value → State → Outcome → State → Prop := fun A => QI (fun r t => ∃ (n_ai : Nat → Nat → Int32), ∃ (n_al : Nat → Nat → Int64), (((¬ (0 ≤ x1.toInt ∧ x1.toInt < 4) ∧ r.toInt = -1) ∨ ((0 ≤ x1.toInt ∧ x1.toInt < 4) ∧ (ai0 59 x1.toInt.toNat).toInt = -1 ∧ r.toInt = -7) ∨ ((0 ≤ x1.toInt ∧ x1.toInt < 4) ∧ (ai0 59 x1.toInt.toNat).toInt ≠ -1 ∧ ¬ (0 ≤ x2.toInt ∧ x2.toInt < (ai0 59 x1.toInt.toNat).toInt) ∧ r.toInt = -3) ∨ ((0 ≤ x1.toInt ∧ x1.toInt < 4) ∧ (ai0 59 x1.toInt.toNat).toInt ≠ -1 ∧ (0 ≤ x2.toInt ∧ x2.toInt < (ai0 59 x1.toInt.toNat).toInt) ∧ r.toInt = 1)) ∧ IAX n_ai ∧ FR [63] ai0 n_ai ∧ FL [54, 55, 56, 57] al0 n_al) ∧ WO dC dI (TY cI cJ cII cJJ) (WX cI cJ cII cJJ ad f3_unknowns f3_equations f2_roundSupports f2_stale f7_size f1_size f5_keptSize f5_aheadSize f0_solved f4_blockCount f4_blockLength f4_lastIsFree f4_stale n_ai n_al w0 w1 w2 w3) A t) A
set_option maxRecDepth 100000 in
set_option maxHeartbeats 4000000 in
theorem m055_X8_cell_b52 {p : Program} {l : Launch} {e : Env} {s : State} {m : MethodId} {args : Array Value} {below : List Frame} {meth : Method} {c : Code} {A : Nat → Prop} {dC : Nat → ClassId} {dI : Nat → Nat → Nat} {cI cJ cII cJJ : ClassId} {ad : Nat → Nat} {g : Nat} {f3_unknowns f3_equations f2_roundSupports f2_stale f7_size f1_size f5_keptSize f5_aheadSize f0_solved f4_blockCount f4_blockLength f4_lastIsFree f4_stale : Int32} {ai0 : Nat → Nat → Int32} {al0 : Nat → Nat → Int64} {w0 w1 w2 w3 : Nat} {x1 : Int32} {x2 : Int32} {y3 : Int64} (C : Cx p c s m meth args A dC dI (TY cI cJ cII cJJ) cX8_cell (some .int) 5 RX8 0 g) : ∀ (ai : Nat → Nat → Int32) (al : Nat → Nat → Int64) (H : Heap) (locs : List Loc) (ls : Array Slot), (1 ≤ f3_unknowns.toInt ∧ f3_unknowns.toInt ≤ 4) → (0 ≤ f3_equations.toInt ∧ f3_equations.toInt ≤ 3) → (0 ≤ f2_stale.toInt ∧ f2_stale.toInt ≤ 1) → (0 ≤ f7_size.toInt ∧ f7_size.toInt ≤ 256) → (0 ≤ f1_size.toInt ∧ f1_size.toInt ≤ 4) → (0 ≤ f5_keptSize.toInt ∧ f5_keptSize.toInt ≤ 128) → (0 ≤ f5_aheadSize.toInt ∧ f5_aheadSize.toInt ≤ 128) → (0 ≤ f4_blockCount.toInt ∧ f4_blockCount.toInt ≤ 9261) → (0 ≤ f4_blockLength.toInt ∧ f4_blockLength.toInt ≤ 21) → (0 ≤ f4_lastIsFree.toInt ∧ f4_lastIsFree.toInt ≤ 1) → (0 ≤ f4_stale.toInt ∧ f4_stale.toInt ≤ 1) → (0 ≤ x1.toInt ∧ x1.toInt ≤ 3) → (0 ≤ x1.toInt ∧ x1.toInt < 4) → (ai0 59 x1.toInt.toNat).toInt ≠ -1 → ¬ (0 ≤ x2.toInt ∧ x2.toInt < (ai0 59 x1.toInt.toNat).toInt) → IAX ai → FR [63] ai0 ai → FL [54, 55, 56, 57] al0 al → RWX ad w0 → RWX ad w1 → RWX ad w2 → RWX ad w3 → va_P (dC, dI) vwCl (WX cI cJ cII cJJ ad f3_unknowns f3_equations f2_roundSupports f2_stale f7_size f1_size f5_keptSize f5_aheadSize f0_solved f4_blockCount f4_blockLength f4_lastIsFree f4_stale ai al w0 w1 w2 w3) H → va_D A (WX cI cJ cII cJJ ad f3_unknowns f3_equations f2_roundSupports f2_stale f7_size f1_size f5_keptSize f5_aheadSize f0_solved f4_blockCount f4_blockLength f4_lastIsFree f4_stale ai al w0 w1 w2 w3) → va_S A s.heap H locs → lv_has ls 5 [(0, .ref (ad 0)), (1, .int x1), (2, .int x2), (3, .long y3)] → W p l e ({ frames := 3, cells := 0, slots := 0, locals := 140 } : Room) s m args below meth c H locs 0 0 (MQ below (Q_m055_X8_cell dC dI cI cJ cII cJJ ad f3_unknowns f3_equations f2_roundSupports f2_stale f7_size f1_size f5_keptSize f5_aheadSize f0_solved f4_blockCount f4_blockLength f4_lastIsFree f4_stale ai0 al0 w0 w1 w2 w3 x1 x2 y3 A) args s 0 0 A) (F0 m 52 ls []) := by
  obtain ⟨hx, hb, hr, hml, hown, hts, hk, hA, hK, hX⟩ := id C
  intro ai al H locs ls h0 h1 h2 h3 h4 h5 h6 h7 h8 h9 h10 h11 h12 h13 h14 hI hF hG hw_w0 hw_w1 hw_w2 hw_w3 hP hD hS hl
  refine lv_aload_n hx hb dX8_cell_52 rfl (lv_at hl 0 rfl) ?_
  refine lv_bipush (v := (-3)) hx hb dX8_cell_53 (by decide) ?_
  have kcm3 : ((-3) : Int32).toInt = (-3) := by decide +kernel
  have hM := m003_X8_refuse l dC dI cI cJ cII cJJ H.size 0 ad f3_unknowns f3_equations f2_roundSupports f2_stale f7_size f1_size f5_keptSize f5_aheadSize f0_solved f4_blockCount f4_blockLength f4_lastIsFree f4_stale ai al w0 w1 w2 w3 (-3) (by omega) (by omega) (by omega) (by omega) (by omega) (by omega) (by omega) (by omega) (by omega) (by omega) (by omega) hI hw_w0 hw_w1 hw_w2 hw_w3
  refine k2V_i (q0 := 0) ⟨hx, hb, hml, hown, hts⟩ hK hP hD hS hA hX cv_RX8_53 hM ⟨by decide +kernel, by decide +kernel⟩ rfl rfl (Or.inl rfl) (rest := []) rfl rfl rfl hl.1 rfl (Nat.le_of_ble_eq_true rfl) dX8_cell_55 ⟨Nat.le_of_ble_eq_true rfl, Nat.le_of_ble_eq_true rfl⟩ (fun r1 t H1 locs_1 ht hB hS_1 hFc => ?_)
  obtain ⟨ai2, ⟨gpr1_0, hI_2, hFr_r1⟩, hP_2, -, hD_2⟩ := hB
  have hF_3 := FR_tr hF hFr_r1 (by decide)
  rw [ht] at hP_2
  have hD_4 := hD_2.weaken (B := A) (fun k q _ h9 => hFc q.1 h9)
  clear ht
  generalize H1 = H_5 at hP_2 hS_1 ⊢
  exact r2_i hx hb hr hk hS_1 dX8_cell_58 (fun t ht hW => ⟨ai2, al, ⟨(by first | omega | decide | exact Or.inl (by decide) | exact Or.inr (by decide) | exact Or.inr (by omega)), hI_2, hF_3, hG⟩, by rw [ht]; exact hP_2, va_K.moved hW.alike hK, hD_4⟩)
set_option maxRecDepth 100000 in
set_option maxHeartbeats 4000000 in
theorem m055_X8_cell (l : Launch) (dC : Nat → ClassId) (dI : Nat → Nat → Nat) (cI cJ cII cJJ : ClassId) (sz g : Nat) (ad : Nat → Nat) (f3_unknowns f3_equations f2_roundSupports f2_stale f7_size f1_size f5_keptSize f5_aheadSize f0_solved f4_blockCount f4_blockLength f4_lastIsFree f4_stale : Int32) (ai : Nat → Nat → Int32) (al : Nat → Nat → Int64) (w0 w1 w2 w3 : Nat) (x1 : Int32) (x2 : Int32) (y3 : Int64) (h_f3_unknowns : (1 ≤ f3_unknowns.toInt ∧ f3_unknowns.toInt ≤ 4)) (h_f3_equations : (0 ≤ f3_equations.toInt ∧ f3_equations.toInt ≤ 3)) (h_f2_stale : (0 ≤ f2_stale.toInt ∧ f2_stale.toInt ≤ 1)) (h_f7_size : (0 ≤ f7_size.toInt ∧ f7_size.toInt ≤ 256)) (h_f1_size : (0 ≤ f1_size.toInt ∧ f1_size.toInt ≤ 4)) (h_f5_keptSize : (0 ≤ f5_keptSize.toInt ∧ f5_keptSize.toInt ≤ 128)) (h_f5_aheadSize : (0 ≤ f5_aheadSize.toInt ∧ f5_aheadSize.toInt ≤ 128)) (h_f4_blockCount : (0 ≤ f4_blockCount.toInt ∧ f4_blockCount.toInt ≤ 9261)) (h_f4_blockLength : (0 ≤ f4_blockLength.toInt ∧ f4_blockLength.toInt ≤ 21)) (h_f4_lastIsFree : (0 ≤ f4_lastIsFree.toInt ∧ f4_lastIsFree.toInt ≤ 1)) (h_f4_stale : (0 ≤ f4_stale.toInt ∧ f4_stale.toInt ≤ 1)) (hI : IAX ai) (hw_w0 : RWX ad w0) (hw_w1 : RWX ad w1) (hw_w2 : RWX ad w2) (hw_w3 : RWX ad w3) : Met l yX8_cell (.code yX8_cell cX8_cell 5 (some .int) :: TT) ({ frames := 3, cells := 0, slots := 0, locals := 140 } : Room) (PcS dC dI (TY cI cJ cII cJJ) [.ref (ad 0), .int x1, .int x2, .long y3] (WX cI cJ cII cJJ ad f3_unknowns f3_equations f2_roundSupports f2_stale f7_size f1_size f5_keptSize f5_aheadSize f0_solved f4_blockCount f4_blockLength f4_lastIsFree f4_stale ai al w0 w1 w2 w3) sz 0 g) (Q_m055_X8_cell dC dI cI cJ cII cJJ ad f3_unknowns f3_equations f2_roundSupports f2_stale f7_size f1_size f5_keptSize f5_aheadSize f0_solved f4_blockCount f4_blockLength f4_lastIsFree f4_stale ai al w0 w1 w2 w3 x1 x2 y3 (va_A (WX cI cJ cII cJJ ad f3_unknowns f3_equations f2_roundSupports f2_stale f7_size f1_size f5_keptSize f5_aheadSize f0_solved f4_blockCount f4_blockLength f4_lastIsFree f4_stale ai al w0 w1 w2 w3) sz)) 0 0 (va_A (WX cI cJ cII cJJ ad f3_unknowns f3_equations f2_roundSupports f2_stale f7_size f1_size f5_keptSize f5_aheadSize f0_solved f4_blockCount f4_blockLength f4_lastIsFree f4_stale ai al w0 w1 w2 w3) sz) := by
  refine SM.of (y := yX8_cell) (maxL := 5) (av := [.ref (ad 0), .int x1, .int x2, .long y3]) (Q_m055_X8_cell dC dI cI cJ cII cJJ ad f3_unknowns f3_equations f2_roundSupports f2_stale f7_size f1_size f5_keptSize f5_aheadSize f0_solved f4_blockCount f4_blockLength f4_lastIsFree f4_stale ai al w0 w1 w2 w3 x1 x2 y3) (by decide +kernel) (Nat.le_of_ble_eq_true rfl) (fun p e s m below meth c A ls hx hb hr hml hown hts hk hnm hA hK hP hD hS hX hl => ?_)
  have C : Cx p c s m meth (([.ref (ad 0), .int x1, .int x2, .long y3] : List Value).toArray) A dC dI (TY cI cJ cII cJJ) cX8_cell (some .int) 5 RX8 0 g := ⟨hx, hb, hr, hml, hown, hts, hk, hA, hK, hX⟩
  have hown : s.vm.findClass RX8 = some m.cls := hown
  have hl : lv_has ls 5 [(0, .ref (ad 0)), (1, .int x1), (2, .int x2), (3, .long y3)] := hl
  obtain ⟨H, hH⟩ : ∃ q, q = s.heap := ⟨_, rfl⟩
  rw [← hH] at hP
  have hS : va_S A s.heap H [] := by rw [hH]; exact hS
  rw [← hH]
  have hF := FR_refl [63] ai
  have hG := FL_refl [54, 55, 56, 57] al
  have ra_x1 := s_any x1
  have ra_x2 := s_any x2
  refine lv_aload_n hx hb dX8_cell_0 rfl (lv_at hl 0 rfl) ?_
  refine gf (k := 3) hx hb hts inX8 hown hK hP k_267 rfl (by decide) rfl 0 rfl (.ref (ad 52)) rfl dX8_cell_1 ?_
  refine lv_iload_n hx hb dX8_cell_4 rfl (lv_at hl 1 rfl) ?_
  have hM := m024_X6_isTray l dC dI cI cJ cII cJJ H.size 0 ad f3_unknowns f3_equations f2_roundSupports f2_stale f7_size f1_size f5_keptSize f5_aheadSize f0_solved f4_blockCount f4_blockLength f4_lastIsFree f4_stale ai al w0 w1 w2 w3 x1 (by omega) (by omega) (by omega) (by omega) (by omega) (by omega) (by omega) (by omega) (by omega) (by omega) (by omega) hI hw_w0 hw_w1 hw_w2 hw_w3
  refine k2V_i (q0 := 52) ⟨hx, hb, hml, hown, hts⟩ hK hP hD hS hA hX cv_RX8_112 hM ⟨by decide +kernel, by decide +kernel⟩ rfl rfl (Or.inl rfl) (rest := []) rfl rfl rfl hl.1 rfl (Nat.le_of_ble_eq_true rfl) dX8_cell_5 ⟨Nat.le_of_ble_eq_true rfl, Nat.le_of_ble_eq_true rfl⟩ (fun r1 t H1 locs_1 ht hB hS_1 hFc => ?_)
  obtain ⟨⟨gpr1_0, gpr1_1⟩, hP_2, -, hD_2⟩ := hB
  rw [ht] at hP_2
  have hD_3 := hD_2.weaken (B := A) (fun k q _ h9 => hFc q.1 h9)
  clear ht
  generalize H1 = H_4 at hP_2 hS_1 ⊢
  refine lv_if_ne (tgt := 17) hx hb dX8_cell_8 (by decide) (fun c2 => ?_) (fun c2 => ?_)
  · have c2 := j_ne (a := r1.toInt) (b := 0) rfl (by decide +kernel) c2
    refine lv_aload_n hx hb dX8_cell_17 rfl (lv_at hl 0 rfl) ?_
    refine gf (k := 3) hx hb hts inX8 hown hK hP_2 k_267 rfl (by decide) rfl 0 rfl (.ref (ad 52)) rfl dX8_cell_18 ?_
    refine lv_iload_n hx hb dX8_cell_21 rfl (lv_at hl 1 rfl) ?_
    have hM := m025_X6_isMissing l dC dI cI cJ cII cJJ H_4.size 0 ad f3_unknowns f3_equations f2_roundSupports f2_stale f7_size f1_size f5_keptSize f5_aheadSize f0_solved f4_blockCount f4_blockLength f4_lastIsFree f4_stale ai al w0 w1 w2 w3 x1 (by omega) (by omega) (by omega) (by omega) (by omega) (by omega) (by omega) (by omega) (by omega) (by omega) (by omega) (by omega) hI hw_w0 hw_w1 hw_w2 hw_w3
    refine k2V_i (q0 := 52) ⟨hx, hb, hml, hown, hts⟩ hK hP_2 hD_3 hS_1 hA hX cv_RX8_118 hM ⟨by decide +kernel, by decide +kernel⟩ rfl rfl (Or.inl rfl) (rest := []) rfl rfl rfl hl.1 rfl (Nat.le_of_ble_eq_true rfl) dX8_cell_22 ⟨Nat.le_of_ble_eq_true rfl, Nat.le_of_ble_eq_true rfl⟩ (fun r3 t H1 locs_5 ht hB hS_5 hFc => ?_)
    obtain ⟨⟨gpr3_0, gpr3_1⟩, hP_6, -, hD_6⟩ := hB
    rw [ht] at hP_6
    have hD_7 := hD_6.weaken (B := A) (fun k q _ h9 => hFc q.1 h9)
    clear ht
    generalize H1 = H_8 at hP_6 hS_5 ⊢
    refine lv_if_eq (tgt := 35) hx hb dX8_cell_25 (by decide) (fun c4 => ?_) (fun c4 => ?_)
    · have c4 := j_eq (a := r3.toInt) (b := 0) rfl (by decide +kernel) c4
      refine lv_iload_n hx hb dX8_cell_35 rfl (lv_at hl 2 rfl) ?_
      refine lv_if_lt (tgt := 52) hx hb dX8_cell_36 (by decide) (fun c5 => ?_) (fun c5 => ?_)
      · have c5 := j_lt (a := x2.toInt) (b := 0) rfl (by decide +kernel) c5
        exact m055_X8_cell_b52 C  ai al _ _ _ (by omega) (by omega) (by omega) (by omega) (by omega) (by omega) (by omega) (by omega) (by omega) (by omega) (by omega) (by omega) (by omega) (by omega) (by omega) hI hF hG hw_w0 hw_w1 hw_w2 hw_w3 hP_6 hD_7 hS_5 (lv_sub hl [0, 1, 2, 3] rfl)
      · have c5 := j_nlt (a := x2.toInt) (b := 0) rfl (by decide +kernel) c5
        refine lv_iload_n hx hb dX8_cell_39 rfl (lv_at hl 2 rfl) ?_
        refine lv_aload_n hx hb dX8_cell_40 rfl (lv_at hl 0 rfl) ?_
        refine gf (k := 3) hx hb hts inX8 hown hK hP_6 k_267 rfl (by decide) rfl 0 rfl (.ref (ad 52)) rfl dX8_cell_41 ?_
        refine gf (k := 2) hx hb hts inX6 hown hK hP_6 k_256 rfl (by decide) rfl 52 rfl (.ref (ad 59)) rfl dX8_cell_44 ?_
        refine lv_iload_n hx hb dX8_cell_47 rfl (lv_at hl 1 rfl) ?_
        refine va_iald hx hb hK hP_6 59 0 rfl rfl (j_in (a := x1.toInt) rfl (by omega) (by omega)) dX8_cell_48 ?_
        refine lv_topi (fun z6 e_z6 => ?_)
        have g_z6 : -1 ≤ z6.toInt ∧ z6.toInt ≤ 20 := by rw [e_z6]; exact IAX_at59 hI _
        have k_z6 : z6.toInt = (ai 59 x1.toInt.toNat).toInt := by rw [e_z6]; rfl
        refine lv_icmp_lt (tgt := 59) hx hb dX8_cell_49 (by decide) (fun c7 => ?_) (fun c7 => ?_)
        · have c7 := j_lt (a := x2.toInt) (b := z6.toInt) rfl rfl c7
          refine lv_aload_n hx hb dX8_cell_59 rfl (lv_at hl 0 rfl) ?_
          refine gf (k := 3) hx hb hts inX8 hown hK hP_6 k_267 rfl (by decide) rfl 0 rfl (.ref (ad 52)) rfl dX8_cell_60 ?_
          refine lv_iload_n hx hb dX8_cell_63 rfl (lv_at hl 1 rfl) ?_
          refine lv_iload_n hx hb dX8_cell_64 rfl (lv_at hl 2 rfl) ?_
          refine lv_lload_n hx hb dX8_cell_65 rfl (lv_at hl 3 rfl) ?_
          have hM := m032_X6_set l dC dI cI cJ cII cJJ H_8.size 0 ad f3_unknowns f3_equations f2_roundSupports f2_stale f7_size f1_size f5_keptSize f5_aheadSize f0_solved f4_blockCount f4_blockLength f4_lastIsFree f4_stale ai al w0 w1 w2 w3 x1 x2 y3 (by omega) (by omega) (by omega) (by omega) (by omega) (by omega) (by omega) (by omega) (by omega) (by omega) (by omega) (by omega) (by omega) hI hw_w0 hw_w1 hw_w2 hw_w3
          refine k2V_v (q0 := 52) ⟨hx, hb, hml, hown, hts⟩ hK hP_6 hD_7 hS_5 hA hX cv_RX8_124 hM ⟨by decide +kernel, by decide +kernel⟩ rfl rfl (Or.inl rfl) (rest := []) rfl rfl rfl hl.1 rfl (Nat.le_of_ble_eq_true rfl) dX8_cell_66 ⟨Nat.le_of_ble_eq_true rfl, Nat.le_of_ble_eq_true rfl⟩ (fun t H1 locs_9 ht hB hS_9 hFc => ?_)
          obtain ⟨al9, hGr_r8, hP_10, -, hD_10⟩ := hB
          have hG_11 := FL_tr hG hGr_r8 (by decide)
          rw [ht] at hP_10
          have hD_12 := hD_10.weaken (B := A) (fun k q _ h9 => hFc q.1 h9)
          clear ht
          generalize H1 = H_13 at hP_10 hS_9 ⊢
          refine lv_iconst (v := 1) hx hb dX8_cell_69 (by decide) ?_
          exact r2_i hx hb hr hk hS_9 dX8_cell_70 (fun t ht hW => ⟨ai, al9, ⟨(by have kr1 : (1 : Int32).toInt = 1 := (by decide); first | omega | decide | exact Or.inl (by decide) | exact Or.inr (by decide) | exact Or.inr (by omega)), hI, hF, hG_11⟩, by rw [ht]; exact hP_10, va_K.moved hW.alike hK, hD_12⟩)
        · have c7 := j_nlt (a := x2.toInt) (b := z6.toInt) rfl rfl c7
          exact m055_X8_cell_b52 C  ai al _ _ _ (by omega) (by omega) (by omega) (by omega) (by omega) (by omega) (by omega) (by omega) (by omega) (by omega) (by omega) (by omega) (by omega) (by omega) (by omega) hI hF hG hw_w0 hw_w1 hw_w2 hw_w3 hP_6 hD_7 hS_5 (lv_sub hl [0, 1, 2, 3] rfl)
    · have c4 := j_ne (a := r3.toInt) (b := 0) rfl (by decide +kernel) c4
      refine lv_aload_n hx hb dX8_cell_28 rfl (lv_at hl 0 rfl) ?_
      refine lv_bipush (v := (-7)) hx hb dX8_cell_29 (by decide) ?_
      have kcm7 : ((-7) : Int32).toInt = (-7) := by decide +kernel
      have hM := m003_X8_refuse l dC dI cI cJ cII cJJ H_8.size 0 ad f3_unknowns f3_equations f2_roundSupports f2_stale f7_size f1_size f5_keptSize f5_aheadSize f0_solved f4_blockCount f4_blockLength f4_lastIsFree f4_stale ai al w0 w1 w2 w3 (-7) (by omega) (by omega) (by omega) (by omega) (by omega) (by omega) (by omega) (by omega) (by omega) (by omega) (by omega) hI hw_w0 hw_w1 hw_w2 hw_w3
      refine k2V_i (q0 := 0) ⟨hx, hb, hml, hown, hts⟩ hK hP_6 hD_7 hS_5 hA hX cv_RX8_53 hM ⟨by decide +kernel, by decide +kernel⟩ rfl rfl (Or.inl rfl) (rest := []) rfl rfl rfl hl.1 rfl (Nat.le_of_ble_eq_true rfl) dX8_cell_31 ⟨Nat.le_of_ble_eq_true rfl, Nat.le_of_ble_eq_true rfl⟩ (fun r10 t H1 locs_14 ht hB hS_14 hFc => ?_)
      obtain ⟨ai11, ⟨gpr10_0, hI_15, hFr_r10⟩, hP_15, -, hD_15⟩ := hB
      have hF_16 := FR_tr hF hFr_r10 (by decide)
      rw [ht] at hP_15
      have hD_17 := hD_15.weaken (B := A) (fun k q _ h9 => hFc q.1 h9)
      clear ht
      generalize H1 = H_18 at hP_15 hS_14 ⊢
      exact r2_i hx hb hr hk hS_14 dX8_cell_34 (fun t ht hW => ⟨ai11, al, ⟨(by first | omega | decide | exact Or.inl (by decide) | exact Or.inr (by decide) | exact Or.inr (by omega)), hI_15, hF_16, hG⟩, by rw [ht]; exact hP_15, va_K.moved hW.alike hK, hD_17⟩)
  · have c2 := j_eq (a := r1.toInt) (b := 0) rfl (by decide +kernel) c2
    refine lv_aload_n hx hb dX8_cell_11 rfl (lv_at hl 0 rfl) ?_
    refine lv_iconst (v := (-1)) hx hb dX8_cell_12 (by decide) ?_
    have kcm1 : ((-1) : Int32).toInt = (-1) := by decide +kernel
    have hM := m003_X8_refuse l dC dI cI cJ cII cJJ H_4.size 0 ad f3_unknowns f3_equations f2_roundSupports f2_stale f7_size f1_size f5_keptSize f5_aheadSize f0_solved f4_blockCount f4_blockLength f4_lastIsFree f4_stale ai al w0 w1 w2 w3 (-1) (by omega) (by omega) (by omega) (by omega) (by omega) (by omega) (by omega) (by omega) (by omega) (by omega) (by omega) hI hw_w0 hw_w1 hw_w2 hw_w3
    refine k2V_i (q0 := 0) ⟨hx, hb, hml, hown, hts⟩ hK hP_2 hD_3 hS_1 hA hX cv_RX8_53 hM ⟨by decide +kernel, by decide +kernel⟩ rfl rfl (Or.inl rfl) (rest := []) rfl rfl rfl hl.1 rfl (Nat.le_of_ble_eq_true rfl) dX8_cell_13 ⟨Nat.le_of_ble_eq_true rfl, Nat.le_of_ble_eq_true rfl⟩ (fun r12 t H1 locs_19 ht hB hS_19 hFc => ?_)
    obtain ⟨ai13, ⟨gpr12_0, hI_20, hFr_r12⟩, hP_20, -, hD_20⟩ := hB
    have hF_21 := FR_tr hF hFr_r12 (by decide)
    rw [ht] at hP_20
    have hD_22 := hD_20.weaken (B := A) (fun k q _ h9 => hFc q.1 h9)
    clear ht
    generalize H1 = H_23 at hP_20 hS_19 ⊢
    exact r2_i hx hb hr hk hS_19 dX8_cell_16 (fun t ht hW => ⟨ai13, al, ⟨(by first | omega | decide | exact Or.inl (by decide) | exact Or.inr (by decide) | exact Or.inr (by omega)), hI_20, hF_21, hG⟩, by rw [ht]; exact hP_20, va_K.moved hW.alike hK, hD_22⟩)
def Q_m056_X8_lay (dC : Nat → ClassId) (dI : Nat → Nat → Nat) (cI cJ cII cJJ : ClassId) (ad : Nat → Nat) (f3_unknowns f3_equations f2_roundSupports f7_size f1_size f5_keptSize f5_aheadSize f0_solved f4_blockCount f4_blockLength f4_lastIsFree : Int32) (ai0 : Nat → Nat → Int32) (al : Nat → Nat → Int64) (w0 w1 w2 w3 : Nat) (x1 : Int32) (x2 : Int32) (x3 : Int32) : (Nat → Prop) → Array Value → State → Outcome → State → Prop := fun A => QI (fun r t => ∃ (n_f2_stale n_f4_stale : Int32), ∃ (n_ai : Nat → Nat → Int32), ((0 ≤ n_f2_stale.toInt ∧ n_f2_stale.toInt ≤ 1) ∧ (0 ≤ n_f4_stale.toInt ∧ n_f4_stale.toInt ≤ 1) ∧ IAX n_ai ∧ FR [2, 3, 4, 63] ai0 n_ai) ∧ WO dC dI (TY cI cJ cII cJJ) (WX cI cJ cII cJJ ad f3_unknowns f3_equations f2_roundSupports n_f2_stale f7_size f1_size f5_keptSize f5_aheadSize f0_solved f4_blockCount f4_blockLength f4_lastIsFree n_f4_stale n_ai al w0 w1 w2 w3) A t) A
set_option maxRecDepth 100000 in
set_option maxHeartbeats 4000000 in
theorem m056_X8_lay_b167 {p : Program} {l : Launch} {e : Env} {s : State} {m : MethodId} {args : Array Value} {below : List Frame} {meth : Method} {c : Code} {A : Nat → Prop} {dC : Nat → ClassId} {dI : Nat → Nat → Nat} {cI cJ cII cJJ : ClassId} {ad : Nat → Nat} {g : Nat} {f3_unknowns f3_equations f2_roundSupports f7_size f1_size f5_keptSize f5_aheadSize f0_solved f4_blockCount f4_blockLength f4_lastIsFree : Int32} {ai0 : Nat → Nat → Int32} {al : Nat → Nat → Int64} {w0 w1 w2 w3 : Nat} {x1 : Int32} {x2 : Int32} {x3 : Int32} (C : Cx p c s m meth args A dC dI (TY cI cJ cII cJJ) cX8_lay (some .int) 5 RX8 0 g) : ∀ (n : Nat), ∀ (L4 f2_stale f4_stale : Int32) (ai : Nat → Nat → Int32) (H : Heap) (locs : List Loc) (ls : Array Slot), (0 ≤ L4.toInt ∧ L4.toInt ≤ 4) → (1 ≤ f3_unknowns.toInt ∧ f3_unknowns.toInt ≤ 4) → (0 ≤ f3_equations.toInt ∧ f3_equations.toInt ≤ 3) → (0 ≤ f2_stale.toInt ∧ f2_stale.toInt ≤ 1) → (0 ≤ f7_size.toInt ∧ f7_size.toInt ≤ 256) → (0 ≤ f1_size.toInt ∧ f1_size.toInt ≤ 4) → (0 ≤ f5_keptSize.toInt ∧ f5_keptSize.toInt ≤ 128) → (0 ≤ f5_aheadSize.toInt ∧ f5_aheadSize.toInt ≤ 128) → (0 ≤ f4_blockCount.toInt ∧ f4_blockCount.toInt ≤ 9261) → (0 ≤ f4_blockLength.toInt ∧ f4_blockLength.toInt ≤ 21) → (0 ≤ f4_lastIsFree.toInt ∧ f4_lastIsFree.toInt ≤ 1) → (0 ≤ f4_stale.toInt ∧ f4_stale.toInt ≤ 1) → (0 ≤ x1.toInt ∧ x1.toInt ≤ 2) → (0 ≤ x2.toInt ∧ x2.toInt ≤ 3) → (0 ≤ x3.toInt ∧ x3.toInt ≤ 20) → (∀ u : Nat, (u : Int) < f3_unknowns.toInt → -6 ≤ gvI ai al x2.toInt.toNat (x3.toInt + u)) → (∀ u : Nat, (u : Int) < f3_unknowns.toInt → gvI ai al x2.toInt.toNat (x3.toInt + u) ≤ 6) → f3_unknowns.toInt - L4.toInt < (n : Int) → (0 : Int) < (n : Int) → IAX ai → FR [2, 3, 4, 63] ai0 ai → RWX ad w0 → RWX ad w1 → RWX ad w2 → RWX ad w3 → va_P (dC, dI) vwCl (WX cI cJ cII cJJ ad f3_unknowns f3_equations f2_roundSupports f2_stale f7_size f1_size f5_keptSize f5_aheadSize f0_solved f4_blockCount f4_blockLength f4_lastIsFree f4_stale ai al w0 w1 w2 w3) H → va_D A (WX cI cJ cII cJJ ad f3_unknowns f3_equations f2_roundSupports f2_stale f7_size f1_size f5_keptSize f5_aheadSize f0_solved f4_blockCount f4_blockLength f4_lastIsFree f4_stale ai al w0 w1 w2 w3) → va_S A s.heap H locs → lv_has ls 5 [(0, .ref (ad 0)), (1, .int x1), (2, .int x2), (3, .int x3), (4, .int L4)] → W p l e ({ frames := 4, cells := 0, slots := 0, locals := 200 } : Room) s m args below meth c H locs 0 0 (MQ below (Q_m056_X8_lay dC dI cI cJ cII cJJ ad f3_unknowns f3_equations f2_roundSupports f7_size f1_size f5_keptSize f5_aheadSize f0_solved f4_blockCount f4_blockLength f4_lastIsFree ai0 al w0 w1 w2 w3 x1 x2 x3 A) args s 0 0 A) (F0 m 167 ls []) := by
  obtain ⟨hx, hb, hr, hml, hown, hts, hk, hA, hK, hX⟩ := id C
  intro n
  induction n with
  | zero =>
    intro L4 f2_stale f4_stale ai H locs ls h0 h1 h2 h3 h4 h5 h6 h7 h8 h9 h10 h11 h12 h13 h14 h15 h16 h17 h18 hI hF hw_w0 hw_w1 hw_w2 hw_w3 hP hD hS hl
    exact absurd h18 (by omega)
  | succ n ih =>
    intro L4 f2_stale f4_stale ai H locs ls h0 h1 h2 h3 h4 h5 h6 h7 h8 h9 h10 h11 h12 h13 h14 h15 h16 h17 h18 hI hF hw_w0 hw_w1 hw_w2 hw_w3 hP hD hS hl
    refine lv_iload hx hb dX8_lay_167 (lv_at hl 4 rfl) ?_
    refine lv_aload_n hx hb dX8_lay_169 rfl (lv_at hl 0 rfl) ?_
    refine gf (k := 0) hx hb hts inX8 hown hK hP k_264 rfl (by decide) rfl 0 rfl (.ref (ad 6)) rfl dX8_lay_170 ?_
    refine gf (k := 0) hx hb hts inX3 hown hK hP k_42 rfl (by decide) rfl 6 rfl (.int f3_unknowns) rfl dX8_lay_173 ?_
    refine lv_icmp_ge (tgt := 205) hx hb dX8_lay_176 (by decide) (fun c1 => ?_) (fun c1 => ?_)
    · have c1 := j_le (a := f3_unknowns.toInt) (b := L4.toInt) rfl rfl c1
      refine lv_iconst (v := 1) hx hb dX8_lay_205 (by decide) ?_
      exact r2_i hx hb hr hk hS dX8_lay_206 (fun t ht hW => ⟨f2_stale, f4_stale, ai, ⟨(by first | omega | decide | exact Or.inl (by decide) | exact Or.inr (by decide) | exact Or.inr (by omega)), (by first | omega | decide | exact Or.inl (by decide) | exact Or.inr (by decide) | exact Or.inr (by omega)), hI, hF⟩, by rw [ht]; exact hP, va_K.moved hW.alike hK, hD⟩)
    · have c1 := j_nle (a := f3_unknowns.toInt) (b := L4.toInt) rfl rfl c1
      refine lv_aload_n hx hb dX8_lay_179 rfl (lv_at hl 0 rfl) ?_
      refine lv_iload_n hx hb dX8_lay_180 rfl (lv_at hl 1 rfl) ?_
      refine lv_iload hx hb dX8_lay_181 (lv_at hl 4 rfl) ?_
      refine lv_aload_n hx hb dX8_lay_183 rfl (lv_at hl 0 rfl) ?_
      refine gf (k := 3) hx hb hts inX8 hown hK hP k_267 rfl (by decide) rfl 0 rfl (.ref (ad 52)) rfl dX8_lay_184 ?_
      refine lv_iload_n hx hb dX8_lay_187 rfl (lv_at hl 2 rfl) ?_
      refine lv_iload_n hx hb dX8_lay_188 rfl (lv_at hl 3 rfl) ?_
      refine lv_iload hx hb dX8_lay_189 (lv_at hl 4 rfl) ?_
      refine v_iadd hx hb dX8_lay_191 _ rfl ?_
      refine lv_topi (fun z2 e_z2 => ?_)
      have g_z2 : z2.toInt = x3.toInt + L4.toInt := by rw [e_z2]; exact n_add (a := x3.toInt) (b := L4.toInt) rfl rfl (by omega) (by omega)
      have hM := m026_X6_get l dC dI cI cJ cII cJJ H.size 0 ad f3_unknowns f3_equations f2_roundSupports f2_stale f7_size f1_size f5_keptSize f5_aheadSize f0_solved f4_blockCount f4_blockLength f4_lastIsFree f4_stale ai al w0 w1 w2 w3 x2 z2 (by omega) (by omega) (by omega) (by omega) (by omega) (by omega) (by omega) (by omega) (by omega) (by omega) (by omega) (by omega) hI hw_w0 hw_w1 hw_w2 hw_w3
      refine k2V_l (q0 := 52) ⟨hx, hb, hml, hown, hts⟩ hK hP hD hS hA hX cv_RX8_144 hM ⟨by decide +kernel, by decide +kernel⟩ rfl rfl (Or.inl rfl) (rest := [.int L4, .int x1, .ref (ad 0)]) rfl rfl rfl hl.1 rfl (Nat.le_of_ble_eq_true rfl) dX8_lay_192 ⟨Nat.le_of_ble_eq_true rfl, Nat.le_of_ble_eq_true rfl⟩ (fun r3 t H1 locs_1 ht hB hS_1 hFc => ?_)
      obtain ⟨gpr3_0, hP_2, -, hD_2⟩ := hB
      rw [ht] at hP_2
      have hD_3 := hD_2.weaken (B := A) (fun k q _ h9 => hFc q.1 h9)
      clear ht
      generalize H1 = H_4 at hP_2 hS_1 ⊢
      have q_a := h15 L4.toInt.toNat (by omega)
      have q_b := h16 L4.toInt.toNat (by omega)
      have q_g := gpr3_0
      rw [show z2.toInt = x3.toInt + (L4.toInt.toNat : Int) by omega] at q_g
      have q_r : -6 ≤ r3.toInt ∧ r3.toInt ≤ 6 := by omega
      refine lv_l2i hx hb dX8_lay_195 rfl ?_
      refine lv_topi (fun z4 e_z4 => ?_)
      have g_z4 : z4.toInt = r3.toInt := by rw [e_z4]; exact ln_l2i (a := r3.toInt) rfl (by omega) (by omega)
      have hM := m020_X8_setCoefficient l dC dI cI cJ cII cJJ H_4.size 0 ad f3_unknowns f3_equations f2_roundSupports f2_stale f7_size f1_size f5_keptSize f5_aheadSize f0_solved f4_blockCount f4_blockLength f4_lastIsFree f4_stale ai al w0 w1 w2 w3 x1 L4 z4 (by omega) (by omega) (by omega) (by omega) (by omega) (by omega) (by omega) (by omega) (by omega) (by omega) (by omega) (by omega) (by omega) (by omega) hI hw_w0 hw_w1 hw_w2 hw_w3
      refine k2V_v (q0 := 0) ⟨hx, hb, hml, hown, hts⟩ hK hP_2 hD_3 hS_1 hA hX cv_RX8_89 hM ⟨by decide +kernel, by decide +kernel⟩ rfl rfl (Or.inl rfl) (rest := []) rfl rfl rfl hl.1 rfl (Nat.le_of_ble_eq_true rfl) dX8_lay_196 ⟨Nat.le_of_ble_eq_true rfl, Nat.le_of_ble_eq_true rfl⟩ (fun t H1 locs_5 ht hB hS_5 hFc => ?_)
      obtain ⟨v6, v7, ai8, ⟨gpr5_0, gpr5_1, hI_6, hFr_r5⟩, hP_6, -, hD_6⟩ := hB
      have hF_7 := FR_tr hF hFr_r5 (by decide)
      rw [ht] at hP_6
      have hD_8 := hD_6.weaken (B := A) (fun k q _ h9 => hFc q.1 h9)
      clear ht
      generalize H1 = H_9 at hP_6 hS_5 ⊢
      obtain ⟨z9, e_z9⟩ : ∃ q : Int32, q = L4 + Int32.ofInt 1 := ⟨_, rfl⟩
      have g_z9 : z9.toInt = L4.toInt + 1 := by rw [e_z9]; exact n_add (a := L4.toInt) (b := 1) rfl (by decide +kernel) (by omega) (by omega)
      refine lv_iinc (v := z9) (lv' := [(4, .int z9), (0, .ref (ad 0)), (1, .int x1), (2, .int x2), (3, .int x3)]) hx hb dX8_lay_199 hl (k := 4) rfl e_z9.symm (by decide) rfl (fun ls_10 hl_10 => ?_)
      refine lv_goto (tgt := 167) hx hb dX8_lay_202 (by decide) ?_
      exact ih z9 v6 v7 ai8 _ _ _ (by omega) (by omega) (by omega) (by omega) (by omega) (by omega) (by omega) (by omega) (by omega) (by omega) (by omega) (by omega) (by omega) (by omega) (by omega) (fun u hu => by rw [gv_fr hFr_r5 (by decide)]; exact h15 u hu) (fun u hu => by rw [gv_fr hFr_r5 (by decide)]; exact h16 u hu) (by omega) (by omega) hI_6 hF_7 hw_w0 hw_w1 hw_w2 hw_w3 hP_6 hD_8 hS_5 (lv_sub hl_10 [1, 2, 3, 4, 0] rfl)
set_option maxRecDepth 100000 in
set_option maxHeartbeats 4000000 in
theorem m056_X8_lay_b120 {p : Program} {l : Launch} {e : Env} {s : State} {m : MethodId} {args : Array Value} {below : List Frame} {meth : Method} {c : Code} {A : Nat → Prop} {dC : Nat → ClassId} {dI : Nat → Nat → Nat} {cI cJ cII cJJ : ClassId} {ad : Nat → Nat} {g : Nat} {f3_unknowns f3_equations f2_roundSupports f7_size f1_size f5_keptSize f5_aheadSize f0_solved f4_blockCount f4_blockLength f4_lastIsFree : Int32} {ai0 : Nat → Nat → Int32} {al : Nat → Nat → Int64} {w0 w1 w2 w3 : Nat} {x1 : Int32} {x2 : Int32} {x3 : Int32} (C : Cx p c s m meth args A dC dI (TY cI cJ cII cJJ) cX8_lay (some .int) 5 RX8 0 g) : ∀ (n : Nat), ∀ (L4 f2_stale f4_stale : Int32) (ai : Nat → Nat → Int32) (H : Heap) (locs : List Loc) (ls : Array Slot), (0 ≤ L4.toInt ∧ L4.toInt ≤ 4) → (1 ≤ f3_unknowns.toInt ∧ f3_unknowns.toInt ≤ 4) → (0 ≤ f3_equations.toInt ∧ f3_equations.toInt ≤ 3) → (0 ≤ f2_stale.toInt ∧ f2_stale.toInt ≤ 1) → (0 ≤ f7_size.toInt ∧ f7_size.toInt ≤ 256) → (0 ≤ f1_size.toInt ∧ f1_size.toInt ≤ 4) → (0 ≤ f5_keptSize.toInt ∧ f5_keptSize.toInt ≤ 128) → (0 ≤ f5_aheadSize.toInt ∧ f5_aheadSize.toInt ≤ 128) → (0 ≤ f4_blockCount.toInt ∧ f4_blockCount.toInt ≤ 9261) → (0 ≤ f4_blockLength.toInt ∧ f4_blockLength.toInt ≤ 21) → (0 ≤ f4_lastIsFree.toInt ∧ f4_lastIsFree.toInt ≤ 1) → (0 ≤ f4_stale.toInt ∧ f4_stale.toInt ≤ 1) → (0 ≤ x1.toInt ∧ x1.toInt ≤ 2) → (0 ≤ x2.toInt ∧ x2.toInt ≤ 3) → (0 ≤ x3.toInt ∧ x3.toInt ≤ 20) → (∀ u : Nat, (u : Int) < f3_unknowns.toInt → -6 ≤ gvI ai al x2.toInt.toNat (x3.toInt + u)) → (∀ u : Nat, (u : Int) < L4.toInt → gvI ai al x2.toInt.toNat (x3.toInt + u) ≤ 6) → f3_unknowns.toInt - L4.toInt < (n : Int) → (0 : Int) < (n : Int) → IAX ai → FR [2, 3, 4, 63] ai0 ai → RWX ad w0 → RWX ad w1 → RWX ad w2 → RWX ad w3 → va_P (dC, dI) vwCl (WX cI cJ cII cJJ ad f3_unknowns f3_equations f2_roundSupports f2_stale f7_size f1_size f5_keptSize f5_aheadSize f0_solved f4_blockCount f4_blockLength f4_lastIsFree f4_stale ai al w0 w1 w2 w3) H → va_D A (WX cI cJ cII cJJ ad f3_unknowns f3_equations f2_roundSupports f2_stale f7_size f1_size f5_keptSize f5_aheadSize f0_solved f4_blockCount f4_blockLength f4_lastIsFree f4_stale ai al w0 w1 w2 w3) → va_S A s.heap H locs → lv_has ls 5 [(0, .ref (ad 0)), (1, .int x1), (2, .int x2), (3, .int x3), (4, .int L4)] → W p l e ({ frames := 4, cells := 0, slots := 0, locals := 200 } : Room) s m args below meth c H locs 0 0 (MQ below (Q_m056_X8_lay dC dI cI cJ cII cJJ ad f3_unknowns f3_equations f2_roundSupports f7_size f1_size f5_keptSize f5_aheadSize f0_solved f4_blockCount f4_blockLength f4_lastIsFree ai0 al w0 w1 w2 w3 x1 x2 x3 A) args s 0 0 A) (F0 m 120 ls []) := by
  obtain ⟨hx, hb, hr, hml, hown, hts, hk, hA, hK, hX⟩ := id C
  intro n
  induction n with
  | zero =>
    intro L4 f2_stale f4_stale ai H locs ls h0 h1 h2 h3 h4 h5 h6 h7 h8 h9 h10 h11 h12 h13 h14 h15 h16 h17 h18 hI hF hw_w0 hw_w1 hw_w2 hw_w3 hP hD hS hl
    exact absurd h18 (by omega)
  | succ n ih =>
    intro L4 f2_stale f4_stale ai H locs ls h0 h1 h2 h3 h4 h5 h6 h7 h8 h9 h10 h11 h12 h13 h14 h15 h16 h17 h18 hI hF hw_w0 hw_w1 hw_w2 hw_w3 hP hD hS hl
    refine lv_iload hx hb dX8_lay_120 (lv_at hl 4 rfl) ?_
    refine lv_aload_n hx hb dX8_lay_122 rfl (lv_at hl 0 rfl) ?_
    refine gf (k := 0) hx hb hts inX8 hown hK hP k_264 rfl (by decide) rfl 0 rfl (.ref (ad 6)) rfl dX8_lay_123 ?_
    refine gf (k := 0) hx hb hts inX3 hown hK hP k_42 rfl (by decide) rfl 6 rfl (.int f3_unknowns) rfl dX8_lay_126 ?_
    refine lv_icmp_ge (tgt := 164) hx hb dX8_lay_129 (by decide) (fun c1 => ?_) (fun c1 => ?_)
    · have c1 := j_le (a := f3_unknowns.toInt) (b := L4.toInt) rfl rfl c1
      refine lv_iconst (v := 0) hx hb dX8_lay_164 (by decide) ?_
      refine lv_istore (lv' := [(4, .int 0), (0, .ref (ad 0)), (1, .int x1), (2, .int x2), (3, .int x3)]) hx hb dX8_lay_165 hl (by decide) rfl (fun ls_1 hl_1 => ?_)
      exact m056_X8_lay_b167 C  _ 0 f2_stale f4_stale ai _ _ _ (by first | omega | decide | (have ka0 := (by decide +kernel : (0 : Int32).toInt = 0); omega)) (by first | omega | decide | (have ka0 := (by decide +kernel : (0 : Int32).toInt = 0); omega)) (by first | omega | decide | (have ka0 := (by decide +kernel : (0 : Int32).toInt = 0); omega)) (by first | omega | decide | (have ka0 := (by decide +kernel : (0 : Int32).toInt = 0); omega)) (by first | omega | decide | (have ka0 := (by decide +kernel : (0 : Int32).toInt = 0); omega)) (by first | omega | decide | (have ka0 := (by decide +kernel : (0 : Int32).toInt = 0); omega)) (by first | omega | decide | (have ka0 := (by decide +kernel : (0 : Int32).toInt = 0); omega)) (by first | omega | decide | (have ka0 := (by decide +kernel : (0 : Int32).toInt = 0); omega)) (by first | omega | decide | (have ka0 := (by decide +kernel : (0 : Int32).toInt = 0); omega)) (by first | omega | decide | (have ka0 := (by decide +kernel : (0 : Int32).toInt = 0); omega)) (by first | omega | decide | (have ka0 := (by decide +kernel : (0 : Int32).toInt = 0); omega)) (by first | omega | decide | (have ka0 := (by decide +kernel : (0 : Int32).toInt = 0); omega)) (by first | omega | decide | (have ka0 := (by decide +kernel : (0 : Int32).toInt = 0); omega)) (by first | omega | decide | (have ka0 := (by decide +kernel : (0 : Int32).toInt = 0); omega)) (by first | omega | decide | (have ka0 := (by decide +kernel : (0 : Int32).toInt = 0); omega)) h15 (fun u hu => h16 u (by omega)) (j_fuel _) (by omega) hI hF hw_w0 hw_w1 hw_w2 hw_w3 hP hD hS (lv_sub hl_1 [1, 2, 3, 4, 0] rfl)
    · have c1 := j_nle (a := f3_unknowns.toInt) (b := L4.toInt) rfl rfl c1
      refine lv_aload_n hx hb dX8_lay_132 rfl (lv_at hl 0 rfl) ?_
      refine gf (k := 3) hx hb hts inX8 hown hK hP k_267 rfl (by decide) rfl 0 rfl (.ref (ad 52)) rfl dX8_lay_133 ?_
      refine lv_iload_n hx hb dX8_lay_136 rfl (lv_at hl 2 rfl) ?_
      refine lv_iload_n hx hb dX8_lay_137 rfl (lv_at hl 3 rfl) ?_
      refine lv_iload hx hb dX8_lay_138 (lv_at hl 4 rfl) ?_
      refine v_iadd hx hb dX8_lay_140 _ rfl ?_
      refine lv_topi (fun z2 e_z2 => ?_)
      have g_z2 : z2.toInt = x3.toInt + L4.toInt := by rw [e_z2]; exact n_add (a := x3.toInt) (b := L4.toInt) rfl rfl (by omega) (by omega)
      have hM := m026_X6_get l dC dI cI cJ cII cJJ H.size 0 ad f3_unknowns f3_equations f2_roundSupports f2_stale f7_size f1_size f5_keptSize f5_aheadSize f0_solved f4_blockCount f4_blockLength f4_lastIsFree f4_stale ai al w0 w1 w2 w3 x2 z2 (by omega) (by omega) (by omega) (by omega) (by omega) (by omega) (by omega) (by omega) (by omega) (by omega) (by omega) (by omega) hI hw_w0 hw_w1 hw_w2 hw_w3
      refine k2V_l (q0 := 52) ⟨hx, hb, hml, hown, hts⟩ hK hP hD hS hA hX cv_RX8_144 hM ⟨by decide +kernel, by decide +kernel⟩ rfl rfl (Or.inl rfl) (rest := []) rfl rfl rfl hl.1 rfl (Nat.le_of_ble_eq_true rfl) dX8_lay_141 ⟨Nat.le_of_ble_eq_true rfl, Nat.le_of_ble_eq_true rfl⟩ (fun r3 t H1 locs_2 ht hB hS_2 hFc => ?_)
      obtain ⟨gpr3_0, hP_3, -, hD_3⟩ := hB
      rw [ht] at hP_3
      have hD_4 := hD_3.weaken (B := A) (fun k q _ h9 => hFc q.1 h9)
      clear ht
      generalize H1 = H_5 at hP_3 hS_2 ⊢
      refine lv_ldc2 (v := 6) hx hb hown (hts _ k_382) dX8_lay_144 ?_
      refine v_lcmp hx hb dX8_lay_147 _ rfl ?_
      refine lv_topi (fun z4 e_z4 => ?_)
      have g_z4 := lc_cases (a := r3.toInt) (b := 6) e_z4 rfl (by decide +kernel)
      refine lv_if_le (tgt := 158) hx hb dX8_lay_148 (by decide) (fun c5 => ?_) (fun c5 => ?_)
      · have c5 := j_le (a := z4.toInt) (b := 0) rfl (by decide +kernel) c5
        obtain ⟨z6, e_z6⟩ : ∃ q : Int32, q = L4 + Int32.ofInt 1 := ⟨_, rfl⟩
        have g_z6 : z6.toInt = L4.toInt + 1 := by rw [e_z6]; exact n_add (a := L4.toInt) (b := 1) rfl (by decide +kernel) (by omega) (by omega)
        refine lv_iinc (v := z6) (lv' := [(4, .int z6), (0, .ref (ad 0)), (1, .int x1), (2, .int x2), (3, .int x3)]) hx hb dX8_lay_158 hl (k := 4) rfl e_z6.symm (by decide) rfl (fun ls_6 hl_6 => ?_)
        refine lv_goto (tgt := 120) hx hb dX8_lay_161 (by decide) ?_
        exact ih z6 f2_stale f4_stale ai _ _ _ (by omega) (by omega) (by omega) (by omega) (by omega) (by omega) (by omega) (by omega) (by omega) (by omega) (by omega) (by omega) (by omega) (by omega) (by omega) h15 (gx_u (P := fun u => gvI ai al x2.toInt.toNat (x3.toInt + u) ≤ 6) (n := L4) (by omega) h16 (by have q := gpr3_0; rw [show z2.toInt = x3.toInt + (L4.toInt.toNat : Int) by omega] at q; show gvI ai al x2.toInt.toNat (x3.toInt + (L4.toInt.toNat : Int)) ≤ 6; omega) (by omega)) (by omega) (by omega) hI hF hw_w0 hw_w1 hw_w2 hw_w3 hP_3 hD_4 hS_2 (lv_sub hl_6 [1, 2, 3, 4, 0] rfl)
      · have c5 := j_nle (a := z4.toInt) (b := 0) rfl (by decide +kernel) c5
        refine lv_aload_n hx hb dX8_lay_151 rfl (lv_at hl 0 rfl) ?_
        refine lv_bipush (v := (-6)) hx hb dX8_lay_152 (by decide) ?_
        have kcm6 : ((-6) : Int32).toInt = (-6) := by decide +kernel
        have hM := m003_X8_refuse l dC dI cI cJ cII cJJ H_5.size 0 ad f3_unknowns f3_equations f2_roundSupports f2_stale f7_size f1_size f5_keptSize f5_aheadSize f0_solved f4_blockCount f4_blockLength f4_lastIsFree f4_stale ai al w0 w1 w2 w3 (-6) (by omega) (by omega) (by omega) (by omega) (by omega) (by omega) (by omega) (by omega) (by omega) (by omega) (by omega) hI hw_w0 hw_w1 hw_w2 hw_w3
        refine k2V_i (q0 := 0) ⟨hx, hb, hml, hown, hts⟩ hK hP_3 hD_4 hS_2 hA hX cv_RX8_53 hM ⟨by decide +kernel, by decide +kernel⟩ rfl rfl (Or.inl rfl) (rest := []) rfl rfl rfl hl.1 rfl (Nat.le_of_ble_eq_true rfl) dX8_lay_154 ⟨Nat.le_of_ble_eq_true rfl, Nat.le_of_ble_eq_true rfl⟩ (fun r7 t H1 locs_7 ht hB hS_7 hFc => ?_)
        obtain ⟨ai8, ⟨gpr7_0, hI_8, hFr_r7⟩, hP_8, -, hD_8⟩ := hB
        have hF_9 := FR_tr hF hFr_r7 (by decide)
        rw [ht] at hP_8
        have hD_10 := hD_8.weaken (B := A) (fun k q _ h9 => hFc q.1 h9)
        clear ht
        generalize H1 = H_11 at hP_8 hS_7 ⊢
        exact r2_i hx hb hr hk hS_7 dX8_lay_157 (fun t ht hW => ⟨f2_stale, f4_stale, ai8, ⟨(by first | omega | decide | exact Or.inl (by decide) | exact Or.inr (by decide) | exact Or.inr (by omega)), (by first | omega | decide | exact Or.inl (by decide) | exact Or.inr (by decide) | exact Or.inr (by omega)), hI_8, hF_9⟩, by rw [ht]; exact hP_8, va_K.moved hW.alike hK, hD_10⟩)
set_option maxRecDepth 100000 in
set_option maxHeartbeats 4000000 in
theorem m056_X8_lay_b73 {p : Program} {l : Launch} {e : Env} {s : State} {m : MethodId} {args : Array Value} {below : List Frame} {meth : Method} {c : Code} {A : Nat → Prop} {dC : Nat → ClassId} {dI : Nat → Nat → Nat} {cI cJ cII cJJ : ClassId} {ad : Nat → Nat} {g : Nat} {f3_unknowns f3_equations f2_roundSupports f7_size f1_size f5_keptSize f5_aheadSize f0_solved f4_blockCount f4_blockLength f4_lastIsFree : Int32} {ai0 : Nat → Nat → Int32} {al : Nat → Nat → Int64} {w0 w1 w2 w3 : Nat} {x1 : Int32} {x2 : Int32} {x3 : Int32} (C : Cx p c s m meth args A dC dI (TY cI cJ cII cJJ) cX8_lay (some .int) 5 RX8 0 g) : ∀ (n : Nat), ∀ (L4 f2_stale f4_stale : Int32) (ai : Nat → Nat → Int32) (H : Heap) (locs : List Loc) (ls : Array Slot), (0 ≤ L4.toInt ∧ L4.toInt ≤ 4) → (1 ≤ f3_unknowns.toInt ∧ f3_unknowns.toInt ≤ 4) → (0 ≤ f3_equations.toInt ∧ f3_equations.toInt ≤ 3) → (0 ≤ f2_stale.toInt ∧ f2_stale.toInt ≤ 1) → (0 ≤ f7_size.toInt ∧ f7_size.toInt ≤ 256) → (0 ≤ f1_size.toInt ∧ f1_size.toInt ≤ 4) → (0 ≤ f5_keptSize.toInt ∧ f5_keptSize.toInt ≤ 128) → (0 ≤ f5_aheadSize.toInt ∧ f5_aheadSize.toInt ≤ 128) → (0 ≤ f4_blockCount.toInt ∧ f4_blockCount.toInt ≤ 9261) → (0 ≤ f4_blockLength.toInt ∧ f4_blockLength.toInt ≤ 21) → (0 ≤ f4_lastIsFree.toInt ∧ f4_lastIsFree.toInt ≤ 1) → (0 ≤ f4_stale.toInt ∧ f4_stale.toInt ≤ 1) → (0 ≤ x1.toInt ∧ x1.toInt ≤ 2) → (0 ≤ x2.toInt ∧ x2.toInt ≤ 3) → (0 ≤ x3.toInt ∧ x3.toInt ≤ 20) → (∀ u : Nat, (u : Int) < L4.toInt → -6 ≤ gvI ai al x2.toInt.toNat (x3.toInt + u)) → f3_unknowns.toInt - L4.toInt < (n : Int) → (0 : Int) < (n : Int) → IAX ai → FR [2, 3, 4, 63] ai0 ai → RWX ad w0 → RWX ad w1 → RWX ad w2 → RWX ad w3 → va_P (dC, dI) vwCl (WX cI cJ cII cJJ ad f3_unknowns f3_equations f2_roundSupports f2_stale f7_size f1_size f5_keptSize f5_aheadSize f0_solved f4_blockCount f4_blockLength f4_lastIsFree f4_stale ai al w0 w1 w2 w3) H → va_D A (WX cI cJ cII cJJ ad f3_unknowns f3_equations f2_roundSupports f2_stale f7_size f1_size f5_keptSize f5_aheadSize f0_solved f4_blockCount f4_blockLength f4_lastIsFree f4_stale ai al w0 w1 w2 w3) → va_S A s.heap H locs → lv_has ls 5 [(0, .ref (ad 0)), (1, .int x1), (2, .int x2), (3, .int x3), (4, .int L4)] → W p l e ({ frames := 4, cells := 0, slots := 0, locals := 200 } : Room) s m args below meth c H locs 0 0 (MQ below (Q_m056_X8_lay dC dI cI cJ cII cJJ ad f3_unknowns f3_equations f2_roundSupports f7_size f1_size f5_keptSize f5_aheadSize f0_solved f4_blockCount f4_blockLength f4_lastIsFree ai0 al w0 w1 w2 w3 x1 x2 x3 A) args s 0 0 A) (F0 m 73 ls []) := by
  obtain ⟨hx, hb, hr, hml, hown, hts, hk, hA, hK, hX⟩ := id C
  intro n
  induction n with
  | zero =>
    intro L4 f2_stale f4_stale ai H locs ls h0 h1 h2 h3 h4 h5 h6 h7 h8 h9 h10 h11 h12 h13 h14 h15 h16 h17 hI hF hw_w0 hw_w1 hw_w2 hw_w3 hP hD hS hl
    exact absurd h17 (by omega)
  | succ n ih =>
    intro L4 f2_stale f4_stale ai H locs ls h0 h1 h2 h3 h4 h5 h6 h7 h8 h9 h10 h11 h12 h13 h14 h15 h16 h17 hI hF hw_w0 hw_w1 hw_w2 hw_w3 hP hD hS hl
    refine lv_iload hx hb dX8_lay_73 (lv_at hl 4 rfl) ?_
    refine lv_aload_n hx hb dX8_lay_75 rfl (lv_at hl 0 rfl) ?_
    refine gf (k := 0) hx hb hts inX8 hown hK hP k_264 rfl (by decide) rfl 0 rfl (.ref (ad 6)) rfl dX8_lay_76 ?_
    refine gf (k := 0) hx hb hts inX3 hown hK hP k_42 rfl (by decide) rfl 6 rfl (.int f3_unknowns) rfl dX8_lay_79 ?_
    refine lv_icmp_ge (tgt := 117) hx hb dX8_lay_82 (by decide) (fun c1 => ?_) (fun c1 => ?_)
    · have c1 := j_le (a := f3_unknowns.toInt) (b := L4.toInt) rfl rfl c1
      refine lv_iconst (v := 0) hx hb dX8_lay_117 (by decide) ?_
      refine lv_istore (lv' := [(4, .int 0), (0, .ref (ad 0)), (1, .int x1), (2, .int x2), (3, .int x3)]) hx hb dX8_lay_118 hl (by decide) rfl (fun ls_1 hl_1 => ?_)
      exact m056_X8_lay_b120 C  _ 0 f2_stale f4_stale ai _ _ _ (by first | omega | decide | (have ka0 := (by decide +kernel : (0 : Int32).toInt = 0); omega)) (by first | omega | decide | (have ka0 := (by decide +kernel : (0 : Int32).toInt = 0); omega)) (by first | omega | decide | (have ka0 := (by decide +kernel : (0 : Int32).toInt = 0); omega)) (by first | omega | decide | (have ka0 := (by decide +kernel : (0 : Int32).toInt = 0); omega)) (by first | omega | decide | (have ka0 := (by decide +kernel : (0 : Int32).toInt = 0); omega)) (by first | omega | decide | (have ka0 := (by decide +kernel : (0 : Int32).toInt = 0); omega)) (by first | omega | decide | (have ka0 := (by decide +kernel : (0 : Int32).toInt = 0); omega)) (by first | omega | decide | (have ka0 := (by decide +kernel : (0 : Int32).toInt = 0); omega)) (by first | omega | decide | (have ka0 := (by decide +kernel : (0 : Int32).toInt = 0); omega)) (by first | omega | decide | (have ka0 := (by decide +kernel : (0 : Int32).toInt = 0); omega)) (by first | omega | decide | (have ka0 := (by decide +kernel : (0 : Int32).toInt = 0); omega)) (by first | omega | decide | (have ka0 := (by decide +kernel : (0 : Int32).toInt = 0); omega)) (by first | omega | decide | (have ka0 := (by decide +kernel : (0 : Int32).toInt = 0); omega)) (by first | omega | decide | (have ka0 := (by decide +kernel : (0 : Int32).toInt = 0); omega)) (by first | omega | decide | (have ka0 := (by decide +kernel : (0 : Int32).toInt = 0); omega)) (fun u hu => h15 u (by omega)) (fun u hu => (gzlt hu).elim) (j_fuel _) (by omega) hI hF hw_w0 hw_w1 hw_w2 hw_w3 hP hD hS (lv_sub hl_1 [1, 2, 3, 4, 0] rfl)
    · have c1 := j_nle (a := f3_unknowns.toInt) (b := L4.toInt) rfl rfl c1
      refine lv_aload_n hx hb dX8_lay_85 rfl (lv_at hl 0 rfl) ?_
      refine gf (k := 3) hx hb hts inX8 hown hK hP k_267 rfl (by decide) rfl 0 rfl (.ref (ad 52)) rfl dX8_lay_86 ?_
      refine lv_iload_n hx hb dX8_lay_89 rfl (lv_at hl 2 rfl) ?_
      refine lv_iload_n hx hb dX8_lay_90 rfl (lv_at hl 3 rfl) ?_
      refine lv_iload hx hb dX8_lay_91 (lv_at hl 4 rfl) ?_
      refine v_iadd hx hb dX8_lay_93 _ rfl ?_
      refine lv_topi (fun z2 e_z2 => ?_)
      have g_z2 : z2.toInt = x3.toInt + L4.toInt := by rw [e_z2]; exact n_add (a := x3.toInt) (b := L4.toInt) rfl rfl (by omega) (by omega)
      have hM := m026_X6_get l dC dI cI cJ cII cJJ H.size 0 ad f3_unknowns f3_equations f2_roundSupports f2_stale f7_size f1_size f5_keptSize f5_aheadSize f0_solved f4_blockCount f4_blockLength f4_lastIsFree f4_stale ai al w0 w1 w2 w3 x2 z2 (by omega) (by omega) (by omega) (by omega) (by omega) (by omega) (by omega) (by omega) (by omega) (by omega) (by omega) (by omega) hI hw_w0 hw_w1 hw_w2 hw_w3
      refine k2V_l (q0 := 52) ⟨hx, hb, hml, hown, hts⟩ hK hP hD hS hA hX cv_RX8_144 hM ⟨by decide +kernel, by decide +kernel⟩ rfl rfl (Or.inl rfl) (rest := []) rfl rfl rfl hl.1 rfl (Nat.le_of_ble_eq_true rfl) dX8_lay_94 ⟨Nat.le_of_ble_eq_true rfl, Nat.le_of_ble_eq_true rfl⟩ (fun r3 t H1 locs_2 ht hB hS_2 hFc => ?_)
      obtain ⟨gpr3_0, hP_3, -, hD_3⟩ := hB
      rw [ht] at hP_3
      have hD_4 := hD_3.weaken (B := A) (fun k q _ h9 => hFc q.1 h9)
      clear ht
      generalize H1 = H_5 at hP_3 hS_2 ⊢
      refine lv_ldc2 (v := (-6)) hx hb hown (hts _ k_381) dX8_lay_97 ?_
      refine v_lcmp hx hb dX8_lay_100 _ rfl ?_
      refine lv_topi (fun z4 e_z4 => ?_)
      have g_z4 := lc_cases (a := r3.toInt) (b := (-6)) e_z4 rfl (by decide +kernel)
      refine lv_if_ge (tgt := 111) hx hb dX8_lay_101 (by decide) (fun c5 => ?_) (fun c5 => ?_)
      · have c5 := j_le (a := 0) (b := z4.toInt) (by decide +kernel) rfl c5
        obtain ⟨z6, e_z6⟩ : ∃ q : Int32, q = L4 + Int32.ofInt 1 := ⟨_, rfl⟩
        have g_z6 : z6.toInt = L4.toInt + 1 := by rw [e_z6]; exact n_add (a := L4.toInt) (b := 1) rfl (by decide +kernel) (by omega) (by omega)
        refine lv_iinc (v := z6) (lv' := [(4, .int z6), (0, .ref (ad 0)), (1, .int x1), (2, .int x2), (3, .int x3)]) hx hb dX8_lay_111 hl (k := 4) rfl e_z6.symm (by decide) rfl (fun ls_6 hl_6 => ?_)
        refine lv_goto (tgt := 73) hx hb dX8_lay_114 (by decide) ?_
        exact ih z6 f2_stale f4_stale ai _ _ _ (by omega) (by omega) (by omega) (by omega) (by omega) (by omega) (by omega) (by omega) (by omega) (by omega) (by omega) (by omega) (by omega) (by omega) (by omega) (gx_u (P := fun u => -6 ≤ gvI ai al x2.toInt.toNat (x3.toInt + u)) (n := L4) (by omega) h15 (by have q := gpr3_0; rw [show z2.toInt = x3.toInt + (L4.toInt.toNat : Int) by omega] at q; show -6 ≤ gvI ai al x2.toInt.toNat (x3.toInt + (L4.toInt.toNat : Int)); omega) (by omega)) (by omega) (by omega) hI hF hw_w0 hw_w1 hw_w2 hw_w3 hP_3 hD_4 hS_2 (lv_sub hl_6 [1, 2, 3, 4, 0] rfl)
      · have c5 := j_nle (a := 0) (b := z4.toInt) (by decide +kernel) rfl c5
        refine lv_aload_n hx hb dX8_lay_104 rfl (lv_at hl 0 rfl) ?_
        refine lv_bipush (v := (-4)) hx hb dX8_lay_105 (by decide) ?_
        have kcm4 : ((-4) : Int32).toInt = (-4) := by decide +kernel
        have hM := m003_X8_refuse l dC dI cI cJ cII cJJ H_5.size 0 ad f3_unknowns f3_equations f2_roundSupports f2_stale f7_size f1_size f5_keptSize f5_aheadSize f0_solved f4_blockCount f4_blockLength f4_lastIsFree f4_stale ai al w0 w1 w2 w3 (-4) (by omega) (by omega) (by omega) (by omega) (by omega) (by omega) (by omega) (by omega) (by omega) (by omega) (by omega) hI hw_w0 hw_w1 hw_w2 hw_w3
        refine k2V_i (q0 := 0) ⟨hx, hb, hml, hown, hts⟩ hK hP_3 hD_4 hS_2 hA hX cv_RX8_53 hM ⟨by decide +kernel, by decide +kernel⟩ rfl rfl (Or.inl rfl) (rest := []) rfl rfl rfl hl.1 rfl (Nat.le_of_ble_eq_true rfl) dX8_lay_107 ⟨Nat.le_of_ble_eq_true rfl, Nat.le_of_ble_eq_true rfl⟩ (fun r7 t H1 locs_7 ht hB hS_7 hFc => ?_)
        obtain ⟨ai8, ⟨gpr7_0, hI_8, hFr_r7⟩, hP_8, -, hD_8⟩ := hB
        have hF_9 := FR_tr hF hFr_r7 (by decide)
        rw [ht] at hP_8
        have hD_10 := hD_8.weaken (B := A) (fun k q _ h9 => hFc q.1 h9)
        clear ht
        generalize H1 = H_11 at hP_8 hS_7 ⊢
        exact r2_i hx hb hr hk hS_7 dX8_lay_110 (fun t ht hW => ⟨f2_stale, f4_stale, ai8, ⟨(by first | omega | decide | exact Or.inl (by decide) | exact Or.inr (by decide) | exact Or.inr (by omega)), (by first | omega | decide | exact Or.inl (by decide) | exact Or.inr (by decide) | exact Or.inr (by omega)), hI_8, hF_9⟩, by rw [ht]; exact hP_8, va_K.moved hW.alike hK, hD_10⟩)
set_option maxRecDepth 100000 in
set_option maxHeartbeats 4000000 in
theorem m056_X8_lay_b63 {p : Program} {l : Launch} {e : Env} {s : State} {m : MethodId} {args : Array Value} {below : List Frame} {meth : Method} {c : Code} {A : Nat → Prop} {dC : Nat → ClassId} {dI : Nat → Nat → Nat} {cI cJ cII cJJ : ClassId} {ad : Nat → Nat} {g : Nat} {f3_unknowns f3_equations f2_roundSupports f7_size f1_size f5_keptSize f5_aheadSize f0_solved f4_blockCount f4_blockLength f4_lastIsFree : Int32} {ai0 : Nat → Nat → Int32} {al : Nat → Nat → Int64} {w0 w1 w2 w3 : Nat} {x1 : Int32} {x2 : Int32} {x3 : Int32} (C : Cx p c s m meth args A dC dI (TY cI cJ cII cJJ) cX8_lay (some .int) 5 RX8 0 g) : ∀ (f2_stale f4_stale : Int32) (ai : Nat → Nat → Int32) (H : Heap) (locs : List Loc) (ls : Array Slot), (1 ≤ f3_unknowns.toInt ∧ f3_unknowns.toInt ≤ 4) → (0 ≤ f3_equations.toInt ∧ f3_equations.toInt ≤ 3) → (0 ≤ f2_stale.toInt ∧ f2_stale.toInt ≤ 1) → (0 ≤ f7_size.toInt ∧ f7_size.toInt ≤ 256) → (0 ≤ f1_size.toInt ∧ f1_size.toInt ≤ 4) → (0 ≤ f5_keptSize.toInt ∧ f5_keptSize.toInt ≤ 128) → (0 ≤ f5_aheadSize.toInt ∧ f5_aheadSize.toInt ≤ 128) → (0 ≤ f4_blockCount.toInt ∧ f4_blockCount.toInt ≤ 9261) → (0 ≤ f4_blockLength.toInt ∧ f4_blockLength.toInt ≤ 21) → (0 ≤ f4_lastIsFree.toInt ∧ f4_lastIsFree.toInt ≤ 1) → (0 ≤ f4_stale.toInt ∧ f4_stale.toInt ≤ 1) → (0 ≤ x1.toInt ∧ x1.toInt ≤ 2) → (0 ≤ x2.toInt ∧ x2.toInt ≤ 3) → IAX ai → FR [2, 3, 4, 63] ai0 ai → RWX ad w0 → RWX ad w1 → RWX ad w2 → RWX ad w3 → va_P (dC, dI) vwCl (WX cI cJ cII cJJ ad f3_unknowns f3_equations f2_roundSupports f2_stale f7_size f1_size f5_keptSize f5_aheadSize f0_solved f4_blockCount f4_blockLength f4_lastIsFree f4_stale ai al w0 w1 w2 w3) H → va_D A (WX cI cJ cII cJJ ad f3_unknowns f3_equations f2_roundSupports f2_stale f7_size f1_size f5_keptSize f5_aheadSize f0_solved f4_blockCount f4_blockLength f4_lastIsFree f4_stale ai al w0 w1 w2 w3) → va_S A s.heap H locs → lv_has ls 5 [(0, .ref (ad 0)), (1, .int x1), (2, .int x2), (3, .int x3)] → W p l e ({ frames := 4, cells := 0, slots := 0, locals := 200 } : Room) s m args below meth c H locs 0 0 (MQ below (Q_m056_X8_lay dC dI cI cJ cII cJJ ad f3_unknowns f3_equations f2_roundSupports f7_size f1_size f5_keptSize f5_aheadSize f0_solved f4_blockCount f4_blockLength f4_lastIsFree ai0 al w0 w1 w2 w3 x1 x2 x3 A) args s 0 0 A) (F0 m 63 ls []) := by
  obtain ⟨hx, hb, hr, hml, hown, hts, hk, hA, hK, hX⟩ := id C
  intro f2_stale f4_stale ai H locs ls h0 h1 h2 h3 h4 h5 h6 h7 h8 h9 h10 h11 h12 hI hF hw_w0 hw_w1 hw_w2 hw_w3 hP hD hS hl
  refine lv_aload_n hx hb dX8_lay_63 rfl (lv_at hl 0 rfl) ?_
  refine lv_bipush (v := (-3)) hx hb dX8_lay_64 (by decide) ?_
  have kcm3 : ((-3) : Int32).toInt = (-3) := by decide +kernel
  have hM := m003_X8_refuse l dC dI cI cJ cII cJJ H.size 0 ad f3_unknowns f3_equations f2_roundSupports f2_stale f7_size f1_size f5_keptSize f5_aheadSize f0_solved f4_blockCount f4_blockLength f4_lastIsFree f4_stale ai al w0 w1 w2 w3 (-3) (by omega) (by omega) (by omega) (by omega) (by omega) (by omega) (by omega) (by omega) (by omega) (by omega) (by omega) hI hw_w0 hw_w1 hw_w2 hw_w3
  refine k2V_i (q0 := 0) ⟨hx, hb, hml, hown, hts⟩ hK hP hD hS hA hX cv_RX8_53 hM ⟨by decide +kernel, by decide +kernel⟩ rfl rfl (Or.inl rfl) (rest := []) rfl rfl rfl hl.1 rfl (Nat.le_of_ble_eq_true rfl) dX8_lay_66 ⟨Nat.le_of_ble_eq_true rfl, Nat.le_of_ble_eq_true rfl⟩ (fun r1 t H1 locs_1 ht hB hS_1 hFc => ?_)
  obtain ⟨ai2, ⟨gpr1_0, hI_2, hFr_r1⟩, hP_2, -, hD_2⟩ := hB
  have hF_3 := FR_tr hF hFr_r1 (by decide)
  rw [ht] at hP_2
  have hD_4 := hD_2.weaken (B := A) (fun k q _ h9 => hFc q.1 h9)
  clear ht
  generalize H1 = H_5 at hP_2 hS_1 ⊢
  exact r2_i hx hb hr hk hS_1 dX8_lay_69 (fun t ht hW => ⟨f2_stale, f4_stale, ai2, ⟨(by first | omega | decide | exact Or.inl (by decide) | exact Or.inr (by decide) | exact Or.inr (by omega)), (by first | omega | decide | exact Or.inl (by decide) | exact Or.inr (by decide) | exact Or.inr (by omega)), hI_2, hF_3⟩, by rw [ht]; exact hP_2, va_K.moved hW.alike hK, hD_4⟩)
set_option maxRecDepth 100000 in
set_option maxHeartbeats 4000000 in
theorem m056_X8_lay_b22 {p : Program} {l : Launch} {e : Env} {s : State} {m : MethodId} {args : Array Value} {below : List Frame} {meth : Method} {c : Code} {A : Nat → Prop} {dC : Nat → ClassId} {dI : Nat → Nat → Nat} {cI cJ cII cJJ : ClassId} {ad : Nat → Nat} {g : Nat} {f3_unknowns f3_equations f2_roundSupports f7_size f1_size f5_keptSize f5_aheadSize f0_solved f4_blockCount f4_blockLength f4_lastIsFree : Int32} {ai0 : Nat → Nat → Int32} {al : Nat → Nat → Int64} {w0 w1 w2 w3 : Nat} {x1 : Int32} {x2 : Int32} {x3 : Int32} (C : Cx p c s m meth args A dC dI (TY cI cJ cII cJJ) cX8_lay (some .int) 5 RX8 0 g) : ∀ (f2_stale f4_stale : Int32) (ai : Nat → Nat → Int32) (H : Heap) (locs : List Loc) (ls : Array Slot), (1 ≤ f3_unknowns.toInt ∧ f3_unknowns.toInt ≤ 4) → (0 ≤ f3_equations.toInt ∧ f3_equations.toInt ≤ 3) → (0 ≤ f2_stale.toInt ∧ f2_stale.toInt ≤ 1) → (0 ≤ f7_size.toInt ∧ f7_size.toInt ≤ 256) → (0 ≤ f1_size.toInt ∧ f1_size.toInt ≤ 4) → (0 ≤ f5_keptSize.toInt ∧ f5_keptSize.toInt ≤ 128) → (0 ≤ f5_aheadSize.toInt ∧ f5_aheadSize.toInt ≤ 128) → (0 ≤ f4_blockCount.toInt ∧ f4_blockCount.toInt ≤ 9261) → (0 ≤ f4_blockLength.toInt ∧ f4_blockLength.toInt ≤ 21) → (0 ≤ f4_lastIsFree.toInt ∧ f4_lastIsFree.toInt ≤ 1) → (0 ≤ f4_stale.toInt ∧ f4_stale.toInt ≤ 1) → IAX ai → FR [2, 3, 4, 63] ai0 ai → RWX ad w0 → RWX ad w1 → RWX ad w2 → RWX ad w3 → va_P (dC, dI) vwCl (WX cI cJ cII cJJ ad f3_unknowns f3_equations f2_roundSupports f2_stale f7_size f1_size f5_keptSize f5_aheadSize f0_solved f4_blockCount f4_blockLength f4_lastIsFree f4_stale ai al w0 w1 w2 w3) H → va_D A (WX cI cJ cII cJJ ad f3_unknowns f3_equations f2_roundSupports f2_stale f7_size f1_size f5_keptSize f5_aheadSize f0_solved f4_blockCount f4_blockLength f4_lastIsFree f4_stale ai al w0 w1 w2 w3) → va_S A s.heap H locs → lv_has ls 5 [(0, .ref (ad 0)), (1, .int x1), (2, .int x2), (3, .int x3)] → W p l e ({ frames := 4, cells := 0, slots := 0, locals := 200 } : Room) s m args below meth c H locs 0 0 (MQ below (Q_m056_X8_lay dC dI cI cJ cII cJJ ad f3_unknowns f3_equations f2_roundSupports f7_size f1_size f5_keptSize f5_aheadSize f0_solved f4_blockCount f4_blockLength f4_lastIsFree ai0 al w0 w1 w2 w3 x1 x2 x3 A) args s 0 0 A) (F0 m 22 ls []) := by
  obtain ⟨hx, hb, hr, hml, hown, hts, hk, hA, hK, hX⟩ := id C
  intro f2_stale f4_stale ai H locs ls h0 h1 h2 h3 h4 h5 h6 h7 h8 h9 h10 hI hF hw_w0 hw_w1 hw_w2 hw_w3 hP hD hS hl
  refine lv_aload_n hx hb dX8_lay_22 rfl (lv_at hl 0 rfl) ?_
  refine lv_iconst (v := (-1)) hx hb dX8_lay_23 (by decide) ?_
  have kcm1 : ((-1) : Int32).toInt = (-1) := by decide +kernel
  have hM := m003_X8_refuse l dC dI cI cJ cII cJJ H.size 0 ad f3_unknowns f3_equations f2_roundSupports f2_stale f7_size f1_size f5_keptSize f5_aheadSize f0_solved f4_blockCount f4_blockLength f4_lastIsFree f4_stale ai al w0 w1 w2 w3 (-1) (by omega) (by omega) (by omega) (by omega) (by omega) (by omega) (by omega) (by omega) (by omega) (by omega) (by omega) hI hw_w0 hw_w1 hw_w2 hw_w3
  refine k2V_i (q0 := 0) ⟨hx, hb, hml, hown, hts⟩ hK hP hD hS hA hX cv_RX8_53 hM ⟨by decide +kernel, by decide +kernel⟩ rfl rfl (Or.inl rfl) (rest := []) rfl rfl rfl hl.1 rfl (Nat.le_of_ble_eq_true rfl) dX8_lay_24 ⟨Nat.le_of_ble_eq_true rfl, Nat.le_of_ble_eq_true rfl⟩ (fun r1 t H1 locs_1 ht hB hS_1 hFc => ?_)
  obtain ⟨ai2, ⟨gpr1_0, hI_2, hFr_r1⟩, hP_2, -, hD_2⟩ := hB
  have hF_3 := FR_tr hF hFr_r1 (by decide)
  rw [ht] at hP_2
  have hD_4 := hD_2.weaken (B := A) (fun k q _ h9 => hFc q.1 h9)
  clear ht
  generalize H1 = H_5 at hP_2 hS_1 ⊢
  exact r2_i hx hb hr hk hS_1 dX8_lay_27 (fun t ht hW => ⟨f2_stale, f4_stale, ai2, ⟨(by first | omega | decide | exact Or.inl (by decide) | exact Or.inr (by decide) | exact Or.inr (by omega)), (by first | omega | decide | exact Or.inl (by decide) | exact Or.inr (by decide) | exact Or.inr (by omega)), hI_2, hF_3⟩, by rw [ht]; exact hP_2, va_K.moved hW.alike hK, hD_4⟩)
set_option maxRecDepth 100000 in
set_option maxHeartbeats 4000000 in
theorem m056_X8_lay (l : Launch) (dC : Nat → ClassId) (dI : Nat → Nat → Nat) (cI cJ cII cJJ : ClassId) (sz g : Nat) (ad : Nat → Nat) (f3_unknowns f3_equations f2_roundSupports f2_stale f7_size f1_size f5_keptSize f5_aheadSize f0_solved f4_blockCount f4_blockLength f4_lastIsFree f4_stale : Int32) (ai : Nat → Nat → Int32) (al : Nat → Nat → Int64) (w0 w1 w2 w3 : Nat) (x1 : Int32) (x2 : Int32) (x3 : Int32) (h_f3_unknowns : (1 ≤ f3_unknowns.toInt ∧ f3_unknowns.toInt ≤ 4)) (h_f3_equations : (0 ≤ f3_equations.toInt ∧ f3_equations.toInt ≤ 3)) (h_f2_stale : (0 ≤ f2_stale.toInt ∧ f2_stale.toInt ≤ 1)) (h_f7_size : (0 ≤ f7_size.toInt ∧ f7_size.toInt ≤ 256)) (h_f1_size : (0 ≤ f1_size.toInt ∧ f1_size.toInt ≤ 4)) (h_f5_keptSize : (0 ≤ f5_keptSize.toInt ∧ f5_keptSize.toInt ≤ 128)) (h_f5_aheadSize : (0 ≤ f5_aheadSize.toInt ∧ f5_aheadSize.toInt ≤ 128)) (h_f4_blockCount : (0 ≤ f4_blockCount.toInt ∧ f4_blockCount.toInt ≤ 9261)) (h_f4_blockLength : (0 ≤ f4_blockLength.toInt ∧ f4_blockLength.toInt ≤ 21)) (h_f4_lastIsFree : (0 ≤ f4_lastIsFree.toInt ∧ f4_lastIsFree.toInt ≤ 1)) (h_f4_stale : (0 ≤ f4_stale.toInt ∧ f4_stale.toInt ≤ 1)) (hI : IAX ai) (hw_w0 : RWX ad w0) (hw_w1 : RWX ad w1) (hw_w2 : RWX ad w2) (hw_w3 : RWX ad w3) : Met l yX8_lay (.code yX8_lay cX8_lay 5 (some .int) :: TT) ({ frames := 4, cells := 0, slots := 0, locals := 200 } : Room) (PcS dC dI (TY cI cJ cII cJJ) [.ref (ad 0), .int x1, .int x2, .int x3] (WX cI cJ cII cJJ ad f3_unknowns f3_equations f2_roundSupports f2_stale f7_size f1_size f5_keptSize f5_aheadSize f0_solved f4_blockCount f4_blockLength f4_lastIsFree f4_stale ai al w0 w1 w2 w3) sz 0 g) (Q_m056_X8_lay dC dI cI cJ cII cJJ ad f3_unknowns f3_equations f2_roundSupports f7_size f1_size f5_keptSize f5_aheadSize f0_solved f4_blockCount f4_blockLength f4_lastIsFree ai al w0 w1 w2 w3 x1 x2 x3 (va_A (WX cI cJ cII cJJ ad f3_unknowns f3_equations f2_roundSupports f2_stale f7_size f1_size f5_keptSize f5_aheadSize f0_solved f4_blockCount f4_blockLength f4_lastIsFree f4_stale ai al w0 w1 w2 w3) sz)) 0 0 (va_A (WX cI cJ cII cJJ ad f3_unknowns f3_equations f2_roundSupports f2_stale f7_size f1_size f5_keptSize f5_aheadSize f0_solved f4_blockCount f4_blockLength f4_lastIsFree f4_stale ai al w0 w1 w2 w3) sz) := by
  refine SM.of (y := yX8_lay) (maxL := 5) (av := [.ref (ad 0), .int x1, .int x2, .int x3]) (Q_m056_X8_lay dC dI cI cJ cII cJJ ad f3_unknowns f3_equations f2_roundSupports f7_size f1_size f5_keptSize f5_aheadSize f0_solved f4_blockCount f4_blockLength f4_lastIsFree ai al w0 w1 w2 w3 x1 x2 x3) (by decide +kernel) (Nat.le_of_ble_eq_true rfl) (fun p e s m below meth c A ls hx hb hr hml hown hts hk hnm hA hK hP hD hS hX hl => ?_)
  have C : Cx p c s m meth (([.ref (ad 0), .int x1, .int x2, .int x3] : List Value).toArray) A dC dI (TY cI cJ cII cJJ) cX8_lay (some .int) 5 RX8 0 g := ⟨hx, hb, hr, hml, hown, hts, hk, hA, hK, hX⟩
  have hown : s.vm.findClass RX8 = some m.cls := hown
  have hl : lv_has ls 5 [(0, .ref (ad 0)), (1, .int x1), (2, .int x2), (3, .int x3)] := hl
  obtain ⟨H, hH⟩ : ∃ q, q = s.heap := ⟨_, rfl⟩
  rw [← hH] at hP
  have hS : va_S A s.heap H [] := by rw [hH]; exact hS
  rw [← hH]
  have hF := FR_refl [2, 3, 4, 63] ai
  have ra_x1 := s_any x1
  have ra_x2 := s_any x2
  have ra_x3 := s_any x3
  refine lv_aload_n hx hb dX8_lay_0 rfl (lv_at hl 0 rfl) ?_
  refine gf (k := 3) hx hb hts inX8 hown hK hP k_267 rfl (by decide) rfl 0 rfl (.ref (ad 52)) rfl dX8_lay_1 ?_
  refine lv_iload_n hx hb dX8_lay_4 rfl (lv_at hl 2 rfl) ?_
  have hM := m024_X6_isTray l dC dI cI cJ cII cJJ H.size 0 ad f3_unknowns f3_equations f2_roundSupports f2_stale f7_size f1_size f5_keptSize f5_aheadSize f0_solved f4_blockCount f4_blockLength f4_lastIsFree f4_stale ai al w0 w1 w2 w3 x2 (by omega) (by omega) (by omega) (by omega) (by omega) (by omega) (by omega) (by omega) (by omega) (by omega) (by omega) hI hw_w0 hw_w1 hw_w2 hw_w3
  refine k2V_i (q0 := 52) ⟨hx, hb, hml, hown, hts⟩ hK hP hD hS hA hX cv_RX8_112 hM ⟨by decide +kernel, by decide +kernel⟩ rfl rfl (Or.inl rfl) (rest := []) rfl rfl rfl hl.1 rfl (Nat.le_of_ble_eq_true rfl) dX8_lay_5 ⟨Nat.le_of_ble_eq_true rfl, Nat.le_of_ble_eq_true rfl⟩ (fun r1 t H1 locs_1 ht hB hS_1 hFc => ?_)
  obtain ⟨⟨gpr1_0, gpr1_1⟩, hP_2, -, hD_2⟩ := hB
  rw [ht] at hP_2
  have hD_3 := hD_2.weaken (B := A) (fun k q _ h9 => hFc q.1 h9)
  clear ht
  generalize H1 = H_4 at hP_2 hS_1 ⊢
  refine lv_if_eq (tgt := 22) hx hb dX8_lay_8 (by decide) (fun c2 => ?_) (fun c2 => ?_)
  · have c2 := j_eq (a := r1.toInt) (b := 0) rfl (by decide +kernel) c2
    exact m056_X8_lay_b22 C  f2_stale f4_stale ai _ _ _ (by omega) (by omega) (by omega) (by omega) (by omega) (by omega) (by omega) (by omega) (by omega) (by omega) (by omega) hI hF hw_w0 hw_w1 hw_w2 hw_w3 hP_2 hD_3 hS_1 (lv_sub hl [0, 1, 2, 3] rfl)
  · have c2 := j_ne (a := r1.toInt) (b := 0) rfl (by decide +kernel) c2
    refine lv_aload_n hx hb dX8_lay_11 rfl (lv_at hl 0 rfl) ?_
    refine gf (k := 0) hx hb hts inX8 hown hK hP_2 k_264 rfl (by decide) rfl 0 rfl (.ref (ad 6)) rfl dX8_lay_12 ?_
    refine lv_iload_n hx hb dX8_lay_15 rfl (lv_at hl 1 rfl) ?_
    have hM := m002_X3_hasEquation l dC dI cI cJ cII cJJ H_4.size 0 ad f3_unknowns f3_equations f2_roundSupports f2_stale f7_size f1_size f5_keptSize f5_aheadSize f0_solved f4_blockCount f4_blockLength f4_lastIsFree f4_stale ai al w0 w1 w2 w3 x1 (by omega) (by omega) (by omega) (by omega) (by omega) (by omega) (by omega) (by omega) (by omega) (by omega) (by omega) hI hw_w0 hw_w1 hw_w2 hw_w3
    refine k2V_i (q0 := 6) ⟨hx, hb, hml, hown, hts⟩ hK hP_2 hD_3 hS_1 hA hX cv_RX8_78 hM ⟨by decide +kernel, by decide +kernel⟩ rfl rfl (Or.inl rfl) (rest := []) rfl rfl rfl hl.1 rfl (Nat.le_of_ble_eq_true rfl) dX8_lay_16 ⟨Nat.le_of_ble_eq_true rfl, Nat.le_of_ble_eq_true rfl⟩ (fun r3 t H1 locs_5 ht hB hS_5 hFc => ?_)
    obtain ⟨⟨gpr3_0, gpr3_1⟩, hP_6, -, hD_6⟩ := hB
    rw [ht] at hP_6
    have hD_7 := hD_6.weaken (B := A) (fun k q _ h9 => hFc q.1 h9)
    clear ht
    generalize H1 = H_8 at hP_6 hS_5 ⊢
    refine lv_if_ne (tgt := 28) hx hb dX8_lay_19 (by decide) (fun c4 => ?_) (fun c4 => ?_)
    · have c4 := j_ne (a := r3.toInt) (b := 0) rfl (by decide +kernel) c4
      refine lv_aload_n hx hb dX8_lay_28 rfl (lv_at hl 0 rfl) ?_
      refine gf (k := 3) hx hb hts inX8 hown hK hP_6 k_267 rfl (by decide) rfl 0 rfl (.ref (ad 52)) rfl dX8_lay_29 ?_
      refine lv_iload_n hx hb dX8_lay_32 rfl (lv_at hl 2 rfl) ?_
      have hM := m025_X6_isMissing l dC dI cI cJ cII cJJ H_8.size 0 ad f3_unknowns f3_equations f2_roundSupports f2_stale f7_size f1_size f5_keptSize f5_aheadSize f0_solved f4_blockCount f4_blockLength f4_lastIsFree f4_stale ai al w0 w1 w2 w3 x2 (by omega) (by omega) (by omega) (by omega) (by omega) (by omega) (by omega) (by omega) (by omega) (by omega) (by omega) (by omega) hI hw_w0 hw_w1 hw_w2 hw_w3
      refine k2V_i (q0 := 52) ⟨hx, hb, hml, hown, hts⟩ hK hP_6 hD_7 hS_5 hA hX cv_RX8_118 hM ⟨by decide +kernel, by decide +kernel⟩ rfl rfl (Or.inl rfl) (rest := []) rfl rfl rfl hl.1 rfl (Nat.le_of_ble_eq_true rfl) dX8_lay_33 ⟨Nat.le_of_ble_eq_true rfl, Nat.le_of_ble_eq_true rfl⟩ (fun r5 t H1 locs_9 ht hB hS_9 hFc => ?_)
      obtain ⟨⟨gpr5_0, gpr5_1⟩, hP_10, -, hD_10⟩ := hB
      rw [ht] at hP_10
      have hD_11 := hD_10.weaken (B := A) (fun k q _ h9 => hFc q.1 h9)
      clear ht
      generalize H1 = H_12 at hP_10 hS_9 ⊢
      refine lv_if_eq (tgt := 46) hx hb dX8_lay_36 (by decide) (fun c6 => ?_) (fun c6 => ?_)
      · have c6 := j_eq (a := r5.toInt) (b := 0) rfl (by decide +kernel) c6
        refine lv_iload_n hx hb dX8_lay_46 rfl (lv_at hl 3 rfl) ?_
        refine lv_if_lt (tgt := 63) hx hb dX8_lay_47 (by decide) (fun c7 => ?_) (fun c7 => ?_)
        · have c7 := j_lt (a := x3.toInt) (b := 0) rfl (by decide +kernel) c7
          exact m056_X8_lay_b63 C  f2_stale f4_stale ai _ _ _ (by omega) (by omega) (by omega) (by omega) (by omega) (by omega) (by omega) (by omega) (by omega) (by omega) (by omega) (by omega) (by omega) hI hF hw_w0 hw_w1 hw_w2 hw_w3 hP_10 hD_11 hS_9 (lv_sub hl [0, 1, 2, 3] rfl)
        · have c7 := j_nlt (a := x3.toInt) (b := 0) rfl (by decide +kernel) c7
          refine lv_iload_n hx hb dX8_lay_50 rfl (lv_at hl 3 rfl) ?_
          refine lv_aload_n hx hb dX8_lay_51 rfl (lv_at hl 0 rfl) ?_
          refine gf (k := 3) hx hb hts inX8 hown hK hP_10 k_267 rfl (by decide) rfl 0 rfl (.ref (ad 52)) rfl dX8_lay_52 ?_
          refine gf (k := 2) hx hb hts inX6 hown hK hP_10 k_256 rfl (by decide) rfl 52 rfl (.ref (ad 59)) rfl dX8_lay_55 ?_
          refine lv_iload_n hx hb dX8_lay_58 rfl (lv_at hl 2 rfl) ?_
          refine va_iald hx hb hK hP_10 59 0 rfl rfl (j_in (a := x2.toInt) rfl (by omega) (by omega)) dX8_lay_59 ?_
          refine lv_topi (fun z8 e_z8 => ?_)
          have g_z8 : -1 ≤ z8.toInt ∧ z8.toInt ≤ 20 := by rw [e_z8]; exact IAX_at59 hI _
          refine lv_icmp_le (tgt := 70) hx hb dX8_lay_60 (by decide) (fun c9 => ?_) (fun c9 => ?_)
          · have c9 := j_le (a := x3.toInt) (b := z8.toInt) rfl rfl c9
            refine lv_iconst (v := 0) hx hb dX8_lay_70 (by decide) ?_
            refine lv_istore (lv' := [(4, .int 0), (0, .ref (ad 0)), (1, .int x1), (2, .int x2), (3, .int x3)]) hx hb dX8_lay_71 hl (by decide) rfl (fun ls_13 hl_13 => ?_)
            exact m056_X8_lay_b73 C  _ 0 f2_stale f4_stale ai _ _ _ (by first | omega | decide | (have ka0 := (by decide +kernel : (0 : Int32).toInt = 0); omega)) (by first | omega | decide | (have ka0 := (by decide +kernel : (0 : Int32).toInt = 0); omega)) (by first | omega | decide | (have ka0 := (by decide +kernel : (0 : Int32).toInt = 0); omega)) (by first | omega | decide | (have ka0 := (by decide +kernel : (0 : Int32).toInt = 0); omega)) (by first | omega | decide | (have ka0 := (by decide +kernel : (0 : Int32).toInt = 0); omega)) (by first | omega | decide | (have ka0 := (by decide +kernel : (0 : Int32).toInt = 0); omega)) (by first | omega | decide | (have ka0 := (by decide +kernel : (0 : Int32).toInt = 0); omega)) (by first | omega | decide | (have ka0 := (by decide +kernel : (0 : Int32).toInt = 0); omega)) (by first | omega | decide | (have ka0 := (by decide +kernel : (0 : Int32).toInt = 0); omega)) (by first | omega | decide | (have ka0 := (by decide +kernel : (0 : Int32).toInt = 0); omega)) (by first | omega | decide | (have ka0 := (by decide +kernel : (0 : Int32).toInt = 0); omega)) (by first | omega | decide | (have ka0 := (by decide +kernel : (0 : Int32).toInt = 0); omega)) (by first | omega | decide | (have ka0 := (by decide +kernel : (0 : Int32).toInt = 0); omega)) (by first | omega | decide | (have ka0 := (by decide +kernel : (0 : Int32).toInt = 0); omega)) (by first | omega | decide | (have ka0 := (by decide +kernel : (0 : Int32).toInt = 0); omega)) (fun u hu => (gzlt hu).elim) (j_fuel _) (by omega) hI hF hw_w0 hw_w1 hw_w2 hw_w3 hP_10 hD_11 hS_9 (lv_sub hl_13 [1, 2, 3, 4, 0] rfl)
          · have c9 := j_nle (a := x3.toInt) (b := z8.toInt) rfl rfl c9
            exact m056_X8_lay_b63 C  f2_stale f4_stale ai _ _ _ (by omega) (by omega) (by omega) (by omega) (by omega) (by omega) (by omega) (by omega) (by omega) (by omega) (by omega) (by omega) (by omega) hI hF hw_w0 hw_w1 hw_w2 hw_w3 hP_10 hD_11 hS_9 (lv_sub hl [0, 1, 2, 3] rfl)
      · have c6 := j_ne (a := r5.toInt) (b := 0) rfl (by decide +kernel) c6
        refine lv_aload_n hx hb dX8_lay_39 rfl (lv_at hl 0 rfl) ?_
        refine lv_bipush (v := (-7)) hx hb dX8_lay_40 (by decide) ?_
        have kcm7 : ((-7) : Int32).toInt = (-7) := by decide +kernel
        have hM := m003_X8_refuse l dC dI cI cJ cII cJJ H_12.size 0 ad f3_unknowns f3_equations f2_roundSupports f2_stale f7_size f1_size f5_keptSize f5_aheadSize f0_solved f4_blockCount f4_blockLength f4_lastIsFree f4_stale ai al w0 w1 w2 w3 (-7) (by omega) (by omega) (by omega) (by omega) (by omega) (by omega) (by omega) (by omega) (by omega) (by omega) (by omega) hI hw_w0 hw_w1 hw_w2 hw_w3
        refine k2V_i (q0 := 0) ⟨hx, hb, hml, hown, hts⟩ hK hP_10 hD_11 hS_9 hA hX cv_RX8_53 hM ⟨by decide +kernel, by decide +kernel⟩ rfl rfl (Or.inl rfl) (rest := []) rfl rfl rfl hl.1 rfl (Nat.le_of_ble_eq_true rfl) dX8_lay_42 ⟨Nat.le_of_ble_eq_true rfl, Nat.le_of_ble_eq_true rfl⟩ (fun r10 t H1 locs_14 ht hB hS_14 hFc => ?_)
        obtain ⟨ai11, ⟨gpr10_0, hI_15, hFr_r10⟩, hP_15, -, hD_15⟩ := hB
        have hF_16 := FR_tr hF hFr_r10 (by decide)
        rw [ht] at hP_15
        have hD_17 := hD_15.weaken (B := A) (fun k q _ h9 => hFc q.1 h9)
        clear ht
        generalize H1 = H_18 at hP_15 hS_14 ⊢
        exact r2_i hx hb hr hk hS_14 dX8_lay_45 (fun t ht hW => ⟨f2_stale, f4_stale, ai11, ⟨(by first | omega | decide | exact Or.inl (by decide) | exact Or.inr (by decide) | exact Or.inr (by omega)), (by first | omega | decide | exact Or.inl (by decide) | exact Or.inr (by decide) | exact Or.inr (by omega)), hI_15, hF_16⟩, by rw [ht]; exact hP_15, va_K.moved hW.alike hK, hD_17⟩)
    · have c4 := j_eq (a := r3.toInt) (b := 0) rfl (by decide +kernel) c4
      exact m056_X8_lay_b22 C  f2_stale f4_stale ai _ _ _ (by omega) (by omega) (by omega) (by omega) (by omega) (by omega) (by omega) (by omega) (by omega) (by omega) (by omega) hI hF hw_w0 hw_w1 hw_w2 hw_w3 hP_6 hD_7 hS_5 (lv_sub hl [0, 1, 2, 3] rfl)
