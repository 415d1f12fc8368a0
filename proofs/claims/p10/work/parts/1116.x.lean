def Q_m105_X0_searchFrom (dC : Nat → ClassId) (dI : Nat → Nat → Nat) (cI cJ cII cJJ : ClassId) (ad : Nat → Nat) (f3_unknowns f3_equations f2_roundSupports f2_stale f1_size f5_keptSize f5_aheadSize f0_solved f4_blockCount f4_blockLength f4_lastIsFree f4_stale : Int32) (ai0 : Nat → Nat → Int32) (al0 : Nat → Nat → Int64) (w0 w1 w2 w3 : Nat) : (Nat → Prop) → Array Value → State → Outcome → State → Prop := fun A => QV (fun t => ∃ (n_f7_size : Int32), ∃ (n_ai : Nat → Nat → Int32), ∃ (n_al : Nat → Nat → Int64), ((0 ≤ n_f7_size.toInt ∧ n_f7_size.toInt ≤ 256) ∧ IAX n_ai ∧ FR [28] ai0 n_ai ∧ FL [13] al0 n_al) ∧ WO dC dI (TY cI cJ cII cJJ) (WX cI cJ cII cJJ ad f3_unknowns f3_equations f2_roundSupports f2_stale n_f7_size f1_size f5_keptSize f5_aheadSize f0_solved f4_blockCount f4_blockLength f4_lastIsFree f4_stale n_ai n_al w0 w1 w2 w3) A t) A
set_option maxRecDepth 100000 in
set_option maxHeartbeats 4000000 in
theorem m105_X0_searchFrom (l : Launch) (dC : Nat → ClassId) (dI : Nat → Nat → Nat) (cI cJ cII cJJ : ClassId) (sz g : Nat) (ad : Nat → Nat) (f3_unknowns f3_equations f2_roundSupports f2_stale f7_size f1_size f5_keptSize f5_aheadSize f0_solved f4_blockCount f4_blockLength f4_lastIsFree f4_stale : Int32) (ai : Nat → Nat → Int32) (al : Nat → Nat → Int64) (w0 w1 w2 w3 : Nat) (x2 : Int32) (x3 : Int32) (h_f3_unknowns : (1 ≤ f3_unknowns.toInt ∧ f3_unknowns.toInt ≤ 4)) (h_f3_equations : (0 ≤ f3_equations.toInt ∧ f3_equations.toInt ≤ 3)) (h_f2_stale : (0 ≤ f2_stale.toInt ∧ f2_stale.toInt ≤ 1)) (h_f7_size : (0 ≤ f7_size.toInt ∧ f7_size.toInt ≤ 256)) (h_f1_size : (0 ≤ f1_size.toInt ∧ f1_size.toInt ≤ 4)) (h_f5_keptSize : (0 ≤ f5_keptSize.toInt ∧ f5_keptSize.toInt ≤ 128)) (h_f5_aheadSize : (0 ≤ f5_aheadSize.toInt ∧ f5_aheadSize.toInt ≤ 128)) (h_f4_blockCount : (0 ≤ f4_blockCount.toInt ∧ f4_blockCount.toInt ≤ 9261)) (h_f4_blockLength : (0 ≤ f4_blockLength.toInt ∧ f4_blockLength.toInt ≤ 21)) (h_f4_lastIsFree : (0 ≤ f4_lastIsFree.toInt ∧ f4_lastIsFree.toInt ≤ 1)) (h_f4_stale : (0 ≤ f4_stale.toInt ∧ f4_stale.toInt ≤ 1)) (hI : IAX ai) (hw_w0 : RWX ad w0) (hw_w1 : RWX ad w1) (hw_w2 : RWX ad w2) (hw_w3 : RWX ad w3) : Met l yX0_searchFrom (.code yX0_searchFrom cX0_searchFrom 4 none :: TT) ({ frames := 11, cells := 0, slots := 0, locals := 620 } : Room) (PcS dC dI (TY cI cJ cII cJJ) [.ref (ad 25), .int 0, .int x2, .int x3] (WX cI cJ cII cJJ ad f3_unknowns f3_equations f2_roundSupports f2_stale f7_size f1_size f5_keptSize f5_aheadSize f0_solved f4_blockCount f4_blockLength f4_lastIsFree f4_stale ai al w0 w1 w2 w3) sz 0 g) (Q_m105_X0_searchFrom dC dI cI cJ cII cJJ ad f3_unknowns f3_equations f2_roundSupports f2_stale f1_size f5_keptSize f5_aheadSize f0_solved f4_blockCount f4_blockLength f4_lastIsFree f4_stale ai al w0 w1 w2 w3 (va_A (WX cI cJ cII cJJ ad f3_unknowns f3_equations f2_roundSupports f2_stale f7_size f1_size f5_keptSize f5_aheadSize f0_solved f4_blockCount f4_blockLength f4_lastIsFree f4_stale ai al w0 w1 w2 w3) sz)) 0 0 (va_A (WX cI cJ cII cJJ ad f3_unknowns f3_equations f2_roundSupports f2_stale f7_size f1_size f5_keptSize f5_aheadSize f0_solved f4_blockCount f4_blockLength f4_lastIsFree f4_stale ai al w0 w1 w2 w3) sz) := by
  refine SM.of (y := yX0_searchFrom) (maxL := 4) (av := [.ref (ad 25), .int 0, .int x2, .int x3]) (Q_m105_X0_searchFrom dC dI cI cJ cII cJJ ad f3_unknowns f3_equations f2_roundSupports f2_stale f1_size f5_keptSize f5_aheadSize f0_solved f4_blockCount f4_blockLength f4_lastIsFree f4_stale ai al w0 w1 w2 w3) (by decide +kernel) (Nat.le_of_ble_eq_true rfl) (fun p e s m below meth c A ls hx hb hr hml hown hts hk hnm hA hK hP hD hS hX hl => ?_)
  have C : Cx p c s m meth (([.ref (ad 25), .int 0, .int x2, .int x3] : List Value).toArray) A dC dI (TY cI cJ cII cJJ) cX0_searchFrom none 4 RX0 0 g := ⟨hx, hb, hr, hml, hown, hts, hk, hA, hK, hX⟩
  have hown : s.vm.findClass RX0 = some m.cls := hown
  have hl : lv_has ls 4 [(0, .ref (ad 25)), (1, .int 0), (2, .int x2), (3, .int x3)] := hl
  obtain ⟨H, hH⟩ : ∃ q, q = s.heap := ⟨_, rfl⟩
  rw [← hH] at hP
  have hS : va_S A s.heap H [] := by rw [hH]; exact hS
  rw [← hH]
  have hF := FR_refl [28] ai
  have hG := FL_refl [13] al
  have ra_x2 := s_any x2
  have ra_x3 := s_any x3
  refine lv_iload_n hx hb dX0_searchFrom_0 rfl (lv_at hl 2 rfl) ?_
  refine lv_bipush (v := 36) hx hb dX0_searchFrom_1 (by decide) ?_
  refine lv_icmp_gt (tgt := 12) hx hb dX0_searchFrom_3 (by decide) (fun c1 => ?_) (fun c1 => ?_)
  · have c1 := j_lt (a := 36) (b := x2.toInt) (by decide +kernel) rfl c1
    exact r2_v hx hb hr hk hS dX0_searchFrom_12 (fun t ht hW => ⟨f7_size, ai, al, ⟨(by first | omega | decide | exact Or.inl (by decide) | exact Or.inr (by decide) | exact Or.inr (by omega)), hI, hF, hG⟩, by rw [ht]; exact hP, va_K.moved hW.alike hK, hD⟩)
  · have c1 := j_nlt (a := 36) (b := x2.toInt) (by decide +kernel) rfl c1
    refine lv_iload_n hx hb dX0_searchFrom_6 rfl (lv_at hl 3 rfl) ?_
    refine lv_bipush (v := 36) hx hb dX0_searchFrom_7 (by decide) ?_
    refine lv_icmp_le (tgt := 13) hx hb dX0_searchFrom_9 (by decide) (fun c2 => ?_) (fun c2 => ?_)
    · have c2 := j_le (a := x3.toInt) (b := 36) rfl (by decide +kernel) c2
      refine lv_iload_n hx hb dX0_searchFrom_13 rfl (lv_at hl 1 rfl) ?_
      refine f_if_lt hx hb dX0_searchFrom_14 28 (by decide) (by decide +kernel) ?_
      refine lv_iload_n hx hb dX0_searchFrom_17 rfl (lv_at hl 1 rfl) ?_
      refine lv_aload_n hx hb dX0_searchFrom_18 rfl (lv_at hl 0 rfl) ?_
      refine gf (k := 0) hx hb hts inX0 hown hK hP k_156 rfl (by decide) rfl 25 rfl (.ref (ad 6)) rfl dX0_searchFrom_19 ?_
      refine gf (k := 0) hx hb hts inX3 hown hK hP k_40 rfl (by decide) rfl 6 rfl (.int f3_unknowns) rfl dX0_searchFrom_22 ?_
      refine t_icmp_lt hx hb dX0_searchFrom_25 55 (by decide) (q_lt (a := 0) (b := f3_unknowns.toInt) (by decide +kernel) rfl (by omega)) ?_
      refine lv_aload_n hx hb dX0_searchFrom_55 rfl (lv_at hl 0 rfl) ?_
      refine lv_iload_n hx hb dX0_searchFrom_56 rfl (lv_at hl 1 rfl) ?_
      refine lv_iload_n hx hb dX0_searchFrom_57 rfl (lv_at hl 2 rfl) ?_
      refine lv_iload_n hx hb dX0_searchFrom_58 rfl (lv_at hl 3 rfl) ?_
      have kc0 : (0 : Int32).toInt = 0 := by decide +kernel
      have hM := m104_X0_tryNumbers l dC dI cI cJ cII cJJ H.size 0 ad f3_unknowns f3_equations f2_roundSupports f2_stale f7_size f1_size f5_keptSize f5_aheadSize f0_solved f4_blockCount f4_blockLength f4_lastIsFree f4_stale ai al w0 w1 w2 w3 x2 x3 (by omega) (by omega) (by omega) (by omega) (by omega) (by omega) (by omega) (by omega) (by omega) (by omega) (by omega) hI hw_w0 hw_w1 hw_w2 hw_w3
      refine k2V_v (q0 := 25) ⟨hx, hb, hml, hown, hts⟩ hK hP hD hS hA hX cv_RX0_86 hM ⟨by decide +kernel, by decide +kernel⟩ rfl rfl (Or.inl rfl) (rest := []) rfl rfl rfl hl.1 rfl (Nat.le_of_ble_eq_true rfl) dX0_searchFrom_59 ⟨Nat.le_of_ble_eq_true rfl, Nat.le_of_ble_eq_true rfl⟩ (fun t H1 locs_1 ht hB hS_1 hFc => ?_)
      obtain ⟨v4, ai5, al6, ⟨gpr3_0, hI_2, hFr_r3, hGr_r3⟩, hP_2, -, hD_2⟩ := hB
      have hF_3 := FR_tr hF hFr_r3 (by decide)
      have hG_4 := FL_tr hG hGr_r3 (by decide)
      rw [ht] at hP_2
      have hD_5 := hD_2.weaken (B := A) (fun k q _ h9 => hFc q.1 h9)
      clear ht
      generalize H1 = H_6 at hP_2 hS_1 ⊢
      exact r2_v hx hb hr hk hS_1 dX0_searchFrom_62 (fun t ht hW => ⟨v4, ai5, al6, ⟨(by first | omega | decide | exact Or.inl (by decide) | exact Or.inr (by decide) | exact Or.inr (by omega)), hI_2, hF_3, hG_4⟩, by rw [ht]; exact hP_2, va_K.moved hW.alike hK, hD_5⟩)
    · have c2 := j_nle (a := x3.toInt) (b := 36) rfl (by decide +kernel) c2
      exact r2_v hx hb hr hk hS dX0_searchFrom_12 (fun t ht hW => ⟨f7_size, ai, al, ⟨(by first | omega | decide | exact Or.inl (by decide) | exact Or.inr (by decide) | exact Or.inr (by omega)), hI, hF, hG⟩, by rw [ht]; exact hP, va_K.moved hW.alike hK, hD⟩)
def Q_m106_X0_search (dC : Nat → ClassId) (dI : Nat → Nat → Nat) (cI cJ cII cJJ : ClassId) (ad : Nat → Nat) (f3_unknowns f3_equations f2_roundSupports f2_stale f1_size f5_keptSize f5_aheadSize f4_blockCount f4_blockLength f4_lastIsFree f4_stale : Int32) (ai0 : Nat → Nat → Int32) (al0 : Nat → Nat → Int64) (w0 w1 w2 w3 : Nat) : (Nat → Prop) → Array Value → State → Outcome → State → Prop := fun A => QV (fun t => ∃ (n_f7_size n_f0_solved : Int32), ∃ (n_ai : Nat → Nat → Int32), ∃ (n_al : Nat → Nat → Int64), ((0 ≤ n_f7_size.toInt ∧ n_f7_size.toInt ≤ 256) ∧ (-1 ≤ n_f0_solved.toInt ∧ n_f0_solved.toInt ≤ 3) ∧ IAX n_ai ∧ FR [26, 27, 28] ai0 n_ai ∧ FL [13] al0 n_al) ∧ WO dC dI (TY cI cJ cII cJJ) (WX cI cJ cII cJJ ad f3_unknowns f3_equations f2_roundSupports f2_stale n_f7_size f1_size f5_keptSize f5_aheadSize n_f0_solved f4_blockCount f4_blockLength f4_lastIsFree f4_stale n_ai n_al w0 w1 w2 w3) A t) A
set_option maxRecDepth 100000 in
set_option maxHeartbeats 4000000 in
theorem m106_X0_search_b55 {p : Program} {l : Launch} {e : Env} {s : State} {m : MethodId} {args : Array Value} {below : List Frame} {meth : Method} {c : Code} {A : Nat → Prop} {dC : Nat → ClassId} {dI : Nat → Nat → Nat} {cI cJ cII cJJ : ClassId} {ad : Nat → Nat} {g : Nat} {f3_unknowns f3_equations f2_roundSupports f2_stale f1_size f5_keptSize f5_aheadSize f4_blockCount f4_blockLength f4_lastIsFree f4_stale : Int32} {ai0 : Nat → Nat → Int32} {al0 : Nat → Nat → Int64} {w0 w1 w2 w3 : Nat} (C : Cx p c s m meth args A dC dI (TY cI cJ cII cJJ) cX0_search none 2 RX0 0 g) (n19 : Nat) (K19 : ∀ (L1 f7_size f0_solved : Int32) (ai : Nat → Nat → Int32) (al : Nat → Nat → Int64) (H : Heap) (locs : List Loc) (ls : Array Slot), (0 ≤ L1.toInt ∧ L1.toInt ≤ 4) → (1 ≤ f3_unknowns.toInt ∧ f3_unknowns.toInt ≤ 4) → (0 ≤ f3_equations.toInt ∧ f3_equations.toInt ≤ 3) → (0 ≤ f2_stale.toInt ∧ f2_stale.toInt ≤ 1) → (0 ≤ f7_size.toInt ∧ f7_size.toInt ≤ 256) → (0 ≤ f1_size.toInt ∧ f1_size.toInt ≤ 4) → (0 ≤ f5_keptSize.toInt ∧ f5_keptSize.toInt ≤ 128) → (0 ≤ f5_aheadSize.toInt ∧ f5_aheadSize.toInt ≤ 128) → (-1 ≤ f0_solved.toInt ∧ f0_solved.toInt ≤ 3) → (0 ≤ f4_blockCount.toInt ∧ f4_blockCount.toInt ≤ 9261) → (0 ≤ f4_blockLength.toInt ∧ f4_blockLength.toInt ≤ 21) → (0 ≤ f4_lastIsFree.toInt ∧ f4_lastIsFree.toInt ≤ 1) → (0 ≤ f4_stale.toInt ∧ f4_stale.toInt ≤ 1) → f3_unknowns.toInt - L1.toInt < (n19 : Int) → (0 : Int) < (n19 : Int) → IAX ai → FR [26, 27, 28] ai0 ai → FL [13] al0 al → RWX ad w0 → RWX ad w1 → RWX ad w2 → RWX ad w3 → va_P (dC, dI) vwCl (WX cI cJ cII cJJ ad f3_unknowns f3_equations f2_roundSupports f2_stale f7_size f1_size f5_keptSize f5_aheadSize f0_solved f4_blockCount f4_blockLength f4_lastIsFree f4_stale ai al w0 w1 w2 w3) H → va_D A (WX cI cJ cII cJJ ad f3_unknowns f3_equations f2_roundSupports f2_stale f7_size f1_size f5_keptSize f5_aheadSize f0_solved f4_blockCount f4_blockLength f4_lastIsFree f4_stale ai al w0 w1 w2 w3) → va_S A s.heap H locs → lv_has ls 2 [(0, .ref (ad 25)), (1, .int L1)] → W p l e ({ frames := 12, cells := 0, slots := 0, locals := 680 } : Room) s m args below meth c H locs 0 0 (MQ below (Q_m106_X0_search dC dI cI cJ cII cJJ ad f3_unknowns f3_equations f2_roundSupports f2_stale f1_size f5_keptSize f5_aheadSize f4_blockCount f4_blockLength f4_lastIsFree f4_stale ai0 al0 w0 w1 w2 w3 A) args s 0 0 A) (F0 m 19 ls [])) : ∀ (L1 f7_size f0_solved : Int32) (ai : Nat → Nat → Int32) (al : Nat → Nat → Int64) (H : Heap) (locs : List Loc) (ls : Array Slot), (0 ≤ L1.toInt ∧ L1.toInt ≤ 3) → (1 ≤ f3_unknowns.toInt ∧ f3_unknowns.toInt ≤ 4) → (0 ≤ f3_equations.toInt ∧ f3_equations.toInt ≤ 3) → (0 ≤ f2_stale.toInt ∧ f2_stale.toInt ≤ 1) → (0 ≤ f7_size.toInt ∧ f7_size.toInt ≤ 256) → (0 ≤ f1_size.toInt ∧ f1_size.toInt ≤ 4) → (0 ≤ f5_keptSize.toInt ∧ f5_keptSize.toInt ≤ 128) → (0 ≤ f5_aheadSize.toInt ∧ f5_aheadSize.toInt ≤ 128) → (-1 ≤ f0_solved.toInt ∧ f0_solved.toInt ≤ 3) → (0 ≤ f4_blockCount.toInt ∧ f4_blockCount.toInt ≤ 9261) → (0 ≤ f4_blockLength.toInt ∧ f4_blockLength.toInt ≤ 21) → (0 ≤ f4_lastIsFree.toInt ∧ f4_lastIsFree.toInt ≤ 1) → (0 ≤ f4_stale.toInt ∧ f4_stale.toInt ≤ 1) → L1.toInt < f3_unknowns.toInt → f3_unknowns.toInt - L1.toInt ≤ (n19 : Int) → IAX ai → FR [26, 27, 28] ai0 ai → FL [13] al0 al → RWX ad w0 → RWX ad w1 → RWX ad w2 → RWX ad w3 → va_P (dC, dI) vwCl (WX cI cJ cII cJJ ad f3_unknowns f3_equations f2_roundSupports f2_stale f7_size f1_size f5_keptSize f5_aheadSize f0_solved f4_blockCount f4_blockLength f4_lastIsFree f4_stale ai al w0 w1 w2 w3) H → va_D A (WX cI cJ cII cJJ ad f3_unknowns f3_equations f2_roundSupports f2_stale f7_size f1_size f5_keptSize f5_aheadSize f0_solved f4_blockCount f4_blockLength f4_lastIsFree f4_stale ai al w0 w1 w2 w3) → va_S A s.heap H locs → lv_has ls 2 [(0, .ref (ad 25)), (1, .int L1)] → W p l e ({ frames := 12, cells := 0, slots := 0, locals := 680 } : Room) s m args below meth c H locs 0 0 (MQ below (Q_m106_X0_search dC dI cI cJ cII cJJ ad f3_unknowns f3_equations f2_roundSupports f2_stale f1_size f5_keptSize f5_aheadSize f4_blockCount f4_blockLength f4_lastIsFree f4_stale ai0 al0 w0 w1 w2 w3 A) args s 0 0 A) (F0 m 55 ls []) := by
  obtain ⟨hx, hb, hr, hml, hown, hts, hk, hA, hK, hX⟩ := id C
  intro L1 f7_size f0_solved ai al H locs ls h0 h1 h2 h3 h4 h5 h6 h7 h8 h9 h10 h11 h12 h13 h14 hI hF hG hw_w0 hw_w1 hw_w2 hw_w3 hP hD hS hl
  obtain ⟨z1, e_z1⟩ : ∃ q : Int32, q = L1 + Int32.ofInt 1 := ⟨_, rfl⟩
  have g_z1 : z1.toInt = L1.toInt + 1 := by rw [e_z1]; exact n_add (a := L1.toInt) (b := 1) rfl (by decide +kernel) (by omega) (by omega)
  refine lv_iinc (v := z1) (lv' := [(1, .int z1), (0, .ref (ad 25))]) hx hb dX0_search_55 hl (k := 1) rfl e_z1.symm (by decide) rfl (fun ls_1 hl_1 => ?_)
  refine lv_goto (tgt := 19) hx hb dX0_search_58 (by decide) ?_
  exact K19 z1 f7_size f0_solved ai al _ _ _ (by omega) (by omega) (by omega) (by omega) (by omega) (by omega) (by omega) (by omega) (by omega) (by omega) (by omega) (by omega) (by omega) (by omega) (by omega) hI hF hG hw_w0 hw_w1 hw_w2 hw_w3 hP hD hS (lv_sub hl_1 [1, 0] rfl)
set_option maxRecDepth 100000 in
set_option maxHeartbeats 4000000 in
theorem m106_X0_search_b19 {p : Program} {l : Launch} {e : Env} {s : State} {m : MethodId} {args : Array Value} {below : List Frame} {meth : Method} {c : Code} {A : Nat → Prop} {dC : Nat → ClassId} {dI : Nat → Nat → Nat} {cI cJ cII cJJ : ClassId} {ad : Nat → Nat} {g : Nat} {f3_unknowns f3_equations f2_roundSupports f2_stale f1_size f5_keptSize f5_aheadSize f4_blockCount f4_blockLength f4_lastIsFree f4_stale : Int32} {ai0 : Nat → Nat → Int32} {al0 : Nat → Nat → Int64} {w0 w1 w2 w3 : Nat} (C : Cx p c s m meth args A dC dI (TY cI cJ cII cJJ) cX0_search none 2 RX0 0 g) : ∀ (n : Nat), ∀ (L1 f7_size f0_solved : Int32) (ai : Nat → Nat → Int32) (al : Nat → Nat → Int64) (H : Heap) (locs : List Loc) (ls : Array Slot), (0 ≤ L1.toInt ∧ L1.toInt ≤ 4) → (1 ≤ f3_unknowns.toInt ∧ f3_unknowns.toInt ≤ 4) → (0 ≤ f3_equations.toInt ∧ f3_equations.toInt ≤ 3) → (0 ≤ f2_stale.toInt ∧ f2_stale.toInt ≤ 1) → (0 ≤ f7_size.toInt ∧ f7_size.toInt ≤ 256) → (0 ≤ f1_size.toInt ∧ f1_size.toInt ≤ 4) → (0 ≤ f5_keptSize.toInt ∧ f5_keptSize.toInt ≤ 128) → (0 ≤ f5_aheadSize.toInt ∧ f5_aheadSize.toInt ≤ 128) → (-1 ≤ f0_solved.toInt ∧ f0_solved.toInt ≤ 3) → (0 ≤ f4_blockCount.toInt ∧ f4_blockCount.toInt ≤ 9261) → (0 ≤ f4_blockLength.toInt ∧ f4_blockLength.toInt ≤ 21) → (0 ≤ f4_lastIsFree.toInt ∧ f4_lastIsFree.toInt ≤ 1) → (0 ≤ f4_stale.toInt ∧ f4_stale.toInt ≤ 1) → f3_unknowns.toInt - L1.toInt < (n : Int) → (0 : Int) < (n : Int) → IAX ai → FR [26, 27, 28] ai0 ai → FL [13] al0 al → RWX ad w0 → RWX ad w1 → RWX ad w2 → RWX ad w3 → va_P (dC, dI) vwCl (WX cI cJ cII cJJ ad f3_unknowns f3_equations f2_roundSupports f2_stale f7_size f1_size f5_keptSize f5_aheadSize f0_solved f4_blockCount f4_blockLength f4_lastIsFree f4_stale ai al w0 w1 w2 w3) H → va_D A (WX cI cJ cII cJJ ad f3_unknowns f3_equations f2_roundSupports f2_stale f7_size f1_size f5_keptSize f5_aheadSize f0_solved f4_blockCount f4_blockLength f4_lastIsFree f4_stale ai al w0 w1 w2 w3) → va_S A s.heap H locs → lv_has ls 2 [(0, .ref (ad 25)), (1, .int L1)] → W p l e ({ frames := 12, cells := 0, slots := 0, locals := 680 } : Room) s m args below meth c H locs 0 0 (MQ below (Q_m106_X0_search dC dI cI cJ cII cJJ ad f3_unknowns f3_equations f2_roundSupports f2_stale f1_size f5_keptSize f5_aheadSize f4_blockCount f4_blockLength f4_lastIsFree f4_stale ai0 al0 w0 w1 w2 w3 A) args s 0 0 A) (F0 m 19 ls []) := by
  obtain ⟨hx, hb, hr, hml, hown, hts, hk, hA, hK, hX⟩ := id C
  intro n
  induction n with
  | zero =>
    intro L1 f7_size f0_solved ai al H locs ls h0 h1 h2 h3 h4 h5 h6 h7 h8 h9 h10 h11 h12 h13 h14 hI hF hG hw_w0 hw_w1 hw_w2 hw_w3 hP hD hS hl
    exact absurd h14 (by omega)
  | succ n ih =>
    intro L1 f7_size f0_solved ai al H locs ls h0 h1 h2 h3 h4 h5 h6 h7 h8 h9 h10 h11 h12 h13 h14 hI hF hG hw_w0 hw_w1 hw_w2 hw_w3 hP hD hS hl
    refine lv_iload_n hx hb dX0_search_19 rfl (lv_at hl 1 rfl) ?_
    refine lv_aload_n hx hb dX0_search_20 rfl (lv_at hl 0 rfl) ?_
    refine gf (k := 0) hx hb hts inX0 hown hK hP k_156 rfl (by decide) rfl 25 rfl (.ref (ad 6)) rfl dX0_search_21 ?_
    refine gf (k := 0) hx hb hts inX3 hown hK hP k_40 rfl (by decide) rfl 6 rfl (.int f3_unknowns) rfl dX0_search_24 ?_
    refine lv_icmp_ge (tgt := 61) hx hb dX0_search_27 (by decide) (fun c1 => ?_) (fun c1 => ?_)
    · have c1 := j_le (a := f3_unknowns.toInt) (b := L1.toInt) rfl rfl c1
      refine lv_aload_n hx hb dX0_search_61 rfl (lv_at hl 0 rfl) ?_
      refine lv_iconst (v := 0) hx hb dX0_search_62 (by decide) ?_
      refine lv_iconst (v := 0) hx hb dX0_search_63 (by decide) ?_
      refine lv_iconst (v := 0) hx hb dX0_search_64 (by decide) ?_
      have kc0 : (0 : Int32).toInt = 0 := by decide +kernel
      have hM := m105_X0_searchFrom l dC dI cI cJ cII cJJ H.size 0 ad f3_unknowns f3_equations f2_roundSupports f2_stale f7_size f1_size f5_keptSize f5_aheadSize f0_solved f4_blockCount f4_blockLength f4_lastIsFree f4_stale ai al w0 w1 w2 w3 0 0 (by omega) (by omega) (by omega) (by omega) (by omega) (by omega) (by omega) (by omega) (by omega) (by omega) (by omega) hI hw_w0 hw_w1 hw_w2 hw_w3
      refine k2V_v (q0 := 25) ⟨hx, hb, hml, hown, hts⟩ hK hP hD hS hA hX cv_RX0_51 hM ⟨by decide +kernel, by decide +kernel⟩ rfl rfl (Or.inl rfl) (rest := []) rfl rfl rfl hl.1 rfl (Nat.le_of_ble_eq_true rfl) dX0_search_65 ⟨Nat.le_of_ble_eq_true rfl, Nat.le_of_ble_eq_true rfl⟩ (fun t H1 locs_1 ht hB hS_1 hFc => ?_)
      obtain ⟨v3, ai4, al5, ⟨gpr2_0, hI_2, hFr_r2, hGr_r2⟩, hP_2, -, hD_2⟩ := hB
      have hF_3 := FR_tr hF hFr_r2 (by decide)
      have hG_4 := FL_tr hG hGr_r2 (by decide)
      rw [ht] at hP_2
      have hD_5 := hD_2.weaken (B := A) (fun k q _ h9 => hFc q.1 h9)
      clear ht
      generalize H1 = H_6 at hP_2 hS_1 ⊢
      exact r2_v hx hb hr hk hS_1 dX0_search_68 (fun t ht hW => ⟨v3, f0_solved, ai4, al5, ⟨(by first | omega | decide | exact Or.inl (by decide) | exact Or.inr (by decide) | exact Or.inr (by omega)), (by first | omega | decide | exact Or.inl (by decide) | exact Or.inr (by decide) | exact Or.inr (by omega)), hI_2, hF_3, hG_4⟩, by rw [ht]; exact hP_2, va_K.moved hW.alike hK, hD_5⟩)
    · have c1 := j_nle (a := f3_unknowns.toInt) (b := L1.toInt) rfl rfl c1
      refine lv_aload_n hx hb dX0_search_30 rfl (lv_at hl 0 rfl) ?_
      refine gf (k := 3) hx hb hts inX0 hown hK hP k_159 rfl (by decide) rfl 25 rfl (.ref (ad 27)) rfl dX0_search_31 ?_
      refine lv_iload_n hx hb dX0_search_34 rfl (lv_at hl 1 rfl) ?_
      refine lv_aload_n hx hb dX0_search_35 rfl (lv_at hl 0 rfl) ?_
      refine lv_iload_n hx hb dX0_search_36 rfl (lv_at hl 1 rfl) ?_
      have hM := m091_X0_reachOf l dC dI cI cJ cII cJJ H.size 0 ad f3_unknowns f3_equations f2_roundSupports f2_stale f7_size f1_size f5_keptSize f5_aheadSize f0_solved f4_blockCount f4_blockLength f4_lastIsFree f4_stale ai al w0 w1 w2 w3 L1 (by omega) (by omega) (by omega) (by omega) (by omega) (by omega) (by omega) (by omega) (by omega) (by omega) (by omega) (by omega) hI hw_w0 hw_w1 hw_w2 hw_w3
      refine k2V_i (q0 := 25) ⟨hx, hb, hml, hown, hts⟩ hK hP hD hS hA hX cv_RX0_47 hM ⟨by decide +kernel, by decide +kernel⟩ rfl rfl (Or.inl rfl) (rest := [.int L1, .ref (ad 27)]) rfl rfl rfl hl.1 rfl (Nat.le_of_ble_eq_true rfl) dX0_search_37 ⟨Nat.le_of_ble_eq_true rfl, Nat.le_of_ble_eq_true rfl⟩ (fun r6 t H1 locs_7 ht hB hS_7 hFc => ?_)
      obtain ⟨gpr6_0, hP_8, -, hD_8⟩ := hB
      rw [ht] at hP_8
      have hD_9 := hD_8.weaken (B := A) (fun k q _ h9 => hFc q.1 h9)
      clear ht
      generalize H1 = H_10 at hP_8 hS_7 ⊢
      refine va_iast hx hb hK hP_8 hD_9 hS_7 27 0 rfl rfl (j_in (a := L1.toInt) rfl (by omega) (by omega)) dX0_search_40 (fun H_11 locs_11 hP_11 hD_11 hS_11 => ?_)
      obtain ⟨ai7, e_ai7⟩ : ∃ q : Nat → Nat → Int32, q = va_up ai 27 (upd (ai 27) L1.toNatClampNeg r6) := ⟨_, rfl⟩
      have hF_12 := FR_st hF e_ai7 (by decide)
      have hI_13 : IAX ai7 := by rw [e_ai7]; exact IAX_st27 hI (a := r6.toInt) rfl (by omega) (by omega)
      have hP_14 : va_P (dC, dI) vwCl (WX cI cJ cII cJJ ad f3_unknowns f3_equations f2_roundSupports f2_stale f7_size f1_size f5_keptSize f5_aheadSize f0_solved f4_blockCount f4_blockLength f4_lastIsFree f4_stale ai7 al w0 w1 w2 w3) H_11 := by rw [e_ai7]; exact hP_11
      have hD_15 : va_D A (WX cI cJ cII cJJ ad f3_unknowns f3_equations f2_roundSupports f2_stale f7_size f1_size f5_keptSize f5_aheadSize f0_solved f4_blockCount f4_blockLength f4_lastIsFree f4_stale ai7 al w0 w1 w2 w3) := by rw [e_ai7]; exact hD_11
      refine lv_aload_n hx hb dX0_search_41 rfl (lv_at hl 0 rfl) ?_
      refine gf (k := 2) hx hb hts inX0 hown hK hP_14 k_158 rfl (by decide) rfl 25 rfl (.ref (ad 26)) rfl dX0_search_42 ?_
      refine lv_iload_n hx hb dX0_search_45 rfl (lv_at hl 1 rfl) ?_
      refine va_iald hx hb hK hP_14 26 0 rfl rfl (j_in (a := L1.toInt) rfl (by omega) (by omega)) dX0_search_46 ?_
      refine lv_topi (fun z8 e_z8 => ?_)
      have g_z8 : -6 ≤ z8.toInt ∧ z8.toInt ≤ 6 := by rw [e_z8]; exact IAX_at26 hI_13 _
      refine lv_if_eq (tgt := 55) hx hb dX0_search_47 (by decide) (fun c9 => ?_) (fun c9 => ?_)
      · have c9 := j_eq (a := z8.toInt) (b := 0) rfl (by decide +kernel) c9
        exact m106_X0_search_b55 C n ih L1 f7_size f0_solved ai7 al _ _ _ (by omega) (by omega) (by omega) (by omega) (by omega) (by omega) (by omega) (by omega) (by omega) (by omega) (by omega) (by omega) (by omega) (by omega) (by omega) hI_13 hF_12 hG hw_w0 hw_w1 hw_w2 hw_w3 hP_14 hD_15 hS_11 (lv_sub hl [0, 1] rfl)
      · have c9 := j_ne (a := z8.toInt) (b := 0) rfl (by decide +kernel) c9
        refine lv_aload_n hx hb dX0_search_50 rfl (lv_at hl 0 rfl) ?_
        refine lv_iload_n hx hb dX0_search_51 rfl (lv_at hl 1 rfl) ?_
        refine pf (k := 5) hx hb hts inX0 tyX0_ok nmX0 hown hK hP_14 hD_15 hS_11 k_161 rfl (by decide) rfl rfl 25 rfl rfl rfl (Nat.le_of_ble_eq_true rfl) dX0_search_52 (W' := (WX cI cJ cII cJJ ad f3_unknowns f3_equations f2_roundSupports f2_stale f7_size f1_size f5_keptSize f5_aheadSize L1 f4_blockCount f4_blockLength f4_lastIsFree f4_stale ai7 al w0 w1 w2 w3)) rfl (fun H_16 locs_16 hP_16 hD_16 hS_16 => ?_)
        exact m106_X0_search_b55 C n ih L1 f7_size L1 ai7 al _ _ _ (by omega) (by omega) (by omega) (by omega) (by omega) (by omega) (by omega) (by omega) (by omega) (by omega) (by omega) (by omega) (by omega) (by omega) (by omega) hI_13 hF_12 hG hw_w0 hw_w1 hw_w2 hw_w3 hP_16 hD_16 hS_16 (lv_sub hl [0, 1] rfl)
set_option maxRecDepth 100000 in
set_option maxHeartbeats 4000000 in
theorem m106_X0_search (l : Launch) (dC : Nat → ClassId) (dI : Nat → Nat → Nat) (cI cJ cII cJJ : ClassId) (sz g : Nat) (ad : Nat → Nat) (f3_unknowns f3_equations f2_roundSupports f2_stale f7_size f1_size f5_keptSize f5_aheadSize f0_solved f4_blockCount f4_blockLength f4_lastIsFree f4_stale : Int32) (ai : Nat → Nat → Int32) (al : Nat → Nat → Int64) (w0 w1 w2 w3 : Nat) (h_f3_unknowns : (1 ≤ f3_unknowns.toInt ∧ f3_unknowns.toInt ≤ 4)) (h_f3_equations : (0 ≤ f3_equations.toInt ∧ f3_equations.toInt ≤ 3)) (h_f2_stale : (0 ≤ f2_stale.toInt ∧ f2_stale.toInt ≤ 1)) (h_f7_size : (0 ≤ f7_size.toInt ∧ f7_size.toInt ≤ 256)) (h_f1_size : (0 ≤ f1_size.toInt ∧ f1_size.toInt ≤ 4)) (h_f5_keptSize : (0 ≤ f5_keptSize.toInt ∧ f5_keptSize.toInt ≤ 128)) (h_f5_aheadSize : (0 ≤ f5_aheadSize.toInt ∧ f5_aheadSize.toInt ≤ 128)) (h_f4_blockCount : (0 ≤ f4_blockCount.toInt ∧ f4_blockCount.toInt ≤ 9261)) (h_f4_blockLength : (0 ≤ f4_blockLength.toInt ∧ f4_blockLength.toInt ≤ 21)) (h_f4_lastIsFree : (0 ≤ f4_lastIsFree.toInt ∧ f4_lastIsFree.toInt ≤ 1)) (h_f4_stale : (0 ≤ f4_stale.toInt ∧ f4_stale.toInt ≤ 1)) (hI : IAX ai) (hw_w0 : RWX ad w0) (hw_w1 : RWX ad w1) (hw_w2 : RWX ad w2) (hw_w3 : RWX ad w3) : Met l yX0_search (.code yX0_search cX0_search 2 none :: TT) ({ frames := 12, cells := 0, slots := 0, locals := 680 } : Room) (PcS dC dI (TY cI cJ cII cJJ) [.ref (ad 25)] (WX cI cJ cII cJJ ad f3_unknowns f3_equations f2_roundSupports f2_stale f7_size f1_size f5_keptSize f5_aheadSize f0_solved f4_blockCount f4_blockLength f4_lastIsFree f4_stale ai al w0 w1 w2 w3) sz 0 g) (Q_m106_X0_search dC dI cI cJ cII cJJ ad f3_unknowns f3_equations f2_roundSupports f2_stale f1_size f5_keptSize f5_aheadSize f4_blockCount f4_blockLength f4_lastIsFree f4_stale ai al w0 w1 w2 w3 (va_A (WX cI cJ cII cJJ ad f3_unknowns f3_equations f2_roundSupports f2_stale f7_size f1_size f5_keptSize f5_aheadSize f0_solved f4_blockCount f4_blockLength f4_lastIsFree f4_stale ai al w0 w1 w2 w3) sz)) 0 0 (va_A (WX cI cJ cII cJJ ad f3_unknowns f3_equations f2_roundSupports f2_stale f7_size f1_size f5_keptSize f5_aheadSize f0_solved f4_blockCount f4_blockLength f4_lastIsFree f4_stale ai al w0 w1 w2 w3) sz) := by
  refine SM.of (y := yX0_search) (maxL := 2) (av := [.ref (ad 25)]) (Q_m106_X0_search dC dI cI cJ cII cJJ ad f3_unknowns f3_equations f2_roundSupports f2_stale f1_size f5_keptSize f5_aheadSize f4_blockCount f4_blockLength f4_lastIsFree f4_stale ai al w0 w1 w2 w3) (by decide +kernel) (Nat.le_of_ble_eq_true rfl) (fun p e s m below meth c A ls hx hb hr hml hown hts hk hnm hA hK hP hD hS hX hl => ?_)
  have C : Cx p c s m meth (([.ref (ad 25)] : List Value).toArray) A dC dI (TY cI cJ cII cJJ) cX0_search none 2 RX0 0 g := ⟨hx, hb, hr, hml, hown, hts, hk, hA, hK, hX⟩
  have hown : s.vm.findClass RX0 = some m.cls := hown
  have hl : lv_has ls 2 [(0, .ref (ad 25))] := hl
  obtain ⟨H, hH⟩ : ∃ q, q = s.heap := ⟨_, rfl⟩
  rw [← hH] at hP
  have hS : va_S A s.heap H [] := by rw [hH]; exact hS
  rw [← hH]
  have hF := FR_refl [26, 27, 28] ai
  have hG := FL_refl [13] al
  refine lv_aload_n hx hb dX0_search_0 rfl (lv_at hl 0 rfl) ?_
  have hM := m093_X0_chooseEquation l dC dI cI cJ cII cJJ H.size 0 ad f3_unknowns f3_equations f2_roundSupports f2_stale f7_size f1_size f5_keptSize f5_aheadSize f0_solved f4_blockCount f4_blockLength f4_lastIsFree f4_stale ai al w0 w1 w2 w3 (by omega) (by omega) (by omega) (by omega) (by omega) (by omega) (by omega) (by omega) (by omega) (by omega) (by omega) hI hw_w0 hw_w1 hw_w2 hw_w3
  refine k2V_v (q0 := 25) ⟨hx, hb, hml, hown, hts⟩ hK hP hD hS hA hX cv_RX0_29 hM ⟨by decide +kernel, by decide +kernel⟩ rfl rfl (Or.inl rfl) (rest := []) rfl rfl rfl hl.1 rfl (Nat.le_of_ble_eq_true rfl) dX0_search_1 ⟨Nat.le_of_ble_eq_true rfl, Nat.le_of_ble_eq_true rfl⟩ (fun t H1 locs_1 ht hB hS_1 hFc => ?_)
  obtain ⟨ai2, ⟨hI_2, hFr_r1⟩, hP_2, -, hD_2⟩ := hB
  have hF_3 := FR_tr hF hFr_r1 (by decide)
  rw [ht] at hP_2
  have hD_4 := hD_2.weaken (B := A) (fun k q _ h9 => hFc q.1 h9)
  clear ht
  generalize H1 = H_5 at hP_2 hS_1 ⊢
  refine lv_aload_n hx hb dX0_search_4 rfl (lv_at hl 0 rfl) ?_
  refine gf (k := 4) hx hb hts inX0 hown hK hP_2 k_160 rfl (by decide) rfl 25 rfl (.ref (ad 28)) rfl dX0_search_5 ?_
  refine lv_iconst (v := 0) hx hb dX0_search_8 (by decide) ?_
  have kc0 : (0 : Int32).toInt = 0 := by decide +kernel
  have hM := m098_J7_fill_53178 l dC dI cI cJ cII cJJ H_5.size 0 ad f3_unknowns f3_equations f2_roundSupports f2_stale f7_size f1_size f5_keptSize f5_aheadSize f0_solved f4_blockCount f4_blockLength f4_lastIsFree f4_stale ai2 al w0 w1 w2 w3 (by omega) (by omega) (by omega) (by omega) (by omega) (by omega) (by omega) (by omega) (by omega) (by omega) (by omega) hI_2 hw_w0 hw_w1 hw_w2 hw_w3
  refine k2S_v ⟨hx, hb, hml, hown, hts⟩ hK hP_2 hD_4 hS_1 hA hX cs_RX0_32 hM ⟨by decide +kernel, by decide +kernel⟩ rfl rfl (Or.inl rfl) (rest := []) rfl hl.1 rfl (Nat.le_of_ble_eq_true rfl) dX0_search_9 ⟨Nat.le_of_ble_eq_true rfl, Nat.le_of_ble_eq_true rfl⟩ (fun t H1 locs_6 ht hB hS_6 hFc => ?_)
  obtain ⟨ai4, ⟨hI_7, hFr_r3⟩, hP_7, -, hD_7⟩ := hB
  have hF_8 := FR_tr hF_3 hFr_r3 (by decide)
  rw [ht] at hP_7
  have hD_9 := hD_7.weaken (B := A) (fun k q _ h9 => hFc q.1 h9)
  clear ht
  generalize H1 = H_10 at hP_7 hS_6 ⊢
  refine lv_aload_n hx hb dX0_search_12 rfl (lv_at hl 0 rfl) ?_
  refine lv_iconst (v := (-1)) hx hb dX0_search_13 (by decide) ?_
  refine pf (k := 5) hx hb hts inX0 tyX0_ok nmX0 hown hK hP_7 hD_9 hS_6 k_161 rfl (by decide) rfl rfl 25 rfl rfl rfl (Nat.le_of_ble_eq_true rfl) dX0_search_14 (W' := (WX cI cJ cII cJJ ad f3_unknowns f3_equations f2_roundSupports f2_stale f7_size f1_size f5_keptSize f5_aheadSize (-1) f4_blockCount f4_blockLength f4_lastIsFree f4_stale ai4 al w0 w1 w2 w3)) rfl (fun H_11 locs_11 hP_11 hD_11 hS_11 => ?_)
  refine lv_iconst (v := 0) hx hb dX0_search_17 (by decide) ?_
  refine lv_istore_n (lv' := [(1, .int 0), (0, .ref (ad 25))]) hx hb dX0_search_18 rfl hl (by decide) rfl (fun ls_12 hl_12 => ?_)
  exact m106_X0_search_b19 C  _ 0 f7_size (-1) ai4 al _ _ _ (by first | omega | decide | (have ka0 := (by decide +kernel : ((-1) : Int32).toInt = (-1)); have ka1 := (by decide +kernel : (0 : Int32).toInt = 0); omega)) (by first | omega | decide | (have ka0 := (by decide +kernel : ((-1) : Int32).toInt = (-1)); have ka1 := (by decide +kernel : (0 : Int32).toInt = 0); omega)) (by first | omega | decide | (have ka0 := (by decide +kernel : ((-1) : Int32).toInt = (-1)); have ka1 := (by decide +kernel : (0 : Int32).toInt = 0); omega)) (by first | omega | decide | (have ka0 := (by decide +kernel : ((-1) : Int32).toInt = (-1)); have ka1 := (by decide +kernel : (0 : Int32).toInt = 0); omega)) (by first | omega | decide | (have ka0 := (by decide +kernel : ((-1) : Int32).toInt = (-1)); have ka1 := (by decide +kernel : (0 : Int32).toInt = 0); omega)) (by first | omega | decide | (have ka0 := (by decide +kernel : ((-1) : Int32).toInt = (-1)); have ka1 := (by decide +kernel : (0 : Int32).toInt = 0); omega)) (by first | omega | decide | (have ka0 := (by decide +kernel : ((-1) : Int32).toInt = (-1)); have ka1 := (by decide +kernel : (0 : Int32).toInt = 0); omega)) (by first | omega | decide | (have ka0 := (by decide +kernel : ((-1) : Int32).toInt = (-1)); have ka1 := (by decide +kernel : (0 : Int32).toInt = 0); omega)) (by first | omega | decide | (have ka0 := (by decide +kernel : ((-1) : Int32).toInt = (-1)); have ka1 := (by decide +kernel : (0 : Int32).toInt = 0); omega)) (by first | omega | decide | (have ka0 := (by decide +kernel : ((-1) : Int32).toInt = (-1)); have ka1 := (by decide +kernel : (0 : Int32).toInt = 0); omega)) (by first | omega | decide | (have ka0 := (by decide +kernel : ((-1) : Int32).toInt = (-1)); have ka1 := (by decide +kernel : (0 : Int32).toInt = 0); omega)) (by first | omega | decide | (have ka0 := (by decide +kernel : ((-1) : Int32).toInt = (-1)); have ka1 := (by decide +kernel : (0 : Int32).toInt = 0); omega)) (by first | omega | decide | (have ka0 := (by decide +kernel : ((-1) : Int32).toInt = (-1)); have ka1 := (by decide +kernel : (0 : Int32).toInt = 0); omega)) (j_fuel _) (by omega) hI_7 hF_8 hG hw_w0 hw_w1 hw_w2 hw_w3 hP_11 hD_11 hS_11 (lv_sub hl_12 [1, 0] rfl)
def Q_m107_X4_size (dC : Nat → ClassId) (dI : Nat → Nat → Nat) (cI cJ cII cJJ : ClassId) (ad : Nat → Nat) (f3_unknowns f3_equations f2_roundSupports f2_stale f7_size f1_size f5_keptSize f5_aheadSize f0_solved f4_blockCount f4_blockLength f4_lastIsFree f4_stale : Int32) (ai : Nat → Nat → Int32) (al : Nat → Nat → Int64) (w0 w1 w2 w3 : Nat) : (Nat → Prop) → Array Value → State → Outcome → State → Prop := fun A => QI (fun r t => ((0 ≤ r.toInt ∧ r.toInt ≤ 194481) ∧ r.toInt = f4_blockCount.toInt * f4_blockLength.toInt) ∧ WO dC dI (TY cI cJ cII cJJ) (WX cI cJ cII cJJ ad f3_unknowns f3_equations f2_roundSupports f2_stale f7_size f1_size f5_keptSize f5_aheadSize f0_solved f4_blockCount f4_blockLength f4_lastIsFree f4_stale ai al w0 w1 w2 w3) A t) A
set_option maxRecDepth 100000 in
set_option maxHeartbeats 4000000 in
theorem m107_X4_size (l : Launch) (dC : Nat → ClassId) (dI : Nat → Nat → Nat) (cI cJ cII cJJ : ClassId) (sz g : Nat) (ad : Nat → Nat) (f3_unknowns f3_equations f2_roundSupports f2_stale f7_size f1_size f5_keptSize f5_aheadSize f0_solved f4_blockCount f4_blockLength f4_lastIsFree f4_stale : Int32) (ai : Nat → Nat → Int32) (al : Nat → Nat → Int64) (w0 w1 w2 w3 : Nat) (h_f3_unknowns : (1 ≤ f3_unknowns.toInt ∧ f3_unknowns.toInt ≤ 4)) (h_f3_equations : (0 ≤ f3_equations.toInt ∧ f3_equations.toInt ≤ 3)) (h_f2_stale : (0 ≤ f2_stale.toInt ∧ f2_stale.toInt ≤ 1)) (h_f7_size : (0 ≤ f7_size.toInt ∧ f7_size.toInt ≤ 256)) (h_f1_size : (0 ≤ f1_size.toInt ∧ f1_size.toInt ≤ 4)) (h_f5_keptSize : (0 ≤ f5_keptSize.toInt ∧ f5_keptSize.toInt ≤ 128)) (h_f5_aheadSize : (0 ≤ f5_aheadSize.toInt ∧ f5_aheadSize.toInt ≤ 128)) (h_f4_blockCount : (0 ≤ f4_blockCount.toInt ∧ f4_blockCount.toInt ≤ 9261)) (h_f4_blockLength : (0 ≤ f4_blockLength.toInt ∧ f4_blockLength.toInt ≤ 21)) (h_f4_lastIsFree : (0 ≤ f4_lastIsFree.toInt ∧ f4_lastIsFree.toInt ≤ 1)) (h_f4_stale : (0 ≤ f4_stale.toInt ∧ f4_stale.toInt ≤ 1)) (hI : IAX ai) (hw_w0 : RWX ad w0) (hw_w1 : RWX ad w1) (hw_w2 : RWX ad w2) (hw_w3 : RWX ad w3) : Met l yX4_size (.code yX4_size cX4_size 1 (some .int) :: TT) ({ frames := 2, cells := 0, slots := 0, locals := 80 } : Room) (PcS dC dI (TY cI cJ cII cJJ) [.ref (ad 29)] (WX cI cJ cII cJJ ad f3_unknowns f3_equations f2_roundSupports f2_stale f7_size f1_size f5_keptSize f5_aheadSize f0_solved f4_blockCount f4_blockLength f4_lastIsFree f4_stale ai al w0 w1 w2 w3) sz 0 g) (Q_m107_X4_size dC dI cI cJ cII cJJ ad f3_unknowns f3_equations f2_roundSupports f2_stale f7_size f1_size f5_keptSize f5_aheadSize f0_solved f4_blockCount f4_blockLength f4_lastIsFree f4_stale ai al w0 w1 w2 w3 (va_A (WX cI cJ cII cJJ ad f3_unknowns f3_equations f2_roundSupports f2_stale f7_size f1_size f5_keptSize f5_aheadSize f0_solved f4_blockCount f4_blockLength f4_lastIsFree f4_stale ai al w0 w1 w2 w3) sz)) 0 0 (va_A (WX cI cJ cII cJJ ad f3_unknowns f3_equations f2_roundSupports f2_stale f7_size f1_size f5_keptSize f5_aheadSize f0_solved f4_blockCount f4_blockLength f4_lastIsFree f4_stale ai al w0 w1 w2 w3) sz) := by
  refine SM.of (y := yX4_size) (maxL := 1) (av := [.ref (ad 29)]) (Q_m107_X4_size dC dI cI cJ cII cJJ ad f3_unknowns f3_equations f2_roundSupports f2_stale f7_size f1_size f5_keptSize f5_aheadSize f0_solved f4_blockCount f4_blockLength f4_lastIsFree f4_stale ai al w0 w1 w2 w3) (by decide +kernel) (Nat.le_of_ble_eq_true rfl) (fun p e s m below meth c A ls hx hb hr hml hown hts hk hnm hA hK hP hD hS hX hl => ?_)
  have C : Cx p c s m meth (([.ref (ad 29)] : List Value).toArray) A dC dI (TY cI cJ cII cJJ) cX4_size (some .int) 1 RX4 0 g := ⟨hx, hb, hr, hml, hown, hts, hk, hA, hK, hX⟩
  have hown : s.vm.findClass RX4 = some m.cls := hown
  have hl : lv_has ls 1 [(0, .ref (ad 29))] := hl
  obtain ⟨H, hH⟩ : ∃ q, q = s.heap := ⟨_, rfl⟩
  rw [← hH] at hP
  have hS : va_S A s.heap H [] := by rw [hH]; exact hS
  rw [← hH]
  refine lv_aload_n hx hb dX4_size_0 rfl (lv_at hl 0 rfl) ?_
  refine gf (k := 8) hx hb hts inX4 hown hK hP k_213 rfl (by decide) rfl 29 rfl (.int f4_blockCount) rfl dX4_size_1 ?_
  refine lv_aload_n hx hb dX4_size_4 rfl (lv_at hl 0 rfl) ?_
  refine gf (k := 9) hx hb hts inX4 hown hK hP k_214 rfl (by decide) rfl 29 rfl (.int f4_blockLength) rfl dX4_size_5 ?_
  refine v_imul hx hb dX4_size_8 _ rfl ?_
  refine lv_topi (fun z1 e_z1 => ?_)
  have g_z1 : z1.toInt = f4_blockCount.toInt * f4_blockLength.toInt ∧ 0 ≤ z1.toInt ∧ z1.toInt ≤ 194481 := by rw [e_z1]; have q9 := n_mulnn (a := f4_blockCount.toInt) (b := f4_blockLength.toInt) (A := 9261) (B := 21) rfl rfl (by omega) (by omega) (by omega) (by omega) (by decide); omega
  exact r2_i hx hb hr hk hS dX4_size_9 (fun t ht hW => ⟨⟨(by first | omega | decide | exact Or.inl (by decide) | exact Or.inr (by decide) | exact Or.inr (by omega)), (by first | omega | decide | exact Or.inl (by decide) | exact Or.inr (by decide) | exact Or.inr (by omega))⟩, by rw [ht]; exact hP, va_K.moved hW.alike hK, hD⟩)
def Q_m108_X4_isNumber (dC : Nat → ClassId) (dI : Nat → Nat → Nat) (cI cJ cII cJJ : ClassId) (ad : Nat → Nat) (f3_unknowns f3_equations f2_roundSupports f2_stale f7_size f1_size f5_keptSize f5_aheadSize f0_solved f4_blockCount f4_blockLength f4_lastIsFree f4_stale : Int32) (ai : Nat → Nat → Int32) (al : Nat → Nat → Int64) (w0 w1 w2 w3 : Nat) (x1 : Int32) : (Nat → Prop) → Array Value → State → Outcome → State → Prop := fun A => QI (fun r t => ((0 ≤ r.toInt ∧ r.toInt ≤ 1) ∧ (r.toInt = 0 ∨ (0 ≤ x1.toInt ∧ x1.toInt < f4_blockCount.toInt * f4_blockLength.toInt ∧ x1.toInt ≤ 194480))) ∧ WO dC dI (TY cI cJ cII cJJ) (WX cI cJ cII cJJ ad f3_unknowns f3_equations f2_roundSupports f2_stale f7_size f1_size f5_keptSize f5_aheadSize f0_solved f4_blockCount f4_blockLength f4_lastIsFree f4_stale ai al w0 w1 w2 w3) A t) A
set_option maxRecDepth 100000 in
set_option maxHeartbeats 4000000 in
theorem m108_X4_isNumber_b16 {p : Program} {l : Launch} {e : Env} {s : State} {m : MethodId} {args : Array Value} {below : List Frame} {meth : Method} {c : Code} {A : Nat → Prop} {dC : Nat → ClassId} {dI : Nat → Nat → Nat} {cI cJ cII cJJ : ClassId} {ad : Nat → Nat} {g : Nat} {f3_unknowns f3_equations f2_roundSupports f2_stale f7_size f1_size f5_keptSize f5_aheadSize f0_solved f4_blockCount f4_blockLength f4_lastIsFree f4_stale : Int32} {ai : Nat → Nat → Int32} {al : Nat → Nat → Int64} {w0 w1 w2 w3 : Nat} {x1 : Int32} (C : Cx p c s m meth args A dC dI (TY cI cJ cII cJJ) cX4_isNumber (some .boolean) 2 RX4 0 g) : ∀ (L1 : Int32) (H : Heap) (locs : List Loc) (ls : Array Slot), (1 ≤ f3_unknowns.toInt ∧ f3_unknowns.toInt ≤ 4) → (0 ≤ f3_equations.toInt ∧ f3_equations.toInt ≤ 3) → (0 ≤ f2_stale.toInt ∧ f2_stale.toInt ≤ 1) → (0 ≤ f7_size.toInt ∧ f7_size.toInt ≤ 256) → (0 ≤ f1_size.toInt ∧ f1_size.toInt ≤ 4) → (0 ≤ f5_keptSize.toInt ∧ f5_keptSize.toInt ≤ 128) → (0 ≤ f5_aheadSize.toInt ∧ f5_aheadSize.toInt ≤ 128) → (0 ≤ f4_blockCount.toInt ∧ f4_blockCount.toInt ≤ 9261) → (0 ≤ f4_blockLength.toInt ∧ f4_blockLength.toInt ≤ 21) → (0 ≤ f4_lastIsFree.toInt ∧ f4_lastIsFree.toInt ≤ 1) → (0 ≤ f4_stale.toInt ∧ f4_stale.toInt ≤ 1) → IAX ai → RWX ad w0 → RWX ad w1 → RWX ad w2 → RWX ad w3 → va_P (dC, dI) vwCl (WX cI cJ cII cJJ ad f3_unknowns f3_equations f2_roundSupports f2_stale f7_size f1_size f5_keptSize f5_aheadSize f0_solved f4_blockCount f4_blockLength f4_lastIsFree f4_stale ai al w0 w1 w2 w3) H → va_D A (WX cI cJ cII cJJ ad f3_unknowns f3_equations f2_roundSupports f2_stale f7_size f1_size f5_keptSize f5_aheadSize f0_solved f4_blockCount f4_blockLength f4_lastIsFree f4_stale ai al w0 w1 w2 w3) → va_S A s.heap H locs → lv_has ls 2 [(0, .ref (ad 29)), (1, .int L1)] → W p l e ({ frames := 3, cells := 0, slots := 0, locals := 140 } : Room) s m args below meth c H locs 0 0 (MQ below (Q_m108_X4_isNumber dC dI cI cJ cII cJJ ad f3_unknowns f3_equations f2_roundSupports f2_stale f7_size f1_size f5_keptSize f5_aheadSize f0_solved f4_blockCount f4_blockLength f4_lastIsFree f4_stale ai al w0 w1 w2 w3 x1 A) args s 0 0 A) (F0 m 16 ls []) := by
  obtain ⟨hx, hb, hr, hml, hown, hts, hk, hA, hK, hX⟩ := id C
  intro L1 H locs ls h0 h1 h2 h3 h4 h5 h6 h7 h8 h9 h10 hI hw_w0 hw_w1 hw_w2 hw_w3 hP hD hS hl
  have ra_L1 := s_any L1
  refine lv_iconst (v := 0) hx hb dX4_isNumber_16 (by decide) ?_
  exact r2_z hx hb hr hk hS dX4_isNumber_17 rfl (fun t ht hW => ⟨⟨(by first | omega | decide | exact Or.inl (by decide) | exact Or.inr (by decide) | exact Or.inr (by omega)), (by have kr0 : (0 : Int32).toInt = 0 := (by decide); first | omega | decide | exact Or.inl (by decide) | exact Or.inr (by decide) | exact Or.inr (by omega))⟩, by rw [ht]; exact hP, va_K.moved hW.alike hK, hD⟩)
set_option maxRecDepth 100000 in
set_option maxHeartbeats 4000000 in
theorem m108_X4_isNumber (l : Launch) (dC : Nat → ClassId) (dI : Nat → Nat → Nat) (cI cJ cII cJJ : ClassId) (sz g : Nat) (ad : Nat → Nat) (f3_unknowns f3_equations f2_roundSupports f2_stale f7_size f1_size f5_keptSize f5_aheadSize f0_solved f4_blockCount f4_blockLength f4_lastIsFree f4_stale : Int32) (ai : Nat → Nat → Int32) (al : Nat → Nat → Int64) (w0 w1 w2 w3 : Nat) (x1 : Int32) (h_f3_unknowns : (1 ≤ f3_unknowns.toInt ∧ f3_unknowns.toInt ≤ 4)) (h_f3_equations : (0 ≤ f3_equations.toInt ∧ f3_equations.toInt ≤ 3)) (h_f2_stale : (0 ≤ f2_stale.toInt ∧ f2_stale.toInt ≤ 1)) (h_f7_size : (0 ≤ f7_size.toInt ∧ f7_size.toInt ≤ 256)) (h_f1_size : (0 ≤ f1_size.toInt ∧ f1_size.toInt ≤ 4)) (h_f5_keptSize : (0 ≤ f5_keptSize.toInt ∧ f5_keptSize.toInt ≤ 128)) (h_f5_aheadSize : (0 ≤ f5_aheadSize.toInt ∧ f5_aheadSize.toInt ≤ 128)) (h_f4_blockCount : (0 ≤ f4_blockCount.toInt ∧ f4_blockCount.toInt ≤ 9261)) (h_f4_blockLength : (0 ≤ f4_blockLength.toInt ∧ f4_blockLength.toInt ≤ 21)) (h_f4_lastIsFree : (0 ≤ f4_lastIsFree.toInt ∧ f4_lastIsFree.toInt ≤ 1)) (h_f4_stale : (0 ≤ f4_stale.toInt ∧ f4_stale.toInt ≤ 1)) (hI : IAX ai) (hw_w0 : RWX ad w0) (hw_w1 : RWX ad w1) (hw_w2 : RWX ad w2) (hw_w3 : RWX ad w3) : Met l yX4_isNumber (.code yX4_isNumber cX4_isNumber 2 (some .boolean) :: TT) ({ frames := 3, cells := 0, slots := 0, locals := 140 } : Room) (PcS dC dI (TY cI cJ cII cJJ) [.ref (ad 29), .int x1] (WX cI cJ cII cJJ ad f3_unknowns f3_equations f2_roundSupports f2_stale f7_size f1_size f5_keptSize f5_aheadSize f0_solved f4_blockCount f4_blockLength f4_lastIsFree f4_stale ai al w0 w1 w2 w3) sz 0 g) (Q_m108_X4_isNumber dC dI cI cJ cII cJJ ad f3_unknowns f3_equations f2_roundSupports f2_stale f7_size f1_size f5_keptSize f5_aheadSize f0_solved f4_blockCount f4_blockLength f4_lastIsFree f4_stale ai al w0 w1 w2 w3 x1 (va_A (WX cI cJ cII cJJ ad f3_unknowns f3_equations f2_roundSupports f2_stale f7_size f1_size f5_keptSize f5_aheadSize f0_solved f4_blockCount f4_blockLength f4_lastIsFree f4_stale ai al w0 w1 w2 w3) sz)) 0 0 (va_A (WX cI cJ cII cJJ ad f3_unknowns f3_equations f2_roundSupports f2_stale f7_size f1_size f5_keptSize f5_aheadSize f0_solved f4_blockCount f4_blockLength f4_lastIsFree f4_stale ai al w0 w1 w2 w3) sz) := by
  refine SM.of (y := yX4_isNumber) (maxL := 2) (av := [.ref (ad 29), .int x1]) (Q_m108_X4_isNumber dC dI cI cJ cII cJJ ad f3_unknowns f3_equations f2_roundSupports f2_stale f7_size f1_size f5_keptSize f5_aheadSize f0_solved f4_blockCount f4_blockLength f4_lastIsFree f4_stale ai al w0 w1 w2 w3 x1) (by decide +kernel) (Nat.le_of_ble_eq_true rfl) (fun p e s m below meth c A ls hx hb hr hml hown hts hk hnm hA hK hP hD hS hX hl => ?_)
  have C : Cx p c s m meth (([.ref (ad 29), .int x1] : List Value).toArray) A dC dI (TY cI cJ cII cJJ) cX4_isNumber (some .boolean) 2 RX4 0 g := ⟨hx, hb, hr, hml, hown, hts, hk, hA, hK, hX⟩
  have hown : s.vm.findClass RX4 = some m.cls := hown
  have hl : lv_has ls 2 [(0, .ref (ad 29)), (1, .int x1)] := hl
  obtain ⟨H, hH⟩ : ∃ q, q = s.heap := ⟨_, rfl⟩
  rw [← hH] at hP
  have hS : va_S A s.heap H [] := by rw [hH]; exact hS
  rw [← hH]
  have ra_x1 := s_any x1
  refine lv_iload_n hx hb dX4_isNumber_0 rfl (lv_at hl 1 rfl) ?_
  refine lv_if_lt (tgt := 16) hx hb dX4_isNumber_1 (by decide) (fun c1 => ?_) (fun c1 => ?_)
  · have c1 := j_lt (a := x1.toInt) (b := 0) rfl (by decide +kernel) c1
    exact m108_X4_isNumber_b16 C  x1 _ _ _ (by omega) (by omega) (by omega) (by omega) (by omega) (by omega) (by omega) (by omega) (by omega) (by omega) (by omega) hI hw_w0 hw_w1 hw_w2 hw_w3 hP hD hS (lv_sub hl [0, 1] rfl)
  · have c1 := j_nlt (a := x1.toInt) (b := 0) rfl (by decide +kernel) c1
    refine lv_iload_n hx hb dX4_isNumber_4 rfl (lv_at hl 1 rfl) ?_
    refine lv_aload_n hx hb dX4_isNumber_5 rfl (lv_at hl 0 rfl) ?_
    have hM := m107_X4_size l dC dI cI cJ cII cJJ H.size 0 ad f3_unknowns f3_equations f2_roundSupports f2_stale f7_size f1_size f5_keptSize f5_aheadSize f0_solved f4_blockCount f4_blockLength f4_lastIsFree f4_stale ai al w0 w1 w2 w3 (by omega) (by omega) (by omega) (by omega) (by omega) (by omega) (by omega) (by omega) (by omega) (by omega) (by omega) hI hw_w0 hw_w1 hw_w2 hw_w3
    refine k2V_i (q0 := 29) ⟨hx, hb, hml, hown, hts⟩ hK hP hD hS hA hX cv_RX4_81 hM ⟨by decide +kernel, by decide +kernel⟩ rfl rfl (Or.inl rfl) (rest := [.int x1]) rfl rfl rfl hl.1 rfl (Nat.le_of_ble_eq_true rfl) dX4_isNumber_6 ⟨Nat.le_of_ble_eq_true rfl, Nat.le_of_ble_eq_true rfl⟩ (fun r2 t H1 locs_1 ht hB hS_1 hFc => ?_)
    obtain ⟨⟨gpr2_0, gpr2_1⟩, hP_2, -, hD_2⟩ := hB
    rw [ht] at hP_2
    have hD_3 := hD_2.weaken (B := A) (fun k q _ h9 => hFc q.1 h9)
    clear ht
    generalize H1 = H_4 at hP_2 hS_1 ⊢
    refine lv_icmp_ge (tgt := 16) hx hb dX4_isNumber_9 (by decide) (fun c3 => ?_) (fun c3 => ?_)
    · have c3 := j_le (a := r2.toInt) (b := x1.toInt) rfl rfl c3
      exact m108_X4_isNumber_b16 C  x1 _ _ _ (by omega) (by omega) (by omega) (by omega) (by omega) (by omega) (by omega) (by omega) (by omega) (by omega) (by omega) hI hw_w0 hw_w1 hw_w2 hw_w3 hP_2 hD_3 hS_1 (lv_sub hl [0, 1] rfl)
    · have c3 := j_nle (a := r2.toInt) (b := x1.toInt) rfl rfl c3
      refine lv_iconst (v := 1) hx hb dX4_isNumber_12 (by decide) ?_
      refine lv_goto (tgt := 17) hx hb dX4_isNumber_13 (by decide) ?_
      exact r2_z hx hb hr hk hS_1 dX4_isNumber_17 rfl (fun t ht hW => ⟨⟨(by first | omega | decide | exact Or.inl (by decide) | exact Or.inr (by decide) | exact Or.inr (by omega)), (by have kr1 : (1 : Int32).toInt = 1 := (by decide); first | omega | decide | exact Or.inl (by decide) | exact Or.inr (by decide) | exact Or.inr (by omega))⟩, by rw [ht]; exact hP_2, va_K.moved hW.alike hK, hD_3⟩)
def Q_m109_X4_readBlock (dC : Nat → ClassId) (dI : Nat → Nat → Nat) (cI cJ cII cJJ : ClassId) (ad : Nat → Nat) (f3_unknowns f3_equations f2_roundSupports f2_stale f7_size f1_size f5_keptSize f5_aheadSize f0_solved f4_blockCount f4_blockLength f4_lastIsFree f4_stale : Int32) (ai0 : Nat → Nat → Int32) (al : Nat → Nat → Int64) (w0 w1 w2 w3 : Nat) : (Nat → Prop) → Array Value → State → Outcome → State → Prop := fun A => QV (fun t => ∃ (n_ai : Nat → Nat → Int32), (IAX n_ai ∧ FR [60] ai0 n_ai) ∧ WO dC dI (TY cI cJ cII cJJ) (WX cI cJ cII cJJ ad f3_unknowns f3_equations f2_roundSupports f2_stale f7_size f1_size f5_keptSize f5_aheadSize f0_solved f4_blockCount f4_blockLength f4_lastIsFree f4_stale n_ai al w0 w1 w2 w3) A t) A
set_option maxRecDepth 100000 in
set_option maxHeartbeats 4000000 in
theorem m109_X4_readBlock_b23 {p : Program} {l : Launch} {e : Env} {s : State} {m : MethodId} {args : Array Value} {below : List Frame} {meth : Method} {c : Code} {A : Nat → Prop} {dC : Nat → ClassId} {dI : Nat → Nat → Nat} {cI cJ cII cJJ : ClassId} {ad : Nat → Nat} {g : Nat} {f3_unknowns f3_equations f2_roundSupports f2_stale f7_size f1_size f5_keptSize f5_aheadSize f0_solved f4_blockCount f4_blockLength f4_lastIsFree f4_stale : Int32} {ai0 : Nat → Nat → Int32} {al : Nat → Nat → Int64} {w0 w1 w2 w3 : Nat} (C : Cx p c s m meth args A dC dI (TY cI cJ cII cJJ) cX4_readBlock none 5 RX4 0 g) : ∀ (n : Nat), ∀ (L1 L3 L4 : Int32) (ai : Nat → Nat → Int32) (H : Heap) (locs : List Loc) (ls : Array Slot), (0 ≤ L1.toInt ∧ L1.toInt ≤ 9260) → (-1 ≤ L4.toInt ∧ L4.toInt ≤ 3) → (1 ≤ f3_unknowns.toInt ∧ f3_unknowns.toInt ≤ 4) → (0 ≤ f3_equations.toInt ∧ f3_equations.toInt ≤ 3) → (0 ≤ f2_stale.toInt ∧ f2_stale.toInt ≤ 1) → (0 ≤ f7_size.toInt ∧ f7_size.toInt ≤ 256) → (0 ≤ f1_size.toInt ∧ f1_size.toInt ≤ 4) → (0 ≤ f5_keptSize.toInt ∧ f5_keptSize.toInt ≤ 128) → (0 ≤ f5_aheadSize.toInt ∧ f5_aheadSize.toInt ≤ 128) → (0 ≤ f4_blockCount.toInt ∧ f4_blockCount.toInt ≤ 9261) → (0 ≤ f4_blockLength.toInt ∧ f4_blockLength.toInt ≤ 21) → (0 ≤ f4_lastIsFree.toInt ∧ f4_lastIsFree.toInt ≤ 1) → (0 ≤ f4_stale.toInt ∧ f4_stale.toInt ≤ 1) → L4.toInt + 1 < (n : Int) → (0 : Int) < (n : Int) → IAX ai → FR [60] ai0 ai → RWX ad w0 → RWX ad w1 → RWX ad w2 → RWX ad w3 → va_P (dC, dI) vwCl (WX cI cJ cII cJJ ad f3_unknowns f3_equations f2_roundSupports f2_stale f7_size f1_size f5_keptSize f5_aheadSize f0_solved f4_blockCount f4_blockLength f4_lastIsFree f4_stale ai al w0 w1 w2 w3) H → va_D A (WX cI cJ cII cJJ ad f3_unknowns f3_equations f2_roundSupports f2_stale f7_size f1_size f5_keptSize f5_aheadSize f0_solved f4_blockCount f4_blockLength f4_lastIsFree f4_stale ai al w0 w1 w2 w3) → va_S A s.heap H locs → lv_has ls 5 [(0, .ref (ad 29)), (1, .int L1), (2, .ref (ad 60)), (3, .int L3), (4, .int L4)] → W p l e ({ frames := 3, cells := 0, slots := 0, locals := 140 } : Room) s m args below meth c H locs 0 0 (MQ below (Q_m109_X4_readBlock dC dI cI cJ cII cJJ ad f3_unknowns f3_equations f2_roundSupports f2_stale f7_size f1_size f5_keptSize f5_aheadSize f0_solved f4_blockCount f4_blockLength f4_lastIsFree f4_stale ai0 al w0 w1 w2 w3 A) args s 0 0 A) (F0 m 23 ls []) := by
  obtain ⟨hx, hb, hr, hml, hown, hts, hk, hA, hK, hX⟩ := id C
  intro n
  induction n with
  | zero =>
    intro L1 L3 L4 ai H locs ls h0 h1 h2 h3 h4 h5 h6 h7 h8 h9 h10 h11 h12 h13 h14 hI hF hw_w0 hw_w1 hw_w2 hw_w3 hP hD hS hl
    exact absurd h14 (by omega)
  | succ n ih =>
    intro L1 L3 L4 ai H locs ls h0 h1 h2 h3 h4 h5 h6 h7 h8 h9 h10 h11 h12 h13 h14 hI hF hw_w0 hw_w1 hw_w2 hw_w3 hP hD hS hl
    have ra_L3 := s_any L3
    refine lv_iload hx hb dX4_readBlock_23 (lv_at hl 4 rfl) ?_
    refine lv_if_lt (tgt := 50) hx hb dX4_readBlock_25 (by decide) (fun c1 => ?_) (fun c1 => ?_)
    · have c1 := j_lt (a := L4.toInt) (b := 0) rfl (by decide +kernel) c1
      exact r2_v hx hb hr hk hS dX4_readBlock_50 (fun t ht hW => ⟨ai, ⟨hI, hF⟩, by rw [ht]; exact hP, va_K.moved hW.alike hK, hD⟩)
    · have c1 := j_nlt (a := L4.toInt) (b := 0) rfl (by decide +kernel) c1
      refine lv_aload_n hx hb dX4_readBlock_28 rfl (lv_at hl 2 rfl) ?_
      refine lv_iload hx hb dX4_readBlock_29 (lv_at hl 4 rfl) ?_
      refine lv_iload_n hx hb dX4_readBlock_31 rfl (lv_at hl 3 rfl) ?_
      refine lv_bipush (v := 21) hx hb dX4_readBlock_32 (by decide) ?_
      refine v_irem hx hb dX4_readBlock_34 (by decide +kernel) _ rfl ?_
      refine lv_topi (fun z2 e_z2 => ?_)
      refine lv_bipush (v := 10) hx hb dX4_readBlock_35 (by decide) ?_
      refine v_isub hx hb dX4_readBlock_37 _ rfl ?_
      refine lv_topi (fun z3 e_z3 => ?_)
      refine va_iast hx hb hK hP hD hS 60 0 rfl rfl (j_in (a := L4.toInt) rfl (by omega) (by omega)) dX4_readBlock_38 (fun H_1 locs_1 hP_1 hD_1 hS_1 => ?_)
      obtain ⟨ai4, e_ai4⟩ : ∃ q : Nat → Nat → Int32, q = va_up ai 60 (upd (ai 60) L4.toNatClampNeg z3) := ⟨_, rfl⟩
      have hF_2 := FR_st hF e_ai4 (by decide)
      have hI_3 : IAX ai4 := by rw [e_ai4]; exact hI
      have hP_4 : va_P (dC, dI) vwCl (WX cI cJ cII cJJ ad f3_unknowns f3_equations f2_roundSupports f2_stale f7_size f1_size f5_keptSize f5_aheadSize f0_solved f4_blockCount f4_blockLength f4_lastIsFree f4_stale ai4 al w0 w1 w2 w3) H_1 := by rw [e_ai4]; exact hP_1
      have hD_5 : va_D A (WX cI cJ cII cJJ ad f3_unknowns f3_equations f2_roundSupports f2_stale f7_size f1_size f5_keptSize f5_aheadSize f0_solved f4_blockCount f4_blockLength f4_lastIsFree f4_stale ai4 al w0 w1 w2 w3) := by rw [e_ai4]; exact hD_1
      refine lv_iload_n hx hb dX4_readBlock_39 rfl (lv_at hl 3 rfl) ?_
      refine lv_bipush (v := 21) hx hb dX4_readBlock_40 (by decide) ?_
      refine v_idiv hx hb dX4_readBlock_42 (by decide +kernel) _ rfl ?_
      refine lv_topi (fun z5 e_z5 => ?_)
      refine lv_istore_n (lv' := [(3, .int z5), (0, .ref (ad 29)), (1, .int L1), (2, .ref (ad 60)), (4, .int L4)]) hx hb dX4_readBlock_43 rfl hl (by decide) rfl (fun ls_6 hl_6 => ?_)
      obtain ⟨z6, e_z6⟩ : ∃ q : Int32, q = L4 + Int32.ofInt (-1) := ⟨_, rfl⟩
      have g_z6 : z6.toInt = L4.toInt + (-1) := by rw [e_z6]; exact n_add (a := L4.toInt) (b := (-1)) rfl (by decide +kernel) (by omega) (by omega)
      refine lv_iinc (v := z6) (lv' := [(4, .int z6), (3, .int z5), (0, .ref (ad 29)), (1, .int L1), (2, .ref (ad 60))]) hx hb dX4_readBlock_44 hl_6 (k := 4) rfl e_z6.symm (by decide) rfl (fun ls_7 hl_7 => ?_)
      refine lv_goto (tgt := 23) hx hb dX4_readBlock_47 (by decide) ?_
      exact ih L1 z5 z6 ai4 _ _ _ (by omega) (by omega) (by omega) (by omega) (by omega) (by omega) (by omega) (by omega) (by omega) (by omega) (by omega) (by omega) (by omega) (by omega) (by omega) hI_3 hF_2 hw_w0 hw_w1 hw_w2 hw_w3 hP_4 hD_5 hS_1 (lv_sub hl_7 [2, 3, 4, 1, 0] rfl)
set_option maxRecDepth 100000 in
set_option maxHeartbeats 4000000 in
theorem m109_X4_readBlock (l : Launch) (dC : Nat → ClassId) (dI : Nat → Nat → Nat) (cI cJ cII cJJ : ClassId) (sz g : Nat) (ad : Nat → Nat) (f3_unknowns f3_equations f2_roundSupports f2_stale f7_size f1_size f5_keptSize f5_aheadSize f0_solved f4_blockCount f4_blockLength f4_lastIsFree f4_stale : Int32) (ai : Nat → Nat → Int32) (al : Nat → Nat → Int64) (w0 w1 w2 w3 : Nat) (x1 : Int32) (h_x1 : (0 ≤ x1.toInt ∧ x1.toInt ≤ 9260)) (h_f3_unknowns : (1 ≤ f3_unknowns.toInt ∧ f3_unknowns.toInt ≤ 4)) (h_f3_equations : (0 ≤ f3_equations.toInt ∧ f3_equations.toInt ≤ 3)) (h_f2_stale : (0 ≤ f2_stale.toInt ∧ f2_stale.toInt ≤ 1)) (h_f7_size : (0 ≤ f7_size.toInt ∧ f7_size.toInt ≤ 256)) (h_f1_size : (0 ≤ f1_size.toInt ∧ f1_size.toInt ≤ 4)) (h_f5_keptSize : (0 ≤ f5_keptSize.toInt ∧ f5_keptSize.toInt ≤ 128)) (h_f5_aheadSize : (0 ≤ f5_aheadSize.toInt ∧ f5_aheadSize.toInt ≤ 128)) (h_f4_blockCount : (0 ≤ f4_blockCount.toInt ∧ f4_blockCount.toInt ≤ 9261)) (h_f4_blockLength : (0 ≤ f4_blockLength.toInt ∧ f4_blockLength.toInt ≤ 21)) (h_f4_lastIsFree : (0 ≤ f4_lastIsFree.toInt ∧ f4_lastIsFree.toInt ≤ 1)) (h_f4_stale : (0 ≤ f4_stale.toInt ∧ f4_stale.toInt ≤ 1)) (hI : IAX ai) (hw_w0 : RWX ad w0) (hw_w1 : RWX ad w1) (hw_w2 : RWX ad w2) (hw_w3 : RWX ad w3) : Met l yX4_readBlock (.code yX4_readBlock cX4_readBlock 5 none :: TT) ({ frames := 3, cells := 0, slots := 0, locals := 140 } : Room) (PcS dC dI (TY cI cJ cII cJJ) [.ref (ad 29), .int x1, .ref (ad 60)] (WX cI cJ cII cJJ ad f3_unknowns f3_equations f2_roundSupports f2_stale f7_size f1_size f5_keptSize f5_aheadSize f0_solved f4_blockCount f4_blockLength f4_lastIsFree f4_stale ai al w0 w1 w2 w3) sz 0 g) (Q_m109_X4_readBlock dC dI cI cJ cII cJJ ad f3_unknowns f3_equations f2_roundSupports f2_stale f7_size f1_size f5_keptSize f5_aheadSize f0_solved f4_blockCount f4_blockLength f4_lastIsFree f4_stale ai al w0 w1 w2 w3 (va_A (WX cI cJ cII cJJ ad f3_unknowns f3_equations f2_roundSupports f2_stale f7_size f1_size f5_keptSize f5_aheadSize f0_solved f4_blockCount f4_blockLength f4_lastIsFree f4_stale ai al w0 w1 w2 w3) sz)) 0 0 (va_A (WX cI cJ cII cJJ ad f3_unknowns f3_equations f2_roundSupports f2_stale f7_size f1_size f5_keptSize f5_aheadSize f0_solved f4_blockCount f4_blockLength f4_lastIsFree f4_stale ai al w0 w1 w2 w3) sz) := by
  refine SM.of (y := yX4_readBlock) (maxL := 5) (av := [.ref (ad 29), .int x1, .ref (ad 60)]) (Q_m109_X4_readBlock dC dI cI cJ cII cJJ ad f3_unknowns f3_equations f2_roundSupports f2_stale f7_size f1_size f5_keptSize f5_aheadSize f0_solved f4_blockCount f4_blockLength f4_lastIsFree f4_stale ai al w0 w1 w2 w3) (by decide +kernel) (Nat.le_of_ble_eq_true rfl) (fun p e s m below meth c A ls hx hb hr hml hown hts hk hnm hA hK hP hD hS hX hl => ?_)
  have C : Cx p c s m meth (([.ref (ad 29), .int x1, .ref (ad 60)] : List Value).toArray) A dC dI (TY cI cJ cII cJJ) cX4_readBlock none 5 RX4 0 g := ⟨hx, hb, hr, hml, hown, hts, hk, hA, hK, hX⟩
  have hown : s.vm.findClass RX4 = some m.cls := hown
  have hl : lv_has ls 5 [(0, .ref (ad 29)), (1, .int x1), (2, .ref (ad 60))] := hl
  obtain ⟨H, hH⟩ : ∃ q, q = s.heap := ⟨_, rfl⟩
  rw [← hH] at hP
  have hS : va_S A s.heap H [] := by rw [hH]; exact hS
  rw [← hH]
  have hF := FR_refl [60] ai
  refine lv_aload_n hx hb dX4_readBlock_0 rfl (lv_at hl 0 rfl) ?_
  refine gf (k := 1) hx hb hts inX4 hown hK hP k_206 rfl (by decide) rfl 29 rfl (.ref (ad 30)) rfl dX4_readBlock_1 ?_
  refine lv_iload_n hx hb dX4_readBlock_4 rfl (lv_at hl 1 rfl) ?_
  refine va_iald hx hb hK hP 30 0 rfl rfl (j_in (a := x1.toInt) rfl (by omega) (by omega)) dX4_readBlock_5 ?_
  refine lv_topi (fun z1 e_z1 => ?_)
  refine lv_istore_n (lv' := [(3, .int z1), (0, .ref (ad 29)), (1, .int x1), (2, .ref (ad 60))]) hx hb dX4_readBlock_6 rfl hl (by decide) rfl (fun ls_1 hl_1 => ?_)
  refine lv_aload_n hx hb dX4_readBlock_7 rfl (lv_at hl_1 3 rfl) ?_
  refine lv_iconst (v := 0) hx hb dX4_readBlock_8 (by decide) ?_
  have kc0 : (0 : Int32).toInt = 0 := by decide +kernel
  have hM := m047_J7_fill_53178 l dC dI cI cJ cII cJJ H.size 0 ad f3_unknowns f3_equations f2_roundSupports f2_stale f7_size f1_size f5_keptSize f5_aheadSize f0_solved f4_blockCount f4_blockLength f4_lastIsFree f4_stale ai al w0 w1 w2 w3 (by omega) (by omega) (by omega) (by omega) (by omega) (by omega) (by omega) (by omega) (by omega) (by omega) (by omega) hI hw_w0 hw_w1 hw_w2 hw_w3
  refine k2S_v ⟨hx, hb, hml, hown, hts⟩ hK hP hD hS hA hX cs_RX4_110 hM ⟨by decide +kernel, by decide +kernel⟩ rfl rfl (Or.inl rfl) (rest := []) rfl hl_1.1 rfl (Nat.le_of_ble_eq_true rfl) dX4_readBlock_9 ⟨Nat.le_of_ble_eq_true rfl, Nat.le_of_ble_eq_true rfl⟩ (fun t H1 locs_2 ht hB hS_2 hFc => ?_)
  obtain ⟨ai3, ⟨hI_3, hFr_r2⟩, hP_3, -, hD_3⟩ := hB
  have hF_4 := FR_tr hF hFr_r2 (by decide)
  rw [ht] at hP_3
  have hD_5 := hD_3.weaken (B := A) (fun k q _ h9 => hFc q.1 h9)
  clear ht
  generalize H1 = H_6 at hP_3 hS_2 ⊢
  refine lv_aload_n hx hb dX4_readBlock_12 rfl (lv_at hl_1 1 rfl) ?_
  refine gf (k := 0) hx hb hts inX4 hown hK hP_3 k_205 rfl (by decide) rfl 29 rfl (.ref (ad 6)) rfl dX4_readBlock_13 ?_
  refine gf (k := 0) hx hb hts inX3 hown hK hP_3 k_39 rfl (by decide) rfl 6 rfl (.int f3_unknowns) rfl dX4_readBlock_16 ?_
  refine lv_iconst (v := 1) hx hb dX4_readBlock_19 (by decide) ?_
  refine v_isub hx hb dX4_readBlock_20 _ rfl ?_
  refine lv_topi (fun z4 e_z4 => ?_)
  have g_z4 : z4.toInt = f3_unknowns.toInt - 1 := by rw [e_z4]; exact n_sub (a := f3_unknowns.toInt) (b := 1) rfl (by decide +kernel) (by omega) (by omega)
  refine lv_istore (lv' := [(4, .int z4), (3, .int z1), (0, .ref (ad 29)), (1, .int x1), (2, .ref (ad 60))]) hx hb dX4_readBlock_21 hl_1 (by decide) rfl (fun ls_7 hl_7 => ?_)
  exact m109_X4_readBlock_b23 C  _ x1 z1 z4 ai3 _ _ _ (by omega) (by omega) (by omega) (by omega) (by omega) (by omega) (by omega) (by omega) (by omega) (by omega) (by omega) (by omega) (by omega) (j_fuel _) (by omega) hI_3 hF_4 hw_w0 hw_w1 hw_w2 hw_w3 hP_3 hD_5 hS_2 (lv_sub hl_7 [2, 3, 4, 1, 0] rfl)
def Q_m110_X4_read (dC : Nat → ClassId) (dI : Nat → Nat → Nat) (cI cJ cII cJJ : ClassId) (ad : Nat → Nat) (f3_unknowns f3_equations f2_roundSupports f2_stale f7_size f1_size f5_keptSize f5_aheadSize f0_solved f4_blockCount f4_blockLength f4_lastIsFree f4_stale : Int32) (ai0 : Nat → Nat → Int32) (al : Nat → Nat → Int64) (w0 w1 w2 w3 : Nat) : (Nat → Prop) → Array Value → State → Outcome → State → Prop := fun A => QV (fun t => ∃ (n_ai : Nat → Nat → Int32), (IAX n_ai ∧ FR [60] ai0 n_ai) ∧ WO dC dI (TY cI cJ cII cJJ) (WX cI cJ cII cJJ ad f3_unknowns f3_equations f2_roundSupports f2_stale f7_size f1_size f5_keptSize f5_aheadSize f0_solved f4_blockCount f4_blockLength f4_lastIsFree f4_stale n_ai al w0 w1 w2 w3) A t) A
set_option maxRecDepth 100000 in
set_option maxHeartbeats 4000000 in
theorem m110_X4_read (l : Launch) (dC : Nat → ClassId) (dI : Nat → Nat → Nat) (cI cJ cII cJJ : ClassId) (sz g : Nat) (ad : Nat → Nat) (f3_unknowns f3_equations f2_roundSupports f2_stale f7_size f1_size f5_keptSize f5_aheadSize f0_solved f4_blockCount f4_blockLength f4_lastIsFree f4_stale : Int32) (ai : Nat → Nat → Int32) (al : Nat → Nat → Int64) (w0 w1 w2 w3 : Nat) (x1 : Int32) (h_f3_unknowns : (1 ≤ f3_unknowns.toInt ∧ f3_unknowns.toInt ≤ 4)) (h_f3_equations : (0 ≤ f3_equations.toInt ∧ f3_equations.toInt ≤ 3)) (h_f2_stale : (0 ≤ f2_stale.toInt ∧ f2_stale.toInt ≤ 1)) (h_f7_size : (0 ≤ f7_size.toInt ∧ f7_size.toInt ≤ 256)) (h_f1_size : (0 ≤ f1_size.toInt ∧ f1_size.toInt ≤ 4)) (h_f5_keptSize : (0 ≤ f5_keptSize.toInt ∧ f5_keptSize.toInt ≤ 128)) (h_f5_aheadSize : (0 ≤ f5_aheadSize.toInt ∧ f5_aheadSize.toInt ≤ 128)) (h_f4_blockCount : (0 ≤ f4_blockCount.toInt ∧ f4_blockCount.toInt ≤ 9261)) (h_f4_blockLength : (0 ≤ f4_blockLength.toInt ∧ f4_blockLength.toInt ≤ 21)) (h_f4_lastIsFree : (0 ≤ f4_lastIsFree.toInt ∧ f4_lastIsFree.toInt ≤ 1)) (h_f4_stale : (0 ≤ f4_stale.toInt ∧ f4_stale.toInt ≤ 1)) (hp0 : 0 ≤ x1.toInt) (hp1 : x1.toInt < f4_blockCount.toInt * f4_blockLength.toInt) (hI : IAX ai) (hw_w0 : RWX ad w0) (hw_w1 : RWX ad w1) (hw_w2 : RWX ad w2) (hw_w3 : RWX ad w3) : Met l yX4_read (.code yX4_read cX4_read 3 none :: TT) ({ frames := 4, cells := 0, slots := 0, locals := 200 } : Room) (PcS dC dI (TY cI cJ cII cJJ) [.ref (ad 29), .int x1, .ref (ad 60)] (WX cI cJ cII cJJ ad f3_unknowns f3_equations f2_roundSupports f2_stale f7_size f1_size f5_keptSize f5_aheadSize f0_solved f4_blockCount f4_blockLength f4_lastIsFree f4_stale ai al w0 w1 w2 w3) sz 0 g) (Q_m110_X4_read dC dI cI cJ cII cJJ ad f3_unknowns f3_equations f2_roundSupports f2_stale f7_size f1_size f5_keptSize f5_aheadSize f0_solved f4_blockCount f4_blockLength f4_lastIsFree f4_stale ai al w0 w1 w2 w3 (va_A (WX cI cJ cII cJJ ad f3_unknowns f3_equations f2_roundSupports f2_stale f7_size f1_size f5_keptSize f5_aheadSize f0_solved f4_blockCount f4_blockLength f4_lastIsFree f4_stale ai al w0 w1 w2 w3) sz)) 0 0 (va_A (WX cI cJ cII cJJ ad f3_unknowns f3_equations f2_roundSupports f2_stale f7_size f1_size f5_keptSize f5_aheadSize f0_solved f4_blockCount f4_blockLength f4_lastIsFree f4_stale ai al w0 w1 w2 w3) sz) := by
  refine SM.of (y := yX4_read) (maxL := 3) (av := [.ref (ad 29), .int x1, .ref (ad 60)]) (Q_m110_X4_read dC dI cI cJ cII cJJ ad f3_unknowns f3_equations f2_roundSupports f2_stale f7_size f1_size f5_keptSize f5_aheadSize f0_solved f4_blockCount f4_blockLength f4_lastIsFree f4_stale ai al w0 w1 w2 w3) (by decide +kernel) (Nat.le_of_ble_eq_true rfl) (fun p e s m below meth c A ls hx hb hr hml hown hts hk hnm hA hK hP hD hS hX hl => ?_)
  have C : Cx p c s m meth (([.ref (ad 29), .int x1, .ref (ad 60)] : List Value).toArray) A dC dI (TY cI cJ cII cJJ) cX4_read none 3 RX4 0 g := ⟨hx, hb, hr, hml, hown, hts, hk, hA, hK, hX⟩
  have hown : s.vm.findClass RX4 = some m.cls := hown
  have hl : lv_has ls 3 [(0, .ref (ad 29)), (1, .int x1), (2, .ref (ad 60))] := hl
  obtain ⟨H, hH⟩ : ∃ q, q = s.heap := ⟨_, rfl⟩
  rw [← hH] at hP
  have hS : va_S A s.heap H [] := by rw [hH]; exact hS
  rw [← hH]
  have hF := FR_refl [60] ai
  have ra_x1 := s_any x1
  refine lv_aload_n hx hb dX4_read_0 rfl (lv_at hl 0 rfl) ?_
  refine gf (k := 9) hx hb hts inX4 hown hK hP k_214 rfl (by decide) rfl 29 rfl (.int f4_blockLength) rfl dX4_read_1 ?_
  refine lv_if_gt (tgt := 8) hx hb dX4_read_4 (by decide) (fun c1 => ?_) (fun c1 => ?_)
  · have c1 := j_lt (a := 0) (b := f4_blockLength.toInt) (by decide +kernel) rfl c1
    refine lv_aload_n hx hb dX4_read_8 rfl (lv_at hl 0 rfl) ?_
    refine lv_iload_n hx hb dX4_read_9 rfl (lv_at hl 1 rfl) ?_
    refine lv_aload_n hx hb dX4_read_10 rfl (lv_at hl 0 rfl) ?_
    refine gf (k := 9) hx hb hts inX4 hown hK hP k_214 rfl (by decide) rfl 29 rfl (.int f4_blockLength) rfl dX4_read_11 ?_
    refine v_idiv hx hb dX4_read_14 (j_nz (a := f4_blockLength.toInt) rfl (by omega)) _ rfl ?_
    refine lv_topi (fun z2 e_z2 => ?_)
    have g_z2 : 0 ≤ z2.toInt ∧ z2.toInt ≤ 9260 := by rw [e_z2]; have q9 := n_divlt (a := x1.toInt) (b := f4_blockLength.toInt) (k := f4_blockCount.toInt) rfl rfl (by omega) (by omega) hp1; omega
    refine lv_aload_n hx hb dX4_read_15 rfl (lv_at hl 2 rfl) ?_
    have hM := m109_X4_readBlock l dC dI cI cJ cII cJJ H.size 0 ad f3_unknowns f3_equations f2_roundSupports f2_stale f7_size f1_size f5_keptSize f5_aheadSize f0_solved f4_blockCount f4_blockLength f4_lastIsFree f4_stale ai al w0 w1 w2 w3 z2 (by omega) (by omega) (by omega) (by omega) (by omega) (by omega) (by omega) (by omega) (by omega) (by omega) (by omega) (by omega) hI hw_w0 hw_w1 hw_w2 hw_w3
    refine k2V_v (q0 := 29) ⟨hx, hb, hml, hown, hts⟩ hK hP hD hS hA hX cv_RX4_85 hM ⟨by decide +kernel, by decide +kernel⟩ rfl rfl (Or.inl rfl) (rest := []) rfl rfl rfl hl.1 rfl (Nat.le_of_ble_eq_true rfl) dX4_read_16 ⟨Nat.le_of_ble_eq_true rfl, Nat.le_of_ble_eq_true rfl⟩ (fun t H1 locs_1 ht hB hS_1 hFc => ?_)
    obtain ⟨ai4, ⟨hI_2, hFr_r3⟩, hP_2, -, hD_2⟩ := hB
    have hF_3 := FR_tr hF hFr_r3 (by decide)
    rw [ht] at hP_2
    have hD_4 := hD_2.weaken (B := A) (fun k q _ h9 => hFc q.1 h9)
    clear ht
    generalize H1 = H_5 at hP_2 hS_1 ⊢
    refine lv_aload_n hx hb dX4_read_19 rfl (lv_at hl 2 rfl) ?_
    refine lv_aload_n hx hb dX4_read_20 rfl (lv_at hl 0 rfl) ?_
    refine gf (k := 0) hx hb hts inX4 hown hK hP_2 k_205 rfl (by decide) rfl 29 rfl (.ref (ad 6)) rfl dX4_read_21 ?_
    refine gf (k := 0) hx hb hts inX3 hown hK hP_2 k_39 rfl (by decide) rfl 6 rfl (.int f3_unknowns) rfl dX4_read_24 ?_
    refine lv_iconst (v := 1) hx hb dX4_read_27 (by decide) ?_
    refine v_isub hx hb dX4_read_28 _ rfl ?_
    refine lv_topi (fun z5 e_z5 => ?_)
    have g_z5 : z5.toInt = f3_unknowns.toInt - 1 := by rw [e_z5]; exact n_sub (a := f3_unknowns.toInt) (b := 1) rfl (by decide +kernel) (by omega) (by omega)
    refine lv_dup2_11 hx hb dX4_read_29 rfl rfl ?_
    refine va_iald hx hb hK hP_2 60 0 rfl rfl (j_in (a := z5.toInt) rfl (by omega) (by omega)) dX4_read_30 ?_
    refine lv_topi (fun z6 e_z6 => ?_)
    refine lv_iload_n hx hb dX4_read_31 rfl (lv_at hl 1 rfl) ?_
    refine lv_aload_n hx hb dX4_read_32 rfl (lv_at hl 0 rfl) ?_
    refine gf (k := 9) hx hb hts inX4 hown hK hP_2 k_214 rfl (by decide) rfl 29 rfl (.int f4_blockLength) rfl dX4_read_33 ?_
    refine v_irem hx hb dX4_read_36 (j_nz (a := f4_blockLength.toInt) rfl (by omega)) _ rfl ?_
    refine lv_topi (fun z7 e_z7 => ?_)
    refine v_iadd hx hb dX4_read_37 _ rfl ?_
    refine lv_topi (fun z8 e_z8 => ?_)
    refine va_iast hx hb hK hP_2 hD_4 hS_1 60 0 rfl rfl (j_in (a := z5.toInt) rfl (by omega) (by omega)) dX4_read_38 (fun H_6 locs_6 hP_6 hD_6 hS_6 => ?_)
    obtain ⟨ai9, e_ai9⟩ : ∃ q : Nat → Nat → Int32, q = va_up ai4 60 (upd (ai4 60) z5.toNatClampNeg z8) := ⟨_, rfl⟩
    have hF_7 := FR_st hF_3 e_ai9 (by decide)
    have hI_8 : IAX ai9 := by rw [e_ai9]; exact hI_2
    have hP_9 : va_P (dC, dI) vwCl (WX cI cJ cII cJJ ad f3_unknowns f3_equations f2_roundSupports f2_stale f7_size f1_size f5_keptSize f5_aheadSize f0_solved f4_blockCount f4_blockLength f4_lastIsFree f4_stale ai9 al w0 w1 w2 w3) H_6 := by rw [e_ai9]; exact hP_6
    have hD_10 : va_D A (WX cI cJ cII cJJ ad f3_unknowns f3_equations f2_roundSupports f2_stale f7_size f1_size f5_keptSize f5_aheadSize f0_solved f4_blockCount f4_blockLength f4_lastIsFree f4_stale ai9 al w0 w1 w2 w3) := by rw [e_ai9]; exact hD_6
    exact r2_v hx hb hr hk hS_6 dX4_read_39 (fun t ht hW => ⟨ai9, ⟨hI_8, hF_7⟩, by rw [ht]; exact hP_9, va_K.moved hW.alike hK, hD_10⟩)
  · have c1 := j_nlt (a := 0) (b := f4_blockLength.toInt) (by decide +kernel) rfl c1
    exact r2_v hx hb hr hk hS dX4_read_7 (fun t ht hW => ⟨ai, ⟨hI, hF⟩, by rw [ht]; exact hP, va_K.moved hW.alike hK, hD⟩)
def Q_m111_X4_digitOf (dC : Nat → ClassId) (dI : Nat → Nat → Nat) (cI cJ cII cJJ : ClassId) (ad : Nat → Nat) (f3_unknowns f3_equations f2_roundSupports f2_stale f7_size f1_size f5_keptSize f5_aheadSize f0_solved f4_blockCount f4_blockLength f4_lastIsFree f4_stale : Int32) (ai : Nat → Nat → Int32) (al : Nat → Nat → Int64) (w0 w1 w2 w3 : Nat) : (Nat → Prop) → Array Value → State → Outcome → State → Prop := fun A => QI (fun r t => (True) ∧ WO dC dI (TY cI cJ cII cJJ) (WX cI cJ cII cJJ ad f3_unknowns f3_equations f2_roundSupports f2_stale f7_size f1_size f5_keptSize f5_aheadSize f0_solved f4_blockCount f4_blockLength f4_lastIsFree f4_stale ai al w0 w1 w2 w3) A t) A
set_option maxRecDepth 100000 in
set_option maxHeartbeats 4000000 in
theorem m111_X4_digitOf_b18 {p : Program} {l : Launch} {e : Env} {s : State} {m : MethodId} {args : Array Value} {below : List Frame} {meth : Method} {c : Code} {A : Nat → Prop} {dC : Nat → ClassId} {dI : Nat → Nat → Nat} {cI cJ cII cJJ : ClassId} {ad : Nat → Nat} {g : Nat} {f3_unknowns f3_equations f2_roundSupports f2_stale f7_size f1_size f5_keptSize f5_aheadSize f0_solved f4_blockCount f4_blockLength f4_lastIsFree f4_stale : Int32} {ai : Nat → Nat → Int32} {al : Nat → Nat → Int64} {w0 w1 w2 w3 : Nat} (C : Cx p c s m meth args A dC dI (TY cI cJ cII cJJ) cX4_digitOf (some .int) 5 RX4 0 g) : ∀ (n : Nat), ∀ (L1 L2 L3 L4 : Int32) (H : Heap) (locs : List Loc) (ls : Array Slot), (0 ≤ L1.toInt ∧ L1.toInt ≤ 9260) → L4.toInt ≤ 3 → (1 ≤ f3_unknowns.toInt ∧ f3_unknowns.toInt ≤ 4) → (0 ≤ f3_equations.toInt ∧ f3_equations.toInt ≤ 3) → (0 ≤ f2_stale.toInt ∧ f2_stale.toInt ≤ 1) → (0 ≤ f7_size.toInt ∧ f7_size.toInt ≤ 256) → (0 ≤ f1_size.toInt ∧ f1_size.toInt ≤ 4) → (0 ≤ f5_keptSize.toInt ∧ f5_keptSize.toInt ≤ 128) → (0 ≤ f5_aheadSize.toInt ∧ f5_aheadSize.toInt ≤ 128) → (0 ≤ f4_blockCount.toInt ∧ f4_blockCount.toInt ≤ 9261) → (0 ≤ f4_blockLength.toInt ∧ f4_blockLength.toInt ≤ 21) → (0 ≤ f4_lastIsFree.toInt ∧ f4_lastIsFree.toInt ≤ 1) → (0 ≤ f4_stale.toInt ∧ f4_stale.toInt ≤ 1) → L4.toInt - L2.toInt < (n : Int) → (0 : Int) < (n : Int) → IAX ai → RWX ad w0 → RWX ad w1 → RWX ad w2 → RWX ad w3 → va_P (dC, dI) vwCl (WX cI cJ cII cJJ ad f3_unknowns f3_equations f2_roundSupports f2_stale f7_size f1_size f5_keptSize f5_aheadSize f0_solved f4_blockCount f4_blockLength f4_lastIsFree f4_stale ai al w0 w1 w2 w3) H → va_D A (WX cI cJ cII cJJ ad f3_unknowns f3_equations f2_roundSupports f2_stale f7_size f1_size f5_keptSize f5_aheadSize f0_solved f4_blockCount f4_blockLength f4_lastIsFree f4_stale ai al w0 w1 w2 w3) → va_S A s.heap H locs → lv_has ls 5 [(0, .ref (ad 29)), (1, .int L1), (2, .int L2), (3, .int L3), (4, .int L4)] → W p l e ({ frames := 2, cells := 0, slots := 0, locals := 80 } : Room) s m args below meth c H locs 0 0 (MQ below (Q_m111_X4_digitOf dC dI cI cJ cII cJJ ad f3_unknowns f3_equations f2_roundSupports f2_stale f7_size f1_size f5_keptSize f5_aheadSize f0_solved f4_blockCount f4_blockLength f4_lastIsFree f4_stale ai al w0 w1 w2 w3 A) args s 0 0 A) (F0 m 18 ls []) := by
  obtain ⟨hx, hb, hr, hml, hown, hts, hk, hA, hK, hX⟩ := id C
  intro n
  induction n with
  | zero =>
    intro L1 L2 L3 L4 H locs ls h0 h1 h2 h3 h4 h5 h6 h7 h8 h9 h10 h11 h12 h13 h14 hI hw_w0 hw_w1 hw_w2 hw_w3 hP hD hS hl
    exact absurd h14 (by omega)
  | succ n ih =>
    intro L1 L2 L3 L4 H locs ls h0 h1 h2 h3 h4 h5 h6 h7 h8 h9 h10 h11 h12 h13 h14 hI hw_w0 hw_w1 hw_w2 hw_w3 hP hD hS hl
    have ra_L2 := s_any L2
    have ra_L3 := s_any L3
    have ra_L4 := s_any L4
    refine lv_iload hx hb dX4_digitOf_18 (lv_at hl 4 rfl) ?_
    refine lv_iload_n hx hb dX4_digitOf_20 rfl (lv_at hl 2 rfl) ?_
    refine lv_icmp_le (tgt := 35) hx hb dX4_digitOf_21 (by decide) (fun c1 => ?_) (fun c1 => ?_)
    · have c1 := j_le (a := L4.toInt) (b := L2.toInt) rfl rfl c1
      refine lv_iload_n hx hb dX4_digitOf_35 rfl (lv_at hl 3 rfl) ?_
      refine lv_bipush (v := 21) hx hb dX4_digitOf_36 (by decide) ?_
      refine v_irem hx hb dX4_digitOf_38 (by decide +kernel) _ rfl ?_
      refine lv_topi (fun z2 e_z2 => ?_)
      refine lv_bipush (v := 10) hx hb dX4_digitOf_39 (by decide) ?_
      refine v_isub hx hb dX4_digitOf_41 _ rfl ?_
      refine lv_topi (fun z3 e_z3 => ?_)
      exact r2_i hx hb hr hk hS dX4_digitOf_42 (fun t ht hW => ⟨trivial, by rw [ht]; exact hP, va_K.moved hW.alike hK, hD⟩)
    · have c1 := j_nle (a := L4.toInt) (b := L2.toInt) rfl rfl c1
      refine lv_iload_n hx hb dX4_digitOf_24 rfl (lv_at hl 3 rfl) ?_
      refine lv_bipush (v := 21) hx hb dX4_digitOf_25 (by decide) ?_
      refine v_idiv hx hb dX4_digitOf_27 (by decide +kernel) _ rfl ?_
      refine lv_topi (fun z4 e_z4 => ?_)
      refine lv_istore_n (lv' := [(3, .int z4), (0, .ref (ad 29)), (1, .int L1), (2, .int L2), (4, .int L4)]) hx hb dX4_digitOf_28 rfl hl (by decide) rfl (fun ls_1 hl_1 => ?_)
      obtain ⟨z5, e_z5⟩ : ∃ q : Int32, q = L4 + Int32.ofInt (-1) := ⟨_, rfl⟩
      have g_z5 : z5.toInt = L4.toInt + (-1) := by rw [e_z5]; exact n_add (a := L4.toInt) (b := (-1)) rfl (by decide +kernel) (by omega) (by omega)
      refine lv_iinc (v := z5) (lv' := [(4, .int z5), (3, .int z4), (0, .ref (ad 29)), (1, .int L1), (2, .int L2)]) hx hb dX4_digitOf_29 hl_1 (k := 4) rfl e_z5.symm (by decide) rfl (fun ls_2 hl_2 => ?_)
      refine lv_goto (tgt := 18) hx hb dX4_digitOf_32 (by decide) ?_
      exact ih L1 L2 z4 z5 _ _ _ (by omega) (by omega) (by omega) (by omega) (by omega) (by omega) (by omega) (by omega) (by omega) (by omega) (by omega) (by omega) (by omega) (by omega) (by omega) hI hw_w0 hw_w1 hw_w2 hw_w3 hP hD hS (lv_sub hl_2 [2, 3, 4, 1, 0] rfl)
set_option maxRecDepth 100000 in
set_option maxHeartbeats 4000000 in
theorem m111_X4_digitOf (l : Launch) (dC : Nat → ClassId) (dI : Nat → Nat → Nat) (cI cJ cII cJJ : ClassId) (sz g : Nat) (ad : Nat → Nat) (f3_unknowns f3_equations f2_roundSupports f2_stale f7_size f1_size f5_keptSize f5_aheadSize f0_solved f4_blockCount f4_blockLength f4_lastIsFree f4_stale : Int32) (ai : Nat → Nat → Int32) (al : Nat → Nat → Int64) (w0 w1 w2 w3 : Nat) (x1 : Int32) (x2 : Int32) (h_x1 : (0 ≤ x1.toInt ∧ x1.toInt ≤ 9260)) (h_f3_unknowns : (1 ≤ f3_unknowns.toInt ∧ f3_unknowns.toInt ≤ 4)) (h_f3_equations : (0 ≤ f3_equations.toInt ∧ f3_equations.toInt ≤ 3)) (h_f2_stale : (0 ≤ f2_stale.toInt ∧ f2_stale.toInt ≤ 1)) (h_f7_size : (0 ≤ f7_size.toInt ∧ f7_size.toInt ≤ 256)) (h_f1_size : (0 ≤ f1_size.toInt ∧ f1_size.toInt ≤ 4)) (h_f5_keptSize : (0 ≤ f5_keptSize.toInt ∧ f5_keptSize.toInt ≤ 128)) (h_f5_aheadSize : (0 ≤ f5_aheadSize.toInt ∧ f5_aheadSize.toInt ≤ 128)) (h_f4_blockCount : (0 ≤ f4_blockCount.toInt ∧ f4_blockCount.toInt ≤ 9261)) (h_f4_blockLength : (0 ≤ f4_blockLength.toInt ∧ f4_blockLength.toInt ≤ 21)) (h_f4_lastIsFree : (0 ≤ f4_lastIsFree.toInt ∧ f4_lastIsFree.toInt ≤ 1)) (h_f4_stale : (0 ≤ f4_stale.toInt ∧ f4_stale.toInt ≤ 1)) (hI : IAX ai) (hw_w0 : RWX ad w0) (hw_w1 : RWX ad w1) (hw_w2 : RWX ad w2) (hw_w3 : RWX ad w3) : Met l yX4_digitOf (.code yX4_digitOf cX4_digitOf 5 (some .int) :: TT) ({ frames := 2, cells := 0, slots := 0, locals := 80 } : Room) (PcS dC dI (TY cI cJ cII cJJ) [.ref (ad 29), .int x1, .int x2] (WX cI cJ cII cJJ ad f3_unknowns f3_equations f2_roundSupports f2_stale f7_size f1_size f5_keptSize f5_aheadSize f0_solved f4_blockCount f4_blockLength f4_lastIsFree f4_stale ai al w0 w1 w2 w3) sz 0 g) (Q_m111_X4_digitOf dC dI cI cJ cII cJJ ad f3_unknowns f3_equations f2_roundSupports f2_stale f7_size f1_size f5_keptSize f5_aheadSize f0_solved f4_blockCount f4_blockLength f4_lastIsFree f4_stale ai al w0 w1 w2 w3 (va_A (WX cI cJ cII cJJ ad f3_unknowns f3_equations f2_roundSupports f2_stale f7_size f1_size f5_keptSize f5_aheadSize f0_solved f4_blockCount f4_blockLength f4_lastIsFree f4_stale ai al w0 w1 w2 w3) sz)) 0 0 (va_A (WX cI cJ cII cJJ ad f3_unknowns f3_equations f2_roundSupports f2_stale f7_size f1_size f5_keptSize f5_aheadSize f0_solved f4_blockCount f4_blockLength f4_lastIsFree f4_stale ai al w0 w1 w2 w3) sz) := by
  refine SM.of (y := yX4_digitOf) (maxL := 5) (av := [.ref (ad 29), .int x1, .int x2]) (Q_m111_X4_digitOf dC dI cI cJ cII cJJ ad f3_unknowns f3_equations f2_roundSupports f2_stale f7_size f1_size f5_keptSize f5_aheadSize f0_solved f4_blockCount f4_blockLength f4_lastIsFree f4_stale ai al w0 w1 w2 w3) (by decide +kernel) (Nat.le_of_ble_eq_true rfl) (fun p e s m below meth c A ls hx hb hr hml hown hts hk hnm hA hK hP hD hS hX hl => ?_)
  have C : Cx p c s m meth (([.ref (ad 29), .int x1, .int x2] : List Value).toArray) A dC dI (TY cI cJ cII cJJ) cX4_digitOf (some .int) 5 RX4 0 g := ⟨hx, hb, hr, hml, hown, hts, hk, hA, hK, hX⟩
  have hown : s.vm.findClass RX4 = some m.cls := hown
  have hl : lv_has ls 5 [(0, .ref (ad 29)), (1, .int x1), (2, .int x2)] := hl
  obtain ⟨H, hH⟩ : ∃ q, q = s.heap := ⟨_, rfl⟩
  rw [← hH] at hP
  have hS : va_S A s.heap H [] := by rw [hH]; exact hS
  rw [← hH]
  have ra_x2 := s_any x2
  refine lv_aload_n hx hb dX4_digitOf_0 rfl (lv_at hl 0 rfl) ?_
  refine gf (k := 1) hx hb hts inX4 hown hK hP k_206 rfl (by decide) rfl 29 rfl (.ref (ad 30)) rfl dX4_digitOf_1 ?_
  refine lv_iload_n hx hb dX4_digitOf_4 rfl (lv_at hl 1 rfl) ?_
  refine va_iald hx hb hK hP 30 0 rfl rfl (j_in (a := x1.toInt) rfl (by omega) (by omega)) dX4_digitOf_5 ?_
  refine lv_topi (fun z1 e_z1 => ?_)
  refine lv_istore_n (lv' := [(3, .int z1), (0, .ref (ad 29)), (1, .int x1), (2, .int x2)]) hx hb dX4_digitOf_6 rfl hl (by decide) rfl (fun ls_1 hl_1 => ?_)
  refine lv_aload_n hx hb dX4_digitOf_7 rfl (lv_at hl_1 1 rfl) ?_
  refine gf (k := 0) hx hb hts inX4 hown hK hP k_205 rfl (by decide) rfl 29 rfl (.ref (ad 6)) rfl dX4_digitOf_8 ?_
  refine gf (k := 0) hx hb hts inX3 hown hK hP k_39 rfl (by decide) rfl 6 rfl (.int f3_unknowns) rfl dX4_digitOf_11 ?_
  refine lv_iconst (v := 1) hx hb dX4_digitOf_14 (by decide) ?_
  refine v_isub hx hb dX4_digitOf_15 _ rfl ?_
  refine lv_topi (fun z2 e_z2 => ?_)
  have g_z2 : z2.toInt = f3_unknowns.toInt - 1 := by rw [e_z2]; exact n_sub (a := f3_unknowns.toInt) (b := 1) rfl (by decide +kernel) (by omega) (by omega)
  refine lv_istore (lv' := [(4, .int z2), (3, .int z1), (0, .ref (ad 29)), (1, .int x1), (2, .int x2)]) hx hb dX4_digitOf_16 hl_1 (by decide) rfl (fun ls_2 hl_2 => ?_)
  exact m111_X4_digitOf_b18 C  _ x1 x2 z1 z2 _ _ _ (by omega) (by omega) (by omega) (by omega) (by omega) (by omega) (by omega) (by omega) (by omega) (by omega) (by omega) (by omega) (by omega) (j_fuel _) (by omega) hI hw_w0 hw_w1 hw_w2 hw_w3 hP hD hS (lv_sub hl_2 [2, 3, 4, 1, 0] rfl)
def Q_m112_X4_blockOf (dC : Nat → ClassId) (dI : Nat → Nat → Nat) (cI cJ cII cJJ : ClassId) (ad : Nat → Nat) (f3_unknowns f3_equations f2_roundSupports f2_stale f7_size f1_size f5_keptSize f5_aheadSize f0_solved f4_blockCount f4_blockLength f4_lastIsFree f4_stale : Int32) (ai : Nat → Nat → Int32) (al : Nat → Nat → Int64) (w0 w1 w2 w3 : Nat) : (Nat → Prop) → Array Value → State → Outcome → State → Prop := fun A => QI (fun r t => ((0 ≤ r.toInt ∧ r.toInt ≤ 9260)) ∧ WO dC dI (TY cI cJ cII cJJ) (WX cI cJ cII cJJ ad f3_unknowns f3_equations f2_roundSupports f2_stale f7_size f1_size f5_keptSize f5_aheadSize f0_solved f4_blockCount f4_blockLength f4_lastIsFree f4_stale ai al w0 w1 w2 w3) A t) A
set_option maxRecDepth 100000 in
set_option maxHeartbeats 4000000 in
theorem m112_X4_blockOf_b59 {p : Program} {l : Launch} {e : Env} {s : State} {m : MethodId} {args : Array Value} {below : List Frame} {meth : Method} {c : Code} {A : Nat → Prop} {dC : Nat → ClassId} {dI : Nat → Nat → Nat} {cI cJ cII cJJ : ClassId} {ad : Nat → Nat} {g : Nat} {f3_unknowns f3_equations f2_roundSupports f2_stale f7_size f1_size f5_keptSize f5_aheadSize f0_solved f4_blockCount f4_blockLength f4_lastIsFree f4_stale : Int32} {ai : Nat → Nat → Int32} {al : Nat → Nat → Int64} {w0 w1 w2 w3 : Nat} (C : Cx p c s m meth args A dC dI (TY cI cJ cII cJJ) cX4_blockOf (some .int) 6 RX4 0 g) : ∀ (L1 L2 L3 L4 : Int32) (H : Heap) (locs : List Loc) (ls : Array Slot), (0 ≤ L2.toInt ∧ L2.toInt ≤ 9260) → (-1 ≤ L3.toInt ∧ L3.toInt ≤ 9260) → (0 ≤ L4.toInt ∧ L4.toInt ≤ 20) → (1 ≤ f3_unknowns.toInt ∧ f3_unknowns.toInt ≤ 4) → (0 ≤ f3_equations.toInt ∧ f3_equations.toInt ≤ 3) → (0 ≤ f2_stale.toInt ∧ f2_stale.toInt ≤ 1) → (0 ≤ f7_size.toInt ∧ f7_size.toInt ≤ 256) → (0 ≤ f1_size.toInt ∧ f1_size.toInt ≤ 4) → (0 ≤ f5_keptSize.toInt ∧ f5_keptSize.toInt ≤ 128) → (0 ≤ f5_aheadSize.toInt ∧ f5_aheadSize.toInt ≤ 128) → (0 ≤ f4_blockCount.toInt ∧ f4_blockCount.toInt ≤ 9261) → (0 ≤ f4_blockLength.toInt ∧ f4_blockLength.toInt ≤ 21) → (0 ≤ f4_lastIsFree.toInt ∧ f4_lastIsFree.toInt ≤ 1) → (0 ≤ f4_stale.toInt ∧ f4_stale.toInt ≤ 1) → IAX ai → RWX ad w0 → RWX ad w1 → RWX ad w2 → RWX ad w3 → va_P (dC, dI) vwCl (WX cI cJ cII cJJ ad f3_unknowns f3_equations f2_roundSupports f2_stale f7_size f1_size f5_keptSize f5_aheadSize f0_solved f4_blockCount f4_blockLength f4_lastIsFree f4_stale ai al w0 w1 w2 w3) H → va_D A (WX cI cJ cII cJJ ad f3_unknowns f3_equations f2_roundSupports f2_stale f7_size f1_size f5_keptSize f5_aheadSize f0_solved f4_blockCount f4_blockLength f4_lastIsFree f4_stale ai al w0 w1 w2 w3) → va_S A s.heap H locs → lv_has ls 6 [(0, .ref (ad 29)), (1, .int L1), (2, .int L2), (3, .int L3), (4, .int L4)] → W p l e ({ frames := 2, cells := 0, slots := 0, locals := 80 } : Room) s m args below meth c H locs 0 0 (MQ below (Q_m112_X4_blockOf dC dI cI cJ cII cJJ ad f3_unknowns f3_equations f2_roundSupports f2_stale f7_size f1_size f5_keptSize f5_aheadSize f0_solved f4_blockCount f4_blockLength f4_lastIsFree f4_stale ai al w0 w1 w2 w3 A) args s 0 0 A) (F0 m 59 ls []) := by
  obtain ⟨hx, hb, hr, hml, hown, hts, hk, hA, hK, hX⟩ := id C
  intro L1 L2 L3 L4 H locs ls h0 h1 h2 h3 h4 h5 h6 h7 h8 h9 h10 h11 h12 h13 hI hw_w0 hw_w1 hw_w2 hw_w3 hP hD hS hl
  have ra_L1 := s_any L1
  refine lv_iload_n hx hb dX4_blockOf_59 rfl (lv_at hl 2 rfl) ?_
  exact r2_i hx hb hr hk hS dX4_blockOf_60 (fun t ht hW => ⟨(by first | omega | decide | exact Or.inl (by decide) | exact Or.inr (by decide) | exact Or.inr (by omega)), by rw [ht]; exact hP, va_K.moved hW.alike hK, hD⟩)
set_option maxRecDepth 100000 in
set_option maxHeartbeats 4000000 in
theorem m112_X4_blockOf_b53 {p : Program} {l : Launch} {e : Env} {s : State} {m : MethodId} {args : Array Value} {below : List Frame} {meth : Method} {c : Code} {A : Nat → Prop} {dC : Nat → ClassId} {dI : Nat → Nat → Nat} {cI cJ cII cJJ : ClassId} {ad : Nat → Nat} {g : Nat} {f3_unknowns f3_equations f2_roundSupports f2_stale f7_size f1_size f5_keptSize f5_aheadSize f0_solved f4_blockCount f4_blockLength f4_lastIsFree f4_stale : Int32} {ai : Nat → Nat → Int32} {al : Nat → Nat → Int64} {w0 w1 w2 w3 : Nat} (C : Cx p c s m meth args A dC dI (TY cI cJ cII cJJ) cX4_blockOf (some .int) 6 RX4 0 g) (n12 : Nat) (K12 : ∀ (L1 L2 L3 L4 : Int32) (H : Heap) (locs : List Loc) (ls : Array Slot), (0 ≤ L2.toInt ∧ L2.toInt ≤ 9260) → (-1 ≤ L3.toInt ∧ L3.toInt ≤ 9260) → (0 ≤ L4.toInt ∧ L4.toInt ≤ 20) → (1 ≤ f3_unknowns.toInt ∧ f3_unknowns.toInt ≤ 4) → (0 ≤ f3_equations.toInt ∧ f3_equations.toInt ≤ 3) → (0 ≤ f2_stale.toInt ∧ f2_stale.toInt ≤ 1) → (0 ≤ f7_size.toInt ∧ f7_size.toInt ≤ 256) → (0 ≤ f1_size.toInt ∧ f1_size.toInt ≤ 4) → (0 ≤ f5_keptSize.toInt ∧ f5_keptSize.toInt ≤ 128) → (0 ≤ f5_aheadSize.toInt ∧ f5_aheadSize.toInt ≤ 128) → (0 ≤ f4_blockCount.toInt ∧ f4_blockCount.toInt ≤ 9261) → (0 ≤ f4_blockLength.toInt ∧ f4_blockLength.toInt ≤ 21) → (0 ≤ f4_lastIsFree.toInt ∧ f4_lastIsFree.toInt ≤ 1) → (0 ≤ f4_stale.toInt ∧ f4_stale.toInt ≤ 1) → 20 - L4.toInt < (n12 : Int) → (0 : Int) < (n12 : Int) → IAX ai → RWX ad w0 → RWX ad w1 → RWX ad w2 → RWX ad w3 → va_P (dC, dI) vwCl (WX cI cJ cII cJJ ad f3_unknowns f3_equations f2_roundSupports f2_stale f7_size f1_size f5_keptSize f5_aheadSize f0_solved f4_blockCount f4_blockLength f4_lastIsFree f4_stale ai al w0 w1 w2 w3) H → va_D A (WX cI cJ cII cJJ ad f3_unknowns f3_equations f2_roundSupports f2_stale f7_size f1_size f5_keptSize f5_aheadSize f0_solved f4_blockCount f4_blockLength f4_lastIsFree f4_stale ai al w0 w1 w2 w3) → va_S A s.heap H locs → lv_has ls 6 [(0, .ref (ad 29)), (1, .int L1), (2, .int L2), (3, .int L3), (4, .int L4)] → W p l e ({ frames := 2, cells := 0, slots := 0, locals := 80 } : Room) s m args below meth c H locs 0 0 (MQ below (Q_m112_X4_blockOf dC dI cI cJ cII cJJ ad f3_unknowns f3_equations f2_roundSupports f2_stale f7_size f1_size f5_keptSize f5_aheadSize f0_solved f4_blockCount f4_blockLength f4_lastIsFree f4_stale ai al w0 w1 w2 w3 A) args s 0 0 A) (F0 m 12 ls [])) : ∀ (L1 L2 L3 L4 L5 : Int32) (H : Heap) (locs : List Loc) (ls : Array Slot), (0 ≤ L2.toInt ∧ L2.toInt ≤ 9260) → (0 ≤ L3.toInt ∧ L3.toInt ≤ 9260) → (0 ≤ L4.toInt ∧ L4.toInt ≤ 19) → (0 ≤ L5.toInt ∧ L5.toInt ≤ 9259) → (1 ≤ f3_unknowns.toInt ∧ f3_unknowns.toInt ≤ 4) → (0 ≤ f3_equations.toInt ∧ f3_equations.toInt ≤ 3) → (0 ≤ f2_stale.toInt ∧ f2_stale.toInt ≤ 1) → (0 ≤ f7_size.toInt ∧ f7_size.toInt ≤ 256) → (0 ≤ f1_size.toInt ∧ f1_size.toInt ≤ 4) → (0 ≤ f5_keptSize.toInt ∧ f5_keptSize.toInt ≤ 128) → (0 ≤ f5_aheadSize.toInt ∧ f5_aheadSize.toInt ≤ 128) → (0 ≤ f4_blockCount.toInt ∧ f4_blockCount.toInt ≤ 9261) → (0 ≤ f4_blockLength.toInt ∧ f4_blockLength.toInt ≤ 21) → (0 ≤ f4_lastIsFree.toInt ∧ f4_lastIsFree.toInt ≤ 1) → (0 ≤ f4_stale.toInt ∧ f4_stale.toInt ≤ 1) → L4.toInt < 20 → 20 - L4.toInt ≤ (n12 : Int) → IAX ai → RWX ad w0 → RWX ad w1 → RWX ad w2 → RWX ad w3 → va_P (dC, dI) vwCl (WX cI cJ cII cJJ ad f3_unknowns f3_equations f2_roundSupports f2_stale f7_size f1_size f5_keptSize f5_aheadSize f0_solved f4_blockCount f4_blockLength f4_lastIsFree f4_stale ai al w0 w1 w2 w3) H → va_D A (WX cI cJ cII cJJ ad f3_unknowns f3_equations f2_roundSupports f2_stale f7_size f1_size f5_keptSize f5_aheadSize f0_solved f4_blockCount f4_blockLength f4_lastIsFree f4_stale ai al w0 w1 w2 w3) → va_S A s.heap H locs → lv_has ls 6 [(0, .ref (ad 29)), (1, .int L1), (2, .int L2), (3, .int L3), (4, .int L4), (5, .int L5)] → W p l e ({ frames := 2, cells := 0, slots := 0, locals := 80 } : Room) s m args below meth c H locs 0 0 (MQ below (Q_m112_X4_blockOf dC dI cI cJ cII cJJ ad f3_unknowns f3_equations f2_roundSupports f2_stale f7_size f1_size f5_keptSize f5_aheadSize f0_solved f4_blockCount f4_blockLength f4_lastIsFree f4_stale ai al w0 w1 w2 w3 A) args s 0 0 A) (F0 m 53 ls []) := by
  obtain ⟨hx, hb, hr, hml, hown, hts, hk, hA, hK, hX⟩ := id C
  intro L1 L2 L3 L4 L5 H locs ls h0 h1 h2 h3 h4 h5 h6 h7 h8 h9 h10 h11 h12 h13 h14 h15 h16 hI hw_w0 hw_w1 hw_w2 hw_w3 hP hD hS hl
  have ra_L1 := s_any L1
  obtain ⟨z1, e_z1⟩ : ∃ q : Int32, q = L4 + Int32.ofInt 1 := ⟨_, rfl⟩
  have g_z1 : z1.toInt = L4.toInt + 1 := by rw [e_z1]; exact n_add (a := L4.toInt) (b := 1) rfl (by decide +kernel) (by omega) (by omega)
  refine lv_iinc (v := z1) (lv' := [(4, .int z1), (0, .ref (ad 29)), (1, .int L1), (2, .int L2), (3, .int L3), (5, .int L5)]) hx hb dX4_blockOf_53 hl (k := 4) rfl e_z1.symm (by decide) rfl (fun ls_1 hl_1 => ?_)
  refine lv_goto (tgt := 12) hx hb dX4_blockOf_56 (by decide) ?_
  exact K12 L1 L2 L3 z1 _ _ _ (by omega) (by omega) (by omega) (by omega) (by omega) (by omega) (by omega) (by omega) (by omega) (by omega) (by omega) (by omega) (by omega) (by omega) (by omega) (by omega) hI hw_w0 hw_w1 hw_w2 hw_w3 hP hD hS (lv_sub hl_1 [1, 2, 3, 4, 0] rfl)
set_option maxRecDepth 100000 in
set_option maxHeartbeats 4000000 in
theorem m112_X4_blockOf_b12 {p : Program} {l : Launch} {e : Env} {s : State} {m : MethodId} {args : Array Value} {below : List Frame} {meth : Method} {c : Code} {A : Nat → Prop} {dC : Nat → ClassId} {dI : Nat → Nat → Nat} {cI cJ cII cJJ : ClassId} {ad : Nat → Nat} {g : Nat} {f3_unknowns f3_equations f2_roundSupports f2_stale f7_size f1_size f5_keptSize f5_aheadSize f0_solved f4_blockCount f4_blockLength f4_lastIsFree f4_stale : Int32} {ai : Nat → Nat → Int32} {al : Nat → Nat → Int64} {w0 w1 w2 w3 : Nat} (C : Cx p c s m meth args A dC dI (TY cI cJ cII cJJ) cX4_blockOf (some .int) 6 RX4 0 g) : ∀ (n : Nat), ∀ (L1 L2 L3 L4 : Int32) (H : Heap) (locs : List Loc) (ls : Array Slot), (0 ≤ L2.toInt ∧ L2.toInt ≤ 9260) → (-1 ≤ L3.toInt ∧ L3.toInt ≤ 9260) → (0 ≤ L4.toInt ∧ L4.toInt ≤ 20) → (1 ≤ f3_unknowns.toInt ∧ f3_unknowns.toInt ≤ 4) → (0 ≤ f3_equations.toInt ∧ f3_equations.toInt ≤ 3) → (0 ≤ f2_stale.toInt ∧ f2_stale.toInt ≤ 1) → (0 ≤ f7_size.toInt ∧ f7_size.toInt ≤ 256) → (0 ≤ f1_size.toInt ∧ f1_size.toInt ≤ 4) → (0 ≤ f5_keptSize.toInt ∧ f5_keptSize.toInt ≤ 128) → (0 ≤ f5_aheadSize.toInt ∧ f5_aheadSize.toInt ≤ 128) → (0 ≤ f4_blockCount.toInt ∧ f4_blockCount.toInt ≤ 9261) → (0 ≤ f4_blockLength.toInt ∧ f4_blockLength.toInt ≤ 21) → (0 ≤ f4_lastIsFree.toInt ∧ f4_lastIsFree.toInt ≤ 1) → (0 ≤ f4_stale.toInt ∧ f4_stale.toInt ≤ 1) → 20 - L4.toInt < (n : Int) → (0 : Int) < (n : Int) → IAX ai → RWX ad w0 → RWX ad w1 → RWX ad w2 → RWX ad w3 → va_P (dC, dI) vwCl (WX cI cJ cII cJJ ad f3_unknowns f3_equations f2_roundSupports f2_stale f7_size f1_size f5_keptSize f5_aheadSize f0_solved f4_blockCount f4_blockLength f4_lastIsFree f4_stale ai al w0 w1 w2 w3) H → va_D A (WX cI cJ cII cJJ ad f3_unknowns f3_equations f2_roundSupports f2_stale f7_size f1_size f5_keptSize f5_aheadSize f0_solved f4_blockCount f4_blockLength f4_lastIsFree f4_stale ai al w0 w1 w2 w3) → va_S A s.heap H locs → lv_has ls 6 [(0, .ref (ad 29)), (1, .int L1), (2, .int L2), (3, .int L3), (4, .int L4)] → W p l e ({ frames := 2, cells := 0, slots := 0, locals := 80 } : Room) s m args below meth c H locs 0 0 (MQ below (Q_m112_X4_blockOf dC dI cI cJ cII cJJ ad f3_unknowns f3_equations f2_roundSupports f2_stale f7_size f1_size f5_keptSize f5_aheadSize f0_solved f4_blockCount f4_blockLength f4_lastIsFree f4_stale ai al w0 w1 w2 w3 A) args s 0 0 A) (F0 m 12 ls []) := by
  obtain ⟨hx, hb, hr, hml, hown, hts, hk, hA, hK, hX⟩ := id C
  intro n
  induction n with
  | zero =>
    intro L1 L2 L3 L4 H locs ls h0 h1 h2 h3 h4 h5 h6 h7 h8 h9 h10 h11 h12 h13 h14 h15 hI hw_w0 hw_w1 hw_w2 hw_w3 hP hD hS hl
    exact absurd h15 (by omega)
  | succ n ih =>
    intro L1 L2 L3 L4 H locs ls h0 h1 h2 h3 h4 h5 h6 h7 h8 h9 h10 h11 h12 h13 h14 h15 hI hw_w0 hw_w1 hw_w2 hw_w3 hP hD hS hl
    have ra_L1 := s_any L1
    refine lv_iload hx hb dX4_blockOf_12 (lv_at hl 4 rfl) ?_
    refine lv_bipush (v := 20) hx hb dX4_blockOf_14 (by decide) ?_
    refine lv_icmp_ge (tgt := 59) hx hb dX4_blockOf_16 (by decide) (fun c1 => ?_) (fun c1 => ?_)
    · have c1 := j_le (a := 20) (b := L4.toInt) (by decide +kernel) rfl c1
      exact m112_X4_blockOf_b59 C  L1 L2 L3 L4 _ _ _ (by omega) (by omega) (by omega) (by omega) (by omega) (by omega) (by omega) (by omega) (by omega) (by omega) (by omega) (by omega) (by omega) (by omega) hI hw_w0 hw_w1 hw_w2 hw_w3 hP hD hS (lv_sub hl [0, 1, 2, 3, 4] rfl)
    · have c1 := j_nle (a := 20) (b := L4.toInt) (by decide +kernel) rfl c1
      refine lv_iload_n hx hb dX4_blockOf_19 rfl (lv_at hl 2 rfl) ?_
      refine lv_iload_n hx hb dX4_blockOf_20 rfl (lv_at hl 3 rfl) ?_
      refine lv_icmp_ge (tgt := 59) hx hb dX4_blockOf_21 (by decide) (fun c2 => ?_) (fun c2 => ?_)
      · have c2 := j_le (a := L3.toInt) (b := L2.toInt) rfl rfl c2
        exact m112_X4_blockOf_b59 C  L1 L2 L3 L4 _ _ _ (by omega) (by omega) (by omega) (by omega) (by omega) (by omega) (by omega) (by omega) (by omega) (by omega) (by omega) (by omega) (by omega) (by omega) hI hw_w0 hw_w1 hw_w2 hw_w3 hP hD hS (lv_sub hl [0, 1, 2, 3, 4] rfl)
      · have c2 := j_nle (a := L3.toInt) (b := L2.toInt) rfl rfl c2
        refine lv_iload_n hx hb dX4_blockOf_24 rfl (lv_at hl 2 rfl) ?_
        refine lv_iload_n hx hb dX4_blockOf_25 rfl (lv_at hl 3 rfl) ?_
        refine v_iadd hx hb dX4_blockOf_26 _ rfl ?_
        refine lv_topi (fun z3 e_z3 => ?_)
        have g_z3 : z3.toInt = L2.toInt + L3.toInt := by rw [e_z3]; exact n_add (a := L2.toInt) (b := L3.toInt) rfl rfl (by omega) (by omega)
        refine lv_iconst (v := 2) hx hb dX4_blockOf_27 (by decide) ?_
        refine v_idiv hx hb dX4_blockOf_28 (by decide +kernel) _ rfl ?_
        refine lv_topi (fun z4 e_z4 => ?_)
        have g_z4 : z4.toInt = z3.toInt / 2 := by rw [e_z4]; exact n_divc (a := z3.toInt) (b := 2) rfl (by decide +kernel) (by omega) (by omega)
        refine lv_istore (lv' := [(5, .int z4), (0, .ref (ad 29)), (1, .int L1), (2, .int L2), (3, .int L3), (4, .int L4)]) hx hb dX4_blockOf_29 hl (by decide) rfl (fun ls_1 hl_1 => ?_)
        refine lv_aload_n hx hb dX4_blockOf_31 rfl (lv_at hl_1 1 rfl) ?_
        refine gf (k := 1) hx hb hts inX4 hown hK hP k_206 rfl (by decide) rfl 29 rfl (.ref (ad 30)) rfl dX4_blockOf_32 ?_
        refine lv_iload hx hb dX4_blockOf_35 (lv_at hl_1 0 rfl) ?_
        refine va_iald hx hb hK hP 30 0 rfl rfl (j_in (a := z4.toInt) rfl (by omega) (by omega)) dX4_blockOf_37 ?_
        refine lv_topi (fun z5 e_z5 => ?_)
        refine lv_iload_n hx hb dX4_blockOf_38 rfl (lv_at hl_1 2 rfl) ?_
        refine lv_icmp_ge (tgt := 50) hx hb dX4_blockOf_39 (by decide) (fun c6 => ?_) (fun c6 => ?_)
        · have c6 := j_le (a := L1.toInt) (b := z5.toInt) rfl rfl c6
          refine lv_iload hx hb dX4_blockOf_50 (lv_at hl_1 0 rfl) ?_
          refine lv_istore_n (lv' := [(3, .int z4), (5, .int z4), (0, .ref (ad 29)), (1, .int L1), (2, .int L2), (4, .int L4)]) hx hb dX4_blockOf_52 rfl hl_1 (by decide) rfl (fun ls_2 hl_2 => ?_)
          exact m112_X4_blockOf_b53 C n ih L1 L2 z4 L4 z4 _ _ _ (by omega) (by omega) (by omega) (by omega) (by omega) (by omega) (by omega) (by omega) (by omega) (by omega) (by omega) (by omega) (by omega) (by omega) (by omega) (by omega) (by omega) hI hw_w0 hw_w1 hw_w2 hw_w3 hP hD hS (lv_sub hl_2 [2, 3, 4, 0, 5, 1] rfl)
        · have c6 := j_nle (a := L1.toInt) (b := z5.toInt) rfl rfl c6
          refine lv_iload hx hb dX4_blockOf_42 (lv_at hl_1 0 rfl) ?_
          refine lv_iconst (v := 1) hx hb dX4_blockOf_44 (by decide) ?_
          refine v_iadd hx hb dX4_blockOf_45 _ rfl ?_
          refine lv_topi (fun z7 e_z7 => ?_)
          have g_z7 : z7.toInt = z4.toInt + 1 := by rw [e_z7]; exact n_add (a := z4.toInt) (b := 1) rfl (by decide +kernel) (by omega) (by omega)
          refine lv_istore_n (lv' := [(2, .int z7), (5, .int z4), (0, .ref (ad 29)), (1, .int L1), (3, .int L3), (4, .int L4)]) hx hb dX4_blockOf_46 rfl hl_1 (by decide) rfl (fun ls_3 hl_3 => ?_)
          refine lv_goto (tgt := 53) hx hb dX4_blockOf_47 (by decide) ?_
          exact m112_X4_blockOf_b53 C n ih L1 z7 L3 L4 z4 _ _ _ (by omega) (by omega) (by omega) (by omega) (by omega) (by omega) (by omega) (by omega) (by omega) (by omega) (by omega) (by omega) (by omega) (by omega) (by omega) (by omega) (by omega) hI hw_w0 hw_w1 hw_w2 hw_w3 hP hD hS (lv_sub hl_3 [2, 3, 0, 4, 5, 1] rfl)
set_option maxRecDepth 100000 in
set_option maxHeartbeats 4000000 in
theorem m112_X4_blockOf (l : Launch) (dC : Nat → ClassId) (dI : Nat → Nat → Nat) (cI cJ cII cJJ : ClassId) (sz g : Nat) (ad : Nat → Nat) (f3_unknowns f3_equations f2_roundSupports f2_stale f7_size f1_size f5_keptSize f5_aheadSize f0_solved f4_blockCount f4_blockLength f4_lastIsFree f4_stale : Int32) (ai : Nat → Nat → Int32) (al : Nat → Nat → Int64) (w0 w1 w2 w3 : Nat) (x1 : Int32) (h_f3_unknowns : (1 ≤ f3_unknowns.toInt ∧ f3_unknowns.toInt ≤ 4)) (h_f3_equations : (0 ≤ f3_equations.toInt ∧ f3_equations.toInt ≤ 3)) (h_f2_stale : (0 ≤ f2_stale.toInt ∧ f2_stale.toInt ≤ 1)) (h_f7_size : (0 ≤ f7_size.toInt ∧ f7_size.toInt ≤ 256)) (h_f1_size : (0 ≤ f1_size.toInt ∧ f1_size.toInt ≤ 4)) (h_f5_keptSize : (0 ≤ f5_keptSize.toInt ∧ f5_keptSize.toInt ≤ 128)) (h_f5_aheadSize : (0 ≤ f5_aheadSize.toInt ∧ f5_aheadSize.toInt ≤ 128)) (h_f4_blockCount : (0 ≤ f4_blockCount.toInt ∧ f4_blockCount.toInt ≤ 9261)) (h_f4_blockLength : (0 ≤ f4_blockLength.toInt ∧ f4_blockLength.toInt ≤ 21)) (h_f4_lastIsFree : (0 ≤ f4_lastIsFree.toInt ∧ f4_lastIsFree.toInt ≤ 1)) (h_f4_stale : (0 ≤ f4_stale.toInt ∧ f4_stale.toInt ≤ 1)) (hI : IAX ai) (hw_w0 : RWX ad w0) (hw_w1 : RWX ad w1) (hw_w2 : RWX ad w2) (hw_w3 : RWX ad w3) : Met l yX4_blockOf (.code yX4_blockOf cX4_blockOf 6 (some .int) :: TT) ({ frames := 2, cells := 0, slots := 0, locals := 80 } : Room) (PcS dC dI (TY cI cJ cII cJJ) [.ref (ad 29), .int x1] (WX cI cJ cII cJJ ad f3_unknowns f3_equations f2_roundSupports f2_stale f7_size f1_size f5_keptSize f5_aheadSize f0_solved f4_blockCount f4_blockLength f4_lastIsFree f4_stale ai al w0 w1 w2 w3) sz 0 g) (Q_m112_X4_blockOf dC dI cI cJ cII cJJ ad f3_unknowns f3_equations f2_roundSupports f2_stale f7_size f1_size f5_keptSize f5_aheadSize f0_solved f4_blockCount f4_blockLength f4_lastIsFree f4_stale ai al w0 w1 w2 w3 (va_A (WX cI cJ cII cJJ ad f3_unknowns f3_equations f2_roundSupports f2_stale f7_size f1_size f5_keptSize f5_aheadSize f0_solved f4_blockCount f4_blockLength f4_lastIsFree f4_stale ai al w0 w1 w2 w3) sz)) 0 0 (va_A (WX cI cJ cII cJJ ad f3_unknowns f3_equations f2_roundSupports f2_stale f7_size f1_size f5_keptSize f5_aheadSize f0_solved f4_blockCount f4_blockLength f4_lastIsFree f4_stale ai al w0 w1 w2 w3) sz) := by
  refine SM.of (y := yX4_blockOf) (maxL := 6) (av := [.ref (ad 29), .int x1]) (Q_m112_X4_blockOf dC dI cI cJ cII cJJ ad f3_unknowns f3_equations f2_roundSupports f2_stale f7_size f1_size f5_keptSize f5_aheadSize f0_solved f4_blockCount f4_blockLength f4_lastIsFree f4_stale ai al w0 w1 w2 w3) (by decide +kernel) (Nat.le_of_ble_eq_true rfl) (fun p e s m below meth c A ls hx hb hr hml hown hts hk hnm hA hK hP hD hS hX hl => ?_)
  have C : Cx p c s m meth (([.ref (ad 29), .int x1] : List Value).toArray) A dC dI (TY cI cJ cII cJJ) cX4_blockOf (some .int) 6 RX4 0 g := ⟨hx, hb, hr, hml, hown, hts, hk, hA, hK, hX⟩
  have hown : s.vm.findClass RX4 = some m.cls := hown
  have hl : lv_has ls 6 [(0, .ref (ad 29)), (1, .int x1)] := hl
  obtain ⟨H, hH⟩ : ∃ q, q = s.heap := ⟨_, rfl⟩
  rw [← hH] at hP
  have hS : va_S A s.heap H [] := by rw [hH]; exact hS
  rw [← hH]
  have ra_x1 := s_any x1
  refine lv_iconst (v := 0) hx hb dX4_blockOf_0 (by decide) ?_
  refine lv_istore_n (lv' := [(2, .int 0), (0, .ref (ad 29)), (1, .int x1)]) hx hb dX4_blockOf_1 rfl hl (by decide) rfl (fun ls_1 hl_1 => ?_)
  refine lv_aload_n hx hb dX4_blockOf_2 rfl (lv_at hl_1 1 rfl) ?_
  refine gf (k := 8) hx hb hts inX4 hown hK hP k_213 rfl (by decide) rfl 29 rfl (.int f4_blockCount) rfl dX4_blockOf_3 ?_
  refine lv_iconst (v := 1) hx hb dX4_blockOf_6 (by decide) ?_
  refine v_isub hx hb dX4_blockOf_7 _ rfl ?_
  refine lv_topi (fun z1 e_z1 => ?_)
  have g_z1 : z1.toInt = f4_blockCount.toInt - 1 := by rw [e_z1]; exact n_sub (a := f4_blockCount.toInt) (b := 1) rfl (by decide +kernel) (by omega) (by omega)
  refine lv_istore_n (lv' := [(3, .int z1), (2, .int 0), (0, .ref (ad 29)), (1, .int x1)]) hx hb dX4_blockOf_8 rfl hl_1 (by decide) rfl (fun ls_2 hl_2 => ?_)
  refine lv_iconst (v := 0) hx hb dX4_blockOf_9 (by decide) ?_
  refine lv_istore (lv' := [(4, .int 0), (3, .int z1), (2, .int 0), (0, .ref (ad 29)), (1, .int x1)]) hx hb dX4_blockOf_10 hl_2 (by decide) rfl (fun ls_3 hl_3 => ?_)
  exact m112_X4_blockOf_b12 C  _ x1 0 z1 0 _ _ _ (by first | omega | decide | (have ka0 := (by decide +kernel : (0 : Int32).toInt = 0); omega)) (by first | omega | decide | (have ka0 := (by decide +kernel : (0 : Int32).toInt = 0); omega)) (by first | omega | decide | (have ka0 := (by decide +kernel : (0 : Int32).toInt = 0); omega)) (by first | omega | decide | (have ka0 := (by decide +kernel : (0 : Int32).toInt = 0); omega)) (by first | omega | decide | (have ka0 := (by decide +kernel : (0 : Int32).toInt = 0); omega)) (by first | omega | decide | (have ka0 := (by decide +kernel : (0 : Int32).toInt = 0); omega)) (by first | omega | decide | (have ka0 := (by decide +kernel : (0 : Int32).toInt = 0); omega)) (by first | omega | decide | (have ka0 := (by decide +kernel : (0 : Int32).toInt = 0); omega)) (by first | omega | decide | (have ka0 := (by decide +kernel : (0 : Int32).toInt = 0); omega)) (by first | omega | decide | (have ka0 := (by decide +kernel : (0 : Int32).toInt = 0); omega)) (by first | omega | decide | (have ka0 := (by decide +kernel : (0 : Int32).toInt = 0); omega)) (by first | omega | decide | (have ka0 := (by decide +kernel : (0 : Int32).toInt = 0); omega)) (by first | omega | decide | (have ka0 := (by decide +kernel : (0 : Int32).toInt = 0); omega)) (by first | omega | decide | (have ka0 := (by decide +kernel : (0 : Int32).toInt = 0); omega)) (j_fuel _) (by omega) hI hw_w0 hw_w1 hw_w2 hw_w3 hP hD hS (lv_sub hl_3 [3, 4, 2, 1, 0] rfl)
def Q_m113_X4_numberOf (dC : Nat → ClassId) (dI : Nat → Nat → Nat) (cI cJ cII cJJ : ClassId) (ad : Nat → Nat) (f3_unknowns f3_equations f2_roundSupports f2_stale f7_size f1_size f5_keptSize f5_aheadSize f0_solved f4_blockCount f4_blockLength f4_lastIsFree f4_stale : Int32) (ai : Nat → Nat → Int32) (al : Nat → Nat → Int64) (w0 w1 w2 w3 : Nat) : (Nat → Prop) → Array Value → State → Outcome → State → Prop := fun A => QI (fun r t => (True) ∧ WO dC dI (TY cI cJ cII cJJ) (WX cI cJ cII cJJ ad f3_unknowns f3_equations f2_roundSupports f2_stale f7_size f1_size f5_keptSize f5_aheadSize f0_solved f4_blockCount f4_blockLength f4_lastIsFree f4_stale ai al w0 w1 w2 w3) A t) A
set_option maxRecDepth 100000 in
set_option maxHeartbeats 4000000 in
theorem m113_X4_numberOf_b41 {p : Program} {l : Launch} {e : Env} {s : State} {m : MethodId} {args : Array Value} {below : List Frame} {meth : Method} {c : Code} {A : Nat → Prop} {dC : Nat → ClassId} {dI : Nat → Nat → Nat} {cI cJ cII cJJ : ClassId} {ad : Nat → Nat} {g : Nat} {f3_unknowns f3_equations f2_roundSupports f2_stale f7_size f1_size f5_keptSize f5_aheadSize f0_solved f4_blockCount f4_blockLength f4_lastIsFree f4_stale : Int32} {ai : Nat → Nat → Int32} {al : Nat → Nat → Int64} {w0 w1 w2 w3 : Nat} (C : Cx p c s m meth args A dC dI (TY cI cJ cII cJJ) cX4_numberOf (some .int) 6 RX4 0 g) : ∀ (n : Nat), ∀ (L2 L3 L4 L5 : Int32) (H : Heap) (locs : List Loc) (ls : Array Slot), (0 ≤ L2.toInt ∧ L2.toInt ≤ 3) → (0 ≤ L5.toInt ∧ L5.toInt ≤ 4) → (1 ≤ f3_unknowns.toInt ∧ f3_unknowns.toInt ≤ 4) → (0 ≤ f3_equations.toInt ∧ f3_equations.toInt ≤ 3) → (0 ≤ f2_stale.toInt ∧ f2_stale.toInt ≤ 1) → (0 ≤ f7_size.toInt ∧ f7_size.toInt ≤ 256) → (0 ≤ f1_size.toInt ∧ f1_size.toInt ≤ 4) → (0 ≤ f5_keptSize.toInt ∧ f5_keptSize.toInt ≤ 128) → (0 ≤ f5_aheadSize.toInt ∧ f5_aheadSize.toInt ≤ 128) → (0 ≤ f4_blockCount.toInt ∧ f4_blockCount.toInt ≤ 9261) → (0 ≤ f4_blockLength.toInt ∧ f4_blockLength.toInt ≤ 21) → (0 ≤ f4_lastIsFree.toInt ∧ f4_lastIsFree.toInt ≤ 1) → (0 ≤ f4_stale.toInt ∧ f4_stale.toInt ≤ 1) → L2.toInt + 1 - L5.toInt < (n : Int) → (0 : Int) < (n : Int) → IAX ai → RWX ad w0 → RWX ad w1 → RWX ad w2 → RWX ad w3 → va_P (dC, dI) vwCl (WX cI cJ cII cJJ ad f3_unknowns f3_equations f2_roundSupports f2_stale f7_size f1_size f5_keptSize f5_aheadSize f0_solved f4_blockCount f4_blockLength f4_lastIsFree f4_stale ai al w0 w1 w2 w3) H → va_D A (WX cI cJ cII cJJ ad f3_unknowns f3_equations f2_roundSupports f2_stale f7_size f1_size f5_keptSize f5_aheadSize f0_solved f4_blockCount f4_blockLength f4_lastIsFree f4_stale ai al w0 w1 w2 w3) → va_S A s.heap H locs → lv_has ls 6 [(0, .ref (ad 29)), (1, .ref (ad 60)), (2, .int L2), (3, .int L3), (4, .int L4), (5, .int L5)] → W p l e ({ frames := 3, cells := 0, slots := 0, locals := 140 } : Room) s m args below meth c H locs 0 0 (MQ below (Q_m113_X4_numberOf dC dI cI cJ cII cJJ ad f3_unknowns f3_equations f2_roundSupports f2_stale f7_size f1_size f5_keptSize f5_aheadSize f0_solved f4_blockCount f4_blockLength f4_lastIsFree f4_stale ai al w0 w1 w2 w3 A) args s 0 0 A) (F0 m 41 ls []) := by
  obtain ⟨hx, hb, hr, hml, hown, hts, hk, hA, hK, hX⟩ := id C
  intro n
  induction n with
  | zero =>
    intro L2 L3 L4 L5 H locs ls h0 h1 h2 h3 h4 h5 h6 h7 h8 h9 h10 h11 h12 h13 h14 hI hw_w0 hw_w1 hw_w2 hw_w3 hP hD hS hl
    exact absurd h14 (by omega)
  | succ n ih =>
    intro L2 L3 L4 L5 H locs ls h0 h1 h2 h3 h4 h5 h6 h7 h8 h9 h10 h11 h12 h13 h14 hI hw_w0 hw_w1 hw_w2 hw_w3 hP hD hS hl
    have ra_L3 := s_any L3
    have ra_L4 := s_any L4
    refine lv_iload hx hb dX4_numberOf_41 (lv_at hl 5 rfl) ?_
    refine lv_iload_n hx hb dX4_numberOf_43 rfl (lv_at hl 2 rfl) ?_
    refine lv_icmp_gt (tgt := 68) hx hb dX4_numberOf_44 (by decide) (fun c1 => ?_) (fun c1 => ?_)
    · have c1 := j_lt (a := L2.toInt) (b := L5.toInt) rfl rfl c1
      refine lv_aload_n hx hb dX4_numberOf_68 rfl (lv_at hl 0 rfl) ?_
      refine lv_iload hx hb dX4_numberOf_69 (lv_at hl 4 rfl) ?_
      refine lv_iload_n hx hb dX4_numberOf_71 rfl (lv_at hl 3 rfl) ?_
      refine v_isub hx hb dX4_numberOf_72 _ rfl ?_
      refine lv_topi (fun z2 e_z2 => ?_)
      have hM := m112_X4_blockOf l dC dI cI cJ cII cJJ H.size 0 ad f3_unknowns f3_equations f2_roundSupports f2_stale f7_size f1_size f5_keptSize f5_aheadSize f0_solved f4_blockCount f4_blockLength f4_lastIsFree f4_stale ai al w0 w1 w2 w3 z2 (by omega) (by omega) (by omega) (by omega) (by omega) (by omega) (by omega) (by omega) (by omega) (by omega) (by omega) hI hw_w0 hw_w1 hw_w2 hw_w3
      refine k2V_i (q0 := 29) ⟨hx, hb, hml, hown, hts⟩ hK hP hD hS hA hX cv_RX4_89 hM ⟨by decide +kernel, by decide +kernel⟩ rfl rfl (Or.inl rfl) (rest := []) rfl rfl rfl hl.1 rfl (Nat.le_of_ble_eq_true rfl) dX4_numberOf_73 ⟨Nat.le_of_ble_eq_true rfl, Nat.le_of_ble_eq_true rfl⟩ (fun r3 t H1 locs_1 ht hB hS_1 hFc => ?_)
      obtain ⟨gpr3_0, hP_2, -, hD_2⟩ := hB
      rw [ht] at hP_2
      have hD_3 := hD_2.weaken (B := A) (fun k q _ h9 => hFc q.1 h9)
      clear ht
      generalize H1 = H_4 at hP_2 hS_1 ⊢
      refine lv_aload_n hx hb dX4_numberOf_76 rfl (lv_at hl 0 rfl) ?_
      refine gf (k := 9) hx hb hts inX4 hown hK hP_2 k_214 rfl (by decide) rfl 29 rfl (.int f4_blockLength) rfl dX4_numberOf_77 ?_
      refine v_imul hx hb dX4_numberOf_80 _ rfl ?_
      refine lv_topi (fun z4 e_z4 => ?_)
      refine lv_iload_n hx hb dX4_numberOf_81 rfl (lv_at hl 3 rfl) ?_
      refine v_iadd hx hb dX4_numberOf_82 _ rfl ?_
      refine lv_topi (fun z5 e_z5 => ?_)
      exact r2_i hx hb hr hk hS_1 dX4_numberOf_83 (fun t ht hW => ⟨trivial, by rw [ht]; exact hP_2, va_K.moved hW.alike hK, hD_3⟩)
    · have c1 := j_nlt (a := L2.toInt) (b := L5.toInt) rfl rfl c1
      refine lv_iload hx hb dX4_numberOf_47 (lv_at hl 4 rfl) ?_
      refine lv_bipush (v := 21) hx hb dX4_numberOf_49 (by decide) ?_
      refine v_imul hx hb dX4_numberOf_51 _ rfl ?_
      refine lv_topi (fun z6 e_z6 => ?_)
      refine lv_aload_n hx hb dX4_numberOf_52 rfl (lv_at hl 1 rfl) ?_
      refine lv_iload hx hb dX4_numberOf_53 (lv_at hl 5 rfl) ?_
      refine va_iald hx hb hK hP 60 0 rfl rfl (j_in (a := L5.toInt) rfl (by omega) (by omega)) dX4_numberOf_55 ?_
      refine lv_topi (fun z7 e_z7 => ?_)
      refine v_iadd hx hb dX4_numberOf_56 _ rfl ?_
      refine lv_topi (fun z8 e_z8 => ?_)
      refine lv_bipush (v := 10) hx hb dX4_numberOf_57 (by decide) ?_
      refine v_iadd hx hb dX4_numberOf_59 _ rfl ?_
      refine lv_topi (fun z9 e_z9 => ?_)
      refine lv_istore (lv' := [(4, .int z9), (0, .ref (ad 29)), (1, .ref (ad 60)), (2, .int L2), (3, .int L3), (5, .int L5)]) hx hb dX4_numberOf_60 hl (by decide) rfl (fun ls_5 hl_5 => ?_)
      obtain ⟨z10, e_z10⟩ : ∃ q : Int32, q = L5 + Int32.ofInt 1 := ⟨_, rfl⟩
      have g_z10 : z10.toInt = L5.toInt + 1 := by rw [e_z10]; exact n_add (a := L5.toInt) (b := 1) rfl (by decide +kernel) (by omega) (by omega)
      refine lv_iinc (v := z10) (lv' := [(5, .int z10), (4, .int z9), (0, .ref (ad 29)), (1, .ref (ad 60)), (2, .int L2), (3, .int L3)]) hx hb dX4_numberOf_62 hl_5 (k := 5) rfl e_z10.symm (by decide) rfl (fun ls_6 hl_6 => ?_)
      refine lv_goto (tgt := 41) hx hb dX4_numberOf_65 (by decide) ?_
      exact ih L2 L3 z9 z10 _ _ _ (by omega) (by omega) (by omega) (by omega) (by omega) (by omega) (by omega) (by omega) (by omega) (by omega) (by omega) (by omega) (by omega) (by omega) (by omega) hI hw_w0 hw_w1 hw_w2 hw_w3 hP hD hS (lv_sub hl_6 [2, 3, 4, 5, 1, 0] rfl)
set_option maxRecDepth 100000 in
set_option maxHeartbeats 4000000 in
theorem m113_X4_numberOf_b34 {p : Program} {l : Launch} {e : Env} {s : State} {m : MethodId} {args : Array Value} {below : List Frame} {meth : Method} {c : Code} {A : Nat → Prop} {dC : Nat → ClassId} {dI : Nat → Nat → Nat} {cI cJ cII cJJ : ClassId} {ad : Nat → Nat} {g : Nat} {f3_unknowns f3_equations f2_roundSupports f2_stale f7_size f1_size f5_keptSize f5_aheadSize f0_solved f4_blockCount f4_blockLength f4_lastIsFree f4_stale : Int32} {ai : Nat → Nat → Int32} {al : Nat → Nat → Int64} {w0 w1 w2 w3 : Nat} (C : Cx p c s m meth args A dC dI (TY cI cJ cII cJJ) cX4_numberOf (some .int) 6 RX4 0 g) : ∀ (L2 S0 : Int32) (H : Heap) (locs : List Loc) (ls : Array Slot), (0 ≤ L2.toInt ∧ L2.toInt ≤ 3) → (1 ≤ f3_unknowns.toInt ∧ f3_unknowns.toInt ≤ 4) → (0 ≤ f3_equations.toInt ∧ f3_equations.toInt ≤ 3) → (0 ≤ f2_stale.toInt ∧ f2_stale.toInt ≤ 1) → (0 ≤ f7_size.toInt ∧ f7_size.toInt ≤ 256) → (0 ≤ f1_size.toInt ∧ f1_size.toInt ≤ 4) → (0 ≤ f5_keptSize.toInt ∧ f5_keptSize.toInt ≤ 128) → (0 ≤ f5_aheadSize.toInt ∧ f5_aheadSize.toInt ≤ 128) → (0 ≤ f4_blockCount.toInt ∧ f4_blockCount.toInt ≤ 9261) → (0 ≤ f4_blockLength.toInt ∧ f4_blockLength.toInt ≤ 21) → (0 ≤ f4_lastIsFree.toInt ∧ f4_lastIsFree.toInt ≤ 1) → (0 ≤ f4_stale.toInt ∧ f4_stale.toInt ≤ 1) → IAX ai → RWX ad w0 → RWX ad w1 → RWX ad w2 → RWX ad w3 → va_P (dC, dI) vwCl (WX cI cJ cII cJJ ad f3_unknowns f3_equations f2_roundSupports f2_stale f7_size f1_size f5_keptSize f5_aheadSize f0_solved f4_blockCount f4_blockLength f4_lastIsFree f4_stale ai al w0 w1 w2 w3) H → va_D A (WX cI cJ cII cJJ ad f3_unknowns f3_equations f2_roundSupports f2_stale f7_size f1_size f5_keptSize f5_aheadSize f0_solved f4_blockCount f4_blockLength f4_lastIsFree f4_stale ai al w0 w1 w2 w3) → va_S A s.heap H locs → lv_has ls 6 [(0, .ref (ad 29)), (1, .ref (ad 60)), (2, .int L2)] → W p l e ({ frames := 3, cells := 0, slots := 0, locals := 140 } : Room) s m args below meth c H locs 0 0 (MQ below (Q_m113_X4_numberOf dC dI cI cJ cII cJJ ad f3_unknowns f3_equations f2_roundSupports f2_stale f7_size f1_size f5_keptSize f5_aheadSize f0_solved f4_blockCount f4_blockLength f4_lastIsFree f4_stale ai al w0 w1 w2 w3 A) args s 0 0 A) (F0 m 34 ls [.int S0]) := by
  obtain ⟨hx, hb, hr, hml, hown, hts, hk, hA, hK, hX⟩ := id C
  intro L2 S0 H locs ls h0 h1 h2 h3 h4 h5 h6 h7 h8 h9 h10 h11 hI hw_w0 hw_w1 hw_w2 hw_w3 hP hD hS hl
  have ra_S0 := s_any S0
  refine lv_istore_n (lv' := [(3, .int S0), (0, .ref (ad 29)), (1, .ref (ad 60)), (2, .int L2)]) hx hb dX4_numberOf_34 rfl hl (by decide) rfl (fun ls_1 hl_1 => ?_)
  refine lv_iconst (v := 0) hx hb dX4_numberOf_35 (by decide) ?_
  refine lv_istore (lv' := [(4, .int 0), (3, .int S0), (0, .ref (ad 29)), (1, .ref (ad 60)), (2, .int L2)]) hx hb dX4_numberOf_36 hl_1 (by decide) rfl (fun ls_2 hl_2 => ?_)
  refine lv_iconst (v := 0) hx hb dX4_numberOf_38 (by decide) ?_
  refine lv_istore (lv' := [(5, .int 0), (4, .int 0), (3, .int S0), (0, .ref (ad 29)), (1, .ref (ad 60)), (2, .int L2)]) hx hb dX4_numberOf_39 hl_2 (by decide) rfl (fun ls_3 hl_3 => ?_)
  exact m113_X4_numberOf_b41 C  _ L2 S0 0 0 _ _ _ (by first | omega | decide | (have ka0 := (by decide +kernel : (0 : Int32).toInt = 0); omega)) (by first | omega | decide | (have ka0 := (by decide +kernel : (0 : Int32).toInt = 0); omega)) (by first | omega | decide | (have ka0 := (by decide +kernel : (0 : Int32).toInt = 0); omega)) (by first | omega | decide | (have ka0 := (by decide +kernel : (0 : Int32).toInt = 0); omega)) (by first | omega | decide | (have ka0 := (by decide +kernel : (0 : Int32).toInt = 0); omega)) (by first | omega | decide | (have ka0 := (by decide +kernel : (0 : Int32).toInt = 0); omega)) (by first | omega | decide | (have ka0 := (by decide +kernel : (0 : Int32).toInt = 0); omega)) (by first | omega | decide | (have ka0 := (by decide +kernel : (0 : Int32).toInt = 0); omega)) (by first | omega | decide | (have ka0 := (by decide +kernel : (0 : Int32).toInt = 0); omega)) (by first | omega | decide | (have ka0 := (by decide +kernel : (0 : Int32).toInt = 0); omega)) (by first | omega | decide | (have ka0 := (by decide +kernel : (0 : Int32).toInt = 0); omega)) (by first | omega | decide | (have ka0 := (by decide +kernel : (0 : Int32).toInt = 0); omega)) (by first | omega | decide | (have ka0 := (by decide +kernel : (0 : Int32).toInt = 0); omega)) (j_fuel _) (by omega) hI hw_w0 hw_w1 hw_w2 hw_w3 hP hD hS (lv_sub hl_3 [3, 4, 5, 2, 1, 0] rfl)
set_option maxRecDepth 100000 in
set_option maxHeartbeats 4000000 in
theorem m113_X4_numberOf (l : Launch) (dC : Nat → ClassId) (dI : Nat → Nat → Nat) (cI cJ cII cJJ : ClassId) (sz g : Nat) (ad : Nat → Nat) (f3_unknowns f3_equations f2_roundSupports f2_stale f7_size f1_size f5_keptSize f5_aheadSize f0_solved f4_blockCount f4_blockLength f4_lastIsFree f4_stale : Int32) (ai : Nat → Nat → Int32) (al : Nat → Nat → Int64) (w0 w1 w2 w3 : Nat) (h_f3_unknowns : (1 ≤ f3_unknowns.toInt ∧ f3_unknowns.toInt ≤ 4)) (h_f3_equations : (0 ≤ f3_equations.toInt ∧ f3_equations.toInt ≤ 3)) (h_f2_stale : (0 ≤ f2_stale.toInt ∧ f2_stale.toInt ≤ 1)) (h_f7_size : (0 ≤ f7_size.toInt ∧ f7_size.toInt ≤ 256)) (h_f1_size : (0 ≤ f1_size.toInt ∧ f1_size.toInt ≤ 4)) (h_f5_keptSize : (0 ≤ f5_keptSize.toInt ∧ f5_keptSize.toInt ≤ 128)) (h_f5_aheadSize : (0 ≤ f5_aheadSize.toInt ∧ f5_aheadSize.toInt ≤ 128)) (h_f4_blockCount : (0 ≤ f4_blockCount.toInt ∧ f4_blockCount.toInt ≤ 9261)) (h_f4_blockLength : (0 ≤ f4_blockLength.toInt ∧ f4_blockLength.toInt ≤ 21)) (h_f4_lastIsFree : (0 ≤ f4_lastIsFree.toInt ∧ f4_lastIsFree.toInt ≤ 1)) (h_f4_stale : (0 ≤ f4_stale.toInt ∧ f4_stale.toInt ≤ 1)) (hI : IAX ai) (hw_w0 : RWX ad w0) (hw_w1 : RWX ad w1) (hw_w2 : RWX ad w2) (hw_w3 : RWX ad w3) : Met l yX4_numberOf (.code yX4_numberOf cX4_numberOf 6 (some .int) :: TT) ({ frames := 3, cells := 0, slots := 0, locals := 140 } : Room) (PcS dC dI (TY cI cJ cII cJJ) [.ref (ad 29), .ref (ad 60)] (WX cI cJ cII cJJ ad f3_unknowns f3_equations f2_roundSupports f2_stale f7_size f1_size f5_keptSize f5_aheadSize f0_solved f4_blockCount f4_blockLength f4_lastIsFree f4_stale ai al w0 w1 w2 w3) sz 0 g) (Q_m113_X4_numberOf dC dI cI cJ cII cJJ ad f3_unknowns f3_equations f2_roundSupports f2_stale f7_size f1_size f5_keptSize f5_aheadSize f0_solved f4_blockCount f4_blockLength f4_lastIsFree f4_stale ai al w0 w1 w2 w3 (va_A (WX cI cJ cII cJJ ad f3_unknowns f3_equations f2_roundSupports f2_stale f7_size f1_size f5_keptSize f5_aheadSize f0_solved f4_blockCount f4_blockLength f4_lastIsFree f4_stale ai al w0 w1 w2 w3) sz)) 0 0 (va_A (WX cI cJ cII cJJ ad f3_unknowns f3_equations f2_roundSupports f2_stale f7_size f1_size f5_keptSize f5_aheadSize f0_solved f4_blockCount f4_blockLength f4_lastIsFree f4_stale ai al w0 w1 w2 w3) sz) := by
  refine SM.of (y := yX4_numberOf) (maxL := 6) (av := [.ref (ad 29), .ref (ad 60)]) (Q_m113_X4_numberOf dC dI cI cJ cII cJJ ad f3_unknowns f3_equations f2_roundSupports f2_stale f7_size f1_size f5_keptSize f5_aheadSize f0_solved f4_blockCount f4_blockLength f4_lastIsFree f4_stale ai al w0 w1 w2 w3) (by decide +kernel) (Nat.le_of_ble_eq_true rfl) (fun p e s m below meth c A ls hx hb hr hml hown hts hk hnm hA hK hP hD hS hX hl => ?_)
  have C : Cx p c s m meth (([.ref (ad 29), .ref (ad 60)] : List Value).toArray) A dC dI (TY cI cJ cII cJJ) cX4_numberOf (some .int) 6 RX4 0 g := ⟨hx, hb, hr, hml, hown, hts, hk, hA, hK, hX⟩
  have hown : s.vm.findClass RX4 = some m.cls := hown
  have hl : lv_has ls 6 [(0, .ref (ad 29)), (1, .ref (ad 60))] := hl
  obtain ⟨H, hH⟩ : ∃ q, q = s.heap := ⟨_, rfl⟩
  rw [← hH] at hP
  have hS : va_S A s.heap H [] := by rw [hH]; exact hS
  rw [← hH]
  refine lv_aload_n hx hb dX4_numberOf_0 rfl (lv_at hl 0 rfl) ?_
  refine gf (k := 0) hx hb hts inX4 hown hK hP k_205 rfl (by decide) rfl 29 rfl (.ref (ad 6)) rfl dX4_numberOf_1 ?_
  refine gf (k := 0) hx hb hts inX3 hown hK hP k_39 rfl (by decide) rfl 6 rfl (.int f3_unknowns) rfl dX4_numberOf_4 ?_
  refine lv_iconst (v := 1) hx hb dX4_numberOf_7 (by decide) ?_
  refine v_isub hx hb dX4_numberOf_8 _ rfl ?_
  refine lv_topi (fun z1 e_z1 => ?_)
  have g_z1 : z1.toInt = f3_unknowns.toInt - 1 := by rw [e_z1]; exact n_sub (a := f3_unknowns.toInt) (b := 1) rfl (by decide +kernel) (by omega) (by omega)
  refine lv_istore_n (lv' := [(2, .int z1), (0, .ref (ad 29)), (1, .ref (ad 60))]) hx hb dX4_numberOf_9 rfl hl (by decide) rfl (fun ls_1 hl_1 => ?_)
  refine lv_aload_n hx hb dX4_numberOf_10 rfl (lv_at hl_1 1 rfl) ?_
  refine gf (k := 10) hx hb hts inX4 hown hK hP k_215 rfl (by decide) rfl 29 rfl (.int f4_lastIsFree) rfl dX4_numberOf_11 ?_
  refine lv_if_eq (tgt := 33) hx hb dX4_numberOf_14 (by decide) (fun c2 => ?_) (fun c2 => ?_)
  · have c2 := j_eq (a := f4_lastIsFree.toInt) (b := 0) rfl (by decide +kernel) c2
    refine lv_iconst (v := 0) hx hb dX4_numberOf_33 (by decide) ?_
    exact m113_X4_numberOf_b34 C  z1 0 _ _ _ (by first | omega | decide | (have ka0 := (by decide +kernel : (0 : Int32).toInt = 0); omega)) (by first | omega | decide | (have ka0 := (by decide +kernel : (0 : Int32).toInt = 0); omega)) (by first | omega | decide | (have ka0 := (by decide +kernel : (0 : Int32).toInt = 0); omega)) (by first | omega | decide | (have ka0 := (by decide +kernel : (0 : Int32).toInt = 0); omega)) (by first | omega | decide | (have ka0 := (by decide +kernel : (0 : Int32).toInt = 0); omega)) (by first | omega | decide | (have ka0 := (by decide +kernel : (0 : Int32).toInt = 0); omega)) (by first | omega | decide | (have ka0 := (by decide +kernel : (0 : Int32).toInt = 0); omega)) (by first | omega | decide | (have ka0 := (by decide +kernel : (0 : Int32).toInt = 0); omega)) (by first | omega | decide | (have ka0 := (by decide +kernel : (0 : Int32).toInt = 0); omega)) (by first | omega | decide | (have ka0 := (by decide +kernel : (0 : Int32).toInt = 0); omega)) (by first | omega | decide | (have ka0 := (by decide +kernel : (0 : Int32).toInt = 0); omega)) (by first | omega | decide | (have ka0 := (by decide +kernel : (0 : Int32).toInt = 0); omega)) hI hw_w0 hw_w1 hw_w2 hw_w3 hP hD hS (lv_sub hl_1 [1, 2, 0] rfl)
  · have c2 := j_ne (a := f4_lastIsFree.toInt) (b := 0) rfl (by decide +kernel) c2
    refine lv_aload_n hx hb dX4_numberOf_17 rfl (lv_at hl_1 2 rfl) ?_
    refine lv_iload_n hx hb dX4_numberOf_18 rfl (lv_at hl_1 0 rfl) ?_
    refine va_iald hx hb hK hP 60 0 rfl rfl (j_in (a := z1.toInt) rfl (by omega) (by omega)) dX4_numberOf_19 ?_
    refine lv_topi (fun z3 e_z3 => ?_)
    refine lv_aload_n hx hb dX4_numberOf_20 rfl (lv_at hl_1 1 rfl) ?_
    refine gf (k := 0) hx hb hts inX4 hown hK hP k_205 rfl (by decide) rfl 29 rfl (.ref (ad 6)) rfl dX4_numberOf_21 ?_
    refine gf (k := 4) hx hb hts inX3 hown hK hP k_57 rfl (by decide) rfl 6 rfl (.ref (ad 7)) rfl dX4_numberOf_24 ?_
    refine lv_iload_n hx hb dX4_numberOf_27 rfl (lv_at hl_1 0 rfl) ?_
    refine va_iald hx hb hK hP 7 0 rfl rfl (j_in (a := z1.toInt) rfl (by omega) (by omega)) dX4_numberOf_28 ?_
    refine lv_topi (fun z4 e_z4 => ?_)
    have g_z4 : -10 ≤ z4.toInt ∧ z4.toInt ≤ 10 := by rw [e_z4]; exact IAX_at7 hI _
    refine v_isub hx hb dX4_numberOf_29 _ rfl ?_
    refine lv_topi (fun z5 e_z5 => ?_)
    refine lv_goto (tgt := 34) hx hb dX4_numberOf_30 (by decide) ?_
    exact m113_X4_numberOf_b34 C  z1 z5 _ _ _ (by omega) (by omega) (by omega) (by omega) (by omega) (by omega) (by omega) (by omega) (by omega) (by omega) (by omega) (by omega) hI hw_w0 hw_w1 hw_w2 hw_w3 hP hD hS (lv_sub hl_1 [1, 2, 0] rfl)
def Q_m114_X4_leastOf (dC : Nat → ClassId) (dI : Nat → Nat → Nat) (cI cJ cII cJJ : ClassId) (ad : Nat → Nat) (f3_unknowns f3_equations f2_roundSupports f2_stale f7_size f1_size f5_keptSize f5_aheadSize f0_solved f4_blockCount f4_blockLength f4_lastIsFree f4_stale : Int32) (ai : Nat → Nat → Int32) (al : Nat → Nat → Int64) (w0 w1 w2 w3 : Nat) : (Nat → Prop) → Array Value → State → Outcome → State → Prop := fun A => QI (fun r t => (r.toInt ≤ 10) ∧ WO dC dI (TY cI cJ cII cJJ) (WX cI cJ cII cJJ ad f3_unknowns f3_equations f2_roundSupports f2_stale f7_size f1_size f5_keptSize f5_aheadSize f0_solved f4_blockCount f4_blockLength f4_lastIsFree f4_stale ai al w0 w1 w2 w3) A t) A
set_option maxRecDepth 100000 in
set_option maxHeartbeats 4000000 in
theorem m114_X4_leastOf_b5 {p : Program} {l : Launch} {e : Env} {s : State} {m : MethodId} {args : Array Value} {below : List Frame} {meth : Method} {c : Code} {A : Nat → Prop} {dC : Nat → ClassId} {dI : Nat → Nat → Nat} {cI cJ cII cJJ : ClassId} {ad : Nat → Nat} {g : Nat} {f3_unknowns f3_equations f2_roundSupports f2_stale f7_size f1_size f5_keptSize f5_aheadSize f0_solved f4_blockCount f4_blockLength f4_lastIsFree f4_stale : Int32} {ai : Nat → Nat → Int32} {al : Nat → Nat → Int64} {w0 w1 w2 w3 : Nat} (C : Cx p c s m meth args A dC dI (TY cI cJ cII cJJ) cX4_leastOf (some .int) 4 RX4 0 g) : ∀ (n : Nat), ∀ (L1 L2 L3 : Int32) (H : Heap) (locs : List Loc) (ls : Array Slot), L2.toInt ≤ 10 → (0 ≤ L3.toInt ∧ L3.toInt ≤ 9261) → (1 ≤ f3_unknowns.toInt ∧ f3_unknowns.toInt ≤ 4) → (0 ≤ f3_equations.toInt ∧ f3_equations.toInt ≤ 3) → (0 ≤ f2_stale.toInt ∧ f2_stale.toInt ≤ 1) → (0 ≤ f7_size.toInt ∧ f7_size.toInt ≤ 256) → (0 ≤ f1_size.toInt ∧ f1_size.toInt ≤ 4) → (0 ≤ f5_keptSize.toInt ∧ f5_keptSize.toInt ≤ 128) → (0 ≤ f5_aheadSize.toInt ∧ f5_aheadSize.toInt ≤ 128) → (0 ≤ f4_blockCount.toInt ∧ f4_blockCount.toInt ≤ 9261) → (0 ≤ f4_blockLength.toInt ∧ f4_blockLength.toInt ≤ 21) → (0 ≤ f4_lastIsFree.toInt ∧ f4_lastIsFree.toInt ≤ 1) → (0 ≤ f4_stale.toInt ∧ f4_stale.toInt ≤ 1) → f4_blockCount.toInt - L3.toInt < (n : Int) → (0 : Int) < (n : Int) → IAX ai → RWX ad w0 → RWX ad w1 → RWX ad w2 → RWX ad w3 → va_P (dC, dI) vwCl (WX cI cJ cII cJJ ad f3_unknowns f3_equations f2_roundSupports f2_stale f7_size f1_size f5_keptSize f5_aheadSize f0_solved f4_blockCount f4_blockLength f4_lastIsFree f4_stale ai al w0 w1 w2 w3) H → va_D A (WX cI cJ cII cJJ ad f3_unknowns f3_equations f2_roundSupports f2_stale f7_size f1_size f5_keptSize f5_aheadSize f0_solved f4_blockCount f4_blockLength f4_lastIsFree f4_stale ai al w0 w1 w2 w3) → va_S A s.heap H locs → lv_has ls 4 [(0, .ref (ad 29)), (1, .int L1), (2, .int L2), (3, .int L3)] → W p l e ({ frames := 3, cells := 0, slots := 0, locals := 140 } : Room) s m args below meth c H locs 0 0 (MQ below (Q_m114_X4_leastOf dC dI cI cJ cII cJJ ad f3_unknowns f3_equations f2_roundSupports f2_stale f7_size f1_size f5_keptSize f5_aheadSize f0_solved f4_blockCount f4_blockLength f4_lastIsFree f4_stale ai al w0 w1 w2 w3 A) args s 0 0 A) (F0 m 5 ls []) := by
  obtain ⟨hx, hb, hr, hml, hown, hts, hk, hA, hK, hX⟩ := id C
  intro n
  induction n with
  | zero =>
    intro L1 L2 L3 H locs ls h0 h1 h2 h3 h4 h5 h6 h7 h8 h9 h10 h11 h12 h13 h14 hI hw_w0 hw_w1 hw_w2 hw_w3 hP hD hS hl
    exact absurd h14 (by omega)
  | succ n ih =>
    intro L1 L2 L3 H locs ls h0 h1 h2 h3 h4 h5 h6 h7 h8 h9 h10 h11 h12 h13 h14 hI hw_w0 hw_w1 hw_w2 hw_w3 hP hD hS hl
    have ra_L1 := s_any L1
    have ra_L2 := s_any L2
    refine lv_iload_n hx hb dX4_leastOf_5 rfl (lv_at hl 3 rfl) ?_
    refine lv_aload_n hx hb dX4_leastOf_6 rfl (lv_at hl 0 rfl) ?_
    refine gf (k := 8) hx hb hts inX4 hown hK hP k_213 rfl (by decide) rfl 29 rfl (.int f4_blockCount) rfl dX4_leastOf_7 ?_
    refine lv_icmp_ge (tgt := 30) hx hb dX4_leastOf_10 (by decide) (fun c1 => ?_) (fun c1 => ?_)
    · have c1 := j_le (a := f4_blockCount.toInt) (b := L3.toInt) rfl rfl c1
      refine lv_iload_n hx hb dX4_leastOf_30 rfl (lv_at hl 2 rfl) ?_
      exact r2_i hx hb hr hk hS dX4_leastOf_31 (fun t ht hW => ⟨(by first | omega | decide | exact Or.inl (by decide) | exact Or.inr (by decide) | exact Or.inr (by omega)), by rw [ht]; exact hP, va_K.moved hW.alike hK, hD⟩)
    · have c1 := j_nle (a := f4_blockCount.toInt) (b := L3.toInt) rfl rfl c1
      refine lv_iload_n hx hb dX4_leastOf_13 rfl (lv_at hl 2 rfl) ?_
      refine lv_aload_n hx hb dX4_leastOf_14 rfl (lv_at hl 0 rfl) ?_
      refine lv_iload_n hx hb dX4_leastOf_15 rfl (lv_at hl 3 rfl) ?_
      refine lv_iload_n hx hb dX4_leastOf_16 rfl (lv_at hl 1 rfl) ?_
      have hM := m111_X4_digitOf l dC dI cI cJ cII cJJ H.size 0 ad f3_unknowns f3_equations f2_roundSupports f2_stale f7_size f1_size f5_keptSize f5_aheadSize f0_solved f4_blockCount f4_blockLength f4_lastIsFree f4_stale ai al w0 w1 w2 w3 L3 L1 (by omega) (by omega) (by omega) (by omega) (by omega) (by omega) (by omega) (by omega) (by omega) (by omega) (by omega) (by omega) hI hw_w0 hw_w1 hw_w2 hw_w3
      refine k2V_i (q0 := 29) ⟨hx, hb, hml, hown, hts⟩ hK hP hD hS hA hX cv_RX4_93 hM ⟨by decide +kernel, by decide +kernel⟩ rfl rfl (Or.inl rfl) (rest := [.int L2]) rfl rfl rfl hl.1 rfl (Nat.le_of_ble_eq_true rfl) dX4_leastOf_17 ⟨Nat.le_of_ble_eq_true rfl, Nat.le_of_ble_eq_true rfl⟩ (fun r2 t H1 locs_1 ht hB hS_1 hFc => ?_)
      obtain ⟨-, hP_2, -, hD_2⟩ := hB
      rw [ht] at hP_2
      have hD_3 := hD_2.weaken (B := A) (fun k q _ h9 => hFc q.1 h9)
      clear ht
      generalize H1 = H_4 at hP_2 hS_1 ⊢
      refine va_mmin hx hb (by rw [hml]; exact hl.1.symm) hown (hts _ k_672) (hts _ k_464) (hts _ k_13) (hts _ k_465) (by decide) (Nat.le_of_ble_eq_true rfl) (Nat.le_of_ble_eq_true rfl) (Nat.le_of_ble_eq_true rfl) dX4_leastOf_20 ?_
      refine lv_topi (fun z3 e_z3 => ?_)
      have g_z3 : (z3.toInt = L2.toInt ∨ z3.toInt = r2.toInt) ∧ L2.toInt ≥ z3.toInt ∧ r2.toInt ≥ z3.toInt := by rw [e_z3]; exact n_min (a := L2.toInt) (b := r2.toInt) rfl rfl
      refine lv_istore_n (lv' := [(2, .int z3), (0, .ref (ad 29)), (1, .int L1), (3, .int L3)]) hx hb dX4_leastOf_23 rfl hl (by decide) rfl (fun ls_5 hl_5 => ?_)
      obtain ⟨z4, e_z4⟩ : ∃ q : Int32, q = L3 + Int32.ofInt 1 := ⟨_, rfl⟩
      have g_z4 : z4.toInt = L3.toInt + 1 := by rw [e_z4]; exact n_add (a := L3.toInt) (b := 1) rfl (by decide +kernel) (by omega) (by omega)
      refine lv_iinc (v := z4) (lv' := [(3, .int z4), (2, .int z3), (0, .ref (ad 29)), (1, .int L1)]) hx hb dX4_leastOf_24 hl_5 (k := 3) rfl e_z4.symm (by decide) rfl (fun ls_6 hl_6 => ?_)
      refine lv_goto (tgt := 5) hx hb dX4_leastOf_27 (by decide) ?_
      exact ih L1 z3 z4 _ _ _ (by omega) (by omega) (by omega) (by omega) (by omega) (by omega) (by omega) (by omega) (by omega) (by omega) (by omega) (by omega) (by omega) (by omega) (by omega) hI hw_w0 hw_w1 hw_w2 hw_w3 hP_2 hD_3 hS_1 (lv_sub hl_6 [2, 3, 1, 0] rfl)
set_option maxRecDepth 100000 in
set_option maxHeartbeats 4000000 in
theorem m114_X4_leastOf (l : Launch) (dC : Nat → ClassId) (dI : Nat → Nat → Nat) (cI cJ cII cJJ : ClassId) (sz g : Nat) (ad : Nat → Nat) (f3_unknowns f3_equations f2_roundSupports f2_stale f7_size f1_size f5_keptSize f5_aheadSize f0_solved f4_blockCount f4_blockLength f4_lastIsFree f4_stale : Int32) (ai : Nat → Nat → Int32) (al : Nat → Nat → Int64) (w0 w1 w2 w3 : Nat) (x1 : Int32) (h_f3_unknowns : (1 ≤ f3_unknowns.toInt ∧ f3_unknowns.toInt ≤ 4)) (h_f3_equations : (0 ≤ f3_equations.toInt ∧ f3_equations.toInt ≤ 3)) (h_f2_stale : (0 ≤ f2_stale.toInt ∧ f2_stale.toInt ≤ 1)) (h_f7_size : (0 ≤ f7_size.toInt ∧ f7_size.toInt ≤ 256)) (h_f1_size : (0 ≤ f1_size.toInt ∧ f1_size.toInt ≤ 4)) (h_f5_keptSize : (0 ≤ f5_keptSize.toInt ∧ f5_keptSize.toInt ≤ 128)) (h_f5_aheadSize : (0 ≤ f5_aheadSize.toInt ∧ f5_aheadSize.toInt ≤ 128)) (h_f4_blockCount : (0 ≤ f4_blockCount.toInt ∧ f4_blockCount.toInt ≤ 9261)) (h_f4_blockLength : (0 ≤ f4_blockLength.toInt ∧ f4_blockLength.toInt ≤ 21)) (h_f4_lastIsFree : (0 ≤ f4_lastIsFree.toInt ∧ f4_lastIsFree.toInt ≤ 1)) (h_f4_stale : (0 ≤ f4_stale.toInt ∧ f4_stale.toInt ≤ 1)) (hI : IAX ai) (hw_w0 : RWX ad w0) (hw_w1 : RWX ad w1) (hw_w2 : RWX ad w2) (hw_w3 : RWX ad w3) : Met l yX4_leastOf (.code yX4_leastOf cX4_leastOf 4 (some .int) :: TT) ({ frames := 3, cells := 0, slots := 0, locals := 140 } : Room) (PcS dC dI (TY cI cJ cII cJJ) [.ref (ad 29), .int x1] (WX cI cJ cII cJJ ad f3_unknowns f3_equations f2_roundSupports f2_stale f7_size f1_size f5_keptSize f5_aheadSize f0_solved f4_blockCount f4_blockLength f4_lastIsFree f4_stale ai al w0 w1 w2 w3) sz 0 g) (Q_m114_X4_leastOf dC dI cI cJ cII cJJ ad f3_unknowns f3_equations f2_roundSupports f2_stale f7_size f1_size f5_keptSize f5_aheadSize f0_solved f4_blockCount f4_blockLength f4_lastIsFree f4_stale ai al w0 w1 w2 w3 (va_A (WX cI cJ cII cJJ ad f3_unknowns f3_equations f2_roundSupports f2_stale f7_size f1_size f5_keptSize f5_aheadSize f0_solved f4_blockCount f4_blockLength f4_lastIsFree f4_stale ai al w0 w1 w2 w3) sz)) 0 0 (va_A (WX cI cJ cII cJJ ad f3_unknowns f3_equations f2_roundSupports f2_stale f7_size f1_size f5_keptSize f5_aheadSize f0_solved f4_blockCount f4_blockLength f4_lastIsFree f4_stale ai al w0 w1 w2 w3) sz) := by
  refine SM.of (y := yX4_leastOf) (maxL := 4) (av := [.ref (ad 29), .int x1]) (Q_m114_X4_leastOf dC dI cI cJ cII cJJ ad f3_unknowns f3_equations f2_roundSupports f2_stale f7_size f1_size f5_keptSize f5_aheadSize f0_solved f4_blockCount f4_blockLength f4_lastIsFree f4_stale ai al w0 w1 w2 w3) (by decide +kernel) (Nat.le_of_ble_eq_true rfl) (fun p e s m below meth c A ls hx hb hr hml hown hts hk hnm hA hK hP hD hS hX hl => ?_)
  have C : Cx p c s m meth (([.ref (ad 29), .int x1] : List Value).toArray) A dC dI (TY cI cJ cII cJJ) cX4_leastOf (some .int) 4 RX4 0 g := ⟨hx, hb, hr, hml, hown, hts, hk, hA, hK, hX⟩
  have hown : s.vm.findClass RX4 = some m.cls := hown
  have hl : lv_has ls 4 [(0, .ref (ad 29)), (1, .int x1)] := hl
  obtain ⟨H, hH⟩ : ∃ q, q = s.heap := ⟨_, rfl⟩
  rw [← hH] at hP
  have hS : va_S A s.heap H [] := by rw [hH]; exact hS
  rw [← hH]
  have ra_x1 := s_any x1
  refine lv_bipush (v := 10) hx hb dX4_leastOf_0 (by decide) ?_
  refine lv_istore_n (lv' := [(2, .int 10), (0, .ref (ad 29)), (1, .int x1)]) hx hb dX4_leastOf_2 rfl hl (by decide) rfl (fun ls_1 hl_1 => ?_)
  refine lv_iconst (v := 0) hx hb dX4_leastOf_3 (by decide) ?_
  refine lv_istore_n (lv' := [(3, .int 0), (2, .int 10), (0, .ref (ad 29)), (1, .int x1)]) hx hb dX4_leastOf_4 rfl hl_1 (by decide) rfl (fun ls_2 hl_2 => ?_)
  exact m114_X4_leastOf_b5 C  _ x1 10 0 _ _ _ (by first | omega | decide | (have ka0 := (by decide +kernel : (0 : Int32).toInt = 0); have ka1 := (by decide +kernel : (10 : Int32).toInt = 10); omega)) (by first | omega | decide | (have ka0 := (by decide +kernel : (0 : Int32).toInt = 0); have ka1 := (by decide +kernel : (10 : Int32).toInt = 10); omega)) (by first | omega | decide | (have ka0 := (by decide +kernel : (0 : Int32).toInt = 0); have ka1 := (by decide +kernel : (10 : Int32).toInt = 10); omega)) (by first | omega | decide | (have ka0 := (by decide +kernel : (0 : Int32).toInt = 0); have ka1 := (by decide +kernel : (10 : Int32).toInt = 10); omega)) (by first | omega | decide | (have ka0 := (by decide +kernel : (0 : Int32).toInt = 0); have ka1 := (by decide +kernel : (10 : Int32).toInt = 10); omega)) (by first | omega | decide | (have ka0 := (by decide +kernel : (0 : Int32).toInt = 0); have ka1 := (by decide +kernel : (10 : Int32).toInt = 10); omega)) (by first | omega | decide | (have ka0 := (by decide +kernel : (0 : Int32).toInt = 0); have ka1 := (by decide +kernel : (10 : Int32).toInt = 10); omega)) (by first | omega | decide | (have ka0 := (by decide +kernel : (0 : Int32).toInt = 0); have ka1 := (by decide +kernel : (10 : Int32).toInt = 10); omega)) (by first | omega | decide | (have ka0 := (by decide +kernel : (0 : Int32).toInt = 0); have ka1 := (by decide +kernel : (10 : Int32).toInt = 10); omega)) (by first | omega | decide | (have ka0 := (by decide +kernel : (0 : Int32).toInt = 0); have ka1 := (by decide +kernel : (10 : Int32).toInt = 10); omega)) (by first | omega | decide | (have ka0 := (by decide +kernel : (0 : Int32).toInt = 0); have ka1 := (by decide +kernel : (10 : Int32).toInt = 10); omega)) (by first | omega | decide | (have ka0 := (by decide +kernel : (0 : Int32).toInt = 0); have ka1 := (by decide +kernel : (10 : Int32).toInt = 10); omega)) (by first | omega | decide | (have ka0 := (by decide +kernel : (0 : Int32).toInt = 0); have ka1 := (by decide +kernel : (10 : Int32).toInt = 10); omega)) (j_fuel _) (by omega) hI hw_w0 hw_w1 hw_w2 hw_w3 hP hD hS (lv_sub hl_2 [2, 3, 1, 0] rfl)
