def Q_r011_X9_cell (dC : Nat → ClassId) (dI : Nat → Nat → Nat) (cI cJ cII cJJ : ClassId) (ad : Nat → Nat) (f9_size f9_equations f9_areSteps f9_foundMany f9_many f9_rank f9_freeMany f9_arePlans f9_planMany : Int32) : (Nat → Prop) → Array Value → State → Outcome → State → Prop := fun A => QI (fun r t => ∃ (n_ai : Nat → Nat → Int32), ∃ (n_al : Nat → Nat → Int64), ((-7 ≤ r.toInt ∧ r.toInt ≤ 1) ∧ IAM n_ai) ∧ WO dC dI (TY cI cJ cII cJJ) (WM cI cJ cII cJJ ad f9_size f9_equations f9_areSteps f9_foundMany f9_many f9_rank f9_freeMany f9_arePlans f9_planMany n_ai n_al) A t) A
set_option maxRecDepth 100000 in
set_option maxHeartbeats 4000000 in
theorem r011_X9_cell_b106 {p : Program} {l : Launch} {e : Env} {s : State} {m : MethodId} {args : Array Value} {below : List Frame} {meth : Method} {c : Code} {A : Nat → Prop} {dC : Nat → ClassId} {dI : Nat → Nat → Nat} {cI cJ cII cJJ : ClassId} {ad : Nat → Nat} {g : Nat} {f9_size f9_equations f9_areSteps f9_foundMany f9_many f9_rank f9_freeMany f9_arePlans f9_planMany : Int32} (C : Cx p c s m meth args A dC dI (TY cI cJ cII cJJ) cX9_cell (some .int) 6 RX9 0 g) : ∀ (L1 L2 L5 S1 : Int32) (J3 SJ0 : Int64) (ai : Nat → Nat → Int32) (al : Nat → Nat → Int64) (H : Heap) (locs : List Loc) (ls : Array Slot), (0 ≤ L1.toInt ∧ L1.toInt ≤ 3) → (0 ≤ L2.toInt ∧ L2.toInt ≤ 19) → (0 ≤ S1.toInt ∧ S1.toInt ≤ 79) → (1 ≤ f9_size.toInt ∧ f9_size.toInt ≤ 4) → (0 ≤ f9_equations.toInt ∧ f9_equations.toInt ≤ 3) → (0 ≤ f9_areSteps.toInt ∧ f9_areSteps.toInt ≤ 1) → (0 ≤ f9_foundMany.toInt ∧ f9_foundMany.toInt ≤ 99999) → (0 ≤ f9_many.toInt ∧ f9_many.toInt ≤ 6000) → (0 ≤ f9_rank.toInt ∧ f9_rank.toInt ≤ 3) → (0 ≤ f9_freeMany.toInt ∧ f9_freeMany.toInt ≤ 4) → (0 ≤ f9_arePlans.toInt ∧ f9_arePlans.toInt ≤ 1) → (0 ≤ f9_planMany.toInt ∧ f9_planMany.toInt ≤ 194481) → IAM ai → va_P (dC, dI) vwCl (WM cI cJ cII cJJ ad f9_size f9_equations f9_areSteps f9_foundMany f9_many f9_rank f9_freeMany f9_arePlans f9_planMany ai al) H → va_D A (WM cI cJ cII cJJ ad f9_size f9_equations f9_areSteps f9_foundMany f9_many f9_rank f9_freeMany f9_arePlans f9_planMany ai al) → va_S A s.heap H locs → lv_has ls 6 [(0, .ref (ad 22)), (1, .int L1), (2, .int L2), (3, .long J3), (5, .int L5)] → W p l e ({ frames := 3, cells := 0, slots := 0, locals := 140 } : Room) s m args below meth c H locs 0 0 (MQ below (Q_r011_X9_cell dC dI cI cJ cII cJJ ad f9_size f9_equations f9_areSteps f9_foundMany f9_many f9_rank f9_freeMany f9_arePlans f9_planMany A) args s 0 0 A) (F0 m 106 ls [.long SJ0, .int S1, .ref (ad 5)]) := by
  obtain ⟨hx, hb, hr, hml, hown, hts, hk, hA, hK, hX⟩ := id C
  intro L1 L2 L5 S1 J3 SJ0 ai al H locs ls h0 h1 h2 h3 h4 h5 h6 h7 h8 h9 h10 h11 hI hP hD hS hl
  have ra_L5 := s_any L5
  refine va_last hx hb hK hP hD hS 5 1 rfl rfl (j_in (a := S1.toInt) rfl (by omega) (by omega)) dX9_cell_106 (fun H_1 locs_1 hP_1 hD_1 hS_1 => ?_)
  obtain ⟨al1, e_al1⟩ : ∃ q : Nat → Nat → Int64, q = va_up al 5 (vp_updL (al 5) S1.toNatClampNeg SJ0) := ⟨_, rfl⟩
  have hP_2 : va_P (dC, dI) vwCl (WM cI cJ cII cJJ ad f9_size f9_equations f9_areSteps f9_foundMany f9_many f9_rank f9_freeMany f9_arePlans f9_planMany ai al1) H_1 := by rw [e_al1]; exact hP_1
  have hD_3 : va_D A (WM cI cJ cII cJJ ad f9_size f9_equations f9_areSteps f9_foundMany f9_many f9_rank f9_freeMany f9_arePlans f9_planMany ai al1) := by rw [e_al1]; exact hD_1
  refine lv_iconst (v := 1) hx hb dX9_cell_107 (by decide) ?_
  exact r2_i hx hb hr hk hS_1 dX9_cell_108 (fun t ht hW => ⟨ai, al1, ⟨(by first | omega | decide | exact Or.inl (by decide) | exact Or.inr (by omega)), hI⟩, by rw [ht]; exact hP_2, va_K.moved hW.alike hK, hD_3⟩)
set_option maxRecDepth 100000 in
set_option maxHeartbeats 4000000 in
theorem r011_X9_cell (l : Launch) (dC : Nat → ClassId) (dI : Nat → Nat → Nat) (cI cJ cII cJJ : ClassId) (sz g : Nat) (ad : Nat → Nat) (f9_size f9_equations f9_areSteps f9_foundMany f9_many f9_rank f9_freeMany f9_arePlans f9_planMany : Int32) (ai : Nat → Nat → Int32) (al : Nat → Nat → Int64) (x1 : Int32) (x2 : Int32) (y3 : Int64) (h_f9_size : (1 ≤ f9_size.toInt ∧ f9_size.toInt ≤ 4)) (h_f9_equations : (0 ≤ f9_equations.toInt ∧ f9_equations.toInt ≤ 3)) (h_f9_areSteps : (0 ≤ f9_areSteps.toInt ∧ f9_areSteps.toInt ≤ 1)) (h_f9_foundMany : (0 ≤ f9_foundMany.toInt ∧ f9_foundMany.toInt ≤ 99999)) (h_f9_many : (0 ≤ f9_many.toInt ∧ f9_many.toInt ≤ 6000)) (h_f9_rank : (0 ≤ f9_rank.toInt ∧ f9_rank.toInt ≤ 3)) (h_f9_freeMany : (0 ≤ f9_freeMany.toInt ∧ f9_freeMany.toInt ≤ 4)) (h_f9_arePlans : (0 ≤ f9_arePlans.toInt ∧ f9_arePlans.toInt ≤ 1)) (h_f9_planMany : (0 ≤ f9_planMany.toInt ∧ f9_planMany.toInt ≤ 194481)) (hI : IAM ai) : Met l yX9_cell (.code yX9_cell cX9_cell 6 (some .int) :: TT) ({ frames := 3, cells := 0, slots := 0, locals := 140 } : Room) (PcS dC dI (TY cI cJ cII cJJ) [.ref (ad 22), .int x1, .int x2, .long y3] (WM cI cJ cII cJJ ad f9_size f9_equations f9_areSteps f9_foundMany f9_many f9_rank f9_freeMany f9_arePlans f9_planMany ai al) sz 0 g) (Q_r011_X9_cell dC dI cI cJ cII cJJ ad f9_size f9_equations f9_areSteps f9_foundMany f9_many f9_rank f9_freeMany f9_arePlans f9_planMany (va_A (WM cI cJ cII cJJ ad f9_size f9_equations f9_areSteps f9_foundMany f9_many f9_rank f9_freeMany f9_arePlans f9_planMany ai al) sz)) 0 0 (va_A (WM cI cJ cII cJJ ad f9_size f9_equations f9_areSteps f9_foundMany f9_many f9_rank f9_freeMany f9_arePlans f9_planMany ai al) sz) := by
  refine SM.of (y := yX9_cell) (maxL := 6) (av := [.ref (ad 22), .int x1, .int x2, .long y3]) (Q_r011_X9_cell dC dI cI cJ cII cJJ ad f9_size f9_equations f9_areSteps f9_foundMany f9_many f9_rank f9_freeMany f9_arePlans f9_planMany) (by decide +kernel) (Nat.le_of_ble_eq_true rfl) (fun p e s m below meth c A ls hx hb hr hml hown hts hk hnm hA hK hP hD hS hX hl => ?_)
  have C : Cx p c s m meth (([.ref (ad 22), .int x1, .int x2, .long y3] : List Value).toArray) A dC dI (TY cI cJ cII cJJ) cX9_cell (some .int) 6 RX9 0 g := ⟨hx, hb, hr, hml, hown, hts, hk, hA, hK, hX⟩
  have hown : s.vm.findClass RX9 = some m.cls := hown
  have hl : lv_has ls 6 [(0, .ref (ad 22)), (1, .int x1), (2, .int x2), (3, .long y3)] := hl
  obtain ⟨H, hH⟩ : ∃ q, q = s.heap := ⟨_, rfl⟩
  rw [← hH] at hP
  have hS : va_S A s.heap H [] := by rw [hH]; exact hS
  rw [← hH]
  have ra_x1 := s_any x1
  have ra_x2 := s_any x2
  refine lv_iload_n hx hb dX9_cell_0 rfl (lv_at hl 1 rfl) ?_
  refine lv_iconst (v := 4) hx hb dX9_cell_1 (by decide) ?_
  have kc4 : (4 : Int32).toInt = 4 := by decide +kernel
  have hM := r001_X9_isIn l dC dI cI cJ cII cJJ H.size 0 ad f9_size f9_equations f9_areSteps f9_foundMany f9_many f9_rank f9_freeMany f9_arePlans f9_planMany ai al x1 4 (by omega) (by omega) (by omega) (by omega) (by omega) (by omega) (by omega) (by omega) (by omega) hI
  refine k2S_i ⟨hx, hb, hml, hown, hts⟩ hK hP hD hS hA hX cs_RX9_116 hM ⟨by decide +kernel, by decide +kernel⟩ rfl rfl (Or.inl rfl) (rest := []) rfl hl.1 rfl (Nat.le_of_ble_eq_true rfl) dX9_cell_2 ⟨Nat.le_of_ble_eq_true rfl, Nat.le_of_ble_eq_true rfl⟩ (fun r1 t H1 locs_1 ht hB hS_1 hFc => ?_)
  obtain ⟨⟨gpr1_0, gpr1_1⟩, hP_2, -, hD_2⟩ := hB
  rw [ht] at hP_2
  have hD_3 := hD_2.weaken (B := A) (fun k q _ h9 => hFc q.1 h9)
  clear ht
  generalize H1 = H_4 at hP_2 hS_1 ⊢
  refine lv_if_ne (tgt := 14) hx hb dX9_cell_5 (by decide) (fun c2 => ?_) (fun c2 => ?_)
  · have c2 := j_ne (a := r1.toInt) (b := 0) rfl (by decide +kernel) c2
    refine lv_aload_n hx hb dX9_cell_14 rfl (lv_at hl 0 rfl) ?_
    refine gf (k := 8) hx hb hts inX9 hown hK hP_2 k_803 rfl (by decide) rfl 22 rfl (.ref (ad 3)) rfl dX9_cell_15 ?_
    refine lv_iload_n hx hb dX9_cell_18 rfl (lv_at hl 1 rfl) ?_
    refine va_iald hx hb hK hP_2 3 0 rfl rfl (j_in (a := x1.toInt) rfl (by omega) (by omega)) dX9_cell_19 ?_
    refine lv_topi (fun z3 e_z3 => ?_)
    refine lv_if_ge (tgt := 30) hx hb dX9_cell_20 (by decide) (fun c4 => ?_) (fun c4 => ?_)
    · have c4 := j_le (a := 0) (b := z3.toInt) (by decide +kernel) rfl c4
      refine lv_iload_n hx hb dX9_cell_30 rfl (lv_at hl 2 rfl) ?_
      refine lv_aload_n hx hb dX9_cell_31 rfl (lv_at hl 0 rfl) ?_
      refine gf (k := 9) hx hb hts inX9 hown hK hP_2 k_804 rfl (by decide) rfl 22 rfl (.ref (ad 4)) rfl dX9_cell_32 ?_
      refine lv_iload_n hx hb dX9_cell_35 rfl (lv_at hl 1 rfl) ?_
      refine va_iald hx hb hK hP_2 4 0 rfl rfl (j_in (a := x1.toInt) rfl (by omega) (by omega)) dX9_cell_36 ?_
      refine lv_topi (fun z5 e_z5 => ?_)
      have g_z5 : 0 ≤ z5.toInt ∧ z5.toInt ≤ 20 := by rw [e_z5]; exact IAM_at4 hI _
      have hM := r001_X9_isIn l dC dI cI cJ cII cJJ H_4.size 0 ad f9_size f9_equations f9_areSteps f9_foundMany f9_many f9_rank f9_freeMany f9_arePlans f9_planMany ai al x2 z5 (by omega) (by omega) (by omega) (by omega) (by omega) (by omega) (by omega) (by omega) (by omega) hI
      refine k2S_i ⟨hx, hb, hml, hown, hts⟩ hK hP_2 hD_3 hS_1 hA hX cs_RX9_116 hM ⟨by decide +kernel, by decide +kernel⟩ rfl rfl (Or.inl rfl) (rest := []) rfl hl.1 rfl (Nat.le_of_ble_eq_true rfl) dX9_cell_37 ⟨Nat.le_of_ble_eq_true rfl, Nat.le_of_ble_eq_true rfl⟩ (fun r6 t H1 locs_5 ht hB hS_5 hFc => ?_)
      obtain ⟨⟨gpr6_0, gpr6_1⟩, hP_6, -, hD_6⟩ := hB
      rw [ht] at hP_6
      have hD_7 := hD_6.weaken (B := A) (fun k q _ h9 => hFc q.1 h9)
      clear ht
      generalize H1 = H_8 at hP_6 hS_5 ⊢
      refine lv_if_ne (tgt := 50) hx hb dX9_cell_40 (by decide) (fun c7 => ?_) (fun c7 => ?_)
      · have c7 := j_ne (a := r6.toInt) (b := 0) rfl (by decide +kernel) c7
        refine lv_aload_n hx hb dX9_cell_50 rfl (lv_at hl 0 rfl) ?_
        refine gf (k := 8) hx hb hts inX9 hown hK hP_6 k_803 rfl (by decide) rfl 22 rfl (.ref (ad 3)) rfl dX9_cell_51 ?_
        refine lv_iload_n hx hb dX9_cell_54 rfl (lv_at hl 1 rfl) ?_
        refine va_iald hx hb hK hP_6 3 0 rfl rfl (j_in (a := x1.toInt) rfl (by omega) (by omega)) dX9_cell_55 ?_
        refine lv_topi (fun z8 e_z8 => ?_)
        refine lv_istore (lv' := [(5, .int z8), (0, .ref (ad 22)), (1, .int x1), (2, .int x2), (3, .long y3)]) hx hb dX9_cell_56 hl (by decide) rfl (fun ls_9 hl_9 => ?_)
        refine lv_aload_n hx hb dX9_cell_58 rfl (lv_at hl_9 1 rfl) ?_
        refine gf (k := 10) hx hb hts inX9 hown hK hP_6 k_805 rfl (by decide) rfl 22 rfl (.ref (ad 5)) rfl dX9_cell_59 ?_
        refine lv_bipush (v := 20) hx hb dX9_cell_62 (by decide) ?_
        refine lv_iload_n hx hb dX9_cell_64 rfl (lv_at hl_9 2 rfl) ?_
        refine v_imul hx hb dX9_cell_65 _ rfl ?_
        refine lv_topi (fun z9 e_z9 => ?_)
        have g_z9 : z9.toInt = 20 * x1.toInt := by rw [e_z9]; exact n_mul (a := 20) (b := x1.toInt) (by decide +kernel) rfl (by omega) (by omega)
        refine lv_iload_n hx hb dX9_cell_66 rfl (lv_at hl_9 3 rfl) ?_
        refine v_iadd hx hb dX9_cell_67 _ rfl ?_
        refine lv_topi (fun z10 e_z10 => ?_)
        have g_z10 : z10.toInt = z9.toInt + x2.toInt := by rw [e_z10]; exact n_add (a := z9.toInt) (b := x2.toInt) rfl rfl (by omega) (by omega)
        refine lv_iload hx hb dX9_cell_68 (lv_at hl_9 0 rfl) ?_
        refine lv_if_ne (tgt := 80) hx hb dX9_cell_70 (by decide) (fun c11 => ?_) (fun c11 => ?_)
        · have c11 := j_ne (a := z8.toInt) (b := 0) rfl (by decide +kernel) c11
          refine lv_iload hx hb dX9_cell_80 (lv_at hl_9 0 rfl) ?_
          refine lv_iconst (v := 1) hx hb dX9_cell_82 (by decide) ?_
          refine lv_icmp_ne (tgt := 93) hx hb dX9_cell_83 (by decide) (fun c12 => ?_) (fun c12 => ?_)
          · have c12 := j_ne (a := z8.toInt) (b := 1) rfl (by decide +kernel) c12
            refine lv_iload hx hb dX9_cell_93 (lv_at hl_9 0 rfl) ?_
            refine lv_iconst (v := 2) hx hb dX9_cell_95 (by decide) ?_
            refine lv_icmp_ne (tgt := 105) hx hb dX9_cell_96 (by decide) (fun c13 => ?_) (fun c13 => ?_)
            · have c13 := j_ne (a := z8.toInt) (b := 2) rfl (by decide +kernel) c13
              refine lv_lload_n hx hb dX9_cell_105 rfl (lv_at hl_9 4 rfl) ?_
              exact r011_X9_cell_b106 C  x1 x2 z8 z10 y3 y3 ai al _ _ _ (by omega) (by omega) (by omega) (by omega) (by omega) (by omega) (by omega) (by omega) (by omega) (by omega) (by omega) (by omega) hI hP_6 hD_7 hS_5 (lv_sub hl_9 [1, 2, 3, 4, 0] rfl)
            · have c13 := j_eq (a := z8.toInt) (b := 2) rfl (by decide +kernel) c13
              refine lv_lload_n hx hb dX9_cell_99 rfl (lv_at hl_9 4 rfl) ?_
              refine lv_l2i hx hb dX9_cell_100 rfl ?_
              refine lv_topi (fun z14 e_z14 => ?_)
              refine lv_i2l hx hb dX9_cell_101 rfl ?_
              refine lv_topl (fun yy15 e_yy15 => ?_)
              refine lv_goto (tgt := 106) hx hb dX9_cell_102 (by decide) ?_
              exact r011_X9_cell_b106 C  x1 x2 z8 z10 y3 yy15 ai al _ _ _ (by omega) (by omega) (by omega) (by omega) (by omega) (by omega) (by omega) (by omega) (by omega) (by omega) (by omega) (by omega) hI hP_6 hD_7 hS_5 (lv_sub hl_9 [1, 2, 3, 4, 0] rfl)
          · have c12 := j_eq (a := z8.toInt) (b := 1) rfl (by decide +kernel) c12
            refine lv_lload_n hx hb dX9_cell_86 rfl (lv_at hl_9 4 rfl) ?_
            refine lv_l2i hx hb dX9_cell_87 rfl ?_
            refine lv_topi (fun z16 e_z16 => ?_)
            refine lv_i2s hx hb dX9_cell_88 rfl ?_
            refine lv_topi (fun z17 e_z17 => ?_)
            refine lv_i2l hx hb dX9_cell_89 rfl ?_
            refine lv_topl (fun yy18 e_yy18 => ?_)
            refine lv_goto (tgt := 106) hx hb dX9_cell_90 (by decide) ?_
            exact r011_X9_cell_b106 C  x1 x2 z8 z10 y3 yy18 ai al _ _ _ (by omega) (by omega) (by omega) (by omega) (by omega) (by omega) (by omega) (by omega) (by omega) (by omega) (by omega) (by omega) hI hP_6 hD_7 hS_5 (lv_sub hl_9 [1, 2, 3, 4, 0] rfl)
        · have c11 := j_eq (a := z8.toInt) (b := 0) rfl (by decide +kernel) c11
          refine lv_lload_n hx hb dX9_cell_73 rfl (lv_at hl_9 4 rfl) ?_
          refine lv_l2i hx hb dX9_cell_74 rfl ?_
          refine lv_topi (fun z19 e_z19 => ?_)
          refine lv_i2b hx hb dX9_cell_75 rfl ?_
          refine lv_topi (fun z20 e_z20 => ?_)
          refine lv_i2l hx hb dX9_cell_76 rfl ?_
          refine lv_topl (fun yy21 e_yy21 => ?_)
          refine lv_goto (tgt := 106) hx hb dX9_cell_77 (by decide) ?_
          exact r011_X9_cell_b106 C  x1 x2 z8 z10 y3 yy21 ai al _ _ _ (by omega) (by omega) (by omega) (by omega) (by omega) (by omega) (by omega) (by omega) (by omega) (by omega) (by omega) (by omega) hI hP_6 hD_7 hS_5 (lv_sub hl_9 [1, 2, 3, 4, 0] rfl)
      · have c7 := j_eq (a := r6.toInt) (b := 0) rfl (by decide +kernel) c7
        refine lv_aload_n hx hb dX9_cell_43 rfl (lv_at hl 0 rfl) ?_
        refine lv_bipush (v := (-3)) hx hb dX9_cell_44 (by decide) ?_
        have kcm3 : ((-3) : Int32).toInt = (-3) := by decide +kernel
        have hM := r002_X9_refuse l dC dI cI cJ cII cJJ H_8.size 0 ad f9_size f9_equations f9_areSteps f9_foundMany f9_many f9_rank f9_freeMany f9_arePlans f9_planMany ai al (-3) (by decide +kernel) (by omega) (by omega) (by omega) (by omega) (by omega) (by omega) (by omega) (by omega) (by omega) hI
        refine k2V_i (q0 := 22) ⟨hx, hb, hml, hown, hts⟩ hK hP_6 hD_7 hS_5 hA hX cv_RX9_112 hM ⟨by decide +kernel, by decide +kernel⟩ rfl rfl (Or.inl rfl) (rest := []) rfl rfl rfl hl.1 rfl (Nat.le_of_ble_eq_true rfl) dX9_cell_46 ⟨Nat.le_of_ble_eq_true rfl, Nat.le_of_ble_eq_true rfl⟩ (fun r22 t H1 locs_10 ht hB hS_10 hFc => ?_)
        obtain ⟨ai23, ⟨gpr22_0, hI_11⟩, hP_11, -, hD_11⟩ := hB
        rw [ht] at hP_11
        have hD_12 := hD_11.weaken (B := A) (fun k q _ h9 => hFc q.1 h9)
        clear ht
        generalize H1 = H_13 at hP_11 hS_10 ⊢
        exact r2_i hx hb hr hk hS_10 dX9_cell_49 (fun t ht hW => ⟨ai23, al, ⟨(by first | omega | decide | exact Or.inl (by decide) | exact Or.inr (by omega)), hI_11⟩, by rw [ht]; exact hP_11, va_K.moved hW.alike hK, hD_12⟩)
    · have c4 := j_nle (a := 0) (b := z3.toInt) (by decide +kernel) rfl c4
      refine lv_aload_n hx hb dX9_cell_23 rfl (lv_at hl 0 rfl) ?_
      refine lv_bipush (v := (-7)) hx hb dX9_cell_24 (by decide) ?_
      have kcm7 : ((-7) : Int32).toInt = (-7) := by decide +kernel
      have hM := r002_X9_refuse l dC dI cI cJ cII cJJ H_4.size 0 ad f9_size f9_equations f9_areSteps f9_foundMany f9_many f9_rank f9_freeMany f9_arePlans f9_planMany ai al (-7) (by decide +kernel) (by omega) (by omega) (by omega) (by omega) (by omega) (by omega) (by omega) (by omega) (by omega) hI
      refine k2V_i (q0 := 22) ⟨hx, hb, hml, hown, hts⟩ hK hP_2 hD_3 hS_1 hA hX cv_RX9_112 hM ⟨by decide +kernel, by decide +kernel⟩ rfl rfl (Or.inl rfl) (rest := []) rfl rfl rfl hl.1 rfl (Nat.le_of_ble_eq_true rfl) dX9_cell_26 ⟨Nat.le_of_ble_eq_true rfl, Nat.le_of_ble_eq_true rfl⟩ (fun r24 t H1 locs_14 ht hB hS_14 hFc => ?_)
      obtain ⟨ai25, ⟨gpr24_0, hI_15⟩, hP_15, -, hD_15⟩ := hB
      rw [ht] at hP_15
      have hD_16 := hD_15.weaken (B := A) (fun k q _ h9 => hFc q.1 h9)
      clear ht
      generalize H1 = H_17 at hP_15 hS_14 ⊢
      exact r2_i hx hb hr hk hS_14 dX9_cell_29 (fun t ht hW => ⟨ai25, al, ⟨(by first | omega | decide | exact Or.inl (by decide) | exact Or.inr (by omega)), hI_15⟩, by rw [ht]; exact hP_15, va_K.moved hW.alike hK, hD_16⟩)
  · have c2 := j_eq (a := r1.toInt) (b := 0) rfl (by decide +kernel) c2
    refine lv_aload_n hx hb dX9_cell_8 rfl (lv_at hl 0 rfl) ?_
    refine lv_iconst (v := (-1)) hx hb dX9_cell_9 (by decide) ?_
    have kcm1 : ((-1) : Int32).toInt = (-1) := by decide +kernel
    have hM := r002_X9_refuse l dC dI cI cJ cII cJJ H_4.size 0 ad f9_size f9_equations f9_areSteps f9_foundMany f9_many f9_rank f9_freeMany f9_arePlans f9_planMany ai al (-1) (by decide +kernel) (by omega) (by omega) (by omega) (by omega) (by omega) (by omega) (by omega) (by omega) (by omega) hI
    refine k2V_i (q0 := 22) ⟨hx, hb, hml, hown, hts⟩ hK hP_2 hD_3 hS_1 hA hX cv_RX9_112 hM ⟨by decide +kernel, by decide +kernel⟩ rfl rfl (Or.inl rfl) (rest := []) rfl rfl rfl hl.1 rfl (Nat.le_of_ble_eq_true rfl) dX9_cell_10 ⟨Nat.le_of_ble_eq_true rfl, Nat.le_of_ble_eq_true rfl⟩ (fun r26 t H1 locs_18 ht hB hS_18 hFc => ?_)
    obtain ⟨ai27, ⟨gpr26_0, hI_19⟩, hP_19, -, hD_19⟩ := hB
    rw [ht] at hP_19
    have hD_20 := hD_19.weaken (B := A) (fun k q _ h9 => hFc q.1 h9)
    clear ht
    generalize H1 = H_21 at hP_19 hS_18 ⊢
    exact r2_i hx hb hr hk hS_18 dX9_cell_13 (fun t ht hW => ⟨ai27, al, ⟨(by first | omega | decide | exact Or.inl (by decide) | exact Or.inr (by omega)), hI_19⟩, by rw [ht]; exact hP_19, va_K.moved hW.alike hK, hD_20⟩)
def Q_r012_X9_a (dC : Nat → ClassId) (dI : Nat → Nat → Nat) (cI cJ cII cJJ : ClassId) (ad : Nat → Nat) (f9_size f9_equations f9_areSteps f9_foundMany f9_many f9_rank f9_freeMany f9_arePlans f9_planMany : Int32) (ai : Nat → Nat → Int32) (al : Nat → Nat → Int64) : (Nat → Prop) → Array Value → State → Outcome → State → Prop := fun A => QL (fun r t => (True) ∧ WO dC dI (TY cI cJ cII cJJ) (WM cI cJ cII cJJ ad f9_size f9_equations f9_areSteps f9_foundMany f9_many f9_rank f9_freeMany f9_arePlans f9_planMany ai al) A t) A
set_option maxRecDepth 100000 in
set_option maxHeartbeats 4000000 in
theorem r012_X9_a (l : Launch) (dC : Nat → ClassId) (dI : Nat → Nat → Nat) (cI cJ cII cJJ : ClassId) (sz g : Nat) (ad : Nat → Nat) (f9_size f9_equations f9_areSteps f9_foundMany f9_many f9_rank f9_freeMany f9_arePlans f9_planMany : Int32) (ai : Nat → Nat → Int32) (al : Nat → Nat → Int64) (x1 : Int32) (x2 : Int32) (h_x1 : (0 ≤ x1.toInt ∧ x1.toInt ≤ 2)) (h_x2 : (0 ≤ x2.toInt ∧ x2.toInt ≤ 3)) (h_f9_size : (1 ≤ f9_size.toInt ∧ f9_size.toInt ≤ 4)) (h_f9_equations : (0 ≤ f9_equations.toInt ∧ f9_equations.toInt ≤ 3)) (h_f9_areSteps : (0 ≤ f9_areSteps.toInt ∧ f9_areSteps.toInt ≤ 1)) (h_f9_foundMany : (0 ≤ f9_foundMany.toInt ∧ f9_foundMany.toInt ≤ 99999)) (h_f9_many : (0 ≤ f9_many.toInt ∧ f9_many.toInt ≤ 6000)) (h_f9_rank : (0 ≤ f9_rank.toInt ∧ f9_rank.toInt ≤ 3)) (h_f9_freeMany : (0 ≤ f9_freeMany.toInt ∧ f9_freeMany.toInt ≤ 4)) (h_f9_arePlans : (0 ≤ f9_arePlans.toInt ∧ f9_arePlans.toInt ≤ 1)) (h_f9_planMany : (0 ≤ f9_planMany.toInt ∧ f9_planMany.toInt ≤ 194481)) (hI : IAM ai) : Met l yX9_a (.code yX9_a cX9_a 3 (some .long) :: TT) ({ frames := 2, cells := 0, slots := 0, locals := 80 } : Room) (PcS dC dI (TY cI cJ cII cJJ) [.ref (ad 22), .int x1, .int x2] (WM cI cJ cII cJJ ad f9_size f9_equations f9_areSteps f9_foundMany f9_many f9_rank f9_freeMany f9_arePlans f9_planMany ai al) sz 0 g) (Q_r012_X9_a dC dI cI cJ cII cJJ ad f9_size f9_equations f9_areSteps f9_foundMany f9_many f9_rank f9_freeMany f9_arePlans f9_planMany ai al (va_A (WM cI cJ cII cJJ ad f9_size f9_equations f9_areSteps f9_foundMany f9_many f9_rank f9_freeMany f9_arePlans f9_planMany ai al) sz)) 0 0 (va_A (WM cI cJ cII cJJ ad f9_size f9_equations f9_areSteps f9_foundMany f9_many f9_rank f9_freeMany f9_arePlans f9_planMany ai al) sz) := by
  refine SM.of (y := yX9_a) (maxL := 3) (av := [.ref (ad 22), .int x1, .int x2]) (Q_r012_X9_a dC dI cI cJ cII cJJ ad f9_size f9_equations f9_areSteps f9_foundMany f9_many f9_rank f9_freeMany f9_arePlans f9_planMany ai al) (by decide +kernel) (Nat.le_of_ble_eq_true rfl) (fun p e s m below meth c A ls hx hb hr hml hown hts hk hnm hA hK hP hD hS hX hl => ?_)
  have C : Cx p c s m meth (([.ref (ad 22), .int x1, .int x2] : List Value).toArray) A dC dI (TY cI cJ cII cJJ) cX9_a (some .long) 3 RX9 0 g := ⟨hx, hb, hr, hml, hown, hts, hk, hA, hK, hX⟩
  have hown : s.vm.findClass RX9 = some m.cls := hown
  have hl : lv_has ls 3 [(0, .ref (ad 22)), (1, .int x1), (2, .int x2)] := hl
  obtain ⟨H, hH⟩ : ∃ q, q = s.heap := ⟨_, rfl⟩
  rw [← hH] at hP
  have hS : va_S A s.heap H [] := by rw [hH]; exact hS
  rw [← hH]
  refine lv_aload_n hx hb dX9_a_0 rfl (lv_at hl 0 rfl) ?_
  refine gf (k := 0) hx hb hts inX9 hown hK hP k_795 rfl (by decide) rfl 22 rfl (.ref (ad 0)) rfl dX9_a_1 ?_
  refine lv_iconst (v := 4) hx hb dX9_a_4 (by decide) ?_
  refine lv_iload_n hx hb dX9_a_5 rfl (lv_at hl 1 rfl) ?_
  refine v_imul hx hb dX9_a_6 _ rfl ?_
  refine lv_topi (fun z1 e_z1 => ?_)
  have g_z1 : z1.toInt = 4 * x1.toInt := by rw [e_z1]; exact n_mul (a := 4) (b := x1.toInt) (by decide +kernel) rfl (by omega) (by omega)
  refine lv_iload_n hx hb dX9_a_7 rfl (lv_at hl 2 rfl) ?_
  refine v_iadd hx hb dX9_a_8 _ rfl ?_
  refine lv_topi (fun z2 e_z2 => ?_)
  have g_z2 : z2.toInt = z1.toInt + x2.toInt := by rw [e_z2]; exact n_add (a := z1.toInt) (b := x2.toInt) rfl rfl (by omega) (by omega)
  refine va_iald hx hb hK hP 0 0 rfl rfl (j_in (a := z2.toInt) rfl (by omega) (by omega)) dX9_a_9 ?_
  refine lv_topi (fun z3 e_z3 => ?_)
  refine lv_i2l hx hb dX9_a_10 rfl ?_
  refine lv_topl (fun yy4 e_yy4 => ?_)
  exact r2_l hx hb hr hk hS dX9_a_11 (fun t ht hW => ⟨trivial, by rw [ht]; exact hP, va_K.moved hW.alike hK, hD⟩)
def Q_r013_X9_minor (dC : Nat → ClassId) (dI : Nat → Nat → Nat) (cI cJ cII cJJ : ClassId) (ad : Nat → Nat) (f9_size f9_equations f9_areSteps f9_foundMany f9_many f9_rank f9_freeMany f9_arePlans f9_planMany : Int32) (ai : Nat → Nat → Int32) (al : Nat → Nat → Int64) : (Nat → Prop) → Array Value → State → Outcome → State → Prop := fun A => QL (fun r t => (True) ∧ WO dC dI (TY cI cJ cII cJJ) (WM cI cJ cII cJJ ad f9_size f9_equations f9_areSteps f9_foundMany f9_many f9_rank f9_freeMany f9_arePlans f9_planMany ai al) A t) A
set_option maxRecDepth 100000 in
set_option maxHeartbeats 4000000 in
theorem r013_X9_minor (l : Launch) (dC : Nat → ClassId) (dI : Nat → Nat → Nat) (cI cJ cII cJJ : ClassId) (sz g : Nat) (ad : Nat → Nat) (f9_size f9_equations f9_areSteps f9_foundMany f9_many f9_rank f9_freeMany f9_arePlans f9_planMany : Int32) (ai : Nat → Nat → Int32) (al : Nat → Nat → Int64) (x1 : Int32) (x2 : Int32) (x3 : Int32) (x4 : Int32) (x5 : Int32) (x6 : Int32) (x7 : Int32) (h_x1 : (0 ≤ x1.toInt ∧ x1.toInt ≤ 3)) (h_x2 : (0 ≤ x2.toInt ∧ x2.toInt ≤ 2)) (h_x3 : (0 ≤ x3.toInt ∧ x3.toInt ≤ 2)) (h_x4 : (0 ≤ x4.toInt ∧ x4.toInt ≤ 2)) (h_x5 : (0 ≤ x5.toInt ∧ x5.toInt ≤ 3)) (h_x6 : (0 ≤ x6.toInt ∧ x6.toInt ≤ 3)) (h_x7 : (0 ≤ x7.toInt ∧ x7.toInt ≤ 3)) (h_f9_size : (1 ≤ f9_size.toInt ∧ f9_size.toInt ≤ 4)) (h_f9_equations : (0 ≤ f9_equations.toInt ∧ f9_equations.toInt ≤ 3)) (h_f9_areSteps : (0 ≤ f9_areSteps.toInt ∧ f9_areSteps.toInt ≤ 1)) (h_f9_foundMany : (0 ≤ f9_foundMany.toInt ∧ f9_foundMany.toInt ≤ 99999)) (h_f9_many : (0 ≤ f9_many.toInt ∧ f9_many.toInt ≤ 6000)) (h_f9_rank : (0 ≤ f9_rank.toInt ∧ f9_rank.toInt ≤ 3)) (h_f9_freeMany : (0 ≤ f9_freeMany.toInt ∧ f9_freeMany.toInt ≤ 4)) (h_f9_arePlans : (0 ≤ f9_arePlans.toInt ∧ f9_arePlans.toInt ≤ 1)) (h_f9_planMany : (0 ≤ f9_planMany.toInt ∧ f9_planMany.toInt ≤ 194481)) (hI : IAM ai) : Met l yX9_minor (.code yX9_minor cX9_minor 8 (some .long) :: TT) ({ frames := 3, cells := 0, slots := 0, locals := 140 } : Room) (PcS dC dI (TY cI cJ cII cJJ) [.ref (ad 22), .int x1, .int x2, .int x3, .int x4, .int x5, .int x6, .int x7] (WM cI cJ cII cJJ ad f9_size f9_equations f9_areSteps f9_foundMany f9_many f9_rank f9_freeMany f9_arePlans f9_planMany ai al) sz 0 g) (Q_r013_X9_minor dC dI cI cJ cII cJJ ad f9_size f9_equations f9_areSteps f9_foundMany f9_many f9_rank f9_freeMany f9_arePlans f9_planMany ai al (va_A (WM cI cJ cII cJJ ad f9_size f9_equations f9_areSteps f9_foundMany f9_many f9_rank f9_freeMany f9_arePlans f9_planMany ai al) sz)) 0 0 (va_A (WM cI cJ cII cJJ ad f9_size f9_equations f9_areSteps f9_foundMany f9_many f9_rank f9_freeMany f9_arePlans f9_planMany ai al) sz) := by
  refine SM.of (y := yX9_minor) (maxL := 8) (av := [.ref (ad 22), .int x1, .int x2, .int x3, .int x4, .int x5, .int x6, .int x7]) (Q_r013_X9_minor dC dI cI cJ cII cJJ ad f9_size f9_equations f9_areSteps f9_foundMany f9_many f9_rank f9_freeMany f9_arePlans f9_planMany ai al) (by decide +kernel) (Nat.le_of_ble_eq_true rfl) (fun p e s m below meth c A ls hx hb hr hml hown hts hk hnm hA hK hP hD hS hX hl => ?_)
  have C : Cx p c s m meth (([.ref (ad 22), .int x1, .int x2, .int x3, .int x4, .int x5, .int x6, .int x7] : List Value).toArray) A dC dI (TY cI cJ cII cJJ) cX9_minor (some .long) 8 RX9 0 g := ⟨hx, hb, hr, hml, hown, hts, hk, hA, hK, hX⟩
  have hown : s.vm.findClass RX9 = some m.cls := hown
  have hl : lv_has ls 8 [(0, .ref (ad 22)), (1, .int x1), (2, .int x2), (3, .int x3), (4, .int x4), (5, .int x5), (6, .int x6), (7, .int x7)] := hl
  obtain ⟨H, hH⟩ : ∃ q, q = s.heap := ⟨_, rfl⟩
  rw [← hH] at hP
  have hS : va_S A s.heap H [] := by rw [hH]; exact hS
  rw [← hH]
  refine lv_iload_n hx hb dX9_minor_0 rfl (lv_at hl 1 rfl) ?_
  refine lv_if_ne (tgt := 6) hx hb dX9_minor_1 (by decide) (fun c1 => ?_) (fun c1 => ?_)
  · have c1 := j_ne (a := x1.toInt) (b := 0) rfl (by decide +kernel) c1
    refine lv_iload_n hx hb dX9_minor_6 rfl (lv_at hl 1 rfl) ?_
    refine lv_iconst (v := 1) hx hb dX9_minor_7 (by decide) ?_
    refine lv_icmp_ne (tgt := 19) hx hb dX9_minor_8 (by decide) (fun c2 => ?_) (fun c2 => ?_)
    · have c2 := j_ne (a := x1.toInt) (b := 1) rfl (by decide +kernel) c2
      refine lv_iload_n hx hb dX9_minor_19 rfl (lv_at hl 1 rfl) ?_
      refine lv_iconst (v := 2) hx hb dX9_minor_20 (by decide) ?_
      refine lv_icmp_ne (tgt := 56) hx hb dX9_minor_21 (by decide) (fun c3 => ?_) (fun c3 => ?_)
      · have c3 := j_ne (a := x1.toInt) (b := 2) rfl (by decide +kernel) c3
        refine lv_aload_n hx hb dX9_minor_56 rfl (lv_at hl 0 rfl) ?_
        refine lv_iload_n hx hb dX9_minor_57 rfl (lv_at hl 2 rfl) ?_
        refine lv_iload hx hb dX9_minor_58 (lv_at hl 5 rfl) ?_
        have hM := r012_X9_a l dC dI cI cJ cII cJJ H.size 0 ad f9_size f9_equations f9_areSteps f9_foundMany f9_many f9_rank f9_freeMany f9_arePlans f9_planMany ai al x2 x5 (by omega) (by omega) (by omega) (by omega) (by omega) (by omega) (by omega) (by omega) (by omega) (by omega) (by omega) hI
        refine k2V_l (q0 := 22) ⟨hx, hb, hml, hown, hts⟩ hK hP hD hS hA hX cv_RX9_124 hM ⟨by decide +kernel, by decide +kernel⟩ rfl rfl (Or.inl rfl) (rest := []) rfl rfl rfl hl.1 rfl (Nat.le_of_ble_eq_true rfl) dX9_minor_60 ⟨Nat.le_of_ble_eq_true rfl, Nat.le_of_ble_eq_true rfl⟩ (fun r4 t H1 locs_1 ht hB hS_1 hFc => ?_)
        obtain ⟨-, hP_2, -, hD_2⟩ := hB
        rw [ht] at hP_2
        have hD_3 := hD_2.weaken (B := A) (fun k q _ h9 => hFc q.1 h9)
        clear ht
        generalize H1 = H_4 at hP_2 hS_1 ⊢
        refine lv_aload_n hx hb dX9_minor_63 rfl (lv_at hl 0 rfl) ?_
        refine lv_iload_n hx hb dX9_minor_64 rfl (lv_at hl 3 rfl) ?_
        refine lv_iload hx hb dX9_minor_65 (lv_at hl 6 rfl) ?_
        have hM := r012_X9_a l dC dI cI cJ cII cJJ H_4.size 0 ad f9_size f9_equations f9_areSteps f9_foundMany f9_many f9_rank f9_freeMany f9_arePlans f9_planMany ai al x3 x6 (by omega) (by omega) (by omega) (by omega) (by omega) (by omega) (by omega) (by omega) (by omega) (by omega) (by omega) hI
        refine k2V_l (q0 := 22) ⟨hx, hb, hml, hown, hts⟩ hK hP_2 hD_3 hS_1 hA hX cv_RX9_124 hM ⟨by decide +kernel, by decide +kernel⟩ rfl rfl (Or.inl rfl) (rest := [.long r4]) rfl rfl rfl hl.1 rfl (Nat.le_of_ble_eq_true rfl) dX9_minor_67 ⟨Nat.le_of_ble_eq_true rfl, Nat.le_of_ble_eq_true rfl⟩ (fun r5 t H1 locs_5 ht hB hS_5 hFc => ?_)
        obtain ⟨-, hP_6, -, hD_6⟩ := hB
        rw [ht] at hP_6
        have hD_7 := hD_6.weaken (B := A) (fun k q _ h9 => hFc q.1 h9)
        clear ht
        generalize H1 = H_8 at hP_6 hS_5 ⊢
        refine lv_aload_n hx hb dX9_minor_70 rfl (lv_at hl 0 rfl) ?_
        refine lv_iload hx hb dX9_minor_71 (lv_at hl 4 rfl) ?_
        refine lv_iload hx hb dX9_minor_73 (lv_at hl 7 rfl) ?_
        have hM := r012_X9_a l dC dI cI cJ cII cJJ H_8.size 0 ad f9_size f9_equations f9_areSteps f9_foundMany f9_many f9_rank f9_freeMany f9_arePlans f9_planMany ai al x4 x7 (by omega) (by omega) (by omega) (by omega) (by omega) (by omega) (by omega) (by omega) (by omega) (by omega) (by omega) hI
        refine k2V_l (q0 := 22) ⟨hx, hb, hml, hown, hts⟩ hK hP_6 hD_7 hS_5 hA hX cv_RX9_124 hM ⟨by decide +kernel, by decide +kernel⟩ rfl rfl (Or.inl rfl) (rest := [.long r5, .long r4]) rfl rfl rfl hl.1 rfl (Nat.le_of_ble_eq_true rfl) dX9_minor_75 ⟨Nat.le_of_ble_eq_true rfl, Nat.le_of_ble_eq_true rfl⟩ (fun r6 t H1 locs_9 ht hB hS_9 hFc => ?_)
        obtain ⟨-, hP_10, -, hD_10⟩ := hB
        rw [ht] at hP_10
        have hD_11 := hD_10.weaken (B := A) (fun k q _ h9 => hFc q.1 h9)
        clear ht
        generalize H1 = H_12 at hP_10 hS_9 ⊢
        refine v_lmul hx hb dX9_minor_78 _ rfl ?_
        refine lv_topl (fun yy7 e_yy7 => ?_)
        refine lv_aload_n hx hb dX9_minor_79 rfl (lv_at hl 0 rfl) ?_
        refine lv_iload_n hx hb dX9_minor_80 rfl (lv_at hl 3 rfl) ?_
        refine lv_iload hx hb dX9_minor_81 (lv_at hl 7 rfl) ?_
        have hM := r012_X9_a l dC dI cI cJ cII cJJ H_12.size 0 ad f9_size f9_equations f9_areSteps f9_foundMany f9_many f9_rank f9_freeMany f9_arePlans f9_planMany ai al x3 x7 (by omega) (by omega) (by omega) (by omega) (by omega) (by omega) (by omega) (by omega) (by omega) (by omega) (by omega) hI
        refine k2V_l (q0 := 22) ⟨hx, hb, hml, hown, hts⟩ hK hP_10 hD_11 hS_9 hA hX cv_RX9_124 hM ⟨by decide +kernel, by decide +kernel⟩ rfl rfl (Or.inl rfl) (rest := [.long yy7, .long r4]) rfl rfl rfl hl.1 rfl (Nat.le_of_ble_eq_true rfl) dX9_minor_83 ⟨Nat.le_of_ble_eq_true rfl, Nat.le_of_ble_eq_true rfl⟩ (fun r8 t H1 locs_13 ht hB hS_13 hFc => ?_)
        obtain ⟨-, hP_14, -, hD_14⟩ := hB
        rw [ht] at hP_14
        have hD_15 := hD_14.weaken (B := A) (fun k q _ h9 => hFc q.1 h9)
        clear ht
        generalize H1 = H_16 at hP_14 hS_13 ⊢
        refine lv_aload_n hx hb dX9_minor_86 rfl (lv_at hl 0 rfl) ?_
        refine lv_iload hx hb dX9_minor_87 (lv_at hl 4 rfl) ?_
        refine lv_iload hx hb dX9_minor_89 (lv_at hl 6 rfl) ?_
        have hM := r012_X9_a l dC dI cI cJ cII cJJ H_16.size 0 ad f9_size f9_equations f9_areSteps f9_foundMany f9_many f9_rank f9_freeMany f9_arePlans f9_planMany ai al x4 x6 (by omega) (by omega) (by omega) (by omega) (by omega) (by omega) (by omega) (by omega) (by omega) (by omega) (by omega) hI
        refine k2V_l (q0 := 22) ⟨hx, hb, hml, hown, hts⟩ hK hP_14 hD_15 hS_13 hA hX cv_RX9_124 hM ⟨by decide +kernel, by decide +kernel⟩ rfl rfl (Or.inl rfl) (rest := [.long r8, .long yy7, .long r4]) rfl rfl rfl hl.1 rfl (Nat.le_of_ble_eq_true rfl) dX9_minor_91 ⟨Nat.le_of_ble_eq_true rfl, Nat.le_of_ble_eq_true rfl⟩ (fun r9 t H1 locs_17 ht hB hS_17 hFc => ?_)
        obtain ⟨-, hP_18, -, hD_18⟩ := hB
        rw [ht] at hP_18
        have hD_19 := hD_18.weaken (B := A) (fun k q _ h9 => hFc q.1 h9)
        clear ht
        generalize H1 = H_20 at hP_18 hS_17 ⊢
        refine v_lmul hx hb dX9_minor_94 _ rfl ?_
        refine lv_topl (fun yy10 e_yy10 => ?_)
        refine v_lsub hx hb dX9_minor_95 _ rfl ?_
        refine lv_topl (fun yy11 e_yy11 => ?_)
        refine v_lmul hx hb dX9_minor_96 _ rfl ?_
        refine lv_topl (fun yy12 e_yy12 => ?_)
        refine lv_aload_n hx hb dX9_minor_97 rfl (lv_at hl 0 rfl) ?_
        refine lv_iload_n hx hb dX9_minor_98 rfl (lv_at hl 2 rfl) ?_
        refine lv_iload hx hb dX9_minor_99 (lv_at hl 6 rfl) ?_
        have hM := r012_X9_a l dC dI cI cJ cII cJJ H_20.size 0 ad f9_size f9_equations f9_areSteps f9_foundMany f9_many f9_rank f9_freeMany f9_arePlans f9_planMany ai al x2 x6 (by omega) (by omega) (by omega) (by omega) (by omega) (by omega) (by omega) (by omega) (by omega) (by omega) (by omega) hI
        refine k2V_l (q0 := 22) ⟨hx, hb, hml, hown, hts⟩ hK hP_18 hD_19 hS_17 hA hX cv_RX9_124 hM ⟨by decide +kernel, by decide +kernel⟩ rfl rfl (Or.inl rfl) (rest := [.long yy12]) rfl rfl rfl hl.1 rfl (Nat.le_of_ble_eq_true rfl) dX9_minor_101 ⟨Nat.le_of_ble_eq_true rfl, Nat.le_of_ble_eq_true rfl⟩ (fun r13 t H1 locs_21 ht hB hS_21 hFc => ?_)
        obtain ⟨-, hP_22, -, hD_22⟩ := hB
        rw [ht] at hP_22
        have hD_23 := hD_22.weaken (B := A) (fun k q _ h9 => hFc q.1 h9)
        clear ht
        generalize H1 = H_24 at hP_22 hS_21 ⊢
        refine lv_aload_n hx hb dX9_minor_104 rfl (lv_at hl 0 rfl) ?_
        refine lv_iload_n hx hb dX9_minor_105 rfl (lv_at hl 3 rfl) ?_
        refine lv_iload hx hb dX9_minor_106 (lv_at hl 5 rfl) ?_
        have hM := r012_X9_a l dC dI cI cJ cII cJJ H_24.size 0 ad f9_size f9_equations f9_areSteps f9_foundMany f9_many f9_rank f9_freeMany f9_arePlans f9_planMany ai al x3 x5 (by omega) (by omega) (by omega) (by omega) (by omega) (by omega) (by omega) (by omega) (by omega) (by omega) (by omega) hI
        refine k2V_l (q0 := 22) ⟨hx, hb, hml, hown, hts⟩ hK hP_22 hD_23 hS_21 hA hX cv_RX9_124 hM ⟨by decide +kernel, by decide +kernel⟩ rfl rfl (Or.inl rfl) (rest := [.long r13, .long yy12]) rfl rfl rfl hl.1 rfl (Nat.le_of_ble_eq_true rfl) dX9_minor_108 ⟨Nat.le_of_ble_eq_true rfl, Nat.le_of_ble_eq_true rfl⟩ (fun r14 t H1 locs_25 ht hB hS_25 hFc => ?_)
        obtain ⟨-, hP_26, -, hD_26⟩ := hB
        rw [ht] at hP_26
        have hD_27 := hD_26.weaken (B := A) (fun k q _ h9 => hFc q.1 h9)
        clear ht
        generalize H1 = H_28 at hP_26 hS_25 ⊢
        refine lv_aload_n hx hb dX9_minor_111 rfl (lv_at hl 0 rfl) ?_
        refine lv_iload hx hb dX9_minor_112 (lv_at hl 4 rfl) ?_
        refine lv_iload hx hb dX9_minor_114 (lv_at hl 7 rfl) ?_
        have hM := r012_X9_a l dC dI cI cJ cII cJJ H_28.size 0 ad f9_size f9_equations f9_areSteps f9_foundMany f9_many f9_rank f9_freeMany f9_arePlans f9_planMany ai al x4 x7 (by omega) (by omega) (by omega) (by omega) (by omega) (by omega) (by omega) (by omega) (by omega) (by omega) (by omega) hI
        refine k2V_l (q0 := 22) ⟨hx, hb, hml, hown, hts⟩ hK hP_26 hD_27 hS_25 hA hX cv_RX9_124 hM ⟨by decide +kernel, by decide +kernel⟩ rfl rfl (Or.inl rfl) (rest := [.long r14, .long r13, .long yy12]) rfl rfl rfl hl.1 rfl (Nat.le_of_ble_eq_true rfl) dX9_minor_116 ⟨Nat.le_of_ble_eq_true rfl, Nat.le_of_ble_eq_true rfl⟩ (fun r15 t H1 locs_29 ht hB hS_29 hFc => ?_)
        obtain ⟨-, hP_30, -, hD_30⟩ := hB
        rw [ht] at hP_30
        have hD_31 := hD_30.weaken (B := A) (fun k q _ h9 => hFc q.1 h9)
        clear ht
        generalize H1 = H_32 at hP_30 hS_29 ⊢
        refine v_lmul hx hb dX9_minor_119 _ rfl ?_
        refine lv_topl (fun yy16 e_yy16 => ?_)
        refine lv_aload_n hx hb dX9_minor_120 rfl (lv_at hl 0 rfl) ?_
        refine lv_iload_n hx hb dX9_minor_121 rfl (lv_at hl 3 rfl) ?_
        refine lv_iload hx hb dX9_minor_122 (lv_at hl 7 rfl) ?_
        have hM := r012_X9_a l dC dI cI cJ cII cJJ H_32.size 0 ad f9_size f9_equations f9_areSteps f9_foundMany f9_many f9_rank f9_freeMany f9_arePlans f9_planMany ai al x3 x7 (by omega) (by omega) (by omega) (by omega) (by omega) (by omega) (by omega) (by omega) (by omega) (by omega) (by omega) hI
        refine k2V_l (q0 := 22) ⟨hx, hb, hml, hown, hts⟩ hK hP_30 hD_31 hS_29 hA hX cv_RX9_124 hM ⟨by decide +kernel, by decide +kernel⟩ rfl rfl (Or.inl rfl) (rest := [.long yy16, .long r13, .long yy12]) rfl rfl rfl hl.1 rfl (Nat.le_of_ble_eq_true rfl) dX9_minor_124 ⟨Nat.le_of_ble_eq_true rfl, Nat.le_of_ble_eq_true rfl⟩ (fun r17 t H1 locs_33 ht hB hS_33 hFc => ?_)
        obtain ⟨-, hP_34, -, hD_34⟩ := hB
        rw [ht] at hP_34
        have hD_35 := hD_34.weaken (B := A) (fun k q _ h9 => hFc q.1 h9)
        clear ht
        generalize H1 = H_36 at hP_34 hS_33 ⊢
        refine lv_aload_n hx hb dX9_minor_127 rfl (lv_at hl 0 rfl) ?_
        refine lv_iload hx hb dX9_minor_128 (lv_at hl 4 rfl) ?_
        refine lv_iload hx hb dX9_minor_130 (lv_at hl 5 rfl) ?_
        have hM := r012_X9_a l dC dI cI cJ cII cJJ H_36.size 0 ad f9_size f9_equations f9_areSteps f9_foundMany f9_many f9_rank f9_freeMany f9_arePlans f9_planMany ai al x4 x5 (by omega) (by omega) (by omega) (by omega) (by omega) (by omega) (by omega) (by omega) (by omega) (by omega) (by omega) hI
        refine k2V_l (q0 := 22) ⟨hx, hb, hml, hown, hts⟩ hK hP_34 hD_35 hS_33 hA hX cv_RX9_124 hM ⟨by decide +kernel, by decide +kernel⟩ rfl rfl (Or.inl rfl) (rest := [.long r17, .long yy16, .long r13, .long yy12]) rfl rfl rfl hl.1 rfl (Nat.le_of_ble_eq_true rfl) dX9_minor_132 ⟨Nat.le_of_ble_eq_true rfl, Nat.le_of_ble_eq_true rfl⟩ (fun r18 t H1 locs_37 ht hB hS_37 hFc => ?_)
        obtain ⟨-, hP_38, -, hD_38⟩ := hB
        rw [ht] at hP_38
        have hD_39 := hD_38.weaken (B := A) (fun k q _ h9 => hFc q.1 h9)
        clear ht
        generalize H1 = H_40 at hP_38 hS_37 ⊢
        refine v_lmul hx hb dX9_minor_135 _ rfl ?_
        refine lv_topl (fun yy19 e_yy19 => ?_)
        refine v_lsub hx hb dX9_minor_136 _ rfl ?_
        refine lv_topl (fun yy20 e_yy20 => ?_)
        refine v_lmul hx hb dX9_minor_137 _ rfl ?_
        refine lv_topl (fun yy21 e_yy21 => ?_)
        refine v_lsub hx hb dX9_minor_138 _ rfl ?_
        refine lv_topl (fun yy22 e_yy22 => ?_)
        refine lv_aload_n hx hb dX9_minor_139 rfl (lv_at hl 0 rfl) ?_
        refine lv_iload_n hx hb dX9_minor_140 rfl (lv_at hl 2 rfl) ?_
        refine lv_iload hx hb dX9_minor_141 (lv_at hl 7 rfl) ?_
        have hM := r012_X9_a l dC dI cI cJ cII cJJ H_40.size 0 ad f9_size f9_equations f9_areSteps f9_foundMany f9_many f9_rank f9_freeMany f9_arePlans f9_planMany ai al x2 x7 (by omega) (by omega) (by omega) (by omega) (by omega) (by omega) (by omega) (by omega) (by omega) (by omega) (by omega) hI
        refine k2V_l (q0 := 22) ⟨hx, hb, hml, hown, hts⟩ hK hP_38 hD_39 hS_37 hA hX cv_RX9_124 hM ⟨by decide +kernel, by decide +kernel⟩ rfl rfl (Or.inl rfl) (rest := [.long yy22]) rfl rfl rfl hl.1 rfl (Nat.le_of_ble_eq_true rfl) dX9_minor_143 ⟨Nat.le_of_ble_eq_true rfl, Nat.le_of_ble_eq_true rfl⟩ (fun r23 t H1 locs_41 ht hB hS_41 hFc => ?_)
        obtain ⟨-, hP_42, -, hD_42⟩ := hB
        rw [ht] at hP_42
        have hD_43 := hD_42.weaken (B := A) (fun k q _ h9 => hFc q.1 h9)
        clear ht
        generalize H1 = H_44 at hP_42 hS_41 ⊢
        refine lv_aload_n hx hb dX9_minor_146 rfl (lv_at hl 0 rfl) ?_
        refine lv_iload_n hx hb dX9_minor_147 rfl (lv_at hl 3 rfl) ?_
        refine lv_iload hx hb dX9_minor_148 (lv_at hl 5 rfl) ?_
        have hM := r012_X9_a l dC dI cI cJ cII cJJ H_44.size 0 ad f9_size f9_equations f9_areSteps f9_foundMany f9_many f9_rank f9_freeMany f9_arePlans f9_planMany ai al x3 x5 (by omega) (by omega) (by omega) (by omega) (by omega) (by omega) (by omega) (by omega) (by omega) (by omega) (by omega) hI
        refine k2V_l (q0 := 22) ⟨hx, hb, hml, hown, hts⟩ hK hP_42 hD_43 hS_41 hA hX cv_RX9_124 hM ⟨by decide +kernel, by decide +kernel⟩ rfl rfl (Or.inl rfl) (rest := [.long r23, .long yy22]) rfl rfl rfl hl.1 rfl (Nat.le_of_ble_eq_true rfl) dX9_minor_150 ⟨Nat.le_of_ble_eq_true rfl, Nat.le_of_ble_eq_true rfl⟩ (fun r24 t H1 locs_45 ht hB hS_45 hFc => ?_)
        obtain ⟨-, hP_46, -, hD_46⟩ := hB
        rw [ht] at hP_46
        have hD_47 := hD_46.weaken (B := A) (fun k q _ h9 => hFc q.1 h9)
        clear ht
        generalize H1 = H_48 at hP_46 hS_45 ⊢
        refine lv_aload_n hx hb dX9_minor_153 rfl (lv_at hl 0 rfl) ?_
        refine lv_iload hx hb dX9_minor_154 (lv_at hl 4 rfl) ?_
        refine lv_iload hx hb dX9_minor_156 (lv_at hl 6 rfl) ?_
        have hM := r012_X9_a l dC dI cI cJ cII cJJ H_48.size 0 ad f9_size f9_equations f9_areSteps f9_foundMany f9_many f9_rank f9_freeMany f9_arePlans f9_planMany ai al x4 x6 (by omega) (by omega) (by omega) (by omega) (by omega) (by omega) (by omega) (by omega) (by omega) (by omega) (by omega) hI
        refine k2V_l (q0 := 22) ⟨hx, hb, hml, hown, hts⟩ hK hP_46 hD_47 hS_45 hA hX cv_RX9_124 hM ⟨by decide +kernel, by decide +kernel⟩ rfl rfl (Or.inl rfl) (rest := [.long r24, .long r23, .long yy22]) rfl rfl rfl hl.1 rfl (Nat.le_of_ble_eq_true rfl) dX9_minor_158 ⟨Nat.le_of_ble_eq_true rfl, Nat.le_of_ble_eq_true rfl⟩ (fun r25 t H1 locs_49 ht hB hS_49 hFc => ?_)
        obtain ⟨-, hP_50, -, hD_50⟩ := hB
        rw [ht] at hP_50
        have hD_51 := hD_50.weaken (B := A) (fun k q _ h9 => hFc q.1 h9)
        clear ht
        generalize H1 = H_52 at hP_50 hS_49 ⊢
        refine v_lmul hx hb dX9_minor_161 _ rfl ?_
        refine lv_topl (fun yy26 e_yy26 => ?_)
        refine lv_aload_n hx hb dX9_minor_162 rfl (lv_at hl 0 rfl) ?_
        refine lv_iload_n hx hb dX9_minor_163 rfl (lv_at hl 3 rfl) ?_
        refine lv_iload hx hb dX9_minor_164 (lv_at hl 6 rfl) ?_
        have hM := r012_X9_a l dC dI cI cJ cII cJJ H_52.size 0 ad f9_size f9_equations f9_areSteps f9_foundMany f9_many f9_rank f9_freeMany f9_arePlans f9_planMany ai al x3 x6 (by omega) (by omega) (by omega) (by omega) (by omega) (by omega) (by omega) (by omega) (by omega) (by omega) (by omega) hI
        refine k2V_l (q0 := 22) ⟨hx, hb, hml, hown, hts⟩ hK hP_50 hD_51 hS_49 hA hX cv_RX9_124 hM ⟨by decide +kernel, by decide +kernel⟩ rfl rfl (Or.inl rfl) (rest := [.long yy26, .long r23, .long yy22]) rfl rfl rfl hl.1 rfl (Nat.le_of_ble_eq_true rfl) dX9_minor_166 ⟨Nat.le_of_ble_eq_true rfl, Nat.le_of_ble_eq_true rfl⟩ (fun r27 t H1 locs_53 ht hB hS_53 hFc => ?_)
        obtain ⟨-, hP_54, -, hD_54⟩ := hB
        rw [ht] at hP_54
        have hD_55 := hD_54.weaken (B := A) (fun k q _ h9 => hFc q.1 h9)
        clear ht
        generalize H1 = H_56 at hP_54 hS_53 ⊢
        refine lv_aload_n hx hb dX9_minor_169 rfl (lv_at hl 0 rfl) ?_
        refine lv_iload hx hb dX9_minor_170 (lv_at hl 4 rfl) ?_
        refine lv_iload hx hb dX9_minor_172 (lv_at hl 5 rfl) ?_
        have hM := r012_X9_a l dC dI cI cJ cII cJJ H_56.size 0 ad f9_size f9_equations f9_areSteps f9_foundMany f9_many f9_rank f9_freeMany f9_arePlans f9_planMany ai al x4 x5 (by omega) (by omega) (by omega) (by omega) (by omega) (by omega) (by omega) (by omega) (by omega) (by omega) (by omega) hI
        refine k2V_l (q0 := 22) ⟨hx, hb, hml, hown, hts⟩ hK hP_54 hD_55 hS_53 hA hX cv_RX9_124 hM ⟨by decide +kernel, by decide +kernel⟩ rfl rfl (Or.inl rfl) (rest := [.long r27, .long yy26, .long r23, .long yy22]) rfl rfl rfl hl.1 rfl (Nat.le_of_ble_eq_true rfl) dX9_minor_174 ⟨Nat.le_of_ble_eq_true rfl, Nat.le_of_ble_eq_true rfl⟩ (fun r28 t H1 locs_57 ht hB hS_57 hFc => ?_)
        obtain ⟨-, hP_58, -, hD_58⟩ := hB
        rw [ht] at hP_58
        have hD_59 := hD_58.weaken (B := A) (fun k q _ h9 => hFc q.1 h9)
        clear ht
        generalize H1 = H_60 at hP_58 hS_57 ⊢
        refine v_lmul hx hb dX9_minor_177 _ rfl ?_
        refine lv_topl (fun yy29 e_yy29 => ?_)
        refine v_lsub hx hb dX9_minor_178 _ rfl ?_
        refine lv_topl (fun yy30 e_yy30 => ?_)
        refine v_lmul hx hb dX9_minor_179 _ rfl ?_
        refine lv_topl (fun yy31 e_yy31 => ?_)
        refine v_ladd hx hb dX9_minor_180 _ rfl ?_
        refine lv_topl (fun yy32 e_yy32 => ?_)
        exact r2_l hx hb hr hk hS_57 dX9_minor_181 (fun t ht hW => ⟨trivial, by rw [ht]; exact hP_58, va_K.moved hW.alike hK, hD_59⟩)
      · have c3 := j_eq (a := x1.toInt) (b := 2) rfl (by decide +kernel) c3
        refine lv_aload_n hx hb dX9_minor_24 rfl (lv_at hl 0 rfl) ?_
        refine lv_iload_n hx hb dX9_minor_25 rfl (lv_at hl 2 rfl) ?_
        refine lv_iload hx hb dX9_minor_26 (lv_at hl 5 rfl) ?_
        have hM := r012_X9_a l dC dI cI cJ cII cJJ H.size 0 ad f9_size f9_equations f9_areSteps f9_foundMany f9_many f9_rank f9_freeMany f9_arePlans f9_planMany ai al x2 x5 (by omega) (by omega) (by omega) (by omega) (by omega) (by omega) (by omega) (by omega) (by omega) (by omega) (by omega) hI
        refine k2V_l (q0 := 22) ⟨hx, hb, hml, hown, hts⟩ hK hP hD hS hA hX cv_RX9_124 hM ⟨by decide +kernel, by decide +kernel⟩ rfl rfl (Or.inl rfl) (rest := []) rfl rfl rfl hl.1 rfl (Nat.le_of_ble_eq_true rfl) dX9_minor_28 ⟨Nat.le_of_ble_eq_true rfl, Nat.le_of_ble_eq_true rfl⟩ (fun r33 t H1 locs_61 ht hB hS_61 hFc => ?_)
        obtain ⟨-, hP_62, -, hD_62⟩ := hB
        rw [ht] at hP_62
        have hD_63 := hD_62.weaken (B := A) (fun k q _ h9 => hFc q.1 h9)
        clear ht
        generalize H1 = H_64 at hP_62 hS_61 ⊢
        refine lv_aload_n hx hb dX9_minor_31 rfl (lv_at hl 0 rfl) ?_
        refine lv_iload_n hx hb dX9_minor_32 rfl (lv_at hl 3 rfl) ?_
        refine lv_iload hx hb dX9_minor_33 (lv_at hl 6 rfl) ?_
        have hM := r012_X9_a l dC dI cI cJ cII cJJ H_64.size 0 ad f9_size f9_equations f9_areSteps f9_foundMany f9_many f9_rank f9_freeMany f9_arePlans f9_planMany ai al x3 x6 (by omega) (by omega) (by omega) (by omega) (by omega) (by omega) (by omega) (by omega) (by omega) (by omega) (by omega) hI
        refine k2V_l (q0 := 22) ⟨hx, hb, hml, hown, hts⟩ hK hP_62 hD_63 hS_61 hA hX cv_RX9_124 hM ⟨by decide +kernel, by decide +kernel⟩ rfl rfl (Or.inl rfl) (rest := [.long r33]) rfl rfl rfl hl.1 rfl (Nat.le_of_ble_eq_true rfl) dX9_minor_35 ⟨Nat.le_of_ble_eq_true rfl, Nat.le_of_ble_eq_true rfl⟩ (fun r34 t H1 locs_65 ht hB hS_65 hFc => ?_)
        obtain ⟨-, hP_66, -, hD_66⟩ := hB
        rw [ht] at hP_66
        have hD_67 := hD_66.weaken (B := A) (fun k q _ h9 => hFc q.1 h9)
        clear ht
        generalize H1 = H_68 at hP_66 hS_65 ⊢
        refine v_lmul hx hb dX9_minor_38 _ rfl ?_
        refine lv_topl (fun yy35 e_yy35 => ?_)
        refine lv_aload_n hx hb dX9_minor_39 rfl (lv_at hl 0 rfl) ?_
        refine lv_iload_n hx hb dX9_minor_40 rfl (lv_at hl 2 rfl) ?_
        refine lv_iload hx hb dX9_minor_41 (lv_at hl 6 rfl) ?_
        have hM := r012_X9_a l dC dI cI cJ cII cJJ H_68.size 0 ad f9_size f9_equations f9_areSteps f9_foundMany f9_many f9_rank f9_freeMany f9_arePlans f9_planMany ai al x2 x6 (by omega) (by omega) (by omega) (by omega) (by omega) (by omega) (by omega) (by omega) (by omega) (by omega) (by omega) hI
        refine k2V_l (q0 := 22) ⟨hx, hb, hml, hown, hts⟩ hK hP_66 hD_67 hS_65 hA hX cv_RX9_124 hM ⟨by decide +kernel, by decide +kernel⟩ rfl rfl (Or.inl rfl) (rest := [.long yy35]) rfl rfl rfl hl.1 rfl (Nat.le_of_ble_eq_true rfl) dX9_minor_43 ⟨Nat.le_of_ble_eq_true rfl, Nat.le_of_ble_eq_true rfl⟩ (fun r36 t H1 locs_69 ht hB hS_69 hFc => ?_)
        obtain ⟨-, hP_70, -, hD_70⟩ := hB
        rw [ht] at hP_70
        have hD_71 := hD_70.weaken (B := A) (fun k q _ h9 => hFc q.1 h9)
        clear ht
        generalize H1 = H_72 at hP_70 hS_69 ⊢
        refine lv_aload_n hx hb dX9_minor_46 rfl (lv_at hl 0 rfl) ?_
        refine lv_iload_n hx hb dX9_minor_47 rfl (lv_at hl 3 rfl) ?_
        refine lv_iload hx hb dX9_minor_48 (lv_at hl 5 rfl) ?_
        have hM := r012_X9_a l dC dI cI cJ cII cJJ H_72.size 0 ad f9_size f9_equations f9_areSteps f9_foundMany f9_many f9_rank f9_freeMany f9_arePlans f9_planMany ai al x3 x5 (by omega) (by omega) (by omega) (by omega) (by omega) (by omega) (by omega) (by omega) (by omega) (by omega) (by omega) hI
        refine k2V_l (q0 := 22) ⟨hx, hb, hml, hown, hts⟩ hK hP_70 hD_71 hS_69 hA hX cv_RX9_124 hM ⟨by decide +kernel, by decide +kernel⟩ rfl rfl (Or.inl rfl) (rest := [.long r36, .long yy35]) rfl rfl rfl hl.1 rfl (Nat.le_of_ble_eq_true rfl) dX9_minor_50 ⟨Nat.le_of_ble_eq_true rfl, Nat.le_of_ble_eq_true rfl⟩ (fun r37 t H1 locs_73 ht hB hS_73 hFc => ?_)
        obtain ⟨-, hP_74, -, hD_74⟩ := hB
        rw [ht] at hP_74
        have hD_75 := hD_74.weaken (B := A) (fun k q _ h9 => hFc q.1 h9)
        clear ht
        generalize H1 = H_76 at hP_74 hS_73 ⊢
        refine v_lmul hx hb dX9_minor_53 _ rfl ?_
        refine lv_topl (fun yy38 e_yy38 => ?_)
        refine v_lsub hx hb dX9_minor_54 _ rfl ?_
        refine lv_topl (fun yy39 e_yy39 => ?_)
        exact r2_l hx hb hr hk hS_73 dX9_minor_55 (fun t ht hW => ⟨trivial, by rw [ht]; exact hP_74, va_K.moved hW.alike hK, hD_75⟩)
    · have c2 := j_eq (a := x1.toInt) (b := 1) rfl (by decide +kernel) c2
      refine lv_aload_n hx hb dX9_minor_11 rfl (lv_at hl 0 rfl) ?_
      refine lv_iload_n hx hb dX9_minor_12 rfl (lv_at hl 2 rfl) ?_
      refine lv_iload hx hb dX9_minor_13 (lv_at hl 5 rfl) ?_
      have hM := r012_X9_a l dC dI cI cJ cII cJJ H.size 0 ad f9_size f9_equations f9_areSteps f9_foundMany f9_many f9_rank f9_freeMany f9_arePlans f9_planMany ai al x2 x5 (by omega) (by omega) (by omega) (by omega) (by omega) (by omega) (by omega) (by omega) (by omega) (by omega) (by omega) hI
      refine k2V_l (q0 := 22) ⟨hx, hb, hml, hown, hts⟩ hK hP hD hS hA hX cv_RX9_124 hM ⟨by decide +kernel, by decide +kernel⟩ rfl rfl (Or.inl rfl) (rest := []) rfl rfl rfl hl.1 rfl (Nat.le_of_ble_eq_true rfl) dX9_minor_15 ⟨Nat.le_of_ble_eq_true rfl, Nat.le_of_ble_eq_true rfl⟩ (fun r40 t H1 locs_77 ht hB hS_77 hFc => ?_)
      obtain ⟨-, hP_78, -, hD_78⟩ := hB
      rw [ht] at hP_78
      have hD_79 := hD_78.weaken (B := A) (fun k q _ h9 => hFc q.1 h9)
      clear ht
      generalize H1 = H_80 at hP_78 hS_77 ⊢
      exact r2_l hx hb hr hk hS_77 dX9_minor_18 (fun t ht hW => ⟨trivial, by rw [ht]; exact hP_78, va_K.moved hW.alike hK, hD_79⟩)
  · have c1 := j_eq (a := x1.toInt) (b := 0) rfl (by decide +kernel) c1
    refine lv_lconst (v := 1) hx hb dX9_minor_4 (by decide) ?_
    exact r2_l hx hb hr hk hS dX9_minor_5 (fun t ht hW => ⟨trivial, by rw [ht]; exact hP, va_K.moved hW.alike hK, hD⟩)
def Q_r014_X9_bits (dC : Nat → ClassId) (dI : Nat → Nat → Nat) (cI cJ cII cJJ : ClassId) (ad : Nat → Nat) (f9_size f9_equations f9_areSteps f9_foundMany f9_many f9_rank f9_freeMany f9_arePlans f9_planMany : Int32) (ai : Nat → Nat → Int32) (al : Nat → Nat → Int64) : (Nat → Prop) → Array Value → State → Outcome → State → Prop := fun A => QI (fun r t => (True) ∧ WO dC dI (TY cI cJ cII cJJ) (WM cI cJ cII cJJ ad f9_size f9_equations f9_areSteps f9_foundMany f9_many f9_rank f9_freeMany f9_arePlans f9_planMany ai al) A t) A
set_option maxRecDepth 100000 in
set_option maxHeartbeats 4000000 in
theorem r014_X9_bits (l : Launch) (dC : Nat → ClassId) (dI : Nat → Nat → Nat) (cI cJ cII cJJ : ClassId) (sz g : Nat) (ad : Nat → Nat) (f9_size f9_equations f9_areSteps f9_foundMany f9_many f9_rank f9_freeMany f9_arePlans f9_planMany : Int32) (ai : Nat → Nat → Int32) (al : Nat → Nat → Int64) (x0 : Int32) (h_f9_size : (1 ≤ f9_size.toInt ∧ f9_size.toInt ≤ 4)) (h_f9_equations : (0 ≤ f9_equations.toInt ∧ f9_equations.toInt ≤ 3)) (h_f9_areSteps : (0 ≤ f9_areSteps.toInt ∧ f9_areSteps.toInt ≤ 1)) (h_f9_foundMany : (0 ≤ f9_foundMany.toInt ∧ f9_foundMany.toInt ≤ 99999)) (h_f9_many : (0 ≤ f9_many.toInt ∧ f9_many.toInt ≤ 6000)) (h_f9_rank : (0 ≤ f9_rank.toInt ∧ f9_rank.toInt ≤ 3)) (h_f9_freeMany : (0 ≤ f9_freeMany.toInt ∧ f9_freeMany.toInt ≤ 4)) (h_f9_arePlans : (0 ≤ f9_arePlans.toInt ∧ f9_arePlans.toInt ≤ 1)) (h_f9_planMany : (0 ≤ f9_planMany.toInt ∧ f9_planMany.toInt ≤ 194481)) (hI : IAM ai) : Met l yX9_bits (.code yX9_bits cX9_bits 1 (some .int) :: TT) ({ frames := 2, cells := 0, slots := 0, locals := 80 } : Room) (PcS dC dI (TY cI cJ cII cJJ) [.int x0] (WM cI cJ cII cJJ ad f9_size f9_equations f9_areSteps f9_foundMany f9_many f9_rank f9_freeMany f9_arePlans f9_planMany ai al) sz 0 g) (Q_r014_X9_bits dC dI cI cJ cII cJJ ad f9_size f9_equations f9_areSteps f9_foundMany f9_many f9_rank f9_freeMany f9_arePlans f9_planMany ai al (va_A (WM cI cJ cII cJJ ad f9_size f9_equations f9_areSteps f9_foundMany f9_many f9_rank f9_freeMany f9_arePlans f9_planMany ai al) sz)) 0 0 (va_A (WM cI cJ cII cJJ ad f9_size f9_equations f9_areSteps f9_foundMany f9_many f9_rank f9_freeMany f9_arePlans f9_planMany ai al) sz) := by
  refine SM.of (y := yX9_bits) (maxL := 1) (av := [.int x0]) (Q_r014_X9_bits dC dI cI cJ cII cJJ ad f9_size f9_equations f9_areSteps f9_foundMany f9_many f9_rank f9_freeMany f9_arePlans f9_planMany ai al) (by decide +kernel) (Nat.le_of_ble_eq_true rfl) (fun p e s m below meth c A ls hx hb hr hml hown hts hk hnm hA hK hP hD hS hX hl => ?_)
  have C : Cx p c s m meth (([.int x0] : List Value).toArray) A dC dI (TY cI cJ cII cJJ) cX9_bits (some .int) 1 RX9 0 g := ⟨hx, hb, hr, hml, hown, hts, hk, hA, hK, hX⟩
  have hown : s.vm.findClass RX9 = some m.cls := hown
  have hl : lv_has ls 1 [(0, .int x0)] := hl
  obtain ⟨H, hH⟩ : ∃ q, q = s.heap := ⟨_, rfl⟩
  rw [← hH] at hP
  have hS : va_S A s.heap H [] := by rw [hH]; exact hS
  rw [← hH]
  have ra_x0 := s_any x0
  refine lv_iload_n hx hb dX9_bits_0 rfl (lv_at hl 0 rfl) ?_
  refine lv_iconst (v := 1) hx hb dX9_bits_1 (by decide) ?_
  refine v_iand hx hb dX9_bits_2 _ rfl ?_
  refine lv_topi (fun z1 e_z1 => ?_)
  refine lv_iload_n hx hb dX9_bits_3 rfl (lv_at hl 0 rfl) ?_
  refine lv_iconst (v := 1) hx hb dX9_bits_4 (by decide) ?_
  refine v_ishr hx hb dX9_bits_5 _ rfl ?_
  refine lv_topi (fun z2 e_z2 => ?_)
  refine lv_iconst (v := 1) hx hb dX9_bits_6 (by decide) ?_
  refine v_iand hx hb dX9_bits_7 _ rfl ?_
  refine lv_topi (fun z3 e_z3 => ?_)
  refine v_iadd hx hb dX9_bits_8 _ rfl ?_
  refine lv_topi (fun z4 e_z4 => ?_)
  refine lv_iload_n hx hb dX9_bits_9 rfl (lv_at hl 0 rfl) ?_
  refine lv_iconst (v := 2) hx hb dX9_bits_10 (by decide) ?_
  refine v_ishr hx hb dX9_bits_11 _ rfl ?_
  refine lv_topi (fun z5 e_z5 => ?_)
  refine lv_iconst (v := 1) hx hb dX9_bits_12 (by decide) ?_
  refine v_iand hx hb dX9_bits_13 _ rfl ?_
  refine lv_topi (fun z6 e_z6 => ?_)
  refine v_iadd hx hb dX9_bits_14 _ rfl ?_
  refine lv_topi (fun z7 e_z7 => ?_)
  refine lv_iload_n hx hb dX9_bits_15 rfl (lv_at hl 0 rfl) ?_
  refine lv_iconst (v := 3) hx hb dX9_bits_16 (by decide) ?_
  refine v_ishr hx hb dX9_bits_17 _ rfl ?_
  refine lv_topi (fun z8 e_z8 => ?_)
  refine lv_iconst (v := 1) hx hb dX9_bits_18 (by decide) ?_
  refine v_iand hx hb dX9_bits_19 _ rfl ?_
  refine lv_topi (fun z9 e_z9 => ?_)
  refine v_iadd hx hb dX9_bits_20 _ rfl ?_
  refine lv_topi (fun z10 e_z10 => ?_)
  exact r2_i hx hb hr hk hS dX9_bits_21 (fun t ht hW => ⟨trivial, by rw [ht]; exact hP, va_K.moved hW.alike hK, hD⟩)
def Q_r015_X9_takes (dC : Nat → ClassId) (dI : Nat → Nat → Nat) (cI cJ cII cJJ : ClassId) (ad : Nat → Nat) (f9_size f9_equations f9_areSteps f9_foundMany f9_many f9_rank f9_freeMany f9_arePlans f9_planMany : Int32) (al : Nat → Nat → Int64) : (Nat → Prop) → Array Value → State → Outcome → State → Prop := fun A => QV (fun t => ∃ (n_ai : Nat → Nat → Int32), (IAM n_ai) ∧ WO dC dI (TY cI cJ cII cJJ) (WM cI cJ cII cJJ ad f9_size f9_equations f9_areSteps f9_foundMany f9_many f9_rank f9_freeMany f9_arePlans f9_planMany n_ai al) A t) A
set_option maxRecDepth 100000 in
set_option maxHeartbeats 4000000 in
theorem r015_X9_takes_b38 {p : Program} {l : Launch} {e : Env} {s : State} {m : MethodId} {args : Array Value} {below : List Frame} {meth : Method} {c : Code} {A : Nat → Prop} {dC : Nat → ClassId} {dI : Nat → Nat → Nat} {cI cJ cII cJJ : ClassId} {ad : Nat → Nat} {g : Nat} {f9_size f9_equations f9_areSteps f9_foundMany f9_many f9_rank f9_freeMany f9_arePlans f9_planMany : Int32} {al : Nat → Nat → Int64} (C : Cx p c s m meth args A dC dI (TY cI cJ cII cJJ) cX9_takes none 4 RX9 0 g) : ∀ (n : Nat), ∀ (L0 L2 L3 : Int32) (ai : Nat → Nat → Int32) (H : Heap) (locs : List Loc) (ls : Array Slot), (0 ≤ L2.toInt ∧ L2.toInt ≤ 3) → (0 ≤ L3.toInt ∧ L3.toInt ≤ 4) → (1 ≤ f9_size.toInt ∧ f9_size.toInt ≤ 4) → (0 ≤ f9_equations.toInt ∧ f9_equations.toInt ≤ 3) → (0 ≤ f9_areSteps.toInt ∧ f9_areSteps.toInt ≤ 1) → (0 ≤ f9_foundMany.toInt ∧ f9_foundMany.toInt ≤ 99999) → (0 ≤ f9_many.toInt ∧ f9_many.toInt ≤ 6000) → (0 ≤ f9_rank.toInt ∧ f9_rank.toInt ≤ 3) → (0 ≤ f9_freeMany.toInt ∧ f9_freeMany.toInt ≤ 4) → (0 ≤ f9_arePlans.toInt ∧ f9_arePlans.toInt ≤ 1) → (0 ≤ f9_planMany.toInt ∧ f9_planMany.toInt ≤ 194481) → 3 - L2.toInt < (n : Int) → (0 : Int) < (n : Int) → IAM ai → va_P (dC, dI) vwCl (WM cI cJ cII cJJ ad f9_size f9_equations f9_areSteps f9_foundMany f9_many f9_rank f9_freeMany f9_arePlans f9_planMany ai al) H → va_D A (WM cI cJ cII cJJ ad f9_size f9_equations f9_areSteps f9_foundMany f9_many f9_rank f9_freeMany f9_arePlans f9_planMany ai al) → va_S A s.heap H locs → lv_has ls 4 [(0, .int L0), (1, .ref (ad 13)), (2, .int L2), (3, .int L3)] → W p l e ({ frames := 2, cells := 0, slots := 0, locals := 80 } : Room) s m args below meth c H locs 0 0 (MQ below (Q_r015_X9_takes dC dI cI cJ cII cJJ ad f9_size f9_equations f9_areSteps f9_foundMany f9_many f9_rank f9_freeMany f9_arePlans f9_planMany al A) args s 0 0 A) (F0 m 38 ls []) := by
  obtain ⟨hx, hb, hr, hml, hown, hts, hk, hA, hK, hX⟩ := id C
  intro n
  induction n with
  | zero =>
    intro L0 L2 L3 ai H locs ls h0 h1 h2 h3 h4 h5 h6 h7 h8 h9 h10 h11 h12 hI hP hD hS hl
    exact absurd h12 (by omega)
  | succ n ih =>
    intro L0 L2 L3 ai H locs ls h0 h1 h2 h3 h4 h5 h6 h7 h8 h9 h10 h11 h12 hI hP hD hS hl
    have ra_L0 := s_any L0
    refine lv_iload_n hx hb dX9_takes_38 rfl (lv_at hl 2 rfl) ?_
    refine lv_iconst (v := 3) hx hb dX9_takes_39 (by decide) ?_
    refine lv_icmp_ge (tgt := 53) hx hb dX9_takes_40 (by decide) (fun c1 => ?_) (fun c1 => ?_)
    · have c1 := j_le (a := 3) (b := L2.toInt) (by decide +kernel) rfl c1
      exact r2_v hx hb hr hk hS dX9_takes_53 (fun t ht hW => ⟨ai, hI, by rw [ht]; exact hP, va_K.moved hW.alike hK, hD⟩)
    · have c1 := j_nle (a := 3) (b := L2.toInt) (by decide +kernel) rfl c1
      refine lv_aload_n hx hb dX9_takes_43 rfl (lv_at hl 1 rfl) ?_
      refine lv_iload_n hx hb dX9_takes_44 rfl (lv_at hl 2 rfl) ?_
      refine lv_iconst (v := 0) hx hb dX9_takes_45 (by decide) ?_
      refine va_iast hx hb hK hP hD hS 13 0 rfl rfl (j_in (a := L2.toInt) rfl (by omega) (by omega)) dX9_takes_46 (fun H_1 locs_1 hP_1 hD_1 hS_1 => ?_)
      obtain ⟨ai2, e_ai2⟩ : ∃ q : Nat → Nat → Int32, q = va_up ai 13 (upd (ai 13) L2.toNatClampNeg 0) := ⟨_, rfl⟩
      have hI_2 : IAM ai2 := by rw [e_ai2]; exact IAM_st13 hI (a := 0) (by decide +kernel) (by omega) (by omega)
      have hP_3 : va_P (dC, dI) vwCl (WM cI cJ cII cJJ ad f9_size f9_equations f9_areSteps f9_foundMany f9_many f9_rank f9_freeMany f9_arePlans f9_planMany ai2 al) H_1 := by rw [e_ai2]; exact hP_1
      have hD_4 : va_D A (WM cI cJ cII cJJ ad f9_size f9_equations f9_areSteps f9_foundMany f9_many f9_rank f9_freeMany f9_arePlans f9_planMany ai2 al) := by rw [e_ai2]; exact hD_1
      obtain ⟨z3, e_z3⟩ : ∃ q : Int32, q = L2 + Int32.ofInt 1 := ⟨_, rfl⟩
      have g_z3 : z3.toInt = L2.toInt + 1 := by rw [e_z3]; exact n_add (a := L2.toInt) (b := 1) rfl (by decide +kernel) (by omega) (by omega)
      refine lv_iinc (v := z3) (lv' := [(2, .int z3), (0, .int L0), (1, .ref (ad 13)), (3, .int L3)]) hx hb dX9_takes_47 hl (k := 2) rfl e_z3.symm (by decide) rfl (fun ls_5 hl_5 => ?_)
      refine lv_goto (tgt := 38) hx hb dX9_takes_50 (by decide) ?_
      exact ih L0 z3 L3 ai2 _ _ _ (by omega) (by omega) (by omega) (by omega) (by omega) (by omega) (by omega) (by omega) (by omega) (by omega) (by omega) (by omega) (by omega) hI_2 hP_3 hD_4 hS_1 (lv_sub hl_5 [1, 2, 0, 3] rfl)
set_option maxRecDepth 100000 in
set_option maxHeartbeats 4000000 in
theorem r015_X9_takes_b32 {p : Program} {l : Launch} {e : Env} {s : State} {m : MethodId} {args : Array Value} {below : List Frame} {meth : Method} {c : Code} {A : Nat → Prop} {dC : Nat → ClassId} {dI : Nat → Nat → Nat} {cI cJ cII cJJ : ClassId} {ad : Nat → Nat} {g : Nat} {f9_size f9_equations f9_areSteps f9_foundMany f9_many f9_rank f9_freeMany f9_arePlans f9_planMany : Int32} {al : Nat → Nat → Int64} (C : Cx p c s m meth args A dC dI (TY cI cJ cII cJJ) cX9_takes none 4 RX9 0 g) (n4 : Nat) (K4 : ∀ (L0 L2 L3 : Int32) (ai : Nat → Nat → Int32) (H : Heap) (locs : List Loc) (ls : Array Slot), (0 ≤ L2.toInt ∧ L2.toInt ≤ 3) → (0 ≤ L3.toInt ∧ L3.toInt ≤ 4) → (1 ≤ f9_size.toInt ∧ f9_size.toInt ≤ 4) → (0 ≤ f9_equations.toInt ∧ f9_equations.toInt ≤ 3) → (0 ≤ f9_areSteps.toInt ∧ f9_areSteps.toInt ≤ 1) → (0 ≤ f9_foundMany.toInt ∧ f9_foundMany.toInt ≤ 99999) → (0 ≤ f9_many.toInt ∧ f9_many.toInt ≤ 6000) → (0 ≤ f9_rank.toInt ∧ f9_rank.toInt ≤ 3) → (0 ≤ f9_freeMany.toInt ∧ f9_freeMany.toInt ≤ 4) → (0 ≤ f9_arePlans.toInt ∧ f9_arePlans.toInt ≤ 1) → (0 ≤ f9_planMany.toInt ∧ f9_planMany.toInt ≤ 194481) → 4 - L3.toInt < (n4 : Int) → (0 : Int) < (n4 : Int) → IAM ai → va_P (dC, dI) vwCl (WM cI cJ cII cJJ ad f9_size f9_equations f9_areSteps f9_foundMany f9_many f9_rank f9_freeMany f9_arePlans f9_planMany ai al) H → va_D A (WM cI cJ cII cJJ ad f9_size f9_equations f9_areSteps f9_foundMany f9_many f9_rank f9_freeMany f9_arePlans f9_planMany ai al) → va_S A s.heap H locs → lv_has ls 4 [(0, .int L0), (1, .ref (ad 13)), (2, .int L2), (3, .int L3)] → W p l e ({ frames := 2, cells := 0, slots := 0, locals := 80 } : Room) s m args below meth c H locs 0 0 (MQ below (Q_r015_X9_takes dC dI cI cJ cII cJJ ad f9_size f9_equations f9_areSteps f9_foundMany f9_many f9_rank f9_freeMany f9_arePlans f9_planMany al A) args s 0 0 A) (F0 m 4 ls [])) : ∀ (L0 L2 L3 : Int32) (ai : Nat → Nat → Int32) (H : Heap) (locs : List Loc) (ls : Array Slot), (0 ≤ L2.toInt ∧ L2.toInt ≤ 3) → (0 ≤ L3.toInt ∧ L3.toInt ≤ 3) → (1 ≤ f9_size.toInt ∧ f9_size.toInt ≤ 4) → (0 ≤ f9_equations.toInt ∧ f9_equations.toInt ≤ 3) → (0 ≤ f9_areSteps.toInt ∧ f9_areSteps.toInt ≤ 1) → (0 ≤ f9_foundMany.toInt ∧ f9_foundMany.toInt ≤ 99999) → (0 ≤ f9_many.toInt ∧ f9_many.toInt ≤ 6000) → (0 ≤ f9_rank.toInt ∧ f9_rank.toInt ≤ 3) → (0 ≤ f9_freeMany.toInt ∧ f9_freeMany.toInt ≤ 4) → (0 ≤ f9_arePlans.toInt ∧ f9_arePlans.toInt ≤ 1) → (0 ≤ f9_planMany.toInt ∧ f9_planMany.toInt ≤ 194481) → L3.toInt < 4 → 4 - L3.toInt ≤ (n4 : Int) → IAM ai → va_P (dC, dI) vwCl (WM cI cJ cII cJJ ad f9_size f9_equations f9_areSteps f9_foundMany f9_many f9_rank f9_freeMany f9_arePlans f9_planMany ai al) H → va_D A (WM cI cJ cII cJJ ad f9_size f9_equations f9_areSteps f9_foundMany f9_many f9_rank f9_freeMany f9_arePlans f9_planMany ai al) → va_S A s.heap H locs → lv_has ls 4 [(0, .int L0), (1, .ref (ad 13)), (2, .int L2), (3, .int L3)] → W p l e ({ frames := 2, cells := 0, slots := 0, locals := 80 } : Room) s m args below meth c H locs 0 0 (MQ below (Q_r015_X9_takes dC dI cI cJ cII cJJ ad f9_size f9_equations f9_areSteps f9_foundMany f9_many f9_rank f9_freeMany f9_arePlans f9_planMany al A) args s 0 0 A) (F0 m 32 ls []) := by
  obtain ⟨hx, hb, hr, hml, hown, hts, hk, hA, hK, hX⟩ := id C
  intro L0 L2 L3 ai H locs ls h0 h1 h2 h3 h4 h5 h6 h7 h8 h9 h10 h11 h12 hI hP hD hS hl
  have ra_L0 := s_any L0
  obtain ⟨z1, e_z1⟩ : ∃ q : Int32, q = L3 + Int32.ofInt 1 := ⟨_, rfl⟩
  have g_z1 : z1.toInt = L3.toInt + 1 := by rw [e_z1]; exact n_add (a := L3.toInt) (b := 1) rfl (by decide +kernel) (by omega) (by omega)
  refine lv_iinc (v := z1) (lv' := [(3, .int z1), (0, .int L0), (1, .ref (ad 13)), (2, .int L2)]) hx hb dX9_takes_32 hl (k := 3) rfl e_z1.symm (by decide) rfl (fun ls_1 hl_1 => ?_)
  refine lv_goto (tgt := 4) hx hb dX9_takes_35 (by decide) ?_
  exact K4 L0 L2 z1 ai _ _ _ (by omega) (by omega) (by omega) (by omega) (by omega) (by omega) (by omega) (by omega) (by omega) (by omega) (by omega) (by omega) (by omega) hI hP hD hS (lv_sub hl_1 [1, 2, 3, 0] rfl)
set_option maxRecDepth 100000 in
set_option maxHeartbeats 4000000 in
theorem r015_X9_takes_b4 {p : Program} {l : Launch} {e : Env} {s : State} {m : MethodId} {args : Array Value} {below : List Frame} {meth : Method} {c : Code} {A : Nat → Prop} {dC : Nat → ClassId} {dI : Nat → Nat → Nat} {cI cJ cII cJJ : ClassId} {ad : Nat → Nat} {g : Nat} {f9_size f9_equations f9_areSteps f9_foundMany f9_many f9_rank f9_freeMany f9_arePlans f9_planMany : Int32} {al : Nat → Nat → Int64} (C : Cx p c s m meth args A dC dI (TY cI cJ cII cJJ) cX9_takes none 4 RX9 0 g) : ∀ (n : Nat), ∀ (L0 L2 L3 : Int32) (ai : Nat → Nat → Int32) (H : Heap) (locs : List Loc) (ls : Array Slot), (0 ≤ L2.toInt ∧ L2.toInt ≤ 3) → (0 ≤ L3.toInt ∧ L3.toInt ≤ 4) → (1 ≤ f9_size.toInt ∧ f9_size.toInt ≤ 4) → (0 ≤ f9_equations.toInt ∧ f9_equations.toInt ≤ 3) → (0 ≤ f9_areSteps.toInt ∧ f9_areSteps.toInt ≤ 1) → (0 ≤ f9_foundMany.toInt ∧ f9_foundMany.toInt ≤ 99999) → (0 ≤ f9_many.toInt ∧ f9_many.toInt ≤ 6000) → (0 ≤ f9_rank.toInt ∧ f9_rank.toInt ≤ 3) → (0 ≤ f9_freeMany.toInt ∧ f9_freeMany.toInt ≤ 4) → (0 ≤ f9_arePlans.toInt ∧ f9_arePlans.toInt ≤ 1) → (0 ≤ f9_planMany.toInt ∧ f9_planMany.toInt ≤ 194481) → 4 - L3.toInt < (n : Int) → (0 : Int) < (n : Int) → IAM ai → va_P (dC, dI) vwCl (WM cI cJ cII cJJ ad f9_size f9_equations f9_areSteps f9_foundMany f9_many f9_rank f9_freeMany f9_arePlans f9_planMany ai al) H → va_D A (WM cI cJ cII cJJ ad f9_size f9_equations f9_areSteps f9_foundMany f9_many f9_rank f9_freeMany f9_arePlans f9_planMany ai al) → va_S A s.heap H locs → lv_has ls 4 [(0, .int L0), (1, .ref (ad 13)), (2, .int L2), (3, .int L3)] → W p l e ({ frames := 2, cells := 0, slots := 0, locals := 80 } : Room) s m args below meth c H locs 0 0 (MQ below (Q_r015_X9_takes dC dI cI cJ cII cJJ ad f9_size f9_equations f9_areSteps f9_foundMany f9_many f9_rank f9_freeMany f9_arePlans f9_planMany al A) args s 0 0 A) (F0 m 4 ls []) := by
  obtain ⟨hx, hb, hr, hml, hown, hts, hk, hA, hK, hX⟩ := id C
  intro n
  induction n with
  | zero =>
    intro L0 L2 L3 ai H locs ls h0 h1 h2 h3 h4 h5 h6 h7 h8 h9 h10 h11 h12 hI hP hD hS hl
    exact absurd h12 (by omega)
  | succ n ih =>
    intro L0 L2 L3 ai H locs ls h0 h1 h2 h3 h4 h5 h6 h7 h8 h9 h10 h11 h12 hI hP hD hS hl
    have ra_L0 := s_any L0
    refine lv_iload_n hx hb dX9_takes_4 rfl (lv_at hl 3 rfl) ?_
    refine lv_iconst (v := 4) hx hb dX9_takes_5 (by decide) ?_
    refine lv_icmp_ge (tgt := 38) hx hb dX9_takes_6 (by decide) (fun c1 => ?_) (fun c1 => ?_)
    · have c1 := j_le (a := 4) (b := L3.toInt) (by decide +kernel) rfl c1
      exact r015_X9_takes_b38 C  _ L0 L2 L3 ai _ _ _ (by omega) (by omega) (by omega) (by omega) (by omega) (by omega) (by omega) (by omega) (by omega) (by omega) (by omega) (j_fuel _) (by omega) hI hP hD hS (lv_sub hl [0, 1, 2, 3] rfl)
    · have c1 := j_nle (a := 4) (b := L3.toInt) (by decide +kernel) rfl c1
      refine lv_iload_n hx hb dX9_takes_9 rfl (lv_at hl 2 rfl) ?_
      refine lv_iconst (v := 3) hx hb dX9_takes_10 (by decide) ?_
      refine lv_icmp_ge (tgt := 38) hx hb dX9_takes_11 (by decide) (fun c2 => ?_) (fun c2 => ?_)
      · have c2 := j_le (a := 3) (b := L2.toInt) (by decide +kernel) rfl c2
        exact r015_X9_takes_b38 C  _ L0 L2 L3 ai _ _ _ (by omega) (by omega) (by omega) (by omega) (by omega) (by omega) (by omega) (by omega) (by omega) (by omega) (by omega) (j_fuel _) (by omega) hI hP hD hS (lv_sub hl [0, 1, 2, 3] rfl)
      · have c2 := j_nle (a := 3) (b := L2.toInt) (by decide +kernel) rfl c2
        refine lv_iload_n hx hb dX9_takes_14 rfl (lv_at hl 0 rfl) ?_
        refine lv_iload_n hx hb dX9_takes_15 rfl (lv_at hl 3 rfl) ?_
        refine v_ishr hx hb dX9_takes_16 _ rfl ?_
        refine lv_topi (fun z3 e_z3 => ?_)
        refine lv_iconst (v := 1) hx hb dX9_takes_17 (by decide) ?_
        refine v_iand hx hb dX9_takes_18 _ rfl ?_
        refine lv_topi (fun z4 e_z4 => ?_)
        refine lv_if_ne (tgt := 25) hx hb dX9_takes_19 (by decide) (fun c5 => ?_) (fun c5 => ?_)
        · have c5 := j_ne (a := z4.toInt) (b := 0) rfl (by decide +kernel) c5
          refine lv_aload_n hx hb dX9_takes_25 rfl (lv_at hl 1 rfl) ?_
          refine lv_iload_n hx hb dX9_takes_26 rfl (lv_at hl 2 rfl) ?_
          refine lv_iload_n hx hb dX9_takes_27 rfl (lv_at hl 3 rfl) ?_
          refine va_iast hx hb hK hP hD hS 13 0 rfl rfl (j_in (a := L2.toInt) rfl (by omega) (by omega)) dX9_takes_28 (fun H_1 locs_1 hP_1 hD_1 hS_1 => ?_)
          obtain ⟨ai6, e_ai6⟩ : ∃ q : Nat → Nat → Int32, q = va_up ai 13 (upd (ai 13) L2.toNatClampNeg L3) := ⟨_, rfl⟩
          have hI_2 : IAM ai6 := by rw [e_ai6]; exact IAM_st13 hI (a := L3.toInt) rfl (by omega) (by omega)
          have hP_3 : va_P (dC, dI) vwCl (WM cI cJ cII cJJ ad f9_size f9_equations f9_areSteps f9_foundMany f9_many f9_rank f9_freeMany f9_arePlans f9_planMany ai6 al) H_1 := by rw [e_ai6]; exact hP_1
          have hD_4 : va_D A (WM cI cJ cII cJJ ad f9_size f9_equations f9_areSteps f9_foundMany f9_many f9_rank f9_freeMany f9_arePlans f9_planMany ai6 al) := by rw [e_ai6]; exact hD_1
          obtain ⟨z7, e_z7⟩ : ∃ q : Int32, q = L2 + Int32.ofInt 1 := ⟨_, rfl⟩
          have g_z7 : z7.toInt = L2.toInt + 1 := by rw [e_z7]; exact n_add (a := L2.toInt) (b := 1) rfl (by decide +kernel) (by omega) (by omega)
          refine lv_iinc (v := z7) (lv' := [(2, .int z7), (0, .int L0), (1, .ref (ad 13)), (3, .int L3)]) hx hb dX9_takes_29 hl (k := 2) rfl e_z7.symm (by decide) rfl (fun ls_5 hl_5 => ?_)
          exact r015_X9_takes_b32 C n ih L0 z7 L3 ai6 _ _ _ (by omega) (by omega) (by omega) (by omega) (by omega) (by omega) (by omega) (by omega) (by omega) (by omega) (by omega) (by omega) (by omega) hI_2 hP_3 hD_4 hS_1 (lv_sub hl_5 [1, 2, 0, 3] rfl)
        · have c5 := j_eq (a := z4.toInt) (b := 0) rfl (by decide +kernel) c5
          refine lv_goto (tgt := 32) hx hb dX9_takes_22 (by decide) ?_
          exact r015_X9_takes_b32 C n ih L0 L2 L3 ai _ _ _ (by omega) (by omega) (by omega) (by omega) (by omega) (by omega) (by omega) (by omega) (by omega) (by omega) (by omega) (by omega) (by omega) hI hP hD hS (lv_sub hl [0, 1, 2, 3] rfl)
set_option maxRecDepth 100000 in
set_option maxHeartbeats 4000000 in
theorem r015_X9_takes (l : Launch) (dC : Nat → ClassId) (dI : Nat → Nat → Nat) (cI cJ cII cJJ : ClassId) (sz g : Nat) (ad : Nat → Nat) (f9_size f9_equations f9_areSteps f9_foundMany f9_many f9_rank f9_freeMany f9_arePlans f9_planMany : Int32) (ai : Nat → Nat → Int32) (al : Nat → Nat → Int64) (x0 : Int32) (h_f9_size : (1 ≤ f9_size.toInt ∧ f9_size.toInt ≤ 4)) (h_f9_equations : (0 ≤ f9_equations.toInt ∧ f9_equations.toInt ≤ 3)) (h_f9_areSteps : (0 ≤ f9_areSteps.toInt ∧ f9_areSteps.toInt ≤ 1)) (h_f9_foundMany : (0 ≤ f9_foundMany.toInt ∧ f9_foundMany.toInt ≤ 99999)) (h_f9_many : (0 ≤ f9_many.toInt ∧ f9_many.toInt ≤ 6000)) (h_f9_rank : (0 ≤ f9_rank.toInt ∧ f9_rank.toInt ≤ 3)) (h_f9_freeMany : (0 ≤ f9_freeMany.toInt ∧ f9_freeMany.toInt ≤ 4)) (h_f9_arePlans : (0 ≤ f9_arePlans.toInt ∧ f9_arePlans.toInt ≤ 1)) (h_f9_planMany : (0 ≤ f9_planMany.toInt ∧ f9_planMany.toInt ≤ 194481)) (hI : IAM ai) : Met l yX9_takes (.code yX9_takes cX9_takes 4 none :: TT) ({ frames := 2, cells := 0, slots := 0, locals := 80 } : Room) (PcS dC dI (TY cI cJ cII cJJ) [.int x0, .ref (ad 13)] (WM cI cJ cII cJJ ad f9_size f9_equations f9_areSteps f9_foundMany f9_many f9_rank f9_freeMany f9_arePlans f9_planMany ai al) sz 0 g) (Q_r015_X9_takes dC dI cI cJ cII cJJ ad f9_size f9_equations f9_areSteps f9_foundMany f9_many f9_rank f9_freeMany f9_arePlans f9_planMany al (va_A (WM cI cJ cII cJJ ad f9_size f9_equations f9_areSteps f9_foundMany f9_many f9_rank f9_freeMany f9_arePlans f9_planMany ai al) sz)) 0 0 (va_A (WM cI cJ cII cJJ ad f9_size f9_equations f9_areSteps f9_foundMany f9_many f9_rank f9_freeMany f9_arePlans f9_planMany ai al) sz) := by
  refine SM.of (y := yX9_takes) (maxL := 4) (av := [.int x0, .ref (ad 13)]) (Q_r015_X9_takes dC dI cI cJ cII cJJ ad f9_size f9_equations f9_areSteps f9_foundMany f9_many f9_rank f9_freeMany f9_arePlans f9_planMany al) (by decide +kernel) (Nat.le_of_ble_eq_true rfl) (fun p e s m below meth c A ls hx hb hr hml hown hts hk hnm hA hK hP hD hS hX hl => ?_)
  have C : Cx p c s m meth (([.int x0, .ref (ad 13)] : List Value).toArray) A dC dI (TY cI cJ cII cJJ) cX9_takes none 4 RX9 0 g := ⟨hx, hb, hr, hml, hown, hts, hk, hA, hK, hX⟩
  have hown : s.vm.findClass RX9 = some m.cls := hown
  have hl : lv_has ls 4 [(0, .int x0), (1, .ref (ad 13))] := hl
  obtain ⟨H, hH⟩ : ∃ q, q = s.heap := ⟨_, rfl⟩
  rw [← hH] at hP
  have hS : va_S A s.heap H [] := by rw [hH]; exact hS
  rw [← hH]
  have ra_x0 := s_any x0
  refine lv_iconst (v := 0) hx hb dX9_takes_0 (by decide) ?_
  refine lv_istore_n (lv' := [(2, .int 0), (0, .int x0), (1, .ref (ad 13))]) hx hb dX9_takes_1 rfl hl (by decide) rfl (fun ls_1 hl_1 => ?_)
  refine lv_iconst (v := 0) hx hb dX9_takes_2 (by decide) ?_
  refine lv_istore_n (lv' := [(3, .int 0), (2, .int 0), (0, .int x0), (1, .ref (ad 13))]) hx hb dX9_takes_3 rfl hl_1 (by decide) rfl (fun ls_2 hl_2 => ?_)
  exact r015_X9_takes_b4 C  _ x0 0 0 ai _ _ _ (by first | omega | decide | (have ka0 := (by decide +kernel : (0 : Int32).toInt = 0); omega)) (by first | omega | decide | (have ka0 := (by decide +kernel : (0 : Int32).toInt = 0); omega)) (by first | omega | decide | (have ka0 := (by decide +kernel : (0 : Int32).toInt = 0); omega)) (by first | omega | decide | (have ka0 := (by decide +kernel : (0 : Int32).toInt = 0); omega)) (by first | omega | decide | (have ka0 := (by decide +kernel : (0 : Int32).toInt = 0); omega)) (by first | omega | decide | (have ka0 := (by decide +kernel : (0 : Int32).toInt = 0); omega)) (by first | omega | decide | (have ka0 := (by decide +kernel : (0 : Int32).toInt = 0); omega)) (by first | omega | decide | (have ka0 := (by decide +kernel : (0 : Int32).toInt = 0); omega)) (by first | omega | decide | (have ka0 := (by decide +kernel : (0 : Int32).toInt = 0); omega)) (by first | omega | decide | (have ka0 := (by decide +kernel : (0 : Int32).toInt = 0); omega)) (by first | omega | decide | (have ka0 := (by decide +kernel : (0 : Int32).toInt = 0); omega)) (j_fuel _) (by omega) hI hP hD hS (lv_sub hl_2 [2, 3, 1, 0] rfl)
def Q_r016_X9_hand (dC : Nat → ClassId) (dI : Nat → Nat → Nat) (cI cJ cII cJJ : ClassId) (ad : Nat → Nat) (f9_size f9_equations f9_areSteps f9_foundMany f9_many f9_rank f9_freeMany f9_arePlans f9_planMany : Int32) (al : Nat → Nat → Int64) : (Nat → Prop) → Array Value → State → Outcome → State → Prop := fun A => QI (fun r t => ∃ (n_ai : Nat → Nat → Int32), (IAM n_ai) ∧ WO dC dI (TY cI cJ cII cJJ) (WM cI cJ cII cJJ ad f9_size f9_equations f9_areSteps f9_foundMany f9_many f9_rank f9_freeMany f9_arePlans f9_planMany n_ai al) A t) A
set_option maxRecDepth 100000 in
set_option maxHeartbeats 4000000 in
theorem r016_X9_hand_b52 {p : Program} {l : Launch} {e : Env} {s : State} {m : MethodId} {args : Array Value} {below : List Frame} {meth : Method} {c : Code} {A : Nat → Prop} {dC : Nat → ClassId} {dI : Nat → Nat → Nat} {cI cJ cII cJJ : ClassId} {ad : Nat → Nat} {g : Nat} {f9_size f9_equations f9_areSteps f9_foundMany f9_many f9_rank f9_freeMany f9_arePlans f9_planMany : Int32} {al : Nat → Nat → Int64} (C : Cx p c s m meth args A dC dI (TY cI cJ cII cJJ) cX9_hand (some .int) 4 RX9 0 g) : ∀ (L1 L2 S0 : Int32) (ai : Nat → Nat → Int32) (H : Heap) (locs : List Loc) (ls : Array Slot), (0 ≤ L1.toInt ∧ L1.toInt ≤ 3) → (4 ≤ S0.toInt ∧ S0.toInt ≤ 6) → (1 ≤ f9_size.toInt ∧ f9_size.toInt ≤ 4) → (0 ≤ f9_equations.toInt ∧ f9_equations.toInt ≤ 3) → (0 ≤ f9_areSteps.toInt ∧ f9_areSteps.toInt ≤ 1) → (0 ≤ f9_foundMany.toInt ∧ f9_foundMany.toInt ≤ 99999) → (0 ≤ f9_many.toInt ∧ f9_many.toInt ≤ 6000) → (0 ≤ f9_rank.toInt ∧ f9_rank.toInt ≤ 3) → (0 ≤ f9_freeMany.toInt ∧ f9_freeMany.toInt ≤ 4) → (0 ≤ f9_arePlans.toInt ∧ f9_arePlans.toInt ≤ 1) → (0 ≤ f9_planMany.toInt ∧ f9_planMany.toInt ≤ 194481) → IAM ai → va_P (dC, dI) vwCl (WM cI cJ cII cJJ ad f9_size f9_equations f9_areSteps f9_foundMany f9_many f9_rank f9_freeMany f9_arePlans f9_planMany ai al) H → va_D A (WM cI cJ cII cJJ ad f9_size f9_equations f9_areSteps f9_foundMany f9_many f9_rank f9_freeMany f9_arePlans f9_planMany ai al) → va_S A s.heap H locs → lv_has ls 4 [(0, .ref (ad 22)), (1, .int L1), (2, .int L2)] → W p l e ({ frames := 3, cells := 0, slots := 0, locals := 140 } : Room) s m args below meth c H locs 0 0 (MQ below (Q_r016_X9_hand dC dI cI cJ cII cJJ ad f9_size f9_equations f9_areSteps f9_foundMany f9_many f9_rank f9_freeMany f9_arePlans f9_planMany al A) args s 0 0 A) (F0 m 52 ls [.int S0, .ref (ad 2)]) := by
  obtain ⟨hx, hb, hr, hml, hown, hts, hk, hA, hK, hX⟩ := id C
  intro L1 L2 S0 ai H locs ls h0 h1 h2 h3 h4 h5 h6 h7 h8 h9 h10 hI hP hD hS hl
  have ra_L2 := s_any L2
  refine lv_dup2_11 hx hb dX9_hand_52 rfl rfl ?_
  refine va_iald hx hb hK hP 2 0 rfl rfl (j_in (a := S0.toInt) rfl (by omega) (by omega)) dX9_hand_53 ?_
  refine lv_topi (fun z1 e_z1 => ?_)
  refine lv_iconst (v := 1) hx hb dX9_hand_54 (by decide) ?_
  refine v_iadd hx hb dX9_hand_55 _ rfl ?_
  refine lv_topi (fun z2 e_z2 => ?_)
  refine va_iast hx hb hK hP hD hS 2 0 rfl rfl (j_in (a := S0.toInt) rfl (by omega) (by omega)) dX9_hand_56 (fun H_1 locs_1 hP_1 hD_1 hS_1 => ?_)
  obtain ⟨ai3, e_ai3⟩ : ∃ q : Nat → Nat → Int32, q = va_up ai 2 (upd (ai 2) S0.toNatClampNeg z2) := ⟨_, rfl⟩
  have hI_2 : IAM ai3 := by rw [e_ai3]; exact hI
  have hP_3 : va_P (dC, dI) vwCl (WM cI cJ cII cJJ ad f9_size f9_equations f9_areSteps f9_foundMany f9_many f9_rank f9_freeMany f9_arePlans f9_planMany ai3 al) H_1 := by rw [e_ai3]; exact hP_1
  have hD_4 : va_D A (WM cI cJ cII cJJ ad f9_size f9_equations f9_areSteps f9_foundMany f9_many f9_rank f9_freeMany f9_arePlans f9_planMany ai3 al) := by rw [e_ai3]; exact hD_1
  refine lv_ldc (v := (-99999)) hx hb hown (hts _ k_1014) dX9_hand_57 ?_
  exact r2_i hx hb hr hk hS_1 dX9_hand_59 (fun t ht hW => ⟨ai3, hI_2, by rw [ht]; exact hP_3, va_K.moved hW.alike hK, hD_4⟩)
set_option maxRecDepth 100000 in
set_option maxHeartbeats 4000000 in
theorem r016_X9_hand_b38 {p : Program} {l : Launch} {e : Env} {s : State} {m : MethodId} {args : Array Value} {below : List Frame} {meth : Method} {c : Code} {A : Nat → Prop} {dC : Nat → ClassId} {dI : Nat → Nat → Nat} {cI cJ cII cJJ : ClassId} {ad : Nat → Nat} {g : Nat} {f9_size f9_equations f9_areSteps f9_foundMany f9_many f9_rank f9_freeMany f9_arePlans f9_planMany : Int32} {al : Nat → Nat → Int64} (C : Cx p c s m meth args A dC dI (TY cI cJ cII cJJ) cX9_hand (some .int) 4 RX9 0 g) : ∀ (L1 L2 : Int32) (ai : Nat → Nat → Int32) (H : Heap) (locs : List Loc) (ls : Array Slot), (0 ≤ L1.toInt ∧ L1.toInt ≤ 3) → (1 ≤ f9_size.toInt ∧ f9_size.toInt ≤ 4) → (0 ≤ f9_equations.toInt ∧ f9_equations.toInt ≤ 3) → (0 ≤ f9_areSteps.toInt ∧ f9_areSteps.toInt ≤ 1) → (0 ≤ f9_foundMany.toInt ∧ f9_foundMany.toInt ≤ 99999) → (0 ≤ f9_many.toInt ∧ f9_many.toInt ≤ 6000) → (0 ≤ f9_rank.toInt ∧ f9_rank.toInt ≤ 3) → (0 ≤ f9_freeMany.toInt ∧ f9_freeMany.toInt ≤ 4) → (0 ≤ f9_arePlans.toInt ∧ f9_arePlans.toInt ≤ 1) → (0 ≤ f9_planMany.toInt ∧ f9_planMany.toInt ≤ 194481) → IAM ai → va_P (dC, dI) vwCl (WM cI cJ cII cJJ ad f9_size f9_equations f9_areSteps f9_foundMany f9_many f9_rank f9_freeMany f9_arePlans f9_planMany ai al) H → va_D A (WM cI cJ cII cJJ ad f9_size f9_equations f9_areSteps f9_foundMany f9_many f9_rank f9_freeMany f9_arePlans f9_planMany ai al) → va_S A s.heap H locs → lv_has ls 4 [(0, .ref (ad 22)), (1, .int L1), (2, .int L2)] → W p l e ({ frames := 3, cells := 0, slots := 0, locals := 140 } : Room) s m args below meth c H locs 0 0 (MQ below (Q_r016_X9_hand dC dI cI cJ cII cJJ ad f9_size f9_equations f9_areSteps f9_foundMany f9_many f9_rank f9_freeMany f9_arePlans f9_planMany al A) args s 0 0 A) (F0 m 38 ls []) := by
  obtain ⟨hx, hb, hr, hml, hown, hts, hk, hA, hK, hX⟩ := id C
  intro L1 L2 ai H locs ls h0 h1 h2 h3 h4 h5 h6 h7 h8 h9 hI hP hD hS hl
  have ra_L2 := s_any L2
  refine lv_aload_n hx hb dX9_hand_38 rfl (lv_at hl 0 rfl) ?_
  refine gf (k := 7) hx hb hts inX9 hown hK hP k_802 rfl (by decide) rfl 22 rfl (.ref (ad 2)) rfl dX9_hand_39 ?_
  refine lv_iload_n hx hb dX9_hand_42 rfl (lv_at hl 2 rfl) ?_
  refine lv_if_ge (tgt := 50) hx hb dX9_hand_43 (by decide) (fun c1 => ?_) (fun c1 => ?_)
  · have c1 := j_le (a := 0) (b := L2.toInt) (by decide +kernel) rfl c1
    refine lv_bipush (v := 6) hx hb dX9_hand_50 (by decide) ?_
    exact r016_X9_hand_b52 C  L1 L2 6 ai _ _ _ (by first | omega | decide | (have ka0 := (by decide +kernel : (6 : Int32).toInt = 6); omega)) (by first | omega | decide | (have ka0 := (by decide +kernel : (6 : Int32).toInt = 6); omega)) (by first | omega | decide | (have ka0 := (by decide +kernel : (6 : Int32).toInt = 6); omega)) (by first | omega | decide | (have ka0 := (by decide +kernel : (6 : Int32).toInt = 6); omega)) (by first | omega | decide | (have ka0 := (by decide +kernel : (6 : Int32).toInt = 6); omega)) (by first | omega | decide | (have ka0 := (by decide +kernel : (6 : Int32).toInt = 6); omega)) (by first | omega | decide | (have ka0 := (by decide +kernel : (6 : Int32).toInt = 6); omega)) (by first | omega | decide | (have ka0 := (by decide +kernel : (6 : Int32).toInt = 6); omega)) (by first | omega | decide | (have ka0 := (by decide +kernel : (6 : Int32).toInt = 6); omega)) (by first | omega | decide | (have ka0 := (by decide +kernel : (6 : Int32).toInt = 6); omega)) (by first | omega | decide | (have ka0 := (by decide +kernel : (6 : Int32).toInt = 6); omega)) hI hP hD hS (lv_sub hl [0, 1, 2] rfl)
  · have c1 := j_nle (a := 0) (b := L2.toInt) (by decide +kernel) rfl c1
    refine lv_iconst (v := 4) hx hb dX9_hand_46 (by decide) ?_
    refine lv_goto (tgt := 52) hx hb dX9_hand_47 (by decide) ?_
    exact r016_X9_hand_b52 C  L1 L2 4 ai _ _ _ (by first | omega | decide | (have ka0 := (by decide +kernel : (4 : Int32).toInt = 4); omega)) (by first | omega | decide | (have ka0 := (by decide +kernel : (4 : Int32).toInt = 4); omega)) (by first | omega | decide | (have ka0 := (by decide +kernel : (4 : Int32).toInt = 4); omega)) (by first | omega | decide | (have ka0 := (by decide +kernel : (4 : Int32).toInt = 4); omega)) (by first | omega | decide | (have ka0 := (by decide +kernel : (4 : Int32).toInt = 4); omega)) (by first | omega | decide | (have ka0 := (by decide +kernel : (4 : Int32).toInt = 4); omega)) (by first | omega | decide | (have ka0 := (by decide +kernel : (4 : Int32).toInt = 4); omega)) (by first | omega | decide | (have ka0 := (by decide +kernel : (4 : Int32).toInt = 4); omega)) (by first | omega | decide | (have ka0 := (by decide +kernel : (4 : Int32).toInt = 4); omega)) (by first | omega | decide | (have ka0 := (by decide +kernel : (4 : Int32).toInt = 4); omega)) (by first | omega | decide | (have ka0 := (by decide +kernel : (4 : Int32).toInt = 4); omega)) hI hP hD hS (lv_sub hl [0, 1, 2] rfl)
set_option maxRecDepth 100000 in
set_option maxHeartbeats 4000000 in
theorem r016_X9_hand (l : Launch) (dC : Nat → ClassId) (dI : Nat → Nat → Nat) (cI cJ cII cJJ : ClassId) (sz g : Nat) (ad : Nat → Nat) (f9_size f9_equations f9_areSteps f9_foundMany f9_many f9_rank f9_freeMany f9_arePlans f9_planMany : Int32) (ai : Nat → Nat → Int32) (al : Nat → Nat → Int64) (x1 : Int32) (x2 : Int32) (h_f9_size : (1 ≤ f9_size.toInt ∧ f9_size.toInt ≤ 4)) (h_f9_equations : (0 ≤ f9_equations.toInt ∧ f9_equations.toInt ≤ 3)) (h_f9_areSteps : (0 ≤ f9_areSteps.toInt ∧ f9_areSteps.toInt ≤ 1)) (h_f9_foundMany : (0 ≤ f9_foundMany.toInt ∧ f9_foundMany.toInt ≤ 99999)) (h_f9_many : (0 ≤ f9_many.toInt ∧ f9_many.toInt ≤ 6000)) (h_f9_rank : (0 ≤ f9_rank.toInt ∧ f9_rank.toInt ≤ 3)) (h_f9_freeMany : (0 ≤ f9_freeMany.toInt ∧ f9_freeMany.toInt ≤ 4)) (h_f9_arePlans : (0 ≤ f9_arePlans.toInt ∧ f9_arePlans.toInt ≤ 1)) (h_f9_planMany : (0 ≤ f9_planMany.toInt ∧ f9_planMany.toInt ≤ 194481)) (hI : IAM ai) : Met l yX9_hand (.code yX9_hand cX9_hand 4 (some .int) :: TT) ({ frames := 3, cells := 0, slots := 0, locals := 140 } : Room) (PcS dC dI (TY cI cJ cII cJJ) [.ref (ad 22), .int x1, .int x2] (WM cI cJ cII cJJ ad f9_size f9_equations f9_areSteps f9_foundMany f9_many f9_rank f9_freeMany f9_arePlans f9_planMany ai al) sz 0 g) (Q_r016_X9_hand dC dI cI cJ cII cJJ ad f9_size f9_equations f9_areSteps f9_foundMany f9_many f9_rank f9_freeMany f9_arePlans f9_planMany al (va_A (WM cI cJ cII cJJ ad f9_size f9_equations f9_areSteps f9_foundMany f9_many f9_rank f9_freeMany f9_arePlans f9_planMany ai al) sz)) 0 0 (va_A (WM cI cJ cII cJJ ad f9_size f9_equations f9_areSteps f9_foundMany f9_many f9_rank f9_freeMany f9_arePlans f9_planMany ai al) sz) := by
  refine SM.of (y := yX9_hand) (maxL := 4) (av := [.ref (ad 22), .int x1, .int x2]) (Q_r016_X9_hand dC dI cI cJ cII cJJ ad f9_size f9_equations f9_areSteps f9_foundMany f9_many f9_rank f9_freeMany f9_arePlans f9_planMany al) (by decide +kernel) (Nat.le_of_ble_eq_true rfl) (fun p e s m below meth c A ls hx hb hr hml hown hts hk hnm hA hK hP hD hS hX hl => ?_)
  have C : Cx p c s m meth (([.ref (ad 22), .int x1, .int x2] : List Value).toArray) A dC dI (TY cI cJ cII cJJ) cX9_hand (some .int) 4 RX9 0 g := ⟨hx, hb, hr, hml, hown, hts, hk, hA, hK, hX⟩
  have hown : s.vm.findClass RX9 = some m.cls := hown
  have hl : lv_has ls 4 [(0, .ref (ad 22)), (1, .int x1), (2, .int x2)] := hl
  obtain ⟨H, hH⟩ : ∃ q, q = s.heap := ⟨_, rfl⟩
  rw [← hH] at hP
  have hS : va_S A s.heap H [] := by rw [hH]; exact hS
  rw [← hH]
  have ra_x1 := s_any x1
  have ra_x2 := s_any x2
  refine lv_iload_n hx hb dX9_hand_0 rfl (lv_at hl 1 rfl) ?_
  refine lv_aload_n hx hb dX9_hand_1 rfl (lv_at hl 0 rfl) ?_
  refine gf (k := 12) hx hb hts inX9 hown hK hP k_807 rfl (by decide) rfl 22 rfl (.int f9_size) rfl dX9_hand_2 ?_
  have hM := r001_X9_isIn l dC dI cI cJ cII cJJ H.size 0 ad f9_size f9_equations f9_areSteps f9_foundMany f9_many f9_rank f9_freeMany f9_arePlans f9_planMany ai al x1 f9_size (by omega) (by omega) (by omega) (by omega) (by omega) (by omega) (by omega) (by omega) (by omega) hI
  refine k2S_i ⟨hx, hb, hml, hown, hts⟩ hK hP hD hS hA hX cs_RX9_116 hM ⟨by decide +kernel, by decide +kernel⟩ rfl rfl (Or.inl rfl) (rest := []) rfl hl.1 rfl (Nat.le_of_ble_eq_true rfl) dX9_hand_5 ⟨Nat.le_of_ble_eq_true rfl, Nat.le_of_ble_eq_true rfl⟩ (fun r1 t H1 locs_1 ht hB hS_1 hFc => ?_)
  obtain ⟨⟨gpr1_0, gpr1_1⟩, hP_2, -, hD_2⟩ := hB
  rw [ht] at hP_2
  have hD_3 := hD_2.weaken (B := A) (fun k q _ h9 => hFc q.1 h9)
  clear ht
  generalize H1 = H_4 at hP_2 hS_1 ⊢
  refine lv_if_ne (tgt := 24) hx hb dX9_hand_8 (by decide) (fun c2 => ?_) (fun c2 => ?_)
  · have c2 := j_ne (a := r1.toInt) (b := 0) rfl (by decide +kernel) c2
    refine lv_iload_n hx hb dX9_hand_24 rfl (lv_at hl 2 rfl) ?_
    refine lv_sipush (v := (-10000)) hx hb dX9_hand_25 (by decide) ?_
    refine lv_icmp_lt (tgt := 38) hx hb dX9_hand_28 (by decide) (fun c3 => ?_) (fun c3 => ?_)
    · have c3 := j_lt (a := x2.toInt) (b := (-10000)) rfl (by decide +kernel) c3
      exact r016_X9_hand_b38 C  x1 x2 ai _ _ _ (by omega) (by omega) (by omega) (by omega) (by omega) (by omega) (by omega) (by omega) (by omega) (by omega) hI hP_2 hD_3 hS_1 (lv_sub hl [0, 1, 2] rfl)
    · have c3 := j_nlt (a := x2.toInt) (b := (-10000)) rfl (by decide +kernel) c3
      refine lv_iload_n hx hb dX9_hand_31 rfl (lv_at hl 2 rfl) ?_
      refine lv_sipush (v := 10000) hx hb dX9_hand_32 (by decide) ?_
      refine lv_icmp_le (tgt := 60) hx hb dX9_hand_35 (by decide) (fun c4 => ?_) (fun c4 => ?_)
      · have c4 := j_le (a := x2.toInt) (b := 10000) rfl (by decide +kernel) c4
        refine lv_aload_n hx hb dX9_hand_60 rfl (lv_at hl 0 rfl) ?_
        refine gf (k := 6) hx hb hts inX9 hown hK hP_2 k_801 rfl (by decide) rfl 22 rfl (.ref (ad 27)) rfl dX9_hand_61 ?_
        refine lv_iload_n hx hb dX9_hand_64 rfl (lv_at hl 1 rfl) ?_
        refine va_iald hx hb hK hP_2 27 0 rfl rfl (j_in (a := x1.toInt) rfl (by omega) (by omega)) dX9_hand_65 ?_
        refine lv_topi (fun z5 e_z5 => ?_)
        refine lv_istore_n (lv' := [(3, .int z5), (0, .ref (ad 22)), (1, .int x1), (2, .int x2)]) hx hb dX9_hand_66 rfl hl (by decide) rfl (fun ls_5 hl_5 => ?_)
        refine lv_aload_n hx hb dX9_hand_67 rfl (lv_at hl_5 1 rfl) ?_
        refine gf (k := 6) hx hb hts inX9 hown hK hP_2 k_801 rfl (by decide) rfl 22 rfl (.ref (ad 27)) rfl dX9_hand_68 ?_
        refine lv_iload_n hx hb dX9_hand_71 rfl (lv_at hl_5 2 rfl) ?_
        refine lv_iload_n hx hb dX9_hand_72 rfl (lv_at hl_5 3 rfl) ?_
        refine va_iast hx hb hK hP_2 hD_3 hS_1 27 0 rfl rfl (j_in (a := x1.toInt) rfl (by omega) (by omega)) dX9_hand_73 (fun H_6 locs_6 hP_6 hD_6 hS_6 => ?_)
        obtain ⟨ai6, e_ai6⟩ : ∃ q : Nat → Nat → Int32, q = va_up ai 27 (upd (ai 27) x1.toNatClampNeg x2) := ⟨_, rfl⟩
        have hI_7 : IAM ai6 := by rw [e_ai6]; exact hI
        have hP_8 : va_P (dC, dI) vwCl (WM cI cJ cII cJJ ad f9_size f9_equations f9_areSteps f9_foundMany f9_many f9_rank f9_freeMany f9_arePlans f9_planMany ai6 al) H_6 := by rw [e_ai6]; exact hP_6
        have hD_9 : va_D A (WM cI cJ cII cJJ ad f9_size f9_equations f9_areSteps f9_foundMany f9_many f9_rank f9_freeMany f9_arePlans f9_planMany ai6 al) := by rw [e_ai6]; exact hD_6
        refine lv_iload_n hx hb dX9_hand_74 rfl (lv_at hl_5 0 rfl) ?_
        exact r2_i hx hb hr hk hS_6 dX9_hand_75 (fun t ht hW => ⟨ai6, hI_7, by rw [ht]; exact hP_8, va_K.moved hW.alike hK, hD_9⟩)
      · have c4 := j_nle (a := x2.toInt) (b := 10000) rfl (by decide +kernel) c4
        exact r016_X9_hand_b38 C  x1 x2 ai _ _ _ (by omega) (by omega) (by omega) (by omega) (by omega) (by omega) (by omega) (by omega) (by omega) (by omega) hI hP_2 hD_3 hS_1 (lv_sub hl [0, 1, 2] rfl)
  · have c2 := j_eq (a := r1.toInt) (b := 0) rfl (by decide +kernel) c2
    refine lv_aload_n hx hb dX9_hand_11 rfl (lv_at hl 0 rfl) ?_
    refine gf (k := 7) hx hb hts inX9 hown hK hP_2 k_802 rfl (by decide) rfl 22 rfl (.ref (ad 2)) rfl dX9_hand_12 ?_
    refine lv_iconst (v := 1) hx hb dX9_hand_15 (by decide) ?_
    refine lv_dup2_11 hx hb dX9_hand_16 rfl rfl ?_
    refine va_iald hx hb hK hP_2 2 0 rfl rfl (vin (by decide +kernel)) dX9_hand_17 ?_
    refine lv_topi (fun z7 e_z7 => ?_)
    have k_z7 : z7.toInt = (ai 2 1).toInt := by rw [e_z7]; rfl
    refine lv_iconst (v := 1) hx hb dX9_hand_18 (by decide) ?_
    refine v_iadd hx hb dX9_hand_19 _ rfl ?_
    refine lv_topi (fun z8 e_z8 => ?_)
    refine va_iast hx hb hK hP_2 hD_3 hS_1 2 0 rfl rfl (vin (by decide +kernel)) dX9_hand_20 (fun H_10 locs_10 hP_10 hD_10 hS_10 => ?_)
    obtain ⟨ai9, e_ai9⟩ : ∃ q : Nat → Nat → Int32, q = va_up ai 2 (upd (ai 2) (1 : Int32).toNatClampNeg z8) := ⟨_, rfl⟩
    have hI_11 : IAM ai9 := by rw [e_ai9]; exact hI
    have hP_12 : va_P (dC, dI) vwCl (WM cI cJ cII cJJ ad f9_size f9_equations f9_areSteps f9_foundMany f9_many f9_rank f9_freeMany f9_arePlans f9_planMany ai9 al) H_10 := by rw [e_ai9]; exact hP_10
    have hD_13 : va_D A (WM cI cJ cII cJJ ad f9_size f9_equations f9_areSteps f9_foundMany f9_many f9_rank f9_freeMany f9_arePlans f9_planMany ai9 al) := by rw [e_ai9]; exact hD_10
    refine lv_ldc (v := (-99999)) hx hb hown (hts _ k_1014) dX9_hand_21 ?_
    exact r2_i hx hb hr hk hS_10 dX9_hand_23 (fun t ht hW => ⟨ai9, hI_11, by rw [ht]; exact hP_12, va_K.moved hW.alike hK, hD_13⟩)
def Q_r017_X9_has (dC : Nat → ClassId) (dI : Nat → Nat → Nat) (cI cJ cII cJJ : ClassId) (ad : Nat → Nat) (f9_size f9_equations f9_areSteps f9_foundMany f9_many f9_rank f9_freeMany f9_arePlans f9_planMany : Int32) (ai : Nat → Nat → Int32) (al : Nat → Nat → Int64) : (Nat → Prop) → Array Value → State → Outcome → State → Prop := fun A => QI (fun r t => (True) ∧ WO dC dI (TY cI cJ cII cJJ) (WM cI cJ cII cJJ ad f9_size f9_equations f9_areSteps f9_foundMany f9_many f9_rank f9_freeMany f9_arePlans f9_planMany ai al) A t) A
set_option maxRecDepth 100000 in
set_option maxHeartbeats 4000000 in
theorem r017_X9_has (l : Launch) (dC : Nat → ClassId) (dI : Nat → Nat → Nat) (cI cJ cII cJJ : ClassId) (sz g : Nat) (ad : Nat → Nat) (f9_size f9_equations f9_areSteps f9_foundMany f9_many f9_rank f9_freeMany f9_arePlans f9_planMany : Int32) (ai : Nat → Nat → Int32) (al : Nat → Nat → Int64) (x1 : Int32) (h_f9_size : (1 ≤ f9_size.toInt ∧ f9_size.toInt ≤ 4)) (h_f9_equations : (0 ≤ f9_equations.toInt ∧ f9_equations.toInt ≤ 3)) (h_f9_areSteps : (0 ≤ f9_areSteps.toInt ∧ f9_areSteps.toInt ≤ 1)) (h_f9_foundMany : (0 ≤ f9_foundMany.toInt ∧ f9_foundMany.toInt ≤ 99999)) (h_f9_many : (0 ≤ f9_many.toInt ∧ f9_many.toInt ≤ 6000)) (h_f9_rank : (0 ≤ f9_rank.toInt ∧ f9_rank.toInt ≤ 3)) (h_f9_freeMany : (0 ≤ f9_freeMany.toInt ∧ f9_freeMany.toInt ≤ 4)) (h_f9_arePlans : (0 ≤ f9_arePlans.toInt ∧ f9_arePlans.toInt ≤ 1)) (h_f9_planMany : (0 ≤ f9_planMany.toInt ∧ f9_planMany.toInt ≤ 194481)) (hI : IAM ai) : Met l yX9_has (.code yX9_has cX9_has 2 (some .int) :: TT) ({ frames := 3, cells := 0, slots := 0, locals := 140 } : Room) (PcS dC dI (TY cI cJ cII cJJ) [.ref (ad 22), .int x1] (WM cI cJ cII cJJ ad f9_size f9_equations f9_areSteps f9_foundMany f9_many f9_rank f9_freeMany f9_arePlans f9_planMany ai al) sz 0 g) (Q_r017_X9_has dC dI cI cJ cII cJJ ad f9_size f9_equations f9_areSteps f9_foundMany f9_many f9_rank f9_freeMany f9_arePlans f9_planMany ai al (va_A (WM cI cJ cII cJJ ad f9_size f9_equations f9_areSteps f9_foundMany f9_many f9_rank f9_freeMany f9_arePlans f9_planMany ai al) sz)) 0 0 (va_A (WM cI cJ cII cJJ ad f9_size f9_equations f9_areSteps f9_foundMany f9_many f9_rank f9_freeMany f9_arePlans f9_planMany ai al) sz) := by
  refine SM.of (y := yX9_has) (maxL := 2) (av := [.ref (ad 22), .int x1]) (Q_r017_X9_has dC dI cI cJ cII cJJ ad f9_size f9_equations f9_areSteps f9_foundMany f9_many f9_rank f9_freeMany f9_arePlans f9_planMany ai al) (by decide +kernel) (Nat.le_of_ble_eq_true rfl) (fun p e s m below meth c A ls hx hb hr hml hown hts hk hnm hA hK hP hD hS hX hl => ?_)
  have C : Cx p c s m meth (([.ref (ad 22), .int x1] : List Value).toArray) A dC dI (TY cI cJ cII cJJ) cX9_has (some .int) 2 RX9 0 g := ⟨hx, hb, hr, hml, hown, hts, hk, hA, hK, hX⟩
  have hown : s.vm.findClass RX9 = some m.cls := hown
  have hl : lv_has ls 2 [(0, .ref (ad 22)), (1, .int x1)] := hl
  obtain ⟨H, hH⟩ : ∃ q, q = s.heap := ⟨_, rfl⟩
  rw [← hH] at hP
  have hS : va_S A s.heap H [] := by rw [hH]; exact hS
  rw [← hH]
  have ra_x1 := s_any x1
  refine lv_iload_n hx hb dX9_has_0 rfl (lv_at hl 1 rfl) ?_
  refine lv_aload_n hx hb dX9_has_1 rfl (lv_at hl 0 rfl) ?_
  refine gf (k := 12) hx hb hts inX9 hown hK hP k_807 rfl (by decide) rfl 22 rfl (.int f9_size) rfl dX9_has_2 ?_
  have hM := r001_X9_isIn l dC dI cI cJ cII cJJ H.size 0 ad f9_size f9_equations f9_areSteps f9_foundMany f9_many f9_rank f9_freeMany f9_arePlans f9_planMany ai al x1 f9_size (by omega) (by omega) (by omega) (by omega) (by omega) (by omega) (by omega) (by omega) (by omega) hI
  refine k2S_i ⟨hx, hb, hml, hown, hts⟩ hK hP hD hS hA hX cs_RX9_116 hM ⟨by decide +kernel, by decide +kernel⟩ rfl rfl (Or.inl rfl) (rest := []) rfl hl.1 rfl (Nat.le_of_ble_eq_true rfl) dX9_has_5 ⟨Nat.le_of_ble_eq_true rfl, Nat.le_of_ble_eq_true rfl⟩ (fun r1 t H1 locs_1 ht hB hS_1 hFc => ?_)
  obtain ⟨⟨gpr1_0, gpr1_1⟩, hP_2, -, hD_2⟩ := hB
  rw [ht] at hP_2
  have hD_3 := hD_2.weaken (B := A) (fun k q _ h9 => hFc q.1 h9)
  clear ht
  generalize H1 = H_4 at hP_2 hS_1 ⊢
  refine lv_if_eq (tgt := 20) hx hb dX9_has_8 (by decide) (fun c2 => ?_) (fun c2 => ?_)
  · have c2 := j_eq (a := r1.toInt) (b := 0) rfl (by decide +kernel) c2
    refine lv_ldc (v := (-99999)) hx hb hown (hts _ k_1014) dX9_has_20 ?_
    exact r2_i hx hb hr hk hS_1 dX9_has_22 (fun t ht hW => ⟨trivial, by rw [ht]; exact hP_2, va_K.moved hW.alike hK, hD_3⟩)
  · have c2 := j_ne (a := r1.toInt) (b := 0) rfl (by decide +kernel) c2
    refine lv_aload_n hx hb dX9_has_11 rfl (lv_at hl 0 rfl) ?_
    refine gf (k := 6) hx hb hts inX9 hown hK hP_2 k_801 rfl (by decide) rfl 22 rfl (.ref (ad 27)) rfl dX9_has_12 ?_
    refine lv_iload_n hx hb dX9_has_15 rfl (lv_at hl 1 rfl) ?_
    refine va_iald hx hb hK hP_2 27 0 rfl rfl (j_in (a := x1.toInt) rfl (by omega) (by omega)) dX9_has_16 ?_
    refine lv_topi (fun z3 e_z3 => ?_)
    refine lv_goto (tgt := 22) hx hb dX9_has_17 (by decide) ?_
    exact r2_i hx hb hr hk hS_1 dX9_has_22 (fun t ht hW => ⟨trivial, by rw [ht]; exact hP_2, va_K.moved hW.alike hK, hD_3⟩)
def Q_r018_X9_sum (dC : Nat → ClassId) (dI : Nat → Nat → Nat) (cI cJ cII cJJ : ClassId) (ad : Nat → Nat) (f9_size f9_equations f9_areSteps f9_foundMany f9_many f9_rank f9_freeMany f9_arePlans f9_planMany : Int32) (ai : Nat → Nat → Int32) (al : Nat → Nat → Int64) : (Nat → Prop) → Array Value → State → Outcome → State → Prop := fun A => QI (fun r t => (True) ∧ WO dC dI (TY cI cJ cII cJJ) (WM cI cJ cII cJJ ad f9_size f9_equations f9_areSteps f9_foundMany f9_many f9_rank f9_freeMany f9_arePlans f9_planMany ai al) A t) A
set_option maxRecDepth 100000 in
set_option maxHeartbeats 4000000 in
theorem r018_X9_sum_b6 {p : Program} {l : Launch} {e : Env} {s : State} {m : MethodId} {args : Array Value} {below : List Frame} {meth : Method} {c : Code} {A : Nat → Prop} {dC : Nat → ClassId} {dI : Nat → Nat → Nat} {cI cJ cII cJJ : ClassId} {ad : Nat → Nat} {g : Nat} {f9_size f9_equations f9_areSteps f9_foundMany f9_many f9_rank f9_freeMany f9_arePlans f9_planMany : Int32} {ai : Nat → Nat → Int32} {al : Nat → Nat → Int64} (C : Cx p c s m meth args A dC dI (TY cI cJ cII cJJ) cX9_sum (some .int) 6 RX9 0 g) : ∀ (n : Nat), ∀ (L1 L4 L5 : Int32) (H : Heap) (locs : List Loc) (ls : Array Slot), (0 ≤ L1.toInt ∧ L1.toInt ≤ 2) → (0 ≤ L5.toInt ∧ L5.toInt ≤ 4) → (1 ≤ f9_size.toInt ∧ f9_size.toInt ≤ 4) → (0 ≤ f9_equations.toInt ∧ f9_equations.toInt ≤ 3) → (0 ≤ f9_areSteps.toInt ∧ f9_areSteps.toInt ≤ 1) → (0 ≤ f9_foundMany.toInt ∧ f9_foundMany.toInt ≤ 99999) → (0 ≤ f9_many.toInt ∧ f9_many.toInt ≤ 6000) → (0 ≤ f9_rank.toInt ∧ f9_rank.toInt ≤ 3) → (0 ≤ f9_freeMany.toInt ∧ f9_freeMany.toInt ≤ 4) → (0 ≤ f9_arePlans.toInt ∧ f9_arePlans.toInt ≤ 1) → (0 ≤ f9_planMany.toInt ∧ f9_planMany.toInt ≤ 194481) → f9_size.toInt - L5.toInt < (n : Int) → (0 : Int) < (n : Int) → IAM ai → va_P (dC, dI) vwCl (WM cI cJ cII cJJ ad f9_size f9_equations f9_areSteps f9_foundMany f9_many f9_rank f9_freeMany f9_arePlans f9_planMany ai al) H → va_D A (WM cI cJ cII cJJ ad f9_size f9_equations f9_areSteps f9_foundMany f9_many f9_rank f9_freeMany f9_arePlans f9_planMany ai al) → va_S A s.heap H locs → lv_has ls 6 [(0, .ref (ad 22)), (1, .int L1), (2, .ref (ad 27)), (3, .int 0), (4, .int L4), (5, .int L5)] → W p l e ({ frames := 2, cells := 0, slots := 0, locals := 80 } : Room) s m args below meth c H locs 0 0 (MQ below (Q_r018_X9_sum dC dI cI cJ cII cJJ ad f9_size f9_equations f9_areSteps f9_foundMany f9_many f9_rank f9_freeMany f9_arePlans f9_planMany ai al A) args s 0 0 A) (F0 m 6 ls []) := by
  obtain ⟨hx, hb, hr, hml, hown, hts, hk, hA, hK, hX⟩ := id C
  intro n
  induction n with
  | zero =>
    intro L1 L4 L5 H locs ls h0 h1 h2 h3 h4 h5 h6 h7 h8 h9 h10 h11 h12 hI hP hD hS hl
    exact absurd h12 (by omega)
  | succ n ih =>
    intro L1 L4 L5 H locs ls h0 h1 h2 h3 h4 h5 h6 h7 h8 h9 h10 h11 h12 hI hP hD hS hl
    have ra_L4 := s_any L4
    refine lv_iload hx hb dX9_sum_6 (lv_at hl 5 rfl) ?_
    refine lv_aload_n hx hb dX9_sum_8 rfl (lv_at hl 0 rfl) ?_
    refine gf (k := 12) hx hb hts inX9 hown hK hP k_807 rfl (by decide) rfl 22 rfl (.int f9_size) rfl dX9_sum_9 ?_
    refine lv_icmp_ge (tgt := 44) hx hb dX9_sum_12 (by decide) (fun c1 => ?_) (fun c1 => ?_)
    · have c1 := j_le (a := f9_size.toInt) (b := L5.toInt) rfl rfl c1
      refine lv_iload hx hb dX9_sum_44 (lv_at hl 4 rfl) ?_
      exact r2_i hx hb hr hk hS dX9_sum_46 (fun t ht hW => ⟨trivial, by rw [ht]; exact hP, va_K.moved hW.alike hK, hD⟩)
    · have c1 := j_nle (a := f9_size.toInt) (b := L5.toInt) rfl rfl c1
      refine lv_iload hx hb dX9_sum_15 (lv_at hl 4 rfl) ?_
      refine lv_aload_n hx hb dX9_sum_17 rfl (lv_at hl 0 rfl) ?_
      refine gf (k := 0) hx hb hts inX9 hown hK hP k_795 rfl (by decide) rfl 22 rfl (.ref (ad 0)) rfl dX9_sum_18 ?_
      refine lv_iconst (v := 4) hx hb dX9_sum_21 (by decide) ?_
      refine lv_iload_n hx hb dX9_sum_22 rfl (lv_at hl 1 rfl) ?_
      refine v_imul hx hb dX9_sum_23 _ rfl ?_
      refine lv_topi (fun z2 e_z2 => ?_)
      have g_z2 : z2.toInt = 4 * L1.toInt := by rw [e_z2]; exact n_mul (a := 4) (b := L1.toInt) (by decide +kernel) rfl (by omega) (by omega)
      refine lv_iload hx hb dX9_sum_24 (lv_at hl 5 rfl) ?_
      refine v_iadd hx hb dX9_sum_26 _ rfl ?_
      refine lv_topi (fun z3 e_z3 => ?_)
      have g_z3 : z3.toInt = z2.toInt + L5.toInt := by rw [e_z3]; exact n_add (a := z2.toInt) (b := L5.toInt) rfl rfl (by omega) (by omega)
      refine va_iald hx hb hK hP 0 0 rfl rfl (j_in (a := z3.toInt) rfl (by omega) (by omega)) dX9_sum_27 ?_
      refine lv_topi (fun z4 e_z4 => ?_)
      refine lv_aload_n hx hb dX9_sum_28 rfl (lv_at hl 2 rfl) ?_
      refine lv_iload_n hx hb dX9_sum_29 rfl (lv_at hl 3 rfl) ?_
      refine lv_iload hx hb dX9_sum_30 (lv_at hl 5 rfl) ?_
      refine v_iadd hx hb dX9_sum_32 _ rfl ?_
      refine lv_topi (fun z5 e_z5 => ?_)
      have g_z5 : z5.toInt = 0 + L5.toInt := by rw [e_z5]; exact n_add (a := 0) (b := L5.toInt) (by decide +kernel) rfl (by omega) (by omega)
      refine va_iald hx hb hK hP 27 0 rfl rfl (j_in (a := z5.toInt) rfl (by omega) (by omega)) dX9_sum_33 ?_
      refine lv_topi (fun z6 e_z6 => ?_)
      refine v_imul hx hb dX9_sum_34 _ rfl ?_
      refine lv_topi (fun z7 e_z7 => ?_)
      refine v_iadd hx hb dX9_sum_35 _ rfl ?_
      refine lv_topi (fun z8 e_z8 => ?_)
      refine lv_istore (lv' := [(4, .int z8), (0, .ref (ad 22)), (1, .int L1), (2, .ref (ad 27)), (3, .int 0), (5, .int L5)]) hx hb dX9_sum_36 hl (by decide) rfl (fun ls_1 hl_1 => ?_)
      obtain ⟨z9, e_z9⟩ : ∃ q : Int32, q = L5 + Int32.ofInt 1 := ⟨_, rfl⟩
      have g_z9 : z9.toInt = L5.toInt + 1 := by rw [e_z9]; exact n_add (a := L5.toInt) (b := 1) rfl (by decide +kernel) (by omega) (by omega)
      refine lv_iinc (v := z9) (lv' := [(5, .int z9), (4, .int z8), (0, .ref (ad 22)), (1, .int L1), (2, .ref (ad 27)), (3, .int 0)]) hx hb dX9_sum_38 hl_1 (k := 5) rfl e_z9.symm (by decide) rfl (fun ls_2 hl_2 => ?_)
      refine lv_goto (tgt := 6) hx hb dX9_sum_41 (by decide) ?_
      exact ih L1 z8 z9 _ _ _ (by omega) (by omega) (by omega) (by omega) (by omega) (by omega) (by omega) (by omega) (by omega) (by omega) (by omega) (by omega) (by omega) hI hP hD hS (lv_sub hl_2 [2, 3, 4, 5, 1, 0] rfl)
set_option maxRecDepth 100000 in
set_option maxHeartbeats 4000000 in
theorem r018_X9_sum (l : Launch) (dC : Nat → ClassId) (dI : Nat → Nat → Nat) (cI cJ cII cJJ : ClassId) (sz g : Nat) (ad : Nat → Nat) (f9_size f9_equations f9_areSteps f9_foundMany f9_many f9_rank f9_freeMany f9_arePlans f9_planMany : Int32) (ai : Nat → Nat → Int32) (al : Nat → Nat → Int64) (x1 : Int32) (h_x1 : (0 ≤ x1.toInt ∧ x1.toInt ≤ 2)) (h_f9_size : (1 ≤ f9_size.toInt ∧ f9_size.toInt ≤ 4)) (h_f9_equations : (0 ≤ f9_equations.toInt ∧ f9_equations.toInt ≤ 3)) (h_f9_areSteps : (0 ≤ f9_areSteps.toInt ∧ f9_areSteps.toInt ≤ 1)) (h_f9_foundMany : (0 ≤ f9_foundMany.toInt ∧ f9_foundMany.toInt ≤ 99999)) (h_f9_many : (0 ≤ f9_many.toInt ∧ f9_many.toInt ≤ 6000)) (h_f9_rank : (0 ≤ f9_rank.toInt ∧ f9_rank.toInt ≤ 3)) (h_f9_freeMany : (0 ≤ f9_freeMany.toInt ∧ f9_freeMany.toInt ≤ 4)) (h_f9_arePlans : (0 ≤ f9_arePlans.toInt ∧ f9_arePlans.toInt ≤ 1)) (h_f9_planMany : (0 ≤ f9_planMany.toInt ∧ f9_planMany.toInt ≤ 194481)) (hI : IAM ai) : Met l yX9_sum (.code yX9_sum cX9_sum 6 (some .int) :: TT) ({ frames := 2, cells := 0, slots := 0, locals := 80 } : Room) (PcS dC dI (TY cI cJ cII cJJ) [.ref (ad 22), .int x1, .ref (ad 27), .int 0] (WM cI cJ cII cJJ ad f9_size f9_equations f9_areSteps f9_foundMany f9_many f9_rank f9_freeMany f9_arePlans f9_planMany ai al) sz 0 g) (Q_r018_X9_sum dC dI cI cJ cII cJJ ad f9_size f9_equations f9_areSteps f9_foundMany f9_many f9_rank f9_freeMany f9_arePlans f9_planMany ai al (va_A (WM cI cJ cII cJJ ad f9_size f9_equations f9_areSteps f9_foundMany f9_many f9_rank f9_freeMany f9_arePlans f9_planMany ai al) sz)) 0 0 (va_A (WM cI cJ cII cJJ ad f9_size f9_equations f9_areSteps f9_foundMany f9_many f9_rank f9_freeMany f9_arePlans f9_planMany ai al) sz) := by
  refine SM.of (y := yX9_sum) (maxL := 6) (av := [.ref (ad 22), .int x1, .ref (ad 27), .int 0]) (Q_r018_X9_sum dC dI cI cJ cII cJJ ad f9_size f9_equations f9_areSteps f9_foundMany f9_many f9_rank f9_freeMany f9_arePlans f9_planMany ai al) (by decide +kernel) (Nat.le_of_ble_eq_true rfl) (fun p e s m below meth c A ls hx hb hr hml hown hts hk hnm hA hK hP hD hS hX hl => ?_)
  have C : Cx p c s m meth (([.ref (ad 22), .int x1, .ref (ad 27), .int 0] : List Value).toArray) A dC dI (TY cI cJ cII cJJ) cX9_sum (some .int) 6 RX9 0 g := ⟨hx, hb, hr, hml, hown, hts, hk, hA, hK, hX⟩
  have hown : s.vm.findClass RX9 = some m.cls := hown
  have hl : lv_has ls 6 [(0, .ref (ad 22)), (1, .int x1), (2, .ref (ad 27)), (3, .int 0)] := hl
  obtain ⟨H, hH⟩ : ∃ q, q = s.heap := ⟨_, rfl⟩
  rw [← hH] at hP
  have hS : va_S A s.heap H [] := by rw [hH]; exact hS
  rw [← hH]
  refine lv_iconst (v := 0) hx hb dX9_sum_0 (by decide) ?_
  refine lv_istore (lv' := [(4, .int 0), (0, .ref (ad 22)), (1, .int x1), (2, .ref (ad 27)), (3, .int 0)]) hx hb dX9_sum_1 hl (by decide) rfl (fun ls_1 hl_1 => ?_)
  refine lv_iconst (v := 0) hx hb dX9_sum_3 (by decide) ?_
  refine lv_istore (lv' := [(5, .int 0), (4, .int 0), (0, .ref (ad 22)), (1, .int x1), (2, .ref (ad 27)), (3, .int 0)]) hx hb dX9_sum_4 hl_1 (by decide) rfl (fun ls_2 hl_2 => ?_)
  exact r018_X9_sum_b6 C  _ x1 0 0 _ _ _ (by first | omega | decide | (have ka0 := (by decide +kernel : (0 : Int32).toInt = 0); omega)) (by first | omega | decide | (have ka0 := (by decide +kernel : (0 : Int32).toInt = 0); omega)) (by first | omega | decide | (have ka0 := (by decide +kernel : (0 : Int32).toInt = 0); omega)) (by first | omega | decide | (have ka0 := (by decide +kernel : (0 : Int32).toInt = 0); omega)) (by first | omega | decide | (have ka0 := (by decide +kernel : (0 : Int32).toInt = 0); omega)) (by first | omega | decide | (have ka0 := (by decide +kernel : (0 : Int32).toInt = 0); omega)) (by first | omega | decide | (have ka0 := (by decide +kernel : (0 : Int32).toInt = 0); omega)) (by first | omega | decide | (have ka0 := (by decide +kernel : (0 : Int32).toInt = 0); omega)) (by first | omega | decide | (have ka0 := (by decide +kernel : (0 : Int32).toInt = 0); omega)) (by first | omega | decide | (have ka0 := (by decide +kernel : (0 : Int32).toInt = 0); omega)) (by first | omega | decide | (have ka0 := (by decide +kernel : (0 : Int32).toInt = 0); omega)) (j_fuel _) (by omega) hI hP hD hS (lv_sub hl_2 [2, 3, 4, 5, 1, 0] rfl)
def Q_r019_X9_isStep (dC : Nat → ClassId) (dI : Nat → Nat → Nat) (cI cJ cII cJJ : ClassId) (ad : Nat → Nat) (f9_size f9_equations f9_areSteps f9_foundMany f9_many f9_rank f9_freeMany f9_arePlans f9_planMany : Int32) (ai : Nat → Nat → Int32) (al : Nat → Nat → Int64) : (Nat → Prop) → Array Value → State → Outcome → State → Prop := fun A => QI (fun r t => ((0 ≤ r.toInt ∧ r.toInt ≤ 1)) ∧ WO dC dI (TY cI cJ cII cJJ) (WM cI cJ cII cJJ ad f9_size f9_equations f9_areSteps f9_foundMany f9_many f9_rank f9_freeMany f9_arePlans f9_planMany ai al) A t) A
set_option maxRecDepth 100000 in
set_option maxHeartbeats 4000000 in
theorem r019_X9_isStep_b76 {p : Program} {l : Launch} {e : Env} {s : State} {m : MethodId} {args : Array Value} {below : List Frame} {meth : Method} {c : Code} {A : Nat → Prop} {dC : Nat → ClassId} {dI : Nat → Nat → Nat} {cI cJ cII cJJ : ClassId} {ad : Nat → Nat} {g : Nat} {f9_size f9_equations f9_areSteps f9_foundMany f9_many f9_rank f9_freeMany f9_arePlans f9_planMany : Int32} {ai : Nat → Nat → Int32} {al : Nat → Nat → Int64} (C : Cx p c s m meth args A dC dI (TY cI cJ cII cJJ) cX9_isStep (some .boolean) 3 RX9 0 g) : ∀ (L1 L2 : Int32) (H : Heap) (locs : List Loc) (ls : Array Slot), (0 ≤ L1.toInt ∧ L1.toInt ≤ 1) → (0 ≤ L2.toInt ∧ L2.toInt ≤ 3) → (1 ≤ f9_size.toInt ∧ f9_size.toInt ≤ 4) → (0 ≤ f9_equations.toInt ∧ f9_equations.toInt ≤ 3) → (0 ≤ f9_areSteps.toInt ∧ f9_areSteps.toInt ≤ 1) → (0 ≤ f9_foundMany.toInt ∧ f9_foundMany.toInt ≤ 99999) → (0 ≤ f9_many.toInt ∧ f9_many.toInt ≤ 6000) → (0 ≤ f9_rank.toInt ∧ f9_rank.toInt ≤ 3) → (0 ≤ f9_freeMany.toInt ∧ f9_freeMany.toInt ≤ 4) → (0 ≤ f9_arePlans.toInt ∧ f9_arePlans.toInt ≤ 1) → (0 ≤ f9_planMany.toInt ∧ f9_planMany.toInt ≤ 194481) → IAM ai → va_P (dC, dI) vwCl (WM cI cJ cII cJJ ad f9_size f9_equations f9_areSteps f9_foundMany f9_many f9_rank f9_freeMany f9_arePlans f9_planMany ai al) H → va_D A (WM cI cJ cII cJJ ad f9_size f9_equations f9_areSteps f9_foundMany f9_many f9_rank f9_freeMany f9_arePlans f9_planMany ai al) → va_S A s.heap H locs → lv_has ls 3 [(0, .ref (ad 22)), (1, .int L1), (2, .int L2)] → W p l e ({ frames := 3, cells := 0, slots := 0, locals := 140 } : Room) s m args below meth c H locs 0 0 (MQ below (Q_r019_X9_isStep dC dI cI cJ cII cJJ ad f9_size f9_equations f9_areSteps f9_foundMany f9_many f9_rank f9_freeMany f9_arePlans f9_planMany ai al A) args s 0 0 A) (F0 m 76 ls []) := by
  obtain ⟨hx, hb, hr, hml, hown, hts, hk, hA, hK, hX⟩ := id C
  intro L1 L2 H locs ls h0 h1 h2 h3 h4 h5 h6 h7 h8 h9 h10 hI hP hD hS hl
  refine lv_iload_n hx hb dX9_isStep_76 rfl (lv_at hl 1 rfl) ?_
  exact r2_z hx hb hr hk hS dX9_isStep_77 (nb_n (a := L1.toInt) rfl (by omega) (by omega)) (fun t ht hW => ⟨(by first | omega | decide | exact Or.inl (by decide) | exact Or.inr (by omega)), by rw [ht]; exact hP, va_K.moved hW.alike hK, hD⟩)
set_option maxRecDepth 100000 in
set_option maxHeartbeats 4000000 in
theorem r019_X9_isStep_b69 {p : Program} {l : Launch} {e : Env} {s : State} {m : MethodId} {args : Array Value} {below : List Frame} {meth : Method} {c : Code} {A : Nat → Prop} {dC : Nat → ClassId} {dI : Nat → Nat → Nat} {cI cJ cII cJJ : ClassId} {ad : Nat → Nat} {g : Nat} {f9_size f9_equations f9_areSteps f9_foundMany f9_many f9_rank f9_freeMany f9_arePlans f9_planMany : Int32} {ai : Nat → Nat → Int32} {al : Nat → Nat → Int64} (C : Cx p c s m meth args A dC dI (TY cI cJ cII cJJ) cX9_isStep (some .boolean) 3 RX9 0 g) (n39 : Nat) (K39 : ∀ (L1 L2 : Int32) (H : Heap) (locs : List Loc) (ls : Array Slot), (0 ≤ L1.toInt ∧ L1.toInt ≤ 1) → (0 ≤ L2.toInt ∧ L2.toInt ≤ 3) → (1 ≤ f9_size.toInt ∧ f9_size.toInt ≤ 4) → (0 ≤ f9_equations.toInt ∧ f9_equations.toInt ≤ 3) → (0 ≤ f9_areSteps.toInt ∧ f9_areSteps.toInt ≤ 1) → (0 ≤ f9_foundMany.toInt ∧ f9_foundMany.toInt ≤ 99999) → (0 ≤ f9_many.toInt ∧ f9_many.toInt ≤ 6000) → (0 ≤ f9_rank.toInt ∧ f9_rank.toInt ≤ 3) → (0 ≤ f9_freeMany.toInt ∧ f9_freeMany.toInt ≤ 4) → (0 ≤ f9_arePlans.toInt ∧ f9_arePlans.toInt ≤ 1) → (0 ≤ f9_planMany.toInt ∧ f9_planMany.toInt ≤ 194481) → f9_equations.toInt - L2.toInt < (n39 : Int) → (0 : Int) < (n39 : Int) → IAM ai → va_P (dC, dI) vwCl (WM cI cJ cII cJJ ad f9_size f9_equations f9_areSteps f9_foundMany f9_many f9_rank f9_freeMany f9_arePlans f9_planMany ai al) H → va_D A (WM cI cJ cII cJJ ad f9_size f9_equations f9_areSteps f9_foundMany f9_many f9_rank f9_freeMany f9_arePlans f9_planMany ai al) → va_S A s.heap H locs → lv_has ls 3 [(0, .ref (ad 22)), (1, .int L1), (2, .int L2)] → W p l e ({ frames := 3, cells := 0, slots := 0, locals := 140 } : Room) s m args below meth c H locs 0 0 (MQ below (Q_r019_X9_isStep dC dI cI cJ cII cJJ ad f9_size f9_equations f9_areSteps f9_foundMany f9_many f9_rank f9_freeMany f9_arePlans f9_planMany ai al A) args s 0 0 A) (F0 m 39 ls [])) : ∀ (L1 L2 S0 : Int32) (H : Heap) (locs : List Loc) (ls : Array Slot), (1 ≤ L1.toInt ∧ L1.toInt ≤ 1) → (0 ≤ L2.toInt ∧ L2.toInt ≤ 2) → (0 ≤ S0.toInt ∧ S0.toInt ≤ 1) → (1 ≤ f9_size.toInt ∧ f9_size.toInt ≤ 4) → (1 ≤ f9_equations.toInt ∧ f9_equations.toInt ≤ 3) → (0 ≤ f9_areSteps.toInt ∧ f9_areSteps.toInt ≤ 1) → (0 ≤ f9_foundMany.toInt ∧ f9_foundMany.toInt ≤ 99999) → (0 ≤ f9_many.toInt ∧ f9_many.toInt ≤ 6000) → (0 ≤ f9_rank.toInt ∧ f9_rank.toInt ≤ 3) → (0 ≤ f9_freeMany.toInt ∧ f9_freeMany.toInt ≤ 4) → (0 ≤ f9_arePlans.toInt ∧ f9_arePlans.toInt ≤ 1) → (0 ≤ f9_planMany.toInt ∧ f9_planMany.toInt ≤ 194481) → L2.toInt < f9_equations.toInt → f9_equations.toInt - L2.toInt ≤ (n39 : Int) → IAM ai → va_P (dC, dI) vwCl (WM cI cJ cII cJJ ad f9_size f9_equations f9_areSteps f9_foundMany f9_many f9_rank f9_freeMany f9_arePlans f9_planMany ai al) H → va_D A (WM cI cJ cII cJJ ad f9_size f9_equations f9_areSteps f9_foundMany f9_many f9_rank f9_freeMany f9_arePlans f9_planMany ai al) → va_S A s.heap H locs → lv_has ls 3 [(0, .ref (ad 22)), (1, .int L1), (2, .int L2)] → W p l e ({ frames := 3, cells := 0, slots := 0, locals := 140 } : Room) s m args below meth c H locs 0 0 (MQ below (Q_r019_X9_isStep dC dI cI cJ cII cJJ ad f9_size f9_equations f9_areSteps f9_foundMany f9_many f9_rank f9_freeMany f9_arePlans f9_planMany ai al A) args s 0 0 A) (F0 m 69 ls [.int S0]) := by
  obtain ⟨hx, hb, hr, hml, hown, hts, hk, hA, hK, hX⟩ := id C
  intro L1 L2 S0 H locs ls h0 h1 h2 h3 h4 h5 h6 h7 h8 h9 h10 h11 h12 h13 hI hP hD hS hl
  refine lv_istore_n (lv' := [(1, .int S0), (0, .ref (ad 22)), (2, .int L2)]) hx hb dX9_isStep_69 rfl hl (by decide) rfl (fun ls_1 hl_1 => ?_)
  obtain ⟨z1, e_z1⟩ : ∃ q : Int32, q = L2 + Int32.ofInt 1 := ⟨_, rfl⟩
  have g_z1 : z1.toInt = L2.toInt + 1 := by rw [e_z1]; exact n_add (a := L2.toInt) (b := 1) rfl (by decide +kernel) (by omega) (by omega)
  refine lv_iinc (v := z1) (lv' := [(2, .int z1), (1, .int S0), (0, .ref (ad 22))]) hx hb dX9_isStep_70 hl_1 (k := 2) rfl e_z1.symm (by decide) rfl (fun ls_2 hl_2 => ?_)
  refine lv_goto (tgt := 39) hx hb dX9_isStep_73 (by decide) ?_
  exact K39 S0 z1 _ _ _ (by omega) (by omega) (by omega) (by omega) (by omega) (by omega) (by omega) (by omega) (by omega) (by omega) (by omega) (by omega) (by omega) hI hP hD hS (lv_sub hl_2 [2, 1, 0] rfl)
set_option maxRecDepth 100000 in
set_option maxHeartbeats 4000000 in
theorem r019_X9_isStep_b39 {p : Program} {l : Launch} {e : Env} {s : State} {m : MethodId} {args : Array Value} {below : List Frame} {meth : Method} {c : Code} {A : Nat → Prop} {dC : Nat → ClassId} {dI : Nat → Nat → Nat} {cI cJ cII cJJ : ClassId} {ad : Nat → Nat} {g : Nat} {f9_size f9_equations f9_areSteps f9_foundMany f9_many f9_rank f9_freeMany f9_arePlans f9_planMany : Int32} {ai : Nat → Nat → Int32} {al : Nat → Nat → Int64} (C : Cx p c s m meth args A dC dI (TY cI cJ cII cJJ) cX9_isStep (some .boolean) 3 RX9 0 g) : ∀ (n : Nat), ∀ (L1 L2 : Int32) (H : Heap) (locs : List Loc) (ls : Array Slot), (0 ≤ L1.toInt ∧ L1.toInt ≤ 1) → (0 ≤ L2.toInt ∧ L2.toInt ≤ 3) → (1 ≤ f9_size.toInt ∧ f9_size.toInt ≤ 4) → (0 ≤ f9_equations.toInt ∧ f9_equations.toInt ≤ 3) → (0 ≤ f9_areSteps.toInt ∧ f9_areSteps.toInt ≤ 1) → (0 ≤ f9_foundMany.toInt ∧ f9_foundMany.toInt ≤ 99999) → (0 ≤ f9_many.toInt ∧ f9_many.toInt ≤ 6000) → (0 ≤ f9_rank.toInt ∧ f9_rank.toInt ≤ 3) → (0 ≤ f9_freeMany.toInt ∧ f9_freeMany.toInt ≤ 4) → (0 ≤ f9_arePlans.toInt ∧ f9_arePlans.toInt ≤ 1) → (0 ≤ f9_planMany.toInt ∧ f9_planMany.toInt ≤ 194481) → f9_equations.toInt - L2.toInt < (n : Int) → (0 : Int) < (n : Int) → IAM ai → va_P (dC, dI) vwCl (WM cI cJ cII cJJ ad f9_size f9_equations f9_areSteps f9_foundMany f9_many f9_rank f9_freeMany f9_arePlans f9_planMany ai al) H → va_D A (WM cI cJ cII cJJ ad f9_size f9_equations f9_areSteps f9_foundMany f9_many f9_rank f9_freeMany f9_arePlans f9_planMany ai al) → va_S A s.heap H locs → lv_has ls 3 [(0, .ref (ad 22)), (1, .int L1), (2, .int L2)] → W p l e ({ frames := 3, cells := 0, slots := 0, locals := 140 } : Room) s m args below meth c H locs 0 0 (MQ below (Q_r019_X9_isStep dC dI cI cJ cII cJJ ad f9_size f9_equations f9_areSteps f9_foundMany f9_many f9_rank f9_freeMany f9_arePlans f9_planMany ai al A) args s 0 0 A) (F0 m 39 ls []) := by
  obtain ⟨hx, hb, hr, hml, hown, hts, hk, hA, hK, hX⟩ := id C
  intro n
  induction n with
  | zero =>
    intro L1 L2 H locs ls h0 h1 h2 h3 h4 h5 h6 h7 h8 h9 h10 h11 h12 hI hP hD hS hl
    exact absurd h12 (by omega)
  | succ n ih =>
    intro L1 L2 H locs ls h0 h1 h2 h3 h4 h5 h6 h7 h8 h9 h10 h11 h12 hI hP hD hS hl
    refine lv_iload_n hx hb dX9_isStep_39 rfl (lv_at hl 2 rfl) ?_
    refine lv_aload_n hx hb dX9_isStep_40 rfl (lv_at hl 0 rfl) ?_
    refine gf (k := 13) hx hb hts inX9 hown hK hP k_808 rfl (by decide) rfl 22 rfl (.int f9_equations) rfl dX9_isStep_41 ?_
    refine lv_icmp_ge (tgt := 76) hx hb dX9_isStep_44 (by decide) (fun c1 => ?_) (fun c1 => ?_)
    · have c1 := j_le (a := f9_equations.toInt) (b := L2.toInt) rfl rfl c1
      exact r019_X9_isStep_b76 C  L1 L2 _ _ _ (by omega) (by omega) (by omega) (by omega) (by omega) (by omega) (by omega) (by omega) (by omega) (by omega) (by omega) hI hP hD hS (lv_sub hl [0, 1, 2] rfl)
    · have c1 := j_nle (a := f9_equations.toInt) (b := L2.toInt) rfl rfl c1
      refine lv_iload_n hx hb dX9_isStep_47 rfl (lv_at hl 1 rfl) ?_
      refine lv_if_eq (tgt := 76) hx hb dX9_isStep_48 (by decide) (fun c2 => ?_) (fun c2 => ?_)
      · have c2 := j_eq (a := L1.toInt) (b := 0) rfl (by decide +kernel) c2
        exact r019_X9_isStep_b76 C  L1 L2 _ _ _ (by omega) (by omega) (by omega) (by omega) (by omega) (by omega) (by omega) (by omega) (by omega) (by omega) (by omega) hI hP hD hS (lv_sub hl [0, 1, 2] rfl)
      · have c2 := j_ne (a := L1.toInt) (b := 0) rfl (by decide +kernel) c2
        refine lv_aload_n hx hb dX9_isStep_51 rfl (lv_at hl 0 rfl) ?_
        refine lv_iload_n hx hb dX9_isStep_52 rfl (lv_at hl 2 rfl) ?_
        refine lv_aload_n hx hb dX9_isStep_53 rfl (lv_at hl 0 rfl) ?_
        refine gf (k := 6) hx hb hts inX9 hown hK hP k_801 rfl (by decide) rfl 22 rfl (.ref (ad 27)) rfl dX9_isStep_54 ?_
        refine lv_iconst (v := 0) hx hb dX9_isStep_57 (by decide) ?_
        have kc0 : (0 : Int32).toInt = 0 := by decide +kernel
        have hM := r018_X9_sum l dC dI cI cJ cII cJJ H.size 0 ad f9_size f9_equations f9_areSteps f9_foundMany f9_many f9_rank f9_freeMany f9_arePlans f9_planMany ai al L2 (by omega) (by omega) (by omega) (by omega) (by omega) (by omega) (by omega) (by omega) (by omega) (by omega) hI
        refine k2V_i (q0 := 22) ⟨hx, hb, hml, hown, hts⟩ hK hP hD hS hA hX cv_RX9_191 hM ⟨by decide +kernel, by decide +kernel⟩ rfl rfl (Or.inl rfl) (rest := []) rfl rfl rfl hl.1 rfl (Nat.le_of_ble_eq_true rfl) dX9_isStep_58 ⟨Nat.le_of_ble_eq_true rfl, Nat.le_of_ble_eq_true rfl⟩ (fun r3 t H1 locs_1 ht hB hS_1 hFc => ?_)
        obtain ⟨-, hP_2, -, hD_2⟩ := hB
        rw [ht] at hP_2
        have hD_3 := hD_2.weaken (B := A) (fun k q _ h9 => hFc q.1 h9)
        clear ht
        generalize H1 = H_4 at hP_2 hS_1 ⊢
        refine lv_if_ne (tgt := 68) hx hb dX9_isStep_61 (by decide) (fun c4 => ?_) (fun c4 => ?_)
        · have c4 := j_ne (a := r3.toInt) (b := 0) rfl (by decide +kernel) c4
          refine lv_iconst (v := 0) hx hb dX9_isStep_68 (by decide) ?_
          exact r019_X9_isStep_b69 C n ih L1 L2 0 _ _ _ (by first | omega | decide | (have ka0 := (by decide +kernel : (0 : Int32).toInt = 0); omega)) (by first | omega | decide | (have ka0 := (by decide +kernel : (0 : Int32).toInt = 0); omega)) (by first | omega | decide | (have ka0 := (by decide +kernel : (0 : Int32).toInt = 0); omega)) (by first | omega | decide | (have ka0 := (by decide +kernel : (0 : Int32).toInt = 0); omega)) (by first | omega | decide | (have ka0 := (by decide +kernel : (0 : Int32).toInt = 0); omega)) (by first | omega | decide | (have ka0 := (by decide +kernel : (0 : Int32).toInt = 0); omega)) (by first | omega | decide | (have ka0 := (by decide +kernel : (0 : Int32).toInt = 0); omega)) (by first | omega | decide | (have ka0 := (by decide +kernel : (0 : Int32).toInt = 0); omega)) (by first | omega | decide | (have ka0 := (by decide +kernel : (0 : Int32).toInt = 0); omega)) (by first | omega | decide | (have ka0 := (by decide +kernel : (0 : Int32).toInt = 0); omega)) (by first | omega | decide | (have ka0 := (by decide +kernel : (0 : Int32).toInt = 0); omega)) (by first | omega | decide | (have ka0 := (by decide +kernel : (0 : Int32).toInt = 0); omega)) (by first | omega | decide | (have ka0 := (by decide +kernel : (0 : Int32).toInt = 0); omega)) (by first | omega | decide | (have ka0 := (by decide +kernel : (0 : Int32).toInt = 0); omega)) hI hP_2 hD_3 hS_1 (lv_sub hl [0, 1, 2] rfl)
        · have c4 := j_eq (a := r3.toInt) (b := 0) rfl (by decide +kernel) c4
          refine lv_iconst (v := 1) hx hb dX9_isStep_64 (by decide) ?_
          refine lv_goto (tgt := 69) hx hb dX9_isStep_65 (by decide) ?_
          exact r019_X9_isStep_b69 C n ih L1 L2 1 _ _ _ (by first | omega | decide | (have ka0 := (by decide +kernel : (1 : Int32).toInt = 1); omega)) (by first | omega | decide | (have ka0 := (by decide +kernel : (1 : Int32).toInt = 1); omega)) (by first | omega | decide | (have ka0 := (by decide +kernel : (1 : Int32).toInt = 1); omega)) (by first | omega | decide | (have ka0 := (by decide +kernel : (1 : Int32).toInt = 1); omega)) (by first | omega | decide | (have ka0 := (by decide +kernel : (1 : Int32).toInt = 1); omega)) (by first | omega | decide | (have ka0 := (by decide +kernel : (1 : Int32).toInt = 1); omega)) (by first | omega | decide | (have ka0 := (by decide +kernel : (1 : Int32).toInt = 1); omega)) (by first | omega | decide | (have ka0 := (by decide +kernel : (1 : Int32).toInt = 1); omega)) (by first | omega | decide | (have ka0 := (by decide +kernel : (1 : Int32).toInt = 1); omega)) (by first | omega | decide | (have ka0 := (by decide +kernel : (1 : Int32).toInt = 1); omega)) (by first | omega | decide | (have ka0 := (by decide +kernel : (1 : Int32).toInt = 1); omega)) (by first | omega | decide | (have ka0 := (by decide +kernel : (1 : Int32).toInt = 1); omega)) (by first | omega | decide | (have ka0 := (by decide +kernel : (1 : Int32).toInt = 1); omega)) (by first | omega | decide | (have ka0 := (by decide +kernel : (1 : Int32).toInt = 1); omega)) hI hP_2 hD_3 hS_1 (lv_sub hl [0, 1, 2] rfl)
set_option maxRecDepth 100000 in
set_option maxHeartbeats 4000000 in
theorem r019_X9_isStep_b30 {p : Program} {l : Launch} {e : Env} {s : State} {m : MethodId} {args : Array Value} {below : List Frame} {meth : Method} {c : Code} {A : Nat → Prop} {dC : Nat → ClassId} {dI : Nat → Nat → Nat} {cI cJ cII cJJ : ClassId} {ad : Nat → Nat} {g : Nat} {f9_size f9_equations f9_areSteps f9_foundMany f9_many f9_rank f9_freeMany f9_arePlans f9_planMany : Int32} {ai : Nat → Nat → Int32} {al : Nat → Nat → Int64} (C : Cx p c s m meth args A dC dI (TY cI cJ cII cJJ) cX9_isStep (some .boolean) 3 RX9 0 g) (n4 : Nat) (K4 : ∀ (L1 L2 : Int32) (H : Heap) (locs : List Loc) (ls : Array Slot), (0 ≤ L1.toInt ∧ L1.toInt ≤ 1) → (0 ≤ L2.toInt ∧ L2.toInt ≤ 4) → (1 ≤ f9_size.toInt ∧ f9_size.toInt ≤ 4) → (0 ≤ f9_equations.toInt ∧ f9_equations.toInt ≤ 3) → (0 ≤ f9_areSteps.toInt ∧ f9_areSteps.toInt ≤ 1) → (0 ≤ f9_foundMany.toInt ∧ f9_foundMany.toInt ≤ 99999) → (0 ≤ f9_many.toInt ∧ f9_many.toInt ≤ 6000) → (0 ≤ f9_rank.toInt ∧ f9_rank.toInt ≤ 3) → (0 ≤ f9_freeMany.toInt ∧ f9_freeMany.toInt ≤ 4) → (0 ≤ f9_arePlans.toInt ∧ f9_arePlans.toInt ≤ 1) → (0 ≤ f9_planMany.toInt ∧ f9_planMany.toInt ≤ 194481) → f9_size.toInt - L2.toInt < (n4 : Int) → (0 : Int) < (n4 : Int) → IAM ai → va_P (dC, dI) vwCl (WM cI cJ cII cJJ ad f9_size f9_equations f9_areSteps f9_foundMany f9_many f9_rank f9_freeMany f9_arePlans f9_planMany ai al) H → va_D A (WM cI cJ cII cJJ ad f9_size f9_equations f9_areSteps f9_foundMany f9_many f9_rank f9_freeMany f9_arePlans f9_planMany ai al) → va_S A s.heap H locs → lv_has ls 3 [(0, .ref (ad 22)), (1, .int L1), (2, .int L2)] → W p l e ({ frames := 3, cells := 0, slots := 0, locals := 140 } : Room) s m args below meth c H locs 0 0 (MQ below (Q_r019_X9_isStep dC dI cI cJ cII cJJ ad f9_size f9_equations f9_areSteps f9_foundMany f9_many f9_rank f9_freeMany f9_arePlans f9_planMany ai al A) args s 0 0 A) (F0 m 4 ls [])) : ∀ (L1 L2 S0 : Int32) (H : Heap) (locs : List Loc) (ls : Array Slot), (0 ≤ L1.toInt ∧ L1.toInt ≤ 1) → (0 ≤ L2.toInt ∧ L2.toInt ≤ 3) → (0 ≤ S0.toInt ∧ S0.toInt ≤ 1) → (1 ≤ f9_size.toInt ∧ f9_size.toInt ≤ 4) → (0 ≤ f9_equations.toInt ∧ f9_equations.toInt ≤ 3) → (0 ≤ f9_areSteps.toInt ∧ f9_areSteps.toInt ≤ 1) → (0 ≤ f9_foundMany.toInt ∧ f9_foundMany.toInt ≤ 99999) → (0 ≤ f9_many.toInt ∧ f9_many.toInt ≤ 6000) → (0 ≤ f9_rank.toInt ∧ f9_rank.toInt ≤ 3) → (0 ≤ f9_freeMany.toInt ∧ f9_freeMany.toInt ≤ 4) → (0 ≤ f9_arePlans.toInt ∧ f9_arePlans.toInt ≤ 1) → (0 ≤ f9_planMany.toInt ∧ f9_planMany.toInt ≤ 194481) → L2.toInt < f9_size.toInt → f9_size.toInt - L2.toInt ≤ (n4 : Int) → IAM ai → va_P (dC, dI) vwCl (WM cI cJ cII cJJ ad f9_size f9_equations f9_areSteps f9_foundMany f9_many f9_rank f9_freeMany f9_arePlans f9_planMany ai al) H → va_D A (WM cI cJ cII cJJ ad f9_size f9_equations f9_areSteps f9_foundMany f9_many f9_rank f9_freeMany f9_arePlans f9_planMany ai al) → va_S A s.heap H locs → lv_has ls 3 [(0, .ref (ad 22)), (1, .int L1), (2, .int L2)] → W p l e ({ frames := 3, cells := 0, slots := 0, locals := 140 } : Room) s m args below meth c H locs 0 0 (MQ below (Q_r019_X9_isStep dC dI cI cJ cII cJJ ad f9_size f9_equations f9_areSteps f9_foundMany f9_many f9_rank f9_freeMany f9_arePlans f9_planMany ai al A) args s 0 0 A) (F0 m 30 ls [.int S0]) := by
  obtain ⟨hx, hb, hr, hml, hown, hts, hk, hA, hK, hX⟩ := id C
  intro L1 L2 S0 H locs ls h0 h1 h2 h3 h4 h5 h6 h7 h8 h9 h10 h11 h12 h13 hI hP hD hS hl
  refine lv_istore_n (lv' := [(1, .int S0), (0, .ref (ad 22)), (2, .int L2)]) hx hb dX9_isStep_30 rfl hl (by decide) rfl (fun ls_1 hl_1 => ?_)
  obtain ⟨z1, e_z1⟩ : ∃ q : Int32, q = L2 + Int32.ofInt 1 := ⟨_, rfl⟩
  have g_z1 : z1.toInt = L2.toInt + 1 := by rw [e_z1]; exact n_add (a := L2.toInt) (b := 1) rfl (by decide +kernel) (by omega) (by omega)
  refine lv_iinc (v := z1) (lv' := [(2, .int z1), (1, .int S0), (0, .ref (ad 22))]) hx hb dX9_isStep_31 hl_1 (k := 2) rfl e_z1.symm (by decide) rfl (fun ls_2 hl_2 => ?_)
  refine lv_goto (tgt := 4) hx hb dX9_isStep_34 (by decide) ?_
  exact K4 S0 z1 _ _ _ (by omega) (by omega) (by omega) (by omega) (by omega) (by omega) (by omega) (by omega) (by omega) (by omega) (by omega) (by omega) (by omega) hI hP hD hS (lv_sub hl_2 [2, 1, 0] rfl)
set_option maxRecDepth 100000 in
set_option maxHeartbeats 4000000 in
theorem r019_X9_isStep_b25 {p : Program} {l : Launch} {e : Env} {s : State} {m : MethodId} {args : Array Value} {below : List Frame} {meth : Method} {c : Code} {A : Nat → Prop} {dC : Nat → ClassId} {dI : Nat → Nat → Nat} {cI cJ cII cJJ : ClassId} {ad : Nat → Nat} {g : Nat} {f9_size f9_equations f9_areSteps f9_foundMany f9_many f9_rank f9_freeMany f9_arePlans f9_planMany : Int32} {ai : Nat → Nat → Int32} {al : Nat → Nat → Int64} (C : Cx p c s m meth args A dC dI (TY cI cJ cII cJJ) cX9_isStep (some .boolean) 3 RX9 0 g) (n4 : Nat) (K4 : ∀ (L1 L2 : Int32) (H : Heap) (locs : List Loc) (ls : Array Slot), (0 ≤ L1.toInt ∧ L1.toInt ≤ 1) → (0 ≤ L2.toInt ∧ L2.toInt ≤ 4) → (1 ≤ f9_size.toInt ∧ f9_size.toInt ≤ 4) → (0 ≤ f9_equations.toInt ∧ f9_equations.toInt ≤ 3) → (0 ≤ f9_areSteps.toInt ∧ f9_areSteps.toInt ≤ 1) → (0 ≤ f9_foundMany.toInt ∧ f9_foundMany.toInt ≤ 99999) → (0 ≤ f9_many.toInt ∧ f9_many.toInt ≤ 6000) → (0 ≤ f9_rank.toInt ∧ f9_rank.toInt ≤ 3) → (0 ≤ f9_freeMany.toInt ∧ f9_freeMany.toInt ≤ 4) → (0 ≤ f9_arePlans.toInt ∧ f9_arePlans.toInt ≤ 1) → (0 ≤ f9_planMany.toInt ∧ f9_planMany.toInt ≤ 194481) → f9_size.toInt - L2.toInt < (n4 : Int) → (0 : Int) < (n4 : Int) → IAM ai → va_P (dC, dI) vwCl (WM cI cJ cII cJJ ad f9_size f9_equations f9_areSteps f9_foundMany f9_many f9_rank f9_freeMany f9_arePlans f9_planMany ai al) H → va_D A (WM cI cJ cII cJJ ad f9_size f9_equations f9_areSteps f9_foundMany f9_many f9_rank f9_freeMany f9_arePlans f9_planMany ai al) → va_S A s.heap H locs → lv_has ls 3 [(0, .ref (ad 22)), (1, .int L1), (2, .int L2)] → W p l e ({ frames := 3, cells := 0, slots := 0, locals := 140 } : Room) s m args below meth c H locs 0 0 (MQ below (Q_r019_X9_isStep dC dI cI cJ cII cJJ ad f9_size f9_equations f9_areSteps f9_foundMany f9_many f9_rank f9_freeMany f9_arePlans f9_planMany ai al A) args s 0 0 A) (F0 m 4 ls [])) : ∀ (L1 L2 : Int32) (H : Heap) (locs : List Loc) (ls : Array Slot), (0 ≤ L1.toInt ∧ L1.toInt ≤ 1) → (0 ≤ L2.toInt ∧ L2.toInt ≤ 3) → (1 ≤ f9_size.toInt ∧ f9_size.toInt ≤ 4) → (0 ≤ f9_equations.toInt ∧ f9_equations.toInt ≤ 3) → (0 ≤ f9_areSteps.toInt ∧ f9_areSteps.toInt ≤ 1) → (0 ≤ f9_foundMany.toInt ∧ f9_foundMany.toInt ≤ 99999) → (0 ≤ f9_many.toInt ∧ f9_many.toInt ≤ 6000) → (0 ≤ f9_rank.toInt ∧ f9_rank.toInt ≤ 3) → (0 ≤ f9_freeMany.toInt ∧ f9_freeMany.toInt ≤ 4) → (0 ≤ f9_arePlans.toInt ∧ f9_arePlans.toInt ≤ 1) → (0 ≤ f9_planMany.toInt ∧ f9_planMany.toInt ≤ 194481) → L2.toInt < f9_size.toInt → f9_size.toInt - L2.toInt ≤ (n4 : Int) → IAM ai → va_P (dC, dI) vwCl (WM cI cJ cII cJJ ad f9_size f9_equations f9_areSteps f9_foundMany f9_many f9_rank f9_freeMany f9_arePlans f9_planMany ai al) H → va_D A (WM cI cJ cII cJJ ad f9_size f9_equations f9_areSteps f9_foundMany f9_many f9_rank f9_freeMany f9_arePlans f9_planMany ai al) → va_S A s.heap H locs → lv_has ls 3 [(0, .ref (ad 22)), (1, .int L1), (2, .int L2)] → W p l e ({ frames := 3, cells := 0, slots := 0, locals := 140 } : Room) s m args below meth c H locs 0 0 (MQ below (Q_r019_X9_isStep dC dI cI cJ cII cJJ ad f9_size f9_equations f9_areSteps f9_foundMany f9_many f9_rank f9_freeMany f9_arePlans f9_planMany ai al A) args s 0 0 A) (F0 m 25 ls []) := by
  obtain ⟨hx, hb, hr, hml, hown, hts, hk, hA, hK, hX⟩ := id C
  intro L1 L2 H locs ls h0 h1 h2 h3 h4 h5 h6 h7 h8 h9 h10 h11 h12 hI hP hD hS hl
  refine lv_iconst (v := 1) hx hb dX9_isStep_25 (by decide) ?_
  refine lv_goto (tgt := 30) hx hb dX9_isStep_26 (by decide) ?_
  exact r019_X9_isStep_b30 C n4 K4 L1 L2 1 _ _ _ (by first | omega | decide | (have ka0 := (by decide +kernel : (1 : Int32).toInt = 1); omega)) (by first | omega | decide | (have ka0 := (by decide +kernel : (1 : Int32).toInt = 1); omega)) (by first | omega | decide | (have ka0 := (by decide +kernel : (1 : Int32).toInt = 1); omega)) (by first | omega | decide | (have ka0 := (by decide +kernel : (1 : Int32).toInt = 1); omega)) (by first | omega | decide | (have ka0 := (by decide +kernel : (1 : Int32).toInt = 1); omega)) (by first | omega | decide | (have ka0 := (by decide +kernel : (1 : Int32).toInt = 1); omega)) (by first | omega | decide | (have ka0 := (by decide +kernel : (1 : Int32).toInt = 1); omega)) (by first | omega | decide | (have ka0 := (by decide +kernel : (1 : Int32).toInt = 1); omega)) (by first | omega | decide | (have ka0 := (by decide +kernel : (1 : Int32).toInt = 1); omega)) (by first | omega | decide | (have ka0 := (by decide +kernel : (1 : Int32).toInt = 1); omega)) (by first | omega | decide | (have ka0 := (by decide +kernel : (1 : Int32).toInt = 1); omega)) (by first | omega | decide | (have ka0 := (by decide +kernel : (1 : Int32).toInt = 1); omega)) (by first | omega | decide | (have ka0 := (by decide +kernel : (1 : Int32).toInt = 1); omega)) (by first | omega | decide | (have ka0 := (by decide +kernel : (1 : Int32).toInt = 1); omega)) hI hP hD hS (lv_sub hl [0, 1, 2] rfl)
set_option maxRecDepth 100000 in
set_option maxHeartbeats 4000000 in
theorem r019_X9_isStep_b4 {p : Program} {l : Launch} {e : Env} {s : State} {m : MethodId} {args : Array Value} {below : List Frame} {meth : Method} {c : Code} {A : Nat → Prop} {dC : Nat → ClassId} {dI : Nat → Nat → Nat} {cI cJ cII cJJ : ClassId} {ad : Nat → Nat} {g : Nat} {f9_size f9_equations f9_areSteps f9_foundMany f9_many f9_rank f9_freeMany f9_arePlans f9_planMany : Int32} {ai : Nat → Nat → Int32} {al : Nat → Nat → Int64} (C : Cx p c s m meth args A dC dI (TY cI cJ cII cJJ) cX9_isStep (some .boolean) 3 RX9 0 g) : ∀ (n : Nat), ∀ (L1 L2 : Int32) (H : Heap) (locs : List Loc) (ls : Array Slot), (0 ≤ L1.toInt ∧ L1.toInt ≤ 1) → (0 ≤ L2.toInt ∧ L2.toInt ≤ 4) → (1 ≤ f9_size.toInt ∧ f9_size.toInt ≤ 4) → (0 ≤ f9_equations.toInt ∧ f9_equations.toInt ≤ 3) → (0 ≤ f9_areSteps.toInt ∧ f9_areSteps.toInt ≤ 1) → (0 ≤ f9_foundMany.toInt ∧ f9_foundMany.toInt ≤ 99999) → (0 ≤ f9_many.toInt ∧ f9_many.toInt ≤ 6000) → (0 ≤ f9_rank.toInt ∧ f9_rank.toInt ≤ 3) → (0 ≤ f9_freeMany.toInt ∧ f9_freeMany.toInt ≤ 4) → (0 ≤ f9_arePlans.toInt ∧ f9_arePlans.toInt ≤ 1) → (0 ≤ f9_planMany.toInt ∧ f9_planMany.toInt ≤ 194481) → f9_size.toInt - L2.toInt < (n : Int) → (0 : Int) < (n : Int) → IAM ai → va_P (dC, dI) vwCl (WM cI cJ cII cJJ ad f9_size f9_equations f9_areSteps f9_foundMany f9_many f9_rank f9_freeMany f9_arePlans f9_planMany ai al) H → va_D A (WM cI cJ cII cJJ ad f9_size f9_equations f9_areSteps f9_foundMany f9_many f9_rank f9_freeMany f9_arePlans f9_planMany ai al) → va_S A s.heap H locs → lv_has ls 3 [(0, .ref (ad 22)), (1, .int L1), (2, .int L2)] → W p l e ({ frames := 3, cells := 0, slots := 0, locals := 140 } : Room) s m args below meth c H locs 0 0 (MQ below (Q_r019_X9_isStep dC dI cI cJ cII cJJ ad f9_size f9_equations f9_areSteps f9_foundMany f9_many f9_rank f9_freeMany f9_arePlans f9_planMany ai al A) args s 0 0 A) (F0 m 4 ls []) := by
  obtain ⟨hx, hb, hr, hml, hown, hts, hk, hA, hK, hX⟩ := id C
  intro n
  induction n with
  | zero =>
    intro L1 L2 H locs ls h0 h1 h2 h3 h4 h5 h6 h7 h8 h9 h10 h11 h12 hI hP hD hS hl
    exact absurd h12 (by omega)
  | succ n ih =>
    intro L1 L2 H locs ls h0 h1 h2 h3 h4 h5 h6 h7 h8 h9 h10 h11 h12 hI hP hD hS hl
    refine lv_iload_n hx hb dX9_isStep_4 rfl (lv_at hl 2 rfl) ?_
    refine lv_aload_n hx hb dX9_isStep_5 rfl (lv_at hl 0 rfl) ?_
    refine gf (k := 12) hx hb hts inX9 hown hK hP k_807 rfl (by decide) rfl 22 rfl (.int f9_size) rfl dX9_isStep_6 ?_
    refine lv_icmp_ge (tgt := 37) hx hb dX9_isStep_9 (by decide) (fun c1 => ?_) (fun c1 => ?_)
    · have c1 := j_le (a := f9_size.toInt) (b := L2.toInt) rfl rfl c1
      refine lv_iconst (v := 0) hx hb dX9_isStep_37 (by decide) ?_
      refine lv_istore_n (lv' := [(2, .int 0), (0, .ref (ad 22)), (1, .int L1)]) hx hb dX9_isStep_38 rfl hl (by decide) rfl (fun ls_1 hl_1 => ?_)
      exact r019_X9_isStep_b39 C  _ L1 0 _ _ _ (by first | omega | decide | (have ka0 := (by decide +kernel : (0 : Int32).toInt = 0); omega)) (by first | omega | decide | (have ka0 := (by decide +kernel : (0 : Int32).toInt = 0); omega)) (by first | omega | decide | (have ka0 := (by decide +kernel : (0 : Int32).toInt = 0); omega)) (by first | omega | decide | (have ka0 := (by decide +kernel : (0 : Int32).toInt = 0); omega)) (by first | omega | decide | (have ka0 := (by decide +kernel : (0 : Int32).toInt = 0); omega)) (by first | omega | decide | (have ka0 := (by decide +kernel : (0 : Int32).toInt = 0); omega)) (by first | omega | decide | (have ka0 := (by decide +kernel : (0 : Int32).toInt = 0); omega)) (by first | omega | decide | (have ka0 := (by decide +kernel : (0 : Int32).toInt = 0); omega)) (by first | omega | decide | (have ka0 := (by decide +kernel : (0 : Int32).toInt = 0); omega)) (by first | omega | decide | (have ka0 := (by decide +kernel : (0 : Int32).toInt = 0); omega)) (by first | omega | decide | (have ka0 := (by decide +kernel : (0 : Int32).toInt = 0); omega)) (j_fuel _) (by omega) hI hP hD hS (lv_sub hl_1 [1, 2, 0] rfl)
    · have c1 := j_nle (a := f9_size.toInt) (b := L2.toInt) rfl rfl c1
      refine lv_iload_n hx hb dX9_isStep_12 rfl (lv_at hl 1 rfl) ?_
      refine lv_if_ne (tgt := 25) hx hb dX9_isStep_13 (by decide) (fun c2 => ?_) (fun c2 => ?_)
      · have c2 := j_ne (a := L1.toInt) (b := 0) rfl (by decide +kernel) c2
        exact r019_X9_isStep_b25 C n ih L1 L2 _ _ _ (by omega) (by omega) (by omega) (by omega) (by omega) (by omega) (by omega) (by omega) (by omega) (by omega) (by omega) (by omega) (by omega) hI hP hD hS (lv_sub hl [0, 1, 2] rfl)
      · have c2 := j_eq (a := L1.toInt) (b := 0) rfl (by decide +kernel) c2
        refine lv_aload_n hx hb dX9_isStep_16 rfl (lv_at hl 0 rfl) ?_
        refine gf (k := 6) hx hb hts inX9 hown hK hP k_801 rfl (by decide) rfl 22 rfl (.ref (ad 27)) rfl dX9_isStep_17 ?_
        refine lv_iload_n hx hb dX9_isStep_20 rfl (lv_at hl 2 rfl) ?_
        refine va_iald hx hb hK hP 27 0 rfl rfl (j_in (a := L2.toInt) rfl (by omega) (by omega)) dX9_isStep_21 ?_
        refine lv_topi (fun z3 e_z3 => ?_)
        refine lv_if_eq (tgt := 29) hx hb dX9_isStep_22 (by decide) (fun c4 => ?_) (fun c4 => ?_)
        · have c4 := j_eq (a := z3.toInt) (b := 0) rfl (by decide +kernel) c4
          refine lv_iconst (v := 0) hx hb dX9_isStep_29 (by decide) ?_
          exact r019_X9_isStep_b30 C n ih L1 L2 0 _ _ _ (by first | omega | decide | (have ka0 := (by decide +kernel : (0 : Int32).toInt = 0); omega)) (by first | omega | decide | (have ka0 := (by decide +kernel : (0 : Int32).toInt = 0); omega)) (by first | omega | decide | (have ka0 := (by decide +kernel : (0 : Int32).toInt = 0); omega)) (by first | omega | decide | (have ka0 := (by decide +kernel : (0 : Int32).toInt = 0); omega)) (by first | omega | decide | (have ka0 := (by decide +kernel : (0 : Int32).toInt = 0); omega)) (by first | omega | decide | (have ka0 := (by decide +kernel : (0 : Int32).toInt = 0); omega)) (by first | omega | decide | (have ka0 := (by decide +kernel : (0 : Int32).toInt = 0); omega)) (by first | omega | decide | (have ka0 := (by decide +kernel : (0 : Int32).toInt = 0); omega)) (by first | omega | decide | (have ka0 := (by decide +kernel : (0 : Int32).toInt = 0); omega)) (by first | omega | decide | (have ka0 := (by decide +kernel : (0 : Int32).toInt = 0); omega)) (by first | omega | decide | (have ka0 := (by decide +kernel : (0 : Int32).toInt = 0); omega)) (by first | omega | decide | (have ka0 := (by decide +kernel : (0 : Int32).toInt = 0); omega)) (by first | omega | decide | (have ka0 := (by decide +kernel : (0 : Int32).toInt = 0); omega)) (by first | omega | decide | (have ka0 := (by decide +kernel : (0 : Int32).toInt = 0); omega)) hI hP hD hS (lv_sub hl [0, 1, 2] rfl)
        · have c4 := j_ne (a := z3.toInt) (b := 0) rfl (by decide +kernel) c4
          exact r019_X9_isStep_b25 C n ih L1 L2 _ _ _ (by omega) (by omega) (by omega) (by omega) (by omega) (by omega) (by omega) (by omega) (by omega) (by omega) (by omega) (by omega) (by omega) hI hP hD hS (lv_sub hl [0, 1, 2] rfl)
set_option maxRecDepth 100000 in
set_option maxHeartbeats 4000000 in
theorem r019_X9_isStep (l : Launch) (dC : Nat → ClassId) (dI : Nat → Nat → Nat) (cI cJ cII cJJ : ClassId) (sz g : Nat) (ad : Nat → Nat) (f9_size f9_equations f9_areSteps f9_foundMany f9_many f9_rank f9_freeMany f9_arePlans f9_planMany : Int32) (ai : Nat → Nat → Int32) (al : Nat → Nat → Int64) (h_f9_size : (1 ≤ f9_size.toInt ∧ f9_size.toInt ≤ 4)) (h_f9_equations : (0 ≤ f9_equations.toInt ∧ f9_equations.toInt ≤ 3)) (h_f9_areSteps : (0 ≤ f9_areSteps.toInt ∧ f9_areSteps.toInt ≤ 1)) (h_f9_foundMany : (0 ≤ f9_foundMany.toInt ∧ f9_foundMany.toInt ≤ 99999)) (h_f9_many : (0 ≤ f9_many.toInt ∧ f9_many.toInt ≤ 6000)) (h_f9_rank : (0 ≤ f9_rank.toInt ∧ f9_rank.toInt ≤ 3)) (h_f9_freeMany : (0 ≤ f9_freeMany.toInt ∧ f9_freeMany.toInt ≤ 4)) (h_f9_arePlans : (0 ≤ f9_arePlans.toInt ∧ f9_arePlans.toInt ≤ 1)) (h_f9_planMany : (0 ≤ f9_planMany.toInt ∧ f9_planMany.toInt ≤ 194481)) (hI : IAM ai) : Met l yX9_isStep (.code yX9_isStep cX9_isStep 3 (some .boolean) :: TT) ({ frames := 3, cells := 0, slots := 0, locals := 140 } : Room) (PcS dC dI (TY cI cJ cII cJJ) [.ref (ad 22)] (WM cI cJ cII cJJ ad f9_size f9_equations f9_areSteps f9_foundMany f9_many f9_rank f9_freeMany f9_arePlans f9_planMany ai al) sz 0 g) (Q_r019_X9_isStep dC dI cI cJ cII cJJ ad f9_size f9_equations f9_areSteps f9_foundMany f9_many f9_rank f9_freeMany f9_arePlans f9_planMany ai al (va_A (WM cI cJ cII cJJ ad f9_size f9_equations f9_areSteps f9_foundMany f9_many f9_rank f9_freeMany f9_arePlans f9_planMany ai al) sz)) 0 0 (va_A (WM cI cJ cII cJJ ad f9_size f9_equations f9_areSteps f9_foundMany f9_many f9_rank f9_freeMany f9_arePlans f9_planMany ai al) sz) := by
  refine SM.of (y := yX9_isStep) (maxL := 3) (av := [.ref (ad 22)]) (Q_r019_X9_isStep dC dI cI cJ cII cJJ ad f9_size f9_equations f9_areSteps f9_foundMany f9_many f9_rank f9_freeMany f9_arePlans f9_planMany ai al) (by decide +kernel) (Nat.le_of_ble_eq_true rfl) (fun p e s m below meth c A ls hx hb hr hml hown hts hk hnm hA hK hP hD hS hX hl => ?_)
  have C : Cx p c s m meth (([.ref (ad 22)] : List Value).toArray) A dC dI (TY cI cJ cII cJJ) cX9_isStep (some .boolean) 3 RX9 0 g := ⟨hx, hb, hr, hml, hown, hts, hk, hA, hK, hX⟩
  have hown : s.vm.findClass RX9 = some m.cls := hown
  have hl : lv_has ls 3 [(0, .ref (ad 22))] := hl
  obtain ⟨H, hH⟩ : ∃ q, q = s.heap := ⟨_, rfl⟩
  rw [← hH] at hP
  have hS : va_S A s.heap H [] := by rw [hH]; exact hS
  rw [← hH]
  refine lv_iconst (v := 0) hx hb dX9_isStep_0 (by decide) ?_
  refine lv_istore_n (lv' := [(1, .int 0), (0, .ref (ad 22))]) hx hb dX9_isStep_1 rfl hl (by decide) rfl (fun ls_1 hl_1 => ?_)
  refine lv_iconst (v := 0) hx hb dX9_isStep_2 (by decide) ?_
  refine lv_istore_n (lv' := [(2, .int 0), (1, .int 0), (0, .ref (ad 22))]) hx hb dX9_isStep_3 rfl hl_1 (by decide) rfl (fun ls_2 hl_2 => ?_)
  exact r019_X9_isStep_b4 C  _ 0 0 _ _ _ (by first | omega | decide | (have ka0 := (by decide +kernel : (0 : Int32).toInt = 0); omega)) (by first | omega | decide | (have ka0 := (by decide +kernel : (0 : Int32).toInt = 0); omega)) (by first | omega | decide | (have ka0 := (by decide +kernel : (0 : Int32).toInt = 0); omega)) (by first | omega | decide | (have ka0 := (by decide +kernel : (0 : Int32).toInt = 0); omega)) (by first | omega | decide | (have ka0 := (by decide +kernel : (0 : Int32).toInt = 0); omega)) (by first | omega | decide | (have ka0 := (by decide +kernel : (0 : Int32).toInt = 0); omega)) (by first | omega | decide | (have ka0 := (by decide +kernel : (0 : Int32).toInt = 0); omega)) (by first | omega | decide | (have ka0 := (by decide +kernel : (0 : Int32).toInt = 0); omega)) (by first | omega | decide | (have ka0 := (by decide +kernel : (0 : Int32).toInt = 0); omega)) (by first | omega | decide | (have ka0 := (by decide +kernel : (0 : Int32).toInt = 0); omega)) (by first | omega | decide | (have ka0 := (by decide +kernel : (0 : Int32).toInt = 0); omega)) (j_fuel _) (by omega) hI hP hD hS (lv_sub hl_2 [2, 1, 0] rfl)
