set_option maxRecDepth 100000 in
set_option maxHeartbeats 4000000 in
theorem c102_X5_pushAhead (l : Launch) (dC : Nat → ClassId) (dI : Nat → Nat → Nat) (cI cJ cII cJJ : ClassId) (sz g a0 a1 a2 a3 : Nat) : Met l yX5_pushAhead (.code yX5_pushAhead cX5_pushAhead 4 none :: TT) ({ frames := 2, cells := 0, slots := 0, locals := 80 }) (PcS dC dI (TY cI cJ cII cJJ) [.ref a0, .ref a1, .int 1] [(a0, .inr (5, [.ref a3, .ref a2, .int 0, .int 0])), (a1, .inl (cJ, 4, .inr (.inl (tbl [1, 0, 0, 0])))), (a2, .inl (cI, 512, .inl (tb [])))] sz 0 g) ((QcV dC dI (TY cI cJ cII cJJ) (fun _ => [(a0, .inr (5, [.ref a3, .ref a2, .int 0, .int 1])), (a1, .inl (cJ, 4, .inr (.inl (tbl [1, 0, 0, 0])))), (a2, .inl (cI, 512, .inl (tb [1, 0, 0, 0])))])) (va_A [(a0, .inr (5, [.ref a3, .ref a2, .int 0, .int 0])), (a1, .inl (cJ, 4, .inr (.inl (tbl [1, 0, 0, 0])))), (a2, .inl (cI, 512, .inl (tb [])))] sz)) 0 0 (va_A [(a0, .inr (5, [.ref a3, .ref a2, .int 0, .int 0])), (a1, .inl (cJ, 4, .inr (.inl (tbl [1, 0, 0, 0])))), (a2, .inl (cI, 512, .inl (tb [])))] sz) := by
  refine SM.of (y := yX5_pushAhead) (maxL := 4) (av := [.ref a0, .ref a1, .int 1]) (QcV dC dI (TY cI cJ cII cJJ) (fun _ => [(a0, .inr (5, [.ref a3, .ref a2, .int 0, .int 1])), (a1, .inl (cJ, 4, .inr (.inl (tbl [1, 0, 0, 0])))), (a2, .inl (cI, 512, .inl (tb [1, 0, 0, 0])))])) (by decide +kernel) (Nat.le_of_ble_eq_true rfl) (fun p e s m below meth c A ls hx hb hr hml hown hts hk hnm hA hK hP hD hS hX hl => ?_)
  have hown : s.vm.findClass RX5 = some m.cls := hown
  have hl : lv_has ls 4 [(0, .ref a0), (1, .ref a1), (2, .int 1)] := hl
  refine lv_aload_n hx hb dX5_pushAhead_0 rfl (lv_at hl 0 rfl) ?_
  refine gf (k := 3) hx hb hts inX5 hown hK hP k_140 rfl (by decide) rfl 0 rfl (.int 0) rfl dX5_pushAhead_1 ?_
  refine lv_sipush (v := 128) hx hb dX5_pushAhead_4 (by decide) ?_
  refine t_icmp_lt hx hb dX5_pushAhead_7 11 (by decide) (by decide +kernel) ?_
  refine lv_iconst (v := 0) hx hb dX5_pushAhead_11 (by decide) ?_
  refine lv_istore_n (lv' := [(3, .int 0), (0, .ref a0), (1, .ref a1), (2, .int 1)]) hx hb dX5_pushAhead_12 rfl hl (by decide) rfl (fun ls hl => ?_)
  refine lv_iload_n hx hb dX5_pushAhead_13 rfl (lv_at hl 0 rfl) ?_
  refine lv_iconst (v := 4) hx hb dX5_pushAhead_14 (by decide) ?_
  refine f_icmp_ge hx hb dX5_pushAhead_15 44 (by decide) (by decide +kernel) ?_
  refine lv_aload_n hx hb dX5_pushAhead_18 rfl (lv_at hl 1 rfl) ?_
  refine gf (k := 1) hx hb hts inX5 hown hK hP k_138 rfl (by decide) rfl 0 rfl (.ref a2) rfl dX5_pushAhead_19 ?_
  refine lv_aload_n hx hb dX5_pushAhead_22 rfl (lv_at hl 1 rfl) ?_
  refine gf (k := 3) hx hb hts inX5 hown hK hP k_140 rfl (by decide) rfl 0 rfl (.int 0) rfl dX5_pushAhead_23 ?_
  refine lv_iconst (v := 4) hx hb dX5_pushAhead_26 (by decide) ?_
  refine v_imul hx hb dX5_pushAhead_27 0 (by decide +kernel) ?_
  refine lv_iload_n hx hb dX5_pushAhead_28 rfl (lv_at hl 0 rfl) ?_
  refine v_iadd hx hb dX5_pushAhead_29 0 (by decide +kernel) ?_
  refine lv_iload_n hx hb dX5_pushAhead_30 rfl (lv_at hl 3 rfl) ?_
  refine lv_i2l (v := 1) hx hb dX5_pushAhead_31 (by decide +kernel) ?_
  refine lv_aload_n hx hb dX5_pushAhead_32 rfl (lv_at hl 2 rfl) ?_
  refine lv_iload_n hx hb dX5_pushAhead_33 rfl (lv_at hl 0 rfl) ?_
  refine ld_l hx hb hK hP 1 rfl (vin (by decide +kernel)) dX5_pushAhead_34 1 rfl ?_
  refine v_lmul hx hb dX5_pushAhead_35 1 (by decide +kernel) ?_
  refine lv_l2i (v := 1) hx hb dX5_pushAhead_36 (by decide +kernel) ?_
  refine st_i hx hb hK hP hD hS 2 rfl (vin (by decide +kernel)) dX5_pushAhead_37 (L' := [1]) rfl (W' := [(a0, .inr (5, [.ref a3, .ref a2, .int 0, .int 0])), (a1, .inl (cJ, 4, .inr (.inl (tbl [1, 0, 0, 0])))), (a2, .inl (cI, 512, .inl (tb [1])))]) rfl (fun H locs hP hD hS => ?_)
  refine lv_iinc (v := 1) (lv' := [(3, .int 1), (0, .ref a0), (1, .ref a1), (2, .int 1)]) hx hb dX5_pushAhead_38 hl (k := 0) rfl (by decide +kernel) (by decide) rfl (fun ls hl => ?_)
  refine lv_goto (tgt := 13) hx hb dX5_pushAhead_41 (by decide) ?_
  refine lv_iload_n hx hb dX5_pushAhead_13 rfl (lv_at hl 0 rfl) ?_
  refine lv_iconst (v := 4) hx hb dX5_pushAhead_14 (by decide) ?_
  refine f_icmp_ge hx hb dX5_pushAhead_15 44 (by decide) (by decide +kernel) ?_
  refine lv_aload_n hx hb dX5_pushAhead_18 rfl (lv_at hl 1 rfl) ?_
  refine gf (k := 1) hx hb hts inX5 hown hK hP k_138 rfl (by decide) rfl 0 rfl (.ref a2) rfl dX5_pushAhead_19 ?_
  refine lv_aload_n hx hb dX5_pushAhead_22 rfl (lv_at hl 1 rfl) ?_
  refine gf (k := 3) hx hb hts inX5 hown hK hP k_140 rfl (by decide) rfl 0 rfl (.int 0) rfl dX5_pushAhead_23 ?_
  refine lv_iconst (v := 4) hx hb dX5_pushAhead_26 (by decide) ?_
  refine v_imul hx hb dX5_pushAhead_27 0 (by decide +kernel) ?_
  refine lv_iload_n hx hb dX5_pushAhead_28 rfl (lv_at hl 0 rfl) ?_
  refine v_iadd hx hb dX5_pushAhead_29 1 (by decide +kernel) ?_
  refine lv_iload_n hx hb dX5_pushAhead_30 rfl (lv_at hl 3 rfl) ?_
  refine lv_i2l (v := 1) hx hb dX5_pushAhead_31 (by decide +kernel) ?_
  refine lv_aload_n hx hb dX5_pushAhead_32 rfl (lv_at hl 2 rfl) ?_
  refine lv_iload_n hx hb dX5_pushAhead_33 rfl (lv_at hl 0 rfl) ?_
  refine ld_l hx hb hK hP 1 rfl (vin (by decide +kernel)) dX5_pushAhead_34 0 rfl ?_
  refine v_lmul hx hb dX5_pushAhead_35 0 (by decide +kernel) ?_
  refine lv_l2i (v := 0) hx hb dX5_pushAhead_36 (by decide +kernel) ?_
  refine st_i hx hb hK hP hD hS 2 rfl (vin (by decide +kernel)) dX5_pushAhead_37 (L' := [1, 0]) rfl (W' := [(a0, .inr (5, [.ref a3, .ref a2, .int 0, .int 0])), (a1, .inl (cJ, 4, .inr (.inl (tbl [1, 0, 0, 0])))), (a2, .inl (cI, 512, .inl (tb [1, 0])))]) rfl (fun H locs hP hD hS => ?_)
  refine lv_iinc (v := 2) (lv' := [(3, .int 2), (0, .ref a0), (1, .ref a1), (2, .int 1)]) hx hb dX5_pushAhead_38 hl (k := 0) rfl (by decide +kernel) (by decide) rfl (fun ls hl => ?_)
  refine lv_goto (tgt := 13) hx hb dX5_pushAhead_41 (by decide) ?_
  refine lv_iload_n hx hb dX5_pushAhead_13 rfl (lv_at hl 0 rfl) ?_
  refine lv_iconst (v := 4) hx hb dX5_pushAhead_14 (by decide) ?_
  refine f_icmp_ge hx hb dX5_pushAhead_15 44 (by decide) (by decide +kernel) ?_
  refine lv_aload_n hx hb dX5_pushAhead_18 rfl (lv_at hl 1 rfl) ?_
  refine gf (k := 1) hx hb hts inX5 hown hK hP k_138 rfl (by decide) rfl 0 rfl (.ref a2) rfl dX5_pushAhead_19 ?_
  refine lv_aload_n hx hb dX5_pushAhead_22 rfl (lv_at hl 1 rfl) ?_
  refine gf (k := 3) hx hb hts inX5 hown hK hP k_140 rfl (by decide) rfl 0 rfl (.int 0) rfl dX5_pushAhead_23 ?_
  refine lv_iconst (v := 4) hx hb dX5_pushAhead_26 (by decide) ?_
  refine v_imul hx hb dX5_pushAhead_27 0 (by decide +kernel) ?_
  refine lv_iload_n hx hb dX5_pushAhead_28 rfl (lv_at hl 0 rfl) ?_
  refine v_iadd hx hb dX5_pushAhead_29 2 (by decide +kernel) ?_
  refine lv_iload_n hx hb dX5_pushAhead_30 rfl (lv_at hl 3 rfl) ?_
  refine lv_i2l (v := 1) hx hb dX5_pushAhead_31 (by decide +kernel) ?_
  refine lv_aload_n hx hb dX5_pushAhead_32 rfl (lv_at hl 2 rfl) ?_
  refine lv_iload_n hx hb dX5_pushAhead_33 rfl (lv_at hl 0 rfl) ?_
  refine ld_l hx hb hK hP 1 rfl (vin (by decide +kernel)) dX5_pushAhead_34 0 rfl ?_
  refine v_lmul hx hb dX5_pushAhead_35 0 (by decide +kernel) ?_
  refine lv_l2i (v := 0) hx hb dX5_pushAhead_36 (by decide +kernel) ?_
  refine st_i hx hb hK hP hD hS 2 rfl (vin (by decide +kernel)) dX5_pushAhead_37 (L' := [1, 0, 0]) rfl (W' := [(a0, .inr (5, [.ref a3, .ref a2, .int 0, .int 0])), (a1, .inl (cJ, 4, .inr (.inl (tbl [1, 0, 0, 0])))), (a2, .inl (cI, 512, .inl (tb [1, 0, 0])))]) rfl (fun H locs hP hD hS => ?_)
  refine lv_iinc (v := 3) (lv' := [(3, .int 3), (0, .ref a0), (1, .ref a1), (2, .int 1)]) hx hb dX5_pushAhead_38 hl (k := 0) rfl (by decide +kernel) (by decide) rfl (fun ls hl => ?_)
  refine lv_goto (tgt := 13) hx hb dX5_pushAhead_41 (by decide) ?_
  refine lv_iload_n hx hb dX5_pushAhead_13 rfl (lv_at hl 0 rfl) ?_
  refine lv_iconst (v := 4) hx hb dX5_pushAhead_14 (by decide) ?_
  refine f_icmp_ge hx hb dX5_pushAhead_15 44 (by decide) (by decide +kernel) ?_
  refine lv_aload_n hx hb dX5_pushAhead_18 rfl (lv_at hl 1 rfl) ?_
  refine gf (k := 1) hx hb hts inX5 hown hK hP k_138 rfl (by decide) rfl 0 rfl (.ref a2) rfl dX5_pushAhead_19 ?_
  refine lv_aload_n hx hb dX5_pushAhead_22 rfl (lv_at hl 1 rfl) ?_
  refine gf (k := 3) hx hb hts inX5 hown hK hP k_140 rfl (by decide) rfl 0 rfl (.int 0) rfl dX5_pushAhead_23 ?_
  refine lv_iconst (v := 4) hx hb dX5_pushAhead_26 (by decide) ?_
  refine v_imul hx hb dX5_pushAhead_27 0 (by decide +kernel) ?_
  refine lv_iload_n hx hb dX5_pushAhead_28 rfl (lv_at hl 0 rfl) ?_
  refine v_iadd hx hb dX5_pushAhead_29 3 (by decide +kernel) ?_
  refine lv_iload_n hx hb dX5_pushAhead_30 rfl (lv_at hl 3 rfl) ?_
  refine lv_i2l (v := 1) hx hb dX5_pushAhead_31 (by decide +kernel) ?_
  refine lv_aload_n hx hb dX5_pushAhead_32 rfl (lv_at hl 2 rfl) ?_
  refine lv_iload_n hx hb dX5_pushAhead_33 rfl (lv_at hl 0 rfl) ?_
  refine ld_l hx hb hK hP 1 rfl (vin (by decide +kernel)) dX5_pushAhead_34 0 rfl ?_
  refine v_lmul hx hb dX5_pushAhead_35 0 (by decide +kernel) ?_
  refine lv_l2i (v := 0) hx hb dX5_pushAhead_36 (by decide +kernel) ?_
  refine st_i hx hb hK hP hD hS 2 rfl (vin (by decide +kernel)) dX5_pushAhead_37 (L' := [1, 0, 0, 0]) rfl (W' := [(a0, .inr (5, [.ref a3, .ref a2, .int 0, .int 0])), (a1, .inl (cJ, 4, .inr (.inl (tbl [1, 0, 0, 0])))), (a2, .inl (cI, 512, .inl (tb [1, 0, 0, 0])))]) rfl (fun H locs hP hD hS => ?_)
  refine lv_iinc (v := 4) (lv' := [(3, .int 4), (0, .ref a0), (1, .ref a1), (2, .int 1)]) hx hb dX5_pushAhead_38 hl (k := 0) rfl (by decide +kernel) (by decide) rfl (fun ls hl => ?_)
  refine lv_goto (tgt := 13) hx hb dX5_pushAhead_41 (by decide) ?_
  refine lv_iload_n hx hb dX5_pushAhead_13 rfl (lv_at hl 0 rfl) ?_
  refine lv_iconst (v := 4) hx hb dX5_pushAhead_14 (by decide) ?_
  refine t_icmp_ge hx hb dX5_pushAhead_15 44 (by decide) (by decide +kernel) ?_
  refine lv_aload_n hx hb dX5_pushAhead_44 rfl (lv_at hl 1 rfl) ?_
  refine lv_dup hx hb dX5_pushAhead_45 rfl ?_
  refine gf (k := 3) hx hb hts inX5 hown hK hP k_140 rfl (by decide) rfl 0 rfl (.int 0) rfl dX5_pushAhead_46 ?_
  refine lv_iconst (v := 1) hx hb dX5_pushAhead_49 (by decide) ?_
  refine v_iadd hx hb dX5_pushAhead_50 1 (by decide +kernel) ?_
  refine pf (k := 3) hx hb hts inX5 tyX5_ok nmX5 hown hK hP hD hS k_140 rfl (by decide) rfl rfl 0 rfl rfl rfl (Nat.le_of_ble_eq_true rfl) dX5_pushAhead_51 (W' := [(a0, .inr (5, [.ref a3, .ref a2, .int 0, .int 1])), (a1, .inl (cJ, 4, .inr (.inl (tbl [1, 0, 0, 0])))), (a2, .inl (cI, 512, .inl (tb [1, 0, 0, 0])))]) rfl (fun H locs hP hD hS => ?_)
  exact r_v (fun _ => 0) hx hb hr hk hK hP hD hS dX5_pushAhead_54
set_option maxRecDepth 100000 in
set_option maxHeartbeats 4000000 in
theorem c103_X5_keepNext (l : Launch) (dC : Nat → ClassId) (dI : Nat → Nat → Nat) (cI cJ cII cJJ : ClassId) (sz g a0 a1 a2 : Nat) : Met l yX5_keepNext (.code yX5_keepNext cX5_keepNext 2 none :: TT) ({ frames := 2, cells := 0, slots := 0, locals := 80 }) (PcS dC dI (TY cI cJ cII cJJ) [.ref a0] [(a0, .inr (5, [.ref a2, .ref a1, .int 0, .int 1])), (a1, .inl (cI, 512, .inl (tb [1, 0, 0, 0]))), (a2, .inl (cI, 512, .inl (tb [])))] sz 0 g) ((QcV dC dI (TY cI cJ cII cJJ) (fun _ => [(a0, .inr (5, [.ref a2, .ref a1, .int 1, .int 0])), (a1, .inl (cI, 512, .inl (tb [1, 0, 0, 0]))), (a2, .inl (cI, 512, .inl (tb [1, 0, 0, 0])))])) (va_A [(a0, .inr (5, [.ref a2, .ref a1, .int 0, .int 1])), (a1, .inl (cI, 512, .inl (tb [1, 0, 0, 0]))), (a2, .inl (cI, 512, .inl (tb [])))] sz)) 0 0 (va_A [(a0, .inr (5, [.ref a2, .ref a1, .int 0, .int 1])), (a1, .inl (cI, 512, .inl (tb [1, 0, 0, 0]))), (a2, .inl (cI, 512, .inl (tb [])))] sz) := by
  refine SM.of (y := yX5_keepNext) (maxL := 2) (av := [.ref a0]) (QcV dC dI (TY cI cJ cII cJJ) (fun _ => [(a0, .inr (5, [.ref a2, .ref a1, .int 1, .int 0])), (a1, .inl (cI, 512, .inl (tb [1, 0, 0, 0]))), (a2, .inl (cI, 512, .inl (tb [1, 0, 0, 0])))])) (by decide +kernel) (Nat.le_of_ble_eq_true rfl) (fun p e s m below meth c A ls hx hb hr hml hown hts hk hnm hA hK hP hD hS hX hl => ?_)
  have hown : s.vm.findClass RX5 = some m.cls := hown
  have hl : lv_has ls 2 [(0, .ref a0)] := hl
  refine lv_aload_n hx hb dX5_keepNext_0 rfl (lv_at hl 0 rfl) ?_
  refine gf (k := 3) hx hb hts inX5 hown hK hP k_140 rfl (by decide) rfl 0 rfl (.int 1) rfl dX5_keepNext_1 ?_
  refine f_if_le hx hb dX5_keepNext_4 17 (by decide) (by decide +kernel) ?_
  refine lv_aload_n hx hb dX5_keepNext_7 rfl (lv_at hl 0 rfl) ?_
  refine gf (k := 2) hx hb hts inX5 hown hK hP k_139 rfl (by decide) rfl 0 rfl (.int 0) rfl dX5_keepNext_8 ?_
  refine lv_sipush (v := 128) hx hb dX5_keepNext_11 (by decide) ?_
  refine t_icmp_lt hx hb dX5_keepNext_14 18 (by decide) (by decide +kernel) ?_
  refine lv_aload_n hx hb dX5_keepNext_18 rfl (lv_at hl 0 rfl) ?_
  refine lv_dup hx hb dX5_keepNext_19 rfl ?_
  refine gf (k := 3) hx hb hts inX5 hown hK hP k_140 rfl (by decide) rfl 0 rfl (.int 1) rfl dX5_keepNext_20 ?_
  refine lv_iconst (v := 1) hx hb dX5_keepNext_23 (by decide) ?_
  refine v_isub hx hb dX5_keepNext_24 0 (by decide +kernel) ?_
  refine pf (k := 3) hx hb hts inX5 tyX5_ok nmX5 hown hK hP hD hS k_140 rfl (by decide) rfl rfl 0 rfl rfl rfl (Nat.le_of_ble_eq_true rfl) dX5_keepNext_25 (W' := [(a0, .inr (5, [.ref a2, .ref a1, .int 0, .int 0])), (a1, .inl (cI, 512, .inl (tb [1, 0, 0, 0]))), (a2, .inl (cI, 512, .inl (tb [])))]) rfl (fun H locs hP hD hS => ?_)
  refine lv_aload_n hx hb dX5_keepNext_28 rfl (lv_at hl 0 rfl) ?_
  refine gf (k := 3) hx hb hts inX5 hown hK hP k_140 rfl (by decide) rfl 0 rfl (.int 0) rfl dX5_keepNext_29 ?_
  refine lv_iconst (v := 4) hx hb dX5_keepNext_32 (by decide) ?_
  refine v_imul hx hb dX5_keepNext_33 0 (by decide +kernel) ?_
  refine lv_istore_n (lv' := [(1, .int 0), (0, .ref a0)]) hx hb dX5_keepNext_34 rfl hl (by decide) rfl (fun ls hl => ?_)
  refine lv_aload_n hx hb dX5_keepNext_35 rfl (lv_at hl 1 rfl) ?_
  refine gf (k := 1) hx hb hts inX5 hown hK hP k_138 rfl (by decide) rfl 0 rfl (.ref a1) rfl dX5_keepNext_36 ?_
  refine lv_iload_n hx hb dX5_keepNext_39 rfl (lv_at hl 0 rfl) ?_
  refine lv_aload_n hx hb dX5_keepNext_40 rfl (lv_at hl 1 rfl) ?_
  refine gf (k := 0) hx hb hts inX5 hown hK hP k_137 rfl (by decide) rfl 0 rfl (.ref a2) rfl dX5_keepNext_41 ?_
  refine lv_aload_n hx hb dX5_keepNext_44 rfl (lv_at hl 1 rfl) ?_
  refine gf (k := 2) hx hb hts inX5 hown hK hP k_139 rfl (by decide) rfl 0 rfl (.int 0) rfl dX5_keepNext_45 ?_
  refine lv_iconst (v := 4) hx hb dX5_keepNext_48 (by decide) ?_
  refine v_imul hx hb dX5_keepNext_49 0 (by decide +kernel) ?_
  refine lv_iconst (v := 4) hx hb dX5_keepNext_50 (by decide) ?_
  refine cp_i hx hb (by rw [hml]; exact hl.1.symm) hown (hts _ k_486) (hts _ k_372) (hts _ k_371) (hts _ k_12) hK hP hD hS 1 2 rfl rfl (by decide +kernel) (by decide +kernel) (by decide +kernel) (by decide +kernel) (by decide +kernel) (by decide) (Nat.le_of_ble_eq_true rfl) dX5_keepNext_51 (L' := [1, 0, 0, 0]) rfl (W' := [(a0, .inr (5, [.ref a2, .ref a1, .int 0, .int 0])), (a1, .inl (cI, 512, .inl (tb [1, 0, 0, 0]))), (a2, .inl (cI, 512, .inl (tb [1, 0, 0, 0])))]) rfl (fun H locs hP hD hS => ?_)
  refine lv_aload_n hx hb dX5_keepNext_54 rfl (lv_at hl 1 rfl) ?_
  refine lv_dup hx hb dX5_keepNext_55 rfl ?_
  refine gf (k := 2) hx hb hts inX5 hown hK hP k_139 rfl (by decide) rfl 0 rfl (.int 0) rfl dX5_keepNext_56 ?_
  refine lv_iconst (v := 1) hx hb dX5_keepNext_59 (by decide) ?_
  refine v_iadd hx hb dX5_keepNext_60 1 (by decide +kernel) ?_
  refine pf (k := 2) hx hb hts inX5 tyX5_ok nmX5 hown hK hP hD hS k_139 rfl (by decide) rfl rfl 0 rfl rfl rfl (Nat.le_of_ble_eq_true rfl) dX5_keepNext_61 (W' := [(a0, .inr (5, [.ref a2, .ref a1, .int 1, .int 0])), (a1, .inl (cI, 512, .inl (tb [1, 0, 0, 0]))), (a2, .inl (cI, 512, .inl (tb [1, 0, 0, 0])))]) rfl (fun H locs hP hD hS => ?_)
  exact r_v (fun _ => 0) hx hb hr hk hK hP hD hS dX5_keepNext_64
set_option maxRecDepth 100000 in
set_option maxHeartbeats 4000000 in
theorem c101_X5_walk (l : Launch) (dC : Nat → ClassId) (dI : Nat → Nat → Nat) (cI cJ cII cJJ : ClassId) (sz g a0 a1 a2 a3 a4 : Nat) : Met l yX5_walk (.code yX5_walk cX5_walk 7 none :: TT) ({ frames := 3, cells := 0, slots := 0, locals := 140 }) (PcS dC dI (TY cI cJ cII cJJ) [.ref a0, .ref a1, .ref a4, .int 0] [(a0, .inr (5, [.ref a3, .ref a2, .int 0, .int 0])), (a1, .inl (cJ, 4, .inr (.inl (tbl [1, 0, 0, 0])))), (a2, .inl (cI, 512, .inl (tb []))), (a3, .inl (cI, 512, .inl (tb [])))] sz 0 g) ((QcV dC dI (TY cI cJ cII cJJ) (fun _ => [(a1, .inl (cJ, 4, .inr (.inl (tbl [1, 0, 0, 0])))), (a0, .inr (5, [.ref a3, .ref a2, .int 1, .int 0])), (a2, .inl (cI, 512, .inl (tb [1, 0, 0, 0]))), (a3, .inl (cI, 512, .inl (tb [1, 0, 0, 0])))])) (va_A [(a0, .inr (5, [.ref a3, .ref a2, .int 0, .int 0])), (a1, .inl (cJ, 4, .inr (.inl (tbl [1, 0, 0, 0])))), (a2, .inl (cI, 512, .inl (tb []))), (a3, .inl (cI, 512, .inl (tb [])))] sz)) 0 0 (va_A [(a0, .inr (5, [.ref a3, .ref a2, .int 0, .int 0])), (a1, .inl (cJ, 4, .inr (.inl (tbl [1, 0, 0, 0])))), (a2, .inl (cI, 512, .inl (tb []))), (a3, .inl (cI, 512, .inl (tb [])))] sz) := by
  refine SM.of (y := yX5_walk) (maxL := 7) (av := [.ref a0, .ref a1, .ref a4, .int 0]) (QcV dC dI (TY cI cJ cII cJJ) (fun _ => [(a1, .inl (cJ, 4, .inr (.inl (tbl [1, 0, 0, 0])))), (a0, .inr (5, [.ref a3, .ref a2, .int 1, .int 0])), (a2, .inl (cI, 512, .inl (tb [1, 0, 0, 0]))), (a3, .inl (cI, 512, .inl (tb [1, 0, 0, 0])))])) (by decide +kernel) (Nat.le_of_ble_eq_true rfl) (fun p e s m below meth c A ls hx hb hr hml hown hts hk hnm hA hK hP hD hS hX hl => ?_)
  have hown : s.vm.findClass RX5 = some m.cls := hown
  have hl : lv_has ls 7 [(0, .ref a0), (1, .ref a1), (2, .ref a4), (3, .int 0)] := hl
  refine lv_aload_n hx hb dX5_walk_0 rfl (lv_at hl 0 rfl) ?_
  refine lv_iconst (v := 0) hx hb dX5_walk_1 (by decide) ?_
  refine pf (k := 2) hx hb hts inX5 tyX5_ok nmX5 hown hK hP hD hS k_139 rfl (by decide) rfl rfl 0 rfl rfl rfl (Nat.le_of_ble_eq_true rfl) dX5_walk_2 (W' := [(a0, .inr (5, [.ref a3, .ref a2, .int 0, .int 0])), (a1, .inl (cJ, 4, .inr (.inl (tbl [1, 0, 0, 0])))), (a2, .inl (cI, 512, .inl (tb []))), (a3, .inl (cI, 512, .inl (tb [])))]) rfl (fun H locs hP hD hS => ?_)
  refine lv_aload_n hx hb dX5_walk_5 rfl (lv_at hl 0 rfl) ?_
  refine lv_iconst (v := 0) hx hb dX5_walk_6 (by decide) ?_
  refine pf (k := 3) hx hb hts inX5 tyX5_ok nmX5 hown hK hP hD hS k_140 rfl (by decide) rfl rfl 0 rfl rfl rfl (Nat.le_of_ble_eq_true rfl) dX5_walk_7 (W' := [(a0, .inr (5, [.ref a3, .ref a2, .int 0, .int 0])), (a1, .inl (cJ, 4, .inr (.inl (tbl [1, 0, 0, 0])))), (a2, .inl (cI, 512, .inl (tb []))), (a3, .inl (cI, 512, .inl (tb [])))]) rfl (fun H locs hP hD hS => ?_)
  refine lv_aload_n hx hb dX5_walk_10 rfl (lv_at hl 0 rfl) ?_
  refine lv_aload_n hx hb dX5_walk_11 rfl (lv_at hl 1 rfl) ?_
  refine lv_iconst (v := 1) hx hb dX5_walk_12 (by decide) ?_
  refine kV_v (q0 := 0) ⟨hx, hb, hml, hown, hts⟩ hK hP hD hS hA hX cv_RX5_25 [0, 1, 2] [3] (wr := [(a3, .inl (cI, 512, .inl (tb [])))]) rfl rfl rfl rfl (by decide) (c102_X5_pushAhead l dC dI cI cJ cII cJJ H.size 0 a0 a1 a2 a3) ⟨by decide +kernel, by decide +kernel⟩ rfl rfl (Or.inl rfl) (rest := []) rfl rfl rfl hl.1 rfl (Nat.le_of_ble_eq_true rfl) dX5_walk_13 ⟨Nat.le_of_ble_eq_true rfl, Nat.le_of_ble_eq_true rfl⟩ (fun _ => rfl) (W' := [(a3, .inl (cI, 512, .inl (tb []))), (a0, .inr (5, [.ref a3, .ref a2, .int 0, .int 1])), (a1, .inl (cJ, 4, .inr (.inl (tbl [1, 0, 0, 0])))), (a2, .inl (cI, 512, .inl (tb [1, 0, 0, 0])))]) rfl (fun H locs hP hD hS => ?_)
  refine lv_aload_n hx hb dX5_walk_16 rfl (lv_at hl 0 rfl) ?_
  refine kV_v (q0 := 0) ⟨hx, hb, hml, hown, hts⟩ hK hP hD hS hA hX cv_RX5_29 [1, 3, 0] [2] (wr := [(a1, .inl (cJ, 4, .inr (.inl (tbl [1, 0, 0, 0]))))]) rfl rfl rfl rfl (by decide) (c103_X5_keepNext l dC dI cI cJ cII cJJ H.size 0 a0 a2 a3) ⟨by decide +kernel, by decide +kernel⟩ rfl rfl (Or.inl rfl) (rest := []) rfl rfl rfl hl.1 rfl (Nat.le_of_ble_eq_true rfl) dX5_walk_17 ⟨Nat.le_of_ble_eq_true rfl, Nat.le_of_ble_eq_true rfl⟩ (fun _ => rfl) (W' := [(a1, .inl (cJ, 4, .inr (.inl (tbl [1, 0, 0, 0])))), (a0, .inr (5, [.ref a3, .ref a2, .int 1, .int 0])), (a2, .inl (cI, 512, .inl (tb [1, 0, 0, 0]))), (a3, .inl (cI, 512, .inl (tb [1, 0, 0, 0])))]) rfl (fun H locs hP hD hS => ?_)
  refine lv_iload_n hx hb dX5_walk_20 rfl (lv_at hl 3 rfl) ?_
  refine f_if_ne hx hb dX5_walk_21 25 (by decide) (by decide +kernel) ?_
  exact r_v (fun _ => 0) hx hb hr hk hK hP hD hS dX5_walk_24
set_option maxRecDepth 100000 in
set_option maxHeartbeats 4000000 in
theorem c105_X7_append (l : Launch) (dC : Nat → ClassId) (dI : Nat → Nat → Nat) (cI cJ cII cJJ : ClassId) (sz g a0 a1 a2 : Nat) : Met l yX7_append (.code yX7_append cX7_append 7 none :: TT) ({ frames := 2, cells := 0, slots := 0, locals := 80 }) (PcS dC dI (TY cI cJ cII cJJ) [.ref a0, .ref a1, .int 0, .int 1] [(a0, .inr (7, [.ref a2, .int 0])), (a1, .inl (cI, 512, .inl (tb [1, 0, 0, 0]))), (a2, .inl (cJ, 256, .inr (.inl (tbl []))))] sz 0 g) ((QcV dC dI (TY cI cJ cII cJJ) (fun _ => [(a0, .inr (7, [.ref a2, .int 1])), (a1, .inl (cI, 512, .inl (tb [1, 0, 0, 0]))), (a2, .inl (cJ, 256, .inr (.inl (tbl [8808980022272]))))])) (va_A [(a0, .inr (7, [.ref a2, .int 0])), (a1, .inl (cI, 512, .inl (tb [1, 0, 0, 0]))), (a2, .inl (cJ, 256, .inr (.inl (tbl []))))] sz)) 0 0 (va_A [(a0, .inr (7, [.ref a2, .int 0])), (a1, .inl (cI, 512, .inl (tb [1, 0, 0, 0]))), (a2, .inl (cJ, 256, .inr (.inl (tbl []))))] sz) := by
  refine SM.of (y := yX7_append) (maxL := 7) (av := [.ref a0, .ref a1, .int 0, .int 1]) (QcV dC dI (TY cI cJ cII cJJ) (fun _ => [(a0, .inr (7, [.ref a2, .int 1])), (a1, .inl (cI, 512, .inl (tb [1, 0, 0, 0]))), (a2, .inl (cJ, 256, .inr (.inl (tbl [8808980022272]))))])) (by decide +kernel) (Nat.le_of_ble_eq_true rfl) (fun p e s m below meth c A ls hx hb hr hml hown hts hk hnm hA hK hP hD hS hX hl => ?_)
  have hown : s.vm.findClass RX7 = some m.cls := hown
  have hl : lv_has ls 7 [(0, .ref a0), (1, .ref a1), (2, .int 0), (3, .int 1)] := hl
  refine lv_aload_n hx hb dX7_append_0 rfl (lv_at hl 0 rfl) ?_
  refine gf (k := 1) hx hb hts inX7 hown hK hP k_101 rfl (by decide) rfl 0 rfl (.int 0) rfl dX7_append_1 ?_
  refine lv_sipush (v := 256) hx hb dX7_append_4 (by decide) ?_
  refine f_icmp_ge hx hb dX7_append_7 22 (by decide) (by decide +kernel) ?_
  refine lv_iload_n hx hb dX7_append_10 rfl (lv_at hl 2 rfl) ?_
  refine f_if_lt hx hb dX7_append_11 22 (by decide) (by decide +kernel) ?_
  refine lv_iload_n hx hb dX7_append_14 rfl (lv_at hl 2 rfl) ?_
  refine lv_aload_n hx hb dX7_append_15 rfl (lv_at hl 1 rfl) ?_
  refine al_ hx hb hK hP 1 0 rfl rfl dX7_append_16 512 rfl ?_
  refine lv_iconst (v := 4) hx hb dX7_append_17 (by decide) ?_
  refine v_isub hx hb dX7_append_18 508 (by decide +kernel) ?_
  refine t_icmp_le hx hb dX7_append_19 23 (by decide) (by decide +kernel) ?_
  refine lv_lconst (v := 0) hx hb dX7_append_23 (by decide) ?_
  refine lv_lstore (lv' := [(4, .long 0), (0, .ref a0), (1, .ref a1), (2, .int 0), (3, .int 1)]) hx hb dX7_append_24 hl (by decide) rfl (fun ls hl => ?_)
  refine lv_iconst (v := 0) hx hb dX7_append_26 (by decide) ?_
  refine lv_istore (lv' := [(6, .int 0), (4, .long 0), (0, .ref a0), (1, .ref a1), (2, .int 0), (3, .int 1)]) hx hb dX7_append_27 hl (by decide) rfl (fun ls hl => ?_)
  refine lv_iload hx hb dX7_append_29 (lv_at hl 0 rfl) ?_
  refine lv_iconst (v := 4) hx hb dX7_append_31 (by decide) ?_
  refine f_icmp_ge hx hb dX7_append_32 66 (by decide) (by decide +kernel) ?_
  refine lv_lload hx hb dX7_append_35 (lv_at hl 1 rfl) ?_
  refine lv_bipush (v := 11) hx hb dX7_append_37 (by decide) ?_
  refine lv_lshl (v := 0) hx hb dX7_append_39 (by decide +kernel) ?_
  refine lv_iload_n hx hb dX7_append_40 rfl (lv_at hl 5 rfl) ?_
  refine lv_aload_n hx hb dX7_append_41 rfl (lv_at hl 3 rfl) ?_
  refine lv_iload_n hx hb dX7_append_42 rfl (lv_at hl 4 rfl) ?_
  refine lv_iload hx hb dX7_append_43 (lv_at hl 0 rfl) ?_
  refine v_iadd hx hb dX7_append_45 0 (by decide +kernel) ?_
  refine ld_i hx hb hK hP 1 rfl (vin (by decide +kernel)) dX7_append_46 1 rfl ?_
  refine v_imul hx hb dX7_append_47 1 (by decide +kernel) ?_
  refine lv_sipush (v := 1024) hx hb dX7_append_48 (by decide) ?_
  refine v_iadd hx hb dX7_append_51 1025 (by decide +kernel) ?_
  refine lv_sipush (v := 2047) hx hb dX7_append_52 (by decide) ?_
  refine v_iand hx hb dX7_append_55 1025 (by decide +kernel) ?_
  refine lv_i2l (v := 1025) hx hb dX7_append_56 (by decide +kernel) ?_
  refine v_lor hx hb dX7_append_57 1025 (by decide +kernel) ?_
  refine lv_lstore (lv' := [(4, .long 1025), (6, .int 0), (0, .ref a0), (1, .ref a1), (2, .int 0), (3, .int 1)]) hx hb dX7_append_58 hl (by decide) rfl (fun ls hl => ?_)
  refine lv_iinc (v := 1) (lv' := [(6, .int 1), (4, .long 1025), (0, .ref a0), (1, .ref a1), (2, .int 0), (3, .int 1)]) hx hb dX7_append_60 hl (k := 1) rfl (by decide +kernel) (by decide) rfl (fun ls hl => ?_)
  refine lv_goto (tgt := 29) hx hb dX7_append_63 (by decide) ?_
  refine lv_iload hx hb dX7_append_29 (lv_at hl 0 rfl) ?_
  refine lv_iconst (v := 4) hx hb dX7_append_31 (by decide) ?_
  refine f_icmp_ge hx hb dX7_append_32 66 (by decide) (by decide +kernel) ?_
  refine lv_lload hx hb dX7_append_35 (lv_at hl 1 rfl) ?_
  refine lv_bipush (v := 11) hx hb dX7_append_37 (by decide) ?_
  refine lv_lshl (v := 2099200) hx hb dX7_append_39 (by decide +kernel) ?_
  refine lv_iload_n hx hb dX7_append_40 rfl (lv_at hl 5 rfl) ?_
  refine lv_aload_n hx hb dX7_append_41 rfl (lv_at hl 3 rfl) ?_
  refine lv_iload_n hx hb dX7_append_42 rfl (lv_at hl 4 rfl) ?_
  refine lv_iload hx hb dX7_append_43 (lv_at hl 0 rfl) ?_
  refine v_iadd hx hb dX7_append_45 1 (by decide +kernel) ?_
  refine ld_i hx hb hK hP 1 rfl (vin (by decide +kernel)) dX7_append_46 0 rfl ?_
  refine v_imul hx hb dX7_append_47 0 (by decide +kernel) ?_
  refine lv_sipush (v := 1024) hx hb dX7_append_48 (by decide) ?_
  refine v_iadd hx hb dX7_append_51 1024 (by decide +kernel) ?_
  refine lv_sipush (v := 2047) hx hb dX7_append_52 (by decide) ?_
  refine v_iand hx hb dX7_append_55 1024 (by decide +kernel) ?_
  refine lv_i2l (v := 1024) hx hb dX7_append_56 (by decide +kernel) ?_
  refine v_lor hx hb dX7_append_57 2100224 (by decide +kernel) ?_
  refine lv_lstore (lv' := [(4, .long 2100224), (6, .int 1), (0, .ref a0), (1, .ref a1), (2, .int 0), (3, .int 1)]) hx hb dX7_append_58 hl (by decide) rfl (fun ls hl => ?_)
  refine lv_iinc (v := 2) (lv' := [(6, .int 2), (4, .long 2100224), (0, .ref a0), (1, .ref a1), (2, .int 0), (3, .int 1)]) hx hb dX7_append_60 hl (k := 1) rfl (by decide +kernel) (by decide) rfl (fun ls hl => ?_)
  refine lv_goto (tgt := 29) hx hb dX7_append_63 (by decide) ?_
  refine lv_iload hx hb dX7_append_29 (lv_at hl 0 rfl) ?_
  refine lv_iconst (v := 4) hx hb dX7_append_31 (by decide) ?_
  refine f_icmp_ge hx hb dX7_append_32 66 (by decide) (by decide +kernel) ?_
  refine lv_lload hx hb dX7_append_35 (lv_at hl 1 rfl) ?_
  refine lv_bipush (v := 11) hx hb dX7_append_37 (by decide) ?_
  refine lv_lshl (v := 4301258752) hx hb dX7_append_39 (by decide +kernel) ?_
  refine lv_iload_n hx hb dX7_append_40 rfl (lv_at hl 5 rfl) ?_
  refine lv_aload_n hx hb dX7_append_41 rfl (lv_at hl 3 rfl) ?_
  refine lv_iload_n hx hb dX7_append_42 rfl (lv_at hl 4 rfl) ?_
  refine lv_iload hx hb dX7_append_43 (lv_at hl 0 rfl) ?_
  refine v_iadd hx hb dX7_append_45 2 (by decide +kernel) ?_
  refine ld_i hx hb hK hP 1 rfl (vin (by decide +kernel)) dX7_append_46 0 rfl ?_
  refine v_imul hx hb dX7_append_47 0 (by decide +kernel) ?_
  refine lv_sipush (v := 1024) hx hb dX7_append_48 (by decide) ?_
  refine v_iadd hx hb dX7_append_51 1024 (by decide +kernel) ?_
  refine lv_sipush (v := 2047) hx hb dX7_append_52 (by decide) ?_
  refine v_iand hx hb dX7_append_55 1024 (by decide +kernel) ?_
  refine lv_i2l (v := 1024) hx hb dX7_append_56 (by decide +kernel) ?_
  refine v_lor hx hb dX7_append_57 4301259776 (by decide +kernel) ?_
  refine lv_lstore (lv' := [(4, .long 4301259776), (6, .int 2), (0, .ref a0), (1, .ref a1), (2, .int 0), (3, .int 1)]) hx hb dX7_append_58 hl (by decide) rfl (fun ls hl => ?_)
  refine lv_iinc (v := 3) (lv' := [(6, .int 3), (4, .long 4301259776), (0, .ref a0), (1, .ref a1), (2, .int 0), (3, .int 1)]) hx hb dX7_append_60 hl (k := 1) rfl (by decide +kernel) (by decide) rfl (fun ls hl => ?_)
  refine lv_goto (tgt := 29) hx hb dX7_append_63 (by decide) ?_
  refine lv_iload hx hb dX7_append_29 (lv_at hl 0 rfl) ?_
  refine lv_iconst (v := 4) hx hb dX7_append_31 (by decide) ?_
  refine f_icmp_ge hx hb dX7_append_32 66 (by decide) (by decide +kernel) ?_
  refine lv_lload hx hb dX7_append_35 (lv_at hl 1 rfl) ?_
  refine lv_bipush (v := 11) hx hb dX7_append_37 (by decide) ?_
  refine lv_lshl (v := 8808980021248) hx hb dX7_append_39 (by decide +kernel) ?_
  refine lv_iload_n hx hb dX7_append_40 rfl (lv_at hl 5 rfl) ?_
  refine lv_aload_n hx hb dX7_append_41 rfl (lv_at hl 3 rfl) ?_
  refine lv_iload_n hx hb dX7_append_42 rfl (lv_at hl 4 rfl) ?_
  refine lv_iload hx hb dX7_append_43 (lv_at hl 0 rfl) ?_
  refine v_iadd hx hb dX7_append_45 3 (by decide +kernel) ?_
  refine ld_i hx hb hK hP 1 rfl (vin (by decide +kernel)) dX7_append_46 0 rfl ?_
  refine v_imul hx hb dX7_append_47 0 (by decide +kernel) ?_
  refine lv_sipush (v := 1024) hx hb dX7_append_48 (by decide) ?_
  refine v_iadd hx hb dX7_append_51 1024 (by decide +kernel) ?_
  refine lv_sipush (v := 2047) hx hb dX7_append_52 (by decide) ?_
  refine v_iand hx hb dX7_append_55 1024 (by decide +kernel) ?_
  refine lv_i2l (v := 1024) hx hb dX7_append_56 (by decide +kernel) ?_
  refine v_lor hx hb dX7_append_57 8808980022272 (by decide +kernel) ?_
  refine lv_lstore (lv' := [(4, .long 8808980022272), (6, .int 3), (0, .ref a0), (1, .ref a1), (2, .int 0), (3, .int 1)]) hx hb dX7_append_58 hl (by decide) rfl (fun ls hl => ?_)
  refine lv_iinc (v := 4) (lv' := [(6, .int 4), (4, .long 8808980022272), (0, .ref a0), (1, .ref a1), (2, .int 0), (3, .int 1)]) hx hb dX7_append_60 hl (k := 1) rfl (by decide +kernel) (by decide) rfl (fun ls hl => ?_)
  refine lv_goto (tgt := 29) hx hb dX7_append_63 (by decide) ?_
  refine lv_iload hx hb dX7_append_29 (lv_at hl 0 rfl) ?_
  refine lv_iconst (v := 4) hx hb dX7_append_31 (by decide) ?_
  refine t_icmp_ge hx hb dX7_append_32 66 (by decide) (by decide +kernel) ?_
  refine lv_aload_n hx hb dX7_append_66 rfl (lv_at hl 2 rfl) ?_
  refine gf (k := 0) hx hb hts inX7 hown hK hP k_100 rfl (by decide) rfl 0 rfl (.ref a2) rfl dX7_append_67 ?_
  refine lv_aload_n hx hb dX7_append_70 rfl (lv_at hl 2 rfl) ?_
  refine gf (k := 1) hx hb hts inX7 hown hK hP k_101 rfl (by decide) rfl 0 rfl (.int 0) rfl dX7_append_71 ?_
  refine lv_lload hx hb dX7_append_74 (lv_at hl 1 rfl) ?_
  refine st_l hx hb hK hP hD hS 2 rfl (vin (by decide +kernel)) dX7_append_76 (L' := [8808980022272]) rfl (W' := [(a0, .inr (7, [.ref a2, .int 0])), (a1, .inl (cI, 512, .inl (tb [1, 0, 0, 0]))), (a2, .inl (cJ, 256, .inr (.inl (tbl [8808980022272]))))]) rfl (fun H locs hP hD hS => ?_)
  refine lv_aload_n hx hb dX7_append_77 rfl (lv_at hl 2 rfl) ?_
  refine lv_dup hx hb dX7_append_78 rfl ?_
  refine gf (k := 1) hx hb hts inX7 hown hK hP k_101 rfl (by decide) rfl 0 rfl (.int 0) rfl dX7_append_79 ?_
  refine lv_iconst (v := 1) hx hb dX7_append_82 (by decide) ?_
  refine v_iadd hx hb dX7_append_83 1 (by decide +kernel) ?_
  refine pf (k := 1) hx hb hts inX7 tyX7_ok nmX7 hown hK hP hD hS k_101 rfl (by decide) rfl rfl 0 rfl rfl rfl (Nat.le_of_ble_eq_true rfl) dX7_append_84 (W' := [(a0, .inr (7, [.ref a2, .int 1])), (a1, .inl (cI, 512, .inl (tb [1, 0, 0, 0]))), (a2, .inl (cJ, 256, .inr (.inl (tbl [8808980022272]))))]) rfl (fun H locs hP hD hS => ?_)
  exact r_v (fun _ => 0) hx hb hr hk hK hP hD hS dX7_append_87
set_option maxRecDepth 100000 in
set_option maxHeartbeats 4000000 in
theorem c106_X7_append (l : Launch) (dC : Nat → ClassId) (dI : Nat → Nat → Nat) (cI cJ cII cJJ : ClassId) (sz g a0 a1 a2 : Nat) : Met l yX7_append (.code yX7_append cX7_append 7 none :: TT) ({ frames := 2, cells := 0, slots := 0, locals := 80 }) (PcS dC dI (TY cI cJ cII cJJ) [.ref a0, .ref a1, .int 0, .int (-1)] [(a0, .inr (7, [.ref a2, .int 1])), (a1, .inl (cI, 512, .inl (tb [1, 0, 0, 0]))), (a2, .inl (cJ, 256, .inr (.inl (tbl [8808980022272]))))] sz 0 g) ((QcV dC dI (TY cI cJ cII cJJ) (fun _ => [(a0, .inr (7, [.ref a2, .int 2])), (a1, .inl (cI, 512, .inl (tb [1, 0, 0, 0]))), (a2, .inl (cJ, 256, .inr (.inl (tbl [8808980022272, 8791800153088]))))])) (va_A [(a0, .inr (7, [.ref a2, .int 1])), (a1, .inl (cI, 512, .inl (tb [1, 0, 0, 0]))), (a2, .inl (cJ, 256, .inr (.inl (tbl [8808980022272]))))] sz)) 0 0 (va_A [(a0, .inr (7, [.ref a2, .int 1])), (a1, .inl (cI, 512, .inl (tb [1, 0, 0, 0]))), (a2, .inl (cJ, 256, .inr (.inl (tbl [8808980022272]))))] sz) := by
  refine SM.of (y := yX7_append) (maxL := 7) (av := [.ref a0, .ref a1, .int 0, .int (-1)]) (QcV dC dI (TY cI cJ cII cJJ) (fun _ => [(a0, .inr (7, [.ref a2, .int 2])), (a1, .inl (cI, 512, .inl (tb [1, 0, 0, 0]))), (a2, .inl (cJ, 256, .inr (.inl (tbl [8808980022272, 8791800153088]))))])) (by decide +kernel) (Nat.le_of_ble_eq_true rfl) (fun p e s m below meth c A ls hx hb hr hml hown hts hk hnm hA hK hP hD hS hX hl => ?_)
  have hown : s.vm.findClass RX7 = some m.cls := hown
  have hl : lv_has ls 7 [(0, .ref a0), (1, .ref a1), (2, .int 0), (3, .int (-1))] := hl
  refine lv_aload_n hx hb dX7_append_0 rfl (lv_at hl 0 rfl) ?_
  refine gf (k := 1) hx hb hts inX7 hown hK hP k_101 rfl (by decide) rfl 0 rfl (.int 1) rfl dX7_append_1 ?_
  refine lv_sipush (v := 256) hx hb dX7_append_4 (by decide) ?_
  refine f_icmp_ge hx hb dX7_append_7 22 (by decide) (by decide +kernel) ?_
  refine lv_iload_n hx hb dX7_append_10 rfl (lv_at hl 2 rfl) ?_
  refine f_if_lt hx hb dX7_append_11 22 (by decide) (by decide +kernel) ?_
  refine lv_iload_n hx hb dX7_append_14 rfl (lv_at hl 2 rfl) ?_
  refine lv_aload_n hx hb dX7_append_15 rfl (lv_at hl 1 rfl) ?_
  refine al_ hx hb hK hP 1 0 rfl rfl dX7_append_16 512 rfl ?_
  refine lv_iconst (v := 4) hx hb dX7_append_17 (by decide) ?_
  refine v_isub hx hb dX7_append_18 508 (by decide +kernel) ?_
  refine t_icmp_le hx hb dX7_append_19 23 (by decide) (by decide +kernel) ?_
  refine lv_lconst (v := 0) hx hb dX7_append_23 (by decide) ?_
  refine lv_lstore (lv' := [(4, .long 0), (0, .ref a0), (1, .ref a1), (2, .int 0), (3, .int (-1))]) hx hb dX7_append_24 hl (by decide) rfl (fun ls hl => ?_)
  refine lv_iconst (v := 0) hx hb dX7_append_26 (by decide) ?_
  refine lv_istore (lv' := [(6, .int 0), (4, .long 0), (0, .ref a0), (1, .ref a1), (2, .int 0), (3, .int (-1))]) hx hb dX7_append_27 hl (by decide) rfl (fun ls hl => ?_)
  refine lv_iload hx hb dX7_append_29 (lv_at hl 0 rfl) ?_
  refine lv_iconst (v := 4) hx hb dX7_append_31 (by decide) ?_
  refine f_icmp_ge hx hb dX7_append_32 66 (by decide) (by decide +kernel) ?_
  refine lv_lload hx hb dX7_append_35 (lv_at hl 1 rfl) ?_
  refine lv_bipush (v := 11) hx hb dX7_append_37 (by decide) ?_
  refine lv_lshl (v := 0) hx hb dX7_append_39 (by decide +kernel) ?_
  refine lv_iload_n hx hb dX7_append_40 rfl (lv_at hl 5 rfl) ?_
  refine lv_aload_n hx hb dX7_append_41 rfl (lv_at hl 3 rfl) ?_
  refine lv_iload_n hx hb dX7_append_42 rfl (lv_at hl 4 rfl) ?_
  refine lv_iload hx hb dX7_append_43 (lv_at hl 0 rfl) ?_
  refine v_iadd hx hb dX7_append_45 0 (by decide +kernel) ?_
  refine ld_i hx hb hK hP 1 rfl (vin (by decide +kernel)) dX7_append_46 1 rfl ?_
  refine v_imul hx hb dX7_append_47 (-1) (by decide +kernel) ?_
  refine lv_sipush (v := 1024) hx hb dX7_append_48 (by decide) ?_
  refine v_iadd hx hb dX7_append_51 1023 (by decide +kernel) ?_
  refine lv_sipush (v := 2047) hx hb dX7_append_52 (by decide) ?_
  refine v_iand hx hb dX7_append_55 1023 (by decide +kernel) ?_
  refine lv_i2l (v := 1023) hx hb dX7_append_56 (by decide +kernel) ?_
  refine v_lor hx hb dX7_append_57 1023 (by decide +kernel) ?_
  refine lv_lstore (lv' := [(4, .long 1023), (6, .int 0), (0, .ref a0), (1, .ref a1), (2, .int 0), (3, .int (-1))]) hx hb dX7_append_58 hl (by decide) rfl (fun ls hl => ?_)
  refine lv_iinc (v := 1) (lv' := [(6, .int 1), (4, .long 1023), (0, .ref a0), (1, .ref a1), (2, .int 0), (3, .int (-1))]) hx hb dX7_append_60 hl (k := 1) rfl (by decide +kernel) (by decide) rfl (fun ls hl => ?_)
  refine lv_goto (tgt := 29) hx hb dX7_append_63 (by decide) ?_
  refine lv_iload hx hb dX7_append_29 (lv_at hl 0 rfl) ?_
  refine lv_iconst (v := 4) hx hb dX7_append_31 (by decide) ?_
  refine f_icmp_ge hx hb dX7_append_32 66 (by decide) (by decide +kernel) ?_
  refine lv_lload hx hb dX7_append_35 (lv_at hl 1 rfl) ?_
  refine lv_bipush (v := 11) hx hb dX7_append_37 (by decide) ?_
  refine lv_lshl (v := 2095104) hx hb dX7_append_39 (by decide +kernel) ?_
  refine lv_iload_n hx hb dX7_append_40 rfl (lv_at hl 5 rfl) ?_
  refine lv_aload_n hx hb dX7_append_41 rfl (lv_at hl 3 rfl) ?_
  refine lv_iload_n hx hb dX7_append_42 rfl (lv_at hl 4 rfl) ?_
  refine lv_iload hx hb dX7_append_43 (lv_at hl 0 rfl) ?_
  refine v_iadd hx hb dX7_append_45 1 (by decide +kernel) ?_
  refine ld_i hx hb hK hP 1 rfl (vin (by decide +kernel)) dX7_append_46 0 rfl ?_
  refine v_imul hx hb dX7_append_47 0 (by decide +kernel) ?_
  refine lv_sipush (v := 1024) hx hb dX7_append_48 (by decide) ?_
  refine v_iadd hx hb dX7_append_51 1024 (by decide +kernel) ?_
  refine lv_sipush (v := 2047) hx hb dX7_append_52 (by decide) ?_
  refine v_iand hx hb dX7_append_55 1024 (by decide +kernel) ?_
  refine lv_i2l (v := 1024) hx hb dX7_append_56 (by decide +kernel) ?_
  refine v_lor hx hb dX7_append_57 2096128 (by decide +kernel) ?_
  refine lv_lstore (lv' := [(4, .long 2096128), (6, .int 1), (0, .ref a0), (1, .ref a1), (2, .int 0), (3, .int (-1))]) hx hb dX7_append_58 hl (by decide) rfl (fun ls hl => ?_)
  refine lv_iinc (v := 2) (lv' := [(6, .int 2), (4, .long 2096128), (0, .ref a0), (1, .ref a1), (2, .int 0), (3, .int (-1))]) hx hb dX7_append_60 hl (k := 1) rfl (by decide +kernel) (by decide) rfl (fun ls hl => ?_)
  refine lv_goto (tgt := 29) hx hb dX7_append_63 (by decide) ?_
  refine lv_iload hx hb dX7_append_29 (lv_at hl 0 rfl) ?_
  refine lv_iconst (v := 4) hx hb dX7_append_31 (by decide) ?_
  refine f_icmp_ge hx hb dX7_append_32 66 (by decide) (by decide +kernel) ?_
  refine lv_lload hx hb dX7_append_35 (lv_at hl 1 rfl) ?_
  refine lv_bipush (v := 11) hx hb dX7_append_37 (by decide) ?_
  refine lv_lshl (v := 4292870144) hx hb dX7_append_39 (by decide +kernel) ?_
  refine lv_iload_n hx hb dX7_append_40 rfl (lv_at hl 5 rfl) ?_
  refine lv_aload_n hx hb dX7_append_41 rfl (lv_at hl 3 rfl) ?_
  refine lv_iload_n hx hb dX7_append_42 rfl (lv_at hl 4 rfl) ?_
  refine lv_iload hx hb dX7_append_43 (lv_at hl 0 rfl) ?_
  refine v_iadd hx hb dX7_append_45 2 (by decide +kernel) ?_
  refine ld_i hx hb hK hP 1 rfl (vin (by decide +kernel)) dX7_append_46 0 rfl ?_
  refine v_imul hx hb dX7_append_47 0 (by decide +kernel) ?_
  refine lv_sipush (v := 1024) hx hb dX7_append_48 (by decide) ?_
  refine v_iadd hx hb dX7_append_51 1024 (by decide +kernel) ?_
  refine lv_sipush (v := 2047) hx hb dX7_append_52 (by decide) ?_
  refine v_iand hx hb dX7_append_55 1024 (by decide +kernel) ?_
  refine lv_i2l (v := 1024) hx hb dX7_append_56 (by decide +kernel) ?_
  refine v_lor hx hb dX7_append_57 4292871168 (by decide +kernel) ?_
  refine lv_lstore (lv' := [(4, .long 4292871168), (6, .int 2), (0, .ref a0), (1, .ref a1), (2, .int 0), (3, .int (-1))]) hx hb dX7_append_58 hl (by decide) rfl (fun ls hl => ?_)
  refine lv_iinc (v := 3) (lv' := [(6, .int 3), (4, .long 4292871168), (0, .ref a0), (1, .ref a1), (2, .int 0), (3, .int (-1))]) hx hb dX7_append_60 hl (k := 1) rfl (by decide +kernel) (by decide) rfl (fun ls hl => ?_)
  refine lv_goto (tgt := 29) hx hb dX7_append_63 (by decide) ?_
  refine lv_iload hx hb dX7_append_29 (lv_at hl 0 rfl) ?_
  refine lv_iconst (v := 4) hx hb dX7_append_31 (by decide) ?_
  refine f_icmp_ge hx hb dX7_append_32 66 (by decide) (by decide +kernel) ?_
  refine lv_lload hx hb dX7_append_35 (lv_at hl 1 rfl) ?_
  refine lv_bipush (v := 11) hx hb dX7_append_37 (by decide) ?_
  refine lv_lshl (v := 8791800152064) hx hb dX7_append_39 (by decide +kernel) ?_
  refine lv_iload_n hx hb dX7_append_40 rfl (lv_at hl 5 rfl) ?_
  refine lv_aload_n hx hb dX7_append_41 rfl (lv_at hl 3 rfl) ?_
  refine lv_iload_n hx hb dX7_append_42 rfl (lv_at hl 4 rfl) ?_
  refine lv_iload hx hb dX7_append_43 (lv_at hl 0 rfl) ?_
  refine v_iadd hx hb dX7_append_45 3 (by decide +kernel) ?_
  refine ld_i hx hb hK hP 1 rfl (vin (by decide +kernel)) dX7_append_46 0 rfl ?_
  refine v_imul hx hb dX7_append_47 0 (by decide +kernel) ?_
  refine lv_sipush (v := 1024) hx hb dX7_append_48 (by decide) ?_
  refine v_iadd hx hb dX7_append_51 1024 (by decide +kernel) ?_
  refine lv_sipush (v := 2047) hx hb dX7_append_52 (by decide) ?_
  refine v_iand hx hb dX7_append_55 1024 (by decide +kernel) ?_
  refine lv_i2l (v := 1024) hx hb dX7_append_56 (by decide +kernel) ?_
  refine v_lor hx hb dX7_append_57 8791800153088 (by decide +kernel) ?_
  refine lv_lstore (lv' := [(4, .long 8791800153088), (6, .int 3), (0, .ref a0), (1, .ref a1), (2, .int 0), (3, .int (-1))]) hx hb dX7_append_58 hl (by decide) rfl (fun ls hl => ?_)
  refine lv_iinc (v := 4) (lv' := [(6, .int 4), (4, .long 8791800153088), (0, .ref a0), (1, .ref a1), (2, .int 0), (3, .int (-1))]) hx hb dX7_append_60 hl (k := 1) rfl (by decide +kernel) (by decide) rfl (fun ls hl => ?_)
  refine lv_goto (tgt := 29) hx hb dX7_append_63 (by decide) ?_
  refine lv_iload hx hb dX7_append_29 (lv_at hl 0 rfl) ?_
  refine lv_iconst (v := 4) hx hb dX7_append_31 (by decide) ?_
  refine t_icmp_ge hx hb dX7_append_32 66 (by decide) (by decide +kernel) ?_
  refine lv_aload_n hx hb dX7_append_66 rfl (lv_at hl 2 rfl) ?_
  refine gf (k := 0) hx hb hts inX7 hown hK hP k_100 rfl (by decide) rfl 0 rfl (.ref a2) rfl dX7_append_67 ?_
  refine lv_aload_n hx hb dX7_append_70 rfl (lv_at hl 2 rfl) ?_
  refine gf (k := 1) hx hb hts inX7 hown hK hP k_101 rfl (by decide) rfl 0 rfl (.int 1) rfl dX7_append_71 ?_
  refine lv_lload hx hb dX7_append_74 (lv_at hl 1 rfl) ?_
  refine st_l hx hb hK hP hD hS 2 rfl (vin (by decide +kernel)) dX7_append_76 (L' := [8808980022272, 8791800153088]) rfl (W' := [(a0, .inr (7, [.ref a2, .int 1])), (a1, .inl (cI, 512, .inl (tb [1, 0, 0, 0]))), (a2, .inl (cJ, 256, .inr (.inl (tbl [8808980022272, 8791800153088]))))]) rfl (fun H locs hP hD hS => ?_)
  refine lv_aload_n hx hb dX7_append_77 rfl (lv_at hl 2 rfl) ?_
  refine lv_dup hx hb dX7_append_78 rfl ?_
  refine gf (k := 1) hx hb hts inX7 hown hK hP k_101 rfl (by decide) rfl 0 rfl (.int 1) rfl dX7_append_79 ?_
  refine lv_iconst (v := 1) hx hb dX7_append_82 (by decide) ?_
  refine v_iadd hx hb dX7_append_83 2 (by decide +kernel) ?_
  refine pf (k := 1) hx hb hts inX7 tyX7_ok nmX7 hown hK hP hD hS k_101 rfl (by decide) rfl rfl 0 rfl rfl rfl (Nat.le_of_ble_eq_true rfl) dX7_append_84 (W' := [(a0, .inr (7, [.ref a2, .int 2])), (a1, .inl (cI, 512, .inl (tb [1, 0, 0, 0]))), (a2, .inl (cJ, 256, .inr (.inl (tbl [8808980022272, 8791800153088]))))]) rfl (fun H locs hP hD hS => ?_)
  exact r_v (fun _ => 0) hx hb hr hk hK hP hD hS dX7_append_87
set_option maxRecDepth 100000 in
set_option maxHeartbeats 4000000 in
theorem c104_X5_giveTo (l : Launch) (dC : Nat → ClassId) (dI : Nat → Nat → Nat) (cI cJ cII cJJ : ClassId) (sz g a0 a1 a2 a3 a4 : Nat) : Met l yX5_giveTo (.code yX5_giveTo cX5_giveTo 3 none :: TT) ({ frames := 3, cells := 0, slots := 0, locals := 140 }) (PcS dC dI (TY cI cJ cII cJJ) [.ref a0, .ref a1] [(a0, .inr (5, [.ref a2, .ref a4, .int 1, .int 0])), (a1, .inr (7, [.ref a3, .int 0])), (a2, .inl (cI, 512, .inl (tb [1, 0, 0, 0]))), (a3, .inl (cJ, 256, .inr (.inl (tbl []))))] sz 0 g) ((QcV dC dI (TY cI cJ cII cJJ) (fun _ => [(a0, .inr (5, [.ref a2, .ref a4, .int 1, .int 0])), (a1, .inr (7, [.ref a3, .int 2])), (a2, .inl (cI, 512, .inl (tb [1, 0, 0, 0]))), (a3, .inl (cJ, 256, .inr (.inl (tbl [8808980022272, 8791800153088]))))])) (va_A [(a0, .inr (5, [.ref a2, .ref a4, .int 1, .int 0])), (a1, .inr (7, [.ref a3, .int 0])), (a2, .inl (cI, 512, .inl (tb [1, 0, 0, 0]))), (a3, .inl (cJ, 256, .inr (.inl (tbl []))))] sz)) 0 0 (va_A [(a0, .inr (5, [.ref a2, .ref a4, .int 1, .int 0])), (a1, .inr (7, [.ref a3, .int 0])), (a2, .inl (cI, 512, .inl (tb [1, 0, 0, 0]))), (a3, .inl (cJ, 256, .inr (.inl (tbl []))))] sz) := by
  refine SM.of (y := yX5_giveTo) (maxL := 3) (av := [.ref a0, .ref a1]) (QcV dC dI (TY cI cJ cII cJJ) (fun _ => [(a0, .inr (5, [.ref a2, .ref a4, .int 1, .int 0])), (a1, .inr (7, [.ref a3, .int 2])), (a2, .inl (cI, 512, .inl (tb [1, 0, 0, 0]))), (a3, .inl (cJ, 256, .inr (.inl (tbl [8808980022272, 8791800153088]))))])) (by decide +kernel) (Nat.le_of_ble_eq_true rfl) (fun p e s m below meth c A ls hx hb hr hml hown hts hk hnm hA hK hP hD hS hX hl => ?_)
  have hown : s.vm.findClass RX5 = some m.cls := hown
  have hl : lv_has ls 3 [(0, .ref a0), (1, .ref a1)] := hl
  refine lv_iconst (v := 0) hx hb dX5_giveTo_0 (by decide) ?_
  refine lv_istore_n (lv' := [(2, .int 0), (0, .ref a0), (1, .ref a1)]) hx hb dX5_giveTo_1 rfl hl (by decide) rfl (fun ls hl => ?_)
  refine lv_iload_n hx hb dX5_giveTo_2 rfl (lv_at hl 0 rfl) ?_
  refine lv_aload_n hx hb dX5_giveTo_3 rfl (lv_at hl 1 rfl) ?_
  refine gf (k := 2) hx hb hts inX5 hown hK hP k_139 rfl (by decide) rfl 0 rfl (.int 1) rfl dX5_giveTo_4 ?_
  refine f_icmp_ge hx hb dX5_giveTo_7 40 (by decide) (by decide +kernel) ?_
  refine lv_aload_n hx hb dX5_giveTo_10 rfl (lv_at hl 2 rfl) ?_
  refine lv_aload_n hx hb dX5_giveTo_11 rfl (lv_at hl 1 rfl) ?_
  refine gf (k := 0) hx hb hts inX5 hown hK hP k_137 rfl (by decide) rfl 0 rfl (.ref a2) rfl dX5_giveTo_12 ?_
  refine lv_iload_n hx hb dX5_giveTo_15 rfl (lv_at hl 0 rfl) ?_
  refine lv_iconst (v := 4) hx hb dX5_giveTo_16 (by decide) ?_
  refine v_imul hx hb dX5_giveTo_17 0 (by decide +kernel) ?_
  refine lv_iconst (v := 1) hx hb dX5_giveTo_18 (by decide) ?_
  refine kV_v (q0 := 0) ⟨hx, hb, hml, hown, hts⟩ hK hP hD hS hA hX cv_RX5_40 [1, 2, 3] [0] (wr := [(a0, .inr (5, [.ref a2, .ref a4, .int 1, .int 0]))]) rfl rfl rfl rfl (by decide) (c105_X7_append l dC dI cI cJ cII cJJ s.heap.size 0 a1 a2 a3) ⟨by decide +kernel, by decide +kernel⟩ rfl rfl (Or.inl rfl) (rest := []) rfl rfl rfl hl.1 rfl (Nat.le_of_ble_eq_true rfl) dX5_giveTo_19 ⟨Nat.le_of_ble_eq_true rfl, Nat.le_of_ble_eq_true rfl⟩ (fun _ => rfl) (W' := [(a0, .inr (5, [.ref a2, .ref a4, .int 1, .int 0])), (a1, .inr (7, [.ref a3, .int 1])), (a2, .inl (cI, 512, .inl (tb [1, 0, 0, 0]))), (a3, .inl (cJ, 256, .inr (.inl (tbl [8808980022272]))))]) rfl (fun H locs hP hD hS => ?_)
  refine lv_aload_n hx hb dX5_giveTo_22 rfl (lv_at hl 2 rfl) ?_
  refine lv_aload_n hx hb dX5_giveTo_23 rfl (lv_at hl 1 rfl) ?_
  refine gf (k := 0) hx hb hts inX5 hown hK hP k_137 rfl (by decide) rfl 0 rfl (.ref a2) rfl dX5_giveTo_24 ?_
  refine lv_iload_n hx hb dX5_giveTo_27 rfl (lv_at hl 0 rfl) ?_
  refine lv_iconst (v := 4) hx hb dX5_giveTo_28 (by decide) ?_
  refine v_imul hx hb dX5_giveTo_29 0 (by decide +kernel) ?_
  refine lv_iconst (v := (-1)) hx hb dX5_giveTo_30 (by decide) ?_
  refine kV_v (q0 := 0) ⟨hx, hb, hml, hown, hts⟩ hK hP hD hS hA hX cv_RX5_40 [1, 2, 3] [0] (wr := [(a0, .inr (5, [.ref a2, .ref a4, .int 1, .int 0]))]) rfl rfl rfl rfl (by decide) (c106_X7_append l dC dI cI cJ cII cJJ H.size 0 a1 a2 a3) ⟨by decide +kernel, by decide +kernel⟩ rfl rfl (Or.inl rfl) (rest := []) rfl rfl rfl hl.1 rfl (Nat.le_of_ble_eq_true rfl) dX5_giveTo_31 ⟨Nat.le_of_ble_eq_true rfl, Nat.le_of_ble_eq_true rfl⟩ (fun _ => rfl) (W' := [(a0, .inr (5, [.ref a2, .ref a4, .int 1, .int 0])), (a1, .inr (7, [.ref a3, .int 2])), (a2, .inl (cI, 512, .inl (tb [1, 0, 0, 0]))), (a3, .inl (cJ, 256, .inr (.inl (tbl [8808980022272, 8791800153088]))))]) rfl (fun H locs hP hD hS => ?_)
  refine lv_iinc (v := 1) (lv' := [(2, .int 1), (0, .ref a0), (1, .ref a1)]) hx hb dX5_giveTo_34 hl (k := 0) rfl (by decide +kernel) (by decide) rfl (fun ls hl => ?_)
  refine lv_goto (tgt := 2) hx hb dX5_giveTo_37 (by decide) ?_
  refine lv_iload_n hx hb dX5_giveTo_2 rfl (lv_at hl 0 rfl) ?_
  refine lv_aload_n hx hb dX5_giveTo_3 rfl (lv_at hl 1 rfl) ?_
  refine gf (k := 2) hx hb hts inX5 hown hK hP k_139 rfl (by decide) rfl 0 rfl (.int 1) rfl dX5_giveTo_4 ?_
  refine t_icmp_ge hx hb dX5_giveTo_7 40 (by decide) (by decide +kernel) ?_
  exact r_v (fun _ => 0) hx hb hr hk hK hP hD hS dX5_giveTo_40
set_option maxRecDepth 100000 in
set_option maxHeartbeats 4000000 in
theorem c107_X7_sort (l : Launch) (dC : Nat → ClassId) (dI : Nat → Nat → Nat) (cI cJ cII cJJ : ClassId) (sz g a0 a1 : Nat) : Met l yX7_sort (.code yX7_sort cX7_sort 7 none :: TT) ({ frames := 2, cells := 0, slots := 0, locals := 80 }) (PcS dC dI (TY cI cJ cII cJJ) [.ref a0] [(a0, .inr (7, [.ref a1, .int 2])), (a1, .inl (cJ, 256, .inr (.inl (tbl [8808980022272, 8791800153088]))))] sz 1 g) ((QcV dC dI (TY cI cJ cII cJJ) (fun _ => [(a0, .inr (7, [.ref a1, .int 2])), (a1, .inl (cJ, 256, .inr (.inl (tbl [8791800153088, 8808980022272]))))])) (va_A [(a0, .inr (7, [.ref a1, .int 2])), (a1, .inl (cJ, 256, .inr (.inl (tbl [8808980022272, 8791800153088]))))] sz)) 0 0 (va_A [(a0, .inr (7, [.ref a1, .int 2])), (a1, .inl (cJ, 256, .inr (.inl (tbl [8808980022272, 8791800153088]))))] sz) := by
  refine SM.of (y := yX7_sort) (maxL := 7) (av := [.ref a0]) (QcV dC dI (TY cI cJ cII cJJ) (fun _ => [(a0, .inr (7, [.ref a1, .int 2])), (a1, .inl (cJ, 256, .inr (.inl (tbl [8791800153088, 8808980022272]))))])) (by decide +kernel) (Nat.le_of_ble_eq_true rfl) (fun p e s m below meth c A ls hx hb hr hml hown hts hk hnm hA hK hP hD hS hX hl => ?_)
  have hown : s.vm.findClass RX7 = some m.cls := hown
  have hl : lv_has ls 7 [(0, .ref a0)] := hl
  refine lv_iconst (v := 0) hx hb dX7_sort_0 (by decide) ?_
  refine lv_istore_n (lv' := [(1, .int 0), (0, .ref a0)]) hx hb dX7_sort_1 rfl hl (by decide) rfl (fun ls hl => ?_)
  refine lv_iload_n hx hb dX7_sort_2 rfl (lv_at hl 0 rfl) ?_
  refine va_gets (ref := "StepWorks$VectorList") (v := .ref g) hx hb hX.1 hS hown (hts _ k_504) (fun _ h9 => h9) dX7_sort_3 ?_
  refine va_tlen (v := 5) hx hb hX.2 hS rfl dX7_sort_6 ?_
  refine f_icmp_ge hx hb dX7_sort_7 104 (by decide) (by decide +kernel) ?_
  refine va_gets (ref := "StepWorks$VectorList") (v := .ref g) hx hb hX.1 hS hown (hts _ k_504) (fun _ h9 => h9) dX7_sort_10 ?_
  refine lv_iload_n hx hb dX7_sort_13 rfl (lv_at hl 0 rfl) ?_
  refine va_ti (v := .int 57) hx hb hX.2 hS (vin (by decide +kernel)) rfl dX7_sort_14 ?_
  refine lv_istore_n (lv' := [(2, .int 57), (1, .int 0), (0, .ref a0)]) hx hb dX7_sort_15 rfl hl (by decide) rfl (fun ls hl => ?_)
  refine lv_iload_n hx hb dX7_sort_16 rfl (lv_at hl 0 rfl) ?_
  refine lv_istore_n (lv' := [(3, .int 57), (2, .int 57), (1, .int 0), (0, .ref a0)]) hx hb dX7_sort_17 rfl hl (by decide) rfl (fun ls hl => ?_)
  refine lv_iload_n hx hb dX7_sort_18 rfl (lv_at hl 0 rfl) ?_
  refine lv_aload_n hx hb dX7_sort_19 rfl (lv_at hl 3 rfl) ?_
  refine gf (k := 1) hx hb hts inX7 hown hK hP k_101 rfl (by decide) rfl 0 rfl (.int 2) rfl dX7_sort_20 ?_
  refine t_icmp_ge hx hb dX7_sort_23 98 (by decide) (by decide +kernel) ?_
  refine lv_iinc (v := 1) (lv' := [(1, .int 1), (3, .int 57), (2, .int 57), (0, .ref a0)]) hx hb dX7_sort_98 hl (k := 2) rfl (by decide +kernel) (by decide) rfl (fun ls hl => ?_)
  refine lv_goto (tgt := 2) hx hb dX7_sort_101 (by decide) ?_
  refine lv_iload_n hx hb dX7_sort_2 rfl (lv_at hl 0 rfl) ?_
  refine va_gets (ref := "StepWorks$VectorList") (v := .ref g) hx hb hX.1 hS hown (hts _ k_504) (fun _ h9 => h9) dX7_sort_3 ?_
  refine va_tlen (v := 5) hx hb hX.2 hS rfl dX7_sort_6 ?_
  refine f_icmp_ge hx hb dX7_sort_7 104 (by decide) (by decide +kernel) ?_
  refine va_gets (ref := "StepWorks$VectorList") (v := .ref g) hx hb hX.1 hS hown (hts _ k_504) (fun _ h9 => h9) dX7_sort_10 ?_
  refine lv_iload_n hx hb dX7_sort_13 rfl (lv_at hl 0 rfl) ?_
  refine va_ti (v := .int 23) hx hb hX.2 hS (vin (by decide +kernel)) rfl dX7_sort_14 ?_
  refine lv_istore_n (lv' := [(2, .int 23), (1, .int 1), (3, .int 57), (0, .ref a0)]) hx hb dX7_sort_15 rfl hl (by decide) rfl (fun ls hl => ?_)
  refine lv_iload_n hx hb dX7_sort_16 rfl (lv_at hl 0 rfl) ?_
  refine lv_istore_n (lv' := [(3, .int 23), (2, .int 23), (1, .int 1), (0, .ref a0)]) hx hb dX7_sort_17 rfl hl (by decide) rfl (fun ls hl => ?_)
  refine lv_iload_n hx hb dX7_sort_18 rfl (lv_at hl 0 rfl) ?_
  refine lv_aload_n hx hb dX7_sort_19 rfl (lv_at hl 3 rfl) ?_
  refine gf (k := 1) hx hb hts inX7 hown hK hP k_101 rfl (by decide) rfl 0 rfl (.int 2) rfl dX7_sort_20 ?_
  refine t_icmp_ge hx hb dX7_sort_23 98 (by decide) (by decide +kernel) ?_
  refine lv_iinc (v := 2) (lv' := [(1, .int 2), (3, .int 23), (2, .int 23), (0, .ref a0)]) hx hb dX7_sort_98 hl (k := 2) rfl (by decide +kernel) (by decide) rfl (fun ls hl => ?_)
  refine lv_goto (tgt := 2) hx hb dX7_sort_101 (by decide) ?_
  refine lv_iload_n hx hb dX7_sort_2 rfl (lv_at hl 0 rfl) ?_
  refine va_gets (ref := "StepWorks$VectorList") (v := .ref g) hx hb hX.1 hS hown (hts _ k_504) (fun _ h9 => h9) dX7_sort_3 ?_
  refine va_tlen (v := 5) hx hb hX.2 hS rfl dX7_sort_6 ?_
  refine f_icmp_ge hx hb dX7_sort_7 104 (by decide) (by decide +kernel) ?_
  refine va_gets (ref := "StepWorks$VectorList") (v := .ref g) hx hb hX.1 hS hown (hts _ k_504) (fun _ h9 => h9) dX7_sort_10 ?_
  refine lv_iload_n hx hb dX7_sort_13 rfl (lv_at hl 0 rfl) ?_
  refine va_ti (v := .int 10) hx hb hX.2 hS (vin (by decide +kernel)) rfl dX7_sort_14 ?_
  refine lv_istore_n (lv' := [(2, .int 10), (1, .int 2), (3, .int 23), (0, .ref a0)]) hx hb dX7_sort_15 rfl hl (by decide) rfl (fun ls hl => ?_)
  refine lv_iload_n hx hb dX7_sort_16 rfl (lv_at hl 0 rfl) ?_
  refine lv_istore_n (lv' := [(3, .int 10), (2, .int 10), (1, .int 2), (0, .ref a0)]) hx hb dX7_sort_17 rfl hl (by decide) rfl (fun ls hl => ?_)
  refine lv_iload_n hx hb dX7_sort_18 rfl (lv_at hl 0 rfl) ?_
  refine lv_aload_n hx hb dX7_sort_19 rfl (lv_at hl 3 rfl) ?_
  refine gf (k := 1) hx hb hts inX7 hown hK hP k_101 rfl (by decide) rfl 0 rfl (.int 2) rfl dX7_sort_20 ?_
  refine t_icmp_ge hx hb dX7_sort_23 98 (by decide) (by decide +kernel) ?_
  refine lv_iinc (v := 3) (lv' := [(1, .int 3), (3, .int 10), (2, .int 10), (0, .ref a0)]) hx hb dX7_sort_98 hl (k := 2) rfl (by decide +kernel) (by decide) rfl (fun ls hl => ?_)
  refine lv_goto (tgt := 2) hx hb dX7_sort_101 (by decide) ?_
  refine lv_iload_n hx hb dX7_sort_2 rfl (lv_at hl 0 rfl) ?_
  refine va_gets (ref := "StepWorks$VectorList") (v := .ref g) hx hb hX.1 hS hown (hts _ k_504) (fun _ h9 => h9) dX7_sort_3 ?_
  refine va_tlen (v := 5) hx hb hX.2 hS rfl dX7_sort_6 ?_
  refine f_icmp_ge hx hb dX7_sort_7 104 (by decide) (by decide +kernel) ?_
  refine va_gets (ref := "StepWorks$VectorList") (v := .ref g) hx hb hX.1 hS hown (hts _ k_504) (fun _ h9 => h9) dX7_sort_10 ?_
  refine lv_iload_n hx hb dX7_sort_13 rfl (lv_at hl 0 rfl) ?_
  refine va_ti (v := .int 4) hx hb hX.2 hS (vin (by decide +kernel)) rfl dX7_sort_14 ?_
  refine lv_istore_n (lv' := [(2, .int 4), (1, .int 3), (3, .int 10), (0, .ref a0)]) hx hb dX7_sort_15 rfl hl (by decide) rfl (fun ls hl => ?_)
  refine lv_iload_n hx hb dX7_sort_16 rfl (lv_at hl 0 rfl) ?_
  refine lv_istore_n (lv' := [(3, .int 4), (2, .int 4), (1, .int 3), (0, .ref a0)]) hx hb dX7_sort_17 rfl hl (by decide) rfl (fun ls hl => ?_)
  refine lv_iload_n hx hb dX7_sort_18 rfl (lv_at hl 0 rfl) ?_
  refine lv_aload_n hx hb dX7_sort_19 rfl (lv_at hl 3 rfl) ?_
  refine gf (k := 1) hx hb hts inX7 hown hK hP k_101 rfl (by decide) rfl 0 rfl (.int 2) rfl dX7_sort_20 ?_
  refine t_icmp_ge hx hb dX7_sort_23 98 (by decide) (by decide +kernel) ?_
  refine lv_iinc (v := 4) (lv' := [(1, .int 4), (3, .int 4), (2, .int 4), (0, .ref a0)]) hx hb dX7_sort_98 hl (k := 2) rfl (by decide +kernel) (by decide) rfl (fun ls hl => ?_)
  refine lv_goto (tgt := 2) hx hb dX7_sort_101 (by decide) ?_
  refine lv_iload_n hx hb dX7_sort_2 rfl (lv_at hl 0 rfl) ?_
  refine va_gets (ref := "StepWorks$VectorList") (v := .ref g) hx hb hX.1 hS hown (hts _ k_504) (fun _ h9 => h9) dX7_sort_3 ?_
  refine va_tlen (v := 5) hx hb hX.2 hS rfl dX7_sort_6 ?_
  refine f_icmp_ge hx hb dX7_sort_7 104 (by decide) (by decide +kernel) ?_
  refine va_gets (ref := "StepWorks$VectorList") (v := .ref g) hx hb hX.1 hS hown (hts _ k_504) (fun _ h9 => h9) dX7_sort_10 ?_
  refine lv_iload_n hx hb dX7_sort_13 rfl (lv_at hl 0 rfl) ?_
  refine va_ti (v := .int 1) hx hb hX.2 hS (vin (by decide +kernel)) rfl dX7_sort_14 ?_
  refine lv_istore_n (lv' := [(2, .int 1), (1, .int 4), (3, .int 4), (0, .ref a0)]) hx hb dX7_sort_15 rfl hl (by decide) rfl (fun ls hl => ?_)
  refine lv_iload_n hx hb dX7_sort_16 rfl (lv_at hl 0 rfl) ?_
  refine lv_istore_n (lv' := [(3, .int 1), (2, .int 1), (1, .int 4), (0, .ref a0)]) hx hb dX7_sort_17 rfl hl (by decide) rfl (fun ls hl => ?_)
  refine lv_iload_n hx hb dX7_sort_18 rfl (lv_at hl 0 rfl) ?_
  refine lv_aload_n hx hb dX7_sort_19 rfl (lv_at hl 3 rfl) ?_
  refine gf (k := 1) hx hb hts inX7 hown hK hP k_101 rfl (by decide) rfl 0 rfl (.int 2) rfl dX7_sort_20 ?_
  refine f_icmp_ge hx hb dX7_sort_23 98 (by decide) (by decide +kernel) ?_
  refine lv_aload_n hx hb dX7_sort_26 rfl (lv_at hl 3 rfl) ?_
  refine gf (k := 0) hx hb hts inX7 hown hK hP k_100 rfl (by decide) rfl 0 rfl (.ref a1) rfl dX7_sort_27 ?_
  refine lv_iload_n hx hb dX7_sort_30 rfl (lv_at hl 0 rfl) ?_
  refine ld_l hx hb hK hP 1 rfl (vin (by decide +kernel)) dX7_sort_31 8791800153088 rfl ?_
  refine lv_lstore (lv' := [(4, .long 8791800153088), (3, .int 1), (2, .int 1), (1, .int 4), (0, .ref a0)]) hx hb dX7_sort_32 hl (by decide) rfl (fun ls hl => ?_)
  refine lv_iload_n hx hb dX7_sort_34 rfl (lv_at hl 1 rfl) ?_
  refine lv_istore (lv' := [(6, .int 1), (4, .long 8791800153088), (3, .int 1), (2, .int 1), (1, .int 4), (0, .ref a0)]) hx hb dX7_sort_35 hl (by decide) rfl (fun ls hl => ?_)
  refine lv_iload hx hb dX7_sort_37 (lv_at hl 0 rfl) ?_
  refine lv_iload_n hx hb dX7_sort_39 rfl (lv_at hl 3 rfl) ?_
  refine f_icmp_lt hx hb dX7_sort_40 83 (by decide) (by decide +kernel) ?_
  refine lv_aload_n hx hb dX7_sort_43 rfl (lv_at hl 5 rfl) ?_
  refine gf (k := 0) hx hb hts inX7 hown hK hP k_100 rfl (by decide) rfl 0 rfl (.ref a1) rfl dX7_sort_44 ?_
  refine lv_iload hx hb dX7_sort_47 (lv_at hl 0 rfl) ?_
  refine lv_iload_n hx hb dX7_sort_49 rfl (lv_at hl 3 rfl) ?_
  refine v_isub hx hb dX7_sort_50 0 (by decide +kernel) ?_
  refine ld_l hx hb hK hP 1 rfl (vin (by decide +kernel)) dX7_sort_51 8808980022272 rfl ?_
  refine lv_lload hx hb dX7_sort_52 (lv_at hl 1 rfl) ?_
  refine v_lcmp hx hb dX7_sort_54 1 (by decide +kernel) ?_
  refine f_if_le hx hb dX7_sort_55 83 (by decide) (by decide +kernel) ?_
  refine lv_aload_n hx hb dX7_sort_58 rfl (lv_at hl 5 rfl) ?_
  refine gf (k := 0) hx hb hts inX7 hown hK hP k_100 rfl (by decide) rfl 0 rfl (.ref a1) rfl dX7_sort_59 ?_
  refine lv_iload hx hb dX7_sort_62 (lv_at hl 0 rfl) ?_
  refine lv_aload_n hx hb dX7_sort_64 rfl (lv_at hl 5 rfl) ?_
  refine gf (k := 0) hx hb hts inX7 hown hK hP k_100 rfl (by decide) rfl 0 rfl (.ref a1) rfl dX7_sort_65 ?_
  refine lv_iload hx hb dX7_sort_68 (lv_at hl 0 rfl) ?_
  refine lv_iload_n hx hb dX7_sort_70 rfl (lv_at hl 3 rfl) ?_
  refine v_isub hx hb dX7_sort_71 0 (by decide +kernel) ?_
  refine ld_l hx hb hK hP 1 rfl (vin (by decide +kernel)) dX7_sort_72 8808980022272 rfl ?_
  refine st_l hx hb hK hP hD hS 1 rfl (vin (by decide +kernel)) dX7_sort_73 (L' := [8808980022272, 8808980022272]) rfl (W' := [(a0, .inr (7, [.ref a1, .int 2])), (a1, .inl (cJ, 256, .inr (.inl (tbl [8808980022272, 8808980022272]))))]) rfl (fun H locs hP hD hS => ?_)
  refine lv_iload hx hb dX7_sort_74 (lv_at hl 0 rfl) ?_
  refine lv_iload_n hx hb dX7_sort_76 rfl (lv_at hl 3 rfl) ?_
  refine v_isub hx hb dX7_sort_77 0 (by decide +kernel) ?_
  refine lv_istore (lv' := [(6, .int 0), (4, .long 8791800153088), (3, .int 1), (2, .int 1), (1, .int 4), (0, .ref a0)]) hx hb dX7_sort_78 hl (by decide) rfl (fun ls hl => ?_)
  refine lv_goto (tgt := 37) hx hb dX7_sort_80 (by decide) ?_
  refine lv_iload hx hb dX7_sort_37 (lv_at hl 0 rfl) ?_
  refine lv_iload_n hx hb dX7_sort_39 rfl (lv_at hl 3 rfl) ?_
  refine t_icmp_lt hx hb dX7_sort_40 83 (by decide) (by decide +kernel) ?_
  refine lv_aload_n hx hb dX7_sort_83 rfl (lv_at hl 5 rfl) ?_
  refine gf (k := 0) hx hb hts inX7 hown hK hP k_100 rfl (by decide) rfl 0 rfl (.ref a1) rfl dX7_sort_84 ?_
  refine lv_iload hx hb dX7_sort_87 (lv_at hl 0 rfl) ?_
  refine lv_lload hx hb dX7_sort_89 (lv_at hl 1 rfl) ?_
  refine st_l hx hb hK hP hD hS 1 rfl (vin (by decide +kernel)) dX7_sort_91 (L' := [8791800153088, 8808980022272]) rfl (W' := [(a0, .inr (7, [.ref a1, .int 2])), (a1, .inl (cJ, 256, .inr (.inl (tbl [8791800153088, 8808980022272]))))]) rfl (fun H locs hP hD hS => ?_)
  refine lv_iinc (v := 2) (lv' := [(3, .int 2), (6, .int 0), (4, .long 8791800153088), (2, .int 1), (1, .int 4), (0, .ref a0)]) hx hb dX7_sort_92 hl (k := 2) rfl (by decide +kernel) (by decide) rfl (fun ls hl => ?_)
  refine lv_goto (tgt := 18) hx hb dX7_sort_95 (by decide) ?_
  refine lv_iload_n hx hb dX7_sort_18 rfl (lv_at hl 0 rfl) ?_
  refine lv_aload_n hx hb dX7_sort_19 rfl (lv_at hl 5 rfl) ?_
  refine gf (k := 1) hx hb hts inX7 hown hK hP k_101 rfl (by decide) rfl 0 rfl (.int 2) rfl dX7_sort_20 ?_
  refine t_icmp_ge hx hb dX7_sort_23 98 (by decide) (by decide +kernel) ?_
  refine lv_iinc (v := 5) (lv' := [(1, .int 5), (3, .int 2), (6, .int 0), (4, .long 8791800153088), (2, .int 1), (0, .ref a0)]) hx hb dX7_sort_98 hl (k := 4) rfl (by decide +kernel) (by decide) rfl (fun ls hl => ?_)
  refine lv_goto (tgt := 2) hx hb dX7_sort_101 (by decide) ?_
  refine lv_iload_n hx hb dX7_sort_2 rfl (lv_at hl 0 rfl) ?_
  refine va_gets (ref := "StepWorks$VectorList") (v := .ref g) hx hb hX.1 hS hown (hts _ k_504) (fun _ h9 => h9) dX7_sort_3 ?_
  refine va_tlen (v := 5) hx hb hX.2 hS rfl dX7_sort_6 ?_
  refine t_icmp_ge hx hb dX7_sort_7 104 (by decide) (by decide +kernel) ?_
  exact r_v (fun _ => 0) hx hb hr hk hK hP hD hS dX7_sort_104
set_option maxRecDepth 100000 in
set_option maxHeartbeats 4000000 in
theorem c109_X7_size (l : Launch) (dC : Nat → ClassId) (dI : Nat → Nat → Nat) (cI cJ cII cJJ : ClassId) (sz g a0 a1 : Nat) : Met l yX7_size (.code yX7_size cX7_size 1 (some .int) :: TT) ({ frames := 2, cells := 0, slots := 0, locals := 80 }) (PcS dC dI (TY cI cJ cII cJJ) [.ref a0] [(a0, .inr (7, [.ref a1, .int 2]))] sz 0 g) ((QcI dC dI (TY cI cJ cII cJJ) 2 [(a0, .inr (7, [.ref a1, .int 2]))]) (va_A [(a0, .inr (7, [.ref a1, .int 2]))] sz)) 0 0 (va_A [(a0, .inr (7, [.ref a1, .int 2]))] sz) := by
  refine SM.of (y := yX7_size) (maxL := 1) (av := [.ref a0]) (QcI dC dI (TY cI cJ cII cJJ) 2 [(a0, .inr (7, [.ref a1, .int 2]))]) (by decide +kernel) (Nat.le_of_ble_eq_true rfl) (fun p e s m below meth c A ls hx hb hr hml hown hts hk hnm hA hK hP hD hS hX hl => ?_)
  have hown : s.vm.findClass RX7 = some m.cls := hown
  have hl : lv_has ls 1 [(0, .ref a0)] := hl
  refine lv_aload_n hx hb dX7_size_0 rfl (lv_at hl 0 rfl) ?_
  refine gf (k := 1) hx hb hts inX7 hown hK hP k_101 rfl (by decide) rfl 0 rfl (.int 2) rfl dX7_size_1 ?_
  exact r_i hx hb hr hk hK hP hD hS dX7_size_4
set_option maxRecDepth 100000 in
set_option maxHeartbeats 4000000 in
theorem c112_X7_at (l : Launch) (dC : Nat → ClassId) (dI : Nat → Nat → Nat) (cI cJ cII cJJ : ClassId) (sz g a0 a1 : Nat) : Met l yX7_at (.code yX7_at cX7_at 3 (some .int) :: TT) ({ frames := 2, cells := 0, slots := 0, locals := 80 }) (PcS dC dI (TY cI cJ cII cJJ) [.ref a0, .int 0, .int 0] [(a0, .inr (7, [.ref a1, .int 2])), (a1, .inl (cJ, 256, .inr (.inl (tbl [8791800153088, 8808980022272]))))] sz 0 g) ((QcI dC dI (TY cI cJ cII cJJ) (-1) [(a0, .inr (7, [.ref a1, .int 2])), (a1, .inl (cJ, 256, .inr (.inl (tbl [8791800153088, 8808980022272]))))]) (va_A [(a0, .inr (7, [.ref a1, .int 2])), (a1, .inl (cJ, 256, .inr (.inl (tbl [8791800153088, 8808980022272]))))] sz)) 0 0 (va_A [(a0, .inr (7, [.ref a1, .int 2])), (a1, .inl (cJ, 256, .inr (.inl (tbl [8791800153088, 8808980022272]))))] sz) := by
  refine SM.of (y := yX7_at) (maxL := 3) (av := [.ref a0, .int 0, .int 0]) (QcI dC dI (TY cI cJ cII cJJ) (-1) [(a0, .inr (7, [.ref a1, .int 2])), (a1, .inl (cJ, 256, .inr (.inl (tbl [8791800153088, 8808980022272]))))]) (by decide +kernel) (Nat.le_of_ble_eq_true rfl) (fun p e s m below meth c A ls hx hb hr hml hown hts hk hnm hA hK hP hD hS hX hl => ?_)
  have hown : s.vm.findClass RX7 = some m.cls := hown
  have hl : lv_has ls 3 [(0, .ref a0), (1, .int 0), (2, .int 0)] := hl
  refine lv_aload_n hx hb dX7_at_0 rfl (lv_at hl 0 rfl) ?_
  refine gf (k := 0) hx hb hts inX7 hown hK hP k_100 rfl (by decide) rfl 0 rfl (.ref a1) rfl dX7_at_1 ?_
  refine lv_iload_n hx hb dX7_at_4 rfl (lv_at hl 1 rfl) ?_
  refine ld_l hx hb hK hP 1 rfl (vin (by decide +kernel)) dX7_at_5 8791800153088 rfl ?_
  refine lv_bipush (v := 11) hx hb dX7_at_6 (by decide) ?_
  refine lv_iconst (v := 3) hx hb dX7_at_8 (by decide) ?_
  refine lv_iload_n hx hb dX7_at_9 rfl (lv_at hl 2 rfl) ?_
  refine v_isub hx hb dX7_at_10 3 (by decide +kernel) ?_
  refine v_imul hx hb dX7_at_11 33 (by decide +kernel) ?_
  refine lv_lshr (v := 1023) hx hb dX7_at_12 (by decide +kernel) ?_
  refine lv_ldc2 (v := 2047) hx hb hown (hts _ k_526) dX7_at_13 ?_
  refine v_land hx hb dX7_at_16 1023 (by decide +kernel) ?_
  refine lv_l2i (v := 1023) hx hb dX7_at_17 (by decide +kernel) ?_
  refine lv_sipush (v := 1024) hx hb dX7_at_18 (by decide) ?_
  refine v_isub hx hb dX7_at_21 (-1) (by decide +kernel) ?_
  exact r_i hx hb hr hk hK hP hD hS dX7_at_22
set_option maxRecDepth 100000 in
set_option maxHeartbeats 4000000 in
theorem c111_X2_at (l : Launch) (dC : Nat → ClassId) (dI : Nat → Nat → Nat) (cI cJ cII cJJ : ClassId) (sz g a0 a1 a2 a3 a4 a5 a6 : Nat) : Met l yX2_at (.code yX2_at cX2_at 3 (some .int) :: TT) ({ frames := 3, cells := 0, slots := 0, locals := 140 }) (PcS dC dI (TY cI cJ cII cJJ) [.ref a0, .int 0, .int 0] [(a0, .inr (2, [.ref a3, .ref a1, .ref a4, .ref a5, .ref a6, .int 0, .int 0])), (a1, .inr (7, [.ref a2, .int 2])), (a2, .inl (cJ, 256, .inr (.inl (tbl [8791800153088, 8808980022272]))))] sz 0 g) ((QcI dC dI (TY cI cJ cII cJJ) (-1) [(a0, .inr (2, [.ref a3, .ref a1, .ref a4, .ref a5, .ref a6, .int 0, .int 0])), (a1, .inr (7, [.ref a2, .int 2])), (a2, .inl (cJ, 256, .inr (.inl (tbl [8791800153088, 8808980022272]))))]) (va_A [(a0, .inr (2, [.ref a3, .ref a1, .ref a4, .ref a5, .ref a6, .int 0, .int 0])), (a1, .inr (7, [.ref a2, .int 2])), (a2, .inl (cJ, 256, .inr (.inl (tbl [8791800153088, 8808980022272]))))] sz)) 0 0 (va_A [(a0, .inr (2, [.ref a3, .ref a1, .ref a4, .ref a5, .ref a6, .int 0, .int 0])), (a1, .inr (7, [.ref a2, .int 2])), (a2, .inl (cJ, 256, .inr (.inl (tbl [8791800153088, 8808980022272]))))] sz) := by
  refine SM.of (y := yX2_at) (maxL := 3) (av := [.ref a0, .int 0, .int 0]) (QcI dC dI (TY cI cJ cII cJJ) (-1) [(a0, .inr (2, [.ref a3, .ref a1, .ref a4, .ref a5, .ref a6, .int 0, .int 0])), (a1, .inr (7, [.ref a2, .int 2])), (a2, .inl (cJ, 256, .inr (.inl (tbl [8791800153088, 8808980022272]))))]) (by decide +kernel) (Nat.le_of_ble_eq_true rfl) (fun p e s m below meth c A ls hx hb hr hml hown hts hk hnm hA hK hP hD hS hX hl => ?_)
  have hown : s.vm.findClass RX2 = some m.cls := hown
  have hl : lv_has ls 3 [(0, .ref a0), (1, .int 0), (2, .int 0)] := hl
  refine lv_aload_n hx hb dX2_at_0 rfl (lv_at hl 0 rfl) ?_
  refine gf (k := 1) hx hb hts inX2 hown hK hP k_176 rfl (by decide) rfl 0 rfl (.ref a1) rfl dX2_at_1 ?_
  refine lv_iload_n hx hb dX2_at_4 rfl (lv_at hl 1 rfl) ?_
  refine lv_iload_n hx hb dX2_at_5 rfl (lv_at hl 2 rfl) ?_
  refine kV_i (q0 := 0) ⟨hx, hb, hml, hown, hts⟩ hK hP hD hS hA hX cv_RX2_87 [1, 2] [0] (wr := [(a0, .inr (2, [.ref a3, .ref a1, .ref a4, .ref a5, .ref a6, .int 0, .int 0]))]) rfl rfl rfl rfl (by decide) (c112_X7_at l dC dI cI cJ cII cJJ s.heap.size 0 a1 a2) ⟨by decide +kernel, by decide +kernel⟩ rfl rfl (Or.inl rfl) (rest := []) rfl rfl rfl hl.1 rfl (Nat.le_of_ble_eq_true rfl) dX2_at_6 ⟨Nat.le_of_ble_eq_true rfl, Nat.le_of_ble_eq_true rfl⟩ (W' := [(a0, .inr (2, [.ref a3, .ref a1, .ref a4, .ref a5, .ref a6, .int 0, .int 0])), (a1, .inr (7, [.ref a2, .int 2])), (a2, .inl (cJ, 256, .inr (.inl (tbl [8791800153088, 8808980022272]))))]) rfl (fun H locs hP hD hS => ?_)
  exact r_i hx hb hr hk hK hP hD hS dX2_at_9
set_option maxRecDepth 100000 in
set_option maxHeartbeats 4000000 in
theorem c114_X7_at (l : Launch) (dC : Nat → ClassId) (dI : Nat → Nat → Nat) (cI cJ cII cJJ : ClassId) (sz g a0 a1 : Nat) : Met l yX7_at (.code yX7_at cX7_at 3 (some .int) :: TT) ({ frames := 2, cells := 0, slots := 0, locals := 80 }) (PcS dC dI (TY cI cJ cII cJJ) [.ref a0, .int 0, .int 1] [(a0, .inr (7, [.ref a1, .int 2])), (a1, .inl (cJ, 256, .inr (.inl (tbl [8791800153088, 8808980022272]))))] sz 0 g) ((QcI dC dI (TY cI cJ cII cJJ) 0 [(a0, .inr (7, [.ref a1, .int 2])), (a1, .inl (cJ, 256, .inr (.inl (tbl [8791800153088, 8808980022272]))))]) (va_A [(a0, .inr (7, [.ref a1, .int 2])), (a1, .inl (cJ, 256, .inr (.inl (tbl [8791800153088, 8808980022272]))))] sz)) 0 0 (va_A [(a0, .inr (7, [.ref a1, .int 2])), (a1, .inl (cJ, 256, .inr (.inl (tbl [8791800153088, 8808980022272]))))] sz) := by
  refine SM.of (y := yX7_at) (maxL := 3) (av := [.ref a0, .int 0, .int 1]) (QcI dC dI (TY cI cJ cII cJJ) 0 [(a0, .inr (7, [.ref a1, .int 2])), (a1, .inl (cJ, 256, .inr (.inl (tbl [8791800153088, 8808980022272]))))]) (by decide +kernel) (Nat.le_of_ble_eq_true rfl) (fun p e s m below meth c A ls hx hb hr hml hown hts hk hnm hA hK hP hD hS hX hl => ?_)
  have hown : s.vm.findClass RX7 = some m.cls := hown
  have hl : lv_has ls 3 [(0, .ref a0), (1, .int 0), (2, .int 1)] := hl
  refine lv_aload_n hx hb dX7_at_0 rfl (lv_at hl 0 rfl) ?_
  refine gf (k := 0) hx hb hts inX7 hown hK hP k_100 rfl (by decide) rfl 0 rfl (.ref a1) rfl dX7_at_1 ?_
  refine lv_iload_n hx hb dX7_at_4 rfl (lv_at hl 1 rfl) ?_
  refine ld_l hx hb hK hP 1 rfl (vin (by decide +kernel)) dX7_at_5 8791800153088 rfl ?_
  refine lv_bipush (v := 11) hx hb dX7_at_6 (by decide) ?_
  refine lv_iconst (v := 3) hx hb dX7_at_8 (by decide) ?_
  refine lv_iload_n hx hb dX7_at_9 rfl (lv_at hl 2 rfl) ?_
  refine v_isub hx hb dX7_at_10 2 (by decide +kernel) ?_
  refine v_imul hx hb dX7_at_11 22 (by decide +kernel) ?_
  refine lv_lshr (v := 2096128) hx hb dX7_at_12 (by decide +kernel) ?_
  refine lv_ldc2 (v := 2047) hx hb hown (hts _ k_526) dX7_at_13 ?_
  refine v_land hx hb dX7_at_16 1024 (by decide +kernel) ?_
  refine lv_l2i (v := 1024) hx hb dX7_at_17 (by decide +kernel) ?_
  refine lv_sipush (v := 1024) hx hb dX7_at_18 (by decide) ?_
  refine v_isub hx hb dX7_at_21 0 (by decide +kernel) ?_
  exact r_i hx hb hr hk hK hP hD hS dX7_at_22
set_option maxRecDepth 100000 in
set_option maxHeartbeats 4000000 in
theorem c113_X2_at (l : Launch) (dC : Nat → ClassId) (dI : Nat → Nat → Nat) (cI cJ cII cJJ : ClassId) (sz g a0 a1 a2 a3 a4 a5 a6 : Nat) : Met l yX2_at (.code yX2_at cX2_at 3 (some .int) :: TT) ({ frames := 3, cells := 0, slots := 0, locals := 140 }) (PcS dC dI (TY cI cJ cII cJJ) [.ref a0, .int 0, .int 1] [(a0, .inr (2, [.ref a3, .ref a1, .ref a4, .ref a5, .ref a6, .int 0, .int 0])), (a1, .inr (7, [.ref a2, .int 2])), (a2, .inl (cJ, 256, .inr (.inl (tbl [8791800153088, 8808980022272]))))] sz 0 g) ((QcI dC dI (TY cI cJ cII cJJ) 0 [(a0, .inr (2, [.ref a3, .ref a1, .ref a4, .ref a5, .ref a6, .int 0, .int 0])), (a1, .inr (7, [.ref a2, .int 2])), (a2, .inl (cJ, 256, .inr (.inl (tbl [8791800153088, 8808980022272]))))]) (va_A [(a0, .inr (2, [.ref a3, .ref a1, .ref a4, .ref a5, .ref a6, .int 0, .int 0])), (a1, .inr (7, [.ref a2, .int 2])), (a2, .inl (cJ, 256, .inr (.inl (tbl [8791800153088, 8808980022272]))))] sz)) 0 0 (va_A [(a0, .inr (2, [.ref a3, .ref a1, .ref a4, .ref a5, .ref a6, .int 0, .int 0])), (a1, .inr (7, [.ref a2, .int 2])), (a2, .inl (cJ, 256, .inr (.inl (tbl [8791800153088, 8808980022272]))))] sz) := by
  refine SM.of (y := yX2_at) (maxL := 3) (av := [.ref a0, .int 0, .int 1]) (QcI dC dI (TY cI cJ cII cJJ) 0 [(a0, .inr (2, [.ref a3, .ref a1, .ref a4, .ref a5, .ref a6, .int 0, .int 0])), (a1, .inr (7, [.ref a2, .int 2])), (a2, .inl (cJ, 256, .inr (.inl (tbl [8791800153088, 8808980022272]))))]) (by decide +kernel) (Nat.le_of_ble_eq_true rfl) (fun p e s m below meth c A ls hx hb hr hml hown hts hk hnm hA hK hP hD hS hX hl => ?_)
  have hown : s.vm.findClass RX2 = some m.cls := hown
  have hl : lv_has ls 3 [(0, .ref a0), (1, .int 0), (2, .int 1)] := hl
  refine lv_aload_n hx hb dX2_at_0 rfl (lv_at hl 0 rfl) ?_
  refine gf (k := 1) hx hb hts inX2 hown hK hP k_176 rfl (by decide) rfl 0 rfl (.ref a1) rfl dX2_at_1 ?_
  refine lv_iload_n hx hb dX2_at_4 rfl (lv_at hl 1 rfl) ?_
  refine lv_iload_n hx hb dX2_at_5 rfl (lv_at hl 2 rfl) ?_
  refine kV_i (q0 := 0) ⟨hx, hb, hml, hown, hts⟩ hK hP hD hS hA hX cv_RX2_87 [1, 2] [0] (wr := [(a0, .inr (2, [.ref a3, .ref a1, .ref a4, .ref a5, .ref a6, .int 0, .int 0]))]) rfl rfl rfl rfl (by decide) (c114_X7_at l dC dI cI cJ cII cJJ s.heap.size 0 a1 a2) ⟨by decide +kernel, by decide +kernel⟩ rfl rfl (Or.inl rfl) (rest := []) rfl rfl rfl hl.1 rfl (Nat.le_of_ble_eq_true rfl) dX2_at_6 ⟨Nat.le_of_ble_eq_true rfl, Nat.le_of_ble_eq_true rfl⟩ (W' := [(a0, .inr (2, [.ref a3, .ref a1, .ref a4, .ref a5, .ref a6, .int 0, .int 0])), (a1, .inr (7, [.ref a2, .int 2])), (a2, .inl (cJ, 256, .inr (.inl (tbl [8791800153088, 8808980022272]))))]) rfl (fun H locs hP hD hS => ?_)
  exact r_i hx hb hr hk hK hP hD hS dX2_at_9
set_option maxRecDepth 100000 in
set_option maxHeartbeats 4000000 in
theorem c116_X7_at (l : Launch) (dC : Nat → ClassId) (dI : Nat → Nat → Nat) (cI cJ cII cJJ : ClassId) (sz g a0 a1 : Nat) : Met l yX7_at (.code yX7_at cX7_at 3 (some .int) :: TT) ({ frames := 2, cells := 0, slots := 0, locals := 80 }) (PcS dC dI (TY cI cJ cII cJJ) [.ref a0, .int 0, .int 2] [(a0, .inr (7, [.ref a1, .int 2])), (a1, .inl (cJ, 256, .inr (.inl (tbl [8791800153088, 8808980022272]))))] sz 0 g) ((QcI dC dI (TY cI cJ cII cJJ) 0 [(a0, .inr (7, [.ref a1, .int 2])), (a1, .inl (cJ, 256, .inr (.inl (tbl [8791800153088, 8808980022272]))))]) (va_A [(a0, .inr (7, [.ref a1, .int 2])), (a1, .inl (cJ, 256, .inr (.inl (tbl [8791800153088, 8808980022272]))))] sz)) 0 0 (va_A [(a0, .inr (7, [.ref a1, .int 2])), (a1, .inl (cJ, 256, .inr (.inl (tbl [8791800153088, 8808980022272]))))] sz) := by
  refine SM.of (y := yX7_at) (maxL := 3) (av := [.ref a0, .int 0, .int 2]) (QcI dC dI (TY cI cJ cII cJJ) 0 [(a0, .inr (7, [.ref a1, .int 2])), (a1, .inl (cJ, 256, .inr (.inl (tbl [8791800153088, 8808980022272]))))]) (by decide +kernel) (Nat.le_of_ble_eq_true rfl) (fun p e s m below meth c A ls hx hb hr hml hown hts hk hnm hA hK hP hD hS hX hl => ?_)
  have hown : s.vm.findClass RX7 = some m.cls := hown
  have hl : lv_has ls 3 [(0, .ref a0), (1, .int 0), (2, .int 2)] := hl
  refine lv_aload_n hx hb dX7_at_0 rfl (lv_at hl 0 rfl) ?_
  refine gf (k := 0) hx hb hts inX7 hown hK hP k_100 rfl (by decide) rfl 0 rfl (.ref a1) rfl dX7_at_1 ?_
  refine lv_iload_n hx hb dX7_at_4 rfl (lv_at hl 1 rfl) ?_
  refine ld_l hx hb hK hP 1 rfl (vin (by decide +kernel)) dX7_at_5 8791800153088 rfl ?_
  refine lv_bipush (v := 11) hx hb dX7_at_6 (by decide) ?_
  refine lv_iconst (v := 3) hx hb dX7_at_8 (by decide) ?_
  refine lv_iload_n hx hb dX7_at_9 rfl (lv_at hl 2 rfl) ?_
  refine v_isub hx hb dX7_at_10 1 (by decide +kernel) ?_
  refine v_imul hx hb dX7_at_11 11 (by decide +kernel) ?_
  refine lv_lshr (v := 4292871168) hx hb dX7_at_12 (by decide +kernel) ?_
  refine lv_ldc2 (v := 2047) hx hb hown (hts _ k_526) dX7_at_13 ?_
  refine v_land hx hb dX7_at_16 1024 (by decide +kernel) ?_
  refine lv_l2i (v := 1024) hx hb dX7_at_17 (by decide +kernel) ?_
  refine lv_sipush (v := 1024) hx hb dX7_at_18 (by decide) ?_
  refine v_isub hx hb dX7_at_21 0 (by decide +kernel) ?_
  exact r_i hx hb hr hk hK hP hD hS dX7_at_22
set_option maxRecDepth 100000 in
set_option maxHeartbeats 4000000 in
theorem c115_X2_at (l : Launch) (dC : Nat → ClassId) (dI : Nat → Nat → Nat) (cI cJ cII cJJ : ClassId) (sz g a0 a1 a2 a3 a4 a5 a6 : Nat) : Met l yX2_at (.code yX2_at cX2_at 3 (some .int) :: TT) ({ frames := 3, cells := 0, slots := 0, locals := 140 }) (PcS dC dI (TY cI cJ cII cJJ) [.ref a0, .int 0, .int 2] [(a0, .inr (2, [.ref a3, .ref a1, .ref a4, .ref a5, .ref a6, .int 0, .int 0])), (a1, .inr (7, [.ref a2, .int 2])), (a2, .inl (cJ, 256, .inr (.inl (tbl [8791800153088, 8808980022272]))))] sz 0 g) ((QcI dC dI (TY cI cJ cII cJJ) 0 [(a0, .inr (2, [.ref a3, .ref a1, .ref a4, .ref a5, .ref a6, .int 0, .int 0])), (a1, .inr (7, [.ref a2, .int 2])), (a2, .inl (cJ, 256, .inr (.inl (tbl [8791800153088, 8808980022272]))))]) (va_A [(a0, .inr (2, [.ref a3, .ref a1, .ref a4, .ref a5, .ref a6, .int 0, .int 0])), (a1, .inr (7, [.ref a2, .int 2])), (a2, .inl (cJ, 256, .inr (.inl (tbl [8791800153088, 8808980022272]))))] sz)) 0 0 (va_A [(a0, .inr (2, [.ref a3, .ref a1, .ref a4, .ref a5, .ref a6, .int 0, .int 0])), (a1, .inr (7, [.ref a2, .int 2])), (a2, .inl (cJ, 256, .inr (.inl (tbl [8791800153088, 8808980022272]))))] sz) := by
  refine SM.of (y := yX2_at) (maxL := 3) (av := [.ref a0, .int 0, .int 2]) (QcI dC dI (TY cI cJ cII cJJ) 0 [(a0, .inr (2, [.ref a3, .ref a1, .ref a4, .ref a5, .ref a6, .int 0, .int 0])), (a1, .inr (7, [.ref a2, .int 2])), (a2, .inl (cJ, 256, .inr (.inl (tbl [8791800153088, 8808980022272]))))]) (by decide +kernel) (Nat.le_of_ble_eq_true rfl) (fun p e s m below meth c A ls hx hb hr hml hown hts hk hnm hA hK hP hD hS hX hl => ?_)
  have hown : s.vm.findClass RX2 = some m.cls := hown
  have hl : lv_has ls 3 [(0, .ref a0), (1, .int 0), (2, .int 2)] := hl
  refine lv_aload_n hx hb dX2_at_0 rfl (lv_at hl 0 rfl) ?_
  refine gf (k := 1) hx hb hts inX2 hown hK hP k_176 rfl (by decide) rfl 0 rfl (.ref a1) rfl dX2_at_1 ?_
  refine lv_iload_n hx hb dX2_at_4 rfl (lv_at hl 1 rfl) ?_
  refine lv_iload_n hx hb dX2_at_5 rfl (lv_at hl 2 rfl) ?_
  refine kV_i (q0 := 0) ⟨hx, hb, hml, hown, hts⟩ hK hP hD hS hA hX cv_RX2_87 [1, 2] [0] (wr := [(a0, .inr (2, [.ref a3, .ref a1, .ref a4, .ref a5, .ref a6, .int 0, .int 0]))]) rfl rfl rfl rfl (by decide) (c116_X7_at l dC dI cI cJ cII cJJ s.heap.size 0 a1 a2) ⟨by decide +kernel, by decide +kernel⟩ rfl rfl (Or.inl rfl) (rest := []) rfl rfl rfl hl.1 rfl (Nat.le_of_ble_eq_true rfl) dX2_at_6 ⟨Nat.le_of_ble_eq_true rfl, Nat.le_of_ble_eq_true rfl⟩ (W' := [(a0, .inr (2, [.ref a3, .ref a1, .ref a4, .ref a5, .ref a6, .int 0, .int 0])), (a1, .inr (7, [.ref a2, .int 2])), (a2, .inl (cJ, 256, .inr (.inl (tbl [8791800153088, 8808980022272]))))]) rfl (fun H locs hP hD hS => ?_)
  exact r_i hx hb hr hk hK hP hD hS dX2_at_9
set_option maxRecDepth 100000 in
set_option maxHeartbeats 4000000 in
theorem c118_X7_at (l : Launch) (dC : Nat → ClassId) (dI : Nat → Nat → Nat) (cI cJ cII cJJ : ClassId) (sz g a0 a1 : Nat) : Met l yX7_at (.code yX7_at cX7_at 3 (some .int) :: TT) ({ frames := 2, cells := 0, slots := 0, locals := 80 }) (PcS dC dI (TY cI cJ cII cJJ) [.ref a0, .int 0, .int 3] [(a0, .inr (7, [.ref a1, .int 2])), (a1, .inl (cJ, 256, .inr (.inl (tbl [8791800153088, 8808980022272]))))] sz 0 g) ((QcI dC dI (TY cI cJ cII cJJ) 0 [(a0, .inr (7, [.ref a1, .int 2])), (a1, .inl (cJ, 256, .inr (.inl (tbl [8791800153088, 8808980022272]))))]) (va_A [(a0, .inr (7, [.ref a1, .int 2])), (a1, .inl (cJ, 256, .inr (.inl (tbl [8791800153088, 8808980022272]))))] sz)) 0 0 (va_A [(a0, .inr (7, [.ref a1, .int 2])), (a1, .inl (cJ, 256, .inr (.inl (tbl [8791800153088, 8808980022272]))))] sz) := by
  refine SM.of (y := yX7_at) (maxL := 3) (av := [.ref a0, .int 0, .int 3]) (QcI dC dI (TY cI cJ cII cJJ) 0 [(a0, .inr (7, [.ref a1, .int 2])), (a1, .inl (cJ, 256, .inr (.inl (tbl [8791800153088, 8808980022272]))))]) (by decide +kernel) (Nat.le_of_ble_eq_true rfl) (fun p e s m below meth c A ls hx hb hr hml hown hts hk hnm hA hK hP hD hS hX hl => ?_)
  have hown : s.vm.findClass RX7 = some m.cls := hown
  have hl : lv_has ls 3 [(0, .ref a0), (1, .int 0), (2, .int 3)] := hl
  refine lv_aload_n hx hb dX7_at_0 rfl (lv_at hl 0 rfl) ?_
  refine gf (k := 0) hx hb hts inX7 hown hK hP k_100 rfl (by decide) rfl 0 rfl (.ref a1) rfl dX7_at_1 ?_
  refine lv_iload_n hx hb dX7_at_4 rfl (lv_at hl 1 rfl) ?_
  refine ld_l hx hb hK hP 1 rfl (vin (by decide +kernel)) dX7_at_5 8791800153088 rfl ?_
  refine lv_bipush (v := 11) hx hb dX7_at_6 (by decide) ?_
  refine lv_iconst (v := 3) hx hb dX7_at_8 (by decide) ?_
  refine lv_iload_n hx hb dX7_at_9 rfl (lv_at hl 2 rfl) ?_
  refine v_isub hx hb dX7_at_10 0 (by decide +kernel) ?_
  refine v_imul hx hb dX7_at_11 0 (by decide +kernel) ?_
  refine lv_lshr (v := 8791800153088) hx hb dX7_at_12 (by decide +kernel) ?_
  refine lv_ldc2 (v := 2047) hx hb hown (hts _ k_526) dX7_at_13 ?_
  refine v_land hx hb dX7_at_16 1024 (by decide +kernel) ?_
  refine lv_l2i (v := 1024) hx hb dX7_at_17 (by decide +kernel) ?_
  refine lv_sipush (v := 1024) hx hb dX7_at_18 (by decide) ?_
  refine v_isub hx hb dX7_at_21 0 (by decide +kernel) ?_
  exact r_i hx hb hr hk hK hP hD hS dX7_at_22
set_option maxRecDepth 100000 in
set_option maxHeartbeats 4000000 in
theorem c117_X2_at (l : Launch) (dC : Nat → ClassId) (dI : Nat → Nat → Nat) (cI cJ cII cJJ : ClassId) (sz g a0 a1 a2 a3 a4 a5 a6 : Nat) : Met l yX2_at (.code yX2_at cX2_at 3 (some .int) :: TT) ({ frames := 3, cells := 0, slots := 0, locals := 140 }) (PcS dC dI (TY cI cJ cII cJJ) [.ref a0, .int 0, .int 3] [(a0, .inr (2, [.ref a3, .ref a1, .ref a4, .ref a5, .ref a6, .int 0, .int 0])), (a1, .inr (7, [.ref a2, .int 2])), (a2, .inl (cJ, 256, .inr (.inl (tbl [8791800153088, 8808980022272]))))] sz 0 g) ((QcI dC dI (TY cI cJ cII cJJ) 0 [(a0, .inr (2, [.ref a3, .ref a1, .ref a4, .ref a5, .ref a6, .int 0, .int 0])), (a1, .inr (7, [.ref a2, .int 2])), (a2, .inl (cJ, 256, .inr (.inl (tbl [8791800153088, 8808980022272]))))]) (va_A [(a0, .inr (2, [.ref a3, .ref a1, .ref a4, .ref a5, .ref a6, .int 0, .int 0])), (a1, .inr (7, [.ref a2, .int 2])), (a2, .inl (cJ, 256, .inr (.inl (tbl [8791800153088, 8808980022272]))))] sz)) 0 0 (va_A [(a0, .inr (2, [.ref a3, .ref a1, .ref a4, .ref a5, .ref a6, .int 0, .int 0])), (a1, .inr (7, [.ref a2, .int 2])), (a2, .inl (cJ, 256, .inr (.inl (tbl [8791800153088, 8808980022272]))))] sz) := by
  refine SM.of (y := yX2_at) (maxL := 3) (av := [.ref a0, .int 0, .int 3]) (QcI dC dI (TY cI cJ cII cJJ) 0 [(a0, .inr (2, [.ref a3, .ref a1, .ref a4, .ref a5, .ref a6, .int 0, .int 0])), (a1, .inr (7, [.ref a2, .int 2])), (a2, .inl (cJ, 256, .inr (.inl (tbl [8791800153088, 8808980022272]))))]) (by decide +kernel) (Nat.le_of_ble_eq_true rfl) (fun p e s m below meth c A ls hx hb hr hml hown hts hk hnm hA hK hP hD hS hX hl => ?_)
  have hown : s.vm.findClass RX2 = some m.cls := hown
  have hl : lv_has ls 3 [(0, .ref a0), (1, .int 0), (2, .int 3)] := hl
  refine lv_aload_n hx hb dX2_at_0 rfl (lv_at hl 0 rfl) ?_
  refine gf (k := 1) hx hb hts inX2 hown hK hP k_176 rfl (by decide) rfl 0 rfl (.ref a1) rfl dX2_at_1 ?_
  refine lv_iload_n hx hb dX2_at_4 rfl (lv_at hl 1 rfl) ?_
  refine lv_iload_n hx hb dX2_at_5 rfl (lv_at hl 2 rfl) ?_
  refine kV_i (q0 := 0) ⟨hx, hb, hml, hown, hts⟩ hK hP hD hS hA hX cv_RX2_87 [1, 2] [0] (wr := [(a0, .inr (2, [.ref a3, .ref a1, .ref a4, .ref a5, .ref a6, .int 0, .int 0]))]) rfl rfl rfl rfl (by decide) (c118_X7_at l dC dI cI cJ cII cJJ s.heap.size 0 a1 a2) ⟨by decide +kernel, by decide +kernel⟩ rfl rfl (Or.inl rfl) (rest := []) rfl rfl rfl hl.1 rfl (Nat.le_of_ble_eq_true rfl) dX2_at_6 ⟨Nat.le_of_ble_eq_true rfl, Nat.le_of_ble_eq_true rfl⟩ (W' := [(a0, .inr (2, [.ref a3, .ref a1, .ref a4, .ref a5, .ref a6, .int 0, .int 0])), (a1, .inr (7, [.ref a2, .int 2])), (a2, .inl (cJ, 256, .inr (.inl (tbl [8791800153088, 8808980022272]))))]) rfl (fun H locs hP hD hS => ?_)
  exact r_i hx hb hr hk hK hP hD hS dX2_at_9
set_option maxRecDepth 100000 in
set_option maxHeartbeats 4000000 in
theorem c110_X2_supportOf (l : Launch) (dC : Nat → ClassId) (dI : Nat → Nat → Nat) (cI cJ cII cJJ : ClassId) (sz g a0 a1 a2 a3 a4 a5 a6 : Nat) : Met l yX2_supportOf (.code yX2_supportOf cX2_supportOf 4 (some .int) :: TT) ({ frames := 4, cells := 0, slots := 0, locals := 200 }) (PcS dC dI (TY cI cJ cII cJJ) [.ref a0, .int 0] [(a0, .inr (2, [.ref a3, .ref a1, .ref a4, .ref a5, .ref a6, .int 0, .int 0])), (a1, .inr (7, [.ref a2, .int 2])), (a2, .inl (cJ, 256, .inr (.inl (tbl [8791800153088, 8808980022272]))))] sz 0 g) ((QcI dC dI (TY cI cJ cII cJJ) 1 [(a0, .inr (2, [.ref a3, .ref a1, .ref a4, .ref a5, .ref a6, .int 0, .int 0])), (a1, .inr (7, [.ref a2, .int 2])), (a2, .inl (cJ, 256, .inr (.inl (tbl [8791800153088, 8808980022272]))))]) (va_A [(a0, .inr (2, [.ref a3, .ref a1, .ref a4, .ref a5, .ref a6, .int 0, .int 0])), (a1, .inr (7, [.ref a2, .int 2])), (a2, .inl (cJ, 256, .inr (.inl (tbl [8791800153088, 8808980022272]))))] sz)) 0 0 (va_A [(a0, .inr (2, [.ref a3, .ref a1, .ref a4, .ref a5, .ref a6, .int 0, .int 0])), (a1, .inr (7, [.ref a2, .int 2])), (a2, .inl (cJ, 256, .inr (.inl (tbl [8791800153088, 8808980022272]))))] sz) := by
  refine SM.of (y := yX2_supportOf) (maxL := 4) (av := [.ref a0, .int 0]) (QcI dC dI (TY cI cJ cII cJJ) 1 [(a0, .inr (2, [.ref a3, .ref a1, .ref a4, .ref a5, .ref a6, .int 0, .int 0])), (a1, .inr (7, [.ref a2, .int 2])), (a2, .inl (cJ, 256, .inr (.inl (tbl [8791800153088, 8808980022272]))))]) (by decide +kernel) (Nat.le_of_ble_eq_true rfl) (fun p e s m below meth c A ls hx hb hr hml hown hts hk hnm hA hK hP hD hS hX hl => ?_)
  have hown : s.vm.findClass RX2 = some m.cls := hown
  have hl : lv_has ls 4 [(0, .ref a0), (1, .int 0)] := hl
  refine lv_iconst (v := 0) hx hb dX2_supportOf_0 (by decide) ?_
  refine lv_istore_n (lv' := [(2, .int 0), (0, .ref a0), (1, .int 0)]) hx hb dX2_supportOf_1 rfl hl (by decide) rfl (fun ls hl => ?_)
  refine lv_iconst (v := 0) hx hb dX2_supportOf_2 (by decide) ?_
  refine lv_istore_n (lv' := [(3, .int 0), (2, .int 0), (0, .ref a0), (1, .int 0)]) hx hb dX2_supportOf_3 rfl hl (by decide) rfl (fun ls hl => ?_)
  refine lv_iload_n hx hb dX2_supportOf_4 rfl (lv_at hl 0 rfl) ?_
  refine lv_iconst (v := 4) hx hb dX2_supportOf_5 (by decide) ?_
  refine f_icmp_ge hx hb dX2_supportOf_6 30 (by decide) (by decide +kernel) ?_
  refine lv_aload_n hx hb dX2_supportOf_9 rfl (lv_at hl 2 rfl) ?_
  refine lv_iload_n hx hb dX2_supportOf_10 rfl (lv_at hl 3 rfl) ?_
  refine lv_iload_n hx hb dX2_supportOf_11 rfl (lv_at hl 0 rfl) ?_
  refine kV_i (q0 := 0) ⟨hx, hb, hml, hown, hts⟩ hK hP hD hS hA hX cv_RX2_98 [0, 1, 2] [] (wr := []) rfl rfl rfl rfl (by decide) (c111_X2_at l dC dI cI cJ cII cJJ s.heap.size 0 a0 a1 a2 a3 a4 a5 a6) ⟨by decide +kernel, by decide +kernel⟩ rfl rfl (Or.inl rfl) (rest := []) rfl rfl rfl hl.1 rfl (Nat.le_of_ble_eq_true rfl) dX2_supportOf_12 ⟨Nat.le_of_ble_eq_true rfl, Nat.le_of_ble_eq_true rfl⟩ (W' := [(a0, .inr (2, [.ref a3, .ref a1, .ref a4, .ref a5, .ref a6, .int 0, .int 0])), (a1, .inr (7, [.ref a2, .int 2])), (a2, .inl (cJ, 256, .inr (.inl (tbl [8791800153088, 8808980022272]))))]) rfl (fun H locs hP hD hS => ?_)
  refine f_if_eq hx hb dX2_supportOf_15 24 (by decide) (by decide +kernel) ?_
  refine lv_iload_n hx hb dX2_supportOf_18 rfl (lv_at hl 1 rfl) ?_
  refine lv_iconst (v := 1) hx hb dX2_supportOf_19 (by decide) ?_
  refine lv_iload_n hx hb dX2_supportOf_20 rfl (lv_at hl 0 rfl) ?_
  refine v_ishl hx hb dX2_supportOf_21 1 (by decide +kernel) ?_
  refine v_ior hx hb dX2_supportOf_22 1 (by decide +kernel) ?_
  refine lv_istore_n (lv' := [(2, .int 1), (3, .int 0), (0, .ref a0), (1, .int 0)]) hx hb dX2_supportOf_23 rfl hl (by decide) rfl (fun ls hl => ?_)
  refine lv_iinc (v := 1) (lv' := [(3, .int 1), (2, .int 1), (0, .ref a0), (1, .int 0)]) hx hb dX2_supportOf_24 hl (k := 1) rfl (by decide +kernel) (by decide) rfl (fun ls hl => ?_)
  refine lv_goto (tgt := 4) hx hb dX2_supportOf_27 (by decide) ?_
  refine lv_iload_n hx hb dX2_supportOf_4 rfl (lv_at hl 0 rfl) ?_
  refine lv_iconst (v := 4) hx hb dX2_supportOf_5 (by decide) ?_
  refine f_icmp_ge hx hb dX2_supportOf_6 30 (by decide) (by decide +kernel) ?_
  refine lv_aload_n hx hb dX2_supportOf_9 rfl (lv_at hl 2 rfl) ?_
  refine lv_iload_n hx hb dX2_supportOf_10 rfl (lv_at hl 3 rfl) ?_
  refine lv_iload_n hx hb dX2_supportOf_11 rfl (lv_at hl 0 rfl) ?_
  refine kV_i (q0 := 0) ⟨hx, hb, hml, hown, hts⟩ hK hP hD hS hA hX cv_RX2_98 [0, 1, 2] [] (wr := []) rfl rfl rfl rfl (by decide) (c113_X2_at l dC dI cI cJ cII cJJ H.size 0 a0 a1 a2 a3 a4 a5 a6) ⟨by decide +kernel, by decide +kernel⟩ rfl rfl (Or.inl rfl) (rest := []) rfl rfl rfl hl.1 rfl (Nat.le_of_ble_eq_true rfl) dX2_supportOf_12 ⟨Nat.le_of_ble_eq_true rfl, Nat.le_of_ble_eq_true rfl⟩ (W' := [(a0, .inr (2, [.ref a3, .ref a1, .ref a4, .ref a5, .ref a6, .int 0, .int 0])), (a1, .inr (7, [.ref a2, .int 2])), (a2, .inl (cJ, 256, .inr (.inl (tbl [8791800153088, 8808980022272]))))]) rfl (fun H locs hP hD hS => ?_)
  refine t_if_eq hx hb dX2_supportOf_15 24 (by decide) (by decide +kernel) ?_
  refine lv_iinc (v := 2) (lv' := [(3, .int 2), (2, .int 1), (0, .ref a0), (1, .int 0)]) hx hb dX2_supportOf_24 hl (k := 0) rfl (by decide +kernel) (by decide) rfl (fun ls hl => ?_)
  refine lv_goto (tgt := 4) hx hb dX2_supportOf_27 (by decide) ?_
  refine lv_iload_n hx hb dX2_supportOf_4 rfl (lv_at hl 0 rfl) ?_
  refine lv_iconst (v := 4) hx hb dX2_supportOf_5 (by decide) ?_
  refine f_icmp_ge hx hb dX2_supportOf_6 30 (by decide) (by decide +kernel) ?_
  refine lv_aload_n hx hb dX2_supportOf_9 rfl (lv_at hl 2 rfl) ?_
  refine lv_iload_n hx hb dX2_supportOf_10 rfl (lv_at hl 3 rfl) ?_
  refine lv_iload_n hx hb dX2_supportOf_11 rfl (lv_at hl 0 rfl) ?_
  refine kV_i (q0 := 0) ⟨hx, hb, hml, hown, hts⟩ hK hP hD hS hA hX cv_RX2_98 [0, 1, 2] [] (wr := []) rfl rfl rfl rfl (by decide) (c115_X2_at l dC dI cI cJ cII cJJ H.size 0 a0 a1 a2 a3 a4 a5 a6) ⟨by decide +kernel, by decide +kernel⟩ rfl rfl (Or.inl rfl) (rest := []) rfl rfl rfl hl.1 rfl (Nat.le_of_ble_eq_true rfl) dX2_supportOf_12 ⟨Nat.le_of_ble_eq_true rfl, Nat.le_of_ble_eq_true rfl⟩ (W' := [(a0, .inr (2, [.ref a3, .ref a1, .ref a4, .ref a5, .ref a6, .int 0, .int 0])), (a1, .inr (7, [.ref a2, .int 2])), (a2, .inl (cJ, 256, .inr (.inl (tbl [8791800153088, 8808980022272]))))]) rfl (fun H locs hP hD hS => ?_)
  refine t_if_eq hx hb dX2_supportOf_15 24 (by decide) (by decide +kernel) ?_
  refine lv_iinc (v := 3) (lv' := [(3, .int 3), (2, .int 1), (0, .ref a0), (1, .int 0)]) hx hb dX2_supportOf_24 hl (k := 0) rfl (by decide +kernel) (by decide) rfl (fun ls hl => ?_)
  refine lv_goto (tgt := 4) hx hb dX2_supportOf_27 (by decide) ?_
  refine lv_iload_n hx hb dX2_supportOf_4 rfl (lv_at hl 0 rfl) ?_
  refine lv_iconst (v := 4) hx hb dX2_supportOf_5 (by decide) ?_
  refine f_icmp_ge hx hb dX2_supportOf_6 30 (by decide) (by decide +kernel) ?_
  refine lv_aload_n hx hb dX2_supportOf_9 rfl (lv_at hl 2 rfl) ?_
  refine lv_iload_n hx hb dX2_supportOf_10 rfl (lv_at hl 3 rfl) ?_
  refine lv_iload_n hx hb dX2_supportOf_11 rfl (lv_at hl 0 rfl) ?_
  refine kV_i (q0 := 0) ⟨hx, hb, hml, hown, hts⟩ hK hP hD hS hA hX cv_RX2_98 [0, 1, 2] [] (wr := []) rfl rfl rfl rfl (by decide) (c117_X2_at l dC dI cI cJ cII cJJ H.size 0 a0 a1 a2 a3 a4 a5 a6) ⟨by decide +kernel, by decide +kernel⟩ rfl rfl (Or.inl rfl) (rest := []) rfl rfl rfl hl.1 rfl (Nat.le_of_ble_eq_true rfl) dX2_supportOf_12 ⟨Nat.le_of_ble_eq_true rfl, Nat.le_of_ble_eq_true rfl⟩ (W' := [(a0, .inr (2, [.ref a3, .ref a1, .ref a4, .ref a5, .ref a6, .int 0, .int 0])), (a1, .inr (7, [.ref a2, .int 2])), (a2, .inl (cJ, 256, .inr (.inl (tbl [8791800153088, 8808980022272]))))]) rfl (fun H locs hP hD hS => ?_)
  refine t_if_eq hx hb dX2_supportOf_15 24 (by decide) (by decide +kernel) ?_
  refine lv_iinc (v := 4) (lv' := [(3, .int 4), (2, .int 1), (0, .ref a0), (1, .int 0)]) hx hb dX2_supportOf_24 hl (k := 0) rfl (by decide +kernel) (by decide) rfl (fun ls hl => ?_)
  refine lv_goto (tgt := 4) hx hb dX2_supportOf_27 (by decide) ?_
  refine lv_iload_n hx hb dX2_supportOf_4 rfl (lv_at hl 0 rfl) ?_
  refine lv_iconst (v := 4) hx hb dX2_supportOf_5 (by decide) ?_
  refine t_icmp_ge hx hb dX2_supportOf_6 30 (by decide) (by decide +kernel) ?_
  refine lv_iload_n hx hb dX2_supportOf_30 rfl (lv_at hl 1 rfl) ?_
  exact r_i hx hb hr hk hK hP hD hS dX2_supportOf_31
set_option maxRecDepth 100000 in
set_option maxHeartbeats 4000000 in
theorem c121_X7_at (l : Launch) (dC : Nat → ClassId) (dI : Nat → Nat → Nat) (cI cJ cII cJJ : ClassId) (sz g a0 a1 : Nat) : Met l yX7_at (.code yX7_at cX7_at 3 (some .int) :: TT) ({ frames := 2, cells := 0, slots := 0, locals := 80 }) (PcS dC dI (TY cI cJ cII cJJ) [.ref a0, .int 1, .int 0] [(a0, .inr (7, [.ref a1, .int 2])), (a1, .inl (cJ, 256, .inr (.inl (tbl [8791800153088, 8808980022272]))))] sz 0 g) ((QcI dC dI (TY cI cJ cII cJJ) 1 [(a0, .inr (7, [.ref a1, .int 2])), (a1, .inl (cJ, 256, .inr (.inl (tbl [8791800153088, 8808980022272]))))]) (va_A [(a0, .inr (7, [.ref a1, .int 2])), (a1, .inl (cJ, 256, .inr (.inl (tbl [8791800153088, 8808980022272]))))] sz)) 0 0 (va_A [(a0, .inr (7, [.ref a1, .int 2])), (a1, .inl (cJ, 256, .inr (.inl (tbl [8791800153088, 8808980022272]))))] sz) := by
  refine SM.of (y := yX7_at) (maxL := 3) (av := [.ref a0, .int 1, .int 0]) (QcI dC dI (TY cI cJ cII cJJ) 1 [(a0, .inr (7, [.ref a1, .int 2])), (a1, .inl (cJ, 256, .inr (.inl (tbl [8791800153088, 8808980022272]))))]) (by decide +kernel) (Nat.le_of_ble_eq_true rfl) (fun p e s m below meth c A ls hx hb hr hml hown hts hk hnm hA hK hP hD hS hX hl => ?_)
  have hown : s.vm.findClass RX7 = some m.cls := hown
  have hl : lv_has ls 3 [(0, .ref a0), (1, .int 1), (2, .int 0)] := hl
  refine lv_aload_n hx hb dX7_at_0 rfl (lv_at hl 0 rfl) ?_
  refine gf (k := 0) hx hb hts inX7 hown hK hP k_100 rfl (by decide) rfl 0 rfl (.ref a1) rfl dX7_at_1 ?_
  refine lv_iload_n hx hb dX7_at_4 rfl (lv_at hl 1 rfl) ?_
  refine ld_l hx hb hK hP 1 rfl (vin (by decide +kernel)) dX7_at_5 8808980022272 rfl ?_
  refine lv_bipush (v := 11) hx hb dX7_at_6 (by decide) ?_
  refine lv_iconst (v := 3) hx hb dX7_at_8 (by decide) ?_
  refine lv_iload_n hx hb dX7_at_9 rfl (lv_at hl 2 rfl) ?_
  refine v_isub hx hb dX7_at_10 3 (by decide +kernel) ?_
  refine v_imul hx hb dX7_at_11 33 (by decide +kernel) ?_
  refine lv_lshr (v := 1025) hx hb dX7_at_12 (by decide +kernel) ?_
  refine lv_ldc2 (v := 2047) hx hb hown (hts _ k_526) dX7_at_13 ?_
  refine v_land hx hb dX7_at_16 1025 (by decide +kernel) ?_
  refine lv_l2i (v := 1025) hx hb dX7_at_17 (by decide +kernel) ?_
  refine lv_sipush (v := 1024) hx hb dX7_at_18 (by decide) ?_
  refine v_isub hx hb dX7_at_21 1 (by decide +kernel) ?_
  exact r_i hx hb hr hk hK hP hD hS dX7_at_22
set_option maxRecDepth 100000 in
set_option maxHeartbeats 4000000 in
theorem c120_X2_at (l : Launch) (dC : Nat → ClassId) (dI : Nat → Nat → Nat) (cI cJ cII cJJ : ClassId) (sz g a0 a1 a2 a3 a4 a5 a6 : Nat) : Met l yX2_at (.code yX2_at cX2_at 3 (some .int) :: TT) ({ frames := 3, cells := 0, slots := 0, locals := 140 }) (PcS dC dI (TY cI cJ cII cJJ) [.ref a0, .int 1, .int 0] [(a0, .inr (2, [.ref a3, .ref a1, .ref a4, .ref a5, .ref a6, .int 0, .int 0])), (a1, .inr (7, [.ref a2, .int 2])), (a2, .inl (cJ, 256, .inr (.inl (tbl [8791800153088, 8808980022272]))))] sz 0 g) ((QcI dC dI (TY cI cJ cII cJJ) 1 [(a0, .inr (2, [.ref a3, .ref a1, .ref a4, .ref a5, .ref a6, .int 0, .int 0])), (a1, .inr (7, [.ref a2, .int 2])), (a2, .inl (cJ, 256, .inr (.inl (tbl [8791800153088, 8808980022272]))))]) (va_A [(a0, .inr (2, [.ref a3, .ref a1, .ref a4, .ref a5, .ref a6, .int 0, .int 0])), (a1, .inr (7, [.ref a2, .int 2])), (a2, .inl (cJ, 256, .inr (.inl (tbl [8791800153088, 8808980022272]))))] sz)) 0 0 (va_A [(a0, .inr (2, [.ref a3, .ref a1, .ref a4, .ref a5, .ref a6, .int 0, .int 0])), (a1, .inr (7, [.ref a2, .int 2])), (a2, .inl (cJ, 256, .inr (.inl (tbl [8791800153088, 8808980022272]))))] sz) := by
  refine SM.of (y := yX2_at) (maxL := 3) (av := [.ref a0, .int 1, .int 0]) (QcI dC dI (TY cI cJ cII cJJ) 1 [(a0, .inr (2, [.ref a3, .ref a1, .ref a4, .ref a5, .ref a6, .int 0, .int 0])), (a1, .inr (7, [.ref a2, .int 2])), (a2, .inl (cJ, 256, .inr (.inl (tbl [8791800153088, 8808980022272]))))]) (by decide +kernel) (Nat.le_of_ble_eq_true rfl) (fun p e s m below meth c A ls hx hb hr hml hown hts hk hnm hA hK hP hD hS hX hl => ?_)
  have hown : s.vm.findClass RX2 = some m.cls := hown
  have hl : lv_has ls 3 [(0, .ref a0), (1, .int 1), (2, .int 0)] := hl
  refine lv_aload_n hx hb dX2_at_0 rfl (lv_at hl 0 rfl) ?_
  refine gf (k := 1) hx hb hts inX2 hown hK hP k_176 rfl (by decide) rfl 0 rfl (.ref a1) rfl dX2_at_1 ?_
  refine lv_iload_n hx hb dX2_at_4 rfl (lv_at hl 1 rfl) ?_
  refine lv_iload_n hx hb dX2_at_5 rfl (lv_at hl 2 rfl) ?_
  refine kV_i (q0 := 0) ⟨hx, hb, hml, hown, hts⟩ hK hP hD hS hA hX cv_RX2_87 [1, 2] [0] (wr := [(a0, .inr (2, [.ref a3, .ref a1, .ref a4, .ref a5, .ref a6, .int 0, .int 0]))]) rfl rfl rfl rfl (by decide) (c121_X7_at l dC dI cI cJ cII cJJ s.heap.size 0 a1 a2) ⟨by decide +kernel, by decide +kernel⟩ rfl rfl (Or.inl rfl) (rest := []) rfl rfl rfl hl.1 rfl (Nat.le_of_ble_eq_true rfl) dX2_at_6 ⟨Nat.le_of_ble_eq_true rfl, Nat.le_of_ble_eq_true rfl⟩ (W' := [(a0, .inr (2, [.ref a3, .ref a1, .ref a4, .ref a5, .ref a6, .int 0, .int 0])), (a1, .inr (7, [.ref a2, .int 2])), (a2, .inl (cJ, 256, .inr (.inl (tbl [8791800153088, 8808980022272]))))]) rfl (fun H locs hP hD hS => ?_)
  exact r_i hx hb hr hk hK hP hD hS dX2_at_9
set_option maxRecDepth 100000 in
set_option maxHeartbeats 4000000 in
theorem c123_X7_at (l : Launch) (dC : Nat → ClassId) (dI : Nat → Nat → Nat) (cI cJ cII cJJ : ClassId) (sz g a0 a1 : Nat) : Met l yX7_at (.code yX7_at cX7_at 3 (some .int) :: TT) ({ frames := 2, cells := 0, slots := 0, locals := 80 }) (PcS dC dI (TY cI cJ cII cJJ) [.ref a0, .int 1, .int 1] [(a0, .inr (7, [.ref a1, .int 2])), (a1, .inl (cJ, 256, .inr (.inl (tbl [8791800153088, 8808980022272]))))] sz 0 g) ((QcI dC dI (TY cI cJ cII cJJ) 0 [(a0, .inr (7, [.ref a1, .int 2])), (a1, .inl (cJ, 256, .inr (.inl (tbl [8791800153088, 8808980022272]))))]) (va_A [(a0, .inr (7, [.ref a1, .int 2])), (a1, .inl (cJ, 256, .inr (.inl (tbl [8791800153088, 8808980022272]))))] sz)) 0 0 (va_A [(a0, .inr (7, [.ref a1, .int 2])), (a1, .inl (cJ, 256, .inr (.inl (tbl [8791800153088, 8808980022272]))))] sz) := by
  refine SM.of (y := yX7_at) (maxL := 3) (av := [.ref a0, .int 1, .int 1]) (QcI dC dI (TY cI cJ cII cJJ) 0 [(a0, .inr (7, [.ref a1, .int 2])), (a1, .inl (cJ, 256, .inr (.inl (tbl [8791800153088, 8808980022272]))))]) (by decide +kernel) (Nat.le_of_ble_eq_true rfl) (fun p e s m below meth c A ls hx hb hr hml hown hts hk hnm hA hK hP hD hS hX hl => ?_)
  have hown : s.vm.findClass RX7 = some m.cls := hown
  have hl : lv_has ls 3 [(0, .ref a0), (1, .int 1), (2, .int 1)] := hl
  refine lv_aload_n hx hb dX7_at_0 rfl (lv_at hl 0 rfl) ?_
  refine gf (k := 0) hx hb hts inX7 hown hK hP k_100 rfl (by decide) rfl 0 rfl (.ref a1) rfl dX7_at_1 ?_
  refine lv_iload_n hx hb dX7_at_4 rfl (lv_at hl 1 rfl) ?_
  refine ld_l hx hb hK hP 1 rfl (vin (by decide +kernel)) dX7_at_5 8808980022272 rfl ?_
  refine lv_bipush (v := 11) hx hb dX7_at_6 (by decide) ?_
  refine lv_iconst (v := 3) hx hb dX7_at_8 (by decide) ?_
  refine lv_iload_n hx hb dX7_at_9 rfl (lv_at hl 2 rfl) ?_
  refine v_isub hx hb dX7_at_10 2 (by decide +kernel) ?_
  refine v_imul hx hb dX7_at_11 22 (by decide +kernel) ?_
  refine lv_lshr (v := 2100224) hx hb dX7_at_12 (by decide +kernel) ?_
  refine lv_ldc2 (v := 2047) hx hb hown (hts _ k_526) dX7_at_13 ?_
  refine v_land hx hb dX7_at_16 1024 (by decide +kernel) ?_
  refine lv_l2i (v := 1024) hx hb dX7_at_17 (by decide +kernel) ?_
  refine lv_sipush (v := 1024) hx hb dX7_at_18 (by decide) ?_
  refine v_isub hx hb dX7_at_21 0 (by decide +kernel) ?_
  exact r_i hx hb hr hk hK hP hD hS dX7_at_22
set_option maxRecDepth 100000 in
set_option maxHeartbeats 4000000 in
theorem c122_X2_at (l : Launch) (dC : Nat → ClassId) (dI : Nat → Nat → Nat) (cI cJ cII cJJ : ClassId) (sz g a0 a1 a2 a3 a4 a5 a6 : Nat) : Met l yX2_at (.code yX2_at cX2_at 3 (some .int) :: TT) ({ frames := 3, cells := 0, slots := 0, locals := 140 }) (PcS dC dI (TY cI cJ cII cJJ) [.ref a0, .int 1, .int 1] [(a0, .inr (2, [.ref a3, .ref a1, .ref a4, .ref a5, .ref a6, .int 0, .int 0])), (a1, .inr (7, [.ref a2, .int 2])), (a2, .inl (cJ, 256, .inr (.inl (tbl [8791800153088, 8808980022272]))))] sz 0 g) ((QcI dC dI (TY cI cJ cII cJJ) 0 [(a0, .inr (2, [.ref a3, .ref a1, .ref a4, .ref a5, .ref a6, .int 0, .int 0])), (a1, .inr (7, [.ref a2, .int 2])), (a2, .inl (cJ, 256, .inr (.inl (tbl [8791800153088, 8808980022272]))))]) (va_A [(a0, .inr (2, [.ref a3, .ref a1, .ref a4, .ref a5, .ref a6, .int 0, .int 0])), (a1, .inr (7, [.ref a2, .int 2])), (a2, .inl (cJ, 256, .inr (.inl (tbl [8791800153088, 8808980022272]))))] sz)) 0 0 (va_A [(a0, .inr (2, [.ref a3, .ref a1, .ref a4, .ref a5, .ref a6, .int 0, .int 0])), (a1, .inr (7, [.ref a2, .int 2])), (a2, .inl (cJ, 256, .inr (.inl (tbl [8791800153088, 8808980022272]))))] sz) := by
  refine SM.of (y := yX2_at) (maxL := 3) (av := [.ref a0, .int 1, .int 1]) (QcI dC dI (TY cI cJ cII cJJ) 0 [(a0, .inr (2, [.ref a3, .ref a1, .ref a4, .ref a5, .ref a6, .int 0, .int 0])), (a1, .inr (7, [.ref a2, .int 2])), (a2, .inl (cJ, 256, .inr (.inl (tbl [8791800153088, 8808980022272]))))]) (by decide +kernel) (Nat.le_of_ble_eq_true rfl) (fun p e s m below meth c A ls hx hb hr hml hown hts hk hnm hA hK hP hD hS hX hl => ?_)
  have hown : s.vm.findClass RX2 = some m.cls := hown
  have hl : lv_has ls 3 [(0, .ref a0), (1, .int 1), (2, .int 1)] := hl
  refine lv_aload_n hx hb dX2_at_0 rfl (lv_at hl 0 rfl) ?_
  refine gf (k := 1) hx hb hts inX2 hown hK hP k_176 rfl (by decide) rfl 0 rfl (.ref a1) rfl dX2_at_1 ?_
  refine lv_iload_n hx hb dX2_at_4 rfl (lv_at hl 1 rfl) ?_
  refine lv_iload_n hx hb dX2_at_5 rfl (lv_at hl 2 rfl) ?_
  refine kV_i (q0 := 0) ⟨hx, hb, hml, hown, hts⟩ hK hP hD hS hA hX cv_RX2_87 [1, 2] [0] (wr := [(a0, .inr (2, [.ref a3, .ref a1, .ref a4, .ref a5, .ref a6, .int 0, .int 0]))]) rfl rfl rfl rfl (by decide) (c123_X7_at l dC dI cI cJ cII cJJ s.heap.size 0 a1 a2) ⟨by decide +kernel, by decide +kernel⟩ rfl rfl (Or.inl rfl) (rest := []) rfl rfl rfl hl.1 rfl (Nat.le_of_ble_eq_true rfl) dX2_at_6 ⟨Nat.le_of_ble_eq_true rfl, Nat.le_of_ble_eq_true rfl⟩ (W' := [(a0, .inr (2, [.ref a3, .ref a1, .ref a4, .ref a5, .ref a6, .int 0, .int 0])), (a1, .inr (7, [.ref a2, .int 2])), (a2, .inl (cJ, 256, .inr (.inl (tbl [8791800153088, 8808980022272]))))]) rfl (fun H locs hP hD hS => ?_)
  exact r_i hx hb hr hk hK hP hD hS dX2_at_9
set_option maxRecDepth 100000 in
set_option maxHeartbeats 4000000 in
theorem c125_X7_at (l : Launch) (dC : Nat → ClassId) (dI : Nat → Nat → Nat) (cI cJ cII cJJ : ClassId) (sz g a0 a1 : Nat) : Met l yX7_at (.code yX7_at cX7_at 3 (some .int) :: TT) ({ frames := 2, cells := 0, slots := 0, locals := 80 }) (PcS dC dI (TY cI cJ cII cJJ) [.ref a0, .int 1, .int 2] [(a0, .inr (7, [.ref a1, .int 2])), (a1, .inl (cJ, 256, .inr (.inl (tbl [8791800153088, 8808980022272]))))] sz 0 g) ((QcI dC dI (TY cI cJ cII cJJ) 0 [(a0, .inr (7, [.ref a1, .int 2])), (a1, .inl (cJ, 256, .inr (.inl (tbl [8791800153088, 8808980022272]))))]) (va_A [(a0, .inr (7, [.ref a1, .int 2])), (a1, .inl (cJ, 256, .inr (.inl (tbl [8791800153088, 8808980022272]))))] sz)) 0 0 (va_A [(a0, .inr (7, [.ref a1, .int 2])), (a1, .inl (cJ, 256, .inr (.inl (tbl [8791800153088, 8808980022272]))))] sz) := by
  refine SM.of (y := yX7_at) (maxL := 3) (av := [.ref a0, .int 1, .int 2]) (QcI dC dI (TY cI cJ cII cJJ) 0 [(a0, .inr (7, [.ref a1, .int 2])), (a1, .inl (cJ, 256, .inr (.inl (tbl [8791800153088, 8808980022272]))))]) (by decide +kernel) (Nat.le_of_ble_eq_true rfl) (fun p e s m below meth c A ls hx hb hr hml hown hts hk hnm hA hK hP hD hS hX hl => ?_)
  have hown : s.vm.findClass RX7 = some m.cls := hown
  have hl : lv_has ls 3 [(0, .ref a0), (1, .int 1), (2, .int 2)] := hl
  refine lv_aload_n hx hb dX7_at_0 rfl (lv_at hl 0 rfl) ?_
  refine gf (k := 0) hx hb hts inX7 hown hK hP k_100 rfl (by decide) rfl 0 rfl (.ref a1) rfl dX7_at_1 ?_
  refine lv_iload_n hx hb dX7_at_4 rfl (lv_at hl 1 rfl) ?_
  refine ld_l hx hb hK hP 1 rfl (vin (by decide +kernel)) dX7_at_5 8808980022272 rfl ?_
  refine lv_bipush (v := 11) hx hb dX7_at_6 (by decide) ?_
  refine lv_iconst (v := 3) hx hb dX7_at_8 (by decide) ?_
  refine lv_iload_n hx hb dX7_at_9 rfl (lv_at hl 2 rfl) ?_
  refine v_isub hx hb dX7_at_10 1 (by decide +kernel) ?_
  refine v_imul hx hb dX7_at_11 11 (by decide +kernel) ?_
  refine lv_lshr (v := 4301259776) hx hb dX7_at_12 (by decide +kernel) ?_
  refine lv_ldc2 (v := 2047) hx hb hown (hts _ k_526) dX7_at_13 ?_
  refine v_land hx hb dX7_at_16 1024 (by decide +kernel) ?_
  refine lv_l2i (v := 1024) hx hb dX7_at_17 (by decide +kernel) ?_
  refine lv_sipush (v := 1024) hx hb dX7_at_18 (by decide) ?_
  refine v_isub hx hb dX7_at_21 0 (by decide +kernel) ?_
  exact r_i hx hb hr hk hK hP hD hS dX7_at_22
set_option maxRecDepth 100000 in
set_option maxHeartbeats 4000000 in
theorem c124_X2_at (l : Launch) (dC : Nat → ClassId) (dI : Nat → Nat → Nat) (cI cJ cII cJJ : ClassId) (sz g a0 a1 a2 a3 a4 a5 a6 : Nat) : Met l yX2_at (.code yX2_at cX2_at 3 (some .int) :: TT) ({ frames := 3, cells := 0, slots := 0, locals := 140 }) (PcS dC dI (TY cI cJ cII cJJ) [.ref a0, .int 1, .int 2] [(a0, .inr (2, [.ref a3, .ref a1, .ref a4, .ref a5, .ref a6, .int 0, .int 0])), (a1, .inr (7, [.ref a2, .int 2])), (a2, .inl (cJ, 256, .inr (.inl (tbl [8791800153088, 8808980022272]))))] sz 0 g) ((QcI dC dI (TY cI cJ cII cJJ) 0 [(a0, .inr (2, [.ref a3, .ref a1, .ref a4, .ref a5, .ref a6, .int 0, .int 0])), (a1, .inr (7, [.ref a2, .int 2])), (a2, .inl (cJ, 256, .inr (.inl (tbl [8791800153088, 8808980022272]))))]) (va_A [(a0, .inr (2, [.ref a3, .ref a1, .ref a4, .ref a5, .ref a6, .int 0, .int 0])), (a1, .inr (7, [.ref a2, .int 2])), (a2, .inl (cJ, 256, .inr (.inl (tbl [8791800153088, 8808980022272]))))] sz)) 0 0 (va_A [(a0, .inr (2, [.ref a3, .ref a1, .ref a4, .ref a5, .ref a6, .int 0, .int 0])), (a1, .inr (7, [.ref a2, .int 2])), (a2, .inl (cJ, 256, .inr (.inl (tbl [8791800153088, 8808980022272]))))] sz) := by
  refine SM.of (y := yX2_at) (maxL := 3) (av := [.ref a0, .int 1, .int 2]) (QcI dC dI (TY cI cJ cII cJJ) 0 [(a0, .inr (2, [.ref a3, .ref a1, .ref a4, .ref a5, .ref a6, .int 0, .int 0])), (a1, .inr (7, [.ref a2, .int 2])), (a2, .inl (cJ, 256, .inr (.inl (tbl [8791800153088, 8808980022272]))))]) (by decide +kernel) (Nat.le_of_ble_eq_true rfl) (fun p e s m below meth c A ls hx hb hr hml hown hts hk hnm hA hK hP hD hS hX hl => ?_)
  have hown : s.vm.findClass RX2 = some m.cls := hown
  have hl : lv_has ls 3 [(0, .ref a0), (1, .int 1), (2, .int 2)] := hl
  refine lv_aload_n hx hb dX2_at_0 rfl (lv_at hl 0 rfl) ?_
  refine gf (k := 1) hx hb hts inX2 hown hK hP k_176 rfl (by decide) rfl 0 rfl (.ref a1) rfl dX2_at_1 ?_
  refine lv_iload_n hx hb dX2_at_4 rfl (lv_at hl 1 rfl) ?_
  refine lv_iload_n hx hb dX2_at_5 rfl (lv_at hl 2 rfl) ?_
  refine kV_i (q0 := 0) ⟨hx, hb, hml, hown, hts⟩ hK hP hD hS hA hX cv_RX2_87 [1, 2] [0] (wr := [(a0, .inr (2, [.ref a3, .ref a1, .ref a4, .ref a5, .ref a6, .int 0, .int 0]))]) rfl rfl rfl rfl (by decide) (c125_X7_at l dC dI cI cJ cII cJJ s.heap.size 0 a1 a2) ⟨by decide +kernel, by decide +kernel⟩ rfl rfl (Or.inl rfl) (rest := []) rfl rfl rfl hl.1 rfl (Nat.le_of_ble_eq_true rfl) dX2_at_6 ⟨Nat.le_of_ble_eq_true rfl, Nat.le_of_ble_eq_true rfl⟩ (W' := [(a0, .inr (2, [.ref a3, .ref a1, .ref a4, .ref a5, .ref a6, .int 0, .int 0])), (a1, .inr (7, [.ref a2, .int 2])), (a2, .inl (cJ, 256, .inr (.inl (tbl [8791800153088, 8808980022272]))))]) rfl (fun H locs hP hD hS => ?_)
  exact r_i hx hb hr hk hK hP hD hS dX2_at_9
set_option maxRecDepth 100000 in
set_option maxHeartbeats 4000000 in
theorem c127_X7_at (l : Launch) (dC : Nat → ClassId) (dI : Nat → Nat → Nat) (cI cJ cII cJJ : ClassId) (sz g a0 a1 : Nat) : Met l yX7_at (.code yX7_at cX7_at 3 (some .int) :: TT) ({ frames := 2, cells := 0, slots := 0, locals := 80 }) (PcS dC dI (TY cI cJ cII cJJ) [.ref a0, .int 1, .int 3] [(a0, .inr (7, [.ref a1, .int 2])), (a1, .inl (cJ, 256, .inr (.inl (tbl [8791800153088, 8808980022272]))))] sz 0 g) ((QcI dC dI (TY cI cJ cII cJJ) 0 [(a0, .inr (7, [.ref a1, .int 2])), (a1, .inl (cJ, 256, .inr (.inl (tbl [8791800153088, 8808980022272]))))]) (va_A [(a0, .inr (7, [.ref a1, .int 2])), (a1, .inl (cJ, 256, .inr (.inl (tbl [8791800153088, 8808980022272]))))] sz)) 0 0 (va_A [(a0, .inr (7, [.ref a1, .int 2])), (a1, .inl (cJ, 256, .inr (.inl (tbl [8791800153088, 8808980022272]))))] sz) := by
  refine SM.of (y := yX7_at) (maxL := 3) (av := [.ref a0, .int 1, .int 3]) (QcI dC dI (TY cI cJ cII cJJ) 0 [(a0, .inr (7, [.ref a1, .int 2])), (a1, .inl (cJ, 256, .inr (.inl (tbl [8791800153088, 8808980022272]))))]) (by decide +kernel) (Nat.le_of_ble_eq_true rfl) (fun p e s m below meth c A ls hx hb hr hml hown hts hk hnm hA hK hP hD hS hX hl => ?_)
  have hown : s.vm.findClass RX7 = some m.cls := hown
  have hl : lv_has ls 3 [(0, .ref a0), (1, .int 1), (2, .int 3)] := hl
  refine lv_aload_n hx hb dX7_at_0 rfl (lv_at hl 0 rfl) ?_
  refine gf (k := 0) hx hb hts inX7 hown hK hP k_100 rfl (by decide) rfl 0 rfl (.ref a1) rfl dX7_at_1 ?_
  refine lv_iload_n hx hb dX7_at_4 rfl (lv_at hl 1 rfl) ?_
  refine ld_l hx hb hK hP 1 rfl (vin (by decide +kernel)) dX7_at_5 8808980022272 rfl ?_
  refine lv_bipush (v := 11) hx hb dX7_at_6 (by decide) ?_
  refine lv_iconst (v := 3) hx hb dX7_at_8 (by decide) ?_
  refine lv_iload_n hx hb dX7_at_9 rfl (lv_at hl 2 rfl) ?_
  refine v_isub hx hb dX7_at_10 0 (by decide +kernel) ?_
  refine v_imul hx hb dX7_at_11 0 (by decide +kernel) ?_
  refine lv_lshr (v := 8808980022272) hx hb dX7_at_12 (by decide +kernel) ?_
  refine lv_ldc2 (v := 2047) hx hb hown (hts _ k_526) dX7_at_13 ?_
  refine v_land hx hb dX7_at_16 1024 (by decide +kernel) ?_
  refine lv_l2i (v := 1024) hx hb dX7_at_17 (by decide +kernel) ?_
  refine lv_sipush (v := 1024) hx hb dX7_at_18 (by decide) ?_
  refine v_isub hx hb dX7_at_21 0 (by decide +kernel) ?_
  exact r_i hx hb hr hk hK hP hD hS dX7_at_22
set_option maxRecDepth 100000 in
set_option maxHeartbeats 4000000 in
theorem c126_X2_at (l : Launch) (dC : Nat → ClassId) (dI : Nat → Nat → Nat) (cI cJ cII cJJ : ClassId) (sz g a0 a1 a2 a3 a4 a5 a6 : Nat) : Met l yX2_at (.code yX2_at cX2_at 3 (some .int) :: TT) ({ frames := 3, cells := 0, slots := 0, locals := 140 }) (PcS dC dI (TY cI cJ cII cJJ) [.ref a0, .int 1, .int 3] [(a0, .inr (2, [.ref a3, .ref a1, .ref a4, .ref a5, .ref a6, .int 0, .int 0])), (a1, .inr (7, [.ref a2, .int 2])), (a2, .inl (cJ, 256, .inr (.inl (tbl [8791800153088, 8808980022272]))))] sz 0 g) ((QcI dC dI (TY cI cJ cII cJJ) 0 [(a0, .inr (2, [.ref a3, .ref a1, .ref a4, .ref a5, .ref a6, .int 0, .int 0])), (a1, .inr (7, [.ref a2, .int 2])), (a2, .inl (cJ, 256, .inr (.inl (tbl [8791800153088, 8808980022272]))))]) (va_A [(a0, .inr (2, [.ref a3, .ref a1, .ref a4, .ref a5, .ref a6, .int 0, .int 0])), (a1, .inr (7, [.ref a2, .int 2])), (a2, .inl (cJ, 256, .inr (.inl (tbl [8791800153088, 8808980022272]))))] sz)) 0 0 (va_A [(a0, .inr (2, [.ref a3, .ref a1, .ref a4, .ref a5, .ref a6, .int 0, .int 0])), (a1, .inr (7, [.ref a2, .int 2])), (a2, .inl (cJ, 256, .inr (.inl (tbl [8791800153088, 8808980022272]))))] sz) := by
  refine SM.of (y := yX2_at) (maxL := 3) (av := [.ref a0, .int 1, .int 3]) (QcI dC dI (TY cI cJ cII cJJ) 0 [(a0, .inr (2, [.ref a3, .ref a1, .ref a4, .ref a5, .ref a6, .int 0, .int 0])), (a1, .inr (7, [.ref a2, .int 2])), (a2, .inl (cJ, 256, .inr (.inl (tbl [8791800153088, 8808980022272]))))]) (by decide +kernel) (Nat.le_of_ble_eq_true rfl) (fun p e s m below meth c A ls hx hb hr hml hown hts hk hnm hA hK hP hD hS hX hl => ?_)
  have hown : s.vm.findClass RX2 = some m.cls := hown
  have hl : lv_has ls 3 [(0, .ref a0), (1, .int 1), (2, .int 3)] := hl
  refine lv_aload_n hx hb dX2_at_0 rfl (lv_at hl 0 rfl) ?_
  refine gf (k := 1) hx hb hts inX2 hown hK hP k_176 rfl (by decide) rfl 0 rfl (.ref a1) rfl dX2_at_1 ?_
  refine lv_iload_n hx hb dX2_at_4 rfl (lv_at hl 1 rfl) ?_
  refine lv_iload_n hx hb dX2_at_5 rfl (lv_at hl 2 rfl) ?_
  refine kV_i (q0 := 0) ⟨hx, hb, hml, hown, hts⟩ hK hP hD hS hA hX cv_RX2_87 [1, 2] [0] (wr := [(a0, .inr (2, [.ref a3, .ref a1, .ref a4, .ref a5, .ref a6, .int 0, .int 0]))]) rfl rfl rfl rfl (by decide) (c127_X7_at l dC dI cI cJ cII cJJ s.heap.size 0 a1 a2) ⟨by decide +kernel, by decide +kernel⟩ rfl rfl (Or.inl rfl) (rest := []) rfl rfl rfl hl.1 rfl (Nat.le_of_ble_eq_true rfl) dX2_at_6 ⟨Nat.le_of_ble_eq_true rfl, Nat.le_of_ble_eq_true rfl⟩ (W' := [(a0, .inr (2, [.ref a3, .ref a1, .ref a4, .ref a5, .ref a6, .int 0, .int 0])), (a1, .inr (7, [.ref a2, .int 2])), (a2, .inl (cJ, 256, .inr (.inl (tbl [8791800153088, 8808980022272]))))]) rfl (fun H locs hP hD hS => ?_)
  exact r_i hx hb hr hk hK hP hD hS dX2_at_9
set_option maxRecDepth 100000 in
set_option maxHeartbeats 4000000 in
theorem c119_X2_supportOf (l : Launch) (dC : Nat → ClassId) (dI : Nat → Nat → Nat) (cI cJ cII cJJ : ClassId) (sz g a0 a1 a2 a3 a4 a5 a6 : Nat) : Met l yX2_supportOf (.code yX2_supportOf cX2_supportOf 4 (some .int) :: TT) ({ frames := 4, cells := 0, slots := 0, locals := 200 }) (PcS dC dI (TY cI cJ cII cJJ) [.ref a0, .int 1] [(a0, .inr (2, [.ref a3, .ref a1, .ref a4, .ref a5, .ref a6, .int 0, .int 0])), (a1, .inr (7, [.ref a2, .int 2])), (a2, .inl (cJ, 256, .inr (.inl (tbl [8791800153088, 8808980022272]))))] sz 0 g) ((QcI dC dI (TY cI cJ cII cJJ) 1 [(a0, .inr (2, [.ref a3, .ref a1, .ref a4, .ref a5, .ref a6, .int 0, .int 0])), (a1, .inr (7, [.ref a2, .int 2])), (a2, .inl (cJ, 256, .inr (.inl (tbl [8791800153088, 8808980022272]))))]) (va_A [(a0, .inr (2, [.ref a3, .ref a1, .ref a4, .ref a5, .ref a6, .int 0, .int 0])), (a1, .inr (7, [.ref a2, .int 2])), (a2, .inl (cJ, 256, .inr (.inl (tbl [8791800153088, 8808980022272]))))] sz)) 0 0 (va_A [(a0, .inr (2, [.ref a3, .ref a1, .ref a4, .ref a5, .ref a6, .int 0, .int 0])), (a1, .inr (7, [.ref a2, .int 2])), (a2, .inl (cJ, 256, .inr (.inl (tbl [8791800153088, 8808980022272]))))] sz) := by
  refine SM.of (y := yX2_supportOf) (maxL := 4) (av := [.ref a0, .int 1]) (QcI dC dI (TY cI cJ cII cJJ) 1 [(a0, .inr (2, [.ref a3, .ref a1, .ref a4, .ref a5, .ref a6, .int 0, .int 0])), (a1, .inr (7, [.ref a2, .int 2])), (a2, .inl (cJ, 256, .inr (.inl (tbl [8791800153088, 8808980022272]))))]) (by decide +kernel) (Nat.le_of_ble_eq_true rfl) (fun p e s m below meth c A ls hx hb hr hml hown hts hk hnm hA hK hP hD hS hX hl => ?_)
  have hown : s.vm.findClass RX2 = some m.cls := hown
  have hl : lv_has ls 4 [(0, .ref a0), (1, .int 1)] := hl
  refine lv_iconst (v := 0) hx hb dX2_supportOf_0 (by decide) ?_
  refine lv_istore_n (lv' := [(2, .int 0), (0, .ref a0), (1, .int 1)]) hx hb dX2_supportOf_1 rfl hl (by decide) rfl (fun ls hl => ?_)
  refine lv_iconst (v := 0) hx hb dX2_supportOf_2 (by decide) ?_
  refine lv_istore_n (lv' := [(3, .int 0), (2, .int 0), (0, .ref a0), (1, .int 1)]) hx hb dX2_supportOf_3 rfl hl (by decide) rfl (fun ls hl => ?_)
  refine lv_iload_n hx hb dX2_supportOf_4 rfl (lv_at hl 0 rfl) ?_
  refine lv_iconst (v := 4) hx hb dX2_supportOf_5 (by decide) ?_
  refine f_icmp_ge hx hb dX2_supportOf_6 30 (by decide) (by decide +kernel) ?_
  refine lv_aload_n hx hb dX2_supportOf_9 rfl (lv_at hl 2 rfl) ?_
  refine lv_iload_n hx hb dX2_supportOf_10 rfl (lv_at hl 3 rfl) ?_
  refine lv_iload_n hx hb dX2_supportOf_11 rfl (lv_at hl 0 rfl) ?_
  refine kV_i (q0 := 0) ⟨hx, hb, hml, hown, hts⟩ hK hP hD hS hA hX cv_RX2_98 [0, 1, 2] [] (wr := []) rfl rfl rfl rfl (by decide) (c120_X2_at l dC dI cI cJ cII cJJ s.heap.size 0 a0 a1 a2 a3 a4 a5 a6) ⟨by decide +kernel, by decide +kernel⟩ rfl rfl (Or.inl rfl) (rest := []) rfl rfl rfl hl.1 rfl (Nat.le_of_ble_eq_true rfl) dX2_supportOf_12 ⟨Nat.le_of_ble_eq_true rfl, Nat.le_of_ble_eq_true rfl⟩ (W' := [(a0, .inr (2, [.ref a3, .ref a1, .ref a4, .ref a5, .ref a6, .int 0, .int 0])), (a1, .inr (7, [.ref a2, .int 2])), (a2, .inl (cJ, 256, .inr (.inl (tbl [8791800153088, 8808980022272]))))]) rfl (fun H locs hP hD hS => ?_)
  refine f_if_eq hx hb dX2_supportOf_15 24 (by decide) (by decide +kernel) ?_
  refine lv_iload_n hx hb dX2_supportOf_18 rfl (lv_at hl 1 rfl) ?_
  refine lv_iconst (v := 1) hx hb dX2_supportOf_19 (by decide) ?_
  refine lv_iload_n hx hb dX2_supportOf_20 rfl (lv_at hl 0 rfl) ?_
  refine v_ishl hx hb dX2_supportOf_21 1 (by decide +kernel) ?_
  refine v_ior hx hb dX2_supportOf_22 1 (by decide +kernel) ?_
  refine lv_istore_n (lv' := [(2, .int 1), (3, .int 0), (0, .ref a0), (1, .int 1)]) hx hb dX2_supportOf_23 rfl hl (by decide) rfl (fun ls hl => ?_)
  refine lv_iinc (v := 1) (lv' := [(3, .int 1), (2, .int 1), (0, .ref a0), (1, .int 1)]) hx hb dX2_supportOf_24 hl (k := 1) rfl (by decide +kernel) (by decide) rfl (fun ls hl => ?_)
  refine lv_goto (tgt := 4) hx hb dX2_supportOf_27 (by decide) ?_
  refine lv_iload_n hx hb dX2_supportOf_4 rfl (lv_at hl 0 rfl) ?_
  refine lv_iconst (v := 4) hx hb dX2_supportOf_5 (by decide) ?_
  refine f_icmp_ge hx hb dX2_supportOf_6 30 (by decide) (by decide +kernel) ?_
  refine lv_aload_n hx hb dX2_supportOf_9 rfl (lv_at hl 2 rfl) ?_
  refine lv_iload_n hx hb dX2_supportOf_10 rfl (lv_at hl 3 rfl) ?_
  refine lv_iload_n hx hb dX2_supportOf_11 rfl (lv_at hl 0 rfl) ?_
  refine kV_i (q0 := 0) ⟨hx, hb, hml, hown, hts⟩ hK hP hD hS hA hX cv_RX2_98 [0, 1, 2] [] (wr := []) rfl rfl rfl rfl (by decide) (c122_X2_at l dC dI cI cJ cII cJJ H.size 0 a0 a1 a2 a3 a4 a5 a6) ⟨by decide +kernel, by decide +kernel⟩ rfl rfl (Or.inl rfl) (rest := []) rfl rfl rfl hl.1 rfl (Nat.le_of_ble_eq_true rfl) dX2_supportOf_12 ⟨Nat.le_of_ble_eq_true rfl, Nat.le_of_ble_eq_true rfl⟩ (W' := [(a0, .inr (2, [.ref a3, .ref a1, .ref a4, .ref a5, .ref a6, .int 0, .int 0])), (a1, .inr (7, [.ref a2, .int 2])), (a2, .inl (cJ, 256, .inr (.inl (tbl [8791800153088, 8808980022272]))))]) rfl (fun H locs hP hD hS => ?_)
  refine t_if_eq hx hb dX2_supportOf_15 24 (by decide) (by decide +kernel) ?_
  refine lv_iinc (v := 2) (lv' := [(3, .int 2), (2, .int 1), (0, .ref a0), (1, .int 1)]) hx hb dX2_supportOf_24 hl (k := 0) rfl (by decide +kernel) (by decide) rfl (fun ls hl => ?_)
  refine lv_goto (tgt := 4) hx hb dX2_supportOf_27 (by decide) ?_
  refine lv_iload_n hx hb dX2_supportOf_4 rfl (lv_at hl 0 rfl) ?_
  refine lv_iconst (v := 4) hx hb dX2_supportOf_5 (by decide) ?_
  refine f_icmp_ge hx hb dX2_supportOf_6 30 (by decide) (by decide +kernel) ?_
  refine lv_aload_n hx hb dX2_supportOf_9 rfl (lv_at hl 2 rfl) ?_
  refine lv_iload_n hx hb dX2_supportOf_10 rfl (lv_at hl 3 rfl) ?_
  refine lv_iload_n hx hb dX2_supportOf_11 rfl (lv_at hl 0 rfl) ?_
  refine kV_i (q0 := 0) ⟨hx, hb, hml, hown, hts⟩ hK hP hD hS hA hX cv_RX2_98 [0, 1, 2] [] (wr := []) rfl rfl rfl rfl (by decide) (c124_X2_at l dC dI cI cJ cII cJJ H.size 0 a0 a1 a2 a3 a4 a5 a6) ⟨by decide +kernel, by decide +kernel⟩ rfl rfl (Or.inl rfl) (rest := []) rfl rfl rfl hl.1 rfl (Nat.le_of_ble_eq_true rfl) dX2_supportOf_12 ⟨Nat.le_of_ble_eq_true rfl, Nat.le_of_ble_eq_true rfl⟩ (W' := [(a0, .inr (2, [.ref a3, .ref a1, .ref a4, .ref a5, .ref a6, .int 0, .int 0])), (a1, .inr (7, [.ref a2, .int 2])), (a2, .inl (cJ, 256, .inr (.inl (tbl [8791800153088, 8808980022272]))))]) rfl (fun H locs hP hD hS => ?_)
  refine t_if_eq hx hb dX2_supportOf_15 24 (by decide) (by decide +kernel) ?_
  refine lv_iinc (v := 3) (lv' := [(3, .int 3), (2, .int 1), (0, .ref a0), (1, .int 1)]) hx hb dX2_supportOf_24 hl (k := 0) rfl (by decide +kernel) (by decide) rfl (fun ls hl => ?_)
  refine lv_goto (tgt := 4) hx hb dX2_supportOf_27 (by decide) ?_
  refine lv_iload_n hx hb dX2_supportOf_4 rfl (lv_at hl 0 rfl) ?_
  refine lv_iconst (v := 4) hx hb dX2_supportOf_5 (by decide) ?_
  refine f_icmp_ge hx hb dX2_supportOf_6 30 (by decide) (by decide +kernel) ?_
  refine lv_aload_n hx hb dX2_supportOf_9 rfl (lv_at hl 2 rfl) ?_
  refine lv_iload_n hx hb dX2_supportOf_10 rfl (lv_at hl 3 rfl) ?_
  refine lv_iload_n hx hb dX2_supportOf_11 rfl (lv_at hl 0 rfl) ?_
  refine kV_i (q0 := 0) ⟨hx, hb, hml, hown, hts⟩ hK hP hD hS hA hX cv_RX2_98 [0, 1, 2] [] (wr := []) rfl rfl rfl rfl (by decide) (c126_X2_at l dC dI cI cJ cII cJJ H.size 0 a0 a1 a2 a3 a4 a5 a6) ⟨by decide +kernel, by decide +kernel⟩ rfl rfl (Or.inl rfl) (rest := []) rfl rfl rfl hl.1 rfl (Nat.le_of_ble_eq_true rfl) dX2_supportOf_12 ⟨Nat.le_of_ble_eq_true rfl, Nat.le_of_ble_eq_true rfl⟩ (W' := [(a0, .inr (2, [.ref a3, .ref a1, .ref a4, .ref a5, .ref a6, .int 0, .int 0])), (a1, .inr (7, [.ref a2, .int 2])), (a2, .inl (cJ, 256, .inr (.inl (tbl [8791800153088, 8808980022272]))))]) rfl (fun H locs hP hD hS => ?_)
  refine t_if_eq hx hb dX2_supportOf_15 24 (by decide) (by decide +kernel) ?_
  refine lv_iinc (v := 4) (lv' := [(3, .int 4), (2, .int 1), (0, .ref a0), (1, .int 1)]) hx hb dX2_supportOf_24 hl (k := 0) rfl (by decide +kernel) (by decide) rfl (fun ls hl => ?_)
  refine lv_goto (tgt := 4) hx hb dX2_supportOf_27 (by decide) ?_
  refine lv_iload_n hx hb dX2_supportOf_4 rfl (lv_at hl 0 rfl) ?_
  refine lv_iconst (v := 4) hx hb dX2_supportOf_5 (by decide) ?_
  refine t_icmp_ge hx hb dX2_supportOf_6 30 (by decide) (by decide +kernel) ?_
  refine lv_iload_n hx hb dX2_supportOf_30 rfl (lv_at hl 1 rfl) ?_
  exact r_i hx hb hr hk hK hP hD hS dX2_supportOf_31
set_option maxRecDepth 100000 in
set_option maxHeartbeats 4000000 in
theorem c128_X2_hasSmaller (l : Launch) (dC : Nat → ClassId) (dI : Nat → Nat → Nat) (cI cJ cII cJJ : ClassId) (sz g a0 a1 a2 a3 a4 a5 : Nat) : Met l yX2_hasSmaller (.code yX2_hasSmaller cX2_hasSmaller 4 (some .boolean) :: TT) ({ frames := 2, cells := 0, slots := 0, locals := 80 }) (PcS dC dI (TY cI cJ cII cJJ) [.ref a0, .int 2, .int 1] [(a0, .inr (2, [.ref a1, .ref a2, .ref a3, .ref a4, .ref a5, .int 0, .int 0]))] sz 0 g) ((QcI dC dI (TY cI cJ cII cJJ) 0 [(a0, .inr (2, [.ref a1, .ref a2, .ref a3, .ref a4, .ref a5, .int 0, .int 0]))]) (va_A [(a0, .inr (2, [.ref a1, .ref a2, .ref a3, .ref a4, .ref a5, .int 0, .int 0]))] sz)) 0 0 (va_A [(a0, .inr (2, [.ref a1, .ref a2, .ref a3, .ref a4, .ref a5, .int 0, .int 0]))] sz) := by
  refine SM.of (y := yX2_hasSmaller) (maxL := 4) (av := [.ref a0, .int 2, .int 1]) (QcI dC dI (TY cI cJ cII cJJ) 0 [(a0, .inr (2, [.ref a1, .ref a2, .ref a3, .ref a4, .ref a5, .int 0, .int 0]))]) (by decide +kernel) (Nat.le_of_ble_eq_true rfl) (fun p e s m below meth c A ls hx hb hr hml hown hts hk hnm hA hK hP hD hS hX hl => ?_)
  have hown : s.vm.findClass RX2 = some m.cls := hown
  have hl : lv_has ls 4 [(0, .ref a0), (1, .int 2), (2, .int 1)] := hl
  refine lv_iconst (v := 1) hx hb dX2_hasSmaller_0 (by decide) ?_
  refine lv_istore_n (lv' := [(3, .int 1), (0, .ref a0), (1, .int 2), (2, .int 1)]) hx hb dX2_hasSmaller_1 rfl hl (by decide) rfl (fun ls hl => ?_)
  refine lv_iload_n hx hb dX2_hasSmaller_2 rfl (lv_at hl 0 rfl) ?_
  refine lv_iload_n hx hb dX2_hasSmaller_3 rfl (lv_at hl 3 rfl) ?_
  refine t_icmp_ge hx hb dX2_hasSmaller_4 31 (by decide) (by decide +kernel) ?_
  refine lv_iconst (v := 0) hx hb dX2_hasSmaller_31 (by decide) ?_
  exact r_z hx hb hr hk hK hP hD hS dX2_hasSmaller_32 rfl
set_option maxRecDepth 100000 in
set_option maxHeartbeats 4000000 in
theorem c108_X2_findRoundSupports (l : Launch) (dC : Nat → ClassId) (dI : Nat → Nat → Nat) (cI cJ cII cJJ : ClassId) (sz g a0 a1 a2 a3 a4 a5 a6 : Nat) : Met l yX2_findRoundSupports (.code yX2_findRoundSupports cX2_findRoundSupports 3 none :: TT) ({ frames := 5, cells := 0, slots := 0, locals := 260 }) (PcS dC dI (TY cI cJ cII cJJ) [.ref a0] [(a0, .inr (2, [.ref a3, .ref a1, .ref a4, .ref a5, .ref a6, .int 0, .int 0])), (a1, .inr (7, [.ref a2, .int 2])), (a2, .inl (cJ, 256, .inr (.inl (tbl [8791800153088, 8808980022272]))))] sz 0 g) ((QcV dC dI (TY cI cJ cII cJJ) (fun _ => [(a2, .inl (cJ, 256, .inr (.inl (tbl [8791800153088, 8808980022272])))), (a1, .inr (7, [.ref a2, .int 2])), (a0, .inr (2, [.ref a3, .ref a1, .ref a4, .ref a5, .ref a6, .int 2, .int 0]))])) (va_A [(a0, .inr (2, [.ref a3, .ref a1, .ref a4, .ref a5, .ref a6, .int 0, .int 0])), (a1, .inr (7, [.ref a2, .int 2])), (a2, .inl (cJ, 256, .inr (.inl (tbl [8791800153088, 8808980022272]))))] sz)) 0 0 (va_A [(a0, .inr (2, [.ref a3, .ref a1, .ref a4, .ref a5, .ref a6, .int 0, .int 0])), (a1, .inr (7, [.ref a2, .int 2])), (a2, .inl (cJ, 256, .inr (.inl (tbl [8791800153088, 8808980022272]))))] sz) := by
  refine SM.of (y := yX2_findRoundSupports) (maxL := 3) (av := [.ref a0]) (QcV dC dI (TY cI cJ cII cJJ) (fun _ => [(a2, .inl (cJ, 256, .inr (.inl (tbl [8791800153088, 8808980022272])))), (a1, .inr (7, [.ref a2, .int 2])), (a0, .inr (2, [.ref a3, .ref a1, .ref a4, .ref a5, .ref a6, .int 2, .int 0]))])) (by decide +kernel) (Nat.le_of_ble_eq_true rfl) (fun p e s m below meth c A ls hx hb hr hml hown hts hk hnm hA hK hP hD hS hX hl => ?_)
  have hown : s.vm.findClass RX2 = some m.cls := hown
  have hl : lv_has ls 3 [(0, .ref a0)] := hl
  refine lv_iconst (v := 0) hx hb dX2_findRoundSupports_0 (by decide) ?_
  refine lv_istore_n (lv' := [(1, .int 0), (0, .ref a0)]) hx hb dX2_findRoundSupports_1 rfl hl (by decide) rfl (fun ls hl => ?_)
  refine lv_iconst (v := 0) hx hb dX2_findRoundSupports_2 (by decide) ?_
  refine lv_istore_n (lv' := [(2, .int 0), (1, .int 0), (0, .ref a0)]) hx hb dX2_findRoundSupports_3 rfl hl (by decide) rfl (fun ls hl => ?_)
  refine lv_iload_n hx hb dX2_findRoundSupports_4 rfl (lv_at hl 0 rfl) ?_
  refine lv_aload_n hx hb dX2_findRoundSupports_5 rfl (lv_at hl 2 rfl) ?_
  refine gf (k := 1) hx hb hts inX2 hown hK hP k_176 rfl (by decide) rfl 0 rfl (.ref a1) rfl dX2_findRoundSupports_6 ?_
  refine kV_i (q0 := 0) ⟨hx, hb, hml, hown, hts⟩ hK hP hD hS hA hX cv_RX2_84 [1] [0, 2] (wr := [(a0, .inr (2, [.ref a3, .ref a1, .ref a4, .ref a5, .ref a6, .int 0, .int 0])), (a2, .inl (cJ, 256, .inr (.inl (tbl [8791800153088, 8808980022272]))))]) rfl rfl rfl rfl (by decide) (c109_X7_size l dC dI cI cJ cII cJJ s.heap.size 0 a1 a2) ⟨by decide +kernel, by decide +kernel⟩ rfl rfl (Or.inl rfl) (rest := [.int 0]) rfl rfl rfl hl.1 rfl (Nat.le_of_ble_eq_true rfl) dX2_findRoundSupports_9 ⟨Nat.le_of_ble_eq_true rfl, Nat.le_of_ble_eq_true rfl⟩ (W' := [(a0, .inr (2, [.ref a3, .ref a1, .ref a4, .ref a5, .ref a6, .int 0, .int 0])), (a2, .inl (cJ, 256, .inr (.inl (tbl [8791800153088, 8808980022272])))), (a1, .inr (7, [.ref a2, .int 2]))]) rfl (fun H locs hP hD hS => ?_)
  refine f_icmp_ge hx hb dX2_findRoundSupports_12 31 (by decide) (by decide +kernel) ?_
  refine lv_iload_n hx hb dX2_findRoundSupports_15 rfl (lv_at hl 1 rfl) ?_
  refine lv_iconst (v := 1) hx hb dX2_findRoundSupports_16 (by decide) ?_
  refine lv_aload_n hx hb dX2_findRoundSupports_17 rfl (lv_at hl 2 rfl) ?_
  refine lv_iload_n hx hb dX2_findRoundSupports_18 rfl (lv_at hl 0 rfl) ?_
  refine kV_i (q0 := 0) ⟨hx, hb, hml, hown, hts⟩ hK hP hD hS hA hX cv_RX2_94 [0, 2, 1] [] (wr := []) rfl rfl rfl rfl (by decide) (c110_X2_supportOf l dC dI cI cJ cII cJJ H.size 0 a0 a1 a2 a3 a4 a5 a6) ⟨by decide +kernel, by decide +kernel⟩ rfl rfl (Or.inl rfl) (rest := [.int 1, .int 0]) rfl rfl rfl hl.1 rfl (Nat.le_of_ble_eq_true rfl) dX2_findRoundSupports_19 ⟨Nat.le_of_ble_eq_true rfl, Nat.le_of_ble_eq_true rfl⟩ (W' := [(a0, .inr (2, [.ref a3, .ref a1, .ref a4, .ref a5, .ref a6, .int 0, .int 0])), (a1, .inr (7, [.ref a2, .int 2])), (a2, .inl (cJ, 256, .inr (.inl (tbl [8791800153088, 8808980022272]))))]) rfl (fun H locs hP hD hS => ?_)
  refine v_ishl hx hb dX2_findRoundSupports_22 2 (by decide +kernel) ?_
  refine v_ior hx hb dX2_findRoundSupports_23 2 (by decide +kernel) ?_
  refine lv_istore_n (lv' := [(1, .int 2), (2, .int 0), (0, .ref a0)]) hx hb dX2_findRoundSupports_24 rfl hl (by decide) rfl (fun ls hl => ?_)
  refine lv_iinc (v := 1) (lv' := [(2, .int 1), (1, .int 2), (0, .ref a0)]) hx hb dX2_findRoundSupports_25 hl (k := 1) rfl (by decide +kernel) (by decide) rfl (fun ls hl => ?_)
  refine lv_goto (tgt := 4) hx hb dX2_findRoundSupports_28 (by decide) ?_
  refine lv_iload_n hx hb dX2_findRoundSupports_4 rfl (lv_at hl 0 rfl) ?_
  refine lv_aload_n hx hb dX2_findRoundSupports_5 rfl (lv_at hl 2 rfl) ?_
  refine gf (k := 1) hx hb hts inX2 hown hK hP k_176 rfl (by decide) rfl 0 rfl (.ref a1) rfl dX2_findRoundSupports_6 ?_
  refine kV_i (q0 := 0) ⟨hx, hb, hml, hown, hts⟩ hK hP hD hS hA hX cv_RX2_84 [1] [0, 2] (wr := [(a0, .inr (2, [.ref a3, .ref a1, .ref a4, .ref a5, .ref a6, .int 0, .int 0])), (a2, .inl (cJ, 256, .inr (.inl (tbl [8791800153088, 8808980022272]))))]) rfl rfl rfl rfl (by decide) (c109_X7_size l dC dI cI cJ cII cJJ H.size 0 a1 a2) ⟨by decide +kernel, by decide +kernel⟩ rfl rfl (Or.inl rfl) (rest := [.int 1]) rfl rfl rfl hl.1 rfl (Nat.le_of_ble_eq_true rfl) dX2_findRoundSupports_9 ⟨Nat.le_of_ble_eq_true rfl, Nat.le_of_ble_eq_true rfl⟩ (W' := [(a0, .inr (2, [.ref a3, .ref a1, .ref a4, .ref a5, .ref a6, .int 0, .int 0])), (a2, .inl (cJ, 256, .inr (.inl (tbl [8791800153088, 8808980022272])))), (a1, .inr (7, [.ref a2, .int 2]))]) rfl (fun H locs hP hD hS => ?_)
  refine f_icmp_ge hx hb dX2_findRoundSupports_12 31 (by decide) (by decide +kernel) ?_
  refine lv_iload_n hx hb dX2_findRoundSupports_15 rfl (lv_at hl 1 rfl) ?_
  refine lv_iconst (v := 1) hx hb dX2_findRoundSupports_16 (by decide) ?_
  refine lv_aload_n hx hb dX2_findRoundSupports_17 rfl (lv_at hl 2 rfl) ?_
  refine lv_iload_n hx hb dX2_findRoundSupports_18 rfl (lv_at hl 0 rfl) ?_
  refine kV_i (q0 := 0) ⟨hx, hb, hml, hown, hts⟩ hK hP hD hS hA hX cv_RX2_94 [0, 2, 1] [] (wr := []) rfl rfl rfl rfl (by decide) (c119_X2_supportOf l dC dI cI cJ cII cJJ H.size 0 a0 a1 a2 a3 a4 a5 a6) ⟨by decide +kernel, by decide +kernel⟩ rfl rfl (Or.inl rfl) (rest := [.int 1, .int 2]) rfl rfl rfl hl.1 rfl (Nat.le_of_ble_eq_true rfl) dX2_findRoundSupports_19 ⟨Nat.le_of_ble_eq_true rfl, Nat.le_of_ble_eq_true rfl⟩ (W' := [(a0, .inr (2, [.ref a3, .ref a1, .ref a4, .ref a5, .ref a6, .int 0, .int 0])), (a1, .inr (7, [.ref a2, .int 2])), (a2, .inl (cJ, 256, .inr (.inl (tbl [8791800153088, 8808980022272]))))]) rfl (fun H locs hP hD hS => ?_)
  refine v_ishl hx hb dX2_findRoundSupports_22 2 (by decide +kernel) ?_
  refine v_ior hx hb dX2_findRoundSupports_23 2 (by decide +kernel) ?_
  refine lv_istore_n (lv' := [(1, .int 2), (2, .int 1), (0, .ref a0)]) hx hb dX2_findRoundSupports_24 rfl hl (by decide) rfl (fun ls hl => ?_)
  refine lv_iinc (v := 2) (lv' := [(2, .int 2), (1, .int 2), (0, .ref a0)]) hx hb dX2_findRoundSupports_25 hl (k := 1) rfl (by decide +kernel) (by decide) rfl (fun ls hl => ?_)
  refine lv_goto (tgt := 4) hx hb dX2_findRoundSupports_28 (by decide) ?_
  refine lv_iload_n hx hb dX2_findRoundSupports_4 rfl (lv_at hl 0 rfl) ?_
  refine lv_aload_n hx hb dX2_findRoundSupports_5 rfl (lv_at hl 2 rfl) ?_
  refine gf (k := 1) hx hb hts inX2 hown hK hP k_176 rfl (by decide) rfl 0 rfl (.ref a1) rfl dX2_findRoundSupports_6 ?_
  refine kV_i (q0 := 0) ⟨hx, hb, hml, hown, hts⟩ hK hP hD hS hA hX cv_RX2_84 [1] [0, 2] (wr := [(a0, .inr (2, [.ref a3, .ref a1, .ref a4, .ref a5, .ref a6, .int 0, .int 0])), (a2, .inl (cJ, 256, .inr (.inl (tbl [8791800153088, 8808980022272]))))]) rfl rfl rfl rfl (by decide) (c109_X7_size l dC dI cI cJ cII cJJ H.size 0 a1 a2) ⟨by decide +kernel, by decide +kernel⟩ rfl rfl (Or.inl rfl) (rest := [.int 2]) rfl rfl rfl hl.1 rfl (Nat.le_of_ble_eq_true rfl) dX2_findRoundSupports_9 ⟨Nat.le_of_ble_eq_true rfl, Nat.le_of_ble_eq_true rfl⟩ (W' := [(a0, .inr (2, [.ref a3, .ref a1, .ref a4, .ref a5, .ref a6, .int 0, .int 0])), (a2, .inl (cJ, 256, .inr (.inl (tbl [8791800153088, 8808980022272])))), (a1, .inr (7, [.ref a2, .int 2]))]) rfl (fun H locs hP hD hS => ?_)
  refine t_icmp_ge hx hb dX2_findRoundSupports_12 31 (by decide) (by decide +kernel) ?_
  refine lv_aload_n hx hb dX2_findRoundSupports_31 rfl (lv_at hl 2 rfl) ?_
  refine lv_iconst (v := 0) hx hb dX2_findRoundSupports_32 (by decide) ?_
  refine pf (k := 5) hx hb hts inX2 tyX2_ok nmX2 hown hK hP hD hS k_180 rfl (by decide) rfl rfl 0 rfl rfl rfl (Nat.le_of_ble_eq_true rfl) dX2_findRoundSupports_33 (W' := [(a0, .inr (2, [.ref a3, .ref a1, .ref a4, .ref a5, .ref a6, .int 0, .int 0])), (a2, .inl (cJ, 256, .inr (.inl (tbl [8791800153088, 8808980022272])))), (a1, .inr (7, [.ref a2, .int 2]))]) rfl (fun H locs hP hD hS => ?_)
  refine lv_iconst (v := 1) hx hb dX2_findRoundSupports_36 (by decide) ?_
  refine lv_istore_n (lv' := [(2, .int 1), (1, .int 2), (0, .ref a0)]) hx hb dX2_findRoundSupports_37 rfl hl (by decide) rfl (fun ls hl => ?_)
  refine lv_iload_n hx hb dX2_findRoundSupports_38 rfl (lv_at hl 0 rfl) ?_
  refine lv_bipush (v := 16) hx hb dX2_findRoundSupports_39 (by decide) ?_
  refine f_icmp_ge hx hb dX2_findRoundSupports_41 80 (by decide) (by decide +kernel) ?_
  refine lv_iload_n hx hb dX2_findRoundSupports_44 rfl (lv_at hl 1 rfl) ?_
  refine lv_iload_n hx hb dX2_findRoundSupports_45 rfl (lv_at hl 0 rfl) ?_
  refine v_ishr hx hb dX2_findRoundSupports_46 1 (by decide +kernel) ?_
  refine lv_iconst (v := 1) hx hb dX2_findRoundSupports_47 (by decide) ?_
  refine v_iand hx hb dX2_findRoundSupports_48 1 (by decide +kernel) ?_
  refine lv_iconst (v := 1) hx hb dX2_findRoundSupports_49 (by decide) ?_
  refine f_icmp_ne hx hb dX2_findRoundSupports_50 74 (by decide) (by decide +kernel) ?_
  refine lv_aload_n hx hb dX2_findRoundSupports_53 rfl (lv_at hl 2 rfl) ?_
  refine lv_iload_n hx hb dX2_findRoundSupports_54 rfl (lv_at hl 1 rfl) ?_
  refine lv_iload_n hx hb dX2_findRoundSupports_55 rfl (lv_at hl 0 rfl) ?_
  refine kV_i (q0 := 0) ⟨hx, hb, hml, hown, hts⟩ hK hP hD hS hA hX cv_RX2_130 [0] [1, 2] (wr := [(a2, .inl (cJ, 256, .inr (.inl (tbl [8791800153088, 8808980022272])))), (a1, .inr (7, [.ref a2, .int 2]))]) rfl rfl rfl rfl (by decide) (c128_X2_hasSmaller l dC dI cI cJ cII cJJ H.size 0 a0 a3 a1 a4 a5 a6) ⟨by decide +kernel, by decide +kernel⟩ rfl rfl (Or.inl rfl) (rest := []) rfl rfl rfl hl.1 rfl (Nat.le_of_ble_eq_true rfl) dX2_findRoundSupports_56 ⟨Nat.le_of_ble_eq_true rfl, Nat.le_of_ble_eq_true rfl⟩ (W' := [(a2, .inl (cJ, 256, .inr (.inl (tbl [8791800153088, 8808980022272])))), (a1, .inr (7, [.ref a2, .int 2])), (a0, .inr (2, [.ref a3, .ref a1, .ref a4, .ref a5, .ref a6, .int 0, .int 0]))]) rfl (fun H locs hP hD hS => ?_)
  refine f_if_ne hx hb dX2_findRoundSupports_59 74 (by decide) (by decide +kernel) ?_
  refine lv_aload_n hx hb dX2_findRoundSupports_62 rfl (lv_at hl 2 rfl) ?_
  refine lv_dup hx hb dX2_findRoundSupports_63 rfl ?_
  refine gf (k := 5) hx hb hts inX2 hown hK hP k_180 rfl (by decide) rfl 2 rfl (.int 0) rfl dX2_findRoundSupports_64 ?_
  refine lv_iconst (v := 1) hx hb dX2_findRoundSupports_67 (by decide) ?_
  refine lv_iload_n hx hb dX2_findRoundSupports_68 rfl (lv_at hl 0 rfl) ?_
  refine v_ishl hx hb dX2_findRoundSupports_69 2 (by decide +kernel) ?_
  refine v_ior hx hb dX2_findRoundSupports_70 2 (by decide +kernel) ?_
  refine pf (k := 5) hx hb hts inX2 tyX2_ok nmX2 hown hK hP hD hS k_180 rfl (by decide) rfl rfl 2 rfl rfl rfl (Nat.le_of_ble_eq_true rfl) dX2_findRoundSupports_71 (W' := [(a2, .inl (cJ, 256, .inr (.inl (tbl [8791800153088, 8808980022272])))), (a1, .inr (7, [.ref a2, .int 2])), (a0, .inr (2, [.ref a3, .ref a1, .ref a4, .ref a5, .ref a6, .int 2, .int 0]))]) rfl (fun H locs hP hD hS => ?_)
  refine lv_iinc (v := 2) (lv' := [(2, .int 2), (1, .int 2), (0, .ref a0)]) hx hb dX2_findRoundSupports_74 hl (k := 0) rfl (by decide +kernel) (by decide) rfl (fun ls hl => ?_)
  refine lv_goto (tgt := 38) hx hb dX2_findRoundSupports_77 (by decide) ?_
  refine lv_iload_n hx hb dX2_findRoundSupports_38 rfl (lv_at hl 0 rfl) ?_
  refine lv_bipush (v := 16) hx hb dX2_findRoundSupports_39 (by decide) ?_
  refine f_icmp_ge hx hb dX2_findRoundSupports_41 80 (by decide) (by decide +kernel) ?_
  refine lv_iload_n hx hb dX2_findRoundSupports_44 rfl (lv_at hl 1 rfl) ?_
  refine lv_iload_n hx hb dX2_findRoundSupports_45 rfl (lv_at hl 0 rfl) ?_
  refine v_ishr hx hb dX2_findRoundSupports_46 0 (by decide +kernel) ?_
  refine lv_iconst (v := 1) hx hb dX2_findRoundSupports_47 (by decide) ?_
  refine v_iand hx hb dX2_findRoundSupports_48 0 (by decide +kernel) ?_
  refine lv_iconst (v := 1) hx hb dX2_findRoundSupports_49 (by decide) ?_
  refine t_icmp_ne hx hb dX2_findRoundSupports_50 74 (by decide) (by decide +kernel) ?_
  refine lv_iinc (v := 3) (lv' := [(2, .int 3), (1, .int 2), (0, .ref a0)]) hx hb dX2_findRoundSupports_74 hl (k := 0) rfl (by decide +kernel) (by decide) rfl (fun ls hl => ?_)
  refine lv_goto (tgt := 38) hx hb dX2_findRoundSupports_77 (by decide) ?_
  refine lv_iload_n hx hb dX2_findRoundSupports_38 rfl (lv_at hl 0 rfl) ?_
  refine lv_bipush (v := 16) hx hb dX2_findRoundSupports_39 (by decide) ?_
  refine f_icmp_ge hx hb dX2_findRoundSupports_41 80 (by decide) (by decide +kernel) ?_
  refine lv_iload_n hx hb dX2_findRoundSupports_44 rfl (lv_at hl 1 rfl) ?_
  refine lv_iload_n hx hb dX2_findRoundSupports_45 rfl (lv_at hl 0 rfl) ?_
  refine v_ishr hx hb dX2_findRoundSupports_46 0 (by decide +kernel) ?_
  refine lv_iconst (v := 1) hx hb dX2_findRoundSupports_47 (by decide) ?_
  refine v_iand hx hb dX2_findRoundSupports_48 0 (by decide +kernel) ?_
  refine lv_iconst (v := 1) hx hb dX2_findRoundSupports_49 (by decide) ?_
  refine t_icmp_ne hx hb dX2_findRoundSupports_50 74 (by decide) (by decide +kernel) ?_
  refine lv_iinc (v := 4) (lv' := [(2, .int 4), (1, .int 2), (0, .ref a0)]) hx hb dX2_findRoundSupports_74 hl (k := 0) rfl (by decide +kernel) (by decide) rfl (fun ls hl => ?_)
  refine lv_goto (tgt := 38) hx hb dX2_findRoundSupports_77 (by decide) ?_
  refine lv_iload_n hx hb dX2_findRoundSupports_38 rfl (lv_at hl 0 rfl) ?_
  refine lv_bipush (v := 16) hx hb dX2_findRoundSupports_39 (by decide) ?_
  refine f_icmp_ge hx hb dX2_findRoundSupports_41 80 (by decide) (by decide +kernel) ?_
  refine lv_iload_n hx hb dX2_findRoundSupports_44 rfl (lv_at hl 1 rfl) ?_
  refine lv_iload_n hx hb dX2_findRoundSupports_45 rfl (lv_at hl 0 rfl) ?_
  refine v_ishr hx hb dX2_findRoundSupports_46 0 (by decide +kernel) ?_
  refine lv_iconst (v := 1) hx hb dX2_findRoundSupports_47 (by decide) ?_
  refine v_iand hx hb dX2_findRoundSupports_48 0 (by decide +kernel) ?_
  refine lv_iconst (v := 1) hx hb dX2_findRoundSupports_49 (by decide) ?_
  refine t_icmp_ne hx hb dX2_findRoundSupports_50 74 (by decide) (by decide +kernel) ?_
  refine lv_iinc (v := 5) (lv' := [(2, .int 5), (1, .int 2), (0, .ref a0)]) hx hb dX2_findRoundSupports_74 hl (k := 0) rfl (by decide +kernel) (by decide) rfl (fun ls hl => ?_)
  refine lv_goto (tgt := 38) hx hb dX2_findRoundSupports_77 (by decide) ?_
  refine lv_iload_n hx hb dX2_findRoundSupports_38 rfl (lv_at hl 0 rfl) ?_
  refine lv_bipush (v := 16) hx hb dX2_findRoundSupports_39 (by decide) ?_
  refine f_icmp_ge hx hb dX2_findRoundSupports_41 80 (by decide) (by decide +kernel) ?_
  refine lv_iload_n hx hb dX2_findRoundSupports_44 rfl (lv_at hl 1 rfl) ?_
  refine lv_iload_n hx hb dX2_findRoundSupports_45 rfl (lv_at hl 0 rfl) ?_
  refine v_ishr hx hb dX2_findRoundSupports_46 0 (by decide +kernel) ?_
  refine lv_iconst (v := 1) hx hb dX2_findRoundSupports_47 (by decide) ?_
  refine v_iand hx hb dX2_findRoundSupports_48 0 (by decide +kernel) ?_
  refine lv_iconst (v := 1) hx hb dX2_findRoundSupports_49 (by decide) ?_
  refine t_icmp_ne hx hb dX2_findRoundSupports_50 74 (by decide) (by decide +kernel) ?_
  refine lv_iinc (v := 6) (lv' := [(2, .int 6), (1, .int 2), (0, .ref a0)]) hx hb dX2_findRoundSupports_74 hl (k := 0) rfl (by decide +kernel) (by decide) rfl (fun ls hl => ?_)
  refine lv_goto (tgt := 38) hx hb dX2_findRoundSupports_77 (by decide) ?_
  refine lv_iload_n hx hb dX2_findRoundSupports_38 rfl (lv_at hl 0 rfl) ?_
  refine lv_bipush (v := 16) hx hb dX2_findRoundSupports_39 (by decide) ?_
  refine f_icmp_ge hx hb dX2_findRoundSupports_41 80 (by decide) (by decide +kernel) ?_
  refine lv_iload_n hx hb dX2_findRoundSupports_44 rfl (lv_at hl 1 rfl) ?_
  refine lv_iload_n hx hb dX2_findRoundSupports_45 rfl (lv_at hl 0 rfl) ?_
  refine v_ishr hx hb dX2_findRoundSupports_46 0 (by decide +kernel) ?_
  refine lv_iconst (v := 1) hx hb dX2_findRoundSupports_47 (by decide) ?_
  refine v_iand hx hb dX2_findRoundSupports_48 0 (by decide +kernel) ?_
  refine lv_iconst (v := 1) hx hb dX2_findRoundSupports_49 (by decide) ?_
  refine t_icmp_ne hx hb dX2_findRoundSupports_50 74 (by decide) (by decide +kernel) ?_
  refine lv_iinc (v := 7) (lv' := [(2, .int 7), (1, .int 2), (0, .ref a0)]) hx hb dX2_findRoundSupports_74 hl (k := 0) rfl (by decide +kernel) (by decide) rfl (fun ls hl => ?_)
  refine lv_goto (tgt := 38) hx hb dX2_findRoundSupports_77 (by decide) ?_
  refine lv_iload_n hx hb dX2_findRoundSupports_38 rfl (lv_at hl 0 rfl) ?_
  refine lv_bipush (v := 16) hx hb dX2_findRoundSupports_39 (by decide) ?_
  refine f_icmp_ge hx hb dX2_findRoundSupports_41 80 (by decide) (by decide +kernel) ?_
  refine lv_iload_n hx hb dX2_findRoundSupports_44 rfl (lv_at hl 1 rfl) ?_
  refine lv_iload_n hx hb dX2_findRoundSupports_45 rfl (lv_at hl 0 rfl) ?_
  refine v_ishr hx hb dX2_findRoundSupports_46 0 (by decide +kernel) ?_
  refine lv_iconst (v := 1) hx hb dX2_findRoundSupports_47 (by decide) ?_
  refine v_iand hx hb dX2_findRoundSupports_48 0 (by decide +kernel) ?_
  refine lv_iconst (v := 1) hx hb dX2_findRoundSupports_49 (by decide) ?_
  refine t_icmp_ne hx hb dX2_findRoundSupports_50 74 (by decide) (by decide +kernel) ?_
  refine lv_iinc (v := 8) (lv' := [(2, .int 8), (1, .int 2), (0, .ref a0)]) hx hb dX2_findRoundSupports_74 hl (k := 0) rfl (by decide +kernel) (by decide) rfl (fun ls hl => ?_)
  refine lv_goto (tgt := 38) hx hb dX2_findRoundSupports_77 (by decide) ?_
  refine lv_iload_n hx hb dX2_findRoundSupports_38 rfl (lv_at hl 0 rfl) ?_
  refine lv_bipush (v := 16) hx hb dX2_findRoundSupports_39 (by decide) ?_
  refine f_icmp_ge hx hb dX2_findRoundSupports_41 80 (by decide) (by decide +kernel) ?_
  refine lv_iload_n hx hb dX2_findRoundSupports_44 rfl (lv_at hl 1 rfl) ?_
  refine lv_iload_n hx hb dX2_findRoundSupports_45 rfl (lv_at hl 0 rfl) ?_
  refine v_ishr hx hb dX2_findRoundSupports_46 0 (by decide +kernel) ?_
  refine lv_iconst (v := 1) hx hb dX2_findRoundSupports_47 (by decide) ?_
  refine v_iand hx hb dX2_findRoundSupports_48 0 (by decide +kernel) ?_
  refine lv_iconst (v := 1) hx hb dX2_findRoundSupports_49 (by decide) ?_
  refine t_icmp_ne hx hb dX2_findRoundSupports_50 74 (by decide) (by decide +kernel) ?_
  refine lv_iinc (v := 9) (lv' := [(2, .int 9), (1, .int 2), (0, .ref a0)]) hx hb dX2_findRoundSupports_74 hl (k := 0) rfl (by decide +kernel) (by decide) rfl (fun ls hl => ?_)
  refine lv_goto (tgt := 38) hx hb dX2_findRoundSupports_77 (by decide) ?_
  refine lv_iload_n hx hb dX2_findRoundSupports_38 rfl (lv_at hl 0 rfl) ?_
  refine lv_bipush (v := 16) hx hb dX2_findRoundSupports_39 (by decide) ?_
  refine f_icmp_ge hx hb dX2_findRoundSupports_41 80 (by decide) (by decide +kernel) ?_
  refine lv_iload_n hx hb dX2_findRoundSupports_44 rfl (lv_at hl 1 rfl) ?_
  refine lv_iload_n hx hb dX2_findRoundSupports_45 rfl (lv_at hl 0 rfl) ?_
  refine v_ishr hx hb dX2_findRoundSupports_46 0 (by decide +kernel) ?_
  refine lv_iconst (v := 1) hx hb dX2_findRoundSupports_47 (by decide) ?_
  refine v_iand hx hb dX2_findRoundSupports_48 0 (by decide +kernel) ?_
  refine lv_iconst (v := 1) hx hb dX2_findRoundSupports_49 (by decide) ?_
  refine t_icmp_ne hx hb dX2_findRoundSupports_50 74 (by decide) (by decide +kernel) ?_
  refine lv_iinc (v := 10) (lv' := [(2, .int 10), (1, .int 2), (0, .ref a0)]) hx hb dX2_findRoundSupports_74 hl (k := 0) rfl (by decide +kernel) (by decide) rfl (fun ls hl => ?_)
  refine lv_goto (tgt := 38) hx hb dX2_findRoundSupports_77 (by decide) ?_
  refine lv_iload_n hx hb dX2_findRoundSupports_38 rfl (lv_at hl 0 rfl) ?_
  refine lv_bipush (v := 16) hx hb dX2_findRoundSupports_39 (by decide) ?_
  refine f_icmp_ge hx hb dX2_findRoundSupports_41 80 (by decide) (by decide +kernel) ?_
  refine lv_iload_n hx hb dX2_findRoundSupports_44 rfl (lv_at hl 1 rfl) ?_
  refine lv_iload_n hx hb dX2_findRoundSupports_45 rfl (lv_at hl 0 rfl) ?_
  refine v_ishr hx hb dX2_findRoundSupports_46 0 (by decide +kernel) ?_
  refine lv_iconst (v := 1) hx hb dX2_findRoundSupports_47 (by decide) ?_
  refine v_iand hx hb dX2_findRoundSupports_48 0 (by decide +kernel) ?_
  refine lv_iconst (v := 1) hx hb dX2_findRoundSupports_49 (by decide) ?_
  refine t_icmp_ne hx hb dX2_findRoundSupports_50 74 (by decide) (by decide +kernel) ?_
  refine lv_iinc (v := 11) (lv' := [(2, .int 11), (1, .int 2), (0, .ref a0)]) hx hb dX2_findRoundSupports_74 hl (k := 0) rfl (by decide +kernel) (by decide) rfl (fun ls hl => ?_)
  refine lv_goto (tgt := 38) hx hb dX2_findRoundSupports_77 (by decide) ?_
  refine lv_iload_n hx hb dX2_findRoundSupports_38 rfl (lv_at hl 0 rfl) ?_
  refine lv_bipush (v := 16) hx hb dX2_findRoundSupports_39 (by decide) ?_
  refine f_icmp_ge hx hb dX2_findRoundSupports_41 80 (by decide) (by decide +kernel) ?_
  refine lv_iload_n hx hb dX2_findRoundSupports_44 rfl (lv_at hl 1 rfl) ?_
  refine lv_iload_n hx hb dX2_findRoundSupports_45 rfl (lv_at hl 0 rfl) ?_
  refine v_ishr hx hb dX2_findRoundSupports_46 0 (by decide +kernel) ?_
  refine lv_iconst (v := 1) hx hb dX2_findRoundSupports_47 (by decide) ?_
  refine v_iand hx hb dX2_findRoundSupports_48 0 (by decide +kernel) ?_
  refine lv_iconst (v := 1) hx hb dX2_findRoundSupports_49 (by decide) ?_
  refine t_icmp_ne hx hb dX2_findRoundSupports_50 74 (by decide) (by decide +kernel) ?_
  refine lv_iinc (v := 12) (lv' := [(2, .int 12), (1, .int 2), (0, .ref a0)]) hx hb dX2_findRoundSupports_74 hl (k := 0) rfl (by decide +kernel) (by decide) rfl (fun ls hl => ?_)
  refine lv_goto (tgt := 38) hx hb dX2_findRoundSupports_77 (by decide) ?_
  refine lv_iload_n hx hb dX2_findRoundSupports_38 rfl (lv_at hl 0 rfl) ?_
  refine lv_bipush (v := 16) hx hb dX2_findRoundSupports_39 (by decide) ?_
  refine f_icmp_ge hx hb dX2_findRoundSupports_41 80 (by decide) (by decide +kernel) ?_
  refine lv_iload_n hx hb dX2_findRoundSupports_44 rfl (lv_at hl 1 rfl) ?_
  refine lv_iload_n hx hb dX2_findRoundSupports_45 rfl (lv_at hl 0 rfl) ?_
  refine v_ishr hx hb dX2_findRoundSupports_46 0 (by decide +kernel) ?_
  refine lv_iconst (v := 1) hx hb dX2_findRoundSupports_47 (by decide) ?_
  refine v_iand hx hb dX2_findRoundSupports_48 0 (by decide +kernel) ?_
  refine lv_iconst (v := 1) hx hb dX2_findRoundSupports_49 (by decide) ?_
  refine t_icmp_ne hx hb dX2_findRoundSupports_50 74 (by decide) (by decide +kernel) ?_
  refine lv_iinc (v := 13) (lv' := [(2, .int 13), (1, .int 2), (0, .ref a0)]) hx hb dX2_findRoundSupports_74 hl (k := 0) rfl (by decide +kernel) (by decide) rfl (fun ls hl => ?_)
  refine lv_goto (tgt := 38) hx hb dX2_findRoundSupports_77 (by decide) ?_
  refine lv_iload_n hx hb dX2_findRoundSupports_38 rfl (lv_at hl 0 rfl) ?_
  refine lv_bipush (v := 16) hx hb dX2_findRoundSupports_39 (by decide) ?_
  refine f_icmp_ge hx hb dX2_findRoundSupports_41 80 (by decide) (by decide +kernel) ?_
  refine lv_iload_n hx hb dX2_findRoundSupports_44 rfl (lv_at hl 1 rfl) ?_
  refine lv_iload_n hx hb dX2_findRoundSupports_45 rfl (lv_at hl 0 rfl) ?_
  refine v_ishr hx hb dX2_findRoundSupports_46 0 (by decide +kernel) ?_
  refine lv_iconst (v := 1) hx hb dX2_findRoundSupports_47 (by decide) ?_
  refine v_iand hx hb dX2_findRoundSupports_48 0 (by decide +kernel) ?_
  refine lv_iconst (v := 1) hx hb dX2_findRoundSupports_49 (by decide) ?_
  refine t_icmp_ne hx hb dX2_findRoundSupports_50 74 (by decide) (by decide +kernel) ?_
  refine lv_iinc (v := 14) (lv' := [(2, .int 14), (1, .int 2), (0, .ref a0)]) hx hb dX2_findRoundSupports_74 hl (k := 0) rfl (by decide +kernel) (by decide) rfl (fun ls hl => ?_)
  refine lv_goto (tgt := 38) hx hb dX2_findRoundSupports_77 (by decide) ?_
  refine lv_iload_n hx hb dX2_findRoundSupports_38 rfl (lv_at hl 0 rfl) ?_
  refine lv_bipush (v := 16) hx hb dX2_findRoundSupports_39 (by decide) ?_
  refine f_icmp_ge hx hb dX2_findRoundSupports_41 80 (by decide) (by decide +kernel) ?_
  refine lv_iload_n hx hb dX2_findRoundSupports_44 rfl (lv_at hl 1 rfl) ?_
  refine lv_iload_n hx hb dX2_findRoundSupports_45 rfl (lv_at hl 0 rfl) ?_
  refine v_ishr hx hb dX2_findRoundSupports_46 0 (by decide +kernel) ?_
  refine lv_iconst (v := 1) hx hb dX2_findRoundSupports_47 (by decide) ?_
  refine v_iand hx hb dX2_findRoundSupports_48 0 (by decide +kernel) ?_
  refine lv_iconst (v := 1) hx hb dX2_findRoundSupports_49 (by decide) ?_
  refine t_icmp_ne hx hb dX2_findRoundSupports_50 74 (by decide) (by decide +kernel) ?_
  refine lv_iinc (v := 15) (lv' := [(2, .int 15), (1, .int 2), (0, .ref a0)]) hx hb dX2_findRoundSupports_74 hl (k := 0) rfl (by decide +kernel) (by decide) rfl (fun ls hl => ?_)
  refine lv_goto (tgt := 38) hx hb dX2_findRoundSupports_77 (by decide) ?_
  refine lv_iload_n hx hb dX2_findRoundSupports_38 rfl (lv_at hl 0 rfl) ?_
  refine lv_bipush (v := 16) hx hb dX2_findRoundSupports_39 (by decide) ?_
  refine f_icmp_ge hx hb dX2_findRoundSupports_41 80 (by decide) (by decide +kernel) ?_
  refine lv_iload_n hx hb dX2_findRoundSupports_44 rfl (lv_at hl 1 rfl) ?_
  refine lv_iload_n hx hb dX2_findRoundSupports_45 rfl (lv_at hl 0 rfl) ?_
  refine v_ishr hx hb dX2_findRoundSupports_46 0 (by decide +kernel) ?_
  refine lv_iconst (v := 1) hx hb dX2_findRoundSupports_47 (by decide) ?_
  refine v_iand hx hb dX2_findRoundSupports_48 0 (by decide +kernel) ?_
  refine lv_iconst (v := 1) hx hb dX2_findRoundSupports_49 (by decide) ?_
  refine t_icmp_ne hx hb dX2_findRoundSupports_50 74 (by decide) (by decide +kernel) ?_
  refine lv_iinc (v := 16) (lv' := [(2, .int 16), (1, .int 2), (0, .ref a0)]) hx hb dX2_findRoundSupports_74 hl (k := 0) rfl (by decide +kernel) (by decide) rfl (fun ls hl => ?_)
  refine lv_goto (tgt := 38) hx hb dX2_findRoundSupports_77 (by decide) ?_
  refine lv_iload_n hx hb dX2_findRoundSupports_38 rfl (lv_at hl 0 rfl) ?_
  refine lv_bipush (v := 16) hx hb dX2_findRoundSupports_39 (by decide) ?_
  refine t_icmp_ge hx hb dX2_findRoundSupports_41 80 (by decide) (by decide +kernel) ?_
  exact r_v (fun _ => 0) hx hb hr hk hK hP hD hS dX2_findRoundSupports_80
