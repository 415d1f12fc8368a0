theorem set_same {α : Type} : ∀ (l : List α) (k : Nat) (x : α), l[k]? = some x → l.set k x = l
  | [], _, _, h => by simp at h
  | a :: t, 0, x, h => by
    have : a = x := by simpa using h
    subst this
    rfl
  | a :: t, k + 1, x, h => by
    have h1 : t[k]? = some x := by simpa using h
    show a :: t.set k x = a :: t
    rw [set_same t k x h1]
theorem tb_upd0 (k : Nat) : upd (tb []) k 0 = tb [] := by
  rw [tb_nil]
  funext j
  show (if j = k then (0 : Int32) else 0) = 0
  split <;> rfl
theorem tbl_upd0 (k : Nat) : vp_updL (tbl []) k 0 = tbl [] := by
  rw [tbl_nil]
  funext j
  show (if j = k then (0 : Int64) else 0) = 0
  split <;> rfl
def frL (i : Nat) : List Int32 := 0 :: List.replicate i 2
theorem tb_frL (i j : Nat) : tb (frL i) j = if 1 ≤ j ∧ j ≤ i then 2 else 0 := by
  show (frL i).getD j 0 = _
  unfold frL
  cases j with
  | zero => simp
  | succ j =>
    rw [List.getD_cons_succ]
    by_cases h : j < i
    · rw [if_pos (by omega)]
      simp [List.getD, List.getElem?_replicate, h]
    · rw [if_neg (by omega)]
      simp [List.getD, List.getElem?_replicate, h]
theorem tb_frL_upd (i : Nat) : upd (tb (frL i)) (i + 1) 2 = tb (frL (i + 1)) := by
  funext j
  show (if j = i + 1 then (2 : Int32) else tb (frL i) j) = _
  rw [tb_frL, tb_frL]
  by_cases h : j = i + 1
  · rw [if_pos h, if_pos (by omega)]
  · rw [if_neg h]
    by_cases h2 : 1 ≤ j ∧ j ≤ i
    · rw [if_pos h2, if_pos (by omega)]
    · rw [if_neg h2, if_neg (by omega)]
section SXL
variable {p : Program} {l : Launch} {e : Env} {R : Room} {s : State} {m : MethodId} {args : Array Value} {below : List Frame} {meth : Method} {c : Code} {cells slots : Nat} {Q : State → Prop}
variable {dC : Nat → ClassId} {dI : Nat → Nat → Nat} {A : Nat → Prop} {ws W' : va_W} {cI cJ cII cJJ : ClassId} {H0 : Heap}
set_option maxRecDepth 100000 in
set_option maxHeartbeats 4000000 in
theorem fs1 {a0 af : Nat} {fs : List Value} {g1 : Int32} (hx : p.tables.exec = Jvm.exec) (hb : c.code = cX9_findSteps) (hts : ∀ w ∈ TT, w.before args s = true) (hown : s.vm.findClass RX9 = some m.cls) (hK : va_K (dC, dI) vwCl (TY cI cJ cII cJJ) s) (q0 qf : Nat) (he : ws[q0]? = some (a0, .inr (9, fs))) (hf : fs[17]? = some (.ref af)) (ha : ws[qf]? = some (af, .inl (cI, 6001, .inl (tb []))))
    (kk : ∀ (H : Heap) (locs : List Loc) (ls : Array Slot), va_P (dC, dI) vwCl ws H → va_D A ws → va_S A H0 H locs → lv_has ls 3 [(2, .int 6001), (1, .int g1), (0, .ref a0)] → W p l e R s m args below meth c H locs cells slots Q (F0 m 155 ls [])) :
    ∀ (n i : Nat), i ≤ 6001 → 6001 - i < n → ∀ (H : Heap) (locs : List Loc) (ls : Array Slot), va_P (dC, dI) vwCl ws H → va_D A ws → va_S A H0 H locs → lv_has ls 3 [(2, .int (nI i)), (1, .int g1), (0, .ref a0)] → W p l e R s m args below meth c H locs cells slots Q (F0 m 135 ls []) := by
  intro n
  induction n with
  | zero =>
    intro i h1 h2
    exact absurd h2 (Nat.not_lt_zero _)
  | succ n ih =>
    intro i h1 h2 H locs ls hP hD hS hl
    refine lv_iload_n hx hb dX9_findSteps_135 rfl (lv_at hl 0 rfl) ?_
    refine lv_sipush (v := 6000) hx hb dX9_findSteps_136 (by decide) ?_
    by_cases h : i = 6001
    · subst h
      refine t_icmp_gt hx hb dX9_findSteps_139 155 (by decide) (by decide +kernel) ?_
      exact kk H locs ls hP hD hS hl
    · refine f_icmp_gt hx hb dX9_findSteps_139 155 (by decide) (by show ¬ nI 6000 < nI i; exact nI_nlt (by omega) (by decide)) ?_
      refine lv_aload_n hx hb dX9_findSteps_142 rfl (lv_at hl 2 rfl) ?_
      refine gf (k := 17) hx hb hts inX9 hown hK hP k_812 rfl (by decide) rfl q0 he (.ref af) hf dX9_findSteps_143 ?_
      refine lv_iload_n hx hb dX9_findSteps_146 rfl (lv_at hl 0 rfl) ?_
      refine lv_iconst (v := 0) hx hb dX9_findSteps_147 (by decide) ?_
      refine va_iast hx hb hK hP hD hS qf 0 ha rfl (vp_in_nI (by omega) (by decide)) dX9_findSteps_148 (fun H locs hP hD hS => ?_)
      rw [tb_upd0, set_same _ _ _ ha] at hP hD
      refine lv_iinc (v := nI (i + 1)) (lv' := [(2, .int (nI (i + 1))), (1, .int g1), (0, .ref a0)]) hx hb dX9_findSteps_149 hl (k := 0) rfl (by show nI i + 1 = _; exact nI_1 i) (by decide) rfl (fun ls hl => ?_)
      refine lv_goto (tgt := 135) hx hb dX9_findSteps_152 (by decide) ?_
      exact ih (i + 1) (by omega) (by omega) H locs ls hP hD hS hl
set_option maxRecDepth 100000 in
set_option maxHeartbeats 4000000 in
theorem fs3 {a0 af : Nat} {fs : List Value} {g1 : Int32} {z : va_E} (hx : p.tables.exec = Jvm.exec) (hb : c.code = cX9_findSteps) (hts : ∀ w ∈ TT, w.before args s = true) (hown : s.vm.findClass RX9 = some m.cls) (hK : va_K (dC, dI) vwCl (TY cI cJ cII cJJ) s) (q0 qf : Nat) (hq : qf ≠ q0) (he : ws[q0]? = some (a0, .inr (9, fs))) (hf : fs[17]? = some (.ref af)) (ha : ws[qf]? = some (af, z))
    (kk : ∀ (H : Heap) (locs : List Loc) (ls : Array Slot), va_P (dC, dI) vwCl (ws.set qf (af, .inl (cI, 6001, .inl (tb (frL 6000))))) H → va_D A (ws.set qf (af, .inl (cI, 6001, .inl (tb (frL 6000))))) → va_S A H0 H locs → lv_has ls 3 [(2, .int 6001), (1, .int g1), (0, .ref a0)] → W p l e R s m args below meth c H locs cells slots Q (F0 m 218 ls [])) :
    ∀ (n j : Nat), 1 ≤ j → j ≤ 6000 → 6000 - j < n → ∀ (H : Heap) (locs : List Loc) (ls : Array Slot), va_P (dC, dI) vwCl (ws.set qf (af, .inl (cI, 6001, .inl (tb (frL j))))) H → va_D A (ws.set qf (af, .inl (cI, 6001, .inl (tb (frL j))))) → va_S A H0 H locs → lv_has ls 3 [(2, .int (nI (j + 1))), (1, .int g1), (0, .ref a0)] → W p l e R s m args below meth c H locs cells slots Q (F0 m 188 ls []) := by
  have hlt : qf < ws.length := (List.getElem?_eq_some_iff.mp ha).1
  intro n
  induction n with
  | zero =>
    intro j h0 h1 h2
    exact absurd h2 (Nat.not_lt_zero _)
  | succ n ih =>
    intro j h0 h1 h2 H locs ls hP hD hS hl
    have he2 : (ws.set qf (af, .inl (cI, 6001, .inl (tb (frL j)))))[q0]? = some (a0, .inr (9, fs)) := by rw [List.getElem?_set_ne hq]; exact he
    have ha2 : (ws.set qf (af, .inl (cI, 6001, .inl (tb (frL j)))))[qf]? = some (af, .inl (cI, 6001, .inl (tb (frL j)))) := List.getElem?_set_self hlt
    refine lv_iload_n hx hb dX9_findSteps_188 rfl (lv_at hl 0 rfl) ?_
    refine lv_sipush (v := 6000) hx hb dX9_findSteps_189 (by decide) ?_
    by_cases h : j = 6000
    · subst h
      refine t_icmp_gt hx hb dX9_findSteps_192 218 (by decide) (by decide +kernel) ?_
      exact kk H locs ls hP hD hS hl
    · refine f_icmp_gt hx hb dX9_findSteps_192 218 (by decide) (by show ¬ nI 6000 < nI (j + 1); exact nI_nlt (by omega) (by decide)) ?_
      refine lv_aload_n hx hb dX9_findSteps_195 rfl (lv_at hl 2 rfl) ?_
      refine gf (k := 17) hx hb hts inX9 hown hK hP k_812 rfl (by decide) rfl q0 he2 (.ref af) hf dX9_findSteps_196 ?_
      refine lv_iload_n hx hb dX9_findSteps_199 rfl (lv_at hl 0 rfl) ?_
      refine lv_dup2_11 hx hb dX9_findSteps_200 rfl rfl ?_
      refine ld_i hx hb hK hP qf ha2 (vp_in_nI (by omega) (by decide)) dX9_findSteps_201 0 (by rw [nI_clamp (by omega), tb_frL, if_neg (by omega)]) ?_
      refine lv_aload_n hx hb dX9_findSteps_202 rfl (lv_at hl 2 rfl) ?_
      refine gf (k := 17) hx hb hts inX9 hown hK hP k_812 rfl (by decide) rfl q0 he2 (.ref af) hf dX9_findSteps_203 ?_
      refine lv_iload_n hx hb dX9_findSteps_206 rfl (lv_at hl 0 rfl) ?_
      refine lv_iconst (v := 1) hx hb dX9_findSteps_207 (by decide) ?_
      refine v_isub hx hb dX9_findSteps_208 (nI j) (nI_pred j) ?_
      refine ld_i hx hb hK hP qf ha2 (vp_in_nI (by omega) (by decide)) dX9_findSteps_209 2 (by rw [nI_clamp (by omega), tb_frL, if_pos (by omega)]) ?_
      refine v_iadd hx hb dX9_findSteps_210 2 (by decide +kernel) ?_
      refine va_iast hx hb hK hP hD hS qf 0 ha2 rfl (vp_in_nI (by omega) (by decide)) dX9_findSteps_211 (fun H locs hP hD hS => ?_)
      rw [nI_clamp (by omega), tb_frL_upd, List.set_set] at hP hD
      refine lv_iinc (v := nI (j + 1 + 1)) (lv' := [(2, .int (nI (j + 1 + 1))), (1, .int g1), (0, .ref a0)]) hx hb dX9_findSteps_212 hl (k := 0) rfl (by show nI (j + 1) + 1 = _; exact nI_1 (j + 1)) (by decide) rfl (fun ls hl => ?_)
      refine lv_goto (tgt := 188) hx hb dX9_findSteps_215 (by decide) ?_
      exact ih (j + 1) (by omega) (by omega) (by omega) H locs ls hP hD hS hl
set_option maxRecDepth 100000 in
set_option maxHeartbeats 4000000 in
theorem tr1 {a0 af : Nat} {fs : List Value} (T : Int32) {x2 : Int32} (k0 : Nat) {jn : Nat} (hx : p.tables.exec = Jvm.exec) (hb : c.code = cX9_tray) (hts : ∀ w ∈ TT, w.before args s = true) (hown : s.vm.findClass RX9 = some m.cls) (hK : va_K (dC, dI) vwCl (TY cI cJ cII cJJ) s) (q0 qf : Nat) (he : ws[q0]? = some (a0, .inr (9, fs))) (hf : fs[10]? = some (.ref af)) (ha : ws[qf]? = some (af, .inl (cJ, 80, .inr (.inl (tbl []))))) (hT : (20 : Int32) * T = nI k0) (hk0 : k0 ≤ 60) (hjn : jn ≤ 20)
    (kk : ∀ (H : Heap) (locs : List Loc) (ls : Array Slot) (v : Int32), va_P (dC, dI) vwCl ws H → va_D A ws → va_S A H0 H locs → lv_has ls 5 [(4, .int v), (0, .ref a0), (1, .int T), (2, .int x2), (3, .int (nI jn))] → W p l e R s m args below meth c H locs cells slots Q (F0 m 95 ls [])) :
    ∀ (n i : Nat), i ≤ jn → jn - i < n → ∀ (H : Heap) (locs : List Loc) (ls : Array Slot), va_P (dC, dI) vwCl ws H → va_D A ws → va_S A H0 H locs → lv_has ls 5 [(4, .int (nI i)), (0, .ref a0), (1, .int T), (2, .int x2), (3, .int (nI jn))] → W p l e R s m args below meth c H locs cells slots Q (F0 m 70 ls []) := by
  intro n
  induction n with
  | zero =>
    intro i h1 h2
    exact absurd h2 (Nat.not_lt_zero _)
  | succ n ih =>
    intro i h1 h2 H locs ls hP hD hS hl
    refine lv_iload hx hb dX9_tray_70 (lv_at hl 0 rfl) ?_
    refine lv_iload_n hx hb dX9_tray_72 rfl (lv_at hl 4 rfl) ?_
    by_cases h : i = jn
    · subst h
      refine t_icmp_ge hx hb dX9_tray_73 95 (by decide) (nI_le (Nat.le_refl i) (by omega)) ?_
      exact kk H locs ls _ hP hD hS hl
    · refine f_icmp_ge hx hb dX9_tray_73 95 (by decide) (nI_ge (by omega) (by omega)) ?_
      refine lv_aload_n hx hb dX9_tray_76 rfl (lv_at hl 1 rfl) ?_
      refine gf (k := 10) hx hb hts inX9 hown hK hP k_805 rfl (by decide) rfl q0 he (.ref af) hf dX9_tray_77 ?_
      refine lv_bipush (v := 20) hx hb dX9_tray_80 (by decide) ?_
      refine lv_iload_n hx hb dX9_tray_82 rfl (lv_at hl 2 rfl) ?_
      refine v_imul hx hb dX9_tray_83 (nI k0) hT ?_
      refine lv_iload hx hb dX9_tray_84 (lv_at hl 0 rfl) ?_
      refine v_iadd hx hb dX9_tray_86 (nI (k0 + i)) (nI_add k0 i) ?_
      refine lv_lconst (v := 0) hx hb dX9_tray_87 (by decide) ?_
      refine va_last hx hb hK hP hD hS qf 1 ha rfl (vp_in_nI (by omega) (by decide)) dX9_tray_88 (fun H locs hP hD hS => ?_)
      rw [tbl_upd0, set_same _ _ _ ha] at hP hD
      refine lv_iinc (v := nI (i + 1)) (lv' := [(4, .int (nI (i + 1))), (0, .ref a0), (1, .int T), (2, .int x2), (3, .int (nI jn))]) hx hb dX9_tray_89 hl (k := 0) rfl (by show nI i + 1 = _; exact nI_1 i) (by decide) rfl (fun ls hl => ?_)
      refine lv_goto (tgt := 70) hx hb dX9_tray_92 (by decide) ?_
      exact ih (i + 1) (by omega) (by omega) H locs ls hP hD hS hl
set_option maxRecDepth 100000 in
theorem fs3e {a0 af : Nat} {fs : List Value} {g1 : Int32} {H : Heap} {locs : List Loc} {ls : Array Slot} (hx : p.tables.exec = Jvm.exec) (hb : c.code = cX9_findSteps) (hts : ∀ w ∈ TT, w.before args s = true) (hown : s.vm.findClass RX9 = some m.cls) (hK : va_K (dC, dI) vwCl (TY cI cJ cII cJJ) s) (hP : va_P (dC, dI) vwCl ws H) (hD : va_D A ws) (hS : va_S A H0 H locs) (hl : lv_has ls 3 [(2, .int 2), (1, .int g1), (0, .ref a0)]) (q0 qf : Nat) (hq : qf ≠ q0) (he : ws[q0]? = some (a0, .inr (9, fs))) (hf : fs[17]? = some (.ref af)) (ha : ws[qf]? = some (af, .inl (cI, 6001, .inl (tb [0, 2])))) (hw : ws.set qf (af, .inl (cI, 6001, .inl (tb (0 :: List.replicate 6000 2)))) = W')
    (kk : ∀ (H : Heap) (locs : List Loc) (ls : Array Slot), va_P (dC, dI) vwCl W' H → va_D A W' → va_S A H0 H locs → lv_has ls 3 [(2, .int 6001), (1, .int g1), (0, .ref a0)] → W p l e R s m args below meth c H locs cells slots Q (F0 m 218 ls [])) : W p l e R s m args below meth c H locs cells slots Q (F0 m 188 ls []) := by
  have e1 : ws.set qf (af, .inl (cI, 6001, .inl (tb (frL 1)))) = ws := set_same _ _ _ ha
  refine fs3 (H0 := H0) hx hb hts hown hK q0 qf hq he hf ha (fun H locs ls h1 h2 h3 h4 => ?_) 6001 1 (by omega) (by omega) (by omega) H locs ls (by rw [e1]; exact hP) (by rw [e1]; exact hD) hS hl
  refine kk H locs ls ?_ ?_ h3 h4
  · rw [← hw]; exact h1
  · rw [← hw]; exact h2
end SXL
theorem s_plans {i x : Int32} {a b : Int} (e : i = 4 * x) (h : a ≤ x.toInt ∧ x.toInt ≤ b) (ha : 0 ≤ a) (hb : b ≤ 10) : tb [0, 0, 0, 0, 1, 0, 0, 0, 2, 0, 0, 0, 3, 0, 0, 0, 4, 0, 0, 0, 5, 0, 0, 0, 6, 0, 0, 0, 7, 0, 0, 0, 8, 0, 0, 0, 9, 0, 0, 0, 10] i.toNatClampNeg = x := by
  subst e
  obtain ⟨j, h1, h2, rfl⟩ := s_nat h ha
  have h3 : j ≤ 10 := by omega
  rcases (show j = 0 ∨ j = 1 ∨ j = 2 ∨ j = 3 ∨ j = 4 ∨ j = 5 ∨ j = 6 ∨ j = 7 ∨ j = 8 ∨ j = 9 ∨ j = 10 by omega) with rfl | rfl | rfl | rfl | rfl | rfl | rfl | rfl | rfl | rfl | rfl <;> decide +kernel
