theorem j_lt {x y : Int32} {a b : Int} (hx : x.toInt = a) (hy : y.toInt = b) (h : x < y) : a < b := by rw [← hx, ← hy]; exact Int32.lt_iff_toInt_lt.mp h
theorem j_le {x y : Int32} {a b : Int} (hx : x.toInt = a) (hy : y.toInt = b) (h : x ≤ y) : a ≤ b := by rw [← hx, ← hy]; exact Int32.le_iff_toInt_le.mp h
theorem j_nlt {x y : Int32} {a b : Int} (hx : x.toInt = a) (hy : y.toInt = b) (h : ¬ x < y) : b ≤ a := by
  rw [← hx, ← hy]
  exact Int.not_lt.mp (fun q => h (Int32.lt_iff_toInt_lt.mpr q))
theorem j_nle {x y : Int32} {a b : Int} (hx : x.toInt = a) (hy : y.toInt = b) (h : ¬ x ≤ y) : b < a := by
  rw [← hx, ← hy]
  exact Int.not_le.mp (fun q => h (Int32.le_iff_toInt_le.mpr q))
theorem j_eq {x y : Int32} {a b : Int} (hx : x.toInt = a) (hy : y.toInt = b) (h : x = y) : a = b := by rw [← hx, ← hy, h]
theorem j_ne {x y : Int32} {a b : Int} (hx : x.toInt = a) (hy : y.toInt = b) (h : ¬ x = y) : a ≠ b := by
  rw [← hx, ← hy]
  exact fun q => h (Int32.toInt_inj.mp q)
theorem q_lt {x y : Int32} {a b : Int} (hx : x.toInt = a) (hy : y.toInt = b) (h : a < b) : x < y := Int32.lt_iff_toInt_lt.mpr (by rw [hx, hy]; exact h)
theorem q_le {x y : Int32} {a b : Int} (hx : x.toInt = a) (hy : y.toInt = b) (h : a ≤ b) : x ≤ y := Int32.le_iff_toInt_le.mpr (by rw [hx, hy]; exact h)
theorem q_nlt {x y : Int32} {a b : Int} (hx : x.toInt = a) (hy : y.toInt = b) (h : b ≤ a) : ¬ x < y := fun q => by have := j_lt hx hy q; omega
theorem q_nle {x y : Int32} {a b : Int} (hx : x.toInt = a) (hy : y.toInt = b) (h : b < a) : ¬ x ≤ y := fun q => by have := j_le hx hy q; omega
theorem q_eq {x y : Int32} {a b : Int} (hx : x.toInt = a) (hy : y.toInt = b) (h : a = b) : x = y := Int32.toInt_inj.mp (by rw [hx, hy]; exact h)
theorem q_ne {x y : Int32} {a b : Int} (hx : x.toInt = a) (hy : y.toInt = b) (h : a ≠ b) : ¬ x = y := fun q => h (j_eq hx hy q)
theorem q_nne {x y : Int32} {a b : Int} (hx : x.toInt = a) (hy : y.toInt = b) (h : a = b) : ¬ ¬ x = y := fun q => q (q_eq hx hy h)
theorem n_add {x y : Int32} {a b : Int} (hx : x.toInt = a) (hy : y.toInt = b) (h1 : -2147483648 ≤ a + b) (h2 : a + b ≤ 2147483647) : (x + y).toInt = a + b := by
  rw [Int32.toInt_add, hx, hy, Int.bmod_eq_of_le (by omega) (by omega)]
theorem n_sub {x y : Int32} {a b : Int} (hx : x.toInt = a) (hy : y.toInt = b) (h1 : -2147483648 ≤ a - b) (h2 : a - b ≤ 2147483647) : (x - y).toInt = a - b := by
  rw [Int32.toInt_sub, hx, hy, Int.bmod_eq_of_le (by omega) (by omega)]
theorem n_mul {x y : Int32} {a b : Int} (hx : x.toInt = a) (hy : y.toInt = b) (h1 : -2147483648 ≤ a * b) (h2 : a * b ≤ 2147483647) : (x * y).toInt = a * b := by
  rw [Int32.toInt_mul, hx, hy, Int.bmod_eq_of_le (by omega) (by omega)]
theorem n_neg {x : Int32} {a : Int} (hx : x.toInt = a) (h1 : -2147483647 ≤ a) : (-x).toInt = -a := by
  have h2 := s_any x
  rw [Int32.toInt_neg, hx, Int.bmod_eq_of_le (by omega) (by omega)]
theorem n_max {x y : Int32} {a b : Int} (hx : x.toInt = a) (hy : y.toInt = b) : ((if x < y then y else x).toInt = a ∨ (if x < y then y else x).toInt = b) ∧ a ≤ (if x < y then y else x).toInt ∧ b ≤ (if x < y then y else x).toInt := by
  by_cases h : x < y
  · rw [if_pos h, hy]
    have := j_lt hx hy h
    omega
  · rw [if_neg h, hx]
    have := j_nlt hx hy h
    omega
theorem n_min {x y : Int32} {a b : Int} (hx : x.toInt = a) (hy : y.toInt = b) : ((if y < x then y else x).toInt = a ∨ (if y < x then y else x).toInt = b) ∧ a ≥ (if y < x then y else x).toInt ∧ b ≥ (if y < x then y else x).toInt := by
  by_cases h : y < x
  · rw [if_pos h, hy]
    have := j_lt hy hx h
    omega
  · rw [if_neg h, hx]
    have := j_nlt hy hx h
    omega
theorem n_abs {x : Int32} {a : Int} (hx : x.toInt = a) (h1 : -2147483647 ≤ a) : ((if 0 ≤ x then x else 0 - x).toInt = a ∨ (if 0 ≤ x then x else 0 - x).toInt = -a) ∧ 0 ≤ (if 0 ≤ x then x else 0 - x).toInt := by
  have h2 := s_any x
  by_cases h : (0 : Int32) ≤ x
  · rw [if_pos h, hx]
    have := j_le (a := 0) (b := a) rfl hx h
    omega
  · rw [if_neg h, n_sub (a := 0) (b := a) rfl hx (by omega) (by omega)]
    have := j_nle (a := 0) (b := a) rfl hx h
    omega
theorem nb_01 {x : Int32} {a : Int} (hx : x.toInt = a) (h0 : 0 ≤ a) (h1 : a ≤ 1) : x = 0 ∨ x = 1 := by
  rcases (show a = 0 ∨ a = 1 by omega) with h | h
  · exact Or.inl (q_eq (a := a) (b := 0) hx rfl h)
  · exact Or.inr (q_eq (a := a) (b := 1) hx rfl h)
theorem nb_n {x : Int32} {a : Int} (hx : x.toInt = a) (h0 : 0 ≤ a) (h1 : a ≤ 1) : narrow .boolean (.int x) = .int x := by
  rcases nb_01 hx h0 h1 with rfl | rfl <;> rfl
theorem nb_f {x : Int32} {a : Int} (hx : x.toInt = a) (h0 : 0 ≤ a) (h1 : a ≤ 1) : fits .boolean (.int x) = true := by
  rcases nb_01 hx h0 h1 with rfl | rfl <;> rfl
theorem j_in {i : Int32} {n : Nat} {a : Int} (hi : i.toInt = a) (h0 : 0 ≤ a) (h1 : a < (n : Int)) : vp_in i n := vp_in_iff.mpr ⟨by omega, by omega⟩
theorem j_nz {y : Int32} {a : Int} (hy : y.toInt = a) (h : a ≠ 0) : ¬ y = 0 := q_ne hy (by decide +kernel) h
theorem j_cp {x y : Int32} {a b : Int} {N : Nat} (hx : x.toInt = a) (hy : y.toInt = b) (h0 : 0 ≤ a) (h1 : 0 ≤ b) (h2 : a + b ≤ (N : Int)) : x.toNatClampNeg + y.toNatClampNeg ≤ N := by
  show x.toInt.toNat + y.toInt.toNat ≤ N
  omega
theorem lz {x : Int64} {z : Int32} (e : z = lg_cmp x 0) (h : z.toInt ≠ 0) : ¬ x = 0 := fun q => h (by rw [e, q]; decide)
theorem n_divc {x y : Int32} {a b : Int} (hx : x.toInt = a) (hy : y.toInt = b) (h0 : 0 ≤ a) (hb : 0 < b) : (x / y).toInt = a / b := by
  have q := s_any x
  have h1 : a / b ≤ a := Int.ediv_le_self b h0
  have h2 : 0 ≤ a / b := Int.ediv_nonneg h0 (by omega)
  rw [Int32.toInt_div, hx, hy, Int.tdiv_eq_ediv_of_nonneg h0, Int.bmod_eq_of_le (by omega) (by omega)]
theorem n_remc {x y : Int32} {a b : Int} (hx : x.toInt = a) (hy : y.toInt = b) (h0 : 0 ≤ a) (hb : 0 < b) : (x - x / y * y).toInt = a % b := by
  have q := s_any x
  have h1 := n_divc hx hy h0 hb
  have e1 : b * (a / b) + a % b = a := Int.mul_ediv_add_emod a b
  have e2 : 0 ≤ a % b := Int.emod_nonneg a (by omega)
  have e3 : 0 ≤ a / b := Int.ediv_nonneg h0 (by omega)
  have e4 : 0 ≤ b * (a / b) := Int.mul_nonneg (by omega) e3
  have h2 : (x / y * y).toInt = a / b * b := n_mul h1 hy (by rw [Int.mul_comm]; omega) (by rw [Int.mul_comm]; omega)
  rw [n_sub hx h2 (by rw [Int.mul_comm (a / b)]; omega) (by rw [Int.mul_comm (a / b)]; omega), Int.mul_comm (a / b)]
  omega
theorem n_divlt {x y : Int32} {a b k : Int} (hx : x.toInt = a) (hy : y.toInt = b) (h0 : 0 ≤ a) (hb : 0 < b) (h : a < k * b) : 0 ≤ (x / y).toInt ∧ (x / y).toInt < k := by
  rw [n_divc hx hy h0 hb]
  exact ⟨Int.ediv_nonneg h0 (by omega), Int.ediv_lt_of_lt_mul hb h⟩
theorem n_mulnn {x y : Int32} {a b A B : Int} (hx : x.toInt = a) (hy : y.toInt = b) (h0 : 0 ≤ a) (h1 : a ≤ A) (h2 : 0 ≤ b) (h3 : b ≤ B) (h4 : A * B ≤ 2147483647) : (x * y).toInt = a * b ∧ 0 ≤ a * b ∧ a * b ≤ A * B := by
  have e1 : 0 ≤ a * b := Int.mul_nonneg h0 h2
  have e2 : a * b ≤ A * B := Int.mul_le_mul h1 h3 h2 (by omega)
  exact ⟨n_mul hx hy (by omega) (by omega), e1, e2⟩
theorem j_fuel (a : Int) : a < ((a.toNat + 1 : Nat) : Int) := by omega
theorem j_cases1 {x : Int32} {a : Int} (hx : x.toInt = a) (h0 : 0 ≤ a) (h1 : a ≤ 0) : x = 0 := q_eq (b := 0) hx rfl (by omega)
theorem j_cases2 {x : Int32} {a : Int} (hx : x.toInt = a) (h0 : 0 ≤ a) (h1 : a ≤ 1) : x = 0 ∨ x = 1 := nb_01 hx h0 h1
theorem j_cases3 {x : Int32} {a : Int} (hx : x.toInt = a) (h0 : 0 ≤ a) (h1 : a ≤ 2) : x = 0 ∨ x = 1 ∨ x = 2 := by
  rcases (show a = 0 ∨ a = 1 ∨ a = 2 by omega) with h | h | h
  · exact Or.inl (q_eq (b := 0) hx rfl h)
  · exact Or.inr (Or.inl (q_eq (b := 1) hx rfl h))
  · exact Or.inr (Or.inr (q_eq (b := 2) hx rfl h))
theorem j_cases4 {x : Int32} {a : Int} (hx : x.toInt = a) (h0 : 0 ≤ a) (h1 : a ≤ 3) : x = 0 ∨ x = 1 ∨ x = 2 ∨ x = 3 := by
  rcases (show a = 0 ∨ a = 1 ∨ a = 2 ∨ a = 3 by omega) with h | h | h | h
  · exact Or.inl (q_eq (b := 0) hx rfl h)
  · exact Or.inr (Or.inl (q_eq (b := 1) hx rfl h))
  · exact Or.inr (Or.inr (Or.inl (q_eq (b := 2) hx rfl h)))
  · exact Or.inr (Or.inr (Or.inr (q_eq (b := 3) hx rfl h)))
theorem j_cases5 {x : Int32} {a : Int} (hx : x.toInt = a) (h0 : 0 ≤ a) (h1 : a ≤ 4) : x = 0 ∨ x = 1 ∨ x = 2 ∨ x = 3 ∨ x = 4 := by
  rcases (show a = 0 ∨ a = 1 ∨ a = 2 ∨ a = 3 ∨ a = 4 by omega) with h | h | h | h | h
  · exact Or.inl (q_eq (b := 0) hx rfl h)
  · exact Or.inr (Or.inl (q_eq (b := 1) hx rfl h))
  · exact Or.inr (Or.inr (Or.inl (q_eq (b := 2) hx rfl h)))
  · exact Or.inr (Or.inr (Or.inr (Or.inl (q_eq (b := 3) hx rfl h))))
  · exact Or.inr (Or.inr (Or.inr (Or.inr (q_eq (b := 4) hx rfl h))))
def Cx (p : Program) (c : Code) (s : State) (m : MethodId) (meth : Method) (args : Array Value) (A : Nat → Prop) (dC : Nat → ClassId) (dI : Nat → Nat → Nat) (ty : List (ClassId × FieldType)) (cc : ByteArray) (ret : Option FieldType) (nL : Nat) (own : String) (xk g : Nat) : Prop := p.tables.exec = Jvm.exec ∧ c.code = cc ∧ meth.sig.returnType = ret ∧ c.maxLocals = nL ∧ s.vm.findClass own = some m.cls ∧ (∀ w ∈ TT, w.before args s = true) ∧ meth.locks = false ∧ (∀ q, s.heap.size ≤ q → A q) ∧ va_K (dC, dI) vwCl ty s ∧ GXA xk g A s
def QI (B : Int32 → State → Prop) (A : Nat → Prop) : Array Value → State → Outcome → State → Prop := va_Qi (fun (r : Int32) (u : Int32) => r = u) B A
def QL (B : Int64 → State → Prop) (A : Nat → Prop) : Array Value → State → Outcome → State → Prop := va_Ql (fun (r : Int64) (u : Int64) => r = u) B A
def QV (B : State → Prop) (A : Nat → Prop) : Array Value → State → Outcome → State → Prop := va_Qv (fun (_ : Unit) => True) (fun _ t => B t) A
def QR (r0 : Nat) (B : State → Prop) (A : Nat → Prop) : Array Value → State → Outcome → State → Prop := va_Qr (fun (_ : Unit) => True) (fun _ a t => a = r0 ∧ B t) A
section V2
variable {p : Program} {l : Launch} {e : Env} {R : Room} {s : State} {m : MethodId} {args : Array Value} {below : List Frame} {meth : Method} {c : Code} {H : Heap} {locs : List Loc} {cells slots : Nat} {Q : State → Prop}
variable {cc : ByteArray} {pc : Nat} {ls : Array Slot} {rest : List Value} {dC : Nat → ClassId} {dI : Nat → Nat → Nat} {A : Nat → Prop} {ty : List (ClassId × FieldType)} {ws : va_W}
theorem r2_i {r : Int32} {B : Int32 → State → Prop} (hx : p.tables.exec = Jvm.exec) (hb : c.code = cc) (hr : meth.sig.returnType = some .int) (hk : meth.locks = false) (hS : va_S A s.heap H locs) (hdg : decode cc pc = .ok (.ireturn, 1)) (hB : ∀ t : State, t.heap = H → s.WarmedH t.vm → B r t) : W p l e R s m args below meth c H locs cells slots (MQ below (QI B A) args s cells slots A) (F0 m pc ls [.int r]) :=
  W.iret (v := r) hx hb hr (fun t ht hW => ⟨⟨r, r, rfl, rfl, hB t ht hW⟩, hS.F ht⟩) hS.2.2 hdg hk
theorem r2_z {r : Int32} {B : Int32 → State → Prop} (hx : p.tables.exec = Jvm.exec) (hb : c.code = cc) (hr : meth.sig.returnType = some .boolean) (hk : meth.locks = false) (hS : va_S A s.heap H locs) (hdg : decode cc pc = .ok (.ireturn, 1)) (hn : narrow .boolean (.int r) = .int r) (hB : ∀ t : State, t.heap = H → s.WarmedH t.vm → B r t) : W p l e R s m args below meth c H locs cells slots (MQ below (QI B A) args s cells slots A) (F0 m pc ls [.int r]) :=
  W.zret (v := r) hx hb hr hn (fun t ht hW => ⟨⟨r, r, rfl, rfl, hB t ht hW⟩, hS.F ht⟩) hS.2.2 hdg hk
theorem r2_l {r : Int64} {B : Int64 → State → Prop} (hx : p.tables.exec = Jvm.exec) (hb : c.code = cc) (hr : meth.sig.returnType = some .long) (hk : meth.locks = false) (hS : va_S A s.heap H locs) (hdg : decode cc pc = .ok (.lreturn, 1)) (hB : ∀ t : State, t.heap = H → s.WarmedH t.vm → B r t) : W p l e R s m args below meth c H locs cells slots (MQ below (QL B A) args s cells slots A) (F0 m pc ls [.long r]) :=
  W.lret (v := r) hx hb hr (fun t ht hW => ⟨⟨r, r, rfl, rfl, hB t ht hW⟩, hS.F ht⟩) hS.2.2 hdg hk
theorem r2_a {r : Nat} {C : String} {B : State → Prop} (hx : p.tables.exec = Jvm.exec) (hb : c.code = cc) (hr : meth.sig.returnType = some (.object C)) (hk : meth.locks = false) (hS : va_S A s.heap H locs) (hdg : decode cc pc = .ok (.areturn, 1)) (hB : ∀ t : State, t.heap = H → s.WarmedH t.vm → B t) : W p l e R s m args below meth c H locs cells slots (MQ below (QR r B A) args s cells slots A) (F0 m pc ls [.ref r]) :=
  W.aret (v := .ref r) hx hb hr (Or.inl ⟨C, rfl⟩) (Or.inr ⟨r, rfl⟩) (fun t ht hW => ⟨⟨(), r, rfl, trivial, rfl, hB t ht hW⟩, hS.F ht⟩) hS.2.2 hdg hk
theorem r2_v {B : State → Prop} (hx : p.tables.exec = Jvm.exec) (hb : c.code = cc) (hr : meth.sig.returnType = none) (hk : meth.locks = false) (hS : va_S A s.heap H locs) (hdg : decode cc pc = .ok (.return_, 1)) (hB : ∀ t : State, t.heap = H → s.WarmedH t.vm → B t) : W p l e R s m args below meth c H locs cells slots (MQ below (QV B A) args s cells slots A) (F0 m pc ls []) :=
  W.vret hx hb hr (fun t ht hW => ⟨⟨(), rfl, trivial, hB t ht hW⟩, hS.F ht⟩) hS.2.2 hdg hk
theorem free2 (hD : va_D A ws) (hS : va_S A s.heap H locs) (hA : ∀ q, s.heap.size ≤ q → A q) : ∀ q, va_A ws H.size q → A q := fun q h => by
  rcases h with ⟨k, e, hk⟩ | h
  · exact hD.2 k _ hk
  · exact hA q (Nat.le_trans hS.1 h)
theorem run2V {own C : String} {idx : Nat} {y : MethodName} {bytes : ByteArray} {maxL n nL : Nat} {ret : Option FieldType} {rm : Room} {xk xk' g g' b q0 ci : Nat} {fs : List Value} {T : u_T} {N : Nat} {As st : List Value} {Qc : Array Value → State → Outcome → State → Prop} (F : CallFix p m c cc nL s args TT own) (hK : va_K (dC, dI) vwCl ty s) (hP : va_P (dC, dI) vwCl ws H) (hD : va_D A ws) (hS : va_S A s.heap H locs) (hA : ∀ q, s.heap.size ≤ q → A q) (hX : GXA xk g A s)
    (cw : CV own idx C y bytes maxL ret n) (hM : Met l y (.code y bytes maxL ret :: TT) rm (PcS dC dI ty (.ref b :: As) ws H.size xk' g') Qc 0 0 (va_A ws H.size)) (hrm : rm.frames + 1 ≤ R.frames ∧ 8 + (maxL + 11) + rm.locals ≤ R.locals) (hrc : rm.cells = 0) (hrs : rm.slots = 0) (he : xk' = 0 ∨ (xk' = 1 ∧ xk = 1 ∧ g' = g))
    (hrecv : ws[q0]? = some (b, .inr (ci, fs))) (hcl : vwCl[ci]? = some (C, T, N)) (hlen : As.length = n) (hsz : ls.size = nL) (hst : st = As.reverse ++ .ref b :: rest) (hroom : (rest.map fun v => v.category).sum ≤ 8) (hdg : decode cc pc = .ok (.invokevirtual idx, 3)) (hf : cells ≤ R.cells ∧ slots ≤ R.slots) : va_Run p l e R s m args below meth c H locs cells slots 0 0 (F0 m pc ls st) rest (Qc (Value.ref b :: As).toArray) (va_A ws H.size) := by
  refine va_runV (As := As) (rest := rest) F hM (cwV n F.2.2.2.2 cw.good rfl hrc hrs cw.2.2.2.2.2 hrm) ⟨PcS.blind, va_recv hK hP hcl hrecv, ?_⟩ rfl hlen hsz hst (lv_room hroom) hdg hf
  exact fun U hU hW => ⟨rfl, by rw [hU], by rw [hU]; exact hP, va_K.moved hW.alike hK, hD.weaken (fun _ _ _ _ => trivial), hX.go hS (free2 hD hS hA) hU hW he⟩
theorem run2S {own : String} {idx : Nat} {y : MethodName} {bytes : ByteArray} {maxL n nL : Nat} {ret : Option FieldType} {rm : Room} {xk xk' g g' : Nat} {As st : List Value} {Qc : Array Value → State → Outcome → State → Prop} (F : CallFix p m c cc nL s args TT own) (hK : va_K (dC, dI) vwCl ty s) (hP : va_P (dC, dI) vwCl ws H) (hD : va_D A ws) (hS : va_S A s.heap H locs) (hA : ∀ q, s.heap.size ≤ q → A q) (hX : GXA xk g A s)
    (cw : CSt own idx y bytes maxL ret n) (hM : Met l y (.code y bytes maxL ret :: TT) rm (PcS dC dI ty As ws H.size xk' g') Qc 0 0 (va_A ws H.size)) (hrm : rm.frames + 1 ≤ R.frames ∧ 8 + (maxL + 11) + rm.locals ≤ R.locals) (hrc : rm.cells = 0) (hrs : rm.slots = 0) (he : xk' = 0 ∨ (xk' = 1 ∧ xk = 1 ∧ g' = g))
    (hlen : As.length = n) (hsz : ls.size = nL) (hst : st = As.reverse ++ rest) (hroom : (rest.map fun v => v.category).sum ≤ 8) (hdg : decode cc pc = .ok (.invokestatic idx, 3)) (hf : cells ≤ R.cells ∧ slots ≤ R.slots) : va_Run p l e R s m args below meth c H locs cells slots 0 0 (F0 m pc ls st) rest (Qc As.toArray) (va_A ws H.size) := by
  obtain ⟨c1, c2, c3, c4, c5⟩ := cw
  refine va_runS (As := As) (rest := rest) F hM ⟨callB_of n F.2.2.2.2 (good_self c4) rfl hrc hrs (F.2.2.2.2 _ c3) (F.2.2.2.2 _ c1) c5 hrm, F.2.2.2.2 _ c2⟩ ⟨PcS.blind, ?_⟩ rfl hlen hsz hst (lv_room hroom) hdg hf
  exact fun U hU hW => ⟨rfl, by rw [hU], by rw [hU]; exact hP, va_K.moved hW.alike hK, hD.weaken (fun _ _ _ _ => trivial), hX.go hS (free2 hD hS hA) hU hW he⟩
theorem k2V_i {own C : String} {idx : Nat} {y : MethodName} {bytes : ByteArray} {maxL n nL : Nat} {ret : Option FieldType} {rm : Room} {xk xk' g g' b q0 ci : Nat} {fs : List Value} {T : u_T} {N : Nat} {As st : List Value} {B : Int32 → State → Prop} (F : CallFix p m c cc nL s args TT own) (hK : va_K (dC, dI) vwCl ty s) (hP : va_P (dC, dI) vwCl ws H) (hD : va_D A ws) (hS : va_S A s.heap H locs) (hA : ∀ q, s.heap.size ≤ q → A q) (hX : GXA xk g A s) (cw : CV own idx C y bytes maxL ret n) (hM : Met l y (.code y bytes maxL ret :: TT) rm (PcS dC dI ty (.ref b :: As) ws H.size xk' g') (QI B (va_A ws H.size)) 0 0 (va_A ws H.size)) (hrm : rm.frames + 1 ≤ R.frames ∧ 8 + (maxL + 11) + rm.locals ≤ R.locals) (hrc : rm.cells = 0) (hrs : rm.slots = 0) (he : xk' = 0 ∨ (xk' = 1 ∧ xk = 1 ∧ g' = g)) (hrecv : ws[q0]? = some (b, .inr (ci, fs))) (hcl : vwCl[ci]? = some (C, T, N)) (hlen : As.length = n) (hsz : ls.size = nL) (hst : st = As.reverse ++ .ref b :: rest) (hroom : (rest.map fun v => v.category).sum ≤ 8) (hdg : decode cc pc = .ok (.invokevirtual idx, 3)) (hf : cells ≤ R.cells ∧ slots ≤ R.slots) (kk : ∀ (r : Int32) (t : State) (H1 : Heap) (locs1 : List Loc), t.heap = H1 → B r t → va_S A s.heap H1 locs1 → (∀ q, va_A ws H.size q → A q) → W p l e R s m args below meth c H1 locs1 cells slots Q (F0 m (pc + 3) ls (.int r :: rest))) : W p l e R s m args below meth c H locs cells slots Q (F0 m pc ls st) := by
  refine va_calli (run2V F hK hP hD hS hA hX cw hM hrm hrc hrs he hrecv hcl hlen hsz hst hroom hdg hf) hS (fun q _ h => free2 hD hS hA q h) (free2 hD hS hA) (fun r u t H1 locs1 ht hvm hw2 hB hz hk hS1 => ?_)
  cases hw2
  exact kk r t H1 locs1 ht hB hS1 (free2 hD hS hA)
theorem k2S_i {own : String} {idx : Nat} {y : MethodName} {bytes : ByteArray} {maxL n nL : Nat} {ret : Option FieldType} {rm : Room} {xk xk' g g' : Nat} {As st : List Value} {B : Int32 → State → Prop} (F : CallFix p m c cc nL s args TT own) (hK : va_K (dC, dI) vwCl ty s) (hP : va_P (dC, dI) vwCl ws H) (hD : va_D A ws) (hS : va_S A s.heap H locs) (hA : ∀ q, s.heap.size ≤ q → A q) (hX : GXA xk g A s) (cw : CSt own idx y bytes maxL ret n) (hM : Met l y (.code y bytes maxL ret :: TT) rm (PcS dC dI ty As ws H.size xk' g') (QI B (va_A ws H.size)) 0 0 (va_A ws H.size)) (hrm : rm.frames + 1 ≤ R.frames ∧ 8 + (maxL + 11) + rm.locals ≤ R.locals) (hrc : rm.cells = 0) (hrs : rm.slots = 0) (he : xk' = 0 ∨ (xk' = 1 ∧ xk = 1 ∧ g' = g)) (hlen : As.length = n) (hsz : ls.size = nL) (hst : st = As.reverse ++ rest) (hroom : (rest.map fun v => v.category).sum ≤ 8) (hdg : decode cc pc = .ok (.invokestatic idx, 3)) (hf : cells ≤ R.cells ∧ slots ≤ R.slots) (kk : ∀ (r : Int32) (t : State) (H1 : Heap) (locs1 : List Loc), t.heap = H1 → B r t → va_S A s.heap H1 locs1 → (∀ q, va_A ws H.size q → A q) → W p l e R s m args below meth c H1 locs1 cells slots Q (F0 m (pc + 3) ls (.int r :: rest))) : W p l e R s m args below meth c H locs cells slots Q (F0 m pc ls st) := by
  refine va_calli (run2S F hK hP hD hS hA hX cw hM hrm hrc hrs he hlen hsz hst hroom hdg hf) hS (fun q _ h => free2 hD hS hA q h) (free2 hD hS hA) (fun r u t H1 locs1 ht hvm hw2 hB hz hk hS1 => ?_)
  cases hw2
  exact kk r t H1 locs1 ht hB hS1 (free2 hD hS hA)
theorem k2V_l {own C : String} {idx : Nat} {y : MethodName} {bytes : ByteArray} {maxL n nL : Nat} {ret : Option FieldType} {rm : Room} {xk xk' g g' b q0 ci : Nat} {fs : List Value} {T : u_T} {N : Nat} {As st : List Value} {B : Int64 → State → Prop} (F : CallFix p m c cc nL s args TT own) (hK : va_K (dC, dI) vwCl ty s) (hP : va_P (dC, dI) vwCl ws H) (hD : va_D A ws) (hS : va_S A s.heap H locs) (hA : ∀ q, s.heap.size ≤ q → A q) (hX : GXA xk g A s) (cw : CV own idx C y bytes maxL ret n) (hM : Met l y (.code y bytes maxL ret :: TT) rm (PcS dC dI ty (.ref b :: As) ws H.size xk' g') (QL B (va_A ws H.size)) 0 0 (va_A ws H.size)) (hrm : rm.frames + 1 ≤ R.frames ∧ 8 + (maxL + 11) + rm.locals ≤ R.locals) (hrc : rm.cells = 0) (hrs : rm.slots = 0) (he : xk' = 0 ∨ (xk' = 1 ∧ xk = 1 ∧ g' = g)) (hrecv : ws[q0]? = some (b, .inr (ci, fs))) (hcl : vwCl[ci]? = some (C, T, N)) (hlen : As.length = n) (hsz : ls.size = nL) (hst : st = As.reverse ++ .ref b :: rest) (hroom : (rest.map fun v => v.category).sum ≤ 8) (hdg : decode cc pc = .ok (.invokevirtual idx, 3)) (hf : cells ≤ R.cells ∧ slots ≤ R.slots) (kk : ∀ (r : Int64) (t : State) (H1 : Heap) (locs1 : List Loc), t.heap = H1 → B r t → va_S A s.heap H1 locs1 → (∀ q, va_A ws H.size q → A q) → W p l e R s m args below meth c H1 locs1 cells slots Q (F0 m (pc + 3) ls (.long r :: rest))) : W p l e R s m args below meth c H locs cells slots Q (F0 m pc ls st) := by
  refine va_calll (run2V F hK hP hD hS hA hX cw hM hrm hrc hrs he hrecv hcl hlen hsz hst hroom hdg hf) hS (fun q _ h => free2 hD hS hA q h) (free2 hD hS hA) (fun r u t H1 locs1 ht hvm hw2 hB hz hk hS1 => ?_)
  cases hw2
  exact kk r t H1 locs1 ht hB hS1 (free2 hD hS hA)
theorem k2S_l {own : String} {idx : Nat} {y : MethodName} {bytes : ByteArray} {maxL n nL : Nat} {ret : Option FieldType} {rm : Room} {xk xk' g g' : Nat} {As st : List Value} {B : Int64 → State → Prop} (F : CallFix p m c cc nL s args TT own) (hK : va_K (dC, dI) vwCl ty s) (hP : va_P (dC, dI) vwCl ws H) (hD : va_D A ws) (hS : va_S A s.heap H locs) (hA : ∀ q, s.heap.size ≤ q → A q) (hX : GXA xk g A s) (cw : CSt own idx y bytes maxL ret n) (hM : Met l y (.code y bytes maxL ret :: TT) rm (PcS dC dI ty As ws H.size xk' g') (QL B (va_A ws H.size)) 0 0 (va_A ws H.size)) (hrm : rm.frames + 1 ≤ R.frames ∧ 8 + (maxL + 11) + rm.locals ≤ R.locals) (hrc : rm.cells = 0) (hrs : rm.slots = 0) (he : xk' = 0 ∨ (xk' = 1 ∧ xk = 1 ∧ g' = g)) (hlen : As.length = n) (hsz : ls.size = nL) (hst : st = As.reverse ++ rest) (hroom : (rest.map fun v => v.category).sum ≤ 8) (hdg : decode cc pc = .ok (.invokestatic idx, 3)) (hf : cells ≤ R.cells ∧ slots ≤ R.slots) (kk : ∀ (r : Int64) (t : State) (H1 : Heap) (locs1 : List Loc), t.heap = H1 → B r t → va_S A s.heap H1 locs1 → (∀ q, va_A ws H.size q → A q) → W p l e R s m args below meth c H1 locs1 cells slots Q (F0 m (pc + 3) ls (.long r :: rest))) : W p l e R s m args below meth c H locs cells slots Q (F0 m pc ls st) := by
  refine va_calll (run2S F hK hP hD hS hA hX cw hM hrm hrc hrs he hlen hsz hst hroom hdg hf) hS (fun q _ h => free2 hD hS hA q h) (free2 hD hS hA) (fun r u t H1 locs1 ht hvm hw2 hB hz hk hS1 => ?_)
  cases hw2
  exact kk r t H1 locs1 ht hB hS1 (free2 hD hS hA)
theorem k2V_v {own C : String} {idx : Nat} {y : MethodName} {bytes : ByteArray} {maxL n nL : Nat} {ret : Option FieldType} {rm : Room} {xk xk' g g' b q0 ci : Nat} {fs : List Value} {T : u_T} {N : Nat} {As st : List Value} {B : State → Prop} (F : CallFix p m c cc nL s args TT own) (hK : va_K (dC, dI) vwCl ty s) (hP : va_P (dC, dI) vwCl ws H) (hD : va_D A ws) (hS : va_S A s.heap H locs) (hA : ∀ q, s.heap.size ≤ q → A q) (hX : GXA xk g A s) (cw : CV own idx C y bytes maxL ret n) (hM : Met l y (.code y bytes maxL ret :: TT) rm (PcS dC dI ty (.ref b :: As) ws H.size xk' g') (QV B (va_A ws H.size)) 0 0 (va_A ws H.size)) (hrm : rm.frames + 1 ≤ R.frames ∧ 8 + (maxL + 11) + rm.locals ≤ R.locals) (hrc : rm.cells = 0) (hrs : rm.slots = 0) (he : xk' = 0 ∨ (xk' = 1 ∧ xk = 1 ∧ g' = g)) (hrecv : ws[q0]? = some (b, .inr (ci, fs))) (hcl : vwCl[ci]? = some (C, T, N)) (hlen : As.length = n) (hsz : ls.size = nL) (hst : st = As.reverse ++ .ref b :: rest) (hroom : (rest.map fun v => v.category).sum ≤ 8) (hdg : decode cc pc = .ok (.invokevirtual idx, 3)) (hf : cells ≤ R.cells ∧ slots ≤ R.slots) (kk : ∀ (t : State) (H1 : Heap) (locs1 : List Loc), t.heap = H1 → B t → va_S A s.heap H1 locs1 → (∀ q, va_A ws H.size q → A q) → W p l e R s m args below meth c H1 locs1 cells slots Q (F0 m (pc + 3) ls (rest))) : W p l e R s m args below meth c H locs cells slots Q (F0 m pc ls st) := by
  refine va_callv (run2V F hK hP hD hS hA hX cw hM hrm hrc hrs he hrecv hcl hlen hsz hst hroom hdg hf) hS (fun q _ h => free2 hD hS hA q h) (free2 hD hS hA) (fun u t H1 locs1 ht hvm hw2 hB hz hk hS1 => ?_)
  exact kk t H1 locs1 ht hB hS1 (free2 hD hS hA)
theorem k2S_v {own : String} {idx : Nat} {y : MethodName} {bytes : ByteArray} {maxL n nL : Nat} {ret : Option FieldType} {rm : Room} {xk xk' g g' : Nat} {As st : List Value} {B : State → Prop} (F : CallFix p m c cc nL s args TT own) (hK : va_K (dC, dI) vwCl ty s) (hP : va_P (dC, dI) vwCl ws H) (hD : va_D A ws) (hS : va_S A s.heap H locs) (hA : ∀ q, s.heap.size ≤ q → A q) (hX : GXA xk g A s) (cw : CSt own idx y bytes maxL ret n) (hM : Met l y (.code y bytes maxL ret :: TT) rm (PcS dC dI ty As ws H.size xk' g') (QV B (va_A ws H.size)) 0 0 (va_A ws H.size)) (hrm : rm.frames + 1 ≤ R.frames ∧ 8 + (maxL + 11) + rm.locals ≤ R.locals) (hrc : rm.cells = 0) (hrs : rm.slots = 0) (he : xk' = 0 ∨ (xk' = 1 ∧ xk = 1 ∧ g' = g)) (hlen : As.length = n) (hsz : ls.size = nL) (hst : st = As.reverse ++ rest) (hroom : (rest.map fun v => v.category).sum ≤ 8) (hdg : decode cc pc = .ok (.invokestatic idx, 3)) (hf : cells ≤ R.cells ∧ slots ≤ R.slots) (kk : ∀ (t : State) (H1 : Heap) (locs1 : List Loc), t.heap = H1 → B t → va_S A s.heap H1 locs1 → (∀ q, va_A ws H.size q → A q) → W p l e R s m args below meth c H1 locs1 cells slots Q (F0 m (pc + 3) ls (rest))) : W p l e R s m args below meth c H locs cells slots Q (F0 m pc ls st) := by
  refine va_callv (run2S F hK hP hD hS hA hX cw hM hrm hrc hrs he hlen hsz hst hroom hdg hf) hS (fun q _ h => free2 hD hS hA q h) (free2 hD hS hA) (fun u t H1 locs1 ht hvm hw2 hB hz hk hS1 => ?_)
  exact kk t H1 locs1 ht hB hS1 (free2 hD hS hA)
theorem k2V_a {own C : String} {idx : Nat} {y : MethodName} {bytes : ByteArray} {maxL n nL : Nat} {ret : Option FieldType} {rm : Room} {xk xk' g g' b q0 ci : Nat} {fs : List Value} {T : u_T} {N : Nat} {As st : List Value} {B : State → Prop} {r0 : Nat} (F : CallFix p m c cc nL s args TT own) (hK : va_K (dC, dI) vwCl ty s) (hP : va_P (dC, dI) vwCl ws H) (hD : va_D A ws) (hS : va_S A s.heap H locs) (hA : ∀ q, s.heap.size ≤ q → A q) (hX : GXA xk g A s) (cw : CV own idx C y bytes maxL ret n) (hM : Met l y (.code y bytes maxL ret :: TT) rm (PcS dC dI ty (.ref b :: As) ws H.size xk' g') (QR r0 B (va_A ws H.size)) 0 0 (va_A ws H.size)) (hrm : rm.frames + 1 ≤ R.frames ∧ 8 + (maxL + 11) + rm.locals ≤ R.locals) (hrc : rm.cells = 0) (hrs : rm.slots = 0) (he : xk' = 0 ∨ (xk' = 1 ∧ xk = 1 ∧ g' = g)) (hrecv : ws[q0]? = some (b, .inr (ci, fs))) (hcl : vwCl[ci]? = some (C, T, N)) (hlen : As.length = n) (hsz : ls.size = nL) (hst : st = As.reverse ++ .ref b :: rest) (hroom : (rest.map fun v => v.category).sum ≤ 8) (hdg : decode cc pc = .ok (.invokevirtual idx, 3)) (hf : cells ≤ R.cells ∧ slots ≤ R.slots) (kk : ∀ (t : State) (H1 : Heap) (locs1 : List Loc), t.heap = H1 → B t → va_S A s.heap H1 locs1 → (∀ q, va_A ws H.size q → A q) → W p l e R s m args below meth c H1 locs1 cells slots Q (F0 m (pc + 3) ls (.ref r0 :: rest))) : W p l e R s m args below meth c H locs cells slots Q (F0 m pc ls st) := by
  refine va_callr (run2V F hK hP hD hS hA hX cw hM hrm hrc hrs he hrecv hcl hlen hsz hst hroom hdg hf) hS (fun q _ h => free2 hD hS hA q h) (free2 hD hS hA) (fun u r2 t H1 locs1 ht hvm hw2 hB hz hk hS1 => ?_)
  obtain ⟨rfl, hB⟩ := hB
  exact kk t H1 locs1 ht hB hS1 (free2 hD hS hA)
theorem k2S_a {own : String} {idx : Nat} {y : MethodName} {bytes : ByteArray} {maxL n nL : Nat} {ret : Option FieldType} {rm : Room} {xk xk' g g' : Nat} {As st : List Value} {B : State → Prop} {r0 : Nat} (F : CallFix p m c cc nL s args TT own) (hK : va_K (dC, dI) vwCl ty s) (hP : va_P (dC, dI) vwCl ws H) (hD : va_D A ws) (hS : va_S A s.heap H locs) (hA : ∀ q, s.heap.size ≤ q → A q) (hX : GXA xk g A s) (cw : CSt own idx y bytes maxL ret n) (hM : Met l y (.code y bytes maxL ret :: TT) rm (PcS dC dI ty As ws H.size xk' g') (QR r0 B (va_A ws H.size)) 0 0 (va_A ws H.size)) (hrm : rm.frames + 1 ≤ R.frames ∧ 8 + (maxL + 11) + rm.locals ≤ R.locals) (hrc : rm.cells = 0) (hrs : rm.slots = 0) (he : xk' = 0 ∨ (xk' = 1 ∧ xk = 1 ∧ g' = g)) (hlen : As.length = n) (hsz : ls.size = nL) (hst : st = As.reverse ++ rest) (hroom : (rest.map fun v => v.category).sum ≤ 8) (hdg : decode cc pc = .ok (.invokestatic idx, 3)) (hf : cells ≤ R.cells ∧ slots ≤ R.slots) (kk : ∀ (t : State) (H1 : Heap) (locs1 : List Loc), t.heap = H1 → B t → va_S A s.heap H1 locs1 → (∀ q, va_A ws H.size q → A q) → W p l e R s m args below meth c H1 locs1 cells slots Q (F0 m (pc + 3) ls (.ref r0 :: rest))) : W p l e R s m args below meth c H locs cells slots Q (F0 m pc ls st) := by
  refine va_callr (run2S F hK hP hD hS hA hX cw hM hrm hrc hrs he hlen hsz hst hroom hdg hf) hS (fun q _ h => free2 hD hS hA q h) (free2 hD hS hA) (fun u r2 t H1 locs1 ht hvm hw2 hB hz hk hS1 => ?_)
  obtain ⟨rfl, hB⟩ := hB
  exact kk t H1 locs1 ht hB hS1 (free2 hD hS hA)
theorem tr_upd (L : List Nat) (i v : Nat) (h : i < L.length) : va_up (tr L) i (some v) = tr (L.set i v) := by
  funext j
  show (if j = i then some v else L[j]?) = (L.set i v)[j]?
  by_cases e : j = i
  · subst e
    rw [if_pos rfl, List.getElem?_set_self h]
  · rw [if_neg e, List.getElem?_set_ne (fun q => e q.symm)]
theorem st_a {H0 : Heap} {W' : va_W} {cI cJ cII cJJ : ClassId} {a : Nat} (hx : p.tables.exec = Jvm.exec) (hb : c.code = cc) (hK : va_K (dC, dI) vwCl (TY cI cJ cII cJJ) s) (hP : va_P (dC, dI) vwCl ws H) (hD : va_D A ws) (hS : va_S A H0 H locs) (hZ : va_AOA .long s) (q0 : Nat) {n v : Nat} {L : List Nat} (ha : ws[q0]? = some (a, .inl (cJJ, n, .inr (.inr (.inr (.inr (tr L))))))) (hv : ∃ (k : Nat) (x : vp_A), ws[k]? = some (v, .inl (cJ, x))) {i : Int32} (hin : vp_in i n) (hn : L.length = n) (hdg : decode cc pc = .ok (.aastore, 1)) (hw : ws.set q0 (a, .inl (cJJ, n, .inr (.inr (.inr (.inr (tr (L.set i.toNatClampNeg v))))))) = W')
    (kk : ∀ (H1 : Heap) (locs1 : List Loc), va_P (dC, dI) vwCl W' H1 → va_D A W' → va_S A H0 H1 locs1 → W p l e R s m args below meth c H1 locs1 cells slots Q (F0 m (pc + 1) ls rest)) : W p l e R s m args below meth c H locs cells slots Q (F0 m pc ls (.ref v :: .int i :: .ref a :: rest)) := by
  have hlt : i.toNatClampNeg < n := Nat.not_le.mp fun q => hin (Or.inr q)
  have h0 : ¬ i < 0 := fun q => hin (Or.inl q)
  obtain ⟨kv, xv, hkv⟩ := hv
  have g1 : H[v]? = some (vp_cell cJ xv) := hP kv _ hkv
  have g2 : (vp_cell cJ xv).cls = cJ := by obtain ⟨n9, f | f | f | f | f⟩ := xv <;> rfl
  have g3 : (vp_cell cJ xv).vm = .none := by obtain ⟨n9, f | f | f | f | f⟩ := xv <;> rfl
  obtain ⟨comp, cA2, kA, k3, -, k1, k2, k4⟩ := arrayOverA_spec (va_AOA.use (A := args) hZ)
  have e1 : s.vm.findClass ("[" ++ (FieldType.array .long).toString) = some cJJ := (hK.2 3 (cJJ, .array .long) rfl).2
  have e2 : s.vm.findClass (FieldType.array .long).toString = some cJ := (hK.2 1 (cJ, .long) rfl).2
  cases e1.symm.trans k4
  cases k3.symm.trans e2
  obtain ⟨kE, hkE, -⟩ := Vm.findClass_spec k3
  have hkC : s.vm.classes[(vp_cell cJ xv).cls]? = some kE := by rw [g2]; exact hkE
  refine W.aast hx hb (hP q0 _ ha) (fun q h => by cases h) (fun h => by cases h) k1 k2 rfl hkE ⟨h0, by show _ < (arrV _ _ _).slots.size; rw [arrV_size]; exact hlt⟩ g1 (fun q h => by rw [g3] at h; cases h) hkC (by rw [g2]; exact va_asg _ _) rfl rfl hdg fun H1 e z oq => ?_
  have hset : va_at (dC, dI) vwCl (a, .inl (cJJ, n, .inr (.inr (.inr (.inr (tr (L.set i.toNatClampNeg v))))))) H1 := by
    show H1[a]? = some (vp_cell _ _)
    rw [e, ← tr_upd L _ v (by rw [hn]; exact hlt), vp_cell_q, vp_cell_q, arrV_store]
    congr 2
    funext q
    by_cases hq : q = i.toNatClampNeg
    · subst hq
      simp [updV, va_up, va_rf]
    · simp [updV, va_up, hq]
  have hP1 := hP.set hD ha hset oq
  have hD1 := hD.set (e := .inl (cJJ, n, .inr (.inr (.inr (.inr (tr (L.set i.toNatClampNeg v))))))) ha
  rw [hw] at hP1 hD1
  exact kk H1 _ hP1 hD1 (hS.put z oq (hD.2 q0 _ ha))
end V2
def FR (L : List Nat) (a b : Nat → Nat → Int32) : Prop := ∀ P, P ∉ L → b P = a P
def FL (L : List Nat) (a b : Nat → Nat → Int64) : Prop := ∀ P, P ∉ L → b P = a P
theorem FR_refl (L : List Nat) (a : Nat → Nat → Int32) : FR L a a := fun _ _ => rfl
theorem FL_refl (L : List Nat) (a : Nat → Nat → Int64) : FL L a a := fun _ _ => rfl
theorem FR_st {L : List Nat} {a b c : Nat → Nat → Int32} {P : Nat} {x : Nat → Int32} (h : FR L a b) (e : c = va_up b P x) (hp : P ∈ L) : FR L a c := fun Q hQ => by
  rw [e]
  show (if Q = P then x else b Q) = a Q
  rw [if_neg (fun q => hQ (by rw [q]; exact hp))]
  exact h Q hQ
theorem FL_st {L : List Nat} {a b c : Nat → Nat → Int64} {P : Nat} {x : Nat → Int64} (h : FL L a b) (e : c = va_up b P x) (hp : P ∈ L) : FL L a c := fun Q hQ => by
  rw [e]
  show (if Q = P then x else b Q) = a Q
  rw [if_neg (fun q => hQ (by rw [q]; exact hp))]
  exact h Q hQ
theorem FR_tr {L L' : List Nat} {a b c : Nat → Nat → Int32} (h : FR L a b) (h' : FR L' b c) (hs : ∀ P ∈ L', P ∈ L) : FR L a c := fun Q hQ => (h' Q (fun q => hQ (hs Q q))).trans (h Q hQ)
theorem FL_tr {L L' : List Nat} {a b c : Nat → Nat → Int64} (h : FL L a b) (h' : FL L' b c) (hs : ∀ P ∈ L', P ∈ L) : FL L a c := fun Q hQ => (h' Q (fun q => hQ (hs Q q))).trans (h Q hQ)
theorem j_sw2 (x : Int32) : x = 0 ∨ x = 1 ∨ x = 2 ∨ (x.toInt < 0 ∨ 2 < x.toInt) := by
  rcases (show x.toInt = 0 ∨ x.toInt = 1 ∨ x.toInt = 2 ∨ (x.toInt < 0 ∨ 2 < x.toInt) by omega) with h | h | h | h
  · exact (Or.inl (q_eq (b := 0) rfl rfl h))
  · exact Or.inr ((Or.inl (q_eq (b := 1) rfl rfl h)))
  · exact Or.inr (Or.inr ((Or.inl (q_eq (b := 2) rfl rfl h))))
  · exact Or.inr (Or.inr (Or.inr (h)))
theorem j_sw6 (x : Int32) : x = 0 ∨ x = 1 ∨ x = 2 ∨ x = 3 ∨ x = 4 ∨ x = 5 ∨ x = 6 ∨ (x.toInt < 0 ∨ 6 < x.toInt) := by
  rcases (show x.toInt = 0 ∨ x.toInt = 1 ∨ x.toInt = 2 ∨ x.toInt = 3 ∨ x.toInt = 4 ∨ x.toInt = 5 ∨ x.toInt = 6 ∨ (x.toInt < 0 ∨ 6 < x.toInt) by omega) with h | h | h | h | h | h | h | h
  · exact (Or.inl (q_eq (b := 0) rfl rfl h))
  · exact Or.inr ((Or.inl (q_eq (b := 1) rfl rfl h)))
  · exact Or.inr (Or.inr ((Or.inl (q_eq (b := 2) rfl rfl h))))
  · exact Or.inr (Or.inr (Or.inr ((Or.inl (q_eq (b := 3) rfl rfl h)))))
  · exact Or.inr (Or.inr (Or.inr (Or.inr ((Or.inl (q_eq (b := 4) rfl rfl h))))))
  · exact Or.inr (Or.inr (Or.inr (Or.inr (Or.inr ((Or.inl (q_eq (b := 5) rfl rfl h)))))))
  · exact Or.inr (Or.inr (Or.inr (Or.inr (Or.inr (Or.inr ((Or.inl (q_eq (b := 6) rfl rfl h))))))))
  · exact Or.inr (Or.inr (Or.inr (Or.inr (Or.inr (Or.inr (Or.inr (h)))))))
