section SXC
variable {p : Program} {l : Launch} {e : Env} {R : Room} {s : State} {m : MethodId} {args : Array Value} {below : List Frame} {meth : Method} {c : Code} {H : Heap} {locs : List Loc} {cells slots : Nat} {Q : State → Prop}
variable {cc : ByteArray} {pc : Nat} {ls : Array Slot} {rest : List Value} {dC : Nat → ClassId} {dI : Nat → Nat → Nat} {A : Nat → Prop} {a : Nat} {ws W' : va_W} {cI cJ cII cJJ : ClassId} {H0 : Heap}
theorem cp_i (hx : p.tables.exec = Jvm.exec) (hb : c.code = cc) (hml : c.maxLocals = ls.size) {own : String} {index : Nat} (hown : s.vm.findClass own = some m.cls) (hlink : (Cond.methodLink own index arraycopyName).before args s = true) (hnat : (Cond.native arraycopyName).before args s = true) (hstat : (Cond.static arraycopyName).before args s = true) (hini : (Cond.initialized "java/lang/System").before args s = true) (hK : va_K (dC, dI) vwCl (TY cI cJ cII cJJ) s) (hP : va_P (dC, dI) vwCl ws H) (hD : va_D A ws) (hS : va_S A H0 H locs) (q0 q1 : Nat) {a0 n0 n1 : Nat} {f g L' : List Int32} (ha0 : ws[q0]? = some (a0, .inl (cI, n0, .inl (tb f)))) (ha1 : ws[q1]? = some (a, .inl (cI, n1, .inl (tb g)))) {sp dp n : Int32} (h1 : ¬ sp < 0) (h2 : ¬ dp < 0) (h3 : ¬ n < 0) (h4 : sp.toNatClampNeg + n.toNatClampNeg ≤ n0) (h5 : dp.toNatClampNeg + n.toNatClampNeg ≤ n1) (hframes : 1 ≤ R.frames) (hlocals : (rest.map fun v => v.category).sum + (nativeFrameWords "java/lang/System" "arraycopy" 5 + 11) ≤ R.locals) (hdg : decode cc pc = .ok (.invokestatic index, 3)) (hl : cpl f g sp.toNatClampNeg dp.toNatClampNeg n.toNatClampNeg = L') (hw : ws.set q1 (a, .inl (cI, n1, .inl (tb L'))) = W') (kk : ∀ (H1 : Heap) (locs1 : List Loc), va_P (dC, dI) vwCl W' H1 → va_D A W' → va_S A H0 H1 locs1 → W p l e R s m args below meth c H1 locs1 cells slots Q (F0 m (pc + 3) ls rest)) : W p l e R s m args below meth c H locs cells slots Q (F0 m pc ls (.int n :: .int dp :: .ref a :: .int sp :: .ref a0 :: rest)) := by
  refine va_copyi (ty := .int) hx hb hml hown hlink hnat hstat hini hK hP hD hS q0 q1 0 0 ha0 ha1 rfl rfl rfl h1 h2 h3 h4 h5 (fun i _ => rfl) hframes hlocals hdg (fun H1 locs1 g1 g2 g3 => ?_)
  rw [tb_cpy, hl, hw] at g1 g2
  exact kk H1 locs1 g1 g2 g3
end SXC
theorem p_lt {x y : Int32} (h : x.toInt < y.toInt) : x < y := Int32.lt_iff_toInt_lt.mpr h
theorem p_nlt {x y : Int32} (h : y.toInt ≤ x.toInt) : ¬ x < y := fun q => by have := Int32.lt_iff_toInt_lt.mp q; omega
theorem p_le {x y : Int32} (h : x.toInt ≤ y.toInt) : x ≤ y := Int32.le_iff_toInt_le.mpr h
theorem p_nle {x y : Int32} (h : y.toInt < x.toInt) : ¬ x ≤ y := fun q => by have := Int32.le_iff_toInt_le.mp q; omega
theorem p_ne {x y : Int32} (h : x.toInt ≠ y.toInt) : ¬ x = y := fun q => h (by rw [q])
theorem p_clt {x y : Int64} (h : x.toInt < y.toInt) : lg_cmp x y = -1 := by
  unfold lg_cmp
  have h1 : ¬ x > y := fun q => by have := Int64.lt_iff_toInt_lt.mp q; omega
  have h2 : ¬ x = y := fun q => by rw [q] at h; omega
  rw [if_neg h1, if_neg h2]
theorem p_cgt {x y : Int64} (h : y.toInt < x.toInt) : lg_cmp x y = 1 := by
  unfold lg_cmp
  have h1 : x > y := Int64.lt_iff_toInt_lt.mpr h
  rw [if_pos h1]
theorem s_any (x : Int32) : -2147483648 ≤ x.toInt ∧ x.toInt ≤ 2147483647 := by
  have h1 := Int32.le_toInt x
  have h2 := Int32.toInt_lt x
  omega
theorem s_i2l {x : Int32} {z : Int64} {a b : Int} (e : z = x.toInt64) (h : a ≤ x.toInt ∧ x.toInt ≤ b) : a ≤ z.toInt ∧ z.toInt ≤ b := by
  rw [e, Int32.toInt_toInt64]
  exact h
theorem s_lit32 (x : Int32) {a : Int} (h : x.toInt = a) : a ≤ x.toInt ∧ x.toInt ≤ a := by omega
theorem s_lit64 (x : Int64) {a : Int} (h : x.toInt = a) : a ≤ x.toInt ∧ x.toInt ≤ a := by omega
theorem s_add0 (x : Int32) : 0 + x = x := by simp
theorem s_0add (x : Int32) : x + 0 = x := by simp
theorem s_ladd0 (x : Int64) : 0 + x = x := by simp
theorem s_l0add (x : Int64) : x + 0 = x := by simp
theorem s_sub0 (x : Int32) : x - 0 = x := by simp
theorem s_0mul32 (x : Int32) : 0 * x = 0 := by simp
theorem s_mul032 (x : Int32) : x * 0 = 0 := by simp
theorem s_mul132 (x : Int32) : x * 1 = x := by simp
theorem s_1mul32 (x : Int32) : 1 * x = x := by simp
theorem s_0mul64 (x : Int64) : 0 * x = 0 := by simp
theorem s_mul064 (x : Int64) : x * 0 = 0 := by simp
theorem s_mul164 (x : Int64) : x * 1 = x := by simp
theorem s_1mul64 (x : Int64) : 1 * x = x := by simp
theorem s_div1 (x : Int32) : x / 1 = x := by
  apply Int32.toInt_inj.mp
  rw [Int32.toInt_div, show (1 : Int32).toInt = 1 from rfl, Int.tdiv_one, Int.bmod_eq_of_le]
  · have := (s_any x).1; omega
  · have := (s_any x).2; omega
theorem s_nat {x : Int32} {a b : Int} (h : a ≤ x.toInt ∧ x.toInt ≤ b) (ha : 0 ≤ a) : ∃ j : Nat, (j : Int) ≤ b ∧ j < 2 ^ 31 ∧ x = nI j := by
  obtain ⟨j, hj, e⟩ := nI_of (x := x) (p_nlt (by rw [show (0 : Int32).toInt = 0 from rfl]; omega))
  refine ⟨j, ?_, hj, e⟩
  rw [e, nI_toInt hj] at h
  exact h.2
theorem s_div {x y : Int32} {a b : Int} (h : a ≤ x.toInt ∧ x.toInt ≤ b) (ha : 0 ≤ a) (h0 : 0 < y.toInt) (hb : b < y.toInt) : x / y = 0 := by
  obtain ⟨j, h1, h2, rfl⟩ := s_nat h ha
  obtain ⟨k, h3, h4, rfl⟩ := s_nat (x := y) (a := 0) (b := 2147483647) ⟨by omega, (s_any y).2⟩ (by omega)
  rw [nI_toInt h4] at h0 hb
  rw [pk_div h2 (by omega) h4, Nat.div_eq_of_lt (by omega)]
  rfl
theorem s_rem {x y : Int32} {a b : Int} (h : a ≤ x.toInt ∧ x.toInt ≤ b) (ha : 0 ≤ a) (h0 : 0 < y.toInt) (hb : b < y.toInt) : x - x / y * y = x := by
  rw [s_div h ha h0 hb]
  simp
theorem s_sub32 {x y : Int32} {a b c d : Int} (hx : a ≤ x.toInt ∧ x.toInt ≤ b) (hy : c ≤ y.toInt ∧ y.toInt ≤ d) (h1 : -2147483648 ≤ a - d) (h2 : b - c ≤ 2147483647) : a - d ≤ (x - y).toInt ∧ (x - y).toInt ≤ b - c := by
  rw [Int32.toInt_sub, Int.bmod_eq_of_le (by omega) (by omega)]
  omega
theorem s_addr32 {x y : Int32} {a b c d : Int} (hx : a ≤ x.toInt ∧ x.toInt ≤ b) (hy : c ≤ y.toInt ∧ y.toInt ≤ d) (h1 : -2147483648 ≤ a + c) (h2 : b + d ≤ 2147483647) : a + c ≤ (x + y).toInt ∧ (x + y).toInt ≤ b + d := by
  rw [Int32.toInt_add, Int.bmod_eq_of_le (by omega) (by omega)]
  omega
theorem s_addr64 {x y : Int64} {a b c d : Int} (hx : a ≤ x.toInt ∧ x.toInt ≤ b) (hy : c ≤ y.toInt ∧ y.toInt ≤ d) (h1 : -9223372036854775808 ≤ a + c) (h2 : b + d ≤ 9223372036854775807) : a + c ≤ (x + y).toInt ∧ (x + y).toInt ≤ b + d := by
  rw [Int64.toInt_add, Int.bmod_eq_of_le (by omega) (by omega)]
  omega
theorem s_mulm164 {x : Int64} {a b : Int} (hx : a ≤ x.toInt ∧ x.toInt ≤ b) (h1 : -9223372036854775807 ≤ a) (h2 : b ≤ 9223372036854775807) : -b ≤ (x * (-1)).toInt ∧ (x * (-1)).toInt ≤ -a := by
  rw [Int64.toInt_mul, show (-1 : Int64).toInt = -1 from rfl, Int.bmod_eq_of_le (by omega) (by omega)]
  omega
theorem s_m1mul64 {x : Int64} {a b : Int} (hx : a ≤ x.toInt ∧ x.toInt ≤ b) (h1 : -9223372036854775807 ≤ a) (h2 : b ≤ 9223372036854775807) : -b ≤ ((-1) * x).toInt ∧ ((-1) * x).toInt ≤ -a := by
  rw [Int64.toInt_mul, show (-1 : Int64).toInt = -1 from rfl, Int.bmod_eq_of_le (by omega) (by omega)]
  omega
theorem s_cmul32 {k : Int} {y x : Int32} {a b : Int} (hx : a ≤ x.toInt ∧ x.toInt ≤ b) (hk : y.toInt = k) (h0 : 0 < k) (hb : -2147483648 ≤ k * a ∧ k * b ≤ 2147483647) : k * a ≤ (y * x).toInt ∧ (y * x).toInt ≤ k * b := by
  have e1 : k * a ≤ k * x.toInt := Int.mul_le_mul_of_nonneg_left hx.1 (by omega)
  have e2 : k * x.toInt ≤ k * b := Int.mul_le_mul_of_nonneg_left hx.2 (by omega)
  rw [Int32.toInt_mul, hk, Int.bmod_eq_of_le (by omega) (by omega)]
  omega
theorem s_divm1 {x z : Int32} {a b : Int} (e : z = 0 - x) (h : a ≤ x.toInt ∧ x.toInt ≤ b) (h1 : -2147483647 ≤ a) (h2 : b ≤ 2147483647) : z / (-1) = x := by
  apply Int32.toInt_inj.mp
  have e2 : z.toInt = -x.toInt := by
    rw [e, Int32.toInt_sub, show (0 : Int32).toInt = 0 from rfl, Int.bmod_eq_of_le (by omega) (by omega)]
    omega
  rw [Int32.toInt_div, show (-1 : Int32).toInt = -1 from rfl, e2, Int.tdiv_neg, Int.tdiv_one, Int.neg_neg, Int.bmod_eq_of_le (by omega) (by omega)]
theorem s_vin {i : Int32} {n : Nat} {a b : Int} (h : a ≤ i.toInt ∧ i.toInt ≤ b) (ha : 0 ≤ a) (hb : b < n) : vp_in i n := vp_in_iff.mpr ⟨by omega, by omega⟩
theorem p_cge {x y : Int64} (h : y.toInt ≤ x.toInt) : 0 ≤ (lg_cmp x y).toInt ∧ (lg_cmp x y).toInt ≤ 1 := by
  unfold lg_cmp
  by_cases h1 : x > y
  · rw [if_pos h1]
    decide
  · rw [if_neg h1]
    by_cases h2 : x = y
    · rw [if_pos h2]
      decide
    · exfalso
      have h3 : ¬ y.toInt < x.toInt := fun q => h1 (Int64.lt_iff_toInt_lt.mpr q)
      exact h2 (Int64.toInt_inj.mp (by omega))
theorem p_cle {x y : Int64} (h : x.toInt ≤ y.toInt) : -1 ≤ (lg_cmp x y).toInt ∧ (lg_cmp x y).toInt ≤ 0 := by
  unfold lg_cmp
  by_cases h1 : x > y
  · exfalso
    have := Int64.lt_iff_toInt_lt.mp h1
    omega
  · rw [if_neg h1]
    by_cases h2 : x = y
    · rw [if_pos h2]
      decide
    · rw [if_neg h2]
      decide
