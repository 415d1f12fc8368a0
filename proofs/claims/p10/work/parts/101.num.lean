-- numbers of 64 bits
theorem ln_add {x y : Int64} {a b : Int} (hx : x.toInt = a) (hy : y.toInt = b) (h1 : -9223372036854775808 ≤ a + b) (h2 : a + b ≤ 9223372036854775807) : (x + y).toInt = a + b := by
  rw [Int64.toInt_add, hx, hy, Int.bmod_eq_of_le (by omega) (by omega)]
theorem ln_sub {x y : Int64} {a b : Int} (hx : x.toInt = a) (hy : y.toInt = b) (h1 : -9223372036854775808 ≤ a - b) (h2 : a - b ≤ 9223372036854775807) : (x - y).toInt = a - b := by
  rw [Int64.toInt_sub, hx, hy, Int.bmod_eq_of_le (by omega) (by omega)]
theorem mul_iv {a b al ah bl bh lo hi : Int} (h1 : al ≤ a) (h2 : a ≤ ah) (h3 : bl ≤ b) (h4 : b ≤ bh) (l1 : lo ≤ al * bl ∧ lo ≤ al * bh) (l2 : lo ≤ ah * bl ∧ lo ≤ ah * bh) (u1 : al * bl ≤ hi ∧ al * bh ≤ hi) (u2 : ah * bl ≤ hi ∧ ah * bh ≤ hi) : lo ≤ a * b ∧ a * b ≤ hi := by
  have key : ∀ c : Int, (c = al ∨ c = ah) → lo ≤ c * b ∧ c * b ≤ hi := fun c hc => by
    have e1 : lo ≤ c * bl ∧ lo ≤ c * bh ∧ c * bl ≤ hi ∧ c * bh ≤ hi := by rcases hc with rfl | rfl <;> omega
    rcases Int.le_total 0 c with q | q
    · have a1 := Int.mul_le_mul_of_nonneg_left h3 q
      have a2 := Int.mul_le_mul_of_nonneg_left h4 q
      omega
    · have a1 := Int.mul_le_mul_of_nonpos_left q h3
      have a2 := Int.mul_le_mul_of_nonpos_left q h4
      omega
  have k1 := key al (Or.inl rfl)
  have k2 := key ah (Or.inr rfl)
  rcases Int.le_total 0 b with q | q
  · have a1 := Int.mul_le_mul_of_nonneg_right h1 q
    have a2 := Int.mul_le_mul_of_nonneg_right h2 q
    omega
  · have a1 := Int.mul_le_mul_of_nonpos_right h1 q
    have a2 := Int.mul_le_mul_of_nonpos_right h2 q
    omega
theorem ln_mul {x y : Int64} {a b al ah bl bh lo hi : Int} (hx : x.toInt = a) (hy : y.toInt = b) (h1 : al ≤ a) (h2 : a ≤ ah) (h3 : bl ≤ b) (h4 : b ≤ bh) (l1 : lo ≤ al * bl ∧ lo ≤ al * bh) (l2 : lo ≤ ah * bl ∧ lo ≤ ah * bh) (u1 : al * bl ≤ hi ∧ al * bh ≤ hi) (u2 : ah * bl ≤ hi ∧ ah * bh ≤ hi) (hb : -9223372036854775808 ≤ lo ∧ hi ≤ 9223372036854775807) : (x * y).toInt = a * b ∧ lo ≤ (x * y).toInt ∧ (x * y).toInt ≤ hi := by
  have := mul_iv h1 h2 h3 h4 l1 l2 u1 u2
  have e : (x * y).toInt = a * b := by rw [Int64.toInt_mul, hx, hy, Int.bmod_eq_of_le (by omega) (by omega)]
  rw [e]
  exact ⟨rfl, this.1, this.2⟩
theorem ln_i2l {x : Int32} {a : Int} (hx : x.toInt = a) : x.toInt64.toInt = a := by rw [Int32.toInt_toInt64, hx]
theorem ln_l2i {x : Int64} {a : Int} (hx : x.toInt = a) (h1 : -2147483648 ≤ a) (h2 : a ≤ 2147483647) : x.toInt32.toInt = a := by
  rw [Int64.toInt_toInt32, hx, Int.bmod_eq_of_le (by omega) (by omega)]
theorem lc_cases {x y : Int64} {z : Int32} {a b : Int} (e : z = lg_cmp x y) (hx : x.toInt = a) (hy : y.toInt = b) : (z.toInt = 1 ∧ b < a) ∨ (z.toInt = 0 ∧ a = b) ∨ (z.toInt = -1 ∧ a < b) := by
  subst e
  subst hx
  subst hy
  unfold lg_cmp
  by_cases h : x > y
  · rw [if_pos h]
    exact Or.inl ⟨by decide, Int64.lt_iff_toInt_lt.mp h⟩
  · rw [if_neg h]
    by_cases h2 : x = y
    · rw [if_pos h2]
      exact Or.inr (Or.inl ⟨by decide, by rw [h2]⟩)
    · rw [if_neg h2]
      have h3 : ¬ (y.toInt < x.toInt) := fun q => h (Int64.lt_iff_toInt_lt.mpr q)
      have h4 : x.toInt ≠ y.toInt := fun q => h2 (Int64.toInt_inj.mp q)
      exact Or.inr (Or.inr ⟨by decide, by omega⟩)
theorem ln_div {x y : Int64} {a b : Int} (hx : x.toInt = a) (hy : y.toInt = b) (h1 : -9223372036854775807 ≤ a) (h2 : a ≤ 9223372036854775807) : (x / y).toInt = a.tdiv b := by
  rw [Int64.toInt_div, hx, hy]
  have h3 := Int.natAbs_tdiv_le_natAbs a b
  rw [Int.bmod_eq_of_le (by omega) (by omega)]
theorem ln_rem {x y : Int64} {a b : Int} (hx : x.toInt = a) (hy : y.toInt = b) (h1 : -9223372036854775807 ≤ a) (h2 : a ≤ 9223372036854775807) : (x - x / y * y).toInt = a.tmod b := by
  have e := ln_div hx hy h1 h2
  have e2 : a.tdiv b * b + a.tmod b = a := by rw [Int.mul_comm]; exact Int.mul_tdiv_add_tmod a b
  have e3 : (a.tdiv b * b).natAbs ≤ a.natAbs := by
    rw [Int.natAbs_mul, Int.natAbs_tdiv]
    exact Nat.div_mul_le_self _ _
  have e4 : (x / y * y).toInt = a.tdiv b * b := by
    rw [Int64.toInt_mul, e, hy, Int.bmod_eq_of_le (by omega) (by omega)]
  have e5 : (a.tmod b).natAbs ≤ a.natAbs := by
    rw [Int.natAbs_tmod]
    exact Nat.mod_le _ _
  rw [ln_sub hx e4 (by omega) (by omega)]
  omega
theorem up_at {ai ai' : Nat → Nat → Int32} {P : Nat} {n k : Int32} (e : ai' = va_up ai P (upd (ai P) n.toNatClampNeg k)) (j : Nat) : ai' P j = if j = n.toInt.toNat then k else ai P j := by
  rw [e]
  show (if P = P then upd (ai P) n.toNatClampNeg k else ai P) j = _
  rw [if_pos rfl]
  rfl
theorem up_ne {ai ai' : Nat → Nat → Int32} {P : Nat} {x : Nat → Int32} (e : ai' = va_up ai P x) {Q : Nat} (h : Q ≠ P) : ai' Q = ai Q := by
  rw [e]
  show (if Q = P then x else ai Q) = ai Q
  rw [if_neg h]
theorem up_self {ai ai' : Nat → Nat → Int32} {P : Nat} {n k : Int32} (e : ai' = va_up ai P (upd (ai P) n.toNatClampNeg k)) : ai' P = upd (ai P) n.toInt.toNat k := by
  rw [e]
  show (if P = P then upd (ai P) n.toNatClampNeg k else ai P) = _
  rw [if_pos rfl]
  rfl
def gvI (ai : Nat → Nat → Int32) (al : Nat → Nat → Int64) (t : Nat) (i : Int) : Int := if 0 ≤ i ∧ i < (ai 59 t).toInt then (al (54 + t) i.toNat).toInt else 0
theorem gv_in {ai : Nat → Nat → Int32} {al : Nat → Nat → Int64} {t i z : Int32} {y : Int64} (h0 : 0 ≤ i.toInt) (h : i.toInt < z.toInt) (ez : z = ai 59 t.toInt.toNat) (e : y = al (54 + t.toInt.toNat) i.toInt.toNat) : y.toInt = gvI ai al t.toInt.toNat i.toInt := by
  unfold gvI
  rw [← ez, if_pos ⟨h0, h⟩, e]
theorem gv_lo {ai : Nat → Nat → Int32} {al : Nat → Nat → Int64} {t : Nat} {i : Int} (h : i < 0) : gvI ai al t i = 0 := if_neg (by omega)
theorem gv_hi {ai : Nat → Nat → Int32} {al : Nat → Nat → Int64} {t z : Int32} {i : Int} (h : z.toInt ≤ i) (ez : z = ai 59 t.toInt.toNat) : gvI ai al t.toInt.toNat i = 0 := by
  unfold gvI
  rw [← ez, if_neg (by omega)]
theorem gv_fr {L : List Nat} {a b : Nat → Nat → Int32} {al : Nat → Nat → Int64} {t : Nat} {i : Int} (hF : FR L a b) (hd : 59 ∉ L) : gvI b al t i = gvI a al t i := by
  unfold gvI
  rw [hF 59 hd]
theorem gzlt {j : Nat} (h : (j : Int) < (0 : Int32).toInt) : False := by
  rw [show (0 : Int32).toInt = 0 by decide] at h
  omega
theorem gx_u {P : Nat → Prop} {n : Int32} (h0 : 0 ≤ n.toInt) (h : ∀ i : Nat, (i : Int) < n.toInt → P i) (hn : P n.toInt.toNat) {m : Int} (hm : m ≤ n.toInt + 1) : ∀ i : Nat, (i : Int) < m → P i := fun i hi => by
  by_cases q : i = n.toInt.toNat
  · rw [q]; exact hn
  · exact h i (by omega)
theorem gn_add {x y : Int64} {a b : Int} (hx : x.toInt = a) (hy : y.toInt = b) (h1 : -9223372036854775808 ≤ a + b) (h2 : a + b ≤ 9223372036854775807) : (x + y).toInt = a + b := by
  rw [Int64.toInt_add, hx, hy, Int.bmod_eq_of_le (by omega) (by omega)]
