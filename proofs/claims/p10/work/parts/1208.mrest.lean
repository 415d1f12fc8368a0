theorem CIa_t {L : List Nat} {a b : Nat → Nat → Int32} {sz : Int32} {m : Int} (h : CIa a sz m) (hF : FR L a b) (hd : 11 ∉ L ∧ 12 ∉ L) : CIa b sz m := by
  unfold CIa at *
  rw [hF 11 hd.1, hF 12 hd.2]
  exact h
def atv (ai : Nat → Nat → Int32) (i u : Nat) : Int32 := ai 11 (4 * (ai 12 i).toInt.toNat + u)
theorem atv_fr {L : List Nat} {a b : Nat → Nat → Int32} (hF : FR L a b) (hd : 11 ∉ L ∧ 12 ∉ L) : atv b = atv a := by
  funext i u
  unfold atv
  rw [hF 11 hd.1, hF 12 hd.2]
def BKx (ai : Nat → Nat → Int32) (sz : Int32) (m : Int) (i : Nat) (k : Int) : Prop := ∃ q : Nat, k ≤ (q : Int) ∧ (q : Int) < m ∧ ∀ u : Nat, (u : Int) < sz.toInt → (atv ai q u).toInt = -(atv ai i u).toInt
theorem bk_0 {ai : Nat → Nat → Int32} {sz : Int32} {m k : Int} {i : Nat} (h : CIa ai sz m) (hi : (i : Int) < m) (hk : k ≤ 0) : BKx ai sz m i k := by
  obtain ⟨q, hq, e⟩ := h.2.2 i hi
  exact ⟨q, by omega, hq, e⟩
theorem bk_lt {ai : Nat → Nat → Int32} {sz : Int32} {m k : Int} {i : Nat} (h : BKx ai sz m i k) : k < m := by
  obtain ⟨q, h1, h2, _⟩ := h
  omega
theorem neg_eq {a b : Int32} (h : a.toInt = -b.toInt) : a = -b := by
  have h1 := s_any a
  refine Int32.toInt_inj.mp ?_
  rw [Int32.toInt_neg, ← h, Int.bmod_eq_of_le (by omega) (by omega)]
theorem bk_ne {ai : Nat → Nat → Int32} {sz : Int32} {m : Int} {i : Nat} {k u a b z : Int32} (h : BKx ai sz m i k.toInt) (k0 : 0 ≤ k.toInt) (u0 : 0 ≤ u.toInt) (hu : u.toInt < sz.toInt) (ea : a = atv ai k.toInt.toNat u.toInt.toNat) (eb : b = atv ai i u.toInt.toNat) (ez : z = -b) (hne : a.toInt ≠ z.toInt) : BKx ai sz m i (k.toInt + 1) := by
  obtain ⟨q, h1, h2, h3⟩ := h
  refine ⟨q, ?_, h2, h3⟩
  apply Classical.byContradiction
  intro hc
  have e : q = k.toInt.toNat := by omega
  have := h3 u.toInt.toNat (by omega)
  rw [e, ← ea, ← eb] at this
  rw [ez, ← neg_eq this] at hne
  exact hne rfl
-- amount
def lsm (ai : Nat → Nat → Int32) (sz : Int32) : Int := sm sz.toInt.toNat (fun u => ((ai 19 u).toInt.natAbs : Int))
theorem sm_upd {g h : Nat → Int} {d : Int} {k : Nat} : ∀ n : Nat, k < n → (∀ j, j < n → j ≠ k → h j = g j) → h k = g k - d → sm n h = sm n g - d := by
  intro n
  induction n with
  | zero => intro hk; omega
  | succ n ih =>
    intro hk h1 h2
    show sm n h + h n = sm n g + g n - d
    by_cases q : k = n
    · rw [sm_congr (fun j hj => h1 j (by omega) (by omega)), ← q, h2]
      omega
    · rw [ih (by omega) (fun j hj hne => h1 j (by omega) hne) h2, h1 n (by omega) (by omega)]
      omega
theorem sm_nn {g : Nat → Int} (h : ∀ j, 0 ≤ g j) : ∀ n : Nat, 0 ≤ sm n g := by
  intro n
  induction n with
  | zero => exact Int.le_refl _
  | succ n ih =>
    have := h n
    show 0 ≤ sm n g + g n
    omega
theorem lsm_nn (ai : Nat → Nat → Int32) (sz : Int32) : 0 ≤ lsm ai sz := sm_nn (fun j => by omega) _
theorem sub_fit {l a z : Int32} (e : z = l - a) (h : fitc a.toInt l.toInt) : z.toInt = l.toInt - a.toInt ∧ (z.toInt.natAbs : Int) = (l.toInt.natAbs : Int) - (a.toInt.natAbs : Int) := by
  have h1 := s_any l
  have h2 := s_any a
  unfold fitc at h
  have e1 : z.toInt = l.toInt - a.toInt := by
    rw [e, Int32.toInt_sub, Int.bmod_eq_of_le (by omega) (by omega)]
  exact ⟨e1, by omega⟩
theorem lsm_st {ai ai' : Nat → Nat → Int32} {sz n w l a : Int32} (e : ai' = va_up ai 19 (upd (ai 19) n.toNatClampNeg w)) (n0 : 0 ≤ n.toInt) (hn : n.toInt < sz.toInt) (hl : l = ai 19 n.toInt.toNat) (hw : w = l - a) (h : fitc a.toInt l.toInt) : lsm ai' sz = lsm ai sz - (a.toInt.natAbs : Int) := by
  refine sm_upd (k := n.toInt.toNat) _ (by omega) (fun j hj hne => ?_) ?_
  · show ((ai' 19 j).toInt.natAbs : Int) = ((ai 19 j).toInt.natAbs : Int)
    rw [up_at e, if_neg hne]
  · show ((ai' 19 n.toInt.toNat).toInt.natAbs : Int) = ((ai 19 n.toInt.toNat).toInt.natAbs : Int) - _
    rw [up_at e, if_pos rfl, ← hl]
    exact (sub_fit hw h).2
def AMf (ai : Nat → Nat → Int32) (sz : Int32) (k : Nat) (u0 : Int) : Prop := ∀ u : Nat, u0 ≤ (u : Int) → (u : Int) < sz.toInt → fitc (atv ai k u).toInt (ai 19 u).toInt
def AMs (ai : Nat → Nat → Int32) (sz : Int32) (k : Nat) (u0 : Int) (n : Int) : Prop := lsm ai sz < n ∨ (lsm ai sz ≤ n ∧ ∃ u : Nat, u0 ≤ (u : Int) ∧ (u : Int) < sz.toInt ∧ (atv ai k u).toInt ≠ 0)
theorem AMf_st {ai ai' : Nat → Nat → Int32} {sz n w : Int32} {k : Nat} {n1 : Int} (h : AMf ai sz k n.toInt) (n0 : 0 ≤ n.toInt) (e : ai' = va_up ai 19 (upd (ai 19) n.toNatClampNeg w)) (h1 : n1 = n.toInt + 1) : AMf ai' sz k n1 := fun u a1 a2 => by
  rw [atv_fr (FRu e) (by decide), up_at e, if_neg (by omega)]
  exact h u (by omega) a2
theorem AMs_st {ai ai' : Nat → Nat → Int32} {sz n w a : Int32} {k : Nat} {n1 N : Int} (h : AMs ai sz k n.toInt N) (n0 : 0 ≤ n.toInt) (e : ai' = va_up ai 19 (upd (ai 19) n.toNatClampNeg w)) (ea : a = atv ai k n.toInt.toNat) (hq : lsm ai' sz = lsm ai sz - (a.toInt.natAbs : Int)) (h1 : n1 = n.toInt + 1) : AMs ai' sz k n1 N := by
  unfold AMs
  rw [atv_fr (FRu e) (by decide)]
  rcases h with h | ⟨h, u, u1, u2, u3⟩
  · exact Or.inl (by omega)
  · by_cases q : u = n.toInt.toNat
    · rw [q, ← ea] at u3
      exact Or.inl (by omega)
    · exact Or.inr ⟨by omega, u, by omega, u2, u3⟩
theorem AMs_0 {ai : Nat → Nat → Int32} {sz : Int32} {m : Int} {k : Nat} {u0 N : Int} (h : CIa ai sz m) (hk : (k : Int) < m) (hu : u0 ≤ 0) (hN : lsm ai sz ≤ N) : AMs ai sz k u0 N := by
  obtain ⟨u, u1, u2⟩ := h.2.1 k hk
  exact Or.inr ⟨hN, u, by omega, u1, u2⟩
theorem AMs_end {ai : Nat → Nat → Int32} {sz : Int32} {k : Nat} {u0 N : Int} (h : AMs ai sz k u0 N) (hu : sz.toInt ≤ u0) : lsm ai sz < N := by
  rcases h with h | ⟨_, u, u1, u2, _⟩
  · exact h
  · omega
theorem AMs_le {ai : Nat → Nat → Int32} {sz : Int32} {k : Nat} {u0 N : Int} (h : AMs ai sz k u0 N) : lsm ai sz ≤ N := by
  rcases h with h | ⟨h, _⟩
  · omega
  · exact h
-- costs
def csF (ai : Nat → Nat → Int32) (x : Nat → Int32) : Nat → Int64
  | 0 => 0
  | n + 1 => csF ai x n + ((ai 25 n).toInt64 * (x n).toInt64 + (ai 26 n).toInt64 * (x n).toInt64 * (x n).toInt64)
theorem csF_congr {a b : Nat → Nat → Int32} {x y : Nat → Int32} (h25 : a 25 = b 25) (h26 : a 26 = b 26) : ∀ n : Nat, (∀ u, u < n → x u = y u) → csF a x n = csF b y n := by
  intro n
  induction n with
  | zero => intro _; rfl
  | succ n ih =>
    intro h
    show csF a x n + ((a 25 n).toInt64 * (x n).toInt64 + (a 26 n).toInt64 * (x n).toInt64 * (x n).toInt64) = csF b y n + ((b 25 n).toInt64 * (y n).toInt64 + (b 26 n).toInt64 * (y n).toInt64 * (y n).toInt64)
    rw [ih (fun u hu => h u (by omega)), h25, h26, h n (by omega)]
def hvv (ai0 ai : Nat → Nat → Int32) (i : Nat) (t : Int32) (u : Nat) : Int32 := ai0 27 u + t * atv ai i u
theorem i64_lo (x : Int64) : -9223372036854775808 ≤ x.toInt := Int64.le_toInt x
-- plans
def pw21 : Nat → Int
  | 0 => 1
  | n + 1 => 21 * pw21 n
theorem pw21_pos (n : Nat) : 1 ≤ pw21 n := by
  induction n with
  | zero => exact Int.le_refl _
  | succ n ih => show 1 ≤ 21 * pw21 n; omega
theorem pw21_s {m k : Nat} (h : k < m) : pw21 (m - k) = 21 * pw21 (m - (k + 1)) := by
  rw [show m - k = (m - (k + 1)) + 1 by omega]
  rfl
theorem pw21_le {m : Nat} (h : m ≤ 4) : pw21 (m - 0) ≤ 194481 := by
  rcases (show m = 0 ∨ m = 1 ∨ m = 2 ∨ m = 3 ∨ m = 4 by omega) with rfl | rfl | rfl | rfl | rfl <;> decide
theorem pw_00 {F0 x b : Int} {p : Int} (hx : 0 ≤ x + b) (hp : 0 ≤ p) : F0 ≤ F0 ∧ F0 ≤ F0 + (x + b) * p := by
  have := Int.mul_nonneg hx hp
  omega
theorem pw_e2 {F0 F x b : Int} {p : Int} (h1 : F0 ≤ F ∧ F ≤ F0 + (x + b) * p) (hx : x ≤ b + 1) (hp : 0 ≤ p) : F0 ≤ F ∧ F ≤ F0 + (2 * b + 1) * p := by
  have : (x + b) * p ≤ (2 * b + 1) * p := Int.mul_le_mul_of_nonneg_right (by omega) hp
  omega
-- laying
def LY (ai : Nat → Nat → Int32) (al : Nat → Nat → Int64) (t p : Int32) (u : Nat) : Int := if p.toInt + u < (ai 4 t.toInt.toNat).toInt then (al 5 (20 * t.toInt.toNat + p.toInt.toNat + u)).toInt else 0
theorem LY_in {ai : Nat → Nat → Int32} {al : Nat → Nat → Int64} {t p : Int32} {u : Nat} (h : p.toInt + u < (ai 4 t.toInt.toNat).toInt) : LY ai al t p u = (al 5 (20 * t.toInt.toNat + p.toInt.toNat + u)).toInt := if_pos h
theorem LY_out {ai : Nat → Nat → Int32} {al : Nat → Nat → Int64} {t p : Int32} {u : Nat} (h : (ai 4 t.toInt.toNat).toInt ≤ p.toInt + u) : LY ai al t p u = 0 := if_neg (by omega)
theorem LY_up {ai ai' : Nat → Nat → Int32} {al : Nat → Nat → Int64} {t p : Int32} {u P : Nat} {x : Nat → Int32} (e : ai' = va_up ai P x) (h : 4 ≠ P) : LY ai' al t p u = LY ai al t p u := by
  unfold LY
  rw [up_ne e h]
theorem ly_u {P : Nat → Prop} {n : Int32} (h0 : 0 ≤ n.toInt) (h : ∀ u : Nat, (u : Int) < n.toInt → P u) (hn : P n.toInt.toNat) : ∀ u : Nat, (u : Int) < n.toInt + 1 → P u := lo_no h0 h hn (Int.le_refl _)
theorem co_stp {ai : Nat → Nat → Int32} {P : Nat} {n z p x1 x2 x3 b : Int32} {j j' : Int64} (h : j = csF ai (ai P) n.toInt.toNat) (h0 : 0 ≤ n.toInt) (hz : z.toInt = n.toInt + 1) (ep : p = ai 25 n.toInt.toNat) (e1 : x1 = ai P n.toInt.toNat) (e2 : x2 = ai P n.toInt.toNat) (e3 : x3 = ai P n.toInt.toNat) (eb : b = ai 26 n.toInt.toNat) (e : j' = j + (p.toInt64 * x1.toInt64 + b.toInt64 * x2.toInt64 * x3.toInt64)) : j' = csF ai (ai P) z.toInt.toNat := by
  rw [show z.toInt.toNat = n.toInt.toNat + 1 by omega, e, ep, e1, e2, e3, eb, h]
  rfl
theorem hvv_up {ai ai' ai0 : Nat → Nat → Int32} {P : Nat} {x : Nat → Int32} (e : ai' = va_up ai P x) (hP : 11 ≠ P ∧ 12 ≠ P) (i : Nat) (t : Int32) : hvv ai0 ai' i t = hvv ai0 ai i t := by
  funext u
  unfold hvv atv
  rw [up_ne e hP.1, up_ne e hP.2]
theorem bt_up2 {ai ai' ai0 : Nat → Nat → Int32} {P i n : Nat} {t : Int32} {j : Int64} {x : Nat → Int32} (h : j = csF ai (hvv ai0 ai i t) n) (e : ai' = va_up ai P x) (hP : (11 ≠ P ∧ 12 ≠ P) ∧ 25 ≠ P ∧ 26 ≠ P := by decide) : j = csF ai' (hvv ai0 ai' i t) n := by
  rw [hvv_up e hP.1, h]
  exact csF_congr (up_ne e hP.2.1).symm (up_ne e hP.2.2).symm _ (fun _ _ => rfl)
theorem bt_up {ai ai' ai0 : Nat → Nat → Int32} {n : Nat} {l t : Int32} {j : Int64} {C : Int} {x : Nat → Int32} (h : l.toInt = -99999 ∨ (0 ≤ l.toInt ∧ l.toInt ≤ 5999 ∧ j.toInt < C ∧ j = csF ai (hvv ai0 ai l.toInt.toNat t) n)) (e : ai' = va_up ai 20 x) : l.toInt = -99999 ∨ (0 ≤ l.toInt ∧ l.toInt ≤ 5999 ∧ j.toInt < C ∧ j = csF ai' (hvv ai0 ai' l.toInt.toNat t) n) := h.imp (fun q => q) (fun q => ⟨q.1, q.2.1, q.2.2.1, bt_up2 q.2.2.2 e⟩)
theorem bt_tr {ai ai' ai0 : Nat → Nat → Int32} {i : Nat} {t n v : Int32} {m : Int} (h : ∀ u : Nat, (u : Int) < n.toInt → ai 20 u = hvv ai0 ai i t u) (e : ai' = va_up ai 20 (upd (ai 20) n.toNatClampNeg v)) (h0 : 0 ≤ n.toInt) (hv : v = hvv ai0 ai i t n.toInt.toNat) (hm : m ≤ n.toInt + 1) : ∀ u : Nat, (u : Int) < m → ai' 20 u = hvv ai0 ai' i t u := fun u hu => by
  rw [hvv_up e (by decide), up_at e]
  by_cases q : u = n.toInt.toNat
  · rw [if_pos q, hv, q]
  · rw [if_neg q]
    exact h u (by omega)
theorem bt_h {ai ai' ai0 : Nat → Nat → Int32} {i : Nat} {t n v : Int32} {m : Int} (h : ∀ u : Nat, (u : Int) < n.toInt → ai 27 u = hvv ai0 ai i t u) (e : ai' = va_up ai 27 (upd (ai 27) n.toNatClampNeg v)) (h0 : 0 ≤ n.toInt) (hv : v = hvv ai0 ai i t n.toInt.toNat) (hm : m ≤ n.toInt + 1) : ∀ u : Nat, (u : Int) < m → ai' 27 u = hvv ai0 ai' i t u := fun u hu => by
  rw [hvv_up e (by decide), up_at e]
  by_cases q : u = n.toInt.toNat
  · rw [if_pos q, hv, q]
  · rw [if_neg q]
    exact h u (by omega)
theorem bt_new {ai ai0 : Nat → Nat → Int32} {i : Nat} {t sz : Int32} {m : Int} {r : Int64} (h : ∀ u : Nat, (u : Int) < m → ai 20 u = hvv ai0 ai i t u) (hm : sz.toInt ≤ m) (e : r = csF ai (ai 20) sz.toInt.toNat) : r = csF ai (hvv ai0 ai i t) sz.toInt.toNat := by
  rw [e]
  exact csF_congr rfl rfl _ (fun u hu => h u (by omega))
