theorem zlt {j : Nat} (h : (j : Int) < (0 : Int32).toInt) : False := by
  rw [show (0 : Int32).toInt = 0 by decide] at h
  omega
theorem nb_0 (x : Nat) : (0 : Int32).toInt = (nb x (0 : Int32).toInt.toNat : Int) := by rw [show (0 : Int32).toInt = 0 by decide]; rfl
theorem nz_0 (x : Nat) : (0 : Int32).toInt = (nz x (0 : Int32).toInt.toNat : Int) := by rw [show (0 : Int32).toInt = 0 by decide]; rfl
theorem upl_at {al al' : Nat → Nat → Int64} {P : Nat} {n : Int32} {k : Int64} (e : al' = va_up al P (vp_updL (al P) n.toNatClampNeg k)) (j : Nat) : al' P j = if j = n.toInt.toNat then k else al P j := by
  rw [e]
  show (if P = P then vp_updL (al P) n.toNatClampNeg k else al P) j = _
  rw [if_pos rfl]
  rfl
theorem upl_ne {al al' : Nat → Nat → Int64} {P : Nat} {x : Nat → Int64} (e : al' = va_up al P x) {Q : Nat} (h : Q ≠ P) : al' Q = al Q := by
  rw [e]
  show (if Q = P then x else al Q) = al Q
  rw [if_neg h]
theorem up_all {ai ai' : Nat → Nat → Int32} {P : Nat} {n k : Int32} {f : Nat → Int} {m : Int} (h : ∀ j : Nat, (j : Int) < n.toInt → (ai P j).toInt = f j) (e : ai' = va_up ai P (upd (ai P) n.toNatClampNeg k)) (h0 : 0 ≤ n.toInt) (hk : k.toInt = f n.toInt.toNat) (hm : m ≤ n.toInt + 1) : ∀ j : Nat, (j : Int) < m → (ai' P j).toInt = f j := by
  intro j hj
  rw [up_at e]
  by_cases q : j = n.toInt.toNat
  · rw [if_pos q, hk, q]
  · rw [if_neg q]
    exact h j (by omega)
theorem bc_z {x : Int32} (h : x.toInt = 0) : bc x.toInt.toNat = 0 := by rw [h]; rfl
theorem mn_z {ai : Nat → Nat → Int32} {r e f g u v w : Int32} {y : Int64} (q : y = mn ai r e f g u v w) (h : r.toInt = 0) : y.toInt = 1 := by
  rw [q, mn, if_pos (q_eq (b := 0) rfl (by decide +kernel) h)]
  decide
theorem rk_ok {ai : Nat → Nat → Int32} {sz r fm c : Int32} (s0 : 0 ≤ sz.toInt) (s1 : sz.toInt ≤ 4) (r0 : 0 ≤ r.toInt) (r1 : r.toInt ≤ 3) (h0 : ∀ j : Nat, j < 3 → (ai 13 j).toInt = (tk c.toInt.toNat j : Int)) (h1 : mnv ai r ≠ 0) (h2 : (bc c.toInt.toNat : Int) = r.toInt) (c0 : 0 ≤ c.toInt) (h3 : c.toInt < pw2 sz.toInt.toNat) {u : Int32} (hu : u.toInt = sz.toInt) (h4 : fm.toInt = (nz c.toInt.toNat u.toInt.toNat : Int)) (h5 : ∀ j : Nat, (j : Int) < fm.toInt → (ai 15 j).toInt = (fz c.toInt.toNat j : Int)) : RKa ai sz r fm := by
  refine ⟨?_, h1⟩
  have hp : c.toInt.toNat < 2 ^ sz.toInt.toNat := by unfold pw2 at h3; omega
  have := PT_fin sz.toInt.toNat (by omega) c.toInt.toNat hp (by omega)
  rw [hu] at h4
  rw [show bc c.toInt.toNat = r.toInt.toNat by omega, show nz c.toInt.toNat sz.toInt.toNat = fm.toInt.toNat by omega] at this
  refine PT_congr this (by omega) (fun k hk => ?_) (fun j hj => ?_)
  · show (ai 13 k).toInt.toNat = _
    rw [h0 k hk]
    omega
  · show (ai 15 j).toInt.toNat = _
    rw [h5 j (by omega)]
    omega
theorem mn_nz {ai : Nat → Nat → Int32} {r : Int32} {y : Int64} (q : y = mnv ai r) (h : y.toInt ≠ 0) : mnv ai r ≠ 0 := fun e => h (by rw [q, e]; decide)
