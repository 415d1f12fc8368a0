theorem pg_le : ∀ (m n : Nat) (f : Nat → Nat), (∀ i, i < n → f i < m) → (∀ i j, i < n → j < n → f i = f j → i = j) → n ≤ m := by
  intro m
  induction m with
  | zero =>
    intro n f h _
    rcases Nat.eq_zero_or_pos n with q | q
    · omega
    · have := h 0 q
      omega
  | succ m ih =>
    intro n f h hi
    rcases Nat.eq_zero_or_pos n with q | q
    · omega
    · have key : n - 1 ≤ m := by
        refine ih (n - 1) (fun i => if f i = m then f (n - 1) else f i) ?_ ?_
        · intro i hi1
          show (if f i = m then f (n - 1) else f i) < m
          have a1 := h i (by omega)
          have a2 := h (n - 1) (by omega)
          by_cases e : f i = m
          · rw [if_pos e]
            have : f (n - 1) ≠ m := fun q2 => by
              have := hi i (n - 1) (by omega) (by omega) (by omega)
              omega
            omega
          · rw [if_neg e]
            omega
        · intro i j h1 h2 e
          have e : (if f i = m then f (n - 1) else f i) = (if f j = m then f (n - 1) else f j) := e
          by_cases ei : f i = m
          · by_cases ej : f j = m
            · exact hi i j (by omega) (by omega) (by omega)
            · rw [if_pos ei, if_neg ej] at e
              have := hi (n - 1) j (by omega) (by omega) e
              omega
          · by_cases ej : f j = m
            · rw [if_neg ei, if_pos ej] at e
              have := hi i (n - 1) (by omega) (by omega) e
              omega
            · rw [if_neg ei, if_neg ej] at e
              exact hi i j (by omega) (by omega) e
      omega
theorem pg_two (m n : Nat) (f : Nat → Nat) (h : ∀ i, i < n → f i < m) (hn : m < n) : ∃ i j, i < j ∧ j < n ∧ f i = f j := by
  apply Classical.byContradiction
  intro hc
  have := pg_le m n f h (fun i j hi hj e => by
    rcases Nat.lt_trichotomy i j with q | q | q
    · exact absurd ⟨i, j, q, hj, e⟩ hc
    · exact q
    · exact absurd ⟨j, i, q, hi, e.symm⟩ hc)
  omega
def Fit (v w : Nat → Int) : Prop := ∀ u, u < 4 → (0 < v u → v u ≤ w u) ∧ (v u < 0 → w u ≤ v u)
def nm (v : Nat → Int) : Nat := (v 0).natAbs + (v 1).natAbs + (v 2).natAbs + (v 3).natAbs
theorem fit_refl (v : Nat → Int) : Fit v v := fun u _ => ⟨fun _ => Int.le_refl _, fun _ => Int.le_refl _⟩
theorem fit_tr {v w x : Nat → Int} (h1 : Fit v w) (h2 : Fit w x) : Fit v x := fun u hu => by
  have a := h1 u hu
  have b := h2 u hu
  omega
theorem u4 {u : Nat} (h : u < 4) : u = 0 ∨ u = 1 ∨ u = 2 ∨ u = 3 := by omega
theorem fit_c {v w : Int} (h : (0 < v → v ≤ w) ∧ (v < 0 → w ≤ v)) : v.natAbs ≤ w.natAbs ∧ (v.natAbs = w.natAbs → v = w) := by omega
theorem fit_nm {v w : Nat → Int} (h : Fit v w) : nm v ≤ nm w := by
  have h0 := (fit_c (h 0 (by omega))).1
  have h1 := (fit_c (h 1 (by omega))).1
  have h2 := (fit_c (h 2 (by omega))).1
  have h3 := (fit_c (h 3 (by omega))).1
  unfold nm
  omega
theorem fit_eq {v w : Nat → Int} (h : Fit v w) (e : nm v = nm w) : ∀ u, u < 4 → v u = w u := by
  obtain ⟨h0, k0⟩ := fit_c (h 0 (by omega))
  obtain ⟨h1, k1⟩ := fit_c (h 1 (by omega))
  obtain ⟨h2, k2⟩ := fit_c (h 2 (by omega))
  obtain ⟨h3, k3⟩ := fit_c (h 3 (by omega))
  unfold nm at e
  intro u hu
  rcases u4 hu with rfl | rfl | rfl | rfl
  · exact k0 (by clear k0 k1 k2 k3; omega)
  · exact k1 (by clear k0 k1 k2 k3; omega)
  · exact k2 (by clear k0 k1 k2 k3; omega)
  · exact k3 (by clear k0 k1 k2 k3; omega)
theorem fit_neg {v w : Nat → Int} (h : Fit v (fun u => -w u)) : Fit (fun u => -v u) w := fun u hu => by
  have a := h u hu
  show (0 < -v u → -v u ≤ w u) ∧ (-v u < 0 → w u ≤ -v u)
  have b : (0 < v u → v u ≤ -w u) ∧ (v u < 0 → -w u ≤ v u) := a
  omega
def s4 (a v : Nat → Int) : Int := a 0 * v 0 + a 1 * v 1 + a 2 * v 2 + a 3 * v 3
theorem pr_sg (w d : Int) : (d = 0 → w * d = 0) ∧ (0 ≤ w → 0 ≤ d → 0 ≤ w * d) ∧ (w < 0 → 0 < d → w * d < 0) := by
  refine ⟨fun h => by rw [h, Int.mul_zero], fun h1 h2 => Int.mul_nonneg h1 h2, fun h1 h2 => Int.mul_neg_of_neg_of_pos h1 h2⟩
theorem szc1 {S w d : Int} (hS : 0 < S) (h6 : S ≤ 6) (hd : 0 ≤ d) (hw : -6 ≤ w ∧ w ≤ 6) (hc : ¬ (0 < d ∧ -5 ≤ S + w ∧ S + w ≤ 6)) : 0 ≤ w * d := by
  by_cases q : d = 0
  · rw [q, Int.mul_zero]
    exact Int.le_refl _
  · exact Int.mul_nonneg (by omega) hd
theorem szc2 {S w d : Int} (hS : S ≤ 0) (h6 : -5 ≤ S) (hd : 0 ≤ d) (hw : -6 ≤ w ∧ w ≤ 6) (hc : ¬ (0 < d ∧ -5 ≤ S + w ∧ S + w ≤ 6)) : w * d ≤ 0 ∧ (w * d = 0 → d = 0) := by
  by_cases q : d = 0
  · rw [q, Int.mul_zero]
    exact ⟨Int.le_refl _, fun _ => rfl⟩
  · have := Int.mul_neg_of_neg_of_pos (a := w) (b := d) (by omega) (by omega)
    exact ⟨by omega, fun h => by omega⟩
theorem sz_step {w m p : Nat → Int} (hw : ∀ u, u < 4 → -6 ≤ w u ∧ w u ≤ 6) (hp : ∀ u, u < 4 → 0 ≤ p u ∧ p u ≤ m u) (hm : s4 w m = 0) (hl : -5 ≤ s4 w p) (hl2 : s4 w p ≤ 6) (hs : p 0 + p 1 + p 2 + p 3 < m 0 + m 1 + m 2 + m 3) : ∃ c, c < 4 ∧ p c < m c ∧ -5 ≤ s4 w p + w c ∧ s4 w p + w c ≤ 6 := by
  have e : ∀ u, w u * m u = w u * p u + w u * (m u - p u) := fun u => by rw [← Int.mul_add]; congr 1; omega
  have e0 := e 0
  have e1 := e 1
  have e2 := e 2
  have e3 := e 3
  apply Classical.byContradiction
  intro hc
  have cc : ∀ u, u < 4 → ¬ (0 < m u - p u ∧ -5 ≤ s4 w p + w u ∧ s4 w p + w u ≤ 6) := fun u hu q => hc ⟨u, hu, by omega, q.2⟩
  have dd : ∀ u, u < 4 → 0 ≤ m u - p u := fun u hu => by have := hp u hu; omega
  have es : s4 w p = w 0 * p 0 + w 1 * p 1 + w 2 * p 2 + w 3 * p 3 := rfl
  have em : w 0 * m 0 + w 1 * m 1 + w 2 * m 2 + w 3 * m 3 = 0 := hm
  by_cases hS : 0 < s4 w p
  · have a0 := szc1 hS hl2 (dd 0 (by omega)) (hw 0 (by omega)) (cc 0 (by omega))
    have a1 := szc1 hS hl2 (dd 1 (by omega)) (hw 1 (by omega)) (cc 1 (by omega))
    have a2 := szc1 hS hl2 (dd 2 (by omega)) (hw 2 (by omega)) (cc 2 (by omega))
    have a3 := szc1 hS hl2 (dd 3 (by omega)) (hw 3 (by omega)) (cc 3 (by omega))
    omega
  · obtain ⟨a0, b0⟩ := szc2 (by omega) hl (dd 0 (by omega)) (hw 0 (by omega)) (cc 0 (by omega))
    obtain ⟨a1, b1⟩ := szc2 (by omega) hl (dd 1 (by omega)) (hw 1 (by omega)) (cc 1 (by omega))
    obtain ⟨a2, b2⟩ := szc2 (by omega) hl (dd 2 (by omega)) (hw 2 (by omega)) (cc 2 (by omega))
    obtain ⟨a3, b3⟩ := szc2 (by omega) hl (dd 3 (by omega)) (hw 3 (by omega)) (cc 3 (by omega))
    have t0 := b0 (by clear b0 b1 b2 b3; omega)
    have t1 := b1 (by clear b0 b1 b2 b3; omega)
    have t2 := b2 (by clear b0 b1 b2 b3; omega)
    have t3 := b3 (by clear b0 b1 b2 b3; omega)
    clear b0 b1 b2 b3
    omega
def Ch (w m : Nat → Int) (t : Nat) (f : Nat → Nat → Int) : Prop := ∀ i, i ≤ t → (∀ u, u < 4 → 0 ≤ f i u ∧ f i u ≤ m u) ∧ f i 0 + f i 1 + f i 2 + f i 3 = (i : Int) ∧ -5 ≤ s4 w (f i) ∧ s4 w (f i) ≤ 6 ∧ (∀ j, j ≤ i → ∀ u, u < 4 → f j u ≤ f i u)
theorem s4_up {w p : Nat → Int} {c : Nat} (hc : c < 4) : s4 w (fun u => if u = c then p u + 1 else p u) = s4 w p + w c := by
  unfold s4
  rcases u4 hc with rfl | rfl | rfl | rfl <;> simp [Int.mul_add] <;> omega
theorem sz_chain {w m : Nat → Int} (hw : ∀ u, u < 4 → -6 ≤ w u ∧ w u ≤ 6) (h0 : ∀ u, u < 4 → 0 ≤ m u) (hm : s4 w m = 0) : ∀ t : Nat, (t : Int) ≤ m 0 + m 1 + m 2 + m 3 → ∃ f, Ch w m t f := by
  intro t
  induction t with
  | zero =>
    intro _
    refine ⟨fun _ _ => 0, fun i hi => ⟨fun u hu => ⟨Int.le_refl _, h0 u hu⟩, by simp; omega, ?_, ?_, fun j _ u _ => Int.le_refl _⟩⟩
    · simp [s4]
    · simp [s4]
  | succ t ih =>
    intro ht
    obtain ⟨f, hf⟩ := ih (by omega)
    obtain ⟨g1, g2, g3, g4, g5⟩ := hf t (Nat.le_refl _)
    obtain ⟨c, hc, k1, k2, k3⟩ := sz_step hw g1 hm g3 g4 (by omega)
    refine ⟨fun i u => if i = t + 1 then (if u = c then f t u + 1 else f t u) else f i u, fun i hi => ?_⟩
    by_cases e : i = t + 1
    · subst e
      have ef : (fun u => if t + 1 = t + 1 then (if u = c then f t u + 1 else f t u) else f (t + 1) u) = (fun u => if u = c then f t u + 1 else f t u) := by funext u; rw [if_pos rfl]
      refine ⟨fun u hu => ?_, ?_, ?_, ?_, fun j hj u hu => ?_⟩
      · show 0 ≤ (if t + 1 = t + 1 then (if u = c then f t u + 1 else f t u) else f (t + 1) u) ∧ (if t + 1 = t + 1 then (if u = c then f t u + 1 else f t u) else f (t + 1) u) ≤ m u
        rw [if_pos rfl]
        have := g1 u hu
        by_cases q : u = c
        · subst q
          rw [if_pos rfl]
          omega
        · rw [if_neg q]
          omega
      · show (if t + 1 = t + 1 then (if 0 = c then f t 0 + 1 else f t 0) else f (t + 1) 0) + (if t + 1 = t + 1 then (if 1 = c then f t 1 + 1 else f t 1) else f (t + 1) 1) + (if t + 1 = t + 1 then (if 2 = c then f t 2 + 1 else f t 2) else f (t + 1) 2) + (if t + 1 = t + 1 then (if 3 = c then f t 3 + 1 else f t 3) else f (t + 1) 3) = _
        rcases u4 hc with rfl | rfl | rfl | rfl <;> simp <;> omega
      · show -5 ≤ s4 w (fun u => if t + 1 = t + 1 then (if u = c then f t u + 1 else f t u) else f (t + 1) u)
        rw [ef, s4_up hc]
        exact k2
      · show s4 w (fun u => if t + 1 = t + 1 then (if u = c then f t u + 1 else f t u) else f (t + 1) u) ≤ 6
        rw [ef, s4_up hc]
        exact k3
      · show (if j = t + 1 then (if u = c then f t u + 1 else f t u) else f j u) ≤ (if t + 1 = t + 1 then (if u = c then f t u + 1 else f t u) else f (t + 1) u)
        rw [if_pos (rfl : t + 1 = t + 1)]
        by_cases q : j = t + 1
        · rw [if_pos q]
          exact Int.le_refl _
        · rw [if_neg q]
          have := g5 j (by omega) u hu
          by_cases q2 : u = c
          · rw [if_pos q2]
            omega
          · rw [if_neg q2]
            exact this
    · have hf2 := hf i (by omega)
      have ef : ∀ j, j ≤ i → (fun u => if j = t + 1 then (if u = c then f t u + 1 else f t u) else f j u) = f j := fun j hj => by funext u; rw [if_neg (by omega)]
      show (∀ u, u < 4 → 0 ≤ (fun u => if i = t + 1 then (if u = c then f t u + 1 else f t u) else f i u) u ∧ (fun u => if i = t + 1 then (if u = c then f t u + 1 else f t u) else f i u) u ≤ m u) ∧ (fun u => if i = t + 1 then (if u = c then f t u + 1 else f t u) else f i u) 0 + (fun u => if i = t + 1 then (if u = c then f t u + 1 else f t u) else f i u) 1 + (fun u => if i = t + 1 then (if u = c then f t u + 1 else f t u) else f i u) 2 + (fun u => if i = t + 1 then (if u = c then f t u + 1 else f t u) else f i u) 3 = (i : Int) ∧ -5 ≤ s4 w (fun u => if i = t + 1 then (if u = c then f t u + 1 else f t u) else f i u) ∧ s4 w (fun u => if i = t + 1 then (if u = c then f t u + 1 else f t u) else f i u) ≤ 6 ∧ _
      rw [ef i (Nat.le_refl _)]
      refine ⟨hf2.1, hf2.2.1, hf2.2.2.1, hf2.2.2.2.1, fun j hj u hu => ?_⟩
      have q := congrFun (ef j hj) u
      have q2 := congrFun (ef i (Nat.le_refl _)) u
      show (if j = t + 1 then (if u = c then f t u + 1 else f t u) else f j u) ≤ (if i = t + 1 then (if u = c then f t u + 1 else f t u) else f i u)
      rw [q, q2]
      exact hf2.2.2.2.2 j hj u hu
def sgn (x : Int) : Int := if x < 0 then -1 else 1
theorem sg_ab (x d : Int) : (x < 0 ∧ sgn x = -1 ∧ sgn x * d = -d) ∨ (0 ≤ x ∧ sgn x = 1 ∧ sgn x * d = d) := by
  unfold sgn
  by_cases h : x < 0
  · rw [if_pos h]
    exact Or.inl ⟨h, rfl, by omega⟩
  · rw [if_neg h]
    exact Or.inr ⟨by omega, rfl, by omega⟩
theorem sz {a x : Nat → Int} (ha : ∀ u, u < 4 → -6 ≤ a u ∧ a u ≤ 6) (hx : s4 a x = 0) (hn : 13 ≤ nm x) : ∃ y : Nat → Int, Fit y x ∧ s4 a y = 0 ∧ (∃ u, u < 4 ∧ y u ≠ 0) ∧ nm y < nm x := by
  have hw : ∀ u, u < 4 → -6 ≤ a u * sgn (x u) ∧ a u * sgn (x u) ≤ 6 := fun u hu => by
    have h1 := ha u hu
    rcases sg_ab (x u) 0 with ⟨_, q, _⟩ | ⟨_, q, _⟩ <;> rw [q] <;> omega
  have hm : s4 (fun u => a u * sgn (x u)) (fun u => ((x u).natAbs : Int)) = 0 := by
    have e : ∀ u, a u * sgn (x u) * ((x u).natAbs : Int) = a u * x u := fun u => by
      rw [Int.mul_assoc]
      rcases sg_ab (x u) ((x u).natAbs : Int) with ⟨q1, _, q⟩ | ⟨q1, _, q⟩ <;> rw [q] <;> congr 1 <;> omega
    show a 0 * sgn (x 0) * ((x 0).natAbs : Int) + a 1 * sgn (x 1) * ((x 1).natAbs : Int) + a 2 * sgn (x 2) * ((x 2).natAbs : Int) + a 3 * sgn (x 3) * ((x 3).natAbs : Int) = 0
    rw [e 0, e 1, e 2, e 3]
    exact hx
  obtain ⟨f, hf⟩ := sz_chain (w := fun u => a u * sgn (x u)) (m := fun u => ((x u).natAbs : Int)) hw (fun u _ => by omega) hm 12 (by unfold nm at hn; show (12 : Int) ≤ ((x 0).natAbs : Int) + ((x 1).natAbs : Int) + ((x 2).natAbs : Int) + ((x 3).natAbs : Int); omega)
  obtain ⟨i, j, hij, hj, e⟩ := pg_two 12 13 (fun i => (s4 (fun u => a u * sgn (x u)) (f i) + 5).toNat) (fun i hi => by
    have := hf i (by omega)
    show (s4 (fun u => a u * sgn (x u)) (f i) + 5).toNat < 12
    omega) (by omega)
  have e : (s4 (fun u => a u * sgn (x u)) (f i) + 5).toNat = (s4 (fun u => a u * sgn (x u)) (f j) + 5).toNat := e
  obtain ⟨a1, a2, a3, a4, a5⟩ := hf i (by omega)
  obtain ⟨b1, b2, b3, b4, b5⟩ := hf j (by omega)
  have es : s4 (fun u => a u * sgn (x u)) (f i) = s4 (fun u => a u * sgn (x u)) (f j) := by omega
  have mono := b5 i (by omega)
  have y4 : ∀ u, u < 4 → (x u < 0 ∧ sgn (x u) * (f j u - f i u) = -(f j u - f i u)) ∨ (0 ≤ x u ∧ sgn (x u) * (f j u - f i u) = f j u - f i u) := fun u _ => by
    rcases sg_ab (x u) (f j u - f i u) with ⟨q1, _, q⟩ | ⟨q1, _, q⟩
    · exact Or.inl ⟨q1, q⟩
    · exact Or.inr ⟨q1, q⟩
  have bd : ∀ u, u < 4 → 0 ≤ f j u - f i u ∧ f j u - f i u ≤ ((x u).natAbs : Int) := fun u hu => by
    have p1 := a1 u hu
    have p2 := b1 u hu
    have p3 := mono u hu
    have p4 : f j u ≤ ((x u).natAbs : Int) := p2.2
    omega
  have ya : ∀ u, u < 4 → ((sgn (x u) * (f j u - f i u)).natAbs : Int) = f j u - f i u := fun u hu => by
    have q := y4 u hu
    have r := bd u hu
    generalize sgn (x u) * (f j u - f i u) = t at *
    omega
  have nmy : nm (fun u => sgn (x u) * (f j u - f i u)) = j - i := by
    have q0 := ya 0 (by omega)
    have q1 := ya 1 (by omega)
    have q2 := ya 2 (by omega)
    have q3 := ya 3 (by omega)
    show (sgn (x 0) * (f j 0 - f i 0)).natAbs + (sgn (x 1) * (f j 1 - f i 1)).natAbs + (sgn (x 2) * (f j 2 - f i 2)).natAbs + (sgn (x 3) * (f j 3 - f i 3)).natAbs = j - i
    generalize (sgn (x 0) * (f j 0 - f i 0)).natAbs = t0 at *
    generalize (sgn (x 1) * (f j 1 - f i 1)).natAbs = t1 at *
    generalize (sgn (x 2) * (f j 2 - f i 2)).natAbs = t2 at *
    generalize (sgn (x 3) * (f j 3 - f i 3)).natAbs = t3 at *
    clear y4 bd ya
    omega
  refine ⟨fun u => sgn (x u) * (f j u - f i u), ?_, ?_, ?_, ?_⟩
  · intro u hu
    show (0 < sgn (x u) * (f j u - f i u) → sgn (x u) * (f j u - f i u) ≤ x u) ∧ (sgn (x u) * (f j u - f i u) < 0 → x u ≤ sgn (x u) * (f j u - f i u))
    have q := y4 u hu
    have r := bd u hu
    generalize sgn (x u) * (f j u - f i u) = t at *
    omega
  · have e2 : ∀ u, a u * (sgn (x u) * (f j u - f i u)) = a u * sgn (x u) * f j u - a u * sgn (x u) * f i u := fun u => by rw [← Int.mul_assoc, Int.mul_sub]
    show a 0 * (sgn (x 0) * (f j 0 - f i 0)) + a 1 * (sgn (x 1) * (f j 1 - f i 1)) + a 2 * (sgn (x 2) * (f j 2 - f i 2)) + a 3 * (sgn (x 3) * (f j 3 - f i 3)) = 0
    rw [e2 0, e2 1, e2 2, e2 3]
    have es : a 0 * sgn (x 0) * f i 0 + a 1 * sgn (x 1) * f i 1 + a 2 * sgn (x 2) * f i 2 + a 3 * sgn (x 3) * f i 3 = a 0 * sgn (x 0) * f j 0 + a 1 * sgn (x 1) * f j 1 + a 2 * sgn (x 2) * f j 2 + a 3 * sgn (x 3) * f j 3 := es
    omega
  · apply Classical.byContradiction
    intro hc
    have hz : ∀ u, u < 4 → sgn (x u) * (f j u - f i u) = 0 := fun u hu => Classical.byContradiction fun q => hc ⟨u, hu, q⟩
    have : nm (fun u => sgn (x u) * (f j u - f i u)) = 0 := by
      show (sgn (x 0) * (f j 0 - f i 0)).natAbs + (sgn (x 1) * (f j 1 - f i 1)).natAbs + (sgn (x 2) * (f j 2 - f i 2)).natAbs + (sgn (x 3) * (f j 3 - f i 3)).natAbs = 0
      rw [hz 0 (by omega), hz 1 (by omega), hz 2 (by omega), hz 3 (by omega)]
      rfl
    omega
  · omega
