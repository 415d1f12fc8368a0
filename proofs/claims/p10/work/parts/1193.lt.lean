theorem fitc_sg {s h h' v v' : Int} (hs : s = 1 ∨ s = -1) (e : s * v = h) (e' : s * v' = h') (h0 : 0 ≤ h) (hl : h ≤ h') : (0 < v → v ≤ v') ∧ (v < 0 → v' ≤ v) := by
  rcases hs with rfl | rfl <;> omega
theorem sgn_or (x : Int) : sgn x = 1 ∨ sgn x = -1 := by
  unfold sgn
  by_cases h : x < 0
  · rw [if_pos h]; exact Or.inr rfl
  · rw [if_neg h]; exact Or.inl rfl
theorem sgn_ab (x : Int) : sgn x * x = (x.natAbs : Int) := by
  unfold sgn
  by_cases h : x < 0
  · rw [if_pos h]; omega
  · rw [if_neg h]; omega
def bt (x : Int) : Nat := if x < 0 then 1 else 0
theorem bt_lt (x : Int) : bt x < 2 := by
  unfold bt
  by_cases h : x < 0
  · rw [if_pos h]; omega
  · rw [if_neg h]; omega
theorem bt_sgn {x y : Int} (h : bt x = bt y) : sgn x = sgn y := by
  unfold bt at h
  unfold sgn
  by_cases h1 : x < 0 <;> by_cases h2 : y < 0
  · rw [if_pos h1, if_pos h2]
  · rw [if_pos h1, if_neg h2] at h; omega
  · rw [if_neg h1, if_pos h2] at h; omega
  · rw [if_neg h1, if_neg h2]
def pick (c : Nat) (x y z t : Int) : Int := if c = 0 then x else if c = 1 then y else if c = 2 then z else t
theorem many_r2 {z : Nat → Nat → Int} {m p q r s : Nat} {dl α β γ δ : Int} (hd : 0 < dl) (hp : ∀ u, u < 4 → u = p ∨ u = q ∨ u = r ∨ u = s) (hb : ∀ i, i < m → ∀ u, -144 ≤ z i u ∧ z i u ≤ 144 ∨ ¬ (u = p ∨ u = q ∨ u = r ∨ u = s)) (h1 : ∀ i, i < m → dl * z i r = α * z i p + β * z i q) (h2 : ∀ i, i < m → dl * z i s = γ * z i p + δ * z i q) (ha : ∀ i j, i < m → j < m → Fit (z i) (z j) → i = j) : m ≤ 2320 := by
  obtain ⟨c, hc⟩ := Classical.axiomOfChoice (fun (t : Int × Int × Int × Int) => cone dl (t.2.2.1 * t.1 * α) (t.2.2.1 * t.2.1 * β) (t.2.2.2 * t.1 * γ) (t.2.2.2 * t.2.1 * δ) hd)
  have co : ∀ i, i < m → Co dl (sgn (z i r) * sgn (z i p) * α) (sgn (z i r) * sgn (z i q) * β) (sgn (z i s) * sgn (z i p) * γ) (sgn (z i s) * sgn (z i q) * δ) (sgn (z i p) * z i p) (sgn (z i q) * z i q) (sgn (z i r) * z i r) (sgn (z i s) * z i s) := fun i hi => by
    have sq : ∀ x : Int, sgn x * sgn x = 1 := fun x => by rcases sgn_or x with q | q <;> rw [q] <;> rfl
    refine ⟨by rw [sgn_ab]; omega, by rw [sgn_ab]; omega, by rw [sgn_ab]; omega, by rw [sgn_ab]; omega, ?_, ?_⟩
    · have e1 := h1 i hi
      have q1 := sq (z i p)
      have q2 := sq (z i q)
      generalize sgn (z i p) = a at *
      generalize sgn (z i q) = b at *
      generalize sgn (z i r) = d at *
      generalize z i p = x at *
      generalize z i q = y at *
      generalize z i r = w at *
      have s1 : d * a * α * (a * x) = d * (α * x) * (a * a) := by clear e1 q1 q2; grind
      have s2 : d * b * β * (b * y) = d * (β * y) * (b * b) := by clear e1 q1 q2; grind
      rw [s1, s2, q1, q2, Int.mul_one, Int.mul_one, ← Int.mul_add, ← e1]
      clear e1 q1 q2 s1 s2
      grind
    · have e1 := h2 i hi
      have q1 := sq (z i p)
      have q2 := sq (z i q)
      generalize sgn (z i p) = a at *
      generalize sgn (z i q) = b at *
      generalize sgn (z i s) = d at *
      generalize z i p = x at *
      generalize z i q = y at *
      generalize z i s = w at *
      have s1 : d * a * γ * (a * x) = d * (γ * x) * (a * a) := by clear e1 q1 q2; grind
      have s2 : d * b * δ * (b * y) = d * (δ * y) * (b * b) := by clear e1 q1 q2; grind
      rw [s1, s2, q1, q2, Int.mul_one, Int.mul_one, ← Int.mul_add, ← e1]
      clear e1 q1 q2 s1 s2
      grind
  have bd : ∀ i, i < m → ∀ u, (u = p ∨ u = q ∨ u = r ∨ u = s) → 0 ≤ sgn (z i u) * z i u ∧ sgn (z i u) * z i u ≤ 144 := fun i hi u hu => by
    rw [sgn_ab]
    rcases hb i hi u with h | h
    · omega
    · exact absurd hu h
  have pk : ∀ k x y z t : Int, ∀ c : Nat, (0 ≤ x ∧ x ≤ 144) → (0 ≤ y ∧ y ≤ 144) → (0 ≤ z ∧ z ≤ 144) → (0 ≤ t ∧ t ≤ 144) → 0 ≤ pick c x y z t ∧ pick c x y z t ≤ 144 := fun k x y z t c hx hy hz ht => by
    unfold pick
    by_cases q0 : c = 0
    · rw [if_pos q0]; exact hx
    · rw [if_neg q0]
      by_cases q1 : c = 1
      · rw [if_pos q1]; exact hy
      · rw [if_neg q1]
        by_cases q2 : c = 2
        · rw [if_pos q2]; exact hz
        · rw [if_neg q2]; exact ht
  refine pg_le 2320 m (fun i => (((bt (z i p) * 2 + bt (z i q)) * 2 + bt (z i r)) * 2 + bt (z i s)) * 145 + (pick (c (sgn (z i p), sgn (z i q), sgn (z i r), sgn (z i s))) (sgn (z i p) * z i p) (sgn (z i q) * z i q) (sgn (z i r) * z i r) (sgn (z i s) * z i s)).toNat) ?_ ?_
  · intro i hi
    have k := pk 0 _ _ _ _ (c (sgn (z i p), sgn (z i q), sgn (z i r), sgn (z i s))) (bd i hi p (by simp)) (bd i hi q (by simp)) (bd i hi r (by simp)) (bd i hi s (by simp))
    have b1 := bt_lt (z i p)
    have b2 := bt_lt (z i q)
    have b3 := bt_lt (z i r)
    have b4 := bt_lt (z i s)
    show (((bt (z i p) * 2 + bt (z i q)) * 2 + bt (z i r)) * 2 + bt (z i s)) * 145 + (pick (c (sgn (z i p), sgn (z i q), sgn (z i r), sgn (z i s))) (sgn (z i p) * z i p) (sgn (z i q) * z i q) (sgn (z i r) * z i r) (sgn (z i s) * z i s)).toNat < 2320
    omega
  · intro i j hi hj e
    have e : (((bt (z i p) * 2 + bt (z i q)) * 2 + bt (z i r)) * 2 + bt (z i s)) * 145 + (pick (c (sgn (z i p), sgn (z i q), sgn (z i r), sgn (z i s))) (sgn (z i p) * z i p) (sgn (z i q) * z i q) (sgn (z i r) * z i r) (sgn (z i s) * z i s)).toNat = (((bt (z j p) * 2 + bt (z j q)) * 2 + bt (z j r)) * 2 + bt (z j s)) * 145 + (pick (c (sgn (z j p), sgn (z j q), sgn (z j r), sgn (z j s))) (sgn (z j p) * z j p) (sgn (z j q) * z j q) (sgn (z j r) * z j r) (sgn (z j s) * z j s)).toNat := e
    have ki := pk 0 _ _ _ _ (c (sgn (z i p), sgn (z i q), sgn (z i r), sgn (z i s))) (bd i hi p (by simp)) (bd i hi q (by simp)) (bd i hi r (by simp)) (bd i hi s (by simp))
    have kj := pk 0 _ _ _ _ (c (sgn (z j p), sgn (z j q), sgn (z j r), sgn (z j s))) (bd j hj p (by simp)) (bd j hj q (by simp)) (bd j hj r (by simp)) (bd j hj s (by simp))
    have a1 := bt_lt (z i p)
    have a2 := bt_lt (z i q)
    have a3 := bt_lt (z i r)
    have a4 := bt_lt (z i s)
    have b1 := bt_lt (z j p)
    have b2 := bt_lt (z j q)
    have b3 := bt_lt (z j r)
    have b4 := bt_lt (z j s)
    have ee : bt (z i p) = bt (z j p) ∧ bt (z i q) = bt (z j q) ∧ bt (z i r) = bt (z j r) ∧ bt (z i s) = bt (z j s) ∧ pick (c (sgn (z i p), sgn (z i q), sgn (z i r), sgn (z i s))) (sgn (z i p) * z i p) (sgn (z i q) * z i q) (sgn (z i r) * z i r) (sgn (z i s) * z i s) = pick (c (sgn (z j p), sgn (z j q), sgn (z j r), sgn (z j s))) (sgn (z j p) * z j p) (sgn (z j q) * z j q) (sgn (z j r) * z j r) (sgn (z j s) * z j s) := by
      generalize pick (c (sgn (z i p), sgn (z i q), sgn (z i r), sgn (z i s))) (sgn (z i p) * z i p) (sgn (z i q) * z i q) (sgn (z i r) * z i r) (sgn (z i s) * z i s) = P at *
      generalize pick (c (sgn (z j p), sgn (z j q), sgn (z j r), sgn (z j s))) (sgn (z j p) * z j p) (sgn (z j q) * z j q) (sgn (z j r) * z j r) (sgn (z j s) * z j s) = P' at *
      omega
    obtain ⟨g1, g2, g3, g4, g5⟩ := ee
    have g1 := bt_sgn g1
    have g2 := bt_sgn g2
    have g3 := bt_sgn g3
    have g4 := bt_sgn g4
    have ci := co i hi
    have cj := co j hj
    rw [← g1, ← g2, ← g3, ← g4] at cj g5
    obtain ⟨_, hcc⟩ := hc (sgn (z i p), sgn (z i q), sgn (z i r), sgn (z i s))
    have di := bd i hi p (by simp)
    have di2 := bd i hi q (by simp)
    have di3 := bd i hi r (by simp)
    have di4 := bd i hi s (by simp)
    have dj := bd j hj p (by simp)
    have dj2 := bd j hj q (by simp)
    have dj3 := bd j hj r (by simp)
    have dj4 := bd j hj s (by simp)
    rw [← g1] at dj
    rw [← g2] at dj2
    rw [← g3] at dj3
    rw [← g4] at dj4
    have cm := hcc _ _ _ _ _ _ _ _ ci cj (fun h => by rw [h] at g5; exact g5) (fun h => by rw [h] at g5; exact g5) (fun h => by rw [h] at g5; exact g5) (fun h => by rw [h] at g5; exact g5)
    rcases cm with ⟨m1, m2, m3, m4⟩ | ⟨m1, m2, m3, m4⟩
    · refine ha i j hi hj (fun u hu => ?_)
      rcases hp u hu with rfl | rfl | rfl | rfl
      · exact fitc_sg (sgn_or _) rfl rfl di.1 m1
      · exact fitc_sg (sgn_or _) rfl rfl di2.1 m2
      · exact fitc_sg (sgn_or _) rfl rfl di3.1 m3
      · exact fitc_sg (sgn_or _) rfl rfl di4.1 m4
    · refine (ha j i hj hi (fun u hu => ?_)).symm
      rcases hp u hu with rfl | rfl | rfl | rfl
      · exact fitc_sg (sgn_or (z i u)) rfl rfl dj.1 m1
      · exact fitc_sg (sgn_or (z i u)) rfl rfl dj2.1 m2
      · exact fitc_sg (sgn_or (z i u)) rfl rfl dj3.1 m3
      · exact fitc_sg (sgn_or (z i u)) rfl rfl dj4.1 m4
theorem many_lt {e : Nat → Nat → Int} {bb wk fr : Nat → Nat} {dl : Int} {n r f : Nat} {b : Int} {z : Nat → Nat → Int} {m : Nat} (hn : n ≤ 4) (hr : r ≤ 3) (hf : 1 ≤ f) (hd : dl ≠ 0) (hP : PT wk fr n r f) (hb : b ≤ 1296) (hb0 : r = 0 → b ≤ 4) (hb2 : r = 2 → b ≤ 144) (he : ∀ i j, -6 ≤ e i j ∧ e i j ≤ 6) (hd1 : r = 1 → dl = e (bb 0) (wk 0)) (hz : ∀ i, i < m → FV e bb wk fr dl n r f b (z i)) (hmin : ∀ i, i < m → MinV e bb wk fr dl n r f b (z i)) (hi : ∀ i j, i < m → j < m → (∀ u, u < 4 → z i u = z j u) → i = j) : m ≤ 4225 := by
  have ha : ∀ i j, i < m → j < m → Fit (z i) (z j) → i = j := fun i j h1 h2 h => hi i j h1 h2 (hmin j h2 (z i) (hz i h1) h)
  obtain ⟨P1, P2, P3, P4, P5, P6, P7, P8⟩ := id hP
  by_cases q0 : r = 0
  · have := many_r0 (z := z) (m := m) (fun i h u hu => by have := (hz i h).1 u hu; have := hb0 q0; omega) ha
    omega
  by_cases q1 : r = 1
  · subst q1
    have hd1 := hd1 rfl
    refine many_r1 (a := fun u => e (bb 0) u) (c := wk 0) (by have := P2 0 (by omega); omega) (by show e (bb 0) (wk 0) ≠ 0; rw [← hd1]; exact hd) (fun i h => ?_) (fun i h => ?_) hi
    · have h4 := (hz i h).2.2.2 0 (by omega)
      rw [r1_s4 hn hP (hz i h).2.1, ← hd1, h4]
      omega
    · apply Classical.byContradiction
      intro hc
      have h4 := (hz i h).2.2.2 0 (by omega)
      obtain ⟨y, k1, k2, ⟨u, hu, k3⟩, k4⟩ := sz (a := fun u => e (bb 0) u) (x := z i) (fun u _ => he _ _) (by rw [r1_s4 hn hP (hz i h).2.1, ← hd1, h4]; omega) (by omega)
      have yz : ∀ u, n ≤ u → u < 4 → y u = 0 := fun u h1 h2 => by
        have a1 := k1 u h2
        have a2 := (hz i h).2.1 u h1 h2
        omega
      have : FV e bb wk fr dl n 1 f b y := by
        refine ⟨fun u hu => ?_, yz, ⟨u, ?_, k3⟩, fun k hk => ?_⟩
        · have a1 := k1 u hu
          have a2 := (hz i h).1 u hu
          omega
        · apply Classical.byContradiction
          intro h9
          exact k3 (yz u (by omega) hu)
        · obtain rfl : k = 0 := by omega
          rw [r1_s4 hn hP yz, ← hd1] at k2
          omega
      have e1 := hmin i h y this k1
      have : nm y = nm (z i) := by
        unfold nm
        rw [e1 0 (by omega), e1 1 (by omega), e1 2 (by omega), e1 3 (by omega)]
      omega
  by_cases q2 : f = 1
  · subst q2
    have := many_f1 (z := z) (m := m) (c := fr 0) (fun i h => by have := (hz i h).1 (fr 0) (by have := P3 0 (by omega); omega); omega) (fun i j h1 h2 h3 => hi i j h1 h2 (FV_det hr hd hP (hz i h1) (hz j h2) (fun k hk => by have e0 : k = 0 := (by omega); subst e0; exact h3)))
    omega
  obtain rfl : r = 2 := by omega
  obtain rfl : f = 2 := by omega
  obtain ⟨α, β, L0⟩ := r2_lin (e := e) (bb := bb) (wk := wk) (fr := fr) (k := 0) (by omega)
  obtain ⟨γ, δ, L1⟩ := r2_lin (e := e) (bb := bb) (wk := wk) (fr := fr) (k := 1) (by omega)
  have hp : ∀ u, u < 4 → u = fr 0 ∨ u = fr 1 ∨ u = wk 0 ∨ u = wk 1 := fun u hu => by
    rcases P4 u (by omega) with ⟨k, hk, h⟩ | ⟨j, hj, h⟩
    · rcases (show k = 0 ∨ k = 1 by omega) with rfl | rfl
      · exact Or.inr (Or.inr (Or.inl h.symm))
      · exact Or.inr (Or.inr (Or.inr h.symm))
    · rcases (show j = 0 ∨ j = 1 by omega) with rfl | rfl
      · exact Or.inl h.symm
      · exact Or.inr (Or.inl h.symm)
  have hbb : ∀ i, i < m → ∀ u, -144 ≤ z i u ∧ z i u ≤ 144 ∨ ¬ (u = fr 0 ∨ u = fr 1 ∨ u = wk 0 ∨ u = wk 1) := fun i h u => by
    by_cases q : u < 4
    · have := (hz i h).1 u q
      have := hb2 rfl
      exact Or.inl (by omega)
    · refine Or.inr (fun h9 => ?_)
      have a1 := P3 0 (by omega)
      have a2 := P3 1 (by omega)
      have a3 := P2 0 (by omega)
      have a4 := P2 1 (by omega)
      omega
  rcases Int.lt_or_gt_of_ne hd with hneg | hpos
  · have := many_r2 (z := z) (m := m) (p := fr 0) (q := fr 1) (r := wk 0) (s := wk 1) (dl := -dl) (α := -α) (β := -β) (γ := -γ) (δ := -δ) (by omega) hp hbb (fun i h => by
      have := (hz i h).2.2.2 0 (by omega)
      rw [L0] at this
      rw [Int.neg_mul, Int.neg_mul, Int.neg_mul, this]
      omega) (fun i h => by
      have := (hz i h).2.2.2 1 (by omega)
      rw [L1] at this
      rw [Int.neg_mul, Int.neg_mul, Int.neg_mul, this]
      omega) ha
    omega
  · have := many_r2 (z := z) (m := m) (p := fr 0) (q := fr 1) (r := wk 0) (s := wk 1) (dl := dl) (α := α) (β := β) (γ := γ) (δ := δ) (by omega) hp hbb (fun i h => by
      have := (hz i h).2.2.2 0 (by omega)
      rw [L0] at this
      exact this) (fun i h => by
      have := (hz i h).2.2.2 1 (by omega)
      rw [L1] at this
      exact this) ha
    omega
