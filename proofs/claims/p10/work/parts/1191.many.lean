theorem many_r0 {z : Nat → Nat → Int} {m : Nat} (hb : ∀ i, i < m → ∀ u, u < 4 → -4 ≤ z i u ∧ z i u ≤ 4) (ha : ∀ i j, i < m → j < m → Fit (z i) (z j) → i = j) : m ≤ 1458 := by
  refine pg_le 1458 m (fun i => ((((z i 1 + 4) * 9 + (z i 2 + 4)) * 9 + (z i 3 + 4)) * 2 + (if z i 0 < 0 then 1 else 0)).toNat) ?_ ?_
  · intro i hi
    have h0 := hb i hi 0 (by omega)
    have h1 := hb i hi 1 (by omega)
    have h2 := hb i hi 2 (by omega)
    have h3 := hb i hi 3 (by omega)
    show ((((z i 1 + 4) * 9 + (z i 2 + 4)) * 9 + (z i 3 + 4)) * 2 + (if z i 0 < 0 then 1 else 0)).toNat < 1458
    by_cases q : z i 0 < 0
    · rw [if_pos q]; omega
    · rw [if_neg q]; omega
  · intro i j hi hj e
    have e : ((((z i 1 + 4) * 9 + (z i 2 + 4)) * 9 + (z i 3 + 4)) * 2 + (if z i 0 < 0 then 1 else 0)).toNat = ((((z j 1 + 4) * 9 + (z j 2 + 4)) * 9 + (z j 3 + 4)) * 2 + (if z j 0 < 0 then 1 else 0)).toNat := e
    have h0 := hb i hi 0 (by omega)
    have h1 := hb i hi 1 (by omega)
    have h2 := hb i hi 2 (by omega)
    have h3 := hb i hi 3 (by omega)
    have k0 := hb j hj 0 (by omega)
    have k1 := hb j hj 1 (by omega)
    have k2 := hb j hj 2 (by omega)
    have k3 := hb j hj 3 (by omega)
    have all : z i 1 = z j 1 ∧ z i 2 = z j 2 ∧ z i 3 = z j 3 ∧ (z i 0 < 0 ↔ z j 0 < 0) := by
      by_cases q : z i 0 < 0 <;> by_cases q2 : z j 0 < 0
      · rw [if_pos q, if_pos q2] at e; omega
      · rw [if_pos q, if_neg q2] at e; omega
      · rw [if_neg q, if_pos q2] at e; omega
      · rw [if_neg q, if_neg q2] at e; omega
    by_cases c : (z i 0).natAbs ≤ (z j 0).natAbs
    · refine ha i j hi hj (fun u hu => ?_)
      rcases u4 hu with rfl | rfl | rfl | rfl <;> omega
    · refine (ha j i hj hi (fun u hu => ?_)).symm
      rcases u4 hu with rfl | rfl | rfl | rfl <;> omega
def cd3 (x y z : Int) : Nat := ((x + y + z + 12) * 169 + ((x - y - z + 12) / 2) * 13 + (x + y - z + 12) / 2).toNat
theorem cd3_b {x y z : Int} (h : x.natAbs + y.natAbs + z.natAbs ≤ 12) : (-12 ≤ x + y + z ∧ x + y + z ≤ 12) ∧ (-12 ≤ x - y - z ∧ x - y - z ≤ 12) ∧ (-12 ≤ x + y - z ∧ x + y - z ≤ 12) := by omega
theorem cd3_lt {x y z : Int} (h : x.natAbs + y.natAbs + z.natAbs ≤ 12) : cd3 x y z < 4225 := by
  have := cd3_b h
  clear h
  unfold cd3
  omega
theorem cd3_inj {x y z x' y' z' : Int} (h : x.natAbs + y.natAbs + z.natAbs ≤ 12) (h' : x'.natAbs + y'.natAbs + z'.natAbs ≤ 12) (e : cd3 x y z = cd3 x' y' z') : x = x' ∧ y = y' ∧ z = z' := by
  unfold cd3 at e
  have a := cd3_b h
  have b := cd3_b h'
  clear h h'
  have q1 : 0 ≤ (x - y - z + 12) / 2 ∧ (x - y - z + 12) / 2 ≤ 12 := by clear e b; omega
  have q2 : 0 ≤ (x + y - z + 12) / 2 ∧ (x + y - z + 12) / 2 ≤ 12 := by clear e b; omega
  have q3 : 0 ≤ (x' - y' - z' + 12) / 2 ∧ (x' - y' - z' + 12) / 2 ≤ 12 := by clear e a; omega
  have q4 : 0 ≤ (x' + y' - z' + 12) / 2 ∧ (x' + y' - z' + 12) / 2 ≤ 12 := by clear e a; omega
  have c1 : x + y + z = x' + y' + z' ∧ (x - y - z + 12) / 2 = (x' - y' - z' + 12) / 2 ∧ (x + y - z + 12) / 2 = (x' + y' - z' + 12) / 2 := by
    have a1 := a.1
    have b1 := b.1
    clear a b
    generalize (x - y - z + 12) / 2 = Q at *
    generalize (x + y - z + 12) / 2 = R at *
    generalize (x' - y' - z' + 12) / 2 = Q' at *
    generalize (x' + y' - z' + 12) / 2 = R' at *
    generalize x + y + z = P at *
    generalize x' + y' + z' = P' at *
    omega
  clear e a b
  omega
theorem s4_can {a v w : Nat → Int} {c : Nat} (hc : c < 4) (hne : a c ≠ 0) (hv : s4 a v = 0) (hw : s4 a w = 0) (h : ∀ u, u < 4 → u ≠ c → v u = w u) : ∀ u, u < 4 → v u = w u := by
  have key : a c * v c = a c * w c := by
    unfold s4 at hv hw
    rcases u4 hc with rfl | rfl | rfl | rfl
    · rw [h 1 (by omega) (by omega), h 2 (by omega) (by omega), h 3 (by omega) (by omega)] at hv; omega
    · rw [h 0 (by omega) (by omega), h 2 (by omega) (by omega), h 3 (by omega) (by omega)] at hv; omega
    · rw [h 0 (by omega) (by omega), h 1 (by omega) (by omega), h 3 (by omega) (by omega)] at hv; omega
    · rw [h 0 (by omega) (by omega), h 1 (by omega) (by omega), h 2 (by omega) (by omega)] at hv; omega
  intro u hu
  by_cases e : u = c
  · rw [e]
    exact Int.eq_of_mul_eq_mul_left hne key
  · exact h u hu e
theorem many_r1 {z : Nat → Nat → Int} {m c : Nat} {a : Nat → Int} (hc : c < 4) (hne : a c ≠ 0) (h0 : ∀ i, i < m → s4 a (z i) = 0) (hn : ∀ i, i < m → nm (z i) ≤ 12) (hi : ∀ i j, i < m → j < m → (∀ u, u < 4 → z i u = z j u) → i = j) : m ≤ 4225 := by
  rcases u4 hc with rfl | rfl | rfl | rfl
  · refine pg_le 4225 m (fun i => cd3 (z i 1) (z i 2) (z i 3)) (fun i h => ?_) (fun i j h1 h2 e => ?_)
    · have := hn i h; unfold nm at this; exact cd3_lt (by omega)
    · have q1 := hn i h1
      have q2 := hn j h2
      unfold nm at q1 q2
      obtain ⟨e1, e2, e3⟩ := cd3_inj (by omega) (by omega) e
      exact hi i j h1 h2 (s4_can hc hne (h0 i h1) (h0 j h2) (fun u hu hne => by rcases u4 hu with rfl | rfl | rfl | rfl <;> first | assumption | exact absurd rfl hne))
  · refine pg_le 4225 m (fun i => cd3 (z i 0) (z i 2) (z i 3)) (fun i h => ?_) (fun i j h1 h2 e => ?_)
    · have := hn i h; unfold nm at this; exact cd3_lt (by omega)
    · have q1 := hn i h1
      have q2 := hn j h2
      unfold nm at q1 q2
      obtain ⟨e1, e2, e3⟩ := cd3_inj (by omega) (by omega) e
      exact hi i j h1 h2 (s4_can hc hne (h0 i h1) (h0 j h2) (fun u hu hne => by rcases u4 hu with rfl | rfl | rfl | rfl <;> first | assumption | exact absurd rfl hne))
  · refine pg_le 4225 m (fun i => cd3 (z i 0) (z i 1) (z i 3)) (fun i h => ?_) (fun i j h1 h2 e => ?_)
    · have := hn i h; unfold nm at this; exact cd3_lt (by omega)
    · have q1 := hn i h1
      have q2 := hn j h2
      unfold nm at q1 q2
      obtain ⟨e1, e2, e3⟩ := cd3_inj (by omega) (by omega) e
      exact hi i j h1 h2 (s4_can hc hne (h0 i h1) (h0 j h2) (fun u hu hne => by rcases u4 hu with rfl | rfl | rfl | rfl <;> first | assumption | exact absurd rfl hne))
  · refine pg_le 4225 m (fun i => cd3 (z i 0) (z i 1) (z i 2)) (fun i h => ?_) (fun i j h1 h2 e => ?_)
    · have := hn i h; unfold nm at this; exact cd3_lt (by omega)
    · have q1 := hn i h1
      have q2 := hn j h2
      unfold nm at q1 q2
      obtain ⟨e1, e2, e3⟩ := cd3_inj (by omega) (by omega) e
      exact hi i j h1 h2 (s4_can hc hne (h0 i h1) (h0 j h2) (fun u hu hne => by rcases u4 hu with rfl | rfl | rfl | rfl <;> first | assumption | exact absurd rfl hne))
theorem many_f1 {z : Nat → Nat → Int} {m c : Nat} (hb : ∀ i, i < m → -1296 ≤ z i c ∧ z i c ≤ 1296) (hi : ∀ i j, i < m → j < m → z i c = z j c → i = j) : m ≤ 2593 := by
  refine pg_le 2593 m (fun i => (z i c + 1296).toNat) (fun i h => ?_) (fun i j h1 h2 e => ?_)
  · have := hb i h
    show (z i c + 1296).toNat < 2593
    omega
  · have q1 := hb i h1
    have q2 := hb j h2
    have e : (z i c + 1296).toNat = (z j c + 1296).toNat := e
    exact hi i j h1 h2 (by omega)
-- two rows of an orthant of a plane with one coordinate alike
theorem mu_le {d x y : Int} (hd : 0 < d) (h : d * x ≤ d * y) : x ≤ y := Int.le_of_mul_le_mul_left h hd
theorem cn_same {dl A B x y z x' y' z' : Int} (hd : 0 < dl) (h : dl * z = A * x + B * y) (h' : dl * z' = A * x' + B * y') (e : y = y') (hA : 0 ≤ A) (hx : x ≤ x') : z ≤ z' := by
  refine mu_le hd ?_
  rw [h, h', e]
  have := Int.mul_le_mul_of_nonneg_left hx hA
  omega
theorem cn_z {dl A B x y z : Int} (hd : 0 < dl) (hx : 0 ≤ x) (hy : 0 ≤ y) (hz : 0 ≤ z) (h : dl * z = A * x + B * y) (hA : A < 0) (hB : B < 0) : x = 0 ∧ y = 0 ∧ z = 0 := by
  have h1 := pr_sg A x
  have h2 := pr_sg B y
  have h3 : 0 ≤ dl * z := Int.mul_nonneg (by omega) hz
  have h4 := pr_sg dl z
  have e : x = 0 ∧ y = 0 := by
    generalize A * x = p at *
    generalize B * y = q at *
    generalize dl * z = r at *
    omega
  refine ⟨e.1, e.2, ?_⟩
  rw [e.1, e.2, Int.mul_zero, Int.mul_zero] at h
  rcases Int.mul_eq_zero.mp h with q | q
  · omega
  · exact q
def Cmp4 (x y z t x' y' z' t' : Int) : Prop := (x ≤ x' ∧ y ≤ y' ∧ z ≤ z' ∧ t ≤ t') ∨ (x' ≤ x ∧ y' ≤ y ∧ z' ≤ z ∧ t' ≤ t)
def Co (dl A B C D : Int) (x y z t : Int) : Prop := 0 ≤ x ∧ 0 ≤ y ∧ 0 ≤ z ∧ 0 ≤ t ∧ dl * z = A * x + B * y ∧ dl * t = C * x + D * y
theorem cn_y {dl A B C D x y z t x' y' z' t' : Int} (hd : 0 < dl) (hA : 0 ≤ A) (hC : 0 ≤ C) (h : Co dl A B C D x y z t) (h' : Co dl A B C D x' y' z' t') (e : y = y') : Cmp4 x y z t x' y' z' t' := by
  obtain ⟨_, _, _, _, h1, h2⟩ := h
  obtain ⟨_, _, _, _, k1, k2⟩ := h'
  rcases Int.le_total x x' with q | q
  · exact Or.inl ⟨q, by omega, cn_same hd h1 k1 e hA q, cn_same hd h2 k2 e hC q⟩
  · exact Or.inr ⟨q, by omega, cn_same hd k1 h1 e.symm hA q, cn_same hd k2 h2 e.symm hC q⟩
theorem co_sw {dl A B C D x y z t : Int} (h : Co dl A B C D x y z t) : Co dl B A D C y x z t := by
  obtain ⟨h1, h2, h3, h4, h5, h6⟩ := h
  exact ⟨h2, h1, h3, h4, by omega, by omega⟩
theorem cn_x {dl A B C D x y z t x' y' z' t' : Int} (hd : 0 < dl) (hB : 0 ≤ B) (hD : 0 ≤ D) (h : Co dl A B C D x y z t) (h' : Co dl A B C D x' y' z' t') (e : x = x') : Cmp4 x y z t x' y' z' t' := by
  rcases cn_y hd hB hD (co_sw h) (co_sw h') e with ⟨q1, q2, q3, q4⟩ | ⟨q1, q2, q3, q4⟩
  · exact Or.inl ⟨q2, q1, q3, q4⟩
  · exact Or.inr ⟨q2, q1, q3, q4⟩
theorem cn_0 {dl A B C D x y z t x' y' z' t' : Int} (hd : 0 < dl) (h : Co dl A B C D x y z t) (h' : Co dl A B C D x' y' z' t') (e : x = 0 ∧ y = 0) (e' : x' = 0 ∧ y' = 0) : Cmp4 x y z t x' y' z' t' := by
  obtain ⟨_, _, _, _, h1, h2⟩ := h
  obtain ⟨_, _, _, _, k1, k2⟩ := h'
  have zz : z = z' := by
    refine Int.eq_of_mul_eq_mul_left (a := dl) (by omega) ?_
    rw [h1, k1, e.1, e.2, e'.1, e'.2]
  have tt : t = t' := by
    refine Int.eq_of_mul_eq_mul_left (a := dl) (by omega) ?_
    rw [h2, k2, e.1, e.2, e'.1, e'.2]
  exact Or.inl ⟨by omega, by omega, by omega, by omega⟩
-- A < 0 <= B, D < 0 <= C: the row z alike
theorem cn_m0 {dl A B C D x y z t : Int} (hd : 0 < dl) (hA : A < 0) (hB : 0 ≤ B) (hC : 0 ≤ C) (hD : D < 0) (hn : B = 0 ∨ C * B < A * D) (h : Co dl A B C D x y z t) : x = 0 ∧ y = 0 := by
  obtain ⟨hx, hy, hz, ht, h1, h2⟩ := h
  have f1 : 0 ≤ A * x + B * y := by rw [← h1]; exact Int.mul_nonneg (by omega) hz
  have f2 : 0 ≤ C * x + D * y := by rw [← h2]; exact Int.mul_nonneg (by omega) ht
  have p1 := pr_sg A x
  have p2 := pr_sg D y
  have xz : x = 0 := by
    rcases hn with q | q
    · rw [q, Int.zero_mul] at f1
      generalize A * x = P at *
      omega
    · have g1 : 0 ≤ (-D) * (A * x + B * y) := Int.mul_nonneg (by omega) f1
      have g2 : 0 ≤ B * (C * x + D * y) := Int.mul_nonneg hB f2
      have g3 : (-D) * (A * x + B * y) + B * (C * x + D * y) = (C * B - A * D) * x := by grind
      have g4 := pr_sg (C * B - A * D) x
      rw [← g3] at g4
      generalize (-D) * (A * x + B * y) = P at *
      generalize B * (C * x + D * y) = Q at *
      omega
  refine ⟨xz, ?_⟩
  rw [xz, Int.mul_zero] at f2
  generalize D * y = P at *
  omega
theorem cn_id {dl A B C D x y t x' y' t' : Int} (h2 : dl * t = C * x + D * y) (k2 : dl * t' = C * x' + D * y') (e1 : B * (y' - y) = (-A) * (x' - x)) : (B * dl) * (t' - t) = (C * B - A * D) * (x' - x) := by
  have s1 : (B * dl) * (t' - t) = B * (dl * t' - dl * t) := by rw [Int.mul_assoc, Int.mul_sub]
  have s2 : B * (C * x' + D * y' - (C * x + D * y)) = C * B * (x' - x) + D * (B * (y' - y)) := by clear h2 k2 e1 s1; grind
  rw [s1, h2, k2, s2, e1]
  clear h2 k2 e1 s1 s2
  grind
theorem cn_m1 {dl A B C D x y z t x' y' z' t' : Int} (hd : 0 < dl) (hA : A < 0) (hB : 0 < B) (hn : A * D ≤ C * B) (h : Co dl A B C D x y z t) (h' : Co dl A B C D x' y' z' t') (e : z = z') : Cmp4 x y z t x' y' z' t' := by
  obtain ⟨_, _, _, _, h1, h2⟩ := h
  obtain ⟨_, _, _, _, k1, k2⟩ := h'
  have base : ∀ {x y z t x' y' z' t' : Int}, dl * z = A * x + B * y → dl * t = C * x + D * y → dl * z' = A * x' + B * y' → dl * t' = C * x' + D * y' → z = z' → x ≤ x' → y ≤ y' ∧ t ≤ t' := by
    intro x y z t x' y' z' t' h1 h2 k1 k2 e q
    have e1 : B * (y' - y) = (-A) * (x' - x) := by
      rw [e] at h1
      have := h1.symm.trans k1
      rw [Int.mul_sub, Int.neg_mul, Int.mul_sub]
      omega
    have e2 : 0 ≤ (-A) * (x' - x) := Int.mul_nonneg (by omega) (by omega)
    have hy : y ≤ y' := by
      rw [← e1] at e2
      have : 0 ≤ y' - y := by
        refine mu_le hB ?_
        rw [Int.mul_zero]
        exact e2
      omega
    refine ⟨hy, ?_⟩
    have e3 : (B * dl) * (t' - t) = (C * B - A * D) * (x' - x) 
      := cn_id h2 k2 e1
    have e4 : 0 ≤ (C * B - A * D) * (x' - x) := Int.mul_nonneg (by omega) (by omega)
    rw [← e3] at e4
    have : 0 ≤ t' - t := by
      refine mu_le (Int.mul_pos hB hd) ?_
      rw [Int.mul_zero]
      exact e4
    omega
  rcases Int.le_total x x' with q | q
  · have := base h1 h2 k1 k2 e q
    exact Or.inl ⟨q, this.1, by omega, this.2⟩
  · have := base k1 k2 h1 h2 e.symm q
    exact Or.inr ⟨q, this.1, by omega, this.2⟩
theorem cone (dl A B C D : Int) (hd : 0 < dl) : ∃ c : Nat, c < 4 ∧ ∀ x y z t x' y' z' t' : Int, Co dl A B C D x y z t → Co dl A B C D x' y' z' t' → (c = 0 → x = x') → (c = 1 → y = y') → (c = 2 → z = z') → (c = 3 → t = t') → Cmp4 x y z t x' y' z' t' := by
  by_cases a1 : 0 ≤ A ∧ 0 ≤ C
  · exact ⟨1, by omega, fun x y z t x' y' z' t' h h' _ e _ _ => cn_y hd a1.1 a1.2 h h' (e rfl)⟩
  by_cases a2 : 0 ≤ B ∧ 0 ≤ D
  · exact ⟨0, by omega, fun x y z t x' y' z' t' h h' e _ _ _ => cn_x hd a2.1 a2.2 h h' (e rfl)⟩
  by_cases a3 : A < 0 ∧ B < 0
  · exact ⟨0, by omega, fun x y z t x' y' z' t' h h' _ _ _ _ => cn_0 hd h h' (by have := cn_z hd h.1 h.2.1 h.2.2.1 h.2.2.2.2.1 a3.1 a3.2; exact ⟨this.1, this.2.1⟩) (by have := cn_z hd h'.1 h'.2.1 h'.2.2.1 h'.2.2.2.2.1 a3.1 a3.2; exact ⟨this.1, this.2.1⟩)⟩
  by_cases a4 : C < 0 ∧ D < 0
  · exact ⟨0, by omega, fun x y z t x' y' z' t' h h' _ _ _ _ => cn_0 hd h h' (by have := cn_z hd h.1 h.2.1 h.2.2.2.1 h.2.2.2.2.2 a4.1 a4.2; exact ⟨this.1, this.2.1⟩) (by have := cn_z hd h'.1 h'.2.1 h'.2.2.2.1 h'.2.2.2.2.2 a4.1 a4.2; exact ⟨this.1, this.2.1⟩)⟩
  by_cases a5 : A < 0
  · by_cases n : B = 0 ∨ C * B < A * D
    · exact ⟨0, by omega, fun x y z t x' y' z' t' h h' _ _ _ _ => cn_0 hd h h' (cn_m0 hd a5 (by omega) (by omega) (by omega) n h) (cn_m0 hd a5 (by omega) (by omega) (by omega) n h')⟩
    · exact ⟨2, by omega, fun x y z t x' y' z' t' h h' _ _ e _ => cn_m1 hd a5 (by omega) (by omega) h h' (e rfl)⟩
  · have sw : ∀ {x y z t : Int}, Co dl A B C D x y z t → Co dl B A D C y x z t := fun h => co_sw h
    by_cases n : A = 0 ∨ D * A < B * C
    · exact ⟨0, by omega, fun x y z t x' y' z' t' h h' _ _ _ _ => cn_0 hd h h' (by have := cn_m0 hd (by omega) (by omega) (by omega) (by omega) n (sw h); exact ⟨this.2, this.1⟩) (by have := cn_m0 hd (by omega) (by omega) (by omega) (by omega) n (sw h'); exact ⟨this.2, this.1⟩)⟩
    · refine ⟨2, by omega, fun x y z t x' y' z' t' h h' _ _ e _ => ?_⟩
      rcases cn_m1 hd (by omega) (by omega) (by omega) (sw h) (sw h') (e rfl) with ⟨q1, q2, q3, q4⟩ | ⟨q1, q2, q3, q4⟩
      · exact Or.inl ⟨q2, q1, q3, q4⟩
      · exact Or.inr ⟨q2, q1, q3, q4⟩
