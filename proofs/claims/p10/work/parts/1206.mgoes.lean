def row (ai : Nat → Nat → Int32) (P i u : Nat) : Int := (ai P (4 * i + u)).toInt
def pwb (b : Int) : Nat → Int
  | 0 => 1
  | n + 1 => (2 * b + 1) * pwb b n
theorem pwb_pos {b : Int} (h : 0 ≤ b) (n : Nat) : 1 ≤ pwb b n := by
  induction n with
  | zero => exact Int.le_refl _
  | succ n ih =>
    show 1 ≤ (2 * b + 1) * pwb b n
    have := Int.mul_le_mul (a := 1) (b := 1) (c := 2 * b + 1) (d := pwb b n) (by omega) ih (by omega) (by omega)
    omega
def NWk (ai : Nat → Nat → Int32) (k : Int) (bd : Int32) : Prop := ∀ j : Nat, (j : Int) < k → -bd.toInt ≤ (ai 16 (frv ai j)).toInt ∧ (ai 16 (frv ai j)).toInt ≤ bd.toInt
def Fk (ai0 ai : Nat → Nat → Int32) (k : Int) : Prop := ∀ j : Nat, (j : Int) < k → ai 16 (frv ai0 j) = ai0 16 (frv ai0 j)
def GS (ai0 ai : Nat → Nat → Int32) (sz rk fm bd : Int32) (F0 F1 : Int) : Prop := (∀ i : Nat, (i : Int) < F0 → ∀ u, u < 4 → ai 7 (4 * i + u) = ai0 7 (4 * i + u)) ∧ (∀ i : Nat, (i : Int) < F0 → ai 8 i = ai0 8 i) ∧ (∀ i : Nat, F0 ≤ (i : Int) → (i : Int) < F1 → FVa ai0 sz rk fm bd (row ai 7 i) ∧ (ai 8 i).toInt = (nm (row ai 7 i) : Int))
def GCo (ai0 ai : Nat → Nat → Int32) (sz rk fm bd : Int32) (k F0 F1 : Int) : Prop := ∀ v : Nat → Int, FVa ai0 sz rk fm bd v → (∀ j : Nat, (j : Int) < k → v (frv ai0 j) = (ai0 16 (frv ai0 j)).toInt) → ∃ i : Nat, F0 ≤ (i : Int) ∧ (i : Int) < F1 ∧ ∀ u, u < 4 → row ai 7 i u = v u
def GCv (ai0 ai : Nat → Nat → Int32) (sz rk fm bd : Int32) (k : Nat) (F0 F1 x : Int) : Prop := ∀ v : Nat → Int, FVa ai0 sz rk fm bd v → (∀ j : Nat, j < k → v (frv ai0 j) = (ai0 16 (frv ai0 j)).toInt) → v (frv ai0 k) < x → ∃ i : Nat, F0 ≤ (i : Int) ∧ (i : Int) < F1 ∧ ∀ u, u < 4 → row ai 7 i u = v u
theorem ev_fr {L : List Nat} {a b : Nat → Nat → Int32} (h : FR L a b) (h0 : 0 ∉ L) : ev b = ev a := by funext i j; show (b 0 _).toInt = (a 0 _).toInt; rw [h 0 h0]
theorem bbv_fr {L : List Nat} {a b : Nat → Nat → Int32} (h : FR L a b) (h0 : 14 ∉ L) : bbv b = bbv a := by funext i; show (b 14 _).toInt.toNat = (a 14 _).toInt.toNat; rw [h 14 h0]
theorem wkv_fr {L : List Nat} {a b : Nat → Nat → Int32} (h : FR L a b) (h0 : 13 ∉ L) : wkv b = wkv a := by funext i; show (b 13 _).toInt.toNat = (a 13 _).toInt.toNat; rw [h 13 h0]
theorem frv_fr {L : List Nat} {a b : Nat → Nat → Int32} (h : FR L a b) (h0 : 15 ∉ L) : frv b = frv a := by funext i; show (b 15 _).toInt.toNat = (a 15 _).toInt.toNat; rw [h 15 h0]
theorem mnv_fr {L : List Nat} {a b : Nat → Nat → Int32} {r : Int32} (h : FR L a b) (h0 : 0 ∉ L ∧ 13 ∉ L ∧ 14 ∉ L) : mnv b r = mnv a r := by
  have e : aa b = aa a := by funext x y; show (b 0 _).toInt64 = (a 0 _).toInt64; rw [h 0 h0.1]
  unfold mnv mn
  rw [e, h 13 h0.2.1, h 14 h0.2.2]
theorem FVa_fr {L : List Nat} {a b : Nat → Nat → Int32} {sz rk fm bd : Int32} {v : Nat → Int} (h : FR L a b) (h0 : 0 ∉ L ∧ 13 ∉ L ∧ 14 ∉ L ∧ 15 ∉ L) : FVa b sz rk fm bd v = FVa a sz rk fm bd v := by
  unfold FVa
  rw [ev_fr h h0.1, bbv_fr h h0.2.2.1, wkv_fr h h0.2.1, frv_fr h h0.2.2.2, mnv_fr h ⟨h0.1, h0.2.1, h0.2.2.1⟩]
theorem RKa_fr {L : List Nat} {a b : Nat → Nat → Int32} {sz rk fm : Int32} (h : FR L a b) (h0 : 0 ∉ L ∧ 13 ∉ L ∧ 14 ∉ L ∧ 15 ∉ L) : RKa b sz rk fm = RKa a sz rk fm := by
  unfold RKa PTa
  rw [wkv_fr h h0.2.1, frv_fr h h0.2.2.2, mnv_fr h ⟨h0.1, h0.2.1, h0.2.2.1⟩]
theorem NWb_of {ai : Nat → Nat → Int32} {k : Int} {fm bd : Int32} (h : NWk ai k bd) (e : fm.toInt ≤ k) : NWb ai fm bd := fun j hj => h j (by omega)
theorem Fk_of {ai0 ai : Nat → Nat → Int32} {k : Int} {fm : Int32} (h : Fu ai0 ai fm) (e : k ≤ fm.toInt) : Fk ai0 ai k := fun j hj => h j (by omega)
theorem GS_0 {L : List Nat} {ai0 ai : Nat → Nat → Int32} {sz rk fm bd : Int32} {F0 F1 : Int} (h : FR L ai0 ai) (h7 : 7 ∉ L) (h8 : 8 ∉ L) (e : F1 ≤ F0) : GS ai0 ai sz rk fm bd F0 F1 := ⟨fun i _ u _ => by rw [h 7 h7], fun i _ => by rw [h 8 h8], fun i h1 h2 => by omega⟩
theorem GCo_no {ai0 ai : Nat → Nat → Int32} {sz rk fm bd : Int32} {k F0 F1 : Int} (h : NoV ai0 sz rk fm bd) (e : fm.toInt ≤ k) : GCo ai0 ai sz rk fm bd k F0 F1 := fun v hv hm => absurd (fun j hj => hm j (by omega)) (h v hv)
def nmp (v : Nat → Int) : Nat → Int
  | 0 => 0
  | n + 1 => nmp v n + ((v n).natAbs : Int)
theorem nmp_4 (v : Nat → Int) : nmp v 4 = (nm v : Int) := by
  show 0 + ((v 0).natAbs : Int) + ((v 1).natAbs : Int) + ((v 2).natAbs : Int) + ((v 3).natAbs : Int) = _
  unfold nm
  omega
theorem vn_b {ai0 ai : Nat → Nat → Int32} {sz rk fm bd : Int32} (h : FVa ai0 sz rk fm bd (vn ai sz)) (hb : bd.toInt ≤ 1296) {u : Nat} (hu : u < 4) : -1296 ≤ vn ai sz u ∧ vn ai sz u ≤ 1296 := by
  have := h.1 u hu
  omega
theorem vn_st {ai ai' : Nat → Nat → Int32} {sz : Int32} (h : ai' 16 = ai 16) : vn ai' sz = vn ai sz := by funext u; show (if u < sz.toInt.toNat then (ai' 16 u).toInt else 0) = _; rw [h]; rfl
def RW7 (ai : Nat → Nat → Int32) (sz : Int32) (F n : Int) : Prop := ∀ u : Nat, (u : Int) < n → (ai 7 (4 * F.toNat + u)).toInt = vn ai sz u
theorem RW7_st {ai ai' : Nat → Nat → Int32} {sz : Int32} {F n n1 : Int} {ix v : Int32} (h : RW7 ai sz F n) (e : ai' = va_up ai 7 (upd (ai 7) ix.toNatClampNeg v)) (hF : 0 ≤ F) (hn : 0 ≤ n) (hi : ix.toInt = 4 * F + n) (hv : v.toInt = vn ai sz n.toNat) (h1 : n1 = n + 1) : RW7 ai' sz F n1 := fun u hu => by
  rw [vn_st (up_ne e (by decide)), up_at e]
  by_cases q : u = n.toNat
  · rw [if_pos (by omega), hv, q]
  · rw [if_neg (by omega)]
    exact h u (by omega)
theorem GS_st7 {ai0 ai ai' : Nat → Nat → Int32} {sz rk fm bd : Int32} {F0 F : Int} {ix v : Int32} (h : GS ai0 ai sz rk fm bd F0 F0) (e : ai' = va_up ai 7 (upd (ai 7) ix.toNatClampNeg v)) (hF : F = F0) (h0 : 0 ≤ F0) (hi : 4 * F ≤ ix.toInt) : GS ai0 ai' sz rk fm bd F0 F0 := ⟨fun i hi1 u hu => by
  rw [up_at e, if_neg (by omega)]
  exact h.1 i hi1 u hu, fun i hi1 => by rw [up_ne e (by decide)]; exact h.2.1 i hi1, fun i h1 h2 => by omega⟩
theorem FVa_st7 {ai0 ai ai' : Nat → Nat → Int32} {sz rk fm bd : Int32} {x : Nat → Int32} (h : FVa ai0 sz rk fm bd (vn ai sz)) (e : ai' = va_up ai 7 x) : FVa ai0 sz rk fm bd (vn ai' sz) := by
  rw [vn_st (up_ne e (by decide))]
  exact h
theorem Fk_st {ai0 ai ai' : Nat → Nat → Int32} {k : Int} {P : Nat} {x : Nat → Int32} (h : Fk ai0 ai k) (e : ai' = va_up ai P x) (hP : 16 ≠ P) : Fk ai0 ai' k := fun j hj => by rw [up_ne e hP]; exact h j hj
-- behind the row and its norm
theorem GS_end {ai0 ai ai' : Nat → Nat → Int32} {sz rk fm bd : Int32} {F0 : Int} {ix v : Int32} (hP : RKa ai0 sz rk fm) (r3 : rk.toInt ≤ 3) (s4 : sz.toInt ≤ 4) (h : GS ai0 ai sz rk fm bd F0 F0) (h0 : 0 ≤ F0) (hv : FVa ai0 sz rk fm bd (vn ai sz)) (hr : RW7 ai sz F0 4) (e : ai' = va_up ai 8 (upd (ai 8) ix.toNatClampNeg v)) (hi : ix.toInt = F0) (hn : v.toInt = nmp (vn ai sz) 4) {F1 : Int} (h1 : F1 = F0 + 1) : GS ai0 ai' sz rk fm bd F0 F1 := by
  refine ⟨fun i hi1 u hu => by rw [up_ne e (by decide)]; exact h.1 i hi1 u hu, fun i hi1 => ?_, fun i h2 h3 => ?_⟩
  · rw [up_at e, if_neg (by omega)]
    exact h.2.1 i hi1
  · have ei : i = F0.toNat := by omega
    have er : ∀ u, u < 4 → row ai' 7 i u = vn ai sz u := fun u hu => by
      show (ai' 7 (4 * i + u)).toInt = _
      rw [up_ne e (by decide), ei]
      exact hr u (by omega)
    refine ⟨FV_congr (by omega) (by omega) hP.1 er hv, ?_⟩
    rw [up_at e, if_pos (by omega), hn, nmp_4]
    unfold nm
    rw [er 0 (by omega), er 1 (by omega), er 2 (by omega), er 3 (by omega)]
theorem GCo_end {ai0 ai ai' : Nat → Nat → Int32} {sz rk fm bd : Int32} {k F0 F1 : Int} {x : Nat → Int32} (hP : RKa ai0 sz rk fm) (r3 : rk.toInt ≤ 3) (h0 : 0 ≤ F0) (hv : FVa ai0 sz rk fm bd (vn ai sz)) (hk : Fk ai0 ai k) (hf : fm.toInt = k) (hr : RW7 ai sz F0 4) (e : ai' = va_up ai 8 x) (h1 : F1 = F0 + 1) : GCo ai0 ai' sz rk fm bd k F0 F1 := fun v hv2 hm => by
  refine ⟨F0.toNat, by omega, by omega, fun u hu => ?_⟩
  show (ai' 7 (4 * F0.toNat + u)).toInt = _
  rw [up_ne e (by decide), hr u (by omega)]
  refine (FV_det (by omega) (i64_nz hP.2) hP.1 hv2 hv (fun j hj => ?_) u hu).symm
  rw [hm j (by omega), ← hk j (by omega)]
  show _ = (if frv ai0 j < sz.toInt.toNat then (ai 16 (frv ai0 j)).toInt else 0)
  rw [if_pos (hP.1.2.2.1 j hj)]
-- the loop over the numbers
theorem RKa_up {L : List Nat} {ai0 ai ai1 : Nat → Nat → Int32} {sz rk fm : Int32} {x : Nat → Int32} (h : RKa ai0 sz rk fm) (hF : FR L ai0 ai) (hL : 0 ∉ L ∧ 13 ∉ L ∧ 14 ∉ L ∧ 15 ∉ L) (e : ai1 = va_up ai 16 x) : RKa ai1 sz rk fm := by
  rw [RKa_fr (L := [16]) (fun Q hQ => up_ne e (fun q => hQ (by rw [q]; decide))) (by decide), RKa_fr hF hL]
  exact h
theorem fr1 {L : List Nat} {ai0 ai ai1 : Nat → Nat → Int32} {x : Nat → Int32} (hF : FR L ai0 ai) (hL : 15 ∉ L) (e : ai1 = va_up ai 16 x) : frv ai1 = frv ai0 := by
  rw [frv_fr (L := [16]) (fun Q hQ => up_ne e (fun q => hQ (by rw [q]; decide))) (by decide), frv_fr hF hL]
theorem st16 {ai0 ai ai1 : Nat → Nat → Int32} {sz rk fm ix v : Int32} {k j : Nat} (hP : RKa ai0 sz rk fm) (e : ai1 = va_up ai 16 (upd (ai 16) ix.toNatClampNeg v)) (hi : ix = ai0 15 k) (hk : (k : Int) < fm.toInt) (hj : j < k) : ai1 16 (frv ai0 j) = ai 16 (frv ai0 j) := by
  rw [up_at e, if_neg]
  intro q
  have : frv ai0 j = frv ai0 k := by rw [q, hi]; rfl
  have := hP.1.2.2.2.2.2.1 j k (by omega) (by omega) this
  omega
theorem st16k {ai0 ai ai1 : Nat → Nat → Int32} {ix v : Int32} {k : Nat} (e : ai1 = va_up ai 16 (upd (ai 16) ix.toNatClampNeg v)) (hi : ix = ai0 15 k) : ai1 16 (frv ai0 k) = v := by
  rw [up_at e, if_pos]
  rw [hi]
  rfl
theorem NWk_up {L : List Nat} {ai0 ai ai1 : Nat → Nat → Int32} {sz rk fm bd ix v : Int32} {k : Nat} {k1 : Int} (hP : RKa ai0 sz rk fm) (hF : FR L ai0 ai) (hL : 15 ∉ L) (h : NWk ai0 k bd) (hk : Fk ai0 ai k) (e : ai1 = va_up ai 16 (upd (ai 16) ix.toNatClampNeg v)) (hi : ix = ai0 15 k) (hf : (k : Int) < fm.toInt) (hv : -bd.toInt ≤ v.toInt ∧ v.toInt ≤ bd.toInt) (h1 : k1 = k + 1) : NWk ai1 k1 bd := fun j hj => by
  rw [fr1 hF hL e]
  by_cases q : j = k
  · rw [q, st16k e hi]
    exact hv
  · rw [st16 hP e hi hf (by omega), hk j (by omega)]
    exact h j (by omega)
theorem pw_pre {F0 F x b : Int} {p C : Int} (h1 : F ≤ F0 + (x + b) * p) (hx : x ≤ b) (hp : 1 ≤ p) (hC : F0 + (2 * b + 1) * p ≤ C) : F + p ≤ C := by
  have : (x + b + 1) * p ≤ (2 * b + 1) * p := Int.mul_le_mul_of_nonneg_right (by omega) (by omega)
  have e : (x + b + 1) * p = (x + b) * p + p := by rw [Int.add_mul, Int.one_mul]
  omega
theorem pw_stp {F0 F F1 x x1 b : Int} {p : Int} (h1 : F0 ≤ F ∧ F ≤ F0 + (x + b) * p) (h2 : F ≤ F1 ∧ F1 ≤ F + p) (hx : x1 = x + 1) : F0 ≤ F1 ∧ F1 ≤ F0 + (x1 + b) * p := by
  have e : (x1 + b) * p = (x + b) * p + p := by rw [hx, show x + 1 + b = x + b + 1 by omega, Int.add_mul, Int.one_mul]
  omega
theorem pw_end {F0 F x b : Int} {p : Int} (h1 : F0 ≤ F ∧ F ≤ F0 + (x + b) * p) (hx : x = b + 1) : F0 ≤ F ∧ F ≤ F0 + (2 * b + 1) * p := by
  have e : x + b = 2 * b + 1 := by omega
  rw [e] at h1
  exact h1
theorem pw_0 {F0 x b : Int} {p : Int} (hx : x = -b) : F0 ≤ F0 ∧ F0 ≤ F0 + (x + b) * p := by
  have e : x + b = 0 := by omega
  rw [e, Int.zero_mul]
  omega
theorem pwb_s {b : Int} {m k : Nat} (h : k < m) : pwb b (m - k) = (2 * b + 1) * pwb b (m - (k + 1)) := by
  rw [show m - k = (m - (k + 1)) + 1 by omega]
  rfl
theorem Fk_up {ai0 ai ai1 ai2 : Nat → Nat → Int32} {sz rk fm ix v : Int32} {k : Nat} {k1 : Int} (hP : RKa ai0 sz rk fm) (hk : Fk ai0 ai k) (e : ai1 = va_up ai 16 (upd (ai 16) ix.toNatClampNeg v)) (hi : ix = ai0 15 k) (hf : (k : Int) < fm.toInt) (h2 : Fk ai1 ai2 k1) (h1 : k1 = k + 1) (er : frv ai1 = frv ai0) : Fk ai0 ai2 k := fun j hj => by
  have a := h2 j (by omega)
  rw [er] at a
  rw [a, st16 hP e hi hf (by omega)]
  exact hk j hj
theorem nm_congr {v w : Nat → Int} (h : ∀ u, u < 4 → v u = w u) : nm v = nm w := by
  unfold nm
  rw [h 0 (by omega), h 1 (by omega), h 2 (by omega), h 3 (by omega)]
theorem FR16 {ai ai1 : Nat → Nat → Int32} {x : Nat → Int32} (e : ai1 = va_up ai 16 x) : FR [16] ai ai1 := fun Q hQ => up_ne e (fun q => hQ (by rw [q]; decide))
theorem GS_up {L : List Nat} {ai0 ai ai1 ai2 : Nat → Nat → Int32} {sz rk fm bd : Int32} {F0 F F1 : Int} {x : Nat → Int32} (hP : RKa ai0 sz rk fm) (r3 : rk.toInt ≤ 3) (s4 : sz.toInt ≤ 4) (hF : FR L ai0 ai) (hL : 0 ∉ L ∧ 13 ∉ L ∧ 14 ∉ L ∧ 15 ∉ L) (h : GS ai0 ai sz rk fm bd F0 F) (e : ai1 = va_up ai 16 x) (h2 : GS ai1 ai2 sz rk fm bd F F1) (h0 : F0 ≤ F) : GS ai0 ai2 sz rk fm bd F0 F1 := by
  have e7 : ai1 7 = ai 7 := up_ne e (by decide)
  have e8 : ai1 8 = ai 8 := up_ne e (by decide)
  have rw7 : ∀ i : Nat, (i : Int) < F → ∀ u, u < 4 → row ai2 7 i u = row ai 7 i u := fun i hi u hu => by
    show (ai2 7 _).toInt = (ai 7 _).toInt
    rw [h2.1 i hi u hu, e7]
  refine ⟨fun i hi u hu => by rw [h2.1 i (by omega) u hu, e7]; exact h.1 i hi u hu, fun i hi => by rw [h2.2.1 i (by omega), e8]; exact h.2.1 i hi, fun i h3 h4 => ?_⟩
  by_cases q : (i : Int) < F
  · have a := h.2.2 i h3 q
    refine ⟨FV_congr (by omega) (by omega) hP.1 (rw7 i q) a.1, ?_⟩
    rw [h2.2.1 i q, e8, a.2, nm_congr (rw7 i q)]
  · have a := h2.2.2 i (by omega) h4
    rw [FVa_fr (FR16 e) (by decide), FVa_fr hF hL] at a
    exact a
theorem GCv_up {L : List Nat} {ai0 ai ai1 ai2 : Nat → Nat → Int32} {sz rk fm bd ix x : Int32} {F0 F F1 x1 k1 : Int} {k : Nat} (hP : RKa ai0 sz rk fm) (hF : FR L ai0 ai) (hL : 0 ∉ L ∧ 13 ∉ L ∧ 14 ∉ L ∧ 15 ∉ L) (h : GCv ai0 ai sz rk fm bd k F0 F x.toInt) (hk : Fk ai0 ai k) (e : ai1 = va_up ai 16 (upd (ai 16) ix.toNatClampNeg x)) (hi : ix = ai0 15 k) (hf : (k : Int) < fm.toInt) (h2 : GS ai1 ai2 sz rk fm bd F F1) (hc : GCo ai1 ai2 sz rk fm bd k1 F F1) (h0 : F0 ≤ F) (h01 : F ≤ F1) (hk1 : k1 = k + 1) (hx1 : x1 = x.toInt + 1) : GCv ai0 ai2 sz rk fm bd k F0 F1 x1 := fun v hv hm hx => by
  have e7 : ai1 7 = ai 7 := up_ne e (by decide)
  by_cases q : v (frv ai0 k) < x.toInt
  · obtain ⟨i, i1, i2, i3⟩ := h v hv hm q
    refine ⟨i, i1, by omega, fun u hu => ?_⟩
    rw [← i3 u hu]
    show (ai2 7 _).toInt = (ai 7 _).toInt
    rw [h2.1 i i2 u hu, e7]
  · obtain ⟨i, i1, i2, i3⟩ := hc v (by rw [FVa_fr (FR16 e) (by decide), FVa_fr hF hL]; exact hv) (fun j hj => by
      rw [fr1 hF hL.2.2.2 e]
      by_cases q2 : j = k
      · rw [q2, st16k e hi]
        omega
      · rw [st16 hP e hi hf (by omega), hk j (by omega)]
        exact hm j (by omega))
    exact ⟨i, by omega, i2, i3⟩
theorem GCv_0 {ai0 ai : Nat → Nat → Int32} {sz rk fm bd : Int32} {F0 F1 x : Int} {k : Nat} (hP : RKa ai0 sz rk fm) (s4 : sz.toInt ≤ 4) (hf : (k : Int) < fm.toInt) (hx : x ≤ -bd.toInt) : GCv ai0 ai sz rk fm bd k F0 F1 x := fun v hv hm h => by
  have a := hP.1.2.2.1 k (by omega)
  have := hv.1 (frv ai0 k) (by omega)
  omega
theorem GCo_of {ai0 ai : Nat → Nat → Int32} {sz rk fm bd : Int32} {F0 F1 x : Int} {k : Nat} (hP : RKa ai0 sz rk fm) (s4 : sz.toInt ≤ 4) (hf : (k : Int) < fm.toInt) (hx : bd.toInt < x) (h : GCv ai0 ai sz rk fm bd k F0 F1 x) : GCo ai0 ai sz rk fm bd k F0 F1 := fun v hv hm => by
  have a := hP.1.2.2.1 k (by omega)
  have := hv.1 (frv ai0 k) (by omega)
  exact h v hv (fun j hj => hm j (by omega)) (by omega)
theorem vn_in {ai : Nat → Nat → Int32} {sz : Int32} {u : Nat} (h : (u : Int) < sz.toInt) : vn ai sz u = (ai 16 u).toInt := if_pos (by omega)
theorem vn_out {ai : Nat → Nat → Int32} {sz : Int32} {u : Nat} (h : sz.toInt ≤ (u : Int)) : vn ai sz u = 0 := if_neg (by omega)
theorem nmp_0 (v : Nat → Int) : (0 : Int32).toInt = nmp v (0 : Int32).toInt.toNat := by rw [show (0 : Int32).toInt = 0 by decide]; rfl
