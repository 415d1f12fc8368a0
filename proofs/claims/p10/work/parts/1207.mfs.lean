def fitc (v w : Int) : Prop := (0 < v → v ≤ w) ∧ (v < 0 → w ≤ v)
theorem nfit {v w : Nat → Int} {u : Nat} (hu : u < 4) (h : ¬ fitc (v u) (w u)) : ¬ Fit v w := fun q => h (q u hu)
theorem fa_up {f g : Nat → Int} {n : Int32} (h0 : 0 ≤ n.toInt) (h : ∀ u : Nat, (u : Int) < n.toInt → fitc (f u) (g u)) (hn : fitc (f n.toInt.toNat) (g n.toInt.toNat)) : ∀ u : Nat, (u : Int) < n.toInt + 1 → fitc (f u) (g u) := fun u hu => by
  by_cases q : u = n.toInt.toNat
  · rw [q]; exact hn
  · exact h u (by omega)
def LOr (ai0 ai : Nat → Nat → Int32) (k : Nat) (m m' : Int) : Prop := (m' = m ∧ ai = ai0 ∧ ∃ i : Nat, (i : Int) < m ∧ Fit (row ai0 11 i) (row ai0 7 k)) ∨ (m' = m + 1 ∧ (∀ i : Nat, (i : Int) < m → ¬ Fit (row ai0 11 i) (row ai0 7 k)) ∧ (∀ i : Nat, (i : Int) < m → ∀ u : Nat, u < 4 → row ai 11 i u = row ai0 11 i u) ∧ (∀ u : Nat, u < 4 → row ai 11 m.toNat u = row ai0 7 k u))
theorem lo_old {ai0 ai : Nat → Nat → Int32} {k i : Nat} {m m' : Int} (e : ai = ai0) (em : m' = m) (hi : (i : Int) < m) (hf : Fit (row ai 11 i) (row ai 7 k)) : LOr ai0 ai k m m' := by
  subst e
  exact Or.inl ⟨em, rfl, i, hi, hf⟩
theorem lo_no {P : Nat → Prop} {n : Int32} (h0 : 0 ≤ n.toInt) (h : ∀ i : Nat, (i : Int) < n.toInt → P i) (hn : P n.toInt.toNat) {m : Int} (hm : m ≤ n.toInt + 1) : ∀ i : Nat, (i : Int) < m → P i := fun i hi => by
  by_cases q : i = n.toInt.toNat
  · rw [q]; exact hn
  · exact h i (by omega)
theorem lo_r3 {ai0 ai ai' : Nat → Nat → Int32} {m : Int} {ix v : Int32} (h : ∀ i : Nat, (i : Int) < m → ∀ u : Nat, u < 4 → row ai 11 i u = row ai0 11 i u) (e : ai' = va_up ai 11 (upd (ai 11) ix.toNatClampNeg v)) (hi : 4 * m ≤ ix.toInt) : ∀ i : Nat, (i : Int) < m → ∀ u : Nat, u < 4 → row ai' 11 i u = row ai0 11 i u := fun i h1 u hu => by
  rw [← h i h1 u hu]
  show (ai' 11 _).toInt = (ai 11 _).toInt
  rw [up_at e, if_neg (by omega)]
theorem lo_r4 {ai ai' : Nat → Nat → Int32} {f : Nat → Int} {m : Int} {n ix v : Int32} (h : ∀ u : Nat, (u : Int) < n.toInt → (ai 11 (4 * m.toNat + u)).toInt = f u) (e : ai' = va_up ai 11 (upd (ai 11) ix.toNatClampNeg v)) (h0 : 0 ≤ n.toInt) (hm : 0 ≤ m) (hi : ix.toInt = 4 * m + n.toInt) (hv : v.toInt = f n.toInt.toNat) {n1 : Int} (h1 : n1 ≤ n.toInt + 1) : ∀ u : Nat, (u : Int) < n1 → (ai' 11 (4 * m.toNat + u)).toInt = f u := fun u hu => by
  rw [up_at e]
  by_cases q : u = n.toInt.toNat
  · rw [if_pos (by omega), hv, q]
  · rw [if_neg (by omega)]
    exact h u (by omega)
-- sorts
def SRT (ai : Nat → Nat → Int32) (m : Int) : Prop := (∀ i : Nat, (i : Int) < m → 0 ≤ (ai 12 i).toInt ∧ (ai 12 i).toInt < m) ∧ (∀ j : Nat, (j : Int) < m → ∃ i : Nat, (i : Int) < m ∧ (ai 12 i).toInt = j)
def SRk (ai : Nat → Nat → Int32) (n k : Int) : Prop := (∀ p : Nat, (p : Int) ≤ n → (p : Int) ≠ k → 0 ≤ (ai 12 p).toInt ∧ (ai 12 p).toInt < n) ∧ (∀ j : Nat, (j : Int) < n → ∃ p : Nat, (p : Int) ≤ n ∧ (p : Int) ≠ k ∧ (ai 12 p).toInt = j)
theorem SRT_0 {ai : Nat → Nat → Int32} {m : Int} (h : m ≤ 0) : SRT ai m := ⟨fun i hi => by omega, fun j hj => by omega⟩
theorem SRT_le {ai : Nat → Nat → Int32} {m m' : Int} (h : SRT ai m) (e : m' = m) : SRT ai m' := by rw [e]; exact h
theorem SRk_0 {ai : Nat → Nat → Int32} {n k : Int} (h : SRT ai n) (e : k = n) : SRk ai n k := ⟨fun p h1 h2 => h.1 p (by omega), fun j hj => by
  obtain ⟨i, hi, e2⟩ := h.2 j hj
  exact ⟨i, by omega, by omega, e2⟩⟩
theorem SRk_sh {ai ai' : Nat → Nat → Int32} {n k1 : Int} {k z : Int32} (h : SRk ai n k.toInt) (e : ai' = va_up ai 12 (upd (ai 12) k.toNatClampNeg z)) (h0 : 0 < k.toInt) (hn : k.toInt ≤ n) (hz : z = ai 12 (k.toInt - 1).toNat) (hk : k1 = k.toInt - 1) : SRk ai' n k1 := by
  have q1 := h.1 (k.toInt - 1).toNat (by omega) (by omega)
  refine ⟨fun p a1 a2 => ?_, fun j hj => ?_⟩
  · rw [up_at e]
    by_cases q : p = k.toInt.toNat
    · rw [if_pos q, hz]; exact q1
    · rw [if_neg q]; exact h.1 p a1 (by omega)
  · obtain ⟨p, b1, b2, b3⟩ := h.2 j hj
    by_cases q : p = (k.toInt - 1).toNat
    · refine ⟨k.toInt.toNat, by omega, by omega, ?_⟩
      rw [up_at e, if_pos rfl, hz, ← q]
      exact b3
    · refine ⟨p, b1, by omega, ?_⟩
      rw [up_at e, if_neg (by omega)]
      exact b3
theorem SRk_end {ai ai' : Nat → Nat → Int32} {m : Int} {n k : Int32} (h : SRk ai n.toInt k.toInt) (e : ai' = va_up ai 12 (upd (ai 12) k.toNatClampNeg n)) (h0 : 0 ≤ k.toInt) (hn : k.toInt ≤ n.toInt) (hm : m = n.toInt + 1) : SRT ai' m := by
  refine ⟨fun i hi => ?_, fun j hj => ?_⟩
  · rw [up_at e]
    by_cases q : i = k.toInt.toNat
    · rw [if_pos q]; omega
    · rw [if_neg q]
      have := h.1 i (by omega) (by omega)
      omega
  · by_cases q : (j : Int) = n.toInt
    · refine ⟨k.toInt.toNat, by omega, ?_⟩
      rw [up_at e, if_pos rfl, q]
    · obtain ⟨p, b1, b2, b3⟩ := h.2 j (by omega)
      refine ⟨p, by omega, ?_⟩
      rw [up_at e, if_neg (by omega)]
      exact b3
-- findSteps
def gn (ai : Nat → Nat → Int32) (k : Nat) : Int := (ai 8 k).toInt
def on (ai : Nat → Nat → Int32) (p : Nat) : Nat := (ai 10 p).toInt.toNat
def FND (ai : Nat → Nat → Int32) (sz rk fm bd : Int32) (F : Int) : Prop := RKa ai sz rk fm ∧ (∀ i : Nat, (i : Int) < F → FVa ai sz rk fm bd (row ai 7 i) ∧ gn ai i = (nm (row ai 7 i) : Int)) ∧ (∀ v : Nat → Int, FVa ai sz rk fm bd v → ∃ i : Nat, (i : Int) < F ∧ ∀ u, u < 4 → row ai 7 i u = v u)
theorem FND_fr {L : List Nat} {a b : Nat → Nat → Int32} {sz rk fm bd : Int32} {F : Int} (h : FND a sz rk fm bd F) (hF : FR L a b) (hL : 0 ∉ L ∧ 13 ∉ L ∧ 14 ∉ L ∧ 15 ∉ L) (h7 : 7 ∉ L ∧ 8 ∉ L) : FND b sz rk fm bd F := by
  have e7 : row b 7 = row a 7 := by funext i u; show (b 7 _).toInt = (a 7 _).toInt; rw [hF 7 h7.1]
  have e8 : gn b = gn a := by funext i; show (b 8 _).toInt = (a 8 _).toInt; rw [hF 8 h7.2]
  refine ⟨by rw [RKa_fr hF hL]; exact h.1, fun i hi => ?_, fun v hv => ?_⟩
  · rw [FVa_fr hF hL, e7, e8]
    exact h.2.1 i hi
  · rw [FVa_fr hF hL] at hv
    rw [e7]
    exact h.2.2 v hv
theorem FRu {P : Nat} {ai ai1 : Nat → Nat → Int32} {x : Nat → Int32} (e : ai1 = va_up ai P x) : FR [P] ai ai1 := fun Q hQ => up_ne e (fun q => hQ (by rw [q]; exact List.mem_singleton.mpr rfl))
theorem FND_of {L : List Nat} {a b : Nat → Nat → Int32} {sz rk fm bd : Int32} {F0 F k : Int} (hP : RKa a sz rk fm) (hF : FR L a b) (hL : 0 ∉ L ∧ 13 ∉ L ∧ 14 ∉ L ∧ 15 ∉ L) (h0 : F0 = 0) (hk : k = 0) (h1 : GS a b sz rk fm bd F0 F) (h2 : GCo a b sz rk fm bd k F0 F) : FND b sz rk fm bd F := by
  refine ⟨by rw [RKa_fr hF hL]; exact hP, fun i hi => ?_, fun v hv => ?_⟩
  · rw [FVa_fr hF hL]
    exact h1.2.2 i (by omega) hi
  · rw [FVa_fr hF hL] at hv
    obtain ⟨i, i1, i2, i3⟩ := h2 v hv (fun j hj => by omega)
    exact ⟨i, i2, i3⟩
theorem pwb_fin : pwb 1 1 ≤ 99999 ∧ pwb 2 2 ≤ 99999 ∧ pwb 3 3 ≤ 99999 ∧ pwb 4 4 ≤ 99999 ∧ pwb 6 1 ≤ 99999 ∧ pwb 12 2 ≤ 99999 ∧ pwb 18 3 ≤ 99999 ∧ pwb 72 1 ≤ 99999 ∧ pwb 144 2 ≤ 99999 ∧ pwb 1296 1 ≤ 99999 := by decide
def GRT (rk g : Int32) : Prop := (rk.toInt = 0 ∧ g.toInt = 1) ∨ (rk.toInt = 1 ∧ g.toInt = 6) ∨ (rk.toInt = 2 ∧ g.toInt = 72) ∨ (rk.toInt = 3 ∧ g.toInt = 1296)
theorem bd_ok {ai : Nat → Nat → Int32} {sz rk fm g z : Int32} (hP : RKa ai sz rk fm) (s0 : 0 ≤ sz.toInt) (s4 : sz.toInt ≤ 4) (f1 : 1 ≤ fm.toInt) (r0 : 0 ≤ rk.toInt) (hg : GRT rk g) (e : z = fm * g) : (0 ≤ z.toInt ∧ z.toInt ≤ 1296) ∧ (rk.toInt = 0 → z.toInt ≤ 4) ∧ (rk.toInt = 2 → z.toInt ≤ 144) ∧ pwb z.toInt (fm.toInt.toNat - 0) ≤ 99999 := by
  have hs := hP.1.1
  have ez : z.toInt = fm.toInt * g.toInt := by
    rw [e, Int32.toInt_mul, Int.bmod_eq_of_le]
    · rcases hg with ⟨_, q⟩ | ⟨_, q⟩ | ⟨_, q⟩ | ⟨_, q⟩ <;> rw [q] <;> omega
    · rcases hg with ⟨_, q⟩ | ⟨_, q⟩ | ⟨_, q⟩ | ⟨_, q⟩ <;> rw [q] <;> omega
  have pf := pwb_fin
  have key : ∀ (f : Nat) (b : Int), fm.toInt = f → z.toInt = b → pwb b f ≤ 99999 → pwb z.toInt (fm.toInt.toNat - 0) ≤ 99999 := fun f b h1 h2 h3 => by
    rw [h1, h2, show ((f : Int).toNat - 0) = f by omega]
    exact h3
  rcases hg with ⟨hr, q⟩ | ⟨hr, q⟩ | ⟨hr, q⟩ | ⟨hr, q⟩
  · rw [q] at ez
    refine ⟨by omega, by omega, by omega, ?_⟩
    rcases (show fm.toInt = 1 ∨ fm.toInt = 2 ∨ fm.toInt = 3 ∨ fm.toInt = 4 by omega) with h | h | h | h
    · exact key 1 1 (by omega) (by omega) pf.1
    · exact key 2 2 (by omega) (by omega) pf.2.1
    · exact key 3 3 (by omega) (by omega) pf.2.2.1
    · exact key 4 4 (by omega) (by omega) pf.2.2.2.1
  · rw [q] at ez
    refine ⟨by omega, by omega, by omega, ?_⟩
    rcases (show fm.toInt = 1 ∨ fm.toInt = 2 ∨ fm.toInt = 3 by omega) with h | h | h
    · exact key 1 6 (by omega) (by omega) pf.2.2.2.2.1
    · exact key 2 12 (by omega) (by omega) pf.2.2.2.2.2.1
    · exact key 3 18 (by omega) (by omega) pf.2.2.2.2.2.2.1
  · rw [q] at ez
    refine ⟨by omega, by omega, by omega, ?_⟩
    rcases (show fm.toInt = 1 ∨ fm.toInt = 2 by omega) with h | h
    · exact key 1 72 (by omega) (by omega) pf.2.2.2.2.2.2.2.1
    · exact key 2 144 (by omega) (by omega) pf.2.2.2.2.2.2.2.2.1
  · rw [q] at ez
    refine ⟨by omega, by omega, by omega, ?_⟩
    exact key 1 1296 (by omega) (by omega) pf.2.2.2.2.2.2.2.2.2
def CT (ai : Nat → Nat → Int32) (n : Int) : Prop := ∀ v : Nat, v ≤ 6000 → (ai 9 v).toInt = cnt n.toNat (gn ai) v
theorem gn_up {ai ai' : Nat → Nat → Int32} {P : Nat} {x : Nat → Int32} (e : ai' = va_up ai P x) (h : 8 ≠ P) : gn ai' = gn ai := by funext i; show (ai' 8 _).toInt = (ai 8 _).toInt; rw [up_ne e h]
theorem CT_0 {ai : Nat → Nat → Int32} {n m : Int} (h : ∀ v : Nat, (v : Int) < m → (ai 9 v).toInt = 0) (hm : 6001 ≤ m) (hn : n = 0) : CT ai n := fun v hv => by
  rw [h v (by omega), hn]
  rfl
theorem CT_st {ai ai' : Nat → Nat → Int32} {n z v : Int32} {n1 : Int} (h : CT ai n.toInt) (h0 : 0 ≤ n.toInt) (hz : z = ai 8 n.toInt.toNat) (z0 : 0 ≤ z.toInt) (e : ai' = va_up ai 9 (upd (ai 9) z.toNatClampNeg v)) (hv : v.toInt = (ai 9 z.toInt.toNat).toInt + 1) (z6 : z.toInt ≤ 6000) (h1 : n1 = n.toInt + 1) : CT ai' n1 := fun w hw => by
  rw [gn_up e (by decide), up_at e, h1, show (n.toInt + 1).toNat = n.toInt.toNat + 1 by omega]
  show _ = cnt n.toInt.toNat (gn ai) w + (if gn ai n.toInt.toNat = (w : Int) then 1 else 0)
  have eg : gn ai n.toInt.toNat = z.toInt := by rw [hz]; rfl
  rw [eg]
  by_cases q : w = z.toInt.toNat
  · rw [if_pos q, if_pos (by omega), hv, q, h z.toInt.toNat (by omega)]
  · rw [if_neg q, if_neg (by omega), h w hw]
    omega
def CP (ai : Nat → Nat → Int32) (F n : Int) : Prop := (∀ v : Nat, (v : Int) < n → v ≤ 6000 → (ai 9 v).toInt = cle F.toNat (gn ai) v) ∧ (∀ v : Nat, n ≤ (v : Int) → v ≤ 6000 → (ai 9 v).toInt = cnt F.toNat (gn ai) v)
theorem cle_neg {n : Nat} {g : Nat → Int} {v : Int} (h : ∀ j, 0 ≤ g j) (hv : v < 0) : cle n g v = 0 := by
  induction n with
  | zero => rfl
  | succ n ih =>
    show cle n g v + (if g n ≤ v then 1 else 0) = 0
    have := h n
    rw [if_neg (by omega), ih]
    rfl
theorem CP_1 {ai : Nat → Nat → Int32} {F n m : Int} (hI : IAM ai) (h : CT ai m) (hm : m = F) (hn : n = 1) : CP ai F n := by
  subst hm
  refine ⟨fun v h1 h2 => ?_, fun v h1 h2 => h v h2⟩
  have q : v = 0 := by omega
  rw [h v h2, cle_cnt, cle_neg (g := gn ai) (fun j => (IAM_at8 hI j).1) (by omega)]
  omega
theorem CP_b {ai : Nat → Nat → Int32} {F n : Int} (h : CP ai F n) (hF : 0 ≤ F) {v : Nat} (hv : v ≤ 6000) : 0 ≤ (ai 9 v).toInt ∧ (ai 9 v).toInt ≤ F := by
  by_cases q : (v : Int) < n
  · rw [h.1 v q hv]
    have := cle_b F.toNat (gn ai) v
    omega
  · rw [h.2 v (by omega) hv]
    have := cnt_b F.toNat (gn ai) v
    omega
theorem CP_st {ai ai' : Nat → Nat → Int32} {F n1 : Int} {n v : Int32} (h : CP ai F n.toInt) (h0 : 1 ≤ n.toInt) (h6 : n.toInt ≤ 6000) (e : ai' = va_up ai 9 (upd (ai 9) n.toNatClampNeg v)) (hv : v.toInt = (ai 9 n.toInt.toNat).toInt + (ai 9 (n.toInt - 1).toNat).toInt) (h1 : n1 = n.toInt + 1) : CP ai' F n1 := by
  refine ⟨fun w a1 a2 => ?_, fun w a1 a2 => ?_⟩
  · rw [gn_up e (by decide), up_at e]
    by_cases q : w = n.toInt.toNat
    · rw [if_pos q, hv, h.2 n.toInt.toNat (by omega) (by omega), h.1 (n.toInt - 1).toNat (by omega) (by omega), q, cle_cnt F.toNat (gn ai) (n.toInt.toNat : Int), show (((n.toInt - 1).toNat : Nat) : Int) = (n.toInt.toNat : Int) - 1 by omega]
      omega
    · rw [if_neg q]
      exact h.1 w (by omega) a2
  · rw [gn_up e (by decide), up_at e, if_neg (by omega)]
    exact h.2 w (by omega) a2
def PL (ai : Nat → Nat → Int32) (F k : Int) : Prop := (∀ v : Nat, v ≤ 6000 → (ai 9 v).toInt = cle F.toNat (gn ai) ((v : Int) - 1) + cnt (k + 1).toNat (gn ai) v) ∧ (∀ j : Nat, k < (j : Int) → (j : Int) < F → (ai 10 (ps F.toNat (gn ai) j).toNat).toInt = j)
theorem PL_0 {ai : Nat → Nat → Int32} {F n k : Int} (h : CP ai F n) (hn : 6001 ≤ n) (hk : k = F - 1) : PL ai F k := ⟨fun v hv => by
  rw [h.1 v (by omega) hv, cle_cnt, hk, show F - 1 + 1 = F by omega], fun j h1 h2 => by omega⟩
theorem PL_at {ai : Nat → Nat → Int32} {F : Int} {k z : Int32} (h : PL ai F k.toInt) (k0 : 0 ≤ k.toInt) (hk : k.toInt < F) (hz : z = ai 8 k.toInt.toNat) (z0 : 0 ≤ z.toInt) (z6 : z.toInt ≤ 6000) : (ai 9 z.toInt.toNat).toInt = ps F.toNat (gn ai) k.toInt.toNat + 1 ∧ 0 ≤ ps F.toNat (gn ai) k.toInt.toNat ∧ ps F.toNat (gn ai) k.toInt.toNat < F := by
  have eg : gn ai k.toInt.toNat = z.toInt := by rw [hz]; rfl
  have b := ps_b (n := F.toNat) (g := gn ai) (k := k.toInt.toNat) (by omega)
  refine ⟨?_, b.1, by omega⟩
  rw [h.1 z.toInt.toNat (by omega), show (k.toInt + 1).toNat = k.toInt.toNat + 1 by omega]
  unfold ps
  rw [eg, show ((z.toInt.toNat : Nat) : Int) = z.toInt by omega]
  show _ + (cnt k.toInt.toNat (gn ai) z.toInt + (if gn ai k.toInt.toNat = z.toInt then 1 else 0)) = _
  rw [if_pos eg]
  omega
theorem PL_st {ai ai1 ai2 : Nat → Nat → Int32} {F k1 : Int} {k z v z5 : Int32} (h : PL ai F k.toInt) (k0 : 0 ≤ k.toInt) (hk : k.toInt < F) (hz : z = ai 8 k.toInt.toNat) (z0 : 0 ≤ z.toInt) (z6 : z.toInt ≤ 6000) (e1 : ai1 = va_up ai 9 (upd (ai 9) z.toNatClampNeg v)) (hv : v.toInt = (ai 9 z.toInt.toNat).toInt - 1) (h5 : z5.toInt = ps F.toNat (gn ai) k.toInt.toNat) (e2 : ai2 = va_up ai1 10 (upd (ai1 10) z5.toNatClampNeg k)) (hk1 : k1 = k.toInt - 1) : PL ai2 F k1 := by
  have a := PL_at h k0 hk hz z0 z6
  have eg : gn ai k.toInt.toNat = z.toInt := by rw [hz]; rfl
  have g2 : gn ai2 = gn ai := (gn_up e2 (by decide)).trans (gn_up e1 (by decide))
  refine ⟨fun w hw => ?_, fun j h1 h2 => ?_⟩
  · rw [g2, up_ne e2 (by decide), up_at e1, show (k1 + 1).toNat = k.toInt.toNat by omega]
    by_cases q : w = z.toInt.toNat
    · rw [if_pos q, hv, a.1, show ((w : Nat) : Int) = z.toInt by omega]
      unfold ps
      rw [eg]
      omega
    · rw [if_neg q, h.1 w hw, show (k.toInt + 1).toNat = k.toInt.toNat + 1 by omega]
      show _ + (cnt k.toInt.toNat (gn ai) w + (if gn ai k.toInt.toNat = (w : Int) then 1 else 0)) = _
      rw [if_neg (by rw [eg]; omega)]
      omega
  · rw [g2, up_at e2]
    by_cases q : j = k.toInt.toNat
    · rw [if_pos (by rw [q, h5]), q]
      omega
    · have b := ps_b (n := F.toNat) (g := gn ai) (k := j) (by omega)
      rw [if_neg, up_ne e1 (by decide)]
      · exact h.2 j (by omega) h2
      · intro q2
        exact q (ps_inj (n := F.toNat) (g := gn ai) (by omega) (by omega) (by omega))
theorem PL_ord {ai : Nat → Nat → Int32} {F k : Int} (h : PL ai F k) (hk : k < 0) : Ord F.toNat (gn ai) (on ai) := ord_of (fun j hj => by
  show (ai 10 _).toInt.toNat = j
  rw [h.2 j (by omega) (by omega)]
  omega)
def MVa (ai : Nat → Nat → Int32) (sz rk fm bd : Int32) (x : Nat → Int) : Prop := MinV (ev ai) (bbv ai) (wkv ai) (frv ai) (mnv ai rk).toInt sz.toInt.toNat rk.toInt.toNat fm.toInt.toNat bd.toInt x
def KPa (ai : Nat → Nat → Int32) (sz rk fm bd : Int32) (p m : Int) : Prop := Kept (FVa ai sz rk fm bd) (MVa ai sz rk fm bd) (row ai 7) (on ai) p.toNat (row ai 11) m.toNat
theorem KPa_0 {ai : Nat → Nat → Int32} {sz rk fm bd : Int32} {p m : Int} (hp : p = 0) (hm : m = 0) : KPa ai sz rk fm bd p m := by
  subst hp
  subst hm
  exact kept_0
theorem mnv_1 {ai : Nat → Nat → Int32} {rk : Int32} (h : rk.toInt = 1) : (mnv ai rk).toInt = ev ai (bbv ai 0) (wkv ai 0) := by
  unfold mnv mn
  rw [if_neg (q_ne (b := 0) rfl (by decide +kernel) (by omega)), if_pos (q_eq (b := 1) rfl (by decide +kernel) h)]
  exact ln_i2l rfl
theorem kp_new {ai : Nat → Nat → Int32} {sz rk fm bd : Int32} {F p m : Int} {z' : Nat → Nat → Int} (hN : FND ai sz rk fm bd F) (s4 : sz.toInt ≤ 4) (r3 : rk.toInt ≤ 3) (hO : Ord F.toNat (gn ai) (on ai)) (p0 : 0 ≤ p) (hp : p < F) (h : KPa ai sz rk fm bd p m) (m0 : 0 ≤ m) (hno : ∀ i : Nat, (i : Int) < m → ¬ Fit (row ai 11 i) (row ai 7 (on ai p.toNat))) (h1 : ∀ i : Nat, (i : Int) < m → ∀ u : Nat, u < 4 → z' i u = row ai 11 i u) (h2 : ∀ u : Nat, u < 4 → z' m.toNat u = row ai 7 (on ai p.toNat) u) : Kept (FVa ai sz rk fm bd) (MVa ai sz rk fm bd) (row ai 7) (on ai) (p.toNat + 1) z' (m.toNat + 1) :=
  kept_new (N := F.toNat) (g := gn ai) (by omega) (by omega) hN.1.1 (fun k hk => (hN.2.1 k (by omega)).2) (fun k hk => (hN.2.1 k (by omega)).1) (fun v hv => by
    obtain ⟨i, i1, i2⟩ := hN.2.2 v hv
    exact ⟨i, by omega, i2⟩) hO (by omega) h (fun i hi => hno i (by omega)) (fun i hi => h1 i (by omega)) h2
theorem kp_lt {ai : Nat → Nat → Int32} {sz rk fm bd g : Int32} {F p m : Int} (hI : IAM ai) (hN : FND ai sz rk fm bd F) (s0 : 0 ≤ sz.toInt) (s4 : sz.toInt ≤ 4) (f1 : 1 ≤ fm.toInt) (r0 : 0 ≤ rk.toInt) (r3 : rk.toInt ≤ 3) (hg : GRT rk g) (eb : bd = fm * g) (hO : Ord F.toNat (gn ai) (on ai)) (p0 : 0 ≤ p) (hp : p < F) (h : KPa ai sz rk fm bd p m) (m0 : 0 ≤ m) (hno : ∀ i : Nat, (i : Int) < m → ¬ Fit (row ai 11 i) (row ai 7 (on ai p.toNat))) : m < 6000 := by
  have K := kp_new (z' := fun i u => if i = m.toNat then row ai 7 (on ai p.toNat) u else row ai 11 i u) hN s4 r3 hO p0 hp h m0 hno (fun i hi u _ => if_neg (by omega)) (fun u _ => if_pos rfl)
  have b := bd_ok hN.1 s0 s4 f1 r0 hg eb
  have := many_lt (e := ev ai) (bb := bbv ai) (wk := wkv ai) (fr := frv ai) (dl := (mnv ai rk).toInt) (n := sz.toInt.toNat) (r := rk.toInt.toNat) (f := fm.toInt.toNat) (b := bd.toInt) (z := fun i u => if i = m.toNat then row ai 7 (on ai p.toNat) u else row ai 11 i u) (m := m.toNat + 1) (by omega) (by omega) (by omega) (i64_nz hN.1.2) hN.1.1 b.1.2 (fun q => b.2.1 (by omega)) (fun q => b.2.2.1 (by omega)) (fun i j => IAM_at0 hI _) (fun q => mnv_1 (by omega)) (fun i hi => (K.1 i hi).1) (fun i hi => (K.1 i hi).2) K.2.1
  omega
theorem MVa_fr {L : List Nat} {a b : Nat → Nat → Int32} {sz rk fm bd : Int32} (h : FR L a b) (h0 : 0 ∉ L ∧ 13 ∉ L ∧ 14 ∉ L ∧ 15 ∉ L) : MVa b sz rk fm bd = MVa a sz rk fm bd := by
  funext v
  unfold MVa
  rw [ev_fr h h0.1, bbv_fr h h0.2.2.1, wkv_fr h h0.2.1, frv_fr h h0.2.2.2, mnv_fr h ⟨h0.1, h0.2.1, h0.2.2.1⟩]
theorem kp_step {ai ai' : Nat → Nat → Int32} {sz rk fm bd z : Int32} {F p m m' p1 : Int} (hN : FND ai sz rk fm bd F) (s4 : sz.toInt ≤ 4) (r3 : rk.toInt ≤ 3) (hO : Ord F.toNat (gn ai) (on ai)) (p0 : 0 ≤ p) (hp : p < F) (h : KPa ai sz rk fm bd p m) (m0 : 0 ≤ m) (hz : z = ai 10 p.toNat) (hF : FR [11] ai ai') (hl : LOr ai ai' z.toInt.toNat m m') (h1 : p1 = p + 1) : KPa ai' sz rk fm bd p1 m' := by
  have ez : z.toInt.toNat = on ai p.toNat := by rw [hz]; rfl
  rw [ez] at hl
  have ep : p1.toNat = p.toNat + 1 := by omega
  rcases hl with ⟨e1, e2, i, hi, hf⟩ | ⟨e1, q1, q2, q3⟩
  · subst e2
    unfold KPa
    rw [ep, e1]
    exact kept_old h (i := i) (by omega) hf
  · have K := kp_new hN s4 r3 hO p0 hp h m0 q1 q2 q3
    have e7 : row ai' 7 = row ai 7 := by funext i u; show (ai' 7 _).toInt = (ai 7 _).toInt; rw [hF 7 (by decide)]
    have eo : on ai' = on ai := by funext i; show (ai' 10 _).toInt.toNat = (ai 10 _).toInt.toNat; rw [hF 10 (by decide)]
    unfold KPa
    rw [ep, show m'.toNat = m.toNat + 1 by omega, e7, eo, MVa_fr hF (by decide), show FVa ai' sz rk fm bd = FVa ai sz rk fm bd from funext fun v => FVa_fr hF (by decide)]
    exact K
theorem Ord_fr {ai ai' : Nat → Nat → Int32} {F : Int} (h : Ord F.toNat (gn ai) (on ai)) (hF : FR [11] ai ai') : Ord F.toNat (gn ai') (on ai') := by
  rw [show gn ai' = gn ai by funext i; show (ai' 8 _).toInt = (ai 8 _).toInt; rw [hF 8 (by decide)], show on ai' = on ai by funext i; show (ai' 10 _).toInt.toNat = (ai 10 _).toInt.toNat; rw [hF 10 (by decide)]]
  exact h
def CIa (ai : Nat → Nat → Int32) (sz : Int32) (m : Int) : Prop := (∀ i : Nat, (i : Int) < m → 0 ≤ (ai 12 i).toInt ∧ (ai 12 i).toInt < m) ∧ (∀ i : Nat, (i : Int) < m → ∃ u : Nat, (u : Int) < sz.toInt ∧ (ai 11 (4 * (ai 12 i).toInt.toNat + u)).toInt ≠ 0) ∧ (∀ i : Nat, (i : Int) < m → ∃ k : Nat, (k : Int) < m ∧ ∀ u : Nat, (u : Int) < sz.toInt → (ai 11 (4 * (ai 12 k).toInt.toNat + u)).toInt = -(ai 11 (4 * (ai 12 i).toInt.toNat + u)).toInt)
theorem CIa_0 {ai : Nat → Nat → Int32} {sz : Int32} {m : Int} (h : m ≤ 0) : CIa ai sz m := ⟨fun i hi => by omega, fun i hi => by omega, fun i hi => by omega⟩
theorem ci_ok {ai ai' : Nat → Nat → Int32} {sz rk fm bd : Int32} {F p m : Int} (hN : FND ai sz rk fm bd F) (s0 : 0 ≤ sz.toInt) (s4 : sz.toInt ≤ 4) (r3 : rk.toInt ≤ 3) (hO : Ord F.toNat (gn ai) (on ai)) (hp : p = F) (h : KPa ai sz rk fm bd p m) (hF : FR [12] ai ai') (hS : SRT ai' m) : CIa ai' sz m := by
  have e11 : ai' 11 = ai 11 := hF 11 (by decide)
  refine ⟨hS.1, fun i hi => ?_, fun i hi => ?_⟩
  · have b := hS.1 i hi
    obtain ⟨u, hu, hne⟩ := (h.1 (ai' 12 i).toInt.toNat (by omega)).1.2.2.1
    refine ⟨u, by omega, ?_⟩
    rw [e11]
    exact hne
  · have b := hS.1 i hi
    obtain ⟨k, hk, e⟩ := kept_neg (e := ev ai) (bb := bbv ai) (wk := wkv ai) (fr := frv ai) (dl := (mnv ai rk).toInt) (n := sz.toInt.toNat) (r := rk.toInt.toNat) (f := fm.toInt.toNat) (b := bd.toInt) (z := row ai 11) (m := m.toNat) (o := on ai) (N := F.toNat) (g := gn ai) (w := row ai 7) (by omega) (fun v hv => by
      obtain ⟨i, i1, i2⟩ := hN.2.2 v hv
      exact ⟨i, by omega, i2⟩) hO (by rw [← hp]; exact h) (i := (ai' 12 i).toInt.toNat) (by omega)
    obtain ⟨j, hj, ej⟩ := hS.2 k (by omega)
    refine ⟨j, hj, fun u hu => ?_⟩
    rw [e11, show (ai' 12 j).toInt.toNat = k by omega]
    exact e u (by omega)
