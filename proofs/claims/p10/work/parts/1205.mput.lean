def cM (ai : Nat → Nat → Int32) (al : Nat → Nat → Int64) (k i j : Nat) : Int := mkk (ev ai) (bbv ai) (wkv ai) (fun i => (al 18 i).toInt) k i j
theorem cM_eq {ai : Nat → Nat → Int32} {al : Nat → Nat → Int64} {k i j : Nat} (h : j = k) : cM ai al k i j = (al 18 i).toInt := if_pos h
theorem cM_ne {ai : Nat → Nat → Int32} {al : Nat → Nat → Int64} {k i j : Nat} (h : j ≠ k) : cM ai al k i j = ev ai (bbv ai i) (wkv ai j) := if_neg h
def SQ (ai : Nat → Nat → Int32) (al0 al : Nat → Nat → Int64) (k r i0 j0 : Int) : Prop := ∀ i j : Nat, (i : Int) < r → (j : Int) < r → ((i : Int) < i0 ∨ ((i : Int) = i0 ∧ (j : Int) < j0)) → (al 17 (3 * i + j)).toInt = cM ai al0 k.toNat i j
theorem SQ_0 {ai : Nat → Nat → Int32} {al0 al : Nat → Nat → Int64} {k r i0 j0 : Int} (h1 : i0 = 0) (h2 : j0 = 0) : SQ ai al0 al k r i0 j0 := fun i j _ _ h => by omega
theorem SQ_row {ai : Nat → Nat → Int32} {al0 al : Nat → Nat → Int64} {k r i0 j0 i1 j1 : Int} (h : SQ ai al0 al k r i0 j0) (hj : r ≤ j0) (h1 : i1 = i0 + 1) (h2 : j1 = 0) : SQ ai al0 al k r i1 j1 := fun i j hi hj h9 => h i j hi hj (by omega)
theorem SQ_row0 {ai : Nat → Nat → Int32} {al0 al : Nat → Nat → Int64} {k r i0 j0 j1 : Int} (h : SQ ai al0 al k r i0 j0) (h0 : j0 = 0) (h1 : j1 = 0) : SQ ai al0 al k r i0 j1 := fun i j hi hj h9 => h i j hi hj (by omega)
theorem SQ_st {ai : Nat → Nat → Int32} {al0 al al' : Nat → Nat → Int64} {k r i0 j0 j1 : Int} {n : Int32} {v : Int64} (h : SQ ai al0 al k r i0 j0) (hr : r ≤ 3) (e : al' = va_up al 17 (vp_updL (al 17) n.toNatClampNeg v)) (hn : n.toInt = 3 * i0 + j0) (hi : 0 ≤ i0) (hj : 0 ≤ j0) (hj3 : j0 < r) (hv : v.toInt = cM ai al0 k.toNat i0.toNat j0.toNat) (h1 : j1 = j0 + 1) : SQ ai al0 al' k r i0 j1 := fun i j a1 a2 h9 => by
  rw [upl_at e]
  by_cases q : i = i0.toNat ∧ j = j0.toNat
  · rw [if_pos (by omega), hv, q.1, q.2]
  · rw [if_neg (by omega)]
    exact h i j a1 a2 (by omega)
theorem sq_at {ai : Nat → Nat → Int32} {al0 al : Nat → Nat → Int64} {k r i0 j0 : Int} (h : SQ ai al0 al k r i0 j0) (hr : r ≤ i0) (hp : ∀ j : Nat, (j : Int) < r → -31104 ≤ (al0 18 j).toInt ∧ (al0 18 j).toInt ≤ 31104) (hI : IAM ai) {i j : Nat} (hi : (i : Int) < r) (hj : (j : Int) < r) {y : Int64} (e : y = al 17 (3 * i + j)) : y.toInt = cM ai al0 k.toNat i j ∧ -31104 ≤ y.toInt ∧ y.toInt ≤ 31104 := by
  have e1 : y.toInt = cM ai al0 k.toNat i j := by rw [e]; exact h i j hi hj (Or.inl (by omega))
  refine ⟨e1, ?_⟩
  rw [e1]
  by_cases q : j = k.toNat
  · rw [cM_eq q]
    exact hp i hi
  · rw [cM_ne q]
    have : -6 ≤ ev ai (bbv ai i) (wkv ai j) ∧ ev ai (bbv ai i) (wkv ai j) ≤ 6 := IAM_at0 hI _
    omega
theorem dt_1 (m : Nat → Nat → Int) : dt 1 m = m 0 0 := rfl
theorem dt_2 (m : Nat → Nat → Int) : dt 2 m = m 0 0 * m 1 1 - m 0 1 * m 1 0 := rfl
theorem dt_3 (m : Nat → Nat → Int) : dt 3 m = m 0 0 * (m 1 1 * m 2 2 - m 1 2 * m 2 1) - m 0 1 * (m 1 0 * m 2 2 - m 1 2 * m 2 0) + m 0 2 * (m 1 0 * m 2 1 - m 1 1 * m 2 0) := rfl
-- makes
def vz (ai : Nat → Nat → Int32) (u : Nat) : Int := (ai 16 u).toInt
def vn (ai : Nat → Nat → Int32) (sz : Int32) (u : Nat) : Int := if u < sz.toInt.toNat then (ai 16 u).toInt else 0
def cla (ai : Nat → Nat → Int32) (fm : Int32) (i : Nat) : Int := cl (ev ai) (bbv ai) (frv ai) fm.toInt.toNat (vz ai) i
def PKa (ai : Nat → Nat → Int32) (rk fm : Int32) (k : Nat) : Int := PK (ev ai) (bbv ai) (wkv ai) (frv ai) rk.toInt.toNat fm.toInt.toNat (vz ai) k
def gz (ai : Nat → Nat → Int32) (i j : Nat) : Int := ev ai (bbv ai i) (frv ai j) * (ai 16 (frv ai j)).toInt
def CLa (ai : Nat → Nat → Int32) (al : Nat → Nat → Int64) (fm : Int32) (i0 : Int) : Prop := ∀ i : Nat, (i : Int) < i0 → (al 18 i).toInt = cla ai fm i
def NWb (ai : Nat → Nat → Int32) (fm bd : Int32) : Prop := ∀ j : Nat, (j : Int) < fm.toInt → -bd.toInt ≤ (ai 16 (frv ai j)).toInt ∧ (ai 16 (frv ai j)).toInt ≤ bd.toInt
theorem gz_b {ai : Nat → Nat → Int32} {fm bd : Int32} (hI : IAM ai) (h : NWb ai fm bd) (hb : bd.toInt ≤ 1296) (i : Nat) {j : Nat} (hj : (j : Int) < fm.toInt) : -7776 ≤ gz ai i j ∧ gz ai i j ≤ 7776 := by
  have h1 : -6 ≤ ev ai (bbv ai i) (frv ai j) ∧ ev ai (bbv ai i) (frv ai j) ≤ 6 := IAM_at0 hI _
  have h2 := h j hj
  exact mul_iv (al := -6) (ah := 6) (bl := -1296) (bh := 1296) h1.1 h1.2 (by omega) (by omega) (by decide) (by decide) (by decide) (by decide)
theorem sm_b {g : Nat → Int} {B : Int} : ∀ n : Nat, (∀ j, j < n → -B ≤ g j ∧ g j ≤ B) → -(n * B) ≤ sm n g ∧ sm n g ≤ n * B := by
  intro n
  induction n with
  | zero => intro _; show -((0 : Nat) * B) ≤ (0 : Int) ∧ (0 : Int) ≤ (0 : Nat) * B; simp
  | succ n ih =>
    intro h
    have h1 := ih (fun j hj => h j (by omega))
    have h2 := h n (by omega)
    show -(((n + 1 : Nat) : Int) * B) ≤ sm n g + g n ∧ sm n g + g n ≤ ((n + 1 : Nat) : Int) * B
    have e : ((n + 1 : Nat) : Int) * B = (n : Int) * B + B := by rw [Int.natCast_succ, Int.add_mul, Int.one_mul]
    rw [e]
    omega
theorem smz_b {ai : Nat → Nat → Int32} {fm bd : Int32} (hI : IAM ai) (h : NWb ai fm bd) (hb : bd.toInt ≤ 1296) (i : Nat) {n : Nat} (hn : (n : Int) ≤ fm.toInt) (h4 : fm.toInt ≤ 4) : -31104 ≤ sm n (gz ai i) ∧ sm n (gz ai i) ≤ 31104 := by
  have := sm_b (g := gz ai i) (B := 7776) n (fun j hj => gz_b hI h hb i (by omega))
  omega
theorem cla_b {ai : Nat → Nat → Int32} {fm bd : Int32} (hI : IAM ai) (h : NWb ai fm bd) (hb : bd.toInt ≤ 1296) (h0 : 0 ≤ fm.toInt) (h4 : fm.toInt ≤ 4) (i : Nat) : -31104 ≤ cla ai fm i ∧ cla ai fm i ≤ 31104 := by
  have := smz_b hI h hb i (n := fm.toInt.toNat) (by omega) h4
  show -31104 ≤ -sm fm.toInt.toNat (gz ai i) ∧ -sm fm.toInt.toNat (gz ai i) ≤ 31104
  omega
theorem cl_b {ai : Nat → Nat → Int32} {al : Nat → Nat → Int64} {fm bd rk : Int32} (hI : IAM ai) (h : NWb ai fm bd) (hb : bd.toInt ≤ 1296) (h0 : 0 ≤ fm.toInt) (h4 : fm.toInt ≤ 4) (hc : CLa ai al fm rk.toInt) : ∀ j : Nat, (j : Int) < rk.toInt → -31104 ≤ (al 18 j).toInt ∧ (al 18 j).toInt ≤ 31104 := fun j hj => by
  rw [hc j hj]
  exact cla_b hI h hb h0 h4 j
theorem CLa_0 {ai : Nat → Nat → Int32} {al : Nat → Nat → Int64} {fm : Int32} {i0 : Int} (h : i0 ≤ 0) : CLa ai al fm i0 := fun i hi => by omega
theorem CLa_le {ai : Nat → Nat → Int32} {al : Nat → Nat → Int64} {fm : Int32} {i0 i1 : Int} (h : CLa ai al fm i0) (hi : i1 ≤ i0) : CLa ai al fm i1 := fun i h9 => h i (by omega)
theorem CLa_st {ai : Nat → Nat → Int32} {al al' : Nat → Nat → Int64} {fm : Int32} {n : Int32} {v : Int64} (h : CLa ai al fm n.toInt) (h0 : 0 ≤ n.toInt) (e : al' = va_up al 18 (vp_updL (al 18) n.toNatClampNeg v)) : CLa ai al' fm n.toInt := fun i hi => by
  rw [upl_at e, if_neg (by omega)]
  exact h i hi
theorem CLa_up {ai : Nat → Nat → Int32} {al : Nat → Nat → Int64} {fm : Int32} {n k : Int32} {i1 : Int} (h : CLa ai al fm n.toInt) (h0 : 0 ≤ n.toInt) (hk : k.toInt = fm.toInt) (e : (al 18 n.toInt.toNat).toInt = -sm k.toInt.toNat (gz ai n.toInt.toNat)) (h1 : i1 = n.toInt + 1) : CLa ai al fm i1 := fun i hi => by
  by_cases q : i = n.toInt.toNat
  · rw [q, e, hk]
    rfl
  · exact h i (by omega)
theorem sm_st {ai : Nat → Nat → Int32} {al al' : Nat → Nat → Int64} {n k k1 : Int32} {v : Int64} (e : al' = va_up al 18 (vp_updL (al 18) n.toNatClampNeg v)) (k0 : 0 ≤ k.toInt) (hk : k1.toInt = k.toInt + 1) (hv : v.toInt = -sm k.toInt.toNat (gz ai n.toInt.toNat) - gz ai n.toInt.toNat k.toInt.toNat) : (al' 18 n.toInt.toNat).toInt = -sm k1.toInt.toNat (gz ai n.toInt.toNat) := by
  rw [upl_at e, if_pos rfl, hv, show k1.toInt.toNat = k.toInt.toNat + 1 by omega]
  show _ = -(sm k.toInt.toNat (gz ai n.toInt.toNat) + gz ai n.toInt.toNat k.toInt.toNat)
  omega
theorem sm_s0 {ai : Nat → Nat → Int32} {al al' : Nat → Nat → Int64} {n : Int32} {v : Int64} (e : al' = va_up al 18 (vp_updL (al 18) n.toNatClampNeg v)) {k : Int32} (hk : k.toInt = 0) (hv : v.toInt = 0) : (al' 18 n.toInt.toNat).toInt = -sm k.toInt.toNat (gz ai n.toInt.toNat) := by
  rw [upl_at e, if_pos rfl, hv, hk]
  rfl
theorem dt_cg {r : Nat} {e : Nat → Nat → Int} {bb wk : Nat → Nat} {c d : Nat → Int} {k : Nat} (h1 : 1 ≤ r) (hr : r ≤ 3) (h : ∀ i, i < r → c i = d i) : dt r (mkk e bb wk c k) = dt r (mkk e bb wk d k) := by
  rcases (show r = 1 ∨ r = 2 ∨ r = 3 by omega) with rfl | rfl | rfl
  · have h0 := h 0 (by omega)
    simp only [dt_1, mkk, h0]
  · have h0 := h 0 (by omega)
    have h1 := h 1 (by omega)
    simp only [dt_2, mkk, h0, h1]
  · have h0 := h 0 (by omega)
    have h1 := h 1 (by omega)
    have h2 := h 2 (by omega)
    simp only [dt_3, mkk, h0, h1, h2]
theorem cM_pk {ai0 ai : Nat → Nat → Int32} {al : Nat → Nat → Int64} {rk fm k : Int32} {v : Int} (hF : FR [16] ai0 ai) (h1 : 1 ≤ rk.toInt) (h3 : rk.toInt ≤ 3) (hc : CLa ai0 al fm rk.toInt) (hv : v = dt rk.toInt.toNat (cM ai al k.toInt.toNat)) : v = PKa ai0 rk fm k.toInt.toNat := by
  have e1 : ev ai = ev ai0 := by funext i j; show (ai 0 _).toInt = (ai0 0 _).toInt; rw [hF 0 (by decide)]
  have e2 : bbv ai = bbv ai0 := by funext i; show (ai 14 _).toInt.toNat = (ai0 14 _).toInt.toNat; rw [hF 14 (by decide)]
  have e3 : wkv ai = wkv ai0 := by funext i; show (ai 13 _).toInt.toNat = (ai0 13 _).toInt.toNat; rw [hF 13 (by decide)]
  rw [hv]
  show dt rk.toInt.toNat (mkk (ev ai) (bbv ai) (wkv ai) (fun i => (al 18 i).toInt) k.toInt.toNat) = dt rk.toInt.toNat (mkk (ev ai0) (bbv ai0) (wkv ai0) (cl (ev ai0) (bbv ai0) (frv ai0) fm.toInt.toNat (vz ai0)) k.toInt.toNat)
  rw [e1, e2, e3]
  exact dt_cg (by omega) (by omega) (fun i hi => hc i (by omega))
def Mt (ai : Nat → Nat → Int32) (fm : Int32) (v : Nat → Int) : Prop := ∀ j : Nat, (j : Int) < fm.toInt → v (frv ai j) = (ai 16 (frv ai j)).toInt
def NoV (ai : Nat → Nat → Int32) (sz rk fm bd : Int32) : Prop := ∀ v : Nat → Int, FVa ai sz rk fm bd v → ¬ Mt ai fm v
theorem mk_v {ai : Nat → Nat → Int32} {sz rk fm bd k : Int32} {v : Nat → Int} (r3 : rk.toInt ≤ 3) (hv : FVa ai sz rk fm bd v) (hm : Mt ai fm v) (k0 : 0 ≤ k.toInt) (hk : k.toInt < rk.toInt) : (mnv ai rk).toInt * v (wkv ai k.toInt.toNat) = PKa ai rk fm k.toInt.toNat := by
  rw [hv.2.2.2 k.toInt.toNat (by omega)]
  exact PK_congr (by omega) (fun j hj => hm j (by omega))
theorem i64_nz {x : Int64} (h : x ≠ 0) : x.toInt ≠ 0 := fun q => h (Int64.toInt_inj.mp (by rw [q]; decide))
theorem mk_no {ai : Nat → Nat → Int32} {sz rk fm bd k : Int32} {V : Int} (hP : RKa ai sz rk fm) (s4 : sz.toInt ≤ 4) (s0 : 0 ≤ sz.toInt) (r3 : rk.toInt ≤ 3) (k0 : 0 ≤ k.toInt) (hk : k.toInt < rk.toInt) (hV : V = PKa ai rk fm k.toInt.toNat) (h : V.tmod (mnv ai rk).toInt ≠ 0 ∨ bd.toInt < V.tdiv (mnv ai rk).toInt ∨ V.tdiv (mnv ai rk).toInt < -bd.toInt) : NoV ai sz rk fm bd := by
  intro v hv hm
  have e := mk_v r3 hv hm k0 hk
  rw [hV, ← e, Int.mul_tmod_right, Int.mul_tdiv_cancel_left _ (i64_nz hP.2)] at h
  have := hv.1 (wkv ai k.toInt.toNat) (by have := hP.1.2.1 k.toInt.toNat (by omega); omega)
  omega
def WKa (ai0 ai : Nat → Nat → Int32) (rk fm bd : Int32) (k0 : Int) : Prop := ∀ k : Nat, (k : Int) < k0 → (mnv ai0 rk).toInt * (ai 16 (wkv ai0 k)).toInt = PKa ai0 rk fm k ∧ -bd.toInt ≤ (ai 16 (wkv ai0 k)).toInt ∧ (ai 16 (wkv ai0 k)).toInt ≤ bd.toInt
def Fu (ai0 ai : Nat → Nat → Int32) (fm : Int32) : Prop := ∀ j : Nat, (j : Int) < fm.toInt → ai 16 (frv ai0 j) = ai0 16 (frv ai0 j)
theorem WKa_st {ai0 ai ai' : Nat → Nat → Int32} {sz rk fm bd k : Int32} {n w : Int32} {V : Int} {k1 : Int} (hP : RKa ai0 sz rk fm) (h : WKa ai0 ai rk fm bd k.toInt) (e : ai' = va_up ai 16 (upd (ai 16) n.toNatClampNeg w)) (hn : n = ai0 13 k.toInt.toNat) (k0 : 0 ≤ k.toInt) (hk : k.toInt < rk.toInt) (hV : V = PKa ai0 rk fm k.toInt.toNat) (hm : V.tmod (mnv ai0 rk).toInt = 0) (hw : w.toInt = V.tdiv (mnv ai0 rk).toInt) (hb : -bd.toInt ≤ w.toInt ∧ w.toInt ≤ bd.toInt) (hk1 : k1 = k.toInt + 1) : WKa ai0 ai' rk fm bd k1 := fun j hj => by
  have en : n.toInt.toNat = wkv ai0 k.toInt.toNat := by rw [hn]; rfl
  rw [up_at e, en]
  by_cases q : j = k.toInt.toNat
  · rw [q, if_pos rfl, hw, ← hV]
    refine ⟨?_, by rw [← hw]; exact hb⟩
    have := Int.mul_tdiv_add_tmod V (mnv ai0 rk).toInt
    omega
  · rw [if_neg (fun q2 => q (hP.1.2.2.2.2.2.2.1 j k.toInt.toNat (by omega) (by omega) q2))]
    exact h j (by omega)
theorem Fu_st {ai0 ai ai' : Nat → Nat → Int32} {sz rk fm k : Int32} {n w : Int32} (hP : RKa ai0 sz rk fm) (h : Fu ai0 ai fm) (e : ai' = va_up ai 16 (upd (ai 16) n.toNatClampNeg w)) (hn : n = ai0 13 k.toInt.toNat) (k0 : 0 ≤ k.toInt) (hk : k.toInt < rk.toInt) : Fu ai0 ai' fm := fun j hj => by
  have en : n.toInt.toNat = wkv ai0 k.toInt.toNat := by rw [hn]; rfl
  rw [up_at e, en, if_neg (fun q => hP.1.2.2.2.2.1 k.toInt.toNat j (by omega) (by omega) q.symm)]
  exact h j hj
theorem FVa_mk {ai0 ai : Nat → Nat → Int32} {sz rk fm bd : Int32} (hP : RKa ai0 sz rk fm) (s4 : sz.toInt ≤ 4) (r0 : 0 ≤ rk.toInt) (r3 : rk.toInt ≤ 3) (b0 : 0 ≤ bd.toInt) (hN : NWb ai0 fm bd) (hW : WKa ai0 ai rk fm bd rk.toInt) (hU : Fu ai0 ai fm) (hs : ∃ u : Nat, (u : Int) < sz.toInt ∧ (ai 16 u).toInt ≠ 0) : FVa ai0 sz rk fm bd (vn ai sz) := by
  obtain ⟨P1, P2, P3, P4, P5, P6, P7, P8⟩ := id hP.1
  refine ⟨fun u hu => ?_, fun u h1 h2 => ?_, ?_, fun k hk => ?_⟩
  · show -bd.toInt ≤ (if u < sz.toInt.toNat then (ai 16 u).toInt else 0) ∧ (if u < sz.toInt.toNat then (ai 16 u).toInt else 0) ≤ bd.toInt
    by_cases q : u < sz.toInt.toNat
    · rw [if_pos q]
      rcases P4 u q with ⟨k, hk, rfl⟩ | ⟨j, hj, rfl⟩
      · exact (hW k (by omega)).2
      · rw [hU j (by omega)]
        exact hN j (by omega)
    · rw [if_neg q]
      omega
  · show (if u < sz.toInt.toNat then (ai 16 u).toInt else 0) = 0
    rw [if_neg (by omega)]
  · obtain ⟨u, hu, h⟩ := hs
    refine ⟨u, by omega, ?_⟩
    show (if u < sz.toInt.toNat then (ai 16 u).toInt else 0) ≠ 0
    rw [if_pos (by omega)]
    exact h
  · show (mnv ai0 rk).toInt * (if wkv ai0 k < sz.toInt.toNat then (ai 16 (wkv ai0 k)).toInt else 0) = _
    rw [if_pos (P2 k hk), (hW k (by omega)).1]
    refine PK_congr (by omega) (fun j hj => ?_)
    show (ai0 16 (frv ai0 j)).toInt = (if frv ai0 j < sz.toInt.toNat then (ai 16 (frv ai0 j)).toInt else 0)
    rw [if_pos (P3 j hj), hU j (by omega)]
theorem mk_ret {ai0 ai : Nat → Nat → Int32} {sz rk fm bd : Int32} (hP : RKa ai0 sz rk fm) (s4 : sz.toInt ≤ 4) (r0 : 0 ≤ rk.toInt) (r3 : rk.toInt ≤ 3) (hW : WKa ai0 ai rk fm bd rk.toInt) (hU : Fu ai0 ai fm) (h0 : ∀ u : Nat, (u : Int) < sz.toInt → (ai 16 u).toInt = 0) : NoV ai0 sz rk fm bd := by
  intro v hv hm
  obtain ⟨P1, P2, P3, P4, P5, P6, P7, P8⟩ := id hP.1
  obtain ⟨u, hu, hne⟩ := hv.2.2.1
  refine hne ?_
  rcases P4 u hu with ⟨k, hk, rfl⟩ | ⟨j, hj, rfl⟩
  · have e1 := mk_v (k := Int32.ofInt (k : Int)) r3 hv hm
    have kk : (Int32.ofInt (k : Int)).toInt = k := Int32.toInt_ofInt_of_le (by omega) (by omega)
    rw [kk] at e1
    have e1 := e1 (by omega) (by omega)
    have e2 := (hW k (by omega)).1
    rw [h0 (wkv ai0 k) (by have := P2 k hk; omega), Int.mul_zero] at e2
    rw [show ((k : Int)).toNat = k by omega, ← e2] at e1
    rcases Int.mul_eq_zero.mp e1 with q | q
    · exact absurd q (i64_nz hP.2)
    · exact q
  · rw [hm j (by omega), ← hU j (by omega)]
    exact h0 _ (by have := P3 j hj; omega)
theorem ex_up {ai : Nat → Nat → Int32} {n : Int} (h : ∃ u : Nat, (u : Int) < n ∧ (ai 16 u).toInt ≠ 0) : ∃ u : Nat, (u : Int) < n + 1 ∧ (ai 16 u).toInt ≠ 0 := by
  obtain ⟨u, hu, h⟩ := h
  exact ⟨u, by omega, h⟩
theorem ex_le {ai : Nat → Nat → Int32} {n m : Int} (h : ∃ u : Nat, (u : Int) < n ∧ (ai 16 u).toInt ≠ 0) (hm : n ≤ m) : ∃ u : Nat, (u : Int) < m ∧ (ai 16 u).toInt ≠ 0 := by
  obtain ⟨u, hu, h⟩ := h
  exact ⟨u, by omega, h⟩
theorem ex_at {ai : Nat → Nat → Int32} {n : Int32} (h0 : 0 ≤ n.toInt) (h : (ai 16 n.toInt.toNat).toInt ≠ 0) : ∃ u : Nat, (u : Int) < n.toInt + 1 ∧ (ai 16 u).toInt ≠ 0 := ⟨n.toInt.toNat, by omega, h⟩
theorem al_up {ai : Nat → Nat → Int32} {n : Int32} (h0 : 0 ≤ n.toInt) (h : ∀ u : Nat, (u : Int) < n.toInt → (ai 16 u).toInt = 0) (hn : (ai 16 n.toInt.toNat).toInt = 0) : ∀ u : Nat, (u : Int) < n.toInt + 1 → (ai 16 u).toInt = 0 := fun u hu => by
  by_cases q : u = n.toInt.toNat
  · rw [q]; exact hn
  · exact h u (by omega)
