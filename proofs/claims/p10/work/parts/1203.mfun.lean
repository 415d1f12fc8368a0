-- sets of bits
def bc (s : Nat) : Nat := s % 2 + s / 2 % 2 + s / 4 % 2 + s / 8 % 2
def nb (s k : Nat) : Nat := ((List.range k).filter (fun i => s.testBit i)).length
def tk (s j : Nat) : Nat := (((List.range 4).filter (fun i => s.testBit i)).take 3).getD j 0
def nz (s k : Nat) : Nat := ((List.range k).filter (fun i => !s.testBit i)).length
def fz (s j : Nat) : Nat := ((List.range 4).filter (fun i => !s.testBit i)).getD j 0
theorem i32_ex {x : Int32} (h0 : 0 ≤ x.toInt) {m : Nat} (h1 : x.toInt < m) : ∃ a : Nat, a < m ∧ x = Int32.ofInt a ∧ x.toInt.toNat = a := by
  refine ⟨x.toInt.toNat, by omega, ?_, rfl⟩
  rw [show ((x.toInt.toNat : Nat) : Int) = x.toInt by omega, Int32.ofInt_toInt]
theorem bits_fin : ∀ a, a < 16 → (((((Int32.ofInt (a : Nat)) &&& 1) + ((Int32.ofInt (a : Nat) >>> ((1 : Int32) &&& 31)) &&& 1)) + ((Int32.ofInt (a : Nat) >>> ((2 : Int32) &&& 31)) &&& 1)) + ((Int32.ofInt (a : Nat) >>> ((3 : Int32) &&& 31)) &&& 1)).toInt = (bc a : Int) := by decide +kernel
theorem bits_ok {x : Int32} (h0 : 0 ≤ x.toInt) (h1 : x.toInt ≤ 15) : ((((x &&& 1) + ((x >>> ((1 : Int32) &&& 31)) &&& 1)) + ((x >>> ((2 : Int32) &&& 31)) &&& 1)) + ((x >>> ((3 : Int32) &&& 31)) &&& 1)).toInt = (bc x.toInt.toNat : Int) := by
  obtain ⟨a, ha, e, e2⟩ := i32_ex h0 (m := 16) (by omega)
  rw [e2, e]
  exact bits_fin a ha
theorem bit_fin : ∀ a, a < 16 → ∀ k, k < 4 → ((Int32.ofInt (a : Nat) >>> (Int32.ofInt (k : Nat) &&& 31)) &&& 1).toInt = (if Nat.testBit a k then 1 else 0) := by decide +kernel
theorem bit_ok {x k : Int32} (h0 : 0 ≤ x.toInt) (h1 : x.toInt ≤ 15) (k0 : 0 ≤ k.toInt) (k1 : k.toInt ≤ 3) : ((x >>> (k &&& 31)) &&& 1).toInt = (if Nat.testBit x.toInt.toNat k.toInt.toNat then 1 else 0) := by
  obtain ⟨a, ha, e, e2⟩ := i32_ex h0 (m := 16) (by omega)
  obtain ⟨b, hb, f, f2⟩ := i32_ex k0 (m := 4) (by omega)
  rw [e2, e, f2, f]
  exact bit_fin a ha b hb
theorem nb_fin : ∀ a, a < 16 → ∀ k, k < 4 → (Nat.testBit a k = false → nb a (k + 1) = nb a k) ∧ (Nat.testBit a k = true → nb a (k + 1) = nb a k + 1 ∧ (nb a k < 3 → tk a (nb a k) = k) ∧ (a < 8 → k ≤ 2)) := by decide +kernel
theorem nz_fin : ∀ a, a < 16 → ∀ k, k < 4 → (Nat.testBit a k = true → nz a (k + 1) = nz a k) ∧ (Nat.testBit a k = false → nz a (k + 1) = nz a k + 1 ∧ fz a (nz a k) = k) := by decide +kernel
theorem tk_fin : ∀ a, a < 16 → nb a 4 = bc a ∧ ∀ j, j < 3 → bc a ≤ j → tk a j = 0 := by decide +kernel
theorem nb_le : ∀ a, a < 16 → ∀ k, k < 5 → nb a k ≤ k ∧ nz a k ≤ k := by decide +kernel
theorem nb_s0 {x k z : Int32} (h0 : 0 ≤ x.toInt) (h1 : x.toInt ≤ 15) (k0 : 0 ≤ k.toInt) (k1 : k.toInt ≤ 3) (e : z = (x >>> (k &&& 31)) &&& 1) (h : z.toInt = 0) : nb x.toInt.toNat (k.toInt.toNat + 1) = nb x.toInt.toNat k.toInt.toNat := by
  refine (nb_fin _ (by omega) _ (by omega)).1 ?_
  rw [e, bit_ok h0 h1 k0 k1] at h
  by_cases q : Nat.testBit x.toInt.toNat k.toInt.toNat
  · rw [if_pos q] at h; omega
  · simpa using q
theorem nb_s1 {x k z : Int32} (h0 : 0 ≤ x.toInt) (h1 : x.toInt ≤ 15) (k0 : 0 ≤ k.toInt) (k1 : k.toInt ≤ 3) (e : z = (x >>> (k &&& 31)) &&& 1) (h : z.toInt ≠ 0) : nb x.toInt.toNat (k.toInt.toNat + 1) = nb x.toInt.toNat k.toInt.toNat + 1 ∧ (nb x.toInt.toNat k.toInt.toNat < 3 → tk x.toInt.toNat (nb x.toInt.toNat k.toInt.toNat) = k.toInt.toNat) ∧ (x.toInt.toNat < 8 → k.toInt.toNat ≤ 2) := by
  refine (nb_fin _ (by omega) _ (by omega)).2 ?_
  rw [e, bit_ok h0 h1 k0 k1] at h
  by_cases q : Nat.testBit x.toInt.toNat k.toInt.toNat
  · exact q
  · rw [if_neg q] at h; omega
theorem nz_s1 {x k z : Int32} (h0 : 0 ≤ x.toInt) (h1 : x.toInt ≤ 15) (k0 : 0 ≤ k.toInt) (k1 : k.toInt ≤ 3) (e : z = (x >>> (k &&& 31)) &&& 1) (h : z.toInt = 1) : nz x.toInt.toNat (k.toInt.toNat + 1) = nz x.toInt.toNat k.toInt.toNat := by
  refine (nz_fin _ (by omega) _ (by omega)).1 ?_
  rw [e, bit_ok h0 h1 k0 k1] at h
  by_cases q : Nat.testBit x.toInt.toNat k.toInt.toNat
  · exact q
  · rw [if_neg q] at h; omega
theorem nz_s0 {x k z : Int32} (h0 : 0 ≤ x.toInt) (h1 : x.toInt ≤ 15) (k0 : 0 ≤ k.toInt) (k1 : k.toInt ≤ 3) (e : z = (x >>> (k &&& 31)) &&& 1) (h : z.toInt ≠ 1) : nz x.toInt.toNat (k.toInt.toNat + 1) = nz x.toInt.toNat k.toInt.toNat + 1 ∧ fz x.toInt.toNat (nz x.toInt.toNat k.toInt.toNat) = k.toInt.toNat := by
  refine (nz_fin _ (by omega) _ (by omega)).2 ?_
  rw [e, bit_ok h0 h1 k0 k1] at h
  by_cases q : Nat.testBit x.toInt.toNat k.toInt.toNat
  · rw [if_pos q] at h; omega
  · simpa using q
def pw2 (n : Nat) : Int := (2 ^ n : Nat)
theorem shl_fin : ∀ a, a < 5 → ((1 : Int32) <<< (Int32.ofInt (a : Nat) &&& 31)).toInt = pw2 a ∧ 1 ≤ pw2 a ∧ pw2 a ≤ 16 ∧ (a ≤ 3 → pw2 a ≤ 8) := by decide +kernel
theorem shl_ok {x : Int32} (h0 : 0 ≤ x.toInt) (h1 : x.toInt ≤ 4) : ((1 : Int32) <<< (x &&& 31)).toInt = pw2 x.toInt.toNat ∧ 1 ≤ pw2 x.toInt.toNat ∧ pw2 x.toInt.toNat ≤ 16 ∧ (x.toInt ≤ 3 → pw2 x.toInt.toNat ≤ 8) := by
  obtain ⟨a, ha, e, e2⟩ := i32_ex h0 (m := 5) (by omega)
  have := shl_fin a ha
  rw [e2]
  rw [e] at *
  refine ⟨this.1, this.2.1, this.2.2.1, fun h => this.2.2.2 ?_⟩
  omega
-- the reference's numbers
def aa (ai : Nat → Nat → Int32) (e u : Int32) : Int64 := (ai 0 (4 * e.toInt.toNat + u.toInt.toNat)).toInt64
def mn (ai : Nat → Nat → Int32) (r e f g u v w : Int32) : Int64 := if r = 0 then 1 else if r = 1 then aa ai e u else if r = 2 then aa ai e u * aa ai f v - aa ai e v * aa ai f u else aa ai e u * (aa ai f v * aa ai g w - aa ai f w * aa ai g v) - aa ai e v * (aa ai f u * aa ai g w - aa ai f w * aa ai g u) + aa ai e w * (aa ai f u * aa ai g v - aa ai f v * aa ai g u)
def ev (ai : Nat → Nat → Int32) (i j : Nat) : Int := (ai 0 (4 * i + j)).toInt
def bbv (ai : Nat → Nat → Int32) (i : Nat) : Nat := (ai 14 i).toInt.toNat
def wkv (ai : Nat → Nat → Int32) (k : Nat) : Nat := (ai 13 k).toInt.toNat
def frv (ai : Nat → Nat → Int32) (j : Nat) : Nat := (ai 15 j).toInt.toNat
def mnv (ai : Nat → Nat → Int32) (r : Int32) : Int64 := mn ai r (ai 14 0) (ai 14 1) (ai 14 2) (ai 13 0) (ai 13 1) (ai 13 2)
def FVa (ai : Nat → Nat → Int32) (sz rk fm bd : Int32) (v : Nat → Int) : Prop := FV (ev ai) (bbv ai) (wkv ai) (frv ai) (mnv ai rk).toInt sz.toInt.toNat rk.toInt.toNat fm.toInt.toNat bd.toInt v
def PTa (ai : Nat → Nat → Int32) (sz rk fm : Int32) : Prop := PT (wkv ai) (frv ai) sz.toInt.toNat rk.toInt.toNat fm.toInt.toNat
def RKa (ai : Nat → Nat → Int32) (sz rk fm : Int32) : Prop := PTa ai sz rk fm ∧ mnv ai rk ≠ 0
theorem PT_f0 : ∀ n, n < 5 → ∀ c, c < 2 ^ n → bc c ≤ 3 → n = bc c + nz c n := by decide +kernel
theorem PT_f1 : ∀ n, n < 5 → ∀ c, c < 2 ^ n → bc c ≤ 3 → ∀ k, k < bc c → tk c k < n := by decide +kernel
theorem PT_f2 : ∀ n, n < 5 → ∀ c, c < 2 ^ n → bc c ≤ 3 → ∀ j, j < nz c n → fz c j < n := by decide +kernel
def PTd3 (n c : Nat) : Bool := (List.range n).all fun u => decide (u ∈ (List.range (bc c)).map (tk c) ∨ u ∈ (List.range (nz c n)).map (fz c))
theorem PT_d3 : ∀ n, n < 5 → ∀ c, c < 2 ^ n → bc c ≤ 3 → PTd3 n c = true := by decide +kernel
theorem PT_f3 (n : Nat) (hn : n < 5) (c : Nat) (hc : c < 2 ^ n) (h3 : bc c ≤ 3) (u : Nat) (hu : u < n) : u ∈ (List.range (bc c)).map (tk c) ∨ u ∈ (List.range (nz c n)).map (fz c) := of_decide_eq_true (List.all_eq_true.mp (PT_d3 n hn c hc h3) u (List.mem_range.mpr hu))
theorem PT_f4 : ∀ n, n < 5 → ∀ c, c < 2 ^ n → bc c ≤ 3 → ∀ k, k < bc c → ∀ j, j < nz c n → tk c k ≠ fz c j := by decide +kernel
def PTd5 (m : Nat) (g : Nat → Nat) : Bool := (List.range m).all fun i => (List.range m).all fun j => decide (g i ≠ g j ∨ i = j)
theorem PT_d5 : ∀ n, n < 5 → ∀ c, c < 2 ^ n → bc c ≤ 3 → PTd5 (nz c n) (fz c) = true := by decide +kernel
theorem PT_d6 : ∀ n, n < 5 → ∀ c, c < 2 ^ n → bc c ≤ 3 → PTd5 (bc c) (tk c) = true := by decide +kernel
theorem PT_g {m : Nat} {g : Nat → Nat} (h : PTd5 m g = true) (i : Nat) (hi : i < m) (j : Nat) (hj : j < m) : g i ≠ g j ∨ i = j := of_decide_eq_true (List.all_eq_true.mp (List.all_eq_true.mp h i (List.mem_range.mpr hi)) j (List.mem_range.mpr hj))
theorem PT_f7 : ∀ n, n < 5 → ∀ c, c < 2 ^ n → bc c ≤ 3 → bc c = 1 → ∀ j, j < nz c n → fz c j = if j < tk c 0 then j else j + 1 := by decide +kernel
theorem PT_fin (n : Nat) (hn : n < 5) (c : Nat) (hc : c < 2 ^ n) (h3 : bc c ≤ 3) : PT (tk c) (fz c) n (bc c) (nz c n) :=
  ⟨PT_f0 n hn c hc h3, PT_f1 n hn c hc h3, PT_f2 n hn c hc h3, (fun u hu => (PT_f3 n hn c hc h3 u hu).imp (fun h => by obtain ⟨k, hk, e⟩ := List.mem_map.mp h; exact ⟨k, List.mem_range.mp hk, e⟩) (fun h => by obtain ⟨k, hk, e⟩ := List.mem_map.mp h; exact ⟨k, List.mem_range.mp hk, e⟩)), fun k j hk hj => PT_f4 n hn c hc h3 k hk j hj, fun i j hi hj e => (PT_g (PT_d5 n hn c hc h3) i hi j hj).resolve_left (fun q => q e), fun i j hi hj e => (PT_g (PT_d6 n hn c hc h3) i hi j hj).resolve_left (fun q => q e), PT_f7 n hn c hc h3⟩
theorem PT_congr {wk fr wk' fr' : Nat → Nat} {n r f : Nat} (h : PT wk fr n r f) (hr : r ≤ 3) (h1 : ∀ k, k < 3 → wk' k = wk k) (h2 : ∀ j, j < f → fr' j = fr j) : PT wk' fr' n r f := by
  obtain ⟨a1, a2, a3, a4, a5, a6, a7, a8⟩ := h
  refine ⟨a1, fun k hk => by rw [h1 k (by omega)]; exact a2 k hk, fun j hj => by rw [h2 j hj]; exact a3 j hj, fun u hu => ?_, fun k j hk hj => by rw [h1 k (by omega), h2 j hj]; exact a5 k j hk hj, fun i j hi hj e => by rw [h2 i hi, h2 j hj] at e; exact a6 i j hi hj e, fun i j hi hj e => by rw [h1 i (by omega), h1 j (by omega)] at e; exact a7 i j hi hj e, fun e j hj => by rw [h2 j hj, h1 0 (by omega)]; exact a8 e j hj⟩
  rcases a4 u hu with ⟨k, hk, e⟩ | ⟨j, hj, e⟩
  · exact Or.inl ⟨k, hk, by rw [h1 k (by omega)]; exact e⟩
  · exact Or.inr ⟨j, hj, by rw [h2 j hj]; exact e⟩
