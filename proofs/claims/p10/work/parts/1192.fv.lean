def sm : Nat → (Nat → Int) → Int
  | 0, _ => 0
  | n + 1, g => sm n g + g n
theorem sm_neg (n : Nat) (g : Nat → Int) : sm n (fun j => -g j) = -sm n g := by
  induction n with
  | zero => rfl
  | succ n ih => show sm n (fun j => -g j) + -g n = -(sm n g + g n); rw [ih]; omega
theorem sm_congr {n : Nat} {g h : Nat → Int} (e : ∀ j, j < n → g j = h j) : sm n g = sm n h := by
  induction n with
  | zero => rfl
  | succ n ih => show sm n g + g n = sm n h + h n; rw [ih (fun j hj => e j (by omega)), e n (by omega)]
def cl (e : Nat → Nat → Int) (bb fr : Nat → Nat) (f : Nat) (v : Nat → Int) (i : Nat) : Int := -sm f (fun j => e (bb i) (fr j) * v (fr j))
def mkk (e : Nat → Nat → Int) (bb wk : Nat → Nat) (c : Nat → Int) (k i j : Nat) : Int := if j = k then c i else e (bb i) (wk j)
def dt (r : Nat) (m : Nat → Nat → Int) : Int := if r = 1 then m 0 0 else if r = 2 then m 0 0 * m 1 1 - m 0 1 * m 1 0 else m 0 0 * (m 1 1 * m 2 2 - m 1 2 * m 2 1) - m 0 1 * (m 1 0 * m 2 2 - m 1 2 * m 2 0) + m 0 2 * (m 1 0 * m 2 1 - m 1 1 * m 2 0)
def PK (e : Nat → Nat → Int) (bb wk fr : Nat → Nat) (r f : Nat) (v : Nat → Int) (k : Nat) : Int := dt r (mkk e bb wk (cl e bb fr f v) k)
def FV (e : Nat → Nat → Int) (bb wk fr : Nat → Nat) (dl : Int) (n r f : Nat) (b : Int) (v : Nat → Int) : Prop := (∀ u, u < 4 → -b ≤ v u ∧ v u ≤ b) ∧ (∀ u, n ≤ u → u < 4 → v u = 0) ∧ (∃ u, u < n ∧ v u ≠ 0) ∧ (∀ k, k < r → dl * v (wk k) = PK e bb wk fr r f v k)
def PT (wk fr : Nat → Nat) (n r f : Nat) : Prop := n = r + f ∧ (∀ k, k < r → wk k < n) ∧ (∀ j, j < f → fr j < n) ∧ (∀ u, u < n → (∃ k, k < r ∧ wk k = u) ∨ (∃ j, j < f ∧ fr j = u)) ∧ (∀ k j, k < r → j < f → wk k ≠ fr j) ∧ (∀ i j, i < f → j < f → fr i = fr j → i = j) ∧ (∀ i j, i < r → j < r → wk i = wk j → i = j) ∧ (r = 1 → ∀ j, j < f → fr j = if j < wk 0 then j else j + 1)
theorem dt_neg {r : Nat} {e : Nat → Nat → Int} {bb wk : Nat → Nat} {c : Nat → Int} {k : Nat} (hr : r ≤ 3) (hk : k < r) : dt r (mkk e bb wk (fun i => -c i) k) = -dt r (mkk e bb wk c k) := by
  rcases (show r = 1 ∨ r = 2 ∨ r = 3 by omega) with rfl | rfl | rfl
  · obtain rfl : k = 0 := by omega
    simp [dt, mkk]
  · rcases (show k = 0 ∨ k = 1 by omega) with rfl | rfl <;> simp [dt, mkk] <;> grind
  · rcases (show k = 0 ∨ k = 1 ∨ k = 2 by omega) with rfl | rfl | rfl <;> simp [dt, mkk] <;> grind
theorem dt_congr {r : Nat} {e : Nat → Nat → Int} {bb wk : Nat → Nat} {c d : Nat → Int} {k : Nat} (hr : r ≤ 3) (h : ∀ i, i < 3 → c i = d i) : dt r (mkk e bb wk c k) = dt r (mkk e bb wk d k) := by
  have h0 := h 0 (by omega)
  have h1 := h 1 (by omega)
  have h2 := h 2 (by omega)
  simp only [dt, mkk, h0, h1, h2]
theorem cl_neg {e : Nat → Nat → Int} {bb fr : Nat → Nat} {f : Nat} {v : Nat → Int} (i : Nat) : cl e bb fr f (fun u => -v u) i = -cl e bb fr f v i := by
  unfold cl
  rw [show (fun j => e (bb i) (fr j) * -v (fr j)) = (fun j => -(e (bb i) (fr j) * v (fr j))) from funext fun j => Int.mul_neg _ _, sm_neg]
theorem PK_neg {e : Nat → Nat → Int} {bb wk fr : Nat → Nat} {r f : Nat} {v : Nat → Int} {k : Nat} (hr : r ≤ 3) (hk : k < r) : PK e bb wk fr r f (fun u => -v u) k = -PK e bb wk fr r f v k := by
  unfold PK
  rw [← dt_neg hr hk]
  exact dt_congr hr (fun i _ => cl_neg i)
theorem FV_neg {e : Nat → Nat → Int} {bb wk fr : Nat → Nat} {dl : Int} {n r f : Nat} {b : Int} {v : Nat → Int} (hr : r ≤ 3) (h : FV e bb wk fr dl n r f b v) : FV e bb wk fr dl n r f b (fun u => -v u) := by
  obtain ⟨h1, h2, ⟨u, hu, h3⟩, h4⟩ := h
  refine ⟨fun u hu => ?_, fun u h hu => ?_, ⟨u, hu, ?_⟩, fun k hk => ?_⟩
  · have := h1 u hu
    show -b ≤ -v u ∧ -v u ≤ b
    omega
  · have := h2 u h hu
    show -v u = 0
    omega
  · show -v u ≠ 0
    omega
  · rw [PK_neg hr hk, ← h4 k hk]
    show dl * -v (wk k) = _
    rw [Int.mul_neg]
theorem PK_congr {e : Nat → Nat → Int} {bb wk fr : Nat → Nat} {r f : Nat} {v w : Nat → Int} {k : Nat} (hr : r ≤ 3) (h : ∀ j, j < f → v (fr j) = w (fr j)) : PK e bb wk fr r f v k = PK e bb wk fr r f w k := by
  unfold PK
  refine dt_congr hr (fun i _ => ?_)
  unfold cl
  rw [sm_congr (fun j hj => by rw [h j hj])]
theorem FV_det {e : Nat → Nat → Int} {bb wk fr : Nat → Nat} {dl : Int} {n r f : Nat} {b : Int} {v w : Nat → Int} (hr : r ≤ 3) (hd : dl ≠ 0) (hP : PT wk fr n r f) (hv : FV e bb wk fr dl n r f b v) (hw : FV e bb wk fr dl n r f b w) (h : ∀ j, j < f → v (fr j) = w (fr j)) : ∀ u, u < 4 → v u = w u := by
  intro u hu
  by_cases q : u < n
  · rcases hP.2.2.2.1 u q with ⟨k, hk, rfl⟩ | ⟨j, hj, rfl⟩
    · refine Int.eq_of_mul_eq_mul_left hd ?_
      rw [hv.2.2.2 k hk, hw.2.2.2 k hk]
      exact PK_congr hr h
    · exact h j hj
  · rw [hv.2.1 u (by omega) hu, hw.2.1 u (by omega) hu]
def MinV (e : Nat → Nat → Int) (bb wk fr : Nat → Nat) (dl : Int) (n r f : Nat) (b : Int) (x : Nat → Int) : Prop := ∀ y, FV e bb wk fr dl n r f b y → Fit y x → ∀ u, u < 4 → y u = x u
theorem r1_s4 {e : Nat → Nat → Int} {bb wk fr : Nat → Nat} {n f : Nat} {v : Nat → Int} (hn : n ≤ 4) (hP : PT wk fr n 1 f) (hz : ∀ u, n ≤ u → u < 4 → v u = 0) : s4 (fun u => e (bb 0) u) v = e (bb 0) (wk 0) * v (wk 0) - PK e bb wk fr 1 f v 0 := by
  obtain ⟨h1, h2, h3, h4, h5, h6, h7, h8⟩ := hP
  have h8 := h8 rfl
  have hw := h2 0 (by omega)
  have z1 : v 1 = 0 ∨ 1 < n := by by_cases q : 1 < n; exact Or.inr q; exact Or.inl (hz 1 (by omega) (by omega))
  have z2 : v 2 = 0 ∨ 2 < n := by by_cases q : 2 < n; exact Or.inr q; exact Or.inl (hz 2 (by omega) (by omega))
  have z3 : v 3 = 0 ∨ 3 < n := by by_cases q : 3 < n; exact Or.inr q; exact Or.inl (hz 3 (by omega) (by omega))
  have key : PK e bb wk fr 1 f v 0 = -sm f (fun j => e (bb 0) (fr j) * v (fr j)) := by
    simp [PK, dt, mkk, cl]
  rw [key]
  have hs : sm f (fun j => e (bb 0) (fr j) * v (fr j)) = sm f (fun j => e (bb 0) (if j < wk 0 then j else j + 1) * v (if j < wk 0 then j else j + 1)) := sm_congr fun j hj => by rw [h8 j hj]
  rw [hs]
  generalize wk 0 = c at *
  show e (bb 0) 0 * v 0 + e (bb 0) 1 * v 1 + e (bb 0) 2 * v 2 + e (bb 0) 3 * v 3 = _
  rcases (show f = 0 ∨ f = 1 ∨ f = 2 ∨ f = 3 by omega) with rfl | rfl | rfl | rfl
  · obtain rfl : c = 0 := by omega
    rw [show v 1 = 0 by omega, show v 2 = 0 by omega, show v 3 = 0 by omega]
    simp [sm]
  · rw [show v 2 = 0 by omega, show v 3 = 0 by omega]
    rcases (show c = 0 ∨ c = 1 by omega) with rfl | rfl <;> simp [sm] <;> omega
  · rw [show v 3 = 0 by omega]
    rcases (show c = 0 ∨ c = 1 ∨ c = 2 by omega) with rfl | rfl | rfl <;> simp [sm] <;> omega
  · rcases (show c = 0 ∨ c = 1 ∨ c = 2 ∨ c = 3 by omega) with rfl | rfl | rfl | rfl <;> simp [sm] <;> omega
theorem r2_lin {e : Nat → Nat → Int} {bb wk fr : Nat → Nat} {k : Nat} (hk : k < 2) : ∃ α β : Int, ∀ v : Nat → Int, PK e bb wk fr 2 2 v k = α * v (fr 0) + β * v (fr 1) := by
  rcases (show k = 0 ∨ k = 1 by omega) with rfl | rfl
  · refine ⟨-(e (bb 0) (fr 0) * e (bb 1) (wk 1)) + e (bb 0) (wk 1) * e (bb 1) (fr 0), -(e (bb 0) (fr 1) * e (bb 1) (wk 1)) + e (bb 0) (wk 1) * e (bb 1) (fr 1), fun v => ?_⟩
    simp [PK, dt, mkk, cl, sm]
    grind
  · refine ⟨-(e (bb 1) (fr 0) * e (bb 0) (wk 0)) + e (bb 1) (wk 0) * e (bb 0) (fr 0), -(e (bb 1) (fr 1) * e (bb 0) (wk 0)) + e (bb 1) (wk 0) * e (bb 0) (fr 1), fun v => ?_⟩
    simp [PK, dt, mkk, cl, sm]
    grind
