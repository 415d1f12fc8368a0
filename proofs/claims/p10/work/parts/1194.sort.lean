-- how many of the first n have the norm v, or less
def cnt : Nat → (Nat → Int) → Int → Int
  | 0, _, _ => 0
  | n + 1, g, v => cnt n g v + if g n = v then 1 else 0
def cle : Nat → (Nat → Int) → Int → Int
  | 0, _, _ => 0
  | n + 1, g, v => cle n g v + if g n ≤ v then 1 else 0
theorem cnt_b (n : Nat) (g : Nat → Int) (v : Int) : 0 ≤ cnt n g v ∧ cnt n g v ≤ n := by
  induction n with
  | zero => exact ⟨Int.le_refl _, Int.le_refl _⟩
  | succ n ih =>
    show 0 ≤ cnt n g v + (if g n = v then 1 else 0) ∧ cnt n g v + (if g n = v then 1 else 0) ≤ ((n + 1 : Nat) : Int)
    by_cases h : g n = v
    · rw [if_pos h]; omega
    · rw [if_neg h]; omega
theorem cle_b (n : Nat) (g : Nat → Int) (v : Int) : 0 ≤ cle n g v ∧ cle n g v ≤ n := by
  induction n with
  | zero => exact ⟨Int.le_refl _, Int.le_refl _⟩
  | succ n ih =>
    show 0 ≤ cle n g v + (if g n ≤ v then 1 else 0) ∧ cle n g v + (if g n ≤ v then 1 else 0) ≤ ((n + 1 : Nat) : Int)
    by_cases h : g n ≤ v
    · rw [if_pos h]; omega
    · rw [if_neg h]; omega
theorem cle_cnt (n : Nat) (g : Nat → Int) (v : Int) : cle n g v = cle n g (v - 1) + cnt n g v := by
  induction n with
  | zero => rfl
  | succ n ih =>
    show cle n g v + (if g n ≤ v then 1 else 0) = cle n g (v - 1) + (if g n ≤ v - 1 then 1 else 0) + (cnt n g v + if g n = v then 1 else 0)
    by_cases h : g n = v
    · rw [if_pos h, if_pos (by omega), if_neg (by omega)]; omega
    · rw [if_neg h]
      by_cases h2 : g n ≤ v
      · rw [if_pos h2, if_pos (by omega)]; omega
      · rw [if_neg h2, if_neg (by omega)]; omega
theorem cle_mono (n : Nat) (g : Nat → Int) {v w : Int} (h : v ≤ w) : cle n g v ≤ cle n g w := by
  induction n with
  | zero => exact Int.le_refl _
  | succ n ih =>
    show cle n g v + (if g n ≤ v then 1 else 0) ≤ cle n g w + (if g n ≤ w then 1 else 0)
    by_cases h2 : g n ≤ v
    · rw [if_pos h2, if_pos (by omega)]; omega
    · rw [if_neg h2]
      by_cases h3 : g n ≤ w
      · rw [if_pos h3]; omega
      · rw [if_neg h3]; omega
theorem cnt_mono (g : Nat → Int) (v : Int) {m n : Nat} (h : m ≤ n) : cnt m g v ≤ cnt n g v := by
  induction n with
  | zero => obtain rfl : m = 0 := by omega
            exact Int.le_refl _
  | succ n ih =>
    by_cases e : m = n + 1
    · subst e; exact Int.le_refl _
    · have := ih (by omega)
      show cnt m g v ≤ cnt n g v + (if g n = v then 1 else 0)
      by_cases h : g n = v
      · rw [if_pos h]; omega
      · rw [if_neg h]; omega
theorem cnt_lt (g : Nat → Int) {m n : Nat} (h : m < n) : cnt m g (g m) < cnt n g (g m) := by
  have := cnt_mono g (g m) (show m + 1 ≤ n by omega)
  have e : cnt (m + 1) g (g m) = cnt m g (g m) + 1 := by
    show cnt m g (g m) + (if g m = g m then 1 else 0) = _
    rw [if_pos rfl]
  omega
theorem cnt_congr {n : Nat} {g h : Nat → Int} {v : Int} (e : ∀ j, j < n → g j = h j) : cnt n g v = cnt n h v := by
  induction n with
  | zero => rfl
  | succ n ih =>
    show cnt n g v + (if g n = v then 1 else 0) = cnt n h v + (if h n = v then 1 else 0)
    rw [ih (fun j hj => e j (by omega)), e n (by omega)]
-- where the k-th goes
def ps (n : Nat) (g : Nat → Int) (k : Nat) : Int := cle n g (g k - 1) + cnt k g (g k)
theorem ps_b {n : Nat} {g : Nat → Int} {k : Nat} (h : k < n) : 0 ≤ ps n g k ∧ ps n g k < n := by
  have a := cle_b n g (g k - 1)
  have b := cnt_b k g (g k)
  have c := cle_cnt n g (g k)
  have d := cnt_lt g h
  have e := cle_b n g (g k)
  unfold ps
  omega
theorem ps_lt {n : Nat} {g : Nat → Int} {j k : Nat} (hj : j < n) (hk : k < n) (h : g j < g k) : ps n g j < ps n g k := by
  have c := cle_cnt n g (g j)
  have d := cnt_lt g hj
  have e := cle_mono n g (show g j ≤ g k - 1 by omega)
  have b := cnt_b k g (g k)
  unfold ps
  omega
theorem ps_inj {n : Nat} {g : Nat → Int} {j k : Nat} (hj : j < n) (hk : k < n) (h : ps n g j = ps n g k) : j = k := by
  rcases Int.lt_trichotomy (g j) (g k) with q | q | q
  · have := ps_lt hj hk q; omega
  · rcases Nat.lt_trichotomy j k with p | p | p
    · have := cnt_lt g p
      unfold ps at h
      rw [q] at h this
      omega
    · exact p
    · have := cnt_lt g p
      unfold ps at h
      rw [q] at h
      omega
  · have := ps_lt hk hj q; omega
theorem pg_surj {n : Nat} {f : Nat → Nat} (h : ∀ i, i < n → f i < n) (hi : ∀ i j, i < n → j < n → f i = f j → i = j) {p : Nat} (hp : p < n) : ∃ i, i < n ∧ f i = p := by
  apply Classical.byContradiction
  intro hc
  have := pg_le (n - 1) n (fun i => if f i = n - 1 then p else f i) (fun i h1 => by
    show (if f i = n - 1 then p else f i) < n - 1
    have a := h i h1
    by_cases e : f i = n - 1
    · rw [if_pos e]
      have : p ≠ n - 1 := fun q => hc ⟨i, h1, by omega⟩
      omega
    · rw [if_neg e]; omega) (fun i j h1 h2 e => by
    have e : (if f i = n - 1 then p else f i) = (if f j = n - 1 then p else f j) := e
    by_cases ei : f i = n - 1 <;> by_cases ej : f j = n - 1
    · exact hi i j h1 h2 (by omega)
    · rw [if_pos ei, if_neg ej] at e; exact absurd ⟨j, h2, e.symm⟩ hc
    · rw [if_neg ei, if_pos ej] at e; exact absurd ⟨i, h1, e⟩ hc
    · rw [if_neg ei, if_neg ej] at e; exact hi i j h1 h2 e)
  omega
theorem ps_surj {n : Nat} {g : Nat → Int} {p : Nat} (hp : p < n) : ∃ k, k < n ∧ ps n g k = p := by
  obtain ⟨k, hk, e⟩ := pg_surj (n := n) (f := fun k => (ps n g k).toNat) (fun i hi => by have := ps_b (g := g) hi; show (ps n g i).toNat < n; omega) (fun i j hi hj e => by
    have a := ps_b (g := g) hi
    have b := ps_b (g := g) hj
    have e : (ps n g i).toNat = (ps n g j).toNat := e
    exact ps_inj (g := g) hi hj (by omega)) hp
  have a := ps_b (g := g) hk
  have e : (ps n g k).toNat = p := e
  exact ⟨k, hk, by omega⟩
-- a row that holds every k at its place is in order of the norms
def Ord (n : Nat) (g : Nat → Int) (o : Nat → Nat) : Prop := (∀ p, p < n → o p < n) ∧ (∀ k, k < n → ∃ p, p < n ∧ o p = k) ∧ (∀ p q, p < q → q < n → g (o p) ≤ g (o q))
theorem ord_of {n : Nat} {g : Nat → Int} {o : Nat → Nat} (h : ∀ k, k < n → o (ps n g k).toNat = k) : Ord n g o := by
  refine ⟨fun p hp => ?_, fun k hk => ⟨(ps n g k).toNat, by have := ps_b (g := g) hk; omega, h k hk⟩, fun p q hpq hq => ?_⟩
  · obtain ⟨k, hk, e⟩ := ps_surj (g := g) hp
    have := h k hk
    rw [e] at this
    have : o p = k := this
    omega
  · obtain ⟨j, hj, e1⟩ := ps_surj (g := g) (show p < n by omega)
    obtain ⟨k, hk, e2⟩ := ps_surj (g := g) hq
    have a1 := h j hj
    have a2 := h k hk
    rw [e1] at a1
    rw [e2] at a2
    have a1 : o p = j := a1
    have a2 : o q = k := a2
    rw [a1, a2]
    apply Classical.byContradiction
    intro hc
    have := ps_lt hk hj (show g k < g j by omega)
    omega
-- the kept ones, behind p of the found: rows z of steps, w of the found, by the order o
def Kept (F M : (Nat → Int) → Prop) (w : Nat → Nat → Int) (o : Nat → Nat) (p : Nat) (z : Nat → Nat → Int) (m : Nat) : Prop := (∀ i, i < m → F (z i) ∧ M (z i)) ∧ (∀ i j, i < m → j < m → (∀ u, u < 4 → z i u = z j u) → i = j) ∧ (∀ q, q < p → ∃ i, i < m ∧ Fit (z i) (w (o q)))
theorem kept_0 {F M : (Nat → Int) → Prop} {w : Nat → Nat → Int} {o : Nat → Nat} {z : Nat → Nat → Int} : Kept F M w o 0 z 0 := ⟨fun i h => absurd h (by omega), fun i j h => absurd h (by omega), fun q h => absurd h (by omega)⟩
theorem kept_old {F M : (Nat → Int) → Prop} {w : Nat → Nat → Int} {o : Nat → Nat} {p : Nat} {z : Nat → Nat → Int} {m : Nat} (h : Kept F M w o p z m) {i : Nat} (hi : i < m) (hf : Fit (z i) (w (o p))) : Kept F M w o (p + 1) z m := ⟨h.1, h.2.1, fun q hq => by
  by_cases e : q = p
  · subst e; exact ⟨i, hi, hf⟩
  · exact h.2.2 q (by omega)⟩
theorem FV_congr {e : Nat → Nat → Int} {bb wk fr : Nat → Nat} {dl : Int} {n r f : Nat} {b : Int} {v v' : Nat → Int} (hr : r ≤ 3) (hn : n ≤ 4) (hP : PT wk fr n r f) (h : ∀ u, u < 4 → v' u = v u) (hv : FV e bb wk fr dl n r f b v) : FV e bb wk fr dl n r f b v' := by
  obtain ⟨h1, h2, ⟨u, hu, h3⟩, h4⟩ := hv
  refine ⟨fun u hu => by rw [h u hu]; exact h1 u hu, fun u a1 a2 => by rw [h u a2]; exact h2 u a1 a2, ⟨u, hu, by rw [h u (by omega)]; exact h3⟩, fun k hk => ?_⟩
  rw [h (wk k) (by have := hP.2.1 k hk; omega), h4 k hk]
  exact PK_congr hr (fun j hj => (h (fr j) (by have := hP.2.2.1 j hj; omega)).symm)
theorem fit_l {v v' x : Nat → Int} (e : ∀ u, u < 4 → v' u = v u) (h : Fit v x) : Fit v' x := fun u hu => by rw [e u hu]; exact h u hu
theorem fit_r {v x x' : Nat → Int} (e : ∀ u, u < 4 → x' u = x u) (h : Fit v x') : Fit v x := fun u hu => by rw [← e u hu]; exact h u hu
theorem fit_e {v w : Nat → Int} (e : ∀ u, u < 4 → v u = w u) : Fit v w := fit_l e (fit_refl w)
theorem MinV_congr {e : Nat → Nat → Int} {bb wk fr : Nat → Nat} {dl : Int} {n r f : Nat} {b : Int} {v v' : Nat → Int} (h : ∀ u, u < 4 → v' u = v u) (hv : MinV e bb wk fr dl n r f b v) : MinV e bb wk fr dl n r f b v' := fun y hy hf u hu => by
  rw [h u hu]
  exact hv y hy (fit_r h hf) u hu
theorem kept_new {e : Nat → Nat → Int} {bb wk fr : Nat → Nat} {dl : Int} {n r f : Nat} {b : Int} {N : Nat} {g : Nat → Int} {w : Nat → Nat → Int} {o : Nat → Nat} {p : Nat} {z z' : Nat → Nat → Int} {m : Nat} (hr : r ≤ 3) (hn : n ≤ 4) (hP : PT wk fr n r f) (hg : ∀ k, k < N → g k = (nm (w k) : Int)) (hF : ∀ k, k < N → FV e bb wk fr dl n r f b (w k)) (hC : ∀ v, FV e bb wk fr dl n r f b v → ∃ k, k < N ∧ ∀ u, u < 4 → w k u = v u) (hO : Ord N g o) (hp : p < N) (h : Kept (FV e bb wk fr dl n r f b) (MinV e bb wk fr dl n r f b) w o p z m) (hno : ∀ i, i < m → ¬ Fit (z i) (w (o p))) (h1 : ∀ i, i < m → ∀ u, u < 4 → z' i u = z i u) (h2 : ∀ u, u < 4 → z' m u = w (o p) u) : Kept (FV e bb wk fr dl n r f b) (MinV e bb wk fr dl n r f b) w o (p + 1) z' (m + 1) := by
  have op := hO.1 p hp
  have mn : MinV e bb wk fr dl n r f b (w (o p)) := by
    intro y hy hf
    obtain ⟨k, hk, ek⟩ := hC y hy
    have nk : nm (w k) = nm y := by unfold nm; rw [ek 0 (by omega), ek 1 (by omega), ek 2 (by omega), ek 3 (by omega)]
    have le := fit_nm hf
    by_cases eq : nm y = nm (w (o p))
    · exact fit_eq hf eq
    · exfalso
      obtain ⟨q, hq, oq⟩ := hO.2.1 k hk
      have qp : q < p := by
        apply Classical.byContradiction
        intro hc
        have : g (o p) ≤ g (o q) := by
          by_cases e9 : p = q
          · rw [e9]; exact Int.le_refl _
          · exact hO.2.2 p q (by omega) hq
        rw [oq, hg k hk, hg (o p) op, nk] at this
        omega
      obtain ⟨i, hi, hfi⟩ := h.2.2 q qp
      rw [oq] at hfi
      exact hno i hi (fit_tr (fit_r ek hfi) hf)
  refine ⟨fun i hi => ?_, fun i j hi hj e9 => ?_, fun q hq => ?_⟩
  · by_cases e9 : i = m
    · subst e9
      exact ⟨FV_congr hr hn hP h2 (hF (o p) op), MinV_congr h2 mn⟩
    · have := h.1 i (by omega)
      exact ⟨FV_congr hr hn hP (h1 i (by omega)) this.1, MinV_congr (h1 i (by omega)) this.2⟩
  · by_cases e1 : i = m <;> by_cases e2 : j = m
    · omega
    · subst e1
      exact absurd (fit_e (fun u hu => by rw [← h1 j (by omega) u hu, ← e9 u hu]; exact h2 u hu)) (hno j (by omega))
    · subst e2
      exact absurd (fit_e (fun u hu => by rw [← h1 i (by omega) u hu, e9 u hu]; exact h2 u hu)) (hno i (by omega))
    · exact h.2.1 i j (by omega) (by omega) (fun u hu => by rw [← h1 i (by omega) u hu, ← h1 j (by omega) u hu]; exact e9 u hu)
  · by_cases e9 : q = p
    · subst e9
      exact ⟨m, by omega, fit_e h2⟩
    · obtain ⟨i, hi, hf⟩ := h.2.2 q (by omega)
      exact ⟨i, by omega, fit_l (h1 i hi) hf⟩
theorem kept_neg {e : Nat → Nat → Int} {bb wk fr : Nat → Nat} {dl : Int} {n r f : Nat} {b : Int} {N : Nat} {g : Nat → Int} {w : Nat → Nat → Int} {o : Nat → Nat} {z : Nat → Nat → Int} {m : Nat} (hr : r ≤ 3) (hC : ∀ v, FV e bb wk fr dl n r f b v → ∃ k, k < N ∧ ∀ u, u < 4 → w k u = v u) (hO : Ord N g o) (h : Kept (FV e bb wk fr dl n r f b) (MinV e bb wk fr dl n r f b) w o N z m) {i : Nat} (hi : i < m) : ∃ k, k < m ∧ ∀ u, u < 4 → z k u = -z i u := by
  obtain ⟨hf, hm⟩ := h.1 i hi
  have fn := FV_neg hr hf
  have mn : MinV e bb wk fr dl n r f b (fun u => -z i u) := fun y hy hfy u hu => by
    have := hm (fun u => -y u) (FV_neg hr hy) (fit_neg hfy) u hu
    show y u = -z i u
    have : -y u = z i u := this
    omega
  obtain ⟨k, hk, ek⟩ := hC _ fn
  obtain ⟨q, hq, oq⟩ := hO.2.1 k hk
  obtain ⟨j, hj, hfj⟩ := h.2.2 q hq
  rw [oq] at hfj
  exact ⟨j, hj, mn (z j) (h.1 j hj).1 (fit_r ek hfj)⟩
