theorem j_casesG1_4 {x : Int32} {a : Int} (hx : x.toInt = a) (h0 : 1 ≤ a) (h1 : a ≤ 4) : x = 1 ∨ x = 2 ∨ x = 3 ∨ x = 4 := by
  rcases (show a = 1 ∨ a = 2 ∨ a = 3 ∨ a = 4 by omega) with h | h | h | h
  · exact Or.inl (q_eq (b := 1) hx rfl h)
  · exact Or.inr (Or.inl (q_eq (b := 2) hx rfl h))
  · exact Or.inr (Or.inr (Or.inl (q_eq (b := 3) hx rfl h)))
  · exact Or.inr (Or.inr (Or.inr (q_eq (b := 4) hx rfl h)))
