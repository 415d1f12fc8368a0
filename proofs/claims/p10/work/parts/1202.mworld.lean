abbrev WM (cI cJ cII cJJ : ClassId) (ad : Nat → Nat) (f9_size f9_equations f9_areSteps f9_foundMany f9_many f9_rank f9_freeMany f9_arePlans f9_planMany : Int32) (ai : Nat → Nat → Int32) (al : Nat → Nat → Int64) : va_W := [((ad 0), .inl (cI, 12, .inl (ai 0))), ((ad 1), .inl (cI, 3, .inl (ai 1))), ((ad 2), .inl (cI, 8, .inl (ai 2))), ((ad 3), .inl (cI, 4, .inl (ai 3))), ((ad 4), .inl (cI, 4, .inl (ai 4))), ((ad 5), .inl (cJ, 80, .inr (.inl (al 5)))), ((ad 6), .inl (cJ, 20, .inr (.inl (al 6)))), ((ad 7), .inl (cI, 400000, .inl (ai 7))), ((ad 8), .inl (cI, 100000, .inl (ai 8))), ((ad 9), .inl (cI, 6001, .inl (ai 9))), ((ad 10), .inl (cI, 100000, .inl (ai 10))), ((ad 11), .inl (cI, 24000, .inl (ai 11))), ((ad 12), .inl (cI, 6000, .inl (ai 12))), ((ad 13), .inl (cI, 3, .inl (ai 13))), ((ad 14), .inl (cI, 3, .inl (ai 14))), ((ad 15), .inl (cI, 4, .inl (ai 15))), ((ad 16), .inl (cI, 4, .inl (ai 16))), ((ad 17), .inl (cJ, 9, .inr (.inl (al 17)))), ((ad 18), .inl (cJ, 3, .inr (.inl (al 18)))), ((ad 19), .inl (cI, 4, .inl (ai 19))), ((ad 20), .inl (cI, 4, .inl (ai 20))), ((ad 21), .inl (cI, 777924, .inl (ai 21))), ((ad 22), .inr (9, [.ref (ad 0), .ref (ad 1), .ref (ad 23), .ref (ad 24), .ref (ad 25), .ref (ad 26), .ref (ad 27), .ref (ad 2), .ref (ad 3), .ref (ad 4), .ref (ad 5), .ref (ad 6), .int f9_size, .int f9_equations, .int f9_areSteps, .ref (ad 7), .ref (ad 8), .ref (ad 9), .ref (ad 10), .ref (ad 11), .ref (ad 12), .int f9_foundMany, .int f9_many, .ref (ad 13), .ref (ad 14), .ref (ad 15), .ref (ad 16), .int f9_rank, .int f9_freeMany, .ref (ad 17), .ref (ad 18), .ref (ad 19), .ref (ad 20), .int f9_arePlans, .ref (ad 21), .int f9_planMany])), ((ad 23), .inl (cI, 4, .inl (ai 23))), ((ad 24), .inl (cI, 4, .inl (ai 24))), ((ad 25), .inl (cI, 4, .inl (ai 25))), ((ad 26), .inl (cI, 4, .inl (ai 26))), ((ad 27), .inl (cI, 4, .inl (ai 27)))]
def IAM (ai : Nat → Nat → Int32) : Prop := (∀ j : Nat, -6 ≤ (ai 0 j).toInt ∧ (ai 0 j).toInt ≤ 6) ∧ (∀ j : Nat, 0 ≤ (ai 4 j).toInt ∧ (ai 4 j).toInt ≤ 20) ∧ (∀ j : Nat, 0 ≤ (ai 8 j).toInt ∧ (ai 8 j).toInt ≤ 6000) ∧ (∀ j : Nat, 0 ≤ (ai 10 j).toInt ∧ (ai 10 j).toInt ≤ 99999) ∧ (∀ j : Nat, 0 ≤ (ai 12 j).toInt ∧ (ai 12 j).toInt ≤ 5999) ∧ (∀ j : Nat, 0 ≤ (ai 13 j).toInt ∧ (ai 13 j).toInt ≤ 3) ∧ (∀ j : Nat, 0 ≤ (ai 14 j).toInt ∧ (ai 14 j).toInt ≤ 2) ∧ (∀ j : Nat, 0 ≤ (ai 15 j).toInt ∧ (ai 15 j).toInt ≤ 3) ∧ (∀ j : Nat, -10 ≤ (ai 23 j).toInt ∧ (ai 23 j).toInt ≤ 10) ∧ (∀ j : Nat, -10 ≤ (ai 24 j).toInt ∧ (ai 24 j).toInt ≤ 10)
theorem IAM_at0 {ai : Nat → Nat → Int32} (h : IAM ai) (j : Nat) : -6 ≤ (ai 0 j).toInt ∧ (ai 0 j).toInt ≤ 6 := h.1 j
theorem IAM_st0 {ai : Nat → Nat → Int32} {i : Nat} {x : Int32} (h : IAM ai) {a : Int} (hx : x.toInt = a) (h1 : -6 ≤ a) (h2 : a ≤ 6) : IAM (va_up ai 0 (upd (ai 0) i x)) := ⟨(fun j => by
    show -6 ≤ (upd (ai 0) i x j).toInt ∧ (upd (ai 0) i x j).toInt ≤ 6
    by_cases q : j = i
    · rw [upd, if_pos q, hx]; omega
    · rw [upd, if_neg q]; exact h.1 j), h.2.1, h.2.2.1, h.2.2.2.1, h.2.2.2.2.1, h.2.2.2.2.2.1, h.2.2.2.2.2.2.1, h.2.2.2.2.2.2.2.1, h.2.2.2.2.2.2.2.2.1, h.2.2.2.2.2.2.2.2.2⟩
theorem IAM_at4 {ai : Nat → Nat → Int32} (h : IAM ai) (j : Nat) : 0 ≤ (ai 4 j).toInt ∧ (ai 4 j).toInt ≤ 20 := h.2.1 j
theorem IAM_st4 {ai : Nat → Nat → Int32} {i : Nat} {x : Int32} (h : IAM ai) {a : Int} (hx : x.toInt = a) (h1 : 0 ≤ a) (h2 : a ≤ 20) : IAM (va_up ai 4 (upd (ai 4) i x)) := ⟨h.1, (fun j => by
    show 0 ≤ (upd (ai 4) i x j).toInt ∧ (upd (ai 4) i x j).toInt ≤ 20
    by_cases q : j = i
    · rw [upd, if_pos q, hx]; omega
    · rw [upd, if_neg q]; exact h.2.1 j), h.2.2.1, h.2.2.2.1, h.2.2.2.2.1, h.2.2.2.2.2.1, h.2.2.2.2.2.2.1, h.2.2.2.2.2.2.2.1, h.2.2.2.2.2.2.2.2.1, h.2.2.2.2.2.2.2.2.2⟩
theorem IAM_at8 {ai : Nat → Nat → Int32} (h : IAM ai) (j : Nat) : 0 ≤ (ai 8 j).toInt ∧ (ai 8 j).toInt ≤ 6000 := h.2.2.1 j
theorem IAM_st8 {ai : Nat → Nat → Int32} {i : Nat} {x : Int32} (h : IAM ai) {a : Int} (hx : x.toInt = a) (h1 : 0 ≤ a) (h2 : a ≤ 6000) : IAM (va_up ai 8 (upd (ai 8) i x)) := ⟨h.1, h.2.1, (fun j => by
    show 0 ≤ (upd (ai 8) i x j).toInt ∧ (upd (ai 8) i x j).toInt ≤ 6000
    by_cases q : j = i
    · rw [upd, if_pos q, hx]; omega
    · rw [upd, if_neg q]; exact h.2.2.1 j), h.2.2.2.1, h.2.2.2.2.1, h.2.2.2.2.2.1, h.2.2.2.2.2.2.1, h.2.2.2.2.2.2.2.1, h.2.2.2.2.2.2.2.2.1, h.2.2.2.2.2.2.2.2.2⟩
theorem IAM_at10 {ai : Nat → Nat → Int32} (h : IAM ai) (j : Nat) : 0 ≤ (ai 10 j).toInt ∧ (ai 10 j).toInt ≤ 99999 := h.2.2.2.1 j
theorem IAM_st10 {ai : Nat → Nat → Int32} {i : Nat} {x : Int32} (h : IAM ai) {a : Int} (hx : x.toInt = a) (h1 : 0 ≤ a) (h2 : a ≤ 99999) : IAM (va_up ai 10 (upd (ai 10) i x)) := ⟨h.1, h.2.1, h.2.2.1, (fun j => by
    show 0 ≤ (upd (ai 10) i x j).toInt ∧ (upd (ai 10) i x j).toInt ≤ 99999
    by_cases q : j = i
    · rw [upd, if_pos q, hx]; omega
    · rw [upd, if_neg q]; exact h.2.2.2.1 j), h.2.2.2.2.1, h.2.2.2.2.2.1, h.2.2.2.2.2.2.1, h.2.2.2.2.2.2.2.1, h.2.2.2.2.2.2.2.2.1, h.2.2.2.2.2.2.2.2.2⟩
theorem IAM_at12 {ai : Nat → Nat → Int32} (h : IAM ai) (j : Nat) : 0 ≤ (ai 12 j).toInt ∧ (ai 12 j).toInt ≤ 5999 := h.2.2.2.2.1 j
theorem IAM_st12 {ai : Nat → Nat → Int32} {i : Nat} {x : Int32} (h : IAM ai) {a : Int} (hx : x.toInt = a) (h1 : 0 ≤ a) (h2 : a ≤ 5999) : IAM (va_up ai 12 (upd (ai 12) i x)) := ⟨h.1, h.2.1, h.2.2.1, h.2.2.2.1, (fun j => by
    show 0 ≤ (upd (ai 12) i x j).toInt ∧ (upd (ai 12) i x j).toInt ≤ 5999
    by_cases q : j = i
    · rw [upd, if_pos q, hx]; omega
    · rw [upd, if_neg q]; exact h.2.2.2.2.1 j), h.2.2.2.2.2.1, h.2.2.2.2.2.2.1, h.2.2.2.2.2.2.2.1, h.2.2.2.2.2.2.2.2.1, h.2.2.2.2.2.2.2.2.2⟩
theorem IAM_at13 {ai : Nat → Nat → Int32} (h : IAM ai) (j : Nat) : 0 ≤ (ai 13 j).toInt ∧ (ai 13 j).toInt ≤ 3 := h.2.2.2.2.2.1 j
theorem IAM_st13 {ai : Nat → Nat → Int32} {i : Nat} {x : Int32} (h : IAM ai) {a : Int} (hx : x.toInt = a) (h1 : 0 ≤ a) (h2 : a ≤ 3) : IAM (va_up ai 13 (upd (ai 13) i x)) := ⟨h.1, h.2.1, h.2.2.1, h.2.2.2.1, h.2.2.2.2.1, (fun j => by
    show 0 ≤ (upd (ai 13) i x j).toInt ∧ (upd (ai 13) i x j).toInt ≤ 3
    by_cases q : j = i
    · rw [upd, if_pos q, hx]; omega
    · rw [upd, if_neg q]; exact h.2.2.2.2.2.1 j), h.2.2.2.2.2.2.1, h.2.2.2.2.2.2.2.1, h.2.2.2.2.2.2.2.2.1, h.2.2.2.2.2.2.2.2.2⟩
theorem IAM_at14 {ai : Nat → Nat → Int32} (h : IAM ai) (j : Nat) : 0 ≤ (ai 14 j).toInt ∧ (ai 14 j).toInt ≤ 2 := h.2.2.2.2.2.2.1 j
theorem IAM_st14 {ai : Nat → Nat → Int32} {i : Nat} {x : Int32} (h : IAM ai) {a : Int} (hx : x.toInt = a) (h1 : 0 ≤ a) (h2 : a ≤ 2) : IAM (va_up ai 14 (upd (ai 14) i x)) := ⟨h.1, h.2.1, h.2.2.1, h.2.2.2.1, h.2.2.2.2.1, h.2.2.2.2.2.1, (fun j => by
    show 0 ≤ (upd (ai 14) i x j).toInt ∧ (upd (ai 14) i x j).toInt ≤ 2
    by_cases q : j = i
    · rw [upd, if_pos q, hx]; omega
    · rw [upd, if_neg q]; exact h.2.2.2.2.2.2.1 j), h.2.2.2.2.2.2.2.1, h.2.2.2.2.2.2.2.2.1, h.2.2.2.2.2.2.2.2.2⟩
theorem IAM_at15 {ai : Nat → Nat → Int32} (h : IAM ai) (j : Nat) : 0 ≤ (ai 15 j).toInt ∧ (ai 15 j).toInt ≤ 3 := h.2.2.2.2.2.2.2.1 j
theorem IAM_st15 {ai : Nat → Nat → Int32} {i : Nat} {x : Int32} (h : IAM ai) {a : Int} (hx : x.toInt = a) (h1 : 0 ≤ a) (h2 : a ≤ 3) : IAM (va_up ai 15 (upd (ai 15) i x)) := ⟨h.1, h.2.1, h.2.2.1, h.2.2.2.1, h.2.2.2.2.1, h.2.2.2.2.2.1, h.2.2.2.2.2.2.1, (fun j => by
    show 0 ≤ (upd (ai 15) i x j).toInt ∧ (upd (ai 15) i x j).toInt ≤ 3
    by_cases q : j = i
    · rw [upd, if_pos q, hx]; omega
    · rw [upd, if_neg q]; exact h.2.2.2.2.2.2.2.1 j), h.2.2.2.2.2.2.2.2.1, h.2.2.2.2.2.2.2.2.2⟩
theorem IAM_at23 {ai : Nat → Nat → Int32} (h : IAM ai) (j : Nat) : -10 ≤ (ai 23 j).toInt ∧ (ai 23 j).toInt ≤ 10 := h.2.2.2.2.2.2.2.2.1 j
theorem IAM_st23 {ai : Nat → Nat → Int32} {i : Nat} {x : Int32} (h : IAM ai) {a : Int} (hx : x.toInt = a) (h1 : -10 ≤ a) (h2 : a ≤ 10) : IAM (va_up ai 23 (upd (ai 23) i x)) := ⟨h.1, h.2.1, h.2.2.1, h.2.2.2.1, h.2.2.2.2.1, h.2.2.2.2.2.1, h.2.2.2.2.2.2.1, h.2.2.2.2.2.2.2.1, (fun j => by
    show -10 ≤ (upd (ai 23) i x j).toInt ∧ (upd (ai 23) i x j).toInt ≤ 10
    by_cases q : j = i
    · rw [upd, if_pos q, hx]; omega
    · rw [upd, if_neg q]; exact h.2.2.2.2.2.2.2.2.1 j), h.2.2.2.2.2.2.2.2.2⟩
theorem IAM_at24 {ai : Nat → Nat → Int32} (h : IAM ai) (j : Nat) : -10 ≤ (ai 24 j).toInt ∧ (ai 24 j).toInt ≤ 10 := h.2.2.2.2.2.2.2.2.2 j
theorem IAM_st24 {ai : Nat → Nat → Int32} {i : Nat} {x : Int32} (h : IAM ai) {a : Int} (hx : x.toInt = a) (h1 : -10 ≤ a) (h2 : a ≤ 10) : IAM (va_up ai 24 (upd (ai 24) i x)) := ⟨h.1, h.2.1, h.2.2.1, h.2.2.2.1, h.2.2.2.2.1, h.2.2.2.2.2.1, h.2.2.2.2.2.2.1, h.2.2.2.2.2.2.2.1, h.2.2.2.2.2.2.2.2.1, (fun j => by
    show -10 ≤ (upd (ai 24) i x j).toInt ∧ (upd (ai 24) i x j).toInt ≤ 10
    by_cases q : j = i
    · rw [upd, if_pos q, hx]; omega
    · rw [upd, if_neg q]; exact h.2.2.2.2.2.2.2.2.2 j)⟩
theorem IAM_fr {L : List Nat} {a b : Nat → Nat → Int32} (h : IAM b) (hF : FR L a b) (hd : 0 ∉ L ∧ 4 ∉ L ∧ 8 ∉ L ∧ 10 ∉ L ∧ 12 ∉ L ∧ 13 ∉ L ∧ 14 ∉ L ∧ 15 ∉ L ∧ 23 ∉ L ∧ 24 ∉ L) : IAM a := ⟨fun j => by rw [← hF 0 hd.1]; exact h.1 j, fun j => by rw [← hF 4 hd.2.1]; exact h.2.1 j, fun j => by rw [← hF 8 hd.2.2.1]; exact h.2.2.1 j, fun j => by rw [← hF 10 hd.2.2.2.1]; exact h.2.2.2.1 j, fun j => by rw [← hF 12 hd.2.2.2.2.1]; exact h.2.2.2.2.1 j, fun j => by rw [← hF 13 hd.2.2.2.2.2.1]; exact h.2.2.2.2.2.1 j, fun j => by rw [← hF 14 hd.2.2.2.2.2.2.1]; exact h.2.2.2.2.2.2.1 j, fun j => by rw [← hF 15 hd.2.2.2.2.2.2.2.1]; exact h.2.2.2.2.2.2.2.1 j, fun j => by rw [← hF 23 hd.2.2.2.2.2.2.2.2.1]; exact h.2.2.2.2.2.2.2.2.1 j, fun j => by rw [← hF 24 hd.2.2.2.2.2.2.2.2.2]; exact h.2.2.2.2.2.2.2.2.2 j⟩
