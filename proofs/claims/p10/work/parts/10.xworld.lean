abbrev WX (cI cJ cII cJJ : ClassId) (ad : Nat → Nat) (f3_unknowns f3_equations f2_roundSupports f2_stale f7_size f1_size f5_keptSize f5_aheadSize f0_solved f4_blockCount f4_blockLength f4_lastIsFree f4_stale : Int32) (ai : Nat → Nat → Int32) (al : Nat → Nat → Int64) (w0 w1 w2 w3 : Nat) : va_W := [((ad 0), .inr (8, [.ref (ad 6), .ref (ad 11), .ref (ad 29), .ref (ad 52), .ref (ad 60), .ref (ad 61), .ref (ad 62), .ref (ad 63)])), ((ad 1), .inl (cII, 3, .inr (.inr (.inr (.inr (tr [(ad 2), (ad 3), (ad 4)])))))), ((ad 2), .inl (cI, 4, .inl (ai 2))), ((ad 3), .inl (cI, 4, .inl (ai 3))), ((ad 4), .inl (cI, 4, .inl (ai 4))), ((ad 5), .inl (cI, 3, .inl (ai 5))), ((ad 6), .inr (3, [.int f3_unknowns, .int f3_equations, .ref (ad 1), .ref (ad 5), .ref (ad 7), .ref (ad 8), .ref (ad 9), .ref (ad 10)])), ((ad 7), .inl (cI, 4, .inl (ai 7))), ((ad 8), .inl (cI, 4, .inl (ai 8))), ((ad 9), .inl (cI, 4, .inl (ai 9))), ((ad 10), .inl (cI, 4, .inl (ai 10))), ((ad 11), .inr (2, [.ref (ad 6), .ref (ad 12), .ref (ad 14), .ref (ad 22), .ref (ad 25), .int f2_roundSupports, .int f2_stale])), ((ad 12), .inr (7, [.ref (ad 13), .int f7_size])), ((ad 13), .inl (cJ, 256, .inr (.inl (al 13)))), ((ad 14), .inr (1, [.ref (ad 15), .ref (ad 20), .ref (ad 21), .int f1_size])), ((ad 15), .inl (cJJ, 4, .inr (.inr (.inr (.inr (tr [w0, w1, w2, w3])))))), ((ad 16), .inl (cJ, 4, .inr (.inl (al 16)))), ((ad 17), .inl (cJ, 4, .inr (.inl (al 17)))), ((ad 18), .inl (cJ, 4, .inr (.inl (al 18)))), ((ad 19), .inl (cJ, 4, .inr (.inl (al 19)))), ((ad 20), .inl (cJ, 4, .inr (.inl (al 20)))), ((ad 21), .inl (cI, 4, .inl (ai 21))), ((ad 22), .inr (5, [.ref (ad 23), .ref (ad 24), .int f5_keptSize, .int f5_aheadSize])), ((ad 23), .inl (cI, 512, .inl (ai 23))), ((ad 24), .inl (cI, 512, .inl (ai 24))), ((ad 25), .inr (0, [.ref (ad 6), .ref (ad 12), .ref (ad 26), .ref (ad 27), .ref (ad 28), .int f0_solved])), ((ad 26), .inl (cI, 4, .inl (ai 26))), ((ad 27), .inl (cI, 4, .inl (ai 27))), ((ad 28), .inl (cI, 4, .inl (ai 28))), ((ad 29), .inr (4, [.ref (ad 6), .ref (ad 30), .ref (ad 31), .ref (ad 32), .ref (ad 33), .ref (ad 34), .ref (ad 40), .ref (ad 46), .int f4_blockCount, .int f4_blockLength, .int f4_lastIsFree, .int f4_stale])), ((ad 30), .inl (cI, 9261, .inl (ai 30))), ((ad 31), .inl (cI, 4, .inl (ai 31))), ((ad 32), .inl (cI, 4, .inl (ai 32))), ((ad 33), .inl (cI, 4, .inl (ai 33))), ((ad 34), .inl (cII, 5, .inr (.inr (.inr (.inr (tr [(ad 35), (ad 36), (ad 37), (ad 38), (ad 39)])))))), ((ad 35), .inl (cI, 3, .inl (ai 35))), ((ad 36), .inl (cI, 3, .inl (ai 36))), ((ad 37), .inl (cI, 3, .inl (ai 37))), ((ad 38), .inl (cI, 3, .inl (ai 38))), ((ad 39), .inl (cI, 3, .inl (ai 39))), ((ad 40), .inl (cII, 5, .inr (.inr (.inr (.inr (tr [(ad 41), (ad 42), (ad 43), (ad 44), (ad 45)])))))), ((ad 41), .inl (cI, 3, .inl (ai 41))), ((ad 42), .inl (cI, 3, .inl (ai 42))), ((ad 43), .inl (cI, 3, .inl (ai 43))), ((ad 44), .inl (cI, 3, .inl (ai 44))), ((ad 45), .inl (cI, 3, .inl (ai 45))), ((ad 46), .inl (cII, 5, .inr (.inr (.inr (.inr (tr [(ad 47), (ad 48), (ad 49), (ad 50), (ad 51)])))))), ((ad 47), .inl (cI, 3, .inl (ai 47))), ((ad 48), .inl (cI, 3, .inl (ai 48))), ((ad 49), .inl (cI, 3, .inl (ai 49))), ((ad 50), .inl (cI, 3, .inl (ai 50))), ((ad 51), .inl (cI, 3, .inl (ai 51))), ((ad 52), .inr (6, [.ref (ad 53), .ref (ad 58), .ref (ad 59)])), ((ad 53), .inl (cJJ, 4, .inr (.inr (.inr (.inr (tr [(ad 54), (ad 55), (ad 56), (ad 57)])))))), ((ad 54), .inl (cJ, 20, .inr (.inl (al 54)))), ((ad 55), .inl (cJ, 20, .inr (.inl (al 55)))), ((ad 56), .inl (cJ, 20, .inr (.inl (al 56)))), ((ad 57), .inl (cJ, 20, .inr (.inl (al 57)))), ((ad 58), .inl (cI, 4, .inl (ai 58))), ((ad 59), .inl (cI, 4, .inl (ai 59))), ((ad 60), .inl (cI, 4, .inl (ai 60))), ((ad 61), .inl (cI, 4, .inl (ai 61))), ((ad 62), .inl (cJ, 4, .inr (.inl (al 62)))), ((ad 63), .inl (cI, 8, .inl (ai 63)))]
def IAX (ai : Nat → Nat → Int32) : Prop := (∀ j : Nat, -6 ≤ (ai 2 j).toInt ∧ (ai 2 j).toInt ≤ 6) ∧ (∀ j : Nat, -6 ≤ (ai 3 j).toInt ∧ (ai 3 j).toInt ≤ 6) ∧ (∀ j : Nat, -6 ≤ (ai 4 j).toInt ∧ (ai 4 j).toInt ≤ 6) ∧ (∀ j : Nat, -10 ≤ (ai 7 j).toInt ∧ (ai 7 j).toInt ≤ 10) ∧ (∀ j : Nat, -10 ≤ (ai 8 j).toInt ∧ (ai 8 j).toInt ≤ 10) ∧ (∀ j : Nat, -6 ≤ (ai 26 j).toInt ∧ (ai 26 j).toInt ≤ 6) ∧ (∀ j : Nat, 0 ≤ (ai 27 j).toInt ∧ (ai 27 j).toInt ≤ 6) ∧ (∀ j : Nat, -10 ≤ (ai 32 j).toInt ∧ (ai 32 j).toInt ≤ 2147483647) ∧ (∀ j : Nat, -2147483648 ≤ (ai 33 j).toInt ∧ (ai 33 j).toInt ≤ 2147483646) ∧ (∀ j : Nat, -1 ≤ (ai 59 j).toInt ∧ (ai 59 j).toInt ≤ 20)
theorem IAX_at2 {ai : Nat → Nat → Int32} (h : IAX ai) (j : Nat) : -6 ≤ (ai 2 j).toInt ∧ (ai 2 j).toInt ≤ 6 := h.1 j
theorem IAX_st2 {ai : Nat → Nat → Int32} {i : Nat} {x : Int32} (h : IAX ai) {a : Int} (hx : x.toInt = a) (h1 : -6 ≤ a) (h2 : a ≤ 6) : IAX (va_up ai 2 (upd (ai 2) i x)) := ⟨(fun j => by
    show -6 ≤ (upd (ai 2) i x j).toInt ∧ (upd (ai 2) i x j).toInt ≤ 6
    by_cases q : j = i
    · rw [upd, if_pos q, hx]; omega
    · rw [upd, if_neg q]; exact h.1 j), h.2.1, h.2.2.1, h.2.2.2.1, h.2.2.2.2.1, h.2.2.2.2.2.1, h.2.2.2.2.2.2.1, h.2.2.2.2.2.2.2.1, h.2.2.2.2.2.2.2.2.1, h.2.2.2.2.2.2.2.2.2⟩
theorem IAX_at3 {ai : Nat → Nat → Int32} (h : IAX ai) (j : Nat) : -6 ≤ (ai 3 j).toInt ∧ (ai 3 j).toInt ≤ 6 := h.2.1 j
theorem IAX_st3 {ai : Nat → Nat → Int32} {i : Nat} {x : Int32} (h : IAX ai) {a : Int} (hx : x.toInt = a) (h1 : -6 ≤ a) (h2 : a ≤ 6) : IAX (va_up ai 3 (upd (ai 3) i x)) := ⟨h.1, (fun j => by
    show -6 ≤ (upd (ai 3) i x j).toInt ∧ (upd (ai 3) i x j).toInt ≤ 6
    by_cases q : j = i
    · rw [upd, if_pos q, hx]; omega
    · rw [upd, if_neg q]; exact h.2.1 j), h.2.2.1, h.2.2.2.1, h.2.2.2.2.1, h.2.2.2.2.2.1, h.2.2.2.2.2.2.1, h.2.2.2.2.2.2.2.1, h.2.2.2.2.2.2.2.2.1, h.2.2.2.2.2.2.2.2.2⟩
theorem IAX_at4 {ai : Nat → Nat → Int32} (h : IAX ai) (j : Nat) : -6 ≤ (ai 4 j).toInt ∧ (ai 4 j).toInt ≤ 6 := h.2.2.1 j
theorem IAX_st4 {ai : Nat → Nat → Int32} {i : Nat} {x : Int32} (h : IAX ai) {a : Int} (hx : x.toInt = a) (h1 : -6 ≤ a) (h2 : a ≤ 6) : IAX (va_up ai 4 (upd (ai 4) i x)) := ⟨h.1, h.2.1, (fun j => by
    show -6 ≤ (upd (ai 4) i x j).toInt ∧ (upd (ai 4) i x j).toInt ≤ 6
    by_cases q : j = i
    · rw [upd, if_pos q, hx]; omega
    · rw [upd, if_neg q]; exact h.2.2.1 j), h.2.2.2.1, h.2.2.2.2.1, h.2.2.2.2.2.1, h.2.2.2.2.2.2.1, h.2.2.2.2.2.2.2.1, h.2.2.2.2.2.2.2.2.1, h.2.2.2.2.2.2.2.2.2⟩
theorem IAX_at7 {ai : Nat → Nat → Int32} (h : IAX ai) (j : Nat) : -10 ≤ (ai 7 j).toInt ∧ (ai 7 j).toInt ≤ 10 := h.2.2.2.1 j
theorem IAX_st7 {ai : Nat → Nat → Int32} {i : Nat} {x : Int32} (h : IAX ai) {a : Int} (hx : x.toInt = a) (h1 : -10 ≤ a) (h2 : a ≤ 10) : IAX (va_up ai 7 (upd (ai 7) i x)) := ⟨h.1, h.2.1, h.2.2.1, (fun j => by
    show -10 ≤ (upd (ai 7) i x j).toInt ∧ (upd (ai 7) i x j).toInt ≤ 10
    by_cases q : j = i
    · rw [upd, if_pos q, hx]; omega
    · rw [upd, if_neg q]; exact h.2.2.2.1 j), h.2.2.2.2.1, h.2.2.2.2.2.1, h.2.2.2.2.2.2.1, h.2.2.2.2.2.2.2.1, h.2.2.2.2.2.2.2.2.1, h.2.2.2.2.2.2.2.2.2⟩
theorem IAX_at8 {ai : Nat → Nat → Int32} (h : IAX ai) (j : Nat) : -10 ≤ (ai 8 j).toInt ∧ (ai 8 j).toInt ≤ 10 := h.2.2.2.2.1 j
theorem IAX_st8 {ai : Nat → Nat → Int32} {i : Nat} {x : Int32} (h : IAX ai) {a : Int} (hx : x.toInt = a) (h1 : -10 ≤ a) (h2 : a ≤ 10) : IAX (va_up ai 8 (upd (ai 8) i x)) := ⟨h.1, h.2.1, h.2.2.1, h.2.2.2.1, (fun j => by
    show -10 ≤ (upd (ai 8) i x j).toInt ∧ (upd (ai 8) i x j).toInt ≤ 10
    by_cases q : j = i
    · rw [upd, if_pos q, hx]; omega
    · rw [upd, if_neg q]; exact h.2.2.2.2.1 j), h.2.2.2.2.2.1, h.2.2.2.2.2.2.1, h.2.2.2.2.2.2.2.1, h.2.2.2.2.2.2.2.2.1, h.2.2.2.2.2.2.2.2.2⟩
theorem IAX_at26 {ai : Nat → Nat → Int32} (h : IAX ai) (j : Nat) : -6 ≤ (ai 26 j).toInt ∧ (ai 26 j).toInt ≤ 6 := h.2.2.2.2.2.1 j
theorem IAX_st26 {ai : Nat → Nat → Int32} {i : Nat} {x : Int32} (h : IAX ai) {a : Int} (hx : x.toInt = a) (h1 : -6 ≤ a) (h2 : a ≤ 6) : IAX (va_up ai 26 (upd (ai 26) i x)) := ⟨h.1, h.2.1, h.2.2.1, h.2.2.2.1, h.2.2.2.2.1, (fun j => by
    show -6 ≤ (upd (ai 26) i x j).toInt ∧ (upd (ai 26) i x j).toInt ≤ 6
    by_cases q : j = i
    · rw [upd, if_pos q, hx]; omega
    · rw [upd, if_neg q]; exact h.2.2.2.2.2.1 j), h.2.2.2.2.2.2.1, h.2.2.2.2.2.2.2.1, h.2.2.2.2.2.2.2.2.1, h.2.2.2.2.2.2.2.2.2⟩
theorem IAX_at27 {ai : Nat → Nat → Int32} (h : IAX ai) (j : Nat) : 0 ≤ (ai 27 j).toInt ∧ (ai 27 j).toInt ≤ 6 := h.2.2.2.2.2.2.1 j
theorem IAX_st27 {ai : Nat → Nat → Int32} {i : Nat} {x : Int32} (h : IAX ai) {a : Int} (hx : x.toInt = a) (h1 : 0 ≤ a) (h2 : a ≤ 6) : IAX (va_up ai 27 (upd (ai 27) i x)) := ⟨h.1, h.2.1, h.2.2.1, h.2.2.2.1, h.2.2.2.2.1, h.2.2.2.2.2.1, (fun j => by
    show 0 ≤ (upd (ai 27) i x j).toInt ∧ (upd (ai 27) i x j).toInt ≤ 6
    by_cases q : j = i
    · rw [upd, if_pos q, hx]; omega
    · rw [upd, if_neg q]; exact h.2.2.2.2.2.2.1 j), h.2.2.2.2.2.2.2.1, h.2.2.2.2.2.2.2.2.1, h.2.2.2.2.2.2.2.2.2⟩
theorem IAX_at32 {ai : Nat → Nat → Int32} (h : IAX ai) (j : Nat) : -10 ≤ (ai 32 j).toInt ∧ (ai 32 j).toInt ≤ 2147483647 := h.2.2.2.2.2.2.2.1 j
theorem IAX_st32 {ai : Nat → Nat → Int32} {i : Nat} {x : Int32} (h : IAX ai) {a : Int} (hx : x.toInt = a) (h1 : -10 ≤ a) (h2 : a ≤ 2147483647) : IAX (va_up ai 32 (upd (ai 32) i x)) := ⟨h.1, h.2.1, h.2.2.1, h.2.2.2.1, h.2.2.2.2.1, h.2.2.2.2.2.1, h.2.2.2.2.2.2.1, (fun j => by
    show -10 ≤ (upd (ai 32) i x j).toInt ∧ (upd (ai 32) i x j).toInt ≤ 2147483647
    by_cases q : j = i
    · rw [upd, if_pos q, hx]; omega
    · rw [upd, if_neg q]; exact h.2.2.2.2.2.2.2.1 j), h.2.2.2.2.2.2.2.2.1, h.2.2.2.2.2.2.2.2.2⟩
theorem IAX_at33 {ai : Nat → Nat → Int32} (h : IAX ai) (j : Nat) : -2147483648 ≤ (ai 33 j).toInt ∧ (ai 33 j).toInt ≤ 2147483646 := h.2.2.2.2.2.2.2.2.1 j
theorem IAX_st33 {ai : Nat → Nat → Int32} {i : Nat} {x : Int32} (h : IAX ai) {a : Int} (hx : x.toInt = a) (h1 : -2147483648 ≤ a) (h2 : a ≤ 2147483646) : IAX (va_up ai 33 (upd (ai 33) i x)) := ⟨h.1, h.2.1, h.2.2.1, h.2.2.2.1, h.2.2.2.2.1, h.2.2.2.2.2.1, h.2.2.2.2.2.2.1, h.2.2.2.2.2.2.2.1, (fun j => by
    show -2147483648 ≤ (upd (ai 33) i x j).toInt ∧ (upd (ai 33) i x j).toInt ≤ 2147483646
    by_cases q : j = i
    · rw [upd, if_pos q, hx]; omega
    · rw [upd, if_neg q]; exact h.2.2.2.2.2.2.2.2.1 j), h.2.2.2.2.2.2.2.2.2⟩
theorem IAX_at59 {ai : Nat → Nat → Int32} (h : IAX ai) (j : Nat) : -1 ≤ (ai 59 j).toInt ∧ (ai 59 j).toInt ≤ 20 := h.2.2.2.2.2.2.2.2.2 j
theorem IAX_st59 {ai : Nat → Nat → Int32} {i : Nat} {x : Int32} (h : IAX ai) {a : Int} (hx : x.toInt = a) (h1 : -1 ≤ a) (h2 : a ≤ 20) : IAX (va_up ai 59 (upd (ai 59) i x)) := ⟨h.1, h.2.1, h.2.2.1, h.2.2.2.1, h.2.2.2.2.1, h.2.2.2.2.2.1, h.2.2.2.2.2.2.1, h.2.2.2.2.2.2.2.1, h.2.2.2.2.2.2.2.2.1, (fun j => by
    show -1 ≤ (upd (ai 59) i x j).toInt ∧ (upd (ai 59) i x j).toInt ≤ 20
    by_cases q : j = i
    · rw [upd, if_pos q, hx]; omega
    · rw [upd, if_neg q]; exact h.2.2.2.2.2.2.2.2.2 j)⟩
def RWX (ad : Nat → Nat) (w : Nat) : Prop := w = ad 16 ∨ w = ad 17 ∨ w = ad 18 ∨ w = ad 19
theorem RWX_16 (ad : Nat → Nat) : RWX ad (ad 16) := Or.inl rfl
theorem RWX_17 (ad : Nat → Nat) : RWX ad (ad 17) := Or.inr (Or.inl rfl)
theorem RWX_18 (ad : Nat → Nat) : RWX ad (ad 18) := Or.inr (Or.inr (Or.inl rfl))
theorem RWX_19 (ad : Nat → Nat) : RWX ad (ad 19) := Or.inr (Or.inr (Or.inr (rfl)))
theorem IAX_cp26_2 {ai : Nat → Nat → Int32} {sp dp n : Nat} (h : IAX ai) : IAX (va_up ai 26 (va_cpy (ai 2) (ai 26) sp dp n)) := ⟨h.1, h.2.1, h.2.2.1, h.2.2.2.1, h.2.2.2.2.1, (fun j => by
    show -6 ≤ (va_cpy (ai 2) (ai 26) sp dp n j).toInt ∧ (va_cpy (ai 2) (ai 26) sp dp n j).toInt ≤ 6
    unfold va_cpy
    split
    · exact IAX_at2 h _
    · exact h.2.2.2.2.2.1 j), h.2.2.2.2.2.2.1, h.2.2.2.2.2.2.2.1, h.2.2.2.2.2.2.2.2.1, h.2.2.2.2.2.2.2.2.2⟩
theorem IAX_cp26_3 {ai : Nat → Nat → Int32} {sp dp n : Nat} (h : IAX ai) : IAX (va_up ai 26 (va_cpy (ai 3) (ai 26) sp dp n)) := ⟨h.1, h.2.1, h.2.2.1, h.2.2.2.1, h.2.2.2.2.1, (fun j => by
    show -6 ≤ (va_cpy (ai 3) (ai 26) sp dp n j).toInt ∧ (va_cpy (ai 3) (ai 26) sp dp n j).toInt ≤ 6
    unfold va_cpy
    split
    · exact IAX_at3 h _
    · exact h.2.2.2.2.2.1 j), h.2.2.2.2.2.2.1, h.2.2.2.2.2.2.2.1, h.2.2.2.2.2.2.2.2.1, h.2.2.2.2.2.2.2.2.2⟩
theorem IAX_cp26_4 {ai : Nat → Nat → Int32} {sp dp n : Nat} (h : IAX ai) : IAX (va_up ai 26 (va_cpy (ai 4) (ai 26) sp dp n)) := ⟨h.1, h.2.1, h.2.2.1, h.2.2.2.1, h.2.2.2.2.1, (fun j => by
    show -6 ≤ (va_cpy (ai 4) (ai 26) sp dp n j).toInt ∧ (va_cpy (ai 4) (ai 26) sp dp n j).toInt ≤ 6
    unfold va_cpy
    split
    · exact IAX_at4 h _
    · exact h.2.2.2.2.2.1 j), h.2.2.2.2.2.2.1, h.2.2.2.2.2.2.2.1, h.2.2.2.2.2.2.2.2.1, h.2.2.2.2.2.2.2.2.2⟩
set_option maxRecDepth 100000 in
theorem ld_wX {p : Program} {l : Launch} {e : Env} {R : Room} {s : State} {m : MethodId} {args : Array Value} {below : List Frame} {meth : Method} {c : Code} {H : Heap} {locs : List Loc} {cells slots : Nat} {Q : State → Prop} {cc : ByteArray} {pc : Nat} {ls : Array Slot} {rest : List Value} {dC : Nat → ClassId} {dI : Nat → Nat → Nat} {cI cJ cII cJJ : ClassId} {ad : Nat → Nat} {f3_unknowns f3_equations f2_roundSupports f2_stale f7_size f1_size f5_keptSize f5_aheadSize f0_solved f4_blockCount f4_blockLength f4_lastIsFree f4_stale : Int32} {ai : Nat → Nat → Int32} {al : Nat → Nat → Int64} {w0 w1 w2 w3 : Nat} (hx : p.tables.exec = Jvm.exec) (hb : c.code = cc) (hK : va_K (dC, dI) vwCl (TY cI cJ cII cJJ) s) (hP : va_P (dC, dI) vwCl (WX cI cJ cII cJJ ad f3_unknowns f3_equations f2_roundSupports f2_stale f7_size f1_size f5_keptSize f5_aheadSize f0_solved f4_blockCount f4_blockLength f4_lastIsFree f4_stale ai al w0 w1 w2 w3) H) {w : Nat} (hw : RWX ad w) {i : Int32} (hin : vp_in i 4) (hdg : decode cc pc = .ok (.laload, 1)) (k : ∀ y : Int64, W p l e R s m args below meth c H locs cells slots Q (F0 m (pc + 1) ls (.long y :: rest))) : W p l e R s m args below meth c H locs cells slots Q (F0 m pc ls (.int i :: .ref w :: rest)) := by
  rcases hw with rfl | rfl | rfl | rfl
  · exact va_lald hx hb hK hP 16 1 rfl rfl hin hdg (k _)
  · exact va_lald hx hb hK hP 17 1 rfl rfl hin hdg (k _)
  · exact va_lald hx hb hK hP 18 1 rfl rfl hin hdg (k _)
  · exact va_lald hx hb hK hP 19 1 rfl rfl hin hdg (k _)
set_option maxRecDepth 100000 in
theorem st_wX {p : Program} {l : Launch} {e : Env} {R : Room} {s : State} {m : MethodId} {args : Array Value} {below : List Frame} {meth : Method} {c : Code} {H : Heap} {locs : List Loc} {cells slots : Nat} {Q : State → Prop} {cc : ByteArray} {pc : Nat} {ls : Array Slot} {rest : List Value} {dC : Nat → ClassId} {dI : Nat → Nat → Nat} {A : Nat → Prop} {cI cJ cII cJJ : ClassId} {H0 : Heap} {ad : Nat → Nat} {f3_unknowns f3_equations f2_roundSupports f2_stale f7_size f1_size f5_keptSize f5_aheadSize f0_solved f4_blockCount f4_blockLength f4_lastIsFree f4_stale : Int32} {ai : Nat → Nat → Int32} {al : Nat → Nat → Int64} {w0 w1 w2 w3 : Nat} (hx : p.tables.exec = Jvm.exec) (hb : c.code = cc) (hK : va_K (dC, dI) vwCl (TY cI cJ cII cJJ) s) (hP : va_P (dC, dI) vwCl (WX cI cJ cII cJJ ad f3_unknowns f3_equations f2_roundSupports f2_stale f7_size f1_size f5_keptSize f5_aheadSize f0_solved f4_blockCount f4_blockLength f4_lastIsFree f4_stale ai al w0 w1 w2 w3) H) (hD : va_D A (WX cI cJ cII cJJ ad f3_unknowns f3_equations f2_roundSupports f2_stale f7_size f1_size f5_keptSize f5_aheadSize f0_solved f4_blockCount f4_blockLength f4_lastIsFree f4_stale ai al w0 w1 w2 w3)) (hS : va_S A H0 H locs) {w : Nat} (hw : RWX ad w) {i : Int32} {x : Int64} (hin : vp_in i 4) (hdg : decode cc pc = .ok (.lastore, 1)) (k : ∀ (al2 : Nat → Nat → Int64), FL [16, 17, 18, 19] al al2 → ∀ (H1 : Heap) (locs1 : List Loc), va_P (dC, dI) vwCl (WX cI cJ cII cJJ ad f3_unknowns f3_equations f2_roundSupports f2_stale f7_size f1_size f5_keptSize f5_aheadSize f0_solved f4_blockCount f4_blockLength f4_lastIsFree f4_stale ai al2 w0 w1 w2 w3) H1 → va_D A (WX cI cJ cII cJJ ad f3_unknowns f3_equations f2_roundSupports f2_stale f7_size f1_size f5_keptSize f5_aheadSize f0_solved f4_blockCount f4_blockLength f4_lastIsFree f4_stale ai al2 w0 w1 w2 w3) → va_S A H0 H1 locs1 → W p l e R s m args below meth c H1 locs1 cells slots Q (F0 m (pc + 1) ls rest)) : W p l e R s m args below meth c H locs cells slots Q (F0 m pc ls (.long x :: .int i :: .ref w :: rest)) := by
  rcases hw with rfl | rfl | rfl | rfl
  · exact va_last hx hb hK hP hD hS 16 1 rfl rfl hin hdg (fun H1 locs1 h1 h2 h3 => k (va_up al 16 (vp_updL (al 16) i.toNatClampNeg x)) (FL_st (FL_refl _ al) rfl (by decide)) H1 locs1 h1 h2 h3)
  · exact va_last hx hb hK hP hD hS 17 1 rfl rfl hin hdg (fun H1 locs1 h1 h2 h3 => k (va_up al 17 (vp_updL (al 17) i.toNatClampNeg x)) (FL_st (FL_refl _ al) rfl (by decide)) H1 locs1 h1 h2 h3)
  · exact va_last hx hb hK hP hD hS 18 1 rfl rfl hin hdg (fun H1 locs1 h1 h2 h3 => k (va_up al 18 (vp_updL (al 18) i.toNatClampNeg x)) (FL_st (FL_refl _ al) rfl (by decide)) H1 locs1 h1 h2 h3)
  · exact va_last hx hb hK hP hD hS 19 1 rfl rfl hin hdg (fun H1 locs1 h1 h2 h3 => k (va_up al 19 (vp_updL (al 19) i.toNatClampNeg x)) (FL_st (FL_refl _ al) rfl (by decide)) H1 locs1 h1 h2 h3)
set_option maxRecDepth 100000 in
theorem RWX_in {cI cJ cII cJJ : ClassId} {ad : Nat → Nat} {f3_unknowns f3_equations f2_roundSupports f2_stale f7_size f1_size f5_keptSize f5_aheadSize f0_solved f4_blockCount f4_blockLength f4_lastIsFree f4_stale : Int32} {ai : Nat → Nat → Int32} {al : Nat → Nat → Int64} {w0 w1 w2 w3 : Nat} {w : Nat} (h : RWX ad w) : ∃ (k : Nat) (x : vp_A), (WX cI cJ cII cJJ ad f3_unknowns f3_equations f2_roundSupports f2_stale f7_size f1_size f5_keptSize f5_aheadSize f0_solved f4_blockCount f4_blockLength f4_lastIsFree f4_stale ai al w0 w1 w2 w3)[k]? = some (w, .inl (cJ, x)) := by
  rcases h with rfl | rfl | rfl | rfl
  · exact ⟨16, _, rfl⟩
  · exact ⟨17, _, rfl⟩
  · exact ⟨18, _, rfl⟩
  · exact ⟨19, _, rfl⟩
