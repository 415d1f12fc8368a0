/-! THE CLAIM OUT OF ONE WALK OF THE LAW'S BODY. Your part is whole_start (and what it stands on); all else here is the same for every law, but numbers. -/
def R_law : String := "StepWorksLaw"
def lw_P (b : Addr) (xs : List Int32) (args : Array Value) (s : State) : Prop := args = #[.ref b] ∧ s.IntsAt b xs ∧ xs.length ≤ 2560 ∧ (Jvm.Cond.and given_1 narrow_1).before args s = true
def lw_Q (_ : Array Value) (s : State) (o : Outcome) (t : State) : Prop := o = .returned (some (.int 1)) ∧ Framed s o t [] 600000 7302250
def lw_Z (below : List Frame) (a : Array Value) (s : State) : State → Prop := fun t => ∃ o, t.status = .running ∧ Ended t below o ∧ lw_Q a s o t
/-- the law's own end, with 1 on the stack, nothing written that was there before, its room as the claim has it -/
theorem lw_ret {p : Program} {l : Launch} {e : Env} {s : State} {m : MethodId} {below : List Frame} {meth : Method} {c : Code} {b : Nat} (hx : p.tables.exec = Jvm.exec) (hb : c.code = code) (hr : meth.sig.returnType = ret) (hlocks : meth.locks = false) {pc : Nat} {H : Heap} {ls : Array Slot} (hdg : decode code pc = .ok (.ireturn, 1)) : W p l e room_1 s m #[Value.ref b] below meth c H [] 600000 7302250 (lw_Z below #[Value.ref b] s) (F0 m pc ls [.int 1]) := by
  intro T hT X
  obtain ⟨fs, hret, hrun, hended, hW, hframe⟩ := X.leave (v := some (.int 1)) (hlocks := hlocks) (fun h => by rw [hr] at h; cases h)
  have hmeth' : T.vm.method? m = some meth := X.method'
  refine ⟨T.setFrames fs, ?_, .returned (some (.int 1)), hrun, hended, rfl, ⟨_, rfl⟩, hW, hframe⟩
  jvm_step X.here [X.here.top, hx, hb, hdg, hmeth', hr, ret, narrow_b1]
  (try refine ⟨rfl, ?_⟩); (try refine ⟨rfl, ?_⟩)
  first | (intro acts; rw [hret _ acts rfl rfl rfl]) | rw [hret _ _ rfl rfl rfl]
  exact Steps.refl _
/-- what holds at the law's entry: the machine, the code, the tables' words (any of lw_tbl by 'hts w (by decide +kernel)'), the script of L ints xs at the cell b, what the Statement gives of the start (any of its parts by flat_of_before) -/
def lw_At (p : Program) (s : State) (m : MethodId) (meth : Method) (c : Code) (b L : Nat) (xs : Nat → Int32) : Prop :=
  p.tables.exec = Jvm.exec ∧ c.code = code ∧ meth.sig.returnType = ret ∧ c.maxLocals = 4 ∧ s.vm.findClass R_law = some m.cls ∧ (∀ w ∈ lw_tbl, w.before #[Value.ref b] s = true) ∧ va_X b L xs s s.heap ∧ b < s.heap.size ∧ meth.locks = false ∧ (Jvm.Cond.and given_1 narrow_1).before #[Value.ref b] s = true
abbrev AA (s : State) : Nat → Prop := fun q => s.heap.size ≤ q
def SDr (aix aim : Nat → Nat → Int32) (n : Int) : Prop := ∀ e : Nat, (e : Int) < n → (aix 5 e).toInt = (aim 1 e).toInt
def TRr (aix aim : Nat → Nat → Int32) : Prop := ∀ t : Nat, t < 4 → ((aim 3 t).toInt < 0 ∧ (aix 59 t).toInt = -1) ∨ (0 ≤ (aim 3 t).toInt ∧ (aix 58 t).toInt = (aim 3 t).toInt ∧ (aix 59 t).toInt = (aim 4 t).toInt)
theorem SDr_x {L : List Nat} {a a' b : Nat → Nat → Int32} {n : Int} (h : SDr a b n) (hF : FR L a a') (hd : 5 ∉ L) : SDr a' b n := fun e he => by rw [hF 5 hd]; exact h e he
theorem SDr_m {L : List Nat} {a b b' : Nat → Nat → Int32} {n : Int} (h : SDr a b n) (hF : FR L b b') (hd : 1 ∉ L) : SDr a b' n := fun e he => by rw [hF 1 hd]; exact h e he
theorem SDr_le {a b : Nat → Nat → Int32} {n n' : Int} (h : SDr a b n) (hn : n' ≤ n) : SDr a b n' := fun e he => h e (by omega)
theorem TRr_x {L : List Nat} {a a' b : Nat → Nat → Int32} (h : TRr a b) (hF : FR L a a') (hd : 58 ∉ L ∧ 59 ∉ L) : TRr a' b := fun t ht => by rw [hF 58 hd.1, hF 59 hd.2]; exact h t ht
theorem TRr_m {L : List Nat} {a b b' : Nat → Nat → Int32} (h : TRr a b) (hF : FR L b b') (hd : 3 ∉ L ∧ 4 ∉ L) : TRr a b' := fun t ht => by rw [hF 3 hd.1, hF 4 hd.2]; exact h t ht
theorem up_one {f : Nat → Int32} {i j : Nat} {x : Int32} : upd f i x j = if j = i then x else f j := rfl
theorem SDr_eq {a a' b b' : Nat → Nat → Int32} {ex em : Int32} {n : Int} (h : SDr a b ex.toInt) (hx : (3 ≤ ex.toInt ∧ a' 5 = a 5) ∨ (ex.toInt < 3 ∧ a' 5 = upd (a 5) ex.toInt.toNat 0)) (hm : (3 ≤ em.toInt ∧ b' 1 = b 1) ∨ (em.toInt < 3 ∧ b' 1 = upd (b 1) em.toInt.toNat 0)) (he : ex.toInt = em.toInt) (h0 : 0 ≤ ex.toInt) (hn : (3 ≤ ex.toInt ∧ n = ex.toInt) ∨ (ex.toInt < 3 ∧ n = ex.toInt + 1)) : SDr a' b' n := fun e h9 => by
  rcases hx with ⟨q1, q2⟩ | ⟨q1, q2⟩
  · rcases hm with ⟨p1, p2⟩ | ⟨p1, p2⟩
    · rw [q2, p2]
      exact h e (by omega)
    · omega
  · rcases hm with ⟨p1, p2⟩ | ⟨p1, p2⟩
    · omega
    · rw [q2, p2, up_one, up_one, ← he]
      by_cases q : e = ex.toInt.toNat
      · rw [if_pos q, if_pos q]
      · rw [if_neg q, if_neg q]
        exact h e (by omega)
theorem SDr_rt {a a' b b' : Nat → Nat → Int32} {ex em x v : Int32} (h : SDr a b ex.toInt) (hx : (((0 ≤ x.toInt ∧ x.toInt < ex.toInt) ∧ (-200 ≤ v.toInt ∧ v.toInt ≤ 200) ∧ a' 5 = upd (a 5) x.toInt.toNat v)) ∨ (¬ ((0 ≤ x.toInt ∧ x.toInt < ex.toInt) ∧ (-200 ≤ v.toInt ∧ v.toInt ≤ 200)) ∧ a' 5 = a 5)) (hm : (((0 ≤ x.toInt ∧ x.toInt < em.toInt) ∧ (-200 ≤ v.toInt ∧ v.toInt ≤ 200) ∧ b' 1 = upd (b 1) x.toInt.toNat v)) ∨ (¬ ((0 ≤ x.toInt ∧ x.toInt < em.toInt) ∧ (-200 ≤ v.toInt ∧ v.toInt ≤ 200)) ∧ b' 1 = b 1)) (he : ex.toInt = em.toInt) : SDr a' b' ex.toInt := fun e h9 => by
  rcases hx with ⟨q1, q3, q2⟩ | ⟨q1, q2⟩
  · rcases hm with ⟨p1, p3, p2⟩ | ⟨p1, p2⟩
    · rw [q2, p2, up_one, up_one]
      by_cases q : e = x.toInt.toNat
      · rw [if_pos q, if_pos q]
      · rw [if_neg q, if_neg q]
        exact h e h9
    · omega
  · rcases hm with ⟨p1, p3, p2⟩ | ⟨p1, p2⟩
    · omega
    · rw [q2, p2]
      exact h e h9
theorem TRr_tr {a a' b b' : Nat → Nat → Int32} {x so n : Int32} (h : TRr a b) (hx : (((0 ≤ x.toInt ∧ x.toInt < 4) ∧ (0 ≤ so.toInt ∧ so.toInt < 4) ∧ 0 ≤ n.toInt ∧ n.toInt ≤ 20) ∧ a' 58 = upd (a 58) x.toInt.toNat so ∧ a' 59 = upd (a 59) x.toInt.toNat n) ∨ (¬ ((0 ≤ x.toInt ∧ x.toInt < 4) ∧ (0 ≤ so.toInt ∧ so.toInt < 4) ∧ 0 ≤ n.toInt ∧ n.toInt ≤ 20) ∧ a' 58 = a 58 ∧ a' 59 = a 59)) (hm : (((0 ≤ x.toInt ∧ x.toInt < 4) ∧ (0 ≤ so.toInt ∧ so.toInt < 4) ∧ 0 ≤ n.toInt ∧ n.toInt ≤ 20) ∧ b' 3 = upd (b 3) x.toInt.toNat so ∧ b' 4 = upd (b 4) x.toInt.toNat n) ∨ (¬ ((0 ≤ x.toInt ∧ x.toInt < 4) ∧ (0 ≤ so.toInt ∧ so.toInt < 4) ∧ 0 ≤ n.toInt ∧ n.toInt ≤ 20) ∧ b' 3 = b 3 ∧ b' 4 = b 4)) : TRr a' b' := fun t ht => by
  rcases hx with ⟨q1, q2, q3⟩ | ⟨q1, q2, q3⟩
  · rcases hm with ⟨p1, p2, p3⟩ | ⟨p1, p2, p3⟩
    · rw [q2, q3, p2, p3, up_one, up_one, up_one, up_one]
      by_cases q : t = x.toInt.toNat
      · rw [if_pos q, if_pos q, if_pos q, if_pos q]
        exact Or.inr ⟨q1.2.1.1, rfl, rfl⟩
      · rw [if_neg q, if_neg q, if_neg q, if_neg q]
        exact h t ht
    · exact absurd q1 p1
  · rcases hm with ⟨p1, p2, p3⟩ | ⟨p1, p2, p3⟩
    · exact absurd p1 q1
    · rw [q2, q3, p2, p3]
      exact h t ht
theorem cmp_cell {x1 x2 L1 S1 l1 s1 r r' : Int} (hx : ((¬ (0 ≤ x1 ∧ x1 < 4) ∧ r = -1) ∨ ((0 ≤ x1 ∧ x1 < 4) ∧ L1 = -1 ∧ r = -7) ∨ ((0 ≤ x1 ∧ x1 < 4) ∧ L1 ≠ -1 ∧ ¬ (0 ≤ x2 ∧ x2 < L1) ∧ r = -3) ∨ ((0 ≤ x1 ∧ x1 < 4) ∧ L1 ≠ -1 ∧ (0 ≤ x2 ∧ x2 < L1) ∧ r = 1))) (hm : ((¬ (0 ≤ x1 ∧ x1 < 4) ∧ r' = -1) ∨ ((0 ≤ x1 ∧ x1 < 4) ∧ s1 < 0 ∧ r' = -7) ∨ ((0 ≤ x1 ∧ x1 < 4) ∧ 0 ≤ s1 ∧ ¬ (0 ≤ x2 ∧ x2 < l1) ∧ r' = -3) ∨ ((0 ≤ x1 ∧ x1 < 4) ∧ 0 ≤ s1 ∧ (0 ≤ x2 ∧ x2 < l1) ∧ r' = 1))) (t1 : (0 ≤ x1 ∧ x1 < 4) → ((s1 < 0 ∧ L1 = -1) ∨ (0 ≤ s1 ∧ S1 = s1 ∧ L1 = l1))) (u1 : 0 ≤ l1 ∧ l1 ≤ 20) : r = r' := by
  rcases hx with h | h | h | h <;> rcases hm with k | k | k | k <;> first | omega | (have t1 := t1 h.1; rcases t1 with ⟨a, b⟩ | ⟨a, b, c⟩ <;> omega)
theorem cmp_copy {x1 x2 x3 x4 L1 L3 S1 S3 l1 l3 s1 s3 r r' : Int} (hx : ((¬ ((0 ≤ x1 ∧ x1 < 4) ∧ (0 ≤ x3 ∧ x3 < 4)) ∧ r = -1) ∨ (((0 ≤ x1 ∧ x1 < 4) ∧ (0 ≤ x3 ∧ x3 < 4)) ∧ (L1 = -1 ∨ L3 = -1) ∧ r = -7) ∨ (((0 ≤ x1 ∧ x1 < 4) ∧ (0 ≤ x3 ∧ x3 < 4)) ∧ (L1 ≠ -1 ∧ L3 ≠ -1) ∧ ¬ S1 = S3 ∧ r = -2) ∨ (((0 ≤ x1 ∧ x1 < 4) ∧ (0 ≤ x3 ∧ x3 < 4)) ∧ (L1 ≠ -1 ∧ L3 ≠ -1) ∧ S1 = S3 ∧ x4 < 0 ∧ r = -4) ∨ (((0 ≤ x1 ∧ x1 < 4) ∧ (0 ≤ x3 ∧ x3 < 4)) ∧ (L1 ≠ -1 ∧ L3 ≠ -1) ∧ S1 = S3 ∧ 0 ≤ x4 ∧ (x2 < 0 ∨ L1 < x2 + x4 ∨ L3 < x4) ∧ r = -3) ∨ (((0 ≤ x1 ∧ x1 < 4) ∧ (0 ≤ x3 ∧ x3 < 4)) ∧ (L1 ≠ -1 ∧ L3 ≠ -1) ∧ S1 = S3 ∧ 0 ≤ x4 ∧ (0 ≤ x2 ∧ x2 + x4 ≤ L1 ∧ x4 ≤ L3) ∧ r = 1))) (hm : ((¬ ((0 ≤ x1 ∧ x1 < 4) ∧ (0 ≤ x3 ∧ x3 < 4)) ∧ r' = -1) ∨ (((0 ≤ x1 ∧ x1 < 4) ∧ (0 ≤ x3 ∧ x3 < 4)) ∧ (s1 < 0 ∨ s3 < 0) ∧ r' = -7) ∨ (((0 ≤ x1 ∧ x1 < 4) ∧ (0 ≤ x3 ∧ x3 < 4)) ∧ (0 ≤ s1 ∧ 0 ≤ s3) ∧ ¬ s1 = s3 ∧ r' = -2) ∨ (((0 ≤ x1 ∧ x1 < 4) ∧ (0 ≤ x3 ∧ x3 < 4)) ∧ (0 ≤ s1 ∧ 0 ≤ s3) ∧ s1 = s3 ∧ x4 < 0 ∧ r' = -4) ∨ (((0 ≤ x1 ∧ x1 < 4) ∧ (0 ≤ x3 ∧ x3 < 4)) ∧ (0 ≤ s1 ∧ 0 ≤ s3) ∧ s1 = s3 ∧ 0 ≤ x4 ∧ (x2 < 0 ∨ l1 < x2 + x4 ∨ l3 < x4) ∧ r' = -3) ∨ (((0 ≤ x1 ∧ x1 < 4) ∧ (0 ≤ x3 ∧ x3 < 4)) ∧ (0 ≤ s1 ∧ 0 ≤ s3) ∧ s1 = s3 ∧ 0 ≤ x4 ∧ (0 ≤ x2 ∧ x2 + x4 ≤ l1 ∧ x4 ≤ l3) ∧ r' = 1))) (t1 : (0 ≤ x1 ∧ x1 < 4) → ((s1 < 0 ∧ L1 = -1) ∨ (0 ≤ s1 ∧ S1 = s1 ∧ L1 = l1))) (u1 : 0 ≤ l1 ∧ l1 ≤ 20) (t3 : (0 ≤ x3 ∧ x3 < 4) → ((s3 < 0 ∧ L3 = -1) ∨ (0 ≤ s3 ∧ S3 = s3 ∧ L3 = l3))) (u3 : 0 ≤ l3 ∧ l3 ≤ 20) : r = r' := by
  by_cases q : (0 ≤ x1 ∧ x1 < 4) ∧ (0 ≤ x3 ∧ x3 < 4)
  · have t1 := t1 q.1
    have t3 := t3 q.2
    clear q
    rcases t1 with ⟨a, b⟩ | ⟨a, b, c⟩
    · rcases hx with h | h | h | h | h | h <;> first | omega | (rcases hm with k | k | k | k | k | k <;> omega)
    · rcases t3 with ⟨d, e⟩ | ⟨d, e, f⟩
      · rcases hx with h | h | h | h | h | h <;> first | omega | (rcases hm with k | k | k | k | k | k <;> omega)
      · subst b c e f
        rcases hx with h | h | h | h | h | h <;> rcases hm with k | k | k | k | k | k <;> omega
  · rcases hx with h | h | h | h | h | h <;> first | omega | (rcases hm with k | k | k | k | k | k <;> omega)
def LPd (p : Program) (l : Launch) (e : Env) (s : State) (m : MethodId) (below : List Frame) (meth : Method) (c : Code) (b : Nat) (dC : Nat → ClassId) (dI : Nat → Nat → Nat) (cI cJ cII cJJ : ClassId) (adx adm : Nat → Nat) (i : Int32) : Prop := ∀ (f3_unknowns f3_equations f2_roundSupports f2_stale f7_size f1_size f5_keptSize f5_aheadSize f0_solved f4_blockCount f4_blockLength f4_lastIsFree f4_stale : Int32) (aix : Nat → Nat → Int32) (alx : Nat → Nat → Int64) (w0 w1 w2 w3 : Nat) (f9_size f9_equations f9_areSteps f9_foundMany f9_many f9_rank f9_freeMany f9_arePlans f9_planMany : Int32) (aim : Nat → Nat → Int32) (alm : Nat → Nat → Int64) (H : Heap) (locs : List Loc) (ls : Array Slot), (1 ≤ f3_unknowns.toInt ∧ f3_unknowns.toInt ≤ 4) → (0 ≤ f3_equations.toInt ∧ f3_equations.toInt ≤ 3) → (0 ≤ f2_stale.toInt ∧ f2_stale.toInt ≤ 1) → (0 ≤ f7_size.toInt ∧ f7_size.toInt ≤ 256) → (0 ≤ f1_size.toInt ∧ f1_size.toInt ≤ 4) → (0 ≤ f5_keptSize.toInt ∧ f5_keptSize.toInt ≤ 128) → (0 ≤ f5_aheadSize.toInt ∧ f5_aheadSize.toInt ≤ 128) → (0 ≤ f4_blockCount.toInt ∧ f4_blockCount.toInt ≤ 9261) → (0 ≤ f4_blockLength.toInt ∧ f4_blockLength.toInt ≤ 21) → (0 ≤ f4_lastIsFree.toInt ∧ f4_lastIsFree.toInt ≤ 1) → (0 ≤ f4_stale.toInt ∧ f4_stale.toInt ≤ 1) → IAX aix → RWX adx w0 → RWX adx w1 → RWX adx w2 → RWX adx w3 → (1 ≤ f9_size.toInt ∧ f9_size.toInt ≤ 4) → (0 ≤ f9_equations.toInt ∧ f9_equations.toInt ≤ 3) → (0 ≤ f9_areSteps.toInt ∧ f9_areSteps.toInt ≤ 1) → (0 ≤ f9_foundMany.toInt ∧ f9_foundMany.toInt ≤ 99999) → (0 ≤ f9_many.toInt ∧ f9_many.toInt ≤ 6000) → (0 ≤ f9_rank.toInt ∧ f9_rank.toInt ≤ 3) → (0 ≤ f9_freeMany.toInt ∧ f9_freeMany.toInt ≤ 4) → (0 ≤ f9_arePlans.toInt ∧ f9_arePlans.toInt ≤ 1) → (0 ≤ f9_planMany.toInt ∧ f9_planMany.toInt ≤ 194481) → IAM aim → (f9_areSteps.toInt = 0 ∨ CIa aim f9_size f9_many.toInt) → f3_unknowns.toInt = f9_size.toInt → f3_equations.toInt = f9_equations.toInt → SDr aix aim f3_equations.toInt → TRr aix aim → va_P (dC, dI) vwCl ((WX cI cJ cII cJJ adx f3_unknowns f3_equations f2_roundSupports f2_stale f7_size f1_size f5_keptSize f5_aheadSize f0_solved f4_blockCount f4_blockLength f4_lastIsFree f4_stale aix alx w0 w1 w2 w3) ++ (WM cI cJ cII cJJ adm f9_size f9_equations f9_areSteps f9_foundMany f9_many f9_rank f9_freeMany f9_arePlans f9_planMany aim alm)) H → va_D (AA s) ((WX cI cJ cII cJJ adx f3_unknowns f3_equations f2_roundSupports f2_stale f7_size f1_size f5_keptSize f5_aheadSize f0_solved f4_blockCount f4_blockLength f4_lastIsFree f4_stale aix alx w0 w1 w2 w3) ++ (WM cI cJ cII cJJ adm f9_size f9_equations f9_areSteps f9_foundMany f9_many f9_rank f9_freeMany f9_arePlans f9_planMany aim alm)) → va_S (AA s) s.heap H locs → lv_has ls 4 [(3, .int i), (2, .ref (adm 22)), (1, .ref (adx 0)), (0, .ref b)] → W p l e room_1 s m #[Value.ref b] below meth c H locs 600000 7302250 (lw_Z below #[Value.ref b] s) (F0 m 18 ls [])
def aix0 : Nat → Nat → Int32 := (fun k => ([tb [], tb [], tb [], tb [], tb [], tb [], tb [], tb [0, 0, 0, 0], tb [10, 10, 10, 10], tb [0, 0, 0, 0], tb [0, 0, 0, 0], tb [], tb [], tb [], tb [], tb [], tb [], tb [], tb [], tb [], tb [], tb [], tb [], tb [], tb [], tb [], tb [], tb [], tb [], tb [], tb [], tb [], tb [], tb [], tb [], tb [], tb [], tb [], tb [], tb [], tb [], tb [], tb [], tb [], tb [], tb [], tb [], tb [], tb [], tb [], tb [], tb [], tb [], tb [], tb [], tb [], tb [], tb [], tb [], tb [(-1), (-1), (-1), (-1)], tb [], tb [], tb [], tb []] : List (Nat → Int32)).getD k (tb []))
def alx0 : Nat → Nat → Int64 := (fun k => ([tbl [], tbl [], tbl [], tbl [], tbl [], tbl [], tbl [], tbl [], tbl [], tbl [], tbl [], tbl [], tbl [], tbl [], tbl [], tbl [], tbl [], tbl [], tbl [], tbl [], tbl [], tbl [], tbl [], tbl [], tbl [], tbl [], tbl [], tbl [], tbl [], tbl [], tbl [], tbl [], tbl [], tbl [], tbl [], tbl [], tbl [], tbl [], tbl [], tbl [], tbl [], tbl [], tbl [], tbl [], tbl [], tbl [], tbl [], tbl [], tbl [], tbl [], tbl [], tbl [], tbl [], tbl [], tbl [], tbl [], tbl [], tbl [], tbl [], tbl [], tbl [], tbl [], tbl [], tbl []] : List (Nat → Int64)).getD k (tbl []))
def aim0 : Nat → Nat → Int32 := (fun k => ([tb [], tb [], tb [], tb [(-1), (-1), (-1), (-1)], tb [], tb [], tb [], tb [], tb [], tb [], tb [], tb [], tb [], tb [], tb [], tb [], tb [], tb [], tb [], tb [], tb [], tb [], tb [], tb [0, 0, 0, 0], tb [10, 10, 10, 10], tb [0, 0, 0, 0], tb [0, 0, 0, 0], tb [0, 0, 0, 0]] : List (Nat → Int32)).getD k (tb []))
def alm0 : Nat → Nat → Int64 := (fun k => ([tbl [], tbl [], tbl [], tbl [], tbl [], tbl [], tbl [], tbl [], tbl [], tbl [], tbl [], tbl [], tbl [], tbl [], tbl [], tbl [], tbl [], tbl [], tbl [], tbl [], tbl [], tbl [], tbl [], tbl [], tbl [], tbl [], tbl [], tbl []] : List (Nat → Int64)).getD k (tbl []))
theorem tb_rng {l : List Int32} {lo hi : Int} (h : ∀ x ∈ l, lo ≤ x.toInt ∧ x.toInt ≤ hi) (h0 : lo ≤ 0 ∧ 0 ≤ hi) (j : Nat) : lo ≤ (tb l j).toInt ∧ (tb l j).toInt ≤ hi := by
  unfold tb
  by_cases q : j < l.length
  · rw [List.getD_eq_getElem?_getD, List.getElem?_eq_getElem q]
    exact h _ (List.getElem_mem q)
  · rw [List.getD_eq_getElem?_getD, List.getElem?_eq_none (by omega)]
    exact h0
theorem IAX_0 : IAX aix0 := ⟨fun j => tb_rng (l := []) (lo := -6) (hi := 6) (by decide) (by decide) j, fun j => tb_rng (l := []) (lo := -6) (hi := 6) (by decide) (by decide) j, fun j => tb_rng (l := []) (lo := -6) (hi := 6) (by decide) (by decide) j, fun j => tb_rng (l := [0, 0, 0, 0]) (lo := -10) (hi := 10) (by decide) (by decide) j, fun j => tb_rng (l := [10, 10, 10, 10]) (lo := -10) (hi := 10) (by decide) (by decide) j, fun j => tb_rng (l := []) (lo := -6) (hi := 6) (by decide) (by decide) j, fun j => tb_rng (l := []) (lo := 0) (hi := 6) (by decide) (by decide) j, fun j => tb_rng (l := []) (lo := -10) (hi := 2147483647) (by decide) (by decide) j, fun j => tb_rng (l := []) (lo := -2147483648) (hi := 2147483646) (by decide) (by decide) j, fun j => tb_rng (l := [(-1), (-1), (-1), (-1)]) (lo := -1) (hi := 20) (by decide) (by decide) j⟩
theorem IAM_0 : IAM aim0 := ⟨fun j => tb_rng (l := []) (lo := -6) (hi := 6) (by decide) (by decide) j, fun j => tb_rng (l := []) (lo := 0) (hi := 20) (by decide) (by decide) j, fun j => tb_rng (l := []) (lo := 0) (hi := 6000) (by decide) (by decide) j, fun j => tb_rng (l := []) (lo := 0) (hi := 99999) (by decide) (by decide) j, fun j => tb_rng (l := []) (lo := 0) (hi := 5999) (by decide) (by decide) j, fun j => tb_rng (l := []) (lo := 0) (hi := 3) (by decide) (by decide) j, fun j => tb_rng (l := []) (lo := 0) (hi := 2) (by decide) (by decide) j, fun j => tb_rng (l := []) (lo := 0) (hi := 3) (by decide) (by decide) j, fun j => tb_rng (l := [0, 0, 0, 0]) (lo := -10) (hi := 10) (by decide) (by decide) j, fun j => tb_rng (l := [10, 10, 10, 10]) (lo := -10) (hi := 10) (by decide) (by decide) j⟩
theorem TRr_0 : TRr aix0 aim0 := fun t ht => by
  rcases (show t = 0 ∨ t = 1 ∨ t = 2 ∨ t = 3 by omega) with rfl | rfl | rfl | rfl <;> exact Or.inl (by decide)
