theorem va_AOA.moved {t : FieldType} {u U : State} (hvm : u.vm.Alike U.vm) (h : va_AOA t u) : va_AOA t U := by
  obtain ⟨comp, cA, kA, h1, h2, h3, h4, h5⟩ := arrayOverA_spec h
  obtain ⟨kB, hkB, he⟩ := hvm.2.2 _ _ h3
  have e1 := va_idx_bare u.vm comp
  have e2 := va_idx_bare U.vm comp
  have e3 : u.vm.bare = U.vm.bare := by first | exact hvm.bare_eq | exact hvm.bare_eq.symm
  rw [e3] at e1
  have hi := e2.symm.trans (e1.trans h2)
  have hkind : kB.kind = .array comp (.array t) := by rw [he]; exact h4
  have f1 : U.vm.findClass (FieldType.array t).toString = some comp := by rw [hvm.findClass]; exact h1
  have f2 : U.vm.findClass ("[" ++ (FieldType.array t).toString) = some cA := by rw [hvm.findClass]; exact h5
  unfold va_AOA Cond.before Cond.holds
  simp only [Cond.value]
  rw [f1, Option.bind_some]
  refine (congrArg (fun o : Option Nat => (o.bind (fun c => (U.vm.classes[c]?).map fun (k : Class) => match k.kind with | .array _ ty => decide (ty = FieldType.array t) && decide (U.vm.findClass ("[" ++ (FieldType.array t).toString) = some c) | _ => false) == some true)) hi).trans ?_
  simp [hkB, hkind, f2]
-- rows of numbers: what stands behind the list's end is 0
def tb (l : List Int32) : Nat → Int32 := fun j => l.getD j 0
def tbl (l : List Int64) : Nat → Int64 := fun j => l.getD j 0
def tr (l : List Nat) : Nat → Option Nat := fun j => l[j]?
def setp {α : Type} (z : α) : Nat → List α → α → List α
  | 0, [], x => [x]
  | 0, _ :: t, x => x :: t
  | k + 1, [], x => z :: setp z k [] x
  | k + 1, h :: t, x => h :: setp z k t x
theorem setp_get {α : Type} (z : α) (x : α) : ∀ (k : Nat) (l : List α) (j : Nat), (setp z k l x).getD j z = if j = k then x else l.getD j z := by
  intro k
  induction k with
  | zero =>
    intro l j
    cases l with
    | nil => cases j with
      | zero => rfl
      | succ j => rfl
    | cons h t => cases j with
      | zero => rfl
      | succ j => rfl
  | succ k ih =>
    intro l j
    cases l with
    | nil => cases j with
      | zero => rfl
      | succ j =>
        have h1 := ih [] j
        by_cases e : j = k
        · subst e
          rw [if_pos rfl] at h1 ⊢
          exact h1
        · rw [if_neg e] at h1
          rw [if_neg (by omega)]
          exact h1
    | cons h t => cases j with
      | zero => rfl
      | succ j =>
        have h1 := ih t j
        by_cases e : j = k
        · subst e
          rw [if_pos rfl] at h1 ⊢
          exact h1
        · rw [if_neg e] at h1
          rw [if_neg (by omega)]
          exact h1
theorem tb_upd (l : List Int32) (k : Nat) (x : Int32) : upd (tb l) k x = tb (setp 0 k l x) := by
  funext j
  show (if j = k then x else l.getD j 0) = (setp 0 k l x).getD j 0
  rw [setp_get]
theorem tbl_upd (l : List Int64) (k : Nat) (x : Int64) : vp_updL (tbl l) k x = tbl (setp 0 k l x) := by
  funext j
  show (if j = k then x else l.getD j 0) = (setp 0 k l x).getD j 0
  rw [setp_get]
theorem tb_nil : tb [] = fun _ => 0 := by
  funext j
  simp [tb]
theorem tbl_nil : tbl [] = fun _ => 0 := by
  funext j
  simp [tbl]
def cpl (f g : List Int32) (sp dp : Nat) : Nat → List Int32
  | 0 => g
  | n + 1 => setp 0 (dp + n) (cpl f g sp dp n) (tb f (sp + n))
theorem tb_cpy (f g : List Int32) (sp dp : Nat) : ∀ n : Nat, va_cpy (tb f) (tb g) sp dp n = tb (cpl f g sp dp n) := by
  intro n
  induction n with
  | zero =>
    funext k
    show (if dp ≤ k ∧ k < dp + 0 then _ else tb g k) = tb g k
    rw [if_neg (by omega)]
  | succ n ih =>
    show _ = tb (setp 0 (dp + n) (cpl f g sp dp n) (tb f (sp + n)))
    rw [← tb_upd, ← ih]
    funext k
    show (if dp ≤ k ∧ k < dp + (n + 1) then tb f (sp + (k - dp)) else tb g k) = (if k = dp + n then tb f (sp + n) else if dp ≤ k ∧ k < dp + n then tb f (sp + (k - dp)) else tb g k)
    by_cases e : k = dp + n
    · subst e
      rw [if_pos (by omega), if_pos rfl]
      congr 1
      omega
    · rw [if_neg e]
      by_cases h : dp ≤ k ∧ k < dp + n
      · rw [if_pos (by omega), if_pos h]
      · rw [if_neg (by omega), if_neg h]
theorem tr_range (r : Nat → Nat) (N : Nat) : (fun i => if i < N then some (r i) else none) = tr ((List.range N).map r) := by
  funext i
  show _ = ((List.range N).map r)[i]?
  by_cases h : i < N
  · rw [if_pos h, List.getElem?_map, List.getElem?_range h]
    rfl
  · rw [if_neg h, List.getElem?_eq_none (by simp; omega)]
theorem vin {i : Int32} {n : Nat} (h : (decide (i < 0) || decide (n ≤ i.toNatClampNeg)) = false) : vp_in i n := by
  unfold vp_in
  simpa using h
abbrev TY (cI cJ cII cJJ : ClassId) : List (ClassId × FieldType) := [(cI, .int), (cJ, .long), (cII, .array .int), (cJJ, .array .long)]
/-- what a contract takes besides its cells: 1: the table GAPS at g; 2: what the constructors ask of the classes -/
def GXA (xk g : Nat) (A : Nat → Prop) (U : State) : Prop := match xk with
  | 0 => True
  | 1 => va_Z "StepWorks$VectorList" "GAPS" "[I" (.ref g) A U U.heap ∧ va_T .int g 5 (fun j => .int (tb [57, 23, 10, 4, 1] j)) A U U.heap ∧ va_AOA .long U
  | _ => va_AOA .int U ∧ va_AOA .long U ∧ va_Nw (.methodLinkNest RX2 11 yX7_init RX8) U ∧ va_Nw (.methodLinkNest RX2 20 yX1_init RX8) U ∧ va_Nw (.methodLinkNest RX2 27 yX5_init RX8) U
def PcS (dC : Nat → ClassId) (dI : Nat → Nat → Nat) (ty : List (ClassId × FieldType)) (av : List Value) (wi : va_W) (sz xk g : Nat) : Array Value → State → Prop := va_Pc av (fun U => U.heap.size = sz ∧ va_P (dC, dI) vwCl wi U.heap ∧ va_K (dC, dI) vwCl ty U ∧ va_D (fun _ => True) wi ∧ GXA xk g (va_A wi sz) U)
def WO (dC : Nat → ClassId) (dI : Nat → Nat → Nat) (ty : List (ClassId × FieldType)) (wo : va_W) (A : Nat → Prop) (t : State) : Prop := va_P (dC, dI) vwCl wo t.heap ∧ va_K (dC, dI) vwCl ty t ∧ va_D A wo
def QcI (dC : Nat → ClassId) (dI : Nat → Nat → Nat) (ty : List (ClassId × FieldType)) (r : Int32) (wo : va_W) (A : Nat → Prop) : Array Value → State → Outcome → State → Prop := va_Qi (fun (r' : Int32) (_ : Unit) => r' = r) (fun _ t => WO dC dI ty wo A t) A
def QcL (dC : Nat → ClassId) (dI : Nat → Nat → Nat) (ty : List (ClassId × FieldType)) (r : Int64) (wo : va_W) (A : Nat → Prop) : Array Value → State → Outcome → State → Prop := va_Ql (fun (r' : Int64) (_ : Unit) => r' = r) (fun _ t => WO dC dI ty wo A t) A
def QcR (dC : Nat → ClassId) (dI : Nat → Nat → Nat) (ty : List (ClassId × FieldType)) (r : Nat) (wo : va_W) (A : Nat → Prop) : Array Value → State → Outcome → State → Prop := va_Qr (fun (_ : Unit) => True) (fun _ a t => a = r ∧ WO dC dI ty wo A t) A
def QcV (dC : Nat → ClassId) (dI : Nat → Nat → Nat) (ty : List (ClassId × FieldType)) (wo : (Nat → Nat) → va_W) (A : Nat → Prop) : Array Value → State → Outcome → State → Prop := va_Qv (fun (_ : Nat → Nat) => True) (fun u t => WO dC dI ty (wo u) A t) A
theorem GXA.calling {xk g : Nat} {A : Nat → Prop} {U : State} {j : JFrame} {mk : MethodId} {a : Array Value} (h : GXA xk g A U) : GXA xk g A (U.calling j mk a) := by
  match xk, h with
  | 0, _ => trivial
  | 1, h => exact ⟨va_Z.moved (u := U) (U := U.calling j mk a) (Vm.Alike.refl U.vm) h.1, va_T.moved (u := U) (U := U.calling j mk a) (Vm.Alike.refl U.vm) h.2.1, h.2.2⟩
  | _ + 2, h => exact h
theorem Met.ofWF {l : Launch} {y : MethodName} {ws ws' : List Cond} {rm : Room} {Pc : Array Value → State → Prop} {Qc : Array Value → State → Outcome → State → Prop} {mc ms : Nat} {free : Addr → Prop} {cc : ByteArray} {maxL : Nat} {ret : Option FieldType} (hy : plainFor y = true) (hw : ws = Cond.code y cc maxL ret :: ws') (body : ∀ p e s m args below meth c s₁, BodyLoose p l y (headSpec ws rm) cc maxL ret e s m args below meth c s₁ → c.maxLocals = maxL → Pc args s → W p l e (headSpec ws rm).room s m args below meth c s.heap [] 0 0 (MQ below Qc args s mc ms free) (entryFrame m args maxL)) : Met l y ws rm Pc Qc mc ms free := by
  refine MetFree.of_bodySF (code := cc) (maxLocals := maxL) (ret := ret) hy ?_ ?_
  · intro args s m h hn
    obtain ⟨meth, c, h1, h2, h3, h4, h5, h6, -, -⟩ := Cond.code_spec hn (atoms_spec (ws := ws) h _ (by rw [hw]; exact List.mem_cons_self))
    exact ⟨meth, c, h1, h2, h3, h4, h5, h6⟩
  · intro p e s m args below meth c s₁ B hml hP _
    have hh0 : s₁.heap = s.heap := by rw [B.state]; rfl
    obtain ⟨t, a1, o, b1, b2, b3⟩ := body p e s m args below meth c s₁ B hml hP s₁ hh0 (Stand.of_body B)
    exact ⟨t, o, a1, b1, b2, ⟨b3.1, b3.2⟩⟩
theorem SM.of {l : Launch} {y : MethodName} {bytes : ByteArray} {maxL : Nat} {ret : Option FieldType} {rm : Room} {dC : Nat → ClassId} {dI : Nat → Nat → Nat} {ty : List (ClassId × FieldType)} {av : List Value} {wi : va_W} {sz xk g mc ms : Nat} (QcF : (Nat → Prop) → Array Value → State → Outcome → State → Prop) (hy : plainFor y = true) (hlen : (lg_sl av).length ≤ maxL)
    (body : ∀ (p : Program) (e : Env) (s : State) (m : MethodId) (below : List Frame) (meth : Method) (c : Code) (A : Nat → Prop) (ls : Array Slot), p.tables.exec = Jvm.exec → c.code = bytes → meth.sig.returnType = ret → c.maxLocals = maxL → s.vm.findClass y.cls = some m.cls → (∀ w ∈ TT, w.before av.toArray s = true) → meth.locks = false → meth.name = y.name → (∀ q, s.heap.size ≤ q → A q) → va_K (dC, dI) vwCl ty s → va_P (dC, dI) vwCl wi s.heap → va_D A wi → va_S A s.heap s.heap [] → GXA xk g A s → lv_has ls maxL (lv_args 0 av) → W p l e rm s m av.toArray below meth c s.heap [] 0 0 (MQ below (QcF A) av.toArray s mc ms A) (F0 m 0 ls [])) : Met l y (.code y bytes maxL ret :: TT) rm (PcS dC dI ty av wi sz xk g) (QcF (va_A wi sz)) mc ms (va_A wi sz) := by
  refine Met.ofWF (cc := bytes) (maxL := maxL) (ret := ret) hy rfl ?_
  intro p e s m args below meth c s₁ B hml hv
  obtain ⟨rfl, hsz, hP, hK, hD0, hX⟩ := hv
  have hts := atoms_spec (ws := .code y bytes maxL ret :: TT) B.pre
  subst hsz
  rw [lg_entry_eq]
  exact body p e s m below meth c (va_A wi s.heap.size) _ B.exec B.bytes B.returns hml (findClass_of_methodNamed B.named) (fun w h => hts w (List.mem_cons_of_mem _ h)) B.notSynchronized (name_of_methodNamed B.named B.method).1 (fun q h => Or.inr h) hK hP (hD0.self (sz := s.heap.size)) va_S.rf hX (lv_entry av hlen)
section SXA
variable {p : Program} {l : Launch} {e : Env} {R : Room} {s : State} {m : MethodId} {args : Array Value} {below : List Frame} {meth : Method} {c : Code} {H : Heap} {locs : List Loc} {cells slots : Nat} {Q : State → Prop}
variable {cc : ByteArray} {pc : Nat} {ls : Array Slot} {rest : List Value} {dC : Nat → ClassId} {dI : Nat → Nat → Nat} {A : Nat → Prop} {a : Nat} {ty : List (ClassId × FieldType)} {ws W' wo wc wr : va_W}
theorem r_i {r : Int32} (hx : p.tables.exec = Jvm.exec) (hb : c.code = cc) (hr : meth.sig.returnType = some .int) (hk : meth.locks = false) (hK : va_K (dC, dI) vwCl ty s) (hP : va_P (dC, dI) vwCl wo H) (hD : va_D A wo) (hS : va_S A s.heap H locs) (hdg : decode cc pc = .ok (.ireturn, 1)) : W p l e R s m args below meth c H locs cells slots (MQ below (QcI dC dI ty r wo A) args s cells slots A) (F0 m pc ls [.int r]) :=
  W.iret (v := r) hx hb hr (fun t ht hW => ⟨⟨r, (), rfl, rfl, by rw [ht]; exact hP, va_K.moved hW.alike hK, hD⟩, hS.F ht⟩) hS.2.2 hdg hk
theorem r_z {r : Int32} (hx : p.tables.exec = Jvm.exec) (hb : c.code = cc) (hr : meth.sig.returnType = some .boolean) (hk : meth.locks = false) (hK : va_K (dC, dI) vwCl ty s) (hP : va_P (dC, dI) vwCl wo H) (hD : va_D A wo) (hS : va_S A s.heap H locs) (hdg : decode cc pc = .ok (.ireturn, 1)) (hn : narrow .boolean (.int r) = .int r) : W p l e R s m args below meth c H locs cells slots (MQ below (QcI dC dI ty r wo A) args s cells slots A) (F0 m pc ls [.int r]) :=
  W.zret (v := r) hx hb hr hn (fun t ht hW => ⟨⟨r, (), rfl, rfl, by rw [ht]; exact hP, va_K.moved hW.alike hK, hD⟩, hS.F ht⟩) hS.2.2 hdg hk
theorem r_l {r : Int64} (hx : p.tables.exec = Jvm.exec) (hb : c.code = cc) (hr : meth.sig.returnType = some .long) (hk : meth.locks = false) (hK : va_K (dC, dI) vwCl ty s) (hP : va_P (dC, dI) vwCl wo H) (hD : va_D A wo) (hS : va_S A s.heap H locs) (hdg : decode cc pc = .ok (.lreturn, 1)) : W p l e R s m args below meth c H locs cells slots (MQ below (QcL dC dI ty r wo A) args s cells slots A) (F0 m pc ls [.long r]) :=
  W.lret (v := r) hx hb hr (fun t ht hW => ⟨⟨r, (), rfl, rfl, by rw [ht]; exact hP, va_K.moved hW.alike hK, hD⟩, hS.F ht⟩) hS.2.2 hdg hk
theorem r_a {r : Nat} {C : String} (hx : p.tables.exec = Jvm.exec) (hb : c.code = cc) (hr : meth.sig.returnType = some (.object C)) (hk : meth.locks = false) (hK : va_K (dC, dI) vwCl ty s) (hP : va_P (dC, dI) vwCl wo H) (hD : va_D A wo) (hS : va_S A s.heap H locs) (hdg : decode cc pc = .ok (.areturn, 1)) : W p l e R s m args below meth c H locs cells slots (MQ below (QcR dC dI ty r wo A) args s cells slots A) (F0 m pc ls [.ref r]) :=
  W.aret (v := .ref r) hx hb hr (Or.inl ⟨C, rfl⟩) (Or.inr ⟨r, rfl⟩) (fun t ht hW => ⟨⟨(), r, rfl, trivial, rfl, by rw [ht]; exact hP, va_K.moved hW.alike hK, hD⟩, hS.F ht⟩) hS.2.2 hdg hk
theorem r_v {wf : (Nat → Nat) → va_W} (u : Nat → Nat) (hx : p.tables.exec = Jvm.exec) (hb : c.code = cc) (hr : meth.sig.returnType = none) (hk : meth.locks = false) (hK : va_K (dC, dI) vwCl ty s) (hP : va_P (dC, dI) vwCl (wf u) H) (hD : va_D A (wf u)) (hS : va_S A s.heap H locs) (hdg : decode cc pc = .ok (.return_, 1)) : W p l e R s m args below meth c H locs cells slots (MQ below (QcV dC dI ty wf A) args s cells slots A) (F0 m pc ls []) :=
  W.vret hx hb hr (fun t ht hW => ⟨⟨u, rfl, trivial, by rw [ht]; exact hP, va_K.moved hW.alike hK, hD⟩, hS.F ht⟩) hS.2.2 hdg hk
theorem GXA.go {xk xk' g g' : Nat} {U : State} (h : GXA xk g A s) (hS : va_S A s.heap H locs) (hF : ∀ q, va_A wc H.size q → A q) (hU : U.heap = H) (hW : s.WarmedH U.vm) (he : xk' = 0 ∨ (xk' = 1 ∧ xk = 1 ∧ g' = g)) : GXA xk' g' (va_A wc H.size) U := by
  rcases he with rfl | ⟨rfl, rfl, rfl⟩
  · trivial
  · obtain ⟨h1, h2, h3⟩ := h
    subst hU
    exact ⟨((va_Z.moved hW.alike h1).kept hS.2.1).narrow hF, ((va_T.moved hW.alike h2).kept hS.2.1).narrow hF, va_AOA.moved hW.alike h3⟩
theorem PcS.blind {av : List Value} {wi : va_W} {sz xk g : Nat} : FrameBlind (PcS dC dI ty av wi sz xk g) := fun a U j mk q => by
  obtain ⟨q0, q1, qP, qK, qD, qX⟩ := q
  exact ⟨q0, q1, qP, va_K.moved (u := U) (U := U.calling j mk a) (Vm.Alike.refl U.vm) qK, qD, qX.calling⟩
def CV (own : String) (idx : Nat) (C : String) (y : MethodName) (bytes : ByteArray) (maxL : Nat) (ret : Option FieldType) (n : Nat) : Prop := Cond.methodLink own idx y ∈ TT ∧ Cond.instanceMethod y ∈ TT ∧ Cond.selects C y y ∈ TT ∧ Cond.initialized C ∈ TT ∧ Cond.code y bytes maxL ret ∈ TT ∧ (y.cls = C ∧ y.cls ≠ "java/lang/invoke/MethodHandle" ∧ y.cls ≠ "java/lang/invoke/VarHandle" ∧ (parseMethodDescriptor y.desc).map (fun d => d.parameters.length) = some n)
theorem CV.good {own : String} {idx : Nat} {C : String} {y : MethodName} {bytes : ByteArray} {maxL : Nat} {ret : Option FieldType} {n : Nat} (h : CV own idx C y bytes maxL ret n) : GoodIn TT (wsV own idx C y (.code y bytes maxL ret :: TT)) := by
  obtain ⟨h1, h2, h3, h4, h5, -⟩ := h
  intro w hw
  have hm : w ∈ TT := by
    unfold wsV at hw
    rcases List.mem_append.mp hw with hw | hw
    · simp only [List.mem_cons, List.not_mem_nil, or_false] at hw
      rcases hw with rfl | rfl | rfl | rfl
      · exact h1
      · exact h2
      · exact h3
      · exact h4
    · rcases List.mem_cons.mp hw with rfl | hw
      · exact h5
      · exact hw
  exact ⟨hm, TT_good hm⟩
def CSt (own : String) (idx : Nat) (y : MethodName) (bytes : ByteArray) (maxL : Nat) (ret : Option FieldType) (n : Nat) : Prop := Cond.methodLink own idx y ∈ TT ∧ Cond.static y ∈ TT ∧ Cond.initialized y.cls ∈ TT ∧ Cond.code y bytes maxL ret ∈ TT ∧ (y.cls ≠ "java/lang/invoke/MethodHandle" ∧ y.cls ≠ "java/lang/invoke/VarHandle" ∧ (parseMethodDescriptor y.desc).map (fun d => d.parameters.length) = some n)
theorem good_self {y : MethodName} {bytes : ByteArray} {maxL : Nat} {ret : Option FieldType} (h5 : Cond.code y bytes maxL ret ∈ TT) : GoodIn TT (.code y bytes maxL ret :: TT) := by
  intro w hw
  have hm : w ∈ TT := by
    rcases List.mem_cons.mp hw with rfl | hw
    · exact h5
    · exact hw
  exact ⟨hm, TT_good hm⟩
theorem sxC {wc : va_W} {isC : List Nat} (hC : isC.map (fun i => ws[i]?) = wc.map some) : isC.filterMap (fun i => ws[i]?) = wc := by
  have : isC.filterMap (fun i => ws[i]?) = (isC.map (fun i => ws[i]?)).filterMap id := by
    rw [List.filterMap_map]
    rfl
  rw [this, hC, List.filterMap_map]
  exact List.filterMap_some
/-- a call of an instance method of a class, its contract at the heap as it stands -/
theorem runV {own C : String} {idx : Nat} {y : MethodName} {bytes : ByteArray} {maxL n nL : Nat} {ret : Option FieldType} {rm : Room} {xk xk' g g' b q0 ci mc ms : Nat} {fs : List Value} {T : u_T} {N : Nat} {As st : List Value} {Qc : Array Value → State → Outcome → State → Prop} (F : CallFix p m c cc nL s args TT own) (hK : va_K (dC, dI) vwCl ty s) (hP : va_P (dC, dI) vwCl ws H) (hD : va_D A ws) (hS : va_S A s.heap H locs) (hA : ∀ q, s.heap.size ≤ q → A q) (hX : GXA xk g A s)
    (cw : CV own idx C y bytes maxL ret n) (isC : List Nat) (hC : isC.map (fun i => ws[i]?) = wc.map some) (hn1 : va_nd isC = true) (hM : Met l y (.code y bytes maxL ret :: TT) rm (PcS dC dI ty (.ref b :: As) wc H.size xk' g') Qc mc ms (va_A wc H.size)) (hrm : rm.frames + 1 ≤ R.frames ∧ 8 + (maxL + 11) + rm.locals ≤ R.locals) (hrc : rm.cells = mc) (hrs : rm.slots = ms) (he : xk' = 0 ∨ (xk' = 1 ∧ xk = 1 ∧ g' = g))
    (hrecv : wc[q0]? = some (b, .inr (ci, fs))) (hcl : vwCl[ci]? = some (C, T, N)) (hlen : As.length = n) (hsz : ls.size = nL) (hst : st = As.reverse ++ .ref b :: rest) (hroom : (rest.map fun v => v.category).sum ≤ 8) (hdg : decode cc pc = .ok (.invokevirtual idx, 3)) (hf : cells + mc ≤ R.cells ∧ slots + ms ≤ R.slots) : va_Run p l e R s m args below meth c H locs cells slots mc ms (F0 m pc ls st) rest (Qc (Value.ref b :: As).toArray) (va_A wc H.size) := by
  have hPc := hP.sub (ws' := wc) isC (sxC hC)
  have hDc := hD.sub (ws' := wc) isC hn1 hC
  have hFc := va_free (wc := wc) hD hS hA isC hC
  refine va_runV (As := As) (rest := rest) F hM (cwV n F.2.2.2.2 cw.good rfl hrc hrs cw.2.2.2.2.2 hrm) ⟨PcS.blind, ?_, ?_⟩ rfl hlen hsz hst (lv_room hroom) hdg hf
  · exact va_recv hK hPc hcl hrecv
  · exact fun U hU hW => ⟨rfl, by rw [hU], by rw [hU]; exact hPc, va_K.moved hW.alike hK, hDc.weaken (fun _ _ _ _ => trivial), hX.go hS hFc hU hW he⟩
end SXA
