/-! ===== BEGIN words of one list among another's, by their places ===== -/
theorem goodIn_r {big : List Cond} (ws : List Cond) (ps : List Nat) (hp : ws = ps.filterMap (fun i => big[i]?)) (h : ws.all goodWord = true) : GoodIn big ws := by
  intro w hw
  have h1 := List.all_eq_true.mp h w hw
  rw [hp] at hw
  obtain ⟨i, -, hi⟩ := List.mem_filterMap.mp hw
  have hm : w ∈ big := by first | exact List.mem_of_getElem? hi | exact List.getElem?_mem hi
  exact ⟨hm, good_of_word h1⟩
theorem goodIn_app {big a b : List Cond} (ha : GoodIn big a) (hb : GoodIn big b) : GoodIn big (a ++ b) := fun w h => (List.mem_append.mp h).elim (ha w) (hb w)
theorem goodIn_ca {big a b : List Cond} {c : Cond} (ha : GoodIn big (c :: a)) (hb : GoodIn big b) : GoodIn big (c :: (a ++ b)) := fun w h => (List.mem_cons.mp h).elim (fun e => ha w (List.mem_cons.mpr (Or.inl e))) (fun h => (List.mem_append.mp h).elim (fun h => ha w (List.mem_cons.mpr (Or.inr h))) (hb w))
theorem goodIn_sub {big ws : List Cond} (hm : ∀ w ∈ ws, w ∈ big) (h : ws.all goodWord = true) : GoodIn big ws := fun w hw => ⟨hm w hw, good_of_word (List.all_eq_true.mp h w hw)⟩
/-! ===== END ===== -/

/-! ===== BEGIN new T[n][m]: the outer array a place, the inner ones among the pooled ===== -/
/-- f, but v at every address of l -/
def vr_up {α : Type} (f : Nat → α) (l : List Nat) (v : α) : Nat → α := fun a => if a ∈ l then v else f a
theorem vr_up_in {α : Type} {f : Nat → α} {l : List Nat} {v : α} {a : Nat} (h : a ∈ l) : vr_up f l v a = v := if_pos h
theorem vr_up_ne {α : Type} {f : Nat → α} {l : List Nat} {v : α} {a : Nat} (h : a ∉ l) : vr_up f l v a = f a := if_neg h
theorem vr_rows {L l : List Nat} {f : Nat → va_E} {e : va_E} (h : ∀ a, a ∈ l → a ∉ L) : va_pl L f ++ l.map (fun a => (a, e)) = va_pl (L ++ l) (vr_up f l e) := by
  unfold va_pl
  rw [List.map_append]
  congr 1
  · apply List.map_congr_left
    intro a ha
    rw [vr_up_ne (fun q => h a q ha)]
  · apply List.map_congr_left
    intro a ha
    rw [vr_up_in ha]
theorem vr_lay {X rows : va_W} {x : Nat × va_E} {pl : va_W} {D : va_G} {cl : List vw_C} {H : Heap} (hP : va_P D cl (((X ++ pl) ++ [x]) ++ rows) H) : va_P D cl ((X ++ [x]) ++ (pl ++ rows)) H := by
  rw [List.append_assoc (X ++ pl)] at hP
  have h := va_P.swap hP
  rw [← List.append_assoc X] at h
  have h2 := va_P.swap h
  rw [List.append_assoc (X ++ [x])] at h2
  exact h2
theorem vr_layD {X rows : va_W} {x : Nat × va_E} {pl : va_W} {A : Nat → Prop} (hD : va_D A (((X ++ pl) ++ [x]) ++ rows)) : va_D A ((X ++ [x]) ++ (pl ++ rows)) := by
  rw [List.append_assoc (X ++ pl)] at hD
  have h := va_D.swap hD
  rw [← List.append_assoc X] at h
  have h2 := va_D.swap h
  rw [List.append_assoc (X ++ [x])] at h2
  exact h2
theorem vr_outer (c : ClassId) (N h0 : Nat) : ∀ i : Nat, Jvm.Free.Multi.outerC c N h0 i = arrV c N (fun j => va_rf (if j < i then some (h0 + 1 + j) else none))
  | 0 => by
    show ({ cls := c, slots := Array.replicate N .null, vm := .none } : Cell) = _
    rw [arrV_new]
    refine congrArg (arrV c N) (funext fun j => ?_)
    simp [va_rf]
  | i + 1 => by
    show (Jvm.Free.Multi.outerC c N h0 i).setSlot i (.ref (h0 + 1 + i)) = _
    rw [vr_outer c N h0 i, arrV_store]
    refine congrArg (arrV c N) (funext fun j => ?_)
    by_cases e : j = i
    · subst e
      simp [updV, va_rf]
    · by_cases h : j < i
      · simp [updV, e, h, Nat.lt_succ_of_lt h]
      · simp [updV, e, h, show ¬ j < i + 1 by omega]
def va_AOA (t : FieldType) (U : State) : Prop := (Cond.arrayOver (.array t)).before #[] U = true
theorem va_AOA.use {t : FieldType} {A : Array Value} {U : State} (h : va_AOA t U) : (Cond.arrayOver (.array t)).before A U = true := h
section VGM
variable {p : Program} {l : Launch} {e : Env} {R : Room} {s : State} {m : MethodId} {args : Array Value} {below : List Frame} {meth : Method} {c : Code} {H : Heap} {locs : List Loc} {cells slots : Nat} {Q : State → Prop}
variable {cc : ByteArray} {pc : Nat} {ls : Array Slot} {rest : List Value} {D : va_G} {cl : List vw_C} {A : Nat → Prop} {a : Nat} {tys : List (ClassId × FieldType)} {ws : va_W} {H0 : Heap}
theorem va_mna {X : va_W} {L : List Nat} {f : Nat → va_E} {cc : ByteArray} (hexec : p.tables.exec = Jvm.exec) (hb : c.code = cc) {own : String} {index : Nat} {ty : FieldType} {cy : ClassId} (hown : s.vm.findClass own = some m.cls) (hclink : (Cond.classLink own index ("[" ++ (FieldType.array ty).toString)).before args s = true) (hover : va_AOA ty s) (harr : (Cond.arrayClass ty).before args s = true) (hcy : s.vm.findClass (FieldType.array ty).toString = some cy)
    (hK : va_K D cl tys s) (hP : va_P D cl (X ++ va_pl L f) H) (hD : va_D A (X ++ va_pl L f)) (hS : va_S A H0 H locs) (hA : ∀ q, H0.size ≤ q → A q) {n k : Int32} {N' K' : Nat} {z : vp_A} (hn : ¬ n < 0) (hk : ¬ k < 0) (hN : n.toNatClampNeg = N') (hM : k.toNatClampNeg = K')
    (hb1 : N' * 4 ≤ 536870912) (hb2 : K' * componentBytes ty ≤ 536870912) (hb3 : K' ≤ 536870912) (hdf : fits ty (defaultValue ty) = true) (hdd : (defaultValue ty).isDefault = true) (hcells : cells + (1 + N') ≤ R.cells) (hslots : slots + (N' + N' * K') ≤ R.slots) (hz : ∀ c : ClassId, Jvm.Free.Multi.innerC c K' (defaultValue ty) = vp_cell c z) (hdg : decode cc pc = .ok (.multianewarray index 2, 4))
    (kk : ∀ (q : Nat) (r : Nat → Nat) (cA : ClassId) (H1 : Heap), (∀ i j : Nat, i < N' → j < N' → r i = r j → i = j) → (∀ i : Nat, i < N' → r i ∉ L) → va_K D cl (tys ++ [(cA, .array ty)]) s →
      va_P D cl ((X ++ [(q, .inl (cA, N', .inr (.inr (.inr (.inr (fun i => if i < N' then some (r i) else none))))))]) ++ va_pl (L ++ (List.range N').map r) (vr_up f ((List.range N').map r) (.inl (cy, z)))) H1 → va_D A ((X ++ [(q, .inl (cA, N', .inr (.inr (.inr (.inr (fun i => if i < N' then some (r i) else none))))))]) ++ va_pl (L ++ (List.range N').map r) (vr_up f ((List.range N').map r) (.inl (cy, z)))) → va_S A H0 H1 locs →
      W p l e R s m args below meth c H1 locs (cells + 1 + N') (slots + N' + N' * K') Q (F0 m (pc + 4) ls (.ref q :: rest))) : W p l e R s m args below meth c H locs cells slots Q (F0 m pc ls (.int k :: .int n :: rest)) := by
  subst hN
  subst hM
  intro T hT Xs
  obtain ⟨vm₁, cA, comp, -, fA, fC, hO, -, X', step⟩ := Xs.multianewarray2F hexec hown hclink (va_AOA.use hover) harr (g := F0 m pc ls (.int k :: .int n :: rest)) rfl (by rw [hb]; exact hdg) rfl hn hk hb1 hb2 hb3 hdf hdd hcells hslots
  have ec : some cy = some comp := hcy.symm.trans fC
  cases ec
  generalize hF : Jvm.Free.Multi.fill (T.setVm vm₁) cA cy n.toNatClampNeg k.toNatClampNeg (defaultValue ty) n.toNatClampNeg = F at X' step
  have hTh : (T.setVm vm₁).heap = H := hT
  obtain ⟨f1, f2, -, -⟩ := Jvm.Free.Multi.fill_facts (T.setVm vm₁) cA cy n.toNatClampNeg k.toNatClampNeg (defaultValue ty) n.toNatClampNeg
  rw [hF, hTh] at f1 f2
  have hold : ∀ x : Nat, x < H.size → F.heap[x]? = H[x]? := fun x hx => by
    have := Jvm.Free.Multi.fill_old (T.setVm vm₁) cA cy n.toNatClampNeg k.toNatClampNeg (defaultValue ty) (a := x) (by rw [hTh]; exact hx) n.toNatClampNeg
    rw [hF, hTh] at this
    exact this
  have hrow : ∀ j : Nat, j < n.toNatClampNeg → F.heap[H.size + 1 + j]? = some (vp_cell cy z) := fun j hj => by
    have := Jvm.Free.Multi.fill_inner (T.setVm vm₁) cA cy n.toNatClampNeg k.toNatClampNeg (defaultValue ty) n.toNatClampNeg j hj
    rw [hF, hTh, hz] at this
    exact this
  have hout : Jvm.Free.Multi.outerC cA n.toNatClampNeg H.size n.toNatClampNeg = vp_cell cA (n.toNatClampNeg, .inr (.inr (.inr (.inr (fun i => if i < n.toNatClampNeg then some (H.size + 1 + i) else none))))) := by
    rw [vp_cell_q]
    exact vr_outer cA n.toNatClampNeg H.size n.toNatClampNeg
  rw [hout] at f2
  have hlt : ∀ a, a ∈ L → a < H.size := fun a ha => by
    obtain ⟨k9, hk9⟩ := va_pl_get (X := X) (f := f) ha
    exact (hP k9 _ hk9).lt
  have hnl : ∀ i : Nat, i < n.toNatClampNeg → H.size + 1 + i ∉ L := fun i _ h => by
    have := hlt _ h
    omega
  have hnm : ∀ a, a ∈ (List.range n.toNatClampNeg).map (fun i => H.size + 1 + i) → a ∉ L := fun a ha h => by
    obtain ⟨i, -, rfl⟩ := List.mem_map.mp ha
    have := hlt _ h
    omega
  have hP0 : va_P D cl (X ++ va_pl L f) F.heap := hP.kept (fun k9 x hx => hold x.1 ((hP k9 x hx).lt))
  have hP1 : va_P D cl ((X ++ va_pl L f) ++ [(H.size, .inl (cA, n.toNatClampNeg, .inr (.inr (.inr (.inr (fun i => if i < n.toNatClampNeg then some (H.size + 1 + i) else none))))))]) F.heap := hP0.app (fun k9 x hx => by
    have h0 : k9 < 1 := (List.getElem?_eq_some_iff.mp hx).1
    rw [show k9 = 0 by omega] at hx
    cases hx
    exact f2)
  have hP2 : va_P D cl (((X ++ va_pl L f) ++ [(H.size, .inl (cA, n.toNatClampNeg, .inr (.inr (.inr (.inr (fun i => if i < n.toNatClampNeg then some (H.size + 1 + i) else none))))))]) ++ ((List.range n.toNatClampNeg).map (fun i => H.size + 1 + i)).map (fun a => (a, .inl (cy, z)))) F.heap := hP1.app (fun k9 x hx => by
    obtain ⟨a, ha, rfl⟩ := List.mem_map.mp (List.mem_of_getElem? hx)
    obtain ⟨i, hi, rfl⟩ := List.mem_map.mp ha
    exact hrow i (List.mem_range.mp hi))
  have hD2 : va_D A (((X ++ va_pl L f) ++ [(H.size, .inl (cA, n.toNatClampNeg, .inr (.inr (.inr (.inr (fun i => if i < n.toNatClampNeg then some (H.size + 1 + i) else none))))))]) ++ ((List.range n.toNatClampNeg).map (fun i => H.size + 1 + i)).map (fun a => (a, .inl (cy, z)))) := by
    have hD1 := hD.push (e := .inl (cA, n.toNatClampNeg, .inr (.inr (.inr (.inr (fun i => if i < n.toNatClampNeg then some (H.size + 1 + i) else none)))))) hP rfl (hA _ hS.1)
    generalize hW1 : (X ++ va_pl L f) ++ [(H.size, .inl (cA, n.toNatClampNeg, .inr (.inr (.inr (.inr (fun i => if i < n.toNatClampNeg then some (H.size + 1 + i) else none))))))] = W1 at hD1 hP1 ⊢
    have hle : ∀ (k9 : Nat) (x : Nat × va_E), W1[k9]? = some x → x.1 ≤ H.size := fun k9 x hx => by
      rw [← hW1] at hx
      by_cases hl : k9 < (X ++ va_pl L f).length
      · rw [List.getElem?_append_left hl] at hx
        exact Nat.le_of_lt ((hP k9 x hx).lt)
      · rw [List.getElem?_append_right (by omega)] at hx
        have h0 : k9 - (X ++ va_pl L f).length < 1 := (List.getElem?_eq_some_iff.mp hx).1
        rw [show k9 - (X ++ va_pl L f).length = 0 by omega] at hx
        cases hx
        exact Nat.le_refl _
    have hr : ∀ (k9 : Nat) (x : Nat × va_E), (((List.range n.toNatClampNeg).map (fun i => H.size + 1 + i)).map (fun a => ((a, .inl (cy, z)) : Nat × va_E)))[k9]? = some x → x.1 = H.size + 1 + k9 := fun k9 x hx => by
      rw [List.getElem?_map, List.getElem?_map] at hx
      by_cases h9 : k9 < n.toNatClampNeg
      · rw [List.getElem?_range h9] at hx
        cases hx
        rfl
      · have hn0 : (List.range n.toNatClampNeg)[k9]? = none := List.getElem?_eq_none (by rw [List.length_range]; omega)
        rw [hn0] at hx
        cases hx
    refine ⟨fun i j x y hi hj hxy => ?_, fun k9 x hx => ?_⟩
    · by_cases h1 : i < W1.length <;> by_cases h2 : j < W1.length
      · rw [List.getElem?_append_left h1] at hi
        rw [List.getElem?_append_left h2] at hj
        exact hD1.1 i j x y hi hj hxy
      · rw [List.getElem?_append_left h1] at hi
        rw [List.getElem?_append_right (by omega)] at hj
        have := hle _ _ hi
        have := hr _ _ hj
        omega
      · rw [List.getElem?_append_right (by omega)] at hi
        rw [List.getElem?_append_left h2] at hj
        have := hle _ _ hj
        have := hr _ _ hi
        omega
      · rw [List.getElem?_append_right (by omega)] at hi hj
        have := hr _ _ hi
        have := hr _ _ hj
        omega
    · by_cases h1 : k9 < W1.length
      · rw [List.getElem?_append_left h1] at hx
        exact hD1.2 k9 x hx
      · rw [List.getElem?_append_right (by omega)] at hx
        have := hr _ _ hx
        exact hA _ (by have := hS.1; omega)
  have hAr : ArrOfT s cA (.array ty) := fun N9 z9 => by
    obtain ⟨-, k9, hk9, cm9, hkk9⟩ := (hO 0 0 0).1
    exact ⟨(fun q hq => by cases hq), k9, hk9, cm9, hkk9⟩
  have hK2 : va_K D cl (tys ++ [(cA, .array ty)]) s := ⟨hK.1, fun k9 x hx => by
    by_cases hl : k9 < tys.length
    · rw [List.getElem?_append_left hl] at hx
      exact hK.2 k9 x hx
    · rw [List.getElem?_append_right (by omega)] at hx
      have h0 : k9 - tys.length < 1 := (List.getElem?_eq_some_iff.mp hx).1
      rw [show k9 - tys.length = 0 by omega] at hx
      cases hx
      exact ⟨hAr, fA⟩⟩
  obtain ⟨t, a1, b1⟩ := kk H.size (fun i => H.size + 1 + i) cA F.heap (fun i j _ _ h => by have h9 : H.size + 1 + i = H.size + 1 + j := h; omega) hnl hK2 (by rw [← vr_rows hnm]; exact vr_lay hP2) (by rw [← vr_rows hnm]; exact vr_layD hD2) ⟨by rw [f1]; have := hS.1; omega, fun x h1 h2 => (hold x (Nat.lt_of_lt_of_le h1 hS.1)).trans (hS.2.1 x h1 h2), hS.2.2⟩ F rfl X'
  refine ⟨t, step t ?_, b1⟩
  have e : T.heap.size = H.size := by rw [hT]
  rw [e]
  exact a1
end VGM
/-! ===== END ===== -/

def RX0 : String := "StepWorks$Box"
def TX0 : u_T := fun k => match k with
  | 0 => ("StepWorks$Box", "model", "LStepWorks$Model;", true)
  | 1 => ("StepWorks$Box", "found", "LStepWorks$VectorList;", true)
  | 2 => ("StepWorks$Box", "coefficients", "[I", true)
  | 3 => ("StepWorks$Box", "reaches", "[I", true)
  | 4 => ("StepWorks$Box", "vector", "[I", true)
  | _ => ("StepWorks$Box", "solved", "I", false)
def tyX0 : Nat → FieldType := fun k => match k with
  | 0 => .object "StepWorks$Model"
  | 1 => .object "StepWorks$VectorList"
  | 2 => .array .int
  | 3 => .array .int
  | 4 => .array .int
  | _ => .int
theorem nmX0 : ∀ a, a < 6 → ∀ b, b < 6 → a ≠ b → (TX0 a).2.1 ≠ (TX0 b).2.1 := by decide +kernel
theorem tyX0_ok : ∀ k, k < 6 → parseFieldDescriptor (TX0 k).2.2.1 = some (tyX0 k) := by decide +kernel
abbrev cX0_init : ByteArray := prog_2_method_1_code
def yX0_init : MethodName := ⟨RX0, "<init>", "(LStepWorks$Model;LStepWorks$VectorList;)V"⟩
abbrev cX0_search : ByteArray := prog_2_method_2_code
def yX0_search : MethodName := ⟨RX0, "search", "()V"⟩
abbrev cX0_chooseEquation : ByteArray := prog_2_method_3_code
def yX0_chooseEquation : MethodName := ⟨RX0, "chooseEquation", "()V"⟩
abbrev cX0_reachOf : ByteArray := prog_2_method_4_code
def yX0_reachOf : MethodName := ⟨RX0, "reachOf", "(I)I"⟩
abbrev cX0_searchFrom : ByteArray := prog_2_method_5_code
def yX0_searchFrom : MethodName := ⟨RX0, "searchFrom", "(III)V"⟩
abbrev cX0_tryNumbers : ByteArray := prog_2_method_6_code
def yX0_tryNumbers : MethodName := ⟨RX0, "tryNumbers", "(III)V"⟩
abbrev cX0_isLeast : ByteArray := prog_2_method_7_code
def yX0_isLeast : MethodName := ⟨RX0, "isLeast", "(I)Z"⟩
def RX1 : String := "StepWorks$Kernel"
def TX1 : u_T := fun k => match k with
  | 0 => ("StepWorks$Kernel", "vectors", "[[J", true)
  | 1 => ("StepWorks$Kernel", "sums", "[J", true)
  | 2 => ("StepWorks$Kernel", "unit", "[I", true)
  | _ => ("StepWorks$Kernel", "size", "I", false)
def tyX1 : Nat → FieldType := fun k => match k with
  | 0 => .array (.array .long)
  | 1 => .array .long
  | 2 => .array .int
  | _ => .int
theorem nmX1 : ∀ a, a < 4 → ∀ b, b < 4 → a ≠ b → (TX1 a).2.1 ≠ (TX1 b).2.1 := by decide +kernel
theorem tyX1_ok : ∀ k, k < 4 → parseFieldDescriptor (TX1 k).2.2.1 = some (tyX1 k) := by decide +kernel
abbrev cX1_init : ByteArray := prog_3_method_1_code
def yX1_init : MethodName := ⟨RX1, "<init>", "()V"⟩
abbrev cX1_solve : ByteArray := prog_3_method_2_code
def yX1_solve : MethodName := ⟨RX1, "solve", "(LStepWorks$Model;)V"⟩
abbrev cX1_straighten : ByteArray := prog_3_method_3_code
def yX1_straighten : MethodName := ⟨RX1, "straighten", "()V"⟩
abbrev cX1_impose : ByteArray := prog_3_method_4_code
def yX1_impose : MethodName := ⟨RX1, "impose", "([I)V"⟩
abbrev cX1_leastSum : ByteArray := prog_3_method_5_code
def yX1_leastSum : MethodName := ⟨RX1, "leastSum", "()I"⟩
abbrev cX1_reduceBy : ByteArray := prog_3_method_6_code
def yX1_reduceBy : MethodName := ⟨RX1, "reduceBy", "(I)Z"⟩
abbrev cX1_subtract : ByteArray := prog_3_method_7_code
def yX1_subtract : MethodName := ⟨RX1, "subtract", "(IIJ)V"⟩
abbrev cX1_removeVector : ByteArray := prog_3_method_8_code
def yX1_removeVector : MethodName := ⟨RX1, "removeVector", "(I)V"⟩
def RX2 : String := "StepWorks$LeastSteps"
def TX2 : u_T := fun k => match k with
  | 0 => ("StepWorks$LeastSteps", "model", "LStepWorks$Model;", true)
  | 1 => ("StepWorks$LeastSteps", "list", "LStepWorks$VectorList;", true)
  | 2 => ("StepWorks$LeastSteps", "kernel", "LStepWorks$Kernel;", true)
  | 3 => ("StepWorks$LeastSteps", "ring", "LStepWorks$Ring;", true)
  | 4 => ("StepWorks$LeastSteps", "box", "LStepWorks$Box;", true)
  | 5 => ("StepWorks$LeastSteps", "roundSupports", "I", false)
  | _ => ("StepWorks$LeastSteps", "stale", "Z", false)
def tyX2 : Nat → FieldType := fun k => match k with
  | 0 => .object "StepWorks$Model"
  | 1 => .object "StepWorks$VectorList"
  | 2 => .object "StepWorks$Kernel"
  | 3 => .object "StepWorks$Ring"
  | 4 => .object "StepWorks$Box"
  | 5 => .int
  | _ => .boolean
theorem nmX2 : ∀ a, a < 7 → ∀ b, b < 7 → a ≠ b → (TX2 a).2.1 ≠ (TX2 b).2.1 := by decide +kernel
theorem tyX2_ok : ∀ k, k < 7 → parseFieldDescriptor (TX2 k).2.2.1 = some (tyX2 k) := by decide +kernel
abbrev cX2_init : ByteArray := prog_4_method_1_code
def yX2_init : MethodName := ⟨RX2, "<init>", "(LStepWorks$Model;)V"⟩
abbrev cX2_refresh : ByteArray := prog_4_method_2_code
def yX2_refresh : MethodName := ⟨RX2, "refresh", "()V"⟩
abbrev cX2_size : ByteArray := prog_4_method_3_code
def yX2_size : MethodName := ⟨RX2, "size", "()I"⟩
abbrev cX2_isStep : ByteArray := prog_4_method_4_code
def yX2_isStep : MethodName := ⟨RX2, "isStep", "(I)Z"⟩
abbrev cX2_at : ByteArray := prog_4_method_5_code
def yX2_at : MethodName := ⟨RX2, "at", "(II)I"⟩
abbrev cX2_kindOf : ByteArray := prog_4_method_6_code
def yX2_kindOf : MethodName := ⟨RX2, "kindOf", "(I)I"⟩
abbrev cX2_howManyOf : ByteArray := prog_4_method_7_code
def yX2_howManyOf : MethodName := ⟨RX2, "howManyOf", "(I)I"⟩
abbrev cX2_timesWithin : ByteArray := prog_4_method_8_code
def yX2_timesWithin : MethodName := ⟨RX2, "timesWithin", "(I[I)I"⟩
abbrev cX2_timesInBounds : ByteArray := prog_4_method_9_code
def yX2_timesInBounds : MethodName := ⟨RX2, "timesInBounds", "(I[I)I"⟩
abbrev cX2_addTimes : ByteArray := prog_4_method_10_code
def yX2_addTimes : MethodName := ⟨RX2, "addTimes", "(II[I)V"⟩
abbrev cX2_slopeAt : ByteArray := prog_4_method_11_code
def yX2_slopeAt : MethodName := ⟨RX2, "slopeAt", "(I[I)J"⟩
abbrev cX2_curveOf : ByteArray := prog_4_method_12_code
def yX2_curveOf : MethodName := ⟨RX2, "curveOf", "(I)J"⟩
abbrev cX2_supportOf : ByteArray := prog_4_method_13_code
def yX2_supportOf : MethodName := ⟨RX2, "supportOf", "(I)I"⟩
abbrev cX2_findRoundSupports : ByteArray := prog_4_method_14_code
def yX2_findRoundSupports : MethodName := ⟨RX2, "findRoundSupports", "()V"⟩
abbrev cX2_hasSmaller : ByteArray := prog_4_method_15_code
def yX2_hasSmaller : MethodName := ⟨RX2, "hasSmaller", "(II)Z"⟩
def RX3 : String := "StepWorks$Model"
def TX3 : u_T := fun k => match k with
  | 0 => ("StepWorks$Model", "unknowns", "I", false)
  | 1 => ("StepWorks$Model", "equations", "I", false)
  | 2 => ("StepWorks$Model", "coefficients", "[[I", true)
  | 3 => ("StepWorks$Model", "rightSides", "[I", true)
  | 4 => ("StepWorks$Model", "lows", "[I", true)
  | 5 => ("StepWorks$Model", "highs", "[I", true)
  | 6 => ("StepWorks$Model", "prices", "[I", true)
  | _ => ("StepWorks$Model", "bends", "[I", true)
def tyX3 : Nat → FieldType := fun k => match k with
  | 0 => .int
  | 1 => .int
  | 2 => .array (.array .int)
  | 3 => .array .int
  | 4 => .array .int
  | 5 => .array .int
  | 6 => .array .int
  | _ => .array .int
theorem nmX3 : ∀ a, a < 8 → ∀ b, b < 8 → a ≠ b → (TX3 a).2.1 ≠ (TX3 b).2.1 := by decide +kernel
theorem tyX3_ok : ∀ k, k < 8 → parseFieldDescriptor (TX3 k).2.2.1 = some (tyX3 k) := by decide +kernel
abbrev cX3_init : ByteArray := prog_5_method_1_code
def yX3_init : MethodName := ⟨RX3, "<init>", "()V"⟩
abbrev cX3_begin : ByteArray := prog_5_method_2_code
def yX3_begin : MethodName := ⟨RX3, "begin", "(I)V"⟩
abbrev cX3_addEquation : ByteArray := prog_5_method_3_code
def yX3_addEquation : MethodName := ⟨RX3, "addEquation", "()I"⟩
abbrev cX3_hasUnknown : ByteArray := prog_5_method_4_code
def yX3_hasUnknown : MethodName := ⟨RX3, "hasUnknown", "(I)Z"⟩
abbrev cX3_hasEquation : ByteArray := prog_5_method_5_code
def yX3_hasEquation : MethodName := ⟨RX3, "hasEquation", "(I)Z"⟩
abbrev cX3_isStep : ByteArray := prog_5_method_6_code
def yX3_isStep : MethodName := ⟨RX3, "isStep", "([I)Z"⟩
abbrev cX3_isPlan : ByteArray := prog_5_method_7_code
def yX3_isPlan : MethodName := ⟨RX3, "isPlan", "([I)Z"⟩
abbrev cX3_costOf : ByteArray := prog_5_method_8_code
def yX3_costOf : MethodName := ⟨RX3, "costOf", "([I)J"⟩
abbrev cX3_costOfNumber : ByteArray := prog_5_method_9_code
def yX3_costOfNumber : MethodName := ⟨RX3, "costOfNumber", "(II)J"⟩
abbrev cX3_isFree : ByteArray := prog_5_method_10_code
def yX3_isFree : MethodName := ⟨RX3, "isFree", "(I)Z"⟩
abbrev cX3_sumOf : ByteArray := prog_5_method_11_code
def yX3_sumOf : MethodName := ⟨RX3, "sumOf", "(I[I)I"⟩
def RX4 : String := "StepWorks$Plans"
def TX4 : u_T := fun k => match k with
  | 0 => ("StepWorks$Plans", "model", "LStepWorks$Model;", true)
  | 1 => ("StepWorks$Plans", "blocks", "[I", true)
  | 2 => ("StepWorks$Plans", "row", "[I", true)
  | 3 => ("StepWorks$Plans", "froms", "[I", true)
  | 4 => ("StepWorks$Plans", "tos", "[I", true)
  | 5 => ("StepWorks$Plans", "due", "[[I", true)
  | 6 => ("StepWorks$Plans", "leastSums", "[[I", true)
  | 7 => ("StepWorks$Plans", "greatestSums", "[[I", true)
  | 8 => ("StepWorks$Plans", "blockCount", "I", false)
  | 9 => ("StepWorks$Plans", "blockLength", "I", false)
  | 10 => ("StepWorks$Plans", "lastIsFree", "Z", false)
  | _ => ("StepWorks$Plans", "stale", "Z", false)
def tyX4 : Nat → FieldType := fun k => match k with
  | 0 => .object "StepWorks$Model"
  | 1 => .array .int
  | 2 => .array .int
  | 3 => .array .int
  | 4 => .array .int
  | 5 => .array (.array .int)
  | 6 => .array (.array .int)
  | 7 => .array (.array .int)
  | 8 => .int
  | 9 => .int
  | 10 => .boolean
  | _ => .boolean
theorem nmX4 : ∀ a, a < 12 → ∀ b, b < 12 → a ≠ b → (TX4 a).2.1 ≠ (TX4 b).2.1 := by decide +kernel
theorem tyX4_ok : ∀ k, k < 12 → parseFieldDescriptor (TX4 k).2.2.1 = some (tyX4 k) := by decide +kernel
abbrev cX4_init : ByteArray := prog_6_method_1_code
def yX4_init : MethodName := ⟨RX4, "<init>", "(LStepWorks$Model;)V"⟩
abbrev cX4_refresh : ByteArray := prog_6_method_2_code
def yX4_refresh : MethodName := ⟨RX4, "refresh", "()V"⟩
abbrev cX4_size : ByteArray := prog_6_method_3_code
def yX4_size : MethodName := ⟨RX4, "size", "()I"⟩
abbrev cX4_isNumber : ByteArray := prog_6_method_4_code
def yX4_isNumber : MethodName := ⟨RX4, "isNumber", "(I)Z"⟩
abbrev cX4_read : ByteArray := prog_6_method_5_code
def yX4_read : MethodName := ⟨RX4, "read", "(I[I)V"⟩
abbrev cX4_numberOf : ByteArray := prog_6_method_6_code
def yX4_numberOf : MethodName := ⟨RX4, "numberOf", "([I)I"⟩
abbrev cX4_leastOf : ByteArray := prog_6_method_7_code
def yX4_leastOf : MethodName := ⟨RX4, "leastOf", "(I)I"⟩
abbrev cX4_greatestOf : ByteArray := prog_6_method_8_code
def yX4_greatestOf : MethodName := ⟨RX4, "greatestOf", "(I)I"⟩
abbrev cX4_firstOfCost : ByteArray := prog_6_method_9_code
def yX4_firstOfCost : MethodName := ⟨RX4, "firstOfCost", "(I)I"⟩
abbrev cX4_firstInBlock : ByteArray := prog_6_method_10_code
def yX4_firstInBlock : MethodName := ⟨RX4, "firstInBlock", "(II)I"⟩
abbrev cX4_readBlock : ByteArray := prog_6_method_11_code
def yX4_readBlock : MethodName := ⟨RX4, "readBlock", "(I[I)V"⟩
abbrev cX4_digitOf : ByteArray := prog_6_method_12_code
def yX4_digitOf : MethodName := ⟨RX4, "digitOf", "(II)I"⟩
abbrev cX4_blockOf : ByteArray := prog_6_method_13_code
def yX4_blockOf : MethodName := ⟨RX4, "blockOf", "(I)I"⟩
abbrev cX4_findSums : ByteArray := prog_6_method_14_code
def yX4_findSums : MethodName := ⟨RX4, "findSums", "()V"⟩
abbrev cX4_searchFrom : ByteArray := prog_6_method_15_code
def yX4_searchFrom : MethodName := ⟨RX4, "searchFrom", "(II)V"⟩
abbrev cX4_tryNumbers : ByteArray := prog_6_method_16_code
def yX4_tryNumbers : MethodName := ⟨RX4, "tryNumbers", "(II)V"⟩
abbrev cX4_narrow : ByteArray := prog_6_method_17_code
def yX4_narrow : MethodName := ⟨RX4, "narrow", "(II)V"⟩
abbrev cX4_appendBlock : ByteArray := prog_6_method_18_code
def yX4_appendBlock : MethodName := ⟨RX4, "appendBlock", "(I)V"⟩
def RX5 : String := "StepWorks$Ring"
def TX5 : u_T := fun k => match k with
  | 0 => ("StepWorks$Ring", "kept", "[I", true)
  | 1 => ("StepWorks$Ring", "ahead", "[I", true)
  | 2 => ("StepWorks$Ring", "keptSize", "I", false)
  | _ => ("StepWorks$Ring", "aheadSize", "I", false)
def tyX5 : Nat → FieldType := fun k => match k with
  | 0 => .array .int
  | 1 => .array .int
  | 2 => .int
  | _ => .int
theorem nmX5 : ∀ a, a < 4 → ∀ b, b < 4 → a ≠ b → (TX5 a).2.1 ≠ (TX5 b).2.1 := by decide +kernel
theorem tyX5_ok : ∀ k, k < 4 → parseFieldDescriptor (TX5 k).2.2.1 = some (tyX5 k) := by decide +kernel
abbrev cX5_init : ByteArray := prog_7_method_1_code
def yX5_init : MethodName := ⟨RX5, "<init>", "()V"⟩
abbrev cX5_walk : ByteArray := prog_7_method_2_code
def yX5_walk : MethodName := ⟨RX5, "walk", "([J[JZ)V"⟩
abbrev cX5_giveTo : ByteArray := prog_7_method_3_code
def yX5_giveTo : MethodName := ⟨RX5, "giveTo", "(LStepWorks$VectorList;)V"⟩
abbrev cX5_pushAhead : ByteArray := prog_7_method_4_code
def yX5_pushAhead : MethodName := ⟨RX5, "pushAhead", "([JI)V"⟩
abbrev cX5_pushSum : ByteArray := prog_7_method_5_code
def yX5_pushSum : MethodName := ⟨RX5, "pushSum", "(II)V"⟩
abbrev cX5_keepNext : ByteArray := prog_7_method_6_code
def yX5_keepNext : MethodName := ⟨RX5, "keepNext", "()V"⟩
abbrev cX5_haveOppositeSigns : ByteArray := prog_7_method_7_code
def yX5_haveOppositeSigns : MethodName := ⟨RX5, "haveOppositeSigns", "(II)Z"⟩
def RX6 : String := "StepWorks$Trays"
def TX6 : u_T := fun k => match k with
  | 0 => ("StepWorks$Trays", "elements", "[[J", true)
  | 1 => ("StepWorks$Trays", "sorts", "[I", true)
  | _ => ("StepWorks$Trays", "lengths", "[I", true)
def tyX6 : Nat → FieldType := fun k => match k with
  | 0 => .array (.array .long)
  | 1 => .array .int
  | _ => .array .int
theorem nmX6 : ∀ a, a < 3 → ∀ b, b < 3 → a ≠ b → (TX6 a).2.1 ≠ (TX6 b).2.1 := by decide +kernel
theorem tyX6_ok : ∀ k, k < 3 → parseFieldDescriptor (TX6 k).2.2.1 = some (tyX6 k) := by decide +kernel
abbrev cX6_init : ByteArray := prog_8_method_1_code
def yX6_init : MethodName := ⟨RX6, "<init>", "()V"⟩
abbrev cX6_isTray : ByteArray := prog_8_method_2_code
def yX6_isTray : MethodName := ⟨RX6, "isTray", "(I)Z"⟩
abbrev cX6_isMissing : ByteArray := prog_8_method_3_code
def yX6_isMissing : MethodName := ⟨RX6, "isMissing", "(I)Z"⟩
abbrev cX6_layOut : ByteArray := prog_8_method_4_code
def yX6_layOut : MethodName := ⟨RX6, "layOut", "(III)V"⟩
abbrev cX6_set : ByteArray := prog_8_method_5_code
def yX6_set : MethodName := ⟨RX6, "set", "(IIJ)V"⟩
abbrev cX6_get : ByteArray := prog_8_method_6_code
def yX6_get : MethodName := ⟨RX6, "get", "(II)J"⟩
abbrev cX6_allElements : ByteArray := prog_8_method_7_code
def yX6_allElements : MethodName := ⟨RX6, "allElements", "()I"⟩
def RX7 : String := "StepWorks$VectorList"
def TX7 : u_T := fun k => match k with
  | 0 => ("StepWorks$VectorList", "keys", "[J", true)
  | _ => ("StepWorks$VectorList", "size", "I", false)
def tyX7 : Nat → FieldType := fun k => match k with
  | 0 => .array .long
  | _ => .int
theorem nmX7 : ∀ a, a < 2 → ∀ b, b < 2 → a ≠ b → (TX7 a).2.1 ≠ (TX7 b).2.1 := by decide +kernel
theorem tyX7_ok : ∀ k, k < 2 → parseFieldDescriptor (TX7 k).2.2.1 = some (tyX7 k) := by decide +kernel
abbrev cX7_init : ByteArray := prog_9_method_1_code
def yX7_init : MethodName := ⟨RX7, "<init>", "()V"⟩
abbrev cX7_size : ByteArray := prog_9_method_2_code
def yX7_size : MethodName := ⟨RX7, "size", "()I"⟩
abbrev cX7_clear : ByteArray := prog_9_method_3_code
def yX7_clear : MethodName := ⟨RX7, "clear", "()V"⟩
abbrev cX7_append : ByteArray := prog_9_method_4_code
def yX7_append : MethodName := ⟨RX7, "append", "([III)V"⟩
abbrev cX7_at : ByteArray := prog_9_method_5_code
def yX7_at : MethodName := ⟨RX7, "at", "(II)I"⟩
abbrev cX7_sort : ByteArray := prog_9_method_6_code
def yX7_sort : MethodName := ⟨RX7, "sort", "()V"⟩
def RX8 : String := "StepWorks"
def TX8 : u_T := fun k => match k with
  | 0 => ("StepWorks", "model", "LStepWorks$Model;", true)
  | 1 => ("StepWorks", "leastSteps", "LStepWorks$LeastSteps;", true)
  | 2 => ("StepWorks", "allPlans", "LStepWorks$Plans;", true)
  | 3 => ("StepWorks", "trays", "LStepWorks$Trays;", true)
  | 4 => ("StepWorks", "inHand", "[I", true)
  | 5 => ("StepWorks", "scratch", "[I", true)
  | 6 => ("StepWorks", "moved", "[J", true)
  | _ => ("StepWorks", "refused", "[I", true)
def tyX8 : Nat → FieldType := fun k => match k with
  | 0 => .object "StepWorks$Model"
  | 1 => .object "StepWorks$LeastSteps"
  | 2 => .object "StepWorks$Plans"
  | 3 => .object "StepWorks$Trays"
  | 4 => .array .int
  | 5 => .array .int
  | 6 => .array .long
  | _ => .array .int
theorem nmX8 : ∀ a, a < 8 → ∀ b, b < 8 → a ≠ b → (TX8 a).2.1 ≠ (TX8 b).2.1 := by decide +kernel
theorem tyX8_ok : ∀ k, k < 8 → parseFieldDescriptor (TX8 k).2.2.1 = some (tyX8 k) := by decide +kernel
abbrev cX8_init : ByteArray := prog_1_method_1_code
def yX8_init : MethodName := ⟨RX8, "<init>", "()V"⟩
abbrev cX8_works : ByteArray := prog_1_method_2_code
def yX8_works : MethodName := ⟨RX8, "works", "(I)I"⟩
abbrev cX8_equation : ByteArray := prog_1_method_3_code
def yX8_equation : MethodName := ⟨RX8, "equation", "()I"⟩
abbrev cX8_put : ByteArray := prog_1_method_4_code
def yX8_put : MethodName := ⟨RX8, "put", "(III)I"⟩
abbrev cX8_right : ByteArray := prog_1_method_5_code
def yX8_right : MethodName := ⟨RX8, "right", "(II)I"⟩
abbrev cX8_bound : ByteArray := prog_1_method_6_code
def yX8_bound : MethodName := ⟨RX8, "bound", "(III)I"⟩
abbrev cX8_price : ByteArray := prog_1_method_7_code
def yX8_price : MethodName := ⟨RX8, "price", "(III)I"⟩
abbrev cX8_tray : ByteArray := prog_1_method_8_code
def yX8_tray : MethodName := ⟨RX8, "tray", "(III)I"⟩
abbrev cX8_cell : ByteArray := prog_1_method_9_code
def yX8_cell : MethodName := ⟨RX8, "cell", "(IIJ)I"⟩
abbrev cX8_copy : ByteArray := prog_1_method_10_code
def yX8_copy : MethodName := ⟨RX8, "copy", "(IIII)I"⟩
abbrev cX8_lay : ByteArray := prog_1_method_11_code
def yX8_lay : MethodName := ⟨RX8, "lay", "(III)I"⟩
abbrev cX8_least : ByteArray := prog_1_method_12_code
def yX8_least : MethodName := ⟨RX8, "least", "()I"⟩
abbrev cX8_step : ByteArray := prog_1_method_13_code
def yX8_step : MethodName := ⟨RX8, "step", "(II)I"⟩
abbrev cX8_kind : ByteArray := prog_1_method_14_code
def yX8_kind : MethodName := ⟨RX8, "kind", "(I)I"⟩
abbrev cX8_back : ByteArray := prog_1_method_15_code
def yX8_back : MethodName := ⟨RX8, "back", "(I)I"⟩
abbrev cX8_hand : ByteArray := prog_1_method_16_code
def yX8_hand : MethodName := ⟨RX8, "hand", "(II)I"⟩
abbrev cX8_has : ByteArray := prog_1_method_17_code
def yX8_has : MethodName := ⟨RX8, "has", "(I)I"⟩
abbrev cX8_what : ByteArray := prog_1_method_18_code
def yX8_what : MethodName := ⟨RX8, "what", "()I"⟩
abbrev cX8_fits : ByteArray := prog_1_method_19_code
def yX8_fits : MethodName := ⟨RX8, "fits", "(I)I"⟩
abbrev cX8_split : ByteArray := prog_1_method_20_code
def yX8_split : MethodName := ⟨RX8, "split", "(I)I"⟩
abbrev cX8_add : ByteArray := prog_1_method_21_code
def yX8_add : MethodName := ⟨RX8, "add", "(II)I"⟩
abbrev cX8_cost : ByteArray := prog_1_method_22_code
def yX8_cost : MethodName := ⟨RX8, "cost", "()J"⟩
abbrev cX8_better : ByteArray := prog_1_method_23_code
def yX8_better : MethodName := ⟨RX8, "better", "()I"⟩
abbrev cX8_best : ByteArray := prog_1_method_24_code
def yX8_best : MethodName := ⟨RX8, "best", "()I"⟩
abbrev cX8_plans : ByteArray := prog_1_method_25_code
def yX8_plans : MethodName := ⟨RX8, "plans", "()I"⟩
abbrev cX8_plan : ByteArray := prog_1_method_26_code
def yX8_plan : MethodName := ⟨RX8, "plan", "(II)I"⟩
abbrev cX8_take : ByteArray := prog_1_method_27_code
def yX8_take : MethodName := ⟨RX8, "take", "(I)I"⟩
abbrev cX8_less : ByteArray := prog_1_method_28_code
def yX8_less : MethodName := ⟨RX8, "less", "(I)I"⟩
abbrev cX8_find : ByteArray := prog_1_method_29_code
def yX8_find : MethodName := ⟨RX8, "find", "()I"⟩
abbrev cX8_span : ByteArray := prog_1_method_30_code
def yX8_span : MethodName := ⟨RX8, "span", "(II)I"⟩
abbrev cX8_extreme : ByteArray := prog_1_method_31_code
def yX8_extreme : MethodName := ⟨RX8, "extreme", "(I)I"⟩
abbrev cX8_near : ByteArray := prog_1_method_32_code
def yX8_near : MethodName := ⟨RX8, "near", "(I)I"⟩
abbrev cX8_count : ByteArray := prog_1_method_33_code
def yX8_count : MethodName := ⟨RX8, "count", "(I)I"⟩
abbrev cX8_refuse : ByteArray := prog_1_method_34_code
def yX8_refuse : MethodName := ⟨RX8, "refuse", "(I)I"⟩
abbrev cX8_equationsChanged : ByteArray := prog_1_method_35_code
def yX8_equationsChanged : MethodName := ⟨RX8, "equationsChanged", "()V"⟩
abbrev cX8_setCoefficient : ByteArray := prog_1_method_36_code
def yX8_setCoefficient : MethodName := ⟨RX8, "setCoefficient", "(III)V"⟩
abbrev cX8_freshSteps : ByteArray := prog_1_method_37_code
def yX8_freshSteps : MethodName := ⟨RX8, "freshSteps", "()LStepWorks$LeastSteps;"⟩
abbrev cX8_freshPlans : ByteArray := prog_1_method_38_code
def yX8_freshPlans : MethodName := ⟨RX8, "freshPlans", "()LStepWorks$Plans;"⟩
abbrev cX8_moveHand : ByteArray := prog_1_method_39_code
def yX8_moveHand : MethodName := ⟨RX8, "moveHand", "()I"⟩
abbrev cX8_amountsOfSplit : ByteArray := prog_1_method_40_code
def yX8_amountsOfSplit : MethodName := ⟨RX8, "amountsOfSplit", "(LStepWorks$LeastSteps;II)I"⟩
abbrev cX8_betterHand : ByteArray := prog_1_method_41_code
def yX8_betterHand : MethodName := ⟨RX8, "betterHand", "(LStepWorks$LeastSteps;)I"⟩
def RX9 : String := "StepWorksModel"
def TX9 : u_T := fun k => match k with
  | 0 => ("StepWorksModel", "equation", "[I", true)
  | 1 => ("StepWorksModel", "side", "[I", true)
  | 2 => ("StepWorksModel", "low", "[I", true)
  | 3 => ("StepWorksModel", "high", "[I", true)
  | 4 => ("StepWorksModel", "price", "[I", true)
  | 5 => ("StepWorksModel", "bend", "[I", true)
  | 6 => ("StepWorksModel", "hand", "[I", true)
  | 7 => ("StepWorksModel", "refusals", "[I", true)
  | 8 => ("StepWorksModel", "traySort", "[I", true)
  | 9 => ("StepWorksModel", "traySize", "[I", true)
  | 10 => ("StepWorksModel", "cells", "[J", true)
  | 11 => ("StepWorksModel", "moved", "[J", true)
  | 12 => ("StepWorksModel", "size", "I", false)
  | 13 => ("StepWorksModel", "equations", "I", false)
  | 14 => ("StepWorksModel", "areSteps", "Z", false)
  | 15 => ("StepWorksModel", "found", "[I", true)
  | 16 => ("StepWorksModel", "norm", "[I", true)
  | 17 => ("StepWorksModel", "from", "[I", true)
  | 18 => ("StepWorksModel", "byNorm", "[I", true)
  | 19 => ("StepWorksModel", "steps", "[I", true)
  | 20 => ("StepWorksModel", "sorted", "[I", true)
  | 21 => ("StepWorksModel", "foundMany", "I", false)
  | 22 => ("StepWorksModel", "many", "I", false)
  | 23 => ("StepWorksModel", "worked", "[I", true)
  | 24 => ("StepWorksModel", "by", "[I", true)
  | 25 => ("StepWorksModel", "free", "[I", true)
  | 26 => ("StepWorksModel", "now", "[I", true)
  | 27 => ("StepWorksModel", "rank", "I", false)
  | 28 => ("StepWorksModel", "freeMany", "I", false)
  | 29 => ("StepWorksModel", "square", "[J", true)
  | 30 => ("StepWorksModel", "column", "[J", true)
  | 31 => ("StepWorksModel", "left", "[I", true)
  | 32 => ("StepWorksModel", "trial", "[I", true)
  | 33 => ("StepWorksModel", "arePlans", "Z", false)
  | 34 => ("StepWorksModel", "plans", "[I", true)
  | _ => ("StepWorksModel", "planMany", "I", false)
def tyX9 : Nat → FieldType := fun k => match k with
  | 0 => .array .int
  | 1 => .array .int
  | 2 => .array .int
  | 3 => .array .int
  | 4 => .array .int
  | 5 => .array .int
  | 6 => .array .int
  | 7 => .array .int
  | 8 => .array .int
  | 9 => .array .int
  | 10 => .array .long
  | 11 => .array .long
  | 12 => .int
  | 13 => .int
  | 14 => .boolean
  | 15 => .array .int
  | 16 => .array .int
  | 17 => .array .int
  | 18 => .array .int
  | 19 => .array .int
  | 20 => .array .int
  | 21 => .int
  | 22 => .int
  | 23 => .array .int
  | 24 => .array .int
  | 25 => .array .int
  | 26 => .array .int
  | 27 => .int
  | 28 => .int
  | 29 => .array .long
  | 30 => .array .long
  | 31 => .array .int
  | 32 => .array .int
  | 33 => .boolean
  | 34 => .array .int
  | _ => .int
theorem nmX9 : ∀ a, a < 36 → ∀ b, b < 36 → a ≠ b → (TX9 a).2.1 ≠ (TX9 b).2.1 := by decide +kernel
theorem tyX9_ok : ∀ k, k < 36 → parseFieldDescriptor (TX9 k).2.2.1 = some (tyX9 k) := by decide +kernel
abbrev cX9_init : ByteArray := prog_11_method_1_code
def yX9_init : MethodName := ⟨RX9, "<init>", "()V"⟩
abbrev cX9_refuse : ByteArray := prog_11_method_2_code
def yX9_refuse : MethodName := ⟨RX9, "refuse", "(I)I"⟩
abbrev cX9_isIn : ByteArray := prog_11_method_3_code
def yX9_isIn : MethodName := ⟨RX9, "isIn", "(II)Z"⟩
abbrev cX9_begins : ByteArray := prog_11_method_4_code
def yX9_begins : MethodName := ⟨RX9, "begins", "()V"⟩
abbrev cX9_works : ByteArray := prog_11_method_5_code
def yX9_works : MethodName := ⟨RX9, "works", "(I)I"⟩
abbrev cX9_equation : ByteArray := prog_11_method_6_code
def yX9_equation : MethodName := ⟨RX9, "equation", "()I"⟩
abbrev cX9_put : ByteArray := prog_11_method_7_code
def yX9_put : MethodName := ⟨RX9, "put", "(III)I"⟩
abbrev cX9_right : ByteArray := prog_11_method_8_code
def yX9_right : MethodName := ⟨RX9, "right", "(II)I"⟩
abbrev cX9_bound : ByteArray := prog_11_method_9_code
def yX9_bound : MethodName := ⟨RX9, "bound", "(III)I"⟩
abbrev cX9_price : ByteArray := prog_11_method_10_code
def yX9_price : MethodName := ⟨RX9, "price", "(III)I"⟩
abbrev cX9_tray : ByteArray := prog_11_method_11_code
def yX9_tray : MethodName := ⟨RX9, "tray", "(III)I"⟩
abbrev cX9_cell : ByteArray := prog_11_method_12_code
def yX9_cell : MethodName := ⟨RX9, "cell", "(IIJ)I"⟩
abbrev cX9_copy : ByteArray := prog_11_method_13_code
def yX9_copy : MethodName := ⟨RX9, "copy", "(IIII)I"⟩
abbrev cX9_lay : ByteArray := prog_11_method_14_code
def yX9_lay : MethodName := ⟨RX9, "lay", "(III)I"⟩
abbrev cX9_a : ByteArray := prog_11_method_15_code
def yX9_a : MethodName := ⟨RX9, "a", "(II)J"⟩
abbrev cX9_minor : ByteArray := prog_11_method_16_code
def yX9_minor : MethodName := ⟨RX9, "minor", "(IIIIIII)J"⟩
abbrev cX9_ranks : ByteArray := prog_11_method_17_code
def yX9_ranks : MethodName := ⟨RX9, "ranks", "(I)Z"⟩
abbrev cX9_bits : ByteArray := prog_11_method_18_code
def yX9_bits : MethodName := ⟨RX9, "bits", "(I)I"⟩
abbrev cX9_takes : ByteArray := prog_11_method_19_code
def yX9_takes : MethodName := ⟨RX9, "takes", "(I[I)V"⟩
abbrev cX9_putIn : ByteArray := prog_11_method_20_code
def yX9_putIn : MethodName := ⟨RX9, "putIn", "(I[J)J"⟩
abbrev cX9_makes : ByteArray := prog_11_method_21_code
def yX9_makes : MethodName := ⟨RX9, "makes", "(I)Z"⟩
abbrev cX9_goes : ByteArray := prog_11_method_22_code
def yX9_goes : MethodName := ⟨RX9, "goes", "(II)V"⟩
abbrev cX9_fitsIn : ByteArray := prog_11_method_23_code
def yX9_fitsIn : MethodName := ⟨RX9, "fitsIn", "([II[II)Z"⟩
abbrev cX9_findSteps : ByteArray := prog_11_method_24_code
def yX9_findSteps : MethodName := ⟨RX9, "findSteps", "()V"⟩
abbrev cX9_leastOf : ByteArray := prog_11_method_25_code
def yX9_leastOf : MethodName := ⟨RX9, "leastOf", "(I)V"⟩
abbrev cX9_isBefore : ByteArray := prog_11_method_26_code
def yX9_isBefore : MethodName := ⟨RX9, "isBefore", "(II)Z"⟩
abbrev cX9_sorts : ByteArray := prog_11_method_27_code
def yX9_sorts : MethodName := ⟨RX9, "sorts", "()V"⟩
abbrev cX9_least : ByteArray := prog_11_method_28_code
def yX9_least : MethodName := ⟨RX9, "least", "()I"⟩
abbrev cX9_at : ByteArray := prog_11_method_29_code
def yX9_at : MethodName := ⟨RX9, "at", "(II)I"⟩
abbrev cX9_step : ByteArray := prog_11_method_30_code
def yX9_step : MethodName := ⟨RX9, "step", "(II)I"⟩
abbrev cX9_kindOf : ByteArray := prog_11_method_31_code
def yX9_kindOf : MethodName := ⟨RX9, "kindOf", "(I)I"⟩
abbrev cX9_kind : ByteArray := prog_11_method_32_code
def yX9_kind : MethodName := ⟨RX9, "kind", "(I)I"⟩
abbrev cX9_back : ByteArray := prog_11_method_33_code
def yX9_back : MethodName := ⟨RX9, "back", "(I)I"⟩
abbrev cX9_hand : ByteArray := prog_11_method_34_code
def yX9_hand : MethodName := ⟨RX9, "hand", "(II)I"⟩
abbrev cX9_has : ByteArray := prog_11_method_35_code
def yX9_has : MethodName := ⟨RX9, "has", "(I)I"⟩
abbrev cX9_sum : ByteArray := prog_11_method_36_code
def yX9_sum : MethodName := ⟨RX9, "sum", "(I[II)I"⟩
abbrev cX9_isStep : ByteArray := prog_11_method_37_code
def yX9_isStep : MethodName := ⟨RX9, "isStep", "()Z"⟩
abbrev cX9_isPlan : ByteArray := prog_11_method_38_code
def yX9_isPlan : MethodName := ⟨RX9, "isPlan", "([II)Z"⟩
abbrev cX9_what : ByteArray := prog_11_method_39_code
def yX9_what : MethodName := ⟨RX9, "what", "()I"⟩
abbrev cX9_fitsLeft : ByteArray := prog_11_method_40_code
def yX9_fitsLeft : MethodName := ⟨RX9, "fitsLeft", "(I)Z"⟩
abbrev cX9_leaves : ByteArray := prog_11_method_41_code
def yX9_leaves : MethodName := ⟨RX9, "leaves", "()V"⟩
abbrev cX9_fits : ByteArray := prog_11_method_42_code
def yX9_fits : MethodName := ⟨RX9, "fits", "(I)I"⟩
abbrev cX9_amount : ByteArray := prog_11_method_43_code
def yX9_amount : MethodName := ⟨RX9, "amount", "(I)I"⟩
abbrev cX9_split : ByteArray := prog_11_method_44_code
def yX9_split : MethodName := ⟨RX9, "split", "(I)I"⟩
abbrev cX9_adds : ByteArray := prog_11_method_45_code
def yX9_adds : MethodName := ⟨RX9, "adds", "([IIJ)I"⟩
abbrev cX9_add : ByteArray := prog_11_method_46_code
def yX9_add : MethodName := ⟨RX9, "add", "(II)I"⟩
abbrev cX9_costOf : ByteArray := prog_11_method_47_code
def yX9_costOf : MethodName := ⟨RX9, "costOf", "([II)J"⟩
abbrev cX9_cost : ByteArray := prog_11_method_48_code
def yX9_cost : MethodName := ⟨RX9, "cost", "()J"⟩
abbrev cX9_betters : ByteArray := prog_11_method_49_code
def yX9_betters : MethodName := ⟨RX9, "betters", "()I"⟩
abbrev cX9_better : ByteArray := prog_11_method_50_code
def yX9_better : MethodName := ⟨RX9, "better", "()I"⟩
abbrev cX9_best : ByteArray := prog_11_method_51_code
def yX9_best : MethodName := ⟨RX9, "best", "()I"⟩
abbrev cX9_gather : ByteArray := prog_11_method_52_code
def yX9_gather : MethodName := ⟨RX9, "gather", "()V"⟩
abbrev cX9_gathers : ByteArray := prog_11_method_53_code
def yX9_gathers : MethodName := ⟨RX9, "gathers", "(I)V"⟩
abbrev cX9_plans : ByteArray := prog_11_method_54_code
def yX9_plans : MethodName := ⟨RX9, "plans", "()I"⟩
abbrev cX9_plan : ByteArray := prog_11_method_55_code
def yX9_plan : MethodName := ⟨RX9, "plan", "(II)I"⟩
abbrev cX9_take : ByteArray := prog_11_method_56_code
def yX9_take : MethodName := ⟨RX9, "take", "(I)I"⟩
abbrev cX9_less : ByteArray := prog_11_method_57_code
def yX9_less : MethodName := ⟨RX9, "less", "(I)I"⟩
abbrev cX9_find : ByteArray := prog_11_method_58_code
def yX9_find : MethodName := ⟨RX9, "find", "()I"⟩
abbrev cX9_span : ByteArray := prog_11_method_59_code
def yX9_span : MethodName := ⟨RX9, "span", "(II)I"⟩
abbrev cX9_extreme : ByteArray := prog_11_method_60_code
def yX9_extreme : MethodName := ⟨RX9, "extreme", "(I)I"⟩
abbrev cX9_near : ByteArray := prog_11_method_61_code
def yX9_near : MethodName := ⟨RX9, "near", "(I)I"⟩
abbrev cX9_count : ByteArray := prog_11_method_62_code
def yX9_count : MethodName := ⟨RX9, "count", "(I)I"⟩
def RJ9 : String := "java/lang/Math"
def TJ9 : u_T := fun k => match k with
  | _ => ("", "", "", false)
def tyJ9 : Nat → FieldType := fun k => match k with
  | _ => .int
theorem nmJ9 : ∀ a, a < 0 → ∀ b, b < 0 → a ≠ b → (TJ9 a).2.1 ≠ (TJ9 b).2.1 := by decide +kernel
theorem tyJ9_ok : ∀ k, k < 0 → parseFieldDescriptor (TJ9 k).2.2.1 = some (tyJ9 k) := by decide +kernel
abbrev cJ9_floorDiv_7cf53 : ByteArray := prog_12_method_47_code
def yJ9_floorDiv_7cf53 : MethodName := ⟨RJ9, "floorDiv", "(II)I"⟩
abbrev cJ9_floorDiv_f86c9 : ByteArray := prog_12_method_49_code
def yJ9_floorDiv_f86c9 : MethodName := ⟨RJ9, "floorDiv", "(JJ)J"⟩
abbrev cJ9_abs_0f7a4 : ByteArray := prog_12_method_59_code
def yJ9_abs_0f7a4 : MethodName := ⟨RJ9, "abs", "(I)I"⟩
abbrev cJ9_abs_067f4 : ByteArray := prog_12_method_61_code
def yJ9_abs_067f4 : MethodName := ⟨RJ9, "abs", "(J)J"⟩
abbrev cJ9_max_7cf53 : ByteArray := prog_12_method_65_code
def yJ9_max_7cf53 : MethodName := ⟨RJ9, "max", "(II)I"⟩
abbrev cJ9_min_7cf53 : ByteArray := prog_12_method_69_code
def yJ9_min_7cf53 : MethodName := ⟨RJ9, "min", "(II)I"⟩
def RJ10 : String := "java/lang/System"
def TJ10 : u_T := fun k => match k with
  | _ => ("", "", "", false)
def tyJ10 : Nat → FieldType := fun k => match k with
  | _ => .int
theorem nmJ10 : ∀ a, a < 0 → ∀ b, b < 0 → a ≠ b → (TJ10 a).2.1 ≠ (TJ10 b).2.1 := by decide +kernel
theorem tyJ10_ok : ∀ k, k < 0 → parseFieldDescriptor (TJ10 k).2.2.1 = some (tyJ10 k) := by decide +kernel
def RJ7 : String := "java/util/Arrays"
def TJ7 : u_T := fun k => match k with
  | _ => ("", "", "", false)
def tyJ7 : Nat → FieldType := fun k => match k with
  | _ => .int
theorem nmJ7 : ∀ a, a < 0 → ∀ b, b < 0 → a ≠ b → (TJ7 a).2.1 ≠ (TJ7 b).2.1 := by decide +kernel
theorem tyJ7_ok : ∀ k, k < 0 → parseFieldDescriptor (TJ7 k).2.2.1 = some (tyJ7 k) := by decide +kernel
abbrev cJ7_fill_d0a16 : ByteArray := prog_14_method_101_code
def yJ7_fill_d0a16 : MethodName := ⟨RJ7, "fill", "([JJ)V"⟩
abbrev cJ7_fill_53178 : ByteArray := prog_14_method_103_code
def yJ7_fill_53178 : MethodName := ⟨RJ7, "fill", "([II)V"⟩
def RL : String := "StepWorksLaw"
abbrev cL_law : ByteArray := code
def yL_law : MethodName := ⟨RL, "law", "([I)Z"⟩
abbrev vwCl : List vw_C := [(RX0, TX0, 6), (RX1, TX1, 4), (RX2, TX2, 7), (RX3, TX3, 8), (RX4, TX4, 12), (RX5, TX5, 4), (RX6, TX6, 3), (RX7, TX7, 2), (RX8, TX8, 8), (RX9, TX9, 36)]
/-- the words that every contract here takes: those of the tables that a call may hand on -/
def TT : List Cond := lw_tbl.filter goodWord
theorem TT_in {w : Cond} (h : w ∈ lw_tbl) (g : goodWord w = true) : w ∈ TT := List.mem_filter.mpr ⟨h, g⟩
theorem TT_tbl {w : Cond} (h : w ∈ TT) : w ∈ lw_tbl := (List.mem_filter.mp h).1
theorem TT_good {w : Cond} (h : w ∈ TT) : (w.onTables && w.keeps) = true ∨ ∃ ty, w = .arrayClass ty := good_of_word (List.mem_filter.mp h).2
set_option maxRecDepth 100000 in
theorem sel_in {w : Cond} (k : Nat) (h : (k2_sels lw_privs)[k]? = some w) (g : goodWord w = true) : w ∈ TT := TT_in (List.mem_append_left _ (List.mem_of_getElem? h)) g
theorem tab_in {w : Cond} (k : Nat) (h : tables_1[k]? = some w) (g : goodWord w = true) : w ∈ TT := TT_in (List.mem_append_right _ (List.mem_of_getElem? h)) g
theorem inX0 : ∀ w ∈ u_ws RX0 TX0 6, w ∈ TT := by decide +kernel
theorem inX1 : ∀ w ∈ u_ws RX1 TX1 4, w ∈ TT := by decide +kernel
theorem inX2 : ∀ w ∈ u_ws RX2 TX2 7, w ∈ TT := by decide +kernel
theorem inX3 : ∀ w ∈ u_ws RX3 TX3 8, w ∈ TT := by decide +kernel
theorem inX4 : ∀ w ∈ u_ws RX4 TX4 12, w ∈ TT := by decide +kernel
theorem inX5 : ∀ w ∈ u_ws RX5 TX5 4, w ∈ TT := by decide +kernel
theorem inX6 : ∀ w ∈ u_ws RX6 TX6 3, w ∈ TT := by decide +kernel
theorem inX7 : ∀ w ∈ u_ws RX7 TX7 2, w ∈ TT := by decide +kernel
theorem inX8 : ∀ w ∈ u_ws RX8 TX8 8, w ∈ TT := by decide +kernel
theorem inX9 : ∀ w ∈ u_ws RX9 TX9 36, w ∈ TT := by decide +kernel
