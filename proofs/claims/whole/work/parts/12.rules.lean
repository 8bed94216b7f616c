/-- nothing is known of this local -/
def pm_u : Value := .retAddr 0
def pm_lv (L : List Value) : List (Nat × Value) := (List.range L.length).filterMap (fun j => match L[j]? with | some v => if v = pm_u then none else some (j, v) | none => none)
theorem pm_lv_mem {L : List Value} {q : Nat × Value} : q ∈ pm_lv L ↔ L[q.1]? = some q.2 ∧ q.2 ≠ pm_u := by
  unfold pm_lv
  rw [List.mem_filterMap]
  constructor
  · rintro ⟨j, hj, h⟩
    cases hv : L[j]? with
    | none => rw [hv] at h; cases h
    | some v =>
      rw [hv] at h
      by_cases e : v = pm_u
      · simp [e] at h
      · simp only [if_neg e] at h
        cases h
        exact ⟨hv, e⟩
  · rintro ⟨h1, h2⟩
    refine ⟨q.1, List.mem_range.mpr (List.getElem?_eq_some_iff.mp h1).1, ?_⟩
    rw [h1]
    simp only [if_neg h2]
def pm_L (L : List Value) (nL : Nat) (ls : Array Slot) : Prop := L.length = nL ∧ lv_has ls nL (pm_lv L)
theorem pm_L.get {L : List Value} {nL : Nat} {ls : Array Slot} (h : pm_L L nL ls) {i : Nat} {v : Value} (hi : L[i]? = some v) (hv : v ≠ pm_u) : ls[i]? = some (.val v) := h.2.2.2 (i, v) (pm_lv_mem.mpr ⟨hi, hv⟩)
/-- the local ahead of place i holds no long -/
def pm_c1 (L : List Value) (i : Nat) : Prop := match i with
  | 0 => True
  | j + 1 => ∀ v, L[j]? = some v → v.category = 1
theorem pm_c1_s {L : List Value} {j : Nat} {v : Value} (h : L[j]? = some v) (hv : v.category = 1) : pm_c1 L (j + 1) := fun x hx => by rw [h] at hx; cases hx; exact hv
theorem pm_rf_cat (r : Option Nat) : (va_rf r).category = 1 := by cases r <;> rfl
theorem pm_lv_set {L : List Value} {nL i : Nat} {ls : Array Slot} {v : Value} (hp : pm_c1 L i) (hn : L.length = nL) (hi : i < nL) (h : lv_has ls nL ((i, v) :: (pm_lv L).filter (fun q => !(q.1 == i) && !(q.1 + 1 == i && q.2.category == 2)))) : pm_L (L.set i v) nL ls := by
  refine ⟨by rw [List.length_set]; exact hn, h.1, h.2.1, fun q hq => ?_⟩
  obtain ⟨h1, h2⟩ := pm_lv_mem.mp hq
  by_cases e : q.1 = i
  · rw [e, List.getElem?_set_self (by omega)] at h1
    have hq2 : q = (i, v) := Prod.ext e (Option.some.inj h1).symm
    exact h.2.2 q (by rw [hq2]; exact List.mem_cons_self)
  · rw [List.getElem?_set_ne (fun z => e z.symm)] at h1
    refine h.2.2 q (List.mem_cons_of_mem _ (List.mem_filter.mpr ⟨pm_lv_mem.mpr ⟨h1, h2⟩, ?_⟩))
    have hb : ¬ (q.1 + 1 = i ∧ q.2.category = 2) := by
      rintro ⟨e1, e2⟩
      subst e1
      have := hp q.2 h1
      omega
    simp only [Bool.and_eq_true, Bool.not_eq_true', beq_eq_false_iff_ne, Bool.and_eq_false_iff, ne_eq]
    refine ⟨e, ?_⟩
    by_cases e1 : q.1 + 1 = i
    · exact Or.inr (fun e2 => hb ⟨e1, e2⟩)
    · exact Or.inl e1
theorem pm_lv_set2 {L : List Value} {nL i : Nat} {ls : Array Slot} {v : Value} (hp : pm_c1 L i) (hn : L.length = nL) (hi : i + 1 < nL) (h : lv_has ls nL ((i, v) :: (pm_lv L).filter (fun q => !(q.1 == i) && (!(q.1 == i + 1) && !(q.1 + 1 == i && q.2.category == 2))))) : pm_L ((L.set i v).set (i + 1) pm_u) nL ls := by
  refine ⟨by rw [List.length_set, List.length_set]; exact hn, h.1, h.2.1, fun q hq => ?_⟩
  obtain ⟨h1, h2⟩ := pm_lv_mem.mp hq
  by_cases e9 : q.1 = i + 1
  · rw [e9, List.getElem?_set_self (by rw [List.length_set]; omega)] at h1
    exact absurd (Option.some.inj h1).symm h2
  rw [List.getElem?_set_ne (fun z => e9 z.symm)] at h1
  by_cases e : q.1 = i
  · rw [e, List.getElem?_set_self (by omega)] at h1
    have hq2 : q = (i, v) := Prod.ext e (Option.some.inj h1).symm
    exact h.2.2 q (by rw [hq2]; exact List.mem_cons_self)
  · rw [List.getElem?_set_ne (fun z => e z.symm)] at h1
    refine h.2.2 q (List.mem_cons_of_mem _ (List.mem_filter.mpr ⟨pm_lv_mem.mpr ⟨h1, h2⟩, ?_⟩))
    have hb : ¬ (q.1 + 1 = i ∧ q.2.category = 2) := by
      rintro ⟨e1, e2⟩
      subst e1
      have := hp q.2 h1
      omega
    simp only [Bool.and_eq_true, Bool.not_eq_true', beq_eq_false_iff_ne, Bool.and_eq_false_iff, ne_eq]
    refine ⟨e, e9, ?_⟩
    by_cases e1 : q.1 + 1 = i
    · exact Or.inr (fun e2 => hb ⟨e1, e2⟩)
    · exact Or.inl e1
/-- a reference or null -/
def pm_isr (v : Value) : Prop := v = .null ∨ ∃ a, v = .ref a
theorem pm_isr_rf (r : Option Nat) : pm_isr (va_rf r) := by
  cases r with
  | none => exact Or.inl rfl
  | some a => exact Or.inr ⟨a, rfl⟩
theorem pm_isr_cat {v : Value} (h : pm_isr v) : v.category = 1 := by
  rcases h with rfl | ⟨a, rfl⟩ <;> rfl
/-- where a method runs: the machine, its code, the tables, how many frames may lie above it -/
def pm_X (G : pm_G) (bs : Nat) (own : String) (cc : ByteArray) (nL : Nat) (ini : Bool) (d : Nat) (p : Program) (R : Room) (s : State) (m : MethodId) (args : Array Value) (meth : Method) (c : Code) : Prop :=
  p.tables.exec = Jvm.exec ∧ c.code = cc ∧ c.maxLocals = nL ∧ s.vm.findClass own = some m.cls ∧ (∀ w ∈ pm_ws, w.before args s = true) ∧ pm_K G s ∧ bs ≤ s.heap.size ∧ d ≤ R.frames ∧ 32 * d + 40 ≤ R.locals ∧ (ini = true → meth.name = "<init>")
/-- the handlers of the law's small methods -/
def pm_tb : Nat → List (Nat × Nat × Nat × Nat)
  | 1 => [(0, 11, 14, 13)] | 2 => [(0, 10, 13, 13), (0, 10, 17, 19)] | 3 => [(0, 17, 20, 13)] | 4 => [(0, 9, 12, 13)] | 5 => [(0, 9, 12, 13)] | 6 => [(0, 10, 13, 13)] | 7 => [(0, 12, 15, 13)] | 8 => [(0, 12, 15, 13)] | 9 => [(0, 9, 12, 13)] | _ => []
/-- what the law's own methods know beside: no stack traces, Throwable's two statics, the handlers, the script -/
def pm_Ex (l : Launch) (k : Nat) (st : List Value) (S : pm_S) (bs : Nat) (s : State) (c : Code) : Prop :=
  l.stackTraces = false ∧ vx_Zq Bundle.tN "UNASSIGNED_STACK" Bundle.steD (fun q => bs ≤ q) s s.heap ∧ vx_Zq Bundle.tN "SUPPRESSED_SENTINEL" Bundle.listD (fun q => bs ≤ q) s s.heap ∧ va_Nc "java/lang/IllegalStateException" "java/lang/IllegalArgumentException" s ∧
  (k ≠ 0 → c.exceptionTable.toList.map (fun h => (h.startPc, h.endPc, h.handlerPc, h.catchType)) = pm_tb k) ∧ ∀ b : Nat, st = [.ref b] → b < bs ∧ va_X b (pm_n S b) (pm_x S b) s s.heap
/-- the method's ends: at an instruction i with the stack st and the memory S, if Q i st S -/
def pm_E (G : pm_G) (l : Launch) (bs : Nat) (cc : ByteArray) (Q : Instr → List Value → pm_S → Prop) (p : Program) (e : Env) (R : Room) (s : State) (m : MethodId) (args : Array Value) (below : List Frame) (meth : Method) (c : Code) (Z : State → Prop) : Prop :=
  (∀ (i : Instr) (st : List Value) (S : pm_S) (H : Heap) (locs : List Loc) (cells slots pc : Nat) (ls : Array Slot), Q i st S → decode cc pc = .ok (i, 1) → pm_R G bs S H → va_S (fun q => bs ≤ q) s.heap H locs → cells ≤ R.cells → slots ≤ R.slots → W p l e R s m args below meth c H locs cells slots Z (F0 m pc ls st)) ∧
  (∀ (ik : Nat) (st : List Value) (S : pm_S) (H : Heap) (locs : List Loc) (cells slots pc : Nat) (ls : Array Slot), Q (.new ik) st S → decode cc pc = .ok (.new ik, 3) → pm_R G bs S H → va_S (fun q => bs ≤ q) s.heap H locs → ls.size = c.maxLocals → cells + 1 ≤ R.cells → slots + 6 ≤ R.slots → W p l e R s m args below meth c H locs cells slots Z (F0 m pc ls st)) ∧
  ∀ (k : Nat) (st : List Value) (S : pm_S), Q (.iload k) st S → pm_Ex l k st S bs s c
/-- from pc, with the locals L, the stack st, the memory S, and room for kc cells of ks slots more, the method comes to an end of Q -/
def pm_W (G : pm_G) (l : Launch) (bs : Nat) (own : String) (cc : ByteArray) (nL : Nat) (ini : Bool) (d kc ks : Nat) (Q : Instr → List Value → pm_S → Prop) (pc : Nat) (L st : List Value) (S : pm_S) : Prop :=
  ∀ (p : Program) (e : Env) (R : Room) (s : State) (m : MethodId) (args : Array Value) (below : List Frame) (meth : Method) (c : Code) (Z : State → Prop), pm_X G bs own cc nL ini d p R s m args meth c → pm_E G l bs cc Q p e R s m args below meth c Z →
    ∀ (H : Heap) (locs : List Loc) (cells slots : Nat) (ls : Array Slot), pm_R G bs S H → va_S (fun q => bs ≤ q) s.heap H locs → pm_L L nL ls → cells + kc ≤ R.cells → slots + ks ≤ R.slots → W p l e R s m args below meth c H locs cells slots Z (F0 m pc ls st)
section PMR
variable {G : pm_G} {l : Launch} {bs : Nat} {own : String} {cc : ByteArray} {nL : Nat} {ini : Bool} {d kc ks : Nat} {Q : Instr → List Value → pm_S → Prop} {pc : Nat} {L rest : List Value} {S : pm_S}
theorem pm_iconst {n : Int} {v : Int32} (hdg : decode cc pc = .ok (.iconst n, 1)) (hv : Int32.ofInt n = v) (k : pm_W G l bs own cc nL ini d kc ks Q (pc + 1) L (.int v :: rest) S) : pm_W G l bs own cc nL ini d kc ks Q pc L (rest) S := by
  intro p e R s m args below meth c Z hX hE H locs cells slots ls hR hS hL hc hs
  exact lv_iconst hX.1 hX.2.1 hdg hv (k p e R s m args below meth c Z hX hE H locs cells slots ls hR hS hL hc hs)
theorem pm_bipush {n : Int} {v : Int32} (hdg : decode cc pc = .ok (.bipush n, 2)) (hv : (Int8.ofInt n).toInt32 = v) (k : pm_W G l bs own cc nL ini d kc ks Q (pc + 2) L (.int v :: rest) S) : pm_W G l bs own cc nL ini d kc ks Q pc L (rest) S := by
  intro p e R s m args below meth c Z hX hE H locs cells slots ls hR hS hL hc hs
  exact lv_bipush hX.1 hX.2.1 hdg hv (k p e R s m args below meth c Z hX hE H locs cells slots ls hR hS hL hc hs)
theorem pm_sipush {n : Int} {v : Int32} (hdg : decode cc pc = .ok (.sipush n, 3)) (hv : (Int16.ofInt n).toInt32 = v) (k : pm_W G l bs own cc nL ini d kc ks Q (pc + 3) L (.int v :: rest) S) : pm_W G l bs own cc nL ini d kc ks Q pc L (rest) S := by
  intro p e R s m args below meth c Z hX hE H locs cells slots ls hR hS hL hc hs
  exact lv_sipush hX.1 hX.2.1 hdg hv (k p e R s m args below meth c Z hX hE H locs cells slots ls hR hS hL hc hs)
theorem pm_lconst {n : Fin 2} {v : Int64} (hdg : decode cc pc = .ok (.lconst n, 1)) (hv : Int64.ofNat (n : Nat) = v) (k : pm_W G l bs own cc nL ini d kc ks Q (pc + 1) L (.long v :: rest) S) : pm_W G l bs own cc nL ini d kc ks Q pc L (rest) S := by
  intro p e R s m args below meth c Z hX hE H locs cells slots ls hR hS hL hc hs
  exact lv_lconst hX.1 hX.2.1 hdg hv (k p e R s m args below meth c Z hX hE H locs cells slots ls hR hS hL hc hs)
theorem pm_ldc {index : Nat} {v : Int32} (hw : Cond.constant own index v ∈ pm_ws) (hdg : decode cc pc = .ok (.ldc index, 2)) (k : pm_W G l bs own cc nL ini d kc ks Q (pc + 2) L (.int v :: rest) S) : pm_W G l bs own cc nL ini d kc ks Q pc L (rest) S := by
  intro p e R s m args below meth c Z hX hE H locs cells slots ls hR hS hL hc hs
  exact lv_ldc hX.1 hX.2.1 hX.2.2.2.1 (hX.2.2.2.2.1 _ hw) hdg (k p e R s m args below meth c Z hX hE H locs cells slots ls hR hS hL hc hs)
theorem pm_ldcw {index : Nat} {v : Int32} (hw : Cond.constant own index v ∈ pm_ws) (hdg : decode cc pc = .ok (.ldc_w index, 3)) (k : pm_W G l bs own cc nL ini d kc ks Q (pc + 3) L (.int v :: rest) S) : pm_W G l bs own cc nL ini d kc ks Q pc L (rest) S := by
  intro p e R s m args below meth c Z hX hE H locs cells slots ls hR hS hL hc hs
  exact lv_ldcw hX.1 hX.2.1 hX.2.2.2.1 (hX.2.2.2.2.1 _ hw) hdg (k p e R s m args below meth c Z hX hE H locs cells slots ls hR hS hL hc hs)
theorem pm_ldc2 {index : Nat} {v : Int64} (hw : Cond.constantLong own index v ∈ pm_ws) (hdg : decode cc pc = .ok (.ldc2_w index, 3)) (k : pm_W G l bs own cc nL ini d kc ks Q (pc + 3) L (.long v :: rest) S) : pm_W G l bs own cc nL ini d kc ks Q pc L (rest) S := by
  intro p e R s m args below meth c Z hX hE H locs cells slots ls hR hS hL hc hs
  exact lv_ldc2 hX.1 hX.2.1 hX.2.2.2.1 (hX.2.2.2.2.1 _ hw) hdg (k p e R s m args below meth c Z hX hE H locs cells slots ls hR hS hL hc hs)
theorem pm_null (hdg : decode cc pc = .ok (.aconst_null, 1)) (k : pm_W G l bs own cc nL ini d kc ks Q (pc + 1) L (.null :: rest) S) : pm_W G l bs own cc nL ini d kc ks Q pc L (rest) S := by
  intro p e R s m args below meth c Z hX hE H locs cells slots ls hR hS hL hc hs
  exact lv_null hX.1 hX.2.1 hdg (k p e R s m args below meth c Z hX hE H locs cells slots ls hR hS hL hc hs)
theorem pm_iload_n {k9 : Fin 4} {x : Int32} (hdg : decode cc pc = .ok (.iload_n k9, 1)) (hl : L[(k9 : Nat)]? = some (.int x)) (k : pm_W G l bs own cc nL ini d kc ks Q (pc + 1) L (.int x :: rest) S) : pm_W G l bs own cc nL ini d kc ks Q pc L (rest) S := by
  intro p e R s m args below meth c Z hX hE H locs cells slots ls hR hS hL hc hs
  exact lv_iload_n hX.1 hX.2.1 hdg rfl (hL.get hl (by intro h; cases h)) (k p e R s m args below meth c Z hX hE H locs cells slots ls hR hS hL hc hs)
theorem pm_iload {i : Nat} {x : Int32} (hdg : decode cc pc = .ok (.iload i, 2)) (hl : L[i]? = some (.int x)) (k : pm_W G l bs own cc nL ini d kc ks Q (pc + 2) L (.int x :: rest) S) : pm_W G l bs own cc nL ini d kc ks Q pc L (rest) S := by
  intro p e R s m args below meth c Z hX hE H locs cells slots ls hR hS hL hc hs
  exact lv_iload hX.1 hX.2.1 hdg (hL.get hl (by intro h; cases h)) (k p e R s m args below meth c Z hX hE H locs cells slots ls hR hS hL hc hs)
theorem pm_lload_n {k9 : Fin 4} {x : Int64} (hdg : decode cc pc = .ok (.lload_n k9, 1)) (hl : L[(k9 : Nat)]? = some (.long x)) (k : pm_W G l bs own cc nL ini d kc ks Q (pc + 1) L (.long x :: rest) S) : pm_W G l bs own cc nL ini d kc ks Q pc L (rest) S := by
  intro p e R s m args below meth c Z hX hE H locs cells slots ls hR hS hL hc hs
  exact lv_lload_n hX.1 hX.2.1 hdg rfl (hL.get hl (by intro h; cases h)) (k p e R s m args below meth c Z hX hE H locs cells slots ls hR hS hL hc hs)
theorem pm_lload {i : Nat} {x : Int64} (hdg : decode cc pc = .ok (.lload i, 2)) (hl : L[i]? = some (.long x)) (k : pm_W G l bs own cc nL ini d kc ks Q (pc + 2) L (.long x :: rest) S) : pm_W G l bs own cc nL ini d kc ks Q pc L (rest) S := by
  intro p e R s m args below meth c Z hX hE H locs cells slots ls hR hS hL hc hs
  exact lv_lload hX.1 hX.2.1 hdg (hL.get hl (by intro h; cases h)) (k p e R s m args below meth c Z hX hE H locs cells slots ls hR hS hL hc hs)
theorem pm_aload_n {k9 : Fin 4} {v : Value} (hdg : decode cc pc = .ok (.aload_n k9, 1)) (hl : L[(k9 : Nat)]? = some v) (k : pm_W G l bs own cc nL ini d kc ks Q (pc + 1) L (v :: rest) S) (hr : pm_isr v := by first | exact Or.inr ⟨_, rfl⟩ | exact Or.inl rfl | exact pm_isr_rf _ | assumption) : pm_W G l bs own cc nL ini d kc ks Q pc L rest S := by
  intro p e R s m args below meth c Z hX hE H locs cells slots ls hR hS hL hc hs
  rcases hr with rfl | ⟨a, rfl⟩
  · exact lv_aload_nN hX.1 hX.2.1 hdg rfl (hL.get hl (by intro h; cases h)) (k p e R s m args below meth c Z hX hE H locs cells slots ls hR hS hL hc hs)
  · exact lv_aload_n hX.1 hX.2.1 hdg rfl (hL.get hl (by intro h; cases h)) (k p e R s m args below meth c Z hX hE H locs cells slots ls hR hS hL hc hs)
theorem pm_aload {i : Nat} {v : Value} (hdg : decode cc pc = .ok (.aload i, 2)) (hl : L[i]? = some v) (k : pm_W G l bs own cc nL ini d kc ks Q (pc + 2) L (v :: rest) S) (hr : pm_isr v := by first | exact Or.inr ⟨_, rfl⟩ | exact Or.inl rfl | exact pm_isr_rf _ | assumption) : pm_W G l bs own cc nL ini d kc ks Q pc L rest S := by
  intro p e R s m args below meth c Z hX hE H locs cells slots ls hR hS hL hc hs
  rcases hr with rfl | ⟨a, rfl⟩
  · exact lv_aloadN hX.1 hX.2.1 hdg (hL.get hl (by intro h; cases h)) (k p e R s m args below meth c Z hX hE H locs cells slots ls hR hS hL hc hs)
  · exact lv_aload hX.1 hX.2.1 hdg (hL.get hl (by intro h; cases h)) (k p e R s m args below meth c Z hX hE H locs cells slots ls hR hS hL hc hs)
theorem pm_istore_n {k9 : Fin 4} {x : Int32} (hdg : decode cc pc = .ok (.istore_n k9, 1)) (hn : (k9 : Nat) < nL) (k : pm_W G l bs own cc nL ini d kc ks Q (pc + 1) (L.set (k9 : Nat) (.int x)) rest S) (hp : pm_c1 L (k9 : Nat) := by first | exact trivial | exact pm_c1_s rfl rfl | exact pm_c1_s rfl (pm_rf_cat _) | assumption) : pm_W G l bs own cc nL ini d kc ks Q pc L (.int x :: rest) S := by
  intro p e R s m args below meth c Z hX hE H locs cells slots ls hR hS hL hc hs
  have hL2 := hL
  exact lv_istore_n hX.1 hX.2.1 hdg rfl hL.2 hn rfl (fun ls hL => k p e R s m args below meth c Z hX hE H locs cells slots ls hR hS (pm_lv_set hp hL2.1 hn hL) hc hs)
theorem pm_istore {i : Nat} {x : Int32} (hdg : decode cc pc = .ok (.istore i, 2)) (hn : i < nL) (k : pm_W G l bs own cc nL ini d kc ks Q (pc + 2) (L.set i (.int x)) rest S) (hp : pm_c1 L i := by first | exact trivial | exact pm_c1_s rfl rfl | exact pm_c1_s rfl (pm_rf_cat _) | assumption) : pm_W G l bs own cc nL ini d kc ks Q pc L (.int x :: rest) S := by
  intro p e R s m args below meth c Z hX hE H locs cells slots ls hR hS hL hc hs
  have hL2 := hL
  exact lv_istore hX.1 hX.2.1 hdg hL.2 hn rfl (fun ls hL => k p e R s m args below meth c Z hX hE H locs cells slots ls hR hS (pm_lv_set hp hL2.1 hn hL) hc hs)
theorem pm_lstore_n {k9 : Fin 4} {x : Int64} (hdg : decode cc pc = .ok (.lstore_n k9, 1)) (hn : (k9 : Nat) + 1 < nL) (k : pm_W G l bs own cc nL ini d kc ks Q (pc + 1) ((L.set (k9 : Nat) (.long x)).set ((k9 : Nat) + 1) pm_u) rest S) (hp : pm_c1 L (k9 : Nat) := by first | exact trivial | exact pm_c1_s rfl rfl | exact pm_c1_s rfl (pm_rf_cat _) | assumption) : pm_W G l bs own cc nL ini d kc ks Q pc L (.long x :: rest) S := by
  intro p e R s m args below meth c Z hX hE H locs cells slots ls hR hS hL hc hs
  have hL2 := hL
  exact lv_lstore_n hX.1 hX.2.1 hdg rfl hL.2 hn rfl (fun ls hL => k p e R s m args below meth c Z hX hE H locs cells slots ls hR hS (pm_lv_set2 hp hL2.1 hn hL) hc hs)
theorem pm_lstore {i : Nat} {x : Int64} (hdg : decode cc pc = .ok (.lstore i, 2)) (hn : i + 1 < nL) (k : pm_W G l bs own cc nL ini d kc ks Q (pc + 2) ((L.set i (.long x)).set (i + 1) pm_u) rest S) (hp : pm_c1 L i := by first | exact trivial | exact pm_c1_s rfl rfl | exact pm_c1_s rfl (pm_rf_cat _) | assumption) : pm_W G l bs own cc nL ini d kc ks Q pc L (.long x :: rest) S := by
  intro p e R s m args below meth c Z hX hE H locs cells slots ls hR hS hL hc hs
  have hL2 := hL
  exact lv_lstore hX.1 hX.2.1 hdg hL.2 hn rfl (fun ls hL => k p e R s m args below meth c Z hX hE H locs cells slots ls hR hS (pm_lv_set2 hp hL2.1 hn hL) hc hs)
theorem pm_astore_n {k9 : Fin 4} {v : Value} (hdg : decode cc pc = .ok (.astore_n k9, 1)) (hn : (k9 : Nat) < nL) (k : pm_W G l bs own cc nL ini d kc ks Q (pc + 1) (L.set (k9 : Nat) v) rest S) (hr : pm_isr v := by first | exact Or.inr ⟨_, rfl⟩ | exact Or.inl rfl | exact pm_isr_rf _ | assumption) (hp : pm_c1 L (k9 : Nat) := by first | exact trivial | exact pm_c1_s rfl rfl | exact pm_c1_s rfl (pm_rf_cat _) | assumption) : pm_W G l bs own cc nL ini d kc ks Q pc L (v :: rest) S := by
  intro p e R s m args below meth c Z hX hE H locs cells slots ls hR hS hL hc hs
  have hL2 := hL
  rcases hr with rfl | ⟨a, rfl⟩
  · exact lv_astore_nN hX.1 hX.2.1 hdg rfl hL.2 hn rfl (fun ls hL => k p e R s m args below meth c Z hX hE H locs cells slots ls hR hS (pm_lv_set hp hL2.1 hn hL) hc hs)
  · exact lv_astore_n hX.1 hX.2.1 hdg rfl hL.2 hn rfl (fun ls hL => k p e R s m args below meth c Z hX hE H locs cells slots ls hR hS (pm_lv_set hp hL2.1 hn hL) hc hs)
theorem pm_astore {i : Nat} {v : Value} (hdg : decode cc pc = .ok (.astore i, 2)) (hn : i < nL) (k : pm_W G l bs own cc nL ini d kc ks Q (pc + 2) (L.set i v) rest S) (hr : pm_isr v := by first | exact Or.inr ⟨_, rfl⟩ | exact Or.inl rfl | exact pm_isr_rf _ | assumption) (hp : pm_c1 L i := by first | exact trivial | exact pm_c1_s rfl rfl | exact pm_c1_s rfl (pm_rf_cat _) | assumption) : pm_W G l bs own cc nL ini d kc ks Q pc L (v :: rest) S := by
  intro p e R s m args below meth c Z hX hE H locs cells slots ls hR hS hL hc hs
  have hL2 := hL
  rcases hr with rfl | ⟨a, rfl⟩
  · exact lv_astoreN hX.1 hX.2.1 hdg hL.2 hn rfl (fun ls hL => k p e R s m args below meth c Z hX hE H locs cells slots ls hR hS (pm_lv_set hp hL2.1 hn hL) hc hs)
  · exact lv_astore hX.1 hX.2.1 hdg hL.2 hn rfl (fun ls hL => k p e R s m args below meth c Z hX hE H locs cells slots ls hR hS (pm_lv_set hp hL2.1 hn hL) hc hs)
theorem pm_iinc {i : Nat} {n : Int} {x v : Int32} (hdg : decode cc pc = .ok (.iinc i n, 3)) (hl : L[i]? = some (.int x)) (hv : x + Int32.ofInt n = v) (hn : i < nL) (k : pm_W G l bs own cc nL ini d kc ks Q (pc + 3) (L.set i (.int v)) rest S) (hp : pm_c1 L i := by first | exact trivial | exact pm_c1_s rfl rfl | exact pm_c1_s rfl (pm_rf_cat _) | assumption) : pm_W G l bs own cc nL ini d kc ks Q pc L rest S := by
  intro p e R s m args below meth c Z hX hE H locs cells slots ls hR hS hL hc hs
  have hL2 := hL
  obtain ⟨k9, hk9⟩ := List.getElem?_of_mem (pm_lv_mem (q := (i, .int x)).mpr ⟨hl, by intro h; cases h⟩)
  exact lv_iinc hX.1 hX.2.1 hdg hL.2 (k := k9) hk9 hv hn rfl (fun ls hL => k p e R s m args below meth c Z hX hE H locs cells slots ls hR hS (pm_lv_set hp hL2.1 hn hL) hc hs)
theorem pm_iadd {x y : Int32} (hdg : decode cc pc = .ok (.iadd, 1)) (k : pm_W G l bs own cc nL ini d kc ks Q (pc + 1) L (.int (x + y) :: rest) S) : pm_W G l bs own cc nL ini d kc ks Q pc L (.int y :: .int x :: rest) S := by
  intro p e R s m args below meth c Z hX hE H locs cells slots ls hR hS hL hc hs
  exact lv_iadd hX.1 hX.2.1 hdg (k p e R s m args below meth c Z hX hE H locs cells slots ls hR hS hL hc hs)
theorem pm_isub {x y : Int32} (hdg : decode cc pc = .ok (.isub, 1)) (k : pm_W G l bs own cc nL ini d kc ks Q (pc + 1) L (.int (x - y) :: rest) S) : pm_W G l bs own cc nL ini d kc ks Q pc L (.int y :: .int x :: rest) S := by
  intro p e R s m args below meth c Z hX hE H locs cells slots ls hR hS hL hc hs
  exact lv_isub hX.1 hX.2.1 hdg (k p e R s m args below meth c Z hX hE H locs cells slots ls hR hS hL hc hs)
theorem pm_imul {x y : Int32} (hdg : decode cc pc = .ok (.imul, 1)) (k : pm_W G l bs own cc nL ini d kc ks Q (pc + 1) L (.int (x * y) :: rest) S) : pm_W G l bs own cc nL ini d kc ks Q pc L (.int y :: .int x :: rest) S := by
  intro p e R s m args below meth c Z hX hE H locs cells slots ls hR hS hL hc hs
  exact lv_imul hX.1 hX.2.1 hdg (k p e R s m args below meth c Z hX hE H locs cells slots ls hR hS hL hc hs)
theorem pm_iand {x y : Int32} (hdg : decode cc pc = .ok (.iand, 1)) (k : pm_W G l bs own cc nL ini d kc ks Q (pc + 1) L (.int (x &&& y) :: rest) S) : pm_W G l bs own cc nL ini d kc ks Q pc L (.int y :: .int x :: rest) S := by
  intro p e R s m args below meth c Z hX hE H locs cells slots ls hR hS hL hc hs
  exact lv_iand hX.1 hX.2.1 hdg (k p e R s m args below meth c Z hX hE H locs cells slots ls hR hS hL hc hs)
theorem pm_ixor {x y : Int32} (hdg : decode cc pc = .ok (.ixor, 1)) (k : pm_W G l bs own cc nL ini d kc ks Q (pc + 1) L (.int (x ^^^ y) :: rest) S) : pm_W G l bs own cc nL ini d kc ks Q pc L (.int y :: .int x :: rest) S := by
  intro p e R s m args below meth c Z hX hE H locs cells slots ls hR hS hL hc hs
  exact lv_ixor hX.1 hX.2.1 hdg (k p e R s m args below meth c Z hX hE H locs cells slots ls hR hS hL hc hs)
theorem pm_ladd {x y : Int64} (hdg : decode cc pc = .ok (.ladd, 1)) (k : pm_W G l bs own cc nL ini d kc ks Q (pc + 1) L (.long (x + y) :: rest) S) : pm_W G l bs own cc nL ini d kc ks Q pc L (.long y :: .long x :: rest) S := by
  intro p e R s m args below meth c Z hX hE H locs cells slots ls hR hS hL hc hs
  exact lv_ladd hX.1 hX.2.1 hdg (k p e R s m args below meth c Z hX hE H locs cells slots ls hR hS hL hc hs)
theorem pm_lsub {x y : Int64} (hdg : decode cc pc = .ok (.lsub, 1)) (k : pm_W G l bs own cc nL ini d kc ks Q (pc + 1) L (.long (x - y) :: rest) S) : pm_W G l bs own cc nL ini d kc ks Q pc L (.long y :: .long x :: rest) S := by
  intro p e R s m args below meth c Z hX hE H locs cells slots ls hR hS hL hc hs
  exact lv_lsub hX.1 hX.2.1 hdg (k p e R s m args below meth c Z hX hE H locs cells slots ls hR hS hL hc hs)
theorem pm_land {x y : Int64} (hdg : decode cc pc = .ok (.land, 1)) (k : pm_W G l bs own cc nL ini d kc ks Q (pc + 1) L (.long (x &&& y) :: rest) S) : pm_W G l bs own cc nL ini d kc ks Q pc L (.long y :: .long x :: rest) S := by
  intro p e R s m args below meth c Z hX hE H locs cells slots ls hR hS hL hc hs
  exact lv_land hX.1 hX.2.1 hdg (k p e R s m args below meth c Z hX hE H locs cells slots ls hR hS hL hc hs)
theorem pm_lor {x y : Int64} (hdg : decode cc pc = .ok (.lor, 1)) (k : pm_W G l bs own cc nL ini d kc ks Q (pc + 1) L (.long (x ||| y) :: rest) S) : pm_W G l bs own cc nL ini d kc ks Q pc L (.long y :: .long x :: rest) S := by
  intro p e R s m args below meth c Z hX hE H locs cells slots ls hR hS hL hc hs
  exact lv_lor hX.1 hX.2.1 hdg (k p e R s m args below meth c Z hX hE H locs cells slots ls hR hS hL hc hs)
theorem pm_lxor {x y : Int64} (hdg : decode cc pc = .ok (.lxor, 1)) (k : pm_W G l bs own cc nL ini d kc ks Q (pc + 1) L (.long (x ^^^ y) :: rest) S) : pm_W G l bs own cc nL ini d kc ks Q pc L (.long y :: .long x :: rest) S := by
  intro p e R s m args below meth c Z hX hE H locs cells slots ls hR hS hL hc hs
  exact lv_lxor hX.1 hX.2.1 hdg (k p e R s m args below meth c Z hX hE H locs cells slots ls hR hS hL hc hs)
theorem pm_idiv {x y : Int32} (hdg : decode cc pc = .ok (.idiv, 1)) (hne : ¬ y = 0) (k : pm_W G l bs own cc nL ini d kc ks Q (pc + 1) L (.int (x / y) :: rest) S) : pm_W G l bs own cc nL ini d kc ks Q pc L (.int y :: .int x :: rest) S := by
  intro p e R s m args below meth c Z hX hE H locs cells slots ls hR hS hL hc hs
  exact lv_idiv hX.1 hX.2.1 hdg hne (k p e R s m args below meth c Z hX hE H locs cells slots ls hR hS hL hc hs)
theorem pm_irem {x y : Int32} (hdg : decode cc pc = .ok (.irem, 1)) (hne : ¬ y = 0) (k : pm_W G l bs own cc nL ini d kc ks Q (pc + 1) L (.int (x - x / y * y) :: rest) S) : pm_W G l bs own cc nL ini d kc ks Q pc L (.int y :: .int x :: rest) S := by
  intro p e R s m args below meth c Z hX hE H locs cells slots ls hR hS hL hc hs
  exact lv_irem hX.1 hX.2.1 hdg hne (k p e R s m args below meth c Z hX hE H locs cells slots ls hR hS hL hc hs)
theorem pm_i2l {x : Int32} (hdg : decode cc pc = .ok (.i2l, 1)) (k : pm_W G l bs own cc nL ini d kc ks Q (pc + 1) L (.long x.toInt64 :: rest) S) : pm_W G l bs own cc nL ini d kc ks Q pc L (.int x :: rest) S := by
  intro p e R s m args below meth c Z hX hE H locs cells slots ls hR hS hL hc hs
  exact lv_i2l hX.1 hX.2.1 hdg rfl (k p e R s m args below meth c Z hX hE H locs cells slots ls hR hS hL hc hs)
theorem pm_l2i {x : Int64} (hdg : decode cc pc = .ok (.l2i, 1)) (k : pm_W G l bs own cc nL ini d kc ks Q (pc + 1) L (.int x.toInt32 :: rest) S) : pm_W G l bs own cc nL ini d kc ks Q pc L (.long x :: rest) S := by
  intro p e R s m args below meth c Z hX hE H locs cells slots ls hR hS hL hc hs
  exact lv_l2i hX.1 hX.2.1 hdg rfl (k p e R s m args below meth c Z hX hE H locs cells slots ls hR hS hL hc hs)
theorem pm_lushr {x : Int64} {y : Int32} (hdg : decode cc pc = .ok (.lushr, 1)) (k : pm_W G l bs own cc nL ini d kc ks Q (pc + 1) L (.long (x.toUInt64 >>> (y.toInt64.toUInt64 &&& Int64.toUInt64 63)).toInt64 :: rest) S) : pm_W G l bs own cc nL ini d kc ks Q pc L (.int y :: .long x :: rest) S := by
  intro p e R s m args below meth c Z hX hE H locs cells slots ls hR hS hL hc hs
  exact lv_lushr hX.1 hX.2.1 hdg rfl (k p e R s m args below meth c Z hX hE H locs cells slots ls hR hS hL hc hs)
theorem pm_lshl {x : Int64} {y : Int32} (hdg : decode cc pc = .ok (.lshl, 1)) (k : pm_W G l bs own cc nL ini d kc ks Q (pc + 1) L (.long (x <<< (y.toInt64 &&& 63)) :: rest) S) : pm_W G l bs own cc nL ini d kc ks Q pc L (.int y :: .long x :: rest) S := by
  intro p e R s m args below meth c Z hX hE H locs cells slots ls hR hS hL hc hs
  exact lv_lshl hX.1 hX.2.1 hdg rfl (k p e R s m args below meth c Z hX hE H locs cells slots ls hR hS hL hc hs)
theorem pm_lcmp {x y : Int64} (hdg : decode cc pc = .ok (.lcmp, 1)) (k : pm_W G l bs own cc nL ini d kc ks Q (pc + 1) L (.int (lg_cmp x y) :: rest) S) : pm_W G l bs own cc nL ini d kc ks Q pc L (.long y :: .long x :: rest) S := by
  intro p e R s m args below meth c Z hX hE H locs cells slots ls hR hS hL hc hs
  exact W.lcmp hX.1 hX.2.1 hdg (k p e R s m args below meth c Z hX hE H locs cells slots ls hR hS hL hc hs)
theorem pm_dup {v : Value} (hdg : decode cc pc = .ok (.dup, 1)) (k : pm_W G l bs own cc nL ini d kc ks Q (pc + 1) L (v :: v :: rest) S) (hv : v.category = 1 := by first | rfl | exact pm_rf_cat _ | assumption) : pm_W G l bs own cc nL ini d kc ks Q pc L (v :: rest) S := by
  intro p e R s m args below meth c Z hX hE H locs cells slots ls hR hS hL hc hs
  exact lv_dup hX.1 hX.2.1 hdg hv (k p e R s m args below meth c Z hX hE H locs cells slots ls hR hS hL hc hs)
theorem pm_pop {v : Value} (hdg : decode cc pc = .ok (.pop, 1)) (k : pm_W G l bs own cc nL ini d kc ks Q (pc + 1) L rest S) (hv : v.category = 1 := by first | rfl | exact pm_rf_cat _ | assumption) : pm_W G l bs own cc nL ini d kc ks Q pc L (v :: rest) S := by
  intro p e R s m args below meth c Z hX hE H locs cells slots ls hR hS hL hc hs
  exact lv_pop hX.1 hX.2.1 hdg hv (k p e R s m args below meth c Z hX hE H locs cells slots ls hR hS hL hc hs)
theorem pm_dup2 {v u : Value} (hdg : decode cc pc = .ok (.dup2, 1)) (k : pm_W G l bs own cc nL ini d kc ks Q (pc + 1) L (v :: u :: v :: u :: rest) S) (hv : v.category = 1 := by first | rfl | exact pm_rf_cat _ | assumption) (hu : u.category = 1 := by first | rfl | exact pm_rf_cat _ | assumption) : pm_W G l bs own cc nL ini d kc ks Q pc L (v :: u :: rest) S := by
  intro p e R s m args below meth c Z hX hE H locs cells slots ls hR hS hL hc hs
  exact lv_dup2_11 hX.1 hX.2.1 hdg hv hu (k p e R s m args below meth c Z hX hE H locs cells slots ls hR hS hL hc hs)
theorem pm_if_eq {x : Int32} {off : Int} {tgt : Nat} (hdg : decode cc pc = .ok (.ifCond .eq off, 3)) (ht : (pc : Int) + off = (tgt : Int)) (kt : x = 0 → pm_W G l bs own cc nL ini d kc ks Q tgt L rest S) (kf : ¬ x = 0 → pm_W G l bs own cc nL ini d kc ks Q (pc + 3) L rest S) : pm_W G l bs own cc nL ini d kc ks Q pc L (.int x :: rest) S := by
  intro p e R s m args below meth c Z hX hE H locs cells slots ls hR hS hL hc hs
  exact lv_if_eq hX.1 hX.2.1 hdg ht (fun q => kt q p e R s m args below meth c Z hX hE H locs cells slots ls hR hS hL hc hs) (fun q => kf q p e R s m args below meth c Z hX hE H locs cells slots ls hR hS hL hc hs)
theorem pm_if_ne {x : Int32} {off : Int} {tgt : Nat} (hdg : decode cc pc = .ok (.ifCond .ne off, 3)) (ht : (pc : Int) + off = (tgt : Int)) (kt : ¬ x = 0 → pm_W G l bs own cc nL ini d kc ks Q tgt L rest S) (kf : x = 0 → pm_W G l bs own cc nL ini d kc ks Q (pc + 3) L rest S) : pm_W G l bs own cc nL ini d kc ks Q pc L (.int x :: rest) S := by
  intro p e R s m args below meth c Z hX hE H locs cells slots ls hR hS hL hc hs
  exact lv_if_ne hX.1 hX.2.1 hdg ht (fun q => kt q p e R s m args below meth c Z hX hE H locs cells slots ls hR hS hL hc hs) (fun q => kf q p e R s m args below meth c Z hX hE H locs cells slots ls hR hS hL hc hs)
theorem pm_if_lt {x : Int32} {off : Int} {tgt : Nat} (hdg : decode cc pc = .ok (.ifCond .lt off, 3)) (ht : (pc : Int) + off = (tgt : Int)) (kt : x < 0 → pm_W G l bs own cc nL ini d kc ks Q tgt L rest S) (kf : ¬ x < 0 → pm_W G l bs own cc nL ini d kc ks Q (pc + 3) L rest S) : pm_W G l bs own cc nL ini d kc ks Q pc L (.int x :: rest) S := by
  intro p e R s m args below meth c Z hX hE H locs cells slots ls hR hS hL hc hs
  exact lv_if_lt hX.1 hX.2.1 hdg ht (fun q => kt q p e R s m args below meth c Z hX hE H locs cells slots ls hR hS hL hc hs) (fun q => kf q p e R s m args below meth c Z hX hE H locs cells slots ls hR hS hL hc hs)
theorem pm_if_ge {x : Int32} {off : Int} {tgt : Nat} (hdg : decode cc pc = .ok (.ifCond .ge off, 3)) (ht : (pc : Int) + off = (tgt : Int)) (kt : 0 ≤ x → pm_W G l bs own cc nL ini d kc ks Q tgt L rest S) (kf : ¬ 0 ≤ x → pm_W G l bs own cc nL ini d kc ks Q (pc + 3) L rest S) : pm_W G l bs own cc nL ini d kc ks Q pc L (.int x :: rest) S := by
  intro p e R s m args below meth c Z hX hE H locs cells slots ls hR hS hL hc hs
  exact lv_if_ge hX.1 hX.2.1 hdg ht (fun q => kt q p e R s m args below meth c Z hX hE H locs cells slots ls hR hS hL hc hs) (fun q => kf q p e R s m args below meth c Z hX hE H locs cells slots ls hR hS hL hc hs)
theorem pm_if_gt {x : Int32} {off : Int} {tgt : Nat} (hdg : decode cc pc = .ok (.ifCond .gt off, 3)) (ht : (pc : Int) + off = (tgt : Int)) (kt : 0 < x → pm_W G l bs own cc nL ini d kc ks Q tgt L rest S) (kf : ¬ 0 < x → pm_W G l bs own cc nL ini d kc ks Q (pc + 3) L rest S) : pm_W G l bs own cc nL ini d kc ks Q pc L (.int x :: rest) S := by
  intro p e R s m args below meth c Z hX hE H locs cells slots ls hR hS hL hc hs
  exact lv_if_gt hX.1 hX.2.1 hdg ht (fun q => kt q p e R s m args below meth c Z hX hE H locs cells slots ls hR hS hL hc hs) (fun q => kf q p e R s m args below meth c Z hX hE H locs cells slots ls hR hS hL hc hs)
theorem pm_if_le {x : Int32} {off : Int} {tgt : Nat} (hdg : decode cc pc = .ok (.ifCond .le off, 3)) (ht : (pc : Int) + off = (tgt : Int)) (kt : x ≤ 0 → pm_W G l bs own cc nL ini d kc ks Q tgt L rest S) (kf : ¬ x ≤ 0 → pm_W G l bs own cc nL ini d kc ks Q (pc + 3) L rest S) : pm_W G l bs own cc nL ini d kc ks Q pc L (.int x :: rest) S := by
  intro p e R s m args below meth c Z hX hE H locs cells slots ls hR hS hL hc hs
  exact lv_if_le hX.1 hX.2.1 hdg ht (fun q => kt q p e R s m args below meth c Z hX hE H locs cells slots ls hR hS hL hc hs) (fun q => kf q p e R s m args below meth c Z hX hE H locs cells slots ls hR hS hL hc hs)
theorem pm_icmp_eq {x y : Int32} {off : Int} {tgt : Nat} (hdg : decode cc pc = .ok (.if_icmp .eq off, 3)) (ht : (pc : Int) + off = (tgt : Int)) (kt : x = y → pm_W G l bs own cc nL ini d kc ks Q tgt L rest S) (kf : ¬ x = y → pm_W G l bs own cc nL ini d kc ks Q (pc + 3) L rest S) : pm_W G l bs own cc nL ini d kc ks Q pc L (.int y :: .int x :: rest) S := by
  intro p e R s m args below meth c Z hX hE H locs cells slots ls hR hS hL hc hs
  exact lv_icmp_eq hX.1 hX.2.1 hdg ht (fun q => kt q p e R s m args below meth c Z hX hE H locs cells slots ls hR hS hL hc hs) (fun q => kf q p e R s m args below meth c Z hX hE H locs cells slots ls hR hS hL hc hs)
theorem pm_icmp_ne {x y : Int32} {off : Int} {tgt : Nat} (hdg : decode cc pc = .ok (.if_icmp .ne off, 3)) (ht : (pc : Int) + off = (tgt : Int)) (kt : ¬ x = y → pm_W G l bs own cc nL ini d kc ks Q tgt L rest S) (kf : x = y → pm_W G l bs own cc nL ini d kc ks Q (pc + 3) L rest S) : pm_W G l bs own cc nL ini d kc ks Q pc L (.int y :: .int x :: rest) S := by
  intro p e R s m args below meth c Z hX hE H locs cells slots ls hR hS hL hc hs
  exact lv_icmp_ne hX.1 hX.2.1 hdg ht (fun q => kt q p e R s m args below meth c Z hX hE H locs cells slots ls hR hS hL hc hs) (fun q => kf q p e R s m args below meth c Z hX hE H locs cells slots ls hR hS hL hc hs)
theorem pm_icmp_lt {x y : Int32} {off : Int} {tgt : Nat} (hdg : decode cc pc = .ok (.if_icmp .lt off, 3)) (ht : (pc : Int) + off = (tgt : Int)) (kt : x < y → pm_W G l bs own cc nL ini d kc ks Q tgt L rest S) (kf : ¬ x < y → pm_W G l bs own cc nL ini d kc ks Q (pc + 3) L rest S) : pm_W G l bs own cc nL ini d kc ks Q pc L (.int y :: .int x :: rest) S := by
  intro p e R s m args below meth c Z hX hE H locs cells slots ls hR hS hL hc hs
  exact lv_icmp_lt hX.1 hX.2.1 hdg ht (fun q => kt q p e R s m args below meth c Z hX hE H locs cells slots ls hR hS hL hc hs) (fun q => kf q p e R s m args below meth c Z hX hE H locs cells slots ls hR hS hL hc hs)
theorem pm_icmp_ge {x y : Int32} {off : Int} {tgt : Nat} (hdg : decode cc pc = .ok (.if_icmp .ge off, 3)) (ht : (pc : Int) + off = (tgt : Int)) (kt : y ≤ x → pm_W G l bs own cc nL ini d kc ks Q tgt L rest S) (kf : ¬ y ≤ x → pm_W G l bs own cc nL ini d kc ks Q (pc + 3) L rest S) : pm_W G l bs own cc nL ini d kc ks Q pc L (.int y :: .int x :: rest) S := by
  intro p e R s m args below meth c Z hX hE H locs cells slots ls hR hS hL hc hs
  exact lv_icmp_ge hX.1 hX.2.1 hdg ht (fun q => kt q p e R s m args below meth c Z hX hE H locs cells slots ls hR hS hL hc hs) (fun q => kf q p e R s m args below meth c Z hX hE H locs cells slots ls hR hS hL hc hs)
theorem pm_icmp_gt {x y : Int32} {off : Int} {tgt : Nat} (hdg : decode cc pc = .ok (.if_icmp .gt off, 3)) (ht : (pc : Int) + off = (tgt : Int)) (kt : y < x → pm_W G l bs own cc nL ini d kc ks Q tgt L rest S) (kf : ¬ y < x → pm_W G l bs own cc nL ini d kc ks Q (pc + 3) L rest S) : pm_W G l bs own cc nL ini d kc ks Q pc L (.int y :: .int x :: rest) S := by
  intro p e R s m args below meth c Z hX hE H locs cells slots ls hR hS hL hc hs
  exact lv_icmp_gt hX.1 hX.2.1 hdg ht (fun q => kt q p e R s m args below meth c Z hX hE H locs cells slots ls hR hS hL hc hs) (fun q => kf q p e R s m args below meth c Z hX hE H locs cells slots ls hR hS hL hc hs)
theorem pm_icmp_le {x y : Int32} {off : Int} {tgt : Nat} (hdg : decode cc pc = .ok (.if_icmp .le off, 3)) (ht : (pc : Int) + off = (tgt : Int)) (kt : x ≤ y → pm_W G l bs own cc nL ini d kc ks Q tgt L rest S) (kf : ¬ x ≤ y → pm_W G l bs own cc nL ini d kc ks Q (pc + 3) L rest S) : pm_W G l bs own cc nL ini d kc ks Q pc L (.int y :: .int x :: rest) S := by
  intro p e R s m args below meth c Z hX hE H locs cells slots ls hR hS hL hc hs
  exact lv_icmp_le hX.1 hX.2.1 hdg ht (fun q => kt q p e R s m args below meth c Z hX hE H locs cells slots ls hR hS hL hc hs) (fun q => kf q p e R s m args below meth c Z hX hE H locs cells slots ls hR hS hL hc hs)
theorem pm_goto {off : Int} {tgt : Nat} (hdg : decode cc pc = .ok (.goto off, 3)) (ht : (pc : Int) + off = (tgt : Int)) (k : pm_W G l bs own cc nL ini d kc ks Q tgt L rest S) : pm_W G l bs own cc nL ini d kc ks Q pc L rest S := by
  intro p e R s m args below meth c Z hX hE H locs cells slots ls hR hS hL hc hs
  exact lv_goto hX.1 hX.2.1 hdg ht (k p e R s m args below meth c Z hX hE H locs cells slots ls hR hS hL hc hs)
theorem pm_exit {i : Instr} {st : List Value} (hdg : decode cc pc = .ok (i, 1)) (hq : Q i st S) : pm_W G l bs own cc nL ini d kc ks Q pc L st S := by
  intro p e R s m args below meth c Z hX hE H locs cells slots ls hR hS hL hc hs
  exact hE.1 i st S H locs cells slots pc ls hq hdg hR hS (by omega) (by omega)
/-- an end where something is thrown -/
theorem pm_exitT {ik : Nat} {st : List Value} (hdg : decode cc pc = .ok (.new ik, 3)) (hq : Q (.new ik) st S) (h1 : 1 ≤ kc) (h6 : 6 ≤ ks) : pm_W G l bs own cc nL ini d kc ks Q pc L st S := by
  intro p e R s m args below meth c Z hX hE H locs cells slots ls hR hS hL hc hs
  exact hE.2.1 ik st S H locs cells slots pc ls hq hdg hR hS (hL.2.1.trans hX.2.2.1.symm) (by omega) (by omega)
end PMR
