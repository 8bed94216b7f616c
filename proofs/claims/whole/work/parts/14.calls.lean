/-! contracts over the small memory, and calls -/
/-- the words of a method's contract -/
def pm_wy (y : MethodName) (bytes : ByteArray) (maxL : Nat) (ret : Option FieldType) : List Cond := .code y bytes maxL ret :: pm_ws
def pm_rm (d kc ks : Nat) : Room := { frames := d, cells := kc, slots := ks, locals := 32 * d + 40 }
def pm_Pc (G : pm_G) (bs : Nat) (av : List Value) (S : pm_S) : Array Value → State → Prop := va_Pc av (fun U => bs ≤ U.heap.size ∧ pm_R G bs S U.heap ∧ pm_K G U)
def pm_Qc (G : pm_G) (bs : Nat) (Q : Option Value → pm_S → Prop) : Array Value → State → Outcome → State → Prop := fun _ st o t => (∃ (v : Option Value) (S' : pm_S), o = .returned v ∧ Q v S' ∧ pm_R G bs S' t.heap) ∧ va_F (fun q => bs ≤ q) st t
/-- method y, called with av on the memory S, with d frames of room and at most kc cells of ks slots, returns as Q says -/
def pm_M (G : pm_G) (l : Launch) (bs : Nat) (y : MethodName) (bytes : ByteArray) (maxL : Nat) (ret : Option FieldType) (d kc ks : Nat) (av : List Value) (S : pm_S) (Q : Option Value → pm_S → Prop) : Prop :=
  Met l y (pm_wy y bytes maxL ret) (pm_rm d kc ks) (pm_Pc G bs av S) (pm_Qc G bs Q) kc ks (fun q => bs ≤ q)
def pm_qv (post : pm_S → Prop) : Option Value → pm_S → Prop := fun v S => v = none ∧ post S
def pm_qi (post : Int32 → pm_S → Prop) : Option Value → pm_S → Prop := fun v S => ∃ x, v = some (.int x) ∧ post x S
def pm_qr (post : Option Nat → pm_S → Prop) : Option Value → pm_S → Prop := fun v S => ∃ r, v = some (va_rf r) ∧ post r S
def pm_xv (post : pm_S → Prop) : Instr → List Value → pm_S → Prop := fun i st S => i = .return_ ∧ st = [] ∧ post S
def pm_xi (post : Int32 → pm_S → Prop) : Instr → List Value → pm_S → Prop := fun i st S => i = .ireturn ∧ ∃ x, st = [.int x] ∧ post x S
def pm_xz (post : Int32 → pm_S → Prop) : Instr → List Value → pm_S → Prop := fun i st S => i = .ireturn ∧ ∃ x, st = [.int x] ∧ (x = 0 ∨ x = 1) ∧ post x S
def pm_xr (post : Option Nat → pm_S → Prop) : Instr → List Value → pm_S → Prop := fun i st S => i = .areturn ∧ ∃ r, st = [va_rf r] ∧ post r S
/-- the locals with which a method begins -/
def pm_en : List Value → List Value → Prop
  | [], L => L = List.replicate L.length pm_u
  | v :: av, w :: L => v = w ∧ ((v.category = 1 ∧ pm_en av L) ∨ (v.category = 2 ∧ ∃ L', L = pm_u :: L' ∧ pm_en av L'))
  | _ :: _, [] => False
theorem pm_en_0 {L : List Value} (h : L = List.replicate L.length pm_u) : pm_en [] L := h
theorem pm_en_1 {v : Value} {av L : List Value} (hc : v.category = 1) (h : pm_en av L) : pm_en (v :: av) (v :: L) := ⟨rfl, Or.inl ⟨hc, h⟩⟩
theorem pm_en_2 {v : Value} {av L : List Value} (hc : v.category = 2) (h : pm_en av L) : pm_en (v :: av) (v :: pm_u :: L) := ⟨rfl, Or.inr ⟨hc, L, rfl, h⟩⟩
theorem pm_en_mem : ∀ (av L : List Value), pm_en av L → ∀ (k i : Nat) (v : Value), L[i]? = some v → v ≠ pm_u → (k + i, v) ∈ lv_args k av
  | [], L, h, k, i, v, hi, hv => by
    have h' : L = List.replicate L.length pm_u := h
    rw [h'] at hi
    exact absurd (List.eq_of_mem_replicate (List.mem_of_getElem? hi)) hv
  | a :: av, [], h, k, i, v, hi, hv => h.elim
  | a :: av, w :: L, h, k, i, v, hi, hv => by
    obtain ⟨e, h⟩ := h
    subst e
    unfold lv_args
    cases i with
    | zero =>
      have e : a = v := Option.some.inj hi
      subst e
      exact List.mem_cons_self
    | succ i =>
      rw [List.getElem?_cons_succ] at hi
      refine List.mem_cons_of_mem _ ?_
      rcases h with ⟨hc, h⟩ | ⟨hc, L', e, h⟩
      · rw [if_neg (by omega)]
        have := pm_en_mem av L h (k + 1) i v hi hv
        rwa [show k + 1 + i = k + (i + 1) by omega] at this
      · subst e
        rw [if_pos hc]
        cases i with
        | zero => exact absurd (Option.some.inj hi).symm hv
        | succ i =>
          rw [List.getElem?_cons_succ] at hi
          have := pm_en_mem av L' h (k + 2) i v hi hv
          rwa [show k + 2 + i = k + (i + 1 + 1) by omega] at this
theorem pm_en_len : ∀ (av L : List Value), pm_en av L → (lg_sl av).length ≤ L.length
  | [], L, _ => by simp [lg_sl]
  | a :: av, [], h => h.elim
  | a :: av, w :: L, h => by
    obtain ⟨e, h⟩ := h
    subst e
    rcases h with ⟨hc, h⟩ | ⟨hc, L', e, h⟩
    · have := pm_en_len av L h
      simp only [lg_sl, List.flatMap_cons, if_neg (show ¬ a.category = 2 by omega), List.length_append, List.length_cons, List.length_nil] at this ⊢
      omega
    · subst e
      have := pm_en_len av L' h
      simp only [lg_sl, List.flatMap_cons, if_pos hc, List.length_append, List.length_cons, List.length_nil] at this ⊢
      omega
section PMM
variable {G : pm_G} {l : Launch} {bs : Nat} {y : MethodName} {bytes : ByteArray} {maxL d kc ks : Nat} {av L : List Value} {S : pm_S}
theorem pm_M.mk {ret : Option FieldType} {Q : Option Value → pm_S → Prop} {X : Instr → List Value → pm_S → Prop} {ini : Bool} (hy : plainFor y = true) (hini : ini = true → y.name = "<init>") (hL : L.length = maxL) (hen : pm_en av L)
    (hret : ∀ (p : Program) (e : Env) (R : Room) (s : State) (m : MethodId) (args : Array Value) (below : List Frame) (meth : Method) (c : Code) (i : Instr) (st : List Value) (S' : pm_S) (H : Heap) (locs : List Loc) (pc : Nat) (ls : Array Slot), p.tables.exec = Jvm.exec → c.code = bytes → meth.sig.returnType = ret → meth.locks = false → X i st S' → decode bytes pc = .ok (i, 1) → pm_R G bs S' H → va_S (fun q => bs ≤ q) s.heap H locs → W p l e R s m args below meth c H locs kc ks (MQ below (pm_Qc G bs Q) args s kc ks (fun q => bs ≤ q)) (F0 m pc ls st))
    (hnw : ∀ ik st S', ¬ X (.new ik) st S' ∧ ¬ X (.iload ik) st S') (body : pm_W G l bs y.cls bytes maxL ini d kc ks X 0 L [] S) : pm_M G l bs y bytes maxL ret d kc ks av S Q := by
  refine va_MetF (cc := bytes) (maxL := maxL) (ret := ret) hy rfl ?_
  intro p e s m args below meth c s₁ B hml hv
  obtain ⟨rfl, hbs, hR, hK⟩ := hv
  have hts := atoms_spec (ws := pm_wy y bytes maxL ret) B.pre
  have hl := lv_entry av (n := maxL) (by rw [← hL]; exact pm_en_len av L hen)
  rw [lg_entry_eq]
  refine body p e (pm_rm d kc ks) s m _ below meth c _ ⟨B.exec, B.bytes, hml, findClass_of_methodNamed B.named, fun w hw => hts w (List.mem_cons_of_mem _ hw), hK, hbs, Nat.le_refl _, Nat.le_refl _, fun h => ?_⟩ ?_ s.heap [] 0 0 _ hR va_S.rf ⟨hL, hl.1, hl.2.1, fun q hq => ?_⟩ (by rw [Nat.zero_add]; exact Nat.le_refl _) (by rw [Nat.zero_add]; exact Nat.le_refl _)
  · rw [← hini h]
    exact (name_of_methodNamed B.named B.method).1
  · refine ⟨?_, fun ik st S' H locs cells slots pc ls hq => absurd hq (hnw ik st S').1, fun ik st S' hq => absurd hq (hnw ik st S').2⟩
    intro i st S' H locs cells slots pc ls hq hdg hR' hS' h1 h2
    exact W.widen (k := kc) (n := ks) h1 h2 (hret p e _ s m _ below meth c i st S' H locs pc ls B.exec B.bytes B.returns B.notSynchronized hq hdg hR' hS')
  · obtain ⟨h1, h2⟩ := pm_lv_mem.mp hq
    have := pm_en_mem av L hen 0 q.1 q.2 h1 h2
    rw [Nat.zero_add] at this
    exact hl.2.2 _ this
theorem pm_Mv {post : pm_S → Prop} (ini : Bool) (hy : plainFor y = true) (hini : ini = true → y.name = "<init>") (hL : L.length = maxL) (hen : pm_en av L) (body : pm_W G l bs y.cls bytes maxL ini d kc ks (pm_xv post) 0 L [] S) : pm_M G l bs y bytes maxL none d kc ks av S (pm_qv post) := by
  refine pm_M.mk hy hini hL hen ?_ (fun ik st S' => ⟨fun h => (by cases h.1), fun h => (by cases h.1)⟩) body
  intro p e R s m args below meth c i st S' H locs pc ls hx hb hr hlocks hq hdg hR hS
  obtain ⟨rfl, rfl, hp⟩ := hq
  exact W.vret hx hb hr (fun t ht hW => ⟨⟨none, S', rfl, ⟨rfl, hp⟩, by rw [ht]; exact hR⟩, hS.F ht⟩) hS.2.2 hdg
theorem pm_Mi {post : Int32 → pm_S → Prop} (hy : plainFor y = true) (hL : L.length = maxL) (hen : pm_en av L) (body : pm_W G l bs y.cls bytes maxL false d kc ks (pm_xi post) 0 L [] S) : pm_M G l bs y bytes maxL (some .int) d kc ks av S (pm_qi post) := by
  refine pm_M.mk hy (fun h => by cases h) hL hen ?_ (fun ik st S' => ⟨fun h => (by cases h.1), fun h => (by cases h.1)⟩) body
  intro p e R s m args below meth c i st S' H locs pc ls hx hb hr hlocks hq hdg hR hS
  obtain ⟨rfl, x, rfl, hp⟩ := hq
  exact W.iret hx hb hr (fun t ht hW => ⟨⟨some (.int x), S', rfl, ⟨x, rfl, hp⟩, by rw [ht]; exact hR⟩, hS.F ht⟩) hS.2.2 hdg
theorem pm_Mz {post : Int32 → pm_S → Prop} (hy : plainFor y = true) (hL : L.length = maxL) (hen : pm_en av L) (body : pm_W G l bs y.cls bytes maxL false d kc ks (pm_xz post) 0 L [] S) : pm_M G l bs y bytes maxL (some .boolean) d kc ks av S (pm_qi post) := by
  refine pm_M.mk hy (fun h => by cases h) hL hen ?_ (fun ik st S' => ⟨fun h => (by cases h.1), fun h => (by cases h.1)⟩) body
  intro p e R s m args below meth c i st S' H locs pc ls hx hb hr hlocks hq hdg hR hS
  obtain ⟨rfl, x, rfl, hx01, hp⟩ := hq
  exact W.zret hx hb hr (by rcases hx01 with rfl | rfl <;> rfl) (fun t ht hW => ⟨⟨some (.int x), S', rfl, ⟨x, rfl, hp⟩, by rw [ht]; exact hR⟩, hS.F ht⟩) hS.2.2 hdg
theorem pm_Mr {post : Option Nat → pm_S → Prop} {C : String} (hy : plainFor y = true) (hL : L.length = maxL) (hen : pm_en av L) (body : pm_W G l bs y.cls bytes maxL false d kc ks (pm_xr post) 0 L [] S) : pm_M G l bs y bytes maxL (some (.object C)) d kc ks av S (pm_qr post) := by
  refine pm_M.mk hy (fun h => by cases h) hL hen ?_ (fun ik st S' => ⟨fun h => (by cases h.1), fun h => (by cases h.1)⟩) body
  intro p e R s m args below meth c i st S' H locs pc ls hx hb hr hlocks hq hdg hR hS
  obtain ⟨rfl, r, rfl, hp⟩ := hq
  exact W.aret hx hb hr (Or.inl ⟨_, rfl⟩) (pm_isr_rf r) (fun t ht hW => ⟨⟨some (va_rf r), S', rfl, ⟨r, rfl, hp⟩, by rw [ht]; exact hR⟩, hS.F ht⟩) hS.2.2 hdg
end PMM
/-- what a call needs of a method: its words, and how many arguments it takes (without the receiver) -/
def pm_yb (y : MethodName) (bytes : ByteArray) (maxL : Nat) (ret : Option FieldType) (n : Nat) : Prop :=
  Cond.code y bytes maxL ret ∈ pm_ws ∧ Cond.initialized y.cls ∈ pm_ws ∧ (y.cls ≠ "java/lang/invoke/MethodHandle" ∧ y.cls ≠ "java/lang/invoke/VarHandle") ∧ (parseMethodDescriptor y.desc).map (fun d => d.parameters.length) = some n ∧ maxL ≤ 13
theorem pm_blind {G : pm_G} {bs : Nat} {av : List Value} {S : pm_S} : FrameBlind (pm_Pc G bs av S) := fun a U g mk q => by
  obtain ⟨q0, q1, q2, q3⟩ := q
  exact ⟨q0, q1, q2, pm_K.same (s := U) (U := U.calling g mk a) rfl q3⟩
section PMC
variable {G : pm_G} {l : Launch} {bs : Nat} {own : String} {cc : ByteArray} {nL : Nat} {ini : Bool} {d kc ks : Nat} {Q : Instr → List Value → pm_S → Prop} {pc : Nat} {L rest : List Value} {S : pm_S}
variable {y : MethodName} {bytes : ByteArray} {maxL : Nat} {ret : Option FieldType} {n d' kc1 ks1 kc2 ks2 index : Nat} {Qm : Option Value → pm_S → Prop} {As : List Value} {b : Nat}
theorem pm_gw {y : MethodName} {bytes : ByteArray} {maxL : Nat} {ret : Option FieldType} (h : Cond.code y bytes maxL ret ∈ pm_ws) : GoodIn pm_ws (pm_wy y bytes maxL ret) := by
  intro w hw
  rcases List.mem_cons.mp hw with rfl | hw
  · exact ⟨h, Or.inl rfl⟩
  · exact pm_ws_good pm_ws (fun w h => h) w hw
theorem pm_len {y : MethodName} {n : Nat} (h : (parseMethodDescriptor y.desc).map (fun d => d.parameters.length) = some n) : ∀ sig, parseMethodDescriptor y.desc = some sig → n = sig.parameters.length := fun sig hs => by
  rw [hs] at h
  exact (Option.some.inj h).symm
theorem pm_after {p : Program} {e : Env} {R : Room} {s : State} {m : MethodId} {args a9 : Array Value} {below : List Frame} {meth : Method} {c : Code} {Z : State → Prop} {H : Heap} {locs : List Loc} {cells slots : Nat} {ls : Array Slot} {st0 : List Value}
    (hX : pm_X G bs own cc nL ini d p R s m args meth c) (hE : pm_E G l bs cc Q p e R s m args below meth c Z) (hS : va_S (fun q => bs ≤ q) s.heap H locs) (hL : pm_L L nL ls) (h1 : cells + kc1 + kc2 ≤ R.cells) (h2 : slots + ks1 + ks2 ≤ R.slots)
    (hr : va_Run p l e R s m args below meth c H locs cells slots kc1 ks1 (F0 m pc ls st0) rest (pm_Qc G bs Qm a9) (fun q => bs ≤ q))
    (k : ∀ (v : Option Value) (S' : pm_S), Qm v S' → pm_W G l bs own cc nL ini d kc2 ks2 Q (pc + 3) L (v.toList ++ rest) S') : W p l e R s m args below meth c H locs cells slots Z (F0 m pc ls st0) := by
  intro T hT X
  obtain ⟨v, st₀, t, T', L9, h0, X', hL9, e1, e2, ⟨⟨v', S', hv, hq, hR'⟩, hz, hk⟩, st⟩ := hr T hT X
  cases hv
  rw [h0] at hz hk
  obtain ⟨t2, a1, b1⟩ := k v S' hq p e R s m args below meth c Z hX hE T'.heap (locs ++ L9) (cells + kc1) (slots + ks1) ls (by rw [e1]; exact hR')
    ⟨Nat.le_trans hS.1 (by rw [e1]; exact hz), fun q g1 g2 => by rw [e1, hk q (Nat.lt_of_lt_of_le g1 hS.1) g2]; exact hS.2.1 q g1 g2, fun q hq => by
      rcases List.mem_append.mp hq with h | h
      · exact hS.2.2 q h
      · exact hL9 q h⟩ hL h1 h2 T' rfl X'
  exact ⟨t2, st t2 a1, b1⟩
theorem pm_callV (hM : pm_M G l bs y bytes maxL ret d' kc1 ks1 (.ref b :: As) S Qm) (hy : pm_yb y bytes maxL ret n) (hy2 : Cond.instanceMethod y ∈ pm_ws ∧ Cond.selects y.cls y y ∈ pm_ws) (hl : Cond.methodLink own index y ∈ pm_ws) {c : Nat} {r : vw_C} (hr : vwCl[c]? = some r) (hrc : r.1 = y.cls) (hb : pm_k S b = c + 1) (hn : As.length = n) (hd : d' + 1 ≤ d) (hkc : kc1 + kc2 ≤ kc) (hks : ks1 + ks2 ≤ ks) (hrs : (rest.map fun v => v.category).sum ≤ 8) (hdg : decode cc pc = .ok (.invokevirtual index, 3)) {st0 : List Value} (hst : st0 = As.reverse ++ .ref b :: rest)
    (k : ∀ (v : Option Value) (S' : pm_S), Qm v S' → pm_W G l bs own cc nL ini d kc2 ks2 Q (pc + 3) L (v.toList ++ rest) S') : pm_W G l bs own cc nL ini d kc ks Q pc L st0 S := by
  intro p e R s m args below meth c9 Z hX hE H locs cells slots ls hR hS hL hc9 hs9
  subst hst
  obtain ⟨hx, hbc, hml, hown, hts, hK, hbs, hdf, hdl, hin⟩ := id hX
  obtain ⟨-, -, -, hc8⟩ := pm_cl hr
  obtain ⟨r', h1, cell, q1, q2, q3, q4⟩ := hR.ob hc8 hb
  have e9 : r' = r := Option.some.inj (h1.symm.trans hr)
  subst e9
  obtain ⟨-, hfc, -⟩ := hK.1.1 c _ hr
  obtain ⟨w1, w2, w3, w4, w5⟩ := hy
  refine pm_after (kc1 := kc1) (ks1 := ks1) (kc2 := kc2) (ks2 := ks2) (rest := rest) hX hE hS hL (by omega) (by omega) (va_runV (As := As) (rest := rest) (n := n) (bytes := bytes) (maxL := maxL) (ret := ret) (C := y.cls) (Ts := pm_ws) ⟨hx, hbc, hml, hown, hts⟩ hM ⟨⟨rfl, rfl, by show d' + 1 ≤ _; omega, by show 8 + (maxL + 11) + (32 * d' + 40) ≤ _; omega, pay_in hts (pm_gw w1), List.mem_cons_self, hts _ w1, hts _ w2, w3, pm_len w4, hts _ hl⟩, hts _ hy2.1, hts _ hy2.2⟩ ⟨pm_blind, ⟨cell, q1, by rw [q3]; rfl, by rw [q2, ← hrc]; exact hfc⟩, fun U hU hW => ⟨rfl, by rw [hU]; exact Nat.le_trans hbs hS.1, by rw [hU]; exact hR, hK.warm hW⟩⟩ rfl hn hL.2.1 rfl (lv_room hrs) hdg ⟨by omega, by omega⟩) k
theorem pm_callS (hM : pm_M G l bs y bytes maxL ret d' kc1 ks1 As S Qm) (hy : pm_yb y bytes maxL ret n) (hy2 : Cond.static y ∈ pm_ws) (hl : Cond.methodLink own index y ∈ pm_ws) (hn : As.length = n) (hd : d' + 1 ≤ d) (hkc : kc1 + kc2 ≤ kc) (hks : ks1 + ks2 ≤ ks) (hrs : (rest.map fun v => v.category).sum ≤ 8) (hdg : decode cc pc = .ok (.invokestatic index, 3)) {st0 : List Value} (hst : st0 = As.reverse ++ rest)
    (k : ∀ (v : Option Value) (S' : pm_S), Qm v S' → pm_W G l bs own cc nL ini d kc2 ks2 Q (pc + 3) L (v.toList ++ rest) S') : pm_W G l bs own cc nL ini d kc ks Q pc L st0 S := by
  intro p e R s m args below meth c9 Z hX hE H locs cells slots ls hR hS hL hc9 hs9
  subst hst
  obtain ⟨hx, hbc, hml, hown, hts, hK, hbs, hdf, hdl, hin⟩ := id hX
  obtain ⟨w1, w2, w3, w4, w5⟩ := hy
  refine pm_after (kc1 := kc1) (ks1 := ks1) (kc2 := kc2) (ks2 := ks2) (rest := rest) hX hE hS hL (by omega) (by omega) (va_runS (As := As) (rest := rest) (n := n) (bytes := bytes) (maxL := maxL) (ret := ret) (Ts := pm_ws) ⟨hx, hbc, hml, hown, hts⟩ hM ⟨⟨rfl, rfl, by show d' + 1 ≤ _; omega, by show 8 + (maxL + 11) + (32 * d' + 40) ≤ _; omega, pay_in hts (pm_gw w1), List.mem_cons_self, hts _ w1, hts _ w2, w3, pm_len w4, hts _ hl⟩, hts _ hy2⟩ ⟨pm_blind, fun U hU hW => ⟨rfl, by rw [hU]; exact Nat.le_trans hbs hS.1, by rw [hU]; exact hR, hK.warm hW⟩⟩ rfl hn hL.2.1 rfl (lv_room hrs) hdg ⟨by omega, by omega⟩) k
theorem pm_callI (hM : pm_M G l bs y bytes maxL none d' kc1 ks1 (.ref b :: As) S Qm) (hy : pm_yb y bytes maxL none n) (hy2 : Cond.instanceMethod y ∈ pm_ws) (hyn : y.name = "<init>") (hl : Cond.methodLink own index y ∈ pm_ws ∨ ∃ host, Cond.methodLinkNest own index y host ∈ lw_tbl) (hn : As.length = n) (hd : d' + 1 ≤ d) (hkc : kc1 + kc2 ≤ kc) (hks : ks1 + ks2 ≤ ks) (hrs : (rest.map fun v => v.category).sum ≤ 8) (hdg : decode cc pc = .ok (.invokespecial index, 3)) {st0 : List Value} (hst : st0 = As.reverse ++ .ref b :: rest)
    (k : ∀ (v : Option Value) (S' : pm_S), Qm v S' → pm_W G l bs own cc nL ini d kc2 ks2 Q (pc + 3) L (v.toList ++ rest) S') : pm_W G l bs own cc nL ini d kc ks Q pc L st0 S := by
  intro p e R s m args below meth c9 Z hX hE H locs cells slots ls hR hS hL hc9 hs9
  subst hst
  obtain ⟨hx, hbc, hml, hown, hts, hK, hbs, hdf, hdl, hin⟩ := id hX
  obtain ⟨w1, w2, w3, w4, w5⟩ := hy
  rcases hl with hl | ⟨host, hl⟩
  · exact pm_after (kc1 := kc1) (ks1 := ks1) (kc2 := kc2) (ks2 := ks2) (rest := rest) hX hE hS hL (by omega) (by omega) (va_runI (As := As) (rest := rest) (n := n) (bytes := bytes) (maxL := maxL) (Ts := pm_ws) ⟨hx, hbc, hml, hown, hts⟩ hM ⟨⟨rfl, rfl, by show d' + 1 ≤ _; omega, by show 8 + (maxL + 11) + (32 * d' + 40) ≤ _; omega, pay_in hts (pm_gw w1), List.mem_cons_self, hts _ w1, hts _ w2, w3, pm_len w4, hts _ hl⟩, hyn, hts _ hy2⟩ ⟨pm_blind, fun U hU hW => ⟨rfl, by rw [hU]; exact Nat.le_trans hbs hS.1, by rw [hU]; exact hR, hK.warm hW⟩⟩ rfl hn hL.2.1 rfl (lv_room hrs) hdg ⟨by omega, by omega⟩) k
  · exact pm_after (kc1 := kc1) (ks1 := ks1) (kc2 := kc2) (ks2 := ks2) (rest := rest) hX hE hS hL (by omega) (by omega) (va_runIN (As := As) (rest := rest) (n := n) (bytes := bytes) (maxL := maxL) (host := host) (Ts := pm_ws) ⟨hx, hbc, hml, hown, hts⟩ hM ⟨⟨⟨rfl, rfl, by show d' + 1 ≤ _; omega, by show 8 + (maxL + 11) + (32 * d' + 40) ≤ _; omega, pay_in hts (pm_gw w1), List.mem_cons_self⟩, hts _ w1, hts _ w2, w3, pm_len w4, va_Nw.use rfl (hK.2.1 _ hl rfl)⟩, hyn, hts _ hy2⟩ ⟨pm_blind, fun U hU hW => ⟨rfl, by rw [hU]; exact Nat.le_trans hbs hS.1, by rw [hU]; exact hR, hK.warm hW⟩⟩ rfl hn hL.2.1 rfl (lv_room hrs) hdg ⟨by omega, by omega⟩) k
theorem pm_objInit {a : Nat} (hl : Cond.methodLink own index objectInit ∈ pm_ws) (hi : Cond.instanceMethod objectInit ∈ pm_ws) (hcd : Cond.code objectInit ⟨#[0xb1]⟩ 1 none ∈ pm_ws) (hd : 1 ≤ d) (hrs : (rest.map fun v => v.category).sum ≤ 8) (hdg : decode cc pc = .ok (.invokespecial index, 3)) (k : pm_W G l bs own cc nL ini d kc ks Q (pc + 3) L rest S) : pm_W G l bs own cc nL ini d kc ks Q pc L (.ref a :: rest) S := by
  intro p e R s m args below meth c9 Z hX hE H locs cells slots ls hR hS hL hc9 hs9
  obtain ⟨hx, hbc, hml, hown, hts, hK, hbs, hdf, hdl, hin⟩ := id hX
  exact W.objInit hx hbc hown (hts _ hl) (hts _ hi) (hts _ hcd) rfl (by rw [hml]; exact hL.2.1) rfl hdg (by omega) (by show 2 * 0 + _ + 12 ≤ _; omega) (k p e R s m args below meth c9 Z hX hE H locs cells slots ls hR hS hL hc9 hs9)
/-- System.arraycopy of ints -/
theorem pm_copy {a0 a sp dp n0 : Nat} {isp idp ino : Int32} (hk0 : pm_k S a0 = 9) (hk1 : pm_k S a = 9) (h1 : isp = nI sp) (h2 : idp = nI dp) (h3 : ino = nI n0) (h4 : sp + n0 ≤ pm_n S a0) (h5 : dp + n0 ≤ pm_n S a) (h6 : pm_n S a0 < 2 ^ 31) (h7 : pm_n S a < 2 ^ 31)
    (hl : Cond.methodLink own index arraycopyName ∈ pm_ws) (hnat : Cond.native arraycopyName ∈ pm_ws) (hstat : Cond.static arraycopyName ∈ pm_ws) (hini : Cond.initialized "java/lang/System" ∈ pm_ws) (hd : 1 ≤ d) (hrs : (rest.map fun v => v.category).sum ≤ 8) (hdg : decode cc pc = .ok (.invokestatic index, 3))
    (k : pm_W G l bs own cc nL ini d kc ks Q (pc + 3) L rest (pm_sr S a (va_cpy (pm_x S a0) (pm_x S a) sp dp n0))) : pm_W G l bs own cc nL ini d kc ks Q pc L (.int ino :: .int idp :: .ref a :: .int isp :: .ref a0 :: rest) S := by
  intro p e R s m args below meth c9 Z hX hE H locs cells slots ls hR hS hL hc9 hs9
  obtain ⟨hx, hbc, hml, hown, hts, hK, hbs, hdf, hdl, hin⟩ := id hX
  have c1 : isp.toNatClampNeg = sp := by rw [h1]; exact nI_clamp (by omega)
  have c2 : idp.toNatClampNeg = dp := by rw [h2]; exact nI_clamp (by omega)
  have c3 : ino.toNatClampNeg = n0 := by rw [h3]; exact nI_clamp (by omega)
  have t1 : isp.toInt = (sp : Int) := by rw [h1]; exact nI_toInt (by omega)
  have t2 : idp.toInt = (dp : Int) := by rw [h2]; exact nI_toInt (by omega)
  have t3 : ino.toInt = (n0 : Int) := by rw [h3]; exact nI_toInt (by omega)
  have p1 : ¬ isp < 0 := by rw [h1]; exact nI_pos (by omega)
  have p2 : ¬ idp < 0 := by rw [h2]; exact nI_pos (by omega)
  have p3 : ¬ ino < 0 := by rw [h3]; exact nI_pos (by omega)
  have hnf : nativeFrameWords "java/lang/System" "arraycopy" 5 ≤ 40 := by decide +kernel
  have hroom : 2 * 0 + (rest.map fun v => v.category).sum + (nativeFrameWords "java/lang/System" "arraycopy" 5 + 11) ≤ R.locals := by omega
  intro T hT X
  have hc0 := pm_at9 hR hk0
  have hc1 := pm_at9 hR hk1
  obtain ⟨-, k0, hk0', cm0, hkk0⟩ := (hK.1.2 0 _ rfl).1 (pm_n S a0) (fun i => .int (pm_x S a0 i))
  obtain ⟨-, k1, hk1', cm1, hkk1⟩ := (hK.1.2 0 _ rfl).1 (pm_n S a) (fun i => .int (pm_x S a i))
  obtain ⟨vm', X', step⟩ := X.arraycopy hx hown (hts _ hl) (hts _ hnat) (hts _ hstat) (hts _ hini) (src := a0) (dst := a) (srcPos := isp) (destPos := idp) (n := ino) (by rw [hT]; exact hc0) (by rw [hT]; exact hc1)
    (fun _ h => by cases h) (fun _ h => by cases h) (fun h => by cases h) (fun h => by cases h) hk0' hk1' hkk0 hkk1 (by simp [refKind]) p1 p2 p3
    (by rw [t1, t3, arrV_size]; omega) (by rw [t2, t3, arrV_size]; omega)
    (fun vm₁ _ i hi => by
      have e : (arrV (G.2 0) (pm_n S a0) (fun i => .int (pm_x S a0 i))).slots.getD (isp.toNatClampNeg + i) .null = .int (pm_x S a0 (sp + i)) := by
        rw [Array.getD_eq_getD_getElem?, c1, arrV_read _ _ (by rw [c3] at hi; omega)]
        rfl
      refine ⟨?_, ?_⟩
      · rw [e]
        rfl
      · rw [e]
        exact trivial)
    (g := F0 m pc ls (.int ino :: .int idp :: .ref a :: .int isp :: .ref a0 :: rest)) rfl (by rw [hml]; exact hL.2.1) (rest := rest) rfl (by rw [hbc]; exact hdg) (by omega) hroom
  have e1 : copied (arrV (G.2 0) (pm_n S a0) (fun i => .int (pm_x S a0 i))) (arrV (G.2 0) (pm_n S a) (fun i => .int (pm_x S a i))) isp idp ino = arrV (G.2 0) (pm_n S a) (fun i => .int (va_cpy (pm_x S a0) (pm_x S a) sp dp n0 i)) := by
    have := va_copied (fun z => Value.int z) (G.2 0) (G.2 0) (n0 := pm_n S a0) (n1 := pm_n S a) (sp := isp.toNatClampNeg) (dp := idp.toNatClampNeg) (n := ino.toNatClampNeg) (pm_x S a0) (pm_x S a) (by rw [c1, c3]; exact h4)
    rw [c1, c2, c3] at this
    unfold copied
    rw [c1, c2, c3]
    exact this
  rw [e1] at X' step
  have hlt : a < H.size := (Array.getElem?_eq_some_iff.mp hc1).1
  generalize hcell : arrV (G.2 0) (pm_n S a) (fun i => .int (va_cpy (pm_x S a0) (pm_x S a) sp dp n0 i)) = cell9 at X' step
  have hheap : ((T.setVm vm').setCell a cell9).heap = H.setIfInBounds a cell9 := by rw [← hT]; rfl
  have oq : ∀ q : Nat, q ≠ a → (H.setIfInBounds a cell9)[q]? = H[q]? := fun q hq => by simp [Array.getElem?_setIfInBounds, Ne.symm hq]
  have oa : (H.setIfInBounds a cell9)[a]? = some cell9 := by simp [Array.getElem?_setIfInBounds, hlt]
  have oz : (H.setIfInBounds a cell9).size = H.size := by simp
  obtain ⟨t, a1, b1⟩ := k p e R s m args below meth c9 Z hX hE (H.setIfInBounds a cell9) _ cells slots ls (hR.put (pm_off_sr S a _) rfl oz oq (fun _ => pm_to9 hk1 (by rw [oa, ← hcell, pm_n_sr]; congr 2; funext i; rw [pm_x_sr, if_pos rfl]))) ⟨by rw [oz]; exact hS.1, fun q g1 g2 => by
      rw [oq q (fun e => g2 (by rw [e]; exact (hR a (by omega)).1))]
      exact hS.2.1 q g1 g2, fun q hq => by
      rcases List.mem_append.mp hq with h | h
      · exact hS.2.2 q h
      · obtain ⟨z, -, hz⟩ := List.mem_map.mp h
        rw [← hz]
        exact (hR a (by omega)).1⟩ hL hc9 hs9 _ hheap X'
  exact ⟨t, step t a1, b1⟩
end PMC
