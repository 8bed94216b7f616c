/-! a method that refuses, and the law's small methods that catch it -/
theorem pm_u1 {α : Type} {code : ByteArray} {pc : Nat} (hp : ¬ pc < code.size) (f : Nat → Decoder α) : Reader.runAt (Reader.u1 >>= f) code pc = .error (HasTruncated.truncated pc) := by
  have h : Reader.runAt (ε := DecodeError) Reader.u1 code pc = .error (HasTruncated.truncated pc) := by
    show StateT.run (ReaderT.run (if h : pc < code.size then _ else throw (HasTruncated.truncated pc) : Reader DecodeError Nat) code) pc = _
    rw [dif_neg hp]
    rfl
  show (Except.bind (Reader.runAt (ε := DecodeError) Reader.u1 code pc) _) = _
  rw [h]
  rfl
theorem pm_dlt {code : ByteArray} {pc : Nat} {r : Instr × Nat} (h : decode code pc = .ok r) : pc < code.size := by
  by_cases hp : pc < code.size
  · exact hp
  · exfalso
    unfold decode Decoder.instr at h
    rw [pm_u1 hp] at h
    cases h
abbrev pm_IA : String := "java/lang/IllegalArgumentException"
abbrev pm_IS : String := "java/lang/IllegalStateException"
abbrev pm_nm : List String := ["java/lang/RuntimeException", "java/lang/Exception"]
/-- what a throw needs of the heap: Throwable's two statics -/
def pm_Zs (bs : Nat) (U : State) : Prop := vx_Zq Bundle.tN "UNASSIGNED_STACK" Bundle.steD (fun q => bs ≤ q) U U.heap ∧ vx_Zq Bundle.tN "SUPPRESSED_SENTINEL" Bundle.listD (fun q => bs ≤ q) U U.heap ∧ va_Nc pm_IS pm_IA U
theorem pm_Zs.to {bs : Nat} {s U : State} {H : Heap} {locs : List Loc} (h : pm_Zs bs s) (hS : va_S (fun q => bs ≤ q) s.heap H locs) (hU : U.heap = H) (hW : s.vm.Alike U.vm) : pm_Zs bs U := by
  obtain ⟨h1, h2, h3⟩ := h
  refine ⟨?_, ?_, va_Nc.moved hW h3⟩
  · rw [hU]
    exact vx_Zq.moved hW (h1.kept (fun a g1 g2 => hS.2.1 a g1 g2))
  · rw [hU]
    exact vx_Zq.moved hW (h2.kept (fun a g1 g2 => hS.2.1 a g1 g2))
def pm_PcT (G : pm_G) (bs : Nat) (av : List Value) (S : pm_S) : Array Value → State → Prop := va_Pc av (fun U => bs ≤ U.heap.size ∧ pm_R G bs S U.heap ∧ pm_K G U ∧ pm_Zs bs U)
theorem pm_blindT {G : pm_G} {bs : Nat} {av : List Value} {S : pm_S} : FrameBlind (pm_PcT G bs av S) := fun a U g mk q => by
  obtain ⟨q0, q1, q2, q3, q4⟩ := q
  exact ⟨q0, q1, q2, pm_K.same (s := U) (U := U.calling g mk a) rfl q3, q4.to (U := U.calling g mk a) (H := U.heap) (locs := []) va_S.rf rfl (Vm.Alike.refl _)⟩
/-- method y, called with av on the memory S, throws E and leaves the memory -/
def pm_T (G : pm_G) (l : Launch) (bs : Nat) (y : MethodName) (bytes : ByteArray) (maxL : Nat) (ret : Option FieldType) (d : Nat) (E : String) (av : List Value) (S : pm_S) : Prop :=
  vx_Met l y (pm_wy y bytes maxL ret) (pm_rm d 1 6) (pm_PcT G bs av S) (fun _ _ _ _ => False) (fun E' st t => E' = E ∧ pm_R G bs S t.heap ∧ va_F (fun q => bs ≤ q) st t) 1 6 (fun q => bs ≤ q)
def pm_xt (ik : Nat) (S : pm_S) : Instr → List Value → pm_S → Prop := fun i st S' => i = .new ik ∧ st = [] ∧ S' = S
theorem pm_R.more {G : pm_G} {bs : Nat} {S : pm_S} {H H1 : Heap} (h : pm_R G bs S H) (hz : H.size ≤ H1.size) (hq : ∀ q : Nat, q < H.size → H1[q]? = H[q]?) : pm_R G bs S H1 := by
  intro a ha
  obtain ⟨h1, h2, h3⟩ := h a ha
  exact ⟨h1, Nat.lt_of_lt_of_le h2 hz, pm_at_off (S := S) (S' := S) (a := a + 1) (H := H) (fun b _ => ⟨rfl, rfl, fun _ => rfl, fun _ => rfl, fun _ => rfl, fun _ => rfl, fun _ => rfl, fun _ => rfl⟩) (by omega) (hq a h2) h3⟩
/-- the words of a throw, out of the tables -/
def pm_tw (own : String) (ik ic : Nat) (E : String) : Prop :=
  Bundle.fit E = true ∧ Cond.classLink own ik E ∈ pm_ws ∧ Cond.initialized E ∈ pm_ws ∧ (∀ w ∈ (vx_at0 own ic E pm_nm).filter goodWord, w ∈ lw_tbl) ∧ (∀ w ∈ (vx_at0 own ic E pm_nm).filter (fun w => !goodWord w), w ∈ lw_tbl ∧ pm_nest w = true) ∧ ∀ w ∈ Cond.classLink own ik E :: Cond.initialized E :: vx_at0 own ic E pm_nm, vx_ot w = true
theorem pm_T.mk {G : pm_G} {l : Launch} {bs : Nat} {y : MethodName} {bytes : ByteArray} {maxL d : Nat} {av L : List Value} {S : pm_S} {ret : Option FieldType} {ik ic : Nat} {E : String} (hl : l.stackTraces = false) (hy : plainName y.cls = true) (hL : L.length = maxL) (hen : pm_en av L) (htw : pm_tw y.cls ik ic E) (hd : 6 ≤ d)
    (hdec : ∀ pc, pc < bytes.size → decode bytes pc ≠ .ok (.new ik, 1)) (hdec3 : ∀ pc, pc < bytes.size → decode bytes pc = .ok (.new ik, 3) → decode bytes (pc + 3) = .ok (.dup, 1)) (hdec4 : ∀ pc, pc < bytes.size → decode bytes pc = .ok (.new ik, 3) → decode bytes (pc + 4) = .ok (.invokespecial ic, 3)) (hdec7 : ∀ pc, pc < bytes.size → decode bytes pc = .ok (.new ik, 3) → decode bytes (pc + 7) = .ok (.athrow, 1))
    (body : pm_W G l bs y.cls bytes maxL false d 1 6 (pm_xt ik S) 0 L [] S) : pm_T G l bs y bytes maxL ret d E av S := by
  obtain ⟨hfit, hk, hi, h1, h2, hg⟩ := htw
  refine vx_ofW (cc := bytes) (maxL := maxL) (ret := ret) hy rfl ?_
  intro p e s m args below meth c s₁ B hml hno hv
  obtain ⟨rfl, hbs, hR, hK, hZ⟩ := hv
  have hts := atoms_spec (ws := pm_wy y bytes maxL ret) B.pre
  have hps : ∀ w ∈ pm_ws, w.before av.toArray s = true := fun w hw => hts w (List.mem_cons_of_mem _ hw)
  have hl9 := lv_entry av (n := maxL) (by rw [← hL]; exact pm_en_len av L hen)
  rw [lg_entry_eq]
  refine body p e (pm_rm d 1 6) s m _ below meth c _ ⟨B.exec, B.bytes, hml, findClass_of_methodNamed B.named, hps, hK, hbs, Nat.le_refl _, Nat.le_refl _, fun h => by cases h⟩ ⟨?_, ?_, ?_⟩ s.heap [] 0 0 _ hR va_S.rf ⟨hL, hl9.1, hl9.2.1, fun q hq => ?_⟩ (by rw [Nat.zero_add]; exact Nat.le_refl _) (by rw [Nat.zero_add]; exact Nat.le_refl _)
  · intro i st S' H locs cells slots pc ls hq hdg
    obtain ⟨rfl, -⟩ := hq
    exact absurd hdg (hdec pc (pm_dlt hdg))
  · intro ik' st S' H locs cells slots pc ls hq hdg hR' hS' hsz h1' h2'
    obtain ⟨e9, rfl, rfl⟩ := hq
    cases e9
    have d3 := hdec3 pc (pm_dlt hdg) hdg
    have d4 := hdec4 pc (pm_dlt hdg) hdg
    have d7 := hdec7 pc (pm_dlt hdg) hdg
    refine vx_throw0 (names := pm_nm) (ik := ik) (ic := ic) (own := y.cls) (cls := E) (A := fun q => bs ≤ q) B.exec B.bytes hl (findClass_of_methodNamed B.named) hfit (by decide +kernel) (hps _ hk) (hps _ hi) (fun w hw => ?_) hg hZ.1 hZ.2.1 hS' hsz hdg d3 d4 d7 (fun x hx => (hno x hx).elim) (by show 2 + 3 < d; omega) (by show 0 + (13 * (2 + 1) + 42) ≤ 32 * d + 40; omega) h1' h2' B.notSynchronized (fun t _ hz hk => ⟨rfl, hR'.more hz hk, Nat.le_trans hS'.1 hz, fun q g1 g2 => ?_⟩) hS'.2.2 h1' h2'
    · by_cases g : goodWord w = true
      · exact hps w (pm_ws_of (h1 w (List.mem_filter.mpr ⟨hw, g⟩)) g)
      · obtain ⟨g1, g2⟩ := h2 w (List.mem_filter.mpr ⟨hw, by cases hgw : goodWord w; (· rfl); exact absurd hgw g⟩)
        exact va_Nw.use (pm_nest_on g2) (hK.2.1 w g1 g2)
    · rw [hk q (Nat.lt_of_lt_of_le g1 hS'.1)]
      exact hS'.2.1 q g1 g2
  · intro k st S' hq
    cases hq.1
  · obtain ⟨h1, h2⟩ := pm_lv_mem.mp hq
    have := pm_en_mem av L hen 0 q.1 q.2 h1 h2
    rw [Nat.zero_add] at this
    exact hl9.2.2 _ this
theorem pm_tbl {c : Code} {hh : List (Nat × Nat × Nat × Nat)} (h : c.exceptionTable.toList.map (fun h => (h.startPc, h.endPc, h.handlerPc, h.catchType)) = hh) : c.exceptionTable.toList = hh.map (fun q => (⟨q.1, q.2.1, q.2.2.1, q.2.2.2⟩ : ExceptionTableEntry)) := by
  rw [← h, List.map_map]
  exact (List.map_id _).symm
section PMX
variable {G : pm_G} {l : Launch} {bs : Nat} {own : String} {cc : ByteArray} {nL : Nat} {ini : Bool} {d kc ks : Nat} {Q : Instr → List Value → pm_S → Prop} {pc : Nat} {L rest : List Value} {S : pm_S}
variable {y : MethodName} {bytes : ByteArray} {maxL : Nat} {ret : Option FieldType} {n d' kc1 ks1 kc2 ks2 index : Nat} {Qm : Option Value → pm_S → Prop} {As : List Value} {b : Nat}
/-- a call that throws, up to the catching -/
theorem pm_thrown {E : String} {k : Nat} {st9 : List Value} {S9 : pm_S} (hT : Q (.iload k) st9 S9) (hM : pm_T G l bs y bytes maxL ret d' E (.ref b :: As) S) (hy : pm_yb y bytes maxL ret n) (hy2 : Cond.instanceMethod y ∈ pm_ws ∧ Cond.selects y.cls y y ∈ pm_ws) (hl : Cond.methodLink own index y ∈ pm_ws) {c : Nat} {r : vw_C} (hr : vwCl[c]? = some r) (hrc : r.1 = y.cls) (hb : pm_k S b = c + 1) (hn : As.length = n) (hd : d' + 1 ≤ d) (hkc : 1 ≤ kc) (hks : 6 ≤ ks) (hrs : (rest.map fun v => v.category).sum ≤ 8) (hdg : decode cc pc = .ok (.invokevirtual index, 3)) {st0 : List Value} (hst : st0 = As.reverse ++ .ref b :: rest)
    (kk : ∀ (p : Program) (e : Env) (R : Room) (s : State) (m : MethodId) (args : Array Value) (below : List Frame) (meth : Method) (c : Code) (Z : State → Prop), pm_X G bs own cc nL ini d p R s m args meth c → pm_E G l bs cc Q p e R s m args below meth c Z →
      ∀ (H : Heap) (locs : List Loc) (cells slots : Nat) (ls : Array Slot) (q : Nat) (ce : Cell), pm_R G bs S H → va_S (fun q => bs ≤ q) s.heap H locs → pm_L L nL ls → cells + (kc - 1) ≤ R.cells → slots + (ks - 6) ≤ R.slots → H[q]? = some ce → ce.vm = .none → s.vm.findClass E = some ce.cls → vx_W p l e R s m args below meth c H locs cells slots Z (F0 m pc ls rest) q) : pm_W G l bs own cc nL ini d kc ks Q pc L st0 S := by
  intro p e R s m args below meth c9 Z hX hE H locs cells slots ls hR hS hL hc9 hs9
  subst hst
  obtain ⟨hx, hbc, hml, hown, hts, hK, hbs, hdf, hdl, hin⟩ := id hX
  obtain ⟨hlt, hU, hN, hnc, htb, -⟩ := hE.2.2 k st9 S9 hT
  obtain ⟨-, -, -, hc8⟩ := pm_cl hr
  obtain ⟨r', h1, cell, q1, q2, q3, q4⟩ := hR.ob hc8 hb
  have e9 : r' = r := Option.some.inj (h1.symm.trans hr)
  subst e9
  obtain ⟨-, hfc, -⟩ := hK.1.1 c _ hr
  obtain ⟨w1, w2, w3, w4, w5⟩ := hy
  have hM9 : vx_Met l y (pm_wy y bytes maxL ret) (pm_rm d' 1 6) (pm_PcT G bs (.ref b :: As) S) (fun _ _ _ _ => False) (fun E' st t => E' = E ∧ pm_R G bs S t.heap ∧ va_F (fun q => bs ≤ q) st t) 1 6 (fun q => bs ≤ q) := hM
  have hrun := vx_runV (p := p) (e := e) (R := R) (s := s) (m := m) (args := args) (below := below) (meth := meth) (c := c9) (rm := pm_rm d' 1 6) (As := As) (rest := rest) (n := n) (bytes := bytes) (maxL := maxL) (ret := ret) (C := y.cls) (Ts := pm_ws) (H := H) (locs := locs) (cells := cells) (slots := slots) (g := F0 m pc ls (As.reverse ++ .ref b :: rest)) ⟨hx, hbc, hml, hown, hts⟩ hM9 ⟨⟨rfl, rfl, by show d' + 1 ≤ _; omega, by show 8 + (maxL + 11) + (32 * d' + 40) ≤ _; omega, pay_in hts (pm_gw w1), List.mem_cons_self, hts _ w1, hts _ w2, w3, pm_len w4, hts _ hl⟩, hts _ hy2.1, hts _ hy2.2⟩ ⟨pm_blindT, ⟨cell, q1, by rw [q3]; rfl, by rw [q2, ← hrc]; exact hfc⟩, fun U hU9 hW => ⟨rfl, by rw [hU9]; exact Nat.le_trans hbs hS.1, by rw [hU9]; exact hR, hK.warm hW, pm_Zs.to ⟨hU, hN, hnc⟩ hS hU9 hW.alike⟩⟩ rfl hn hL.2.1 rfl (lv_room hrs) hdg ⟨by omega, by omega⟩
  intro T hT9 X
  rcases hrun T hT9 X with ⟨v, st₀, t, T', L9, h0, X', hL9, e1, e2, hq, st⟩ | ⟨q, st₀, t, T', L9, E9, ce, h0, X', hL9, e1, e2, ⟨hEc, hR', hz, hk⟩, hce, hcv, hcl, st⟩
  · exact hq.elim
  · subst hEc
    rw [h0] at hz hk
    obtain ⟨t2, a1, b1⟩ := kk p e R s m args below meth c9 Z hX hE T'.heap (locs ++ L9) (cells + 1) (slots + 6) ls q ce (by rw [e1]; exact hR') ⟨Nat.le_trans hS.1 (by rw [e1]; exact hz), fun q g1 g2 => by rw [e1, hk q (Nat.lt_of_lt_of_le g1 hS.1) g2]; exact hS.2.1 q g1 g2, fun q hq => by
      rcases List.mem_append.mp hq with h | h
      · exact hS.2.2 q h
      · exact hL9 q h⟩ hL (by omega) (by omega) (by rw [e1]; exact hce) hcv hcl T' rfl X'
    exact ⟨t2, st.trans a1, b1⟩
theorem pm_callT1 {k pe ph ct : Nat} {tl : List (Nat × Nat × Nat × Nat)} {st9 : List Value} {S9 : pm_S} (hT : Q (.iload k) st9 S9) (hk0 : k ≠ 0) (htb : pm_tb k = (0, pe, ph, ct) :: tl) (hpe : pc < pe) (hct : ct ≠ 0) (hcl : Cond.classLink own ct pm_IA ∈ pm_ws) (hca : Cond.castable pm_IA pm_IA ∈ lw_tbl) (hM : pm_T G l bs y bytes maxL ret d' pm_IA (.ref b :: As) S) (hy : pm_yb y bytes maxL ret n) (hy2 : Cond.instanceMethod y ∈ pm_ws ∧ Cond.selects y.cls y y ∈ pm_ws) (hl : Cond.methodLink own index y ∈ pm_ws) {c : Nat} {r : vw_C} (hr : vwCl[c]? = some r) (hrc : r.1 = y.cls) (hb : pm_k S b = c + 1) (hn : As.length = n) (hd : d' + 1 ≤ d) (hkc : 1 ≤ kc) (hks : 6 ≤ ks) (hrs : (rest.map fun v => v.category).sum ≤ 8) (hdg : decode cc pc = .ok (.invokevirtual index, 3)) {st0 : List Value} (hst : st0 = As.reverse ++ .ref b :: rest)
    (kk : ∀ q : Nat, pm_W G l bs own cc nL ini d (kc - 1) (ks - 6) Q ph L [.ref q] S) : pm_W G l bs own cc nL ini d kc ks Q pc L st0 S := by
  refine pm_thrown hT hM hy hy2 hl hr hrc hb hn hd hkc hks hrs hdg hst ?_
  intro p e R s m args below meth c9 Z hX hE H locs cells slots ls q ce hR hS hL h1 h2 hce hcv hce2
  have hc := pm_tbl ((hE.2.2 k st9 S9 hT).2.2.2.2.1 hk0)
  rw [htb] at hc
  exact vx_catch (E := pm_IA) (name := pm_IA) hX.2.2.2.1 [] _ _ hc (fun z hz => by cases hz) (by simp [covers, hpe]) hct (hX.2.2.2.2.1 _ hcl) (va_Nw.use rfl (hX.2.2.2.2.2.1.2.1 _ hca rfl)) hce hcv hce2 (kk q p e R s m args below meth c9 Z hX hE H locs cells slots ls hR hS hL h1 h2)
theorem pm_callT2 {k pe ph ct pe1 ph1 ct1 : Nat} {tl : List (Nat × Nat × Nat × Nat)} {st9 : List Value} {S9 : pm_S} (hT : Q (.iload k) st9 S9) (hk0 : k ≠ 0) (htb : pm_tb k = (0, pe1, ph1, ct1) :: (0, pe, ph, ct) :: tl) (hpe : pc < pe) (hct : ct ≠ 0) (hct1 : ct1 ≠ 0) (hcl1 : Cond.classLink own ct1 pm_IA ∈ pm_ws) (hcl : Cond.classLink own ct pm_IS ∈ pm_ws) (hca : Cond.castable pm_IS pm_IS ∈ lw_tbl) (hM : pm_T G l bs y bytes maxL ret d' pm_IS (.ref b :: As) S) (hy : pm_yb y bytes maxL ret n) (hy2 : Cond.instanceMethod y ∈ pm_ws ∧ Cond.selects y.cls y y ∈ pm_ws) (hl : Cond.methodLink own index y ∈ pm_ws) {c : Nat} {r : vw_C} (hr : vwCl[c]? = some r) (hrc : r.1 = y.cls) (hb : pm_k S b = c + 1) (hn : As.length = n) (hd : d' + 1 ≤ d) (hkc : 1 ≤ kc) (hks : 6 ≤ ks) (hrs : (rest.map fun v => v.category).sum ≤ 8) (hdg : decode cc pc = .ok (.invokevirtual index, 3)) {st0 : List Value} (hst : st0 = As.reverse ++ .ref b :: rest)
    (kk : ∀ q : Nat, pm_W G l bs own cc nL ini d (kc - 1) (ks - 6) Q ph L [.ref q] S) : pm_W G l bs own cc nL ini d kc ks Q pc L st0 S := by
  refine pm_thrown hT hM hy hy2 hl hr hrc hb hn hd hkc hks hrs hdg hst ?_
  intro p e R s m args below meth c9 Z hX hE H locs cells slots ls q ce hR hS hL h1 h2 hce hcv hce2
  have hx9 := hE.2.2 k st9 S9 hT
  have hc := pm_tbl (hx9.2.2.2.2.1 hk0)
  rw [htb] at hc
  exact vx_catch (E := pm_IS) (name := pm_IS) hX.2.2.2.1 [⟨0, pe1, ph1, ct1⟩] _ _ hc (fun z hz => by
    rcases List.mem_cons.mp hz with rfl | hz
    · exact Or.inr ⟨hct1, pm_IA, hX.2.2.2.2.1 _ hcl1, hx9.2.2.2.1⟩
    · cases hz) (by simp [covers, hpe]) hct (hX.2.2.2.2.1 _ hcl) (va_Nw.use rfl (hX.2.2.2.2.2.1.2.1 _ hca rfl)) hce hcv hce2 (kk q p e R s m args below meth c9 Z hX hE H locs cells slots ls hR hS hL h1 h2)
/-- the script's length, a number of the script -/
theorem pm_scrl {k : Nat} {S9 : pm_S} (hT : Q (.iload k) [.ref b] S9) (hdg : decode cc pc = .ok (.arraylength, 1)) (kk : pm_W G l bs own cc nL ini d kc ks Q (pc + 1) L (.int (Int32.ofNat (pm_n S9 b)) :: rest) S) : pm_W G l bs own cc nL ini d kc ks Q pc L (.ref b :: rest) S := by
  intro p e R s m args below meth c9 Z hX hE H locs cells slots ls hR hS hL h1 h2
  obtain ⟨hb, hx⟩ := (hE.2.2 k _ S9 hT).2.2.2.2.2 b rfl
  exact va_slen (A := fun q => bs ≤ q) (H0 := s.heap) hX.1 hX.2.1 hx (Nat.lt_of_lt_of_le hb hX.2.2.2.2.2.2.1) (by omega) hS hdg (kk p e R s m args below meth c9 Z hX hE H locs cells slots ls hR hS hL h1 h2)
theorem pm_scri {k j : Nat} {i : Int32} {S9 : pm_S} (hT : Q (.iload k) [.ref b] S9) (hi : i = nI j) (hj : j < pm_n S9 b) (h31 : pm_n S9 b < 2 ^ 31) (hdg : decode cc pc = .ok (.iaload, 1)) (kk : pm_W G l bs own cc nL ini d kc ks Q (pc + 1) L (.int (pm_x S9 b j) :: rest) S) : pm_W G l bs own cc nL ini d kc ks Q pc L (.int i :: .ref b :: rest) S := by
  intro p e R s m args below meth c9 Z hX hE H locs cells slots ls hR hS hL h1 h2
  obtain ⟨hb, hx⟩ := (hE.2.2 k _ S9 hT).2.2.2.2.2 b rfl
  have hc : i.toNatClampNeg = j := by rw [hi]; exact nI_clamp (by omega)
  refine va_sld (A := fun q => bs ≤ q) (H0 := s.heap) hX.1 hX.2.1 hx (Nat.lt_of_lt_of_le hb hX.2.2.2.2.2.2.1) (by omega) hS (fun h => ?_) hdg (by rw [hc]; exact kk p e R s m args below meth c9 Z hX hE H locs cells slots ls hR hS hL h1 h2)
  rcases h with h | h
  · rw [hi] at h; exact nI_pos (by omega) h
  · rw [hc] at h; omega
/-! the law's small methods -/
def pm_wyL (y : MethodName) (bytes : ByteArray) (maxL : Nat) (hh : List (Nat × Nat × Nat × Nat)) : List Cond := .codeWith y bytes maxL (some .int) hh :: pm_ws
def pm_ML (G : pm_G) (l : Launch) (bs : Nat) (y : MethodName) (bytes : ByteArray) (maxL k d kc ks : Nat) (av : List Value) (S : pm_S) (post : Int32 → pm_S → Prop) : Prop :=
  Met l y (pm_wyL y bytes maxL (pm_tb k)) (pm_rm d kc ks) (pm_PcT G bs av S) (pm_Qc G bs (pm_qi post)) kc ks (fun q => bs ≤ q)
def pm_xl (k : Nat) (post : Int32 → pm_S → Prop) : Instr → List Value → pm_S → Prop := fun i st S => (i = .ireturn ∧ ∃ x, st = [.int x] ∧ post x S) ∨ (i = .iload k ∧ st = [])
theorem pm_lret {k : Nat} {x : Int32} {post : Int32 → pm_S → Prop} (hdg : decode cc pc = .ok (.ireturn, 1)) (h : post x S) : pm_W G l bs own cc nL ini d kc ks (pm_xl k post) pc L [.int x] S := pm_exit hdg (Or.inl ⟨rfl, x, rfl, h⟩)
theorem pm_ML.mk {k : Nat} {post : Int32 → pm_S → Prop} {av : List Value} (hl : l.stackTraces = false) (hy : plainName y.cls = true) (hL : L.length = maxL) (hen : pm_en av L) (hk0 : k ≠ 0) (hno : ∀ pc, pc < bytes.size → decode bytes pc ≠ .ok (.iload k, 1)) (body : pm_W G l bs y.cls bytes maxL false d kc ks (pm_xl k post) 0 L [] S) : pm_ML G l bs y bytes maxL k d kc ks av S post := by
  unfold pm_ML Met
  refine MetFree.of_bodyS (code := bytes) (maxLocals := maxL) (ret := some .int) hy ?_ ?_
  · intro args s m h hn
    obtain ⟨m9, meth, c, hn9, h1, h2, h3, h4, -, h5, h6, -⟩ := Cond.codeWith_spec (atoms_spec (ws := pm_wyL y bytes maxL (pm_tb k)) h _ List.mem_cons_self)
    cases hn.symm.trans hn9
    exact ⟨meth, c, h1, h2, h3, h4, h5, h6⟩
  · intro p e s m args below meth c s₁ B hml hv _
    have hh0 : s₁.heap = s.heap := by rw [B.state]; rfl
    obtain ⟨rfl, hbs, hR, hK, hZ⟩ := hv
    have hts := atoms_spec (ws := pm_wyL y bytes maxL (pm_tb k)) B.pre
    have hl9 := lv_entry av (n := maxL) (by rw [← hL]; exact pm_en_len av L hen)
    obtain ⟨m9, meth9, c9, hn9, hm9, hc9, -, -, htb, -⟩ := Cond.codeWith_spec (hts _ List.mem_cons_self)
    cases Option.some.inj (hn9.symm.trans B.named)
    cases Option.some.inj (hm9.symm.trans B.method)
    cases Option.some.inj (hc9.symm.trans (Stand.of_body B).code)
    have K : W p l e (pm_rm d kc ks) s m av.toArray below meth c s.heap [] 0 0 (MQ below (pm_Qc G bs (pm_qi post)) av.toArray s kc ks (fun q => bs ≤ q)) (entryFrame m av.toArray maxL) := by
      rw [lg_entry_eq]
      refine body p e (pm_rm d kc ks) s m _ below meth c _ ⟨B.exec, B.bytes, hml, findClass_of_methodNamed B.named, fun w hw => hts w (List.mem_cons_of_mem _ hw), hK, hbs, Nat.le_refl _, Nat.le_refl _, fun h => by cases h⟩ ⟨?_, ?_, ?_⟩ s.heap [] 0 0 _ hR va_S.rf ⟨hL, hl9.1, hl9.2.1, fun q hq => ?_⟩ (by rw [Nat.zero_add]; exact Nat.le_refl _) (by rw [Nat.zero_add]; exact Nat.le_refl _)
      · intro i st S' H locs cells slots pc ls hq hdg hR' hS' h1 h2
        rcases hq with ⟨rfl, x, rfl, hp⟩ | ⟨rfl, -⟩
        · exact W.widen (k := kc) (n := ks) h1 h2 (W.iret B.exec B.bytes B.returns (fun t ht hW => ⟨⟨some (.int x), S', rfl, ⟨x, rfl, hp⟩, by rw [ht]; exact hR'⟩, hS'.F ht⟩) hS'.2.2 hdg)
        · exact absurd hdg (hno pc (pm_dlt hdg))
      · intro ik st S' H locs cells slots pc ls hq
        rcases hq with ⟨h, -⟩ | ⟨h, -⟩ <;> cases h
      · intro k9 st S' hq
        rcases hq with ⟨h, -⟩ | ⟨h, rfl⟩
        · cases h
        · cases h
          exact ⟨hl, hZ.1, hZ.2.1, hZ.2.2, fun _ => htb, fun b h => by cases h⟩
      · obtain ⟨h1, h2⟩ := pm_lv_mem.mp hq
        have := pm_en_mem av L hen 0 q.1 q.2 h1 h2
        rw [Nat.zero_add] at this
        exact hl9.2.2 _ this
    obtain ⟨t, a1, o, b1, b2, b3⟩ := K s₁ hh0 (Stand.of_body B)
    exact ⟨t, o, a1, b1, b2, b3⟩
/-- the law calls one of them -/
theorem pm_callL {k k9 : Nat} {st9 : List Value} {S9 : pm_S} {post : Int32 → pm_S → Prop} (hT : Q (.iload k9) st9 S9) (hM : pm_ML G l bs y bytes maxL k d' kc1 ks1 As S post) (hy : Cond.codeWith y bytes maxL (some .int) (pm_tb k) ∈ pm_ws ∧ Cond.initialized y.cls ∈ pm_ws ∧ (y.cls ≠ "java/lang/invoke/MethodHandle" ∧ y.cls ≠ "java/lang/invoke/VarHandle") ∧ (parseMethodDescriptor y.desc).map (fun d => d.parameters.length) = some n ∧ maxL ≤ 13) (hy2 : Cond.static y ∈ pm_ws) (hl : Cond.methodLink own index y ∈ pm_ws) (hdg : decode cc pc = .ok (.invokestatic index, 3)) {st0 : List Value} (hst : st0 = As.reverse ++ rest) (hn : As.length = n) (hd : d' + 1 ≤ d) (hrs : (rest.map fun v => v.category).sum ≤ 8) (hkc : kc1 + kc2 ≤ kc) (hks : ks1 + ks2 ≤ ks)
    (kk : ∀ (x : Int32) (S' : pm_S), post x S' → pm_W G l bs own cc nL ini d kc2 ks2 Q (pc + 3) L (.int x :: rest) S') : pm_W G l bs own cc nL ini d kc ks Q pc L st0 S := by
  intro p e R s m args below meth c9 Z hX hE H locs cells slots ls hR hS hL hc9 hs9
  subst hst
  obtain ⟨hx, hbc, hml, hown, hts, hK, hbs, hdf, hdl, hin⟩ := id hX
  obtain ⟨hlt, hU, hN, hnc, htb, -⟩ := hE.2.2 k9 st9 S9 hT
  obtain ⟨w1, w2, w3, w4, w5⟩ := hy
  have hgw : GoodIn pm_ws (pm_wyL y bytes maxL (pm_tb k)) := by
    intro w hw
    rcases List.mem_cons.mp hw with rfl | hw
    · exact ⟨w1, Or.inl rfl⟩
    · exact pm_ws_good pm_ws (fun w h => h) w hw
  refine pm_after (Qm := pm_qi post) (kc1 := kc1) (ks1 := ks1) (kc2 := kc2) (ks2 := ks2) (rest := rest) hX hE hS hL (by omega) (by omega) (vx_runSW (hh := pm_tb k) (As := As) (rest := rest) (n := n) (bytes := bytes) (maxL := maxL) (ret := some .int) (Ts := pm_ws) ⟨hx, hbc, hml, hown, hts⟩ hM ⟨⟨rfl, rfl, by show d' + 1 ≤ _; omega, by show 8 + (maxL + 11) + (32 * d' + 40) ≤ _; omega, pay_in hts hgw, List.mem_cons_self⟩, hts _ w1, hts _ w2, w3, pm_len w4, hts _ hl, hts _ hy2⟩ ⟨pm_blindT, fun U hU9 hW => ⟨rfl, by rw [hU9]; exact Nat.le_trans hbs hS.1, by rw [hU9]; exact hR, hK.warm hW, pm_Zs.to ⟨hU, hN, hnc⟩ hS hU9 hW.alike⟩⟩ rfl hn hL.2.1 rfl (lv_room hrs) hdg ⟨by omega, by omega⟩) ?_
  rintro v S' ⟨x, rfl, hp⟩
  exact kk x S' hp
end PMX
