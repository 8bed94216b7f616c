/-! rules in the form in which the walks use them -/
section PMT
variable {G : pm_G} {l : Launch} {bs : Nat} {own : String} {cc : ByteArray} {nL : Nat} {ini : Bool} {d kc ks : Nat} {Q : Instr → List Value → pm_S → Prop} {pc : Nat} {L rest : List Value} {S : pm_S}
theorem pm_istn {k9 : Fin 4} {i : Nat} {x : Int32} (hdg : decode cc pc = .ok (.istore_n k9, 1)) (hi : (k9 : Nat) = i) (hn : i < nL) (k : pm_W G l bs own cc nL ini d kc ks Q (pc + 1) (L.set i (.int x)) rest S) (hp : pm_c1 L i := by first | exact trivial | exact pm_c1_s rfl rfl | exact pm_c1_s rfl (pm_rf_cat _) | assumption) : pm_W G l bs own cc nL ini d kc ks Q pc L (.int x :: rest) S := by
  subst hi
  exact pm_istore_n hdg hn k hp
theorem pm_lstn {k9 : Fin 4} {i : Nat} {x : Int64} (hdg : decode cc pc = .ok (.lstore_n k9, 1)) (hi : (k9 : Nat) = i) (hn : i + 1 < nL) (k : pm_W G l bs own cc nL ini d kc ks Q (pc + 1) ((L.set i (.long x)).set (i + 1) pm_u) rest S) (hp : pm_c1 L i := by first | exact trivial | exact pm_c1_s rfl rfl | exact pm_c1_s rfl (pm_rf_cat _) | assumption) : pm_W G l bs own cc nL ini d kc ks Q pc L (.long x :: rest) S := by
  subst hi
  exact pm_lstore_n hdg hn k hp
theorem pm_astn {k9 : Fin 4} {i : Nat} {v : Value} (hdg : decode cc pc = .ok (.astore_n k9, 1)) (hi : (k9 : Nat) = i) (hn : i < nL) (k : pm_W G l bs own cc nL ini d kc ks Q (pc + 1) (L.set i v) rest S) (hr : pm_isr v := by first | exact Or.inr ⟨_, rfl⟩ | exact Or.inl rfl | exact pm_isr_rf _ | assumption) (hp : pm_c1 L i := by first | exact trivial | exact pm_c1_s rfl rfl | exact pm_c1_s rfl (pm_rf_cat _) | assumption) : pm_W G l bs own cc nL ini d kc ks Q pc L (v :: rest) S := by
  subst hi
  exact pm_astore_n hdg hn k hr hp
theorem pm_iret {post : Int32 → pm_S → Prop} {x : Int32} (hdg : decode cc pc = .ok (.ireturn, 1)) (h : post x S) : pm_W G l bs own cc nL ini d kc ks (pm_xi post) pc L [.int x] S := pm_exit hdg ⟨rfl, x, rfl, h⟩
theorem pm_zret {post : Int32 → pm_S → Prop} {x : Int32} (hdg : decode cc pc = .ok (.ireturn, 1)) (hx : x = 0 ∨ x = 1) (h : post x S) : pm_W G l bs own cc nL ini d kc ks (pm_xz post) pc L [.int x] S := pm_exit hdg ⟨rfl, x, rfl, hx, h⟩
theorem pm_vret {post : pm_S → Prop} (hdg : decode cc pc = .ok (.return_, 1)) (h : post S) : pm_W G l bs own cc nL ini d kc ks (pm_xv post) pc L [] S := pm_exit hdg ⟨rfl, rfl, h⟩
theorem pm_aret {post : Option Nat → pm_S → Prop} {a : Nat} (hdg : decode cc pc = .ok (.areturn, 1)) (h : post (some a) S) : pm_W G l bs own cc nL ini d kc ks (pm_xr post) pc L [.ref a] S := pm_exit hdg ⟨rfl, some a, rfl, h⟩
theorem pm_aretn {post : Option Nat → pm_S → Prop} (hdg : decode cc pc = .ok (.areturn, 1)) (h : post none S) : pm_W G l bs own cc nL ini d kc ks (pm_xr post) pc L [.null] S := pm_exit hdg ⟨rfl, none, rfl, h⟩
theorem pm_aretr {post : Option Nat → pm_S → Prop} {r : Option Nat} (hdg : decode cc pc = .ok (.areturn, 1)) (h : post r S) : pm_W G l bs own cc nL ini d kc ks (pm_xr post) pc L [va_rf r] S := pm_exit hdg ⟨rfl, r, rfl, h⟩
variable {y : MethodName} {bytes : ByteArray} {maxL : Nat} {ret : Option FieldType} {n d' kc1 ks1 kc2 ks2 index : Nat} {As : List Value} {b : Nat}
/-- calls of methods that make nothing -/
theorem pm_vi {post : Int32 → pm_S → Prop} (hM : pm_M G l bs y bytes maxL ret d' 0 0 (.ref b :: As) S (pm_qi post)) (hy : pm_yb y bytes maxL ret n) (hy2 : Cond.instanceMethod y ∈ pm_ws ∧ Cond.selects y.cls y y ∈ pm_ws) (hl : Cond.methodLink own index y ∈ pm_ws) {c : Nat} {r : vw_C} (hr : vwCl[c]? = some r) (hrc : r.1 = y.cls) (hb : pm_k S b = c + 1) (hdg : decode cc pc = .ok (.invokevirtual index, 3)) {st0 : List Value} (hst : st0 = As.reverse ++ .ref b :: rest) (hn : As.length = n) (hd : d' + 1 ≤ d) (hrs : (rest.map fun v => v.category).sum ≤ 8)
    (k : ∀ (x : Int32) (S' : pm_S), post x S' → pm_W G l bs own cc nL ini d kc ks Q (pc + 3) L (.int x :: rest) S') : pm_W G l bs own cc nL ini d kc ks Q pc L st0 S :=
  pm_callV hM hy hy2 hl hr hrc hb hn hd (kc2 := kc) (ks2 := ks) (by omega) (by omega) hrs hdg hst (fun v S' h => by obtain ⟨x, rfl, h⟩ := h; exact k x S' h)
theorem pm_vv {post : pm_S → Prop} (hM : pm_M G l bs y bytes maxL ret d' 0 0 (.ref b :: As) S (pm_qv post)) (hy : pm_yb y bytes maxL ret n) (hy2 : Cond.instanceMethod y ∈ pm_ws ∧ Cond.selects y.cls y y ∈ pm_ws) (hl : Cond.methodLink own index y ∈ pm_ws) {c : Nat} {r : vw_C} (hr : vwCl[c]? = some r) (hrc : r.1 = y.cls) (hb : pm_k S b = c + 1) (hdg : decode cc pc = .ok (.invokevirtual index, 3)) {st0 : List Value} (hst : st0 = As.reverse ++ .ref b :: rest) (hn : As.length = n) (hd : d' + 1 ≤ d) (hrs : (rest.map fun v => v.category).sum ≤ 8)
    (k : ∀ (S' : pm_S), post S' → pm_W G l bs own cc nL ini d kc ks Q (pc + 3) L rest S') : pm_W G l bs own cc nL ini d kc ks Q pc L st0 S :=
  pm_callV hM hy hy2 hl hr hrc hb hn hd (kc2 := kc) (ks2 := ks) (by omega) (by omega) hrs hdg hst (fun v S' h => by obtain ⟨rfl, h⟩ := h; exact k S' h)
theorem pm_vr {post : Option Nat → pm_S → Prop} (hM : pm_M G l bs y bytes maxL ret d' 0 0 (.ref b :: As) S (pm_qr post)) (hy : pm_yb y bytes maxL ret n) (hy2 : Cond.instanceMethod y ∈ pm_ws ∧ Cond.selects y.cls y y ∈ pm_ws) (hl : Cond.methodLink own index y ∈ pm_ws) {c : Nat} {r : vw_C} (hr : vwCl[c]? = some r) (hrc : r.1 = y.cls) (hb : pm_k S b = c + 1) (hdg : decode cc pc = .ok (.invokevirtual index, 3)) {st0 : List Value} (hst : st0 = As.reverse ++ .ref b :: rest) (hn : As.length = n) (hd : d' + 1 ≤ d) (hrs : (rest.map fun v => v.category).sum ≤ 8)
    (k : ∀ (x : Option Nat) (S' : pm_S), post x S' → pm_W G l bs own cc nL ini d kc ks Q (pc + 3) L (va_rf x :: rest) S') : pm_W G l bs own cc nL ini d kc ks Q pc L st0 S :=
  pm_callV hM hy hy2 hl hr hrc hb hn hd (kc2 := kc) (ks2 := ks) (by omega) (by omega) hrs hdg hst (fun v S' h => by obtain ⟨x, rfl, h⟩ := h; exact k x S' h)
theorem pm_ssi {post : Int32 → pm_S → Prop} (hM : pm_M G l bs y bytes maxL ret d' 0 0 As S (pm_qi post)) (hy : pm_yb y bytes maxL ret n) (hy2 : Cond.static y ∈ pm_ws) (hl : Cond.methodLink own index y ∈ pm_ws) (hdg : decode cc pc = .ok (.invokestatic index, 3)) {st0 : List Value} (hst : st0 = As.reverse ++ rest) (hn : As.length = n) (hd : d' + 1 ≤ d) (hrs : (rest.map fun v => v.category).sum ≤ 8)
    (k : ∀ (x : Int32) (S' : pm_S), post x S' → pm_W G l bs own cc nL ini d kc ks Q (pc + 3) L (.int x :: rest) S') : pm_W G l bs own cc nL ini d kc ks Q pc L st0 S :=
  pm_callS hM hy hy2 hl hn hd (kc2 := kc) (ks2 := ks) (by omega) (by omega) hrs hdg hst (fun v S' h => by obtain ⟨x, rfl, h⟩ := h; exact k x S' h)
end PMT
