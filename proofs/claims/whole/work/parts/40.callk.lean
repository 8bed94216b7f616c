/-! calls of methods that make objects; layouts that grow -/
section PMU
variable {G : pm_G} {l : Launch} {bs : Nat} {own : String} {cc : ByteArray} {nL : Nat} {ini : Bool} {d kc ks : Nat} {Q : Instr → List Value → pm_S → Prop} {pc : Nat} {L rest : List Value} {S : pm_S}
variable {y : MethodName} {bytes : ByteArray} {maxL : Nat} {ret : Option FieldType} {n d' kc1 ks1 kc2 ks2 index : Nat} {As : List Value} {b : Nat}
theorem pm_vik {post : Int32 → pm_S → Prop} (hM : pm_M G l bs y bytes maxL ret d' kc1 ks1 (.ref b :: As) S (pm_qi post)) (hy : pm_yb y bytes maxL ret n) (hy2 : Cond.instanceMethod y ∈ pm_ws ∧ Cond.selects y.cls y y ∈ pm_ws) (hl : Cond.methodLink own index y ∈ pm_ws) {c : Nat} {r : vw_C} (hr : vwCl[c]? = some r) (hrc : r.1 = y.cls) (hb : pm_k S b = c + 1) (hdg : decode cc pc = .ok (.invokevirtual index, 3)) {st0 : List Value} (hst : st0 = As.reverse ++ .ref b :: rest) (hn : As.length = n) (hd : d' + 1 ≤ d) (hrs : (rest.map fun v => v.category).sum ≤ 8) (hkc : kc1 + kc2 ≤ kc) (hks : ks1 + ks2 ≤ ks)
    (k : ∀ (x : Int32) (S' : pm_S), post x S' → pm_W G l bs own cc nL ini d kc2 ks2 Q (pc + 3) L (.int x :: rest) S') : pm_W G l bs own cc nL ini d kc ks Q pc L st0 S :=
  pm_callV hM hy hy2 hl hr hrc hb hn hd hkc hks hrs hdg hst (fun v S' h => by obtain ⟨x, rfl, h⟩ := h; exact k x S' h)
theorem pm_vvk {post : pm_S → Prop} (hM : pm_M G l bs y bytes maxL ret d' kc1 ks1 (.ref b :: As) S (pm_qv post)) (hy : pm_yb y bytes maxL ret n) (hy2 : Cond.instanceMethod y ∈ pm_ws ∧ Cond.selects y.cls y y ∈ pm_ws) (hl : Cond.methodLink own index y ∈ pm_ws) {c : Nat} {r : vw_C} (hr : vwCl[c]? = some r) (hrc : r.1 = y.cls) (hb : pm_k S b = c + 1) (hdg : decode cc pc = .ok (.invokevirtual index, 3)) {st0 : List Value} (hst : st0 = As.reverse ++ .ref b :: rest) (hn : As.length = n) (hd : d' + 1 ≤ d) (hrs : (rest.map fun v => v.category).sum ≤ 8) (hkc : kc1 + kc2 ≤ kc) (hks : ks1 + ks2 ≤ ks)
    (k : ∀ (S' : pm_S), post S' → pm_W G l bs own cc nL ini d kc2 ks2 Q (pc + 3) L rest S') : pm_W G l bs own cc nL ini d kc ks Q pc L st0 S :=
  pm_callV hM hy hy2 hl hr hrc hb hn hd hkc hks hrs hdg hst (fun v S' h => by obtain ⟨rfl, h⟩ := h; exact k S' h)
theorem pm_vrk {post : Option Nat → pm_S → Prop} (hM : pm_M G l bs y bytes maxL ret d' kc1 ks1 (.ref b :: As) S (pm_qr post)) (hy : pm_yb y bytes maxL ret n) (hy2 : Cond.instanceMethod y ∈ pm_ws ∧ Cond.selects y.cls y y ∈ pm_ws) (hl : Cond.methodLink own index y ∈ pm_ws) {c : Nat} {r : vw_C} (hr : vwCl[c]? = some r) (hrc : r.1 = y.cls) (hb : pm_k S b = c + 1) (hdg : decode cc pc = .ok (.invokevirtual index, 3)) {st0 : List Value} (hst : st0 = As.reverse ++ .ref b :: rest) (hn : As.length = n) (hd : d' + 1 ≤ d) (hrs : (rest.map fun v => v.category).sum ≤ 8) (hkc : kc1 + kc2 ≤ kc) (hks : ks1 + ks2 ≤ ks)
    (k : ∀ (x : Option Nat) (S' : pm_S), post x S' → pm_W G l bs own cc nL ini d kc2 ks2 Q (pc + 3) L (va_rf x :: rest) S') : pm_W G l bs own cc nL ini d kc ks Q pc L st0 S :=
  pm_callV hM hy hy2 hl hr hrc hb hn hd hkc hks hrs hdg hst (fun v S' h => by obtain ⟨x, rfl, h⟩ := h; exact k x S' h)
theorem pm_ssik {post : Int32 → pm_S → Prop} (hM : pm_M G l bs y bytes maxL ret d' kc1 ks1 As S (pm_qi post)) (hy : pm_yb y bytes maxL ret n) (hy2 : Cond.static y ∈ pm_ws) (hl : Cond.methodLink own index y ∈ pm_ws) (hdg : decode cc pc = .ok (.invokestatic index, 3)) {st0 : List Value} (hst : st0 = As.reverse ++ rest) (hn : As.length = n) (hd : d' + 1 ≤ d) (hrs : (rest.map fun v => v.category).sum ≤ 8) (hkc : kc1 + kc2 ≤ kc) (hks : ks1 + ks2 ≤ ks)
    (k : ∀ (x : Int32) (S' : pm_S), post x S' → pm_W G l bs own cc nL ini d kc2 ks2 Q (pc + 3) L (.int x :: rest) S') : pm_W G l bs own cc nL ini d kc ks Q pc L st0 S :=
  pm_callS hM hy hy2 hl hn hd hkc hks hrs hdg hst (fun v S' h => by obtain ⟨x, rfl, h⟩ := h; exact k x S' h)
end PMU
/-- a layout has grown: the codes that were in use keep their addresses -/
def yLe (n : Nat) (Y Y' : pm_Y) : Prop := (∀ c, lv n Y.2.1 c → Y'.1 c = Y.1 c) ∧ ∀ q, q < n → Y.2.1 q ≤ Y'.2.1 q
theorem lv_mono {n m : Nat} {mk mk' : Nat → Nat} {c : Nat} (hn : n ≤ m) (h : ∀ q, q < n → mk q ≤ mk' q) (hc : lv n mk c) : lv m mk' c := by
  rcases hc with hc | ⟨q, d, hq, e, hd, hd2⟩ | hc
  · exact Or.inl hc
  · have := h q hq
    exact Or.inr (Or.inl ⟨q, d, by omega, e, by omega, hd2⟩)
  · exact Or.inr (Or.inr hc)
theorem yLe.rf {n : Nat} {Y : pm_Y} : yLe n Y Y := ⟨fun _ _ => rfl, fun _ _ => Nat.le_refl _⟩
theorem yLe.tr {n m : Nat} {Y Y1 Y2 : pm_Y} (hn : n ≤ m) (h1 : yLe n Y Y1) (h2 : yLe m Y1 Y2) : yLe n Y Y2 := ⟨fun c hc => (h2.1 c (lv_mono hn h1.2 hc)).trans (h1.1 c hc), fun q hq => Nat.le_trans (h1.2 q hq) (h2.2 q (Nat.lt_of_lt_of_le hq hn))⟩
theorem yLe_row {n p t r : Nat} {Y : pm_Y} (hp : p < 60) (hk : Y.2.1 p < 40) : yLe n Y (yRow Y p t r) := by
  have no := lv_no (n := n) (mk := Y.2.1) (p := p) hp hk
  refine ⟨fun c hc => ?_, fun q _ => ?_⟩
  · show (if c = pq p (30 + Y.2.1 p) then t else if c = pq p (80 + Y.2.1 p) then r else Y.1 c) = Y.1 c
    rw [if_neg (fun e : c = _ => no.1 (by rw [← e]; exact hc)), if_neg (fun e : c = _ => no.2 (by rw [← e]; exact hc))]
  · show Y.2.1 q ≤ if q = p then Y.2.1 p + 1 else Y.2.1 q
    by_cases e : q = p
    · rw [if_pos e, e]; omega
    · rw [if_neg e]; exact Nat.le_refl _
theorem yLe.c {n c : Nat} {Y Y' : pm_Y} (h : yLe n Y Y') (hc : c < 15) : Y'.1 c = Y.1 c := h.1 c (lv_c hc)
theorem yLe.p {n p c : Nat} {Y Y' : pm_Y} (h : yLe n Y Y') (hp : p < n) (hc : c < 18) : Y'.1 (pq p c) = Y.1 (pq p c) := h.1 _ (lv_p hp hc)
theorem pm_e2 {n : Nat} (hn : n < 2 ^ 31) : nI n = 2 ↔ n = 2 := by rw [show (2 : Int32) = nI 2 from rfl, nI_eq hn (by omega)]
