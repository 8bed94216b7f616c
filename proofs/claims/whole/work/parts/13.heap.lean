/-- a class's rows of the tables are among the words -/
theorem pm_in0 : ∀ w ∈ u_ws RX0 TX0 3, w ∈ pm_ws := by decide +kernel
theorem pm_in1 : ∀ w ∈ u_ws RX1 TX1 16, w ∈ pm_ws := by decide +kernel
theorem pm_in2 : ∀ w ∈ u_ws RX2 TX2 2, w ∈ pm_ws := by decide +kernel
theorem pm_in3 : ∀ w ∈ u_ws RX3 TX3 2, w ∈ pm_ws := by decide +kernel
theorem pm_in4 : ∀ w ∈ u_ws RX4 TX4 5, w ∈ pm_ws := by decide +kernel
theorem pm_in5 : ∀ w ∈ u_ws RX5 TX5 5, w ∈ pm_ws := by decide +kernel
theorem pm_in6 : ∀ w ∈ u_ws RX6 TX6 16, w ∈ pm_ws := by decide +kernel
theorem pm_in7 : ∀ w ∈ u_ws RX7 TX7 41, w ∈ pm_ws := by decide +kernel
def pm_ty : List (Nat → FieldType) := [tyX0, tyX1, tyX2, tyX3, tyX4, tyX5, tyX6, tyX7]
theorem pm_cl {c : Nat} {r : vw_C} (h : vwCl[c]? = some r) : (∀ w ∈ u_ws r.1 r.2.1 r.2.2, w ∈ pm_ws) ∧ (∃ ty : Nat → FieldType, pm_ty[c]? = some ty ∧ ∀ k, k < r.2.2 → parseFieldDescriptor (r.2.1 k).2.2.1 = some (ty k)) ∧ (∀ a, a < r.2.2 → ∀ b, b < r.2.2 → a ≠ b → (r.2.1 a).2.1 ≠ (r.2.1 b).2.1) ∧ c < 8 := by
  have hl : c < 8 := (List.getElem?_eq_some_iff.mp h).1
  match c, hl, h with
  | 0, _, h => cases h; exact ⟨pm_in0, ⟨_, rfl, tyX0_ok⟩, nmX0, by decide⟩
  | 1, _, h => cases h; exact ⟨pm_in1, ⟨_, rfl, tyX1_ok⟩, nmX1, by decide⟩
  | 2, _, h => cases h; exact ⟨pm_in2, ⟨_, rfl, tyX2_ok⟩, nmX2, by decide⟩
  | 3, _, h => cases h; exact ⟨pm_in3, ⟨_, rfl, tyX3_ok⟩, nmX3, by decide⟩
  | 4, _, h => cases h; exact ⟨pm_in4, ⟨_, rfl, tyX4_ok⟩, nmX4, by decide⟩
  | 5, _, h => cases h; exact ⟨pm_in5, ⟨_, rfl, tyX5_ok⟩, nmX5, by decide⟩
  | 6, _, h => cases h; exact ⟨pm_in6, ⟨_, rfl, tyX6_ok⟩, nmX6, by decide⟩
  | 7, _, h => cases h; exact ⟨pm_in7, ⟨_, rfl, tyX7_ok⟩, nmX7, by decide⟩
theorem pm_S.put {bs a : Nat} {H0 H H1 : Heap} {locs : List Loc} {i : Nat} (hS : va_S (fun q => bs ≤ q) H0 H locs) (hz : H1.size = H.size) (hq : ∀ q : Nat, q ≠ a → H1[q]? = H[q]?) (ha : bs ≤ a) : va_S (fun q => bs ≤ q) H0 H1 (locs ++ [⟨a, i⟩]) := by
  refine ⟨by rw [hz]; exact hS.1, fun q h1 h2 => ?_, fun x hx => ?_⟩
  · rw [hq q (fun e => h2 (by rw [e]; exact ha))]
    exact hS.2.1 q h1 h2
  · rcases List.mem_append.mp hx with h | h
    · exact hS.2.2 x h
    · rw [List.mem_singleton.mp h]
      exact ha
theorem pm_S.new {bs : Nat} {H0 H H1 : Heap} {locs : List Loc} (hS : va_S (fun q => bs ≤ q) H0 H locs) (hz : H1.size = H.size + 1) (hq : ∀ q : Nat, q < H.size → H1[q]? = H[q]?) : va_S (fun q => bs ≤ q) H0 H1 locs :=
  ⟨by have := hS.1; omega, fun q h1 h2 => (hq q (Nat.lt_of_lt_of_le h1 hS.1)).trans (hS.2.1 q h1 h2), hS.2.2⟩
theorem pm_lt {bs a c : Nat} {G : pm_G} {S : pm_S} {H : Heap} (h : pm_R G bs S H) (hk : pm_k S a = c + 1) : bs ≤ a := (h a (by omega)).1
theorem pm_fresh {bs : Nat} {G : pm_G} {S : pm_S} {H : Heap} (h : pm_R G bs S H) : pm_k S H.size = 0 := by
  by_cases e : pm_k S H.size = 0
  · exact e
  · exact absurd (h _ e).2.1 (Nat.lt_irrefl _)
theorem pm_off_si (S : pm_S) (f a : Nat) (v : Int32) : pm_off S (pm_si S f a v) a := fun b hb => ⟨rfl, rfl, fun g => by rw [pm_i_si, if_neg (fun h => hb h.2)], fun _ => rfl, fun _ => rfl, fun _ => rfl, fun _ => rfl, fun _ => rfl⟩
theorem pm_off_sj (S : pm_S) (f a : Nat) (v : Int64) : pm_off S (pm_sj S f a v) a := fun b hb => ⟨rfl, rfl, fun _ => rfl, fun g => by rw [pm_j_sj, if_neg (fun h => hb h.2)], fun _ => rfl, fun _ => rfl, fun _ => rfl, fun _ => rfl⟩
theorem pm_off_sp (S : pm_S) (f a : Nat) (v : Option Nat) : pm_off S (pm_sp S f a v) a := fun b hb => ⟨rfl, rfl, fun _ => rfl, fun _ => rfl, fun g => by rw [pm_p_sp, if_neg (fun h => hb h.2)], fun _ => rfl, fun _ => rfl, fun _ => rfl⟩
theorem pm_off_sx (S : pm_S) (a i : Nat) (v : Int32) : pm_off S (pm_sx S a i v) a := fun b hb => ⟨rfl, rfl, fun _ => rfl, fun _ => rfl, fun _ => rfl, fun g => by rw [pm_x_sx, if_neg (fun h => hb h.1)], fun _ => rfl, fun _ => rfl⟩
theorem pm_off_sy (S : pm_S) (a i : Nat) (v : Int64) : pm_off S (pm_sy S a i v) a := fun b hb => ⟨rfl, rfl, fun _ => rfl, fun _ => rfl, fun _ => rfl, fun _ => rfl, fun g => by rw [pm_y_sy, if_neg (fun h => hb h.1)], fun _ => rfl⟩
theorem pm_off_sz (S : pm_S) (a i : Nat) (v : Option Nat) : pm_off S (pm_sz S a i v) a := fun b hb => ⟨rfl, rfl, fun _ => rfl, fun _ => rfl, fun _ => rfl, fun _ => rfl, fun _ => rfl, fun g => by rw [pm_z_sz, if_neg (fun h => hb h.1)]⟩
theorem pm_off_sr (S : pm_S) (a : Nat) (r : Nat → Int32) : pm_off S (pm_sr S a r) a := fun b hb => ⟨rfl, rfl, fun _ => rfl, fun _ => rfl, fun _ => rfl, fun g => by rw [pm_x_sr, if_neg hb], fun _ => rfl, fun _ => rfl⟩
theorem pm_fv_si {S : pm_S} {c a j : Nat} (hs : (pm_so.getD c []).getD j 0 = 0) (v : Int32) (q : Nat) : updV (pm_fv S c a) j (.int v) q = pm_fv (pm_si S (50 * c + j) a v) c a q := by
  by_cases h : q = j
  · subst h
    have e0 : pm_fv (pm_si S (50 * c + q) a v) c a q = pm_sv (pm_si S (50 * c + q) a v) 0 (50 * c + q) a := by unfold pm_fv; rw [hs]
    rw [e0]
    simp [updV, pm_sv, pm_i_si]
  · have e : ∀ o, pm_sv (pm_si S (50 * c + j) a v) o (50 * c + q) a = pm_sv S o (50 * c + q) a := by
      intro o
      unfold pm_sv
      split <;> simp only [pm_i_si, pm_p_si, pm_j_si]
      rw [if_neg (by omega)]
    simp only [updV, pm_fv, if_neg h, e]
theorem pm_fv_sj {S : pm_S} {c a j : Nat} (hs : (pm_so.getD c []).getD j 0 = 2) (v : Int64) (q : Nat) : updV (pm_fv S c a) j (.long v) q = pm_fv (pm_sj S (50 * c + j) a v) c a q := by
  by_cases h : q = j
  · subst h
    have e0 : pm_fv (pm_sj S (50 * c + q) a v) c a q = pm_sv (pm_sj S (50 * c + q) a v) 2 (50 * c + q) a := by unfold pm_fv; rw [hs]
    rw [e0]
    simp [updV, pm_sv, pm_j_sj]
  · have e : ∀ o, pm_sv (pm_sj S (50 * c + j) a v) o (50 * c + q) a = pm_sv S o (50 * c + q) a := by
      intro o
      unfold pm_sv
      split <;> simp only [pm_i_sj, pm_p_sj, pm_j_sj]
      rw [if_neg (by omega)]
    simp only [updV, pm_fv, if_neg h, e]
theorem pm_fv_sp {S : pm_S} {c a j : Nat} (hs : (pm_so.getD c []).getD j 0 = 1) (v : Option Nat) (q : Nat) : updV (pm_fv S c a) j (va_rf v) q = pm_fv (pm_sp S (50 * c + j) a v) c a q := by
  by_cases h : q = j
  · subst h
    have e0 : pm_fv (pm_sp S (50 * c + q) a v) c a q = pm_sv (pm_sp S (50 * c + q) a v) 1 (50 * c + q) a := by unfold pm_fv; rw [hs]
    rw [e0]
    simp [updV, pm_sv, pm_p_sp]
  · have e : ∀ o, pm_sv (pm_sp S (50 * c + j) a v) o (50 * c + q) a = pm_sv S o (50 * c + q) a := by
      intro o
      unfold pm_sv
      split <;> simp only [pm_i_sp, pm_p_sp, pm_j_sp]
      rw [if_neg (by omega)]
    simp only [updV, pm_fv, if_neg h, e]
section PMH
variable {G : pm_G} {l : Launch} {bs : Nat} {own : String} {cc : ByteArray} {nL : Nat} {ini : Bool} {d kc ks : Nat} {Q : Instr → List Value → pm_S → Prop} {pc : Nat} {L rest : List Value} {S : pm_S}
/-- a link to a field: by the method's own name, or as a nest mate -/
def pm_lk (own : String) (index : Nat) (C n t : String) : Prop := Cond.fieldLink own index C n t ∈ pm_ws ∨ ∃ host, Cond.fieldLinkNest own index C n t host ∈ lw_tbl
theorem pm_getf {c j index a : Nat} {r : vw_C} (hr : vwCl[c]? = some r) (hj : j < r.2.2) (hk : pm_k S a = c + 1) (hw : pm_lk own index r.1 (r.2.1 j).2.1 (r.2.1 j).2.2.1) (hd1 : (r.2.1 j).1 = r.1) (hdg : decode cc pc = .ok (.getfield index, 3)) (k : pm_W G l bs own cc nL ini d kc ks Q (pc + 3) L (pm_fv S c a j :: rest) S) : pm_W G l bs own cc nL ini d kc ks Q pc L (.ref a :: rest) S := by
  intro p e R s m args below meth c9 Z hX hE H locs cells slots ls hR hS hL hc9 hs9
  obtain ⟨hin, -, -, hc⟩ := pm_cl hr
  obtain ⟨r', h1, cell, q1, q2, q3, q4⟩ := hR.ob hc hk
  have e : r' = r := Option.some.inj (h1.symm.trans hr)
  subst e
  obtain ⟨hS1, hfc, kC, hkC, hkind⟩ := hX.2.2.2.2.2.1.1.1 c _ hr
  obtain ⟨cf, kf, fi, f, hi, hsl⟩ := hS1 j hj
  have hst := (u_facts hfc hkC (u_lays hX.2.2.2.2.1 hin hj) hi).1
  have hv : cell.slots[f.slot]? = some (pm_fv S c a j) := by rw [hsl]; exact q4 j hj
  rw [hd1] at hi
  rcases hw with hw | ⟨host, hw⟩
  · exact W.getf hX.1 hX.2.1 hX.2.2.2.1 (hX.2.2.2.2.1 _ hw) hi hst q1 (by rw [q3]; exact fun h => by cases h) hv rfl rfl hdg (k p e R s m args below meth c9 Z hX hE H locs cells slots ls hR hS hL hc9 hs9)
  · exact va_Wgetf hX.1 hX.2.1 hX.2.2.2.1 (va_Nw.use rfl (hX.2.2.2.2.2.1.2.1 _ hw rfl)) hi hst q1 (by rw [q3]; exact fun h => by cases h) hv rfl rfl hdg (k p e R s m args below meth c9 Z hX hE H locs cells slots ls hR hS hL hc9 hs9)
theorem pm_putf {c j index a : Nat} {r : vw_C} {S' : pm_S} {v : Value} {ty : FieldType} (hr : vwCl[c]? = some r) (hj : j < r.2.2) (hk : pm_k S a = c + 1) (hw : pm_lk own index r.1 (r.2.1 j).2.1 (r.2.1 j).2.2.1) (hd1 : (r.2.1 j).1 = r.1) (hfin : (r.2.1 j).2.2.2 = false ∨ ((r.2.1 j).2.2.2 = true ∧ ini = true ∧ own = r.1 ∧ Cond.fieldLink own index r.1 (r.2.1 j).2.1 (r.2.1 j).2.2.1 ∈ pm_ws)) (hd : parseFieldDescriptor (r.2.1 j).2.2.1 = some ty) (hn : narrow ty v = v) (hfit : fits ty v = true) (ho : pm_off S S' a) (hk' : pm_k S' a = pm_k S a) (hv : ∀ q, updV (pm_fv S c a) j v q = pm_fv S' c a q) (hdg : decode cc pc = .ok (.putfield index, 3)) (k : pm_W G l bs own cc nL ini d kc ks Q (pc + 3) L rest S') : pm_W G l bs own cc nL ini d kc ks Q pc L (v :: .ref a :: rest) S := by
  intro p e R s m args below meth c9 Z hX hE H locs cells slots ls hR hS hL hc9 hs9
  obtain ⟨hin, ⟨ty0, -, hty⟩, hnm, hc⟩ := pm_cl hr
  have hap := va_apart (own := own) hX.2.2.2.2.1 hin ty0 hty hnm hX.2.2.2.2.2.1.1 hr
  obtain ⟨r', h1, cell, q1, q2, q3, q4⟩ := hR.ob hc hk
  have e : r' = r := Option.some.inj (h1.symm.trans hr)
  subst e
  obtain ⟨hS1, hfc, kC, hkC, hkind⟩ := hX.2.2.2.2.2.1.1.1 c _ hr
  obtain ⟨cf, kf, fi, f, hi, hsl⟩ := hS1 j hj
  have hlay := hX.2.2.2.2.1 _ (hin _ (u_in_lay hj))
  have hst := (u_facts hfc hkC (u_lays hX.2.2.2.2.1 hin hj) hi).1
  have fin : ∀ H' : Heap, H'[a]? = some (cell.setSlot f.slot v) → H'.size = H.size → (∀ q, q ≠ a → H'[q]? = H[q]?) → W p l e R s m args below meth c9 H' (locs ++ [⟨a, f.slot⟩]) cells slots Z (F0 m (pc + 3) ls rest) := by
    intro H' e1 e2 e3
    refine k p e R s m args below meth c9 Z hX hE H' _ cells slots ls (hR.put ho hk' e2 e3 (fun _ => pm_at_ob hc (by rw [hk']; exact hk) ⟨_, hr, ?_⟩)) (pm_S.put hS e2 e3 (pm_lt hR hk)) hL hc9 hs9
    rw [hsl] at e1
    exact t_OB.to (V := updV (pm_fv S c a) j v) ⟨_, e1, q2, q3, t_set q4 hap hj v⟩ (fun q _ => hv q)
  unfold u_lay at hlay
  rcases hfin with hfin | ⟨hfin, hini, hown, hw2⟩
  · rw [if_neg (by rw [hfin]; decide)] at hlay
    have h6 := u_store hfc hkC hkind hlay hi hd hn hfit
    rw [hd1] at hi
    rcases hw with hw | ⟨host, hw⟩
    · exact W.putK hX.1 hX.2.1 (f := f) ⟨hX.2.2.2.1, hX.2.2.2.2.1 _ hw, ⟨_, _, _, hi⟩, hst⟩ (by rw [q2]; exact h6) q1 q3 (by rw [hsl]; exact k2_hasslot (q4 j hj)) rfl rfl hdg fin
    · exact va_WputK hX.1 hX.2.1 (f := f) hX.2.2.2.1 (va_Nw.use rfl (hX.2.2.2.2.2.1.2.1 _ hw rfl)) hi hst (by rw [q2]; exact h6) q1 q3 (by rw [hsl]; exact k2_hasslot (q4 j hj)) rfl rfl hdg fin
  · rw [if_pos hfin] at hlay
    have hcf : m.cls = cf := by
      obtain ⟨_, _, c', _, _, _, -, -, hf', -, -, -, hown2, -⟩ := Cond.laysFinal_spec hlay
      have e1 : c' = cf := by have := hi.symm.trans hf'; simp at this; exact this.1.symm
      rw [hd1, ← hown] at hown2
      rw [← e1]; exact Option.some.inj (hX.2.2.2.1.symm.trans hown2)
    have h6 := u_fits hfc hkC hkind (Or.inr hlay) hi hd hn hfit
    rw [hd1] at hi
    exact W.putFinK hX.1 hX.2.1 hX.2.2.2.1 (hX.2.2.2.2.1 _ hw2) hi hst hcf (hX.2.2.2.2.2.2.2.2.2 hini) (by rw [q2]; exact h6) q1 q3 (by rw [hsl]; exact k2_hasslot (q4 j hj)) rfl rfl hdg fin
theorem pm_ai {i : Int32} {n N : Nat} (hi : i = nI n) (hb : n < N) (h31 : N < 2 ^ 31) : vp_in i N ∧ i.toNatClampNeg = n := by
  subst hi
  exact ⟨vp_in_nI hb h31, nI_clamp (by omega)⟩
theorem pm_at9 {bs a : Nat} {S : pm_S} {H : Heap} (hR : pm_R G bs S H) (hk : pm_k S a = 9) : H[a]? = some (arrV (G.2 0) (pm_n S a) (fun i => .int (pm_x S a i))) := by
  have h := (hR a (by omega)).2.2
  unfold pm_at at h
  rw [if_pos hk] at h
  exact h
theorem pm_at10 {bs a : Nat} {S : pm_S} {H : Heap} (hR : pm_R G bs S H) (hk : pm_k S a = 10) : H[a]? = some (arrV (G.2 1) (pm_n S a) (fun i => .int (pm_x S a i))) := by
  have h := (hR a (by omega)).2.2
  unfold pm_at at h
  rw [if_neg (by omega), if_pos hk] at h
  exact h
theorem pm_at11 {bs a : Nat} {S : pm_S} {H : Heap} (hR : pm_R G bs S H) (hk : pm_k S a = 11) : H[a]? = some (arrV (G.2 2) (pm_n S a) (fun i => .long (pm_y S a i))) := by
  have h := (hR a (by omega)).2.2
  unfold pm_at at h
  rw [if_neg (by omega), if_neg (by omega), if_pos hk] at h
  exact h
theorem pm_at12 {bs a : Nat} {S : pm_S} {H : Heap} (hR : pm_R G bs S H) (hk : pm_k S a = 12) : H[a]? = some (arrV (G.2 3) (pm_n S a) (fun i => va_rf (pm_z S a i))) := by
  have h := (hR a (by omega)).2.2
  unfold pm_at at h
  rw [if_neg (by omega), if_neg (by omega), if_neg (by omega), if_pos hk] at h
  exact h
theorem pm_at13 {bs a : Nat} {S : pm_S} {H : Heap} (hR : pm_R G bs S H) (hk : pm_k S a = 13) : H[a]? = some (arrV (G.2 4) (pm_n S a) (fun i => va_rf (pm_z S a i))) := by
  have h := (hR a (by omega)).2.2
  unfold pm_at at h
  rw [if_neg (by omega), if_neg (by omega), if_neg (by omega), if_neg (by omega), if_pos hk] at h
  exact h
theorem pm_to9 {a : Nat} {S : pm_S} {H : Heap} (hk : pm_k S a = 9) (h : H[a]? = some (arrV (G.2 0) (pm_n S a) (fun i => .int (pm_x S a i)))) : pm_at G S a H := by
  unfold pm_at
  rw [if_pos hk]
  exact h
theorem pm_to10 {a : Nat} {S : pm_S} {H : Heap} (hk : pm_k S a = 10) (h : H[a]? = some (arrV (G.2 1) (pm_n S a) (fun i => .int (pm_x S a i)))) : pm_at G S a H := by
  unfold pm_at
  rw [if_neg (by omega), if_pos hk]
  exact h
theorem pm_to11 {a : Nat} {S : pm_S} {H : Heap} (hk : pm_k S a = 11) (h : H[a]? = some (arrV (G.2 2) (pm_n S a) (fun i => .long (pm_y S a i)))) : pm_at G S a H := by
  unfold pm_at
  rw [if_neg (by omega), if_neg (by omega), if_pos hk]
  exact h
theorem pm_to12 {a : Nat} {S : pm_S} {H : Heap} (hk : pm_k S a = 12) (h : H[a]? = some (arrV (G.2 3) (pm_n S a) (fun i => va_rf (pm_z S a i)))) : pm_at G S a H := by
  unfold pm_at
  rw [if_neg (by omega), if_neg (by omega), if_neg (by omega), if_pos hk]
  exact h
theorem pm_to13 {a : Nat} {S : pm_S} {H : Heap} (hk : pm_k S a = 13) (h : H[a]? = some (arrV (G.2 4) (pm_n S a) (fun i => va_rf (pm_z S a i)))) : pm_at G S a H := by
  unfold pm_at
  rw [if_neg (by omega), if_neg (by omega), if_neg (by omega), if_neg (by omega), if_pos hk]
  exact h
theorem pm_iaload {a n : Nat} {i : Int32} (hk : pm_k S a = 9) (hi : i = nI n) (hb : n < pm_n S a) (h31 : pm_n S a < 2 ^ 31) (hdg : decode cc pc = .ok (.iaload, 1)) (k : pm_W G l bs own cc nL ini d kc ks Q (pc + 1) L (.int (pm_x S a n) :: rest) S) : pm_W G l bs own cc nL ini d kc ks Q pc L (.int i :: .ref a :: rest) S := by
  intro p e R s m args below meth c9 Z hX hE H locs cells slots ls hR hS hL hc9 hs9
  obtain ⟨h1, h2⟩ := pm_ai hi hb h31
  exact W.iald hX.1 hX.2.1 (pm_at9 hR hk) ((hX.2.2.2.2.2.1.1.2 0 _ rfl).1 _ _) (fun q => by cases q) (by rw [arrV_size]; exact h1) (by rw [h2, arrV_read _ _ hb]) rfl rfl hdg (k p e R s m args below meth c9 Z hX hE H locs cells slots ls hR hS hL hc9 hs9)
theorem pm_baload {a n : Nat} {i : Int32} (hk : pm_k S a = 10) (hi : i = nI n) (hb : n < pm_n S a) (h31 : pm_n S a < 2 ^ 31) (hdg : decode cc pc = .ok (.baload, 1)) (k : pm_W G l bs own cc nL ini d kc ks Q (pc + 1) L (.int (pm_x S a n) :: rest) S) : pm_W G l bs own cc nL ini d kc ks Q pc L (.int i :: .ref a :: rest) S := by
  intro p e R s m args below meth c9 Z hX hE H locs cells slots ls hR hS hL hc9 hs9
  obtain ⟨h1, h2⟩ := pm_ai hi hb h31
  exact W.zald hX.1 hX.2.1 (pm_at10 hR hk) ((hX.2.2.2.2.2.1.1.2 1 _ rfl).1 _ _) (fun q => by cases q) (by rw [arrV_size]; exact h1) (by rw [h2, arrV_read _ _ hb]) rfl rfl hdg (k p e R s m args below meth c9 Z hX hE H locs cells slots ls hR hS hL hc9 hs9)
theorem pm_laload {a n : Nat} {i : Int32} (hk : pm_k S a = 11) (hi : i = nI n) (hb : n < pm_n S a) (h31 : pm_n S a < 2 ^ 31) (hdg : decode cc pc = .ok (.laload, 1)) (k : pm_W G l bs own cc nL ini d kc ks Q (pc + 1) L (.long (pm_y S a n) :: rest) S) : pm_W G l bs own cc nL ini d kc ks Q pc L (.int i :: .ref a :: rest) S := by
  intro p e R s m args below meth c9 Z hX hE H locs cells slots ls hR hS hL hc9 hs9
  obtain ⟨h1, h2⟩ := pm_ai hi hb h31
  exact W.lald hX.1 hX.2.1 (pm_at11 hR hk) ((hX.2.2.2.2.2.1.1.2 2 _ rfl).1 _ _) (fun q => by cases q) (by rw [arrV_size]; exact h1) (by rw [h2, arrV_read _ _ hb]) rfl rfl hdg (k p e R s m args below meth c9 Z hX hE H locs cells slots ls hR hS hL hc9 hs9)
theorem pm_aaloadP {a n : Nat} {i : Int32} (hk : pm_k S a = 12) (hi : i = nI n) (hb : n < pm_n S a) (h31 : pm_n S a < 2 ^ 31) (hdg : decode cc pc = .ok (.aaload, 1)) (k : pm_W G l bs own cc nL ini d kc ks Q (pc + 1) L (va_rf (pm_z S a n) :: rest) S) : pm_W G l bs own cc nL ini d kc ks Q pc L (.int i :: .ref a :: rest) S := by
  intro p e R s m args below meth c9 Z hX hE H locs cells slots ls hR hS hL hc9 hs9
  obtain ⟨h1, h2⟩ := pm_ai hi hb h31
  exact W.aald (ty := .object "ProcessMill$Proc") hX.1 hX.2.1 (pm_at12 hR hk) ((hX.2.2.2.2.2.1.1.2 3 _ rfl).1 _ _) rfl (fun q => by cases q) (by rw [arrV_size]; exact h1) (by rw [h2, arrV_read _ _ hb]) rfl rfl hdg (k p e R s m args below meth c9 Z hX hE H locs cells slots ls hR hS hL hc9 hs9)
theorem pm_aaloadT {a n : Nat} {i : Int32} (hk : pm_k S a = 13) (hi : i = nI n) (hb : n < pm_n S a) (h31 : pm_n S a < 2 ^ 31) (hdg : decode cc pc = .ok (.aaload, 1)) (k : pm_W G l bs own cc nL ini d kc ks Q (pc + 1) L (va_rf (pm_z S a n) :: rest) S) : pm_W G l bs own cc nL ini d kc ks Q pc L (.int i :: .ref a :: rest) S := by
  intro p e R s m args below meth c9 Z hX hE H locs cells slots ls hR hS hL hc9 hs9
  obtain ⟨h1, h2⟩ := pm_ai hi hb h31
  exact W.aald (ty := .object "ProcessMill$Term") hX.1 hX.2.1 (pm_at13 hR hk) ((hX.2.2.2.2.2.1.1.2 4 _ rfl).1 _ _) rfl (fun q => by cases q) (by rw [arrV_size]; exact h1) (by rw [h2, arrV_read _ _ hb]) rfl rfl hdg (k p e R s m args below meth c9 Z hX hE H locs cells slots ls hR hS hL hc9 hs9)
theorem pm_iastore {a n : Nat} {i : Int32} {x : Int32} (hk : pm_k S a = 9) (hi : i = nI n) (hb : n < pm_n S a) (h31 : pm_n S a < 2 ^ 31) (hdg : decode cc pc = .ok (.iastore, 1)) (k : pm_W G l bs own cc nL ini d kc ks Q (pc + 1) L rest (pm_sx S a n x)) : pm_W G l bs own cc nL ini d kc ks Q pc L (.int x :: .int i :: .ref a :: rest) S := by
  intro p e R s m args below meth c9 Z hX hE H locs cells slots ls hR hS hL hc9 hs9
  obtain ⟨h1, h2⟩ := pm_ai hi hb h31
  refine W.iast hX.1 hX.2.1 (pm_at9 hR hk) ((hX.2.2.2.2.2.1.1.2 0 _ rfl).1 _ _) (fun q => by cases q) (by rw [arrV_size]; exact h1) rfl rfl hdg fun H1 e1 e2 e3 => ?_
  refine k p e R s m args below meth c9 Z hX hE H1 _ cells slots ls (hR.put (pm_off_sx S a n x) rfl e2 e3 (fun _ => pm_to9 hk ?_)) (pm_S.put hS e2 e3 (hR a (by omega)).1) hL hc9 hs9
  rw [e1, arrV_store]
  show some (arrV _ (pm_n S a) _) = some (arrV _ (pm_n S a) _)
  congr 2
  funext q
  simp only [updV, pm_x_sx, h2]
  by_cases hq : q = n <;> simp [hq]
theorem pm_bastore {a n : Nat} {i : Int32} {x : Int32} (hk : pm_k S a = 10) (hi : i = nI n) (hb : n < pm_n S a) (h31 : pm_n S a < 2 ^ 31) (hx : x = 0 ∨ x = 1) (hdg : decode cc pc = .ok (.bastore, 1)) (k : pm_W G l bs own cc nL ini d kc ks Q (pc + 1) L rest (pm_sx S a n x)) : pm_W G l bs own cc nL ini d kc ks Q pc L (.int x :: .int i :: .ref a :: rest) S := by
  intro p e R s m args below meth c9 Z hX hE H locs cells slots ls hR hS hL hc9 hs9
  obtain ⟨h1, h2⟩ := pm_ai hi hb h31
  refine W.zast hX.1 hX.2.1 (pm_at10 hR hk) ((hX.2.2.2.2.2.1.1.2 1 _ rfl).1 _ _) (fun q => by cases q) (by rw [arrV_size]; exact h1) rfl rfl hdg fun H1 e1 e2 e3 => ?_
  refine k p e R s m args below meth c9 Z hX hE H1 _ cells slots ls (hR.put (pm_off_sx S a n x) rfl e2 e3 (fun _ => pm_to10 hk ?_)) (pm_S.put hS e2 e3 (hR a (by omega)).1) hL hc9 hs9
  have hnz : narrow .boolean (.int x) = .int x := by rcases hx with rfl | rfl <;> rfl
  rw [hnz] at e1
  rw [e1, arrV_store]
  show some (arrV _ (pm_n S a) _) = some (arrV _ (pm_n S a) _)
  congr 2
  funext q
  simp only [updV, pm_x_sx, h2]
  by_cases hq : q = n <;> simp [hq]
theorem pm_lastore {a n : Nat} {i : Int32} {x : Int64} (hk : pm_k S a = 11) (hi : i = nI n) (hb : n < pm_n S a) (h31 : pm_n S a < 2 ^ 31) (hdg : decode cc pc = .ok (.lastore, 1)) (k : pm_W G l bs own cc nL ini d kc ks Q (pc + 1) L rest (pm_sy S a n x)) : pm_W G l bs own cc nL ini d kc ks Q pc L (.long x :: .int i :: .ref a :: rest) S := by
  intro p e R s m args below meth c9 Z hX hE H locs cells slots ls hR hS hL hc9 hs9
  obtain ⟨h1, h2⟩ := pm_ai hi hb h31
  refine W.last hX.1 hX.2.1 (pm_at11 hR hk) ((hX.2.2.2.2.2.1.1.2 2 _ rfl).1 _ _) (fun q => by cases q) (by rw [arrV_size]; exact h1) rfl rfl hdg fun H1 e1 e2 e3 => ?_
  refine k p e R s m args below meth c9 Z hX hE H1 _ cells slots ls (hR.put (pm_off_sy S a n x) rfl e2 e3 (fun _ => pm_to11 hk ?_)) (pm_S.put hS e2 e3 (hR a (by omega)).1) hL hc9 hs9
  rw [e1, arrV_store]
  show some (arrV _ (pm_n S a) _) = some (arrV _ (pm_n S a) _)
  congr 2
  funext q
  simp only [updV, pm_y_sy, h2]
  by_cases hq : q = n <;> simp [hq]
theorem pm_aastoreP {a n v : Nat} {i : Int32} (hk : pm_k S a = 12) (hi : i = nI n) (hb : n < pm_n S a) (h31 : pm_n S a < 2 ^ 31) (hv : pm_k S v = 2) (hdg : decode cc pc = .ok (.aastore, 1)) (k : pm_W G l bs own cc nL ini d kc ks Q (pc + 1) L rest (pm_sz S a n (some v))) : pm_W G l bs own cc nL ini d kc ks Q pc L (.ref v :: .int i :: .ref a :: rest) S := by
  intro p e R s m args below meth c9 Z hX hE H locs cells slots ls hR hS hL hc9 hs9
  obtain ⟨h1, h2⟩ := pm_ai hi hb h31
  have h0 : ¬ i < 0 := fun q => h1 (Or.inl q)
  obtain ⟨r', hr', cellV, g1, g2, g3, -⟩ := hR.ob (c := 1) (by decide) hv
  have hcls := (hX.2.2.2.2.2.1.1.1 1 _ rfl).2
  obtain ⟨kA, comp, k1, k2, k3, -⟩ := (hX.2.2.2.2.2.1.1.2 3 _ rfl).2
  have hcomp : comp = G.1.1 1 := Option.some.inj (k3.symm.trans hcls.1)
  subst hcomp
  obtain ⟨kC, hkC, -⟩ := hcls.2
  refine W.aast hX.1 hX.2.1 (pm_at12 hR hk) (fun q h => by cases h) (fun h => by cases h) k1 k2 rfl hkC ⟨h0, by rw [arrV_size, h2]; exact hb⟩ g1 (fun q h => by rw [g3] at h; cases h) (by rw [g2]; exact hkC) (by rw [g2]; exact va_assign hcls) rfl rfl hdg fun H1 e1 e2 e3 => ?_
  refine k p e R s m args below meth c9 Z hX hE H1 _ cells slots ls (hR.put (pm_off_sz S a n (some v)) rfl e2 e3 (fun _ => pm_to12 hk ?_)) (pm_S.put hS e2 e3 (hR a (by omega)).1) hL hc9 hs9
  rw [e1, arrV_store]
  show some (arrV _ (pm_n S a) _) = some (arrV _ (pm_n S a) _)
  congr 2
  funext q
  simp only [updV, pm_z_sz, h2]
  by_cases hq : q = n <;> simp [hq, va_rf]
theorem pm_aastorePN {a n : Nat} {i : Int32} (hk : pm_k S a = 12) (hi : i = nI n) (hb : n < pm_n S a) (h31 : pm_n S a < 2 ^ 31) (hdg : decode cc pc = .ok (.aastore, 1)) (k : pm_W G l bs own cc nL ini d kc ks Q (pc + 1) L rest (pm_sz S a n none)) : pm_W G l bs own cc nL ini d kc ks Q pc L (.null :: .int i :: .ref a :: rest) S := by
  intro p e R s m args below meth c9 Z hX hE H locs cells slots ls hR hS hL hc9 hs9
  obtain ⟨h1, h2⟩ := pm_ai hi hb h31
  refine va_WaastN (C := "ProcessMill$Proc") hX.1 hX.2.1 (pm_at12 hR hk) ((hX.2.2.2.2.2.1.1.2 3 _ rfl).1 _ _) (fun h => by cases h) (by rw [arrV_size]; exact h1) rfl rfl hdg fun H1 e1 e2 e3 => ?_
  refine k p e R s m args below meth c9 Z hX hE H1 _ cells slots ls (hR.put (pm_off_sz S a n none) rfl e2 e3 (fun _ => pm_to12 hk ?_)) (pm_S.put hS e2 e3 (hR a (by omega)).1) hL hc9 hs9
  rw [e1, arrV_store]
  show some (arrV _ (pm_n S a) _) = some (arrV _ (pm_n S a) _)
  congr 2
  funext q
  simp only [updV, pm_z_sz, h2]
  by_cases hq : q = n <;> simp [hq, va_rf]
theorem pm_aastoreT {a n v : Nat} {i : Int32} (hk : pm_k S a = 13) (hi : i = nI n) (hb : n < pm_n S a) (h31 : pm_n S a < 2 ^ 31) (hv : pm_k S v = 4) (hdg : decode cc pc = .ok (.aastore, 1)) (k : pm_W G l bs own cc nL ini d kc ks Q (pc + 1) L rest (pm_sz S a n (some v))) : pm_W G l bs own cc nL ini d kc ks Q pc L (.ref v :: .int i :: .ref a :: rest) S := by
  intro p e R s m args below meth c9 Z hX hE H locs cells slots ls hR hS hL hc9 hs9
  obtain ⟨h1, h2⟩ := pm_ai hi hb h31
  have h0 : ¬ i < 0 := fun q => h1 (Or.inl q)
  obtain ⟨r', hr', cellV, g1, g2, g3, -⟩ := hR.ob (c := 3) (by decide) hv
  have hcls := (hX.2.2.2.2.2.1.1.1 3 _ rfl).2
  obtain ⟨kA, comp, k1, k2, k3, -⟩ := (hX.2.2.2.2.2.1.1.2 4 _ rfl).2
  have hcomp : comp = G.1.1 3 := Option.some.inj (k3.symm.trans hcls.1)
  subst hcomp
  obtain ⟨kC, hkC, -⟩ := hcls.2
  refine W.aast hX.1 hX.2.1 (pm_at13 hR hk) (fun q h => by cases h) (fun h => by cases h) k1 k2 rfl hkC ⟨h0, by rw [arrV_size, h2]; exact hb⟩ g1 (fun q h => by rw [g3] at h; cases h) (by rw [g2]; exact hkC) (by rw [g2]; exact va_assign hcls) rfl rfl hdg fun H1 e1 e2 e3 => ?_
  refine k p e R s m args below meth c9 Z hX hE H1 _ cells slots ls (hR.put (pm_off_sz S a n (some v)) rfl e2 e3 (fun _ => pm_to13 hk ?_)) (pm_S.put hS e2 e3 (hR a (by omega)).1) hL hc9 hs9
  rw [e1, arrV_store]
  show some (arrV _ (pm_n S a) _) = some (arrV _ (pm_n S a) _)
  congr 2
  funext q
  simp only [updV, pm_z_sz, h2]
  by_cases hq : q = n <;> simp [hq, va_rf]
theorem pm_aastoreTN {a n : Nat} {i : Int32} (hk : pm_k S a = 13) (hi : i = nI n) (hb : n < pm_n S a) (h31 : pm_n S a < 2 ^ 31) (hdg : decode cc pc = .ok (.aastore, 1)) (k : pm_W G l bs own cc nL ini d kc ks Q (pc + 1) L rest (pm_sz S a n none)) : pm_W G l bs own cc nL ini d kc ks Q pc L (.null :: .int i :: .ref a :: rest) S := by
  intro p e R s m args below meth c9 Z hX hE H locs cells slots ls hR hS hL hc9 hs9
  obtain ⟨h1, h2⟩ := pm_ai hi hb h31
  refine va_WaastN (C := "ProcessMill$Term") hX.1 hX.2.1 (pm_at13 hR hk) ((hX.2.2.2.2.2.1.1.2 4 _ rfl).1 _ _) (fun h => by cases h) (by rw [arrV_size]; exact h1) rfl rfl hdg fun H1 e1 e2 e3 => ?_
  refine k p e R s m args below meth c9 Z hX hE H1 _ cells slots ls (hR.put (pm_off_sz S a n none) rfl e2 e3 (fun _ => pm_to13 hk ?_)) (pm_S.put hS e2 e3 (hR a (by omega)).1) hL hc9 hs9
  rw [e1, arrV_store]
  show some (arrV _ (pm_n S a) _) = some (arrV _ (pm_n S a) _)
  congr 2
  funext q
  simp only [updV, pm_z_sz, h2]
  by_cases hq : q = n <;> simp [hq, va_rf]
theorem pm_new {c index kc' ks' : Nat} {r : vw_C} (hr : vwCl[c]? = some r) (hw1 : Cond.classLink own index r.1 ∈ pm_ws) (hw2 : Cond.instantiable r.1 r.2.2 ∈ pm_ws) (hw3 : Cond.initialized r.1 ∈ pm_ws) (hkc : kc' + 1 ≤ kc) (hks : ks' + r.2.2 ≤ ks) (hdf : ∀ (S : pm_S) (a j : Nat), pm_k S a = 0 → j < r.2.2 → ∀ ty, pm_ty[c]? = some ty → defaultValue (ty j) = pm_fv (pm_nw S a (c + 1) 0) c a j) (hdg : decode cc pc = .ok (.new index, 3)) (k : ∀ a : Nat, pm_k S a = 0 → bs ≤ a → pm_W G l bs own cc nL ini d kc' ks' Q (pc + 3) L (.ref a :: rest) (pm_nw S a (c + 1) 0)) : pm_W G l bs own cc nL ini d kc ks Q pc L rest S := by
  intro p e R s m args below meth c9 Z hX hE H locs cells slots ls hR hS hL hc9 hs9
  obtain ⟨hin, ⟨ty, hty0, hty⟩, hnm, hc⟩ := pm_cl hr
  have hKn := hX.2.2.2.2.2.1.1.1 c _ hr
  have hf := pm_fresh hR
  have hb : bs ≤ H.size := Nat.le_trans hX.2.2.2.2.2.2.1 hS.1
  refine W.newcK hX.1 hX.2.1 hX.2.2.2.1 (hX.2.2.2.2.1 _ hw1) (hX.2.2.2.2.1 _ hw2) (hX.2.2.2.2.1 _ hw3) rfl hdg (by omega) (by omega) hKn.2.1 rfl fun H1 kC hkC e1 z1 o1 => ?_
  refine k H.size hf hb p e R s m args below meth c9 Z hX hE H1 locs (cells + 1) (slots + r.2.2) ls (hR.new hb z1 o1 (pm_at_ob hc (by rw [pm_k_nw, if_pos rfl]) ⟨_, hr, ?_⟩)) (pm_S.new hS z1 o1) hL (by omega) (by omega)
  exact (u_born ty hX.2.2.2.2.1 hin hKn hkC e1 hty).to (fun j hj => hdf S H.size j hf hj ty hty0)
theorem pm_newarrI {n : Int32} {N kc' ks' : Nat} (hn : n = nI N) (hN : N ≤ 1000000) (hw : Cond.arrayClass .int ∈ pm_ws) (hkc : kc' + 1 ≤ kc) (hks : ks' + N ≤ ks) (hdg : decode cc pc = .ok (.newarray .int, 2)) (k : ∀ a : Nat, pm_k S a = 0 → bs ≤ a → pm_W G l bs own cc nL ini d kc' ks' Q (pc + 2) L (.ref a :: rest) (pm_nw S a 9 N)) : pm_W G l bs own cc nL ini d kc ks Q pc L (.int n :: rest) S := by
  intro p e R s m args below meth c9 Z hX hE H locs cells slots ls hR hS hL hc9 hs9
  have hf := pm_fresh hR
  have hb : bs ≤ H.size := Nat.le_trans hX.2.2.2.2.2.2.1 hS.1
  subst hn
  refine va_newaK (atype := .int) (N := N) hX.1 hX.2.1 (hX.2.2.2.2.1 _ hw) rfl hdg rfl (nI_pos (by omega)) (nI_clamp (by omega)) (by show N * 4 ≤ _; omega) (by omega) (by omega) rfl fun H1 cA e1 z1 o1 hAr hNm => ?_
  have hcA : cA = G.2 0 := by
    have h9 : s.vm.findClass ("[" ++ (FieldType.int).toString) = some (G.2 0) := (hX.2.2.2.2.2.1.1.2 0 _ rfl).2
    exact Option.some.inj (hNm.symm.trans h9)
  subst hcA
  refine k H.size hf hb p e R s m args below meth c9 Z hX hE H1 locs (cells + 1) (slots + N) ls (hR.new hb z1 o1 (pm_to9 (by rw [pm_k_nw, if_pos rfl]) ?_)) (pm_S.new hS z1 o1) hL (by omega) (by omega)
  rw [e1, pm_n_nw, if_pos rfl]
  simp only [pm_x_nw, if_true]
  rfl
theorem pm_newarrZ {n : Int32} {N kc' ks' : Nat} (hn : n = nI N) (hN : N ≤ 1000000) (hw : Cond.arrayClass .boolean ∈ pm_ws) (hkc : kc' + 1 ≤ kc) (hks : ks' + N ≤ ks) (hdg : decode cc pc = .ok (.newarray .boolean, 2)) (k : ∀ a : Nat, pm_k S a = 0 → bs ≤ a → pm_W G l bs own cc nL ini d kc' ks' Q (pc + 2) L (.ref a :: rest) (pm_nw S a 10 N)) : pm_W G l bs own cc nL ini d kc ks Q pc L (.int n :: rest) S := by
  intro p e R s m args below meth c9 Z hX hE H locs cells slots ls hR hS hL hc9 hs9
  have hf := pm_fresh hR
  have hb : bs ≤ H.size := Nat.le_trans hX.2.2.2.2.2.2.1 hS.1
  subst hn
  refine va_newaK (atype := .boolean) (N := N) hX.1 hX.2.1 (hX.2.2.2.2.1 _ hw) rfl hdg rfl (nI_pos (by omega)) (nI_clamp (by omega)) (by show N * 1 ≤ _; omega) (by omega) (by omega) rfl fun H1 cA e1 z1 o1 hAr hNm => ?_
  have hcA : cA = G.2 1 := by
    have h9 : s.vm.findClass ("[" ++ (FieldType.boolean).toString) = some (G.2 1) := (hX.2.2.2.2.2.1.1.2 1 _ rfl).2
    exact Option.some.inj (hNm.symm.trans h9)
  subst hcA
  refine k H.size hf hb p e R s m args below meth c9 Z hX hE H1 locs (cells + 1) (slots + N) ls (hR.new hb z1 o1 (pm_to10 (by rw [pm_k_nw, if_pos rfl]) ?_)) (pm_S.new hS z1 o1) hL (by omega) (by omega)
  rw [e1, pm_n_nw, if_pos rfl]
  simp only [pm_x_nw, if_true]
  rfl
theorem pm_newarrJ {n : Int32} {N kc' ks' : Nat} (hn : n = nI N) (hN : N ≤ 1000000) (hw : Cond.arrayClass .long ∈ pm_ws) (hkc : kc' + 1 ≤ kc) (hks : ks' + N ≤ ks) (hdg : decode cc pc = .ok (.newarray .long, 2)) (k : ∀ a : Nat, pm_k S a = 0 → bs ≤ a → pm_W G l bs own cc nL ini d kc' ks' Q (pc + 2) L (.ref a :: rest) (pm_nw S a 11 N)) : pm_W G l bs own cc nL ini d kc ks Q pc L (.int n :: rest) S := by
  intro p e R s m args below meth c9 Z hX hE H locs cells slots ls hR hS hL hc9 hs9
  have hf := pm_fresh hR
  have hb : bs ≤ H.size := Nat.le_trans hX.2.2.2.2.2.2.1 hS.1
  subst hn
  refine va_newaK (atype := .long) (N := N) hX.1 hX.2.1 (hX.2.2.2.2.1 _ hw) rfl hdg rfl (nI_pos (by omega)) (nI_clamp (by omega)) (by show N * 8 ≤ _; omega) (by omega) (by omega) rfl fun H1 cA e1 z1 o1 hAr hNm => ?_
  have hcA : cA = G.2 2 := by
    have h9 : s.vm.findClass ("[" ++ (FieldType.long).toString) = some (G.2 2) := (hX.2.2.2.2.2.1.1.2 2 _ rfl).2
    exact Option.some.inj (hNm.symm.trans h9)
  subst hcA
  refine k H.size hf hb p e R s m args below meth c9 Z hX hE H1 locs (cells + 1) (slots + N) ls (hR.new hb z1 o1 (pm_to11 (by rw [pm_k_nw, if_pos rfl]) ?_)) (pm_S.new hS z1 o1) hL (by omega) (by omega)
  rw [e1, pm_n_nw, if_pos rfl]
  simp only [pm_y_nw, if_true]
  rfl
theorem pm_anewP {index : Nat} {n : Int32} {N kc' ks' : Nat} (hn : n = nI N) (hN : N ≤ 1000000) (hw : Cond.classLink own index "ProcessMill$Proc" ∈ pm_ws) (hkc : kc' + 1 ≤ kc) (hks : ks' + N ≤ ks) (hdg : decode cc pc = .ok (.anewarray index, 3)) (k : ∀ a : Nat, pm_k S a = 0 → bs ≤ a → pm_W G l bs own cc nL ini d kc' ks' Q (pc + 3) L (.ref a :: rest) (pm_nw S a 12 N)) : pm_W G l bs own cc nL ini d kc ks Q pc L (.int n :: rest) S := by
  intro p e R s m args below meth c9 Z hX hE H locs cells slots ls hR hS hL hc9 hs9
  have hf := pm_fresh hR
  have hb : bs ≤ H.size := Nat.le_trans hX.2.2.2.2.2.2.1 hS.1
  subst hn
  have hcl : (nI N).toNatClampNeg = N := nI_clamp (by omega)
  refine W.anew hX.1 hX.2.1 hX.2.2.2.1 (hX.2.2.2.2.1 _ hw) (va_AO.use (hX.2.2.2.2.2.1.2.2.1)) rfl hdg rfl (nI_pos (by omega)) (by rw [hcl]; omega) (by omega) (by rw [hcl]; omega) fun cA kA comp f1 f2 f3 f4 => ?_
  rw [hcl]
  obtain ⟨-, kA', comp', g1, g2, g3, g4⟩ := hX.2.2.2.2.2.1.1.2 3 _ rfl
  have hcA : cA = G.2 3 := Option.some.inj (f1.symm.trans g4)
  subst hcA
  generalize hH1 : H.push ({ cls := G.2 3, slots := Array.replicate N .null, vm := .none } : Cell) = H1
  have z1 : H1.size = H.size + 1 := by rw [← hH1, Array.size_push]
  have e1 : H1[H.size]? = some (arrV (G.2 3) N (fun _ => .null)) := by rw [← hH1, Array.getElem?_push_size, ← arrV_new]
  have o1 : ∀ q : Nat, q < H.size → H1[q]? = H[q]? := fun q hq => by rw [← hH1, Array.getElem?_push, if_neg (Nat.ne_of_lt hq)]
  refine k H.size hf hb p e R s m args below meth c9 Z hX hE H1 locs (cells + 1) (slots + N) ls (hR.new hb z1 o1 (pm_to12 (by rw [pm_k_nw, if_pos rfl]) ?_)) (pm_S.new hS z1 o1) hL (by omega) (by omega)
  rw [e1, pm_n_nw, if_pos rfl]
  simp only [pm_z_nw, if_true]
  rfl
theorem pm_anewT {index : Nat} {n : Int32} {N kc' ks' : Nat} (hn : n = nI N) (hN : N ≤ 1000000) (hw : Cond.classLink own index "ProcessMill$Term" ∈ pm_ws) (hkc : kc' + 1 ≤ kc) (hks : ks' + N ≤ ks) (hdg : decode cc pc = .ok (.anewarray index, 3)) (k : ∀ a : Nat, pm_k S a = 0 → bs ≤ a → pm_W G l bs own cc nL ini d kc' ks' Q (pc + 3) L (.ref a :: rest) (pm_nw S a 13 N)) : pm_W G l bs own cc nL ini d kc ks Q pc L (.int n :: rest) S := by
  intro p e R s m args below meth c9 Z hX hE H locs cells slots ls hR hS hL hc9 hs9
  have hf := pm_fresh hR
  have hb : bs ≤ H.size := Nat.le_trans hX.2.2.2.2.2.2.1 hS.1
  subst hn
  have hcl : (nI N).toNatClampNeg = N := nI_clamp (by omega)
  refine W.anew hX.1 hX.2.1 hX.2.2.2.1 (hX.2.2.2.2.1 _ hw) (va_AO.use (hX.2.2.2.2.2.1.2.2.2)) rfl hdg rfl (nI_pos (by omega)) (by rw [hcl]; omega) (by omega) (by rw [hcl]; omega) fun cA kA comp f1 f2 f3 f4 => ?_
  rw [hcl]
  obtain ⟨-, kA', comp', g1, g2, g3, g4⟩ := hX.2.2.2.2.2.1.1.2 4 _ rfl
  have hcA : cA = G.2 4 := Option.some.inj (f1.symm.trans g4)
  subst hcA
  generalize hH1 : H.push ({ cls := G.2 4, slots := Array.replicate N .null, vm := .none } : Cell) = H1
  have z1 : H1.size = H.size + 1 := by rw [← hH1, Array.size_push]
  have e1 : H1[H.size]? = some (arrV (G.2 4) N (fun _ => .null)) := by rw [← hH1, Array.getElem?_push_size, ← arrV_new]
  have o1 : ∀ q : Nat, q < H.size → H1[q]? = H[q]? := fun q hq => by rw [← hH1, Array.getElem?_push, if_neg (Nat.ne_of_lt hq)]
  refine k H.size hf hb p e R s m args below meth c9 Z hX hE H1 locs (cells + 1) (slots + N) ls (hR.new hb z1 o1 (pm_to13 (by rw [pm_k_nw, if_pos rfl]) ?_)) (pm_S.new hS z1 o1) hL (by omega) (by omega)
  rw [e1, pm_n_nw, if_pos rfl]
  simp only [pm_z_nw, if_true]
  rfl
theorem pm_ifnull_r {a : Nat} {off : Int} (hdg : decode cc pc = .ok (.ifnull off, 3)) (k : pm_W G l bs own cc nL ini d kc ks Q (pc + 3) L rest S) : pm_W G l bs own cc nL ini d kc ks Q pc L (.ref a :: rest) S := by
  intro p e R s m args below meth c9 Z hX hE H locs cells slots ls hR hS hL hc9 hs9
  exact lv_ifnull hX.1 hX.2.1 hdg (k p e R s m args below meth c9 Z hX hE H locs cells slots ls hR hS hL hc9 hs9)
theorem pm_ifnull_n {off : Int} {tgt : Nat} (hdg : decode cc pc = .ok (.ifnull off, 3)) (ht : (pc : Int) + off = (tgt : Int)) (k : pm_W G l bs own cc nL ini d kc ks Q tgt L rest S) : pm_W G l bs own cc nL ini d kc ks Q pc L (.null :: rest) S := by
  intro p e R s m args below meth c9 Z hX hE H locs cells slots ls hR hS hL hc9 hs9
  exact lv_ifnullN hX.1 hX.2.1 hdg ht (k p e R s m args below meth c9 Z hX hE H locs cells slots ls hR hS hL hc9 hs9)
theorem pm_ifnonnull_r {a : Nat} {off : Int} {tgt : Nat} (hdg : decode cc pc = .ok (.ifnonnull off, 3)) (ht : (pc : Int) + off = (tgt : Int)) (k : pm_W G l bs own cc nL ini d kc ks Q tgt L rest S) : pm_W G l bs own cc nL ini d kc ks Q pc L (.ref a :: rest) S := by
  intro p e R s m args below meth c9 Z hX hE H locs cells slots ls hR hS hL hc9 hs9
  exact lv_ifnonnull hX.1 hX.2.1 hdg ht (k p e R s m args below meth c9 Z hX hE H locs cells slots ls hR hS hL hc9 hs9)
theorem pm_ifnonnull_n {off : Int} (hdg : decode cc pc = .ok (.ifnonnull off, 3)) (k : pm_W G l bs own cc nL ini d kc ks Q (pc + 3) L rest S) : pm_W G l bs own cc nL ini d kc ks Q pc L (.null :: rest) S := by
  intro p e R s m args below meth c9 Z hX hE H locs cells slots ls hR hS hL hc9 hs9
  exact lv_ifnonnullN hX.1 hX.2.1 hdg (k p e R s m args below meth c9 Z hX hE H locs cells slots ls hR hS hL hc9 hs9)
theorem pm_acmp_eq {x y : Nat} {off : Int} {tgt : Nat} (hdg : decode cc pc = .ok (.if_acmp .eq off, 3)) (ht : (pc : Int) + off = (tgt : Int)) (kt : x = y → pm_W G l bs own cc nL ini d kc ks Q tgt L rest S) (kf : ¬ x = y → pm_W G l bs own cc nL ini d kc ks Q (pc + 3) L rest S) : pm_W G l bs own cc nL ini d kc ks Q pc L (.ref y :: .ref x :: rest) S := by
  intro p e R s m args below meth c9 Z hX hE H locs cells slots ls hR hS hL hc9 hs9
  exact lv_acmp_eq (rx := some x) (ry := some y) hX.1 hX.2.1 hdg ht (fun q => kt (Option.some.inj q) p e R s m args below meth c9 Z hX hE H locs cells slots ls hR hS hL hc9 hs9) (fun q => kf (fun z => q (by rw [z])) p e R s m args below meth c9 Z hX hE H locs cells slots ls hR hS hL hc9 hs9)
theorem pm_tableIn {dflt lo hi : Int} {offs : Array Int} {len : Nat} {x : Int32} {off : Int} {tgt : Nat} (hdg : decode cc pc = .ok (.tableswitch dflt lo hi offs, len)) (h1 : ¬ x.toInt < lo) (h2 : ¬ hi < x.toInt) (ho : offs[(x.toInt - lo).toNat]? = some off) (ht : (pc : Int) + off = (tgt : Int)) (k : pm_W G l bs own cc nL ini d kc ks Q tgt L rest S) : pm_W G l bs own cc nL ini d kc ks Q pc L (.int x :: rest) S := by
  intro p e R s m args below meth c9 Z hX hE H locs cells slots ls hR hS hL hc9 hs9
  exact lv_tableIn hX.1 hX.2.1 hdg h1 h2 ho ht (k p e R s m args below meth c9 Z hX hE H locs cells slots ls hR hS hL hc9 hs9)
theorem pm_tableOut {dflt lo hi : Int} {offs : Array Int} {len : Nat} {x : Int32} {tgt : Nat} (hdg : decode cc pc = .ok (.tableswitch dflt lo hi offs, len)) (h : x.toInt < lo ∨ hi < x.toInt) (ht : (pc : Int) + dflt = (tgt : Int)) (k : pm_W G l bs own cc nL ini d kc ks Q tgt L rest S) : pm_W G l bs own cc nL ini d kc ks Q pc L (.int x :: rest) S := by
  intro p e R s m args below meth c9 Z hX hE H locs cells slots ls hR hS hL hc9 hs9
  exact lv_tableOut hX.1 hX.2.1 hdg h ht (k p e R s m args below meth c9 Z hX hE H locs cells slots ls hR hS hL hc9 hs9)
end PMH
