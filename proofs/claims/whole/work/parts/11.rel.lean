/-! the tables, the heap that holds the small memory, the locals, the judgement pm_W -/
abbrev pm_G : Type := va_G × (Nat → ClassId)
/-- the words of the tables that every method knows -/
def pm_ws : List Cond := lw_tbl.filter goodWord
theorem pm_ws_tbl {w : Cond} (h : w ∈ pm_ws) : w ∈ lw_tbl := (List.mem_filter.mp h).1
theorem pm_ws_of {w : Cond} (h : w ∈ lw_tbl) (hg : goodWord w = true) : w ∈ pm_ws := List.mem_filter.mpr ⟨h, hg⟩
theorem pm_ws_good (big : List Cond) (h : ∀ w ∈ pm_ws, w ∈ big) : GoodIn big pm_ws := fun w hw => ⟨h w hw, good_of_word (List.mem_filter.mp hw).2⟩
def pm_nest : Cond → Bool
  | .fieldLinkNest .. => true
  | .methodLinkNest .. => true
  | .declares _ => true
  | .castable .. => true
  | _ => false
abbrev pm_tys (G : pm_G) : List (ClassId × FieldType) := [(G.2 0, .int), (G.2 1, .boolean), (G.2 2, .long), (G.2 3, .object "ProcessMill$Proc"), (G.2 4, .object "ProcessMill$Term")]
def pm_K (G : pm_G) (U : State) : Prop := va_K G.1 vwCl (pm_tys G) U ∧ (∀ w ∈ lw_tbl, pm_nest w = true → va_Nw w U) ∧ va_AO "ProcessMill$Proc" U ∧ va_AO "ProcessMill$Term" U
theorem pm_K.warm {G : pm_G} {s U : State} (hW : s.WarmedH U.vm) (h : pm_K G s) : pm_K G U := by
  obtain ⟨h1, h2, h3, h4⟩ := h
  refine ⟨va_K.moved hW.alike h1, fun w hw hn => ?_, va_AO.moved hW.alike h3, va_AO.moved hW.alike h4⟩
  have h := h2 w hw hn
  cases w <;> first | (simp [pm_nest] at hn; done) | exact va_Nw.warmF hW h | exact va_Nw.warmM hW h | exact va_Nw.warmD hW h | exact va_Nw.warmC hW h
theorem pm_nest_on {w : Cond} (h : pm_nest w = true) : w.onTables = true := by
  cases w <;> first | rfl | (simp [pm_nest] at h; done)
theorem pm_K.same {G : pm_G} {s U : State} (hv : s.vm = U.vm) (h : pm_K G s) : pm_K G U := by
  obtain ⟨h1, h2, h3, h4⟩ := h
  have ha : s.vm.Alike U.vm := by rw [hv]; exact Vm.Alike.refl _
  exact ⟨va_K.moved ha h1, fun w hw hn => va_Nw.same (pm_nest_on hn) hv (h2 w hw hn), va_AO.moved ha h3, va_AO.moved ha h4⟩
/-- of each class the sorts of its fields: 0 an int, 1 a reference, 2 a long -/
def pm_so : List (List Nat) := [[1, 0, 0], [0, 0, 1, 1, 1, 1, 0, 0, 0, 0, 2, 0, 0, 0, 2, 0], [1, 0], [1, 0], [1, 1, 1, 0, 0], [1, 1, 1, 0, 0], [1, 1, 1, 1, 1, 1, 1, 1, 0, 0, 0, 0, 0, 0, 0, 0],
  [1, 1, 1, 1, 1, 1, 1, 1, 1, 1, 1, 1, 1, 1, 1, 1, 1, 1, 1, 1, 1, 1, 1, 1, 1, 0, 0, 1, 1, 1, 0, 0, 1, 0, 1, 0, 0, 0, 0, 0, 0]]
def pm_sv (S : pm_S) (o f a : Nat) : Value := match o with
  | 0 => .int (pm_i S f a)
  | 1 => va_rf (pm_p S f a)
  | _ => .long (pm_j S f a)
/-- field number j of the object at a, of class number c -/
def pm_fv (S : pm_S) (c a j : Nat) : Value := pm_sv S ((pm_so.getD c []).getD j 0) (50 * c + j) a
def pm_ob (G : pm_G) (S : pm_S) (c a : Nat) (H : Heap) : Prop := ∃ r : vw_C, vwCl[c]? = some r ∧ t_OB a (G.1.1 c) r.2.2 (G.1.2 c) H (pm_fv S c a)
def pm_at (G : pm_G) (S : pm_S) (a : Nat) (H : Heap) : Prop :=
  if pm_k S a = 9 then H[a]? = some (arrV (G.2 0) (pm_n S a) (fun i => .int (pm_x S a i)))
  else if pm_k S a = 10 then H[a]? = some (arrV (G.2 1) (pm_n S a) (fun i => .int (pm_x S a i)))
  else if pm_k S a = 11 then H[a]? = some (arrV (G.2 2) (pm_n S a) (fun i => .long (pm_y S a i)))
  else if pm_k S a = 12 then H[a]? = some (arrV (G.2 3) (pm_n S a) (fun i => va_rf (pm_z S a i)))
  else if pm_k S a = 13 then H[a]? = some (arrV (G.2 4) (pm_n S a) (fun i => va_rf (pm_z S a i)))
  else pm_ob G S (pm_k S a - 1) a H
/-- the heap holds the small memory, all of it from bs on -/
def pm_R (G : pm_G) (bs : Nat) (S : pm_S) (H : Heap) : Prop := ∀ a, pm_k S a ≠ 0 → bs ≤ a ∧ a < H.size ∧ pm_at G S a H
/-- the two memories are the same but at a -/
def pm_off (S S' : pm_S) (a : Nat) : Prop := ∀ b, b ≠ a → pm_k S' b = pm_k S b ∧ pm_n S' b = pm_n S b ∧ (∀ g, pm_i S' g b = pm_i S g b) ∧ (∀ g, pm_j S' g b = pm_j S g b) ∧ (∀ g, pm_p S' g b = pm_p S g b) ∧ (∀ e, pm_x S' b e = pm_x S b e) ∧ (∀ e, pm_y S' b e = pm_y S b e) ∧ (∀ e, pm_z S' b e = pm_z S b e)
theorem pm_at_off {G : pm_G} {S S' : pm_S} {a b : Nat} {H H' : Heap} (ho : pm_off S S' a) (hb : b ≠ a) (hH : H'[b]? = H[b]?) (h : pm_at G S b H) : pm_at G S' b H' := by
  obtain ⟨e1, e2, e3, e4, e5, e6, e7, e8⟩ := ho b hb
  have hf : pm_fv S' (pm_k S b - 1) b = pm_fv S (pm_k S b - 1) b := by
    funext j
    unfold pm_fv pm_sv
    split <;> simp only [e3, e4, e5]
  unfold pm_at at h ⊢
  simp only [e1, e2, e6, e7, e8, hH]
  repeat' split at h <;> simp only [*, if_true, if_false] <;> try exact h
  all_goals
    unfold pm_ob at h ⊢
    rw [hf]
    obtain ⟨r, h1, h2⟩ := h
    exact ⟨r, h1, h2.kept hH⟩
theorem pm_R.put {G : pm_G} {bs : Nat} {S S' : pm_S} {a : Nat} {H H' : Heap} (h : pm_R G bs S H) (ho : pm_off S S' a) (hk : pm_k S' a = pm_k S a) (hz : H'.size = H.size) (hq : ∀ q : Nat, q ≠ a → H'[q]? = H[q]?) (ha : pm_k S a ≠ 0 → pm_at G S' a H') : pm_R G bs S' H' := by
  intro b hb
  by_cases e : b = a
  · subst e
    rw [hk] at hb
    obtain ⟨h1, h2, -⟩ := h b hb
    exact ⟨h1, by rw [hz]; exact h2, ha hb⟩
  · rw [(ho b e).1] at hb
    obtain ⟨h1, h2, h3⟩ := h b hb
    exact ⟨h1, by rw [hz]; exact h2, pm_at_off ho e (hq b e) h3⟩
theorem pm_R.new {G : pm_G} {bs : Nat} {S : pm_S} {k n : Nat} {H H' : Heap} (h : pm_R G bs S H) (hb : bs ≤ H.size) (hz : H'.size = H.size + 1) (hq : ∀ q : Nat, q < H.size → H'[q]? = H[q]?) (ha : pm_at G (pm_nw S H.size k n) H.size H') : pm_R G bs (pm_nw S H.size k n) H' := by
  intro b hb2
  by_cases e : b = H.size
  · subst e
    exact ⟨hb, by omega, ha⟩
  · rw [pm_k_nw, if_neg e] at hb2
    obtain ⟨h1, h2, h3⟩ := h b hb2
    refine ⟨h1, by omega, pm_at_off (fun c hc => ?_) e (hq b h2) h3⟩
    refine ⟨?_, ?_, fun g => ?_, fun g => ?_, fun g => ?_, fun g => ?_, fun g => ?_, fun g => ?_⟩ <;> simp only [pm_k_nw, pm_n_nw, pm_i_nw, pm_j_nw, pm_p_nw, pm_x_nw, pm_y_nw, pm_z_nw, if_neg hc]
theorem pm_R.ob {G : pm_G} {bs : Nat} {S : pm_S} {a c : Nat} {H : Heap} (h : pm_R G bs S H) (hc : c < 8) (hk : pm_k S a = c + 1) : pm_ob G S c a H := by
  have h1 := (h a (by omega)).2.2
  unfold pm_at at h1
  rw [if_neg (by omega), if_neg (by omega), if_neg (by omega), if_neg (by omega), if_neg (by omega)] at h1
  rw [hk] at h1
  exact h1
theorem pm_at_ob {G : pm_G} {S : pm_S} {a c : Nat} {H : Heap} (hc : c < 8) (hk : pm_k S a = c + 1) (h : pm_ob G S c a H) : pm_at G S a H := by
  unfold pm_at
  rw [if_neg (by omega), if_neg (by omega), if_neg (by omega), if_neg (by omega), if_neg (by omega), hk]
  exact h
