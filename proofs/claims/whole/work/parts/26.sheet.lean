/-! Sheet: h the object, k what is kept -/
def pm_sh (S : pm_S) (h k : Nat) : Prop := pm_k S h = 3 ∧ pm_p S 100 h = some k ∧ pm_k S k = 9 ∧ pm_n S k = 600
theorem pm_lei {n : Nat} {i : Int32} (hi : ¬ i < 0) (hn : n < 2 ^ 31) : nI n ≤ i ↔ (n : Int) ≤ i.toInt := by rw [Int32.le_iff_toInt_le, nI_toInt hn]
set_option maxHeartbeats 4000000 in
set_option maxRecDepth 100000 in
theorem c_X2_init (G : pm_G) (l : Launch) (bs : Nat) (v : Nat) (S : pm_S) (hk : pm_k S v = 3) : pm_M G l bs yX2_init cX2_init 1 none 1 1 600 [.ref v] S (pm_qv (fun S2 => ∃ k, pm_k S k = 0 ∧ bs ≤ k ∧ S2 = pm_si (pm_sp (pm_nw S k 9 600) 100 v (some k)) 101 v 0)) := by
  refine pm_Mv (L := [.ref v]) true (by decide +kernel) (fun _ => rfl) rfl (pm_en_1 rfl (pm_en_0 rfl)) ?_
  generalize hQ9 : pm_xv (fun S2 => ∃ k, pm_k S k = 0 ∧ bs ≤ k ∧ S2 = pm_si (pm_sp (pm_nw S k 9 600) 100 v (some k)) 101 v 0) = Q9
  refine pm_aload_n dX2_init_0 rfl ?_
  refine pm_objInit pm_m_X2_3 pm_oi pm_oc (by decide) (Nat.le_of_ble_eq_true rfl) dX2_init_1 ?_
  refine pm_aload_n dX2_init_4 rfl ?_
  refine pm_sipush (v := 600) dX2_init_5 (by decide) ?_
  refine pm_newarrI (N := 600) rfl (by decide) pm_ac_int (kc' := 0) (ks' := 0) (by decide) (by decide) dX2_init_8 (fun r8 hf8 hb8 => ?_)
  have n8 : v ≠ r8 := fun e => by subst e; simp only [pm_k_si, pm_k_sp, pm_k_nw, hk] at hf8; exact absurd hf8 (by decide)
  refine pm_p_Sheet_kept (by simp only [pm_k_si, pm_k_sp, pm_k_nw, if_neg n8]; exact hk) pm_f_X2_11 rfl rfl pm_fw_X2_11 dX2_init_10 ?_
  refine pm_aload_n dX2_init_13 rfl ?_
  refine pm_iconst (v := 0) dX2_init_14 (by decide) ?_
  refine pm_p_Sheet_printed (by simp only [pm_k_si, pm_k_sp, pm_k_nw, if_neg n8]; exact hk) pm_f_X2_15 dX2_init_15 ?_
  subst hQ9
  refine pm_vret dX2_init_18 ?_
  exact ⟨r8, hf8, hb8, rfl⟩

set_option maxHeartbeats 4000000 in
set_option maxRecDepth 100000 in
theorem c_X2_numberAt (G : pm_G) (l : Launch) (bs : Nat) (h k n : Nat) (i : Int32) (S : pm_S) (hs : pm_sh S h k) (hn : pm_i S 101 h = nI n) (hn3 : n < 2 ^ 31) : pm_M G l bs yX2_numberAt cX2_numberAt 2 (some .int) 1 0 0 [.ref h, .int i] S (pm_qi (fun x S2 => x = (if 0 ≤ i ∧ i.toInt < min n 600 then pm_x S k i.toInt.toNat else -1) ∧ S2 = S)) := by
  obtain ⟨hk, hp, hkk, hnk⟩ := hs
  refine pm_Mi (L := [.ref h, .int i]) (by decide +kernel) rfl (pm_en_1 rfl (pm_en_1 rfl (pm_en_0 rfl))) ?_
  generalize hQ9 : pm_xi (fun x S2 => x = (if 0 ≤ i ∧ i.toInt < min n 600 then pm_x S k i.toInt.toNat else -1) ∧ S2 = S) = Q9
  refine pm_iload_n dX2_numberAt_0 rfl ?_
  refine pm_if_lt (tgt := 27) dX2_numberAt_1 (by decide) (fun h1 => ?_) (fun h1 => ?_)
  · skip
    have h9 : ¬ (0 ≤ i ∧ i.toInt < min n 600) := fun z => by have := pm_0le.mp z.1; have := pm_lt0.mp h1; omega
    refine pm_iconst (v := (-1)) dX2_numberAt_27 (by decide) ?_
    subst hQ9
    refine pm_iret dX2_numberAt_28 ?_
    refine ⟨?_, rfl⟩
    first | (rw [if_neg h9]; done) | (rw [if_pos h9, nI_toInt hm]; rfl)
  · skip
    refine pm_iload_n dX2_numberAt_4 rfl ?_
    refine pm_aload_n dX2_numberAt_5 rfl ?_
    refine pm_g_Sheet_printed (by (try simp only [pm_k_si, pm_k_sj, pm_k_sp, pm_k_sx, pm_k_sz, pm_k_sr, pm_k_sy]); assumption) pm_f_X2_15 dX2_numberAt_6 ?_
    refine pm_sipush (v := 600) dX2_numberAt_9 (by decide) ?_
    rw [hn]
    refine pm_ssi (c_J9_min G l bs _ _ S) pm_y_J9_min_7cf53 pm_s_J9_min_7cf53 pm_m_X2_27 dX2_numberAt_12 rfl rfl (by decide) (Nat.le_of_ble_eq_true rfl) (fun x12 S12 h12 => ?_)
    obtain ⟨rfl, rfl⟩ := h12
    rw [show (600 : Int32) = nI 600 from rfl, pm_minI (by omega) (by omega)]
    refine pm_icmp_ge (tgt := 27) dX2_numberAt_15 (by decide) (fun h15 => ?_) (fun h15 => ?_)
    · skip
      have h9 : ¬ (0 ≤ i ∧ i.toInt < min n 600) := fun z => by have := (pm_lei h1 (by omega)).mp h15; omega
      refine pm_iconst (v := (-1)) dX2_numberAt_27 (by decide) ?_
      subst hQ9
      refine pm_iret dX2_numberAt_28 ?_
      refine ⟨?_, rfl⟩
      first | (rw [if_neg h9]; done) | (rw [if_pos h9, nI_toInt hm]; rfl)
    · skip
      obtain ⟨m, hm, rfl⟩ := nI_of h1
      have hlt : m < min n 600 := by rcases Nat.lt_or_ge m (min n 600) with q | q; exact q; exact absurd ((pm_nle (by omega) (by omega)).mpr q) h15
      have h9 : 0 ≤ nI m ∧ (nI m).toInt < min n 600 := ⟨nI_pos' hm, by have := nI_toInt hm; omega⟩
      refine pm_aload_n dX2_numberAt_18 rfl ?_
      refine pm_g_Sheet_kept (by (try simp only [pm_k_si, pm_k_sj, pm_k_sp, pm_k_sx, pm_k_sz, pm_k_sr, pm_k_sy]); assumption) pm_f_X2_11 (by (try simp only [pm_p_si, pm_p_sj, pm_p_sx, pm_p_sz, pm_p_sr, pm_p_sy]); assumption) dX2_numberAt_19 ?_
      refine pm_iload_n dX2_numberAt_22 rfl ?_
      refine pm_iaload (n := m) (by (try simp only [pm_k_si, pm_k_sj, pm_k_sp, pm_k_sx, pm_k_sz, pm_k_sr, pm_k_sy]); assumption) rfl (by first | omega | (simp only [pm_n_sx, pm_n_si, pm_n_sr, pm_n_sz, pm_n_sp, pm_n_sj, pm_n_sy]; omega)) (by first | omega | (simp only [pm_n_sx, pm_n_si, pm_n_sr, pm_n_sz, pm_n_sp, pm_n_sj, pm_n_sy]; omega)) dX2_numberAt_23 ?_
      refine pm_goto (tgt := 28) dX2_numberAt_24 (by decide) ?_
      subst hQ9
      refine pm_iret dX2_numberAt_28 ?_
      refine ⟨?_, rfl⟩
      first | (rw [if_neg h9]; done) | (rw [if_pos h9, nI_toInt hm]; rfl)

set_option maxHeartbeats 4000000 in
set_option maxRecDepth 100000 in
theorem c_X2_print (G : pm_G) (l : Launch) (bs : Nat) (h k n t r : Nat) (w : List Int32) (S : pm_S) (hs : pm_sh S h k) (hn : pm_i S 101 h = nI n) (hn3 : n + w.length < 2 ^ 31) (ht : pm_tm S t r w) (hrk : r ≠ k) : pm_M G l bs yX2_print cX2_print 3 none 0 0 0 [.ref h, .ref t] S (pm_qv (fun S2 => pm_fr S S2 (fun g b => g = 101 ∧ b = h) (fun b => b = k) ∧ pm_i S2 101 h = nI (n + w.length) ∧ (∀ i, i < 600 → pm_x S2 k i = if n ≤ i ∧ i < n + w.length then w.getD (i - n) 0 else pm_x S k i))) := by
  obtain ⟨hk, hp, hkk, hnk⟩ := hs
  obtain ⟨⟨hkt, hpt, hkr, hnr⟩, hlen, hle, hx⟩ := ht
  refine pm_Mv (L := [.ref h, .ref t, pm_u]) false (by decide +kernel) (fun h => by cases h) rfl (pm_en_1 rfl (pm_en_1 rfl (pm_en_0 rfl))) ?_
  generalize hQ9 : pm_xv (fun S2 => pm_fr S S2 (fun g b => g = 101 ∧ b = h) (fun b => b = k) ∧ pm_i S2 101 h = nI (n + w.length) ∧ (∀ i, i < 600 → pm_x S2 k i = if n ≤ i ∧ i < n + w.length then w.getD (i - n) 0 else pm_x S k i)) = Q9
  have loop : ∀ (m j : Nat) (S9 : pm_S), j + m = w.length → pm_fr S S9 (fun g b => g = 101 ∧ b = h) (fun b => b = k) → pm_i S9 101 h = nI (n + j) → (∀ i, i < 600 → pm_x S9 k i = if n ≤ i ∧ i < n + j then w.getD (i - n) 0 else pm_x S k i) → pm_W G l bs yX2_print.cls cX2_print 3 false 0 0 0 Q9 2 [.ref h, .ref t, .int (nI j)] [] S9 := by
    intro m
    induction m using Nat.strongRecOn with
    | ind m ih =>
    intro j S9 hjm hf hi9 hx9
    have hk9 : pm_k S9 h = 3 := by rw [hf.1]; exact hk
    have hp9 : pm_p S9 100 h = some k := by rw [(hf.2.2.1 100 h (by omega)).2.2]; exact hp
    have hkk9 : pm_k S9 k = 9 := by rw [hf.1]; exact hkk
    have hnk9 : pm_n S9 k = 600 := by rw [hf.2.1]; exact hnk
    have hkt9 : pm_k S9 t = 4 := by rw [hf.1]; exact hkt
    have hpt9 : pm_p S9 150 t = some r := by rw [(hf.2.2.1 150 t (by omega)).2.2]; exact hpt
    have hkr9 : pm_k S9 r = 9 := by rw [hf.1]; exact hkr
    have hnr9 : pm_n S9 r = 95 := by rw [hf.2.1]; exact hnr
    have hl9 : pm_i S9 151 t = nI w.length := by rw [(hf.2.2.1 151 t (by omega)).1]; exact hlen
    refine pm_iload_n dX2_print_2 rfl ?_
    refine pm_aload_n dX2_print_3 rfl ?_
    refine pm_g_Term_length (by (try simp only [pm_k_si, pm_k_sj, pm_k_sp, pm_k_sx, pm_k_sz, pm_k_sr, pm_k_sy]); assumption) pm_f_X2_19 dX2_print_4 ?_
    rw [hl9]
    refine pm_icmp_ge (tgt := 51) dX2_print_7 (by decide) (fun h7 => ?_) (fun h7 => ?_)
    · skip
      have h8 : j = w.length := by have := (pm_nle (by omega) (by omega)).mp h7; omega
      subst h8
      subst hQ9
      refine pm_vret dX2_print_51 ?_
      exact ⟨hf, hi9, hx9⟩
    · skip
      have h8 : j < w.length := by rcases Nat.lt_or_ge j w.length with q | q; exact q; exact absurd ((pm_nle (by omega) (by omega)).mpr q) h7
      obtain ⟨m, rfl⟩ : ∃ m2, m = m2 + 1 := ⟨m - 1, by omega⟩
      have hwj : w.getD j 0 = pm_x S9 r j := by rw [(hf.2.2.2 r hrk).1, List.getD_eq_getElem?_getD, hx j h8]; rfl
      refine pm_aload_n dX2_print_10 rfl ?_
      refine pm_g_Sheet_printed (by (try simp only [pm_k_si, pm_k_sj, pm_k_sp, pm_k_sx, pm_k_sz, pm_k_sr, pm_k_sy]); assumption) pm_f_X2_15 dX2_print_11 ?_
      refine pm_sipush (v := 600) dX2_print_14 (by decide) ?_
      rw [hi9]
      refine pm_icmp_ge (tgt := 35) dX2_print_17 (by decide) (fun h17 => ?_) (fun h17 => ?_)
      · skip
        have h5 : 600 ≤ n + j := (pm_nle (a := 600) (by omega) (by omega)).mp h17
        refine pm_aload_n dX2_print_35 rfl ?_
        refine pm_dup dX2_print_36 ?_
        refine pm_g_Sheet_printed (by (try simp only [pm_k_si, pm_k_sj, pm_k_sp, pm_k_sx, pm_k_sz, pm_k_sr, pm_k_sy]); assumption) pm_f_X2_15 dX2_print_37 ?_
        refine pm_iconst (v := 1) dX2_print_40 (by decide) ?_
        refine pm_iadd dX2_print_41 ?_
        refine pm_p_Sheet_printed (by (try simp only [pm_k_si, pm_k_sj, pm_k_sp, pm_k_sx, pm_k_sz, pm_k_sr, pm_k_sy]); assumption) pm_f_X2_15 dX2_print_42 ?_
        refine pm_iinc dX2_print_45 rfl rfl (by decide) ?_
        dsimp only [List.set]
        refine pm_goto (tgt := 2) dX2_print_48 (by decide) ?_
        rw [show nI j + Int32.ofInt 1 = nI (j + 1) from nI_1 _]
        first
        | (refine ih m (by omega) (j + 1) _ (by omega) ((hf.tr (pm_fr_sx rfl)).tr (pm_fr_si ⟨rfl, rfl⟩)) ?_ (fun i hi => ?_)
           · rw [pm_i_si, if_pos ⟨rfl, rfl⟩, pm_i_sx, hi9, nI_1]; rfl
           · rw [pm_x_si, pm_x_sx, hx9 i hi, ← hwj]
             by_cases e : i = n + j
             · subst e; rw [if_pos ⟨rfl, rfl⟩, if_pos ⟨by omega, by omega⟩]; congr 1; omega
             · rw [if_neg (fun z => e z.2)]; by_cases e2 : n ≤ i ∧ i < n + j
               · rw [if_pos e2, if_pos ⟨e2.1, by omega⟩]
               · rw [if_neg e2, if_neg (by omega)])
        | (refine ih m (by omega) (j + 1) _ (by omega) (hf.tr (pm_fr_si ⟨rfl, rfl⟩)) ?_ (fun i hi => ?_)
           · rw [pm_i_si, if_pos ⟨rfl, rfl⟩, hi9, nI_1]; rfl
           · rw [pm_x_si, hx9 i hi]
             by_cases e2 : n ≤ i ∧ i < n + j
             · rw [if_pos e2, if_pos ⟨e2.1, by omega⟩]
             · rw [if_neg e2, if_neg (by omega)])
      · skip
        have h5 : n + j < 600 := by rcases Nat.lt_or_ge (n + j) 600 with q | q; exact q; exact absurd ((pm_nle (a := 600) (by omega) (by omega)).mpr q) h17
        refine pm_aload_n dX2_print_20 rfl ?_
        refine pm_g_Sheet_kept (by (try simp only [pm_k_si, pm_k_sj, pm_k_sp, pm_k_sx, pm_k_sz, pm_k_sr, pm_k_sy]); assumption) pm_f_X2_11 (by (try simp only [pm_p_si, pm_p_sj, pm_p_sx, pm_p_sz, pm_p_sr, pm_p_sy]); assumption) dX2_print_21 ?_
        refine pm_aload_n dX2_print_24 rfl ?_
        refine pm_g_Sheet_printed (by (try simp only [pm_k_si, pm_k_sj, pm_k_sp, pm_k_sx, pm_k_sz, pm_k_sr, pm_k_sy]); assumption) pm_f_X2_15 dX2_print_25 ?_
        refine pm_aload_n dX2_print_28 rfl ?_
        refine pm_g_Term_row (by (try simp only [pm_k_si, pm_k_sj, pm_k_sp, pm_k_sx, pm_k_sz, pm_k_sr, pm_k_sy]); assumption) pm_f_X2_24 (by (try simp only [pm_p_si, pm_p_sj, pm_p_sx, pm_p_sz, pm_p_sr, pm_p_sy]); assumption) dX2_print_29 ?_
        refine pm_iload_n dX2_print_32 rfl ?_
        refine pm_iaload (n := j) (by (try simp only [pm_k_si, pm_k_sj, pm_k_sp, pm_k_sx, pm_k_sz, pm_k_sr, pm_k_sy]); assumption) rfl (by first | omega | (simp only [pm_n_sx, pm_n_si, pm_n_sr, pm_n_sz, pm_n_sp, pm_n_sj, pm_n_sy]; omega)) (by first | omega | (simp only [pm_n_sx, pm_n_si, pm_n_sr, pm_n_sz, pm_n_sp, pm_n_sj, pm_n_sy]; omega)) dX2_print_33 ?_
        refine pm_iastore (n := n + j) (by (try simp only [pm_k_si, pm_k_sj, pm_k_sp, pm_k_sx, pm_k_sz, pm_k_sr, pm_k_sy]); assumption) hi9 (by first | omega | (simp only [pm_n_sx, pm_n_si, pm_n_sr, pm_n_sz, pm_n_sp, pm_n_sj, pm_n_sy]; omega)) (by first | omega | (simp only [pm_n_sx, pm_n_si, pm_n_sr, pm_n_sz, pm_n_sp, pm_n_sj, pm_n_sy]; omega)) dX2_print_34 ?_
        refine pm_aload_n dX2_print_35 rfl ?_
        refine pm_dup dX2_print_36 ?_
        refine pm_g_Sheet_printed (by (try simp only [pm_k_si, pm_k_sj, pm_k_sp, pm_k_sx, pm_k_sz, pm_k_sr, pm_k_sy]); assumption) pm_f_X2_15 dX2_print_37 ?_
        refine pm_iconst (v := 1) dX2_print_40 (by decide) ?_
        refine pm_iadd dX2_print_41 ?_
        refine pm_p_Sheet_printed (by (try simp only [pm_k_si, pm_k_sj, pm_k_sp, pm_k_sx, pm_k_sz, pm_k_sr, pm_k_sy]); assumption) pm_f_X2_15 dX2_print_42 ?_
        refine pm_iinc dX2_print_45 rfl rfl (by decide) ?_
        dsimp only [List.set]
        refine pm_goto (tgt := 2) dX2_print_48 (by decide) ?_
        rw [show nI j + Int32.ofInt 1 = nI (j + 1) from nI_1 _]
        first
        | (refine ih m (by omega) (j + 1) _ (by omega) ((hf.tr (pm_fr_sx rfl)).tr (pm_fr_si ⟨rfl, rfl⟩)) ?_ (fun i hi => ?_)
           · rw [pm_i_si, if_pos ⟨rfl, rfl⟩, pm_i_sx, hi9, nI_1]; rfl
           · rw [pm_x_si, pm_x_sx, hx9 i hi, ← hwj]
             by_cases e : i = n + j
             · subst e; rw [if_pos ⟨rfl, rfl⟩, if_pos ⟨by omega, by omega⟩]; congr 1; omega
             · rw [if_neg (fun z => e z.2)]; by_cases e2 : n ≤ i ∧ i < n + j
               · rw [if_pos e2, if_pos ⟨e2.1, by omega⟩]
               · rw [if_neg e2, if_neg (by omega)])
        | (refine ih m (by omega) (j + 1) _ (by omega) (hf.tr (pm_fr_si ⟨rfl, rfl⟩)) ?_ (fun i hi => ?_)
           · rw [pm_i_si, if_pos ⟨rfl, rfl⟩, hi9, nI_1]; rfl
           · rw [pm_x_si, hx9 i hi]
             by_cases e2 : n ≤ i ∧ i < n + j
             · rw [if_pos e2, if_pos ⟨e2.1, by omega⟩]
             · rw [if_neg e2, if_neg (by omega)])
  refine pm_iconst (v := 0) dX2_print_0 (by decide) ?_
  refine pm_istn dX2_print_1 (i := 2) rfl (by decide) ?_
  dsimp only [List.set]
  exact loop w.length 0 S (by omega) pm_fr.rf hn (fun i _ => by rw [if_neg (by omega)])

