/-! a reason behind a head; a new term -/
def tl_r (w u : List Int32) : List Int32 := if 95 < w.length + u.length then w ++ [1, 5] else w ++ u
theorem pm_tm.ft {S S' : pm_S} {t r a b : Nat} {w : List Int32} (h : pm_tm S t r w) (hf : pm_ft S S' a b) (h1 : t ≠ a) (h2 : r ≠ b) : pm_tm S' t r w := h.fr hf (fun z => by omega) (fun z => h1 z.2) (fun z => h2 z)
set_option maxHeartbeats 4000000 in
set_option maxRecDepth 100000 in
theorem c_X3_addReason (G : pm_G) (l : Launch) (bs : Nat) (t r t2 r2 : Nat) (w u : List Int32) (S : pm_S) (h1 : pm_tm S t r w) (h2 : pm_tm S t2 r2 u) (h0 : w.length + 2 ≤ 95) : pm_M G l bs yX3_addReason cX3_addReason 2 none 1 0 0 [.ref t, .ref t2] S (pm_qv (fun S2 => pm_ft S S2 t r ∧ pm_tm S2 t r (tl_r w u))) := by
  obtain ⟨⟨hk1, hp1, hkr1, hnr1⟩, hlen1, hle1, hx1⟩ := id h1
  obtain ⟨⟨hk2, hp2, hkr2, hnr2⟩, hlen2, hle2, hx2⟩ := h2
  refine pm_Mv (L := [.ref t, .ref t2]) false (by decide +kernel) (fun h => by cases h) rfl (pm_en_1 rfl (pm_en_1 rfl (pm_en_0 rfl))) ?_
  generalize hQ9 : pm_xv (fun S2 => pm_ft S S2 t r ∧ pm_tm S2 t r (tl_r w u)) = Q9
  refine pm_aload_n dX3_addReason_0 rfl ?_
  refine pm_g_Term_length (by (try simp only [pm_k_si, pm_k_sj, pm_k_sp, pm_k_sx, pm_k_sz, pm_k_sr, pm_k_sy]); assumption) pm_f_X3_15 dX3_addReason_1 ?_
  refine pm_aload_n dX3_addReason_4 rfl ?_
  refine pm_g_Term_length (by (try simp only [pm_k_si, pm_k_sj, pm_k_sp, pm_k_sx, pm_k_sz, pm_k_sr, pm_k_sy]); assumption) pm_f_X3_15 dX3_addReason_5 ?_
  refine pm_iadd dX3_addReason_8 ?_
  refine pm_bipush (v := 95) dX3_addReason_9 (by decide) ?_
  have e11 : pm_i S 151 t + pm_i S 151 t2 = nI (w.length + u.length) := by rw [hlen1, hlen2, nI_add]
  refine pm_icmp_le (tgt := 21) dX3_addReason_11 (by decide) (fun h11 => ?_) (fun h11 => ?_)
  · skip
    have h9 : ¬ 95 < w.length + u.length := by rw [e11] at h11; have := (pm_nle (b := 95) (by omega) (by omega)).mp h11; omega
    refine pm_aload_n dX3_addReason_21 rfl ?_
    refine pm_g_Term_row (by (try simp only [pm_k_si, pm_k_sj, pm_k_sp, pm_k_sx, pm_k_sz, pm_k_sr, pm_k_sy]); assumption) pm_f_X3_11 (by (try simp only [pm_p_si, pm_p_sj, pm_p_sx, pm_p_sz, pm_p_sr, pm_p_sy]); assumption) dX3_addReason_22 ?_
    refine pm_iconst (v := 0) dX3_addReason_25 (by decide) ?_
    refine pm_aload_n dX3_addReason_26 rfl ?_
    refine pm_g_Term_row (by (try simp only [pm_k_si, pm_k_sj, pm_k_sp, pm_k_sx, pm_k_sz, pm_k_sr, pm_k_sy]); assumption) pm_f_X3_11 (by (try simp only [pm_p_si, pm_p_sj, pm_p_sx, pm_p_sz, pm_p_sr, pm_p_sy]); assumption) dX3_addReason_27 ?_
    refine pm_aload_n dX3_addReason_30 rfl ?_
    refine pm_g_Term_length (by (try simp only [pm_k_si, pm_k_sj, pm_k_sp, pm_k_sx, pm_k_sz, pm_k_sr, pm_k_sy]); assumption) pm_f_X3_15 dX3_addReason_31 ?_
    refine pm_aload_n dX3_addReason_34 rfl ?_
    refine pm_g_Term_length (by (try simp only [pm_k_si, pm_k_sj, pm_k_sp, pm_k_sx, pm_k_sz, pm_k_sr, pm_k_sy]); assumption) pm_f_X3_15 dX3_addReason_35 ?_
    refine pm_copy (sp := 0) (dp := w.length) (n0 := u.length) hkr2 hkr1 nI_0.symm hlen1 hlen2 (by omega) (by omega) (by omega) (by omega) pm_m_X3_27 pm_an pm_as pm_ii_J10 (by decide) (Nat.le_of_ble_eq_true rfl) dX3_addReason_38 ?_
    refine pm_aload_n dX3_addReason_41 rfl ?_
    refine pm_dup dX3_addReason_42 ?_
    refine pm_g_Term_length (by (try simp only [pm_k_si, pm_k_sj, pm_k_sp, pm_k_sx, pm_k_sz, pm_k_sr, pm_k_sy]); assumption) pm_f_X3_15 dX3_addReason_43 ?_
    refine pm_aload_n dX3_addReason_46 rfl ?_
    refine pm_g_Term_length (by (try simp only [pm_k_si, pm_k_sj, pm_k_sp, pm_k_sx, pm_k_sz, pm_k_sr, pm_k_sy]); assumption) pm_f_X3_15 dX3_addReason_47 ?_
    refine pm_iadd dX3_addReason_50 ?_
    refine pm_p_Term_length (by (try simp only [pm_k_si, pm_k_sj, pm_k_sp, pm_k_sx, pm_k_sz, pm_k_sr, pm_k_sy]); assumption) pm_f_X3_15 dX3_addReason_51 ?_
    subst hQ9
    refine pm_vret dX3_addReason_54 ?_
    rw [tl_r, if_neg h9]
    refine ⟨pm_ft.rf.r.l, ⟨hk1, hp1, hkr1, hnr1⟩, ?_, by simp; omega, fun i hi => ?_⟩
    · rw [pm_i_si, if_pos ⟨rfl, rfl⟩, pm_i_sr, pm_i_sr, e11, List.length_append]
    · rw [pm_x_si, pm_x_sr, if_pos rfl]
      simp only [List.length_append] at hi
      by_cases e : i < w.length
      · rw [pk_cpy_out (by omega), List.getElem?_append_left e]
        exact hx1 i e
      · rw [pk_cpy_in (by omega) (by omega), List.getElem?_append_right (by omega), Nat.zero_add]
        exact hx2 _ (by omega)
  · skip
    have h9 : 95 < w.length + u.length := by rcases Nat.lt_or_ge 95 (w.length + u.length) with q | q; exact q; exact absurd ((pm_nle (b := 95) (by omega) (by omega)).mpr q) (by rw [← e11]; exact h11)
    refine pm_aload_n dX3_addReason_14 rfl ?_
    refine pm_iconst (v := 1) dX3_addReason_15 (by decide) ?_
    refine pm_iconst (v := 5) dX3_addReason_16 (by decide) ?_
    refine pm_vv (c_X3_addSingle G l bs t r w 1 5 _ h1 h0) pm_y_X3_addSingle pm_v_X3_addSingle pm_m_X3_23 (c := 3) (r := (RX3, TX3, 2)) rfl rfl (by (try simp only [pm_k_si, pm_k_sj, pm_k_sp, pm_k_sx, pm_k_sz, pm_k_sr, pm_k_sy]); assumption) dX3_addReason_17 rfl rfl (by decide) (Nat.le_of_ble_eq_true rfl) (fun S17 h17 => ?_)
    subst hQ9
    refine pm_vret dX3_addReason_20 ?_
    exact ⟨h17.1, by rw [tl_r, if_pos h9]; exact h17.2⟩

set_option maxHeartbeats 4000000 in
set_option maxRecDepth 100000 in
theorem c_X3_setExit (G : pm_G) (l : Launch) (bs : Nat) (t r t2 r2 : Nat) (u : List Int32) (q : Int32) (S : pm_S) (h : pm_to S t r) (h2 : pm_tm S t2 r2 u) (n1 : t2 ≠ t) (n2 : r2 ≠ r) : pm_M G l bs yX3_setExit cX3_setExit 3 none 2 0 0 [.ref t, .int q, .ref t2] S (pm_qv (fun S2 => pm_ft S S2 t r ∧ pm_tm S2 t r (tl_r [-1, 1, 6, -1, 2, q] u))) := by
  refine pm_Mv (L := [.ref t, .int q, .ref t2]) false (by decide +kernel) (fun h => by cases h) rfl (pm_en_1 rfl (pm_en_1 rfl (pm_en_1 rfl (pm_en_0 rfl)))) ?_
  generalize hQ9 : pm_xv (fun S2 => pm_ft S S2 t r ∧ pm_tm S2 t r (tl_r [-1, 1, 6, -1, 2, q] u)) = Q9
  refine pm_aload_n dX3_setExit_0 rfl ?_
  refine pm_iconst (v := 0) dX3_setExit_1 (by decide) ?_
  refine pm_p_Term_length h.1 pm_f_X3_15 dX3_setExit_2 ?_
  have f0 : pm_ft S (pm_si S 151 t 0) t r := pm_ft.rf.l
  have t0 := pm_tm_0 h
  refine pm_aload_n dX3_setExit_5 rfl ?_
  refine pm_vv (c_X3_addPairSign G l bs t r []  _ t0 (Nat.le_of_ble_eq_true rfl)) pm_y_X3_addPairSign pm_v_X3_addPairSign pm_m_X3_50 (c := 3) (r := (RX3, TX3, 2)) rfl rfl t0.1.1 dX3_setExit_6 rfl rfl (by decide) (Nat.le_of_ble_eq_true rfl) (fun S6 h6 => ?_)
  have f6 := f0.tr h6.1
  have t6 := h6.2
  simp only [List.nil_append, List.cons_append] at t6
  refine pm_aload_n dX3_setExit_9 rfl ?_
  refine pm_iconst (v := 1) dX3_setExit_10 (by decide) ?_
  refine pm_bipush (v := 6) dX3_setExit_11 (by decide) ?_
  refine pm_vv (c_X3_addSingle G l bs t r [-1] 1 6 _ t6 (Nat.le_of_ble_eq_true rfl)) pm_y_X3_addSingle pm_v_X3_addSingle pm_m_X3_23 (c := 3) (r := (RX3, TX3, 2)) rfl rfl t6.1.1 dX3_setExit_13 rfl rfl (by decide) (Nat.le_of_ble_eq_true rfl) (fun S13 h13 => ?_)
  have f13 := f6.tr h13.1
  have t13 := h13.2
  simp only [List.nil_append, List.cons_append] at t13
  refine pm_aload_n dX3_setExit_16 rfl ?_
  refine pm_vv (c_X3_addPairSign G l bs t r [-1, 1, 6]  _ t13 (Nat.le_of_ble_eq_true rfl)) pm_y_X3_addPairSign pm_v_X3_addPairSign pm_m_X3_50 (c := 3) (r := (RX3, TX3, 2)) rfl rfl t13.1.1 dX3_setExit_17 rfl rfl (by decide) (Nat.le_of_ble_eq_true rfl) (fun S17 h17 => ?_)
  have f17 := f13.tr h17.1
  have t17 := h17.2
  simp only [List.nil_append, List.cons_append] at t17
  refine pm_aload_n dX3_setExit_20 rfl ?_
  refine pm_iconst (v := 2) dX3_setExit_21 (by decide) ?_
  refine pm_iload_n dX3_setExit_22 rfl ?_
  refine pm_vv (c_X3_addSingle G l bs t r [-1, 1, 6, -1] 2 q _ t17 (Nat.le_of_ble_eq_true rfl)) pm_y_X3_addSingle pm_v_X3_addSingle pm_m_X3_23 (c := 3) (r := (RX3, TX3, 2)) rfl rfl t17.1.1 dX3_setExit_23 rfl rfl (by decide) (Nat.le_of_ble_eq_true rfl) (fun S23 h23 => ?_)
  have f23 := f17.tr h23.1
  have t23 := h23.2
  simp only [List.nil_append, List.cons_append] at t23
  refine pm_aload_n dX3_setExit_26 rfl ?_
  refine pm_aload_n dX3_setExit_27 rfl ?_
  refine pm_vv (c_X3_addReason G l bs t r t2 r2 [-1, 1, 6, -1, 2, q] u _ t23 (h2.ft f23 n1 n2) (Nat.le_of_ble_eq_true rfl)) pm_y_X3_addReason pm_v_X3_addReason pm_m_X3_53 (c := 3) (r := (RX3, TX3, 2)) rfl rfl t23.1.1 dX3_setExit_28 rfl rfl (by decide) (Nat.le_of_ble_eq_true rfl) (fun S28 h28 => ?_)
  subst hQ9
  refine pm_vret dX3_setExit_31 ?_
  exact ⟨f23.tr h28.1, h28.2⟩

set_option maxHeartbeats 4000000 in
set_option maxRecDepth 100000 in
theorem c_X3_setDown (G : pm_G) (l : Launch) (bs : Nat) (t r t2 r2 : Nat) (u : List Int32) (n q : Int32) (S : pm_S) (h : pm_to S t r) (h2 : pm_tm S t2 r2 u) (n1 : t2 ≠ t) (n2 : r2 ≠ r) : pm_M G l bs yX3_setDown cX3_setDown 4 none 2 0 0 [.ref t, .int n, .int q, .ref t2] S (pm_qv (fun S2 => pm_ft S S2 t r ∧ pm_tm S2 t r (tl_r [-1, 1, 7, -1, 0, n, -1, 2, q] u))) := by
  refine pm_Mv (L := [.ref t, .int n, .int q, .ref t2]) false (by decide +kernel) (fun h => by cases h) rfl (pm_en_1 rfl (pm_en_1 rfl (pm_en_1 rfl (pm_en_1 rfl (pm_en_0 rfl))))) ?_
  generalize hQ9 : pm_xv (fun S2 => pm_ft S S2 t r ∧ pm_tm S2 t r (tl_r [-1, 1, 7, -1, 0, n, -1, 2, q] u)) = Q9
  refine pm_aload_n dX3_setDown_0 rfl ?_
  refine pm_iconst (v := 0) dX3_setDown_1 (by decide) ?_
  refine pm_p_Term_length h.1 pm_f_X3_15 dX3_setDown_2 ?_
  have f0 : pm_ft S (pm_si S 151 t 0) t r := pm_ft.rf.l
  have t0 := pm_tm_0 h
  refine pm_aload_n dX3_setDown_5 rfl ?_
  refine pm_vv (c_X3_addPairSign G l bs t r []  _ t0 (Nat.le_of_ble_eq_true rfl)) pm_y_X3_addPairSign pm_v_X3_addPairSign pm_m_X3_50 (c := 3) (r := (RX3, TX3, 2)) rfl rfl t0.1.1 dX3_setDown_6 rfl rfl (by decide) (Nat.le_of_ble_eq_true rfl) (fun S6 h6 => ?_)
  have f6 := f0.tr h6.1
  have t6 := h6.2
  simp only [List.nil_append, List.cons_append] at t6
  refine pm_aload_n dX3_setDown_9 rfl ?_
  refine pm_iconst (v := 1) dX3_setDown_10 (by decide) ?_
  refine pm_bipush (v := 7) dX3_setDown_11 (by decide) ?_
  refine pm_vv (c_X3_addSingle G l bs t r [-1] 1 7 _ t6 (Nat.le_of_ble_eq_true rfl)) pm_y_X3_addSingle pm_v_X3_addSingle pm_m_X3_23 (c := 3) (r := (RX3, TX3, 2)) rfl rfl t6.1.1 dX3_setDown_13 rfl rfl (by decide) (Nat.le_of_ble_eq_true rfl) (fun S13 h13 => ?_)
  have f13 := f6.tr h13.1
  have t13 := h13.2
  simp only [List.nil_append, List.cons_append] at t13
  refine pm_aload_n dX3_setDown_16 rfl ?_
  refine pm_vv (c_X3_addPairSign G l bs t r [-1, 1, 7]  _ t13 (Nat.le_of_ble_eq_true rfl)) pm_y_X3_addPairSign pm_v_X3_addPairSign pm_m_X3_50 (c := 3) (r := (RX3, TX3, 2)) rfl rfl t13.1.1 dX3_setDown_17 rfl rfl (by decide) (Nat.le_of_ble_eq_true rfl) (fun S17 h17 => ?_)
  have f17 := f13.tr h17.1
  have t17 := h17.2
  simp only [List.nil_append, List.cons_append] at t17
  refine pm_aload_n dX3_setDown_20 rfl ?_
  refine pm_iconst (v := 0) dX3_setDown_21 (by decide) ?_
  refine pm_iload_n dX3_setDown_22 rfl ?_
  refine pm_vv (c_X3_addSingle G l bs t r [-1, 1, 7, -1] 0 n _ t17 (Nat.le_of_ble_eq_true rfl)) pm_y_X3_addSingle pm_v_X3_addSingle pm_m_X3_23 (c := 3) (r := (RX3, TX3, 2)) rfl rfl t17.1.1 dX3_setDown_23 rfl rfl (by decide) (Nat.le_of_ble_eq_true rfl) (fun S23 h23 => ?_)
  have f23 := f17.tr h23.1
  have t23 := h23.2
  simp only [List.nil_append, List.cons_append] at t23
  refine pm_aload_n dX3_setDown_26 rfl ?_
  refine pm_vv (c_X3_addPairSign G l bs t r [-1, 1, 7, -1, 0, n]  _ t23 (Nat.le_of_ble_eq_true rfl)) pm_y_X3_addPairSign pm_v_X3_addPairSign pm_m_X3_50 (c := 3) (r := (RX3, TX3, 2)) rfl rfl t23.1.1 dX3_setDown_27 rfl rfl (by decide) (Nat.le_of_ble_eq_true rfl) (fun S27 h27 => ?_)
  have f27 := f23.tr h27.1
  have t27 := h27.2
  simp only [List.nil_append, List.cons_append] at t27
  refine pm_aload_n dX3_setDown_30 rfl ?_
  refine pm_iconst (v := 2) dX3_setDown_31 (by decide) ?_
  refine pm_iload_n dX3_setDown_32 rfl ?_
  refine pm_vv (c_X3_addSingle G l bs t r [-1, 1, 7, -1, 0, n, -1] 2 q _ t27 (Nat.le_of_ble_eq_true rfl)) pm_y_X3_addSingle pm_v_X3_addSingle pm_m_X3_23 (c := 3) (r := (RX3, TX3, 2)) rfl rfl t27.1.1 dX3_setDown_33 rfl rfl (by decide) (Nat.le_of_ble_eq_true rfl) (fun S33 h33 => ?_)
  have f33 := f27.tr h33.1
  have t33 := h33.2
  simp only [List.nil_append, List.cons_append] at t33
  refine pm_aload_n dX3_setDown_36 rfl ?_
  refine pm_aload_n dX3_setDown_37 rfl ?_
  refine pm_vv (c_X3_addReason G l bs t r t2 r2 [-1, 1, 7, -1, 0, n, -1, 2, q] u _ t33 (h2.ft f33 n1 n2) (Nat.le_of_ble_eq_true rfl)) pm_y_X3_addReason pm_v_X3_addReason pm_m_X3_53 (c := 3) (r := (RX3, TX3, 2)) rfl rfl t33.1.1 dX3_setDown_38 rfl rfl (by decide) (Nat.le_of_ble_eq_true rfl) (fun S38 h38 => ?_)
  subst hQ9
  refine pm_vret dX3_setDown_41 ?_
  exact ⟨f33.tr h38.1, h38.2⟩

set_option maxHeartbeats 4000000 in
set_option maxRecDepth 100000 in
theorem c_X3_init (G : pm_G) (l : Launch) (bs : Nat) (a : Nat) (S : pm_S) (hk : pm_k S a = 4) : pm_M G l bs yX3_init cX3_init 1 none 1 1 95 [.ref a] S (pm_qv (fun S2 => ∃ r, pm_k S r = 0 ∧ bs ≤ r ∧ S2 = pm_si (pm_sp (pm_nw S r 9 95) 150 a (some r)) 151 a 2)) := by
  refine pm_Mv (L := [.ref a]) true (by decide +kernel) (fun _ => rfl) rfl (pm_en_1 rfl (pm_en_0 rfl)) ?_
  generalize hQ9 : pm_xv (fun S2 => ∃ r, pm_k S r = 0 ∧ bs ≤ r ∧ S2 = pm_si (pm_sp (pm_nw S r 9 95) 150 a (some r)) 151 a 2) = Q9
  refine pm_aload_n dX3_init_0 rfl ?_
  refine pm_objInit pm_m_X3_3 pm_oi pm_oc (by decide) (Nat.le_of_ble_eq_true rfl) dX3_init_1 ?_
  refine pm_aload_n dX3_init_4 rfl ?_
  refine pm_bipush (v := 95) dX3_init_5 (by decide) ?_
  refine pm_newarrI (N := 95) rfl (by decide) pm_ac_int (kc' := 0) (ks' := 0) (by decide) (by decide) dX3_init_7 (fun r7 hf7 hb7 => ?_)
  have hne : a ≠ r7 := fun e => by rw [e, hf7] at hk; cases hk
  have hk9 : pm_k (pm_nw S r7 9 95) a = 4 := by rw [pm_k_nw, if_neg hne]; exact hk
  refine pm_p_Term_row (by (try simp only [pm_k_si, pm_k_sj, pm_k_sp, pm_k_sx, pm_k_sz, pm_k_sr, pm_k_sy]); assumption) pm_f_X3_11 rfl rfl pm_fw_X3_11 dX3_init_9 ?_
  refine pm_aload_n dX3_init_12 rfl ?_
  refine pm_iconst (v := 2) dX3_init_13 (by decide) ?_
  refine pm_p_Term_length (by (try simp only [pm_k_si, pm_k_sj, pm_k_sp, pm_k_sx, pm_k_sz, pm_k_sr, pm_k_sy]); assumption) pm_f_X3_15 dX3_init_14 ?_
  subst hQ9
  refine pm_vret dX3_init_17 ?_
  exact ⟨r7, hf7, hb7, rfl⟩

