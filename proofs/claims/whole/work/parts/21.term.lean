/-! writing terms -/
theorem pm_tm_sx {S : pm_S} {t r : Nat} {w : List Int32} {v : Int32} (h : pm_tm S t r w) : ∀ i, i < w.length → w[i]? = some (pm_x (pm_sx S r w.length v) r i) := fun i hi => by
  rw [pm_x_sx, if_neg (by omega)]
  exact h.2.2.2 i hi
theorem pm_cpy_lo {f g : Nat → Int32} {n i : Nat} (h : i < n) : va_cpy f g 0 0 n i = f i := by
  rw [pk_cpy_in (by omega) (by omega)]
  congr 1
  omega
set_option maxHeartbeats 4000000 in
set_option maxRecDepth 100000 in
theorem c_X3_addPairSign (G : pm_G) (l : Launch) (bs : Nat) (t r : Nat) (w : List Int32) (S : pm_S) (h : pm_tm S t r w) (h0 : w.length + 1 ≤ 95) : pm_M G l bs yX3_addPairSign cX3_addPairSign 1 none 0 0 0 [.ref t] S (pm_qv (fun S2 => pm_ft S S2 t r ∧ pm_tm S2 t r (w ++ [-1]))) := by
  obtain ⟨⟨hk, hp, hkr, hnr⟩, hlen, hle, hx⟩ := h
  refine pm_Mv (L := [.ref t]) false (by decide +kernel) (fun h => by cases h) rfl (pm_en_1 rfl (pm_en_0 rfl)) ?_
  generalize hQ9 : pm_xv (fun S2 => pm_ft S S2 t r ∧ pm_tm S2 t r (w ++ [-1])) = Q9
  refine pm_aload_n dX3_addPairSign_0 rfl ?_
  refine pm_g_Term_row (by (try simp only [pm_k_si, pm_k_sj, pm_k_sp, pm_k_sx, pm_k_sz, pm_k_sr, pm_k_sy]); assumption) pm_f_X3_11 (by (try simp only [pm_p_si, pm_p_sj, pm_p_sx, pm_p_sz, pm_p_sr, pm_p_sy]); assumption) dX3_addPairSign_1 ?_
  refine pm_aload_n dX3_addPairSign_4 rfl ?_
  refine pm_g_Term_length (by (try simp only [pm_k_si, pm_k_sj, pm_k_sp, pm_k_sx, pm_k_sz, pm_k_sr, pm_k_sy]); assumption) pm_f_X3_15 dX3_addPairSign_5 ?_
  refine pm_iconst (v := (-1)) dX3_addPairSign_8 (by decide) ?_
  refine pm_iastore (n := w.length) (by (try simp only [pm_k_si, pm_k_sj, pm_k_sp, pm_k_sx, pm_k_sz, pm_k_sr, pm_k_sy]); assumption) hlen (by first | omega | (simp only [pm_n_sx, pm_n_si, pm_n_sr, pm_n_sz, pm_n_sp, pm_n_sj, pm_n_sy]; omega)) (by first | omega | (simp only [pm_n_sx, pm_n_si, pm_n_sr, pm_n_sz, pm_n_sp, pm_n_sj, pm_n_sy]; omega)) dX3_addPairSign_9 ?_
  refine pm_aload_n dX3_addPairSign_10 rfl ?_
  refine pm_dup dX3_addPairSign_11 ?_
  refine pm_g_Term_length (by (try simp only [pm_k_si, pm_k_sj, pm_k_sp, pm_k_sx, pm_k_sz, pm_k_sr, pm_k_sy]); assumption) pm_f_X3_15 dX3_addPairSign_12 ?_
  refine pm_iconst (v := 1) dX3_addPairSign_15 (by decide) ?_
  refine pm_iadd dX3_addPairSign_16 ?_
  refine pm_p_Term_length (by (try simp only [pm_k_si, pm_k_sj, pm_k_sp, pm_k_sx, pm_k_sz, pm_k_sr, pm_k_sy]); assumption) pm_f_X3_15 dX3_addPairSign_17 ?_
  subst hQ9
  refine pm_vret dX3_addPairSign_20 ?_
  refine ⟨pm_ft.rf.x.l, ⟨hk, hp, hkr, hnr⟩, ?_, by simp; omega, fun i hi => ?_⟩
  · rw [pm_i_si, if_pos ⟨rfl, rfl⟩, pm_i_sx, hlen, List.length_append]
    exact nI_1 _
  · rw [pm_x_si, pm_x_sx]
    simp only [List.length_append, List.length_cons, List.length_nil] at hi
    by_cases e : i = w.length
    · subst e
      simp
    · rw [if_neg (by omega), List.getElem?_append_left (by omega)]
      exact hx i (by omega)

set_option maxHeartbeats 4000000 in
set_option maxRecDepth 100000 in
theorem c_X3_addSingle (G : pm_G) (l : Launch) (bs : Nat) (t r : Nat) (w : List Int32) (a b : Int32) (S : pm_S) (h : pm_tm S t r w) (h0 : w.length + 2 ≤ 95) : pm_M G l bs yX3_addSingle cX3_addSingle 3 none 0 0 0 [.ref t, .int a, .int b] S (pm_qv (fun S2 => pm_ft S S2 t r ∧ pm_tm S2 t r (w ++ [a, b]))) := by
  obtain ⟨⟨hk, hp, hkr, hnr⟩, hlen, hle, hx⟩ := h
  refine pm_Mv (L := [.ref t, .int a, .int b]) false (by decide +kernel) (fun h => by cases h) rfl (pm_en_1 rfl (pm_en_1 rfl (pm_en_1 rfl (pm_en_0 rfl)))) ?_
  generalize hQ9 : pm_xv (fun S2 => pm_ft S S2 t r ∧ pm_tm S2 t r (w ++ [a, b])) = Q9
  refine pm_aload_n dX3_addSingle_0 rfl ?_
  refine pm_g_Term_row (by (try simp only [pm_k_si, pm_k_sj, pm_k_sp, pm_k_sx, pm_k_sz, pm_k_sr, pm_k_sy]); assumption) pm_f_X3_11 (by (try simp only [pm_p_si, pm_p_sj, pm_p_sx, pm_p_sz, pm_p_sr, pm_p_sy]); assumption) dX3_addSingle_1 ?_
  refine pm_aload_n dX3_addSingle_4 rfl ?_
  refine pm_g_Term_length (by (try simp only [pm_k_si, pm_k_sj, pm_k_sp, pm_k_sx, pm_k_sz, pm_k_sr, pm_k_sy]); assumption) pm_f_X3_15 dX3_addSingle_5 ?_
  refine pm_iload_n dX3_addSingle_8 rfl ?_
  refine pm_iastore (n := w.length) (by (try simp only [pm_k_si, pm_k_sj, pm_k_sp, pm_k_sx, pm_k_sz, pm_k_sr, pm_k_sy]); assumption) hlen (by first | omega | (simp only [pm_n_sx, pm_n_si, pm_n_sr, pm_n_sz, pm_n_sp, pm_n_sj, pm_n_sy]; omega)) (by first | omega | (simp only [pm_n_sx, pm_n_si, pm_n_sr, pm_n_sz, pm_n_sp, pm_n_sj, pm_n_sy]; omega)) dX3_addSingle_9 ?_
  refine pm_aload_n dX3_addSingle_10 rfl ?_
  refine pm_g_Term_row (by (try simp only [pm_k_si, pm_k_sj, pm_k_sp, pm_k_sx, pm_k_sz, pm_k_sr, pm_k_sy]); assumption) pm_f_X3_11 (by (try simp only [pm_p_si, pm_p_sj, pm_p_sx, pm_p_sz, pm_p_sr, pm_p_sy]); assumption) dX3_addSingle_11 ?_
  refine pm_aload_n dX3_addSingle_14 rfl ?_
  refine pm_g_Term_length (by (try simp only [pm_k_si, pm_k_sj, pm_k_sp, pm_k_sx, pm_k_sz, pm_k_sr, pm_k_sy]); assumption) pm_f_X3_15 dX3_addSingle_15 ?_
  refine pm_iconst (v := 1) dX3_addSingle_18 (by decide) ?_
  refine pm_iadd dX3_addSingle_19 ?_
  refine pm_iload_n dX3_addSingle_20 rfl ?_
  refine pm_iastore (n := w.length + 1) (by (try simp only [pm_k_si, pm_k_sj, pm_k_sp, pm_k_sx, pm_k_sz, pm_k_sr, pm_k_sy]); assumption) (by rw [pm_i_sx, hlen]; exact nI_1 _) (by first | omega | (simp only [pm_n_sx, pm_n_si, pm_n_sr, pm_n_sz, pm_n_sp, pm_n_sj, pm_n_sy]; omega)) (by first | omega | (simp only [pm_n_sx, pm_n_si, pm_n_sr, pm_n_sz, pm_n_sp, pm_n_sj, pm_n_sy]; omega)) dX3_addSingle_21 ?_
  refine pm_aload_n dX3_addSingle_22 rfl ?_
  refine pm_dup dX3_addSingle_23 ?_
  refine pm_g_Term_length (by (try simp only [pm_k_si, pm_k_sj, pm_k_sp, pm_k_sx, pm_k_sz, pm_k_sr, pm_k_sy]); assumption) pm_f_X3_15 dX3_addSingle_24 ?_
  refine pm_iconst (v := 2) dX3_addSingle_27 (by decide) ?_
  refine pm_iadd dX3_addSingle_28 ?_
  refine pm_p_Term_length (by (try simp only [pm_k_si, pm_k_sj, pm_k_sp, pm_k_sx, pm_k_sz, pm_k_sr, pm_k_sy]); assumption) pm_f_X3_15 dX3_addSingle_29 ?_
  subst hQ9
  refine pm_vret dX3_addSingle_32 ?_
  refine ⟨pm_ft.rf.x.x.l, ⟨hk, hp, hkr, hnr⟩, ?_, by simp; omega, fun i hi => ?_⟩
  · rw [pm_i_si, if_pos ⟨rfl, rfl⟩, pm_i_sx, pm_i_sx, hlen, List.length_append]
    exact nI_add w.length 2
  · rw [pm_x_si, pm_x_sx, pm_x_sx]
    simp only [List.length_append, List.length_cons, List.length_nil] at hi
    by_cases e : i = w.length
    · subst e
      simp
    · by_cases e2 : i = w.length + 1
      · subst e2
        simp [List.getElem?_append_right]
      · rw [if_neg (by omega), if_neg (by omega), List.getElem?_append_left (by omega)]
        exact hx i (by omega)

theorem pm_tm_0 {S : pm_S} {t r : Nat} (h : pm_to S t r) : pm_tm (pm_si S 151 t 0) t r [] := ⟨h, by rw [pm_i_si, if_pos ⟨rfl, rfl⟩]; rfl, by simp, fun i hi => by simp at hi⟩
set_option maxHeartbeats 4000000 in
set_option maxRecDepth 100000 in
theorem c_X3_setSingle (G : pm_G) (l : Launch) (bs : Nat) (t r : Nat) (a b : Int32) (S : pm_S) (h : pm_to S t r) : pm_M G l bs yX3_setSingle cX3_setSingle 3 none 1 0 0 [.ref t, .int a, .int b] S (pm_qv (fun S2 => pm_ft S S2 t r ∧ pm_tm S2 t r [a, b])) := by
  refine pm_Mv (L := [.ref t, .int a, .int b]) false (by decide +kernel) (fun h => by cases h) rfl (pm_en_1 rfl (pm_en_1 rfl (pm_en_1 rfl (pm_en_0 rfl)))) ?_
  generalize hQ9 : pm_xv (fun S2 => pm_ft S S2 t r ∧ pm_tm S2 t r [a, b]) = Q9
  refine pm_aload_n dX3_setSingle_0 rfl ?_
  refine pm_iconst (v := 0) dX3_setSingle_1 (by decide) ?_
  refine pm_p_Term_length h.1 pm_f_X3_15 dX3_setSingle_2 ?_
  refine pm_aload_n dX3_setSingle_5 rfl ?_
  refine pm_iload_n dX3_setSingle_6 rfl ?_
  refine pm_iload_n dX3_setSingle_7 rfl ?_
  refine pm_vv (c_X3_addSingle G l bs t r [] a b _ (pm_tm_0 h) (by decide)) pm_y_X3_addSingle pm_v_X3_addSingle pm_m_X3_23 (c := 3) (r := (RX3, TX3, 2)) rfl rfl h.1 dX3_setSingle_8 rfl rfl (by decide) (Nat.le_of_ble_eq_true rfl) (fun S8 h8 => ?_)
  subst hQ9
  refine pm_vret dX3_setSingle_11 ?_
  exact ⟨pm_ft.rf.l.tr h8.1, h8.2⟩

set_option maxHeartbeats 4000000 in
set_option maxRecDepth 100000 in
theorem c_X3_copy (G : pm_G) (l : Launch) (bs : Nat) (t r t2 r2 : Nat) (w : List Int32) (S : pm_S) (h1 : pm_to S t r) (h : pm_tm S t2 r2 w) : pm_M G l bs yX3_copy cX3_copy 2 none 1 0 0 [.ref t, .ref t2] S (pm_qv (fun S2 => pm_ft S S2 t r ∧ pm_tm S2 t r w)) := by
  obtain ⟨hk, hp, hkr, hnr⟩ := h1
  obtain ⟨⟨hk2, hp2, hkr2, hnr2⟩, hlen, hle, hx⟩ := h
  refine pm_Mv (L := [.ref t, .ref t2]) false (by decide +kernel) (fun h => by cases h) rfl (pm_en_1 rfl (pm_en_1 rfl (pm_en_0 rfl))) ?_
  generalize hQ9 : pm_xv (fun S2 => pm_ft S S2 t r ∧ pm_tm S2 t r w) = Q9
  refine pm_aload_n dX3_copy_0 rfl ?_
  refine pm_g_Term_row (by (try simp only [pm_k_si, pm_k_sj, pm_k_sp, pm_k_sx, pm_k_sz, pm_k_sr, pm_k_sy]); assumption) pm_f_X3_11 (by (try simp only [pm_p_si, pm_p_sj, pm_p_sx, pm_p_sz, pm_p_sr, pm_p_sy]); assumption) dX3_copy_1 ?_
  refine pm_iconst (v := 0) dX3_copy_4 (by decide) ?_
  refine pm_aload_n dX3_copy_5 rfl ?_
  refine pm_g_Term_row (by (try simp only [pm_k_si, pm_k_sj, pm_k_sp, pm_k_sx, pm_k_sz, pm_k_sr, pm_k_sy]); assumption) pm_f_X3_11 (by (try simp only [pm_p_si, pm_p_sj, pm_p_sx, pm_p_sz, pm_p_sr, pm_p_sy]); assumption) dX3_copy_6 ?_
  refine pm_iconst (v := 0) dX3_copy_9 (by decide) ?_
  refine pm_aload_n dX3_copy_10 rfl ?_
  refine pm_g_Term_length (by (try simp only [pm_k_si, pm_k_sj, pm_k_sp, pm_k_sx, pm_k_sz, pm_k_sr, pm_k_sy]); assumption) pm_f_X3_15 dX3_copy_11 ?_
  refine pm_copy (sp := 0) (dp := 0) (n0 := w.length) hkr2 hkr nI_0.symm nI_0.symm hlen (by omega) (by omega) (by omega) (by omega) pm_m_X3_27 pm_an pm_as pm_ii_J10 (by decide) (Nat.le_of_ble_eq_true rfl) dX3_copy_14 ?_
  refine pm_aload_n dX3_copy_17 rfl ?_
  refine pm_aload_n dX3_copy_18 rfl ?_
  refine pm_g_Term_length (by (try simp only [pm_k_si, pm_k_sj, pm_k_sp, pm_k_sx, pm_k_sz, pm_k_sr, pm_k_sy]); assumption) pm_f_X3_15 dX3_copy_19 ?_
  refine pm_p_Term_length (by (try simp only [pm_k_si, pm_k_sj, pm_k_sp, pm_k_sx, pm_k_sz, pm_k_sr, pm_k_sy]); assumption) pm_f_X3_15 dX3_copy_22 ?_
  subst hQ9
  refine pm_vret dX3_copy_25 ?_
  refine ⟨pm_ft.rf.r.l, ⟨hk, hp, hkr, hnr⟩, ?_, hle, fun i hi => ?_⟩
  · rw [pm_i_si, if_pos ⟨rfl, rfl⟩, pm_i_sr]
    exact hlen
  · rw [pm_x_si, pm_x_sr, if_pos rfl, pm_cpy_lo hi]
    exact hx i hi

set_option maxHeartbeats 4000000 in
set_option maxRecDepth 100000 in
theorem c_X3_setPart (G : pm_G) (l : Launch) (bs : Nat) (t r t2 r2 a b : Nat) (w : List Int32) (S : pm_S) (h1 : pm_to S t r) (h : pm_tm S t2 r2 w) (hab : a ≤ b) (hb : b ≤ w.length) : pm_M G l bs yX3_setPart cX3_setPart 4 (some .boolean) 1 0 0 [.ref t, .ref t2, .int (nI a), .int (nI b)] S (pm_qi (fun x S2 => x = 1 ∧ pm_ft S S2 t r ∧ pm_tm S2 t r ((w.drop a).take (b - a)))) := by
  obtain ⟨hk, hp, hkr, hnr⟩ := h1
  obtain ⟨⟨hk2, hp2, hkr2, hnr2⟩, hlen, hle, hx⟩ := h
  refine pm_Mz (L := [.ref t, .ref t2, .int (nI a), .int (nI b)]) (by decide +kernel) rfl (pm_en_1 rfl (pm_en_1 rfl (pm_en_1 rfl (pm_en_1 rfl (pm_en_0 rfl))))) ?_
  generalize hQ9 : pm_xz (fun x S2 => x = 1 ∧ pm_ft S S2 t r ∧ pm_tm S2 t r ((w.drop a).take (b - a))) = Q9
  refine pm_aload_n dX3_setPart_0 rfl ?_
  refine pm_g_Term_row (by (try simp only [pm_k_si, pm_k_sj, pm_k_sp, pm_k_sx, pm_k_sz, pm_k_sr, pm_k_sy]); assumption) pm_f_X3_11 (by (try simp only [pm_p_si, pm_p_sj, pm_p_sx, pm_p_sz, pm_p_sr, pm_p_sy]); assumption) dX3_setPart_1 ?_
  refine pm_iload_n dX3_setPart_4 rfl ?_
  refine pm_aload_n dX3_setPart_5 rfl ?_
  refine pm_g_Term_row (by (try simp only [pm_k_si, pm_k_sj, pm_k_sp, pm_k_sx, pm_k_sz, pm_k_sr, pm_k_sy]); assumption) pm_f_X3_11 (by (try simp only [pm_p_si, pm_p_sj, pm_p_sx, pm_p_sz, pm_p_sr, pm_p_sy]); assumption) dX3_setPart_6 ?_
  refine pm_iconst (v := 0) dX3_setPart_9 (by decide) ?_
  refine pm_iload_n dX3_setPart_10 rfl ?_
  refine pm_iload_n dX3_setPart_11 rfl ?_
  refine pm_isub dX3_setPart_12 ?_
  refine pm_copy (sp := a) (dp := 0) (n0 := b - a) hkr2 hkr rfl nI_0.symm (pk_sub hab) (by omega) (by omega) (by omega) (by omega) pm_m_X3_27 pm_an pm_as pm_ii_J10 (by decide) (Nat.le_of_ble_eq_true rfl) dX3_setPart_13 ?_
  refine pm_aload_n dX3_setPart_16 rfl ?_
  refine pm_iload_n dX3_setPart_17 rfl ?_
  refine pm_iload_n dX3_setPart_18 rfl ?_
  refine pm_isub dX3_setPart_19 ?_
  refine pm_p_Term_length (by (try simp only [pm_k_si, pm_k_sj, pm_k_sp, pm_k_sx, pm_k_sz, pm_k_sr, pm_k_sy]); assumption) pm_f_X3_15 dX3_setPart_20 ?_
  refine pm_iconst (v := 1) dX3_setPart_23 (by decide) ?_
  subst hQ9
  refine pm_zret dX3_setPart_24 (by first | exact Or.inl rfl | exact Or.inr rfl | assumption) ?_
  have hl9 : ((w.drop a).take (b - a)).length = b - a := by rw [List.length_take, List.length_drop]; omega
  refine ⟨rfl, pm_ft.rf.r.l, ⟨hk, hp, hkr, hnr⟩, ?_, by omega, fun i hi => ?_⟩
  · rw [pm_i_si, if_pos ⟨rfl, rfl⟩, hl9]
    exact pk_sub hab
  · rw [hl9] at hi
    rw [pm_x_si, pm_x_sr, if_pos rfl, pk_cpy_in (by omega) (by omega), List.getElem?_take_of_lt hi, List.getElem?_drop, Nat.sub_zero]
    exact hx (a + i) (by omega)

set_option maxHeartbeats 4000000 in
set_option maxRecDepth 100000 in
theorem c_X3_setPair (G : pm_G) (l : Launch) (bs : Nat) (t r t1 r1 t2 r2 : Nat) (u w : List Int32) (S : pm_S) (h0 : pm_to S t r) (h1 : pm_tm S t1 r1 u) (h2 : pm_tm S t2 r2 w) : pm_M G l bs yX3_setPair cX3_setPair 5 (some .boolean) 1 0 0 [.ref t, .ref t1, .ref t2] S (pm_qi (fun x S2 => (95 < 1 + u.length + w.length ∧ x = 0 ∧ S2 = S) ∨ (1 + u.length + w.length ≤ 95 ∧ x = 1 ∧ pm_ft S S2 t r ∧ pm_tm S2 t r (-1 :: (u ++ w))))) := by
  obtain ⟨hk, hp, hkr, hnr⟩ := h0
  obtain ⟨⟨hk1, hp1, hkr1, hnr1⟩, hlen1, hle1, hx1⟩ := h1
  obtain ⟨⟨hk2, hp2, hkr2, hnr2⟩, hlen2, hle2, hx2⟩ := h2
  refine pm_Mz (L := [.ref t, .ref t1, .ref t2, pm_u, pm_u]) (by decide +kernel) rfl (pm_en_1 rfl (pm_en_1 rfl (pm_en_1 rfl (pm_en_0 rfl)))) ?_
  generalize hQ9 : pm_xz (fun x S2 => (95 < 1 + u.length + w.length ∧ x = 0 ∧ S2 = S) ∨ (1 + u.length + w.length ≤ 95 ∧ x = 1 ∧ pm_ft S S2 t r ∧ pm_tm S2 t r (-1 :: (u ++ w)))) = Q9
  refine pm_aload_n dX3_setPair_0 rfl ?_
  refine pm_g_Term_length (by (try simp only [pm_k_si, pm_k_sj, pm_k_sp, pm_k_sx, pm_k_sz, pm_k_sr, pm_k_sy]); assumption) pm_f_X3_15 dX3_setPair_1 ?_
  refine pm_istn dX3_setPair_4 (i := 3) rfl (by decide) ?_
  dsimp only [List.set]
  refine pm_aload_n dX3_setPair_5 rfl ?_
  refine pm_g_Term_length (by (try simp only [pm_k_si, pm_k_sj, pm_k_sp, pm_k_sx, pm_k_sz, pm_k_sr, pm_k_sy]); assumption) pm_f_X3_15 dX3_setPair_6 ?_
  refine pm_istore dX3_setPair_9 (by decide) ?_
  dsimp only [List.set]
  refine pm_iconst (v := 1) dX3_setPair_11 (by decide) ?_
  refine pm_iload_n dX3_setPair_12 rfl ?_
  refine pm_iadd dX3_setPair_13 ?_
  refine pm_iload dX3_setPair_14 rfl ?_
  refine pm_iadd dX3_setPair_16 ?_
  refine pm_bipush (v := 95) dX3_setPair_17 (by decide) ?_
  have e19 : 1 + pm_i S 151 t1 + pm_i S 151 t2 = nI (1 + u.length + w.length) := by rw [hlen1, hlen2]; rw [show (1 : Int32) = nI 1 from rfl, nI_add, nI_add]
  refine pm_icmp_le (tgt := 24) dX3_setPair_19 (by decide) (fun h19 => ?_) (fun h19 => ?_)
  · skip
    have h9 : 1 + u.length + w.length ≤ 95 := (pm_nle (b := 95) (by omega) (by omega)).mp (by rw [← e19]; exact h19)
    refine pm_aload_n dX3_setPair_24 rfl ?_
    refine pm_g_Term_row (by (try simp only [pm_k_si, pm_k_sj, pm_k_sp, pm_k_sx, pm_k_sz, pm_k_sr, pm_k_sy]); assumption) pm_f_X3_11 (by (try simp only [pm_p_si, pm_p_sj, pm_p_sx, pm_p_sz, pm_p_sr, pm_p_sy]); assumption) dX3_setPair_25 ?_
    refine pm_iconst (v := 0) dX3_setPair_28 (by decide) ?_
    refine pm_aload_n dX3_setPair_29 rfl ?_
    refine pm_g_Term_row (by (try simp only [pm_k_si, pm_k_sj, pm_k_sp, pm_k_sx, pm_k_sz, pm_k_sr, pm_k_sy]); assumption) pm_f_X3_11 (by (try simp only [pm_p_si, pm_p_sj, pm_p_sx, pm_p_sz, pm_p_sr, pm_p_sy]); assumption) dX3_setPair_30 ?_
    refine pm_iconst (v := 1) dX3_setPair_33 (by decide) ?_
    refine pm_iload_n dX3_setPair_34 rfl ?_
    refine pm_iadd dX3_setPair_35 ?_
    refine pm_iload dX3_setPair_36 rfl ?_
    refine pm_copy (sp := 0) (dp := 1 + u.length) (n0 := w.length) hkr2 hkr nI_0.symm (by rw [hlen1]; exact nI_add 1 u.length) hlen2 (by omega) (by omega) (by omega) (by omega) pm_m_X3_27 pm_an pm_as pm_ii_J10 (by decide) (Nat.le_of_ble_eq_true rfl) dX3_setPair_38 ?_
    refine pm_aload_n dX3_setPair_41 rfl ?_
    refine pm_g_Term_row (by (try simp only [pm_k_si, pm_k_sj, pm_k_sp, pm_k_sx, pm_k_sz, pm_k_sr, pm_k_sy]); assumption) pm_f_X3_11 (by (try simp only [pm_p_si, pm_p_sj, pm_p_sx, pm_p_sz, pm_p_sr, pm_p_sy]); assumption) dX3_setPair_42 ?_
    refine pm_iconst (v := 0) dX3_setPair_45 (by decide) ?_
    refine pm_aload_n dX3_setPair_46 rfl ?_
    refine pm_g_Term_row (by (try simp only [pm_k_si, pm_k_sj, pm_k_sp, pm_k_sx, pm_k_sz, pm_k_sr, pm_k_sy]); assumption) pm_f_X3_11 (by (try simp only [pm_p_si, pm_p_sj, pm_p_sx, pm_p_sz, pm_p_sr, pm_p_sy]); assumption) dX3_setPair_47 ?_
    refine pm_iconst (v := 1) dX3_setPair_50 (by decide) ?_
    refine pm_iload_n dX3_setPair_51 rfl ?_
    refine pm_copy (sp := 0) (dp := 1) (n0 := u.length) hkr1 hkr nI_0.symm rfl hlen1 (by show 0 + u.length ≤ pm_n S r1; omega) (by show 1 + u.length ≤ pm_n S r; omega) (by show pm_n S r1 < _; omega) (by show pm_n S r < _; omega) pm_m_X3_27 pm_an pm_as pm_ii_J10 (by decide) (Nat.le_of_ble_eq_true rfl) dX3_setPair_52 ?_
    refine pm_aload_n dX3_setPair_55 rfl ?_
    refine pm_g_Term_row (by (try simp only [pm_k_si, pm_k_sj, pm_k_sp, pm_k_sx, pm_k_sz, pm_k_sr, pm_k_sy]); assumption) pm_f_X3_11 (by (try simp only [pm_p_si, pm_p_sj, pm_p_sx, pm_p_sz, pm_p_sr, pm_p_sy]); assumption) dX3_setPair_56 ?_
    refine pm_iconst (v := 0) dX3_setPair_59 (by decide) ?_
    refine pm_iconst (v := (-1)) dX3_setPair_60 (by decide) ?_
    refine pm_iastore (n := 0) (by (try simp only [pm_k_si, pm_k_sj, pm_k_sp, pm_k_sx, pm_k_sz, pm_k_sr, pm_k_sy]); assumption) nI_0.symm (by show 0 < pm_n S r; omega) (by show pm_n S r < _; omega) dX3_setPair_61 ?_
    refine pm_aload_n dX3_setPair_62 rfl ?_
    refine pm_iconst (v := 1) dX3_setPair_63 (by decide) ?_
    refine pm_iload_n dX3_setPair_64 rfl ?_
    refine pm_iadd dX3_setPair_65 ?_
    refine pm_iload dX3_setPair_66 rfl ?_
    refine pm_iadd dX3_setPair_68 ?_
    refine pm_p_Term_length (by (try simp only [pm_k_si, pm_k_sj, pm_k_sp, pm_k_sx, pm_k_sz, pm_k_sr, pm_k_sy]); assumption) pm_f_X3_15 dX3_setPair_69 ?_
    refine pm_iconst (v := 1) dX3_setPair_72 (by decide) ?_
    subst hQ9
    refine pm_zret dX3_setPair_73 (by first | exact Or.inl rfl | exact Or.inr rfl | assumption) ?_
    refine Or.inr ⟨h9, rfl, pm_ft.rf.r.r.x.l, ⟨hk, hp, hkr, hnr⟩, ?_, by simp; omega, fun i hi => ?_⟩
    · rw [pm_i_si, if_pos ⟨rfl, rfl⟩, e19]
      congr 1
      simp
      omega
    · simp only [List.length_cons, List.length_append] at hi
      rw [pm_x_si, pm_x_sx]
      by_cases e0 : i = 0
      · subst e0
        simp
      · rw [if_neg (by omega), pm_x_sr, if_pos rfl]
        obtain ⟨j, rfl⟩ : ∃ j, i = j + 1 := ⟨i - 1, by omega⟩
        rw [List.getElem?_cons_succ]
        by_cases e1 : j < u.length
        · rw [List.getElem?_append_left e1, pk_cpy_in (by omega) (by omega), show 0 + (j + 1 - 1) = j by omega, pm_x_sr, hx1 j e1]
          by_cases e2 : r1 = r
          · rw [if_pos e2, pk_cpy_out (by omega), e2]
          · rw [if_neg e2]
        · rw [List.getElem?_append_right (by omega), pk_cpy_out (by omega), pm_x_sr, if_pos rfl, pk_cpy_in (by omega) (by omega), hx2 (j - u.length) (by omega)]
          congr 2
          omega
  · skip
    have h9 : 95 < 1 + u.length + w.length := by rcases Nat.lt_or_ge 95 (1 + u.length + w.length) with q | q; exact q; exact absurd ((pm_nle (b := 95) (by omega) (by omega)).mpr q) (by rw [← e19]; exact h19)
    refine pm_iconst (v := 0) dX3_setPair_22 (by decide) ?_
    subst hQ9
    refine pm_zret dX3_setPair_23 (by first | exact Or.inl rfl | exact Or.inr rfl | assumption) ?_
    exact Or.inl ⟨h9, rfl, rfl⟩

