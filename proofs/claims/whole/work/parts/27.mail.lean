/-! Mailbox: m the object, a its rows -/
def pm_mb (S : pm_S) (m a : Nat) : Prop := pm_k S m = 1 ∧ pm_p S 0 m = some a ∧ pm_k S a = 13 ∧ pm_n S a = 40
set_option maxHeartbeats 4000000 in
set_option maxRecDepth 100000 in
theorem c_X0_init (G : pm_G) (l : Launch) (bs : Nat) (v : Nat) (S : pm_S) (hk : pm_k S v = 1) : pm_M G l bs yX0_init cX0_init 1 none 1 1 40 [.ref v] S (pm_qv (fun S2 => ∃ k, pm_k S k = 0 ∧ bs ≤ k ∧ S2 = pm_si (pm_si (pm_sp (pm_nw S k 13 40) 0 v (some k)) 1 v 0) 2 v 0)) := by
  refine pm_Mv (L := [.ref v]) true (by decide +kernel) (fun _ => rfl) rfl (pm_en_1 rfl (pm_en_0 rfl)) ?_
  refine pm_aload_n dX0_init_0 rfl ?_
  refine pm_objInit pm_m_X0_1 pm_oi pm_oc (by decide) (Nat.le_of_ble_eq_true rfl) dX0_init_1 ?_
  refine pm_aload_n dX0_init_4 rfl ?_
  refine pm_bipush (v := 40) dX0_init_5 (by decide) ?_
  refine pm_anewT (N := 40) rfl (by decide) pm_c_X0_9 (kc' := 0) (ks' := 0) (by decide) (by decide) dX0_init_7 (fun r7 hf7 hb7 => ?_)
  have n7 : v ≠ r7 := fun e => by subst e; simp only [pm_k_si, pm_k_sp, pm_k_nw, hk] at hf7; exact absurd hf7 (by decide)
  refine pm_p_Mailbox_rows (by simp only [pm_k_si, pm_k_sp, pm_k_nw, if_neg n7]; exact hk) pm_f_X0_11 rfl rfl pm_fw_X0_11 dX0_init_10 ?_
  refine pm_aload_n dX0_init_13 rfl ?_
  refine pm_iconst (v := 0) dX0_init_14 (by decide) ?_
  refine pm_p_Mailbox_count (by simp only [pm_k_si, pm_k_sp, pm_k_nw, if_neg n7]; exact hk) pm_f_X0_15 dX0_init_15 ?_
  refine pm_aload_n dX0_init_18 rfl ?_
  refine pm_iconst (v := 0) dX0_init_19 (by decide) ?_
  refine pm_p_Mailbox_pointer (by simp only [pm_k_si, pm_k_sp, pm_k_nw, if_neg n7]; exact hk) pm_f_X0_19 dX0_init_20 ?_
  refine pm_vret dX0_init_23 ?_
  exact ⟨r7, hf7, hb7, rfl⟩

set_option maxHeartbeats 4000000 in
set_option maxRecDepth 100000 in
theorem c_X0_rowAt (G : pm_G) (l : Launch) (bs : Nat) (m a n : Nat) (i : Int32) (S : pm_S) (hm : pm_mb S m a) (hn : pm_i S 1 m = nI n) (hn3 : n ≤ 40) : pm_M G l bs yX0_rowAt cX0_rowAt 2 (some (.object "ProcessMill$Term")) 0 0 0 [.ref m, .int i] S (pm_qr (fun x S2 => x = (if 0 ≤ i ∧ i.toInt < n then pm_z S a i.toInt.toNat else none) ∧ S2 = S)) := by
  obtain ⟨hk, hp, hka, hna⟩ := hm
  refine pm_Mr (L := [.ref m, .int i]) (by decide +kernel) rfl (pm_en_1 rfl (pm_en_1 rfl (pm_en_0 rfl))) ?_
  refine pm_iload_n dX0_rowAt_0 rfl ?_
  refine pm_if_lt (tgt := 21) dX0_rowAt_1 (by decide) (fun h1 => ?_) (fun h1 => ?_)
  · skip
    have h9 : ¬ (0 ≤ i ∧ i.toInt < n) := fun z => by have := pm_0le.mp z.1; have := pm_lt0.mp h1; omega
    refine pm_null dX0_rowAt_21 ?_
    first | refine pm_aretn dX0_rowAt_22 ?_ | refine pm_aret dX0_rowAt_22 ?_ | refine pm_aretr dX0_rowAt_22 ?_
    refine ⟨?_, rfl⟩
    first | (rw [if_neg h9]; done) | (rw [if_pos h9, nI_toInt hj]; rfl)
  · skip
    refine pm_iload_n dX0_rowAt_4 rfl ?_
    refine pm_aload_n dX0_rowAt_5 rfl ?_
    refine pm_g_Mailbox_count (by (try simp only [pm_k_si, pm_k_sj, pm_k_sp, pm_k_sx, pm_k_sz, pm_k_sr, pm_k_sy]); assumption) pm_f_X0_15 dX0_rowAt_6 ?_
    rw [hn]
    refine pm_icmp_ge (tgt := 21) dX0_rowAt_9 (by decide) (fun h9 => ?_) (fun h9 => ?_)
    · skip
      have h9 : ¬ (0 ≤ i ∧ i.toInt < n) := fun z => by have := (pm_lei h1 (by omega)).mp h9; omega
      refine pm_null dX0_rowAt_21 ?_
      first | refine pm_aretn dX0_rowAt_22 ?_ | refine pm_aret dX0_rowAt_22 ?_ | refine pm_aretr dX0_rowAt_22 ?_
      refine ⟨?_, rfl⟩
      first | (rw [if_neg h9]; done) | (rw [if_pos h9, nI_toInt hj]; rfl)
    · skip
      obtain ⟨j, hj, rfl⟩ := nI_of h1
      have hlt : j < n := by rcases Nat.lt_or_ge j n with q | q; exact q; exact absurd ((pm_nle (by omega) (by omega)).mpr q) h9
      have h9 : 0 ≤ nI j ∧ (nI j).toInt < n := ⟨nI_pos' hj, by have := nI_toInt hj; omega⟩
      refine pm_aload_n dX0_rowAt_12 rfl ?_
      refine pm_g_Mailbox_rows (by (try simp only [pm_k_si, pm_k_sj, pm_k_sp, pm_k_sx, pm_k_sz, pm_k_sr, pm_k_sy]); assumption) pm_f_X0_11 (by (try simp only [pm_p_si, pm_p_sj, pm_p_sx, pm_p_sz, pm_p_sr, pm_p_sy]); assumption) dX0_rowAt_13 ?_
      refine pm_iload_n dX0_rowAt_16 rfl ?_
      refine pm_aaloadT (n := j) (by (try simp only [pm_k_si, pm_k_sj, pm_k_sp, pm_k_sx, pm_k_sz, pm_k_sr, pm_k_sy]); assumption) rfl (by first | omega | (simp only [pm_n_sx, pm_n_si, pm_n_sr, pm_n_sz, pm_n_sp, pm_n_sj, pm_n_sy]; omega)) (by first | omega | (simp only [pm_n_sx, pm_n_si, pm_n_sr, pm_n_sz, pm_n_sp, pm_n_sj, pm_n_sy]; omega)) dX0_rowAt_17 ?_
      refine pm_goto (tgt := 22) dX0_rowAt_18 (by decide) ?_
      first | refine pm_aretn dX0_rowAt_22 ?_ | refine pm_aret dX0_rowAt_22 ?_ | refine pm_aretr dX0_rowAt_22 ?_
      refine ⟨?_, rfl⟩
      first | (rw [if_neg h9]; done) | (rw [if_pos h9, nI_toInt hj]; rfl)

set_option maxHeartbeats 4000000 in
set_option maxRecDepth 100000 in
theorem c_X0_atPointer (G : pm_G) (l : Launch) (bs : Nat) (m a n p : Nat) (S : pm_S) (hm : pm_mb S m a) (hn : pm_i S 1 m = nI n) (hn3 : n ≤ 40) (hpt : pm_i S 2 m = nI p) (hp3 : p < 2 ^ 31) : pm_M G l bs yX0_atPointer cX0_atPointer 1 (some (.object "ProcessMill$Term")) 1 0 0 [.ref m] S (pm_qr (fun x S2 => x = (if p < n then pm_z S a p else none) ∧ S2 = S)) := by
  refine pm_Mr (L := [.ref m]) (by decide +kernel) rfl (pm_en_1 rfl (pm_en_0 rfl)) ?_
  refine pm_aload_n dX0_atPointer_0 rfl ?_
  refine pm_aload_n dX0_atPointer_1 rfl ?_
  refine pm_g_Mailbox_pointer hm.1 pm_f_X0_19 dX0_atPointer_2 ?_
  rw [hpt]
  refine pm_vr (c_X0_rowAt G l bs m a n (nI p) S hm hn hn3) pm_y_X0_rowAt pm_v_X0_rowAt pm_m_X0_22 (c := 0) (r := (RX0, TX0, 3)) rfl rfl hm.1 dX0_atPointer_5 rfl rfl (by decide) (Nat.le_of_ble_eq_true rfl) (fun x5 S5 h5 => ?_)
  obtain ⟨rfl, rfl⟩ := h5
  refine pm_aretr dX0_atPointer_8 ?_
  refine ⟨?_, rfl⟩
  rw [nI_toInt (by omega)]
  by_cases q : p < n
  · rw [if_pos q, if_pos ⟨nI_pos' (by omega), by omega⟩]
    rfl
  · rw [if_neg q, if_neg (fun z => q (by omega))]

set_option maxHeartbeats 4000000 in
set_option maxRecDepth 100000 in
theorem c_X0_advance (G : pm_G) (l : Launch) (bs : Nat) (m a n p : Nat) (S : pm_S) (hm : pm_mb S m a) (hn : pm_i S 1 m = nI n) (hn3 : n ≤ 40) (hpt : pm_i S 2 m = nI p) (hp3 : p < 2 ^ 31) : pm_M G l bs yX0_advance cX0_advance 1 none 0 0 0 [.ref m] S (pm_qv (fun S2 => (p < n ∧ S2 = pm_si S 2 m (nI (p + 1))) ∨ (n ≤ p ∧ S2 = S))) := by
  obtain ⟨hk, hp, hka, hna⟩ := hm
  refine pm_Mv (L := [.ref m]) false (by decide +kernel) (fun h => by cases h) rfl (pm_en_1 rfl (pm_en_0 rfl)) ?_
  refine pm_aload_n dX0_advance_0 rfl ?_
  refine pm_g_Mailbox_pointer (by (try simp only [pm_k_si, pm_k_sj, pm_k_sp, pm_k_sx, pm_k_sz, pm_k_sr, pm_k_sy]); assumption) pm_f_X0_19 dX0_advance_1 ?_
  refine pm_aload_n dX0_advance_4 rfl ?_
  refine pm_g_Mailbox_count (by (try simp only [pm_k_si, pm_k_sj, pm_k_sp, pm_k_sx, pm_k_sz, pm_k_sr, pm_k_sy]); assumption) pm_f_X0_15 dX0_advance_5 ?_
  rw [hn, hpt]
  refine pm_icmp_ge (tgt := 21) dX0_advance_8 (by decide) (fun h8 => ?_) (fun h8 => ?_)
  · skip
    have h9 : n ≤ p := (pm_nle (by omega) (by omega)).mp h8
    refine pm_vret dX0_advance_21 ?_
    first | exact Or.inr ⟨h9, rfl⟩ | exact Or.inl ⟨h9, rfl⟩
  · skip
    have h9 : p < n := by rcases Nat.lt_or_ge p n with q | q; exact q; exact absurd ((pm_nle (by omega) (by omega)).mpr q) h8
    refine pm_aload_n dX0_advance_11 rfl ?_
    refine pm_dup dX0_advance_12 ?_
    refine pm_g_Mailbox_pointer (by (try simp only [pm_k_si, pm_k_sj, pm_k_sp, pm_k_sx, pm_k_sz, pm_k_sr, pm_k_sy]); assumption) pm_f_X0_19 dX0_advance_13 ?_
    refine pm_iconst (v := 1) dX0_advance_16 (by decide) ?_
    refine pm_iadd dX0_advance_17 ?_
    rw [hpt, nI_1]
    refine pm_p_Mailbox_pointer (by (try simp only [pm_k_si, pm_k_sj, pm_k_sp, pm_k_sx, pm_k_sz, pm_k_sr, pm_k_sy]); assumption) pm_f_X0_19 dX0_advance_18 ?_
    refine pm_vret dX0_advance_21 ?_
    first | exact Or.inr ⟨h9, rfl⟩ | exact Or.inl ⟨h9, rfl⟩

set_option maxHeartbeats 4000000 in
set_option maxRecDepth 100000 in
theorem c_X0_pointToFirst (G : pm_G) (l : Launch) (bs : Nat) (m : Nat) (S : pm_S) (hk : pm_k S m = 1) : pm_M G l bs yX0_pointToFirst cX0_pointToFirst 1 none 0 0 0 [.ref m] S (pm_qv (fun S2 => S2 = pm_si S 2 m 0)) := by
  refine pm_Mv (L := [.ref m]) false (by decide +kernel) (fun h => by cases h) rfl (pm_en_1 rfl (pm_en_0 rfl)) ?_
  refine pm_aload_n dX0_pointToFirst_0 rfl ?_
  refine pm_iconst (v := 0) dX0_pointToFirst_1 (by decide) ?_
  refine pm_p_Mailbox_pointer (by (try simp only [pm_k_si, pm_k_sj, pm_k_sp, pm_k_sx, pm_k_sz, pm_k_sr, pm_k_sy]); assumption) pm_f_X0_19 dX0_pointToFirst_2 ?_
  refine pm_vret dX0_pointToFirst_5 ?_
  rfl

set_option maxHeartbeats 4000000 in
set_option maxRecDepth 100000 in
theorem c_X0_clear (G : pm_G) (l : Launch) (bs : Nat) (m : Nat) (S : pm_S) (hk : pm_k S m = 1) : pm_M G l bs yX0_clear cX0_clear 1 none 0 0 0 [.ref m] S (pm_qv (fun S2 => S2 = pm_si (pm_si S 1 m 0) 2 m 0)) := by
  refine pm_Mv (L := [.ref m]) false (by decide +kernel) (fun h => by cases h) rfl (pm_en_1 rfl (pm_en_0 rfl)) ?_
  refine pm_aload_n dX0_clear_0 rfl ?_
  refine pm_iconst (v := 0) dX0_clear_1 (by decide) ?_
  refine pm_p_Mailbox_count (by (try simp only [pm_k_si, pm_k_sj, pm_k_sp, pm_k_sx, pm_k_sz, pm_k_sr, pm_k_sy]); assumption) pm_f_X0_15 dX0_clear_2 ?_
  refine pm_aload_n dX0_clear_5 rfl ?_
  refine pm_iconst (v := 0) dX0_clear_6 (by decide) ?_
  refine pm_p_Mailbox_pointer (by (try simp only [pm_k_si, pm_k_sj, pm_k_sp, pm_k_sx, pm_k_sz, pm_k_sr, pm_k_sy]); assumption) pm_f_X0_19 dX0_clear_7 ?_
  refine pm_vret dX0_clear_10 ?_
  rfl


