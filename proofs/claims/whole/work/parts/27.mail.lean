/-! Mailbox: m the object, a its rows -/
def pm_mb (S : pm_S) (m a : Nat) : Prop := pm_k S m = 1 ∧ pm_p S 0 m = some a ∧ pm_k S a = 13 ∧ pm_n S a = 40
set_option maxHeartbeats 4000000 in
set_option maxRecDepth 100000 in
theorem c_X0_init (G : pm_G) (l : Launch) (bs : Nat) (v : Nat) (S : pm_S) (hk : pm_k S v = 1) : pm_M G l bs yX0_init cX0_init 1 none 1 1 40 [.ref v] S (pm_qv (fun S2 => ∃ k, pm_k S k = 0 ∧ bs ≤ k ∧ S2 = pm_si (pm_si (pm_sp (pm_nw S k 13 40) 0 v (some k)) 1 v 0) 2 v 0)) := by
  refine pm_Mv (L := [.ref v]) true (by decide +kernel) (fun _ => rfl) rfl (pm_en_1 rfl (pm_en_0 rfl)) ?_
  generalize hQ9 : pm_xv (fun S2 => ∃ k, pm_k S k = 0 ∧ bs ≤ k ∧ S2 = pm_si (pm_si (pm_sp (pm_nw S k 13 40) 0 v (some k)) 1 v 0) 2 v 0) = Q9
  refine pm_aload_n dX0_init_0 rfl ?_
  refine pm_objInit pm_m_X0_1 pm_oi pm_oc (by decide) (Nat.le_of_ble_eq_true rfl) dX0_init_1 ?_
  refine pm_aload_n dX0_init_4 rfl ?_
  refine pm_bipush (v := 40) dX0_init_5 (by decide) ?_
  refine pm_anewT (N := 40) rfl (by decide) pm_c_X0_9 (kc' := 0) (ks' := 0) (by decide) (by decide) dX0_init_7 (fun r7 hf7 hb7 => ?_)
  have n7 : v ≠ r7 := fun e => by subst e; simp only [pm_k_si, pm_k_sp, pm_k_nw, hk] at hf7; exact absurd hf7 (by decide)
  refine pm_p_Mailbox_rows (by simp only [pm_k_si, pm_k_sp, pm_k_nw, if_neg n7]; exact hk) pm_f_X0_11 rfl rfl pm_fw_X0_11 dX0_init_10 ?_
  refine pm_aload_n dX0_init_13 rfl ?_
  refine pm_iconst (v := 0) dX0_init_14 (by decide) ?_
  refine pm_p_Mailbox_count (by simp only [pm_k_si, pm_k_sp, pm_k_nw, if_neg n7]; exact hk) pm_f_X0_15 dX0_init_15 ?_
  refine pm_aload_n dX0_init_18 rfl ?_
  refine pm_iconst (v := 0) dX0_init_19 (by decide) ?_
  refine pm_p_Mailbox_pointer (by simp only [pm_k_si, pm_k_sp, pm_k_nw, if_neg n7]; exact hk) pm_f_X0_19 dX0_init_20 ?_
  subst hQ9
  refine pm_vret dX0_init_23 ?_
  exact ⟨r7, hf7, hb7, rfl⟩

set_option maxHeartbeats 4000000 in
set_option maxRecDepth 100000 in
theorem c_X0_rowAt (G : pm_G) (l : Launch) (bs : Nat) (m a n : Nat) (i : Int32) (S : pm_S) (hm : pm_mb S m a) (hn : pm_i S 1 m = nI n) (hn3 : n ≤ 40) : pm_M G l bs yX0_rowAt cX0_rowAt 2 (some (.object "ProcessMill$Term")) 0 0 0 [.ref m, .int i] S (pm_qr (fun x S2 => x = (if 0 ≤ i ∧ i.toInt < n then pm_z S a i.toInt.toNat else none) ∧ S2 = S)) := by
  obtain ⟨hk, hp, hka, hna⟩ := hm
  refine pm_Mr (L := [.ref m, .int i]) (by decide +kernel) rfl (pm_en_1 rfl (pm_en_1 rfl (pm_en_0 rfl))) ?_
  generalize hQ9 : pm_xr (fun x S2 => x = (if 0 ≤ i ∧ i.toInt < n then pm_z S a i.toInt.toNat else none) ∧ S2 = S) = Q9
  refine pm_iload_n dX0_rowAt_0 rfl ?_
  refine pm_if_lt (tgt := 21) dX0_rowAt_1 (by decide) (fun h1 => ?_) (fun h1 => ?_)
  · skip
    have h9 : ¬ (0 ≤ i ∧ i.toInt < n) := fun z => by have := pm_0le.mp z.1; have := pm_lt0.mp h1; omega
    refine pm_null dX0_rowAt_21 ?_
    subst hQ9
    first | refine pm_aretn dX0_rowAt_22 ?_ | refine pm_aret dX0_rowAt_22 ?_ | refine pm_aretr dX0_rowAt_22 ?_
    refine ⟨?_, rfl⟩
    first | (rw [if_neg h9]; done) | (rw [if_pos h9, nI_toInt hj]; rfl)
  · skip
    refine pm_iload_n dX0_rowAt_4 rfl ?_
    refine pm_aload_n dX0_rowAt_5 rfl ?_
    refine pm_g_Mailbox_count (by (try simp only [pm_k_si, pm_k_sj, pm_k_sp, pm_k_sx, pm_k_sz, pm_k_sr, pm_k_sy]); assumption) pm_f_X0_15 dX0_rowAt_6 ?_
    rw [hn]
    refine pm_icmp_ge (tgt := 21) dX0_rowAt_9 (by decide) (fun h9 => ?_) (fun h9 => ?_)
    · skip
      have h9 : ¬ (0 ≤ i ∧ i.toInt < n) := fun z => by have := (pm_lei h1 (by omega)).mp h9; omega
      refine pm_null dX0_rowAt_21 ?_
      subst hQ9
      first | refine pm_aretn dX0_rowAt_22 ?_ | refine pm_aret dX0_rowAt_22 ?_ | refine pm_aretr dX0_rowAt_22 ?_
      refine ⟨?_, rfl⟩
      first | (rw [if_neg h9]; done) | (rw [if_pos h9, nI_toInt hj]; rfl)
    · skip
      obtain ⟨j, hj, rfl⟩ := nI_of h1
      have hlt : j < n := by rcases Nat.lt_or_ge j n with q | q; exact q; exact absurd ((pm_nle (by omega) (by omega)).mpr q) h9
      have h9 : 0 ≤ nI j ∧ (nI j).toInt < n := ⟨nI_pos' hj, by have := nI_toInt hj; omega⟩
      refine pm_aload_n dX0_rowAt_12 rfl ?_
      refine pm_g_Mailbox_rows (by (try simp only [pm_k_si, pm_k_sj, pm_k_sp, pm_k_sx, pm_k_sz, pm_k_sr, pm_k_sy]); assumption) pm_f_X0_11 (by (try simp only [pm_p_si, pm_p_sj, pm_p_sx, pm_p_sz, pm_p_sr, pm_p_sy]); assumption) dX0_rowAt_13 ?_
      refine pm_iload_n dX0_rowAt_16 rfl ?_
      refine pm_aaloadT (n := j) (by (try simp only [pm_k_si, pm_k_sj, pm_k_sp, pm_k_sx, pm_k_sz, pm_k_sr, pm_k_sy]); assumption) rfl (by first | omega | (simp only [pm_n_sx, pm_n_si, pm_n_sr, pm_n_sz, pm_n_sp, pm_n_sj, pm_n_sy]; omega)) (by first | omega | (simp only [pm_n_sx, pm_n_si, pm_n_sr, pm_n_sz, pm_n_sp, pm_n_sj, pm_n_sy]; omega)) dX0_rowAt_17 ?_
      refine pm_goto (tgt := 22) dX0_rowAt_18 (by decide) ?_
      subst hQ9
      first | refine pm_aretn dX0_rowAt_22 ?_ | refine pm_aret dX0_rowAt_22 ?_ | refine pm_aretr dX0_rowAt_22 ?_
      refine ⟨?_, rfl⟩
      first | (rw [if_neg h9]; done) | (rw [if_pos h9, nI_toInt hj]; rfl)

set_option maxHeartbeats 4000000 in
set_option maxRecDepth 100000 in
theorem c_X0_atPointer (G : pm_G) (l : Launch) (bs : Nat) (m a n p : Nat) (S : pm_S) (hm : pm_mb S m a) (hn : pm_i S 1 m = nI n) (hn3 : n ≤ 40) (hpt : pm_i S 2 m = nI p) (hp3 : p < 2 ^ 31) : pm_M G l bs yX0_atPointer cX0_atPointer 1 (some (.object "ProcessMill$Term")) 1 0 0 [.ref m] S (pm_qr (fun x S2 => x = (if p < n then pm_z S a p else none) ∧ S2 = S)) := by
  refine pm_Mr (L := [.ref m]) (by decide +kernel) rfl (pm_en_1 rfl (pm_en_0 rfl)) ?_
  generalize hQ9 : pm_xr (fun x S2 => x = (if p < n then pm_z S a p else none) ∧ S2 = S) = Q9
  refine pm_aload_n dX0_atPointer_0 rfl ?_
  refine pm_aload_n dX0_atPointer_1 rfl ?_
  refine pm_g_Mailbox_pointer hm.1 pm_f_X0_19 dX0_atPointer_2 ?_
  rw [hpt]
  refine pm_vr (c_X0_rowAt G l bs m a n (nI p) S hm hn hn3) pm_y_X0_rowAt pm_v_X0_rowAt pm_m_X0_22 (c := 0) (r := (RX0, TX0, 3)) rfl rfl hm.1 dX0_atPointer_5 rfl rfl (by decide) (Nat.le_of_ble_eq_true rfl) (fun x5 S5 h5 => ?_)
  obtain ⟨rfl, rfl⟩ := h5
  subst hQ9
  refine pm_aretr dX0_atPointer_8 ?_
  refine ⟨?_, rfl⟩
  rw [nI_toInt (by omega)]
  by_cases q : p < n
  · rw [if_pos q, if_pos ⟨nI_pos' (by omega), by omega⟩]
    rfl
  · rw [if_neg q, if_neg (fun z => q (by omega))]

set_option maxHeartbeats 4000000 in
set_option maxRecDepth 100000 in
theorem c_X0_advance (G : pm_G) (l : Launch) (bs : Nat) (m a n p : Nat) (S : pm_S) (hm : pm_mb S m a) (hn : pm_i S 1 m = nI n) (hn3 : n ≤ 40) (hpt : pm_i S 2 m = nI p) (hp3 : p < 2 ^ 31) : pm_M G l bs yX0_advance cX0_advance 1 none 0 0 0 [.ref m] S (pm_qv (fun S2 => (p < n ∧ S2 = pm_si S 2 m (nI (p + 1))) ∨ (n ≤ p ∧ S2 = S))) := by
  obtain ⟨hk, hp, hka, hna⟩ := hm
  refine pm_Mv (L := [.ref m]) false (by decide +kernel) (fun h => by cases h) rfl (pm_en_1 rfl (pm_en_0 rfl)) ?_
  generalize hQ9 : pm_xv (fun S2 => (p < n ∧ S2 = pm_si S 2 m (nI (p + 1))) ∨ (n ≤ p ∧ S2 = S)) = Q9
  refine pm_aload_n dX0_advance_0 rfl ?_
  refine pm_g_Mailbox_pointer (by (try simp only [pm_k_si, pm_k_sj, pm_k_sp, pm_k_sx, pm_k_sz, pm_k_sr, pm_k_sy]); assumption) pm_f_X0_19 dX0_advance_1 ?_
  refine pm_aload_n dX0_advance_4 rfl ?_
  refine pm_g_Mailbox_count (by (try simp only [pm_k_si, pm_k_sj, pm_k_sp, pm_k_sx, pm_k_sz, pm_k_sr, pm_k_sy]); assumption) pm_f_X0_15 dX0_advance_5 ?_
  rw [hn, hpt]
  refine pm_icmp_ge (tgt := 21) dX0_advance_8 (by decide) (fun h8 => ?_) (fun h8 => ?_)
  · skip
    have h9 : n ≤ p := (pm_nle (by omega) (by omega)).mp h8
    subst hQ9
    refine pm_vret dX0_advance_21 ?_
    first | exact Or.inr ⟨h9, rfl⟩ | exact Or.inl ⟨h9, rfl⟩
  · skip
    have h9 : p < n := by rcases Nat.lt_or_ge p n with q | q; exact q; exact absurd ((pm_nle (by omega) (by omega)).mpr q) h8
    refine pm_aload_n dX0_advance_11 rfl ?_
    refine pm_dup dX0_advance_12 ?_
    refine pm_g_Mailbox_pointer (by (try simp only [pm_k_si, pm_k_sj, pm_k_sp, pm_k_sx, pm_k_sz, pm_k_sr, pm_k_sy]); assumption) pm_f_X0_19 dX0_advance_13 ?_
    refine pm_iconst (v := 1) dX0_advance_16 (by decide) ?_
    refine pm_iadd dX0_advance_17 ?_
    rw [hpt, nI_1]
    refine pm_p_Mailbox_pointer (by (try simp only [pm_k_si, pm_k_sj, pm_k_sp, pm_k_sx, pm_k_sz, pm_k_sr, pm_k_sy]); assumption) pm_f_X0_19 dX0_advance_18 ?_
    subst hQ9
    refine pm_vret dX0_advance_21 ?_
    first | exact Or.inr ⟨h9, rfl⟩ | exact Or.inl ⟨h9, rfl⟩

set_option maxHeartbeats 4000000 in
set_option maxRecDepth 100000 in
theorem c_X0_pointToFirst (G : pm_G) (l : Launch) (bs : Nat) (m : Nat) (S : pm_S) (hk : pm_k S m = 1) : pm_M G l bs yX0_pointToFirst cX0_pointToFirst 1 none 0 0 0 [.ref m] S (pm_qv (fun S2 => S2 = pm_si S 2 m 0)) := by
  refine pm_Mv (L := [.ref m]) false (by decide +kernel) (fun h => by cases h) rfl (pm_en_1 rfl (pm_en_0 rfl)) ?_
  generalize hQ9 : pm_xv (fun S2 => S2 = pm_si S 2 m 0) = Q9
  refine pm_aload_n dX0_pointToFirst_0 rfl ?_
  refine pm_iconst (v := 0) dX0_pointToFirst_1 (by decide) ?_
  refine pm_p_Mailbox_pointer (by (try simp only [pm_k_si, pm_k_sj, pm_k_sp, pm_k_sx, pm_k_sz, pm_k_sr, pm_k_sy]); assumption) pm_f_X0_19 dX0_pointToFirst_2 ?_
  subst hQ9
  refine pm_vret dX0_pointToFirst_5 ?_
  rfl

set_option maxHeartbeats 4000000 in
set_option maxRecDepth 100000 in
theorem c_X0_clear (G : pm_G) (l : Launch) (bs : Nat) (m : Nat) (S : pm_S) (hk : pm_k S m = 1) : pm_M G l bs yX0_clear cX0_clear 1 none 0 0 0 [.ref m] S (pm_qv (fun S2 => S2 = pm_si (pm_si S 1 m 0) 2 m 0)) := by
  refine pm_Mv (L := [.ref m]) false (by decide +kernel) (fun h => by cases h) rfl (pm_en_1 rfl (pm_en_0 rfl)) ?_
  generalize hQ9 : pm_xv (fun S2 => S2 = pm_si (pm_si S 1 m 0) 2 m 0) = Q9
  refine pm_aload_n dX0_clear_0 rfl ?_
  refine pm_iconst (v := 0) dX0_clear_1 (by decide) ?_
  refine pm_p_Mailbox_count (by (try simp only [pm_k_si, pm_k_sj, pm_k_sp, pm_k_sx, pm_k_sz, pm_k_sr, pm_k_sy]); assumption) pm_f_X0_15 dX0_clear_2 ?_
  refine pm_aload_n dX0_clear_5 rfl ?_
  refine pm_iconst (v := 0) dX0_clear_6 (by decide) ?_
  refine pm_p_Mailbox_pointer (by (try simp only [pm_k_si, pm_k_sj, pm_k_sp, pm_k_sx, pm_k_sz, pm_k_sr, pm_k_sy]); assumption) pm_f_X0_19 dX0_clear_7 ?_
  subst hQ9
  refine pm_vret dX0_clear_10 ?_
  rfl

set_option maxHeartbeats 4000000 in
set_option maxRecDepth 100000 in
theorem c_X0_newRow (G : pm_G) (l : Launch) (bs : Nat) (m a n : Nat) (S : pm_S) (hm : pm_mb S m a) (hn : pm_i S 1 m = nI n) (hn3 : n < 2 ^ 31) : pm_M G l bs yX0_newRow cX0_newRow 1 (some (.object "ProcessMill$Term")) 2 2 97 [.ref m] S (pm_qr (fun x S2 => (40 ≤ n ∧ x = none ∧ S2 = S) ∨ (n < 40 ∧ ((∃ t, pm_z S a n = some t ∧ x = some t ∧ S2 = pm_si S 1 m (nI (n + 1))) ∨ (pm_z S a n = none ∧ ∃ t r, pm_k S t = 0 ∧ bs ≤ t ∧ pm_k (pm_nw S t 4 0) r = 0 ∧ bs ≤ r ∧ x = some t ∧ S2 = pm_si (pm_sz (pm_si (pm_sp (pm_nw (pm_nw S t 4 0) r 9 95) 150 t (some r)) 151 t 2) a n (some t)) 1 m (nI (n + 1))))))) := by
  obtain ⟨hk, hp, hka, hna⟩ := hm
  refine pm_Mr (L := [.ref m]) (by decide +kernel) rfl (pm_en_1 rfl (pm_en_0 rfl)) ?_
  generalize hQ9 : pm_xr (fun x S2 => (40 ≤ n ∧ x = none ∧ S2 = S) ∨ (n < 40 ∧ ((∃ t, pm_z S a n = some t ∧ x = some t ∧ S2 = pm_si S 1 m (nI (n + 1))) ∨ (pm_z S a n = none ∧ ∃ t r, pm_k S t = 0 ∧ bs ≤ t ∧ pm_k (pm_nw S t 4 0) r = 0 ∧ bs ≤ r ∧ x = some t ∧ S2 = pm_si (pm_sz (pm_si (pm_sp (pm_nw (pm_nw S t 4 0) r 9 95) 150 t (some r)) 151 t 2) a n (some t)) 1 m (nI (n + 1)))))) = Q9
  refine pm_aload_n dX0_newRow_0 rfl ?_
  refine pm_g_Mailbox_count (by (try simp only [pm_k_si, pm_k_sj, pm_k_sp, pm_k_sx, pm_k_sz, pm_k_sr, pm_k_sy]); assumption) pm_f_X0_15 dX0_newRow_1 ?_
  refine pm_bipush (v := 40) dX0_newRow_4 (by decide) ?_
  rw [hn]
  refine pm_icmp_lt (tgt := 11) dX0_newRow_6 (by decide) (fun h6 => ?_) (fun h6 => ?_)
  · skip
    have h9 : n < 40 := (pm_lt16 (m := 40) hn3 (by decide)).mp h6
    refine pm_aload_n dX0_newRow_11 rfl ?_
    refine pm_g_Mailbox_rows (by (try simp only [pm_k_si, pm_k_sj, pm_k_sp, pm_k_sx, pm_k_sz, pm_k_sr, pm_k_sy]); assumption) pm_f_X0_11 (by (try simp only [pm_p_si, pm_p_sj, pm_p_sx, pm_p_sz, pm_p_sr, pm_p_sy]); assumption) dX0_newRow_12 ?_
    refine pm_aload_n dX0_newRow_15 rfl ?_
    refine pm_g_Mailbox_count (by (try simp only [pm_k_si, pm_k_sj, pm_k_sp, pm_k_sx, pm_k_sz, pm_k_sr, pm_k_sy]); assumption) pm_f_X0_15 dX0_newRow_16 ?_
    refine pm_aaloadT (n := n) (by (try simp only [pm_k_si, pm_k_sj, pm_k_sp, pm_k_sx, pm_k_sz, pm_k_sr, pm_k_sy]); assumption) hn (by first | omega | (simp only [pm_n_sx, pm_n_si, pm_n_sr, pm_n_sz, pm_n_sp, pm_n_sj, pm_n_sy]; omega)) (by first | omega | (simp only [pm_n_sx, pm_n_si, pm_n_sr, pm_n_sz, pm_n_sp, pm_n_sj, pm_n_sy]; omega)) dX0_newRow_19 ?_
    cases hz : pm_z S a n with
    | some t =>
      refine pm_ifnonnull_r (tgt := 39) dX0_newRow_20 (by decide) ?_
      refine pm_aload_n dX0_newRow_39 rfl ?_
      refine pm_dup dX0_newRow_40 ?_
      refine pm_g_Mailbox_count (by (try simp only [pm_k_si, pm_k_sj, pm_k_sp, pm_k_sx, pm_k_sz, pm_k_sr, pm_k_sy]); assumption) pm_f_X0_15 dX0_newRow_41 ?_
      refine pm_iconst (v := 1) dX0_newRow_44 (by decide) ?_
      refine pm_iadd dX0_newRow_45 ?_
      try simp only [pm_i_sz]
      first | rw [q5, nI_1] | rw [hn, nI_1]
      refine pm_p_Mailbox_count (by (try simp only [pm_k_si, pm_k_sj, pm_k_sp, pm_k_sx, pm_k_sz, pm_k_sr, pm_k_sy]); assumption) pm_f_X0_15 dX0_newRow_46 ?_
      refine pm_aload_n dX0_newRow_49 rfl ?_
      refine pm_g_Mailbox_rows (by (try simp only [pm_k_si, pm_k_sj, pm_k_sp, pm_k_sx, pm_k_sz, pm_k_sr, pm_k_sy]); assumption) pm_f_X0_11 (by (try simp only [pm_p_si, pm_p_sj, pm_p_sx, pm_p_sz, pm_p_sr, pm_p_sy]); assumption) dX0_newRow_50 ?_
      refine pm_aload_n dX0_newRow_53 rfl ?_
      refine pm_g_Mailbox_count (by (try simp only [pm_k_si, pm_k_sj, pm_k_sp, pm_k_sx, pm_k_sz, pm_k_sr, pm_k_sy]); assumption) pm_f_X0_15 dX0_newRow_54 ?_
      refine pm_iconst (v := 1) dX0_newRow_57 (by decide) ?_
      refine pm_isub dX0_newRow_58 ?_
      rw [pm_i_si, if_pos ⟨rfl, rfl⟩, show nI (n + 1) - 1 = nI n from nI_pred n]
      refine pm_aaloadT (n := n) (by (try simp only [pm_k_si, pm_k_sj, pm_k_sp, pm_k_sx, pm_k_sz, pm_k_sr, pm_k_sy]); assumption) rfl (by first | omega | (simp only [pm_n_sx, pm_n_si, pm_n_sr, pm_n_sz, pm_n_sp, pm_n_sj, pm_n_sy]; omega)) (by first | omega | (simp only [pm_n_sx, pm_n_si, pm_n_sr, pm_n_sz, pm_n_sp, pm_n_sj, pm_n_sy]; omega)) dX0_newRow_59 ?_
      subst hQ9
      refine pm_aretr dX0_newRow_60 ?_
      rw [pm_z_si]
      first
      | exact Or.inr ⟨h9, Or.inl ⟨t, hz, hz, rfl⟩⟩
      | (rw [pm_z_sz, if_pos ⟨rfl, rfl⟩]; subst hS9; exact Or.inr ⟨h9, Or.inr ⟨hz, a31, r, hf31, hb31, hfr, hbr, rfl, rfl⟩⟩)
    | none =>
      refine pm_ifnonnull_n dX0_newRow_20 ?_
      refine pm_aload_n dX0_newRow_23 rfl ?_
      refine pm_g_Mailbox_rows (by (try simp only [pm_k_si, pm_k_sj, pm_k_sp, pm_k_sx, pm_k_sz, pm_k_sr, pm_k_sy]); assumption) pm_f_X0_11 (by (try simp only [pm_p_si, pm_p_sj, pm_p_sx, pm_p_sz, pm_p_sr, pm_p_sy]); assumption) dX0_newRow_24 ?_
      refine pm_aload_n dX0_newRow_27 rfl ?_
      refine pm_g_Mailbox_count (by (try simp only [pm_k_si, pm_k_sj, pm_k_sp, pm_k_sx, pm_k_sz, pm_k_sr, pm_k_sy]); assumption) pm_f_X0_15 dX0_newRow_28 ?_
      refine pm_new_Term pm_c_X0_9 (kc' := 1) (ks' := 95) (by decide) (by decide) dX0_newRow_31 (fun a31 hf31 hb31 => ?_)
      have nm : m ≠ a31 := fun e => by rw [e, hf31] at hk; cases hk
      have na : a ≠ a31 := fun e => by rw [e, hf31] at hka; cases hka
      rw [show pm_i S 1 m = nI n from hn]
      refine pm_dup dX0_newRow_34 ?_
      refine pm_callI (c_X3_init G l bs a31 (pm_nw S a31 4 0) (by rw [pm_k_nw, if_pos rfl])) pm_y_X3_init pm_i_X3_init rfl (Or.inr ⟨_, pm_m_X0_26⟩) rfl (by decide) (kc2 := 0) (ks2 := 0) (by decide) (by decide) (Nat.le_of_ble_eq_true rfl) dX0_newRow_35 rfl (fun v35 S35 h35 => ?_)
      obtain ⟨rfl, h35⟩ := h35
      dsimp only [Option.toList, List.nil_append]
      obtain ⟨r, hfr, hbr, rfl⟩ := h35
      have nm2 : m ≠ r := fun e => by subst e; rw [pm_k_nw, if_neg nm, hk] at hfr; cases hfr
      have na2 : a ≠ r := fun e => by subst e; rw [pm_k_nw, if_neg na, hka] at hfr; cases hfr
      have nt2 : a31 ≠ r := fun e => by subst e; rw [pm_k_nw, if_pos rfl] at hfr; cases hfr
      have q1 : pm_k (pm_si (pm_sp (pm_nw (pm_nw S a31 4 0) r 9 95) 150 a31 (some r)) 151 a31 2) m = 1 := by simp only [pm_k_si, pm_k_sp, pm_k_nw, if_neg nm, if_neg nm2]; exact hk
      have q2 : pm_k (pm_si (pm_sp (pm_nw (pm_nw S a31 4 0) r 9 95) 150 a31 (some r)) 151 a31 2) a = 13 := by simp only [pm_k_si, pm_k_sp, pm_k_nw, if_neg na, if_neg na2]; exact hka
      have q3 : pm_n (pm_si (pm_sp (pm_nw (pm_nw S a31 4 0) r 9 95) 150 a31 (some r)) 151 a31 2) a = 40 := by simp only [pm_n_si, pm_n_sp, pm_n_nw, if_neg na, if_neg na2]; exact hna
      have q4 : pm_k (pm_si (pm_sp (pm_nw (pm_nw S a31 4 0) r 9 95) 150 a31 (some r)) 151 a31 2) a31 = 4 := by simp only [pm_k_si, pm_k_sp, pm_k_nw, if_neg nt2, if_pos]
      have q5 : pm_i (pm_si (pm_sp (pm_nw (pm_nw S a31 4 0) r 9 95) 150 a31 (some r)) 151 a31 2) 1 m = nI n := by rw [pm_i_si, if_neg (by omega), pm_i_sp, pm_i_nw, if_neg nm2, pm_i_nw, if_neg nm]; exact hn
      have q6 : pm_p (pm_si (pm_sp (pm_nw (pm_nw S a31 4 0) r 9 95) 150 a31 (some r)) 151 a31 2) 0 m = some a := by rw [pm_p_si, pm_p_sp, if_neg (by omega), pm_p_nw, if_neg nm2, pm_p_nw, if_neg nm]; exact hp
      generalize hS9 : pm_si (pm_sp (pm_nw (pm_nw S a31 4 0) r 9 95) 150 a31 (some r)) 151 a31 2 = S9 at q1 q2 q3 q4 q5 q6 ⊢
      refine pm_aastoreT (n := n) (by (try simp only [pm_k_si, pm_k_sj, pm_k_sp, pm_k_sx, pm_k_sz, pm_k_sr, pm_k_sy]); assumption) rfl (by first | omega | (simp only [pm_n_sx, pm_n_si, pm_n_sr, pm_n_sz, pm_n_sp, pm_n_sj, pm_n_sy]; omega)) (by first | omega | (simp only [pm_n_sx, pm_n_si, pm_n_sr, pm_n_sz, pm_n_sp, pm_n_sj, pm_n_sy]; omega)) q4 dX0_newRow_38 ?_
      refine pm_aload_n dX0_newRow_39 rfl ?_
      refine pm_dup dX0_newRow_40 ?_
      refine pm_g_Mailbox_count (by (try simp only [pm_k_si, pm_k_sj, pm_k_sp, pm_k_sx, pm_k_sz, pm_k_sr, pm_k_sy]); assumption) pm_f_X0_15 dX0_newRow_41 ?_
      refine pm_iconst (v := 1) dX0_newRow_44 (by decide) ?_
      refine pm_iadd dX0_newRow_45 ?_
      try simp only [pm_i_sz]
      first | rw [q5, nI_1] | rw [hn, nI_1]
      refine pm_p_Mailbox_count (by (try simp only [pm_k_si, pm_k_sj, pm_k_sp, pm_k_sx, pm_k_sz, pm_k_sr, pm_k_sy]); assumption) pm_f_X0_15 dX0_newRow_46 ?_
      refine pm_aload_n dX0_newRow_49 rfl ?_
      refine pm_g_Mailbox_rows (by (try simp only [pm_k_si, pm_k_sj, pm_k_sp, pm_k_sx, pm_k_sz, pm_k_sr, pm_k_sy]); assumption) pm_f_X0_11 (by (try simp only [pm_p_si, pm_p_sj, pm_p_sx, pm_p_sz, pm_p_sr, pm_p_sy]); assumption) dX0_newRow_50 ?_
      refine pm_aload_n dX0_newRow_53 rfl ?_
      refine pm_g_Mailbox_count (by (try simp only [pm_k_si, pm_k_sj, pm_k_sp, pm_k_sx, pm_k_sz, pm_k_sr, pm_k_sy]); assumption) pm_f_X0_15 dX0_newRow_54 ?_
      refine pm_iconst (v := 1) dX0_newRow_57 (by decide) ?_
      refine pm_isub dX0_newRow_58 ?_
      rw [pm_i_si, if_pos ⟨rfl, rfl⟩, show nI (n + 1) - 1 = nI n from nI_pred n]
      refine pm_aaloadT (n := n) (by (try simp only [pm_k_si, pm_k_sj, pm_k_sp, pm_k_sx, pm_k_sz, pm_k_sr, pm_k_sy]); assumption) rfl (by first | omega | (simp only [pm_n_sx, pm_n_si, pm_n_sr, pm_n_sz, pm_n_sp, pm_n_sj, pm_n_sy]; omega)) (by first | omega | (simp only [pm_n_sx, pm_n_si, pm_n_sr, pm_n_sz, pm_n_sp, pm_n_sj, pm_n_sy]; omega)) dX0_newRow_59 ?_
      subst hQ9
      refine pm_aretr dX0_newRow_60 ?_
      rw [pm_z_si]
      first
      | exact Or.inr ⟨h9, Or.inl ⟨t, hz, hz, rfl⟩⟩
      | (rw [pm_z_sz, if_pos ⟨rfl, rfl⟩]; subst hS9; exact Or.inr ⟨h9, Or.inr ⟨hz, a31, r, hf31, hb31, hfr, hbr, rfl, rfl⟩⟩)
  · skip
    have h9 : 40 ≤ n := by rcases Nat.lt_or_ge n 40 with q | q; exact absurd ((pm_lt16 (m := 40) hn3 (by decide)).mpr q) h6; exact q
    refine pm_null dX0_newRow_9 ?_
    subst hQ9
    refine pm_aretn dX0_newRow_10 ?_
    exact Or.inl ⟨h9, rfl, rfl⟩

set_option maxHeartbeats 4000000 in
set_option maxRecDepth 100000 in
theorem c_X0_dropAtPointer (G : pm_G) (l : Launch) (bs : Nat) (m a n p : Nat) (S : pm_S) (hm : pm_mb S m a) (hn : pm_i S 1 m = nI n) (hn3 : n ≤ 40) (hpt : pm_i S 2 m = nI p) (hp3 : p < 2 ^ 31) (hall : ∀ i, i < n → ∃ t, pm_z S a i = some t ∧ pm_k S t = 4) : pm_M G l bs yX0_dropAtPointer cX0_dropAtPointer 3 none 0 0 0 [.ref m] S (pm_qv (fun S2 => (n ≤ p ∧ S2 = pm_si S 2 m 0) ∨ (p < n ∧ pm_fr S S2 (fun g b => (g = 1 ∨ g = 2) ∧ b = m) (fun b => b = a) ∧ pm_i S2 1 m = nI (n - 1) ∧ pm_i S2 2 m = 0 ∧ ∀ i, i < 40 → pm_z S2 a i = if p ≤ i ∧ i + 1 < n then pm_z S a (i + 1) else if i + 1 = n then pm_z S a p else pm_z S a i))) := by
  obtain ⟨hk, hp, hka, hna⟩ := hm
  refine pm_Mv (L := [.ref m, pm_u, pm_u]) false (by decide +kernel) (fun h => by cases h) rfl (pm_en_1 rfl (pm_en_0 rfl)) ?_
  generalize hQ9 : pm_xv (fun S2 => (n ≤ p ∧ S2 = pm_si S 2 m 0) ∨ (p < n ∧ pm_fr S S2 (fun g b => (g = 1 ∨ g = 2) ∧ b = m) (fun b => b = a) ∧ pm_i S2 1 m = nI (n - 1) ∧ pm_i S2 2 m = 0 ∧ ∀ i, i < 40 → pm_z S2 a i = if p ≤ i ∧ i + 1 < n then pm_z S a (i + 1) else if i + 1 = n then pm_z S a p else pm_z S a i)) = Q9
  have loop : ∀ (q j : Nat) (S9 : pm_S) (t : Nat), p < n → j + q = n → p + 1 ≤ j → pm_z S a p = some t → pm_k S t = 4 → pm_fr S S9 (fun _ _ => False) (fun b => b = a) → (∀ i, i < 40 → pm_z S9 a i = if p ≤ i ∧ i + 1 < j then pm_z S a (i + 1) else pm_z S a i) → pm_W G l bs yX0_dropAtPointer.cls cX0_dropAtPointer 3 false 0 0 0 Q9 28 [.ref m, .ref t, .int (nI j)] [] S9 := by
    intro q
    induction q using Nat.strongRecOn with
    | ind q ih =>
    intro j S9 t h9 hjq hpj ht hkt hf hz9
    have hk9 : pm_k S9 m = 1 := by rw [hf.1]; exact hk
    have hp9 : pm_p S9 0 m = some a := by rw [(hf.2.2.1 0 m (fun z => z)).2.2]; exact hp
    have hka9 : pm_k S9 a = 13 := by rw [hf.1]; exact hka
    have hna9 : pm_n S9 a = 40 := by rw [hf.2.1]; exact hna
    have hn9 : pm_i S9 1 m = nI n := by rw [(hf.2.2.1 1 m (fun z => z)).1]; exact hn
    refine pm_iload_n dX0_dropAtPointer_28 rfl ?_
    refine pm_aload_n dX0_dropAtPointer_29 rfl ?_
    refine pm_g_Mailbox_count (by (try simp only [pm_k_si, pm_k_sj, pm_k_sp, pm_k_sx, pm_k_sz, pm_k_sr, pm_k_sy]); assumption) pm_f_X0_15 dX0_dropAtPointer_30 ?_
    rw [hn9]
    refine pm_icmp_ge (tgt := 56) dX0_dropAtPointer_33 (by decide) (fun h33 => ?_) (fun h33 => ?_)
    · skip
      have h5 : j = n := by have := (pm_nle (by omega) (by omega)).mp h33; omega
      subst h5
      refine pm_aload_n dX0_dropAtPointer_56 rfl ?_
      refine pm_dup dX0_dropAtPointer_57 ?_
      refine pm_g_Mailbox_count (by (try simp only [pm_k_si, pm_k_sj, pm_k_sp, pm_k_sx, pm_k_sz, pm_k_sr, pm_k_sy]); assumption) pm_f_X0_15 dX0_dropAtPointer_58 ?_
      refine pm_iconst (v := 1) dX0_dropAtPointer_61 (by decide) ?_
      refine pm_isub dX0_dropAtPointer_62 ?_
      rw [hn9, show nI j - 1 = nI (j - 1) from by rw [show (1 : Int32) = nI 1 from rfl, pk_sub (by omega)]]
      refine pm_p_Mailbox_count (by (try simp only [pm_k_si, pm_k_sj, pm_k_sp, pm_k_sx, pm_k_sz, pm_k_sr, pm_k_sy]); assumption) pm_f_X0_15 dX0_dropAtPointer_63 ?_
      refine pm_aload_n dX0_dropAtPointer_66 rfl ?_
      refine pm_g_Mailbox_rows (by (try simp only [pm_k_si, pm_k_sj, pm_k_sp, pm_k_sx, pm_k_sz, pm_k_sr, pm_k_sy]); assumption) pm_f_X0_11 (by (try simp only [pm_p_si, pm_p_sj, pm_p_sx, pm_p_sz, pm_p_sr, pm_p_sy]); assumption) dX0_dropAtPointer_67 ?_
      refine pm_aload_n dX0_dropAtPointer_70 rfl ?_
      refine pm_g_Mailbox_count (by (try simp only [pm_k_si, pm_k_sj, pm_k_sp, pm_k_sx, pm_k_sz, pm_k_sr, pm_k_sy]); assumption) pm_f_X0_15 dX0_dropAtPointer_71 ?_
      refine pm_aload_n dX0_dropAtPointer_74 rfl ?_
      rw [pm_i_si, if_pos ⟨rfl, rfl⟩]
      refine pm_aastoreT (n := j - 1) (by (try simp only [pm_k_si, pm_k_sj, pm_k_sp, pm_k_sx, pm_k_sz, pm_k_sr, pm_k_sy]); assumption) rfl (by first | omega | (simp only [pm_n_sx, pm_n_si, pm_n_sr, pm_n_sz, pm_n_sp, pm_n_sj, pm_n_sy]; omega)) (by first | omega | (simp only [pm_n_sx, pm_n_si, pm_n_sr, pm_n_sz, pm_n_sp, pm_n_sj, pm_n_sy]; omega)) (by rw [pm_k_si, hf.1]; exact hkt) dX0_dropAtPointer_75 ?_
      refine pm_aload_n dX0_dropAtPointer_76 rfl ?_
      refine pm_iconst (v := 0) dX0_dropAtPointer_77 (by decide) ?_
      refine pm_p_Mailbox_pointer (by (try simp only [pm_k_si, pm_k_sj, pm_k_sp, pm_k_sx, pm_k_sz, pm_k_sr, pm_k_sy]); assumption) pm_f_X0_19 dX0_dropAtPointer_78 ?_
      subst hQ9
      refine pm_vret dX0_dropAtPointer_81 ?_
      first
      | exact Or.inl ⟨h9, rfl⟩
      | (refine Or.inr ⟨h9, pm_fr.tr (pm_fr.tr (hf.mono (fun _ _ z => z.elim) (fun _ z => z)) (pm_fr_si ⟨Or.inl rfl, rfl⟩)) (pm_fr.tr (pm_fr_sz rfl) (pm_fr_si ⟨Or.inr rfl, rfl⟩)), ?_, ?_, fun i hi => ?_⟩
         · rw [pm_i_si, if_neg (by omega), pm_i_sz, pm_i_si, if_pos ⟨rfl, rfl⟩]
         · rw [pm_i_si, if_pos ⟨rfl, rfl⟩]
         · rw [pm_z_si, pm_z_sz, pm_z_si, hz9 i hi]
           by_cases e1 : i = j - 1
           · rw [if_pos ⟨rfl, e1⟩, if_neg (by omega), if_pos (by omega)]; exact ht.symm
           · rw [if_neg (fun z => e1 z.2)]; by_cases e2 : p ≤ i ∧ i + 1 < j
             · rw [if_pos e2, if_pos e2]
             · rw [if_neg e2, if_neg e2, if_neg (by omega)])
    · skip
      have h5 : j < n := by rcases Nat.lt_or_ge j n with q | q; exact q; exact absurd ((pm_nle (by omega) (by omega)).mpr q) h33
      obtain ⟨t2, ht2, hkt2⟩ := hall j h5
      have hz2 : pm_z S9 a j = some t2 := by rw [hz9 j (by omega), if_neg (by omega)]; exact ht2
      have hkt3 : pm_k S9 t2 = 4 := by rw [hf.1]; exact hkt2
      refine pm_aload_n dX0_dropAtPointer_36 rfl ?_
      refine pm_g_Mailbox_rows (by (try simp only [pm_k_si, pm_k_sj, pm_k_sp, pm_k_sx, pm_k_sz, pm_k_sr, pm_k_sy]); assumption) pm_f_X0_11 (by (try simp only [pm_p_si, pm_p_sj, pm_p_sx, pm_p_sz, pm_p_sr, pm_p_sy]); assumption) dX0_dropAtPointer_37 ?_
      refine pm_iload_n dX0_dropAtPointer_40 rfl ?_
      refine pm_iconst (v := 1) dX0_dropAtPointer_41 (by decide) ?_
      refine pm_isub dX0_dropAtPointer_42 ?_
      refine pm_aload_n dX0_dropAtPointer_43 rfl ?_
      refine pm_g_Mailbox_rows (by (try simp only [pm_k_si, pm_k_sj, pm_k_sp, pm_k_sx, pm_k_sz, pm_k_sr, pm_k_sy]); assumption) pm_f_X0_11 (by (try simp only [pm_p_si, pm_p_sj, pm_p_sx, pm_p_sz, pm_p_sr, pm_p_sy]); assumption) dX0_dropAtPointer_44 ?_
      refine pm_iload_n dX0_dropAtPointer_47 rfl ?_
      refine pm_aaloadT (n := j) (by (try simp only [pm_k_si, pm_k_sj, pm_k_sp, pm_k_sx, pm_k_sz, pm_k_sr, pm_k_sy]); assumption) rfl (by first | omega | (simp only [pm_n_sx, pm_n_si, pm_n_sr, pm_n_sz, pm_n_sp, pm_n_sj, pm_n_sy]; omega)) (by first | omega | (simp only [pm_n_sx, pm_n_si, pm_n_sr, pm_n_sz, pm_n_sp, pm_n_sj, pm_n_sy]; omega)) dX0_dropAtPointer_48 ?_
      rw [hz2]
      show pm_W _ _ _ _ _ _ _ _ _ _ _ _ _ [.ref t2, .int (nI j - 1), .ref a] S9
      refine pm_aastoreT (n := j - 1) (by (try simp only [pm_k_si, pm_k_sj, pm_k_sp, pm_k_sx, pm_k_sz, pm_k_sr, pm_k_sy]); assumption) (by rw [show (1 : Int32) = nI 1 from rfl, pk_sub (by omega)]) (by first | omega | (simp only [pm_n_sx, pm_n_si, pm_n_sr, pm_n_sz, pm_n_sp, pm_n_sj, pm_n_sy]; omega)) (by first | omega | (simp only [pm_n_sx, pm_n_si, pm_n_sr, pm_n_sz, pm_n_sp, pm_n_sj, pm_n_sy]; omega)) hkt3 dX0_dropAtPointer_49 ?_
      refine pm_iinc dX0_dropAtPointer_50 rfl rfl (by decide) ?_
      dsimp only [List.set]
      refine pm_goto (tgt := 28) dX0_dropAtPointer_53 (by decide) ?_
      rw [show nI j + Int32.ofInt 1 = nI (j + 1) from nI_1 _]
      refine ih (q - 1) (by omega) (j + 1) _ t h9 (by omega) (by omega) ht hkt (hf.tr (pm_fr_sz rfl)) (fun i hi => ?_)
      rw [pm_z_sz, hz9 i hi]
      by_cases e1 : i = j - 1
      · rw [if_pos ⟨rfl, e1⟩, if_pos ⟨by omega, by omega⟩, ← ht2]; congr 1; omega
      · rw [if_neg (fun z => e1 z.2)]
        by_cases e2 : p ≤ i ∧ i + 1 < j
        · rw [if_pos e2, if_pos ⟨e2.1, by omega⟩]
        · rw [if_neg e2, if_neg (by omega)]
  refine pm_aload_n dX0_dropAtPointer_0 rfl ?_
  refine pm_g_Mailbox_pointer (by (try simp only [pm_k_si, pm_k_sj, pm_k_sp, pm_k_sx, pm_k_sz, pm_k_sr, pm_k_sy]); assumption) pm_f_X0_19 dX0_dropAtPointer_1 ?_
  refine pm_aload_n dX0_dropAtPointer_4 rfl ?_
  refine pm_g_Mailbox_count (by (try simp only [pm_k_si, pm_k_sj, pm_k_sp, pm_k_sx, pm_k_sz, pm_k_sr, pm_k_sy]); assumption) pm_f_X0_15 dX0_dropAtPointer_5 ?_
  rw [hn, hpt]
  refine pm_icmp_ge (tgt := 76) dX0_dropAtPointer_8 (by decide) (fun h8 => ?_) (fun h8 => ?_)
  · skip
    have h9 : n ≤ p := (pm_nle (by omega) (by omega)).mp h8
    refine pm_aload_n dX0_dropAtPointer_76 rfl ?_
    refine pm_iconst (v := 0) dX0_dropAtPointer_77 (by decide) ?_
    refine pm_p_Mailbox_pointer (by (try simp only [pm_k_si, pm_k_sj, pm_k_sp, pm_k_sx, pm_k_sz, pm_k_sr, pm_k_sy]); assumption) pm_f_X0_19 dX0_dropAtPointer_78 ?_
    subst hQ9
    refine pm_vret dX0_dropAtPointer_81 ?_
    first
    | exact Or.inl ⟨h9, rfl⟩
    | (refine Or.inr ⟨h9, pm_fr.tr (pm_fr.tr (hf.mono (fun _ _ z => z.elim) (fun _ z => z)) (pm_fr_si ⟨Or.inl rfl, rfl⟩)) (pm_fr.tr (pm_fr_sz rfl) (pm_fr_si ⟨Or.inr rfl, rfl⟩)), ?_, ?_, fun i hi => ?_⟩
       · rw [pm_i_si, if_neg (by omega), pm_i_sz, pm_i_si, if_pos ⟨rfl, rfl⟩]
       · rw [pm_i_si, if_pos ⟨rfl, rfl⟩]
       · rw [pm_z_si, pm_z_sz, pm_z_si, hz9 i hi]
         by_cases e1 : i = j - 1
         · rw [if_pos ⟨rfl, e1⟩, if_neg (by omega), if_pos (by omega)]; exact ht.symm
         · rw [if_neg (fun z => e1 z.2)]; by_cases e2 : p ≤ i ∧ i + 1 < j
           · rw [if_pos e2, if_pos e2]
           · rw [if_neg e2, if_neg e2, if_neg (by omega)])
  · skip
    have h9 : p < n := by rcases Nat.lt_or_ge p n with q | q; exact q; exact absurd ((pm_nle (by omega) (by omega)).mpr q) h8
    obtain ⟨t, ht, hkt⟩ := hall p h9
    refine pm_aload_n dX0_dropAtPointer_11 rfl ?_
    refine pm_g_Mailbox_rows (by (try simp only [pm_k_si, pm_k_sj, pm_k_sp, pm_k_sx, pm_k_sz, pm_k_sr, pm_k_sy]); assumption) pm_f_X0_11 (by (try simp only [pm_p_si, pm_p_sj, pm_p_sx, pm_p_sz, pm_p_sr, pm_p_sy]); assumption) dX0_dropAtPointer_12 ?_
    refine pm_aload_n dX0_dropAtPointer_15 rfl ?_
    refine pm_g_Mailbox_pointer (by (try simp only [pm_k_si, pm_k_sj, pm_k_sp, pm_k_sx, pm_k_sz, pm_k_sr, pm_k_sy]); assumption) pm_f_X0_19 dX0_dropAtPointer_16 ?_
    refine pm_aaloadT (n := p) (by (try simp only [pm_k_si, pm_k_sj, pm_k_sp, pm_k_sx, pm_k_sz, pm_k_sr, pm_k_sy]); assumption) hpt (by first | omega | (simp only [pm_n_sx, pm_n_si, pm_n_sr, pm_n_sz, pm_n_sp, pm_n_sj, pm_n_sy]; omega)) (by first | omega | (simp only [pm_n_sx, pm_n_si, pm_n_sr, pm_n_sz, pm_n_sp, pm_n_sj, pm_n_sy]; omega)) dX0_dropAtPointer_19 ?_
    rw [ht]
    show pm_W _ _ _ _ _ _ _ _ _ _ _ _ [.ref m, pm_u, pm_u] [.ref t] S
    refine pm_astn dX0_dropAtPointer_20 (i := 1) rfl (by decide) ?_
    dsimp only [List.set]
    refine pm_aload_n dX0_dropAtPointer_21 rfl ?_
    refine pm_g_Mailbox_pointer (by (try simp only [pm_k_si, pm_k_sj, pm_k_sp, pm_k_sx, pm_k_sz, pm_k_sr, pm_k_sy]); assumption) pm_f_X0_19 dX0_dropAtPointer_22 ?_
    refine pm_iconst (v := 1) dX0_dropAtPointer_25 (by decide) ?_
    refine pm_iadd dX0_dropAtPointer_26 ?_
    rw [hpt, nI_1]
    refine pm_istn dX0_dropAtPointer_27 (i := 2) rfl (by decide) ?_
    dsimp only [List.set]
    exact loop (n - (p + 1)) (p + 1) S t h9 (by omega) (by omega) ht hkt pm_fr.rf (fun i hi => by rw [if_neg (by omega)])

