/-! ProcessMill: turns, finding -/
set_option maxHeartbeats 4000000 in
set_option maxRecDepth 100000 in
theorem c_X6_place (G : pm_G) (l : Launch) (bs : Nat) (a : Int32) (S : pm_S)  : pm_M G l bs yX6_place cX6_place 1 (some .int) 1 0 0 [.int a] S (pm_qi (fun x S2 => x = nI (pm_mod a 300) ∧ S2 = S)) := by
  refine pm_Mi (L := [.int a]) (by decide +kernel) rfl (pm_en_1 rfl (pm_en_0 rfl)) ?_
  generalize hQ9 : pm_xi (fun x S2 => x = nI (pm_mod a 300) ∧ S2 = S) = Q9
  refine pm_iload_n dX6_place_0 rfl ?_
  refine pm_sipush (v := 300) dX6_place_1 (by decide) ?_
  refine pm_ssi (c_J9_floorMod G l bs a 300 S (by decide) (by decide)) pm_y_J9_floorMod_7cf53 pm_s_J9_floorMod_7cf53 pm_m_X6_161 dX6_place_4 rfl rfl (by decide) (Nat.le_of_ble_eq_true rfl) (fun x4 S4 h4 => ?_)
  obtain ⟨rfl, rfl⟩ := h4
  subst hQ9
  refine pm_iret dX6_place_7 ?_
  exact ⟨rfl, rfl⟩

set_option maxHeartbeats 4000000 in
set_option maxRecDepth 100000 in
theorem c_X6_takeLastTurn (G : pm_G) (l : Launch) (bs : Nat) (Z : az) (Y : pm_Y) (E : pm_S) (p : Nat) (S : pm_S) (h : pm_CR Z S Y E) (hn : az_a Z 0 ≤ 60) (hp : p < az_a Z 0) : pm_M G l bs yX6_takeLastTurn cX6_takeLastTurn 2 none 0 0 0 [.ref (Y.1 0), .ref (Y.1 (pq p 0))] S (pm_qv (fun S2 => pm_CR (zTurn Z p) S2 Y E)) := by
  have hA := h.2.2.2.2.2.1
  obtain ⟨⟨hk0, hr0, hr1, hr2, hr3, hr4, hr5, hr6, hr7⟩, ⟨hk1, hl1⟩, ⟨hk2, hl2⟩, ⟨hk3, hl3⟩, ⟨hk4, hl4⟩, hWt, hSh, hLt, hCs⟩ := id h.2.2.1
  have hB := h.2.2.2.2.1 p hp
  obtain ⟨⟨pk0, pr1, pr2, pr4, pr6, ppid⟩, ⟨pk1, pn1, pz1⟩, hmb, hts⟩ := id (h.2.2.2.1 p hp)
  refine pm_Mv (L := [.ref (Y.1 0), .ref (Y.1 (pq p 0))]) false (by decide +kernel) (fun h => by cases h) rfl (pm_en_1 rfl (pm_en_1 rfl (pm_en_0 rfl))) ?_
  generalize hQ9 : pm_xv (fun S2 => pm_CR (zTurn Z p) S2 Y E) = Q9
  refine pm_aload_n dX6_takeLastTurn_0 rfl ?_
  refine pm_aload_n dX6_takeLastTurn_1 rfl ?_
  refine pm_g_Mill_turns (by (try simp only [pm_k_si, pm_k_sj, pm_k_sp, pm_k_sx, pm_k_sz, pm_k_sr, pm_k_sy]); assumption) pm_f_X6_59 dX6_takeLastTurn_2 ?_
  rw [hA 311 0 3 rfl]
  refine pm_p_Proc_turn (by (try simp only [pm_k_si, pm_k_sj, pm_k_sp, pm_k_sx, pm_k_sz, pm_k_sr, pm_k_sy]); assumption) pm_f_X6_187 dX6_takeLastTurn_5 ?_
  refine pm_aload_n dX6_takeLastTurn_8 rfl ?_
  refine pm_dup dX6_takeLastTurn_9 ?_
  refine pm_g_Mill_turns (by (try simp only [pm_k_si, pm_k_sj, pm_k_sp, pm_k_sx, pm_k_sz, pm_k_sr, pm_k_sy]); assumption) pm_f_X6_59 dX6_takeLastTurn_10 ?_
  refine pm_iconst (v := 1) dX6_takeLastTurn_13 (by decide) ?_
  refine pm_iadd dX6_takeLastTurn_14 ?_
  rw [show pm_i (pm_si S 61 (Y.1 (pq p 0)) (nI (az_a Z 3))) 311 (Y.1 0) = nI (az_a Z 3) from hA 311 0 3 rfl, nI_1]
  refine pm_p_Mill_turns (by (try simp only [pm_k_si, pm_k_sj, pm_k_sp, pm_k_sx, pm_k_sz, pm_k_sr, pm_k_sy]); assumption) pm_f_X6_59 dX6_takeLastTurn_15 ?_
  subst hQ9
  refine pm_vret dX6_takeLastTurn_18 ?_
  exact (h.b hn hp (f := 61) rfl).a (f := 311) rfl (by decide)

set_option maxHeartbeats 4000000 in
set_option maxRecDepth 100000 in
theorem c_X6_makeReady (G : pm_G) (l : Launch) (bs : Nat) (Z : az) (Y : pm_Y) (E : pm_S) (p a : Nat) (S : pm_S) (h : pm_CR Z S Y E) (hn : az_a Z 0 ≤ 60) (hp : p < az_a Z 0) : pm_M G l bs yX6_makeReady cX6_makeReady 3 none 1 0 0 [.ref (Y.1 0), .ref (Y.1 (pq p 0)), .int (nI a)] S (pm_qv (fun S2 => pm_CR (zReady Z p a) S2 Y E)) := by
  have hA := h.2.2.2.2.2.1
  obtain ⟨⟨hk0, hr0, hr1, hr2, hr3, hr4, hr5, hr6, hr7⟩, ⟨hk1, hl1⟩, ⟨hk2, hl2⟩, ⟨hk3, hl3⟩, ⟨hk4, hl4⟩, hWt, hSh, hLt, hCs⟩ := id h.2.2.1
  have hB := h.2.2.2.2.1 p hp
  obtain ⟨⟨pk0, pr1, pr2, pr4, pr6, ppid⟩, ⟨pk1, pn1, pz1⟩, hmb, hts⟩ := id (h.2.2.2.1 p hp)
  refine pm_Mv (L := [.ref (Y.1 0), .ref (Y.1 (pq p 0)), .int (nI a)]) false (by decide +kernel) (fun h => by cases h) rfl (pm_en_1 rfl (pm_en_1 rfl (pm_en_1 rfl (pm_en_0 rfl)))) ?_
  generalize hQ9 : pm_xv (fun S2 => pm_CR (zReady Z p a) S2 Y E) = Q9
  refine pm_aload_n dX6_makeReady_0 rfl ?_
  refine pm_iconst (v := 0) dX6_makeReady_1 (by decide) ?_
  refine pm_p_Proc_state (by (try simp only [pm_k_si, pm_k_sj, pm_k_sp, pm_k_sx, pm_k_sz, pm_k_sr, pm_k_sy]); assumption) pm_f_X6_142 dX6_makeReady_2 ?_
  refine pm_aload_n dX6_makeReady_5 rfl ?_
  refine pm_iload_n dX6_makeReady_6 rfl ?_
  refine pm_p_Proc_at (by (try simp only [pm_k_si, pm_k_sj, pm_k_sp, pm_k_sx, pm_k_sz, pm_k_sr, pm_k_sy]); assumption) pm_f_X6_175 dX6_makeReady_7 ?_
  refine pm_aload_n dX6_makeReady_10 rfl ?_
  refine pm_ldc2 pm_cl_X6_178 dX6_makeReady_11 ?_
  refine pm_p_Proc_deadline (by (try simp only [pm_k_si, pm_k_sj, pm_k_sp, pm_k_sx, pm_k_sz, pm_k_sr, pm_k_sy]); assumption) pm_f_X6_180 dX6_makeReady_14 ?_
  have h9 := ((h.b hn hp (f := 56) (v := 0) rfl).b (i := 2) (v := a) hn hp (f := 57) rfl).dl (p := p) (r := none) hn hp
  refine pm_aload_n dX6_makeReady_17 rfl ?_
  refine pm_aload_n dX6_makeReady_18 rfl ?_
  refine pm_vv (c_X6_takeLastTurn G l bs _ Y E p _ h9 hn hp) pm_y_X6_takeLastTurn pm_v_X6_takeLastTurn pm_m_X6_184 (c := 6) (r := (RX6, TX6, 16)) rfl rfl (by (try simp only [pm_k_si, pm_k_sj, pm_k_sp, pm_k_sx, pm_k_sz, pm_k_sr, pm_k_sy]); assumption) dX6_makeReady_19 rfl rfl (by decide) (Nat.le_of_ble_eq_true rfl) (fun S19 h19 => ?_)
  subst hQ9
  refine pm_vret dX6_makeReady_22 ?_
  exact h19

theorem pm_i1 {i : Int32} : i < 1 ↔ i.toInt < 1 := by rw [Int32.lt_iff_toInt_lt]; rfl
theorem pm_lti {n : Nat} {i : Int32} (hn : n < 2 ^ 31) : nI n < i ↔ (n : Int) < i.toInt := by rw [Int32.lt_iff_toInt_lt, nI_toInt hn]
theorem pm_of_pos {i : Int32} (h : ¬ i < 1) : ∃ k : Nat, k + 1 < 2 ^ 31 ∧ i = nI (k + 1) := by
  have h1 : ¬ i < 0 := fun z => h (by rw [pm_i1]; rw [pm_lt0] at z; omega)
  obtain ⟨j, hj, rfl⟩ := nI_of h1
  rw [pm_i1, nI_toInt hj] at h
  exact ⟨j - 1, by omega, by congr 1; omega⟩
set_option maxHeartbeats 4000000 in
set_option maxRecDepth 100000 in
theorem c_X6_find (G : pm_G) (l : Launch) (bs : Nat) (Z : az) (Y : pm_Y) (E : pm_S) (i : Int32) (S : pm_S) (h : pm_CR Z S Y E) (hn : az_a Z 0 ≤ 60) : pm_M G l bs yX6_find cX6_find 2 (some (.object "ProcessMill$Proc")) 0 0 0 [.ref (Y.1 0), .int i] S (pm_qr (fun x S2 => x = (if 1 ≤ i.toInt ∧ i.toInt ≤ az_a Z 0 then some (Y.1 (pq (i.toInt.toNat - 1) 0)) else none) ∧ S2 = S)) := by
  have hA := h.2.2.2.2.2.1
  obtain ⟨⟨hk0, hr0, hr1, hr2, hr3, hr4, hr5, hr6, hr7⟩, ⟨hk1, hl1⟩, ⟨hk2, hl2⟩, ⟨hk3, hl3⟩, ⟨hk4, hl4⟩, hWt, hSh, hLt, hCs⟩ := id h.2.2.1
  refine pm_Mr (L := [.ref (Y.1 0), .int i]) (by decide +kernel) rfl (pm_en_1 rfl (pm_en_1 rfl (pm_en_0 rfl))) ?_
  generalize hQ9 : pm_xr (fun x S2 => x = (if 1 ≤ i.toInt ∧ i.toInt ≤ az_a Z 0 then some (Y.1 (pq (i.toInt.toNat - 1) 0)) else none) ∧ S2 = S) = Q9
  refine pm_iload_n dX6_find_0 rfl ?_
  refine pm_iconst (v := 1) dX6_find_1 (by decide) ?_
  refine pm_icmp_lt (tgt := 24) dX6_find_2 (by decide) (fun h2 => ?_) (fun h2 => ?_)
  · skip
    have h9 : ¬ (1 ≤ i.toInt ∧ i.toInt ≤ az_a Z 0) := fun z => by rw [pm_i1] at h2; omega
    refine pm_null dX6_find_24 ?_
    subst hQ9
    first | refine pm_aretn dX6_find_25 ?_ | refine pm_aret dX6_find_25 ?_ | refine pm_aretr dX6_find_25 ?_
    refine ⟨?_, rfl⟩
    first | (rw [if_neg h9]; done) | (rw [nI_toInt hk8, if_pos h9, h.2.2.2.2.2.2.2.2.2.2.2.1.1 k (by omega)]; congr 3)
  · skip
    refine pm_iload_n dX6_find_5 rfl ?_
    refine pm_aload_n dX6_find_6 rfl ?_
    refine pm_g_Mill_started (by (try simp only [pm_k_si, pm_k_sj, pm_k_sp, pm_k_sx, pm_k_sz, pm_k_sr, pm_k_sy]); assumption) pm_f_X6_49 dX6_find_7 ?_
    rw [hA 308 0 0 rfl]
    refine pm_icmp_gt (tgt := 24) dX6_find_10 (by decide) (fun h10 => ?_) (fun h10 => ?_)
    · skip
      have h9 : ¬ (1 ≤ i.toInt ∧ i.toInt ≤ az_a Z 0) := fun z => by rw [pm_lti (by omega)] at h10; omega
      refine pm_null dX6_find_24 ?_
      subst hQ9
      first | refine pm_aretn dX6_find_25 ?_ | refine pm_aret dX6_find_25 ?_ | refine pm_aretr dX6_find_25 ?_
      refine ⟨?_, rfl⟩
      first | (rw [if_neg h9]; done) | (rw [nI_toInt hk8, if_pos h9, h.2.2.2.2.2.2.2.2.2.2.2.1.1 k (by omega)]; congr 3)
    · skip
      have h9 : 1 ≤ i.toInt ∧ i.toInt ≤ az_a Z 0 := by rw [pm_lti (by omega)] at h10; rw [pm_i1] at h2; omega
      obtain ⟨k, hk8, rfl⟩ := pm_of_pos h2
      rw [nI_toInt hk8] at h9
      refine pm_aload_n dX6_find_13 rfl ?_
      refine pm_g_Mill_processes (by (try simp only [pm_k_si, pm_k_sj, pm_k_sp, pm_k_sx, pm_k_sz, pm_k_sr, pm_k_sy]); assumption) pm_f_X6_15 (by (try simp only [pm_p_si, pm_p_sj, pm_p_sx, pm_p_sz, pm_p_sr, pm_p_sy]); assumption) dX6_find_14 ?_
      refine pm_iload_n dX6_find_17 rfl ?_
      refine pm_iconst (v := 1) dX6_find_18 (by decide) ?_
      refine pm_isub dX6_find_19 ?_
      rw [show nI (k + 1) - 1 = nI k from nI_pred k]
      refine pm_aaloadP (n := k) (by (try simp only [pm_k_si, pm_k_sj, pm_k_sp, pm_k_sx, pm_k_sz, pm_k_sr, pm_k_sy]); assumption) rfl (by first | omega | (simp only [pm_n_sx, pm_n_si, pm_n_sr, pm_n_sz, pm_n_sp, pm_n_sj, pm_n_sy]; omega)) (by first | omega | (simp only [pm_n_sx, pm_n_si, pm_n_sr, pm_n_sz, pm_n_sp, pm_n_sj, pm_n_sy]; omega)) dX6_find_20 ?_
      refine pm_goto (tgt := 25) dX6_find_21 (by decide) ?_
      subst hQ9
      first | refine pm_aretn dX6_find_25 ?_ | refine pm_aret dX6_find_25 ?_ | refine pm_aretr dX6_find_25 ?_
      refine ⟨?_, rfl⟩
      first | (rw [if_neg h9]; done) | (rw [nI_toInt hk8, if_pos h9, h.2.2.2.2.2.2.2.2.2.2.2.1.1 k (by omega)]; congr 3)

set_option maxHeartbeats 4000000 in
set_option maxRecDepth 100000 in
theorem c_X6_findByTerm (G : pm_G) (l : Launch) (bs : Nat) (Z : az) (Y : pm_Y) (E : pm_S) (t r : Nat) (w : List Int32) (S : pm_S) (h : pm_CR Z S Y E) (hn : az_a Z 0 ≤ 60) (ht : pm_tm S t r w) (hl : 1 < w.length) : pm_M G l bs yX6_findByTerm cX6_findByTerm 2 (some (.object "ProcessMill$Proc")) 2 0 0 [.ref (Y.1 0), .ref t] S (pm_qr (fun x S2 => x = (if zKind w = 2 ∧ 1 ≤ (zVal w).toInt ∧ (zVal w).toInt ≤ az_a Z 0 then some (Y.1 (pq (zPid w) 0)) else none) ∧ S2 = S)) := by
  have hA := h.2.2.2.2.2.1
  obtain ⟨⟨hk0, hr0, hr1, hr2, hr3, hr4, hr5, hr6, hr7⟩, ⟨hk1, hl1⟩, ⟨hk2, hl2⟩, ⟨hk3, hl3⟩, ⟨hk4, hl4⟩, hWt, hSh, hLt, hCs⟩ := id h.2.2.1
  refine pm_Mr (L := [.ref (Y.1 0), .ref t]) (by decide +kernel) rfl (pm_en_1 rfl (pm_en_1 rfl (pm_en_0 rfl))) ?_
  generalize hQ9 : pm_xr (fun x S2 => x = (if zKind w = 2 ∧ 1 ≤ (zVal w).toInt ∧ (zVal w).toInt ≤ az_a Z 0 then some (Y.1 (pq (zPid w) 0)) else none) ∧ S2 = S) = Q9
  refine pm_aload_n dX6_findByTerm_0 rfl ?_
  refine pm_vi (c_X3_kind G l bs t r w S ht (by omega)) pm_y_X3_kind pm_v_X3_kind pm_m_X6_167 (c := 3) (r := (RX3, TX3, 2)) rfl rfl ht.1.1 dX6_findByTerm_1 rfl rfl (by decide) (Nat.le_of_ble_eq_true rfl) (fun x1 S1 h1 => ?_)
  obtain ⟨e1, rfl⟩ := h1
  have e2 : zKind w = x1 := by unfold zKind; cases hw : w[0]? with
    | none => rw [hw] at e1; cases e1
    | some y => rw [hw] at e1; rw [List.getD_eq_getElem?_getD, hw]; exact Option.some.inj e1
  subst e2
  refine pm_iconst (v := 2) dX6_findByTerm_4 (by decide) ?_
  refine pm_icmp_ne (tgt := 19) dX6_findByTerm_5 (by decide) (fun h5 => ?_) (fun h5 => ?_)
  · skip
    have h9 : ¬ (zKind w = 2 ∧ 1 ≤ (zVal w).toInt ∧ (zVal w).toInt ≤ az_a Z 0) := fun z => h5 z.1
    refine pm_null dX6_findByTerm_19 ?_
    subst hQ9
    first | refine pm_aretn dX6_findByTerm_20 ?_ | refine pm_aret dX6_findByTerm_20 ?_ | refine pm_aretr dX6_findByTerm_20 ?_
    refine ⟨?_, rfl⟩
    first
    | (rw [if_neg h9]; done)
    | (by_cases q : 1 ≤ (zVal w).toInt ∧ (zVal w).toInt ≤ az_a Z 0
       · rw [if_pos q, if_pos ⟨h5, q⟩]; rfl
       · rw [if_neg q, if_neg (fun z => q z.2)])
  · skip
    refine pm_aload_n dX6_findByTerm_8 rfl ?_
    refine pm_aload_n dX6_findByTerm_9 rfl ?_
    refine pm_vi (c_X3_value G l bs t r w _ ht hl) pm_y_X3_value pm_v_X3_value pm_m_X6_170 (c := 3) (r := (RX3, TX3, 2)) rfl rfl ht.1.1 dX6_findByTerm_10 rfl rfl (by decide) (Nat.le_of_ble_eq_true rfl) (fun x10 S10 h10 => ?_)
    obtain ⟨e3, rfl⟩ := h10
    have e4 : zVal w = x10 := by unfold zVal; rw [List.getD_eq_getElem?_getD, e3]; rfl
    subst e4
    refine pm_vr (c_X6_find G l bs Z Y E _ _ h hn) pm_y_X6_find pm_v_X6_find pm_m_X6_91 (c := 6) (r := (RX6, TX6, 16)) rfl rfl (by (try simp only [pm_k_si, pm_k_sj, pm_k_sp, pm_k_sx, pm_k_sz, pm_k_sr, pm_k_sy]); assumption) dX6_findByTerm_13 rfl rfl (by decide) (Nat.le_of_ble_eq_true rfl) (fun x13 S13 h13 => ?_)
    obtain ⟨rfl, rfl⟩ := h13
    refine pm_goto (tgt := 20) dX6_findByTerm_16 (by decide) ?_
    subst hQ9
    first | refine pm_aretn dX6_findByTerm_20 ?_ | refine pm_aret dX6_findByTerm_20 ?_ | refine pm_aretr dX6_findByTerm_20 ?_
    refine ⟨?_, rfl⟩
    first
    | (rw [if_neg h9]; done)
    | (by_cases q : 1 ≤ (zVal w).toInt ∧ (zVal w).toInt ≤ az_a Z 0
       · rw [if_pos q, if_pos ⟨h5, q⟩]; rfl
       · rw [if_neg q, if_neg (fun z => q z.2)])

set_option maxHeartbeats 4000000 in
set_option maxRecDepth 100000 in
theorem c_X6_findByName (G : pm_G) (l : Launch) (bs : Nat) (Z : az) (Y : pm_Y) (E : pm_S) (i : Int32) (S : pm_S) (h : pm_CR Z S Y E) (hn : az_a Z 0 ≤ 60) : pm_M G l bs yX6_findByName cX6_findByName 2 (some (.object "ProcessMill$Proc")) 1 0 0 [.ref (Y.1 0), .int i] S (pm_qr (fun x S2 => x = (if 0 ≤ i.toInt ∧ i.toInt < 100 then (az_e Z 2 i.toInt.toNat).map (fun p => Y.1 (pq p 0)) else none) ∧ S2 = S)) := by
  have hA := h.2.2.2.2.2.1
  obtain ⟨⟨hk0, hr0, hr1, hr2, hr3, hr4, hr5, hr6, hr7⟩, ⟨hk1, hl1⟩, ⟨hk2, hl2⟩, ⟨hk3, hl3⟩, ⟨hk4, hl4⟩, hWt, hSh, hLt, hCs⟩ := id h.2.2.1
  refine pm_Mr (L := [.ref (Y.1 0), .int i]) (by decide +kernel) rfl (pm_en_1 rfl (pm_en_1 rfl (pm_en_0 rfl))) ?_
  generalize hQ9 : pm_xr (fun x S2 => x = (if 0 ≤ i.toInt ∧ i.toInt < 100 then (az_e Z 2 i.toInt.toNat).map (fun p => Y.1 (pq p 0)) else none) ∧ S2 = S) = Q9
  refine pm_iload_n dX6_findByName_0 rfl ?_
  refine pm_bipush (v := 100) dX6_findByName_1 (by decide) ?_
  refine pm_ssi (c_X6_isBelow G l bs i 100 S) pm_y_X6_isBelow pm_s_X6_isBelow pm_m_X6_74 dX6_findByName_3 rfl rfl (by decide) (Nat.le_of_ble_eq_true rfl) (fun x3 S3 h3 => ?_)
  obtain ⟨e3, rfl⟩ := h3
  refine pm_if_eq (tgt := 18) dX6_findByName_6 (by decide) (fun h6 => ?_) (fun h6 => ?_)
  · skip
    have h9 : ¬ (0 ≤ i.toInt ∧ i.toInt < 100) := fun z => by rw [h6, if_pos ⟨pm_0le.mpr z.1, by rw [Int32.lt_iff_toInt_lt]; exact z.2⟩] at e3; cases e3
    refine pm_null dX6_findByName_18 ?_
    subst hQ9
    first | refine pm_aretn dX6_findByName_19 ?_ | refine pm_aret dX6_findByName_19 ?_ | refine pm_aretr dX6_findByName_19 ?_
    refine ⟨?_, rfl⟩
    first | (rw [if_neg h9]; done) | (rw [nI_toInt hk8, if_pos h9, h.2.2.2.2.2.2.1.2 k (by omega)]; rfl)
  · skip
    have h9 : 0 ≤ i.toInt ∧ i.toInt < 100 := by
      by_cases z : 0 ≤ i ∧ i < 100
      · exact ⟨pm_0le.mp z.1, by have := z.2; rw [Int32.lt_iff_toInt_lt] at this; exact this⟩
      · rw [if_neg z] at e3; exact absurd e3 h6
    obtain ⟨k, hk8, rfl⟩ := nI_of (x := i) (fun z => by rw [pm_lt0] at z; omega)
    rw [nI_toInt hk8] at h9
    refine pm_aload_n dX6_findByName_9 rfl ?_
    refine pm_g_Mill_named (by (try simp only [pm_k_si, pm_k_sj, pm_k_sp, pm_k_sx, pm_k_sz, pm_k_sr, pm_k_sy]); assumption) pm_f_X6_19 (by (try simp only [pm_p_si, pm_p_sj, pm_p_sx, pm_p_sz, pm_p_sr, pm_p_sy]); assumption) dX6_findByName_10 ?_
    refine pm_iload_n dX6_findByName_13 rfl ?_
    refine pm_aaloadP (n := k) (by (try simp only [pm_k_si, pm_k_sj, pm_k_sp, pm_k_sx, pm_k_sz, pm_k_sr, pm_k_sy]); assumption) rfl (by first | omega | (simp only [pm_n_sx, pm_n_si, pm_n_sr, pm_n_sz, pm_n_sp, pm_n_sj, pm_n_sy]; omega)) (by first | omega | (simp only [pm_n_sx, pm_n_si, pm_n_sr, pm_n_sz, pm_n_sp, pm_n_sj, pm_n_sy]; omega)) dX6_findByName_14 ?_
    refine pm_goto (tgt := 19) dX6_findByName_15 (by decide) ?_
    subst hQ9
    first | refine pm_aretn dX6_findByName_19 ?_ | refine pm_aret dX6_findByName_19 ?_ | refine pm_aretr dX6_findByName_19 ?_
    refine ⟨?_, rfl⟩
    first | (rw [if_neg h9]; done) | (rw [nI_toInt hk8, if_pos h9, h.2.2.2.2.2.2.1.2 k (by omega)]; rfl)

/-- how many of the first k processes are ready -/
def zReadies (Z : az) : Nat → Nat
  | 0 => 0
  | k + 1 => zReadies Z k + (if az_b Z 1 k = 0 then 1 else 0)
theorem zReadies_le (Z : az) : ∀ k, zReadies Z k ≤ k
  | 0 => Nat.le_refl _
  | k + 1 => by
    have := zReadies_le Z k
    unfold zReadies
    split <;> omega
theorem pm_ne0 {n : Nat} (hn : n < 2 ^ 31) : nI n = 0 ↔ n = 0 := by rw [show (0 : Int32) = nI 0 from rfl, nI_eq hn (by omega)]
set_option maxHeartbeats 4000000 in
set_option maxRecDepth 100000 in
theorem c_X6_readyOnes (G : pm_G) (l : Launch) (bs : Nat) (Z : az) (Y : pm_Y) (E : pm_S) (S : pm_S) (h : pm_CR Z S Y E) (hn : az_a Z 0 ≤ 60) (hst : ∀ p, p < az_a Z 0 → az_b Z 1 p < 2 ^ 31) : pm_M G l bs yX6_readyOnes cX6_readyOnes 3 (some .int) 0 0 0 [.ref (Y.1 0)] S (pm_qi (fun x S2 => x = nI (zReadies Z (az_a Z 0)) ∧ S2 = S)) := by
  have hA := h.2.2.2.2.2.1
  obtain ⟨⟨hk0, hr0, hr1, hr2, hr3, hr4, hr5, hr6, hr7⟩, ⟨hk1, hl1⟩, ⟨hk2, hl2⟩, ⟨hk3, hl3⟩, ⟨hk4, hl4⟩, hWt, hSh, hLt, hCs⟩ := id h.2.2.1
  refine pm_Mi (L := [.ref (Y.1 0), pm_u, pm_u]) (by decide +kernel) rfl (pm_en_1 rfl (pm_en_0 rfl)) ?_
  generalize hQ9 : pm_xi (fun x S2 => x = nI (zReadies Z (az_a Z 0)) ∧ S2 = S) = Q9
  have loop : ∀ (m k : Nat), k + m = az_a Z 0 → pm_W G l bs yX6_readyOnes.cls cX6_readyOnes 3 false 0 0 0 Q9 4 [.ref (Y.1 0), .int (nI (zReadies Z k)), .int (nI k)] [] S := by
    intro m
    induction m using Nat.strongRecOn with
    | ind m ih =>
    intro k hkm
    refine pm_iload_n dX6_readyOnes_4 rfl ?_
    refine pm_aload_n dX6_readyOnes_5 rfl ?_
    refine pm_g_Mill_started (by (try simp only [pm_k_si, pm_k_sj, pm_k_sp, pm_k_sx, pm_k_sz, pm_k_sr, pm_k_sy]); assumption) pm_f_X6_49 dX6_readyOnes_6 ?_
    rw [hA 308 0 0 rfl]
    refine pm_icmp_ge (tgt := 33) dX6_readyOnes_9 (by decide) (fun h9 => ?_) (fun h9 => ?_)
    · skip
      have h8 : k = az_a Z 0 := by have := (pm_nle (by omega) (by omega)).mp h9; omega
      subst h8
      refine pm_iload_n dX6_readyOnes_33 rfl ?_
      subst hQ9
      refine pm_iret dX6_readyOnes_34 ?_
      exact ⟨rfl, rfl⟩
    · skip
      have h8 : k < az_a Z 0 := by rcases Nat.lt_or_ge k (az_a Z 0) with q | q; exact q; exact absurd ((pm_nle (by omega) (by omega)).mpr q) h9
      have pk := (h.2.2.2.1 k h8).1.1
      have hz := h.2.2.2.2.2.2.2.2.2.2.2.1.1 k h8
      have hs := h.2.2.2.2.1 k h8 56 0 1 rfl
      refine pm_aload_n dX6_readyOnes_12 rfl ?_
      refine pm_g_Mill_processes (by (try simp only [pm_k_si, pm_k_sj, pm_k_sp, pm_k_sx, pm_k_sz, pm_k_sr, pm_k_sy]); assumption) pm_f_X6_15 (by (try simp only [pm_p_si, pm_p_sj, pm_p_sx, pm_p_sz, pm_p_sr, pm_p_sy]); assumption) dX6_readyOnes_13 ?_
      refine pm_iload_n dX6_readyOnes_16 rfl ?_
      refine pm_aaloadP (n := k) (by (try simp only [pm_k_si, pm_k_sj, pm_k_sp, pm_k_sx, pm_k_sz, pm_k_sr, pm_k_sy]); assumption) rfl (by first | omega | (simp only [pm_n_sx, pm_n_si, pm_n_sr, pm_n_sz, pm_n_sp, pm_n_sj, pm_n_sy]; omega)) (by first | omega | (simp only [pm_n_sx, pm_n_si, pm_n_sr, pm_n_sz, pm_n_sp, pm_n_sj, pm_n_sy]; omega)) dX6_readyOnes_17 ?_
      rw [hz]
      show pm_W _ _ _ _ _ _ _ _ _ _ _ _ _ [.ref (Y.1 (pq k 0))] S
      refine pm_g_Proc_state (by (try simp only [pm_k_si, pm_k_sj, pm_k_sp, pm_k_sx, pm_k_sz, pm_k_sr, pm_k_sy]); assumption) pm_f_X6_142 dX6_readyOnes_18 ?_
      rw [hs]
      refine pm_if_ne (tgt := 27) dX6_readyOnes_21 (by decide) (fun h21 => ?_) (fun h21 => ?_)
      · skip
        have h7 : ¬ az_b Z 1 k = 0 := fun z => h21 (by rw [z]; rfl)
        have h6 : zReadies Z (k + 1) = zReadies Z k := by rw [zReadies, if_neg h7, Nat.add_zero]
        refine pm_iinc dX6_readyOnes_27 rfl rfl (by decide) ?_
        dsimp only [List.set]
        refine pm_goto (tgt := 4) dX6_readyOnes_30 (by decide) ?_
        rw [show nI k + Int32.ofInt 1 = nI (k + 1) from nI_1 _]
        first
        | (rw [show nI (zReadies Z k) + Int32.ofInt 1 = nI (zReadies Z (k + 1)) from by rw [h6]; exact nI_1 _]; exact ih (m - 1) (by omega) (k + 1) (by omega))
        | (rw [← h6]; exact ih (m - 1) (by omega) (k + 1) (by omega))
      · skip
        have h7 : az_b Z 1 k = 0 := (pm_ne0 (hst k h8)).mp h21
        have h6 : zReadies Z (k + 1) = zReadies Z k + 1 := by rw [zReadies, if_pos h7]
        refine pm_iinc dX6_readyOnes_24 rfl rfl (by decide) ?_
        dsimp only [List.set]
        refine pm_iinc dX6_readyOnes_27 rfl rfl (by decide) ?_
        dsimp only [List.set]
        refine pm_goto (tgt := 4) dX6_readyOnes_30 (by decide) ?_
        rw [show nI k + Int32.ofInt 1 = nI (k + 1) from nI_1 _]
        first
        | (rw [show nI (zReadies Z k) + Int32.ofInt 1 = nI (zReadies Z (k + 1)) from by rw [h6]; exact nI_1 _]; exact ih (m - 1) (by omega) (k + 1) (by omega))
        | (rw [← h6]; exact ih (m - 1) (by omega) (k + 1) (by omega))
  refine pm_iconst (v := 0) dX6_readyOnes_0 (by decide) ?_
  refine pm_istn dX6_readyOnes_1 (i := 1) rfl (by decide) ?_
  dsimp only [List.set]
  refine pm_iconst (v := 0) dX6_readyOnes_2 (by decide) ?_
  refine pm_istn dX6_readyOnes_3 (i := 2) rfl (by decide) ?_
  dsimp only [List.set]
  exact loop (az_a Z 0) 0 (by omega)

set_option maxHeartbeats 4000000 in
set_option maxRecDepth 100000 in
theorem c_X6_out (G : pm_G) (l : Launch) (bs : Nat) (Z : az) (Y : pm_Y) (E : pm_S) (i : Int32) (S : pm_S) (h : pm_CR Z S Y E) (hn : az_a Z 0 ≤ 60) (hpo : az_a Z 9 < 2 ^ 31) : pm_M G l bs yX6_out cX6_out 2 (some .int) 2 0 0 [.ref (Y.1 0), .int i] S (pm_qi (fun x S2 => x = (if 0 ≤ i ∧ i.toInt < min (az_a Z 9) 600 then az_x Z 1 i.toInt.toNat else -1) ∧ S2 = S)) := by
  have hA := h.2.2.2.2.2.1
  obtain ⟨⟨hk0, hr0, hr1, hr2, hr3, hr4, hr5, hr6, hr7⟩, ⟨hk1, hl1⟩, ⟨hk2, hl2⟩, ⟨hk3, hl3⟩, ⟨hk4, hl4⟩, hWt, hSh, hLt, hCs⟩ := id h.2.2.1
  refine pm_Mi (L := [.ref (Y.1 0), .int i]) (by decide +kernel) rfl (pm_en_1 rfl (pm_en_1 rfl (pm_en_0 rfl))) ?_
  generalize hQ9 : pm_xi (fun x S2 => x = (if 0 ≤ i ∧ i.toInt < min (az_a Z 9) 600 then az_x Z 1 i.toInt.toNat else -1) ∧ S2 = S) = Q9
  refine pm_aload_n dX6_out_0 rfl ?_
  refine pm_g_Mill_sheet (by (try simp only [pm_k_si, pm_k_sj, pm_k_sp, pm_k_sx, pm_k_sz, pm_k_sr, pm_k_sy]); assumption) pm_f_X6_35 (by (try simp only [pm_p_si, pm_p_sj, pm_p_sx, pm_p_sz, pm_p_sr, pm_p_sy]); assumption) dX6_out_1 ?_
  refine pm_iload_n dX6_out_4 rfl ?_
  refine pm_vi (c_X2_numberAt G l bs (Y.1 9) (Y.1 10) (az_a Z 9) i S hSh (hA 101 9 9 rfl) hpo) pm_y_X2_numberAt pm_v_X2_numberAt pm_m_X6_130 (c := 2) (r := (RX2, TX2, 2)) rfl rfl hSh.1 dX6_out_5 rfl rfl (by decide) (Nat.le_of_ble_eq_true rfl) (fun x5 S5 h5 => ?_)
  obtain ⟨rfl, rfl⟩ := h5
  subst hQ9
  refine pm_iret dX6_out_8 ?_
  refine ⟨?_, rfl⟩
  by_cases q : 0 ≤ i ∧ i.toInt < min (az_a Z 9) 600
  · rw [if_pos q, if_pos q]
    have := pm_0le.mp q.1
    exact h.2.2.2.2.2.2.2.2.1.2 _ (by omega) (by omega)
  · rw [if_neg q, if_neg q]

