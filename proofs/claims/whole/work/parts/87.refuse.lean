/-! ProcessMill: what it refuses -/
theorem pm_iA : Cond.initialized pm_IA ∈ pm_ws := pm_ws_of (List.mem_append_right _ (List.mem_of_getElem? (i := 9) (by decide +kernel))) rfl
theorem pm_iS : Cond.initialized pm_IS ∈ pm_ws := pm_ws_of (List.mem_append_right _ (List.mem_of_getElem? (i := 10) (by decide +kernel))) rfl
theorem pm_caA : Cond.castable pm_IA pm_IA ∈ lw_tbl := List.mem_append_right _ (List.mem_of_getElem? (i := 157) (by decide +kernel))
theorem pm_caS : Cond.castable pm_IS pm_IS ∈ lw_tbl := List.mem_append_right _ (List.mem_of_getElem? (i := 227) (by decide +kernel))
theorem pm_twA : pm_tw RX6 78 80 pm_IA := ⟨by decide +kernel, pm_c_X6_78, pm_iA, by decide +kernel, by decide +kernel, by decide +kernel⟩
theorem pm_twS : pm_tw RX6 81 83 pm_IS := ⟨by decide +kernel, pm_c_X6_81, pm_iS, by decide +kernel, by decide +kernel, by decide +kernel⟩
theorem i32_lt {x : Int32} {n : Nat} (hn : n + 1 < 2 ^ 31) (h : x < nI (n + 1)) : x ≤ nI n := by
  have h1 := Int32.lt_iff_toInt_lt.mp h
  rw [nI_toInt hn] at h1
  apply Int32.le_iff_toInt_le.mpr
  rw [nI_toInt (by omega)]
  omega
theorem fnd_bad {x : Int32} {n : Nat} (hn : n ≤ 60) (h : ¬ (1 ≤ x ∧ x ≤ nI n)) : ¬ (1 ≤ x.toInt ∧ x.toInt ≤ (n : Int)) := fun z => h ⟨Int32.le_iff_toInt_le.mpr z.1, Int32.le_iff_toInt_le.mpr (by rw [nI_toInt (by omega)]; exact z.2)⟩
theorem fnd_ok {x : Int32} {n : Nat} (hn : n ≤ 60) (h : 1 ≤ x ∧ x ≤ nI n) : 1 ≤ x.toInt ∧ x.toInt ≤ (n : Int) := ⟨Int32.le_iff_toInt_le.mp h.1, by have := Int32.le_iff_toInt_le.mp h.2; rwa [nI_toInt (by omega)] at this⟩
theorem if01 {c : Prop} [Decidable c] (h : ¬ (if c then (1 : Int32) else 0) = 0) : c := by
  by_cases z : c
  · exact z
  · rw [if_neg z] at h; exact absurd rfl h
set_option maxHeartbeats 4000000 in
set_option maxRecDepth 100000 in
theorem t_X6_word (G : pm_G) (l : Launch) (hl : l.stackTraces = false) (bs : Nat) (Z : az) (Y : pm_Y) (E : pm_S) (x y a b c : Int32) (S : pm_S) (hx : pm_CX Z S Y E) (hn : az_a Z 0 ≤ 60) (hbad : ¬ ((0 ≤ x ∧ x ≤ 299) ∧ (0 ≤ y ∧ y ≤ 36))) : pm_T G l bs yX6_word cX6_word 7 none 6 pm_IA [.ref (Y.1 0), .int x, .int y, .int a, .int b, .int c] S := by
  obtain ⟨h, hmk⟩ := id hx
  have hA := h.2.2.2.2.2.1
  obtain ⟨⟨hk0, hr0, hr1, hr2, hr3, hr4, hr5, hr6, hr7⟩, ⟨hk1, hl1⟩, ⟨hk2, hl2⟩, ⟨hk3, hl3⟩, ⟨hk4, hl4⟩, hWt, hSh, hLt, hCs⟩ := id h.2.2.1
  obtain ⟨kW, rW1, rW2, rW3, kW1, nW1, kW2, nW2, kW3, nW3, -⟩ := id hWt
  refine pm_T.mk (L := [.ref (Y.1 0), .int x, .int y, .int a, .int b, .int c, pm_u]) hl (by decide +kernel) rfl (pm_en_1 rfl (pm_en_1 rfl (pm_en_1 rfl (pm_en_1 rfl (pm_en_1 rfl (pm_en_1 rfl (pm_en_0 rfl))))))) pm_twA (by decide) (by decide +kernel) (by decide +kernel) (by decide +kernel) (by decide +kernel) ?_
  refine pm_iload_n dX6_word_0 rfl ?_
  refine pm_sipush (v := 300) dX6_word_1 (by decide) ?_
  refine pm_ssi (c_X6_isBelow G l bs x 300 _) pm_y_X6_isBelow pm_s_X6_isBelow pm_m_X6_74 dX6_word_4 rfl rfl (by decide) (Nat.le_of_ble_eq_true rfl) (fun x4 S4 h4 => ?_)
  obtain ⟨e4, rfl⟩ := h4
  subst e4
  refine pm_if_eq (tgt := 19) dX6_word_7 (by decide) (fun h7 => ?_) (fun h7 => ?_)
  · skip
    exact pm_exitT dX6_word_19 ⟨rfl, rfl, rfl⟩ (Nat.le_refl _) (Nat.le_refl _)
  · skip
    refine pm_iload_n dX6_word_10 rfl ?_
    refine pm_bipush (v := 37) dX6_word_11 (by decide) ?_
    refine pm_ssi (c_X6_isBelow G l bs y 37 _) pm_y_X6_isBelow pm_s_X6_isBelow pm_m_X6_74 dX6_word_13 rfl rfl (by decide) (Nat.le_of_ble_eq_true rfl) (fun x13 S13 h13 => ?_)
    obtain ⟨e13, rfl⟩ := h13
    subst e13
    refine pm_if_ne (tgt := 27) dX6_word_16 (by decide) (fun h16 => ?_) (fun h16 => ?_)
    · exact absurd ⟨⟨(if01 h7).1, i32_lt (n := 299) (by decide) (if01 h7).2⟩, ⟨(if01 h16).1, i32_lt (n := 36) (by decide) (if01 h16).2⟩⟩ hbad
    · skip
      exact pm_exitT dX6_word_19 ⟨rfl, rfl, rfl⟩ (Nat.le_refl _) (Nat.le_refl _)
set_option maxHeartbeats 4000000 in
set_option maxRecDepth 100000 in
theorem t_X6_start (G : pm_G) (l : Launch) (hl : l.stackTraces = false) (bs : Nat) (Z : az) (Y : pm_Y) (E : pm_S) (x y : Int32) (S : pm_S) (hx : pm_CX Z S Y E) (hn : az_a Z 0 ≤ 60) (hbad : ¬ ((0 ≤ x ∧ x ≤ 299) ∧ (0 ≤ y ∧ y ≤ 2))) : pm_T G l bs yX6_start cX6_start 3 (some .int) 6 pm_IA [.ref (Y.1 0), .int x, .int y] S := by
  obtain ⟨h, hmk⟩ := id hx
  have hA := h.2.2.2.2.2.1
  obtain ⟨⟨hk0, hr0, hr1, hr2, hr3, hr4, hr5, hr6, hr7⟩, ⟨hk1, hl1⟩, ⟨hk2, hl2⟩, ⟨hk3, hl3⟩, ⟨hk4, hl4⟩, hWt, hSh, hLt, hCs⟩ := id h.2.2.1
  obtain ⟨kW, rW1, rW2, rW3, kW1, nW1, kW2, nW2, kW3, nW3, -⟩ := id hWt
  refine pm_T.mk (L := [.ref (Y.1 0), .int x, .int y]) hl (by decide +kernel) rfl (pm_en_1 rfl (pm_en_1 rfl (pm_en_1 rfl (pm_en_0 rfl)))) pm_twA (by decide) (by decide +kernel) (by decide +kernel) (by decide +kernel) (by decide +kernel) ?_
  refine pm_iload_n dX6_start_0 rfl ?_
  refine pm_sipush (v := 300) dX6_start_1 (by decide) ?_
  refine pm_ssi (c_X6_isBelow G l bs x 300 _) pm_y_X6_isBelow pm_s_X6_isBelow pm_m_X6_74 dX6_start_4 rfl rfl (by decide) (Nat.le_of_ble_eq_true rfl) (fun x4 S4 h4 => ?_)
  obtain ⟨e4, rfl⟩ := h4
  subst e4
  refine pm_if_eq (tgt := 18) dX6_start_7 (by decide) (fun h7 => ?_) (fun h7 => ?_)
  · skip
    exact pm_exitT dX6_start_18 ⟨rfl, rfl, rfl⟩ (Nat.le_refl _) (Nat.le_refl _)
  · skip
    refine pm_iload_n dX6_start_10 rfl ?_
    refine pm_iconst (v := 3) dX6_start_11 (by decide) ?_
    refine pm_ssi (c_X6_isBelow G l bs y 3 _) pm_y_X6_isBelow pm_s_X6_isBelow pm_m_X6_74 dX6_start_12 rfl rfl (by decide) (Nat.le_of_ble_eq_true rfl) (fun x12 S12 h12 => ?_)
    obtain ⟨e12, rfl⟩ := h12
    subst e12
    refine pm_if_ne (tgt := 26) dX6_start_15 (by decide) (fun h15 => ?_) (fun h15 => ?_)
    · exact absurd ⟨⟨(if01 h7).1, i32_lt (n := 299) (by decide) (if01 h7).2⟩, ⟨(if01 h15).1, i32_lt (n := 2) (by decide) (if01 h15).2⟩⟩ hbad
    · skip
      exact pm_exitT dX6_start_18 ⟨rfl, rfl, rfl⟩ (Nat.le_refl _) (Nat.le_refl _)
set_option maxHeartbeats 4000000 in
set_option maxRecDepth 100000 in
theorem t2_X6_start (G : pm_G) (l : Launch) (hl : l.stackTraces = false) (bs : Nat) (Z : az) (Y : pm_Y) (E : pm_S) (a pr : Nat) (S : pm_S) (hx : pm_CX Z S Y E) (hn : az_a Z 0 ≤ 60) (ha : a < 300) (hpr : pr < 3) (h60 : az_a Z 0 = 60) : pm_T G l bs yX6_start cX6_start 3 (some .int) 6 pm_IS [.ref (Y.1 0), .int (nI a), .int (nI pr)] S := by
  obtain ⟨h, hmk⟩ := id hx
  have hA := h.2.2.2.2.2.1
  obtain ⟨⟨hk0, hr0, hr1, hr2, hr3, hr4, hr5, hr6, hr7⟩, ⟨hk1, hl1⟩, ⟨hk2, hl2⟩, ⟨hk3, hl3⟩, ⟨hk4, hl4⟩, hWt, hSh, hLt, hCs⟩ := id h.2.2.1
  obtain ⟨kW, rW1, rW2, rW3, kW1, nW1, kW2, nW2, kW3, nW3, -⟩ := id hWt
  refine pm_T.mk (L := [.ref (Y.1 0), .int (nI a), .int (nI pr)]) hl (by decide +kernel) rfl (pm_en_1 rfl (pm_en_1 rfl (pm_en_1 rfl (pm_en_0 rfl)))) pm_twS (by decide) (by decide +kernel) (by decide +kernel) (by decide +kernel) (by decide +kernel) ?_
  refine pm_iload_n dX6_start_0 rfl ?_
  refine pm_sipush (v := 300) dX6_start_1 (by decide) ?_
  refine pm_ssi (c_X6_isBelow G l bs (nI a) 300 _) pm_y_X6_isBelow pm_s_X6_isBelow pm_m_X6_74 dX6_start_4 rfl rfl (by decide) (Nat.le_of_ble_eq_true rfl) (fun x4 S4 h4 => ?_)
  obtain ⟨e4, rfl⟩ := h4
  rw [if_pos ⟨nI_pos' (by omega), (pm_lt16 (n := a) (m := 300) (by omega) (by omega)).mpr (by omega)⟩] at e4
  subst e4
  refine pm_if_eq (tgt := 18) dX6_start_7 (by decide) (fun h7 => ?_) (fun h7 => ?_)
  · exact absurd h7 (by decide)
  · skip
    skip
    refine pm_iload_n dX6_start_10 rfl ?_
    refine pm_iconst (v := 3) dX6_start_11 (by decide) ?_
    refine pm_ssi (c_X6_isBelow G l bs (nI pr) 3 _) pm_y_X6_isBelow pm_s_X6_isBelow pm_m_X6_74 dX6_start_12 rfl rfl (by decide) (Nat.le_of_ble_eq_true rfl) (fun x12 S12 h12 => ?_)
    obtain ⟨e12, rfl⟩ := h12
    rw [if_pos ⟨nI_pos' (by omega), (pm_lt16 (n := pr) (m := 3) (by omega) (by omega)).mpr (by omega)⟩] at e12
    subst e12
    refine pm_if_ne (tgt := 26) dX6_start_15 (by decide) (fun h15 => ?_) (fun h15 => ?_)
    · skip
      skip
      refine pm_aload_n dX6_start_26 rfl ?_
      refine pm_g_Mill_started (by (try simp only [pm_k_si, pm_k_sj, pm_k_sp, pm_k_sx, pm_k_sz, pm_k_sr, pm_k_sy]); assumption) pm_f_X6_49 dX6_start_27 ?_
      refine pm_bipush (v := 60) dX6_start_30 (by decide) ?_
      rw [hA 308 0 0 rfl, h60]
      refine pm_icmp_lt (tgt := 43) dX6_start_32 (by decide) (fun h32 => ?_) (fun h32 => ?_)
      · exact absurd h32 (by decide)
      · skip
        exact pm_exitT dX6_start_35 ⟨rfl, rfl, rfl⟩ (Nat.le_refl _) (Nat.le_refl _)
    · exact absurd h15 (by decide)
set_option maxHeartbeats 4000000 in
set_option maxRecDepth 100000 in
theorem t_X6_send (G : pm_G) (l : Launch) (hl : l.stackTraces = false) (bs : Nat) (Z : az) (Y : pm_Y) (E : pm_S) (x v : Int32) (S : pm_S) (hx : pm_CX Z S Y E) (hn : az_a Z 0 ≤ 60) (hbad : ¬ (1 ≤ x ∧ x ≤ nI (az_a Z 0))) : pm_T G l bs yX6_send cX6_send 4 (some .boolean) 6 pm_IA [.ref (Y.1 0), .int x, .int v] S := by
  obtain ⟨h, hmk⟩ := id hx
  have hA := h.2.2.2.2.2.1
  obtain ⟨⟨hk0, hr0, hr1, hr2, hr3, hr4, hr5, hr6, hr7⟩, ⟨hk1, hl1⟩, ⟨hk2, hl2⟩, ⟨hk3, hl3⟩, ⟨hk4, hl4⟩, hWt, hSh, hLt, hCs⟩ := id h.2.2.1
  obtain ⟨kW, rW1, rW2, rW3, kW1, nW1, kW2, nW2, kW3, nW3, -⟩ := id hWt
  refine pm_T.mk (L := [.ref (Y.1 0), .int x, .int v, pm_u]) hl (by decide +kernel) rfl (pm_en_1 rfl (pm_en_1 rfl (pm_en_1 rfl (pm_en_0 rfl)))) pm_twA (by decide) (by decide +kernel) (by decide +kernel) (by decide +kernel) (by decide +kernel) ?_
  refine pm_aload_n dX6_send_0 rfl ?_
  refine pm_iload_n dX6_send_1 rfl ?_
  refine pm_vr (c_X6_find G l bs Z Y E x _ h hn) pm_y_X6_find pm_v_X6_find pm_m_X6_91 (c := 6) (r := (RX6, TX6, 16)) rfl rfl (by (try simp only [pm_k_si, pm_k_sj, pm_k_sp, pm_k_sx, pm_k_sz, pm_k_sr, pm_k_sy]); assumption) dX6_send_2 rfl rfl (by decide) (Nat.le_of_ble_eq_true rfl) (fun x2 S2 h2 => ?_)
  obtain ⟨e2, rfl⟩ := h2
  rw [if_neg (fnd_bad hn hbad)] at e2
  subst e2
  show pm_W _ _ _ _ _ _ _ _ _ _ _ _ _ [.null] _
  refine pm_astn dX6_send_5 (i := 3) rfl (by decide) ?_
  dsimp only [List.set]
  refine pm_aload_n dX6_send_6 rfl ?_
  refine pm_ifnonnull_n dX6_send_7 ?_
  exact pm_exitT dX6_send_10 ⟨rfl, rfl, rfl⟩ (Nat.le_refl _) (Nat.le_refl _)
set_option maxHeartbeats 4000000 in
set_option maxRecDepth 100000 in
theorem t_X6_run (G : pm_G) (l : Launch) (hl : l.stackTraces = false) (bs : Nat) (Z : az) (Y : pm_Y) (E : pm_S) (x : Int32) (S : pm_S) (hx : pm_CX Z S Y E) (hn : az_a Z 0 ≤ 60) (hbad : ¬ (0 ≤ x ∧ x ≤ 60)) : pm_T G l bs yX6_run cX6_run 4 (some .int) 6 pm_IA [.ref (Y.1 0), .int x] S := by
  obtain ⟨h, hmk⟩ := id hx
  have hA := h.2.2.2.2.2.1
  obtain ⟨⟨hk0, hr0, hr1, hr2, hr3, hr4, hr5, hr6, hr7⟩, ⟨hk1, hl1⟩, ⟨hk2, hl2⟩, ⟨hk3, hl3⟩, ⟨hk4, hl4⟩, hWt, hSh, hLt, hCs⟩ := id h.2.2.1
  obtain ⟨kW, rW1, rW2, rW3, kW1, nW1, kW2, nW2, kW3, nW3, -⟩ := id hWt
  refine pm_T.mk (L := [.ref (Y.1 0), .int x, pm_u, pm_u]) hl (by decide +kernel) rfl (pm_en_1 rfl (pm_en_1 rfl (pm_en_0 rfl))) pm_twA (by decide) (by decide +kernel) (by decide +kernel) (by decide +kernel) (by decide +kernel) ?_
  refine pm_iload_n dX6_run_0 rfl ?_
  refine pm_bipush (v := 61) dX6_run_1 (by decide) ?_
  refine pm_ssi (c_X6_isBelow G l bs x 61 _) pm_y_X6_isBelow pm_s_X6_isBelow pm_m_X6_74 dX6_run_3 rfl rfl (by decide) (Nat.le_of_ble_eq_true rfl) (fun x3 S3 h3 => ?_)
  obtain ⟨e3, rfl⟩ := h3
  subst e3
  refine pm_if_ne (tgt := 17) dX6_run_6 (by decide) (fun h6 => ?_) (fun h6 => ?_)
  · exact absurd ⟨(if01 h6).1, i32_lt (n := 60) (by decide) (if01 h6).2⟩ hbad
  · skip
    exact pm_exitT dX6_run_9 ⟨rfl, rfl, rfl⟩ (Nat.le_refl _) (Nat.le_refl _)
set_option maxHeartbeats 4000000 in
set_option maxRecDepth 100000 in
theorem t_X6_pass (G : pm_G) (l : Launch) (hl : l.stackTraces = false) (bs : Nat) (Z : az) (Y : pm_Y) (E : pm_S) (x : Int32) (S : pm_S) (hx : pm_CX Z S Y E) (hn : az_a Z 0 ≤ 60) (hbad : ¬ (0 ≤ x ∧ x ≤ 10000)) : pm_T G l bs yX6_pass cX6_pass 4 (some .int) 6 pm_IA [.ref (Y.1 0), .int x] S := by
  obtain ⟨h, hmk⟩ := id hx
  have hA := h.2.2.2.2.2.1
  obtain ⟨⟨hk0, hr0, hr1, hr2, hr3, hr4, hr5, hr6, hr7⟩, ⟨hk1, hl1⟩, ⟨hk2, hl2⟩, ⟨hk3, hl3⟩, ⟨hk4, hl4⟩, hWt, hSh, hLt, hCs⟩ := id h.2.2.1
  obtain ⟨kW, rW1, rW2, rW3, kW1, nW1, kW2, nW2, kW3, nW3, -⟩ := id hWt
  refine pm_T.mk (L := [.ref (Y.1 0), .int x, pm_u, pm_u]) hl (by decide +kernel) rfl (pm_en_1 rfl (pm_en_1 rfl (pm_en_0 rfl))) pm_twA (by decide) (by decide +kernel) (by decide +kernel) (by decide +kernel) (by decide +kernel) ?_
  refine pm_iload_n dX6_pass_0 rfl ?_
  refine pm_sipush (v := 10001) dX6_pass_1 (by decide) ?_
  refine pm_ssi (c_X6_isBelow G l bs x 10001 _) pm_y_X6_isBelow pm_s_X6_isBelow pm_m_X6_74 dX6_pass_4 rfl rfl (by decide) (Nat.le_of_ble_eq_true rfl) (fun x4 S4 h4 => ?_)
  obtain ⟨e4, rfl⟩ := h4
  subst e4
  refine pm_if_ne (tgt := 18) dX6_pass_7 (by decide) (fun h7 => ?_) (fun h7 => ?_)
  · exact absurd ⟨(if01 h7).1, i32_lt (n := 10000) (by decide) (if01 h7).2⟩ hbad
  · skip
    exact pm_exitT dX6_pass_10 ⟨rfl, rfl, rfl⟩ (Nat.le_refl _) (Nat.le_refl _)
set_option maxHeartbeats 4000000 in
set_option maxRecDepth 100000 in
theorem t_X6_process (G : pm_G) (l : Launch) (hl : l.stackTraces = false) (bs : Nat) (Z : az) (Y : pm_Y) (E : pm_S) (x y : Int32) (S : pm_S) (hx : pm_CX Z S Y E) (hn : az_a Z 0 ≤ 60) (hbad : ¬ ((1 ≤ x ∧ x ≤ nI (az_a Z 0)) ∧ (0 ≤ y ∧ y ≤ 10))) : pm_T G l bs yX6_process cX6_process 4 (some .int) 6 pm_IA [.ref (Y.1 0), .int x, .int y] S := by
  obtain ⟨h, hmk⟩ := id hx
  have hA := h.2.2.2.2.2.1
  obtain ⟨⟨hk0, hr0, hr1, hr2, hr3, hr4, hr5, hr6, hr7⟩, ⟨hk1, hl1⟩, ⟨hk2, hl2⟩, ⟨hk3, hl3⟩, ⟨hk4, hl4⟩, hWt, hSh, hLt, hCs⟩ := id h.2.2.1
  obtain ⟨kW, rW1, rW2, rW3, kW1, nW1, kW2, nW2, kW3, nW3, -⟩ := id hWt
  refine pm_T.mk (L := [.ref (Y.1 0), .int x, .int y, pm_u]) hl (by decide +kernel) rfl (pm_en_1 rfl (pm_en_1 rfl (pm_en_1 rfl (pm_en_0 rfl)))) pm_twA (by decide) (by decide +kernel) (by decide +kernel) (by decide +kernel) (by decide +kernel) ?_
  refine pm_aload_n dX6_process_0 rfl ?_
  refine pm_iload_n dX6_process_1 rfl ?_
  refine pm_vr (c_X6_find G l bs Z Y E x _ h hn) pm_y_X6_find pm_v_X6_find pm_m_X6_91 (c := 6) (r := (RX6, TX6, 16)) rfl rfl (by (try simp only [pm_k_si, pm_k_sj, pm_k_sp, pm_k_sx, pm_k_sz, pm_k_sr, pm_k_sy]); assumption) dX6_process_2 rfl rfl (by decide) (Nat.le_of_ble_eq_true rfl) (fun x2 S2 h2 => ?_)
  obtain ⟨e2, rfl⟩ := h2
  by_cases hf : 1 ≤ x ∧ x ≤ nI (az_a Z 0)
  · rw [if_pos (fnd_ok hn hf)] at e2
    subst e2
    show pm_W _ _ _ _ _ _ _ _ _ _ _ _ _ [.ref _] _
    refine pm_astn dX6_process_5 (i := 3) rfl (by decide) ?_
    dsimp only [List.set]
    refine pm_aload_n dX6_process_6 rfl ?_
    refine pm_ifnull_r dX6_process_7 ?_
    refine pm_iload_n dX6_process_10 rfl ?_
    refine pm_bipush (v := 11) dX6_process_11 (by decide) ?_
    refine pm_ssi (c_X6_isBelow G l bs y 11 _) pm_y_X6_isBelow pm_s_X6_isBelow pm_m_X6_74 dX6_process_13 rfl rfl (by decide) (Nat.le_of_ble_eq_true rfl) (fun x13 S13 h13 => ?_)
    obtain ⟨e13, rfl⟩ := h13
    subst e13
    refine pm_if_ne (tgt := 27) dX6_process_16 (by decide) (fun h16 => ?_) (fun h16 => ?_)
    · exact absurd ⟨hf, ⟨(if01 h16).1, i32_lt (n := 10) (by decide) (if01 h16).2⟩⟩ hbad
    · skip
      exact pm_exitT dX6_process_19 ⟨rfl, rfl, rfl⟩ (Nat.le_refl _) (Nat.le_refl _)
  · rw [if_neg (fnd_bad hn hf)] at e2
    subst e2
    show pm_W _ _ _ _ _ _ _ _ _ _ _ _ _ [.null] _
    refine pm_astn dX6_process_5 (i := 3) rfl (by decide) ?_
    dsimp only [List.set]
    refine pm_aload_n dX6_process_6 rfl ?_
    refine pm_ifnull_n (tgt := 19) dX6_process_7 (by decide) ?_
    exact pm_exitT dX6_process_19 ⟨rfl, rfl, rfl⟩ (Nat.le_refl _) (Nat.le_refl _)
set_option maxHeartbeats 4000000 in
set_option maxRecDepth 100000 in
theorem t_X6_register (G : pm_G) (l : Launch) (hl : l.stackTraces = false) (bs : Nat) (Z : az) (Y : pm_Y) (E : pm_S) (x y i : Int32) (S : pm_S) (hx : pm_CX Z S Y E) (hn : az_a Z 0 ≤ 60) (hbad : ¬ ((1 ≤ x ∧ x ≤ nI (az_a Z 0)) ∧ (0 ≤ y ∧ y ≤ 8))) : pm_T G l bs yX6_register cX6_register 5 (some .int) 6 pm_IA [.ref (Y.1 0), .int x, .int y, .int i] S := by
  obtain ⟨h, hmk⟩ := id hx
  have hA := h.2.2.2.2.2.1
  obtain ⟨⟨hk0, hr0, hr1, hr2, hr3, hr4, hr5, hr6, hr7⟩, ⟨hk1, hl1⟩, ⟨hk2, hl2⟩, ⟨hk3, hl3⟩, ⟨hk4, hl4⟩, hWt, hSh, hLt, hCs⟩ := id h.2.2.1
  obtain ⟨kW, rW1, rW2, rW3, kW1, nW1, kW2, nW2, kW3, nW3, -⟩ := id hWt
  refine pm_T.mk (L := [.ref (Y.1 0), .int x, .int y, .int i, pm_u]) hl (by decide +kernel) rfl (pm_en_1 rfl (pm_en_1 rfl (pm_en_1 rfl (pm_en_1 rfl (pm_en_0 rfl))))) pm_twA (by decide) (by decide +kernel) (by decide +kernel) (by decide +kernel) (by decide +kernel) ?_
  refine pm_aload_n dX6_register_0 rfl ?_
  refine pm_iload_n dX6_register_1 rfl ?_
  refine pm_vr (c_X6_find G l bs Z Y E x _ h hn) pm_y_X6_find pm_v_X6_find pm_m_X6_91 (c := 6) (r := (RX6, TX6, 16)) rfl rfl (by (try simp only [pm_k_si, pm_k_sj, pm_k_sp, pm_k_sx, pm_k_sz, pm_k_sr, pm_k_sy]); assumption) dX6_register_2 rfl rfl (by decide) (Nat.le_of_ble_eq_true rfl) (fun x2 S2 h2 => ?_)
  obtain ⟨e2, rfl⟩ := h2
  by_cases hf : 1 ≤ x ∧ x ≤ nI (az_a Z 0)
  · rw [if_pos (fnd_ok hn hf)] at e2
    subst e2
    show pm_W _ _ _ _ _ _ _ _ _ _ _ _ _ [.ref _] _
    refine pm_astore dX6_register_5 (by decide) ?_
    dsimp only [List.set]
    refine pm_aload dX6_register_7 rfl ?_
    refine pm_ifnull_r dX6_register_9 ?_
    refine pm_iload_n dX6_register_12 rfl ?_
    refine pm_bipush (v := 9) dX6_register_13 (by decide) ?_
    refine pm_ssi (c_X6_isBelow G l bs y 9 _) pm_y_X6_isBelow pm_s_X6_isBelow pm_m_X6_74 dX6_register_15 rfl rfl (by decide) (Nat.le_of_ble_eq_true rfl) (fun x15 S15 h15 => ?_)
    obtain ⟨e15, rfl⟩ := h15
    subst e15
    refine pm_if_ne (tgt := 29) dX6_register_18 (by decide) (fun h18 => ?_) (fun h18 => ?_)
    · exact absurd ⟨hf, ⟨(if01 h18).1, i32_lt (n := 8) (by decide) (if01 h18).2⟩⟩ hbad
    · skip
      exact pm_exitT dX6_register_21 ⟨rfl, rfl, rfl⟩ (Nat.le_refl _) (Nat.le_refl _)
  · rw [if_neg (fnd_bad hn hf)] at e2
    subst e2
    show pm_W _ _ _ _ _ _ _ _ _ _ _ _ _ [.null] _
    refine pm_astore dX6_register_5 (by decide) ?_
    dsimp only [List.set]
    refine pm_aload dX6_register_7 rfl ?_
    refine pm_ifnull_n (tgt := 21) dX6_register_9 (by decide) ?_
    exact pm_exitT dX6_register_21 ⟨rfl, rfl, rfl⟩ (Nat.le_refl _) (Nat.le_refl _)
set_option maxHeartbeats 4000000 in
set_option maxRecDepth 100000 in
theorem t_X6_message (G : pm_G) (l : Launch) (hl : l.stackTraces = false) (bs : Nat) (Z : az) (Y : pm_Y) (E : pm_S) (x k i : Int32) (S : pm_S) (hx : pm_CX Z S Y E) (hn : az_a Z 0 ≤ 60) (hbad : ¬ (1 ≤ x ∧ x ≤ nI (az_a Z 0))) : pm_T G l bs yX6_message cX6_message 6 (some .int) 6 pm_IA [.ref (Y.1 0), .int x, .int k, .int i] S := by
  obtain ⟨h, hmk⟩ := id hx
  have hA := h.2.2.2.2.2.1
  obtain ⟨⟨hk0, hr0, hr1, hr2, hr3, hr4, hr5, hr6, hr7⟩, ⟨hk1, hl1⟩, ⟨hk2, hl2⟩, ⟨hk3, hl3⟩, ⟨hk4, hl4⟩, hWt, hSh, hLt, hCs⟩ := id h.2.2.1
  obtain ⟨kW, rW1, rW2, rW3, kW1, nW1, kW2, nW2, kW3, nW3, -⟩ := id hWt
  refine pm_T.mk (L := [.ref (Y.1 0), .int x, .int k, .int i, pm_u, pm_u]) hl (by decide +kernel) rfl (pm_en_1 rfl (pm_en_1 rfl (pm_en_1 rfl (pm_en_1 rfl (pm_en_0 rfl))))) pm_twA (by decide) (by decide +kernel) (by decide +kernel) (by decide +kernel) (by decide +kernel) ?_
  refine pm_aload_n dX6_message_0 rfl ?_
  refine pm_iload_n dX6_message_1 rfl ?_
  refine pm_vr (c_X6_find G l bs Z Y E x _ h hn) pm_y_X6_find pm_v_X6_find pm_m_X6_91 (c := 6) (r := (RX6, TX6, 16)) rfl rfl (by (try simp only [pm_k_si, pm_k_sj, pm_k_sp, pm_k_sx, pm_k_sz, pm_k_sr, pm_k_sy]); assumption) dX6_message_2 rfl rfl (by decide) (Nat.le_of_ble_eq_true rfl) (fun x2 S2 h2 => ?_)
  obtain ⟨e2, rfl⟩ := h2
  rw [if_neg (fnd_bad hn hbad)] at e2
  subst e2
  show pm_W _ _ _ _ _ _ _ _ _ _ _ _ _ [.null] _
  refine pm_astore dX6_message_5 (by decide) ?_
  dsimp only [List.set]
  refine pm_aload dX6_message_7 rfl ?_
  refine pm_ifnonnull_n dX6_message_9 ?_
  exact pm_exitT dX6_message_12 ⟨rfl, rfl, rfl⟩ (Nat.le_refl _) (Nat.le_refl _)
set_option maxHeartbeats 4000000 in
set_option maxRecDepth 100000 in
theorem t_X6_total (G : pm_G) (l : Launch) (hl : l.stackTraces = false) (bs : Nat) (Z : az) (Y : pm_Y) (E : pm_S) (x : Int32) (S : pm_S) (hx : pm_CX Z S Y E) (hn : az_a Z 0 ≤ 60) (hbad : ¬ (0 ≤ x ∧ x ≤ 8)) : pm_T G l bs yX6_total cX6_total 2 (some .int) 6 pm_IA [.ref (Y.1 0), .int x] S := by
  obtain ⟨h, hmk⟩ := id hx
  have hA := h.2.2.2.2.2.1
  obtain ⟨⟨hk0, hr0, hr1, hr2, hr3, hr4, hr5, hr6, hr7⟩, ⟨hk1, hl1⟩, ⟨hk2, hl2⟩, ⟨hk3, hl3⟩, ⟨hk4, hl4⟩, hWt, hSh, hLt, hCs⟩ := id h.2.2.1
  obtain ⟨kW, rW1, rW2, rW3, kW1, nW1, kW2, nW2, kW3, nW3, -⟩ := id hWt
  refine pm_T.mk (L := [.ref (Y.1 0), .int x]) hl (by decide +kernel) rfl (pm_en_1 rfl (pm_en_1 rfl (pm_en_0 rfl))) pm_twA (by decide) (by decide +kernel) (by decide +kernel) (by decide +kernel) (by decide +kernel) ?_
  refine pm_iload_n dX6_total_0 rfl ?_
  refine pm_tableOut (tgt := 108) dX6_total_1 ?_ (by decide) ?_
  · rcases Int.lt_or_le x.toInt 0 with q | q
    · exact Or.inl q
    · refine Or.inr ?_
      rcases Int.lt_or_le 8 x.toInt with q2 | q2
      · exact q2
      · exact absurd ⟨Int32.le_iff_toInt_le.mpr q, Int32.le_iff_toInt_le.mpr q2⟩ hbad
  exact pm_exitT dX6_total_108 ⟨rfl, rfl, rfl⟩ (Nat.le_refl _) (Nat.le_refl _)
