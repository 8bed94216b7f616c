/-! the reference: exits, and what others get of deaths -/
theorem slAtom {M : pm_N} {t n : Nat} {w : List Int32} {a : Int32} (h : sl M t w) (hw : tW n w) : (M.1 0 (95 * t) = 1 ∧ M.1 0 (95 * t + 1) = a) ↔ w = [1, a] := by
  have hl := hw.len
  have e0 : M.1 0 (95 * t) = w.getD 0 0 := h.2.2 0 (by omega)
  have e1 : M.1 0 (95 * t + 1) = w.getD 1 0 := h.2.2 1 (by omega)
  rw [e0, e1, ← hw.atom_iff (a := a)]
  have q0 : w[0]? = some (w.getD 0 0) := by rw [List.getD_eq_getElem?_getD, List.getElem?_eq_getElem (by omega)]; rfl
  have q1 : w[1]? = some (w.getD 1 0) := by rw [List.getD_eq_getElem?_getD, List.getElem?_eq_getElem (by omega)]; rfl
  rw [q0, q1]
  exact ⟨fun z => ⟨by rw [z.1], by rw [z.2]⟩, fun z => ⟨Option.some.inj z.1, Option.some.inj z.2⟩⟩
theorem tl_r_l {x w : List Int32} (h : ¬ 95 < x.length + w.length) : tl_r x w = x ++ w := if_neg h
theorem tl_r_s {x w : List Int32} (h : 95 < x.length + w.length) : tl_r x w = x ++ [1, 5] := if_pos h
set_option maxHeartbeats 4000000 in
set_option maxRecDepth 100000 in
theorem c_X7_tells (G : pm_G) (l : Launch) (bs : Nat) (A : Nat → Nat) (E : pm_S) (M : pm_N) (b : Nat) (Z : az) (s : Nat) (q t : Nat) (y : Int32) (w : List Int32) (S : pm_S) (hm : pm_MX M S A E) (hr : mR b Z M) (hI : zI s Z) (hq : q < az_a Z 0) (ht : t < 2945) (htn : t ≠ 2940 ∧ t ≠ 2941 ∧ t ≠ 2942) (h43 : sl M 2943 [2, y]) (hs : sl M t w) (hw : tW (az_a Z 0) w) : pm_M G l bs yX7_tells cX7_tells 6 none 2 0 0 [.ref (A 50), .int (nI q), .int 6, .int 2943, .int (nI t)] S (pm_qv (fun S2 => ∃ M2, pm_MX M2 S2 A E ∧ mR b (zComes Z q (tl_r [-1, 1, 6, -1, 2, y] w)) M2)) := by
  have hn := hI.1
  have hsm := hI.sm
  have h9b := hI.b9
  have hl := hw.len
  refine pm_Mv (L := [.ref (A 50), .int (nI q), .int 6, .int 2943, .int (nI t), pm_u]) false (by decide +kernel) (fun h => by cases h) rfl (pm_en_1 rfl (pm_en_1 rfl (pm_en_1 rfl (pm_en_1 rfl (pm_en_1 rfl (pm_en_0 rfl)))))) ?_
  generalize hQ9 : pm_xv (fun S2 => ∃ M2, pm_MX M2 S2 A E ∧ mR b (zComes Z q (tl_r [-1, 1, 6, -1, 2, y] w)) M2) = Q9
  refine pm_aload_n dX7_tells_0 rfl ?_
  refine pm_sipush (v := 2942) dX7_tells_1 (by decide) ?_
  refine pm_iconst (v := 1) dX7_tells_4 (by decide) ?_
  refine pm_iconst (v := 5) dX7_tells_5 (by decide) ?_
  refine pm_vv (c_X7_set G l bs A E M 2942 1 5 _ hm (by decide)) pm_y_X7_set pm_v_X7_set pm_m_X7_124 (c := 7) (r := (RX7, TX7, 41)) rfl rfl hm.1 dX7_tells_6 rfl rfl (by decide) (Nat.le_of_ble_eq_true rfl) (fun S6 h6 => ?_)
  obtain ⟨M6, hm6, mt6, sl6⟩ := h6
  have hr6 := hr.T hn h9b mt6 (by decide)
  refine pm_aload_n dX7_tells_9 rfl ?_
  refine pm_iload_n dX7_tells_10 rfl ?_
  refine pm_vi (c_X7_ends G l bs A E M6 2943 2 _ hm6 (by decide) (mt6.sl (by decide) h43).2.1 (by decide)) pm_y_X7_ends pm_v_X7_ends pm_m_X7_172 (c := 7) (r := (RX7, TX7, 41)) rfl rfl hm6.1 dX7_tells_11 rfl rfl (by decide) (Nat.le_of_ble_eq_true rfl) (fun x11 S11 h11 => ?_)
  obtain ⟨rfl, rfl⟩ := h11
  refine pm_aload_n dX7_tells_14 rfl ?_
  refine pm_iload dX7_tells_15 rfl ?_
  refine pm_vi (c_X7_ends G l bs A E M6 t w.length _ hm6 ht (mt6.sl (by omega) hs).2.1 hs.1) pm_y_X7_ends pm_v_X7_ends pm_m_X7_172 (c := 7) (r := (RX7, TX7, 41)) rfl rfl hm6.1 dX7_tells_17 rfl rfl (by decide) (Nat.le_of_ble_eq_true rfl) (fun x17 S17 h17 => ?_)
  obtain ⟨rfl, rfl⟩ := h17
  refine pm_iadd dX7_tells_20 ?_
  refine pm_iconst (v := 1) dX7_tells_21 (by decide) ?_
  refine pm_iadd dX7_tells_22 ?_
  refine pm_bipush (v := 32) dX7_tells_23 (by decide) ?_
  rw [show nI ((2 + 1) / 3) + nI ((w.length + 1) / 3) + 1 = nI ((w.length + 1) / 3 + 2) from by rw [nI_add, nI_1]; congr 1; omega]
  refine pm_icmp_le (tgt := 34) dX7_tells_25 (by decide) (fun h25 => ?_) (fun h25 => ?_)
  · skip
    have g1 : (w.length + 1) / 3 + 2 ≤ 32 := (pm_nle (b := 32) (a := (w.length + 1) / 3 + 2) (by omega) (by omega)).mp h25
    obtain ⟨r, u, er, eu, slr, hr1, hu⟩ : ∃ (r : Nat) (u : List Int32), nI r = nI t ∧ tl_r [-1, 1, 6, -1, 2, y] w = [-1, 1, 6, -1, 2, y] ++ u ∧ sl M6 r u ∧ (r < 2945 ∧ r ≠ 2941 ∧ r ≠ 2940) ∧ u.length ≤ 89 := ⟨t, w, rfl, tl_r_l (by simp only [List.length_cons, List.length_nil]; omega), mt6.sl (by omega) hs, by omega, by omega⟩
    refine pm_iload dX7_tells_34 rfl ?_
    rw [← er]
    refine pm_istore dX7_tells_36 (by decide) ?_
    dsimp only [List.set]
    refine pm_aload_n dX7_tells_38 rfl ?_
    refine pm_sipush (v := 2941) dX7_tells_39 (by decide) ?_
    refine pm_iload_n dX7_tells_42 rfl ?_
    refine pm_iload dX7_tells_43 rfl ?_
    refine pm_vv (c_X7_pair G l bs A E M6 2941 2943 r [2, y] u _ hm6 (by decide) (by decide) hr1.1 (by decide) hr1.2.1 (by show 1 + 2 + u.length ≤ 95; omega) (mt6.sl (by decide) h43) slr) pm_y_X7_pair pm_v_X7_pair pm_m_X7_175 (c := 7) (r := (RX7, TX7, 41)) rfl rfl hm6.1 dX7_tells_45 rfl rfl (by decide) (Nat.le_of_ble_eq_true rfl) (fun S45 h45 => ?_)
    obtain ⟨M45, hm45, mt45, sl45⟩ := h45
    have hr45 := hr6.T hn h9b mt45 (by decide)
    refine pm_aload_n dX7_tells_48 rfl ?_
    refine pm_sipush (v := 2942) dX7_tells_49 (by decide) ?_
    refine pm_iconst (v := 1) dX7_tells_52 (by decide) ?_
    refine pm_iload_n dX7_tells_53 rfl ?_
    refine pm_vv (c_X7_set G l bs A E M45 2942 1 6 _ hm45 (by decide)) pm_y_X7_set pm_v_X7_set pm_m_X7_124 (c := 7) (r := (RX7, TX7, 41)) rfl rfl hm45.1 dX7_tells_54 rfl rfl (by decide) (Nat.le_of_ble_eq_true rfl) (fun S54 h54 => ?_)
    obtain ⟨M54, hm54, mt54, sl54⟩ := h54
    have hr54 := hr45.T hn h9b mt54 (by decide)
    refine pm_aload_n dX7_tells_57 rfl ?_
    refine pm_sipush (v := 2940) dX7_tells_58 (by decide) ?_
    refine pm_sipush (v := 2942) dX7_tells_61 (by decide) ?_
    refine pm_sipush (v := 2941) dX7_tells_64 (by decide) ?_
    refine pm_vv (c_X7_pair G l bs A E M54 2940 2942 2941 [1, 6] _ _ hm54 (by decide) (by decide) (by decide) (by decide) (by decide) (by simp only [List.length_cons, List.length_append, List.length_nil]; omega) sl54 (mt54.sl (by decide) sl45)) pm_y_X7_pair pm_v_X7_pair pm_m_X7_175 (c := 7) (r := (RX7, TX7, 41)) rfl rfl hm54.1 dX7_tells_67 rfl rfl (by decide) (Nat.le_of_ble_eq_true rfl) (fun S67 h67 => ?_)
    obtain ⟨M67, hm67, mt67, sl67⟩ := h67
    have hr67 := hr54.T hn h9b mt67 (by decide)
    refine pm_aload_n dX7_tells_70 rfl ?_
    refine pm_iload_n dX7_tells_71 rfl ?_
    refine pm_sipush (v := 2940) dX7_tells_72 (by decide) ?_
    refine pm_vi (c_X7_comes G l bs A E M67 b Z s q 2940 _ _ hm67 hr67 hI hq (by decide) sl67) pm_y_X7_comes pm_v_X7_comes pm_m_X7_147 (c := 7) (r := (RX7, TX7, 41)) rfl rfl hm67.1 dX7_tells_75 rfl rfl (by decide) (Nat.le_of_ble_eq_true rfl) (fun x75 S75 h75 => ?_)
    obtain ⟨-, M75, hm75, hr75⟩ := h75
    refine pm_pop dX7_tells_78 ?_
    subst hQ9
    refine pm_vret dX7_tells_79 ?_
    exact ⟨M75, hm75, by rw [eu]; exact hr75⟩
  · skip
    have g1 : ¬ (w.length + 1) / 3 + 2 ≤ 32 := fun z => h25 ((pm_nle (b := 32) (a := (w.length + 1) / 3 + 2) (by omega) (by omega)).mpr z)
    obtain ⟨r, u, er, eu, slr, hr1, hu⟩ : ∃ (r : Nat) (u : List Int32), nI r = 2942 ∧ tl_r [-1, 1, 6, -1, 2, y] w = [-1, 1, 6, -1, 2, y] ++ u ∧ sl M6 r u ∧ (r < 2945 ∧ r ≠ 2941 ∧ r ≠ 2940) ∧ u.length ≤ 89 := ⟨2942, [1, 5], rfl, tl_r_s (by simp only [List.length_cons, List.length_nil]; omega), sl6, by omega, by show 2 ≤ 89; omega⟩
    refine pm_sipush (v := 2942) dX7_tells_28 (by decide) ?_
    refine pm_goto (tgt := 36) dX7_tells_31 (by decide) ?_
    rw [← er]
    refine pm_istore dX7_tells_36 (by decide) ?_
    dsimp only [List.set]
    refine pm_aload_n dX7_tells_38 rfl ?_
    refine pm_sipush (v := 2941) dX7_tells_39 (by decide) ?_
    refine pm_iload_n dX7_tells_42 rfl ?_
    refine pm_iload dX7_tells_43 rfl ?_
    refine pm_vv (c_X7_pair G l bs A E M6 2941 2943 r [2, y] u _ hm6 (by decide) (by decide) hr1.1 (by decide) hr1.2.1 (by show 1 + 2 + u.length ≤ 95; omega) (mt6.sl (by decide) h43) slr) pm_y_X7_pair pm_v_X7_pair pm_m_X7_175 (c := 7) (r := (RX7, TX7, 41)) rfl rfl hm6.1 dX7_tells_45 rfl rfl (by decide) (Nat.le_of_ble_eq_true rfl) (fun S45 h45 => ?_)
    obtain ⟨M45, hm45, mt45, sl45⟩ := h45
    have hr45 := hr6.T hn h9b mt45 (by decide)
    refine pm_aload_n dX7_tells_48 rfl ?_
    refine pm_sipush (v := 2942) dX7_tells_49 (by decide) ?_
    refine pm_iconst (v := 1) dX7_tells_52 (by decide) ?_
    refine pm_iload_n dX7_tells_53 rfl ?_
    refine pm_vv (c_X7_set G l bs A E M45 2942 1 6 _ hm45 (by decide)) pm_y_X7_set pm_v_X7_set pm_m_X7_124 (c := 7) (r := (RX7, TX7, 41)) rfl rfl hm45.1 dX7_tells_54 rfl rfl (by decide) (Nat.le_of_ble_eq_true rfl) (fun S54 h54 => ?_)
    obtain ⟨M54, hm54, mt54, sl54⟩ := h54
    have hr54 := hr45.T hn h9b mt54 (by decide)
    refine pm_aload_n dX7_tells_57 rfl ?_
    refine pm_sipush (v := 2940) dX7_tells_58 (by decide) ?_
    refine pm_sipush (v := 2942) dX7_tells_61 (by decide) ?_
    refine pm_sipush (v := 2941) dX7_tells_64 (by decide) ?_
    refine pm_vv (c_X7_pair G l bs A E M54 2940 2942 2941 [1, 6] _ _ hm54 (by decide) (by decide) (by decide) (by decide) (by decide) (by simp only [List.length_cons, List.length_append, List.length_nil]; omega) sl54 (mt54.sl (by decide) sl45)) pm_y_X7_pair pm_v_X7_pair pm_m_X7_175 (c := 7) (r := (RX7, TX7, 41)) rfl rfl hm54.1 dX7_tells_67 rfl rfl (by decide) (Nat.le_of_ble_eq_true rfl) (fun S67 h67 => ?_)
    obtain ⟨M67, hm67, mt67, sl67⟩ := h67
    have hr67 := hr54.T hn h9b mt67 (by decide)
    refine pm_aload_n dX7_tells_70 rfl ?_
    refine pm_iload_n dX7_tells_71 rfl ?_
    refine pm_sipush (v := 2940) dX7_tells_72 (by decide) ?_
    refine pm_vi (c_X7_comes G l bs A E M67 b Z s q 2940 _ _ hm67 hr67 hI hq (by decide) sl67) pm_y_X7_comes pm_v_X7_comes pm_m_X7_147 (c := 7) (r := (RX7, TX7, 41)) rfl rfl hm67.1 dX7_tells_75 rfl rfl (by decide) (Nat.le_of_ble_eq_true rfl) (fun x75 S75 h75 => ?_)
    obtain ⟨-, M75, hm75, hr75⟩ := h75
    refine pm_pop dX7_tells_78 ?_
    subst hQ9
    refine pm_vret dX7_tells_79 ?_
    exact ⟨M75, hm75, by rw [eu]; exact hr75⟩

set_option maxHeartbeats 4000000 in
set_option maxRecDepth 100000 in
theorem c_X7_tellsDown (G : pm_G) (l : Launch) (bs : Nat) (A : Nat → Nat) (E : pm_S) (M : pm_N) (b : Nat) (Z : az) (s : Nat) (q k t : Nat) (m : Int32) (w : List Int32) (S : pm_S) (hm : pm_MX M S A E) (hr : mR b Z M) (hI : zI s Z) (hq : q < az_a Z 0) (ht : t < 2945) (htn : t ≠ 2940 ∧ t ≠ 2941 ∧ t ≠ 2942) (hs : sl M t w) (hw : tW (az_a Z 0) w) : pm_M G l bs yX7_tellsDown cX7_tellsDown 6 none 2 0 0 [.ref (A 50), .int (nI q), .int m, .int (nI k), .int (nI t)] S (pm_qv (fun S2 => ∃ M2, pm_MX M2 S2 A E ∧ mR b (zComes Z q (tl_r [-1, 1, 7, -1, 0, m, -1, 2, nI (k + 1)] w)) M2)) := by
  have hn := hI.1
  have hsm := hI.sm
  have h9b := hI.b9
  have hl := hw.len
  refine pm_Mv (L := [.ref (A 50), .int (nI q), .int m, .int (nI k), .int (nI t), pm_u]) false (by decide +kernel) (fun h => by cases h) rfl (pm_en_1 rfl (pm_en_1 rfl (pm_en_1 rfl (pm_en_1 rfl (pm_en_1 rfl (pm_en_0 rfl)))))) ?_
  generalize hQ9 : pm_xv (fun S2 => ∃ M2, pm_MX M2 S2 A E ∧ mR b (zComes Z q (tl_r [-1, 1, 7, -1, 0, m, -1, 2, nI (k + 1)] w)) M2) = Q9
  refine pm_aload_n dX7_tellsDown_0 rfl ?_
  refine pm_sipush (v := 2942) dX7_tellsDown_1 (by decide) ?_
  refine pm_iconst (v := 1) dX7_tellsDown_4 (by decide) ?_
  refine pm_iconst (v := 5) dX7_tellsDown_5 (by decide) ?_
  refine pm_vv (c_X7_set G l bs A E M 2942 1 5 _ hm (by decide)) pm_y_X7_set pm_v_X7_set pm_m_X7_124 (c := 7) (r := (RX7, TX7, 41)) rfl rfl hm.1 dX7_tellsDown_6 rfl rfl (by decide) (Nat.le_of_ble_eq_true rfl) (fun S6 h6 => ?_)
  obtain ⟨M6, hm6, mt6, sl6⟩ := h6
  have hr6 := hr.T hn h9b mt6 (by decide)
  refine pm_aload_n dX7_tellsDown_9 rfl ?_
  refine pm_iload dX7_tellsDown_10 rfl ?_
  refine pm_vi (c_X7_ends G l bs A E M6 t w.length _ hm6 ht (mt6.sl (by omega) hs).2.1 hs.1) pm_y_X7_ends pm_v_X7_ends pm_m_X7_172 (c := 7) (r := (RX7, TX7, 41)) rfl rfl hm6.1 dX7_tellsDown_12 rfl rfl (by decide) (Nat.le_of_ble_eq_true rfl) (fun x12 S12 h12 => ?_)
  obtain ⟨rfl, rfl⟩ := h12
  refine pm_iconst (v := 3) dX7_tellsDown_15 (by decide) ?_
  refine pm_iadd dX7_tellsDown_16 ?_
  refine pm_bipush (v := 32) dX7_tellsDown_17 (by decide) ?_
  rw [show nI ((w.length + 1) / 3) + 3 = nI ((w.length + 1) / 3 + 3) from nI_add _ _]
  refine pm_icmp_le (tgt := 28) dX7_tellsDown_19 (by decide) (fun h19 => ?_) (fun h19 => ?_)
  · skip
    have g1 : (w.length + 1) / 3 + 3 ≤ 32 := (pm_nle (b := 32) (a := (w.length + 1) / 3 + 3) (by omega) (by omega)).mp h19
    obtain ⟨r, u, er, eu, slr, hr1, hu⟩ : ∃ (r : Nat) (u : List Int32), nI r = nI t ∧ tl_r [-1, 1, 7, -1, 0, m, -1, 2, nI (k + 1)] w = [-1, 1, 7, -1, 0, m, -1, 2, nI (k + 1)] ++ u ∧ sl M6 r u ∧ (r < 2945 ∧ r ≠ 2941 ∧ r ≠ 2940) ∧ u.length ≤ 86 := ⟨t, w, rfl, tl_r_l (by simp only [List.length_cons, List.length_nil]; omega), mt6.sl (by omega) hs, by omega, by omega⟩
    refine pm_iload dX7_tellsDown_28 rfl ?_
    rw [← er]
    refine pm_istore dX7_tellsDown_30 (by decide) ?_
    dsimp only [List.set]
    refine pm_aload_n dX7_tellsDown_32 rfl ?_
    refine pm_sipush (v := 2940) dX7_tellsDown_33 (by decide) ?_
    refine pm_iconst (v := 2) dX7_tellsDown_36 (by decide) ?_
    refine pm_iload_n dX7_tellsDown_37 rfl ?_
    refine pm_iconst (v := 1) dX7_tellsDown_38 (by decide) ?_
    refine pm_iadd dX7_tellsDown_39 ?_
    rw [nI_1]
    refine pm_vv (c_X7_set G l bs A E M6 2940 2 (nI (k + 1)) _ hm6 (by decide)) pm_y_X7_set pm_v_X7_set pm_m_X7_124 (c := 7) (r := (RX7, TX7, 41)) rfl rfl hm6.1 dX7_tellsDown_40 rfl rfl (by decide) (Nat.le_of_ble_eq_true rfl) (fun S40 h40 => ?_)
    obtain ⟨M40, hm40, mt40, sl40⟩ := h40
    have hr40 := hr6.T hn h9b mt40 (by decide)
    refine pm_aload_n dX7_tellsDown_43 rfl ?_
    refine pm_sipush (v := 2941) dX7_tellsDown_44 (by decide) ?_
    refine pm_sipush (v := 2940) dX7_tellsDown_47 (by decide) ?_
    refine pm_iload dX7_tellsDown_50 rfl ?_
    refine pm_vv (c_X7_pair G l bs A E M40 2941 2940 r [2, nI (k + 1)] u _ hm40 (by decide) (by decide) hr1.1 (by decide) hr1.2.1 (by show 1 + 2 + u.length ≤ 95; omega) sl40 (mt40.sl hr1.2.2 slr)) pm_y_X7_pair pm_v_X7_pair pm_m_X7_175 (c := 7) (r := (RX7, TX7, 41)) rfl rfl hm40.1 dX7_tellsDown_52 rfl rfl (by decide) (Nat.le_of_ble_eq_true rfl) (fun S52 h52 => ?_)
    obtain ⟨M52, hm52, mt52, sl52⟩ := h52
    have hr52 := hr40.T hn h9b mt52 (by decide)
    refine pm_aload_n dX7_tellsDown_55 rfl ?_
    refine pm_sipush (v := 2942) dX7_tellsDown_56 (by decide) ?_
    refine pm_iconst (v := 0) dX7_tellsDown_59 (by decide) ?_
    refine pm_iload_n dX7_tellsDown_60 rfl ?_
    refine pm_vv (c_X7_set G l bs A E M52 2942 0 m _ hm52 (by decide)) pm_y_X7_set pm_v_X7_set pm_m_X7_124 (c := 7) (r := (RX7, TX7, 41)) rfl rfl hm52.1 dX7_tellsDown_61 rfl rfl (by decide) (Nat.le_of_ble_eq_true rfl) (fun S61 h61 => ?_)
    obtain ⟨M61, hm61, mt61, sl61⟩ := h61
    have hr61 := hr52.T hn h9b mt61 (by decide)
    refine pm_aload_n dX7_tellsDown_64 rfl ?_
    refine pm_sipush (v := 2940) dX7_tellsDown_65 (by decide) ?_
    refine pm_sipush (v := 2942) dX7_tellsDown_68 (by decide) ?_
    refine pm_sipush (v := 2941) dX7_tellsDown_71 (by decide) ?_
    refine pm_vv (c_X7_pair G l bs A E M61 2940 2942 2941 [0, m] _ _ hm61 (by decide) (by decide) (by decide) (by decide) (by decide) (by simp only [List.length_cons, List.length_append, List.length_nil]; omega) sl61 (mt61.sl (by decide) sl52)) pm_y_X7_pair pm_v_X7_pair pm_m_X7_175 (c := 7) (r := (RX7, TX7, 41)) rfl rfl hm61.1 dX7_tellsDown_74 rfl rfl (by decide) (Nat.le_of_ble_eq_true rfl) (fun S74 h74 => ?_)
    obtain ⟨M74, hm74, mt74, sl74⟩ := h74
    have hr74 := hr61.T hn h9b mt74 (by decide)
    refine pm_aload_n dX7_tellsDown_77 rfl ?_
    refine pm_sipush (v := 2942) dX7_tellsDown_78 (by decide) ?_
    refine pm_iconst (v := 1) dX7_tellsDown_81 (by decide) ?_
    refine pm_bipush (v := 7) dX7_tellsDown_82 (by decide) ?_
    refine pm_vv (c_X7_set G l bs A E M74 2942 1 7 _ hm74 (by decide)) pm_y_X7_set pm_v_X7_set pm_m_X7_124 (c := 7) (r := (RX7, TX7, 41)) rfl rfl hm74.1 dX7_tellsDown_84 rfl rfl (by decide) (Nat.le_of_ble_eq_true rfl) (fun S84 h84 => ?_)
    obtain ⟨M84, hm84, mt84, sl84⟩ := h84
    have hr84 := hr74.T hn h9b mt84 (by decide)
    refine pm_aload_n dX7_tellsDown_87 rfl ?_
    refine pm_sipush (v := 2941) dX7_tellsDown_88 (by decide) ?_
    refine pm_sipush (v := 2942) dX7_tellsDown_91 (by decide) ?_
    refine pm_sipush (v := 2940) dX7_tellsDown_94 (by decide) ?_
    refine pm_vv (c_X7_pair G l bs A E M84 2941 2942 2940 [1, 7] _ _ hm84 (by decide) (by decide) (by decide) (by decide) (by decide) (by simp only [List.length_cons, List.length_append, List.length_nil]; omega) sl84 (mt84.sl (by decide) sl74)) pm_y_X7_pair pm_v_X7_pair pm_m_X7_175 (c := 7) (r := (RX7, TX7, 41)) rfl rfl hm84.1 dX7_tellsDown_97 rfl rfl (by decide) (Nat.le_of_ble_eq_true rfl) (fun S97 h97 => ?_)
    obtain ⟨M97, hm97, mt97, sl97⟩ := h97
    have hr97 := hr84.T hn h9b mt97 (by decide)
    refine pm_aload_n dX7_tellsDown_100 rfl ?_
    refine pm_iload_n dX7_tellsDown_101 rfl ?_
    refine pm_sipush (v := 2941) dX7_tellsDown_102 (by decide) ?_
    refine pm_vi (c_X7_comes G l bs A E M97 b Z s q 2941 _ _ hm97 hr97 hI hq (by decide) sl97) pm_y_X7_comes pm_v_X7_comes pm_m_X7_147 (c := 7) (r := (RX7, TX7, 41)) rfl rfl hm97.1 dX7_tellsDown_105 rfl rfl (by decide) (Nat.le_of_ble_eq_true rfl) (fun x105 S105 h105 => ?_)
    obtain ⟨-, M105, hm105, hr105⟩ := h105
    refine pm_pop dX7_tellsDown_108 ?_
    subst hQ9
    refine pm_vret dX7_tellsDown_109 ?_
    exact ⟨M105, hm105, by rw [eu]; exact hr105⟩
  · skip
    have g1 : ¬ (w.length + 1) / 3 + 3 ≤ 32 := fun z => h19 ((pm_nle (b := 32) (a := (w.length + 1) / 3 + 3) (by omega) (by omega)).mpr z)
    obtain ⟨r, u, er, eu, slr, hr1, hu⟩ : ∃ (r : Nat) (u : List Int32), nI r = 2942 ∧ tl_r [-1, 1, 7, -1, 0, m, -1, 2, nI (k + 1)] w = [-1, 1, 7, -1, 0, m, -1, 2, nI (k + 1)] ++ u ∧ sl M6 r u ∧ (r < 2945 ∧ r ≠ 2941 ∧ r ≠ 2940) ∧ u.length ≤ 86 := ⟨2942, [1, 5], rfl, tl_r_s (by simp only [List.length_cons, List.length_nil]; omega), sl6, by omega, by show 2 ≤ 86; omega⟩
    refine pm_sipush (v := 2942) dX7_tellsDown_22 (by decide) ?_
    refine pm_goto (tgt := 30) dX7_tellsDown_25 (by decide) ?_
    rw [← er]
    refine pm_istore dX7_tellsDown_30 (by decide) ?_
    dsimp only [List.set]
    refine pm_aload_n dX7_tellsDown_32 rfl ?_
    refine pm_sipush (v := 2940) dX7_tellsDown_33 (by decide) ?_
    refine pm_iconst (v := 2) dX7_tellsDown_36 (by decide) ?_
    refine pm_iload_n dX7_tellsDown_37 rfl ?_
    refine pm_iconst (v := 1) dX7_tellsDown_38 (by decide) ?_
    refine pm_iadd dX7_tellsDown_39 ?_
    rw [nI_1]
    refine pm_vv (c_X7_set G l bs A E M6 2940 2 (nI (k + 1)) _ hm6 (by decide)) pm_y_X7_set pm_v_X7_set pm_m_X7_124 (c := 7) (r := (RX7, TX7, 41)) rfl rfl hm6.1 dX7_tellsDown_40 rfl rfl (by decide) (Nat.le_of_ble_eq_true rfl) (fun S40 h40 => ?_)
    obtain ⟨M40, hm40, mt40, sl40⟩ := h40
    have hr40 := hr6.T hn h9b mt40 (by decide)
    refine pm_aload_n dX7_tellsDown_43 rfl ?_
    refine pm_sipush (v := 2941) dX7_tellsDown_44 (by decide) ?_
    refine pm_sipush (v := 2940) dX7_tellsDown_47 (by decide) ?_
    refine pm_iload dX7_tellsDown_50 rfl ?_
    refine pm_vv (c_X7_pair G l bs A E M40 2941 2940 r [2, nI (k + 1)] u _ hm40 (by decide) (by decide) hr1.1 (by decide) hr1.2.1 (by show 1 + 2 + u.length ≤ 95; omega) sl40 (mt40.sl hr1.2.2 slr)) pm_y_X7_pair pm_v_X7_pair pm_m_X7_175 (c := 7) (r := (RX7, TX7, 41)) rfl rfl hm40.1 dX7_tellsDown_52 rfl rfl (by decide) (Nat.le_of_ble_eq_true rfl) (fun S52 h52 => ?_)
    obtain ⟨M52, hm52, mt52, sl52⟩ := h52
    have hr52 := hr40.T hn h9b mt52 (by decide)
    refine pm_aload_n dX7_tellsDown_55 rfl ?_
    refine pm_sipush (v := 2942) dX7_tellsDown_56 (by decide) ?_
    refine pm_iconst (v := 0) dX7_tellsDown_59 (by decide) ?_
    refine pm_iload_n dX7_tellsDown_60 rfl ?_
    refine pm_vv (c_X7_set G l bs A E M52 2942 0 m _ hm52 (by decide)) pm_y_X7_set pm_v_X7_set pm_m_X7_124 (c := 7) (r := (RX7, TX7, 41)) rfl rfl hm52.1 dX7_tellsDown_61 rfl rfl (by decide) (Nat.le_of_ble_eq_true rfl) (fun S61 h61 => ?_)
    obtain ⟨M61, hm61, mt61, sl61⟩ := h61
    have hr61 := hr52.T hn h9b mt61 (by decide)
    refine pm_aload_n dX7_tellsDown_64 rfl ?_
    refine pm_sipush (v := 2940) dX7_tellsDown_65 (by decide) ?_
    refine pm_sipush (v := 2942) dX7_tellsDown_68 (by decide) ?_
    refine pm_sipush (v := 2941) dX7_tellsDown_71 (by decide) ?_
    refine pm_vv (c_X7_pair G l bs A E M61 2940 2942 2941 [0, m] _ _ hm61 (by decide) (by decide) (by decide) (by decide) (by decide) (by simp only [List.length_cons, List.length_append, List.length_nil]; omega) sl61 (mt61.sl (by decide) sl52)) pm_y_X7_pair pm_v_X7_pair pm_m_X7_175 (c := 7) (r := (RX7, TX7, 41)) rfl rfl hm61.1 dX7_tellsDown_74 rfl rfl (by decide) (Nat.le_of_ble_eq_true rfl) (fun S74 h74 => ?_)
    obtain ⟨M74, hm74, mt74, sl74⟩ := h74
    have hr74 := hr61.T hn h9b mt74 (by decide)
    refine pm_aload_n dX7_tellsDown_77 rfl ?_
    refine pm_sipush (v := 2942) dX7_tellsDown_78 (by decide) ?_
    refine pm_iconst (v := 1) dX7_tellsDown_81 (by decide) ?_
    refine pm_bipush (v := 7) dX7_tellsDown_82 (by decide) ?_
    refine pm_vv (c_X7_set G l bs A E M74 2942 1 7 _ hm74 (by decide)) pm_y_X7_set pm_v_X7_set pm_m_X7_124 (c := 7) (r := (RX7, TX7, 41)) rfl rfl hm74.1 dX7_tellsDown_84 rfl rfl (by decide) (Nat.le_of_ble_eq_true rfl) (fun S84 h84 => ?_)
    obtain ⟨M84, hm84, mt84, sl84⟩ := h84
    have hr84 := hr74.T hn h9b mt84 (by decide)
    refine pm_aload_n dX7_tellsDown_87 rfl ?_
    refine pm_sipush (v := 2941) dX7_tellsDown_88 (by decide) ?_
    refine pm_sipush (v := 2942) dX7_tellsDown_91 (by decide) ?_
    refine pm_sipush (v := 2940) dX7_tellsDown_94 (by decide) ?_
    refine pm_vv (c_X7_pair G l bs A E M84 2941 2942 2940 [1, 7] _ _ hm84 (by decide) (by decide) (by decide) (by decide) (by decide) (by simp only [List.length_cons, List.length_append, List.length_nil]; omega) sl84 (mt84.sl (by decide) sl74)) pm_y_X7_pair pm_v_X7_pair pm_m_X7_175 (c := 7) (r := (RX7, TX7, 41)) rfl rfl hm84.1 dX7_tellsDown_97 rfl rfl (by decide) (Nat.le_of_ble_eq_true rfl) (fun S97 h97 => ?_)
    obtain ⟨M97, hm97, mt97, sl97⟩ := h97
    have hr97 := hr84.T hn h9b mt97 (by decide)
    refine pm_aload_n dX7_tellsDown_100 rfl ?_
    refine pm_iload_n dX7_tellsDown_101 rfl ?_
    refine pm_sipush (v := 2941) dX7_tellsDown_102 (by decide) ?_
    refine pm_vi (c_X7_comes G l bs A E M97 b Z s q 2941 _ _ hm97 hr97 hI hq (by decide) sl97) pm_y_X7_comes pm_v_X7_comes pm_m_X7_147 (c := 7) (r := (RX7, TX7, 41)) rfl rfl hm97.1 dX7_tellsDown_105 rfl rfl (by decide) (Nat.le_of_ble_eq_true rfl) (fun x105 S105 h105 => ?_)
    obtain ⟨-, M105, hm105, hr105⟩ := h105
    refine pm_pop dX7_tellsDown_108 ?_
    subst hQ9
    refine pm_vret dX7_tellsDown_109 ?_
    exact ⟨M105, hm105, by rw [eu]; exact hr105⟩

set_option maxHeartbeats 4000000 in
set_option maxRecDepth 100000 in
theorem c_X7_exit (G : pm_G) (l : Launch) (bs : Nat) (A : Nat → Nat) (E : pm_S) (M : pm_N) (b : Nat) (Z : az) (s : Nat) (q p t : Nat) (w : List Int32) (g : Int32) (byW : Bool) (S : pm_S) (hm : pm_MX M S A E) (hr : mR b Z M) (hI : zI s Z) (hq : q < az_a Z 0) (hp : p < az_a Z 0) (ht : t < 2945) (htn : t ≠ 2940 ∧ t ≠ 2941 ∧ t ≠ 2942 ∧ t ≠ 2943) (hs : sl M t w) (hw : tW (az_a Z 0) w) (hg : g = if byW = true then 1 else 0) : pm_M G l bs yX7_exit cX7_exit 5 none 3 0 0 [.ref (A 50), .int (nI q), .int (nI p), .int (nI t), .int g] S (pm_qv (fun S2 => ∃ M2, pm_MX M2 S2 A E ∧ mR b (zExit Z q p w byW) M2)) := by
  have hn := hI.1
  have hsm := hI.sm
  have h9b := hI.b9
  refine pm_Mv (L := [.ref (A 50), .int (nI q), .int (nI p), .int (nI t), .int g]) false (by decide +kernel) (fun h => by cases h) rfl (pm_en_1 rfl (pm_en_1 rfl (pm_en_1 rfl (pm_en_1 rfl (pm_en_1 rfl (pm_en_0 rfl)))))) ?_
  generalize hQ9 : pm_xv (fun S2 => ∃ M2, pm_MX M2 S2 A E ∧ mR b (zExit Z q p w byW) M2) = Q9
  refine pm_aload_n dX7_exit_0 rfl ?_
  refine pm_g_Model_state hm.1 pm_f_X7_29 (hm.2.1 6 (by decide)).1 dX7_exit_1 ?_
  refine pm_iload_n dX7_exit_4 rfl ?_
  refine mm_iaload (n := _) hm (by decide) rfl (by show _ < 60; omega) dX7_exit_5 ?_
  refine pm_iconst (v := 2) dX7_exit_6 (by decide) ?_
  rw [hr.B (i := 1) hq rfl]
  refine pm_icmp_ne (tgt := 11) dX7_exit_7 (by decide) (fun h7 => ?_) (fun h7 => ?_)
  · skip
    have g1 : az_b Z 1 q ≠ 2 := fun z => h7 ((pm_e2 (hsm q hq 1 (by decide))).mpr z)
    refine pm_iload dX7_exit_11 rfl ?_
    refine pm_if_eq (tgt := 43) dX7_exit_13 (by decide) (fun h13 => ?_) (fun h13 => ?_)
    · skip
      have g2 : ¬ (byW = true ∧ w = [1, 1]) := fun z => by rw [hg, if_pos z.1] at h13; cases h13
      refine pm_aload_n dX7_exit_43 rfl ?_
      refine pm_g_Model_traps hm.1 pm_f_X7_41 (hm.2.1 10 (by decide)).1 dX7_exit_44 ?_
      refine pm_iload_n dX7_exit_47 rfl ?_
      refine mm_baload (n := _) hm (by decide) rfl (by show _ < 60; omega) dX7_exit_48 ?_
      rw [hr.B (i := 11) hq rfl]
      refine pm_if_eq (tgt := 75) dX7_exit_49 (by decide) (fun h49 => ?_) (fun h49 => ?_)
      · skip
        have g5 : ¬ az_b Z 11 q = 1 := fun z => by have q2 := (pm_e0 (hsm q hq 11 (by decide))).mp h49; omega
        refine pm_aload_n dX7_exit_75 rfl ?_
        refine pm_iload_n dX7_exit_76 rfl ?_
        refine pm_iconst (v := 0) dX7_exit_77 (by decide) ?_
        refine pm_vi (c_X7_isAtom G l bs A E M t 0 _ hm ht) pm_y_X7_isAtom pm_v_X7_isAtom pm_m_X7_184 (c := 7) (r := (RX7, TX7, 41)) rfl rfl hm.1 dX7_exit_78 rfl rfl (by decide) (Nat.le_of_ble_eq_true rfl) (fun x78 S78 h78 => ?_)
        obtain ⟨rfl, rfl⟩ := h78
        refine pm_if_eq (tgt := 90) dX7_exit_81 (by decide) (fun h81 => ?_) (fun h81 => ?_)
        · skip
          have g6 : ¬ (w = [1, 0] ∧ p ≠ q) := fun z => by rw [if_pos ((slAtom hs hw).mpr z.1)] at h81; cases h81
          refine pm_aload_n dX7_exit_90 rfl ?_
          refine pm_iload_n dX7_exit_91 rfl ?_
          refine pm_iload_n dX7_exit_92 rfl ?_
          refine pm_vv (c_X7_dies G l bs A E M b Z s q t w _ hm hr hI hq g1 ht hs) pm_y_X7_dies pm_v_X7_dies pm_m_X7_187 (c := 7) (r := (RX7, TX7, 41)) rfl rfl hm.1 dX7_exit_93 rfl rfl (by decide) (Nat.le_of_ble_eq_true rfl) (fun S93 h93 => ?_)
          obtain ⟨M93, hm93, hr93⟩ := h93
          subst hQ9
          refine pm_vret dX7_exit_96 ?_
          exact ⟨M93, hm93, by unfold zExit; rw [if_neg g1, if_neg g2, if_neg g5, if_neg g6]; exact hr93⟩
        · skip
          have g7 : w = [1, 0] := (slAtom hs hw).mp (Classical.byContradiction (fun z => h81 (if_neg z)))
          refine pm_iload_n dX7_exit_84 rfl ?_
          refine pm_iload_n dX7_exit_85 rfl ?_
          refine pm_icmp_eq (tgt := 90) dX7_exit_86 (by decide) (fun h86 => ?_) (fun h86 => ?_)
          · skip
            have g6 : ¬ (w = [1, 0] ∧ p ≠ q) := fun z => z.2 ((nI_eq (by omega) (by omega)).mp h86)
            refine pm_aload_n dX7_exit_90 rfl ?_
            refine pm_iload_n dX7_exit_91 rfl ?_
            refine pm_iload_n dX7_exit_92 rfl ?_
            refine pm_vv (c_X7_dies G l bs A E M b Z s q t w _ hm hr hI hq g1 ht hs) pm_y_X7_dies pm_v_X7_dies pm_m_X7_187 (c := 7) (r := (RX7, TX7, 41)) rfl rfl hm.1 dX7_exit_93 rfl rfl (by decide) (Nat.le_of_ble_eq_true rfl) (fun S93 h93 => ?_)
            obtain ⟨M93, hm93, hr93⟩ := h93
            subst hQ9
            refine pm_vret dX7_exit_96 ?_
            exact ⟨M93, hm93, by unfold zExit; rw [if_neg g1, if_neg g2, if_neg g5, if_neg g6]; exact hr93⟩
          · skip
            have g6 : w = [1, 0] ∧ p ≠ q := ⟨g7, fun z => h86 (by rw [z])⟩
            subst hQ9
            refine pm_vret dX7_exit_89 ?_
            exact ⟨M, hm, by unfold zExit; rw [if_neg g1, if_neg g2, if_neg g5, if_pos g6]; exact hr⟩
      · skip
        have q5 : ¬ az_b Z 11 q = 0 := fun z => h49 ((pm_e0 (hsm q hq 11 (by decide))).mpr z)
        have b11 : az_b Z 11 q ≤ 1 := hI.b hq 11
        have g5 : az_b Z 11 q = 1 := by omega
        refine pm_aload_n dX7_exit_52 rfl ?_
        refine pm_sipush (v := 2943) dX7_exit_53 (by decide) ?_
        refine pm_iconst (v := 2) dX7_exit_56 (by decide) ?_
        refine pm_iload_n dX7_exit_57 rfl ?_
        refine pm_iconst (v := 1) dX7_exit_58 (by decide) ?_
        refine pm_iadd dX7_exit_59 ?_
        rw [nI_1]
        refine pm_vv (c_X7_set G l bs A E M 2943 2 (nI (p + 1)) _ hm (by decide)) pm_y_X7_set pm_v_X7_set pm_m_X7_124 (c := 7) (r := (RX7, TX7, 41)) rfl rfl hm.1 dX7_exit_60 rfl rfl (by decide) (Nat.le_of_ble_eq_true rfl) (fun S60 h60 => ?_)
        obtain ⟨M60, hm60, mt60, sl60⟩ := h60
        have hr60 := hr.T hn h9b mt60 (by decide)
        refine pm_aload_n dX7_exit_63 rfl ?_
        refine pm_iload_n dX7_exit_64 rfl ?_
        refine pm_bipush (v := 6) dX7_exit_65 (by decide) ?_
        refine pm_sipush (v := 2943) dX7_exit_67 (by decide) ?_
        refine pm_iload_n dX7_exit_70 rfl ?_
        refine pm_vv (c_X7_tells G l bs A E M60 b Z s q t (nI (p + 1)) w _ hm60 hr60 hI hq ht ⟨htn.1, htn.2.1, htn.2.2.1⟩ sl60 (mt60.sl htn.2.2.2 hs) hw) pm_y_X7_tells pm_v_X7_tells pm_m_X7_190 (c := 7) (r := (RX7, TX7, 41)) rfl rfl hm60.1 dX7_exit_71 rfl rfl (by decide) (Nat.le_of_ble_eq_true rfl) (fun S71 h71 => ?_)
        obtain ⟨M71, hm71, hr71⟩ := h71
        subst hQ9
        refine pm_vret dX7_exit_74 ?_
        exact ⟨M71, hm71, by unfold zExit; rw [if_neg g1, if_neg g2, if_pos g5]; exact hr71⟩
    · skip
      have g3 : byW = true := by cases byW; exact absurd hg h13; rfl
      refine pm_aload_n dX7_exit_16 rfl ?_
      refine pm_iload_n dX7_exit_17 rfl ?_
      refine pm_iconst (v := 1) dX7_exit_18 (by decide) ?_
      refine pm_vi (c_X7_isAtom G l bs A E M t 1 _ hm ht) pm_y_X7_isAtom pm_v_X7_isAtom pm_m_X7_184 (c := 7) (r := (RX7, TX7, 41)) rfl rfl hm.1 dX7_exit_19 rfl rfl (by decide) (Nat.le_of_ble_eq_true rfl) (fun x19 S19 h19 => ?_)
      obtain ⟨rfl, rfl⟩ := h19
      refine pm_if_eq (tgt := 43) dX7_exit_22 (by decide) (fun h22 => ?_) (fun h22 => ?_)
      · skip
        have g2 : ¬ (byW = true ∧ w = [1, 1]) := fun z => by rw [if_pos ((slAtom hs hw).mpr z.2)] at h22; cases h22
        refine pm_aload_n dX7_exit_43 rfl ?_
        refine pm_g_Model_traps hm.1 pm_f_X7_41 (hm.2.1 10 (by decide)).1 dX7_exit_44 ?_
        refine pm_iload_n dX7_exit_47 rfl ?_
        refine mm_baload (n := _) hm (by decide) rfl (by show _ < 60; omega) dX7_exit_48 ?_
        rw [hr.B (i := 11) hq rfl]
        refine pm_if_eq (tgt := 75) dX7_exit_49 (by decide) (fun h49 => ?_) (fun h49 => ?_)
        · skip
          have g5 : ¬ az_b Z 11 q = 1 := fun z => by have q2 := (pm_e0 (hsm q hq 11 (by decide))).mp h49; omega
          refine pm_aload_n dX7_exit_75 rfl ?_
          refine pm_iload_n dX7_exit_76 rfl ?_
          refine pm_iconst (v := 0) dX7_exit_77 (by decide) ?_
          refine pm_vi (c_X7_isAtom G l bs A E M t 0 _ hm ht) pm_y_X7_isAtom pm_v_X7_isAtom pm_m_X7_184 (c := 7) (r := (RX7, TX7, 41)) rfl rfl hm.1 dX7_exit_78 rfl rfl (by decide) (Nat.le_of_ble_eq_true rfl) (fun x78 S78 h78 => ?_)
          obtain ⟨rfl, rfl⟩ := h78
          refine pm_if_eq (tgt := 90) dX7_exit_81 (by decide) (fun h81 => ?_) (fun h81 => ?_)
          · skip
            have g6 : ¬ (w = [1, 0] ∧ p ≠ q) := fun z => by rw [if_pos ((slAtom hs hw).mpr z.1)] at h81; cases h81
            refine pm_aload_n dX7_exit_90 rfl ?_
            refine pm_iload_n dX7_exit_91 rfl ?_
            refine pm_iload_n dX7_exit_92 rfl ?_
            refine pm_vv (c_X7_dies G l bs A E M b Z s q t w _ hm hr hI hq g1 ht hs) pm_y_X7_dies pm_v_X7_dies pm_m_X7_187 (c := 7) (r := (RX7, TX7, 41)) rfl rfl hm.1 dX7_exit_93 rfl rfl (by decide) (Nat.le_of_ble_eq_true rfl) (fun S93 h93 => ?_)
            obtain ⟨M93, hm93, hr93⟩ := h93
            subst hQ9
            refine pm_vret dX7_exit_96 ?_
            exact ⟨M93, hm93, by unfold zExit; rw [if_neg g1, if_neg g2, if_neg g5, if_neg g6]; exact hr93⟩
          · skip
            have g7 : w = [1, 0] := (slAtom hs hw).mp (Classical.byContradiction (fun z => h81 (if_neg z)))
            refine pm_iload_n dX7_exit_84 rfl ?_
            refine pm_iload_n dX7_exit_85 rfl ?_
            refine pm_icmp_eq (tgt := 90) dX7_exit_86 (by decide) (fun h86 => ?_) (fun h86 => ?_)
            · skip
              have g6 : ¬ (w = [1, 0] ∧ p ≠ q) := fun z => z.2 ((nI_eq (by omega) (by omega)).mp h86)
              refine pm_aload_n dX7_exit_90 rfl ?_
              refine pm_iload_n dX7_exit_91 rfl ?_
              refine pm_iload_n dX7_exit_92 rfl ?_
              refine pm_vv (c_X7_dies G l bs A E M b Z s q t w _ hm hr hI hq g1 ht hs) pm_y_X7_dies pm_v_X7_dies pm_m_X7_187 (c := 7) (r := (RX7, TX7, 41)) rfl rfl hm.1 dX7_exit_93 rfl rfl (by decide) (Nat.le_of_ble_eq_true rfl) (fun S93 h93 => ?_)
              obtain ⟨M93, hm93, hr93⟩ := h93
              subst hQ9
              refine pm_vret dX7_exit_96 ?_
              exact ⟨M93, hm93, by unfold zExit; rw [if_neg g1, if_neg g2, if_neg g5, if_neg g6]; exact hr93⟩
            · skip
              have g6 : w = [1, 0] ∧ p ≠ q := ⟨g7, fun z => h86 (by rw [z])⟩
              subst hQ9
              refine pm_vret dX7_exit_89 ?_
              exact ⟨M, hm, by unfold zExit; rw [if_neg g1, if_neg g2, if_neg g5, if_pos g6]; exact hr⟩
        · skip
          have q5 : ¬ az_b Z 11 q = 0 := fun z => h49 ((pm_e0 (hsm q hq 11 (by decide))).mpr z)
          have b11 : az_b Z 11 q ≤ 1 := hI.b hq 11
          have g5 : az_b Z 11 q = 1 := by omega
          refine pm_aload_n dX7_exit_52 rfl ?_
          refine pm_sipush (v := 2943) dX7_exit_53 (by decide) ?_
          refine pm_iconst (v := 2) dX7_exit_56 (by decide) ?_
          refine pm_iload_n dX7_exit_57 rfl ?_
          refine pm_iconst (v := 1) dX7_exit_58 (by decide) ?_
          refine pm_iadd dX7_exit_59 ?_
          rw [nI_1]
          refine pm_vv (c_X7_set G l bs A E M 2943 2 (nI (p + 1)) _ hm (by decide)) pm_y_X7_set pm_v_X7_set pm_m_X7_124 (c := 7) (r := (RX7, TX7, 41)) rfl rfl hm.1 dX7_exit_60 rfl rfl (by decide) (Nat.le_of_ble_eq_true rfl) (fun S60 h60 => ?_)
          obtain ⟨M60, hm60, mt60, sl60⟩ := h60
          have hr60 := hr.T hn h9b mt60 (by decide)
          refine pm_aload_n dX7_exit_63 rfl ?_
          refine pm_iload_n dX7_exit_64 rfl ?_
          refine pm_bipush (v := 6) dX7_exit_65 (by decide) ?_
          refine pm_sipush (v := 2943) dX7_exit_67 (by decide) ?_
          refine pm_iload_n dX7_exit_70 rfl ?_
          refine pm_vv (c_X7_tells G l bs A E M60 b Z s q t (nI (p + 1)) w _ hm60 hr60 hI hq ht ⟨htn.1, htn.2.1, htn.2.2.1⟩ sl60 (mt60.sl htn.2.2.2 hs) hw) pm_y_X7_tells pm_v_X7_tells pm_m_X7_190 (c := 7) (r := (RX7, TX7, 41)) rfl rfl hm60.1 dX7_exit_71 rfl rfl (by decide) (Nat.le_of_ble_eq_true rfl) (fun S71 h71 => ?_)
          obtain ⟨M71, hm71, hr71⟩ := h71
          subst hQ9
          refine pm_vret dX7_exit_74 ?_
          exact ⟨M71, hm71, by unfold zExit; rw [if_neg g1, if_neg g2, if_pos g5]; exact hr71⟩
      · skip
        have g4 : w = [1, 1] := (slAtom hs hw).mp (Classical.byContradiction (fun z => h22 (if_neg z)))
        refine pm_aload_n dX7_exit_25 rfl ?_
        refine pm_sipush (v := 2940) dX7_exit_26 (by decide) ?_
        refine pm_iconst (v := 1) dX7_exit_29 (by decide) ?_
        refine pm_iconst (v := 2) dX7_exit_30 (by decide) ?_
        refine pm_vv (c_X7_set G l bs A E M 2940 1 2 _ hm (by decide)) pm_y_X7_set pm_v_X7_set pm_m_X7_124 (c := 7) (r := (RX7, TX7, 41)) rfl rfl hm.1 dX7_exit_31 rfl rfl (by decide) (Nat.le_of_ble_eq_true rfl) (fun S31 h31 => ?_)
        obtain ⟨M31, hm31, mt31, sl31⟩ := h31
        have hr31 := hr.T hn h9b mt31 (by decide)
        refine pm_aload_n dX7_exit_34 rfl ?_
        refine pm_iload_n dX7_exit_35 rfl ?_
        refine pm_sipush (v := 2940) dX7_exit_36 (by decide) ?_
        refine pm_vv (c_X7_dies G l bs A E M31 b Z s q 2940 [1, 2] _ hm31 hr31 hI hq g1 (by decide) sl31) pm_y_X7_dies pm_v_X7_dies pm_m_X7_187 (c := 7) (r := (RX7, TX7, 41)) rfl rfl hm31.1 dX7_exit_39 rfl rfl (by decide) (Nat.le_of_ble_eq_true rfl) (fun S39 h39 => ?_)
        obtain ⟨M39, hm39, hr39⟩ := h39
        subst hQ9
        refine pm_vret dX7_exit_42 ?_
        exact ⟨M39, hm39, by unfold zExit; rw [if_neg g1, if_pos ⟨g3, g4⟩]; exact hr39⟩
  · skip
    have g1 : az_b Z 1 q = 2 := (pm_e2 (hsm q hq 1 (by decide))).mp h7
    subst hQ9
    refine pm_vret dX7_exit_10 ?_
    exact ⟨M, hm, by unfold zExit; rw [if_pos g1]; exact hr⟩

