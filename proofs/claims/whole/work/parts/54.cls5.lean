/-! ProcessMill: the spreading of deaths -/
theorem zComes_w (Z : az) (p : Nat) (w : List Int32) : az_w (zComes Z p w) = az_w Z := by
  unfold zComes
  split
  · dsimp only
    split <;> rfl
  · rfl
theorem pm_CX.w {Z : az} {S E : pm_S} {Y : pm_Y} {k : Nat} {t : Nat × Nat × Nat} (hx : pm_CX Z S Y E) (h : (az_w Z)[k]? = some t) : pm_x S (Y.1 6) k = nI t.1 ∧ pm_x S (Y.1 7) k = nI (t.2.1 + 1) ∧ pm_x S (Y.1 8) k = nI (t.2.2 + 1) := by
  have hk : k < (az_w Z).length := (List.getElem?_eq_some_iff.mp h).1
  have h2 := hx.1.2.2.2.2.2.2.2.2.2.2.1.2 k (by rw [List.length_map]; exact hk)
  rw [List.getElem?_map, h] at h2
  have h3 := Option.some.inj h2
  have h4 := congrArg (fun z : Int32 × Int32 × Int32 => z.1) h3
  have h5 := congrArg (fun z : Int32 × Int32 × Int32 => z.2.1) h3
  have h6 := congrArg (fun z : Int32 × Int32 × Int32 => z.2.2) h3
  exact ⟨h4.symm, h5.symm, h6.symm⟩
set_option maxHeartbeats 4000000 in
set_option maxRecDepth 100000 in
theorem c_X6_tellLinked (G : pm_G) (l : Launch) (bs : Nat) (Z : az) (Y : pm_Y) (E : pm_S) (s : Nat) (p : Nat) (F : az) (S : pm_S) (hx : pm_CX Z S Y E) (hI : zI s Z) (hp : p < az_a Z 0) (hF : zTellL (az_a Z 0) Z p 0 = F) : pm_M G l bs yX6_tellLinked cX6_tellLinked 4 none 5 (zU F - zU Z) (49 * (zU F - zU Z)) [.ref (Y.1 0), .ref (Y.1 (pq p 0))] S (pm_qv (fun S2 => ∃ Y2, yLe (az_a Z 0) Y Y2 ∧ pm_CX F S2 Y2 E)) := by
  refine pm_Mv (L := [.ref (Y.1 0), .ref (Y.1 (pq p 0)), pm_u, pm_u]) false (by decide +kernel) (fun h => by cases h) rfl (pm_en_1 rfl (pm_en_1 rfl (pm_en_0 rfl))) ?_
  generalize hQ9 : pm_xv (fun S2 => ∃ Y2, yLe (az_a Z 0) Y Y2 ∧ pm_CX F S2 Y2 E) = Q9
  have loop : ∀ (m k : Nat) (Z9 : az) (Y9 : pm_Y) (S9 : pm_S) (v3 : Value), k + m = az_a Z9 0 → az_a Z9 0 = az_a Z 0 → zI s Z9 → yLe (az_a Z 0) Y Y9 → pm_CX Z9 S9 Y9 E → zTellL m Z9 p k = F → pm_W G l bs yX6_tellLinked.cls cX6_tellLinked 4 false 5 (zU F - zU Z9) (49 * (zU F - zU Z9)) Q9 2 [.ref (Y9.1 0), .ref (Y9.1 (pq p 0)), .int (nI k), v3] [] S9 := by
    intro m
    induction m using Nat.strongRecOn with
    | ind m ih =>
    intro k Z9 Y9 S9 v3 hkm hnn hI9 hle9 hx9 hF
    have hp9 : p < az_a Z9 0 := by omega
    have hn := hI9.1
    obtain ⟨h, hmk⟩ := id hx9
    have hA := h.2.2.2.2.2.1
    obtain ⟨⟨hk0, hr0, hr1, hr2, hr3, hr4, hr5, hr6, hr7⟩, ⟨hk1, hl1⟩, ⟨hk2, hl2⟩, ⟨hk3, hl3⟩, ⟨hk4, hl4⟩, hWt, hSh, hLt, hCs⟩ := id h.2.2.1
    obtain ⟨kW, rW1, rW2, rW3, kW1, nW1, kW2, nW2, kW3, nW3, -⟩ := id hWt
    have hB := h.2.2.2.2.1 p hp9
    obtain ⟨⟨pk0, pr1, pr2, pr4, pr6, ppid⟩, ⟨pk1, pn1, pz1⟩, hmb, hts⟩ := id (h.2.2.2.1 p hp9)
    refine pm_iload_n dX6_tellLinked_2 rfl ?_
    refine pm_aload_n dX6_tellLinked_3 rfl ?_
    refine pm_g_Mill_started (by (try simp only [pm_k_si, pm_k_sj, pm_k_sp, pm_k_sx, pm_k_sz, pm_k_sr, pm_k_sy]); assumption) pm_f_X6_49 dX6_tellLinked_4 ?_
    rw [hA 308 0 0 rfl]
    refine pm_icmp_ge (tgt := 50) dX6_tellLinked_7 (by decide) (fun h7 => ?_) (fun h7 => ?_)
    · skip
      have h8 : k = az_a Z9 0 := by have := (pm_nle (by omega) (by omega)).mp h7; omega
      obtain rfl : m = 0 := by omega
      subst hQ9
      refine pm_vret dX6_tellLinked_50 ?_
      exact ⟨Y9, hle9, by rw [← hF]; exact hx9⟩
    · skip
      have h8 : k < az_a Z9 0 := by rcases Nat.lt_or_ge k (az_a Z9 0) with q | q; exact q; exact absurd ((pm_nle (by omega) (by omega)).mpr q) h7
      obtain ⟨m, rfl⟩ : ∃ m2, m = m2 + 1 := ⟨m - 1, by omega⟩
      rw [zTellL] at hF
      have hBk := h.2.2.2.2.1 k h8
      obtain ⟨⟨pk0k, pr1k, pr2k, pr4k, pr6k, ppidk⟩, ⟨pk1k, pn1k, pz1k⟩, hmbk, htsk⟩ := id (h.2.2.2.1 k h8)
      have hz := h.2.2.2.2.2.2.2.2.2.2.2.1.1 k h8
      refine pm_aload_n dX6_tellLinked_10 rfl ?_
      refine pm_g_Mill_processes (by (try simp only [pm_k_si, pm_k_sj, pm_k_sp, pm_k_sx, pm_k_sz, pm_k_sr, pm_k_sy]); assumption) pm_f_X6_15 (by (try simp only [pm_p_si, pm_p_sj, pm_p_sx, pm_p_sz, pm_p_sr, pm_p_sy]); assumption) dX6_tellLinked_11 ?_
      refine pm_iload_n dX6_tellLinked_14 rfl ?_
      refine pm_aaloadP (n := k) (by (try simp only [pm_k_si, pm_k_sj, pm_k_sp, pm_k_sx, pm_k_sz, pm_k_sr, pm_k_sy]); assumption) rfl (by first | omega | (simp only [pm_n_sx, pm_n_si, pm_n_sr, pm_n_sz, pm_n_sp, pm_n_sj, pm_n_sy]; omega)) (by first | omega | (simp only [pm_n_sx, pm_n_si, pm_n_sr, pm_n_sz, pm_n_sp, pm_n_sj, pm_n_sy]; omega)) dX6_tellLinked_15 ?_
      rw [hz]
      show pm_W _ _ _ _ _ _ _ _ _ _ _ _ _ [.ref (Y9.1 (pq k 0))] S9
      refine pm_astn dX6_tellLinked_16 (i := 3) rfl (by decide) ?_
      dsimp only [List.set]
      refine pm_aload_n dX6_tellLinked_17 rfl ?_
      refine pm_aload_n dX6_tellLinked_18 rfl ?_
      refine pm_vi (c_X1_isLinkedWith G l bs (Y9.1 (pq p 0)) (Y9.1 (pq k 0)) (k + 1) S9 pk0 pk0k ppidk (by omega)) pm_y_X1_isLinkedWith pm_v_X1_isLinkedWith pm_m_X6_419 (c := 1) (r := (RX1, TX1, 16)) rfl rfl (by (try simp only [pm_k_si, pm_k_sj, pm_k_sp, pm_k_sx, pm_k_sz, pm_k_sr, pm_k_sy]); assumption) dX6_tellLinked_19 rfl rfl (by decide) (Nat.le_of_ble_eq_true rfl) (fun x19 S19 h19 => ?_)
      obtain ⟨e19, rfl⟩ := h19
      rw [(h.2.2.2.2.2.2.2.1 p hp9).2 (k + 1) (by omega), decide_eq_true (by omega), Bool.true_and, show k + 1 - 1 = k from rfl] at e19
      refine pm_if_eq (tgt := 44) dX6_tellLinked_22 (by decide) (fun h22 => ?_) (fun h22 => ?_)
      · skip
        have h6 : ¬ az_f Z9 p k = true := fun z => by rw [if_pos z, h22] at e19; cases e19
        rw [if_neg h6] at hF
        refine pm_iinc dX6_tellLinked_44 rfl rfl (by decide) ?_
        dsimp only [List.set]
        refine pm_goto (tgt := 2) dX6_tellLinked_47 (by decide) ?_
        rw [show nI k + Int32.ofInt 1 = nI (k + 1) from nI_1 _]
        first
        | exact ih m (by omega) (k + 1) _ Y2 _ _ (by rw [l1.1]; show k + 1 + m = az_a Z9 0; omega) (by rw [l1.1]; exact hnn) hI3 (hle9.tr (Nat.le_of_eq hnn.symm) hle2) hx3 hF
        | exact ih m (by omega) (k + 1) Z9 Y9 _ _ (by omega) hnn hI9 hle9 hx9 hF
      · skip
        have h6 : az_f Z9 p k = true := by cases q : az_f Z9 p k; rw [q, if_neg (by decide)] at e19; exact absurd e19 h22; rfl
        rw [if_pos h6] at hF
        refine pm_aload_n dX6_tellLinked_25 rfl ?_
        refine pm_aload_n dX6_tellLinked_26 rfl ?_
        refine pm_vv (c_X1_unlinkFrom G l bs (Y9.1 (pq p 0)) (Y9.1 (pq k 0)) (p + 1) (k + 1) _ pk0 pk0k ppid ppidk) pm_y_X1_unlinkFrom pm_v_X1_unlinkFrom pm_m_X6_371 (c := 1) (r := (RX1, TX1, 16)) rfl rfl (by (try simp only [pm_k_si, pm_k_sj, pm_k_sp, pm_k_sx, pm_k_sz, pm_k_sr, pm_k_sy]); assumption) dX6_tellLinked_27 rfl rfl (by decide) (Nat.le_of_ble_eq_true rfl) (fun S27 h27 => ?_)
        have hx2 : pm_CX (zLink Z9 p k false) S27 Y9 E := by rw [h27]; exact hx9.lift ((h.f0 hn hp9 h8).f0 (p := k) (q := p) hn h8 hp9) rfl (fun _ => rfl)
        have hI2 := hI9.lk (v := false) hp9 h8 (hI9.2.2.2.2.2.2.1 p k h6).2.2.1
        obtain ⟨h_2, hmk_2⟩ := id hx2
        have hA_2 := h_2.2.2.2.2.2.1
        obtain ⟨⟨hk0_2, hr0_2, hr1_2, hr2_2, hr3_2, hr4_2, hr5_2, hr6_2, hr7_2⟩, ⟨hk1_2, hl1_2⟩, ⟨hk2_2, hl2_2⟩, ⟨hk3_2, hl3_2⟩, ⟨hk4_2, hl4_2⟩, hWt_2, hSh_2, hLt_2, hCs_2⟩ := id h_2.2.2.1
        obtain ⟨kW_2, rW1_2, rW2_2, rW3_2, kW1_2, nW1_2, kW2_2, nW2_2, kW3_2, nW3_2, -⟩ := id hWt_2
        have hB_2 := h_2.2.2.2.2.1 p hp9
        obtain ⟨⟨pk0_2, pr1_2, pr2_2, pr4_2, pr6_2, ppid_2⟩, ⟨pk1_2, pn1_2, pz1_2⟩, hmb_2, hts_2⟩ := id (h_2.2.2.2.1 p hp9)
        refine pm_aload_n dX6_tellLinked_30 rfl ?_
        refine pm_aload_n dX6_tellLinked_31 rfl ?_
        refine pm_aload_n dX6_tellLinked_32 rfl ?_
        refine pm_g_Proc_pid (by (try simp only [pm_k_si, pm_k_sj, pm_k_sp, pm_k_sx, pm_k_sz, pm_k_sr, pm_k_sy]); assumption) pm_f_X6_88 dX6_tellLinked_33 ?_
        refine pm_aload_n dX6_tellLinked_36 rfl ?_
        refine pm_g_Proc_reason (by (try simp only [pm_k_si, pm_k_sj, pm_k_sp, pm_k_sx, pm_k_sz, pm_k_sr, pm_k_sy]); assumption) pm_f_X6_145 (by (try simp only [pm_p_si, pm_p_sj, pm_p_sx, pm_p_sz, pm_p_sr, pm_p_sy]); assumption) dX6_tellLinked_37 ?_
        refine pm_iconst (v := 0) dX6_tellLinked_40 (by decide) ?_
        rw [ppid_2]
        have l1 := zLe_exit (Z := zLink Z9 p k false) (q := k) (p := p) (w := az_t Z9 1 p 0) (b := false) h8
        have l2 := zLe_tellL m (zExit (zLink Z9 p k false) k p (az_t Z9 1 p 0) false) p (k + 1) (by rw [l1.1]; show k + 1 + m ≤ az_a Z9 0; omega)
        have l3 : zU (zLink Z9 p k false) = zU Z9 := zU_eq rfl (fun _ _ => rfl)
        rw [hF] at l2
        have l1a := l1.2.1
        have l2a := l2.2.1
        refine pm_vvk (kc2 := (zU F - zU (zExit (zLink Z9 p k false) k p (az_t Z9 1 p 0) false))) (ks2 := (49 * (zU F - zU (zExit (zLink Z9 p k false) k p (az_t Z9 1 p 0) false)))) (c_X6_getExit G l bs (zLink Z9 p k false) Y9 E s k p (Y9.1 (pq p 2)) (Y9.1 (pq p 3)) (az_t Z9 1 p 0) 0 false S27 hx2 hI2 h8 hp9 (hx2.ts hp9) (hI9.rs hp9) (h.pc hp9 (by decide) (by decide)) (h.pc hp9 (by decide) (by decide)) rfl) pm_y_X6_getExit pm_v_X6_getExit pm_m_X6_367 (c := 6) (r := (RX6, TX6, 16)) rfl rfl (by (try simp only [pm_k_si, pm_k_sj, pm_k_sp, pm_k_sx, pm_k_sz, pm_k_sr, pm_k_sy]); assumption) dX6_tellLinked_41 rfl rfl (by decide) (Nat.le_of_ble_eq_true rfl) (by omega) (by omega) (fun S41 h41 => ?_)
        obtain ⟨Y2, hle2, hx3⟩ := h41
        have hI3 := hI2.exit (b := false) h8 hp9 (hI9.rs hp9)
        rw [← hle2.c (c := 0) (by decide), ← hle2.p (p := p) (c := 0) hp9 (by decide)]
        refine pm_iinc dX6_tellLinked_44 rfl rfl (by decide) ?_
        dsimp only [List.set]
        refine pm_goto (tgt := 2) dX6_tellLinked_47 (by decide) ?_
        rw [show nI k + Int32.ofInt 1 = nI (k + 1) from nI_1 _]
        first
        | exact ih m (by omega) (k + 1) _ Y2 _ _ (by rw [l1.1]; show k + 1 + m = az_a Z9 0; omega) (by rw [l1.1]; exact hnn) hI3 (hle9.tr (Nat.le_of_eq hnn.symm) hle2) hx3 hF
        | exact ih m (by omega) (k + 1) Z9 Y9 _ _ (by omega) hnn hI9 hle9 hx9 hF
  refine pm_iconst (v := 0) dX6_tellLinked_0 (by decide) ?_
  refine pm_istn dX6_tellLinked_1 (i := 2) rfl (by decide) ?_
  dsimp only [List.set]
  exact loop (az_a Z 0) 0 Z Y S _ (by omega) rfl hI yLe.rf hx hF

set_option maxHeartbeats 4000000 in
set_option maxRecDepth 100000 in
theorem c_X6_tellWatchers (G : pm_G) (l : Launch) (bs : Nat) (Z : az) (Y : pm_Y) (E : pm_S) (s : Nat) (p : Nat) (F : az) (S : pm_S) (hx : pm_CX Z S Y E) (hI : zI s Z) (hp : p < az_a Z 0) (hF : zTellW (az_w Z) Z p = F) : pm_M G l bs yX6_tellWatchers cX6_tellWatchers 4 none 4 (zU F - zU Z) (49 * (zU F - zU Z)) [.ref (Y.1 0), .ref (Y.1 (pq p 0))] S (pm_qv (fun S2 => ∃ Y2, yLe (az_a Z 0) Y Y2 ∧ pm_CX (zs_w F ((az_w F).filter (fun t => decide (t.2.2 ≠ p)))) S2 Y2 E)) := by
  refine pm_Mv (L := [.ref (Y.1 0), .ref (Y.1 (pq p 0)), pm_u, pm_u]) false (by decide +kernel) (fun h => by cases h) rfl (pm_en_1 rfl (pm_en_1 rfl (pm_en_0 rfl))) ?_
  generalize hQ9 : pm_xv (fun S2 => ∃ Y2, yLe (az_a Z 0) Y Y2 ∧ pm_CX (zs_w F ((az_w F).filter (fun t => decide (t.2.2 ≠ p)))) S2 Y2 E) = Q9
  have loop : ∀ (m k : Nat) (Z9 : az) (Y9 : pm_Y) (S9 : pm_S) (v3 : Value), k + m = (az_w Z).length → az_a Z9 0 = az_a Z 0 → zI s Z9 → az_w Z9 = az_w Z → yLe (az_a Z 0) Y Y9 → pm_CX Z9 S9 Y9 E → zTellW ((az_w Z).drop k) Z9 p = F → pm_W G l bs yX6_tellWatchers.cls cX6_tellWatchers 4 false 4 (zU F - zU Z9) (49 * (zU F - zU Z9)) Q9 2 [.ref (Y9.1 0), .ref (Y9.1 (pq p 0)), .int (nI k), v3] [] S9 := by
    intro m
    induction m using Nat.strongRecOn with
    | ind m ih =>
    intro k Z9 Y9 S9 v3 hkm hnn hI9 hV hle9 hx9 hF
    have hp9 : p < az_a Z9 0 := by omega
    have hn := hI9.1
    have hwl : (az_w Z).length ≤ 200 := by rw [← hV]; exact hI9.2.2.2.2.2.2.2.2.1.1
    obtain ⟨h, hmk⟩ := id hx9
    have hA := h.2.2.2.2.2.1
    obtain ⟨⟨hk0, hr0, hr1, hr2, hr3, hr4, hr5, hr6, hr7⟩, ⟨hk1, hl1⟩, ⟨hk2, hl2⟩, ⟨hk3, hl3⟩, ⟨hk4, hl4⟩, hWt, hSh, hLt, hCs⟩ := id h.2.2.1
    obtain ⟨kW, rW1, rW2, rW3, kW1, nW1, kW2, nW2, kW3, nW3, -⟩ := id hWt
    have hB := h.2.2.2.2.1 p hp9
    obtain ⟨⟨pk0, pr1, pr2, pr4, pr6, ppid⟩, ⟨pk1, pn1, pz1⟩, hmb, hts⟩ := id (h.2.2.2.1 p hp9)
    refine pm_iload_n dX6_tellWatchers_2 rfl ?_
    refine pm_aload_n dX6_tellWatchers_3 rfl ?_
    refine pm_g_Mill_watches (by (try simp only [pm_k_si, pm_k_sj, pm_k_sp, pm_k_sx, pm_k_sz, pm_k_sr, pm_k_sy]); assumption) pm_f_X6_28 (by (try simp only [pm_p_si, pm_p_sj, pm_p_sx, pm_p_sz, pm_p_sr, pm_p_sy]); assumption) dX6_tellWatchers_4 ?_
    refine pm_g_Watches_count (by (try simp only [pm_k_si, pm_k_sj, pm_k_sp, pm_k_sx, pm_k_sz, pm_k_sr, pm_k_sy]); assumption) pm_f_X6_423 dX6_tellWatchers_7 ?_
    rw [show pm_i S9 253 (Y9.1 5) = nI (az_w Z).length from by rw [← hV]; exact h.2.2.2.2.2.2.2.2.2.2.1.1]
    refine pm_icmp_ge (tgt := 91) dX6_tellWatchers_10 (by decide) (fun h10 => ?_) (fun h10 => ?_)
    · skip
      have h8 : k = (az_w Z).length := by have := (pm_nle (by omega) (by omega)).mp h10; omega
      rw [h8, List.drop_length, zTellW] at hF
      subst hF
      refine pm_aload_n dX6_tellWatchers_91 rfl ?_
      refine pm_g_Mill_watches (by (try simp only [pm_k_si, pm_k_sj, pm_k_sp, pm_k_sx, pm_k_sz, pm_k_sr, pm_k_sy]); assumption) pm_f_X6_28 (by (try simp only [pm_p_si, pm_p_sj, pm_p_sx, pm_p_sz, pm_p_sr, pm_p_sy]); assumption) dX6_tellWatchers_92 ?_
      refine pm_aload_n dX6_tellWatchers_95 rfl ?_
      refine pm_g_Proc_pid (by (try simp only [pm_k_si, pm_k_sj, pm_k_sp, pm_k_sx, pm_k_sz, pm_k_sr, pm_k_sy]); assumption) pm_f_X6_88 dX6_tellWatchers_96 ?_
      rw [ppid]
      refine pm_vv (c_X5_dropThoseOf G l bs (Y9.1 5) (Y9.1 6) (Y9.1 7) (Y9.1 8) (nI (p + 1)) ((az_w Z9).map (fun t => (nI t.1, nI (t.2.1 + 1), nI (t.2.2 + 1)))) _ hWt (h.2.2.2.2.2.2.2.2.2.2.1.1.trans (by rw [List.length_map])) (by rw [List.length_map]; exact hI9.2.2.2.2.2.2.2.2.1.1) h.2.2.2.2.2.2.2.2.2.2.1.2) pm_y_X5_dropThoseOf pm_v_X5_dropThoseOf pm_m_X6_435 (c := 5) (r := (RX5, TX5, 5)) rfl rfl kW dX6_tellWatchers_99 rfl rfl (by decide) (Nat.le_of_ble_eq_true rfl) (fun S99 h99 => ?_)
      rw [wfil_map2 (by omega) (fun t ht => by have := (hI9.2.2.2.2.2.2.2.2.1.2 t ht).2; omega)] at h99
      have h7 := h.wt (V := (az_w Z9).filter (fun t => decide (t.2.2 ≠ p))) hn h99.1 (by rw [h99.2.1, List.length_map]) h99.2.2
      subst hQ9
      refine pm_vret dX6_tellWatchers_102 ?_
      exact ⟨Y9, hle9, hx9.lift h7 rfl (fun _ => rfl)⟩
    · skip
      have h8 : k < (az_w Z).length := by rcases Nat.lt_or_ge k (az_w Z).length with q | q; exact q; exact absurd ((pm_nle (by omega) (by omega)).mpr q) h10
      obtain ⟨m, rfl⟩ : ∃ m2, m = m2 + 1 := ⟨m - 1, by omega⟩
      obtain ⟨t, ht⟩ : ∃ t, (az_w Z)[k]? = some t := ⟨_, List.getElem?_eq_getElem h8⟩
      have hw := hx9.w (k := k) (t := t) (by rw [hV]; exact ht)
      have htn := hI9.2.2.2.2.2.2.2.2.1.2 t (by rw [hV]; exact List.mem_of_getElem? ht)
      rw [List.drop_eq_getElem_cons h8, zTellW, show (az_w Z)[k] = t from (List.getElem?_eq_some_iff.mp ht).2] at hF
      refine pm_aload_n dX6_tellWatchers_13 rfl ?_
      refine pm_g_Mill_watches (by (try simp only [pm_k_si, pm_k_sj, pm_k_sp, pm_k_sx, pm_k_sz, pm_k_sr, pm_k_sy]); assumption) pm_f_X6_28 (by (try simp only [pm_p_si, pm_p_sj, pm_p_sx, pm_p_sz, pm_p_sr, pm_p_sy]); assumption) dX6_tellWatchers_14 ?_
      refine pm_g_Watches_watched (by (try simp only [pm_k_si, pm_k_sj, pm_k_sp, pm_k_sx, pm_k_sz, pm_k_sr, pm_k_sy]); assumption) pm_f_X6_426 (by (try simp only [pm_p_si, pm_p_sj, pm_p_sx, pm_p_sz, pm_p_sr, pm_p_sy]); assumption) dX6_tellWatchers_17 ?_
      refine pm_iload_n dX6_tellWatchers_20 rfl ?_
      refine pm_iaload (n := k) kW3 rfl (by first | omega | (simp only [pm_n_sx, pm_n_si, pm_n_sr, pm_n_sz, pm_n_sp, pm_n_sj, pm_n_sy]; omega)) (by first | omega | (simp only [pm_n_sx, pm_n_si, pm_n_sr, pm_n_sz, pm_n_sp, pm_n_sj, pm_n_sy]; omega)) dX6_tellWatchers_21 ?_
      refine pm_aload_n dX6_tellWatchers_22 rfl ?_
      refine pm_g_Proc_pid (by (try simp only [pm_k_si, pm_k_sj, pm_k_sp, pm_k_sx, pm_k_sz, pm_k_sr, pm_k_sy]); assumption) pm_f_X6_88 dX6_tellWatchers_23 ?_
      rw [hw.2.2, ppid]
      refine pm_icmp_ne (tgt := 45) dX6_tellWatchers_26 (by decide) (fun h26 => ?_) (fun h26 => ?_)
      · have h6 : ¬ t.2.2 = p := fun z => h26 (by rw [z])
        rw [if_neg h6] at hF
        refine pm_null dX6_tellWatchers_45 ?_
        show pm_W _ _ _ _ _ _ _ _ _ _ _ _ _ [.null] _
        refine pm_astn dX6_tellWatchers_46 (i := 3) rfl (by decide) ?_
        dsimp only [List.set]
        refine pm_aload_n dX6_tellWatchers_47 rfl ?_
        refine pm_ifnull_n (tgt := 85) dX6_tellWatchers_48 (by decide) ?_
        refine pm_iinc dX6_tellWatchers_85 rfl rfl (by decide) ?_
        dsimp only [List.set]
        refine pm_goto (tgt := 2) dX6_tellWatchers_88 (by decide) ?_
        rw [show nI k + Int32.ofInt 1 = nI (k + 1) from nI_1 _]
        exact ih m (by omega) (k + 1) Z9 Y9 _ _ (by omega) hnn hI9 hV hle9 hx9 hF
      · have h6 : t.2.2 = p := by have := (nI_eq (by omega) (by omega)).mp h26; omega
        rw [if_pos h6, zDown] at hF
        refine pm_aload_n dX6_tellWatchers_29 rfl ?_
        refine pm_aload_n dX6_tellWatchers_30 rfl ?_
        refine pm_g_Mill_watches (by (try simp only [pm_k_si, pm_k_sj, pm_k_sp, pm_k_sx, pm_k_sz, pm_k_sr, pm_k_sy]); assumption) pm_f_X6_28 (by (try simp only [pm_p_si, pm_p_sj, pm_p_sx, pm_p_sz, pm_p_sr, pm_p_sy]); assumption) dX6_tellWatchers_31 ?_
        refine pm_g_Watches_watchers (by (try simp only [pm_k_si, pm_k_sj, pm_k_sp, pm_k_sx, pm_k_sz, pm_k_sr, pm_k_sy]); assumption) pm_f_X6_429 (by (try simp only [pm_p_si, pm_p_sj, pm_p_sx, pm_p_sz, pm_p_sr, pm_p_sy]); assumption) dX6_tellWatchers_34 ?_
        refine pm_iload_n dX6_tellWatchers_37 rfl ?_
        refine pm_iaload (n := k) kW2 rfl (by first | omega | (simp only [pm_n_sx, pm_n_si, pm_n_sr, pm_n_sz, pm_n_sp, pm_n_sj, pm_n_sy]; omega)) (by first | omega | (simp only [pm_n_sx, pm_n_si, pm_n_sr, pm_n_sz, pm_n_sp, pm_n_sj, pm_n_sy]; omega)) dX6_tellWatchers_38 ?_
        rw [hw.2.1]
        refine pm_vr (c_X6_find G l bs Z9 Y9 E (nI (t.2.1 + 1)) S9 h hn) pm_y_X6_find pm_v_X6_find pm_m_X6_91 (c := 6) (r := (RX6, TX6, 16)) rfl rfl (by (try simp only [pm_k_si, pm_k_sj, pm_k_sp, pm_k_sx, pm_k_sz, pm_k_sr, pm_k_sy]); assumption) dX6_tellWatchers_39 rfl rfl (by decide) (Nat.le_of_ble_eq_true rfl) (fun x39 S39 h39 => ?_)
        obtain ⟨e39, rfl⟩ := h39
        rw [nI_toInt (by omega), if_pos (by omega), show (((t.2.1 + 1 : Nat) : Int).toNat - 1) = t.2.1 from by omega] at e39
        subst e39
        refine pm_goto (tgt := 46) dX6_tellWatchers_42 (by decide) ?_
        show pm_W _ _ _ _ _ _ _ _ _ _ _ _ _ [.ref (Y9.1 (pq t.2.1 0))] _
        refine pm_astn dX6_tellWatchers_46 (i := 3) rfl (by decide) ?_
        dsimp only [List.set]
        refine pm_aload_n dX6_tellWatchers_47 rfl ?_
        refine pm_ifnull_r dX6_tellWatchers_48 ?_
        refine pm_aload_n dX6_tellWatchers_51 rfl ?_
        refine pm_g_Mill_letter (by (try simp only [pm_k_si, pm_k_sj, pm_k_sp, pm_k_sx, pm_k_sz, pm_k_sr, pm_k_sy]); assumption) pm_f_X6_42 (by (try simp only [pm_p_si, pm_p_sj, pm_p_sx, pm_p_sz, pm_p_sr, pm_p_sy]); assumption) dX6_tellWatchers_52 ?_
        refine pm_aload_n dX6_tellWatchers_55 rfl ?_
        refine pm_g_Mill_watches (by (try simp only [pm_k_si, pm_k_sj, pm_k_sp, pm_k_sx, pm_k_sz, pm_k_sr, pm_k_sy]); assumption) pm_f_X6_28 (by (try simp only [pm_p_si, pm_p_sj, pm_p_sx, pm_p_sz, pm_p_sr, pm_p_sy]); assumption) dX6_tellWatchers_56 ?_
        refine pm_g_Watches_numbers (by (try simp only [pm_k_si, pm_k_sj, pm_k_sp, pm_k_sx, pm_k_sz, pm_k_sr, pm_k_sy]); assumption) pm_f_X6_432 (by (try simp only [pm_p_si, pm_p_sj, pm_p_sx, pm_p_sz, pm_p_sr, pm_p_sy]); assumption) dX6_tellWatchers_59 ?_
        refine pm_iload_n dX6_tellWatchers_62 rfl ?_
        refine pm_iaload (n := k) kW1 rfl (by first | omega | (simp only [pm_n_sx, pm_n_si, pm_n_sr, pm_n_sz, pm_n_sp, pm_n_sj, pm_n_sy]; omega)) (by first | omega | (simp only [pm_n_sx, pm_n_si, pm_n_sr, pm_n_sz, pm_n_sp, pm_n_sj, pm_n_sy]; omega)) dX6_tellWatchers_63 ?_
        rw [hw.1]
        refine pm_aload_n dX6_tellWatchers_64 rfl ?_
        refine pm_g_Proc_pid (by (try simp only [pm_k_si, pm_k_sj, pm_k_sp, pm_k_sx, pm_k_sz, pm_k_sr, pm_k_sy]); assumption) pm_f_X6_88 dX6_tellWatchers_65 ?_
        refine pm_aload_n dX6_tellWatchers_68 rfl ?_
        refine pm_g_Proc_reason (by (try simp only [pm_k_si, pm_k_sj, pm_k_sp, pm_k_sx, pm_k_sz, pm_k_sr, pm_k_sy]); assumption) pm_f_X6_145 (by (try simp only [pm_p_si, pm_p_sj, pm_p_sx, pm_p_sz, pm_p_sr, pm_p_sy]); assumption) dX6_tellWatchers_69 ?_
        rw [ppid]
        refine pm_vv (c_X3_setDown G l bs (Y9.1 11) (Y9.1 12) (Y9.1 (pq p 2)) (Y9.1 (pq p 3)) (az_t Z9 1 p 0) (nI t.1) (nI (p + 1)) _ hLt (hx9.ts hp9) (h.pc hp9 (by decide) (by decide)) (h.pc hp9 (by decide) (by decide))) pm_y_X3_setDown pm_v_X3_setDown pm_m_X6_381 (c := 3) (r := (RX3, TX3, 2)) rfl rfl hLt.1 dX6_tellWatchers_72 rfl rfl (by decide) (Nat.le_of_ble_eq_true rfl) (fun S72 h72 => ?_)
        have hx3 := hx9.own (t := 11) (Or.inl rfl) h72.1
        obtain ⟨h_3, hmk_3⟩ := id hx3
        have hA_3 := h_3.2.2.2.2.2.1
        obtain ⟨⟨hk0_3, hr0_3, hr1_3, hr2_3, hr3_3, hr4_3, hr5_3, hr6_3, hr7_3⟩, ⟨hk1_3, hl1_3⟩, ⟨hk2_3, hl2_3⟩, ⟨hk3_3, hl3_3⟩, ⟨hk4_3, hl4_3⟩, hWt_3, hSh_3, hLt_3, hCs_3⟩ := id h_3.2.2.1
        obtain ⟨kW_3, rW1_3, rW2_3, rW3_3, kW1_3, nW1_3, kW2_3, nW2_3, kW3_3, nW3_3, -⟩ := id hWt_3
        have pk3 := (h_3.2.2.2.1 t.2.1 htn.1).1.1
        refine pm_aload_n dX6_tellWatchers_75 rfl ?_
        refine pm_aload_n dX6_tellWatchers_76 rfl ?_
        refine pm_aload_n dX6_tellWatchers_77 rfl ?_
        refine pm_g_Mill_letter (by (try simp only [pm_k_si, pm_k_sj, pm_k_sp, pm_k_sx, pm_k_sz, pm_k_sr, pm_k_sy]); assumption) pm_f_X6_42 (by (try simp only [pm_p_si, pm_p_sj, pm_p_sx, pm_p_sz, pm_p_sr, pm_p_sy]); assumption) dX6_tellWatchers_78 ?_
        have l1 := zLe_comes (Z := Z9) (p := t.2.1) (w := tl_r [-1, 1, 7, -1, 0, nI t.1, -1, 2, nI (p + 1)] (az_t Z9 1 p 0)) htn.1
        have l2 := zLe_tellW ((az_w Z).drop (k + 1)) (zComes Z9 t.2.1 (tl_r [-1, 1, 7, -1, 0, nI t.1, -1, 2, nI (p + 1)] (az_t Z9 1 p 0))) p (fun u hu => by rw [l1.1]; have := hI9.wn u (by rw [hV]; exact List.mem_of_mem_drop hu); exact this)
        rw [hF] at l2
        have l1a := l1.2.1
        have l2a := l2.2.1
        refine pm_vik (kc2 := (zU F - zU (zComes Z9 t.2.1 (tl_r [-1, 1, 7, -1, 0, nI t.1, -1, 2, nI (p + 1)] (az_t Z9 1 p 0))))) (ks2 := (49 * (zU F - zU (zComes Z9 t.2.1 (tl_r [-1, 1, 7, -1, 0, nI t.1, -1, 2, nI (p + 1)] (az_t Z9 1 p 0)))))) (c_X6_deliver G l bs Z9 Y9 E t.2.1 (Y9.1 11) (Y9.1 12) _ S72 hx3 hn htn.1 hI9.sm (hI9.2.2.1 t.2.1 htn.1).2 h72.2) pm_y_X6_deliver pm_v_X6_deliver pm_m_X6_99 (c := 6) (r := (RX6, TX6, 16)) rfl rfl (by (try simp only [pm_k_si, pm_k_sj, pm_k_sp, pm_k_sx, pm_k_sz, pm_k_sr, pm_k_sy]); assumption) dX6_tellWatchers_81 rfl rfl (by decide) (Nat.le_of_ble_eq_true rfl) (by omega) (by omega) (fun x81 S81 h81 => ?_)
        obtain ⟨Y2, hle2, hx4, -⟩ := h81
        have hI4 := hI9.comes htn.1 (tl_r_wf2 (m := nI t.1) (hI9.rs hp9) hp9 hn)
        rw [← hle2.c (c := 0) (by decide), ← hle2.p (p := p) (c := 0) hp9 (by decide)]
        refine pm_pop dX6_tellWatchers_84 ?_
        refine pm_iinc dX6_tellWatchers_85 rfl rfl (by decide) ?_
        dsimp only [List.set]
        refine pm_goto (tgt := 2) dX6_tellWatchers_88 (by decide) ?_
        rw [show nI k + Int32.ofInt 1 = nI (k + 1) from nI_1 _]
        exact ih m (by omega) (k + 1) _ Y2 _ _ (by omega) (by rw [l1.1]; exact hnn) hI4 ((zComes_w _ _ _).trans hV) (hle9.tr (Nat.le_of_eq hnn.symm) hle2) hx4 hF
  refine pm_iconst (v := 0) dX6_tellWatchers_0 (by decide) ?_
  refine pm_istn dX6_tellWatchers_1 (i := 2) rfl (by decide) ?_
  dsimp only [List.set]
  exact loop (az_w Z).length 0 Z Y S _ (by omega) rfl hI rfl yLe.rf hx hF

set_option maxHeartbeats 4000000 in
set_option maxRecDepth 100000 in
theorem c_X6_spreadDeaths (G : pm_G) (l : Launch) (bs : Nat) (Z : az) (Y : pm_Y) (E : pm_S) (s : Nat) (F : az) (S : pm_S) (hx : pm_CX Z S Y E) (hI : zI s Z) (hF : zSpread 60 Z = F) : pm_M G l bs yX6_spreadDeaths cX6_spreadDeaths 3 none 6 (zU F - zU Z) (49 * (zU F - zU Z)) [.ref (Y.1 0)] S (pm_qv (fun S2 => ∃ Y2, yLe (az_a Z 0) Y Y2 ∧ pm_CX F S2 Y2 E)) := by
  refine pm_Mv (L := [.ref (Y.1 0), pm_u, pm_u]) false (by decide +kernel) (fun h => by cases h) rfl (pm_en_1 rfl (pm_en_0 rfl)) ?_
  generalize hQ9 : pm_xv (fun S2 => ∃ Y2, yLe (az_a Z 0) Y Y2 ∧ pm_CX F S2 Y2 E) = Q9
  have loop : ∀ (m k : Nat) (Z9 : az) (Y9 : pm_Y) (S9 : pm_S) (v3 : Value), k + m = 60 → az_a Z9 0 = az_a Z 0 → zI s Z9 → yLe (az_a Z 0) Y Y9 → pm_CX Z9 S9 Y9 E → zSpread m Z9 = F → pm_W G l bs yX6_spreadDeaths.cls cX6_spreadDeaths 3 false 6 (zU F - zU Z9) (49 * (zU F - zU Z9)) Q9 2 [.ref (Y9.1 0), .int (nI k), v3] [] S9 := by
    intro m
    induction m using Nat.strongRecOn with
    | ind m ih =>
    intro k Z9 Y9 S9 v3 hkm hnn hI9 hle9 hx9 hF
    have hn := hI9.1
    have hd1 : az_a Z9 1 ≤ 60 := by have := hI9.2.2.2.2.1.1; have := zCnt_le Z9 2 (az_a Z9 0); omega
    have hd2 := hI9.2.2.2.2.1.2.1
    obtain ⟨h, hmk⟩ := id hx9
    have hA := h.2.2.2.2.2.1
    obtain ⟨⟨hk0, hr0, hr1, hr2, hr3, hr4, hr5, hr6, hr7⟩, ⟨hk1, hl1⟩, ⟨hk2, hl2⟩, ⟨hk3, hl3⟩, ⟨hk4, hl4⟩, hWt, hSh, hLt, hCs⟩ := id h.2.2.1
    obtain ⟨kW, rW1, rW2, rW3, kW1, nW1, kW2, nW2, kW3, nW3, -⟩ := id hWt
    refine pm_iload_n dX6_spreadDeaths_2 rfl ?_
    refine pm_bipush (v := 60) dX6_spreadDeaths_3 (by decide) ?_
    refine pm_icmp_ge (tgt := 55) dX6_spreadDeaths_5 (by decide) (fun h5 => ?_) (fun h5 => ?_)
    · skip
      have h8 : k = 60 := by have := (pm_nle (a := 60) (b := k) (by omega) (by omega)).mp h5; omega
      obtain rfl : m = 0 := by omega
      have hE : Z9 = F := hF
      subst hQ9
      refine pm_vret dX6_spreadDeaths_55 ?_
      exact ⟨Y9, hle9, by rw [← hE]; exact hx9⟩
    · skip
      have h8 : k < 60 := by rcases Nat.lt_or_ge k 60 with q | q; exact q; exact absurd ((pm_nle (a := 60) (b := k) (by omega) (by omega)).mpr q) h5
      obtain ⟨m, rfl⟩ : ∃ m2, m = m2 + 1 := ⟨m - 1, by omega⟩
      rw [zSpread] at hF
      refine pm_aload_n dX6_spreadDeaths_8 rfl ?_
      refine pm_g_Mill_deathsSpread (by (try simp only [pm_k_si, pm_k_sj, pm_k_sp, pm_k_sx, pm_k_sz, pm_k_sr, pm_k_sy]); assumption) pm_f_X6_56 dX6_spreadDeaths_9 ?_
      refine pm_aload_n dX6_spreadDeaths_12 rfl ?_
      refine pm_g_Mill_deaths (by (try simp only [pm_k_si, pm_k_sj, pm_k_sp, pm_k_sx, pm_k_sz, pm_k_sr, pm_k_sy]); assumption) pm_f_X6_53 dX6_spreadDeaths_13 ?_
      rw [hA 310 0 2 rfl, hA 309 0 1 rfl]
      refine pm_icmp_ge (tgt := 55) dX6_spreadDeaths_16 (by decide) (fun h16 => ?_) (fun h16 => ?_)
      · skip
        have h6 : ¬ az_a Z9 2 < az_a Z9 1 := by have := (pm_nle (by omega) (by omega)).mp h16; omega
        rw [if_neg h6] at hF
        have hE : Z9 = F := hF
        subst hQ9
        refine pm_vret dX6_spreadDeaths_55 ?_
        exact ⟨Y9, hle9, by rw [← hE]; exact hx9⟩
      · skip
        have h6 : az_a Z9 2 < az_a Z9 1 := by rcases Nat.lt_or_ge (az_a Z9 2) (az_a Z9 1) with q | q; exact q; exact absurd ((pm_nle (by omega) (by omega)).mpr q) h16
        rw [if_pos h6] at hF
        have hd := (hI9.2.2.2.2.1.2.2 _ h6).1
        have hz := h.2.2.2.2.2.2.2.2.2.2.2.1.2 _ h6
        refine pm_aload_n dX6_spreadDeaths_19 rfl ?_
        refine pm_g_Mill_dying (by (try simp only [pm_k_si, pm_k_sj, pm_k_sp, pm_k_sx, pm_k_sz, pm_k_sr, pm_k_sy]); assumption) pm_f_X6_22 (by (try simp only [pm_p_si, pm_p_sj, pm_p_sx, pm_p_sz, pm_p_sr, pm_p_sy]); assumption) dX6_spreadDeaths_20 ?_
        refine pm_aload_n dX6_spreadDeaths_23 rfl ?_
        refine pm_g_Mill_deathsSpread (by (try simp only [pm_k_si, pm_k_sj, pm_k_sp, pm_k_sx, pm_k_sz, pm_k_sr, pm_k_sy]); assumption) pm_f_X6_56 dX6_spreadDeaths_24 ?_
        refine pm_aaloadP (n := az_a Z9 2) (by (try simp only [pm_k_si, pm_k_sj, pm_k_sp, pm_k_sx, pm_k_sz, pm_k_sr, pm_k_sy]); assumption) (hA 310 0 2 rfl) (by first | omega | (simp only [pm_n_sx, pm_n_si, pm_n_sr, pm_n_sz, pm_n_sp, pm_n_sj, pm_n_sy]; omega)) (by first | omega | (simp only [pm_n_sx, pm_n_si, pm_n_sr, pm_n_sz, pm_n_sp, pm_n_sj, pm_n_sy]; omega)) dX6_spreadDeaths_27 ?_
        rw [hz]
        show pm_W _ _ _ _ _ _ _ _ _ _ _ _ _ [.ref (Y9.1 (pq (az_c Z9 3 0 (az_a Z9 2)) 0))] S9
        refine pm_astn dX6_spreadDeaths_28 (i := 2) rfl (by decide) ?_
        dsimp only [List.set]
        refine pm_aload_n dX6_spreadDeaths_29 rfl ?_
        refine pm_dup dX6_spreadDeaths_30 ?_
        refine pm_g_Mill_deathsSpread (by (try simp only [pm_k_si, pm_k_sj, pm_k_sp, pm_k_sx, pm_k_sz, pm_k_sr, pm_k_sy]); assumption) pm_f_X6_56 dX6_spreadDeaths_31 ?_
        refine pm_iconst (v := 1) dX6_spreadDeaths_34 (by decide) ?_
        refine pm_iadd dX6_spreadDeaths_35 ?_
        rw [hA 310 0 2 rfl, nI_1]
        refine pm_p_Mill_deathsSpread (by (try simp only [pm_k_si, pm_k_sj, pm_k_sp, pm_k_sx, pm_k_sz, pm_k_sr, pm_k_sy]); assumption) pm_f_X6_56 dX6_spreadDeaths_36 ?_
        have hx1 : pm_CX (zs_a Z9 2 (az_a Z9 2 + 1)) (pm_si S9 310 (Y9.1 0) (nI (az_a Z9 2 + 1))) Y9 E := hx9.lift (h.a (f := 310) (i := 2) (c := 0) rfl (by decide)) rfl (fun _ => rfl)
        have hI1 := hI9.a2 h6
        generalize pm_si S9 310 (Y9.1 0) (nI (az_a Z9 2 + 1)) = S10 at hx1 ⊢
        have e1 : zU (zs_a Z9 2 (az_a Z9 2 + 1)) = zU Z9 := zU_eq rfl (fun _ _ => rfl)
        have l1 := zLe_tellL (az_a Z9 0) (zs_a Z9 2 (az_a Z9 2 + 1)) (az_c Z9 3 0 (az_a Z9 2)) 0 (by show 0 + az_a Z9 0 ≤ az_a Z9 0; omega)
        have hI2 := zI.tellL (az_a Z9 0) (zs_a Z9 2 (az_a Z9 2 + 1)) (az_c Z9 3 0 (az_a Z9 2)) 0 hI1 hd (by show 0 + az_a Z9 0 ≤ az_a Z9 0; omega)
        have l2 := zLe_tellW (az_w (zTellL (az_a Z9 0) (zs_a Z9 2 (az_a Z9 2 + 1)) (az_c Z9 3 0 (az_a Z9 2)) 0)) (zTellL (az_a Z9 0) (zs_a Z9 2 (az_a Z9 2 + 1)) (az_c Z9 3 0 (az_a Z9 2)) 0) (az_c Z9 3 0 (az_a Z9 2)) hI2.wn
        have hI3 := (hI1.tell (p := (az_c Z9 3 0 (az_a Z9 2))) hd)
        have l4 := (zI.spread m (zTell (zs_a Z9 2 (az_a Z9 2 + 1)) (az_c Z9 3 0 (az_a Z9 2))) hI3.1).2
        rw [hF] at l4
        have e3 : zU (zTell (zs_a Z9 2 (az_a Z9 2 + 1)) (az_c Z9 3 0 (az_a Z9 2))) = zU (zTellW (az_w (zTellL (az_a Z9 0) (zs_a Z9 2 (az_a Z9 2 + 1)) (az_c Z9 3 0 (az_a Z9 2)) 0)) (zTellL (az_a Z9 0) (zs_a Z9 2 (az_a Z9 2 + 1)) (az_c Z9 3 0 (az_a Z9 2)) 0) (az_c Z9 3 0 (az_a Z9 2))) := zU_eq rfl (fun _ _ => rfl)
        have l1a := l1.2.1
        have l2a := l2.2.1
        have l4a := l4.2.1
        have kM1 := hx1.1.2.2.1.1.1
        refine pm_aload_n dX6_spreadDeaths_39 rfl ?_
        refine pm_aload_n dX6_spreadDeaths_40 rfl ?_
        refine pm_vvk (kc2 := (zU F - zU (zTellL (az_a Z9 0) (zs_a Z9 2 (az_a Z9 2 + 1)) (az_c Z9 3 0 (az_a Z9 2)) 0))) (ks2 := (49 * (zU F - zU (zTellL (az_a Z9 0) (zs_a Z9 2 (az_a Z9 2 + 1)) (az_c Z9 3 0 (az_a Z9 2)) 0)))) (c_X6_tellLinked G l bs (zs_a Z9 2 (az_a Z9 2 + 1)) Y9 E s (az_c Z9 3 0 (az_a Z9 2)) (zTellL (az_a Z9 0) (zs_a Z9 2 (az_a Z9 2 + 1)) (az_c Z9 3 0 (az_a Z9 2)) 0) S10 hx1 hI1 hd rfl) pm_y_X6_tellLinked pm_v_X6_tellLinked pm_m_X6_413 (c := 6) (r := (RX6, TX6, 16)) rfl rfl (by (try simp only [pm_k_si, pm_k_sj, pm_k_sp, pm_k_sx, pm_k_sz, pm_k_sr, pm_k_sy]); assumption) dX6_spreadDeaths_41 rfl rfl (by decide) (Nat.le_of_ble_eq_true rfl) (by omega) (by omega) (fun S41 h41 => ?_)
        obtain ⟨Y2, hle2, hx2⟩ := h41
        rw [← hle2.c (c := 0) (by decide), ← hle2.p (p := (az_c Z9 3 0 (az_a Z9 2))) (c := 0) hd (by decide)]
        have kM2 := hx2.1.2.2.1.1.1
        refine pm_aload_n dX6_spreadDeaths_44 rfl ?_
        refine pm_aload_n dX6_spreadDeaths_45 rfl ?_
        refine pm_vvk (kc2 := (zU F - zU (zTell (zs_a Z9 2 (az_a Z9 2 + 1)) (az_c Z9 3 0 (az_a Z9 2))))) (ks2 := (49 * (zU F - zU (zTell (zs_a Z9 2 (az_a Z9 2 + 1)) (az_c Z9 3 0 (az_a Z9 2)))))) (c_X6_tellWatchers G l bs (zTellL (az_a Z9 0) (zs_a Z9 2 (az_a Z9 2 + 1)) (az_c Z9 3 0 (az_a Z9 2)) 0) Y2 E s (az_c Z9 3 0 (az_a Z9 2)) (zTellW (az_w (zTellL (az_a Z9 0) (zs_a Z9 2 (az_a Z9 2 + 1)) (az_c Z9 3 0 (az_a Z9 2)) 0)) (zTellL (az_a Z9 0) (zs_a Z9 2 (az_a Z9 2 + 1)) (az_c Z9 3 0 (az_a Z9 2)) 0) (az_c Z9 3 0 (az_a Z9 2))) S41 hx2 hI2 (by rw [l1.1]; exact hd) rfl) pm_y_X6_tellWatchers pm_v_X6_tellWatchers pm_m_X6_416 (c := 6) (r := (RX6, TX6, 16)) rfl rfl (by (try simp only [pm_k_si, pm_k_sj, pm_k_sp, pm_k_sx, pm_k_sz, pm_k_sr, pm_k_sy]); assumption) dX6_spreadDeaths_46 rfl rfl (by decide) (Nat.le_of_ble_eq_true rfl) (by omega) (by omega) (fun S46 h46 => ?_)
        obtain ⟨Y3, hle3, hx3⟩ := h46
        rw [← hle3.c (c := 0) (by decide)]
        refine pm_iinc dX6_spreadDeaths_49 rfl rfl (by decide) ?_
        dsimp only [List.set]
        refine pm_goto (tgt := 2) dX6_spreadDeaths_52 (by decide) ?_
        rw [show nI k + Int32.ofInt 1 = nI (k + 1) from nI_1 _]
        exact ih m (by omega) (k + 1) _ Y3 _ _ (by omega) (hI3.2.1.trans hnn) hI3.1 (hle9.tr (Nat.le_of_eq hnn.symm) (hle2.tr (Nat.le_of_eq l1.1.symm) hle3)) hx3 hF
  refine pm_iconst (v := 0) dX6_spreadDeaths_0 (by decide) ?_
  refine pm_istn dX6_spreadDeaths_1 (i := 1) rfl (by decide) ?_
  dsimp only [List.set]
  exact loop 60 0 Z Y S _ (by omega) rfl hI yLe.rf hx hF

