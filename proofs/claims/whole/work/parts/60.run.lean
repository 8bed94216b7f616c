/-! ProcessMill: slices, runs, passing time -/
theorem pm_e0 {n : Nat} (hn : n < 2 ^ 31) : nI n = 0 ↔ n = 0 := by rw [show (0 : Int32) = nI 0 from rfl, nI_eq hn (by omega)]
theorem zTurn_12 (Z : az) (p q : Nat) : az_b (zTurn Z p) 12 q = az_b Z 12 q := by unfold zTurn; rw [z_b_a, z_b_bne (by decide)]
theorem zTurn_U (Z : az) (p : Nat) : zU (zTurn Z p) = zU Z := zU_eq rfl (fun q _ => zTurn_12 Z p q)
theorem zSlice_U (Z : az) (p : Nat) : zU (zSlice Z p) = zU (zWords 12 (zs_a Z 4 (az_a Z 4 + 1)) p) := by
  unfold zSlice
  dsimp only
  split
  · exact zTurn_U _ _
  · rfl
theorem pm_CX.tick {Z : az} {S E : pm_S} {Y : pm_Y} {p : Nat} (hx : pm_CX Z S Y E) (hn : az_a Z 0 ≤ 60) (hp : p < az_a Z 0) : pm_CX (zTick Z p) (pm_si (pm_si (pm_si S 57 (Y.1 (pq p 0)) (nI ((az_b Z 2 p + 1) % 300))) 65 (Y.1 (pq p 0)) (nI (az_b Z 6 p + 1))) 313 (Y.1 0) (nI (az_a Z 5 + 1))) Y E := by
  have h1 := hx.1.b (p := p) (f := 57) (c := 0) (i := 2) (v := (az_b Z 2 p + 1) % 300) hn hp rfl
  have h2 := h1.b (p := p) (f := 65) (c := 0) (i := 6) (v := az_b Z 6 p + 1) hn hp rfl
  have h3 := h2.a (f := 313) (i := 5) (c := 0) (v := az_a Z 5 + 1) rfl (by decide)
  exact hx.lift h3 rfl (fun q => by unfold zTick; rw [z_b_a, z_b_bne (by decide), z_b_bne (by decide)])
set_option maxHeartbeats 4000000 in
set_option maxRecDepth 100000 in
theorem c_X6_doSlice (G : pm_G) (l : Launch) (bs : Nat) (Z : az) (Y : pm_Y) (E : pm_S) (s : Nat) (p : Nat) (F : az) (S : pm_S) (hx : pm_CX Z S Y E) (hI : zI s Z) (hp : p < az_a Z 0) (hO : zOps Z) (h5 : az_a Z 5 + 12 < 16777216) (h4 : az_a Z 4 + 1 < 1048576) (hF : zWords 12 (zs_a Z 4 (az_a Z 4 + 1)) p = F) : pm_M G l bs yX6_doSlice cX6_doSlice 5 none 7 (zU F - zU Z) (49 * (zU F - zU Z)) [.ref (Y.1 0), .ref (Y.1 (pq p 0))] S (pm_qv (fun S2 => ∃ Y2, yLe (az_a Z 0) Y Y2 ∧ pm_CX (if az_b F 1 p = 0 then zTurn F p else F) S2 Y2 E)) := by
  obtain ⟨h, hmk⟩ := id hx
  have hA := h.2.2.2.2.2.1
  obtain ⟨⟨hk0, hr0, hr1, hr2, hr3, hr4, hr5, hr6, hr7⟩, ⟨hk1, hl1⟩, ⟨hk2, hl2⟩, ⟨hk3, hl3⟩, ⟨hk4, hl4⟩, hWt, hSh, hLt, hCs⟩ := id h.2.2.1
  obtain ⟨kW, rW1, rW2, rW3, kW1, nW1, kW2, nW2, kW3, nW3, -⟩ := id hWt
  refine pm_Mv (L := [.ref (Y.1 0), .ref (Y.1 (pq p 0)), pm_u, pm_u, pm_u]) false (by decide +kernel) (fun h => by cases h) rfl (pm_en_1 rfl (pm_en_1 rfl (pm_en_0 rfl))) ?_
  generalize hQ9 : pm_xv (fun S2 => ∃ Y2, yLe (az_a Z 0) Y Y2 ∧ pm_CX (if az_b F 1 p = 0 then zTurn F p else F) S2 Y2 E) = Q9
  have loop : ∀ (m k : Nat) (Z9 : az) (Y9 : pm_Y) (S9 : pm_S) (v3 v4 : Value), k + m = 12 → az_a Z 0 ≤ az_a Z9 0 → zI s Z9 → zOps Z9 → az_a Z9 5 + m < 16777216 → yLe (az_a Z 0) Y Y9 → pm_CX Z9 S9 Y9 E → zWords m Z9 p = F → pm_W G l bs yX6_doSlice.cls cX6_doSlice 5 false 7 (zU F - zU Z9) (49 * (zU F - zU Z9)) Q9 12 [.ref (Y9.1 0), .ref (Y9.1 (pq p 0)), .int (nI k), v3, v4] [] S9 := by
    intro m
    induction m using Nat.strongRecOn with
    | ind m ih =>
    intro k Z9 Y9 S9 v3 v4 hkm hnn hI9 hO9 h5 hle9 hx9 hF
    have hp9 : p < az_a Z9 0 := by omega
    have hn := hI9.1
    have hsm := hI9.sm
    obtain ⟨h, hmk⟩ := id hx9
    have hA := h.2.2.2.2.2.1
    obtain ⟨⟨hk0, hr0, hr1, hr2, hr3, hr4, hr5, hr6, hr7⟩, ⟨hk1, hl1⟩, ⟨hk2, hl2⟩, ⟨hk3, hl3⟩, ⟨hk4, hl4⟩, hWt, hSh, hLt, hCs⟩ := id h.2.2.1
    obtain ⟨kW, rW1, rW2, rW3, kW1, nW1, kW2, nW2, kW3, nW3, -⟩ := id hWt
    have hB := h.2.2.2.2.1 p hp9
    obtain ⟨⟨pk0, pr1, pr2, pr4, pr6, ppid⟩, ⟨pk1, pn1, pz1⟩, hmb, hts⟩ := id (h.2.2.2.1 p hp9)
    refine pm_iload_n dX6_doSlice_12 rfl ?_
    refine pm_bipush (v := 12) dX6_doSlice_13 (by decide) ?_
    refine pm_icmp_ge (tgt := 138) dX6_doSlice_15 (by decide) (fun h15 => ?_) (fun h15 => ?_)
    · skip
      have h8 : k = 12 := by have := (pm_nle (a := 12) (b := k) (by omega) (by omega)).mp h15; omega
      obtain rfl : m = 0 := by omega
      have hE : Z9 = F := hF
      refine pm_aload_n dX6_doSlice_138 rfl ?_
      refine pm_g_Proc_state (by (try simp only [pm_k_si, pm_k_sj, pm_k_sp, pm_k_sx, pm_k_sz, pm_k_sr, pm_k_sy]); assumption) pm_f_X6_142 dX6_doSlice_139 ?_
      rw [hB 56 0 1 rfl]
      refine pm_if_ne (tgt := 150) dX6_doSlice_142 (by decide) (fun h142 => ?_) (fun h142 => ?_)
      · skip
        have h7 : ¬ az_b Z9 1 p = 0 := fun z => h142 ((pm_e0 (hsm p hp9 1 (by decide))).mpr z)
        subst hQ9
        refine pm_vret dX6_doSlice_150 ?_
        rw [← hE]
        first
        | exact ⟨Y9, hle9, by rw [if_neg h7]; exact hx9⟩
        | exact ⟨Y9, hle9, by rw [if_pos h7]; exact hx9.lift h147 rfl (fun q => zTurn_12 Z9 p q)⟩
      · skip
        have h7 : az_b Z9 1 p = 0 := (pm_e0 (hsm p hp9 1 (by decide))).mp h142
        refine pm_aload_n dX6_doSlice_145 rfl ?_
        refine pm_aload_n dX6_doSlice_146 rfl ?_
        refine pm_vv (c_X6_takeLastTurn G l bs Z9 Y9 E p _ h hn hp9) pm_y_X6_takeLastTurn pm_v_X6_takeLastTurn pm_m_X6_184 (c := 6) (r := (RX6, TX6, 16)) rfl rfl (by (try simp only [pm_k_si, pm_k_sj, pm_k_sp, pm_k_sx, pm_k_sz, pm_k_sr, pm_k_sy]); assumption) dX6_doSlice_147 rfl rfl (by decide) (Nat.le_of_ble_eq_true rfl) (fun S147 h147 => ?_)
        subst hQ9
        refine pm_vret dX6_doSlice_150 ?_
        rw [← hE]
        first
        | exact ⟨Y9, hle9, by rw [if_neg h7]; exact hx9⟩
        | exact ⟨Y9, hle9, by rw [if_pos h7]; exact hx9.lift h147 rfl (fun q => zTurn_12 Z9 p q)⟩
    · skip
      have h8 : k < 12 := by rcases Nat.lt_or_ge k 12 with q | q; exact q; exact absurd ((pm_nle (a := 12) (b := k) (by omega) (by omega)).mpr q) h15
      obtain ⟨m, rfl⟩ : ∃ m2, m = m2 + 1 := ⟨m - 1, by omega⟩
      rw [zWords] at hF
      refine pm_aload_n dX6_doSlice_18 rfl ?_
      refine pm_g_Proc_state (by (try simp only [pm_k_si, pm_k_sj, pm_k_sp, pm_k_sx, pm_k_sz, pm_k_sr, pm_k_sy]); assumption) pm_f_X6_142 dX6_doSlice_19 ?_
      rw [hB 56 0 1 rfl]
      refine pm_if_ne (tgt := 138) dX6_doSlice_22 (by decide) (fun h22 => ?_) (fun h22 => ?_)
      · skip
        have h6 : ¬ az_b Z9 1 p = 0 := fun z => h22 ((pm_e0 (hsm p hp9 1 (by decide))).mpr z)
        rw [if_neg h6] at hF
        have hE : Z9 = F := hF
        refine pm_aload_n dX6_doSlice_138 rfl ?_
        refine pm_g_Proc_state (by (try simp only [pm_k_si, pm_k_sj, pm_k_sp, pm_k_sx, pm_k_sz, pm_k_sr, pm_k_sy]); assumption) pm_f_X6_142 dX6_doSlice_139 ?_
        rw [hB 56 0 1 rfl]
        refine pm_if_ne (tgt := 150) dX6_doSlice_142 (by decide) (fun h142 => ?_) (fun h142 => ?_)
        · skip
          have h7 : ¬ az_b Z9 1 p = 0 := fun z => h142 ((pm_e0 (hsm p hp9 1 (by decide))).mpr z)
          subst hQ9
          refine pm_vret dX6_doSlice_150 ?_
          rw [← hE]
          first
          | exact ⟨Y9, hle9, by rw [if_neg h7]; exact hx9⟩
          | exact ⟨Y9, hle9, by rw [if_pos h7]; exact hx9.lift h147 rfl (fun q => zTurn_12 Z9 p q)⟩
        · skip
          have h7 : az_b Z9 1 p = 0 := (pm_e0 (hsm p hp9 1 (by decide))).mp h142
          refine pm_aload_n dX6_doSlice_145 rfl ?_
          refine pm_aload_n dX6_doSlice_146 rfl ?_
          refine pm_vv (c_X6_takeLastTurn G l bs Z9 Y9 E p _ h hn hp9) pm_y_X6_takeLastTurn pm_v_X6_takeLastTurn pm_m_X6_184 (c := 6) (r := (RX6, TX6, 16)) rfl rfl (by (try simp only [pm_k_si, pm_k_sj, pm_k_sp, pm_k_sx, pm_k_sz, pm_k_sr, pm_k_sy]); assumption) dX6_doSlice_147 rfl rfl (by decide) (Nat.le_of_ble_eq_true rfl) (fun S147 h147 => ?_)
          subst hQ9
          refine pm_vret dX6_doSlice_150 ?_
          rw [← hE]
          first
          | exact ⟨Y9, hle9, by rw [if_neg h7]; exact hx9⟩
          | exact ⟨Y9, hle9, by rw [if_pos h7]; exact hx9.lift h147 rfl (fun q => zTurn_12 Z9 p q)⟩
      · skip
        have h6 : az_b Z9 1 p = 0 := (pm_e0 (hsm p hp9 1 (by decide))).mp h22
        rw [if_pos h6] at hF
        have b2 : az_b Z9 2 p ≤ 299 := hI9.b hp9 2
        refine pm_aload_n dX6_doSlice_25 rfl ?_
        refine pm_g_Proc_at (by (try simp only [pm_k_si, pm_k_sj, pm_k_sp, pm_k_sx, pm_k_sz, pm_k_sr, pm_k_sy]); assumption) pm_f_X6_175 dX6_doSlice_26 ?_
        refine pm_iconst (v := 4) dX6_doSlice_29 (by decide) ?_
        rw [hB 57 0 2 rfl]
        refine pm_imul dX6_doSlice_30 ?_
        have hw4 : nI (az_b Z9 2 p) * 4 = nI (4 * az_b Z9 2 p) := by rw [show (4 : Int32) = nI 4 from rfl, pk_mul, Nat.mul_comm]
        rw [hw4]
        refine pm_istn dX6_doSlice_31 (i := 3) rfl (by decide) ?_
        dsimp only [List.set]
        refine pm_aload_n dX6_doSlice_32 rfl ?_
        refine pm_aload_n dX6_doSlice_33 rfl ?_
        refine pm_g_Proc_at (by (try simp only [pm_k_si, pm_k_sj, pm_k_sp, pm_k_sx, pm_k_sz, pm_k_sr, pm_k_sy]); assumption) pm_f_X6_175 dX6_doSlice_34 ?_
        refine pm_iconst (v := 1) dX6_doSlice_37 (by decide) ?_
        refine pm_iadd dX6_doSlice_38 ?_
        rw [hB 57 0 2 rfl, nI_1]
        refine pm_ssi (c_X6_place G l bs (nI (az_b Z9 2 p + 1)) _) pm_y_X6_place pm_s_X6_place pm_m_X6_194 dX6_doSlice_39 rfl rfl (by decide) (Nat.le_of_ble_eq_true rfl) (fun x39 S39 h39 => ?_)
        obtain ⟨rfl, rfl⟩ := h39
        rw [pm_mod_n (by decide) (by omega)]
        refine pm_p_Proc_at (by (try simp only [pm_k_si, pm_k_sj, pm_k_sp, pm_k_sx, pm_k_sz, pm_k_sr, pm_k_sy]); assumption) pm_f_X6_175 dX6_doSlice_42 ?_
        refine pm_aload_n dX6_doSlice_45 rfl ?_
        refine pm_dup dX6_doSlice_46 ?_
        refine pm_g_Proc_wordsDone (by (try simp only [pm_k_si, pm_k_sj, pm_k_sp, pm_k_sx, pm_k_sz, pm_k_sr, pm_k_sy]); assumption) pm_f_X6_197 dX6_doSlice_47 ?_
        refine pm_iconst (v := 1) dX6_doSlice_50 (by decide) ?_
        refine pm_iadd dX6_doSlice_51 ?_
        rw [show pm_i (pm_si S39 57 (Y9.1 (pq p 0)) (nI ((az_b Z9 2 p + 1) % 300))) 65 (Y9.1 (pq p 0)) = nI (az_b Z9 6 p) from by rw [pm_i_si, if_neg (fun z => by cases z.1)]; exact hB 65 0 6 rfl, nI_1]
        refine pm_p_Proc_wordsDone (by (try simp only [pm_k_si, pm_k_sj, pm_k_sp, pm_k_sx, pm_k_sz, pm_k_sr, pm_k_sy]); assumption) pm_f_X6_197 dX6_doSlice_52 ?_
        refine pm_aload_n dX6_doSlice_55 rfl ?_
        refine pm_dup dX6_doSlice_56 ?_
        refine pm_g_Mill_wordsDone (by (try simp only [pm_k_si, pm_k_sj, pm_k_sp, pm_k_sx, pm_k_sz, pm_k_sr, pm_k_sy]); assumption) pm_f_X6_65 dX6_doSlice_57 ?_
        refine pm_iconst (v := 1) dX6_doSlice_60 (by decide) ?_
        refine pm_iadd dX6_doSlice_61 ?_
        rw [show pm_i (pm_si (pm_si S39 57 (Y9.1 (pq p 0)) (nI ((az_b Z9 2 p + 1) % 300))) 65 (Y9.1 (pq p 0)) (nI (az_b Z9 6 p + 1))) 313 (Y9.1 0) = nI (az_a Z9 5) from by rw [pm_i_si, if_neg (fun z => by cases z.1), pm_i_si, if_neg (fun z => by cases z.1)]; exact hA 313 0 5 rfl, nI_1]
        refine pm_p_Mill_wordsDone (by (try simp only [pm_k_si, pm_k_sj, pm_k_sp, pm_k_sx, pm_k_sz, pm_k_sr, pm_k_sy]); assumption) pm_f_X6_65 dX6_doSlice_62 ?_
        have hxt := hx9.tick hn hp9
        generalize pm_si (pm_si (pm_si S39 57 (Y9.1 (pq p 0)) (nI ((az_b Z9 2 p + 1) % 300))) 65 (Y9.1 (pq p 0)) (nI (az_b Z9 6 p + 1))) 313 (Y9.1 0) (nI (az_a Z9 5 + 1)) = S63 at hxt ⊢
        obtain ⟨h_t, hmk_t⟩ := id hxt
        have hA_t := h_t.2.2.2.2.2.1
        obtain ⟨⟨hk0_t, hr0_t, hr1_t, hr2_t, hr3_t, hr4_t, hr5_t, hr6_t, hr7_t⟩, ⟨hk1_t, hl1_t⟩, ⟨hk2_t, hl2_t⟩, ⟨hk3_t, hl3_t⟩, ⟨hk4_t, hl4_t⟩, hWt_t, hSh_t, hLt_t, hCs_t⟩ := id h_t.2.2.1
        obtain ⟨kW_t, rW1_t, rW2_t, rW3_t, kW1_t, nW1_t, kW2_t, nW2_t, kW3_t, nW3_t, -⟩ := id hWt_t
        obtain ⟨n9, hn9, en9⟩ := hO9 (az_b Z9 2 p) (by omega)
        have hIt := (hI9.tick (p := p) (by omega)).1
        have h0t : az_b (zTick Z9 p) 1 p = 0 := (zTick_1 Z9 p p).trans h6
        have hpt : p < az_a (zTick Z9 p) 0 := hp9
        obtain ⟨hIw, hLw⟩ := hI9.wd hp9 h6 (by omega)
        have eW : zWord (zTick Z9 p) p n9 (az_x Z9 0 (4 * az_b Z9 2 p + 1)) (az_x Z9 0 (4 * az_b Z9 2 p + 2)) (az_x Z9 0 (4 * az_b Z9 2 p + 3)) = zWd Z9 p := by unfold zWd; rw [en9, nI_toInt (by omega), Int.toNat_natCast]
        have u1 := zTick_U Z9 p
        have u2 := hLw.2.1
        have u3 := (zI.spread 60 (zWd Z9 p) hIw).2
        have u3a := u3.2.1
        have hIs := hI9.step hp9 h6 (by omega)
        have u4 := (zI.words m (zStep Z9 p) p hIs.1 (by omega) (by omega)).2.2.1
        rw [hF] at u4
        rw [← zStep_eq] at u3a
        have k1t : pm_k S63 (Y9.1 1) = 9 := hk1_t
        refine pm_aload_n dX6_doSlice_65 rfl ?_
        refine pm_aload_n dX6_doSlice_66 rfl ?_
        refine pm_aload_n dX6_doSlice_67 rfl ?_
        refine pm_g_Mill_program (by (try simp only [pm_k_si, pm_k_sj, pm_k_sp, pm_k_sx, pm_k_sz, pm_k_sr, pm_k_sy]); assumption) pm_f_X6_9 (by (try simp only [pm_p_si, pm_p_sj, pm_p_sx, pm_p_sz, pm_p_sr, pm_p_sy]); assumption) dX6_doSlice_68 ?_
        refine pm_iload_n dX6_doSlice_71 rfl ?_
        refine pm_iaload (n := (4 * (az_b Z9 2 p))) hk1_t rfl (by rw [hl1_t]; omega) (by rw [hl1_t]; decide) dX6_doSlice_72 ?_
        rw [h_t.2.2.2.2.2.2.2.2.1.1 (4 * az_b Z9 2 p) (by omega), show az_x (zTick Z9 p) 0 (4 * az_b Z9 2 p) = nI n9 from en9]
        refine pm_aload_n dX6_doSlice_73 rfl ?_
        refine pm_g_Mill_program (by (try simp only [pm_k_si, pm_k_sj, pm_k_sp, pm_k_sx, pm_k_sz, pm_k_sr, pm_k_sy]); assumption) pm_f_X6_9 (by (try simp only [pm_p_si, pm_p_sj, pm_p_sx, pm_p_sz, pm_p_sr, pm_p_sy]); assumption) dX6_doSlice_74 ?_
        refine pm_iload_n dX6_doSlice_77 rfl ?_
        refine pm_iconst (v := 1) dX6_doSlice_78 (by decide) ?_
        refine pm_iadd dX6_doSlice_79 ?_
        refine pm_iaload (n := (4 * (az_b Z9 2 p) + 1)) hk1_t (nI_add _ _) (by rw [hl1_t]; omega) (by rw [hl1_t]; decide) dX6_doSlice_80 ?_
        rw [h_t.2.2.2.2.2.2.2.2.1.1 (4 * (az_b Z9 2 p) + 1) (by omega)]
        refine pm_aload_n dX6_doSlice_81 rfl ?_
        refine pm_g_Mill_program (by (try simp only [pm_k_si, pm_k_sj, pm_k_sp, pm_k_sx, pm_k_sz, pm_k_sr, pm_k_sy]); assumption) pm_f_X6_9 (by (try simp only [pm_p_si, pm_p_sj, pm_p_sx, pm_p_sz, pm_p_sr, pm_p_sy]); assumption) dX6_doSlice_82 ?_
        refine pm_iload_n dX6_doSlice_85 rfl ?_
        refine pm_iconst (v := 2) dX6_doSlice_86 (by decide) ?_
        refine pm_iadd dX6_doSlice_87 ?_
        refine pm_iaload (n := (4 * (az_b Z9 2 p) + 2)) hk1_t (nI_add _ _) (by rw [hl1_t]; omega) (by rw [hl1_t]; decide) dX6_doSlice_88 ?_
        rw [h_t.2.2.2.2.2.2.2.2.1.1 (4 * (az_b Z9 2 p) + 2) (by omega)]
        refine pm_aload_n dX6_doSlice_89 rfl ?_
        refine pm_g_Mill_program (by (try simp only [pm_k_si, pm_k_sj, pm_k_sp, pm_k_sx, pm_k_sz, pm_k_sr, pm_k_sy]); assumption) pm_f_X6_9 (by (try simp only [pm_p_si, pm_p_sj, pm_p_sx, pm_p_sz, pm_p_sr, pm_p_sy]); assumption) dX6_doSlice_90 ?_
        refine pm_iload_n dX6_doSlice_93 rfl ?_
        refine pm_iconst (v := 3) dX6_doSlice_94 (by decide) ?_
        refine pm_iadd dX6_doSlice_95 ?_
        refine pm_iaload (n := (4 * (az_b Z9 2 p) + 3)) hk1_t (nI_add _ _) (by rw [hl1_t]; omega) (by rw [hl1_t]; decide) dX6_doSlice_96 ?_
        rw [h_t.2.2.2.2.2.2.2.2.1.1 (4 * (az_b Z9 2 p) + 3) (by omega)]
        refine pm_vik (kc2 := (zU F - zU (zWd Z9 p))) (ks2 := (49 * (zU F - zU (zWd Z9 p)))) (c_X6_doWord G l bs (zTick Z9 p) Y9 E s p n9 _ _ _ (zWd Z9 p) _ hxt (hIt.down (by omega)) hpt h0t hn9 eW) pm_y_X6_doWord pm_v_X6_doWord pm_m_X6_198 (c := 6) (r := (RX6, TX6, 16)) rfl rfl (by (try simp only [pm_k_si, pm_k_sj, pm_k_sp, pm_k_sx, pm_k_sz, pm_k_sr, pm_k_sy]); assumption) dX6_doSlice_97 rfl rfl (by decide) (Nat.le_of_ble_eq_true rfl) (by omega) (by omega) (fun x97 S97 h97 => ?_)
        obtain ⟨Z1, Y2, hle2, hx2, hc⟩ := h97
        have hle2 : yLe (az_a Z9 0) Y9 Y2 := hle2
        rw [← hle2.c (c := 0) (by decide), ← hle2.p (p := p) (c := 0) hp9 (by decide)]
        have hle7 : yLe (az_a Z 0) Y Y2 := hle9.tr hnn hle2
        refine pm_istore dX6_doSlice_100 (by decide) ?_
        dsimp only [List.set]
        refine pm_iload dX6_doSlice_102 rfl ?_
        refine pm_iconst (v := (-1)) dX6_doSlice_104 (by decide) ?_
        refine pm_icmp_eq (tgt := 128) dX6_doSlice_105 (by decide) (fun h105 => ?_) (fun h105 => ?_)
        · skip
          have e1 : Z1 = zWd Z9 p := by
            rcases hc with ⟨-, e⟩ | ⟨e, -⟩ | ⟨e, -⟩
            · exact e
            · exact absurd (h105.symm.trans e) (by decide)
            · exact absurd (h105.symm.trans e) (by decide)
          subst e1
          have hx4 := hx2
          have kM4 := hx4.1.2.2.1.1.1
          refine pm_aload_n dX6_doSlice_128 rfl ?_
          refine pm_vvk (kc2 := (zU F - zU (zStep Z9 p))) (ks2 := (49 * (zU F - zU (zStep Z9 p)))) (c_X6_spreadDeaths G l bs (zWd Z9 p) Y2 E s (zStep Z9 p) _ hx4 hIw rfl) pm_y_X6_spreadDeaths pm_v_X6_spreadDeaths pm_m_X6_206 (c := 6) (r := (RX6, TX6, 16)) rfl rfl kM4 dX6_doSlice_129 rfl rfl (by decide) (Nat.le_of_ble_eq_true rfl) (by omega) (by omega) (fun S129 h129 => ?_)
          obtain ⟨Y3, hle3, hx5⟩ := h129
          have hle3b : yLe (az_a Z9 0) Y2 Y3 := ⟨fun c hc => hle3.1 c (lv_mono hLw.1 (fun _ _ => Nat.le_refl _) hc), fun q hq => hle3.2 q (Nat.lt_of_lt_of_le hq hLw.1)⟩
          rw [← hle3b.c (c := 0) (by decide), ← hle3b.p (p := p) (c := 0) hp9 (by decide)]
          refine pm_iinc dX6_doSlice_132 rfl rfl (by decide) ?_
          dsimp only [List.set]
          refine pm_goto (tgt := 12) dX6_doSlice_135 (by decide) ?_
          rw [show nI k + Int32.ofInt 1 = nI (k + 1) from nI_1 _]
          exact ih m (by omega) (k + 1) (zStep Z9 p) Y3 _ _ _ (by omega) (Nat.le_trans hnn hIs.2.1) hIs.1 (hO9.of (zx_step Z9 p)) (by rw [hIs.2.2.2.1]; omega) (hle7.tr hnn hle3b) hx5 hF
        · skip
          have hc2 : Z1 = zTick Z9 p ∧ zWd Z9 p = zFails (zTick Z9 p) p [1, x97] := by
            rcases hc with ⟨e, -⟩ | ⟨e, eZ, eW⟩ | ⟨e, eZ, eW⟩
            · exact absurd e h105
            · exact ⟨eZ, by rw [e]; exact eW⟩
            · exact ⟨eZ, by rw [e]; exact eW⟩
          obtain ⟨rfl, hc3⟩ := hc2
          obtain ⟨h_2, hmk_2⟩ := id hx2
          have hA_2 := h_2.2.2.2.2.2.1
          obtain ⟨⟨hk0_2, hr0_2, hr1_2, hr2_2, hr3_2, hr4_2, hr5_2, hr6_2, hr7_2⟩, ⟨hk1_2, hl1_2⟩, ⟨hk2_2, hl2_2⟩, ⟨hk3_2, hl3_2⟩, ⟨hk4_2, hl4_2⟩, hWt_2, hSh_2, hLt_2, hCs_2⟩ := id h_2.2.2.1
          obtain ⟨kW_2, rW1_2, rW2_2, rW3_2, kW1_2, nW1_2, kW2_2, nW2_2, kW3_2, nW3_2, -⟩ := id hWt_2
          refine pm_aload_n dX6_doSlice_108 rfl ?_
          refine pm_g_Mill_cause hk0_2 pm_f_X6_46 hr7_2 dX6_doSlice_109 ?_
          refine pm_iconst (v := 1) dX6_doSlice_112 (by decide) ?_
          refine pm_iload dX6_doSlice_113 rfl ?_
          refine pm_vv (c_X3_setSingle G l bs (Y2.1 13) (Y2.1 14) 1 x97 _ hCs_2) pm_y_X3_setSingle pm_v_X3_setSingle pm_m_X6_95 (c := 3) (r := (RX3, TX3, 2)) rfl rfl hCs_2.1 dX6_doSlice_115 rfl rfl (by decide) (Nat.le_of_ble_eq_true rfl) (fun S115 h115 => ?_)
          have hx3 := hx2.own (t := 13) (Or.inr rfl) h115.1
          obtain ⟨h_4, hmk_4⟩ := id hx3
          have hA_4 := h_4.2.2.2.2.2.1
          obtain ⟨⟨hk0_4, hr0_4, hr1_4, hr2_4, hr3_4, hr4_4, hr5_4, hr6_4, hr7_4⟩, ⟨hk1_4, hl1_4⟩, ⟨hk2_4, hl2_4⟩, ⟨hk3_4, hl3_4⟩, ⟨hk4_4, hl4_4⟩, hWt_4, hSh_4, hLt_4, hCs_4⟩ := id h_4.2.2.1
          obtain ⟨kW_4, rW1_4, rW2_4, rW3_4, kW1_4, nW1_4, kW2_4, nW2_4, kW3_4, nW3_4, -⟩ := id hWt_4
          refine pm_aload_n dX6_doSlice_118 rfl ?_
          refine pm_aload_n dX6_doSlice_119 rfl ?_
          refine pm_aload_n dX6_doSlice_120 rfl ?_
          refine pm_g_Mill_cause hk0_4 pm_f_X6_46 hr7_4 dX6_doSlice_121 ?_
          refine pm_vi (c_X6_fail G l bs (zTick Z9 p) Y2 E (s + 1) p (Y2.1 13) (Y2.1 14) [1, x97] _ hx3 hIt hpt (by rw [h0t]; decide) h115.2) pm_y_X6_fail pm_v_X6_fail pm_m_X6_202 (c := 6) (r := (RX6, TX6, 16)) rfl rfl hk0_4 dX6_doSlice_124 rfl rfl (by decide) (Nat.le_of_ble_eq_true rfl) (fun x124 S124 h124 => ?_)
          obtain ⟨-, hx4⟩ := h124
          rw [← hc3] at hx4
          have kM4 := hx4.1.2.2.1.1.1
          refine pm_pop dX6_doSlice_127 ?_
          refine pm_aload_n dX6_doSlice_128 rfl ?_
          refine pm_vvk (kc2 := (zU F - zU (zStep Z9 p))) (ks2 := (49 * (zU F - zU (zStep Z9 p)))) (c_X6_spreadDeaths G l bs (zWd Z9 p) Y2 E s (zStep Z9 p) _ hx4 hIw rfl) pm_y_X6_spreadDeaths pm_v_X6_spreadDeaths pm_m_X6_206 (c := 6) (r := (RX6, TX6, 16)) rfl rfl kM4 dX6_doSlice_129 rfl rfl (by decide) (Nat.le_of_ble_eq_true rfl) (by omega) (by omega) (fun S129 h129 => ?_)
          obtain ⟨Y3, hle3, hx5⟩ := h129
          have hle3b : yLe (az_a Z9 0) Y2 Y3 := ⟨fun c hc => hle3.1 c (lv_mono hLw.1 (fun _ _ => Nat.le_refl _) hc), fun q hq => hle3.2 q (Nat.lt_of_lt_of_le hq hLw.1)⟩
          rw [← hle3b.c (c := 0) (by decide), ← hle3b.p (p := p) (c := 0) hp9 (by decide)]
          refine pm_iinc dX6_doSlice_132 rfl rfl (by decide) ?_
          dsimp only [List.set]
          refine pm_goto (tgt := 12) dX6_doSlice_135 (by decide) ?_
          rw [show nI k + Int32.ofInt 1 = nI (k + 1) from nI_1 _]
          exact ih m (by omega) (k + 1) (zStep Z9 p) Y3 _ _ _ (by omega) (Nat.le_trans hnn hIs.2.1) hIs.1 (hO9.of (zx_step Z9 p)) (by rw [hIs.2.2.2.1]; omega) (hle7.tr hnn hle3b) hx5 hF
  refine pm_aload_n dX6_doSlice_0 rfl ?_
  refine pm_dup dX6_doSlice_1 ?_
  refine pm_g_Mill_slices (by (try simp only [pm_k_si, pm_k_sj, pm_k_sp, pm_k_sx, pm_k_sz, pm_k_sr, pm_k_sy]); assumption) pm_f_X6_62 dX6_doSlice_2 ?_
  refine pm_iconst (v := 1) dX6_doSlice_5 (by decide) ?_
  refine pm_iadd dX6_doSlice_6 ?_
  rw [hA 312 0 4 rfl, nI_1]
  refine pm_p_Mill_slices (by (try simp only [pm_k_si, pm_k_sj, pm_k_sp, pm_k_sx, pm_k_sz, pm_k_sr, pm_k_sy]); assumption) pm_f_X6_62 dX6_doSlice_7 ?_
  have hx1 : pm_CX (zs_a Z 4 (az_a Z 4 + 1)) (pm_si S 312 (Y.1 0) (nI (az_a Z 4 + 1))) Y E := hx.lift (h.a (f := 312) (i := 4) (c := 0) rfl (by decide)) rfl (fun _ => rfl)
  have hI1 := hI.a4 (s := s) h4
  generalize pm_si S 312 (Y.1 0) (nI (az_a Z 4 + 1)) = S10 at hx1 ⊢
  refine pm_iconst (v := 0) dX6_doSlice_10 (by decide) ?_
  refine pm_istn dX6_doSlice_11 (i := 2) rfl (by decide) ?_
  dsimp only [List.set]
  rw [show zU Z = zU (zs_a Z 4 (az_a Z 4 + 1)) from (zU_eq (Z := Z) (W := zs_a Z 4 (az_a Z 4 + 1)) rfl (fun _ _ => rfl)).symm]
  exact loop 12 0 (zs_a Z 4 (az_a Z 4 + 1)) Y S10 _ _ (by omega) (Nat.le_refl _) (hI1.down (by omega)) hO (by show az_a Z 5 + 12 < _; omega) yLe.rf hx1 hF

set_option maxHeartbeats 4000000 in
set_option maxRecDepth 100000 in
theorem c_X6_run (G : pm_G) (l : Launch) (bs : Nat) (Z : az) (Y : pm_Y) (E : pm_S) (s : Nat) (n r : Nat) (F : az) (S : pm_S) (hx : pm_CX Z S Y E) (hI : zI s Z) (hO : zOps Z) (hn60 : n ≤ 60) (h5 : az_a Z 5 + 12 * n < 16777216) (h4 : az_a Z 4 + n < 1048576) (hF : (zRun n Z).2 = F) (hr : (zRun n Z).1 = r) : pm_M G l bs yX6_run cX6_run 4 (some .int) 8 (zU F - zU Z) (49 * (zU F - zU Z)) [.ref (Y.1 0), .int (nI n)] S (pm_qi (fun x S2 => x = nI r ∧ ∃ Y2, yLe (az_a Z 0) Y Y2 ∧ pm_CX F S2 Y2 E)) := by
  obtain ⟨h, hmk⟩ := id hx
  have hA := h.2.2.2.2.2.1
  obtain ⟨⟨hk0, hr0, hr1, hr2, hr3, hr4, hr5, hr6, hr7⟩, ⟨hk1, hl1⟩, ⟨hk2, hl2⟩, ⟨hk3, hl3⟩, ⟨hk4, hl4⟩, hWt, hSh, hLt, hCs⟩ := id h.2.2.1
  obtain ⟨kW, rW1, rW2, rW3, kW1, nW1, kW2, nW2, kW3, nW3, -⟩ := id hWt
  refine pm_Mi (L := [.ref (Y.1 0), .int (nI n), pm_u, pm_u]) (by decide +kernel) rfl (pm_en_1 rfl (pm_en_1 rfl (pm_en_0 rfl))) ?_
  generalize hQ9 : pm_xi (fun x S2 => x = nI r ∧ ∃ Y2, yLe (az_a Z 0) Y Y2 ∧ pm_CX F S2 Y2 E) = Q9
  have loop : ∀ (m k : Nat) (Z9 : az) (Y9 : pm_Y) (S9 : pm_S) (v3 : Value), k + m = n → az_a Z 0 ≤ az_a Z9 0 → zI s Z9 → zOps Z9 → az_a Z9 5 + 12 * m < 16777216 → az_a Z9 4 + m < 1048576 → yLe (az_a Z 0) Y Y9 → pm_CX Z9 S9 Y9 E → (zRun m Z9).2 = F → k + (zRun m Z9).1 = r → pm_W G l bs yX6_run.cls cX6_run 4 false 8 (zU F - zU Z9) (49 * (zU F - zU Z9)) Q9 19 [.ref (Y9.1 0), .int (nI n), .int (nI k), v3] [] S9 := by
    intro m
    induction m using Nat.strongRecOn with
    | ind m ih =>
    intro k Z9 Y9 S9 v3 hkm hnn hI9 hO9 h5 h4 hle9 hx9 hF hr
    have hn := hI9.1
    have hsm := hI9.sm
    obtain ⟨h, hmk⟩ := id hx9
    have hA := h.2.2.2.2.2.1
    obtain ⟨⟨hk0, hr0, hr1, hr2, hr3, hr4, hr5, hr6, hr7⟩, ⟨hk1, hl1⟩, ⟨hk2, hl2⟩, ⟨hk3, hl3⟩, ⟨hk4, hl4⟩, hWt, hSh, hLt, hCs⟩ := id h.2.2.1
    obtain ⟨kW, rW1, rW2, rW3, kW1, nW1, kW2, nW2, kW3, nW3, -⟩ := id hWt
    refine pm_iload_n dX6_run_19 rfl ?_
    refine pm_iload_n dX6_run_20 rfl ?_
    refine pm_icmp_ge (tgt := 46) dX6_run_21 (by decide) (fun h21 => ?_) (fun h21 => ?_)
    · skip
      have h8 : k = n := by have := (pm_nle (a := n) (b := k) (by omega) (by omega)).mp h21; omega
      obtain rfl : m = 0 := by omega
      have hE : Z9 = F := hF
      have hr : k + 0 = r := hr
      refine pm_iload_n dX6_run_46 rfl ?_
      subst hQ9
      refine pm_iret dX6_run_47 ?_
      exact ⟨by rw [← hr, Nat.add_zero, h8], Y9, hle9, by rw [← hE]; exact hx9⟩
    · skip
      have h8 : k < n := by rcases Nat.lt_or_ge k n with q | q; exact q; exact absurd ((pm_nle (a := n) (b := k) (by omega) (by omega)).mpr q) h21
      obtain ⟨m, rfl⟩ : ∃ m2, m = m2 + 1 := ⟨m - 1, by omega⟩
      rw [zRun] at hF hr
      refine pm_aload_n dX6_run_24 rfl ?_
      refine pm_vr (c_X6_nextInTurn G l bs Z9 Y9 E _ h hn hsm (by omega)) pm_y_X6_nextInTurn pm_v_X6_nextInTurn pm_m_X6_103 (c := 6) (r := (RX6, TX6, 16)) rfl rfl (by (try simp only [pm_k_si, pm_k_sj, pm_k_sp, pm_k_sx, pm_k_sz, pm_k_sr, pm_k_sy]); assumption) dX6_run_25 rfl rfl (by decide) (Nat.le_of_ble_eq_true rfl) (fun x25 S25 h25 => ?_)
      obtain ⟨e25, rfl⟩ := h25
      cases hN : zNextOf Z9 with
      | none =>
        rw [hN] at hF hr e25
        subst e25
        show pm_W _ _ _ _ _ _ _ _ _ _ _ _ _ [.null] _
        refine pm_astn dX6_run_28 (i := 3) rfl (by decide) ?_
        dsimp only [List.set]
        refine pm_aload_n dX6_run_29 rfl ?_
        refine pm_ifnonnull_n dX6_run_30 ?_
        refine pm_iload_n dX6_run_33 rfl ?_
        subst hQ9
        refine pm_iret dX6_run_34 ?_
        exact ⟨by rw [← hr, Nat.add_zero], Y9, hle9, by rw [← hF]; exact hx9⟩
      | some q =>
        have hq := zNextOf_lt hN
        rw [hN] at hF hr e25
        subst e25
        have hF : (zRun m (zSlice Z9 q)).2 = F := hF
        have hr : k + ((zRun m (zSlice Z9 q)).1 + 1) = r := hr
        have hs := hI9.slice hq.1 (by omega) (by omega)
        have u1 := zSlice_U Z9 q
        have u0 := (zI.run m (zSlice Z9 q) hs.1 (by omega) (by omega)).2.2.1
        rw [hF] at u0
        have u2 := hs.2.2.1
        show pm_W _ _ _ _ _ _ _ _ _ _ _ _ _ [.ref (Y9.1 (pq q 0))] _
        refine pm_astn dX6_run_28 (i := 3) rfl (by decide) ?_
        dsimp only [List.set]
        refine pm_aload_n dX6_run_29 rfl ?_
        refine pm_ifnonnull_r (tgt := 35) dX6_run_30 (by decide) ?_
        refine pm_aload_n dX6_run_35 rfl ?_
        refine pm_aload_n dX6_run_36 rfl ?_
        refine pm_vvk (kc2 := (zU F - zU (zSlice Z9 q))) (ks2 := (49 * (zU F - zU (zSlice Z9 q)))) (c_X6_doSlice G l bs Z9 Y9 E s q (zWords 12 (zs_a Z9 4 (az_a Z9 4 + 1)) q) _ hx9 hI9 hq.1 hO9 (by omega) (by omega) rfl) pm_y_X6_doSlice pm_v_X6_doSlice pm_m_X6_107 (c := 6) (r := (RX6, TX6, 16)) rfl rfl (by (try simp only [pm_k_si, pm_k_sj, pm_k_sp, pm_k_sx, pm_k_sz, pm_k_sr, pm_k_sy]); assumption) dX6_run_37 rfl rfl (by decide) (Nat.le_of_ble_eq_true rfl) (by omega) (by omega) (fun S37 h37 => ?_)
        obtain ⟨Y2, hle2, hx2⟩ := h37
        have hx2 : pm_CX (zSlice Z9 q) S37 Y2 E := hx2
        rw [← hle2.c (c := 0) (by decide)]
        refine pm_iinc dX6_run_40 rfl rfl (by decide) ?_
        dsimp only [List.set]
        refine pm_goto (tgt := 19) dX6_run_43 (by decide) ?_
        rw [show nI k + Int32.ofInt 1 = nI (k + 1) from nI_1 _]
        exact ih m (by omega) (k + 1) (zSlice Z9 q) Y2 _ _ (by omega) (Nat.le_trans hnn hs.2.1) hs.1 (hO9.of (zx_slice Z9 q)) (by omega) (by omega) (hle9.tr hnn hle2) hx2 hF (by omega)
  refine pm_iload_n dX6_run_0 rfl ?_
  refine pm_bipush (v := 61) dX6_run_1 (by decide) ?_
  refine pm_ssi (c_X6_isBelow G l bs (nI n) 61 _) pm_y_X6_isBelow pm_s_X6_isBelow pm_m_X6_74 dX6_run_3 rfl rfl (by decide) (Nat.le_of_ble_eq_true rfl) (fun x3 S3 h3 => ?_)
  obtain ⟨e3, rfl⟩ := h3
  rw [if_pos ⟨nI_pos' (by omega), (pm_lt16 (n := n) (m := 61) (by omega) (by omega)).mpr (by omega)⟩] at e3
  subst e3
  refine pm_if_ne (tgt := 17) dX6_run_6 (by decide) (fun h6 => ?_) (fun h6 => ?_)
  · skip
    skip
    refine pm_iconst (v := 0) dX6_run_17 (by decide) ?_
    refine pm_istn dX6_run_18 (i := 2) rfl (by decide) ?_
    dsimp only [List.set]
    exact loop n 0 Z Y _ _ (by omega) (Nat.le_refl _) hI hO h5 h4 yLe.rf hx hF (by omega)
  · exact absurd h6 (by decide)

set_option maxHeartbeats 4000000 in
set_option maxRecDepth 100000 in
theorem c_X6_pass (G : pm_G) (l : Launch) (bs : Nat) (Z : az) (Y : pm_Y) (E : pm_S) (s : Nat) (n r : Nat) (F : az) (S : pm_S) (hx : pm_CX Z S Y E) (hI : zI s Z) (hn60 : n ≤ 10000) (h6 : az_a Z 6 + n < 16777216) (hF : (zPass (az_a Z 0) (zs_a Z 6 (az_a Z 6 + n))).2 = F) (hr : (zPass (az_a Z 0) (zs_a Z 6 (az_a Z 6 + n))).1 = r) : pm_M G l bs yX6_pass cX6_pass 4 (some .int) 2 0 0 [.ref (Y.1 0), .int (nI n)] S (pm_qi (fun x S2 => x = nI r ∧ pm_CX F S2 Y E)) := by
  obtain ⟨h, hmk⟩ := id hx
  have hA := h.2.2.2.2.2.1
  obtain ⟨⟨hk0, hr0, hr1, hr2, hr3, hr4, hr5, hr6, hr7⟩, ⟨hk1, hl1⟩, ⟨hk2, hl2⟩, ⟨hk3, hl3⟩, ⟨hk4, hl4⟩, hWt, hSh, hLt, hCs⟩ := id h.2.2.1
  obtain ⟨kW, rW1, rW2, rW3, kW1, nW1, kW2, nW2, kW3, nW3, -⟩ := id hWt
  refine pm_Mi (L := [.ref (Y.1 0), .int (nI n), pm_u, pm_u]) (by decide +kernel) rfl (pm_en_1 rfl (pm_en_1 rfl (pm_en_0 rfl))) ?_
  generalize hQ9 : pm_xi (fun x S2 => x = nI r ∧ pm_CX F S2 Y E) = Q9
  have loop : ∀ (m k : Nat) (Z9 : az) (S9 : pm_S) (v3 : Value), k + m = az_a Z9 0 → az_a Z9 0 = az_a Z 0 → zI s Z9 → az_a Z9 6 < 16777216 → pm_CX Z9 S9 Y E → (zPass m Z9).2 = F → k + (zPass m Z9).1 = r → pm_W G l bs yX6_pass.cls cX6_pass 4 false 2 0 0 Q9 30 [.ref (Y.1 0), .int (nI n), .int (nI k), v3] [] S9 := by
    intro m
    induction m using Nat.strongRecOn with
    | ind m ih =>
    intro k Z9 S9 v3 hkm hnn hI9 h6 hx9 hF hr
    have hn := hI9.1
    have hsm := hI9.sm
    obtain ⟨h, hmk⟩ := id hx9
    have hA := h.2.2.2.2.2.1
    obtain ⟨⟨hk0, hr0, hr1, hr2, hr3, hr4, hr5, hr6, hr7⟩, ⟨hk1, hl1⟩, ⟨hk2, hl2⟩, ⟨hk3, hl3⟩, ⟨hk4, hl4⟩, hWt, hSh, hLt, hCs⟩ := id h.2.2.1
    obtain ⟨kW, rW1, rW2, rW3, kW1, nW1, kW2, nW2, kW3, nW3, -⟩ := id hWt
    refine pm_iload_n dX6_pass_30 rfl ?_
    refine pm_aload_n dX6_pass_31 rfl ?_
    refine pm_g_Mill_started (by (try simp only [pm_k_si, pm_k_sj, pm_k_sp, pm_k_sx, pm_k_sz, pm_k_sr, pm_k_sy]); assumption) pm_f_X6_49 dX6_pass_32 ?_
    rw [hA 308 0 0 rfl]
    refine pm_icmp_ge (tgt := 71) dX6_pass_35 (by decide) (fun h35 => ?_) (fun h35 => ?_)
    · skip
      have h8 : k = az_a Z9 0 := by have := (pm_nle (a := az_a Z9 0) (b := k) (by omega) (by omega)).mp h35; omega
      obtain rfl : m = 0 := by omega
      have hE : Z9 = F := hF
      have hr : k + 0 = r := hr
      refine pm_aload_n dX6_pass_71 rfl ?_
      refine pm_g_Mill_started (by (try simp only [pm_k_si, pm_k_sj, pm_k_sp, pm_k_sx, pm_k_sz, pm_k_sr, pm_k_sy]); assumption) pm_f_X6_49 dX6_pass_72 ?_
      rw [hA 308 0 0 rfl]
      subst hQ9
      refine pm_iret dX6_pass_75 ?_
      exact ⟨by rw [← hr, Nat.add_zero, h8], by rw [← hE]; exact hx9⟩
    · skip
      have h8 : k < az_a Z9 0 := by rcases Nat.lt_or_ge k (az_a Z9 0) with q | q; exact q; exact absurd ((pm_nle (a := az_a Z9 0) (b := k) (by omega) (by omega)).mpr q) h35
      obtain ⟨m, rfl⟩ : ∃ m2, m = m2 + 1 := ⟨m - 1, by omega⟩
      rw [zPass] at hF hr
      refine pm_aload_n dX6_pass_38 rfl ?_
      refine pm_vr (c_X6_firstDue G l bs Z9 Y E _ h hn hsm (by omega) (fun q hq u hu => by have := hI9.2.2.2.2.2.2.2.2.2.1 q hq u hu; omega)) pm_y_X6_firstDue pm_v_X6_firstDue pm_m_X6_111 (c := 6) (r := (RX6, TX6, 16)) rfl rfl (by (try simp only [pm_k_si, pm_k_sj, pm_k_sp, pm_k_sx, pm_k_sz, pm_k_sr, pm_k_sy]); assumption) dX6_pass_39 rfl rfl (by decide) (Nat.le_of_ble_eq_true rfl) (fun x39 S39 h39 => ?_)
      obtain ⟨e39, rfl⟩ := h39
      cases hN : zDue Z9 (az_a Z9 0) 0 none with
      | none =>
        rw [hN] at hF hr e39
        subst e39
        show pm_W _ _ _ _ _ _ _ _ _ _ _ _ _ [.null] _
        refine pm_astn dX6_pass_42 (i := 3) rfl (by decide) ?_
        dsimp only [List.set]
        refine pm_aload_n dX6_pass_43 rfl ?_
        refine pm_ifnonnull_n dX6_pass_44 ?_
        refine pm_iload_n dX6_pass_47 rfl ?_
        subst hQ9
        refine pm_iret dX6_pass_48 ?_
        exact ⟨by rw [← hr, Nat.add_zero], by rw [← hF]; exact hx9⟩
      | some q =>
        have hq := zDueOf_lt hN
        rw [hN] at hF hr e39
        subst e39
        have hF : (zPass m (zReady (zs_b Z9 10 q 0) q (az_b Z9 4 q))).2 = F := hF
        have hr : k + ((zPass m (zReady (zs_b Z9 10 q 0) q (az_b Z9 4 q))).1 + 1) = r := hr
        have hl := hI9.late hq.1 hq.2
        have hBq := h.2.2.2.2.1 q hq.1
        obtain ⟨⟨pk0q, pr1q, pr2q, pr4q, pr6q, ppidq⟩, ⟨pk1q, pn1q, pz1q⟩, hmbq, htsq⟩ := id (h.2.2.2.1 q hq.1)
        show pm_W _ _ _ _ _ _ _ _ _ _ _ _ _ [.ref (Y.1 (pq q 0))] _
        refine pm_astn dX6_pass_42 (i := 3) rfl (by decide) ?_
        dsimp only [List.set]
        refine pm_aload_n dX6_pass_43 rfl ?_
        refine pm_ifnonnull_r (tgt := 49) dX6_pass_44 (by decide) ?_
        refine pm_aload_n dX6_pass_49 rfl ?_
        refine pm_g_Proc_box pk0q pm_f_X6_114 pr4q dX6_pass_50 ?_
        refine pm_vv (c_X0_pointToFirst G l bs (Y.1 (pq q 4)) _ hmbq.1) pm_y_X0_pointToFirst pm_v_X0_pointToFirst pm_m_X6_118 (c := 0) (r := (RX0, TX0, 3)) rfl rfl hmbq.1 dX6_pass_53 rfl rfl (by decide) (Nat.le_of_ble_eq_true rfl) (fun S53 h53 => ?_)
        have h1 := h.b (p := q) (f := 2) (c := 4) (i := 10) (v := 0) hn hq.1 rfl
        have h53b : S53 = pm_si S39 2 (Y.1 (pq q 4)) (nI 0) := h53
        rw [← h53b] at h1
        have hBq1 := h1.2.2.2.2.1 q hq.1
        have pk0q1 := (h1.2.2.2.1 q hq.1).1.1
        have hk01 := h1.2.2.1.1.1
        refine pm_aload_n dX6_pass_56 rfl ?_
        refine pm_aload_n dX6_pass_57 rfl ?_
        refine pm_aload_n dX6_pass_58 rfl ?_
        refine pm_g_Proc_atIfLate pk0q1 pm_f_X6_123 dX6_pass_59 ?_
        rw [hBq1 59 0 4 rfl, z_b_bne (by decide)]
        refine pm_vv (c_X6_makeReady G l bs (zs_b Z9 10 q 0) Y E q (az_b Z9 4 q) _ h1 hn hq.1) pm_y_X6_makeReady pm_v_X6_makeReady pm_m_X6_126 (c := 6) (r := (RX6, TX6, 16)) rfl rfl hk01 dX6_pass_62 rfl rfl (by decide) (Nat.le_of_ble_eq_true rfl) (fun S62 h62 => ?_)
        have hx2 : pm_CX (zReady (zs_b Z9 10 q 0) q (az_b Z9 4 q)) S62 Y E := hx9.lift h62 rfl (fun i => by unfold zReady; rw [zTurn_12, z_b_e, z_b_bne (by decide), z_b_bne (by decide), z_b_bne (by decide)])
        refine pm_iinc dX6_pass_65 rfl rfl (by decide) ?_
        dsimp only [List.set]
        refine pm_goto (tgt := 30) dX6_pass_68 (by decide) ?_
        rw [show nI k + Int32.ofInt 1 = nI (k + 1) from nI_1 _]
        exact ih m (by omega) (k + 1) (zReady (zs_b Z9 10 q 0) q (az_b Z9 4 q)) _ _ (by show _ = az_a Z9 0; omega) hnn hl.1 h6 hx2 hF (by omega)
  refine pm_iload_n dX6_pass_0 rfl ?_
  refine pm_sipush (v := 10001) dX6_pass_1 (by decide) ?_
  refine pm_ssi (c_X6_isBelow G l bs (nI n) 10001 _) pm_y_X6_isBelow pm_s_X6_isBelow pm_m_X6_74 dX6_pass_4 rfl rfl (by decide) (Nat.le_of_ble_eq_true rfl) (fun x4 S4 h4 => ?_)
  obtain ⟨e4, rfl⟩ := h4
  rw [if_pos ⟨nI_pos' (by omega), (pm_lt16 (n := n) (m := 10001) (by omega) (by omega)).mpr (by omega)⟩] at e4
  subst e4
  refine pm_if_ne (tgt := 18) dX6_pass_7 (by decide) (fun h7 => ?_) (fun h7 => ?_)
  · skip
    skip
    refine pm_aload_n dX6_pass_18 rfl ?_
    refine pm_dup dX6_pass_19 ?_
    refine pm_g_Mill_time (by (try simp only [pm_k_si, pm_k_sj, pm_k_sp, pm_k_sx, pm_k_sz, pm_k_sr, pm_k_sy]); assumption) pm_f_X6_68 dX6_pass_20 ?_
    refine pm_iload_n dX6_pass_23 rfl ?_
    refine pm_iadd dX6_pass_24 ?_
    rw [hA 314 0 6 rfl, nI_add]
    refine pm_p_Mill_time (by (try simp only [pm_k_si, pm_k_sj, pm_k_sp, pm_k_sx, pm_k_sz, pm_k_sr, pm_k_sy]); assumption) pm_f_X6_68 dX6_pass_25 ?_
    have hx1 := hx.lift (h.a (f := 314) (i := 6) (c := 0) (v := az_a Z 6 + n) rfl (by decide)) rfl (fun _ => rfl)
    have hI1 := hI.a6 (n := n) h6
    generalize pm_si S4 314 (Y.1 0) (nI (az_a Z 6 + n)) = S10 at hx1 ⊢
    refine pm_iconst (v := 0) dX6_pass_28 (by decide) ?_
    refine pm_istn dX6_pass_29 (i := 2) rfl (by decide) ?_
    dsimp only [List.set]
    exact loop (az_a Z 0) 0 (zs_a Z 6 (az_a Z 6 + n)) S10 _ (by show _ = az_a Z 0; omega) rfl hI1 h6 hx1 hF (by omega)
  · exact absurd h7 (by decide)

