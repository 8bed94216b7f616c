/-! the reference: facts, totals, passing time -/
set_option maxHeartbeats 4000000 in
set_option maxRecDepth 100000 in
theorem c_X7_process (G : pm_G) (l : Launch) (bs : Nat) (A : Nat → Nat) (E : pm_S) (M : pm_N) (b : Nat) (Z : az) (s : Nat) (q j : Nat) (S : pm_S) (hm : pm_MX M S A E) (hr : mR b Z M) (hI : zI s Z) (hq : q < az_a Z 0) (hj : j < 11) : pm_M G l bs yX7_process cX7_process 6 (some .int) 2 0 0 [.ref (A 50), .int (nI (q + 1)), .int (nI j)] S (pm_qi (fun x S2 => x = zFact Z q j ∧ ∃ A2 M2, (∀ i, i ≠ 60 → A2 i = A i) ∧ A2 60 = 0 ∧ pm_MX M2 S2 A2 E ∧ mR b Z M2)) := by
  have hn := hI.1
  have hsm := hI.sm
  have h9b := hI.b9
  refine pm_Mi (L := [.ref (A 50), .int (nI (q + 1)), .int (nI j), pm_u, pm_u, pm_u]) (by decide +kernel) rfl (pm_en_1 rfl (pm_en_1 rfl (pm_en_1 rfl (pm_en_0 rfl)))) ?_
  generalize hQ9 : pm_xi (fun x S2 => x = zFact Z q j ∧ ∃ A2 M2, (∀ i, i ≠ 60 → A2 i = A i) ∧ A2 60 = 0 ∧ pm_MX M2 S2 A2 E ∧ mR b Z M2) = Q9
  refine pm_aload_n dX7_process_0 rfl ?_
  refine pm_aload_n dX7_process_1 rfl ?_
  refine pm_iload_n dX7_process_2 rfl ?_
  refine pm_vi (c_X7_isProcess G l bs A E M (nI (q + 1)) _ hm) pm_y_X7_isProcess pm_v_X7_isProcess pm_m_X7_143 (c := 7) (r := (RX7, TX7, 41)) rfl rfl hm.1 dX7_process_3 rfl rfl (by decide) (Nat.le_of_ble_eq_true rfl) (fun x3 S3 h3 => ?_)
  obtain ⟨e3, rfl⟩ := h3
  rw [hr.A (i := 0) rfl, if_pos ⟨(pm_nle (a := 1) (b := q + 1) (by omega) (by omega)).mpr (by omega), (pm_nle (a := q + 1) (b := az_a Z 0) (by omega) (by omega)).mpr (by omega)⟩] at e3
  subst e3
  refine pm_if_eq (tgt := 19) dX7_process_6 (by decide) (fun h6 => ?_) (fun h6 => ?_)
  · exact absurd h6 (by decide)
  · skip
    skip
    refine pm_iload_n dX7_process_9 rfl ?_
    refine pm_iconst (v := 0) dX7_process_10 (by decide) ?_
    refine pm_bipush (v := 10) dX7_process_11 (by decide) ?_
    refine pm_ssi (c_X7_within G l bs (nI j) 0 10 _) pm_y_X7_within pm_s_X7_within pm_m_X7_110 dX7_process_13 rfl rfl (by decide) (Nat.le_of_ble_eq_true rfl) (fun x13 S13 h13 => ?_)
    obtain ⟨e13, rfl⟩ := h13
    rw [if_pos ⟨nI_pos' (by omega), (pm_nle (a := j) (b := 10) (by omega) (by omega)).mpr (by omega)⟩] at e13
    subst e13
    refine pm_if_ne (tgt := 23) dX7_process_16 (by decide) (fun h16 => ?_) (fun h16 => ?_)
    · skip
      skip
      refine pm_iconst (v := 0) dX7_process_23 (by decide) ?_
      refine pm_iconst (v := 1) dX7_process_24 (by decide) ?_
      refine pm_vi (c_X7_fails G l bs A E M 0 1 _ hm (Or.inl rfl)) pm_y_X7_fails pm_v_X7_fails pm_m_X7_114 (c := 7) (r := (RX7, TX7, 41)) rfl rfl hm.1 dX7_process_25 rfl rfl (by decide) (Nat.le_of_ble_eq_true rfl) (fun x25 S25 h25 => ?_)
      obtain ⟨rfl, hm25⟩ := h25
      have hr25 := hr.thr (v := nI (if (0 : Int32) = 0 then 0 else 1))
      have hB1 : aT A (if (0 : Int32) = 0 then 0 else 1) 60 = 0 := rfl
      have hB2 : ∀ i, i ≠ 60 → aT A (if (0 : Int32) = 0 then 0 else 1) i = A i := fun i hi => if_neg hi
      rw [← (aT_o (A := A) (v := (if (0 : Int32) = 0 then 0 else 1)) (i := 50) (by decide))]
      generalize aT A (if (0 : Int32) = 0 then 0 else 1) = A9 at hm25 hB1 hB2 ⊢
      have hA1 := hB1
      have hA2 := hB2
      generalize mi M 40 (nI (if (0 : Int32) = 0 then 0 else 1)) = M25 at hm25 hr25
      refine pm_if_eq (tgt := 33) dX7_process_28 (by decide) (fun h28 => ?_) (fun h28 => ?_)
      · skip
        skip
        refine pm_iload_n dX7_process_33 rfl ?_
        refine pm_iconst (v := 1) dX7_process_34 (by decide) ?_
        refine pm_isub dX7_process_35 ?_
        rw [nI_pred]
        refine pm_istn dX7_process_36 (i := 3) rfl (by decide) ?_
        dsimp only [List.set]
        refine pm_iconst (v := 0) dX7_process_37 (by decide) ?_
        refine pm_istore dX7_process_38 (by decide) ?_
        dsimp only [List.set]
        refine pm_iconst (v := 0) dX7_process_40 (by decide) ?_
        refine pm_istore dX7_process_41 (by decide) ?_
        dsimp only [List.set]
        have loop : ∀ (m k : Nat), k + m = az_a Z 0 → pm_W G l bs yX7_process.cls cX7_process 6 false 2 0 0 Q9 43 [.ref (A9 50), .int (nI (q + 1)), .int (nI j), .int (nI q), .int (nI (cntf (az_f Z q) k)), .int (nI k)] [] S25 := by
          intro m
          induction m using Nat.strongRecOn with
          | ind m ih =>
          intro k hkm
          refine pm_iload dX7_process_43 rfl ?_
          refine pm_aload_n dX7_process_45 rfl ?_
          refine pm_g_Model_count hm25.1 pm_f_X7_121 dX7_process_46 ?_
          rw [hm25.f (g := 375) (f := 25) rfl]
          rw [hr25.A (i := 0) rfl]
          refine pm_icmp_ge (tgt := 83) dX7_process_49 (by decide) (fun h49 => ?_) (fun h49 => ?_)
          · skip
            have h8 : k = az_a Z 0 := by have := (pm_nle (a := az_a Z 0) (b := k) (by omega) (by omega)).mp h49; omega
            subst h8
            refine pm_iload_n dX7_process_83 rfl ?_
            match j, hj with
            | 0, _ =>
              refine pm_tableIn (tgt := 140) dX7_process_84 (by decide) (by decide) rfl (by decide) ?_
              refine pm_aload_n dX7_process_140 rfl ?_
              refine pm_g_Model_state hm25.1 pm_f_X7_29 (hm25.2.1 6 (by decide)).1 dX7_process_141 ?_
              refine pm_iload_n dX7_process_144 rfl ?_
              refine mm_iaload (n := _) hm25 (by decide) rfl (by show _ < 60; omega) dX7_process_145 ?_
              rw [hr25.B (s := 6) (i := 1) hq rfl]
              subst hQ9
              refine pm_iret dX7_process_146 ?_
              exact ⟨rfl, A9, M25, hA2, hA1, hm25, hr25⟩
            | 1, _ =>
              refine pm_tableIn (tgt := 147) dX7_process_84 (by decide) (by decide) rfl (by decide) ?_
              refine pm_aload_n dX7_process_147 rfl ?_
              refine pm_g_Model_place hm25.1 pm_f_X7_32 (hm25.2.1 7 (by decide)).1 dX7_process_148 ?_
              refine pm_iload_n dX7_process_151 rfl ?_
              refine mm_iaload (n := _) hm25 (by decide) rfl (by show _ < 60; omega) dX7_process_152 ?_
              rw [hr25.B (s := 7) (i := 2) hq rfl]
              subst hQ9
              refine pm_iret dX7_process_153 ?_
              exact ⟨rfl, A9, M25, hA2, hA1, hm25, hr25⟩
            | 2, _ =>
              refine pm_tableIn (tgt := 154) dX7_process_84 (by decide) (by decide) rfl (by decide) ?_
              refine pm_aload_n dX7_process_154 rfl ?_
              refine pm_g_Model_priority hm25.1 pm_f_X7_35 (hm25.2.1 8 (by decide)).1 dX7_process_155 ?_
              refine pm_iload_n dX7_process_158 rfl ?_
              refine mm_iaload (n := _) hm25 (by decide) rfl (by show _ < 60; omega) dX7_process_159 ?_
              rw [hr25.B (s := 8) (i := 0) hq rfl]
              subst hQ9
              refine pm_iret dX7_process_160 ?_
              exact ⟨rfl, A9, M25, hA2, hA1, hm25, hr25⟩
            | 3, _ =>
              refine pm_tableIn (tgt := 161) dX7_process_84 (by decide) (by decide) rfl (by decide) ?_
              refine pm_aload_n dX7_process_161 rfl ?_
              refine pm_g_Model_name hm25.1 pm_f_X7_38 (hm25.2.1 9 (by decide)).1 dX7_process_162 ?_
              refine pm_iload_n dX7_process_165 rfl ?_
              refine mm_iaload (n := _) hm25 (by decide) rfl (by show _ < 60; omega) dX7_process_166 ?_
              rw [hr25.2.2.2.1 q hq]
              subst hQ9
              refine pm_iret dX7_process_167 ?_
              exact ⟨rfl, A9, M25, hA2, hA1, hm25, hr25⟩
            | 4, _ =>
              refine pm_tableIn (tgt := 168) dX7_process_84 (by decide) (by decide) rfl (by decide) ?_
              refine pm_aload_n dX7_process_168 rfl ?_
              refine pm_g_Model_traps hm25.1 pm_f_X7_41 (hm25.2.1 10 (by decide)).1 dX7_process_169 ?_
              refine pm_iload_n dX7_process_172 rfl ?_
              refine mm_baload (n := _) hm25 (by decide) rfl (by show _ < 60; omega) dX7_process_173 ?_
              rw [hr25.B (s := 10) (i := 11) hq rfl]
              refine pm_if_eq (tgt := 181) dX7_process_174 (by decide) (fun h174 => ?_) (fun h174 => ?_)
              · skip
                have h9 : az_b Z 11 q = 0 := (pm_e0 (hsm q hq 11 (by decide))).mp h174
                refine pm_iconst (v := 0) dX7_process_181 (by decide) ?_
                subst hQ9
                refine pm_iret dX7_process_182 ?_
                exact ⟨by show _ = nI (az_b Z 11 q); rw [h9]; rfl, A9, M25, hA2, hA1, hm25, hr25⟩
              · skip
                have h7 : ¬ az_b Z 11 q = 0 := fun z => h174 ((pm_e0 (hsm q hq 11 (by decide))).mpr z)
                have h6 : az_b Z 11 q ≤ 1 := hI.b hq 11
                have h9 : az_b Z 11 q = 1 := by omega
                refine pm_iconst (v := 1) dX7_process_177 (by decide) ?_
                refine pm_goto (tgt := 182) dX7_process_178 (by decide) ?_
                subst hQ9
                refine pm_iret dX7_process_182 ?_
                exact ⟨by show _ = nI (az_b Z 11 q); rw [h9]; rfl, A9, M25, hA2, hA1, hm25, hr25⟩
            | 5, _ =>
              refine pm_tableIn (tgt := 183) dX7_process_84 (by decide) (by decide) rfl (by decide) ?_
              refine pm_aload_n dX7_process_183 rfl ?_
              refine pm_g_Model_mail hm25.1 pm_f_X7_45 (hm25.2.1 11 (by decide)).1 dX7_process_184 ?_
              refine pm_iload_n dX7_process_187 rfl ?_
              refine mm_iaload (n := _) hm25 (by decide) rfl (by show _ < 60; omega) dX7_process_188 ?_
              rw [hr25.B (s := 11) (i := 9) hq rfl]
              subst hQ9
              refine pm_iret dX7_process_189 ?_
              exact ⟨rfl, A9, M25, hA2, hA1, hm25, hr25⟩
            | 6, _ =>
              refine pm_tableIn (tgt := 190) dX7_process_84 (by decide) (by decide) rfl (by decide) ?_
              refine pm_aload_n dX7_process_190 rfl ?_
              refine pm_g_Model_pointer hm25.1 pm_f_X7_48 (hm25.2.1 12 (by decide)).1 dX7_process_191 ?_
              refine pm_iload_n dX7_process_194 rfl ?_
              refine mm_iaload (n := _) hm25 (by decide) rfl (by show _ < 60; omega) dX7_process_195 ?_
              rw [hr25.B (s := 12) (i := 10) hq rfl]
              subst hQ9
              refine pm_iret dX7_process_196 ?_
              exact ⟨rfl, A9, M25, hA2, hA1, hm25, hr25⟩
            | 7, _ =>
              refine pm_tableIn (tgt := 197) dX7_process_84 (by decide) (by decide) rfl (by decide) ?_
              refine pm_iload dX7_process_197 rfl ?_
              subst hQ9
              refine pm_iret dX7_process_199 ?_
              exact ⟨rfl, A9, M25, hA2, hA1, hm25, hr25⟩
            | 8, _ =>
              refine pm_tableIn (tgt := 200) dX7_process_84 (by decide) (by decide) rfl (by decide) ?_
              refine pm_aload_n dX7_process_200 rfl ?_
              refine pm_g_Model_backCount hm25.1 pm_f_X7_54 (hm25.2.1 14 (by decide)).1 dX7_process_201 ?_
              refine pm_iload_n dX7_process_204 rfl ?_
              refine mm_iaload (n := _) hm25 (by decide) rfl (by show _ < 60; omega) dX7_process_205 ?_
              rw [hr25.B (s := 14) (i := 7) hq rfl]
              subst hQ9
              refine pm_iret dX7_process_206 ?_
              exact ⟨rfl, A9, M25, hA2, hA1, hm25, hr25⟩
            | 9, _ =>
              refine pm_tableIn (tgt := 207) dX7_process_84 (by decide) (by decide) rfl (by decide) ?_
              refine pm_aload_n dX7_process_207 rfl ?_
              refine pm_g_Model_catchCount hm25.1 pm_f_X7_63 (hm25.2.1 17 (by decide)).1 dX7_process_208 ?_
              refine pm_iload_n dX7_process_211 rfl ?_
              refine mm_iaload (n := _) hm25 (by decide) rfl (by show _ < 60; omega) dX7_process_212 ?_
              rw [hr25.B (s := 17) (i := 8) hq rfl]
              subst hQ9
              refine pm_iret dX7_process_213 ?_
              exact ⟨rfl, A9, M25, hA2, hA1, hm25, hr25⟩
            | 10, _ =>
              refine pm_tableOut (tgt := 214) dX7_process_84 (by decide) (by decide) ?_
              refine pm_aload_n dX7_process_214 rfl ?_
              refine pm_g_Model_done hm25.1 pm_f_X7_66 (hm25.2.1 18 (by decide)).1 dX7_process_215 ?_
              refine pm_iload_n dX7_process_218 rfl ?_
              refine mm_iaload (n := _) hm25 (by decide) rfl (by show _ < 60; omega) dX7_process_219 ?_
              rw [hr25.B (s := 18) (i := 6) hq rfl]
              subst hQ9
              refine pm_iret dX7_process_220 ?_
              exact ⟨rfl, A9, M25, hA2, hA1, hm25, hr25⟩
            | _ + 11, hj => exact absurd hj (by omega)
          · skip
            have h8 : k < az_a Z 0 := by rcases Nat.lt_or_ge (k) (az_a Z 0) with y | y; exact y; exact absurd ((pm_nle (a := az_a Z 0) (b := k) (by omega) (by omega)).mpr y) h49
            refine pm_iload dX7_process_52 rfl ?_
            refine pm_aload_n dX7_process_54 rfl ?_
            refine pm_g_Model_linked hm25.1 pm_f_X7_84 (hm25.2.1 24 (by decide)).1 dX7_process_55 ?_
            refine pm_bipush (v := 60) dX7_process_58 (by decide) ?_
            refine pm_iload_n dX7_process_60 rfl ?_
            refine pm_imul dX7_process_61 ?_
            refine pm_iload dX7_process_62 rfl ?_
            refine pm_iadd dX7_process_64 ?_
            refine mm_baload (n := _) hm25 (by decide) (by rw [show (60 : Int32) = nI 60 from rfl, pk_mul, nI_add]) (by show _ < 3600; omega) dX7_process_65 ?_
            rw [hr25.2.2.2.2.2.2.1 q k (by omega) (by omega)]
            refine pm_if_eq (tgt := 73) dX7_process_66 (by decide) (fun h66 => ?_) (fun h66 => ?_)
            · skip
              have g1 : ¬ az_f Z q k = true := fun y => by rw [if_pos y] at h66; cases h66
              have e1 : cntf (az_f Z q) (k + 1) = cntf (az_f Z q) k := by rw [cntf, if_neg g1, Nat.add_zero]
              refine pm_iconst (v := 0) dX7_process_73 (by decide) ?_
              refine pm_iadd dX7_process_74 ?_
              refine pm_istore dX7_process_75 (by decide) ?_
              dsimp only [List.set]
              refine pm_iinc dX7_process_77 rfl rfl (by decide) ?_
              dsimp only [List.set]
              refine pm_goto (tgt := 43) dX7_process_80 (by decide) ?_
              rw [show nI k + Int32.ofInt 1 = nI (k + 1) from nI_1 _]
              first
              | (rw [show nI (cntf (az_f Z q) k) + 1 = nI (cntf (az_f Z q) (k + 1)) from by rw [e1, nI_1]]; exact ih (m - 1) (by omega) (k + 1) (by omega))
              | (rw [show nI (cntf (az_f Z q) k) + 0 = nI (cntf (az_f Z q) (k + 1)) from by rw [e1]; exact nI_add _ 0]; exact ih (m - 1) (by omega) (k + 1) (by omega))
            · skip
              have g1 : az_f Z q k = true := by cases y : az_f Z q k; exact absurd (by rw [y]; rfl) h66; rfl
              have e1 : cntf (az_f Z q) (k + 1) = cntf (az_f Z q) k + 1 := by rw [cntf, if_pos g1]
              refine pm_iconst (v := 1) dX7_process_69 (by decide) ?_
              refine pm_goto (tgt := 74) dX7_process_70 (by decide) ?_
              refine pm_iadd dX7_process_74 ?_
              refine pm_istore dX7_process_75 (by decide) ?_
              dsimp only [List.set]
              refine pm_iinc dX7_process_77 rfl rfl (by decide) ?_
              dsimp only [List.set]
              refine pm_goto (tgt := 43) dX7_process_80 (by decide) ?_
              rw [show nI k + Int32.ofInt 1 = nI (k + 1) from nI_1 _]
              first
              | (rw [show nI (cntf (az_f Z q) k) + 1 = nI (cntf (az_f Z q) (k + 1)) from by rw [e1, nI_1]]; exact ih (m - 1) (by omega) (k + 1) (by omega))
              | (rw [show nI (cntf (az_f Z q) k) + 0 = nI (cntf (az_f Z q) (k + 1)) from by rw [e1]; exact nI_add _ 0]; exact ih (m - 1) (by omega) (k + 1) (by omega))
        exact loop (az_a Z 0) 0 (by omega)
      · exact absurd rfl h28
    · exact absurd h16 (by decide)

set_option maxHeartbeats 4000000 in
set_option maxRecDepth 100000 in
theorem r_X7_process (G : pm_G) (l : Launch) (bs : Nat) (A : Nat → Nat) (E : pm_S) (M : pm_N) (b : Nat) (Z : az) (s : Nat) (x y : Int32) (S : pm_S) (hm : pm_MX M S A E) (hr : mR b Z M) (hI : zI s Z) (hbad : ¬ ((1 ≤ x ∧ x ≤ nI (az_a Z 0)) ∧ (0 ≤ y ∧ y ≤ 10))) : pm_M G l bs yX7_process cX7_process 6 (some .int) 2 0 0 [.ref (A 50), .int x, .int y] S (pm_qi (fun x S2 => ∃ A2 M2, (∀ i, i ≠ 60 → A2 i = A i) ∧ A2 60 = 1 ∧ pm_MX M2 S2 A2 E ∧ mR b Z M2)) := by
  refine pm_Mi (L := [.ref (A 50), .int x, .int y, pm_u, pm_u, pm_u]) (by decide +kernel) rfl (pm_en_1 rfl (pm_en_1 rfl (pm_en_1 rfl (pm_en_0 rfl)))) ?_
  generalize hQ9 : pm_xi (fun x S2 => ∃ A2 M2, (∀ i, i ≠ 60 → A2 i = A i) ∧ A2 60 = 1 ∧ pm_MX M2 S2 A2 E ∧ mR b Z M2) = Q9
  refine pm_aload_n dX7_process_0 rfl ?_
  refine pm_aload_n dX7_process_1 rfl ?_
  refine pm_iload_n dX7_process_2 rfl ?_
  refine pm_vi (c_X7_isProcess G l bs A E M x _ hm) pm_y_X7_isProcess pm_v_X7_isProcess pm_m_X7_143 (c := 7) (r := (RX7, TX7, 41)) rfl rfl hm.1 dX7_process_3 rfl rfl (by decide) (Nat.le_of_ble_eq_true rfl) (fun x3 S3 h3 => ?_)
  obtain ⟨e3, rfl⟩ := h3
  rw [hr.A (i := 0) rfl] at e3
  subst e3
  refine pm_if_eq (tgt := 19) dX7_process_6 (by decide) (fun h6 => ?_) (fun h6 => ?_)
  · skip
    skip
    refine pm_iconst (v := 1) dX7_process_19 (by decide) ?_
    refine pm_goto (tgt := 24) dX7_process_20 (by decide) ?_
    refine pm_iconst (v := 1) dX7_process_24 (by decide) ?_
    refine pm_vi (c_X7_fails G l bs A E M 1 1 _ hm (Or.inr rfl)) pm_y_X7_fails pm_v_X7_fails pm_m_X7_114 (c := 7) (r := (RX7, TX7, 41)) rfl rfl hm.1 dX7_process_25 rfl rfl (by decide) (Nat.le_of_ble_eq_true rfl) (fun x25 S25 h25 => ?_)
    obtain ⟨rfl, hm25⟩ := h25
    have hr25 := hr.thr (v := nI (if (1 : Int32) = 0 then 0 else 1))
    have hB1 : aT A (if (1 : Int32) = 0 then 0 else 1) 60 = 1 := rfl
    have hB2 : ∀ i, i ≠ 60 → aT A (if (1 : Int32) = 0 then 0 else 1) i = A i := fun i hi => if_neg hi
    rw [← (aT_o (A := A) (v := (if (1 : Int32) = 0 then 0 else 1)) (i := 50) (by decide))]
    generalize aT A (if (1 : Int32) = 0 then 0 else 1) = A9 at hm25 hB1 hB2 ⊢
    have hA1 := hB1
    have hA2 := hB2
    generalize mi M 40 (nI (if (1 : Int32) = 0 then 0 else 1)) = M25 at hm25 hr25
    refine pm_if_eq (tgt := 33) dX7_process_28 (by decide) (fun h28 => ?_) (fun h28 => ?_)
    · exact absurd h28 (by decide)
    · skip
      skip
      refine pm_iconst (v := 0) dX7_process_31 (by decide) ?_
      subst hQ9
      refine pm_iret dX7_process_32 ?_
      exact ⟨A9, _, hA2, hA1, hm25, hr25⟩
  · skip
    have g1 : 1 ≤ x ∧ x ≤ nI (az_a Z 0) := Classical.byContradiction (fun z => h6 (if_neg z))
    refine pm_iload_n dX7_process_9 rfl ?_
    refine pm_iconst (v := 0) dX7_process_10 (by decide) ?_
    refine pm_bipush (v := 10) dX7_process_11 (by decide) ?_
    refine pm_ssi (c_X7_within G l bs y 0 10 _) pm_y_X7_within pm_s_X7_within pm_m_X7_110 dX7_process_13 rfl rfl (by decide) (Nat.le_of_ble_eq_true rfl) (fun x13 S13 h13 => ?_)
    obtain ⟨rfl, rfl⟩ := h13
    refine pm_if_ne (tgt := 23) dX7_process_16 (by decide) (fun h16 => ?_) (fun h16 => ?_)
    · exact absurd ⟨g1, Classical.byContradiction (fun z => h16 (if_neg z))⟩ hbad
    · skip
      skip
      refine pm_iconst (v := 1) dX7_process_19 (by decide) ?_
      refine pm_goto (tgt := 24) dX7_process_20 (by decide) ?_
      refine pm_iconst (v := 1) dX7_process_24 (by decide) ?_
      refine pm_vi (c_X7_fails G l bs A E M 1 1 _ hm (Or.inr rfl)) pm_y_X7_fails pm_v_X7_fails pm_m_X7_114 (c := 7) (r := (RX7, TX7, 41)) rfl rfl hm.1 dX7_process_25 rfl rfl (by decide) (Nat.le_of_ble_eq_true rfl) (fun x25 S25 h25 => ?_)
      obtain ⟨rfl, hm25⟩ := h25
      have hr25 := hr.thr (v := nI (if (1 : Int32) = 0 then 0 else 1))
      have hB1 : aT A (if (1 : Int32) = 0 then 0 else 1) 60 = 1 := rfl
      have hB2 : ∀ i, i ≠ 60 → aT A (if (1 : Int32) = 0 then 0 else 1) i = A i := fun i hi => if_neg hi
      rw [← (aT_o (A := A) (v := (if (1 : Int32) = 0 then 0 else 1)) (i := 50) (by decide))]
      generalize aT A (if (1 : Int32) = 0 then 0 else 1) = A9 at hm25 hB1 hB2 ⊢
      have hA1 := hB1
      have hA2 := hB2
      generalize mi M 40 (nI (if (1 : Int32) = 0 then 0 else 1)) = M25 at hm25 hr25
      refine pm_if_eq (tgt := 33) dX7_process_28 (by decide) (fun h28 => ?_) (fun h28 => ?_)
      · exact absurd h28 (by decide)
      · skip
        skip
        refine pm_iconst (v := 0) dX7_process_31 (by decide) ?_
        subst hQ9
        refine pm_iret dX7_process_32 ?_
        exact ⟨A9, _, hA2, hA1, hm25, hr25⟩

set_option maxHeartbeats 4000000 in
set_option maxRecDepth 100000 in
theorem c_X7_total (G : pm_G) (l : Launch) (bs : Nat) (A : Nat → Nat) (E : pm_S) (M : pm_N) (b : Nat) (Z : az) (s : Nat) (j : Nat) (S : pm_S) (hm : pm_MX M S A E) (hr : mR b Z M) (hI : zI s Z) (hj : j < 9) : pm_M G l bs yX7_total cX7_total 5 (some .int) 2 0 0 [.ref (A 50), .int (nI j)] S (pm_qi (fun x S2 => x = zTot Z j ∧ ∃ A2 M2, (∀ i, i ≠ 60 → A2 i = A i) ∧ A2 60 = 0 ∧ pm_MX M2 S2 A2 E ∧ mR b Z M2)) := by
  have hn := hI.1
  have hsm := hI.sm
  have h9b := hI.b9
  refine pm_Mi (L := [.ref (A 50), .int (nI j), pm_u, pm_u, pm_u]) (by decide +kernel) rfl (pm_en_1 rfl (pm_en_1 rfl (pm_en_0 rfl))) ?_
  generalize hQ9 : pm_xi (fun x S2 => x = zTot Z j ∧ ∃ A2 M2, (∀ i, i ≠ 60 → A2 i = A i) ∧ A2 60 = 0 ∧ pm_MX M2 S2 A2 E ∧ mR b Z M2) = Q9
  refine pm_aload_n dX7_total_0 rfl ?_
  refine pm_iload_n dX7_total_1 rfl ?_
  refine pm_iconst (v := 0) dX7_total_2 (by decide) ?_
  refine pm_bipush (v := 8) dX7_total_3 (by decide) ?_
  refine pm_ssi (c_X7_within G l bs (nI j) 0 8 _) pm_y_X7_within pm_s_X7_within pm_m_X7_110 dX7_total_5 rfl rfl (by decide) (Nat.le_of_ble_eq_true rfl) (fun x5 S5 h5 => ?_)
  obtain ⟨e5, rfl⟩ := h5
  rw [if_pos ⟨nI_pos' (by omega), (pm_nle (a := j) (b := 8) (by omega) (by omega)).mpr (by omega)⟩] at e5
  subst e5
  refine pm_if_ne (tgt := 15) dX7_total_8 (by decide) (fun h8 => ?_) (fun h8 => ?_)
  · skip
    skip
    refine pm_iconst (v := 0) dX7_total_15 (by decide) ?_
    refine pm_iconst (v := 1) dX7_total_16 (by decide) ?_
    refine pm_vi (c_X7_fails G l bs A E M 0 1 _ hm (Or.inl rfl)) pm_y_X7_fails pm_v_X7_fails pm_m_X7_114 (c := 7) (r := (RX7, TX7, 41)) rfl rfl hm.1 dX7_total_17 rfl rfl (by decide) (Nat.le_of_ble_eq_true rfl) (fun x17 S17 h17 => ?_)
    obtain ⟨rfl, hm17⟩ := h17
    have hr17 := hr.thr (v := nI (if (0 : Int32) = 0 then 0 else 1))
    have hB1 : aT A (if (0 : Int32) = 0 then 0 else 1) 60 = 0 := rfl
    have hB2 : ∀ i, i ≠ 60 → aT A (if (0 : Int32) = 0 then 0 else 1) i = A i := fun i hi => if_neg hi
    rw [← (aT_o (A := A) (v := (if (0 : Int32) = 0 then 0 else 1)) (i := 50) (by decide))]
    generalize aT A (if (0 : Int32) = 0 then 0 else 1) = A9 at hm17 hB1 hB2 ⊢
    have hA1 := hB1
    have hA2 := hB2
    generalize mi M 40 (nI (if (0 : Int32) = 0 then 0 else 1)) = M17 at hm17 hr17
    refine pm_if_eq (tgt := 25) dX7_total_20 (by decide) (fun h20 => ?_) (fun h20 => ?_)
    · skip
      skip
      refine pm_iconst (v := 0) dX7_total_25 (by decide) ?_
      refine pm_istn dX7_total_26 (i := 2) rfl (by decide) ?_
      dsimp only [List.set]
      refine pm_iconst (v := 0) dX7_total_27 (by decide) ?_
      refine pm_istn dX7_total_28 (i := 3) rfl (by decide) ?_
      dsimp only [List.set]
      refine pm_iconst (v := 0) dX7_total_29 (by decide) ?_
      refine pm_istore dX7_total_30 (by decide) ?_
      dsimp only [List.set]
      have loop : ∀ (m k : Nat), k + m = az_a Z 0 → pm_W G l bs yX7_total.cls cX7_total 5 false 2 0 0 Q9 32 [.ref (A9 50), .int (nI j), .int (nI (k - zCnt Z 2 k)), .int (nI (zReadies Z k)), .int (nI k)] [] S17 := by
        intro m
        induction m using Nat.strongRecOn with
        | ind m ih =>
        intro k hkm
        refine pm_iload dX7_total_32 rfl ?_
        refine pm_aload_n dX7_total_34 rfl ?_
        refine pm_g_Model_count hm17.1 pm_f_X7_121 dX7_total_35 ?_
        rw [hm17.f (g := 375) (f := 25) rfl]
        rw [hr17.A (i := 0) rfl]
        refine pm_icmp_ge (tgt := 84) dX7_total_38 (by decide) (fun h38 => ?_) (fun h38 => ?_)
        · skip
          have h8 : k = az_a Z 0 := by have := (pm_nle (a := az_a Z 0) (b := k) (by omega) (by omega)).mp h38; omega
          subst h8
          refine pm_iload_n dX7_total_84 rfl ?_
          match j, hj with
          | 0, _ =>
            refine pm_tableIn (tgt := 132) dX7_total_85 (by decide) (by decide) rfl (by decide) ?_
            refine pm_aload_n dX7_total_132 rfl ?_
            refine pm_g_Model_count hm17.1 pm_f_X7_121 dX7_total_133 ?_
            rw [hm17.f (g := 375) (f := 25) rfl]
            rw [hr17.A (i := 0) rfl]
            subst hQ9
            refine pm_iret dX7_total_136 ?_
            exact ⟨rfl, A9, M17, hA2, hA1, hm17, hr17⟩
          | 1, _ =>
            refine pm_tableIn (tgt := 137) dX7_total_85 (by decide) (by decide) rfl (by decide) ?_
            refine pm_iload_n dX7_total_137 rfl ?_
            subst hQ9
            refine pm_iret dX7_total_138 ?_
            exact ⟨by show _ = nI (az_a Z 0 - az_a Z 1); rw [hI.2.2.2.2.1.1], A9, M17, hA2, hA1, hm17, hr17⟩
          | 2, _ =>
            refine pm_tableIn (tgt := 139) dX7_total_85 (by decide) (by decide) rfl (by decide) ?_
            refine pm_iload_n dX7_total_139 rfl ?_
            subst hQ9
            refine pm_iret dX7_total_140 ?_
            exact ⟨rfl, A9, M17, hA2, hA1, hm17, hr17⟩
          | 3, _ =>
            refine pm_tableIn (tgt := 141) dX7_total_85 (by decide) (by decide) rfl (by decide) ?_
            refine pm_aload_n dX7_total_141 rfl ?_
            refine pm_g_Model_slices hm17.1 pm_f_X7_263 dX7_total_142 ?_
            rw [hm17.f (g := 386) (f := 36) rfl]
            rw [hr17.A (i := 4) rfl]
            subst hQ9
            refine pm_iret dX7_total_145 ?_
            exact ⟨rfl, A9, M17, hA2, hA1, hm17, hr17⟩
          | 4, _ =>
            refine pm_tableIn (tgt := 146) dX7_total_85 (by decide) (by decide) rfl (by decide) ?_
            refine pm_aload_n dX7_total_146 rfl ?_
            refine pm_g_Model_allDone hm17.1 pm_f_X7_206 dX7_total_147 ?_
            rw [hm17.f (g := 387) (f := 37) rfl]
            rw [hr17.A (i := 5) rfl]
            subst hQ9
            refine pm_iret dX7_total_150 ?_
            exact ⟨rfl, A9, M17, hA2, hA1, hm17, hr17⟩
          | 5, _ =>
            refine pm_tableIn (tgt := 151) dX7_total_85 (by decide) (by decide) rfl (by decide) ?_
            refine pm_aload_n dX7_total_151 rfl ?_
            refine pm_g_Model_time hm17.1 pm_f_X7_251 dX7_total_152 ?_
            rw [hm17.f (g := 388) (f := 38) rfl]
            rw [hr17.A (i := 6) rfl]
            subst hQ9
            refine pm_iret dX7_total_155 ?_
            exact ⟨rfl, A9, M17, hA2, hA1, hm17, hr17⟩
          | 6, _ =>
            refine pm_tableIn (tgt := 156) dX7_total_85 (by decide) (by decide) rfl (by decide) ?_
            refine pm_aload_n dX7_total_156 rfl ?_
            refine pm_g_Model_printed hm17.1 pm_f_X7_260 dX7_total_157 ?_
            rw [hm17.f (g := 385) (f := 35) rfl]
            rw [hr17.A (i := 9) rfl]
            subst hQ9
            refine pm_iret dX7_total_160 ?_
            exact ⟨rfl, A9, M17, hA2, hA1, hm17, hr17⟩
          | 7, _ =>
            refine pm_tableIn (tgt := 161) dX7_total_85 (by decide) (by decide) rfl (by decide) ?_
            refine pm_aload_n dX7_total_161 rfl ?_
            refine pm_g_Model_made hm17.1 pm_f_X7_257 dX7_total_162 ?_
            rw [hm17.f (g := 381) (f := 31) rfl]
            rw [hr17.A (i := 8) rfl]
            subst hQ9
            refine pm_iret dX7_total_165 ?_
            exact ⟨rfl, A9, M17, hA2, hA1, hm17, hr17⟩
          | 8, _ =>
            refine pm_tableOut (tgt := 166) dX7_total_85 (by decide) (by decide) ?_
            refine pm_aload_n dX7_total_166 rfl ?_
            refine pm_g_Model_came hm17.1 pm_f_X7_140 dX7_total_167 ?_
            rw [hm17.f (g := 389) (f := 39) rfl]
            rw [hr17.A (i := 7) rfl]
            subst hQ9
            refine pm_iret dX7_total_170 ?_
            exact ⟨rfl, A9, M17, hA2, hA1, hm17, hr17⟩
          | _ + 9, hj => exact absurd hj (by omega)
        · skip
          have h8 : k < az_a Z 0 := by rcases Nat.lt_or_ge (k) (az_a Z 0) with y | y; exact y; exact absurd ((pm_nle (a := az_a Z 0) (b := k) (by omega) (by omega)).mpr y) h38
          have c1 := zCnt_s Z 2 k
          have c2 := zCnt_le Z 2 k
          refine pm_iload_n dX7_total_41 rfl ?_
          refine pm_aload_n dX7_total_42 rfl ?_
          refine pm_g_Model_state hm17.1 pm_f_X7_29 (hm17.2.1 6 (by decide)).1 dX7_total_43 ?_
          refine pm_iload dX7_total_46 rfl ?_
          refine mm_iaload (n := _) hm17 (by decide) rfl (by show _ < 60; omega) dX7_total_48 ?_
          refine pm_iconst (v := 2) dX7_total_49 (by decide) ?_
          rw [hr17.B (i := 1) h8 rfl]
          refine pm_icmp_ne (tgt := 57) dX7_total_50 (by decide) (fun h50 => ?_) (fun h50 => ?_)
          · skip
            have g1 : ¬ az_b Z 1 k = 2 := fun z => h50 ((pm_e2 (hsm k h8 1 (by decide))).mpr z)
            rw [if_neg g1] at c1
            have e1 : k - zCnt Z 2 k + 1 = k + 1 - zCnt Z 2 (k + 1) := by omega
            refine pm_iconst (v := 1) dX7_total_57 (by decide) ?_
            refine pm_iadd dX7_total_58 ?_
            first | rw [show nI (k - zCnt Z 2 k) + 1 = nI (k + 1 - zCnt Z 2 (k + 1)) from by rw [nI_1, e1]] | rw [show nI (k - zCnt Z 2 k) + 0 = nI (k + 1 - zCnt Z 2 (k + 1)) from by rw [show (0 : Int32) = nI 0 from rfl, nI_add, e1]]
            refine pm_istn dX7_total_59 (i := 2) rfl (by decide) ?_
            dsimp only [List.set]
            refine pm_iload_n dX7_total_60 rfl ?_
            refine pm_aload_n dX7_total_61 rfl ?_
            refine pm_g_Model_state hm17.1 pm_f_X7_29 (hm17.2.1 6 (by decide)).1 dX7_total_62 ?_
            refine pm_iload dX7_total_65 rfl ?_
            refine mm_iaload (n := _) hm17 (by decide) rfl (by show _ < 60; omega) dX7_total_67 ?_
            rw [hr17.B (i := 1) h8 rfl]
            refine pm_if_ne (tgt := 75) dX7_total_68 (by decide) (fun h68 => ?_) (fun h68 => ?_)
            · skip
              have g2 : ¬ az_b Z 1 k = 0 := fun z => h68 ((pm_e0 (hsm k h8 1 (by decide))).mpr z)
              have e2 : zReadies Z k + 0 = zReadies Z (k + 1) := by rw [zReadies, if_neg g2]
              refine pm_iconst (v := 0) dX7_total_75 (by decide) ?_
              refine pm_iadd dX7_total_76 ?_
              first | rw [show nI (zReadies Z k) + 1 = nI (zReadies Z (k + 1)) from by rw [nI_1, e2]] | rw [show nI (zReadies Z k) + 0 = nI (zReadies Z (k + 1)) from by rw [show (0 : Int32) = nI 0 from rfl, nI_add, e2]]
              refine pm_istn dX7_total_77 (i := 3) rfl (by decide) ?_
              dsimp only [List.set]
              refine pm_iinc dX7_total_78 rfl rfl (by decide) ?_
              dsimp only [List.set]
              refine pm_goto (tgt := 32) dX7_total_81 (by decide) ?_
              rw [show nI k + Int32.ofInt 1 = nI (k + 1) from nI_1 _]
              exact ih (m - 1) (by omega) (k + 1) (by omega)
            · skip
              have g2 : az_b Z 1 k = 0 := (pm_e0 (hsm k h8 1 (by decide))).mp h68
              have e2 : zReadies Z k + 1 = zReadies Z (k + 1) := by rw [zReadies, if_pos g2]
              refine pm_iconst (v := 1) dX7_total_71 (by decide) ?_
              refine pm_goto (tgt := 76) dX7_total_72 (by decide) ?_
              refine pm_iadd dX7_total_76 ?_
              first | rw [show nI (zReadies Z k) + 1 = nI (zReadies Z (k + 1)) from by rw [nI_1, e2]] | rw [show nI (zReadies Z k) + 0 = nI (zReadies Z (k + 1)) from by rw [show (0 : Int32) = nI 0 from rfl, nI_add, e2]]
              refine pm_istn dX7_total_77 (i := 3) rfl (by decide) ?_
              dsimp only [List.set]
              refine pm_iinc dX7_total_78 rfl rfl (by decide) ?_
              dsimp only [List.set]
              refine pm_goto (tgt := 32) dX7_total_81 (by decide) ?_
              rw [show nI k + Int32.ofInt 1 = nI (k + 1) from nI_1 _]
              exact ih (m - 1) (by omega) (k + 1) (by omega)
          · skip
            have g1 : az_b Z 1 k = 2 := (pm_e2 (hsm k h8 1 (by decide))).mp h50
            rw [if_pos g1] at c1
            have e1 : k - zCnt Z 2 k + 0 = k + 1 - zCnt Z 2 (k + 1) := by omega
            refine pm_iconst (v := 0) dX7_total_53 (by decide) ?_
            refine pm_goto (tgt := 58) dX7_total_54 (by decide) ?_
            refine pm_iadd dX7_total_58 ?_
            first | rw [show nI (k - zCnt Z 2 k) + 1 = nI (k + 1 - zCnt Z 2 (k + 1)) from by rw [nI_1, e1]] | rw [show nI (k - zCnt Z 2 k) + 0 = nI (k + 1 - zCnt Z 2 (k + 1)) from by rw [show (0 : Int32) = nI 0 from rfl, nI_add, e1]]
            refine pm_istn dX7_total_59 (i := 2) rfl (by decide) ?_
            dsimp only [List.set]
            refine pm_iload_n dX7_total_60 rfl ?_
            refine pm_aload_n dX7_total_61 rfl ?_
            refine pm_g_Model_state hm17.1 pm_f_X7_29 (hm17.2.1 6 (by decide)).1 dX7_total_62 ?_
            refine pm_iload dX7_total_65 rfl ?_
            refine mm_iaload (n := _) hm17 (by decide) rfl (by show _ < 60; omega) dX7_total_67 ?_
            rw [hr17.B (i := 1) h8 rfl]
            refine pm_if_ne (tgt := 75) dX7_total_68 (by decide) (fun h68 => ?_) (fun h68 => ?_)
            · skip
              have g2 : ¬ az_b Z 1 k = 0 := fun z => h68 ((pm_e0 (hsm k h8 1 (by decide))).mpr z)
              have e2 : zReadies Z k + 0 = zReadies Z (k + 1) := by rw [zReadies, if_neg g2]
              refine pm_iconst (v := 0) dX7_total_75 (by decide) ?_
              refine pm_iadd dX7_total_76 ?_
              first | rw [show nI (zReadies Z k) + 1 = nI (zReadies Z (k + 1)) from by rw [nI_1, e2]] | rw [show nI (zReadies Z k) + 0 = nI (zReadies Z (k + 1)) from by rw [show (0 : Int32) = nI 0 from rfl, nI_add, e2]]
              refine pm_istn dX7_total_77 (i := 3) rfl (by decide) ?_
              dsimp only [List.set]
              refine pm_iinc dX7_total_78 rfl rfl (by decide) ?_
              dsimp only [List.set]
              refine pm_goto (tgt := 32) dX7_total_81 (by decide) ?_
              rw [show nI k + Int32.ofInt 1 = nI (k + 1) from nI_1 _]
              exact ih (m - 1) (by omega) (k + 1) (by omega)
            · skip
              have g2 : az_b Z 1 k = 0 := (pm_e0 (hsm k h8 1 (by decide))).mp h68
              have e2 : zReadies Z k + 1 = zReadies Z (k + 1) := by rw [zReadies, if_pos g2]
              refine pm_iconst (v := 1) dX7_total_71 (by decide) ?_
              refine pm_goto (tgt := 76) dX7_total_72 (by decide) ?_
              refine pm_iadd dX7_total_76 ?_
              first | rw [show nI (zReadies Z k) + 1 = nI (zReadies Z (k + 1)) from by rw [nI_1, e2]] | rw [show nI (zReadies Z k) + 0 = nI (zReadies Z (k + 1)) from by rw [show (0 : Int32) = nI 0 from rfl, nI_add, e2]]
              refine pm_istn dX7_total_77 (i := 3) rfl (by decide) ?_
              dsimp only [List.set]
              refine pm_iinc dX7_total_78 rfl rfl (by decide) ?_
              dsimp only [List.set]
              refine pm_goto (tgt := 32) dX7_total_81 (by decide) ?_
              rw [show nI k + Int32.ofInt 1 = nI (k + 1) from nI_1 _]
              exact ih (m - 1) (by omega) (k + 1) (by omega)
      exact loop (az_a Z 0) 0 (by omega)
    · exact absurd rfl h20
  · exact absurd h8 (by decide)

set_option maxHeartbeats 4000000 in
set_option maxRecDepth 100000 in
theorem r_X7_total (G : pm_G) (l : Launch) (bs : Nat) (A : Nat → Nat) (E : pm_S) (M : pm_N) (b : Nat) (Z : az) (s : Nat) (x : Int32) (S : pm_S) (hm : pm_MX M S A E) (hr : mR b Z M) (hI : zI s Z) (hbad : ¬ (0 ≤ x ∧ x ≤ 8)) : pm_M G l bs yX7_total cX7_total 5 (some .int) 2 0 0 [.ref (A 50), .int x] S (pm_qi (fun x S2 => ∃ A2 M2, (∀ i, i ≠ 60 → A2 i = A i) ∧ A2 60 = 1 ∧ pm_MX M2 S2 A2 E ∧ mR b Z M2)) := by
  refine pm_Mi (L := [.ref (A 50), .int x, pm_u, pm_u, pm_u]) (by decide +kernel) rfl (pm_en_1 rfl (pm_en_1 rfl (pm_en_0 rfl))) ?_
  generalize hQ9 : pm_xi (fun x S2 => ∃ A2 M2, (∀ i, i ≠ 60 → A2 i = A i) ∧ A2 60 = 1 ∧ pm_MX M2 S2 A2 E ∧ mR b Z M2) = Q9
  refine pm_aload_n dX7_total_0 rfl ?_
  refine pm_iload_n dX7_total_1 rfl ?_
  refine pm_iconst (v := 0) dX7_total_2 (by decide) ?_
  refine pm_bipush (v := 8) dX7_total_3 (by decide) ?_
  refine pm_ssi (c_X7_within G l bs x 0 8 _) pm_y_X7_within pm_s_X7_within pm_m_X7_110 dX7_total_5 rfl rfl (by decide) (Nat.le_of_ble_eq_true rfl) (fun x5 S5 h5 => ?_)
  obtain ⟨rfl, rfl⟩ := h5
  refine pm_if_ne (tgt := 15) dX7_total_8 (by decide) (fun h8 => ?_) (fun h8 => ?_)
  · exact absurd (Classical.byContradiction (fun z => h8 (if_neg z))) hbad
  · skip
    skip
    refine pm_iconst (v := 1) dX7_total_11 (by decide) ?_
    refine pm_goto (tgt := 16) dX7_total_12 (by decide) ?_
    refine pm_iconst (v := 1) dX7_total_16 (by decide) ?_
    refine pm_vi (c_X7_fails G l bs A E M 1 1 _ hm (Or.inr rfl)) pm_y_X7_fails pm_v_X7_fails pm_m_X7_114 (c := 7) (r := (RX7, TX7, 41)) rfl rfl hm.1 dX7_total_17 rfl rfl (by decide) (Nat.le_of_ble_eq_true rfl) (fun x17 S17 h17 => ?_)
    obtain ⟨rfl, hm17⟩ := h17
    have hr17 := hr.thr (v := nI (if (1 : Int32) = 0 then 0 else 1))
    have hB1 : aT A (if (1 : Int32) = 0 then 0 else 1) 60 = 1 := rfl
    have hB2 : ∀ i, i ≠ 60 → aT A (if (1 : Int32) = 0 then 0 else 1) i = A i := fun i hi => if_neg hi
    rw [← (aT_o (A := A) (v := (if (1 : Int32) = 0 then 0 else 1)) (i := 50) (by decide))]
    generalize aT A (if (1 : Int32) = 0 then 0 else 1) = A9 at hm17 hB1 hB2 ⊢
    have hA1 := hB1
    have hA2 := hB2
    generalize mi M 40 (nI (if (1 : Int32) = 0 then 0 else 1)) = M17 at hm17 hr17
    refine pm_if_eq (tgt := 25) dX7_total_20 (by decide) (fun h20 => ?_) (fun h20 => ?_)
    · exact absurd h20 (by decide)
    · skip
      skip
      refine pm_iconst (v := 0) dX7_total_23 (by decide) ?_
      subst hQ9
      refine pm_iret dX7_total_24 ?_
      exact ⟨A9, _, hA2, hA1, hm17, hr17⟩

set_option maxHeartbeats 4000000 in
set_option maxRecDepth 100000 in
theorem r_X7_run (G : pm_G) (l : Launch) (bs : Nat) (A : Nat → Nat) (E : pm_S) (M : pm_N) (b : Nat) (Z : az) (s : Nat) (x : Int32) (S : pm_S) (hm : pm_MX M S A E) (hr : mR b Z M) (hI : zI s Z) (hbad : ¬ (0 ≤ x ∧ x ≤ 60)) : pm_M G l bs yX7_run cX7_run 7 (some .int) 2 0 0 [.ref (A 50), .int x] S (pm_qi (fun x S2 => ∃ A2 M2, (∀ i, i ≠ 60 → A2 i = A i) ∧ A2 60 = 1 ∧ pm_MX M2 S2 A2 E ∧ mR b Z M2)) := by
  refine pm_Mi (L := [.ref (A 50), .int x, pm_u, pm_u, pm_u, pm_u, pm_u]) (by decide +kernel) rfl (pm_en_1 rfl (pm_en_1 rfl (pm_en_0 rfl))) ?_
  generalize hQ9 : pm_xi (fun x S2 => ∃ A2 M2, (∀ i, i ≠ 60 → A2 i = A i) ∧ A2 60 = 1 ∧ pm_MX M2 S2 A2 E ∧ mR b Z M2) = Q9
  refine pm_aload_n dX7_run_0 rfl ?_
  refine pm_iload_n dX7_run_1 rfl ?_
  refine pm_iconst (v := 0) dX7_run_2 (by decide) ?_
  refine pm_bipush (v := 60) dX7_run_3 (by decide) ?_
  refine pm_ssi (c_X7_within G l bs x 0 60 _) pm_y_X7_within pm_s_X7_within pm_m_X7_110 dX7_run_5 rfl rfl (by decide) (Nat.le_of_ble_eq_true rfl) (fun x5 S5 h5 => ?_)
  obtain ⟨rfl, rfl⟩ := h5
  refine pm_if_ne (tgt := 15) dX7_run_8 (by decide) (fun h8 => ?_) (fun h8 => ?_)
  · exact absurd (Classical.byContradiction (fun z => h8 (if_neg z))) hbad
  · skip
    skip
    refine pm_iconst (v := 1) dX7_run_11 (by decide) ?_
    refine pm_goto (tgt := 16) dX7_run_12 (by decide) ?_
    refine pm_iconst (v := 1) dX7_run_16 (by decide) ?_
    refine pm_vi (c_X7_fails G l bs A E M 1 1 _ hm (Or.inr rfl)) pm_y_X7_fails pm_v_X7_fails pm_m_X7_114 (c := 7) (r := (RX7, TX7, 41)) rfl rfl hm.1 dX7_run_17 rfl rfl (by decide) (Nat.le_of_ble_eq_true rfl) (fun x17 S17 h17 => ?_)
    obtain ⟨rfl, hm17⟩ := h17
    have hr17 := hr.thr (v := nI (if (1 : Int32) = 0 then 0 else 1))
    have hB1 : aT A (if (1 : Int32) = 0 then 0 else 1) 60 = 1 := rfl
    have hB2 : ∀ i, i ≠ 60 → aT A (if (1 : Int32) = 0 then 0 else 1) i = A i := fun i hi => if_neg hi
    rw [← (aT_o (A := A) (v := (if (1 : Int32) = 0 then 0 else 1)) (i := 50) (by decide))]
    generalize aT A (if (1 : Int32) = 0 then 0 else 1) = A9 at hm17 hB1 hB2 ⊢
    have hA1 := hB1
    have hA2 := hB2
    generalize mi M 40 (nI (if (1 : Int32) = 0 then 0 else 1)) = M17 at hm17 hr17
    refine pm_if_eq (tgt := 25) dX7_run_20 (by decide) (fun h20 => ?_) (fun h20 => ?_)
    · exact absurd h20 (by decide)
    · skip
      skip
      refine pm_iconst (v := 0) dX7_run_23 (by decide) ?_
      subst hQ9
      refine pm_iret dX7_run_24 ?_
      exact ⟨A9, _, hA2, hA1, hm17, hr17⟩

set_option maxHeartbeats 4000000 in
set_option maxRecDepth 100000 in
theorem r_X7_pass (G : pm_G) (l : Launch) (bs : Nat) (A : Nat → Nat) (E : pm_S) (M : pm_N) (b : Nat) (Z : az) (s : Nat) (x : Int32) (S : pm_S) (hm : pm_MX M S A E) (hr : mR b Z M) (hI : zI s Z) (hbad : ¬ (0 ≤ x ∧ x ≤ 10000)) : pm_M G l bs yX7_pass cX7_pass 5 (some .int) 2 0 0 [.ref (A 50), .int x] S (pm_qi (fun x S2 => ∃ A2 M2, (∀ i, i ≠ 60 → A2 i = A i) ∧ A2 60 = 1 ∧ pm_MX M2 S2 A2 E ∧ mR b Z M2)) := by
  refine pm_Mi (L := [.ref (A 50), .int x, pm_u, pm_u, pm_u]) (by decide +kernel) rfl (pm_en_1 rfl (pm_en_1 rfl (pm_en_0 rfl))) ?_
  generalize hQ9 : pm_xi (fun x S2 => ∃ A2 M2, (∀ i, i ≠ 60 → A2 i = A i) ∧ A2 60 = 1 ∧ pm_MX M2 S2 A2 E ∧ mR b Z M2) = Q9
  refine pm_aload_n dX7_pass_0 rfl ?_
  refine pm_iload_n dX7_pass_1 rfl ?_
  refine pm_iconst (v := 0) dX7_pass_2 (by decide) ?_
  refine pm_sipush (v := 10000) dX7_pass_3 (by decide) ?_
  refine pm_ssi (c_X7_within G l bs x 0 10000 _) pm_y_X7_within pm_s_X7_within pm_m_X7_110 dX7_pass_6 rfl rfl (by decide) (Nat.le_of_ble_eq_true rfl) (fun x6 S6 h6 => ?_)
  obtain ⟨rfl, rfl⟩ := h6
  refine pm_if_ne (tgt := 16) dX7_pass_9 (by decide) (fun h9 => ?_) (fun h9 => ?_)
  · exact absurd (Classical.byContradiction (fun z => h9 (if_neg z))) hbad
  · skip
    skip
    refine pm_iconst (v := 1) dX7_pass_12 (by decide) ?_
    refine pm_goto (tgt := 17) dX7_pass_13 (by decide) ?_
    refine pm_iconst (v := 1) dX7_pass_17 (by decide) ?_
    refine pm_vi (c_X7_fails G l bs A E M 1 1 _ hm (Or.inr rfl)) pm_y_X7_fails pm_v_X7_fails pm_m_X7_114 (c := 7) (r := (RX7, TX7, 41)) rfl rfl hm.1 dX7_pass_18 rfl rfl (by decide) (Nat.le_of_ble_eq_true rfl) (fun x18 S18 h18 => ?_)
    obtain ⟨rfl, hm18⟩ := h18
    have hr18 := hr.thr (v := nI (if (1 : Int32) = 0 then 0 else 1))
    have hB1 : aT A (if (1 : Int32) = 0 then 0 else 1) 60 = 1 := rfl
    have hB2 : ∀ i, i ≠ 60 → aT A (if (1 : Int32) = 0 then 0 else 1) i = A i := fun i hi => if_neg hi
    rw [← (aT_o (A := A) (v := (if (1 : Int32) = 0 then 0 else 1)) (i := 50) (by decide))]
    generalize aT A (if (1 : Int32) = 0 then 0 else 1) = A9 at hm18 hB1 hB2 ⊢
    have hA1 := hB1
    have hA2 := hB2
    generalize mi M 40 (nI (if (1 : Int32) = 0 then 0 else 1)) = M18 at hm18 hr18
    refine pm_if_eq (tgt := 26) dX7_pass_21 (by decide) (fun h21 => ?_) (fun h21 => ?_)
    · exact absurd h21 (by decide)
    · skip
      skip
      refine pm_iconst (v := 0) dX7_pass_24 (by decide) ?_
      subst hQ9
      refine pm_iret dX7_pass_25 ?_
      exact ⟨A9, _, hA2, hA1, hm18, hr18⟩

theorem zD_n {Z : az} {m k : Nat} {r : Option Nat} (h : ∀ u, az_e Z 1 k = some u → ¬ (az_b Z 1 k = 1 ∧ u ≤ az_a Z 6)) : zDue Z (m + 1) k r = zDue Z m (k + 1) r := by
  show zDue Z m (k + 1) _ = _
  cases q : az_e Z 1 k with
  | none => rfl
  | some u => dsimp only; rw [if_neg (h u q)]
theorem zD_0 {Z : az} {m k u : Nat} (h : az_e Z 1 k = some u) (h1 : az_b Z 1 k = 1) (h2 : u ≤ az_a Z 6) : zDue Z (m + 1) k none = zDue Z m (k + 1) (some k) := by
  show zDue Z m (k + 1) _ = _
  rw [h]; dsimp only; rw [if_pos ⟨h1, h2⟩]
theorem zD_t {Z : az} {m k u q v : Nat} (h : az_e Z 1 k = some u) (h1 : az_b Z 1 k = 1) (h2 : u ≤ az_a Z 6) (hq : az_e Z 1 q = some v) (h3 : u < v) : zDue Z (m + 1) k (some q) = zDue Z m (k + 1) (some k) := by
  show zDue Z m (k + 1) _ = _
  rw [h]; dsimp only; rw [if_pos ⟨h1, h2⟩, hq, if_pos (show u < (some v).getD 0 from h3)]
theorem zD_f {Z : az} {m k u q v : Nat} (h : az_e Z 1 k = some u) (h1 : az_b Z 1 k = 1) (h2 : u ≤ az_a Z 6) (hq : az_e Z 1 q = some v) (h3 : ¬ u < v) : zDue Z (m + 1) k (some q) = zDue Z m (k + 1) (some q) := by
  show zDue Z m (k + 1) _ = _
  rw [h]; dsimp only; rw [if_pos ⟨h1, h2⟩, hq, if_neg (show ¬ u < (some v).getD 0 from h3)]
set_option maxHeartbeats 4000000 in
set_option maxRecDepth 100000 in
theorem passI (G : pm_G) (l : Launch) (bs : Nat) (A : Nat → Nat) (E : pm_S) (b s : Nat) (Z : az) (M : pm_N) (S : pm_S) (Q9 : Instr → List Value → pm_S → Prop) (x1 x2 : Int32) (hm : pm_MX M S A E) (hr : mR b Z M) (hI : zI s Z) (hk : ∀ v4 : Value, pm_W G l bs yX7_pass.cls cX7_pass 5 false 2 0 0 Q9 117 [.ref (A 50), .int x1, .int x2, .int (zNm (zDue Z (az_a Z 0) 0 none)), v4] [] S) : ∀ (m k : Nat) (r : Option Nat), k + m = az_a Z 0 → (∀ q, r = some q → q < az_a Z 0 ∧ az_b Z 1 q = 1 ∧ ∃ v, az_e Z 1 q = some v ∧ v ≤ az_a Z 6) → zDue Z m k r = zDue Z (az_a Z 0) 0 none → pm_W G l bs yX7_pass.cls cX7_pass 5 false 2 0 0 Q9 43 [.ref (A 50), .int x1, .int x2, .int (zNm r), .int (nI k)] [] S := by
  have hn := hI.1
  have hsm := hI.sm
  have h6 : az_a Z 6 < 16777216 := hI.2.2.2.2.2.2.2.2.2.2.2.2.2
  intro m
  induction m using Nat.strongRecOn with
  | ind m ih =>
  intro k r hkm hrr hR
  refine pm_iload dX7_pass_43 rfl ?_
  refine pm_aload_n dX7_pass_45 rfl ?_
  refine pm_g_Model_count hm.1 pm_f_X7_121 dX7_pass_46 ?_
  rw [hm.f (g := 375) (f := 25) rfl]
  rw [hr.A (i := 0) rfl]
  refine pm_icmp_ge (tgt := 117) dX7_pass_49 (by decide) (fun h49 => ?_) (fun h49 => ?_)
  · skip
    have h8 : k = az_a Z 0 := by have := (pm_nle (a := az_a Z 0) (b := k) (by omega) (by omega)).mp h49; omega
    obtain rfl : m = 0 := by omega
    rw [show r = zDue Z (az_a Z 0) 0 none from hR]
    exact hk _
  · skip
    have h8 : k < az_a Z 0 := by rcases Nat.lt_or_ge (k) (az_a Z 0) with y | y; exact y; exact absurd ((pm_nle (a := az_a Z 0) (b := k) (by omega) (by omega)).mpr y) h49
    obtain ⟨m, rfl⟩ : ∃ m2, m = m2 + 1 := ⟨m - 1, by omega⟩
    refine pm_aload_n dX7_pass_52 rfl ?_
    refine pm_g_Model_state hm.1 pm_f_X7_29 (hm.2.1 6 (by decide)).1 dX7_pass_53 ?_
    refine pm_iload dX7_pass_56 rfl ?_
    refine mm_iaload (n := _) hm (by decide) rfl (by show _ < 60; omega) dX7_pass_58 ?_
    refine pm_iconst (v := 1) dX7_pass_59 (by decide) ?_
    rw [hr.B (i := 1) h8 rfl]
    refine pm_icmp_ne (tgt := 111) dX7_pass_60 (by decide) (fun h60 => ?_) (fun h60 => ?_)
    · skip
      have g1 : ¬ az_b Z 1 k = 1 := fun z => h60 (by rw [z]; rfl)
      rw [zD_n (fun u _ z => g1 z.1)] at hR
      have hrr2 := hrr
      refine pm_iinc dX7_pass_111 rfl rfl (by decide) ?_
      dsimp only [List.set]
      refine pm_goto (tgt := 43) dX7_pass_114 (by decide) ?_
      rw [show nI k + Int32.ofInt 1 = nI (k + 1) from nI_1 _]
      first
      | exact ih m (by omega) (k + 1) (some k) (by omega) hrr2 hR
      | exact ih m (by omega) (k + 1) _ (by omega) hrr2 hR
    · skip
      have g1 : az_b Z 1 k = 1 := (nI_eq (b := 1) (hsm k h8 1 (by decide)) (by decide)).mp h60
      have hq5 := ((hr.2.2.2.2.1 k h8).2 g1).2
      refine pm_aload_n dX7_pass_63 rfl ?_
      refine pm_g_Model_timed hm.1 pm_f_X7_78 (hm.2.1 22 (by decide)).1 dX7_pass_64 ?_
      refine pm_iload dX7_pass_67 rfl ?_
      refine mm_baload (n := _) hm (by decide) rfl (by show _ < 60; omega) dX7_pass_69 ?_
      refine pm_if_eq (tgt := 111) dX7_pass_70 (by decide) (fun h70 => ?_) (fun h70 => ?_)
      · skip
        have g2 : az_e Z 1 k = none := by rcases hq5 with ⟨y, -⟩ | ⟨u, -, y, -⟩; exact y; rw [y] at h70; cases h70
        rw [zD_n (fun u e _ => by rw [g2] at e; cases e)] at hR
        have hrr2 := hrr
        refine pm_iinc dX7_pass_111 rfl rfl (by decide) ?_
        dsimp only [List.set]
        refine pm_goto (tgt := 43) dX7_pass_114 (by decide) ?_
        rw [show nI k + Int32.ofInt 1 = nI (k + 1) from nI_1 _]
        first
        | exact ih m (by omega) (k + 1) (some k) (by omega) hrr2 hR
        | exact ih m (by omega) (k + 1) _ (by omega) hrr2 hR
      · skip
        obtain ⟨u, hu, ht1, hd1, -⟩ := hq5.resolve_left (fun y => h70 y.2)
        refine pm_aload_n dX7_pass_73 rfl ?_
        refine pm_g_Model_due hm.1 pm_f_X7_75 (hm.2.1 21 (by decide)).1 dX7_pass_74 ?_
        refine pm_iload dX7_pass_77 rfl ?_
        refine mm_iaload (n := _) hm (by decide) rfl (by show _ < 60; omega) dX7_pass_79 ?_
        refine pm_aload_n dX7_pass_80 rfl ?_
        refine pm_g_Model_time hm.1 pm_f_X7_251 dX7_pass_81 ?_
        rw [hm.f (g := 388) (f := 38) rfl]
        rw [hd1, hr.A (i := 6) rfl]
        refine pm_icmp_gt (tgt := 111) dX7_pass_84 (by decide) (fun h84 => ?_) (fun h84 => ?_)
        · skip
          have gu : ¬ u ≤ az_a Z 6 := fun y => Int32.not_le.mpr h84 ((pm_nle (a := min u 2000000000) (b := az_a Z 6) (by omega) (by omega)).mpr (by omega))
          rw [zD_n (fun u2 e z => gu (by rw [hu] at e; rw [Option.some.inj e]; exact z.2))] at hR
          have hrr2 := hrr
          refine pm_iinc dX7_pass_111 rfl rfl (by decide) ?_
          dsimp only [List.set]
          refine pm_goto (tgt := 43) dX7_pass_114 (by decide) ?_
          rw [show nI k + Int32.ofInt 1 = nI (k + 1) from nI_1 _]
          first
          | exact ih m (by omega) (k + 1) (some k) (by omega) hrr2 hR
          | exact ih m (by omega) (k + 1) _ (by omega) hrr2 hR
        · skip
          have gu : u ≤ az_a Z 6 := by have := (pm_nle (a := min u 2000000000) (b := az_a Z 6) (by omega) (by omega)).mp (Int32.not_lt.mp h84); omega
          refine pm_iload_n dX7_pass_87 rfl ?_
          refine pm_iconst (v := (-1)) dX7_pass_88 (by decide) ?_
          refine pm_icmp_eq (tgt := 108) dX7_pass_89 (by decide) (fun h89 => ?_) (fun h89 => ?_)
          · skip
            obtain rfl : r = none := (zNm_none (fun c e => by have := (hrr c e).1; omega)).mp h89
            rw [zD_0 hu g1 gu] at hR
            have hrr2 : ∀ q, some k = some q → q < az_a Z 0 ∧ az_b Z 1 q = 1 ∧ ∃ v, az_e Z 1 q = some v ∧ v ≤ az_a Z 6 := fun q e => by rw [← Option.some.inj e]; exact ⟨h8, g1, u, hu, gu⟩
            refine pm_iload dX7_pass_108 rfl ?_
            refine pm_istn dX7_pass_110 (i := 3) rfl (by decide) ?_
            dsimp only [List.set]
            refine pm_iinc dX7_pass_111 rfl rfl (by decide) ?_
            dsimp only [List.set]
            refine pm_goto (tgt := 43) dX7_pass_114 (by decide) ?_
            rw [show nI k + Int32.ofInt 1 = nI (k + 1) from nI_1 _]
            first
            | exact ih m (by omega) (k + 1) (some k) (by omega) hrr2 hR
            | exact ih m (by omega) (k + 1) _ (by omega) hrr2 hR
          · skip
            obtain ⟨q, rfl⟩ : ∃ q, r = some q := Option.ne_none_iff_exists'.mp (fun y => h89 (by rw [y]; rfl))
            rw [show zNm (some q) = nI q from rfl]
            obtain ⟨hq, hq1, v, hv, hvt⟩ := hrr q rfl
            obtain ⟨v2, hv2, -, hd2, -⟩ := (((hr.2.2.2.2.1 q hq).2 hq1).2).resolve_left (fun y => by rw [hv] at y; cases y.1)
            rw [hv] at hv2
            obtain rfl := Option.some.inj hv2
            refine pm_aload_n dX7_pass_92 rfl ?_
            refine pm_g_Model_due hm.1 pm_f_X7_75 (hm.2.1 21 (by decide)).1 dX7_pass_93 ?_
            refine pm_iload dX7_pass_96 rfl ?_
            refine mm_iaload (n := _) hm (by decide) rfl (by show _ < 60; omega) dX7_pass_98 ?_
            refine pm_aload_n dX7_pass_99 rfl ?_
            refine pm_g_Model_due hm.1 pm_f_X7_75 (hm.2.1 21 (by decide)).1 dX7_pass_100 ?_
            refine pm_iload_n dX7_pass_103 rfl ?_
            refine mm_iaload (n := _) hm (by decide) rfl (by show _ < 60; omega) dX7_pass_104 ?_
            rw [hd1, hd2, Nat.min_eq_left (show u ≤ 2000000000 by omega), Nat.min_eq_left (show v ≤ 2000000000 by omega)]
            refine pm_icmp_ge (tgt := 111) dX7_pass_105 (by decide) (fun h105 => ?_) (fun h105 => ?_)
            · skip
              have g4 : ¬ u < v := by have := (pm_nle (a := v) (b := u) (by omega) (by omega)).mp h105; omega
              rw [zD_f hu g1 gu hv g4] at hR
              have hrr2 := hrr
              refine pm_iinc dX7_pass_111 rfl rfl (by decide) ?_
              dsimp only [List.set]
              refine pm_goto (tgt := 43) dX7_pass_114 (by decide) ?_
              rw [show nI k + Int32.ofInt 1 = nI (k + 1) from nI_1 _]
              first
              | exact ih m (by omega) (k + 1) (some k) (by omega) hrr2 hR
              | exact ih m (by omega) (k + 1) _ (by omega) hrr2 hR
            · skip
              have g4 : u < v := by rcases Nat.lt_or_ge (u) (v) with y | y; exact y; exact absurd ((pm_nle (a := v) (b := u) (by omega) (by omega)).mpr y) h105
              rw [zD_t hu g1 gu hv g4] at hR
              have hrr2 : ∀ q, some k = some q → q < az_a Z 0 ∧ az_b Z 1 q = 1 ∧ ∃ v, az_e Z 1 q = some v ∧ v ≤ az_a Z 6 := fun q e => by rw [← Option.some.inj e]; exact ⟨h8, g1, u, hu, gu⟩
              refine pm_iload dX7_pass_108 rfl ?_
              refine pm_istn dX7_pass_110 (i := 3) rfl (by decide) ?_
              dsimp only [List.set]
              refine pm_iinc dX7_pass_111 rfl rfl (by decide) ?_
              dsimp only [List.set]
              refine pm_goto (tgt := 43) dX7_pass_114 (by decide) ?_
              rw [show nI k + Int32.ofInt 1 = nI (k + 1) from nI_1 _]
              first
              | exact ih m (by omega) (k + 1) (some k) (by omega) hrr2 hR
              | exact ih m (by omega) (k + 1) _ (by omega) hrr2 hR
theorem zDue_some {Z : az} : ∀ {m k : Nat} {r : Option Nat} {q : Nat}, zDue Z m k r = some q → (∀ c, r = some c → ∃ u, az_e Z 1 c = some u) → ∃ u, az_e Z 1 q = some u
  | 0, _, _, q, h, hr => hr q h
  | m + 1, k, r, q, h, hr => by
    refine zDue_some (m := m) (k := k + 1) (r := _) h (fun c hc => ?_)
    cases e : az_e Z 1 k with
    | none => rw [e] at hc; exact hr c hc
    | some u =>
      rw [e] at hc
      dsimp only at hc
      split at hc
      · split at hc
        · obtain rfl := Option.some.inj hc; exact ⟨u, e⟩
        · split at hc
          · obtain rfl := Option.some.inj hc; exact ⟨u, e⟩
          · exact hr c hc
      · exact hr c hc
set_option maxHeartbeats 4000000 in
set_option maxRecDepth 100000 in
theorem c_X7_pass (G : pm_G) (l : Launch) (bs : Nat) (A : Nat → Nat) (E : pm_S) (M : pm_N) (b : Nat) (Z : az) (s : Nat) (n r : Nat) (F : az) (S : pm_S) (hm : pm_MX M S A E) (hr : mR b Z M) (hI : zI s Z) (hn60 : n ≤ 10000) (h6 : az_a Z 6 + n < 16777216) (hF : (zPass (az_a Z 0) (zs_a Z 6 (az_a Z 6 + n))).2 = F) (hr0 : (zPass (az_a Z 0) (zs_a Z 6 (az_a Z 6 + n))).1 = r) : pm_M G l bs yX7_pass cX7_pass 5 (some .int) 2 0 0 [.ref (A 50), .int (nI n)] S (pm_qi (fun x S2 => x = nI r ∧ ∃ A2 M2, (∀ i, i ≠ 60 → A2 i = A i) ∧ A2 60 = 0 ∧ pm_MX M2 S2 A2 E ∧ mR b F M2)) := by
  refine pm_Mi (L := [.ref (A 50), .int (nI n), pm_u, pm_u, pm_u]) (by decide +kernel) rfl (pm_en_1 rfl (pm_en_1 rfl (pm_en_0 rfl))) ?_
  generalize hQ9 : pm_xi (fun x S2 => x = nI r ∧ ∃ A2 M2, (∀ i, i ≠ 60 → A2 i = A i) ∧ A2 60 = 0 ∧ pm_MX M2 S2 A2 E ∧ mR b F M2) = Q9
  refine pm_aload_n dX7_pass_0 rfl ?_
  refine pm_iload_n dX7_pass_1 rfl ?_
  refine pm_iconst (v := 0) dX7_pass_2 (by decide) ?_
  refine pm_sipush (v := 10000) dX7_pass_3 (by decide) ?_
  refine pm_ssi (c_X7_within G l bs (nI n) 0 10000 _) pm_y_X7_within pm_s_X7_within pm_m_X7_110 dX7_pass_6 rfl rfl (by decide) (Nat.le_of_ble_eq_true rfl) (fun x6 S6 h6 => ?_)
  obtain ⟨e6, rfl⟩ := h6
  rw [if_pos ⟨nI_pos' (by omega), (pm_nle (a := n) (b := 10000) (by omega) (by omega)).mpr (by omega)⟩] at e6
  subst e6
  refine pm_if_ne (tgt := 16) dX7_pass_9 (by decide) (fun h9 => ?_) (fun h9 => ?_)
  · skip
    skip
    refine pm_iconst (v := 0) dX7_pass_16 (by decide) ?_
    refine pm_iconst (v := 1) dX7_pass_17 (by decide) ?_
    refine pm_vi (c_X7_fails G l bs A E M 0 1 _ hm (Or.inl rfl)) pm_y_X7_fails pm_v_X7_fails pm_m_X7_114 (c := 7) (r := (RX7, TX7, 41)) rfl rfl hm.1 dX7_pass_18 rfl rfl (by decide) (Nat.le_of_ble_eq_true rfl) (fun x18 S18 h18 => ?_)
    obtain ⟨rfl, hm18⟩ := h18
    have hr18 := hr.thr (v := nI (if (0 : Int32) = 0 then 0 else 1))
    have hB1 : aT A (if (0 : Int32) = 0 then 0 else 1) 60 = 0 := rfl
    have hB2 : ∀ i, i ≠ 60 → aT A (if (0 : Int32) = 0 then 0 else 1) i = A i := fun i hi => if_neg hi
    rw [← (aT_o (A := A) (v := (if (0 : Int32) = 0 then 0 else 1)) (i := 50) (by decide))]
    generalize aT A (if (0 : Int32) = 0 then 0 else 1) = A9 at hm18 hB1 hB2 ⊢
    have hA1 := hB1
    have hA2 := hB2
    generalize mi M 40 (nI (if (0 : Int32) = 0 then 0 else 1)) = M18 at hm18 hr18
    refine pm_if_eq (tgt := 26) dX7_pass_21 (by decide) (fun h21 => ?_) (fun h21 => ?_)
    · skip
      skip
      refine pm_aload_n dX7_pass_26 rfl ?_
      refine pm_dup dX7_pass_27 ?_
      refine pm_g_Model_time hm18.1 pm_f_X7_251 dX7_pass_28 ?_
      rw [hm18.f (g := 388) (f := 38) rfl]
      refine pm_iload_n dX7_pass_31 rfl ?_
      refine pm_iadd dX7_pass_32 ?_
      rw [hr18.A (i := 6) rfl, nI_add]
      refine pm_p_Model_time hm18.1 pm_f_X7_251 dX7_pass_33 ?_
      refine mm_gen (hm18.si (g := 388) (f := 38) rfl) (fun S33 hm33 => ?_)
      have hr33 := hr18.a0 (f := 38) (i := 6) (v := az_a Z 6 + n) rfl (by decide)
      have hI33 := hI.a6 (n := n) h6
      refine pm_iconst (v := 0) dX7_pass_36 (by decide) ?_
      refine pm_istn dX7_pass_37 (i := 2) rfl (by decide) ?_
      dsimp only [List.set]
      have loop : ∀ (m k : Nat) (Z9 : az) (M9 : pm_N) (S9 : pm_S) (v3 v4 : Value), az_a Z9 0 = az_a Z 0 → pm_MX M9 S9 A9 E → mR b Z9 M9 → zI s Z9 → zCnt Z9 1 (az_a Z9 0) ≤ m → (zPass m Z9).2 = F → k + (zPass m Z9).1 = r → pm_W G l bs yX7_pass.cls cX7_pass 5 false 2 0 0 Q9 38 [.ref (A9 50), .int (nI n), .int (nI k), v3, v4] [] S9 := by
        clear hr
        intro m
        induction m using Nat.strongRecOn with
        | ind m ih =>
        intro k Z9 M9 S9 v3 v4 hnn hm9 hr9 hI9 hc hF hr
        have hn := hI9.1
        refine pm_iconst (v := (-1)) dX7_pass_38 (by decide) ?_
        refine pm_istn dX7_pass_39 (i := 3) rfl (by decide) ?_
        dsimp only [List.set]
        refine pm_iconst (v := 0) dX7_pass_40 (by decide) ?_
        refine pm_istore dX7_pass_41 (by decide) ?_
        dsimp only [List.set]
        refine passI G l bs A9 E b s Z9 M9 _ Q9 _ _ hm9 hr9 hI9 (fun v4 => ?_) (az_a Z9 0) 0 none (by omega) (fun q e => by cases e) rfl
        cases hN : zDue Z9 (az_a Z9 0) 0 none with
        | none =>
          refine pm_iload_n dX7_pass_117 rfl ?_
          refine pm_iconst (v := (-1)) dX7_pass_118 (by decide) ?_
          rw [show zNm none = -1 from rfl]
          refine pm_icmp_ne (tgt := 124) dX7_pass_119 (by decide) (fun h119 => ?_) (fun h119 => ?_)
          · exact absurd rfl h119
          · skip
            skip
            refine pm_iload_n dX7_pass_122 rfl ?_
            subst hQ9
            refine pm_iret dX7_pass_123 ?_
            have hz : zPass m Z9 = (0, Z9) := by
              cases m with
              | zero => rfl
              | succ m => rw [zPass, hN]
            rw [hz] at hF hr
            exact ⟨by rw [← hr]; rfl, A9, M9, hA2, hA1, hm9, by rw [← hF]; exact hr9⟩
        | some q =>
          have hq := zDueOf_lt hN
          obtain ⟨m, rfl⟩ : ∃ m2, m = m2 + 1 := ⟨m - 1, by
            have c2 := zCnt_set (Z := Z9) (W := zs_b Z9 1 q 0) (v := 1) (p := q) (fun r hr => by rw [z_b_b, if_neg (fun z => hr z.2)]) (az_a Z9 0) hq.1
            have w1 : az_b (zs_b Z9 1 q 0) 1 q = 0 := by rw [z_b_b, if_pos ⟨rfl, rfl⟩]
            rw [if_pos hq.2, w1, if_neg (by decide)] at c2
            omega⟩
          rw [zPass, hN] at hF hr
          have hF : (zPass m (zReady (zs_b Z9 10 q 0) q (az_b Z9 4 q))).2 = F := hF
          have hr : k + ((zPass m (zReady (zs_b Z9 10 q 0) q (az_b Z9 4 q))).1 + 1) = r := hr
          have hl := hI9.late hq.1 hq.2
          have hqb : ∃ u, az_e Z9 1 q = some u := zDue_some hN (fun c e => by cases e)
          obtain ⟨u, hu⟩ := hqb
          have hlate : M9.1 20 q = nI (az_b Z9 4 q) := by
            obtain ⟨v2, hv2, -, -, h20⟩ := (((hr9.2.2.2.2.1 q hq.1).2 hq.2).2).resolve_left (fun y => by rw [hu] at y; cases y.1)
            exact h20
          have cn : zCnt (zReady (zs_b Z9 10 q 0) q (az_b Z9 4 q)) 1 (az_a Z9 0) ≤ m := by
            have e1 : ∀ r, az_b (zReady (zs_b Z9 10 q 0) q (az_b Z9 4 q)) 1 r = if r = q then 0 else az_b Z9 1 r := fun r => by
              unfold zReady zTurn
              rw [z_b_a, z_b_bne (by decide), z_b_e, z_b_bne (by decide), z_b_b, z_b_bne (by decide)]
              by_cases e : r = q
              · rw [if_pos ⟨rfl, e⟩, if_pos e]
              · rw [if_neg (fun z => e z.2), if_neg e]
            have c2 := zCnt_set (Z := Z9) (W := zReady (zs_b Z9 10 q 0) q (az_b Z9 4 q)) (v := 1) (p := q) (fun r hr => by rw [e1, if_neg hr]) (az_a Z9 0) hq.1
            rw [if_pos hq.2, e1, if_pos rfl, if_neg (by decide)] at c2
            omega
          refine pm_iload_n dX7_pass_117 rfl ?_
          refine pm_iconst (v := (-1)) dX7_pass_118 (by decide) ?_
          rw [show zNm (some q) = nI q from rfl]
          refine pm_icmp_ne (tgt := 124) dX7_pass_119 (by decide) (fun h119 => ?_) (fun h119 => ?_)
          · skip
            skip
            refine pm_aload_n dX7_pass_124 rfl ?_
            refine pm_g_Model_timed hm9.1 pm_f_X7_78 (hm9.2.1 22 (by decide)).1 dX7_pass_125 ?_
            refine pm_iload_n dX7_pass_128 rfl ?_
            refine pm_iconst (v := 0) dX7_pass_129 (by decide) ?_
            refine mm_bastore (n := _) hm9 (by decide) rfl (by show _ < 60; omega) (Or.inl rfl) dX7_pass_130 (fun S130 hm130 => ?_)
            refine pm_aload_n dX7_pass_131 rfl ?_
            refine pm_g_Model_place hm130.1 pm_f_X7_32 (hm130.2.1 7 (by decide)).1 dX7_pass_132 ?_
            refine pm_iload_n dX7_pass_135 rfl ?_
            refine pm_aload_n dX7_pass_136 rfl ?_
            refine pm_g_Model_lateTo hm130.1 pm_f_X7_72 (hm130.2.1 20 (by decide)).1 dX7_pass_137 ?_
            refine pm_iload_n dX7_pass_140 rfl ?_
            refine mm_iaload (n := _) hm130 (by decide) rfl (by show _ < 60; omega) dX7_pass_141 ?_
            rw [mx_o (by decide), hlate]
            refine mm_iastore (n := _) hm130 (by decide) rfl (by show _ < 60; omega) dX7_pass_142 (fun S142 hm142 => ?_)
            refine pm_aload_n dX7_pass_143 rfl ?_
            refine pm_g_Model_pointer hm142.1 pm_f_X7_48 (hm142.2.1 12 (by decide)).1 dX7_pass_144 ?_
            refine pm_iload_n dX7_pass_147 rfl ?_
            refine pm_iconst (v := 0) dX7_pass_148 (by decide) ?_
            refine mm_iastore (n := _) hm142 (by decide) rfl (by show _ < 60; omega) dX7_pass_149 (fun S149 hm149 => ?_)
            refine pm_aload_n dX7_pass_150 rfl ?_
            refine pm_iload_n dX7_pass_151 rfl ?_
            refine pm_vv (c_X7_becomesReady G l bs A9 E _ q _ hm149 (by omega)) pm_y_X7_becomesReady pm_v_X7_becomesReady pm_m_X7_128 (c := 7) (r := (RX7, TX7, 41)) rfl rfl hm149.1 dX7_pass_152 rfl rfl (by decide) (Nat.le_of_ble_eq_true rfl) (fun S152 h152 => ?_)
            have hm152 := h152
            rw [mx_2, mx_2, mx_2, hr9.A (i := 3) rfl, nI_1, mx_comm (s := 7) (s' := 12) (Or.inl (by decide)), mx_comm (s := 22) (s' := 12) (Or.inl (by decide)), mx_comm (s := 22) (s' := 7) (Or.inl (by decide))] at hm152
            have hr152 := (hr9.b0 (s := 12) (i := 10) (v := 0) hq.1 rfl (by decide)).rdyAt (p := q) (a := az_b Z9 4 q) hq.1
            refine pm_iinc dX7_pass_155 rfl rfl (by decide) ?_
            dsimp only [List.set]
            rw [show nI k + Int32.ofInt 1 = nI (k + 1) from nI_1 _]
            refine pm_goto (tgt := 38) dX7_pass_158 (by decide) ?_
            exact ih m (by omega) (k + 1) (zReady (zs_b Z9 10 q 0) q (az_b Z9 4 q)) _ _ _ _ hnn hm152 hr152 hl.1 cn hF (by omega)
          · exact absurd h119 (nIm1 (by omega))
      exact loop (az_a Z 0) 0 (zs_a Z 6 (az_a Z 6 + n)) _ _ _ _ rfl hm33 hr33 hI33 (zCnt_le _ 1 _) hF (by rw [hr0]; omega)
    · exact absurd rfl h21
  · exact absurd h9 (by decide)

