/-! ProcessMill: ending, failing, exits -/
set_option maxHeartbeats 4000000 in
set_option maxRecDepth 100000 in
theorem c_X6_end (G : pm_G) (l : Launch) (bs : Nat) (Z : az) (Y : pm_Y) (E : pm_S) (s : Nat) (p : Nat) (S : pm_S) (hx : pm_CX Z S Y E) (hI : zI s Z) (hp : p < az_a Z 0) (h0 : az_b Z 1 p ≠ 2) : pm_M G l bs yX6_end cX6_end 2 (some .int) 3 0 0 [.ref (Y.1 0), .ref (Y.1 (pq p 0))] S (pm_qi (fun x S2 => x = -1 ∧ pm_CX (zDies Z p [1, 0]) S2 Y E)) := by
  have hn := hI.1
  have hsm := hI.sm
  obtain ⟨h, hmk⟩ := id hx
  have hA := h.2.2.2.2.2.1
  obtain ⟨⟨hk0, hr0, hr1, hr2, hr3, hr4, hr5, hr6, hr7⟩, ⟨hk1, hl1⟩, ⟨hk2, hl2⟩, ⟨hk3, hl3⟩, ⟨hk4, hl4⟩, hWt, hSh, hLt, hCs⟩ := id h.2.2.1
  obtain ⟨kW, rW1, rW2, rW3, kW1, nW1, kW2, nW2, kW3, nW3, -⟩ := id hWt
  have hB := h.2.2.2.2.1 p hp
  obtain ⟨⟨pk0, pr1, pr2, pr4, pr6, ppid⟩, ⟨pk1, pn1, pz1⟩, hmb, hts⟩ := id (h.2.2.2.1 p hp)
  refine pm_Mi (L := [.ref (Y.1 0), .ref (Y.1 (pq p 0))]) (by decide +kernel) rfl (pm_en_1 rfl (pm_en_1 rfl (pm_en_0 rfl))) ?_
  generalize hQ9 : pm_xi (fun x S2 => x = -1 ∧ pm_CX (zDies Z p [1, 0]) S2 Y E) = Q9
  refine pm_aload_n dX6_end_0 rfl ?_
  refine pm_g_Mill_cause (by (try simp only [pm_k_si, pm_k_sj, pm_k_sp, pm_k_sx, pm_k_sz, pm_k_sr, pm_k_sy]); assumption) pm_f_X6_46 (by (try simp only [pm_p_si, pm_p_sj, pm_p_sx, pm_p_sz, pm_p_sr, pm_p_sy]); assumption) dX6_end_1 ?_
  refine pm_iconst (v := 1) dX6_end_4 (by decide) ?_
  refine pm_iconst (v := 0) dX6_end_5 (by decide) ?_
  refine pm_vv (c_X3_setSingle G l bs (Y.1 13) (Y.1 14) 1 0 S hCs) pm_y_X3_setSingle pm_v_X3_setSingle pm_m_X6_95 (c := 3) (r := (RX3, TX3, 2)) rfl rfl hCs.1 dX6_end_6 rfl rfl (by decide) (Nat.le_of_ble_eq_true rfl) (fun S6 h6 => ?_)
  have hx2 := hx.own (t := 13) (Or.inr rfl) h6.1
  obtain ⟨h_2, hmk_2⟩ := id hx2
  have hA_2 := h_2.2.2.2.2.2.1
  obtain ⟨⟨hk0_2, hr0_2, hr1_2, hr2_2, hr3_2, hr4_2, hr5_2, hr6_2, hr7_2⟩, ⟨hk1_2, hl1_2⟩, ⟨hk2_2, hl2_2⟩, ⟨hk3_2, hl3_2⟩, ⟨hk4_2, hl4_2⟩, hWt_2, hSh_2, hLt_2, hCs_2⟩ := id h_2.2.2.1
  obtain ⟨kW_2, rW1_2, rW2_2, rW3_2, kW1_2, nW1_2, kW2_2, nW2_2, kW3_2, nW3_2, -⟩ := id hWt_2
  have hB_2 := h_2.2.2.2.2.1 p hp
  obtain ⟨⟨pk0_2, pr1_2, pr2_2, pr4_2, pr6_2, ppid_2⟩, ⟨pk1_2, pn1_2, pz1_2⟩, hmb_2, hts_2⟩ := id (h_2.2.2.2.1 p hp)
  refine pm_aload_n dX6_end_9 rfl ?_
  refine pm_aload_n dX6_end_10 rfl ?_
  refine pm_aload_n dX6_end_11 rfl ?_
  refine pm_g_Mill_cause (by (try simp only [pm_k_si, pm_k_sj, pm_k_sp, pm_k_sx, pm_k_sz, pm_k_sr, pm_k_sy]); assumption) pm_f_X6_46 (by (try simp only [pm_p_si, pm_p_sj, pm_p_sx, pm_p_sz, pm_p_sr, pm_p_sy]); assumption) dX6_end_12 ?_
  refine pm_vv (c_X6_die G l bs Z Y E s p (Y.1 13) (Y.1 14) [1, 0] S6 hx2 hI hp h0 h6.2) pm_y_X6_die pm_v_X6_die pm_m_X6_333 (c := 6) (r := (RX6, TX6, 16)) rfl rfl (by (try simp only [pm_k_si, pm_k_sj, pm_k_sp, pm_k_sx, pm_k_sz, pm_k_sr, pm_k_sy]); assumption) dX6_end_15 rfl rfl (by decide) (Nat.le_of_ble_eq_true rfl) (fun S15 h15 => ?_)
  refine pm_iconst (v := (-1)) dX6_end_18 (by decide) ?_
  subst hQ9
  refine pm_iret dX6_end_19 ?_
  exact ⟨rfl, h15⟩

set_option maxHeartbeats 4000000 in
set_option maxRecDepth 100000 in
theorem c_X6_comeBack (G : pm_G) (l : Launch) (bs : Nat) (Z : az) (Y : pm_Y) (E : pm_S) (s : Nat) (p : Nat) (S : pm_S) (hx : pm_CX Z S Y E) (hI : zI s Z) (hp : p < az_a Z 0) (h0 : az_b Z 1 p ≠ 2) : pm_M G l bs yX6_comeBack cX6_comeBack 3 (some .int) 4 0 0 [.ref (Y.1 0), .ref (Y.1 (pq p 0))] S (pm_qi (fun x S2 => x = -1 ∧ pm_CX (if az_b Z 7 p = 0 then zDies Z p [1, 0] else zAt (zs_b Z 7 p (az_b Z 7 p - 1)) p (az_c Z 0 p (az_b Z 7 p - 1))) S2 Y E)) := by
  have hn := hI.1
  have hsm := hI.sm
  obtain ⟨h, hmk⟩ := id hx
  have hA := h.2.2.2.2.2.1
  obtain ⟨⟨hk0, hr0, hr1, hr2, hr3, hr4, hr5, hr6, hr7⟩, ⟨hk1, hl1⟩, ⟨hk2, hl2⟩, ⟨hk3, hl3⟩, ⟨hk4, hl4⟩, hWt, hSh, hLt, hCs⟩ := id h.2.2.1
  obtain ⟨kW, rW1, rW2, rW3, kW1, nW1, kW2, nW2, kW3, nW3, -⟩ := id hWt
  have hB := h.2.2.2.2.1 p hp
  obtain ⟨⟨pk0, pr1, pr2, pr4, pr6, ppid⟩, ⟨pk1, pn1, pz1⟩, hmb, hts⟩ := id (h.2.2.2.1 p hp)
  refine pm_Mi (L := [.ref (Y.1 0), .ref (Y.1 (pq p 0)), pm_u]) (by decide +kernel) rfl (pm_en_1 rfl (pm_en_1 rfl (pm_en_0 rfl))) ?_
  generalize hQ9 : pm_xi (fun x S2 => x = -1 ∧ pm_CX (if az_b Z 7 p = 0 then zDies Z p [1, 0] else zAt (zs_b Z 7 p (az_b Z 7 p - 1)) p (az_c Z 0 p (az_b Z 7 p - 1))) S2 Y E) = Q9
  refine pm_aload_n dX6_comeBack_0 rfl ?_
  refine pm_g_Proc_trail (by (try simp only [pm_k_si, pm_k_sj, pm_k_sp, pm_k_sx, pm_k_sz, pm_k_sr, pm_k_sy]); assumption) pm_f_X6_250 (by (try simp only [pm_p_si, pm_p_sj, pm_p_sx, pm_p_sz, pm_p_sr, pm_p_sy]); assumption) dX6_comeBack_1 ?_
  refine pm_vi (c_X4_takeBack G l bs (Y.1 (pq p 6)) (Y.1 (pq p 7)) (Y.1 (pq p 8)) (Y.1 (pq p 9)) (az_b Z 7 p) S hts (hB 203 6 7 rfl) (hI.b hp 7)) pm_y_X4_takeBack pm_v_X4_takeBack pm_m_X6_330 (c := 4) (r := (RX4, TX4, 5)) rfl rfl hts.1 dX6_comeBack_4 rfl rfl (by decide) (Nat.le_of_ble_eq_true rfl) (fun x4 S4 h4 => ?_)
  have hbk : 0 < az_b Z 7 p → pm_x S (Y.1 (pq p 7)) (az_b Z 7 p - 1) = nI (az_c Z 0 p (az_b Z 7 p - 1)) ∧ az_c Z 0 p (az_b Z 7 p - 1) < 300 := fun z => ⟨(h.2.2.2.2.2.2.2.2.2.1 p hp).1 _ (by omega), (hI.2.2.2.1 p hp).1 _ (by omega)⟩
  refine pm_istn dX6_comeBack_7 (i := 2) rfl (by decide) ?_
  dsimp only [List.set]
  refine pm_iload_n dX6_comeBack_8 rfl ?_
  refine pm_iconst (v := (-1)) dX6_comeBack_9 (by decide) ?_
  refine pm_icmp_ne (tgt := 19) dX6_comeBack_10 (by decide) (fun h10 => ?_) (fun h10 => ?_)
  · skip
    rcases h4 with ⟨-, e4, -⟩ | ⟨h9, e4, rfl⟩
    · exact absurd e4 h10
    rw [(hbk h9).1] at e4
    subst e4
    refine pm_aload_n dX6_comeBack_19 rfl ?_
    refine pm_iload_n dX6_comeBack_20 rfl ?_
    refine pm_p_Proc_at (by (try simp only [pm_k_si, pm_k_sj, pm_k_sp, pm_k_sx, pm_k_sz, pm_k_sr, pm_k_sy]); assumption) pm_f_X6_175 dX6_comeBack_21 ?_
    refine pm_iconst (v := (-1)) dX6_comeBack_24 (by decide) ?_
    subst hQ9
    refine pm_iret dX6_comeBack_25 ?_
    exact ⟨rfl, by rw [if_neg (by omega)]; exact hx.lift ((h.pop7 hn hp (by omega)).b (p := p) (f := 57) (i := 2) (c := 0) (v := az_c Z 0 p (az_b Z 7 p - 1)) hn hp rfl) rfl (fun q => by unfold zAt; rw [z_b_bne (by decide), z_b_bne (by decide)])⟩
  · skip
    rcases h4 with ⟨h9, -, rfl⟩ | ⟨h9, e4, -⟩
    case inr =>
      rw [(hbk h9).1] at e4
      rw [e4] at h10
      exact absurd (congrArg Int32.toInt h10) (by rw [nI_toInt (by have := (hbk h9).2; omega)]; have : (-1 : Int32).toInt = -1 := by decide
                                                  omega)
    refine pm_aload_n dX6_comeBack_13 rfl ?_
    refine pm_aload_n dX6_comeBack_14 rfl ?_
    refine pm_vi (c_X6_end G l bs Z Y E s p S4 hx hI hp h0) pm_y_X6_end pm_v_X6_end pm_m_X6_209 (c := 6) (r := (RX6, TX6, 16)) rfl rfl (by (try simp only [pm_k_si, pm_k_sj, pm_k_sp, pm_k_sx, pm_k_sz, pm_k_sr, pm_k_sy]); assumption) dX6_comeBack_15 rfl rfl (by decide) (Nat.le_of_ble_eq_true rfl) (fun x15 S15 h15 => ?_)
    subst hQ9
    refine pm_iret dX6_comeBack_18 ?_
    exact ⟨h15.1, by rw [if_pos h9]; exact h15.2⟩

set_option maxHeartbeats 4000000 in
set_option maxRecDepth 100000 in
theorem c_X6_fail (G : pm_G) (l : Launch) (bs : Nat) (Z : az) (Y : pm_Y) (E : pm_S) (s : Nat) (p t2 r2 : Nat) (w : List Int32) (S : pm_S) (hx : pm_CX Z S Y E) (hI : zI s Z) (hp : p < az_a Z 0) (h0 : az_b Z 1 p ≠ 2) (ht : pm_tm S t2 r2 w) : pm_M G l bs yX6_fail cX6_fail 4 (some .int) 3 0 0 [.ref (Y.1 0), .ref (Y.1 (pq p 0)), .ref t2] S (pm_qi (fun x S2 => x = -1 ∧ pm_CX (zFails Z p w) S2 Y E)) := by
  have hn := hI.1
  have hsm := hI.sm
  obtain ⟨h, hmk⟩ := id hx
  have hA := h.2.2.2.2.2.1
  obtain ⟨⟨hk0, hr0, hr1, hr2, hr3, hr4, hr5, hr6, hr7⟩, ⟨hk1, hl1⟩, ⟨hk2, hl2⟩, ⟨hk3, hl3⟩, ⟨hk4, hl4⟩, hWt, hSh, hLt, hCs⟩ := id h.2.2.1
  obtain ⟨kW, rW1, rW2, rW3, kW1, nW1, kW2, nW2, kW3, nW3, -⟩ := id hWt
  have hB := h.2.2.2.2.1 p hp
  obtain ⟨⟨pk0, pr1, pr2, pr4, pr6, ppid⟩, ⟨pk1, pn1, pz1⟩, hmb, hts⟩ := id (h.2.2.2.1 p hp)
  refine pm_Mi (L := [.ref (Y.1 0), .ref (Y.1 (pq p 0)), .ref t2, pm_u]) (by decide +kernel) rfl (pm_en_1 rfl (pm_en_1 rfl (pm_en_1 rfl (pm_en_0 rfl)))) ?_
  generalize hQ9 : pm_xi (fun x S2 => x = -1 ∧ pm_CX (zFails Z p w) S2 Y E) = Q9
  refine pm_aload_n dX6_fail_0 rfl ?_
  refine pm_g_Proc_trail (by (try simp only [pm_k_si, pm_k_sj, pm_k_sp, pm_k_sx, pm_k_sz, pm_k_sr, pm_k_sy]); assumption) pm_f_X6_250 (by (try simp only [pm_p_si, pm_p_sj, pm_p_sx, pm_p_sz, pm_p_sr, pm_p_sy]); assumption) dX6_fail_1 ?_
  obtain ⟨kk, hkk, hkk2⟩ : ∃ kk : Nat, kk < 2 ^ 31 ∧ (0 < az_b Z 8 p → kk = az_c Z 2 p (az_b Z 8 p - 1)) := by
    by_cases e : az_b Z 8 p = 0
    · exact ⟨0, by decide, fun z => by omega⟩
    · have := ((hI.2.2.2.1 p hp).2 (az_b Z 8 p - 1) (by omega)).2
      exact ⟨_, by omega, fun _ => rfl⟩
  refine pm_vi (c_X4_takeCatch G l bs (Y.1 (pq p 6)) (Y.1 (pq p 7)) (Y.1 (pq p 8)) (Y.1 (pq p 9)) (az_b Z 8 p) (az_b Z 7 p) kk S hts (hB 204 6 8 rfl) (hI.b hp 8) (hB 203 6 7 rfl) (hsm p hp 7 (by decide)) (fun z => by rw [hkk2 z]; exact (h.2.2.2.2.2.2.2.2.2.1 p hp).2.2 _ (by omega)) hkk) pm_y_X4_takeCatch pm_v_X4_takeCatch pm_m_X6_339 (c := 4) (r := (RX4, TX4, 5)) rfl rfl hts.1 dX6_fail_4 rfl rfl (by decide) (Nat.le_of_ble_eq_true rfl) (fun x4 S4 h4 => ?_)
  have hbk : 0 < az_b Z 8 p → pm_x S (Y.1 (pq p 8)) (az_b Z 8 p - 1) = nI (az_c Z 1 p (az_b Z 8 p - 1)) ∧ az_c Z 1 p (az_b Z 8 p - 1) < 300 := fun z => ⟨(h.2.2.2.2.2.2.2.2.2.1 p hp).2.1 _ (by omega), ((hI.2.2.2.1 p hp).2 _ (by omega)).1⟩
  refine pm_istn dX6_fail_7 (i := 3) rfl (by decide) ?_
  dsimp only [List.set]
  refine pm_iload_n dX6_fail_8 rfl ?_
  refine pm_iconst (v := (-1)) dX6_fail_9 (by decide) ?_
  refine pm_icmp_ne (tgt := 22) dX6_fail_10 (by decide) (fun h10 => ?_) (fun h10 => ?_)
  · skip
    rcases h4 with ⟨-, e4, -⟩ | ⟨h9, e4, e5⟩
    · exact absurd e4 h10
    rw [(hbk h9).1] at e4
    rw [hkk2 h9] at e5
    subst e4
    have hy : pm_CR (zs_b (zs_b Z 8 p (az_b Z 8 p - 1)) 7 p (min (az_b Z 7 p) (az_c Z 2 p (az_b Z 8 p - 1)))) S4 Y E := by rw [e5]; exact (h.pop8 (p := p) hn hp (by omega)).pop7 (p := p) hn hp (by rw [z_b_bne (by decide)]; omega)
    have ht4 : pm_tm S4 t2 r2 w := by rw [e5]; exact (ht.si (by decide)).si (by decide)
    have hx2 := hx.lift hy rfl (fun q => by rw [z_b_bne (by decide), z_b_bne (by decide)])
    obtain ⟨h_2, hmk_2⟩ := id hx2
    have hA_2 := h_2.2.2.2.2.2.1
    obtain ⟨⟨hk0_2, hr0_2, hr1_2, hr2_2, hr3_2, hr4_2, hr5_2, hr6_2, hr7_2⟩, ⟨hk1_2, hl1_2⟩, ⟨hk2_2, hl2_2⟩, ⟨hk3_2, hl3_2⟩, ⟨hk4_2, hl4_2⟩, hWt_2, hSh_2, hLt_2, hCs_2⟩ := id h_2.2.2.1
    obtain ⟨kW_2, rW1_2, rW2_2, rW3_2, kW1_2, nW1_2, kW2_2, nW2_2, kW3_2, nW3_2, -⟩ := id hWt_2
    have hB_2 := h_2.2.2.2.2.1 p hp
    obtain ⟨⟨pk0_2, pr1_2, pr2_2, pr4_2, pr6_2, ppid_2⟩, ⟨pk1_2, pn1_2, pz1_2⟩, hmb_2, hts_2⟩ := id (h_2.2.2.2.1 p hp)
    refine pm_aload_n dX6_fail_22 rfl ?_
    refine pm_iconst (v := 0) dX6_fail_23 (by decide) ?_
    refine pm_vr (c_X1_x G l bs (Y.1 (pq p 0)) (Y.1 (pq p 1)) 0 S4 pk0_2 pr1_2 pk1_2 pn1_2) pm_y_X1_x pm_v_X1_x pm_m_X6_137 (c := 1) (r := (RX1, TX1, 16)) rfl rfl (by (try simp only [pm_k_si, pm_k_sj, pm_k_sp, pm_k_sx, pm_k_sz, pm_k_sr, pm_k_sy]); assumption) dX6_fail_24 rfl rfl (by decide) (Nat.le_of_ble_eq_true rfl) (fun x24 S24 h24 => ?_)
    obtain ⟨e24, rfl⟩ := h24
    rw [show pm_mod 0 8 = 0 from by decide, pz1_2 0 (by decide)] at e24
    subst e24
    show pm_W _ _ _ _ _ _ _ _ _ _ _ _ _ [.ref (Y.1 (pq p (10 + 0)))] _
    refine pm_aload_n dX6_fail_27 rfl ?_
    refine pm_vv (c_X3_copy G l bs (Y.1 (pq p (10 + 0))) (Y.1 (pq p (20 + 0))) t2 r2 w _ (hx2.tm hp (by decide)).1 ht4) pm_y_X3_copy pm_v_X3_copy pm_m_X6_323 (c := 3) (r := (RX3, TX3, 2)) rfl rfl (hx2.tm (j := 0) hp (by decide)).1.1 dX6_fail_28 rfl rfl (by decide) (Nat.le_of_ble_eq_true rfl) (fun S28 h28 => ?_)
    have hx3 := hx2.rg (j := 0) hn hp (by decide) h28.1 h28.2
    have pk03 := (hx3.1.2.2.2.1 p hp).1.1
    refine pm_aload_n dX6_fail_31 rfl ?_
    refine pm_iload_n dX6_fail_32 rfl ?_
    refine pm_p_Proc_at (by (try simp only [pm_k_si, pm_k_sj, pm_k_sp, pm_k_sx, pm_k_sz, pm_k_sr, pm_k_sy]); assumption) pm_f_X6_175 dX6_fail_33 ?_
    refine pm_iconst (v := (-1)) dX6_fail_36 (by decide) ?_
    subst hQ9
    refine pm_iret dX6_fail_37 ?_
    first
    | exact ⟨rfl, by rw [zFails, if_pos h9]; exact h16⟩
    | (refine ⟨rfl, ?_⟩
       have hx4 := hx3.lift (hx3.1.b (p := p) (f := 57) (i := 2) (c := 0) (v := az_c Z 1 p (az_b Z 8 p - 1)) hn hp rfl) rfl (fun q => z_b_bne (by decide))
       rw [zFails, if_neg (by omega)]
       refine hx4.lift (hx4.1.cg ?_) rfl (fun q => ?_)
       · dsimp only
         refine az_ext rfl ?_ rfl rfl rfl rfl rfl rfl
         funext i q
         rw [z_b_t, z_b_b, z_b_b, z_b_b, z_b_b, z_b_t, z_b_b, z_b_b]
         by_cases e1 : i = 2
         · subst e1
           simp
         · simp [e1]
       · dsimp only
         rw [z_b_t, z_b_bne (by decide), z_b_bne (by decide), z_b_bne (by decide), z_b_bne (by decide), z_b_t, z_b_bne (by decide), z_b_bne (by decide)])
  · skip
    rcases h4 with ⟨h9, -, rfl⟩ | ⟨h9, e4, -⟩
    case inr =>
      rw [(hbk h9).1] at e4
      rw [e4] at h10
      exact absurd (congrArg Int32.toInt h10) (by rw [nI_toInt (by have := (hbk h9).2; omega)]; have : (-1 : Int32).toInt = -1 := by decide
                                                  omega)
    refine pm_aload_n dX6_fail_13 rfl ?_
    refine pm_aload_n dX6_fail_14 rfl ?_
    refine pm_aload_n dX6_fail_15 rfl ?_
    refine pm_vv (c_X6_die G l bs Z Y E s p t2 r2 w S4 hx hI hp h0 ht) pm_y_X6_die pm_v_X6_die pm_m_X6_333 (c := 6) (r := (RX6, TX6, 16)) rfl rfl (by (try simp only [pm_k_si, pm_k_sj, pm_k_sp, pm_k_sx, pm_k_sz, pm_k_sr, pm_k_sy]); assumption) dX6_fail_16 rfl rfl (by decide) (Nat.le_of_ble_eq_true rfl) (fun S16 h16 => ?_)
    refine pm_goto (tgt := 36) dX6_fail_19 (by decide) ?_
    refine pm_iconst (v := (-1)) dX6_fail_36 (by decide) ?_
    subst hQ9
    refine pm_iret dX6_fail_37 ?_
    first
    | exact ⟨rfl, by rw [zFails, if_pos h9]; exact h16⟩
    | (refine ⟨rfl, ?_⟩
       have hx4 := hx3.lift (hx3.1.b (p := p) (f := 57) (i := 2) (c := 0) (v := az_c Z 1 p (az_b Z 8 p - 1)) hn hp rfl) rfl (fun q => z_b_bne (by decide))
       rw [zFails, if_neg (by omega)]
       refine hx4.lift (hx4.1.cg ?_) rfl (fun q => ?_)
       · dsimp only
         refine az_ext rfl ?_ rfl rfl rfl rfl rfl rfl
         funext i q
         rw [z_b_t, z_b_b, z_b_b, z_b_b, z_b_b, z_b_t, z_b_b, z_b_b]
         by_cases e1 : i = 2
         · subst e1
           simp
         · simp [e1]
       · dsimp only
         rw [z_b_t, z_b_bne (by decide), z_b_bne (by decide), z_b_bne (by decide), z_b_bne (by decide), z_b_t, z_b_bne (by decide), z_b_bne (by decide)])

