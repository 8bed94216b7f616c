/-! ProcessMill: what it answers when it does not refuse -/
def tnum (w : List Int32) (i : Int32) : Int32 := if 0 ≤ i ∧ i.toInt < w.length then w.getD i.toInt.toNat 0 else -1
def zPut (Z : az) (k : Nat) (o a b c : Int32) : az := zs_x (zs_x (zs_x (zs_x Z 0 (4 * k) o) 0 (4 * k + 1) a) 0 (4 * k + 2) b) 0 (4 * k + 3) c
theorem pm_CX.put {Z : az} {S E : pm_S} {Y : pm_Y} (hx : pm_CX Z S Y E) (k : Nat) (o a b c : Int32) : pm_CX (zPut Z k o a b c) (pm_sx (pm_sx (pm_sx (pm_sx S (Y.1 1) (4 * k) o) (Y.1 1) (4 * k + 1) a) (Y.1 1) (4 * k + 2) b) (Y.1 1) (4 * k + 3) c) Y E :=
  hx.lift ((((hx.1.pw).pw).pw).pw) rfl (fun _ => rfl)
def zTot (Z : az) : Nat → Int32
  | 0 => nI (az_a Z 0) | 1 => nI (az_a Z 0 - az_a Z 1) | 2 => nI (zReadies Z (az_a Z 0)) | 3 => nI (az_a Z 4) | 4 => nI (az_a Z 5) | 5 => nI (az_a Z 6) | 6 => nI (az_a Z 9) | 7 => nI (az_a Z 8) | _ => nI (az_a Z 7)
def zReg (Z : az) (q j : Nat) (i : Int32) : Int32 := if j < 8 then tnum (az_t Z 0 q j) i else if az_b Z 1 q = 2 then tnum (az_t Z 1 q 0) i else -1
def zMsg (Z : az) (q : Nat) (k i : Int32) : Int32 := if 0 ≤ k ∧ k.toInt < az_b Z 9 q then tnum (az_t Z 2 q k.toInt.toNat) i else -1
set_option maxHeartbeats 4000000 in
set_option maxRecDepth 100000 in
theorem c_X6_word (G : pm_G) (l : Launch) (bs : Nat) (Z : az) (Y : pm_Y) (E : pm_S) (s : Nat) (k n : Nat) (a b c : Int32) (S : pm_S) (hx : pm_CX Z S Y E) (hI : zI s Z) (hk : k < 300) (hn36 : n < 37) : pm_M G l bs yX6_word cX6_word 7 none 1 0 0 [.ref (Y.1 0), .int (nI k), .int (nI n), .int a, .int b, .int c] S (pm_qv (fun S2 => pm_CX (zPut Z k (nI n) a b c) S2 Y E)) := by
  obtain ⟨h, hmk⟩ := id hx
  have hA := h.2.2.2.2.2.1
  obtain ⟨⟨hk0, hr0, hr1, hr2, hr3, hr4, hr5, hr6, hr7⟩, ⟨hk1, hl1⟩, ⟨hk2, hl2⟩, ⟨hk3, hl3⟩, ⟨hk4, hl4⟩, hWt, hSh, hLt, hCs⟩ := id h.2.2.1
  obtain ⟨kW, rW1, rW2, rW3, kW1, nW1, kW2, nW2, kW3, nW3, -⟩ := id hWt
  refine pm_Mv (L := [.ref (Y.1 0), .int (nI k), .int (nI n), .int a, .int b, .int c, pm_u]) false (by decide +kernel) (fun h => by cases h) rfl (pm_en_1 rfl (pm_en_1 rfl (pm_en_1 rfl (pm_en_1 rfl (pm_en_1 rfl (pm_en_1 rfl (pm_en_0 rfl))))))) ?_
  generalize hQ9 : pm_xv (fun S2 => pm_CX (zPut Z k (nI n) a b c) S2 Y E) = Q9
  refine pm_iload_n dX6_word_0 rfl ?_
  refine pm_sipush (v := 300) dX6_word_1 (by decide) ?_
  refine pm_ssi (c_X6_isBelow G l bs (nI k) 300 _) pm_y_X6_isBelow pm_s_X6_isBelow pm_m_X6_74 dX6_word_4 rfl rfl (by decide) (Nat.le_of_ble_eq_true rfl) (fun x4 S4 h4 => ?_)
  obtain ⟨e4, rfl⟩ := h4
  rw [if_pos ⟨nI_pos' (by omega), (pm_lt16 (n := k) (m := 300) (by omega) (by omega)).mpr (by omega)⟩] at e4
  subst e4
  refine pm_if_eq (tgt := 19) dX6_word_7 (by decide) (fun h7 => ?_) (fun h7 => ?_)
  · exact absurd h7 (by decide)
  · skip
    skip
    refine pm_iload_n dX6_word_10 rfl ?_
    refine pm_bipush (v := 37) dX6_word_11 (by decide) ?_
    refine pm_ssi (c_X6_isBelow G l bs (nI n) 37 _) pm_y_X6_isBelow pm_s_X6_isBelow pm_m_X6_74 dX6_word_13 rfl rfl (by decide) (Nat.le_of_ble_eq_true rfl) (fun x13 S13 h13 => ?_)
    obtain ⟨e13, rfl⟩ := h13
    rw [if_pos ⟨nI_pos' (by omega), (pm_lt16 (n := n) (m := 37) (by omega) (by omega)).mpr (by omega)⟩] at e13
    subst e13
    refine pm_if_ne (tgt := 27) dX6_word_16 (by decide) (fun h16 => ?_) (fun h16 => ?_)
    · skip
      skip
      refine pm_iload_n dX6_word_27 rfl ?_
      refine pm_iconst (v := 4) dX6_word_28 (by decide) ?_
      refine pm_imul dX6_word_29 ?_
      rw [show nI k * 4 = nI (4 * k) from by rw [show (4 : Int32) = nI 4 from rfl, pk_mul, Nat.mul_comm]]
      refine pm_istore dX6_word_30 (by decide) ?_
      dsimp only [List.set]
      refine pm_aload_n dX6_word_32 rfl ?_
      refine pm_g_Mill_program (by (try simp only [pm_k_si, pm_k_sj, pm_k_sp, pm_k_sx, pm_k_sz, pm_k_sr, pm_k_sy]); assumption) pm_f_X6_9 (by (try simp only [pm_p_si, pm_p_sj, pm_p_sx, pm_p_sz, pm_p_sr, pm_p_sy]); assumption) dX6_word_33 ?_
      refine pm_iload dX6_word_36 rfl ?_
      refine pm_iload_n dX6_word_38 rfl ?_
      refine pm_iastore (n := (4 * k)) (by (try simp only [pm_k_si, pm_k_sj, pm_k_sp, pm_k_sx, pm_k_sz, pm_k_sr, pm_k_sy]); assumption) rfl (by first | omega | (simp only [pm_n_sx, pm_n_si, pm_n_sr, pm_n_sz, pm_n_sp, pm_n_sj, pm_n_sy]; omega)) (by first | omega | (simp only [pm_n_sx, pm_n_si, pm_n_sr, pm_n_sz, pm_n_sp, pm_n_sj, pm_n_sy]; omega)) dX6_word_39 ?_
      refine pm_aload_n dX6_word_40 rfl ?_
      refine pm_g_Mill_program (by (try simp only [pm_k_si, pm_k_sj, pm_k_sp, pm_k_sx, pm_k_sz, pm_k_sr, pm_k_sy]); assumption) pm_f_X6_9 (by (try simp only [pm_p_si, pm_p_sj, pm_p_sx, pm_p_sz, pm_p_sr, pm_p_sy]); assumption) dX6_word_41 ?_
      refine pm_iload dX6_word_44 rfl ?_
      refine pm_iconst (v := 1) dX6_word_46 (by decide) ?_
      refine pm_iadd dX6_word_47 ?_
      refine pm_iload_n dX6_word_48 rfl ?_
      refine pm_iastore (n := (4 * k + 1)) (by (try simp only [pm_k_si, pm_k_sj, pm_k_sp, pm_k_sx, pm_k_sz, pm_k_sr, pm_k_sy]); assumption) (nI_add _ _) (by first | omega | (simp only [pm_n_sx, pm_n_si, pm_n_sr, pm_n_sz, pm_n_sp, pm_n_sj, pm_n_sy]; omega)) (by first | omega | (simp only [pm_n_sx, pm_n_si, pm_n_sr, pm_n_sz, pm_n_sp, pm_n_sj, pm_n_sy]; omega)) dX6_word_49 ?_
      refine pm_aload_n dX6_word_50 rfl ?_
      refine pm_g_Mill_program (by (try simp only [pm_k_si, pm_k_sj, pm_k_sp, pm_k_sx, pm_k_sz, pm_k_sr, pm_k_sy]); assumption) pm_f_X6_9 (by (try simp only [pm_p_si, pm_p_sj, pm_p_sx, pm_p_sz, pm_p_sr, pm_p_sy]); assumption) dX6_word_51 ?_
      refine pm_iload dX6_word_54 rfl ?_
      refine pm_iconst (v := 2) dX6_word_56 (by decide) ?_
      refine pm_iadd dX6_word_57 ?_
      refine pm_iload dX6_word_58 rfl ?_
      refine pm_iastore (n := (4 * k + 2)) (by (try simp only [pm_k_si, pm_k_sj, pm_k_sp, pm_k_sx, pm_k_sz, pm_k_sr, pm_k_sy]); assumption) (nI_add _ _) (by first | omega | (simp only [pm_n_sx, pm_n_si, pm_n_sr, pm_n_sz, pm_n_sp, pm_n_sj, pm_n_sy]; omega)) (by first | omega | (simp only [pm_n_sx, pm_n_si, pm_n_sr, pm_n_sz, pm_n_sp, pm_n_sj, pm_n_sy]; omega)) dX6_word_60 ?_
      refine pm_aload_n dX6_word_61 rfl ?_
      refine pm_g_Mill_program (by (try simp only [pm_k_si, pm_k_sj, pm_k_sp, pm_k_sx, pm_k_sz, pm_k_sr, pm_k_sy]); assumption) pm_f_X6_9 (by (try simp only [pm_p_si, pm_p_sj, pm_p_sx, pm_p_sz, pm_p_sr, pm_p_sy]); assumption) dX6_word_62 ?_
      refine pm_iload dX6_word_65 rfl ?_
      refine pm_iconst (v := 3) dX6_word_67 (by decide) ?_
      refine pm_iadd dX6_word_68 ?_
      refine pm_iload dX6_word_69 rfl ?_
      refine pm_iastore (n := (4 * k + 3)) (by (try simp only [pm_k_si, pm_k_sj, pm_k_sp, pm_k_sx, pm_k_sz, pm_k_sr, pm_k_sy]); assumption) (nI_add _ _) (by first | omega | (simp only [pm_n_sx, pm_n_si, pm_n_sr, pm_n_sz, pm_n_sp, pm_n_sj, pm_n_sy]; omega)) (by first | omega | (simp only [pm_n_sx, pm_n_si, pm_n_sr, pm_n_sz, pm_n_sp, pm_n_sj, pm_n_sy]; omega)) dX6_word_71 ?_
      subst hQ9
      refine pm_vret dX6_word_72 ?_
      exact hx.put k (nI n) a b c
    · exact absurd h16 (by decide)

set_option maxHeartbeats 4000000 in
set_option maxRecDepth 100000 in
theorem c_X6_start (G : pm_G) (l : Launch) (bs : Nat) (Z : az) (Y : pm_Y) (E : pm_S) (s : Nat) (a pr : Nat) (S : pm_S) (hx : pm_CX Z S Y E) (hI : zI s Z) (hlt : az_a Z 0 < 60) (ha : a < 300) (hpr : pr < 3) : pm_M G l bs yX6_start cX6_start 3 (some .int) 4 26 977 [.ref (Y.1 0), .int (nI a), .int (nI pr)] S (pm_qi (fun x S2 => x = nI (az_a Z 0 + 1) ∧ ∃ Y2, yLe (az_a Z 0) Y Y2 ∧ pm_CX (zNew Z a pr) S2 Y2 E)) := by
  obtain ⟨h, hmk⟩ := id hx
  have hA := h.2.2.2.2.2.1
  obtain ⟨⟨hk0, hr0, hr1, hr2, hr3, hr4, hr5, hr6, hr7⟩, ⟨hk1, hl1⟩, ⟨hk2, hl2⟩, ⟨hk3, hl3⟩, ⟨hk4, hl4⟩, hWt, hSh, hLt, hCs⟩ := id h.2.2.1
  obtain ⟨kW, rW1, rW2, rW3, kW1, nW1, kW2, nW2, kW3, nW3, -⟩ := id hWt
  refine pm_Mi (L := [.ref (Y.1 0), .int (nI a), .int (nI pr)]) (by decide +kernel) rfl (pm_en_1 rfl (pm_en_1 rfl (pm_en_1 rfl (pm_en_0 rfl)))) ?_
  generalize hQ9 : pm_xi (fun x S2 => x = nI (az_a Z 0 + 1) ∧ ∃ Y2, yLe (az_a Z 0) Y Y2 ∧ pm_CX (zNew Z a pr) S2 Y2 E) = Q9
  refine pm_iload_n dX6_start_0 rfl ?_
  refine pm_sipush (v := 300) dX6_start_1 (by decide) ?_
  refine pm_ssi (c_X6_isBelow G l bs (nI a) 300 _) pm_y_X6_isBelow pm_s_X6_isBelow pm_m_X6_74 dX6_start_4 rfl rfl (by decide) (Nat.le_of_ble_eq_true rfl) (fun x4 S4 h4 => ?_)
  obtain ⟨e4, rfl⟩ := h4
  rw [if_pos ⟨nI_pos' (by omega), (pm_lt16 (n := a) (m := 300) (by omega) (by omega)).mpr (by omega)⟩] at e4
  subst e4
  refine pm_if_eq (tgt := 18) dX6_start_7 (by decide) (fun h7 => ?_) (fun h7 => ?_)
  · exact absurd h7 (by decide)
  · skip
    skip
    refine pm_iload_n dX6_start_10 rfl ?_
    refine pm_iconst (v := 3) dX6_start_11 (by decide) ?_
    refine pm_ssi (c_X6_isBelow G l bs (nI pr) 3 _) pm_y_X6_isBelow pm_s_X6_isBelow pm_m_X6_74 dX6_start_12 rfl rfl (by decide) (Nat.le_of_ble_eq_true rfl) (fun x12 S12 h12 => ?_)
    obtain ⟨e12, rfl⟩ := h12
    rw [if_pos ⟨nI_pos' (by omega), (pm_lt16 (n := pr) (m := 3) (by omega) (by omega)).mpr (by omega)⟩] at e12
    subst e12
    refine pm_if_ne (tgt := 26) dX6_start_15 (by decide) (fun h15 => ?_) (fun h15 => ?_)
    · skip
      skip
      refine pm_aload_n dX6_start_26 rfl ?_
      refine pm_g_Mill_started (by (try simp only [pm_k_si, pm_k_sj, pm_k_sp, pm_k_sx, pm_k_sz, pm_k_sr, pm_k_sy]); assumption) pm_f_X6_49 dX6_start_27 ?_
      refine pm_bipush (v := 60) dX6_start_30 (by decide) ?_
      rw [hA 308 0 0 rfl]
      refine pm_icmp_lt (tgt := 43) dX6_start_32 (by decide) (fun h32 => ?_) (fun h32 => ?_)
      · skip
        skip
        refine pm_aload_n dX6_start_43 rfl ?_
        refine pm_iload_n dX6_start_44 rfl ?_
        refine pm_iload_n dX6_start_45 rfl ?_
        refine pm_vrk (kc2 := 0) (ks2 := 0) (c_X6_beginProcess G l bs Z Y E s a pr _ hx hI hlt) pm_y_X6_beginProcess pm_v_X6_beginProcess pm_m_X6_84 (c := 6) (r := (RX6, TX6, 16)) rfl rfl (by (try simp only [pm_k_si, pm_k_sj, pm_k_sp, pm_k_sx, pm_k_sz, pm_k_sr, pm_k_sy]); assumption) dX6_start_46 rfl rfl (by decide) (Nat.le_of_ble_eq_true rfl) (by decide) (by decide) (fun x46 S46 h46 => ?_)
        obtain ⟨Y2, hle, rfl, hx2⟩ := h46
        have hnl : az_a Z 0 < az_a (zNew Z a pr) 0 := by rw [(zNew_U Z a pr).1]; omega
        obtain ⟨⟨nk0, -, -, -, -, npid⟩, -⟩ := id (hx2.1.2.2.2.1 (az_a Z 0) hnl)
        show pm_W _ _ _ _ _ _ _ _ _ _ _ _ _ [.ref (Y2.1 (pq (az_a Z 0) 0))] _
        refine pm_g_Proc_pid nk0 pm_f_X6_88 dX6_start_49 ?_
        rw [npid]
        subst hQ9
        refine pm_iret dX6_start_52 ?_
        exact ⟨rfl, Y2, hle, hx2⟩
      · exact absurd ((pm_lt16 (n := az_a Z 0) (m := 60) (by omega) (by omega)).mpr hlt) h32
    · exact absurd h15 (by decide)

set_option maxHeartbeats 4000000 in
set_option maxRecDepth 100000 in
theorem c_X6_send (G : pm_G) (l : Launch) (bs : Nat) (Z : az) (Y : pm_Y) (E : pm_S) (s : Nat) (q : Nat) (v : Int32) (S : pm_S) (hx : pm_CX Z S Y E) (hI : zI s Z) (hq : q < az_a Z 0) : pm_M G l bs yX6_send cX6_send 4 (some .boolean) 4 (zU (zComes Z q [0, v]) - zU Z) (49 * (zU (zComes Z q [0, v]) - zU Z)) [.ref (Y.1 0), .int (nI (q + 1)), .int v] S (pm_qi (fun x S2 => x = (if az_b Z 1 q ≠ 2 ∧ az_b Z 9 q < 40 then 1 else 0) ∧ ∃ Y2, yLe (az_a Z 0) Y Y2 ∧ pm_CX (zComes Z q [0, v]) S2 Y2 E)) := by
  have hn := hI.1
  have hsm := hI.sm
  obtain ⟨h, hmk⟩ := id hx
  have hA := h.2.2.2.2.2.1
  obtain ⟨⟨hk0, hr0, hr1, hr2, hr3, hr4, hr5, hr6, hr7⟩, ⟨hk1, hl1⟩, ⟨hk2, hl2⟩, ⟨hk3, hl3⟩, ⟨hk4, hl4⟩, hWt, hSh, hLt, hCs⟩ := id h.2.2.1
  obtain ⟨kW, rW1, rW2, rW3, kW1, nW1, kW2, nW2, kW3, nW3, -⟩ := id hWt
  have hBq := h.2.2.2.2.1 q hq
  obtain ⟨⟨pk0q, pr1q, pr2q, pr4q, pr6q, ppidq⟩, ⟨pk1q, pn1q, pz1q⟩, hmbq, htsq⟩ := id (h.2.2.2.1 q hq)
  refine pm_Mz (L := [.ref (Y.1 0), .int (nI (q + 1)), .int v, pm_u]) (by decide +kernel) rfl (pm_en_1 rfl (pm_en_1 rfl (pm_en_1 rfl (pm_en_0 rfl)))) ?_
  generalize hQ9 : pm_xz (fun x S2 => x = (if az_b Z 1 q ≠ 2 ∧ az_b Z 9 q < 40 then 1 else 0) ∧ ∃ Y2, yLe (az_a Z 0) Y Y2 ∧ pm_CX (zComes Z q [0, v]) S2 Y2 E) = Q9
  refine pm_aload_n dX6_send_0 rfl ?_
  refine pm_iload_n dX6_send_1 rfl ?_
  refine pm_vr (c_X6_find G l bs Z Y E (nI (q + 1)) _ h hn) pm_y_X6_find pm_v_X6_find pm_m_X6_91 (c := 6) (r := (RX6, TX6, 16)) rfl rfl (by (try simp only [pm_k_si, pm_k_sj, pm_k_sp, pm_k_sx, pm_k_sz, pm_k_sr, pm_k_sy]); assumption) dX6_send_2 rfl rfl (by decide) (Nat.le_of_ble_eq_true rfl) (fun x2 S2 h2 => ?_)
  obtain ⟨e2, rfl⟩ := h2
  rw [nI_toInt (by omega), if_pos (by omega), show (((q + 1 : Nat) : Int).toNat - 1) = q from by omega] at e2
  subst e2
  show pm_W _ _ _ _ _ _ _ _ _ _ _ _ _ [.ref (Y.1 (pq q 0))] _
  refine pm_astn dX6_send_5 (i := 3) rfl (by decide) ?_
  dsimp only [List.set]
  refine pm_aload_n dX6_send_6 rfl ?_
  refine pm_ifnonnull_r (tgt := 18) dX6_send_7 (by decide) ?_
  refine pm_aload_n dX6_send_18 rfl ?_
  refine pm_g_Mill_letter (by (try simp only [pm_k_si, pm_k_sj, pm_k_sp, pm_k_sx, pm_k_sz, pm_k_sr, pm_k_sy]); assumption) pm_f_X6_42 (by (try simp only [pm_p_si, pm_p_sj, pm_p_sx, pm_p_sz, pm_p_sr, pm_p_sy]); assumption) dX6_send_19 ?_
  refine pm_iconst (v := 0) dX6_send_22 (by decide) ?_
  refine pm_iload_n dX6_send_23 rfl ?_
  refine pm_vv (c_X3_setSingle G l bs (Y.1 11) (Y.1 12) 0 v _ hLt) pm_y_X3_setSingle pm_v_X3_setSingle pm_m_X6_95 (c := 3) (r := (RX3, TX3, 2)) rfl rfl hLt.1 dX6_send_24 rfl rfl (by decide) (Nat.le_of_ble_eq_true rfl) (fun S24 h24 => ?_)
  have hx3 := hx.own (t := 11) (Or.inl rfl) h24.1
  obtain ⟨h_3, hmk_3⟩ := id hx3
  have hA_3 := h_3.2.2.2.2.2.1
  obtain ⟨⟨hk0_3, hr0_3, hr1_3, hr2_3, hr3_3, hr4_3, hr5_3, hr6_3, hr7_3⟩, ⟨hk1_3, hl1_3⟩, ⟨hk2_3, hl2_3⟩, ⟨hk3_3, hl3_3⟩, ⟨hk4_3, hl4_3⟩, hWt_3, hSh_3, hLt_3, hCs_3⟩ := id h_3.2.2.1
  obtain ⟨kW_3, rW1_3, rW2_3, rW3_3, kW1_3, nW1_3, kW2_3, nW2_3, kW3_3, nW3_3, -⟩ := id hWt_3
  refine pm_aload_n dX6_send_27 rfl ?_
  refine pm_aload_n dX6_send_28 rfl ?_
  refine pm_aload_n dX6_send_29 rfl ?_
  refine pm_g_Mill_letter hk0_3 pm_f_X6_42 hr6_3 dX6_send_30 ?_
  refine pm_vik (kc2 := 0) (ks2 := 0) (c_X6_deliver G l bs Z Y E q (Y.1 11) (Y.1 12) [0, v] _ hx3 hn hq hsm (hI.2.2.1 q hq).2 h24.2) pm_y_X6_deliver pm_v_X6_deliver pm_m_X6_99 (c := 6) (r := (RX6, TX6, 16)) rfl rfl hk0_3 dX6_send_33 rfl rfl (by decide) (Nat.le_of_ble_eq_true rfl) (by omega) (by omega) (fun x33 S33 h33 => ?_)
  obtain ⟨Y2, hle, hx4, rfl⟩ := h33
  subst hQ9
  refine pm_zret dX6_send_36 (by split; exact Or.inr rfl; exact Or.inl rfl) ?_
  exact ⟨rfl, Y2, hle, hx4⟩

set_option maxHeartbeats 4000000 in
set_option maxRecDepth 100000 in
theorem c_X6_register (G : pm_G) (l : Launch) (bs : Nat) (Z : az) (Y : pm_Y) (E : pm_S) (s : Nat) (q j : Nat) (i : Int32) (S : pm_S) (hx : pm_CX Z S Y E) (hI : zI s Z) (hq : q < az_a Z 0) (hj : j < 9) : pm_M G l bs yX6_register cX6_register 5 (some .int) 2 0 0 [.ref (Y.1 0), .int (nI (q + 1)), .int (nI j), .int i] S (pm_qi (fun x S2 => x = zReg Z q j i ∧ S2 = S)) := by
  have hn := hI.1
  have hsm := hI.sm
  obtain ⟨h, hmk⟩ := id hx
  have hA := h.2.2.2.2.2.1
  obtain ⟨⟨hk0, hr0, hr1, hr2, hr3, hr4, hr5, hr6, hr7⟩, ⟨hk1, hl1⟩, ⟨hk2, hl2⟩, ⟨hk3, hl3⟩, ⟨hk4, hl4⟩, hWt, hSh, hLt, hCs⟩ := id h.2.2.1
  obtain ⟨kW, rW1, rW2, rW3, kW1, nW1, kW2, nW2, kW3, nW3, -⟩ := id hWt
  have hBq := h.2.2.2.2.1 q hq
  obtain ⟨⟨pk0q, pr1q, pr2q, pr4q, pr6q, ppidq⟩, ⟨pk1q, pn1q, pz1q⟩, hmbq, htsq⟩ := id (h.2.2.2.1 q hq)
  refine pm_Mi (L := [.ref (Y.1 0), .int (nI (q + 1)), .int (nI j), .int i, pm_u]) (by decide +kernel) rfl (pm_en_1 rfl (pm_en_1 rfl (pm_en_1 rfl (pm_en_1 rfl (pm_en_0 rfl))))) ?_
  generalize hQ9 : pm_xi (fun x S2 => x = zReg Z q j i ∧ S2 = S) = Q9
  refine pm_aload_n dX6_register_0 rfl ?_
  refine pm_iload_n dX6_register_1 rfl ?_
  refine pm_vr (c_X6_find G l bs Z Y E (nI (q + 1)) _ h hn) pm_y_X6_find pm_v_X6_find pm_m_X6_91 (c := 6) (r := (RX6, TX6, 16)) rfl rfl (by (try simp only [pm_k_si, pm_k_sj, pm_k_sp, pm_k_sx, pm_k_sz, pm_k_sr, pm_k_sy]); assumption) dX6_register_2 rfl rfl (by decide) (Nat.le_of_ble_eq_true rfl) (fun x2 S2 h2 => ?_)
  obtain ⟨e2, rfl⟩ := h2
  rw [nI_toInt (by omega), if_pos (by omega), show (((q + 1 : Nat) : Int).toNat - 1) = q from by omega] at e2
  subst e2
  show pm_W _ _ _ _ _ _ _ _ _ _ _ _ _ [.ref (Y.1 (pq q 0))] _
  refine pm_astore dX6_register_5 (by decide) ?_
  dsimp only [List.set]
  refine pm_aload dX6_register_7 rfl ?_
  refine pm_ifnull_r dX6_register_9 ?_
  refine pm_iload_n dX6_register_12 rfl ?_
  refine pm_bipush (v := 9) dX6_register_13 (by decide) ?_
  refine pm_ssi (c_X6_isBelow G l bs (nI j) 9 _) pm_y_X6_isBelow pm_s_X6_isBelow pm_m_X6_74 dX6_register_15 rfl rfl (by decide) (Nat.le_of_ble_eq_true rfl) (fun x15 S15 h15 => ?_)
  obtain ⟨e15, rfl⟩ := h15
  rw [if_pos ⟨nI_pos' (by omega), (pm_lt16 (n := j) (m := 9) (by omega) (by omega)).mpr (by omega)⟩] at e15
  subst e15
  refine pm_if_ne (tgt := 29) dX6_register_18 (by decide) (fun h18 => ?_) (fun h18 => ?_)
  · skip
    skip
    refine pm_iload_n dX6_register_29 rfl ?_
    refine pm_bipush (v := 8) dX6_register_30 (by decide) ?_
    refine pm_icmp_ge (tgt := 46) dX6_register_32 (by decide) (fun h32 => ?_) (fun h32 => ?_)
    · skip
      have h8 : ¬ j < 8 := by have := (pm_nle (a := 8) (b := j) (by omega) (by omega)).mp h32; omega
      refine pm_aload dX6_register_46 rfl ?_
      refine pm_g_Proc_state (by (try simp only [pm_k_si, pm_k_sj, pm_k_sp, pm_k_sx, pm_k_sz, pm_k_sr, pm_k_sy]); assumption) pm_f_X6_142 dX6_register_48 ?_
      refine pm_iconst (v := 2) dX6_register_51 (by decide) ?_
      rw [hBq 56 0 1 rfl]
      refine pm_icmp_ne (tgt := 67) dX6_register_52 (by decide) (fun h52 => ?_) (fun h52 => ?_)
      · skip
        have h9 : ¬ az_b Z 1 q = 2 := fun z => h52 ((pm_e2 (hsm q hq 1 (by decide))).mpr z)
        refine pm_iconst (v := (-1)) dX6_register_67 (by decide) ?_
        subst hQ9
        refine pm_iret dX6_register_68 ?_
        first
        | exact ⟨by unfold zReg; rw [if_neg h8, if_neg h9], rfl⟩
        | exact ⟨by unfold zReg; rw [if_neg h8, if_pos h9]; rfl, rfl⟩
      · skip
        have h9 : az_b Z 1 q = 2 := (pm_e2 (hsm q hq 1 (by decide))).mp h52
        refine pm_aload dX6_register_55 rfl ?_
        refine pm_g_Proc_reason (by (try simp only [pm_k_si, pm_k_sj, pm_k_sp, pm_k_sx, pm_k_sz, pm_k_sr, pm_k_sy]); assumption) pm_f_X6_145 (by (try simp only [pm_p_si, pm_p_sj, pm_p_sx, pm_p_sz, pm_p_sr, pm_p_sy]); assumption) dX6_register_57 ?_
        refine pm_iload_n dX6_register_60 rfl ?_
        refine pm_vi (c_X3_numberAt G l bs (Y.1 (pq q 2)) (Y.1 (pq q 3)) (az_t Z 1 q 0) i _ (hx.ts hq)) pm_y_X3_numberAt pm_v_X3_numberAt pm_m_X6_141 (c := 3) (r := (RX3, TX3, 2)) rfl rfl (hx.ts hq).1.1 dX6_register_61 rfl rfl (by decide) (Nat.le_of_ble_eq_true rfl) (fun x61 S61 h61 => ?_)
        obtain ⟨rfl, rfl⟩ := h61
        refine pm_goto (tgt := 68) dX6_register_64 (by decide) ?_
        subst hQ9
        refine pm_iret dX6_register_68 ?_
        first
        | exact ⟨by unfold zReg; rw [if_neg h8, if_neg h9], rfl⟩
        | exact ⟨by unfold zReg; rw [if_neg h8, if_pos h9]; rfl, rfl⟩
    · skip
      have h8 : j < 8 := by rcases Nat.lt_or_ge j 8 with q | q; exact q; exact absurd ((pm_nle (a := 8) (b := j) (by omega) (by omega)).mpr q) h32
      refine pm_aload dX6_register_35 rfl ?_
      refine pm_iload_n dX6_register_37 rfl ?_
      refine pm_vr (c_X1_x G l bs (Y.1 (pq q 0)) (Y.1 (pq q 1)) (nI j) _ pk0q pr1q pk1q pn1q) pm_y_X1_x pm_v_X1_x pm_m_X6_137 (c := 1) (r := (RX1, TX1, 16)) rfl rfl (by (try simp only [pm_k_si, pm_k_sj, pm_k_sp, pm_k_sx, pm_k_sz, pm_k_sr, pm_k_sy]); assumption) dX6_register_38 rfl rfl (by decide) (Nat.le_of_ble_eq_true rfl) (fun x38 S38 h38 => ?_)
      obtain ⟨e38, rfl⟩ := h38
      rw [pm_mod_n (by decide) (by omega), Nat.mod_eq_of_lt h8, pz1q j h8] at e38
      subst e38
      have tj := hx.tm (j := j) hq h8
      show pm_W _ _ _ _ _ _ _ _ _ _ _ _ _ [.ref (Y.1 (pq q (10 + j)))] _
      refine pm_iload_n dX6_register_41 rfl ?_
      refine pm_vi (c_X3_numberAt G l bs (Y.1 (pq q (10 + j))) (Y.1 (pq q (20 + j))) (az_t Z 0 q j) i _ (tj)) pm_y_X3_numberAt pm_v_X3_numberAt pm_m_X6_141 (c := 3) (r := (RX3, TX3, 2)) rfl rfl (tj).1.1 dX6_register_42 rfl rfl (by decide) (Nat.le_of_ble_eq_true rfl) (fun x42 S42 h42 => ?_)
      obtain ⟨rfl, rfl⟩ := h42
      subst hQ9
      refine pm_iret dX6_register_45 ?_
      exact ⟨by unfold zReg; rw [if_pos h8]; rfl, rfl⟩
  · exact absurd h18 (by decide)

set_option maxHeartbeats 4000000 in
set_option maxRecDepth 100000 in
theorem c_X6_message (G : pm_G) (l : Launch) (bs : Nat) (Z : az) (Y : pm_Y) (E : pm_S) (s : Nat) (q : Nat) (k i : Int32) (S : pm_S) (hx : pm_CX Z S Y E) (hI : zI s Z) (hq : q < az_a Z 0) : pm_M G l bs yX6_message cX6_message 6 (some .int) 1 0 0 [.ref (Y.1 0), .int (nI (q + 1)), .int k, .int i] S (pm_qi (fun x S2 => x = zMsg Z q k i ∧ S2 = S)) := by
  have hn := hI.1
  have hsm := hI.sm
  obtain ⟨h, hmk⟩ := id hx
  have hA := h.2.2.2.2.2.1
  obtain ⟨⟨hk0, hr0, hr1, hr2, hr3, hr4, hr5, hr6, hr7⟩, ⟨hk1, hl1⟩, ⟨hk2, hl2⟩, ⟨hk3, hl3⟩, ⟨hk4, hl4⟩, hWt, hSh, hLt, hCs⟩ := id h.2.2.1
  obtain ⟨kW, rW1, rW2, rW3, kW1, nW1, kW2, nW2, kW3, nW3, -⟩ := id hWt
  have hBq := h.2.2.2.2.1 q hq
  obtain ⟨⟨pk0q, pr1q, pr2q, pr4q, pr6q, ppidq⟩, ⟨pk1q, pn1q, pz1q⟩, hmbq, htsq⟩ := id (h.2.2.2.1 q hq)
  refine pm_Mi (L := [.ref (Y.1 0), .int (nI (q + 1)), .int k, .int i, pm_u, pm_u]) (by decide +kernel) rfl (pm_en_1 rfl (pm_en_1 rfl (pm_en_1 rfl (pm_en_1 rfl (pm_en_0 rfl))))) ?_
  generalize hQ9 : pm_xi (fun x S2 => x = zMsg Z q k i ∧ S2 = S) = Q9
  refine pm_aload_n dX6_message_0 rfl ?_
  refine pm_iload_n dX6_message_1 rfl ?_
  refine pm_vr (c_X6_find G l bs Z Y E (nI (q + 1)) _ h hn) pm_y_X6_find pm_v_X6_find pm_m_X6_91 (c := 6) (r := (RX6, TX6, 16)) rfl rfl (by (try simp only [pm_k_si, pm_k_sj, pm_k_sp, pm_k_sx, pm_k_sz, pm_k_sr, pm_k_sy]); assumption) dX6_message_2 rfl rfl (by decide) (Nat.le_of_ble_eq_true rfl) (fun x2 S2 h2 => ?_)
  obtain ⟨e2, rfl⟩ := h2
  rw [nI_toInt (by omega), if_pos (by omega), show (((q + 1 : Nat) : Int).toNat - 1) = q from by omega] at e2
  subst e2
  show pm_W _ _ _ _ _ _ _ _ _ _ _ _ _ [.ref (Y.1 (pq q 0))] _
  refine pm_astore dX6_message_5 (by decide) ?_
  dsimp only [List.set]
  refine pm_aload dX6_message_7 rfl ?_
  refine pm_ifnonnull_r (tgt := 20) dX6_message_9 (by decide) ?_
  refine pm_aload dX6_message_20 rfl ?_
  refine pm_g_Proc_box (by (try simp only [pm_k_si, pm_k_sj, pm_k_sp, pm_k_sx, pm_k_sz, pm_k_sr, pm_k_sy]); assumption) pm_f_X6_114 (by (try simp only [pm_p_si, pm_p_sj, pm_p_sx, pm_p_sz, pm_p_sr, pm_p_sy]); assumption) dX6_message_22 ?_
  refine pm_iload_n dX6_message_25 rfl ?_
  refine pm_vr (c_X0_rowAt G l bs (Y.1 (pq q 4)) (Y.1 (pq q 5)) (az_b Z 9 q) k _ hmbq (hBq 1 4 9 rfl) (hI.b hq 9)) pm_y_X0_rowAt pm_v_X0_rowAt pm_m_X6_148 (c := 0) (r := (RX0, TX0, 3)) rfl rfl hmbq.1 dX6_message_26 rfl rfl (by decide) (Nat.le_of_ble_eq_true rfl) (fun x26 S26 h26 => ?_)
  obtain ⟨e26, rfl⟩ := h26
  by_cases hk : 0 ≤ k ∧ k.toInt < az_b Z 9 q
  · have hk0 : 0 ≤ k.toInt := Int32.le_iff_toInt_le.mp hk.1
    have mt := hx.mt (k := k.toInt.toNat) hq (by omega)
    rw [if_pos hk, mt.2.1] at e26
    subst e26
    show pm_W _ _ _ _ _ _ _ _ _ _ _ _ _ [.ref (Y.1 (pq q (30 + Y.2.2 q k.toInt.toNat)))] _
    refine pm_astore dX6_message_29 (by decide) ?_
    dsimp only [List.set]
    refine pm_aload dX6_message_31 rfl ?_
    refine pm_ifnonnull_r (tgt := 40) dX6_message_33 (by decide) ?_
    refine pm_aload dX6_message_40 rfl ?_
    refine pm_iload_n dX6_message_42 rfl ?_
    refine pm_vi (c_X3_numberAt G l bs (Y.1 (pq q (30 + Y.2.2 q k.toInt.toNat))) (Y.1 (pq q (80 + Y.2.2 q k.toInt.toNat))) (az_t Z 2 q k.toInt.toNat) i _ (mt.2.2)) pm_y_X3_numberAt pm_v_X3_numberAt pm_m_X6_141 (c := 3) (r := (RX3, TX3, 2)) rfl rfl (mt.2.2).1.1 dX6_message_43 rfl rfl (by decide) (Nat.le_of_ble_eq_true rfl) (fun x43 S43 h43 => ?_)
    obtain ⟨rfl, rfl⟩ := h43
    subst hQ9
    refine pm_iret dX6_message_46 ?_
    exact ⟨by unfold zMsg; rw [if_pos hk]; rfl, rfl⟩
  · rw [if_neg hk] at e26
    subst e26
    show pm_W _ _ _ _ _ _ _ _ _ _ _ _ _ [.null] _
    refine pm_astore dX6_message_29 (by decide) ?_
    dsimp only [List.set]
    refine pm_aload dX6_message_31 rfl ?_
    refine pm_ifnonnull_n dX6_message_33 ?_
    refine pm_iconst (v := (-1)) dX6_message_36 (by decide) ?_
    refine pm_goto (tgt := 46) dX6_message_37 (by decide) ?_
    subst hQ9
    refine pm_iret dX6_message_46 ?_
    exact ⟨by unfold zMsg; rw [if_neg hk], rfl⟩

set_option maxHeartbeats 4000000 in
set_option maxRecDepth 100000 in
theorem c_X6_total (G : pm_G) (l : Launch) (bs : Nat) (Z : az) (Y : pm_Y) (E : pm_S) (s : Nat) (j : Nat) (S : pm_S) (hx : pm_CX Z S Y E) (hI : zI s Z) (hj : j < 9) : pm_M G l bs yX6_total cX6_total 2 (some .int) 1 0 0 [.ref (Y.1 0), .int (nI j)] S (pm_qi (fun x S2 => x = zTot Z j ∧ S2 = S)) := by
  have hn := hI.1
  have hsm := hI.sm
  obtain ⟨h, hmk⟩ := id hx
  have hA := h.2.2.2.2.2.1
  obtain ⟨⟨hk0, hr0, hr1, hr2, hr3, hr4, hr5, hr6, hr7⟩, ⟨hk1, hl1⟩, ⟨hk2, hl2⟩, ⟨hk3, hl3⟩, ⟨hk4, hl4⟩, hWt, hSh, hLt, hCs⟩ := id h.2.2.1
  obtain ⟨kW, rW1, rW2, rW3, kW1, nW1, kW2, nW2, kW3, nW3, -⟩ := id hWt
  have hd1 : az_a Z 1 ≤ az_a Z 0 := by have := hI.2.2.2.2.1.1; have := zCnt_le Z 2 (az_a Z 0); omega
  refine pm_Mi (L := [.ref (Y.1 0), .int (nI j)]) (by decide +kernel) rfl (pm_en_1 rfl (pm_en_1 rfl (pm_en_0 rfl))) ?_
  generalize hQ9 : pm_xi (fun x S2 => x = zTot Z j ∧ S2 = S) = Q9
  refine pm_iload_n dX6_total_0 rfl ?_
  match j, hj with
  | 0, _ =>
    refine pm_tableIn (tgt := 52) dX6_total_1 (by decide) (by decide) rfl (by decide) ?_
    refine pm_aload_n dX6_total_52 rfl ?_
    refine pm_g_Mill_started (by (try simp only [pm_k_si, pm_k_sj, pm_k_sp, pm_k_sx, pm_k_sz, pm_k_sr, pm_k_sy]); assumption) pm_f_X6_49 dX6_total_53 ?_
    subst hQ9
    refine pm_iret dX6_total_56 ?_
    exact ⟨hA 308 0 0 rfl, rfl⟩
  | 1, _ =>
    refine pm_tableIn (tgt := 57) dX6_total_1 (by decide) (by decide) rfl (by decide) ?_
    refine pm_aload_n dX6_total_57 rfl ?_
    refine pm_g_Mill_started (by (try simp only [pm_k_si, pm_k_sj, pm_k_sp, pm_k_sx, pm_k_sz, pm_k_sr, pm_k_sy]); assumption) pm_f_X6_49 dX6_total_58 ?_
    refine pm_aload_n dX6_total_61 rfl ?_
    refine pm_g_Mill_deaths (by (try simp only [pm_k_si, pm_k_sj, pm_k_sp, pm_k_sx, pm_k_sz, pm_k_sr, pm_k_sy]); assumption) pm_f_X6_53 dX6_total_62 ?_
    refine pm_isub dX6_total_65 ?_
    subst hQ9
    refine pm_iret dX6_total_66 ?_
    exact ⟨by rw [hA 308 0 0 rfl, hA 309 0 1 rfl]; exact pk_sub hd1, rfl⟩
  | 2, _ =>
    refine pm_tableIn (tgt := 67) dX6_total_1 (by decide) (by decide) rfl (by decide) ?_
    refine pm_aload_n dX6_total_67 rfl ?_
    refine pm_vi (c_X6_readyOnes G l bs Z Y E _ h hn (fun q hq => hsm q hq 1 (by decide))) pm_y_X6_readyOnes pm_v_X6_readyOnes pm_m_X6_151 (c := 6) (r := (RX6, TX6, 16)) rfl rfl (by (try simp only [pm_k_si, pm_k_sj, pm_k_sp, pm_k_sx, pm_k_sz, pm_k_sr, pm_k_sy]); assumption) dX6_total_68 rfl rfl (by decide) (Nat.le_of_ble_eq_true rfl) (fun x68 S68 h68 => ?_)
    obtain ⟨rfl, rfl⟩ := h68
    subst hQ9
    refine pm_iret dX6_total_71 ?_
    exact ⟨rfl, rfl⟩
  | 3, _ =>
    refine pm_tableIn (tgt := 72) dX6_total_1 (by decide) (by decide) rfl (by decide) ?_
    refine pm_aload_n dX6_total_72 rfl ?_
    refine pm_g_Mill_slices (by (try simp only [pm_k_si, pm_k_sj, pm_k_sp, pm_k_sx, pm_k_sz, pm_k_sr, pm_k_sy]); assumption) pm_f_X6_62 dX6_total_73 ?_
    subst hQ9
    refine pm_iret dX6_total_76 ?_
    exact ⟨hA 312 0 4 rfl, rfl⟩
  | 4, _ =>
    refine pm_tableIn (tgt := 77) dX6_total_1 (by decide) (by decide) rfl (by decide) ?_
    refine pm_aload_n dX6_total_77 rfl ?_
    refine pm_g_Mill_wordsDone (by (try simp only [pm_k_si, pm_k_sj, pm_k_sp, pm_k_sx, pm_k_sz, pm_k_sr, pm_k_sy]); assumption) pm_f_X6_65 dX6_total_78 ?_
    subst hQ9
    refine pm_iret dX6_total_81 ?_
    exact ⟨hA 313 0 5 rfl, rfl⟩
  | 5, _ =>
    refine pm_tableIn (tgt := 82) dX6_total_1 (by decide) (by decide) rfl (by decide) ?_
    refine pm_aload_n dX6_total_82 rfl ?_
    refine pm_g_Mill_time (by (try simp only [pm_k_si, pm_k_sj, pm_k_sp, pm_k_sx, pm_k_sz, pm_k_sr, pm_k_sy]); assumption) pm_f_X6_68 dX6_total_83 ?_
    subst hQ9
    refine pm_iret dX6_total_86 ?_
    exact ⟨hA 314 0 6 rfl, rfl⟩
  | 6, _ =>
    refine pm_tableIn (tgt := 87) dX6_total_1 (by decide) (by decide) rfl (by decide) ?_
    refine pm_aload_n dX6_total_87 rfl ?_
    refine pm_g_Mill_sheet (by (try simp only [pm_k_si, pm_k_sj, pm_k_sp, pm_k_sx, pm_k_sz, pm_k_sr, pm_k_sy]); assumption) pm_f_X6_35 (by (try simp only [pm_p_si, pm_p_sj, pm_p_sx, pm_p_sz, pm_p_sr, pm_p_sy]); assumption) dX6_total_88 ?_
    refine pm_g_Sheet_printed hSh.1 pm_f_X6_155 dX6_total_91 ?_
    subst hQ9
    refine pm_iret dX6_total_94 ?_
    exact ⟨hA 101 9 9 rfl, rfl⟩
  | 7, _ =>
    refine pm_tableIn (tgt := 95) dX6_total_1 (by decide) (by decide) rfl (by decide) ?_
    refine pm_aload_n dX6_total_95 rfl ?_
    refine pm_g_Mill_watches (by (try simp only [pm_k_si, pm_k_sj, pm_k_sp, pm_k_sx, pm_k_sz, pm_k_sr, pm_k_sy]); assumption) pm_f_X6_28 (by (try simp only [pm_p_si, pm_p_sj, pm_p_sx, pm_p_sz, pm_p_sr, pm_p_sy]); assumption) dX6_total_96 ?_
    refine pm_g_Watches_made kW pm_f_X6_158 dX6_total_99 ?_
    subst hQ9
    refine pm_iret dX6_total_102 ?_
    exact ⟨hA 254 5 8 rfl, rfl⟩
  | 8, _ =>
    refine pm_tableIn (tgt := 103) dX6_total_1 (by decide) (by decide) rfl (by decide) ?_
    refine pm_aload_n dX6_total_103 rfl ?_
    refine pm_g_Mill_messagesCame (by (try simp only [pm_k_si, pm_k_sj, pm_k_sp, pm_k_sx, pm_k_sz, pm_k_sr, pm_k_sy]); assumption) pm_f_X6_71 dX6_total_104 ?_
    subst hQ9
    refine pm_iret dX6_total_107 ?_
    exact ⟨hA 315 0 7 rfl, rfl⟩
  | _ + 9, hj => exact absurd hj (by omega)

