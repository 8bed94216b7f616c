/-! ProcessMill: processes that begin -/
theorem zReady_n (Z : az) (a pr : Nat) : zReady (zs_n Z 0 pr) (az_a Z 0) a = zNew Z a pr := by
  have e : zs_e (zs_b (zs_b (zs_n Z 0 pr) 1 (az_a Z 0) 0) 2 (az_a Z 0) a) 1 (az_a Z 0) none = zs_n Z a pr := by
    refine az_ext rfl (funext fun i => funext fun q => ?_) rfl (funext fun i => funext fun q => ?_) rfl rfl rfl rfl
    · rw [z_b_e, z_b_b, z_b_b, z_b_n, z_b_n]
      by_cases hq : q = az_a Z 0
      · by_cases h2 : i = 2
        · rw [if_pos ⟨h2, hq⟩, if_pos hq, if_neg (by omega), if_pos h2]
        · rw [if_neg (fun z => h2 z.1), if_pos hq, if_pos hq, if_neg h2, if_neg h2]
          by_cases h1 : i = 1
          · rw [if_pos ⟨h1, hq⟩, if_neg (by omega)]
          · rw [if_neg (fun z => h1 z.1)]
      · rw [if_neg (fun z => hq z.2), if_neg (fun z => hq z.2), if_neg hq, if_neg hq]
    · rw [z_e_e, z_e_n, z_e_b, z_e_b, z_e_n]
      by_cases hq : q = az_a Z 0
      · by_cases h1 : i = 1
        · rw [if_pos ⟨h1, hq⟩, if_pos ⟨Or.inr h1, hq⟩]
        · rw [if_neg (fun z => h1 z.1)]
      · rw [if_neg (fun z => hq z.2)]
  unfold zReady zNew
  rw [e]
theorem zNew_12 (Z : az) (a pr q : Nat) : az_b (zNew Z a pr) 12 q = az_b (zs_n Z 0 pr) 12 q := by
  unfold zNew zTurn
  rw [z_b_a, z_b_bne (by decide), z_b_n, z_b_n]
  simp
theorem pm_CX.lnk {Z : az} {S E : pm_S} {Y : pm_Y} {p q : Nat} (hx : pm_CX Z S Y E) (hn : az_a Z 0 ≤ 60) (hp : p < az_a Z 0) (hq : q < az_a Z 0) : pm_CX (zLink Z p q true) (pm_sj (pm_sj S 64 (Y.1 (pq p 0)) (pm_j S 64 (Y.1 (pq p 0)) ||| pm_bit (q + 1))) 64 (Y.1 (pq q 0)) (pm_j (pm_sj S 64 (Y.1 (pq p 0)) (pm_j S 64 (Y.1 (pq p 0)) ||| pm_bit (q + 1))) 64 (Y.1 (pq q 0)) ||| pm_bit (p + 1))) Y E := by
  have h2 := (hx.1.f1 hn hp hq).f1 (p := q) (q := p) hn hq hp
  exact hx.lift h2 rfl (fun _ => rfl)
/-- a process begets one -/
def zBg (Z : az) (p : Nat) (lk : Bool) (j a : Nat) (w : List Int32) : az :=
  if az_a Z 0 < 60 then zs_t (if lk then zLink (zs_t (zs_t (zNew Z a (az_b Z 0 p)) 0 (az_a Z 0) 0 [2, nI (p + 1)]) 0 (az_a Z 0) 1 w) p (az_a Z 0) true else zs_t (zs_t (zNew Z a (az_b Z 0 p)) 0 (az_a Z 0) 0 [2, nI (p + 1)]) 0 (az_a Z 0) 1 w) 0 p j [2, nI (az_a Z 0 + 1)] else Z
theorem zBg_U {Z : az} {p j a : Nat} {lk : Bool} {w : List Int32} (h : az_a Z 0 < 60) : zU (zBg Z p lk j a w) = zU Z + 26 := by
  unfold zBg
  rw [if_pos h, ← (zNew_U Z a (az_b Z 0 p)).2]
  cases lk <;> exact zU_eq rfl (fun _ _ => rfl)
set_option maxHeartbeats 4000000 in
set_option maxRecDepth 100000 in
theorem c_X6_beginProcess (G : pm_G) (l : Launch) (bs : Nat) (Z : az) (Y : pm_Y) (E : pm_S) (s : Nat) (a pr : Nat) (S : pm_S) (hx : pm_CX Z S Y E) (hI : zI s Z) (hlt : az_a Z 0 < 60) : pm_M G l bs yX6_beginProcess cX6_beginProcess 4 (some (.object "ProcessMill$Proc")) 3 26 977 [.ref (Y.1 0), .int (nI a), .int (nI pr)] S (pm_qr (fun x S2 => ∃ Y2, yLe (az_a Z 0) Y Y2 ∧ x = some (Y2.1 (pq (az_a Z 0) 0)) ∧ pm_CX (zNew Z a pr) S2 Y2 E)) := by
  obtain ⟨h, hmk⟩ := id hx
  have hA := h.2.2.2.2.2.1
  obtain ⟨⟨hk0, hr0, hr1, hr2, hr3, hr4, hr5, hr6, hr7⟩, ⟨hk1, hl1⟩, ⟨hk2, hl2⟩, ⟨hk3, hl3⟩, ⟨hk4, hl4⟩, hWt, hSh, hLt, hCs⟩ := id h.2.2.1
  obtain ⟨kW, rW1, rW2, rW3, kW1, nW1, kW2, nW2, kW3, nW3, -⟩ := id hWt
  refine pm_Mr (L := [.ref (Y.1 0), .int (nI a), .int (nI pr), pm_u]) (by decide +kernel) rfl (pm_en_1 rfl (pm_en_1 rfl (pm_en_1 rfl (pm_en_0 rfl)))) ?_
  generalize hQ9 : pm_xr (fun x S2 => ∃ Y2, yLe (az_a Z 0) Y Y2 ∧ x = some (Y2.1 (pq (az_a Z 0) 0)) ∧ pm_CX (zNew Z a pr) S2 Y2 E) = Q9
  refine pm_new_Proc pm_c_X6_13 (kc' := 25) (ks' := 961) (by decide) (by decide) dX6_beginProcess_0 (fun a0 hf0 hb0 => ?_)
  refine pm_dup dX6_beginProcess_3 ?_
  refine pm_aload_n dX6_beginProcess_4 rfl ?_
  have n0 : Y.1 0 ≠ a0 := fun e => h.2.1 0 (lv_c (by decide)) (by rw [e]; exact hf0)
  refine pm_g_Mill_started (by rw [pm_k_nw, if_neg n0]; exact hk0) pm_f_X6_49 dX6_beginProcess_5 ?_
  refine pm_iconst (v := 1) dX6_beginProcess_8 (by decide) ?_
  refine pm_iadd dX6_beginProcess_9 ?_
  refine pm_iload_n dX6_beginProcess_10 rfl ?_
  rw [show pm_i (pm_nw S a0 2 0) 308 (Y.1 0) + 1 = nI (az_a Z 0 + 1) from by rw [pm_i_nw, if_neg n0, hA 308 0 0 rfl]; exact nI_1 _]
  refine pm_callI (c_X1_init G l bs a0 (nI (az_a Z 0 + 1)) (nI pr) _ (by rw [pm_k_nw, if_pos rfl])) pm_y_X1_init pm_i_X1_init rfl (Or.inl pm_m_X6_173) rfl (by decide) (kc2 := 0) (ks2 := 0) (by decide) (by decide) (Nat.le_of_ble_eq_true rfl) dX6_beginProcess_11 rfl (fun v11 S11 h11 => ?_)
  obtain ⟨rfl, h11⟩ := h11
  dsimp only [Option.toList, List.nil_append]
  obtain ⟨Y2, hle, ev, kv, hG, hN, hM⟩ := hx.newproc hI hlt hf0 h11
  rw [← hle.c (c := 0) (by decide)]
  obtain ⟨⟨gk0, gr0, gr1, -⟩, -, ⟨gk2, gl2⟩, -⟩ := id hG.2.2.1
  have gA := hG.2.2.2.2.2.1
  refine pm_astn dX6_beginProcess_14 (i := 3) rfl (by decide) ?_
  dsimp only [List.set]
  refine pm_aload_n dX6_beginProcess_15 rfl ?_
  refine pm_g_Mill_processes gk0 pm_f_X6_15 gr1 dX6_beginProcess_16 ?_
  refine pm_aload_n dX6_beginProcess_19 rfl ?_
  refine pm_g_Mill_started gk0 pm_f_X6_49 dX6_beginProcess_20 ?_
  refine pm_aload_n dX6_beginProcess_23 rfl ?_
  refine pm_aastoreP (n := az_a Z 0) gk2 (gA 308 0 0 rfl) (by rw [gl2]; exact hlt) (by rw [gl2]; decide) kv dX6_beginProcess_24 ?_
  refine pm_aload_n dX6_beginProcess_25 rfl ?_
  refine pm_dup dX6_beginProcess_26 ?_
  refine pm_g_Mill_started (by (try simp only [pm_k_si, pm_k_sj, pm_k_sp, pm_k_sx, pm_k_sz, pm_k_sr, pm_k_sy]); assumption) pm_f_X6_49 dX6_beginProcess_27 ?_
  refine pm_iconst (v := 1) dX6_beginProcess_30 (by decide) ?_
  refine pm_iadd dX6_beginProcess_31 ?_
  rw [show pm_i (pm_sz S11 (Y2.1 2) (az_a Z 0) (some a0)) 308 (Y2.1 0) + 1 = nI (az_a Z 0 + 1) from by rw [pm_i_sz, gA 308 0 0 rfl]; exact nI_1 _]
  refine pm_p_Mill_started (by (try simp only [pm_k_si, pm_k_sj, pm_k_sp, pm_k_sx, pm_k_sz, pm_k_sr, pm_k_sy]); assumption) pm_f_X6_49 dX6_beginProcess_32 ?_
  generalize pm_si (pm_sz S11 (Y2.1 2) (az_a Z 0) (some a0)) 308 (Y2.1 0) (nI (az_a Z 0 + 1)) = S33 at hN ⊢
  have kN := hN.2.2.1.1.1
  rw [← ev]
  refine pm_aload_n dX6_beginProcess_35 rfl ?_
  refine pm_aload_n dX6_beginProcess_36 rfl ?_
  refine pm_iload_n dX6_beginProcess_37 rfl ?_
  refine pm_vv (c_X6_makeReady G l bs (zs_n Z 0 pr) Y2 E (az_a Z 0) a S33 hN (by show az_a Z 0 + 1 ≤ 60; omega) (by show az_a Z 0 < az_a Z 0 + 1; omega)) pm_y_X6_makeReady pm_v_X6_makeReady pm_m_X6_126 (c := 6) (r := (RX6, TX6, 16)) rfl rfl kN dX6_beginProcess_38 rfl rfl (by decide) (Nat.le_of_ble_eq_true rfl) (fun S38 h38 => ?_)
  rw [zReady_n] at h38
  refine pm_aload_n dX6_beginProcess_41 rfl ?_
  subst hQ9
  refine pm_aret dX6_beginProcess_42 ?_
  exact ⟨Y2, hle, rfl, h38, fun p hp => by rw [zNew_12]; exact hM p hp⟩

set_option maxHeartbeats 4000000 in
set_option maxRecDepth 100000 in
theorem c_X6_beget (G : pm_G) (l : Launch) (bs : Nat) (Z : az) (Y : pm_Y) (E : pm_S) (s : Nat) (p j a jc : Nat) (lk : Bool) (g : Int32) (S : pm_S) (hx : pm_CX Z S Y E) (hI : zI s Z) (hp : p < az_a Z 0) (hj : j < 8) (hjc : jc < 8) (ha : a < 300) (hg : g = if lk = true then 1 else 0) : pm_M G l bs yX6_beget cX6_beget 7 (some .int) 4 (zU (zBg Z p lk j a (az_t Z 0 p jc)) - zU Z) (49 * (zU (zBg Z p lk j a (az_t Z 0 p jc)) - zU Z)) [.ref (Y.1 0), .ref (Y.1 (pq p 0)), .int g, .ref (Y.1 (pq p (10 + j))), .int (nI a), .ref (Y.1 (pq p (10 + jc)))] S (pm_qi (fun x S2 => x = (if az_a Z 0 < 60 then -1 else 5) ∧ ∃ Y2, yLe (az_a Z 0) Y Y2 ∧ pm_CX (zBg Z p lk j a (az_t Z 0 p jc)) S2 Y2 E)) := by
  have hn := hI.1
  have hsm := hI.sm
  obtain ⟨h, hmk⟩ := id hx
  have hA := h.2.2.2.2.2.1
  obtain ⟨⟨hk0, hr0, hr1, hr2, hr3, hr4, hr5, hr6, hr7⟩, ⟨hk1, hl1⟩, ⟨hk2, hl2⟩, ⟨hk3, hl3⟩, ⟨hk4, hl4⟩, hWt, hSh, hLt, hCs⟩ := id h.2.2.1
  obtain ⟨kW, rW1, rW2, rW3, kW1, nW1, kW2, nW2, kW3, nW3, -⟩ := id hWt
  have hB := h.2.2.2.2.1 p hp
  obtain ⟨⟨pk0, pr1, pr2, pr4, pr6, ppid⟩, ⟨pk1, pn1, pz1⟩, hmb, hts⟩ := id (h.2.2.2.1 p hp)
  refine pm_Mi (L := [.ref (Y.1 0), .ref (Y.1 (pq p 0)), .int g, .ref (Y.1 (pq p (10 + j))), .int (nI a), .ref (Y.1 (pq p (10 + jc))), pm_u]) (by decide +kernel) rfl (pm_en_1 rfl (pm_en_1 rfl (pm_en_1 rfl (pm_en_1 rfl (pm_en_1 rfl (pm_en_1 rfl (pm_en_0 rfl))))))) ?_
  generalize hQ9 : pm_xi (fun x S2 => x = (if az_a Z 0 < 60 then -1 else 5) ∧ ∃ Y2, yLe (az_a Z 0) Y Y2 ∧ pm_CX (zBg Z p lk j a (az_t Z 0 p jc)) S2 Y2 E) = Q9
  refine pm_aload_n dX6_beget_0 rfl ?_
  refine pm_g_Mill_started (by (try simp only [pm_k_si, pm_k_sj, pm_k_sp, pm_k_sx, pm_k_sz, pm_k_sr, pm_k_sy]); assumption) pm_f_X6_49 dX6_beget_1 ?_
  refine pm_bipush (v := 60) dX6_beget_4 (by decide) ?_
  rw [hA 308 0 0 rfl]
  refine pm_icmp_lt (tgt := 11) dX6_beget_6 (by decide) (fun h6 => ?_) (fun h6 => ?_)
  · skip
    have h8 : az_a Z 0 < 60 := (pm_lt16 (n := az_a Z 0) (m := 60) (by omega) (by omega)).mp h6
    have hU := zBg_U (p := p) (j := j) (a := a) (lk := lk) (w := az_t Z 0 p jc) h8
    refine pm_aload_n dX6_beget_11 rfl ?_
    refine pm_iload dX6_beget_12 rfl ?_
    refine pm_aload_n dX6_beget_14 rfl ?_
    refine pm_g_Proc_priority (by (try simp only [pm_k_si, pm_k_sj, pm_k_sp, pm_k_sx, pm_k_sz, pm_k_sr, pm_k_sy]); assumption) pm_f_X6_342 dX6_beget_15 ?_
    rw [hB 51 0 0 rfl]
    refine pm_vrk (kc2 := 0) (ks2 := 0) (c_X6_beginProcess G l bs Z Y E s a (az_b Z 0 p) S hx hI h8) pm_y_X6_beginProcess pm_v_X6_beginProcess pm_m_X6_84 (c := 6) (r := (RX6, TX6, 16)) rfl rfl (by (try simp only [pm_k_si, pm_k_sj, pm_k_sp, pm_k_sx, pm_k_sz, pm_k_sr, pm_k_sy]); assumption) dX6_beget_18 rfl rfl (by decide) (Nat.le_of_ble_eq_true rfl) (by omega) (by omega) (fun x18 S18 h18 => ?_)
    obtain ⟨Y2, hle, rfl, hx2⟩ := h18
    have hI2 := hI.new (a := a) (pr := az_b Z 0 p) h8 ha (hI.b hp 0)
    have hn2 := hI2.1
    have en2 : az_a (zNew Z a (az_b Z 0 p)) 0 = az_a Z 0 + 1 := (zNew_U Z a (az_b Z 0 p)).1
    have hnl : az_a Z 0 < az_a (zNew Z a (az_b Z 0 p)) 0 := by omega
    have hp2 : p < az_a (zNew Z a (az_b Z 0 p)) 0 := by omega
    have ew : ∀ i k, az_t (zNew Z a (az_b Z 0 p)) i p k = az_t Z i p k := fun i k => by
      unfold zNew zTurn
      rw [z_t_a, z_t_b, z_t_n, if_neg (fun z => by omega)]
    rw [← hle.c (c := 0) (by decide), ← hle.p (p := p) (c := 0) hp (by decide), ← hle.p (p := p) (c := 10 + j) hp (by omega), ← hle.p (p := p) (c := 10 + jc) hp (by omega)]
    have hnp : p ≠ az_a Z 0 := by omega
    have hnp2 : az_a Z 0 ≠ p := by omega
    generalize hZ2 : zNew Z a (az_b Z 0 p) = Z2 at hx2 hI2 hn2 en2 hnl hp2 ew ⊢
    obtain ⟨h_2, hmk_2⟩ := id hx2
    have hA_2 := h_2.2.2.2.2.2.1
    obtain ⟨⟨hk0_2, hr0_2, hr1_2, hr2_2, hr3_2, hr4_2, hr5_2, hr6_2, hr7_2⟩, ⟨hk1_2, hl1_2⟩, ⟨hk2_2, hl2_2⟩, ⟨hk3_2, hl3_2⟩, ⟨hk4_2, hl4_2⟩, hWt_2, hSh_2, hLt_2, hCs_2⟩ := id h_2.2.2.1
    obtain ⟨kW_2, rW1_2, rW2_2, rW3_2, kW1_2, nW1_2, kW2_2, nW2_2, kW3_2, nW3_2, -⟩ := id hWt_2
    have hB_2 := h_2.2.2.2.2.1 p hp2
    obtain ⟨⟨pk0_2, pr1_2, pr2_2, pr4_2, pr6_2, ppid_2⟩, ⟨pk1_2, pn1_2, pz1_2⟩, hmb_2, hts_2⟩ := id (h_2.2.2.2.1 p hp2)
    have hB_2n := h_2.2.2.2.2.1 (az_a Z 0) hnl
    obtain ⟨⟨nk0_2, nr1_2, -, -, -, npid_2⟩, ⟨nk1_2, nn1_2, nz1_2⟩, -⟩ := id (h_2.2.2.2.1 (az_a Z 0) hnl)
    show pm_W _ _ _ _ _ _ _ _ _ _ _ _ _ [.ref (Y2.1 (pq (az_a Z 0) 0))] _
    refine pm_astore dX6_beget_21 (by decide) ?_
    dsimp only [List.set]
    refine pm_aload dX6_beget_23 rfl ?_
    refine pm_iconst (v := 0) dX6_beget_25 (by decide) ?_
    refine pm_vr (c_X1_x G l bs (Y2.1 (pq (az_a Z 0) 0)) (Y2.1 (pq (az_a Z 0) 1)) _ S18 nk0_2 nr1_2 nk1_2 nn1_2) pm_y_X1_x pm_v_X1_x pm_m_X6_137 (c := 1) (r := (RX1, TX1, 16)) rfl rfl nk0_2 dX6_beget_26 rfl rfl (by decide) (Nat.le_of_ble_eq_true rfl) (fun x26 S26 h26 => ?_)
    obtain ⟨e26, rfl⟩ := h26
    rw [show pm_mod 0 8 = 0 from by decide, nz1_2 0 (by decide)] at e26
    subst e26
    have to0 := hx2.tm (p := az_a Z 0) (j := 0) hnl (by decide)
    show pm_W _ _ _ _ _ _ _ _ _ _ _ _ _ [.ref (Y2.1 (pq (az_a Z 0) (10 + 0)))] _
    refine pm_iconst (v := 2) dX6_beget_29 (by decide) ?_
    refine pm_aload_n dX6_beget_30 rfl ?_
    refine pm_g_Proc_pid pk0_2 pm_f_X6_88 dX6_beget_31 ?_
    rw [ppid_2]
    refine pm_vv (c_X3_setSingle G l bs (Y2.1 (pq (az_a Z 0) (10 + 0))) (Y2.1 (pq (az_a Z 0) (20 + 0))) 2 (nI (p + 1)) S26 to0.1) pm_y_X3_setSingle pm_v_X3_setSingle pm_m_X6_95 (c := 3) (r := (RX3, TX3, 2)) rfl rfl to0.1.1 dX6_beget_34 rfl rfl (by decide) (Nat.le_of_ble_eq_true rfl) (fun S34 h34 => ?_)
    have hx3 := hx2.rg (p := az_a Z 0) (j := 0) hn2 hnl (by decide) h34.1 h34.2
    have hI3 := hI2.t0 (p := az_a Z 0) (j := 0) (tW.pid hp2 hn2)
    have hnl3 : az_a Z 0 < az_a (zs_t Z2 0 (az_a Z 0) 0 [2, nI (p + 1)]) 0 := hnl
    have hp3 : p < az_a (zs_t Z2 0 (az_a Z 0) 0 [2, nI (p + 1)]) 0 := hp2
    have ew3 : az_t (zs_t Z2 0 (az_a Z 0) 0 [2, nI (p + 1)]) 0 p jc = az_t Z 0 p jc := by rw [z_t_t, if_neg (fun z => hnp z.2.1), ew]
    obtain ⟨⟨nk0_3, nr1_3, -⟩, ⟨nk1_3, nn1_3, nz1_3⟩, -⟩ := id (hx3.1.2.2.2.1 (az_a Z 0) hnl3)
    refine pm_aload dX6_beget_37 rfl ?_
    refine pm_iconst (v := 1) dX6_beget_39 (by decide) ?_
    refine pm_vr (c_X1_x G l bs (Y2.1 (pq (az_a Z 0) 0)) (Y2.1 (pq (az_a Z 0) 1)) _ S34 nk0_3 nr1_3 nk1_3 nn1_3) pm_y_X1_x pm_v_X1_x pm_m_X6_137 (c := 1) (r := (RX1, TX1, 16)) rfl rfl nk0_3 dX6_beget_40 rfl rfl (by decide) (Nat.le_of_ble_eq_true rfl) (fun x40 S40 h40 => ?_)
    obtain ⟨e40, rfl⟩ := h40
    rw [show pm_mod 1 8 = 1 from by decide, nz1_3 1 (by decide)] at e40
    subst e40
    have to1 := hx3.tm (p := az_a Z 0) (j := 1) hnl3 (by decide)
    have tg := hx3.tm (p := p) (j := jc) hp3 hjc
    rw [ew3] at tg
    show pm_W _ _ _ _ _ _ _ _ _ _ _ _ _ [.ref (Y2.1 (pq (az_a Z 0) (10 + 1)))] _
    refine pm_aload dX6_beget_43 rfl ?_
    refine pm_vv (c_X3_copy G l bs (Y2.1 (pq (az_a Z 0) (10 + 1))) (Y2.1 (pq (az_a Z 0) (20 + 1))) (Y2.1 (pq p (10 + jc))) (Y2.1 (pq p (20 + jc))) (az_t Z 0 p jc) S40 to1.1 tg) pm_y_X3_copy pm_v_X3_copy pm_m_X6_323 (c := 3) (r := (RX3, TX3, 2)) rfl rfl to1.1.1 dX6_beget_45 rfl rfl (by decide) (Nat.le_of_ble_eq_true rfl) (fun S45 h45 => ?_)
    have hx4 := hx3.rg (p := az_a Z 0) (j := 1) hn2 hnl (by decide) h45.1 h45.2
    have hw4 : tW (az_a Z 0 + 1) (az_t Z 0 p jc) := (hI.rg hp hjc).mono (by omega)
    rw [← en2] at hw4
    have hI4 := hI3.t0 (p := az_a Z 0) (j := 1) hw4
    have eF0 : lk = false → zBg Z p lk j a (az_t Z 0 p jc) = zs_t (zs_t (zs_t Z2 0 (az_a Z 0) 0 [2, nI (p + 1)]) 0 (az_a Z 0) 1 (az_t Z 0 p jc)) 0 p j [2, nI (az_a Z 0 + 1)] := fun e => by unfold zBg; rw [if_pos h8, hZ2, if_neg (by rw [e]; decide)]
    have eF1 : lk = true → zBg Z p lk j a (az_t Z 0 p jc) = zs_t (zLink (zs_t (zs_t Z2 0 (az_a Z 0) 0 [2, nI (p + 1)]) 0 (az_a Z 0) 1 (az_t Z 0 p jc)) p (az_a Z 0) true) 0 p j [2, nI (az_a Z 0 + 1)] := fun e => by unfold zBg; rw [if_pos h8, hZ2, if_pos e]
    have en4 : az_a (zs_t (zs_t Z2 0 (az_a Z 0) 0 [2, nI (p + 1)]) 0 (az_a Z 0) 1 (az_t Z 0 p jc)) 0 = az_a Z 0 + 1 := en2
    generalize zs_t (zs_t Z2 0 (az_a Z 0) 0 [2, nI (p + 1)]) 0 (az_a Z 0) 1 (az_t Z 0 p jc) = Z4 at hx4 hI4 eF0 eF1 en4
    have hn4 := hI4.1
    have hnl4 : az_a Z 0 < az_a Z4 0 := by omega
    have hp4 : p < az_a Z4 0 := by omega
    obtain ⟨⟨nk0_4, -, -, -, -, npid_4⟩, -⟩ := id (hx4.1.2.2.2.1 (az_a Z 0) hnl4)
    obtain ⟨⟨pk0_4, -, -, -, -, ppid_4⟩, -⟩ := id (hx4.1.2.2.2.1 p hp4)
    refine pm_iload_n dX6_beget_48 rfl ?_
    refine pm_if_eq (tgt := 58) dX6_beget_49 (by decide) (fun h49 => ?_) (fun h49 => ?_)
    · skip
      have hl : lk = false := by cases lk; rfl; exact absurd (hg.symm.trans h49) (by decide)
      have eF5 := eF0 hl
      have to5 := hx4.tm (p := p) (j := j) hp4 hj
      have hx5 := hx4
      have hn5 := hn4
      have hp5 := hp4
      have nk0_5 := nk0_4
      have npid_5 := npid_4
      generalize hZ5 : Z4 = Z5 at hx5 eF5 hn5 hp5 to5
      refine pm_aload_n dX6_beget_58 rfl ?_
      refine pm_iconst (v := 2) dX6_beget_59 (by decide) ?_
      refine pm_aload dX6_beget_60 rfl ?_
      refine pm_g_Proc_pid nk0_5 pm_f_X6_88 dX6_beget_62 ?_
      rw [npid_5]
      refine pm_vv (c_X3_setSingle G l bs (Y2.1 (pq p (10 + j))) (Y2.1 (pq p (20 + j))) 2 (nI (az_a Z 0 + 1)) _ to5.1) pm_y_X3_setSingle pm_v_X3_setSingle pm_m_X6_95 (c := 3) (r := (RX3, TX3, 2)) rfl rfl to5.1.1 dX6_beget_65 rfl rfl (by decide) (Nat.le_of_ble_eq_true rfl) (fun S65 h65 => ?_)
      have hx6 := hx5.rg (p := p) (j := j) hn5 hp5 hj h65.1 h65.2
      refine pm_iconst (v := (-1)) dX6_beget_68 (by decide) ?_
      subst hQ9
      refine pm_iret dX6_beget_69 ?_
      exact ⟨by rw [if_pos h8], Y2, hle, by rw [eF5]; exact hx6⟩
    · skip
      have hl : lk = true := by cases lk; exact absurd (hg.trans (if_neg (by decide))) h49; rfl
      have eF5 := eF1 hl
      refine pm_aload_n dX6_beget_52 rfl ?_
      refine pm_aload dX6_beget_53 rfl ?_
      refine pm_vv (c_X1_linkWith G l bs (Y2.1 (pq p 0)) (Y2.1 (pq (az_a Z 0) 0)) (p + 1) (az_a Z 0 + 1) _ pk0_4 nk0_4 ppid_4 npid_4) pm_y_X1_linkWith pm_v_X1_linkWith pm_m_X6_345 (c := 1) (r := (RX1, TX1, 16)) rfl rfl pk0_4 dX6_beget_55 rfl rfl (by decide) (Nat.le_of_ble_eq_true rfl) (fun S55 h55 => ?_)
      have hx5 : pm_CX (zLink Z4 p (az_a Z 0) true) S55 Y2 E := by rw [h55]; exact hx4.lnk hn4 hp4 hnl4
      have hn5 : az_a (zLink Z4 p (az_a Z 0) true) 0 ≤ 60 := hn4
      have hp5 : p < az_a (zLink Z4 p (az_a Z 0) true) 0 := hp4
      have hnl5 : az_a Z 0 < az_a (zLink Z4 p (az_a Z 0) true) 0 := hnl4
      have to5 := hx5.tm (p := p) (j := j) hp5 hj
      obtain ⟨⟨nk0_5, -, -, -, -, npid_5⟩, -⟩ := id (hx5.1.2.2.2.1 (az_a Z 0) hnl5)
      generalize hZ5 : zLink Z4 p (az_a Z 0) true = Z5 at hx5 eF5 hn5 hp5 to5
      refine pm_aload_n dX6_beget_58 rfl ?_
      refine pm_iconst (v := 2) dX6_beget_59 (by decide) ?_
      refine pm_aload dX6_beget_60 rfl ?_
      refine pm_g_Proc_pid nk0_5 pm_f_X6_88 dX6_beget_62 ?_
      rw [npid_5]
      refine pm_vv (c_X3_setSingle G l bs (Y2.1 (pq p (10 + j))) (Y2.1 (pq p (20 + j))) 2 (nI (az_a Z 0 + 1)) _ to5.1) pm_y_X3_setSingle pm_v_X3_setSingle pm_m_X6_95 (c := 3) (r := (RX3, TX3, 2)) rfl rfl to5.1.1 dX6_beget_65 rfl rfl (by decide) (Nat.le_of_ble_eq_true rfl) (fun S65 h65 => ?_)
      have hx6 := hx5.rg (p := p) (j := j) hn5 hp5 hj h65.1 h65.2
      refine pm_iconst (v := (-1)) dX6_beget_68 (by decide) ?_
      subst hQ9
      refine pm_iret dX6_beget_69 ?_
      exact ⟨by rw [if_pos h8], Y2, hle, by rw [eF5]; exact hx6⟩
  · skip
    have h8 : ¬ az_a Z 0 < 60 := fun q => h6 ((pm_lt16 (n := az_a Z 0) (m := 60) (by omega) (by omega)).mpr q)
    refine pm_iconst (v := 5) dX6_beget_9 (by decide) ?_
    subst hQ9
    refine pm_iret dX6_beget_10 ?_
    exact ⟨by rw [if_neg h8], Y, yLe.rf, by unfold zBg; rw [if_neg h8]; exact hx⟩

