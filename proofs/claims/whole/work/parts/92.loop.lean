/-! the law: its loop and its beginning -/
theorem lw_cmp {len n : Nat} (h : len ≤ 3072) (hn : n ≤ 512) : (Int32.ofNat len - 6 < nI (6 * n)) ↔ len < 6 * n + 6 := by
  have e1 : (Int32.ofNat len).toInt = (len : Int) := nI_toInt (n := len) (by omega)
  have e2 : (nI (6 * n)).toInt = ((6 * n : Nat) : Int) := nI_toInt (by omega)
  have e3 : (6 : Int32).toInt = 6 := by decide
  have e4 : (Int32.ofNat len - 6).toInt = (len : Int) - 6 := by
    rw [Int32.toInt_sub, e1, e3, Int.bmod_eq_of_le (by omega) (by omega)]
  rw [Int32.lt_iff_toInt_lt, e4, e2]
  omega
theorem lw_and (x : Int32) : ∃ q, q < 16 ∧ x &&& 15 = nI q := by
  refine ⟨x.toBitVec.toNat % 16, Nat.mod_lt _ (by decide), ?_⟩
  apply Int32.toBitVec_inj.mp
  apply BitVec.eq_of_toNat_eq
  rw [Int32.toBitVec_and, BitVec.toNat_and]
  have e : (15 : Int32).toBitVec.toNat = 2 ^ 4 - 1 := by decide
  rw [e, Nat.and_two_pow_sub_one_eq_mod]
  show _ = (BitVec.ofNat 32 (x.toBitVec.toNat % 16)).toNat
  rw [BitVec.toNat_ofNat]
  have := Nat.mod_lt x.toBitVec.toNat (show 0 < 16 by decide)
  rw [Nat.mod_eq_of_lt (a := x.toBitVec.toNat % 16) (by omega)]
set_option maxHeartbeats 4000000 in
set_option maxRecDepth 100000 in
theorem lw_top (G : pm_G) (l : Launch) (bs b kc ks x mm out n : Nat) (v5 v6 : Value) (S S9 : pm_S) (h72 : pm_n S9 b ≤ 3072) (hn : n ≤ 512) (hgo : 6 * n + 6 ≤ pm_n S9 b → ∀ q, q < 16 → lw_W G l bs kc ks b S9 40 (lw_L b x mm out (6 * n) v5 v6) [.int (nI q)] S) : lw_W G l bs kc ks b S9 23 (lw_L b x mm out (6 * n) v5 v6) [] S := by
  refine pm_iload dL_law_23 rfl ?_
  refine pm_aload_n dL_law_25 rfl ?_
  refine pm_scrl (k := 0) (S9 := S9) (Or.inr ⟨rfl, rfl, rfl⟩) dL_law_26 ?_
  refine pm_bipush (v := 6) dL_law_27 (by decide) ?_
  refine pm_isub dL_law_29 ?_
  refine pm_icmp_gt (tgt := 750) dL_law_30 (by decide) (fun h30 => ?_) (fun h30 => ?_)
  · skip
    refine pm_iconst (v := 1) dL_law_750 (by decide) ?_
    exact pm_exit dL_law_751 (Or.inl ⟨rfl, rfl⟩)
  · skip
    have hg : 6 * n + 6 ≤ pm_n S9 b := by have := mt (lw_cmp h72 hn).mpr h30; omega
    refine pm_aload_n dL_law_33 rfl ?_
    refine pm_iload dL_law_34 rfl ?_
    refine pm_scri (k := 0) (j := 6 * n) (S9 := S9) (Or.inr ⟨rfl, rfl, rfl⟩) rfl (by omega) (by omega) dL_law_36 ?_
    refine pm_bipush (v := 15) dL_law_37 (by decide) ?_
    refine pm_iand dL_law_39 ?_
    obtain ⟨q, hq, e⟩ := lw_and (pm_x S9 b (6 * n))
    rw [e]
    exact hgo hg q hq
theorem zJ.s {n : Nat} {Z : az} {S : pm_S} {Y : pm_Y} (h : zJ n Z S Y) : zJ (n + 1) Z S Y := by
  obtain ⟨h1, h2, h3, h4, h5, ⟨b1, b2, b3⟩, h7⟩ := h
  exact ⟨h1, h2, h3, h4, h5, ⟨by omega, by omega, by omega⟩, h7⟩
set_option maxHeartbeats 4000000 in
set_option maxRecDepth 100000 in
theorem lw_loop (G : pm_G) (l : Launch) (hl : l.stackTraces = false) (bs b : Nat) (S9 : pm_S) (h72 : pm_n S9 b ≤ 3072) : ∀ (k n : Nat) (Z : az) (S : pm_S) (Y : pm_Y) (v5 v6 : Value), n + k = 512 → zJ n Z S Y → lw_W G l bs (lw_C Z k) (lw_K Z k) b S9 23 (lw_L b (Y.1 0) (Y.1 20000) (Y.1 30000) (6 * n) v5 v6) [] S := by
  intro k
  induction k with
  | zero =>
    intro n Z S Y v5 v6 hk hJ
    exact lw_top G l bs b _ _ _ _ _ n v5 v6 S S9 h72 (by omega) (fun hg => absurd hg (by omega))
  | succ k ih =>
    intro n Z S Y v5 v6 hk hJ
    refine lw_top G l bs b _ _ _ _ _ n v5 v6 S S9 h72 (by omega) (fun hg q hq => ?_)
    have h31 : pm_n S9 b < 2 ^ 31 := by omega
    have hN : lw_N G l bs b S9 n k Y := by
      intro F S' Y' w5 w6 hj e0 e2 e3
      rw [← e0, ← e2, ← e3]
      refine pm_iinc dL_law_744 rfl (nI_add (6 * n) 6) (by decide) ?_
      dsimp only [List.set]
      refine pm_goto (tgt := 23) dL_law_747 (by decide) ?_
      exact ih (n + 1) F S' Y' w5 w6 (by omega) hj
    match q, hq with
    | 0, _ => exact pm_tableIn (tgt := 96) dL_law_40 (by decide) (by decide) rfl (by decide) (lo_word G l hl bs b n k v5 v6 S S9 Z Y h31 (by omega) hg hJ hN)
    | 1, _ => exact pm_tableIn (tgt := 180) dL_law_40 (by decide) (by decide) rfl (by decide) (lo_start G l hl bs b n k v5 v6 S S9 Z Y h31 (by omega) hg hJ hN)
    | 2, _ => exact pm_tableIn (tgt := 248) dL_law_40 (by decide) (by decide) rfl (by decide) (lo_send G l hl bs b n k v5 v6 S S9 Z Y h31 (by omega) hg hJ hN)
    | 3, _ => exact pm_tableIn (tgt := 323) dL_law_40 (by decide) (by decide) rfl (by decide) (lo_run G l hl bs b n k v5 v6 S S9 Z Y h31 (by omega) hg hJ hN)
    | 4, _ => exact pm_tableIn (tgt := 379) dL_law_40 (by decide) (by decide) rfl (by decide) (lo_pass G l hl bs b n k v5 v6 S S9 Z Y h31 (by omega) hg hJ hN)
    | 5, _ => exact pm_tableIn (tgt := 435) dL_law_40 (by decide) (by decide) rfl (by decide) (lo_out G l bs b n k v5 v6 S S9 Z Y h31 hg hJ hN)
    | 6, _ => exact pm_tableIn (tgt := 460) dL_law_40 (by decide) (by decide) rfl (by decide) (lo_process G l hl bs b n k v5 v6 S S9 Z Y h31 (by omega) hg hJ hN)
    | 7, _ => exact pm_tableIn (tgt := 528) dL_law_40 (by decide) (by decide) rfl (by decide) (lo_register G l hl bs b n k v5 v6 S S9 Z Y h31 (by omega) hg hJ hN)
    | 8, _ => exact pm_tableIn (tgt := 608) dL_law_40 (by decide) (by decide) rfl (by decide) (lo_message G l hl bs b n k v5 v6 S S9 Z Y h31 (by omega) hg hJ hN)
    | 9, _ => exact pm_tableIn (tgt := 688) dL_law_40 (by decide) (by decide) rfl (by decide) (lo_total G l hl bs b n k v5 v6 S S9 Z Y h31 (by omega) hg hJ hN)
    | 10, _ => exact pm_tableOut (tgt := 744) dL_law_40 (Or.inr (by decide)) (by decide) ((hN Z S Y v5 v6 hJ.s rfl rfl rfl).more (by unfold lw_C; omega) (by unfold lw_K; omega))
    | 11, _ => exact pm_tableOut (tgt := 744) dL_law_40 (Or.inr (by decide)) (by decide) ((hN Z S Y v5 v6 hJ.s rfl rfl rfl).more (by unfold lw_C; omega) (by unfold lw_K; omega))
    | 12, _ => exact pm_tableOut (tgt := 744) dL_law_40 (Or.inr (by decide)) (by decide) ((hN Z S Y v5 v6 hJ.s rfl rfl rfl).more (by unfold lw_C; omega) (by unfold lw_K; omega))
    | 13, _ => exact pm_tableOut (tgt := 744) dL_law_40 (Or.inr (by decide)) (by decide) ((hN Z S Y v5 v6 hJ.s rfl rfl rfl).more (by unfold lw_C; omega) (by unfold lw_K; omega))
    | 14, _ => exact pm_tableOut (tgt := 744) dL_law_40 (Or.inr (by decide)) (by decide) ((hN Z S Y v5 v6 hJ.s rfl rfl rfl).more (by unfold lw_C; omega) (by unfold lw_K; omega))
    | 15, _ => exact pm_tableOut (tgt := 744) dL_law_40 (Or.inr (by decide)) (by decide) ((hN Z S Y v5 v6 hJ.s rfl rfl rfl).more (by unfold lw_C; omega) (by unfold lw_K; omega))
    | q + 16, h => exact absurd h (by omega)
set_option maxHeartbeats 4000000 in
set_option maxRecDepth 100000 in
theorem lw_begin (G : pm_G) (l : Launch) (hl : l.stackTraces = false) (bs b : Nat) (S S9 : pm_S) (h72 : pm_n S9 b ≤ 3072) : lw_W G l bs 6919 609191 b S9 0 [.ref b, pm_u, pm_u, pm_u, pm_u, pm_u, pm_u] [] S := by
  refine pm_new_Mill pm_c_L_8 (kc' := 6918) (ks' := 609175) (by decide) (by decide) dL_law_0 (fun a0 hf0 hb0 => ?_)
  refine pm_dup dL_law_3 ?_
  refine pm_callI (c_X6_init G l bs a0 _ (by rw [pm_k_nw, if_pos rfl])) pm_y_X6_init pm_i_X6_init rfl (Or.inl pm_m_L_45) rfl (by decide) (kc2 := 6904) (ks2 := 606354) (by decide) (by decide) (Nat.le_of_ble_eq_true rfl) dL_law_4 rfl (fun v4 S4 h4 => ?_)
  obtain ⟨rfl, h4⟩ := h4
  dsimp only [Option.toList, List.nil_append]
  refine pm_astn dL_law_7 (i := 1) rfl (by decide) ?_
  dsimp only [List.set]
  refine pm_new_Model pm_c_L_46 (kc' := 6903) (ks' := 606313) (by decide) (by decide) dL_law_8 (fun a8 hf8 hb8 => ?_)
  refine pm_dup dL_law_11 ?_
  refine pm_callI (c_X7_init G l bs a8 _ (by rw [pm_k_nw, if_pos rfl]) (fun g => by rw [pm_i_nw, if_pos rfl])) pm_y_X7_init pm_i_X7_init rfl (Or.inl pm_m_L_48) rfl (by decide) (kc2 := 6873) (ks2 := 314713) (by decide) (by decide) (Nat.le_of_ble_eq_true rfl) dL_law_12 rfl (fun v12 S12 h12 => ?_)
  obtain ⟨rfl, h12⟩ := h12
  dsimp only [Option.toList, List.nil_append]
  refine pm_astn dL_law_15 (i := 2) rfl (by decide) ?_
  dsimp only [List.set]
  refine pm_iconst (v := 1) dL_law_16 (by decide) ?_
  refine pm_newarrJ (N := 1) rfl (by decide) pm_ac_long (kc' := 6872) (ks' := 314712) (by decide) (by decide) dL_law_17 (fun r17 hf17 hb17 => ?_)
  refine pm_astn dL_law_19 (i := 3) rfl (by decide) ?_
  dsimp only [List.set]
  refine pm_iconst (v := 0) dL_law_20 (by decide) ?_
  refine pm_istore dL_law_21 (by decide) ?_
  dsimp only [List.set]
  obtain ⟨ad, x1, x2, x3, x4, x5, x6, x7, x8, x9⟩ := h4
  obtain ⟨am, y1, y2, y3, y4, y5⟩ := h12
  have hz := zJ_0 (hf0) x1 x2 x3 x4 x5 x6 x7 x8 hf8 y1 y2 y3 y4 y5 hf17
  have hL := lw_loop G l hl bs b S9 h72 512 0 zE0 _ (y0 ad am a8 r17) pm_u pm_u rfl hz
  have e0 : (y0 ad am a8 r17).1 0 = a0 := x1
  rw [e0] at hL
  exact hL
