/-! ProcessMill: names, links, printing, dying, failing, exits -/
theorem zNm_none {r : Option Nat} (h : ∀ b, r = some b → b < 100) : zNm r = -1 ↔ r = none := by
  cases r with
  | none => exact ⟨fun _ => rfl, fun _ => rfl⟩
  | some b =>
    refine ⟨fun z => ?_, fun z => by cases z⟩
    have z : nI b = -1 := z
    have hb := h b rfl
    have := congrArg Int32.toInt z
    rw [nI_toInt (by omega)] at this
    have e : (-1 : Int32).toInt = -1 := by decide
    omega
theorem zI.nm {Z : az} {s p : Nat} (h : zI s Z) (hp : p < az_a Z 0) : ∀ b, az_e Z 0 p = some b → b < 100 := fun b hb => (h.2.2.2.2.2.1.2 b p (h.2.2.2.2.2.1.1 p hp b hb)).1
theorem zI.dl {Z : az} {s p : Nat} (h : zI s Z) (hp : p < az_a Z 0) (h0 : az_b Z 1 p ≠ 2) : az_a Z 1 < 60 := by
  have := zCnt_lt h0 (az_a Z 0) hp
  have := h.2.2.2.2.1.1
  have := h.1
  omega
theorem wfil_map1 {V : List (Nat × Nat × Nat)} {p : Nat} (hp : p < 60) (hV : ∀ t, t ∈ V → t.2.1 < 60) : (V.map (fun t => (nI t.1, nI (t.2.1 + 1), nI (t.2.2 + 1)))).filter (fun t => decide ((fun t : Int32 × Int32 × Int32 => t.2.1) t ≠ nI (p + 1))) = (V.filter (fun t => decide (t.2.1 ≠ p))).map (fun t => (nI t.1, nI (t.2.1 + 1), nI (t.2.2 + 1))) := by
  rw [List.filter_map]
  congr 1
  refine List.filter_congr (fun t ht => ?_)
  have := hV t ht
  show decide (nI (t.2.1 + 1) ≠ nI (p + 1)) = decide (t.2.1 ≠ p)
  rw [decide_eq_decide, Ne, nI_eq (by omega) (by omega)]
  omega
theorem wfil_map2 {V : List (Nat × Nat × Nat)} {p : Nat} (hp : p < 60) (hV : ∀ t, t ∈ V → t.2.2 < 60) : (V.map (fun t => (nI t.1, nI (t.2.1 + 1), nI (t.2.2 + 1)))).filter (fun t => decide ((fun t : Int32 × Int32 × Int32 => t.2.2) t ≠ nI (p + 1))) = (V.filter (fun t => decide (t.2.2 ≠ p))).map (fun t => (nI t.1, nI (t.2.1 + 1), nI (t.2.2 + 1))) := by
  rw [List.filter_map]
  congr 1
  refine List.filter_congr (fun t ht => ?_)
  have := hV t ht
  show decide (nI (t.2.2 + 1) ≠ nI (p + 1)) = decide (t.2.2 ≠ p)
  rw [decide_eq_decide, Ne, nI_eq (by omega) (by omega)]
  omega
theorem tW.atom_iff {n : Nat} {w : List Int32} {a : Int32} (h : tW n w) : (w[0]? = some 1 ∧ w[1]? = some a) ↔ w = [1, a] := by
  refine ⟨fun ⟨z1, z2⟩ => ?_, fun z => by rw [z]; exact ⟨rfl, rfl⟩⟩
  rcases h.cases with ⟨k, v, e, hk, ht⟩ | ⟨l2, e, h3⟩
  · subst e
    cases z1
    cases z2
    rfl
  · subst e
    cases z1
set_option maxHeartbeats 4000000 in
set_option maxRecDepth 100000 in
theorem c_X6_unlink (G : pm_G) (l : Launch) (bs : Nat) (Z : az) (Y : pm_Y) (E : pm_S) (s : Nat) (p : Nat) (q : Option Nat) (S : pm_S) (hx : pm_CX Z S Y E) (hI : zI s Z) (hp : p < az_a Z 0) (hqn : ∀ p, q = some p → p < az_a Z 0) : pm_M G l bs yX6_unlink cX6_unlink 2 (some .int) 1 0 0 [.ref (Y.1 (pq p 0)), va_rf (q.map (fun p => Y.1 (pq p 0)))] S (pm_qi (fun x S2 => (q = none ∧ x = 4 ∧ S2 = S) ∨ ∃ r, q = some r ∧ x = -1 ∧ pm_CX (zLink Z p r false) S2 Y E)) := by
  have hn := hI.1
  have hsm := hI.sm
  obtain ⟨h, hmk⟩ := id hx
  have hA := h.2.2.2.2.2.1
  obtain ⟨⟨hk0, hr0, hr1, hr2, hr3, hr4, hr5, hr6, hr7⟩, ⟨hk1, hl1⟩, ⟨hk2, hl2⟩, ⟨hk3, hl3⟩, ⟨hk4, hl4⟩, hWt, hSh, hLt, hCs⟩ := id h.2.2.1
  obtain ⟨kW, rW1, rW2, rW3, kW1, nW1, kW2, nW2, kW3, nW3, -⟩ := id hWt
  have hB := h.2.2.2.2.1 p hp
  obtain ⟨⟨pk0, pr1, pr2, pr4, pr6, ppid⟩, ⟨pk1, pn1, pz1⟩, hmb, hts⟩ := id (h.2.2.2.1 p hp)
  refine pm_Mi (L := [.ref (Y.1 (pq p 0)), va_rf (q.map (fun p => Y.1 (pq p 0)))]) (by decide +kernel) rfl (pm_en_1 rfl (pm_en_1 (pm_rf_cat _) (pm_en_0 rfl))) ?_
  generalize hQ9 : pm_xi (fun x S2 => (q = none ∧ x = 4 ∧ S2 = S) ∨ ∃ r, q = some r ∧ x = -1 ∧ pm_CX (zLink Z p r false) S2 Y E) = Q9
  refine pm_aload_n dX6_unlink_0 rfl ?_
  cases hq : q with
  | some r =>
    refine pm_ifnonnull_r (tgt := 6) dX6_unlink_1 (by decide) ?_
    have hr := hqn r hq
    have hBr := h.2.2.2.2.1 r hr
    obtain ⟨⟨pk0r, pr1r, pr2r, pr4r, pr6r, ppidr⟩, ⟨pk1r, pn1r, pz1r⟩, hmbr, htsr⟩ := id (h.2.2.2.1 r hr)
    refine pm_aload_n dX6_unlink_6 rfl ?_
    refine pm_aload_n dX6_unlink_7 rfl ?_
    refine pm_vv (c_X1_unlinkFrom G l bs (Y.1 (pq p 0)) (Y.1 (pq r 0)) (p + 1) (r + 1) S pk0 pk0r ppid ppidr) pm_y_X1_unlinkFrom pm_v_X1_unlinkFrom pm_m_X6_371 (c := 1) (r := (RX1, TX1, 16)) rfl rfl (by (try simp only [pm_k_si, pm_k_sj, pm_k_sp, pm_k_sx, pm_k_sz, pm_k_sr, pm_k_sy]); assumption) dX6_unlink_8 rfl rfl (by decide) (Nat.le_of_ble_eq_true rfl) (fun S8 h8 => ?_)
    subst h8
    refine pm_iconst (v := (-1)) dX6_unlink_11 (by decide) ?_
    subst hQ9
    refine pm_iret dX6_unlink_12 ?_
    exact Or.inr ⟨r, hq, rfl, hx.lift ((h.f0 hn hp hr).f0 (p := r) (q := p) hn hr hp) rfl (fun _ => rfl)⟩
  | none =>
    refine pm_ifnonnull_n dX6_unlink_1 ?_
    refine pm_iconst (v := 4) dX6_unlink_4 (by decide) ?_
    subst hQ9
    refine pm_iret dX6_unlink_5 ?_
    exact Or.inl ⟨hq, rfl, rfl⟩

set_option maxHeartbeats 4000000 in
set_option maxRecDepth 100000 in
theorem c_X6_takeName (G : pm_G) (l : Launch) (bs : Nat) (Z : az) (Y : pm_Y) (E : pm_S) (s : Nat) (p a : Nat) (S : pm_S) (hx : pm_CX Z S Y E) (hI : zI s Z) (hp : p < az_a Z 0) (ha : a < 100) : pm_M G l bs yX6_takeName cX6_takeName 3 (some .int) 0 0 0 [.ref (Y.1 0), .ref (Y.1 (pq p 0)), .int (nI a)] S (pm_qi (fun x S2 => (az_e Z 0 p = none ∧ az_e Z 2 a = none ∧ x = -1 ∧ pm_CX (zs_e (zs_e Z 0 p (some a)) 2 a (some p)) S2 Y E) ∨ (¬ (az_e Z 0 p = none ∧ az_e Z 2 a = none) ∧ x = 4 ∧ S2 = S))) := by
  have hn := hI.1
  have hsm := hI.sm
  obtain ⟨h, hmk⟩ := id hx
  have hA := h.2.2.2.2.2.1
  obtain ⟨⟨hk0, hr0, hr1, hr2, hr3, hr4, hr5, hr6, hr7⟩, ⟨hk1, hl1⟩, ⟨hk2, hl2⟩, ⟨hk3, hl3⟩, ⟨hk4, hl4⟩, hWt, hSh, hLt, hCs⟩ := id h.2.2.1
  obtain ⟨kW, rW1, rW2, rW3, kW1, nW1, kW2, nW2, kW3, nW3, -⟩ := id hWt
  have hB := h.2.2.2.2.1 p hp
  obtain ⟨⟨pk0, pr1, pr2, pr4, pr6, ppid⟩, ⟨pk1, pn1, pz1⟩, hmb, hts⟩ := id (h.2.2.2.1 p hp)
  refine pm_Mi (L := [.ref (Y.1 0), .ref (Y.1 (pq p 0)), .int (nI a)]) (by decide +kernel) rfl (pm_en_1 rfl (pm_en_1 rfl (pm_en_1 rfl (pm_en_0 rfl)))) ?_
  generalize hQ9 : pm_xi (fun x S2 => (az_e Z 0 p = none ∧ az_e Z 2 a = none ∧ x = -1 ∧ pm_CX (zs_e (zs_e Z 0 p (some a)) 2 a (some p)) S2 Y E) ∨ (¬ (az_e Z 0 p = none ∧ az_e Z 2 a = none) ∧ x = 4 ∧ S2 = S)) = Q9
  refine pm_aload_n dX6_takeName_0 rfl ?_
  refine pm_g_Proc_name (by (try simp only [pm_k_si, pm_k_sj, pm_k_sp, pm_k_sx, pm_k_sz, pm_k_sr, pm_k_sy]); assumption) pm_f_X6_393 dX6_takeName_1 ?_
  refine pm_iconst (v := (-1)) dX6_takeName_4 (by decide) ?_
  rw [h.2.2.2.2.2.2.1.1 p hp]
  refine pm_icmp_ne (tgt := 17) dX6_takeName_5 (by decide) (fun h5 => ?_) (fun h5 => ?_)
  · skip
    have h9 : ¬ (az_e Z 0 p = none ∧ az_e Z 2 a = none) := fun z => h5 ((zNm_none (hI.nm hp)).mpr z.1)
    refine pm_iconst (v := 4) dX6_takeName_17 (by decide) ?_
    subst hQ9
    refine pm_iret dX6_takeName_18 ?_
    exact Or.inr ⟨h9, rfl, rfl⟩
  · skip
    have h8 : az_e Z 0 p = none := (zNm_none (hI.nm hp)).mp h5
    refine pm_aload_n dX6_takeName_8 rfl ?_
    refine pm_g_Mill_named (by (try simp only [pm_k_si, pm_k_sj, pm_k_sp, pm_k_sx, pm_k_sz, pm_k_sr, pm_k_sy]); assumption) pm_f_X6_19 (by (try simp only [pm_p_si, pm_p_sj, pm_p_sx, pm_p_sz, pm_p_sr, pm_p_sy]); assumption) dX6_takeName_9 ?_
    refine pm_iload_n dX6_takeName_12 rfl ?_
    refine pm_aaloadP (n := a) (by (try simp only [pm_k_si, pm_k_sj, pm_k_sp, pm_k_sx, pm_k_sz, pm_k_sr, pm_k_sy]); assumption) rfl (by first | omega | (simp only [pm_n_sx, pm_n_si, pm_n_sr, pm_n_sz, pm_n_sp, pm_n_sj, pm_n_sy]; omega)) (by first | omega | (simp only [pm_n_sx, pm_n_si, pm_n_sr, pm_n_sz, pm_n_sp, pm_n_sj, pm_n_sy]; omega)) dX6_takeName_13 ?_
    rw [h.2.2.2.2.2.2.1.2 a ha]
    cases hz14 : az_e Z 2 a with
    | some t14 =>
      refine pm_ifnull_r dX6_takeName_14 ?_
      have h9 : ¬ (az_e Z 0 p = none ∧ az_e Z 2 a = none) := fun z => by rw [z.2] at hz14; cases hz14
      refine pm_iconst (v := 4) dX6_takeName_17 (by decide) ?_
      subst hQ9
      refine pm_iret dX6_takeName_18 ?_
      exact Or.inr ⟨h9, rfl, rfl⟩
    | none =>
      refine pm_ifnull_n (tgt := 19) dX6_takeName_14 (by decide) ?_
      refine pm_aload_n dX6_takeName_19 rfl ?_
      refine pm_iload_n dX6_takeName_20 rfl ?_
      refine pm_p_Proc_name (by (try simp only [pm_k_si, pm_k_sj, pm_k_sp, pm_k_sx, pm_k_sz, pm_k_sr, pm_k_sy]); assumption) pm_f_X6_393 dX6_takeName_21 ?_
      refine pm_aload_n dX6_takeName_24 rfl ?_
      refine pm_g_Mill_named (by (try simp only [pm_k_si, pm_k_sj, pm_k_sp, pm_k_sx, pm_k_sz, pm_k_sr, pm_k_sy]); assumption) pm_f_X6_19 (by (try simp only [pm_p_si, pm_p_sj, pm_p_sx, pm_p_sz, pm_p_sr, pm_p_sy]); assumption) dX6_takeName_25 ?_
      refine pm_iload_n dX6_takeName_28 rfl ?_
      refine pm_aload_n dX6_takeName_29 rfl ?_
      refine pm_aastoreP (n := a) (by (try simp only [pm_k_si, pm_k_sj, pm_k_sp, pm_k_sx, pm_k_sz, pm_k_sr, pm_k_sy]); assumption) rfl (by first | omega | (simp only [pm_n_sx, pm_n_si, pm_n_sr, pm_n_sz, pm_n_sp, pm_n_sj, pm_n_sy]; omega)) (by first | omega | (simp only [pm_n_sx, pm_n_si, pm_n_sr, pm_n_sz, pm_n_sp, pm_n_sj, pm_n_sy]; omega)) (by simp only [pm_k_si]; exact pk0) dX6_takeName_30 ?_
      refine pm_iconst (v := (-1)) dX6_takeName_31 (by decide) ?_
      subst hQ9
      refine pm_iret dX6_takeName_32 ?_
      exact Or.inl ⟨h8, hz14, rfl, hx.lift ((h.n0 (r := some a) hn hp).n2 (a := a) (r := some p)) rfl (fun _ => rfl)⟩

set_option maxHeartbeats 4000000 in
set_option maxRecDepth 100000 in
theorem c_X6_print (G : pm_G) (l : Launch) (bs : Nat) (Z : az) (Y : pm_Y) (E : pm_S) (s : Nat) (t r : Nat) (w : List Int32) (S : pm_S) (hx : pm_CX Z S Y E) (hI : zI s Z) (ht : pm_tm S t r w) (hr : r ≠ Y.1 10) (hw : w.length ≤ 95) : pm_M G l bs yX6_print cX6_print 2 (some .int) 1 0 0 [.ref (Y.1 0), .ref t] S (pm_qi (fun x S2 => x = -1 ∧ pm_CX (zPrint w Z) S2 Y E)) := by
  have hn := hI.1
  have hsm := hI.sm
  obtain ⟨h, hmk⟩ := id hx
  have hA := h.2.2.2.2.2.1
  obtain ⟨⟨hk0, hr0, hr1, hr2, hr3, hr4, hr5, hr6, hr7⟩, ⟨hk1, hl1⟩, ⟨hk2, hl2⟩, ⟨hk3, hl3⟩, ⟨hk4, hl4⟩, hWt, hSh, hLt, hCs⟩ := id h.2.2.1
  obtain ⟨kW, rW1, rW2, rW3, kW1, nW1, kW2, nW2, kW3, nW3, -⟩ := id hWt
  refine pm_Mi (L := [.ref (Y.1 0), .ref t]) (by decide +kernel) rfl (pm_en_1 rfl (pm_en_1 rfl (pm_en_0 rfl))) ?_
  generalize hQ9 : pm_xi (fun x S2 => x = -1 ∧ pm_CX (zPrint w Z) S2 Y E) = Q9
  refine pm_aload_n dX6_print_0 rfl ?_
  refine pm_g_Mill_sheet (by (try simp only [pm_k_si, pm_k_sj, pm_k_sp, pm_k_sx, pm_k_sz, pm_k_sr, pm_k_sy]); assumption) pm_f_X6_35 (by (try simp only [pm_p_si, pm_p_sj, pm_p_sx, pm_p_sz, pm_p_sr, pm_p_sy]); assumption) dX6_print_1 ?_
  refine pm_aload_n dX6_print_4 rfl ?_
  refine pm_vv (c_X2_print G l bs (Y.1 9) (Y.1 10) (az_a Z 9) t r w S hSh (hA 101 9 9 rfl) (by have := hI.2.2.2.2.2.2.2.2.2.2.1.2; have := hI.2.2.2.2.2.2.2.2.2.2.2.2.1; omega) ht hr) pm_y_X2_print pm_v_X2_print pm_m_X6_396 (c := 2) (r := (RX2, TX2, 2)) rfl rfl hSh.1 dX6_print_5 rfl rfl (by decide) (Nat.le_of_ble_eq_true rfl) (fun S5 h5 => ?_)
  refine pm_iconst (v := (-1)) dX6_print_8 (by decide) ?_
  subst hQ9
  refine pm_iret dX6_print_9 ?_
  exact ⟨rfl, hx.lift (h.pr hn h5.1 h5.2.1 h5.2.2) (by rw [(zPrint_get w Z).1, if_neg (by decide)]) (fun q => by rw [(zPrint_get w Z).2.1])⟩

set_option maxHeartbeats 4000000 in
set_option maxRecDepth 100000 in
theorem c_X6_dropMail (G : pm_G) (l : Launch) (bs : Nat) (Z : az) (Y : pm_Y) (E : pm_S) (s : Nat) (p : Nat) (S : pm_S) (hx : pm_CX Z S Y E) (hI : zI s Z) (hp : p < az_a Z 0) : pm_M G l bs yX6_dropMail cX6_dropMail 1 (some .int) 1 0 0 [.ref (Y.1 (pq p 0))] S (pm_qi (fun x S2 => x = -1 ∧ ∃ Y2, yLe (az_a Z 0) Y Y2 ∧ pm_CX (zs_b (if az_b Z 10 p < az_b Z 9 p then zs_b (zs_m Z p (fun k => if k < az_b Z 10 p then az_t Z 2 p k else az_t Z 2 p (k + 1))) 9 p (az_b Z 9 p - 1) else Z) 10 p 0) S2 Y2 E)) := by
  have hn := hI.1
  have hsm := hI.sm
  obtain ⟨h, hmk⟩ := id hx
  have hA := h.2.2.2.2.2.1
  obtain ⟨⟨hk0, hr0, hr1, hr2, hr3, hr4, hr5, hr6, hr7⟩, ⟨hk1, hl1⟩, ⟨hk2, hl2⟩, ⟨hk3, hl3⟩, ⟨hk4, hl4⟩, hWt, hSh, hLt, hCs⟩ := id h.2.2.1
  obtain ⟨kW, rW1, rW2, rW3, kW1, nW1, kW2, nW2, kW3, nW3, -⟩ := id hWt
  have hB := h.2.2.2.2.1 p hp
  obtain ⟨⟨pk0, pr1, pr2, pr4, pr6, ppid⟩, ⟨pk1, pn1, pz1⟩, hmb, hts⟩ := id (h.2.2.2.1 p hp)
  refine pm_Mi (L := [.ref (Y.1 (pq p 0))]) (by decide +kernel) rfl (pm_en_1 rfl (pm_en_0 rfl)) ?_
  generalize hQ9 : pm_xi (fun x S2 => x = -1 ∧ ∃ Y2, yLe (az_a Z 0) Y Y2 ∧ pm_CX (zs_b (if az_b Z 10 p < az_b Z 9 p then zs_b (zs_m Z p (fun k => if k < az_b Z 10 p then az_t Z 2 p k else az_t Z 2 p (k + 1))) 9 p (az_b Z 9 p - 1) else Z) 10 p 0) S2 Y2 E) = Q9
  refine pm_aload_n dX6_dropMail_0 rfl ?_
  refine pm_g_Proc_box (by (try simp only [pm_k_si, pm_k_sj, pm_k_sp, pm_k_sx, pm_k_sz, pm_k_sr, pm_k_sy]); assumption) pm_f_X6_114 (by (try simp only [pm_p_si, pm_p_sj, pm_p_sx, pm_p_sz, pm_p_sr, pm_p_sy]); assumption) dX6_dropMail_1 ?_
  refine pm_vv (c_X0_dropAtPointer G l bs (Y.1 (pq p 4)) (Y.1 (pq p 5)) (az_b Z 9 p) (az_b Z 10 p) S hmb (hB 1 4 9 rfl) (hI.b hp 9) (hB 2 4 10 rfl) (hsm p hp 10 (by decide)) (fun i hi => ⟨_, (hx.mt hp hi).2.1, (hx.mt hp hi).2.2.1.1⟩)) pm_y_X0_dropAtPointer pm_v_X0_dropAtPointer pm_m_X6_352 (c := 0) (r := (RX0, TX0, 3)) rfl rfl hmb.1 dX6_dropMail_4 rfl rfl (by decide) (Nat.le_of_ble_eq_true rfl) (fun S4 h4 => ?_)
  refine pm_iconst (v := (-1)) dX6_dropMail_7 (by decide) ?_
  subst hQ9
  refine pm_iret dX6_dropMail_8 ?_
  rcases h4 with ⟨e, rfl⟩ | ⟨e, e1, e2, e3, e4⟩
  · exact ⟨rfl, Y, yLe.rf, by rw [if_neg (by omega)]; exact hx.lift (h.b (f := 2) (i := 10) (c := 4) hn hp rfl) rfl (fun q => z_b_bne (by decide))⟩
  · refine ⟨rfl, (Y.1, Y.2.1, piD Y.2.2 p (az_b Z 10 p) (az_b Z 9 p)), ⟨fun _ _ => rfl, fun _ _ => Nat.le_refl _⟩, ?_⟩
    rw [if_pos e]
    exact ⟨h.dm hn hp rfl e e1 e2 e3 e4, fun q hq => by rw [z_b_bne (by decide), z_b_bne (by decide), z_b_m]; exact hmk q hq⟩

set_option maxHeartbeats 4000000 in
set_option maxRecDepth 100000 in
theorem c_X6_die (G : pm_G) (l : Launch) (bs : Nat) (Z : az) (Y : pm_Y) (E : pm_S) (s : Nat) (p t2 r2 : Nat) (w : List Int32) (S : pm_S) (hx : pm_CX Z S Y E) (hI : zI s Z) (hp : p < az_a Z 0) (h0 : az_b Z 1 p ≠ 2) (ht : pm_tm S t2 r2 w) : pm_M G l bs yX6_die cX6_die 3 none 2 0 0 [.ref (Y.1 0), .ref (Y.1 (pq p 0)), .ref t2] S (pm_qv (fun S2 => pm_CX (zDies Z p w) S2 Y E)) := by
  have hn := hI.1
  have hsm := hI.sm
  have hdl := hI.dl hp h0
  obtain ⟨h, hmk⟩ := id hx
  have hA := h.2.2.2.2.2.1
  obtain ⟨⟨hk0, hr0, hr1, hr2, hr3, hr4, hr5, hr6, hr7⟩, ⟨hk1, hl1⟩, ⟨hk2, hl2⟩, ⟨hk3, hl3⟩, ⟨hk4, hl4⟩, hWt, hSh, hLt, hCs⟩ := id h.2.2.1
  obtain ⟨kW, rW1, rW2, rW3, kW1, nW1, kW2, nW2, kW3, nW3, -⟩ := id hWt
  have hB := h.2.2.2.2.1 p hp
  obtain ⟨⟨pk0, pr1, pr2, pr4, pr6, ppid⟩, ⟨pk1, pn1, pz1⟩, hmb, hts⟩ := id (h.2.2.2.1 p hp)
  refine pm_Mv (L := [.ref (Y.1 0), .ref (Y.1 (pq p 0)), .ref t2]) false (by decide +kernel) (fun h => by cases h) rfl (pm_en_1 rfl (pm_en_1 rfl (pm_en_1 rfl (pm_en_0 rfl)))) ?_
  generalize hQ9 : pm_xv (fun S2 => pm_CX (zDies Z p w) S2 Y E) = Q9
  refine pm_aload_n dX6_die_0 rfl ?_
  refine pm_g_Proc_state (by (try simp only [pm_k_si, pm_k_sj, pm_k_sp, pm_k_sx, pm_k_sz, pm_k_sr, pm_k_sy]); assumption) pm_f_X6_142 dX6_die_1 ?_
  refine pm_iconst (v := 2) dX6_die_4 (by decide) ?_
  rw [hB 56 0 1 rfl]
  refine pm_icmp_eq (tgt := 17) dX6_die_5 (by decide) (fun h5 => ?_) (fun h5 => ?_)
  · exact absurd ((pm_e2 (hsm p hp 1 (by decide))).mp h5) h0
  · skip
    refine pm_aload_n dX6_die_8 rfl ?_
    refine pm_g_Mill_deaths (by (try simp only [pm_k_si, pm_k_sj, pm_k_sp, pm_k_sx, pm_k_sz, pm_k_sr, pm_k_sy]); assumption) pm_f_X6_53 dX6_die_9 ?_
    refine pm_bipush (v := 60) dX6_die_12 (by decide) ?_
    rw [hA 309 0 1 rfl]
    refine pm_icmp_lt (tgt := 18) dX6_die_14 (by decide) (fun h14 => ?_) (fun h14 => ?_)
    · skip
      refine pm_aload_n dX6_die_18 rfl ?_
      refine pm_iconst (v := 2) dX6_die_19 (by decide) ?_
      refine pm_p_Proc_state (by (try simp only [pm_k_si, pm_k_sj, pm_k_sp, pm_k_sx, pm_k_sz, pm_k_sr, pm_k_sy]); assumption) pm_f_X6_142 dX6_die_20 ?_
      have h1 := h.b (p := p) (f := 56) (i := 1) (c := 0) (v := 2) hn hp rfl
      have ht1 := ht.si (f := 56) (a := Y.1 (pq p 0)) (v := 2) (by decide)
      refine pm_aload_n dX6_die_23 rfl ?_
      refine pm_g_Proc_reason (by (try simp only [pm_k_si, pm_k_sj, pm_k_sp, pm_k_sx, pm_k_sz, pm_k_sr, pm_k_sy]); assumption) pm_f_X6_145 (by (try simp only [pm_p_si, pm_p_sj, pm_p_sx, pm_p_sz, pm_p_sr, pm_p_sy]); assumption) dX6_die_24 ?_
      refine pm_aload_n dX6_die_27 rfl ?_
      refine pm_vv (c_X3_copy G l bs (Y.1 (pq p 2)) (Y.1 (pq p 3)) t2 r2 w _ (h1.2.2.2.2.2.2.2.2.2.2.2.2.1 p hp).2.1 ht1) pm_y_X3_copy pm_v_X3_copy pm_m_X6_323 (c := 3) (r := (RX3, TX3, 2)) rfl rfl (h1.2.2.2.2.2.2.2.2.2.2.2.2.1 p hp).2.1.1 dX6_die_28 rfl rfl (by decide) (Nat.le_of_ble_eq_true rfl) (fun S28 h28 => ?_)
      have h2 := h1.rs hn hp h28.1 h28.2
      have kM2 := h2.2.2.1.1.1
      have kP2 := (h2.2.2.2.1 p hp).1.1
      have r42 := (h2.2.2.2.1 p hp).1.2.2.2.1
      have r62 := (h2.2.2.2.1 p hp).1.2.2.2.2.1
      have pid2 := (h2.2.2.2.1 p hp).1.2.2.2.2.2
      have rw2 := h2.2.2.1.1.2.2.2.2.2.1
      have rd2 := h2.2.2.1.1.2.2.2.2.1
      have rn2 := h2.2.2.1.1.2.2.2.1
      have k32 := h2.2.2.1.2.2.2.1
      have nm2 : pm_i S28 62 (Y.1 (pq p 0)) = zNm (az_e Z 0 p) := h2.2.2.2.2.2.2.1.1 p hp
      refine pm_aload_n dX6_die_31 rfl ?_
      refine pm_g_Proc_name (by (try simp only [pm_k_si, pm_k_sj, pm_k_sp, pm_k_sx, pm_k_sz, pm_k_sr, pm_k_sy]); assumption) pm_f_X6_393 dX6_die_32 ?_
      refine pm_iconst (v := (-1)) dX6_die_35 (by decide) ?_
      rw [nm2]
      cases hnm : az_e Z 0 p with
      | none =>
        refine pm_icmp_eq (tgt := 54) dX6_die_36 (by decide) (fun h36 => ?_) (fun h36 => ?_)
        · skip
          have h3 := h2
          refine pm_aload_n dX6_die_54 rfl ?_
          refine pm_g_Proc_box (by (try simp only [pm_k_si, pm_k_sj, pm_k_sp, pm_k_sx, pm_k_sz, pm_k_sr, pm_k_sy]); assumption) pm_f_X6_114 (by (try simp only [pm_p_si, pm_p_sj, pm_p_sx, pm_p_sz, pm_p_sr, pm_p_sy]); assumption) dX6_die_55 ?_
          refine pm_vv (c_X0_clear G l bs (Y.1 (pq p 4)) _ (h3.2.2.2.1 p hp).2.2.1.1) pm_y_X0_clear pm_v_X0_clear pm_m_X6_405 (c := 0) (r := (RX0, TX0, 3)) rfl rfl (h3.2.2.2.1 p hp).2.2.1.1 dX6_die_58 rfl rfl (by decide) (Nat.le_of_ble_eq_true rfl) (fun S58 h58 => ?_)
          have h5 : pm_CR (zs_b (zs_b (zs_t (zs_b Z 1 p 2) 1 p 0 w) 9 p 0) 10 p 0) S58 Y E := by rw [h58]; exact (h3.pop9 (p := p) (v := 0) hn hp (Nat.zero_le _)).b (p := p) (f := 2) (i := 10) (c := 4) (v := 0) hn hp rfl
          have kM5 := h5.2.2.1.1.1
          have kP5 := (h5.2.2.2.1 p hp).1.1
          have r45 := (h5.2.2.2.1 p hp).1.2.2.2.1
          have r65 := (h5.2.2.2.1 p hp).1.2.2.2.2.1
          have pid5 := (h5.2.2.2.1 p hp).1.2.2.2.2.2
          have rw5 := h5.2.2.1.1.2.2.2.2.2.1
          have rd5 := h5.2.2.1.1.2.2.2.2.1
          refine pm_aload_n dX6_die_61 rfl ?_
          refine pm_g_Proc_trail (by (try simp only [pm_k_si, pm_k_sj, pm_k_sp, pm_k_sx, pm_k_sz, pm_k_sr, pm_k_sy]); assumption) pm_f_X6_250 (by (try simp only [pm_p_si, pm_p_sj, pm_p_sx, pm_p_sz, pm_p_sr, pm_p_sy]); assumption) dX6_die_62 ?_
          refine pm_vv (c_X4_clear G l bs (Y.1 (pq p 6)) _ (h5.2.2.2.1 p hp).2.2.2.1) pm_y_X4_clear pm_v_X4_clear pm_m_X6_408 (c := 4) (r := (RX4, TX4, 5)) rfl rfl (h5.2.2.2.1 p hp).2.2.2.1 dX6_die_65 rfl rfl (by decide) (Nat.le_of_ble_eq_true rfl) (fun S65 h65 => ?_)
          have h6 : pm_CR (zs_b (zs_b (zs_b (zs_b (zs_t (zs_b Z 1 p 2) 1 p 0 w) 9 p 0) 10 p 0) 7 p 0) 8 p 0) S65 Y E := by rw [h65]; exact (h5.pop7 (p := p) (v := 0) hn hp (Nat.zero_le _)).pop8 (p := p) (v := 0) hn hp (Nat.zero_le _)
          have kM6 := h6.2.2.1.1.1
          have kP6 := (h6.2.2.2.1 p hp).1.1
          have r46 := (h6.2.2.2.1 p hp).1.2.2.2.1
          have r66 := (h6.2.2.2.1 p hp).1.2.2.2.2.1
          have pid6 := (h6.2.2.2.1 p hp).1.2.2.2.2.2
          have rw6 := h6.2.2.1.1.2.2.2.2.2.1
          have rd6 := h6.2.2.1.1.2.2.2.2.1
          refine pm_aload_n dX6_die_68 rfl ?_
          refine pm_g_Mill_watches (by (try simp only [pm_k_si, pm_k_sj, pm_k_sp, pm_k_sx, pm_k_sz, pm_k_sr, pm_k_sy]); assumption) pm_f_X6_28 (by (try simp only [pm_p_si, pm_p_sj, pm_p_sx, pm_p_sz, pm_p_sr, pm_p_sy]); assumption) dX6_die_69 ?_
          refine pm_aload_n dX6_die_72 rfl ?_
          refine pm_g_Proc_pid (by (try simp only [pm_k_si, pm_k_sj, pm_k_sp, pm_k_sx, pm_k_sz, pm_k_sr, pm_k_sy]); assumption) pm_f_X6_88 dX6_die_73 ?_
          rw [pid6]
          refine pm_vv (c_X5_dropMadeBy G l bs (Y.1 5) (Y.1 6) (Y.1 7) (Y.1 8) (nI (p + 1)) ((az_w Z).map (fun t => (nI t.1, nI (t.2.1 + 1), nI (t.2.2 + 1)))) _ h6.2.2.1.2.2.2.2.2.1 (h6.2.2.2.2.2.2.2.2.2.2.1.1.trans (by rw [List.length_map]; rfl)) (by rw [List.length_map]; exact hI.2.2.2.2.2.2.2.2.1.1) h6.2.2.2.2.2.2.2.2.2.2.1.2) pm_y_X5_dropMadeBy pm_v_X5_dropMadeBy pm_m_X6_409 (c := 5) (r := (RX5, TX5, 5)) rfl rfl h6.2.2.1.2.2.2.2.2.1.1 dX6_die_76 rfl rfl (by decide) (Nat.le_of_ble_eq_true rfl) (fun S76 h76 => ?_)
          rw [wfil_map1 (by omega) (fun t ht => by have := hI.wn t ht; omega)] at h76
          have h7 := h6.wt (V := (az_w Z).filter (fun t => decide (t.2.1 ≠ p))) hn h76.1 (by rw [h76.2.1, List.length_map]) h76.2.2
          have kM7 := h7.2.2.1.1.1
          have kP7 := (h7.2.2.2.1 p hp).1.1
          have r47 := (h7.2.2.2.1 p hp).1.2.2.2.1
          have r67 := (h7.2.2.2.1 p hp).1.2.2.2.2.1
          have pid7 := (h7.2.2.2.1 p hp).1.2.2.2.2.2
          have rw7 := h7.2.2.1.1.2.2.2.2.2.1
          have rd7 := h7.2.2.1.1.2.2.2.2.1
          have a17 : pm_i S76 309 (Y.1 0) = nI (az_a Z 1) := h7.2.2.2.2.2.1 309 0 1 rfl
          have k47 := h7.2.2.1.2.2.2.2.1
          refine pm_aload_n dX6_die_79 rfl ?_
          refine pm_g_Mill_dying (by (try simp only [pm_k_si, pm_k_sj, pm_k_sp, pm_k_sx, pm_k_sz, pm_k_sr, pm_k_sy]); assumption) pm_f_X6_22 (by (try simp only [pm_p_si, pm_p_sj, pm_p_sx, pm_p_sz, pm_p_sr, pm_p_sy]); assumption) dX6_die_80 ?_
          refine pm_aload_n dX6_die_83 rfl ?_
          refine pm_g_Mill_deaths (by (try simp only [pm_k_si, pm_k_sj, pm_k_sp, pm_k_sx, pm_k_sz, pm_k_sr, pm_k_sy]); assumption) pm_f_X6_53 dX6_die_84 ?_
          refine pm_aload_n dX6_die_87 rfl ?_
          refine pm_aastoreP (n := az_a Z 1) k47.1 a17 (by rw [k47.2]; omega) (by rw [k47.2]; omega) kP7 dX6_die_88 ?_
          have h8 := h7.dy (k := az_a Z 1) (p := p)
          have kM8 := h8.2.2.1.1.1
          refine pm_aload_n dX6_die_89 rfl ?_
          refine pm_dup dX6_die_90 ?_
          refine pm_g_Mill_deaths (by (try simp only [pm_k_si, pm_k_sj, pm_k_sp, pm_k_sx, pm_k_sz, pm_k_sr, pm_k_sy]); assumption) pm_f_X6_53 dX6_die_91 ?_
          refine pm_iconst (v := 1) dX6_die_94 (by decide) ?_
          refine pm_iadd dX6_die_95 ?_
          rw [show pm_i (pm_sz S76 (Y.1 4) (az_a Z 1) (some (Y.1 (pq p 0)))) 309 (Y.1 0) = nI (az_a Z 1) from a17, nI_1]
          refine pm_p_Mill_deaths (by (try simp only [pm_k_si, pm_k_sj, pm_k_sp, pm_k_sx, pm_k_sz, pm_k_sr, pm_k_sy]); assumption) pm_f_X6_53 dX6_die_96 ?_
          subst hQ9
          refine pm_vret dX6_die_99 ?_
          have h9 := h8.a (f := 309) (i := 1) (c := 0) (v := az_a Z 1 + 1) rfl (by decide) (h1 := fun _ k hk => by
            rw [pm_z_sz]
            by_cases e : k = az_a Z 1
            · rw [if_pos ⟨rfl, e⟩, z_c_c, if_pos ⟨rfl, rfl, e⟩]
            · rw [if_neg (fun z => e z.2)]
              have := h8.2.2.2.2.2.2.2.2.2.2.2.1.2 k (show k < az_a Z 1 by omega)
              rw [pm_z_sz, if_neg (fun z => e z.2)] at this
              exact this)
          refine hx.lift (h9.cg ?_) (zDies_12 Z p w).2 (fun q => by rw [(zDies_12 Z p w).1])
          unfold zDies
          rw [hnm]
          rfl
        · exact absurd rfl h36
      | some a =>
        refine pm_icmp_eq (tgt := 54) dX6_die_36 (by decide) (fun h36 => ?_) (fun h36 => ?_)
        · exact absurd ((zNm_none (fun b hb => hI.nm hp b (by rw [hnm]; exact hb))).mp h36) (by simp)
        · skip
          refine pm_aload_n dX6_die_39 rfl ?_
          refine pm_g_Mill_named (by (try simp only [pm_k_si, pm_k_sj, pm_k_sp, pm_k_sx, pm_k_sz, pm_k_sr, pm_k_sy]); assumption) pm_f_X6_19 (by (try simp only [pm_p_si, pm_p_sj, pm_p_sx, pm_p_sz, pm_p_sr, pm_p_sy]); assumption) dX6_die_40 ?_
          refine pm_aload_n dX6_die_43 rfl ?_
          refine pm_g_Proc_name (by (try simp only [pm_k_si, pm_k_sj, pm_k_sp, pm_k_sx, pm_k_sz, pm_k_sr, pm_k_sy]); assumption) pm_f_X6_393 dX6_die_44 ?_
          refine pm_null dX6_die_47 ?_
          refine pm_aastorePN (n := a) k32.1 (nm2.trans (by rw [hnm]; rfl)) (by rw [k32.2]; exact hI.nm hp a hnm) (by rw [k32.2]; decide) dX6_die_48 ?_
          have h2b := h2.n2 (a := a) (r := none)
          have kP2b := (h2b.2.2.2.1 p hp).1.1
          refine pm_aload_n dX6_die_49 rfl ?_
          refine pm_iconst (v := (-1)) dX6_die_50 (by decide) ?_
          refine pm_p_Proc_name (by (try simp only [pm_k_si, pm_k_sj, pm_k_sp, pm_k_sx, pm_k_sz, pm_k_sr, pm_k_sy]); assumption) pm_f_X6_393 dX6_die_51 ?_
          have h3 := h2b.n0 (p := p) (r := none) hn hp
          have kM3 := h3.2.2.1.1.1
          have kP3 := (h3.2.2.2.1 p hp).1.1
          have r43 := (h3.2.2.2.1 p hp).1.2.2.2.1
          have r63 := (h3.2.2.2.1 p hp).1.2.2.2.2.1
          have pid3 := (h3.2.2.2.1 p hp).1.2.2.2.2.2
          have rw3 := h3.2.2.1.1.2.2.2.2.2.1
          have rd3 := h3.2.2.1.1.2.2.2.2.1
          refine pm_aload_n dX6_die_54 rfl ?_
          refine pm_g_Proc_box (by (try simp only [pm_k_si, pm_k_sj, pm_k_sp, pm_k_sx, pm_k_sz, pm_k_sr, pm_k_sy]); assumption) pm_f_X6_114 (by (try simp only [pm_p_si, pm_p_sj, pm_p_sx, pm_p_sz, pm_p_sr, pm_p_sy]); assumption) dX6_die_55 ?_
          refine pm_vv (c_X0_clear G l bs (Y.1 (pq p 4)) _ (h3.2.2.2.1 p hp).2.2.1.1) pm_y_X0_clear pm_v_X0_clear pm_m_X6_405 (c := 0) (r := (RX0, TX0, 3)) rfl rfl (h3.2.2.2.1 p hp).2.2.1.1 dX6_die_58 rfl rfl (by decide) (Nat.le_of_ble_eq_true rfl) (fun S58 h58 => ?_)
          have h5 : pm_CR (zs_b (zs_b (zs_e (zs_e (zs_t (zs_b Z 1 p 2) 1 p 0 w) 2 a none) 0 p none) 9 p 0) 10 p 0) S58 Y E := by rw [h58]; exact (h3.pop9 (p := p) (v := 0) hn hp (Nat.zero_le _)).b (p := p) (f := 2) (i := 10) (c := 4) (v := 0) hn hp rfl
          have kM5 := h5.2.2.1.1.1
          have kP5 := (h5.2.2.2.1 p hp).1.1
          have r45 := (h5.2.2.2.1 p hp).1.2.2.2.1
          have r65 := (h5.2.2.2.1 p hp).1.2.2.2.2.1
          have pid5 := (h5.2.2.2.1 p hp).1.2.2.2.2.2
          have rw5 := h5.2.2.1.1.2.2.2.2.2.1
          have rd5 := h5.2.2.1.1.2.2.2.2.1
          refine pm_aload_n dX6_die_61 rfl ?_
          refine pm_g_Proc_trail (by (try simp only [pm_k_si, pm_k_sj, pm_k_sp, pm_k_sx, pm_k_sz, pm_k_sr, pm_k_sy]); assumption) pm_f_X6_250 (by (try simp only [pm_p_si, pm_p_sj, pm_p_sx, pm_p_sz, pm_p_sr, pm_p_sy]); assumption) dX6_die_62 ?_
          refine pm_vv (c_X4_clear G l bs (Y.1 (pq p 6)) _ (h5.2.2.2.1 p hp).2.2.2.1) pm_y_X4_clear pm_v_X4_clear pm_m_X6_408 (c := 4) (r := (RX4, TX4, 5)) rfl rfl (h5.2.2.2.1 p hp).2.2.2.1 dX6_die_65 rfl rfl (by decide) (Nat.le_of_ble_eq_true rfl) (fun S65 h65 => ?_)
          have h6 : pm_CR (zs_b (zs_b (zs_b (zs_b (zs_e (zs_e (zs_t (zs_b Z 1 p 2) 1 p 0 w) 2 a none) 0 p none) 9 p 0) 10 p 0) 7 p 0) 8 p 0) S65 Y E := by rw [h65]; exact (h5.pop7 (p := p) (v := 0) hn hp (Nat.zero_le _)).pop8 (p := p) (v := 0) hn hp (Nat.zero_le _)
          have kM6 := h6.2.2.1.1.1
          have kP6 := (h6.2.2.2.1 p hp).1.1
          have r46 := (h6.2.2.2.1 p hp).1.2.2.2.1
          have r66 := (h6.2.2.2.1 p hp).1.2.2.2.2.1
          have pid6 := (h6.2.2.2.1 p hp).1.2.2.2.2.2
          have rw6 := h6.2.2.1.1.2.2.2.2.2.1
          have rd6 := h6.2.2.1.1.2.2.2.2.1
          refine pm_aload_n dX6_die_68 rfl ?_
          refine pm_g_Mill_watches (by (try simp only [pm_k_si, pm_k_sj, pm_k_sp, pm_k_sx, pm_k_sz, pm_k_sr, pm_k_sy]); assumption) pm_f_X6_28 (by (try simp only [pm_p_si, pm_p_sj, pm_p_sx, pm_p_sz, pm_p_sr, pm_p_sy]); assumption) dX6_die_69 ?_
          refine pm_aload_n dX6_die_72 rfl ?_
          refine pm_g_Proc_pid (by (try simp only [pm_k_si, pm_k_sj, pm_k_sp, pm_k_sx, pm_k_sz, pm_k_sr, pm_k_sy]); assumption) pm_f_X6_88 dX6_die_73 ?_
          rw [pid6]
          refine pm_vv (c_X5_dropMadeBy G l bs (Y.1 5) (Y.1 6) (Y.1 7) (Y.1 8) (nI (p + 1)) ((az_w Z).map (fun t => (nI t.1, nI (t.2.1 + 1), nI (t.2.2 + 1)))) _ h6.2.2.1.2.2.2.2.2.1 (h6.2.2.2.2.2.2.2.2.2.2.1.1.trans (by rw [List.length_map]; rfl)) (by rw [List.length_map]; exact hI.2.2.2.2.2.2.2.2.1.1) h6.2.2.2.2.2.2.2.2.2.2.1.2) pm_y_X5_dropMadeBy pm_v_X5_dropMadeBy pm_m_X6_409 (c := 5) (r := (RX5, TX5, 5)) rfl rfl h6.2.2.1.2.2.2.2.2.1.1 dX6_die_76 rfl rfl (by decide) (Nat.le_of_ble_eq_true rfl) (fun S76 h76 => ?_)
          rw [wfil_map1 (by omega) (fun t ht => by have := hI.wn t ht; omega)] at h76
          have h7 := h6.wt (V := (az_w Z).filter (fun t => decide (t.2.1 ≠ p))) hn h76.1 (by rw [h76.2.1, List.length_map]) h76.2.2
          have kM7 := h7.2.2.1.1.1
          have kP7 := (h7.2.2.2.1 p hp).1.1
          have r47 := (h7.2.2.2.1 p hp).1.2.2.2.1
          have r67 := (h7.2.2.2.1 p hp).1.2.2.2.2.1
          have pid7 := (h7.2.2.2.1 p hp).1.2.2.2.2.2
          have rw7 := h7.2.2.1.1.2.2.2.2.2.1
          have rd7 := h7.2.2.1.1.2.2.2.2.1
          have a17 : pm_i S76 309 (Y.1 0) = nI (az_a Z 1) := h7.2.2.2.2.2.1 309 0 1 rfl
          have k47 := h7.2.2.1.2.2.2.2.1
          refine pm_aload_n dX6_die_79 rfl ?_
          refine pm_g_Mill_dying (by (try simp only [pm_k_si, pm_k_sj, pm_k_sp, pm_k_sx, pm_k_sz, pm_k_sr, pm_k_sy]); assumption) pm_f_X6_22 (by (try simp only [pm_p_si, pm_p_sj, pm_p_sx, pm_p_sz, pm_p_sr, pm_p_sy]); assumption) dX6_die_80 ?_
          refine pm_aload_n dX6_die_83 rfl ?_
          refine pm_g_Mill_deaths (by (try simp only [pm_k_si, pm_k_sj, pm_k_sp, pm_k_sx, pm_k_sz, pm_k_sr, pm_k_sy]); assumption) pm_f_X6_53 dX6_die_84 ?_
          refine pm_aload_n dX6_die_87 rfl ?_
          refine pm_aastoreP (n := az_a Z 1) k47.1 a17 (by rw [k47.2]; omega) (by rw [k47.2]; omega) kP7 dX6_die_88 ?_
          have h8 := h7.dy (k := az_a Z 1) (p := p)
          have kM8 := h8.2.2.1.1.1
          refine pm_aload_n dX6_die_89 rfl ?_
          refine pm_dup dX6_die_90 ?_
          refine pm_g_Mill_deaths (by (try simp only [pm_k_si, pm_k_sj, pm_k_sp, pm_k_sx, pm_k_sz, pm_k_sr, pm_k_sy]); assumption) pm_f_X6_53 dX6_die_91 ?_
          refine pm_iconst (v := 1) dX6_die_94 (by decide) ?_
          refine pm_iadd dX6_die_95 ?_
          rw [show pm_i (pm_sz S76 (Y.1 4) (az_a Z 1) (some (Y.1 (pq p 0)))) 309 (Y.1 0) = nI (az_a Z 1) from a17, nI_1]
          refine pm_p_Mill_deaths (by (try simp only [pm_k_si, pm_k_sj, pm_k_sp, pm_k_sx, pm_k_sz, pm_k_sr, pm_k_sy]); assumption) pm_f_X6_53 dX6_die_96 ?_
          subst hQ9
          refine pm_vret dX6_die_99 ?_
          have h9 := h8.a (f := 309) (i := 1) (c := 0) (v := az_a Z 1 + 1) rfl (by decide) (h1 := fun _ k hk => by
            rw [pm_z_sz]
            by_cases e : k = az_a Z 1
            · rw [if_pos ⟨rfl, e⟩, z_c_c, if_pos ⟨rfl, rfl, e⟩]
            · rw [if_neg (fun z => e z.2)]
              have := h8.2.2.2.2.2.2.2.2.2.2.2.1.2 k (show k < az_a Z 1 by omega)
              rw [pm_z_sz, if_neg (fun z => e z.2)] at this
              exact this)
          refine hx.lift (h9.cg ?_) (zDies_12 Z p w).2 (fun q => by rw [(zDies_12 Z p w).1])
          unfold zDies
          rw [hnm]
          rfl
    · exact absurd ((pm_lt16 (m := 60) (by omega) (by decide)).mpr hdl) h14

